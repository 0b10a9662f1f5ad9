/-! the law's cases (written by wip/whole/mk99e.py) -/
theorem lg_self (z : Int64) : lg_cmp z z = 0 := by
  unfold lg_cmp
  simp
theorem kp17t : (KK[17]? = some (.inl 6)) = True := eq_true rfl
theorem kp114t : (KK[114]? = some (.inl 7)) = True := eq_true rfl
section LW
variable {d : Nat} {f : Nat → Nat → Int32} {g : Nat → Nat → Int64} {h1 h2 : Nat} {LL : Nat} {xs : Nat → Int32}
/-- what a round of the loop reads -/
theorem scr_i {i k : Nat} {c : Int32} (hc : c = nI k) (h : i + k < LL) (hL : LL ≤ 3584) : nI i + c = nI (i + k) ∧ inb (nI (i + k)) LL = true ∧ (nI (i + k)).toNatClampNeg = i + k := by
  rw [hc, nI_add]
  exact ⟨rfl, inb_nI h (by omega), cl_nI (by omega)⟩
theorem lc_sledge {i : Nat} (hi : i + 7 ≤ LL) (hL : LL ≤ 3584) (X : XS f g h1 h2) : ∃ f' g' a' b', XS f' g' a' b' ∧ ∀ R, Rn (some (LL, xs)) (d + 30) 211 192 [.ref (0 : Nat), .ref (17 : Nat), .ref (114 : Nat), .int (nI i)] [] (cS f g h1 h2) R ↔ Rn (some (LL, xs)) (d + 30) 211 1335 [.ref (0 : Nat), .ref (17 : Nat), .ref (114 : Nat), .int (nI i)] [] (cS f' g' a' b') R := by
  obtain ⟨n, hr, wn, dk, sd, gb, pc, bc, W, D, hc, HS, X⟩ := X
  obtain ⟨f1, g1, a1, b1, f2, g2, a2, b2, v, kc, km, Y⟩ := @op_sledge (some (LL, xs)) d f g h1 h2 n hr wn dk sd gb pc bc W D hc HS X (xs (i + 1)) (xs (i + 2)) (xs (i + 3)) (xs (i + 4)) (xs (i + 5)) (xs (i + 6))
  have kc := Cl_iff kc
  have km := Cl_iff km
  obtain ⟨s1, t1, u1⟩ := @scr_i LL i 1 1 rfl (by omega) hL
  obtain ⟨s2, t2, u2⟩ := @scr_i LL i 2 2 rfl (by omega) hL
  obtain ⟨s3, t3, u3⟩ := @scr_i LL i 3 3 rfl (by omega) hL
  obtain ⟨s4, t4, u4⟩ := @scr_i LL i 4 4 rfl (by omega) hL
  obtain ⟨s5, t5, u5⟩ := @scr_i LL i 5 5 rfl (by omega) hL
  obtain ⟨s6, t6, u6⟩ := @scr_i LL i 6 6 rfl (by omega) hL
  refine ⟨f2, g2, a2, b2, Y, fun R => ?_⟩
  simp only [x211_192, x211_193, x211_194, x211_195, x211_196, x211_197, x211_198, x211_199, x211_200, x211_201, x211_202, x211_203, x211_204, x211_205, x211_206, x211_207, x211_208, x211_209, x211_210, x211_211, x211_212, x211_213, x211_214, x211_215, x211_216, x211_217, x211_218, x211_219, x211_220, x211_222, x211_223, x211_224, x211_227, x211_228, x211_229, x211_230, x211_231, x211_232, x211_233, x211_234, x211_235, x211_236, x211_237, x211_238, x211_239, x211_240, x211_241, x211_242, x211_243, x211_244, x211_245, x211_246, x211_247, x211_248, x211_249, x211_250, x211_251, x211_252, x211_253, x211_254, x211_255, x211_257, x211_258, x211_259, x211_262, kp17t, kp114t, s1, t1, u1, s2, t2, u2, s3, t3, u3, s4, t4, u4, s5, t5, u5, s6, t6, u6, kc, km, bI_True, bI_False, nI_1, Nat.reduceLeDiff, Nat.reduceEqDiff, nb0, nb1, nbI, eq_self, ex_pr, tl_s, tl_n, if_true, if_false, not_true_eq_false, not_false_eq_true, and_self, and_false, false_and, and_true, true_and]
theorem lc_of {i : Nat} (hi : i + 7 ≤ LL) (hL : LL ≤ 3584) (X : XS f g h1 h2) : ∃ f' g' a' b', XS f' g' a' b' ∧ ∀ R, Rn (some (LL, xs)) (d + 30) 211 267 [.ref (0 : Nat), .ref (17 : Nat), .ref (114 : Nat), .int (nI i)] [] (cS f g h1 h2) R ↔ Rn (some (LL, xs)) (d + 30) 211 1335 [.ref (0 : Nat), .ref (17 : Nat), .ref (114 : Nat), .int (nI i)] [] (cS f' g' a' b') R := by
  obtain ⟨n, hr, wn, dk, sd, gb, pc, bc, W, D, hc, HS, X⟩ := X
  obtain ⟨f1, g1, a1, b1, f2, g2, a2, b2, v, kc, km, Y⟩ := @op_of (some (LL, xs)) d f g h1 h2 n hr wn dk sd gb pc bc W D hc HS X (xs (i + 1)) (xs (i + 2))
  have kc := Cl_iff kc
  have km := Cl_iff km
  obtain ⟨s1, t1, u1⟩ := @scr_i LL i 1 1 rfl (by omega) hL
  obtain ⟨s2, t2, u2⟩ := @scr_i LL i 2 2 rfl (by omega) hL
  refine ⟨f2, g2, a2, b2, Y, fun R => ?_⟩
  simp only [x211_267, x211_268, x211_269, x211_270, x211_271, x211_272, x211_273, x211_274, x211_275, x211_276, x211_277, x211_278, x211_281, x211_282, x211_283, x211_284, x211_285, x211_286, x211_287, x211_288, x211_289, x211_290, x211_291, x211_292, x211_295, kp17t, kp114t, s1, t1, u1, s2, t2, u2, kc, km, bI_True, bI_False, nI_1, Nat.reduceLeDiff, Nat.reduceEqDiff, nb0, nb1, nbI, eq_self, ex_pr, tl_s, tl_n, if_true, if_false, not_true_eq_false, not_false_eq_true, and_self, and_false, false_and, and_true, true_and]
theorem lc_set {i : Nat} (hi : i + 7 ≤ LL) (hL : LL ≤ 3584) (X : XS f g h1 h2) : ∃ f' g' a' b', XS f' g' a' b' ∧ ∀ R, Rn (some (LL, xs)) (d + 30) 211 300 [.ref (0 : Nat), .ref (17 : Nat), .ref (114 : Nat), .int (nI i)] [] (cS f g h1 h2) R ↔ Rn (some (LL, xs)) (d + 30) 211 1335 [.ref (0 : Nat), .ref (17 : Nat), .ref (114 : Nat), .int (nI i)] [] (cS f' g' a' b') R := by
  obtain ⟨n, hr, wn, dk, sd, gb, pc, bc, W, D, hc, HS, X⟩ := X
  obtain ⟨f1, g1, a1, b1, f2, g2, a2, b2, v, kc, km, Y⟩ := @op_set (some (LL, xs)) d f g h1 h2 n hr wn dk sd gb pc bc W D hc HS X (xs (i + 1)) (xs (i + 2)) (xs (i + 3))
  have kc := Cl_iff kc
  have km := Cl_iff km
  obtain ⟨s1, t1, u1⟩ := @scr_i LL i 1 1 rfl (by omega) hL
  obtain ⟨s2, t2, u2⟩ := @scr_i LL i 2 2 rfl (by omega) hL
  obtain ⟨s3, t3, u3⟩ := @scr_i LL i 3 3 rfl (by omega) hL
  refine ⟨f2, g2, a2, b2, Y, fun R => ?_⟩
  simp only [x211_300, x211_301, x211_302, x211_303, x211_304, x211_305, x211_306, x211_307, x211_308, x211_309, x211_310, x211_311, x211_312, x211_313, x211_314, x211_315, x211_316, x211_319, x211_320, x211_321, x211_322, x211_323, x211_324, x211_325, x211_326, x211_327, x211_328, x211_329, x211_330, x211_331, x211_332, x211_333, x211_334, x211_335, x211_338, kp17t, kp114t, s1, t1, u1, s2, t2, u2, s3, t3, u3, kc, km, bI_True, bI_False, nI_1, Nat.reduceLeDiff, Nat.reduceEqDiff, nb0, nb1, nbI, eq_self, ex_pr, tl_s, tl_n, if_true, if_false, not_true_eq_false, not_false_eq_true, and_self, and_false, false_and, and_true, true_and]
theorem lc_row {i : Nat} (hi : i + 7 ≤ LL) (hL : LL ≤ 3584) (X : XS f g h1 h2) : ∃ f' g' a' b', XS f' g' a' b' ∧ ∀ R, Rn (some (LL, xs)) (d + 30) 211 343 [.ref (0 : Nat), .ref (17 : Nat), .ref (114 : Nat), .int (nI i)] [] (cS f g h1 h2) R ↔ Rn (some (LL, xs)) (d + 30) 211 1335 [.ref (0 : Nat), .ref (17 : Nat), .ref (114 : Nat), .int (nI i)] [] (cS f' g' a' b') R := by
  obtain ⟨n, hr, wn, dk, sd, gb, pc, bc, W, D, hc, HS, X⟩ := X
  obtain ⟨f1, g1, a1, b1, f2, g2, a2, b2, v, kc, km, Y⟩ := @op_row (some (LL, xs)) d f g h1 h2 n hr wn dk sd gb pc bc W D hc HS X (xs (i + 1)) (xs (i + 2)) (xs (i + 3))
  have kc := Cl_iff kc
  have km := Cl_iff km
  obtain ⟨s1, t1, u1⟩ := @scr_i LL i 1 1 rfl (by omega) hL
  obtain ⟨s2, t2, u2⟩ := @scr_i LL i 2 2 rfl (by omega) hL
  obtain ⟨s3, t3, u3⟩ := @scr_i LL i 3 3 rfl (by omega) hL
  refine ⟨f2, g2, a2, b2, Y, fun R => ?_⟩
  simp only [x211_343, x211_344, x211_345, x211_346, x211_347, x211_348, x211_349, x211_350, x211_351, x211_352, x211_353, x211_354, x211_355, x211_356, x211_357, x211_358, x211_359, x211_362, x211_363, x211_364, x211_365, x211_366, x211_367, x211_368, x211_369, x211_370, x211_371, x211_372, x211_373, x211_374, x211_375, x211_376, x211_377, x211_378, x211_381, kp17t, kp114t, s1, t1, u1, s2, t2, u2, s3, t3, u3, kc, km, bI_True, bI_False, nI_1, Nat.reduceLeDiff, Nat.reduceEqDiff, nb0, nb1, nbI, eq_self, ex_pr, tl_s, tl_n, if_true, if_false, not_true_eq_false, not_false_eq_true, and_self, and_false, false_and, and_true, true_and]
theorem lc_feed {i : Nat} (hi : i + 7 ≤ LL) (hL : LL ≤ 3584) (X : XS f g h1 h2) : ∃ f' g' a' b', XS f' g' a' b' ∧ ∀ R, Rn (some (LL, xs)) (d + 30) 211 386 [.ref (0 : Nat), .ref (17 : Nat), .ref (114 : Nat), .int (nI i)] [] (cS f g h1 h2) R ↔ Rn (some (LL, xs)) (d + 30) 211 1335 [.ref (0 : Nat), .ref (17 : Nat), .ref (114 : Nat), .int (nI i)] [] (cS f' g' a' b') R := by
  obtain ⟨n, hr, wn, dk, sd, gb, pc, bc, W, D, hc, HS, X⟩ := X
  obtain ⟨f1, g1, a1, b1, f2, g2, a2, b2, v, kc, km, Y⟩ := @op_feed (some (LL, xs)) d f g h1 h2 n hr wn dk sd gb pc bc W D hc HS X (xs (i + 1))
  have kc := Cl_iff kc
  have km := Cl_iff km
  obtain ⟨s1, t1, u1⟩ := @scr_i LL i 1 1 rfl (by omega) hL
  refine ⟨f2, g2, a2, b2, Y, fun R => ?_⟩
  simp only [x211_386, x211_387, x211_388, x211_389, x211_390, x211_391, x211_392, x211_395, x211_396, x211_397, x211_398, x211_399, x211_400, x211_401, x211_404, kp17t, kp114t, s1, t1, u1, kc, km, bI_True, bI_False, nI_1, Nat.reduceLeDiff, Nat.reduceEqDiff, nb0, nb1, nbI, eq_self, ex_pr, tl_s, tl_n, if_true, if_false, not_true_eq_false, not_false_eq_true, and_self, and_false, false_and, and_true, true_and]
theorem lc_hill {i : Nat} (hi : i + 7 ≤ LL) (hL : LL ≤ 3584) (X : XS f g h1 h2) : ∃ f' g' a' b', XS f' g' a' b' ∧ ∀ R, Rn (some (LL, xs)) (d + 30) 211 409 [.ref (0 : Nat), .ref (17 : Nat), .ref (114 : Nat), .int (nI i)] [] (cS f g h1 h2) R ↔ Rn (some (LL, xs)) (d + 30) 211 1335 [.ref (0 : Nat), .ref (17 : Nat), .ref (114 : Nat), .int (nI i)] [] (cS f' g' a' b') R := by
  obtain ⟨n, hr, wn, dk, sd, gb, pc, bc, W, D, hc, HS, X⟩ := X
  obtain ⟨f1, g1, a1, b1, f2, g2, a2, b2, v, kc, km, Y⟩ := @op_hill (some (LL, xs)) d f g h1 h2 n hr wn dk sd gb pc bc W D hc HS X 
  have kc := Cl_iff kc
  have km := Cl_iff km
  refine ⟨f2, g2, a2, b2, Y, fun R => ?_⟩
  simp only [x211_409, x211_410, x211_413, x211_414, x211_417, kp17t, kp114t, kc, km, bI_True, bI_False, nI_1, Nat.reduceLeDiff, Nat.reduceEqDiff, nb0, nb1, nbI, eq_self, ex_pr, tl_s, tl_n, if_true, if_false, not_true_eq_false, not_false_eq_true, and_self, and_false, false_and, and_true, true_and]
theorem lc_told {i : Nat} (hi : i + 7 ≤ LL) (hL : LL ≤ 3584) (X : XS f g h1 h2) : ∃ f' g' a' b', XS f' g' a' b' ∧ ∀ R, Rn (some (LL, xs)) (d + 30) 211 422 [.ref (0 : Nat), .ref (17 : Nat), .ref (114 : Nat), .int (nI i)] [] (cS f g h1 h2) R ↔ Rn (some (LL, xs)) (d + 30) 211 1335 [.ref (0 : Nat), .ref (17 : Nat), .ref (114 : Nat), .int (nI i)] [] (cS f' g' a' b') R := by
  obtain ⟨n, hr, wn, dk, sd, gb, pc, bc, W, D, hc, HS, X⟩ := X
  obtain ⟨f1, g1, a1, b1, f2, g2, a2, b2, v, kc, km, Y⟩ := @op_told (some (LL, xs)) d f g h1 h2 n hr wn dk sd gb pc bc W D hc HS X (xs (i + 1))
  have kc := Cl_iff kc
  have km := Cl_iff km
  obtain ⟨s1, t1, u1⟩ := @scr_i LL i 1 1 rfl (by omega) hL
  refine ⟨f2, g2, a2, b2, Y, fun R => ?_⟩
  simp only [x211_422, x211_423, x211_424, x211_425, x211_426, x211_427, x211_428, x211_431, x211_432, x211_433, x211_434, x211_435, x211_436, x211_437, x211_440, kp17t, kp114t, s1, t1, u1, kc, km, bI_True, bI_False, nI_1, Nat.reduceLeDiff, Nat.reduceEqDiff, nb0, nb1, nbI, eq_self, ex_pr, tl_s, tl_n, if_true, if_false, not_true_eq_false, not_false_eq_true, and_self, and_false, false_and, and_true, true_and]
theorem lc_run {i : Nat} (hi : i + 7 ≤ LL) (hL : LL ≤ 3584) (X : XS f g h1 h2) : ∃ f' g' a' b', XS f' g' a' b' ∧ ∀ R, Rn (some (LL, xs)) (d + 30) 211 445 [.ref (0 : Nat), .ref (17 : Nat), .ref (114 : Nat), .int (nI i)] [] (cS f g h1 h2) R ↔ Rn (some (LL, xs)) (d + 30) 211 1335 [.ref (0 : Nat), .ref (17 : Nat), .ref (114 : Nat), .int (nI i)] [] (cS f' g' a' b') R := by
  obtain ⟨n, hr, wn, dk, sd, gb, pc, bc, W, D, hc, HS, X⟩ := X
  obtain ⟨f1, g1, a1, b1, f2, g2, a2, b2, v, kc, km, Y⟩ := @op_run (some (LL, xs)) d f g h1 h2 n hr wn dk sd gb pc bc W D hc HS X (xs (i + 1)) (xs (i + 2))
  have kc := Cl_iff kc
  have km := Cl_iff km
  obtain ⟨s1, t1, u1⟩ := @scr_i LL i 1 1 rfl (by omega) hL
  obtain ⟨s2, t2, u2⟩ := @scr_i LL i 2 2 rfl (by omega) hL
  refine ⟨f2, g2, a2, b2, Y, fun R => ?_⟩
  simp only [x211_445, x211_446, x211_447, x211_448, x211_449, x211_450, x211_451, x211_452, x211_453, x211_454, x211_455, x211_456, x211_459, x211_460, x211_461, x211_462, x211_463, x211_464, x211_465, x211_466, x211_467, x211_468, x211_469, x211_470, x211_473, kp17t, kp114t, s1, t1, u1, s2, t2, u2, kc, km, bI_True, bI_False, nI_1, Nat.reduceLeDiff, Nat.reduceEqDiff, nb0, nb1, nbI, eq_self, ex_pr, tl_s, tl_n, if_true, if_false, not_true_eq_false, not_false_eq_true, and_self, and_false, false_and, and_true, true_and]
theorem lc_hour {i : Nat} (hi : i + 7 ≤ LL) (hL : LL ≤ 3584) (X : XS f g h1 h2) : ∃ f' g' a' b', XS f' g' a' b' ∧ ∀ R, Rn (some (LL, xs)) (d + 30) 211 478 [.ref (0 : Nat), .ref (17 : Nat), .ref (114 : Nat), .int (nI i)] [] (cS f g h1 h2) R ↔ Rn (some (LL, xs)) (d + 30) 211 1335 [.ref (0 : Nat), .ref (17 : Nat), .ref (114 : Nat), .int (nI i)] [] (cS f' g' a' b') R := by
  obtain ⟨n, hr, wn, dk, sd, gb, pc, bc, W, D, hc, HS, X⟩ := X
  obtain ⟨f1, g1, a1, b1, f2, g2, a2, b2, v, kc, km, Y⟩ := @op_hour (some (LL, xs)) d f g h1 h2 n hr wn dk sd gb pc bc W D hc HS X 
  have kc := Cl_iff kc
  have km := Cl_iff km
  refine ⟨f2, g2, a2, b2, Y, fun R => ?_⟩
  simp only [x211_478, x211_479, x211_482, x211_483, x211_486, kp17t, kp114t, kc, km, bI_True, bI_False, nI_1, Nat.reduceLeDiff, Nat.reduceEqDiff, nb0, nb1, nbI, eq_self, ex_pr, tl_s, tl_n, if_true, if_false, not_true_eq_false, not_false_eq_true, and_self, and_false, false_and, and_true, true_and]
theorem lc_with {i : Nat} (hi : i + 7 ≤ LL) (hL : LL ≤ 3584) (X : XS f g h1 h2) : ∃ f' g' a' b', XS f' g' a' b' ∧ ∀ R, Rn (some (LL, xs)) (d + 30) 211 491 [.ref (0 : Nat), .ref (17 : Nat), .ref (114 : Nat), .int (nI i)] [] (cS f g h1 h2) R ↔ Rn (some (LL, xs)) (d + 30) 211 1335 [.ref (0 : Nat), .ref (17 : Nat), .ref (114 : Nat), .int (nI i)] [] (cS f' g' a' b') R := by
  obtain ⟨n, hr, wn, dk, sd, gb, pc, bc, W, D, hc, HS, X⟩ := X
  obtain ⟨f1, g1, a1, b1, f2, g2, a2, b2, v, kc, km, Y⟩ := @op_with (some (LL, xs)) d f g h1 h2 n hr wn dk sd gb pc bc W D hc HS X (xs (i + 1))
  have kc := Cl_iff kc
  have km := Cl_iff km
  obtain ⟨s1, t1, u1⟩ := @scr_i LL i 1 1 rfl (by omega) hL
  refine ⟨f2, g2, a2, b2, Y, fun R => ?_⟩
  simp only [x211_491, x211_492, x211_493, x211_494, x211_495, x211_496, x211_497, x211_500, x211_501, x211_502, x211_503, x211_504, x211_505, x211_506, x211_509, kp17t, kp114t, s1, t1, u1, kc, km, bI_True, bI_False, nI_1, Nat.reduceLeDiff, Nat.reduceEqDiff, nb0, nb1, nbI, eq_self, ex_pr, tl_s, tl_n, if_true, if_false, not_true_eq_false, not_false_eq_true, and_self, and_false, false_and, and_true, true_and]
theorem lc_ballast {i : Nat} (hi : i + 7 ≤ LL) (hL : LL ≤ 3584) (X : XS f g h1 h2) : ∃ f' g' a' b', XS f' g' a' b' ∧ ∀ R, Rn (some (LL, xs)) (d + 30) 211 514 [.ref (0 : Nat), .ref (17 : Nat), .ref (114 : Nat), .int (nI i)] [] (cS f g h1 h2) R ↔ Rn (some (LL, xs)) (d + 30) 211 1335 [.ref (0 : Nat), .ref (17 : Nat), .ref (114 : Nat), .int (nI i)] [] (cS f' g' a' b') R := by
  obtain ⟨n, hr, wn, dk, sd, gb, pc, bc, W, D, hc, HS, X⟩ := X
  obtain ⟨f1, g1, a1, b1, f2, g2, a2, b2, v, kc, km, Y⟩ := @op_ballast (some (LL, xs)) d f g h1 h2 n hr wn dk sd gb pc bc W D hc HS X (xs (i + 1)) (xs (i + 2)) (xs (i + 3))
  have kc := Cl_iff kc
  have km := Cl_iff km
  obtain ⟨s1, t1, u1⟩ := @scr_i LL i 1 1 rfl (by omega) hL
  obtain ⟨s2, t2, u2⟩ := @scr_i LL i 2 2 rfl (by omega) hL
  obtain ⟨s3, t3, u3⟩ := @scr_i LL i 3 3 rfl (by omega) hL
  refine ⟨f2, g2, a2, b2, Y, fun R => ?_⟩
  simp only [x211_514, x211_515, x211_516, x211_517, x211_518, x211_519, x211_520, x211_521, x211_522, x211_523, x211_524, x211_525, x211_526, x211_527, x211_528, x211_529, x211_530, x211_533, x211_534, x211_535, x211_536, x211_537, x211_538, x211_539, x211_540, x211_541, x211_542, x211_543, x211_544, x211_545, x211_546, x211_547, x211_548, x211_549, x211_552, kp17t, kp114t, s1, t1, u1, s2, t2, u2, s3, t3, u3, kc, km, bI_True, bI_False, nI_1, Nat.reduceLeDiff, Nat.reduceEqDiff, nb0, nb1, nbI, eq_self, ex_pr, tl_s, tl_n, if_true, if_false, not_true_eq_false, not_false_eq_true, and_self, and_false, false_and, and_true, true_and]
theorem lc_best {i : Nat} (hi : i + 7 ≤ LL) (hL : LL ≤ 3584) (X : XS f g h1 h2) : ∃ f' g' a' b', XS f' g' a' b' ∧ ∀ R, Rn (some (LL, xs)) (d + 30) 211 557 [.ref (0 : Nat), .ref (17 : Nat), .ref (114 : Nat), .int (nI i)] [] (cS f g h1 h2) R ↔ Rn (some (LL, xs)) (d + 30) 211 1335 [.ref (0 : Nat), .ref (17 : Nat), .ref (114 : Nat), .int (nI i)] [] (cS f' g' a' b') R := by
  obtain ⟨n, hr, wn, dk, sd, gb, pc, bc, W, D, hc, HS, X⟩ := X
  obtain ⟨f1, g1, a1, b1, f2, g2, a2, b2, v, kc, km, Y⟩ := @op_best (some (LL, xs)) d f g h1 h2 n hr wn dk sd gb pc bc W D hc HS X (xs (i + 1)) (xs (i + 2))
  have kc := Cl_iff kc
  have km := Cl_iff km
  obtain ⟨s1, t1, u1⟩ := @scr_i LL i 1 1 rfl (by omega) hL
  obtain ⟨s2, t2, u2⟩ := @scr_i LL i 2 2 rfl (by omega) hL
  refine ⟨f2, g2, a2, b2, Y, fun R => ?_⟩
  simp only [x211_557, x211_558, x211_559, x211_560, x211_561, x211_562, x211_563, x211_564, x211_565, x211_566, x211_567, x211_568, x211_571, x211_572, x211_573, x211_574, x211_575, x211_576, x211_577, x211_578, x211_579, x211_580, x211_581, x211_582, x211_585, kp17t, kp114t, s1, t1, u1, s2, t2, u2, kc, km, bI_True, bI_False, nI_1, Nat.reduceLeDiff, Nat.reduceEqDiff, nb0, nb1, nbI, eq_self, ex_pr, tl_s, tl_n, if_true, if_false, not_true_eq_false, not_false_eq_true, and_self, and_false, false_and, and_true, true_and]
theorem lc_never {i : Nat} (hi : i + 7 ≤ LL) (hL : LL ≤ 3584) (X : XS f g h1 h2) : ∃ f' g' a' b', XS f' g' a' b' ∧ ∀ R, Rn (some (LL, xs)) (d + 30) 211 590 [.ref (0 : Nat), .ref (17 : Nat), .ref (114 : Nat), .int (nI i)] [] (cS f g h1 h2) R ↔ Rn (some (LL, xs)) (d + 30) 211 1335 [.ref (0 : Nat), .ref (17 : Nat), .ref (114 : Nat), .int (nI i)] [] (cS f' g' a' b') R := by
  obtain ⟨n, hr, wn, dk, sd, gb, pc, bc, W, D, hc, HS, X⟩ := X
  obtain ⟨f1, g1, a1, b1, f2, g2, a2, b2, v, kc, km, Y⟩ := @op_never (some (LL, xs)) d f g h1 h2 n hr wn dk sd gb pc bc W D hc HS X 
  have kc := Cl_iff kc
  have km := Cl_iff km
  refine ⟨f2, g2, a2, b2, Y, fun R => ?_⟩
  simp only [x211_590, x211_591, x211_594, x211_595, x211_598, kp17t, kp114t, kc, km, bI_True, bI_False, nI_1, Nat.reduceLeDiff, Nat.reduceEqDiff, nb0, nb1, nbI, eq_self, ex_pr, tl_s, tl_n, if_true, if_false, not_true_eq_false, not_false_eq_true, and_self, and_false, false_and, and_true, true_and]
theorem lc_when {i : Nat} (hi : i + 7 ≤ LL) (hL : LL ≤ 3584) (X : XS f g h1 h2) : ∃ f' g' a' b', XS f' g' a' b' ∧ ∀ R, Rn (some (LL, xs)) (d + 30) 211 603 [.ref (0 : Nat), .ref (17 : Nat), .ref (114 : Nat), .int (nI i)] [] (cS f g h1 h2) R ↔ Rn (some (LL, xs)) (d + 30) 211 1335 [.ref (0 : Nat), .ref (17 : Nat), .ref (114 : Nat), .int (nI i)] [] (cS f' g' a' b') R := by
  obtain ⟨n, hr, wn, dk, sd, gb, pc, bc, W, D, hc, HS, X⟩ := X
  obtain ⟨f1, g1, a1, b1, f2, g2, a2, b2, v, kc, km, Y⟩ := @op_when (some (LL, xs)) d f g h1 h2 n hr wn dk sd gb pc bc W D hc HS X (xs (i + 1)) (xs (i + 2))
  have kc := Cl_iff kc
  have km := Cl_iff km
  obtain ⟨s1, t1, u1⟩ := @scr_i LL i 1 1 rfl (by omega) hL
  obtain ⟨s2, t2, u2⟩ := @scr_i LL i 2 2 rfl (by omega) hL
  refine ⟨f2, g2, a2, b2, Y, fun R => ?_⟩
  simp only [x211_603, x211_604, x211_605, x211_606, x211_607, x211_608, x211_609, x211_610, x211_611, x211_612, x211_613, x211_614, x211_617, x211_618, x211_619, x211_620, x211_621, x211_622, x211_623, x211_624, x211_625, x211_626, x211_627, x211_628, x211_631, kp17t, kp114t, s1, t1, u1, s2, t2, u2, kc, km, bI_True, bI_False, nI_1, Nat.reduceLeDiff, Nat.reduceEqDiff, nb0, nb1, nbI, eq_self, ex_pr, tl_s, tl_n, if_true, if_false, not_true_eq_false, not_false_eq_true, and_self, and_false, false_and, and_true, true_and]
theorem lc_can {i : Nat} (hi : i + 7 ≤ LL) (hL : LL ≤ 3584) (X : XS f g h1 h2) : ∃ f' g' a' b', XS f' g' a' b' ∧ ∀ R, Rn (some (LL, xs)) (d + 30) 211 636 [.ref (0 : Nat), .ref (17 : Nat), .ref (114 : Nat), .int (nI i)] [] (cS f g h1 h2) R ↔ Rn (some (LL, xs)) (d + 30) 211 1335 [.ref (0 : Nat), .ref (17 : Nat), .ref (114 : Nat), .int (nI i)] [] (cS f' g' a' b') R := by
  obtain ⟨n, hr, wn, dk, sd, gb, pc, bc, W, D, hc, HS, X⟩ := X
  obtain ⟨f1, g1, a1, b1, f2, g2, a2, b2, v, kc, km, Y⟩ := @op_can (some (LL, xs)) d f g h1 h2 n hr wn dk sd gb pc bc W D hc HS X (xs (i + 1)) (xs (i + 2))
  have kc := Cl_iff kc
  have km := Cl_iff km
  obtain ⟨s1, t1, u1⟩ := @scr_i LL i 1 1 rfl (by omega) hL
  obtain ⟨s2, t2, u2⟩ := @scr_i LL i 2 2 rfl (by omega) hL
  refine ⟨f2, g2, a2, b2, Y, fun R => ?_⟩
  simp only [x211_636, x211_637, x211_638, x211_639, x211_640, x211_641, x211_642, x211_643, x211_644, x211_645, x211_646, x211_647, x211_650, x211_651, x211_652, x211_653, x211_654, x211_655, x211_656, x211_657, x211_658, x211_659, x211_660, x211_661, x211_664, kp17t, kp114t, s1, t1, u1, s2, t2, u2, kc, km, bI_True, bI_False, nI_1, Nat.reduceLeDiff, Nat.reduceEqDiff, nb0, nb1, nbI, eq_self, ex_pr, tl_s, tl_n, if_true, if_false, not_true_eq_false, not_false_eq_true, and_self, and_false, false_and, and_true, true_and]
theorem lc_dusk {i : Nat} (hi : i + 7 ≤ LL) (hL : LL ≤ 3584) (X : XS f g h1 h2) : ∃ f' g' a' b', XS f' g' a' b' ∧ ∀ R, Rn (some (LL, xs)) (d + 30) 211 669 [.ref (0 : Nat), .ref (17 : Nat), .ref (114 : Nat), .int (nI i)] [] (cS f g h1 h2) R ↔ Rn (some (LL, xs)) (d + 30) 211 1335 [.ref (0 : Nat), .ref (17 : Nat), .ref (114 : Nat), .int (nI i)] [] (cS f' g' a' b') R := by
  obtain ⟨n, hr, wn, dk, sd, gb, pc, bc, W, D, hc, HS, X⟩ := X
  obtain ⟨f1, g1, a1, b1, f2, g2, a2, b2, v, kc, km, Y⟩ := @op_dusk (some (LL, xs)) d f g h1 h2 n hr wn dk sd gb pc bc W D hc HS X (xs (i + 1))
  have kc := Cl_iff kc
  have km := Cl_iff km
  obtain ⟨s1, t1, u1⟩ := @scr_i LL i 1 1 rfl (by omega) hL
  refine ⟨f2, g2, a2, b2, Y, fun R => ?_⟩
  simp only [x211_669, x211_670, x211_671, x211_672, x211_673, x211_674, x211_675, x211_678, x211_679, x211_680, x211_681, x211_682, x211_683, x211_684, x211_687, kp17t, kp114t, s1, t1, u1, kc, km, bI_True, bI_False, nI_1, Nat.reduceLeDiff, Nat.reduceEqDiff, nb0, nb1, nbI, eq_self, ex_pr, tl_s, tl_n, if_true, if_false, not_true_eq_false, not_false_eq_true, and_self, and_false, false_and, and_true, true_and]
theorem lc_runs {i : Nat} (hi : i + 7 ≤ LL) (hL : LL ≤ 3584) (X : XS f g h1 h2) : ∃ f' g' a' b', XS f' g' a' b' ∧ ∀ R, Rn (some (LL, xs)) (d + 30) 211 692 [.ref (0 : Nat), .ref (17 : Nat), .ref (114 : Nat), .int (nI i)] [] (cS f g h1 h2) R ↔ Rn (some (LL, xs)) (d + 30) 211 1335 [.ref (0 : Nat), .ref (17 : Nat), .ref (114 : Nat), .int (nI i)] [] (cS f' g' a' b') R := by
  obtain ⟨n, hr, wn, dk, sd, gb, pc, bc, W, D, hc, HS, X⟩ := X
  obtain ⟨f1, g1, a1, b1, f2, g2, a2, b2, v, kc, km, Y⟩ := @op_runs (some (LL, xs)) d f g h1 h2 n hr wn dk sd gb pc bc W D hc HS X (xs (i + 1)) (xs (i + 2))
  have kc := Cl_iff kc
  have km := Cl_iff km
  obtain ⟨s1, t1, u1⟩ := @scr_i LL i 1 1 rfl (by omega) hL
  obtain ⟨s2, t2, u2⟩ := @scr_i LL i 2 2 rfl (by omega) hL
  refine ⟨f2, g2, a2, b2, Y, fun R => ?_⟩
  simp only [x211_692, x211_693, x211_694, x211_695, x211_696, x211_697, x211_698, x211_699, x211_700, x211_701, x211_702, x211_703, x211_706, x211_707, x211_708, x211_709, x211_710, x211_711, x211_712, x211_713, x211_714, x211_715, x211_716, x211_717, x211_720, kp17t, kp114t, s1, t1, u1, s2, t2, u2, kc, km, bI_True, bI_False, nI_1, Nat.reduceLeDiff, Nat.reduceEqDiff, nb0, nb1, nbI, eq_self, ex_pr, tl_s, tl_n, if_true, if_false, not_true_eq_false, not_false_eq_true, and_self, and_false, false_and, and_true, true_and]
theorem lc_two {i : Nat} (hi : i + 7 ≤ LL) (hL : LL ≤ 3584) (X : XS f g h1 h2) : ∃ f' g' a' b', XS f' g' a' b' ∧ ∀ R, Rn (some (LL, xs)) (d + 30) 211 725 [.ref (0 : Nat), .ref (17 : Nat), .ref (114 : Nat), .int (nI i)] [] (cS f g h1 h2) R ↔ Rn (some (LL, xs)) (d + 30) 211 1335 [.ref (0 : Nat), .ref (17 : Nat), .ref (114 : Nat), .int (nI i)] [] (cS f' g' a' b') R := by
  obtain ⟨n, hr, wn, dk, sd, gb, pc, bc, W, D, hc, HS, X⟩ := X
  obtain ⟨f1, g1, a1, b1, f2, g2, a2, b2, v, kc, km, Y⟩ := @op_two (some (LL, xs)) d f g h1 h2 n hr wn dk sd gb pc bc W D hc HS X (xs (i + 1))
  have kc := Cl_iff kc
  have km := Cl_iff km
  obtain ⟨s1, t1, u1⟩ := @scr_i LL i 1 1 rfl (by omega) hL
  refine ⟨f2, g2, a2, b2, Y, fun R => ?_⟩
  simp only [x211_725, x211_726, x211_727, x211_728, x211_729, x211_730, x211_731, x211_734, x211_735, x211_736, x211_737, x211_738, x211_739, x211_740, x211_743, kp17t, kp114t, s1, t1, u1, kc, km, bI_True, bI_False, nI_1, Nat.reduceLeDiff, Nat.reduceEqDiff, nb0, nb1, nbI, eq_self, ex_pr, tl_s, tl_n, if_true, if_false, not_true_eq_false, not_false_eq_true, and_self, and_false, false_and, and_true, true_and]
theorem lc_price {i : Nat} (hi : i + 7 ≤ LL) (hL : LL ≤ 3584) (X : XS f g h1 h2) : ∃ f' g' a' b', XS f' g' a' b' ∧ ∀ R, Rn (some (LL, xs)) (d + 30) 211 748 [.ref (0 : Nat), .ref (17 : Nat), .ref (114 : Nat), .int (nI i)] [] (cS f g h1 h2) R ↔ Rn (some (LL, xs)) (d + 30) 211 1335 [.ref (0 : Nat), .ref (17 : Nat), .ref (114 : Nat), .int (nI i)] [] (cS f' g' a' b') R := by
  obtain ⟨n, hr, wn, dk, sd, gb, pc, bc, W, D, hc, HS, X⟩ := X
  obtain ⟨f1, g1, a1, b1, f2, g2, a2, b2, v, kc, km, Y⟩ := @op_price (some (LL, xs)) d f g h1 h2 n hr wn dk sd gb pc bc W D hc HS X (xs (i + 1))
  have kc := Cl_iff kc
  have km := Cl_iff km
  obtain ⟨s1, t1, u1⟩ := @scr_i LL i 1 1 rfl (by omega) hL
  refine ⟨f2, g2, a2, b2, Y, fun R => ?_⟩
  simp only [x211_748, x211_749, x211_750, x211_751, x211_752, x211_753, x211_754, x211_757, x211_758, x211_759, x211_760, x211_761, x211_762, x211_763, x211_766, kp17t, kp114t, s1, t1, u1, kc, km, bI_True, bI_False, nI_1, Nat.reduceLeDiff, Nat.reduceEqDiff, nb0, nb1, nbI, eq_self, ex_pr, tl_s, tl_n, if_true, if_false, not_true_eq_false, not_false_eq_true, and_self, and_false, false_and, and_true, true_and]
theorem lc_plan {i : Nat} (hi : i + 7 ≤ LL) (hL : LL ≤ 3584) (X : XS f g h1 h2) : ∃ f' g' a' b', XS f' g' a' b' ∧ ∀ R, Rn (some (LL, xs)) (d + 30) 211 771 [.ref (0 : Nat), .ref (17 : Nat), .ref (114 : Nat), .int (nI i)] [] (cS f g h1 h2) R ↔ Rn (some (LL, xs)) (d + 30) 211 1335 [.ref (0 : Nat), .ref (17 : Nat), .ref (114 : Nat), .int (nI i)] [] (cS f' g' a' b') R := by
  obtain ⟨n, hr, wn, dk, sd, gb, pc, bc, W, D, hc, HS, X⟩ := X
  obtain ⟨f1, g1, a1, b1, f2, g2, a2, b2, v, kc, km, Y⟩ := @op_plan (some (LL, xs)) d f g h1 h2 n hr wn dk sd gb pc bc W D hc HS X (xs (i + 1)) (xs (i + 2))
  have kc := Cl_iff kc
  have km := Cl_iff km
  obtain ⟨s1, t1, u1⟩ := @scr_i LL i 1 1 rfl (by omega) hL
  obtain ⟨s2, t2, u2⟩ := @scr_i LL i 2 2 rfl (by omega) hL
  refine ⟨f2, g2, a2, b2, Y, fun R => ?_⟩
  simp only [x211_771, x211_772, x211_773, x211_774, x211_775, x211_776, x211_777, x211_778, x211_779, x211_780, x211_781, x211_782, x211_785, x211_786, x211_787, x211_788, x211_789, x211_790, x211_791, x211_792, x211_793, x211_794, x211_795, x211_796, x211_799, kp17t, kp114t, s1, t1, u1, s2, t2, u2, kc, km, bI_True, bI_False, nI_1, Nat.reduceLeDiff, Nat.reduceEqDiff, nb0, nb1, nbI, eq_self, ex_pr, tl_s, tl_n, if_true, if_false, not_true_eq_false, not_false_eq_true, and_self, and_false, false_and, and_true, true_and]
theorem lc_wear {i : Nat} (hi : i + 7 ≤ LL) (hL : LL ≤ 3584) (X : XS f g h1 h2) : ∃ f' g' a' b', XS f' g' a' b' ∧ ∀ R, Rn (some (LL, xs)) (d + 30) 211 804 [.ref (0 : Nat), .ref (17 : Nat), .ref (114 : Nat), .int (nI i)] [] (cS f g h1 h2) R ↔ Rn (some (LL, xs)) (d + 30) 211 1335 [.ref (0 : Nat), .ref (17 : Nat), .ref (114 : Nat), .int (nI i)] [] (cS f' g' a' b') R := by
  obtain ⟨n, hr, wn, dk, sd, gb, pc, bc, W, D, hc, HS, X⟩ := X
  obtain ⟨f1, g1, a1, b1, f2, g2, a2, b2, v, kc, km, Y⟩ := @op_wear (some (LL, xs)) d f g h1 h2 n hr wn dk sd gb pc bc W D hc HS X (xs (i + 1))
  have kc := Cl_iff kc
  have km := Cl_iff km
  obtain ⟨s1, t1, u1⟩ := @scr_i LL i 1 1 rfl (by omega) hL
  refine ⟨f2, g2, a2, b2, Y, fun R => ?_⟩
  simp only [x211_804, x211_805, x211_806, x211_807, x211_808, x211_809, x211_810, x211_813, x211_814, x211_815, x211_816, x211_817, x211_818, x211_819, x211_822, kp17t, kp114t, s1, t1, u1, kc, km, bI_True, bI_False, nI_1, Nat.reduceLeDiff, Nat.reduceEqDiff, nb0, nb1, nbI, eq_self, ex_pr, tl_s, tl_n, if_true, if_false, not_true_eq_false, not_false_eq_true, and_self, and_false, false_and, and_true, true_and]
theorem lc_odds {i : Nat} (hi : i + 7 ≤ LL) (hL : LL ≤ 3584) (X : XS f g h1 h2) : ∃ f' g' a' b', XS f' g' a' b' ∧ ∀ R, Rn (some (LL, xs)) (d + 30) 211 827 [.ref (0 : Nat), .ref (17 : Nat), .ref (114 : Nat), .int (nI i)] [] (cS f g h1 h2) R ↔ Rn (some (LL, xs)) (d + 30) 211 1335 [.ref (0 : Nat), .ref (17 : Nat), .ref (114 : Nat), .int (nI i)] [] (cS f' g' a' b') R := by
  obtain ⟨n, hr, wn, dk, sd, gb, pc, bc, W, D, hc, HS, X⟩ := X
  obtain ⟨f1, g1, a1, b1, f2, g2, a2, b2, v, kc, km, Y⟩ := @op_odds (some (LL, xs)) d f g h1 h2 n hr wn dk sd gb pc bc W D hc HS X (xs (i + 1)) (xs (i + 2)) (xs (i + 3))
  have kc := Cl_iff kc
  have km := Cl_iff km
  obtain ⟨s1, t1, u1⟩ := @scr_i LL i 1 1 rfl (by omega) hL
  obtain ⟨s2, t2, u2⟩ := @scr_i LL i 2 2 rfl (by omega) hL
  obtain ⟨s3, t3, u3⟩ := @scr_i LL i 3 3 rfl (by omega) hL
  refine ⟨f2, g2, a2, b2, Y, fun R => ?_⟩
  simp only [x211_827, x211_828, x211_829, x211_830, x211_831, x211_832, x211_833, x211_834, x211_835, x211_836, x211_837, x211_838, x211_839, x211_840, x211_841, x211_842, x211_843, x211_846, x211_847, x211_848, x211_849, x211_850, x211_851, x211_852, x211_853, x211_854, x211_855, x211_856, x211_857, x211_858, x211_859, x211_860, x211_861, x211_862, x211_865, x211_866, kp17t, kp114t, s1, t1, u1, s2, t2, u2, s3, t3, u3, kc, km, lg_self, bI_True, bI_False, nI_1, Nat.reduceLeDiff, Nat.reduceEqDiff, nb0, nb1, nbI, eq_self, ex_pr, tl_s, tl_n, if_true, if_false, not_true_eq_false, not_false_eq_true, and_self, and_false, false_and, and_true, true_and]
theorem lc_mean {i : Nat} (hi : i + 7 ≤ LL) (hL : LL ≤ 3584) (X : XS f g h1 h2) : ∃ f' g' a' b', XS f' g' a' b' ∧ ∀ R, Rn (some (LL, xs)) (d + 30) 211 871 [.ref (0 : Nat), .ref (17 : Nat), .ref (114 : Nat), .int (nI i)] [] (cS f g h1 h2) R ↔ Rn (some (LL, xs)) (d + 30) 211 1335 [.ref (0 : Nat), .ref (17 : Nat), .ref (114 : Nat), .int (nI i)] [] (cS f' g' a' b') R := by
  obtain ⟨n, hr, wn, dk, sd, gb, pc, bc, W, D, hc, HS, X⟩ := X
  obtain ⟨f1, g1, a1, b1, f2, g2, a2, b2, v, kc, km, Y⟩ := @op_mean (some (LL, xs)) d f g h1 h2 n hr wn dk sd gb pc bc W D hc HS X (xs (i + 1))
  have kc := Cl_iff kc
  have km := Cl_iff km
  obtain ⟨s1, t1, u1⟩ := @scr_i LL i 1 1 rfl (by omega) hL
  refine ⟨f2, g2, a2, b2, Y, fun R => ?_⟩
  simp only [x211_871, x211_872, x211_873, x211_874, x211_875, x211_876, x211_877, x211_880, x211_881, x211_882, x211_883, x211_884, x211_885, x211_886, x211_889, x211_890, kp17t, kp114t, s1, t1, u1, kc, km, lg_self, bI_True, bI_False, nI_1, Nat.reduceLeDiff, Nat.reduceEqDiff, nb0, nb1, nbI, eq_self, ex_pr, tl_s, tl_n, if_true, if_false, not_true_eq_false, not_false_eq_true, and_self, and_false, false_and, and_true, true_and]
theorem lc_book {i : Nat} (hi : i + 7 ≤ LL) (hL : LL ≤ 3584) (X : XS f g h1 h2) : ∃ f' g' a' b', XS f' g' a' b' ∧ ∀ R, Rn (some (LL, xs)) (d + 30) 211 895 [.ref (0 : Nat), .ref (17 : Nat), .ref (114 : Nat), .int (nI i)] [] (cS f g h1 h2) R ↔ Rn (some (LL, xs)) (d + 30) 211 1335 [.ref (0 : Nat), .ref (17 : Nat), .ref (114 : Nat), .int (nI i)] [] (cS f' g' a' b') R := by
  obtain ⟨n, hr, wn, dk, sd, gb, pc, bc, W, D, hc, HS, X⟩ := X
  obtain ⟨f1, g1, a1, b1, f2, g2, a2, b2, v, kc, km, Y⟩ := @op_book (some (LL, xs)) d f g h1 h2 n hr wn dk sd gb pc bc W D hc HS X (xs (i + 1)) (xs (i + 2))
  have kc := Cl_iff kc
  have km := Cl_iff km
  obtain ⟨s1, t1, u1⟩ := @scr_i LL i 1 1 rfl (by omega) hL
  obtain ⟨s2, t2, u2⟩ := @scr_i LL i 2 2 rfl (by omega) hL
  refine ⟨f2, g2, a2, b2, Y, fun R => ?_⟩
  simp only [x211_895, x211_896, x211_897, x211_898, x211_899, x211_900, x211_901, x211_902, x211_903, x211_904, x211_905, x211_906, x211_909, x211_910, x211_911, x211_912, x211_913, x211_914, x211_915, x211_916, x211_917, x211_918, x211_919, x211_920, x211_923, kp17t, kp114t, s1, t1, u1, s2, t2, u2, kc, km, bI_True, bI_False, nI_1, Nat.reduceLeDiff, Nat.reduceEqDiff, nb0, nb1, nbI, eq_self, ex_pr, tl_s, tl_n, if_true, if_false, not_true_eq_false, not_false_eq_true, and_self, and_false, false_and, and_true, true_and]
theorem lc_looked {i : Nat} (hi : i + 7 ≤ LL) (hL : LL ≤ 3584) (X : XS f g h1 h2) : ∃ f' g' a' b', XS f' g' a' b' ∧ ∀ R, Rn (some (LL, xs)) (d + 30) 211 928 [.ref (0 : Nat), .ref (17 : Nat), .ref (114 : Nat), .int (nI i)] [] (cS f g h1 h2) R ↔ Rn (some (LL, xs)) (d + 30) 211 1335 [.ref (0 : Nat), .ref (17 : Nat), .ref (114 : Nat), .int (nI i)] [] (cS f' g' a' b') R := by
  obtain ⟨n, hr, wn, dk, sd, gb, pc, bc, W, D, hc, HS, X⟩ := X
  obtain ⟨f1, g1, a1, b1, f2, g2, a2, b2, v, kc, km, Y⟩ := @op_looked (some (LL, xs)) d f g h1 h2 n hr wn dk sd gb pc bc W D hc HS X 
  have kc := Cl_iff kc
  have km := Cl_iff km
  refine ⟨f2, g2, a2, b2, Y, fun R => ?_⟩
  simp only [x211_928, x211_929, x211_932, x211_933, x211_936, kp17t, kp114t, kc, km, bI_True, bI_False, nI_1, Nat.reduceLeDiff, Nat.reduceEqDiff, nb0, nb1, nbI, eq_self, ex_pr, tl_s, tl_n, if_true, if_false, not_true_eq_false, not_false_eq_true, and_self, and_false, false_and, and_true, true_and]
theorem lc_judge {i : Nat} (hi : i + 7 ≤ LL) (hL : LL ≤ 3584) (X : XS f g h1 h2) : ∃ f' g' a' b', XS f' g' a' b' ∧ ∀ R, Rn (some (LL, xs)) (d + 30) 211 941 [.ref (0 : Nat), .ref (17 : Nat), .ref (114 : Nat), .int (nI i)] [] (cS f g h1 h2) R ↔ Rn (some (LL, xs)) (d + 30) 211 1335 [.ref (0 : Nat), .ref (17 : Nat), .ref (114 : Nat), .int (nI i)] [] (cS f' g' a' b') R := by
  obtain ⟨n, hr, wn, dk, sd, gb, pc, bc, W, D, hc, HS, X⟩ := X
  obtain ⟨f1, g1, a1, b1, f2, g2, a2, b2, v, kc, km, Y⟩ := @op_judge (some (LL, xs)) d f g h1 h2 n hr wn dk sd gb pc bc W D hc HS X (xs (i + 1)) (xs (i + 2))
  have kc := Cl_iff kc
  have km := Cl_iff km
  obtain ⟨s1, t1, u1⟩ := @scr_i LL i 1 1 rfl (by omega) hL
  obtain ⟨s2, t2, u2⟩ := @scr_i LL i 2 2 rfl (by omega) hL
  refine ⟨f2, g2, a2, b2, Y, fun R => ?_⟩
  simp only [x211_941, x211_942, x211_943, x211_944, x211_945, x211_946, x211_947, x211_948, x211_949, x211_950, x211_951, x211_952, x211_955, x211_956, x211_957, x211_958, x211_959, x211_960, x211_961, x211_962, x211_963, x211_964, x211_965, x211_966, x211_969, kp17t, kp114t, s1, t1, u1, s2, t2, u2, kc, km, bI_True, bI_False, nI_1, Nat.reduceLeDiff, Nat.reduceEqDiff, nb0, nb1, nbI, eq_self, ex_pr, tl_s, tl_n, if_true, if_false, not_true_eq_false, not_false_eq_true, and_self, and_false, false_and, and_true, true_and]
theorem lc_image {i : Nat} (hi : i + 7 ≤ LL) (hL : LL ≤ 3584) (X : XS f g h1 h2) : ∃ f' g' a' b', XS f' g' a' b' ∧ ∀ R, Rn (some (LL, xs)) (d + 30) 211 974 [.ref (0 : Nat), .ref (17 : Nat), .ref (114 : Nat), .int (nI i)] [] (cS f g h1 h2) R ↔ Rn (some (LL, xs)) (d + 30) 211 1335 [.ref (0 : Nat), .ref (17 : Nat), .ref (114 : Nat), .int (nI i)] [] (cS f' g' a' b') R := by
  obtain ⟨n, hr, wn, dk, sd, gb, pc, bc, W, D, hc, HS, X⟩ := X
  obtain ⟨f1, g1, a1, b1, f2, g2, a2, b2, v, kc, km, Y⟩ := @op_image (some (LL, xs)) d f g h1 h2 n hr wn dk sd gb pc bc W D hc HS X 
  have kc := Cl_iff kc
  have km := Cl_iff km
  refine ⟨f2, g2, a2, b2, Y, fun R => ?_⟩
  simp only [x211_974, x211_975, x211_978, x211_979, x211_982, kp17t, kp114t, kc, km, bI_True, bI_False, nI_1, Nat.reduceLeDiff, Nat.reduceEqDiff, nb0, nb1, nbI, eq_self, ex_pr, tl_s, tl_n, if_true, if_false, not_true_eq_false, not_false_eq_true, and_self, and_false, false_and, and_true, true_and]
theorem lc_undo {i : Nat} (hi : i + 7 ≤ LL) (hL : LL ≤ 3584) (X : XS f g h1 h2) : ∃ f' g' a' b', XS f' g' a' b' ∧ ∀ R, Rn (some (LL, xs)) (d + 30) 211 987 [.ref (0 : Nat), .ref (17 : Nat), .ref (114 : Nat), .int (nI i)] [] (cS f g h1 h2) R ↔ Rn (some (LL, xs)) (d + 30) 211 1335 [.ref (0 : Nat), .ref (17 : Nat), .ref (114 : Nat), .int (nI i)] [] (cS f' g' a' b') R := by
  obtain ⟨n, hr, wn, dk, sd, gb, pc, bc, W, D, hc, HS, X⟩ := X
  obtain ⟨f1, g1, a1, b1, f2, g2, a2, b2, v, kc, km, Y⟩ := @op_undo (some (LL, xs)) d f g h1 h2 n hr wn dk sd gb pc bc W D hc HS X 
  have kc := Cl_iff kc
  have km := Cl_iff km
  refine ⟨f2, g2, a2, b2, Y, fun R => ?_⟩
  simp only [x211_987, x211_988, x211_991, x211_992, x211_995, kp17t, kp114t, kc, km, bI_True, bI_False, nI_1, Nat.reduceLeDiff, Nat.reduceEqDiff, nb0, nb1, nbI, eq_self, ex_pr, tl_s, tl_n, if_true, if_false, not_true_eq_false, not_false_eq_true, and_self, and_false, false_and, and_true, true_and]
theorem lc_act {i : Nat} (hi : i + 7 ≤ LL) (hL : LL ≤ 3584) (X : XS f g h1 h2) : ∃ f' g' a' b', XS f' g' a' b' ∧ ∀ R, Rn (some (LL, xs)) (d + 30) 211 1000 [.ref (0 : Nat), .ref (17 : Nat), .ref (114 : Nat), .int (nI i)] [] (cS f g h1 h2) R ↔ Rn (some (LL, xs)) (d + 30) 211 1335 [.ref (0 : Nat), .ref (17 : Nat), .ref (114 : Nat), .int (nI i)] [] (cS f' g' a' b') R := by
  obtain ⟨n, hr, wn, dk, sd, gb, pc, bc, W, D, hc, HS, X⟩ := X
  obtain ⟨f1, g1, a1, b1, f2, g2, a2, b2, v, kc, km, Y⟩ := @op_actX (some (LL, xs)) d f g h1 h2 n hr wn dk sd gb pc bc W D hc HS X (xs (i + 1)) (xs (i + 2)) (xs (i + 3))
  have kc := Cl_iff kc
  have km := Cl_iff km
  obtain ⟨s1, t1, u1⟩ := @scr_i LL i 1 1 rfl (by omega) hL
  obtain ⟨s2, t2, u2⟩ := @scr_i LL i 2 2 rfl (by omega) hL
  obtain ⟨s3, t3, u3⟩ := @scr_i LL i 3 3 rfl (by omega) hL
  refine ⟨f2, g2, a2, b2, Y, fun R => ?_⟩
  simp only [x211_1000, x211_1001, x211_1002, x211_1003, x211_1004, x211_1005, x211_1006, x211_1007, x211_1008, x211_1009, x211_1010, x211_1011, x211_1012, x211_1013, x211_1014, x211_1015, x211_1016, x211_1019, x211_1020, x211_1021, x211_1022, x211_1023, x211_1024, x211_1025, x211_1026, x211_1027, x211_1028, x211_1029, x211_1030, x211_1031, x211_1032, x211_1033, x211_1034, x211_1035, x211_1038, kp17t, kp114t, s1, t1, u1, s2, t2, u2, s3, t3, u3, kc, km, bI_True, bI_False, nI_1, Nat.reduceLeDiff, Nat.reduceEqDiff, nb0, nb1, nbI, eq_self, ex_pr, tl_s, tl_n, if_true, if_false, not_true_eq_false, not_false_eq_true, and_self, and_false, false_and, and_true, true_and]
theorem lc_trace {i : Nat} (hi : i + 7 ≤ LL) (hL : LL ≤ 3584) (X : XS f g h1 h2) : ∃ f' g' a' b', XS f' g' a' b' ∧ ∀ R, Rn (some (LL, xs)) (d + 30) 211 1043 [.ref (0 : Nat), .ref (17 : Nat), .ref (114 : Nat), .int (nI i)] [] (cS f g h1 h2) R ↔ Rn (some (LL, xs)) (d + 30) 211 1335 [.ref (0 : Nat), .ref (17 : Nat), .ref (114 : Nat), .int (nI i)] [] (cS f' g' a' b') R := by
  obtain ⟨n, hr, wn, dk, sd, gb, pc, bc, W, D, hc, HS, X⟩ := X
  obtain ⟨f1, g1, a1, b1, f2, g2, a2, b2, v, kc, km, Y⟩ := @op_traceX (some (LL, xs)) d f g h1 h2 n hr wn dk sd gb pc bc W D hc HS X (xs (i + 1))
  have kc := Cl_iff kc
  have km := Cl_iff km
  obtain ⟨s1, t1, u1⟩ := @scr_i LL i 1 1 rfl (by omega) hL
  refine ⟨f2, g2, a2, b2, Y, fun R => ?_⟩
  simp only [x211_1043, x211_1044, x211_1045, x211_1046, x211_1047, x211_1048, x211_1049, x211_1052, x211_1053, x211_1054, x211_1055, x211_1056, x211_1057, x211_1058, x211_1061, kp17t, kp114t, s1, t1, u1, kc, km, bI_True, bI_False, nI_1, Nat.reduceLeDiff, Nat.reduceEqDiff, nb0, nb1, nbI, eq_self, ex_pr, tl_s, tl_n, if_true, if_false, not_true_eq_false, not_false_eq_true, and_self, and_false, false_and, and_true, true_and]
theorem lc_taken {i : Nat} (hi : i + 7 ≤ LL) (hL : LL ≤ 3584) (X : XS f g h1 h2) : ∃ f' g' a' b', XS f' g' a' b' ∧ ∀ R, Rn (some (LL, xs)) (d + 30) 211 1066 [.ref (0 : Nat), .ref (17 : Nat), .ref (114 : Nat), .int (nI i)] [] (cS f g h1 h2) R ↔ Rn (some (LL, xs)) (d + 30) 211 1335 [.ref (0 : Nat), .ref (17 : Nat), .ref (114 : Nat), .int (nI i)] [] (cS f' g' a' b') R := by
  obtain ⟨n, hr, wn, dk, sd, gb, pc, bc, W, D, hc, HS, X⟩ := X
  obtain ⟨f1, g1, a1, b1, f2, g2, a2, b2, v, kc, km, Y⟩ := @op_taken (some (LL, xs)) d f g h1 h2 n hr wn dk sd gb pc bc W D hc HS X (xs (i + 1)) (xs (i + 2))
  have kc := Cl_iff kc
  have km := Cl_iff km
  obtain ⟨s1, t1, u1⟩ := @scr_i LL i 1 1 rfl (by omega) hL
  obtain ⟨s2, t2, u2⟩ := @scr_i LL i 2 2 rfl (by omega) hL
  refine ⟨f2, g2, a2, b2, Y, fun R => ?_⟩
  simp only [x211_1066, x211_1067, x211_1068, x211_1069, x211_1070, x211_1071, x211_1072, x211_1073, x211_1074, x211_1075, x211_1076, x211_1077, x211_1080, x211_1081, x211_1082, x211_1083, x211_1084, x211_1085, x211_1086, x211_1087, x211_1088, x211_1089, x211_1090, x211_1091, x211_1094, kp17t, kp114t, s1, t1, u1, s2, t2, u2, kc, km, bI_True, bI_False, nI_1, Nat.reduceLeDiff, Nat.reduceEqDiff, nb0, nb1, nbI, eq_self, ex_pr, tl_s, tl_n, if_true, if_false, not_true_eq_false, not_false_eq_true, and_self, and_false, false_and, and_true, true_and]
theorem lc_count {i : Nat} (hi : i + 7 ≤ LL) (hL : LL ≤ 3584) (X : XS f g h1 h2) : ∃ f' g' a' b', XS f' g' a' b' ∧ ∀ R, Rn (some (LL, xs)) (d + 30) 211 1099 [.ref (0 : Nat), .ref (17 : Nat), .ref (114 : Nat), .int (nI i)] [] (cS f g h1 h2) R ↔ Rn (some (LL, xs)) (d + 30) 211 1335 [.ref (0 : Nat), .ref (17 : Nat), .ref (114 : Nat), .int (nI i)] [] (cS f' g' a' b') R := by
  obtain ⟨n, hr, wn, dk, sd, gb, pc, bc, W, D, hc, HS, X⟩ := X
  obtain ⟨f1, g1, a1, b1, f2, g2, a2, b2, v, kc, km, Y⟩ := @op_count (some (LL, xs)) d f g h1 h2 n hr wn dk sd gb pc bc W D hc HS X (xs (i + 1))
  have kc := Cl_iff kc
  have km := Cl_iff km
  obtain ⟨s1, t1, u1⟩ := @scr_i LL i 1 1 rfl (by omega) hL
  refine ⟨f2, g2, a2, b2, Y, fun R => ?_⟩
  simp only [x211_1099, x211_1100, x211_1101, x211_1102, x211_1103, x211_1104, x211_1105, x211_1108, x211_1109, x211_1110, x211_1111, x211_1112, x211_1113, x211_1114, x211_1117, kp17t, kp114t, s1, t1, u1, kc, km, bI_True, bI_False, nI_1, Nat.reduceLeDiff, Nat.reduceEqDiff, nb0, nb1, nbI, eq_self, ex_pr, tl_s, tl_n, if_true, if_false, not_true_eq_false, not_false_eq_true, and_self, and_false, false_and, and_true, true_and]
theorem lc_tape {i : Nat} (hi : i + 7 ≤ LL) (hL : LL ≤ 3584) (X : XS f g h1 h2) : ∃ f' g' a' b', XS f' g' a' b' ∧ ∀ R, Rn (some (LL, xs)) (d + 30) 211 1122 [.ref (0 : Nat), .ref (17 : Nat), .ref (114 : Nat), .int (nI i)] [] (cS f g h1 h2) R ↔ Rn (some (LL, xs)) (d + 30) 211 1335 [.ref (0 : Nat), .ref (17 : Nat), .ref (114 : Nat), .int (nI i)] [] (cS f' g' a' b') R := by
  obtain ⟨n, hr, wn, dk, sd, gb, pc, bc, W, D, hc, HS, X⟩ := X
  obtain ⟨f1, g1, a1, b1, f2, g2, a2, b2, v, kc, km, Y⟩ := @op_tapeX (some (LL, xs)) d f g h1 h2 n hr wn dk sd gb pc bc W D hc HS X (xs (i + 1)) (xs (i + 2)) (xs (i + 3))
  have kc := Cl_iff kc
  have km := Cl_iff km
  obtain ⟨s1, t1, u1⟩ := @scr_i LL i 1 1 rfl (by omega) hL
  obtain ⟨s2, t2, u2⟩ := @scr_i LL i 2 2 rfl (by omega) hL
  obtain ⟨s3, t3, u3⟩ := @scr_i LL i 3 3 rfl (by omega) hL
  refine ⟨f2, g2, a2, b2, Y, fun R => ?_⟩
  simp only [x211_1122, x211_1123, x211_1124, x211_1125, x211_1126, x211_1127, x211_1128, x211_1129, x211_1130, x211_1131, x211_1132, x211_1133, x211_1134, x211_1135, x211_1136, x211_1137, x211_1138, x211_1141, x211_1142, x211_1143, x211_1144, x211_1145, x211_1146, x211_1147, x211_1148, x211_1149, x211_1150, x211_1151, x211_1152, x211_1153, x211_1154, x211_1155, x211_1156, x211_1157, x211_1160, kp17t, kp114t, s1, t1, u1, s2, t2, u2, s3, t3, u3, kc, km, bI_True, bI_False, nI_1, Nat.reduceLeDiff, Nat.reduceEqDiff, nb0, nb1, nbI, eq_self, ex_pr, tl_s, tl_n, if_true, if_false, not_true_eq_false, not_false_eq_true, and_self, and_false, false_and, and_true, true_and]
theorem lc_item {i : Nat} (hi : i + 7 ≤ LL) (hL : LL ≤ 3584) (X : XS f g h1 h2) : ∃ f' g' a' b', XS f' g' a' b' ∧ ∀ R, Rn (some (LL, xs)) (d + 30) 211 1165 [.ref (0 : Nat), .ref (17 : Nat), .ref (114 : Nat), .int (nI i)] [] (cS f g h1 h2) R ↔ Rn (some (LL, xs)) (d + 30) 211 1335 [.ref (0 : Nat), .ref (17 : Nat), .ref (114 : Nat), .int (nI i)] [] (cS f' g' a' b') R := by
  obtain ⟨n, hr, wn, dk, sd, gb, pc, bc, W, D, hc, HS, X⟩ := X
  obtain ⟨f1, g1, a1, b1, f2, g2, a2, b2, v, kc, km, Y⟩ := @op_itemX (some (LL, xs)) d f g h1 h2 n hr wn dk sd gb pc bc W D hc HS X (xs (i + 1)) (xs (i + 2)) ((xs (i + 3)).toInt64 <<< ((32 : Int32).toInt64 &&& 63) ||| (xs (i + 4)).toInt64 &&& 4294967295)
  have kc := Cl_iff kc
  have km := Cl_iff km
  obtain ⟨s1, t1, u1⟩ := @scr_i LL i 1 1 rfl (by omega) hL
  obtain ⟨s2, t2, u2⟩ := @scr_i LL i 2 2 rfl (by omega) hL
  obtain ⟨s3, t3, u3⟩ := @scr_i LL i 3 3 rfl (by omega) hL
  obtain ⟨s4, t4, u4⟩ := @scr_i LL i 4 4 rfl (by omega) hL
  refine ⟨f2, g2, a2, b2, Y, fun R => ?_⟩
  simp only [x211_1165, x211_1166, x211_1167, x211_1168, x211_1169, x211_1170, x211_1171, x211_1172, x211_1173, x211_1174, x211_1175, x211_1176, x211_1177, x211_1178, x211_1179, x211_1180, x211_1181, x211_1182, x211_1184, x211_1185, x211_1186, x211_1187, x211_1188, x211_1189, x211_1190, x211_1191, x211_1194, x211_1195, x211_1196, x211_1199, x211_1200, x211_1201, x211_1202, x211_1203, x211_1204, x211_1205, x211_1206, x211_1207, x211_1208, x211_1209, x211_1210, x211_1211, x211_1212, x211_1213, x211_1214, x211_1215, x211_1216, x211_1218, x211_1219, x211_1220, x211_1221, x211_1222, x211_1223, x211_1224, x211_1225, x211_1228, x211_1229, x211_1230, x211_1233, kp17t, kp114t, s1, t1, u1, s2, t2, u2, s3, t3, u3, s4, t4, u4, kc, km, bI_True, bI_False, nI_1, Nat.reduceLeDiff, Nat.reduceEqDiff, nb0, nb1, nbI, eq_self, ex_pr, tl_s, tl_n, if_true, if_false, not_true_eq_false, not_false_eq_true, and_self, and_false, false_and, and_true, true_and]
theorem lc_read {i : Nat} (hi : i + 7 ≤ LL) (hL : LL ≤ 3584) (X : XS f g h1 h2) : ∃ f' g' a' b', XS f' g' a' b' ∧ ∀ R, Rn (some (LL, xs)) (d + 30) 211 1238 [.ref (0 : Nat), .ref (17 : Nat), .ref (114 : Nat), .int (nI i)] [] (cS f g h1 h2) R ↔ Rn (some (LL, xs)) (d + 30) 211 1335 [.ref (0 : Nat), .ref (17 : Nat), .ref (114 : Nat), .int (nI i)] [] (cS f' g' a' b') R := by
  obtain ⟨n, hr, wn, dk, sd, gb, pc, bc, W, D, hc, HS, X⟩ := X
  obtain ⟨f1, g1, a1, b1, f2, g2, a2, b2, v, kc, km, Y⟩ := @op_readX (some (LL, xs)) d f g h1 h2 n hr wn dk sd gb pc bc W D hc HS X (xs (i + 1)) (xs (i + 2))
  have kc := Cl_iff kc
  have km := Cl_iff km
  obtain ⟨s1, t1, u1⟩ := @scr_i LL i 1 1 rfl (by omega) hL
  obtain ⟨s2, t2, u2⟩ := @scr_i LL i 2 2 rfl (by omega) hL
  refine ⟨f2, g2, a2, b2, Y, fun R => ?_⟩
  simp only [x211_1238, x211_1239, x211_1240, x211_1241, x211_1242, x211_1243, x211_1244, x211_1245, x211_1246, x211_1247, x211_1248, x211_1249, x211_1252, x211_1253, x211_1254, x211_1255, x211_1256, x211_1257, x211_1258, x211_1259, x211_1260, x211_1261, x211_1262, x211_1263, x211_1266, x211_1267, kp17t, kp114t, s1, t1, u1, s2, t2, u2, kc, km, lg_self, bI_True, bI_False, nI_1, Nat.reduceLeDiff, Nat.reduceEqDiff, nb0, nb1, nbI, eq_self, ex_pr, tl_s, tl_n, if_true, if_false, not_true_eq_false, not_false_eq_true, and_self, and_false, false_and, and_true, true_and]
theorem lc_shift {i : Nat} (hi : i + 7 ≤ LL) (hL : LL ≤ 3584) (X : XS f g h1 h2) : ∃ f' g' a' b', XS f' g' a' b' ∧ ∀ R, Rn (some (LL, xs)) (d + 30) 211 1272 [.ref (0 : Nat), .ref (17 : Nat), .ref (114 : Nat), .int (nI i)] [] (cS f g h1 h2) R ↔ Rn (some (LL, xs)) (d + 30) 211 1335 [.ref (0 : Nat), .ref (17 : Nat), .ref (114 : Nat), .int (nI i)] [] (cS f' g' a' b') R := by
  obtain ⟨n, hr, wn, dk, sd, gb, pc, bc, W, D, hc, HS, X⟩ := X
  obtain ⟨f1, g1, a1, b1, f2, g2, a2, b2, v, kc, km, Y⟩ := @op_shiftX (some (LL, xs)) d f g h1 h2 n hr wn dk sd gb pc bc W D hc HS X (xs (i + 1)) (xs (i + 2)) (xs (i + 3)) (xs (i + 4)) (xs (i + 5))
  have kc := Cl_iff kc
  have km := Cl_iff km
  obtain ⟨s1, t1, u1⟩ := @scr_i LL i 1 1 rfl (by omega) hL
  obtain ⟨s2, t2, u2⟩ := @scr_i LL i 2 2 rfl (by omega) hL
  obtain ⟨s3, t3, u3⟩ := @scr_i LL i 3 3 rfl (by omega) hL
  obtain ⟨s4, t4, u4⟩ := @scr_i LL i 4 4 rfl (by omega) hL
  obtain ⟨s5, t5, u5⟩ := @scr_i LL i 5 5 rfl (by omega) hL
  refine ⟨f2, g2, a2, b2, Y, fun R => ?_⟩
  simp only [x211_1272, x211_1273, x211_1274, x211_1275, x211_1276, x211_1277, x211_1278, x211_1279, x211_1280, x211_1281, x211_1282, x211_1283, x211_1284, x211_1285, x211_1286, x211_1287, x211_1288, x211_1289, x211_1290, x211_1291, x211_1292, x211_1293, x211_1294, x211_1295, x211_1296, x211_1297, x211_1298, x211_1301, x211_1302, x211_1303, x211_1304, x211_1305, x211_1306, x211_1307, x211_1308, x211_1309, x211_1310, x211_1311, x211_1312, x211_1313, x211_1314, x211_1315, x211_1316, x211_1317, x211_1318, x211_1319, x211_1320, x211_1321, x211_1322, x211_1323, x211_1324, x211_1325, x211_1326, x211_1327, x211_1330, kp17t, kp114t, s1, t1, u1, s2, t2, u2, s3, t3, u3, s4, t4, u4, s5, t5, u5, kc, km, bI_True, bI_False, nI_1, Nat.reduceLeDiff, Nat.reduceEqDiff, nb0, nb1, nbI, eq_self, ex_pr, tl_s, tl_n, if_true, if_false, not_true_eq_false, not_false_eq_true, and_self, and_false, false_and, and_true, true_and]
/-- a round of the loop -/
theorem law_step {i : Nat} (hi : i + 7 ≤ LL) (hL : LL ≤ 3584) (X : XS f g h1 h2) : ∃ f' g' a' b', XS f' g' a' b' ∧ ∀ R, Rn (some (LL, xs)) (d + 30) 211 27 [.ref (0 : Nat), .ref (17 : Nat), .ref (114 : Nat), .int (nI i)] [] (cS f g h1 h2) R ↔ Rn (some (LL, xs)) (d + 30) 211 1335 [.ref (0 : Nat), .ref (17 : Nat), .ref (114 : Nat), .int (nI i)] [] (cS f' g' a' b') R := by
  have t0 : inb (nI i) LL = true := inb_nI (by omega) (by omega)
  have u0 : (nI i).toNatClampNeg = i := cl_nI (by omega)
  obtain ⟨z, hz⟩ : ∃ z, z = xs i &&& 63 := ⟨_, rfl⟩
  have go : ∀ R, Rn (some (LL, xs)) (d + 30) 211 27 [.ref (0 : Nat), .ref (17 : Nat), .ref (114 : Nat), .int (nI i)] [] (cS f g h1 h2) R ↔ Rn (some (LL, xs)) (d + 30) 211 33 [.ref (0 : Nat), .ref (17 : Nat), .ref (114 : Nat), .int (nI i)] [.int z] (cS f g h1 h2) R := fun R => by
    rw [hz]
    simp only [x211_27, x211_28, x211_29, x211_30, x211_32, t0, u0]
  simp only [go, x211_33]
  by_cases c0 : z = 0
  · simp only [if_pos c0]
    exact lc_sledge hi hL X
  simp only [if_neg c0]
  by_cases c1 : z = 1
  · simp only [if_pos c1]
    exact lc_of hi hL X
  simp only [if_neg c1]
  by_cases c2 : z = 2
  · simp only [if_pos c2]
    exact lc_set hi hL X
  simp only [if_neg c2]
  by_cases c3 : z = 3
  · simp only [if_pos c3]
    exact lc_row hi hL X
  simp only [if_neg c3]
  by_cases c4 : z = 4
  · simp only [if_pos c4]
    exact lc_feed hi hL X
  simp only [if_neg c4]
  by_cases c5 : z = 5
  · simp only [if_pos c5]
    exact lc_hill hi hL X
  simp only [if_neg c5]
  by_cases c6 : z = 6
  · simp only [if_pos c6]
    exact lc_told hi hL X
  simp only [if_neg c6]
  by_cases c7 : z = 7
  · simp only [if_pos c7]
    exact lc_run hi hL X
  simp only [if_neg c7]
  by_cases c8 : z = 8
  · simp only [if_pos c8]
    exact lc_hour hi hL X
  simp only [if_neg c8]
  by_cases c9 : z = 9
  · simp only [if_pos c9]
    exact lc_with hi hL X
  simp only [if_neg c9]
  by_cases c10 : z = 10
  · simp only [if_pos c10]
    exact lc_ballast hi hL X
  simp only [if_neg c10]
  by_cases c11 : z = 11
  · simp only [if_pos c11]
    exact lc_best hi hL X
  simp only [if_neg c11]
  by_cases c12 : z = 12
  · simp only [if_pos c12]
    exact lc_never hi hL X
  simp only [if_neg c12]
  by_cases c13 : z = 13
  · simp only [if_pos c13]
    exact lc_when hi hL X
  simp only [if_neg c13]
  by_cases c14 : z = 14
  · simp only [if_pos c14]
    exact lc_can hi hL X
  simp only [if_neg c14]
  by_cases c15 : z = 15
  · simp only [if_pos c15]
    exact lc_dusk hi hL X
  simp only [if_neg c15]
  by_cases c16 : z = 16
  · simp only [if_pos c16]
    exact lc_runs hi hL X
  simp only [if_neg c16]
  by_cases c17 : z = 17
  · simp only [if_pos c17]
    exact lc_two hi hL X
  simp only [if_neg c17]
  by_cases c18 : z = 18
  · simp only [if_pos c18]
    exact lc_price hi hL X
  simp only [if_neg c18]
  by_cases c19 : z = 19
  · simp only [if_pos c19]
    exact lc_plan hi hL X
  simp only [if_neg c19]
  by_cases c20 : z = 20
  · simp only [if_pos c20]
    exact lc_wear hi hL X
  simp only [if_neg c20]
  by_cases c21 : z = 21
  · simp only [if_pos c21]
    exact lc_odds hi hL X
  simp only [if_neg c21]
  by_cases c22 : z = 22
  · simp only [if_pos c22]
    exact lc_mean hi hL X
  simp only [if_neg c22]
  by_cases c23 : z = 23
  · simp only [if_pos c23]
    exact lc_book hi hL X
  simp only [if_neg c23]
  by_cases c24 : z = 24
  · simp only [if_pos c24]
    exact lc_looked hi hL X
  simp only [if_neg c24]
  by_cases c25 : z = 25
  · simp only [if_pos c25]
    exact lc_judge hi hL X
  simp only [if_neg c25]
  by_cases c26 : z = 26
  · simp only [if_pos c26]
    exact lc_image hi hL X
  simp only [if_neg c26]
  by_cases c27 : z = 27
  · simp only [if_pos c27]
    exact lc_undo hi hL X
  simp only [if_neg c27]
  by_cases c28 : z = 28
  · simp only [if_pos c28]
    exact lc_act hi hL X
  simp only [if_neg c28]
  by_cases c29 : z = 29
  · simp only [if_pos c29]
    exact lc_trace hi hL X
  simp only [if_neg c29]
  by_cases c30 : z = 30
  · simp only [if_pos c30]
    exact lc_taken hi hL X
  simp only [if_neg c30]
  by_cases c31 : z = 31
  · simp only [if_pos c31]
    exact lc_count hi hL X
  simp only [if_neg c31]
  by_cases c32 : z = 32
  · simp only [if_pos c32]
    exact lc_tape hi hL X
  simp only [if_neg c32]
  by_cases c33 : z = 33
  · simp only [if_pos c33]
    exact lc_item hi hL X
  simp only [if_neg c33]
  by_cases c34 : z = 34
  · simp only [if_pos c34]
    exact lc_read hi hL X
  simp only [if_neg c34]
  by_cases c35 : z = 35
  · simp only [if_pos c35]
    exact lc_shift hi hL X
  simp only [if_neg c35]
  exact ⟨f, g, h1, h2, X, fun R => Iff.rfl⟩
theorem law_loop (hL : LL ≤ 3584) : ∀ (k i : Nat) (f : Nat → Nat → Int32) (g : Nat → Nat → Int64) (h1 h2 : Nat), LL < i + 7 * k → i ≤ LL + 7 → XS f g h1 h2 → ∃ (F : Nat → Nat → Int32) (G : Nat → Nat → Int64) (A B : Nat), Rn (some (LL, xs)) (d + 30) 211 18 [.ref (0 : Nat), .ref (17 : Nat), .ref (114 : Nat), .int (nI i)] [] (cS f g h1 h2) (cS F G A B, some (.int 1))
  | k, i, f, g, h1, h2, hk, hi, X => by
    have e7 : nI LL - 7 = iI ((LL : Int) - 7) := nI_subI LL 7
    have e : (iI ((LL : Int) - 7) < nI i) = (LL < i + 7) := by
      rw [iI_N i, iI_lt (by omega) (by omega) (by omega) (by omega)]
      exact propext (by omega)
    have r1 : (1 : Int32) &&& 1 = 1 := by decide
    by_cases z : LL < i + 7
    · refine ⟨f, g, h1, h2, ?_⟩
      simp only [x211_18, x211_19, x211_20, x211_21, x211_23, x211_24, x211_1341, x211_1342, e7, e, eq_true z, r1, bI_True, bI_False, nI_1, Nat.reduceLeDiff, Nat.reduceEqDiff, nb0, nb1, nbI, eq_self, ex_pr, tl_s, tl_n, if_true, if_false, not_true_eq_false, not_false_eq_true, and_self, and_false, false_and, and_true, true_and]
    · obtain ⟨f', g', a', b', X', st⟩ := @law_step d f g h1 h2 LL xs i (by omega) hL X
      cases k with
      | zero => exact absurd hk (by omega)
      | succ k =>
        obtain ⟨F, G, A, B, h⟩ := law_loop hL k (i + 7) f' g' a' b' (by omega) (by omega) X'
        refine ⟨F, G, A, B, ?_⟩
        have z7 : nI i + 7 = nI (i + 7) := nI_add i 7
        simp only [x211_18 (x3 := nI i), x211_19, x211_20, x211_21, x211_23, x211_24, e7, e, eq_false z, st, x211_1335, x211_1338, z7, if_false]
        exact h
end LW
