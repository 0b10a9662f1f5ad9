/-! the law's cases (written by wip/whole/mk99e.py) -/
theorem lg_self (z : Int64) : lg_cmp z z = 0 := by
  unfold lg_cmp
  simp
theorem kp17t : (KK[17]? = some (.inl 6)) = True := eq_true rfl
theorem kp114t : (KK[114]? = some (.inl 7)) = True := eq_true rfl
section LW
variable {d : Nat} {f : Nat → Nat → Int32} {g : Nat → Nat → Int64} {h1 h2 : Nat} {LL : Nat} {xs : Nat → Int32}
/-- what a round of the loop reads -/
theorem scr_i {i k : Nat} {c : Int32} (hc : c = nI k) (h : i + k < LL) (hL : LL ≤ 3584) : nI i + c = nI (i + k) ∧ inb (nI (i + k)) LL = true ∧ (nI (i + k)).toNatClampNeg = i + k := by
  rw [hc, nI_add]
  exact ⟨rfl, inb_nI h (by omega), cl_nI (by omega)⟩
theorem lc_sledge {i : Nat} (hi : i + 7 ≤ LL) (hL : LL ≤ 3584) (X : XS f g h1 h2) : ∃ f' g' a' b', XS f' g' a' b' ∧ ∀ R, Rn (some (LL, xs)) (d + 30) 212 192 [.ref (0 : Nat), .ref (17 : Nat), .ref (114 : Nat), .int (nI i)] [] (cS f g h1 h2) R ↔ Rn (some (LL, xs)) (d + 30) 212 1335 [.ref (0 : Nat), .ref (17 : Nat), .ref (114 : Nat), .int (nI i)] [] (cS f' g' a' b') R := by
  obtain ⟨n, hr, wn, dk, sd, gb, pc, bc, W, D, hc, HS, X⟩ := X
  obtain ⟨f1, g1, a1, b1, f2, g2, a2, b2, v, kc, km, Y⟩ := @op_sledge (some (LL, xs)) d f g h1 h2 n hr wn dk sd gb pc bc W D hc HS X (xs (i + 1)) (xs (i + 2)) (xs (i + 3)) (xs (i + 4)) (xs (i + 5)) (xs (i + 6))
  have kc := Cl_iff kc
  have km := Cl_iff km
  obtain ⟨s1, t1, u1⟩ := @scr_i LL i 1 1 rfl (by omega) hL
  obtain ⟨s2, t2, u2⟩ := @scr_i LL i 2 2 rfl (by omega) hL
  obtain ⟨s3, t3, u3⟩ := @scr_i LL i 3 3 rfl (by omega) hL
  obtain ⟨s4, t4, u4⟩ := @scr_i LL i 4 4 rfl (by omega) hL
  obtain ⟨s5, t5, u5⟩ := @scr_i LL i 5 5 rfl (by omega) hL
  obtain ⟨s6, t6, u6⟩ := @scr_i LL i 6 6 rfl (by omega) hL
  refine ⟨f2, g2, a2, b2, Y, fun R => ?_⟩
  simp only [x212_192, x212_193, x212_194, x212_195, x212_196, x212_197, x212_198, x212_199, x212_200, x212_201, x212_202, x212_203, x212_204, x212_205, x212_206, x212_207, x212_208, x212_209, x212_210, x212_211, x212_212, x212_213, x212_214, x212_215, x212_216, x212_217, x212_218, x212_219, x212_220, x212_222, x212_223, x212_224, x212_227, x212_228, x212_229, x212_230, x212_231, x212_232, x212_233, x212_234, x212_235, x212_236, x212_237, x212_238, x212_239, x212_240, x212_241, x212_242, x212_243, x212_244, x212_245, x212_246, x212_247, x212_248, x212_249, x212_250, x212_251, x212_252, x212_253, x212_254, x212_255, x212_257, x212_258, x212_259, x212_262, kp17t, kp114t, s1, t1, u1, s2, t2, u2, s3, t3, u3, s4, t4, u4, s5, t5, u5, s6, t6, u6, kc, km, bI_True, bI_False, nI_1, Nat.reduceLeDiff, Nat.reduceEqDiff, nb0, nb1, nbI, eq_self, ex_pr, tl_s, tl_n, if_true, if_false, not_true_eq_false, not_false_eq_true, and_self, and_false, false_and, and_true, true_and]
theorem lc_of {i : Nat} (hi : i + 7 ≤ LL) (hL : LL ≤ 3584) (X : XS f g h1 h2) : ∃ f' g' a' b', XS f' g' a' b' ∧ ∀ R, Rn (some (LL, xs)) (d + 30) 212 267 [.ref (0 : Nat), .ref (17 : Nat), .ref (114 : Nat), .int (nI i)] [] (cS f g h1 h2) R ↔ Rn (some (LL, xs)) (d + 30) 212 1335 [.ref (0 : Nat), .ref (17 : Nat), .ref (114 : Nat), .int (nI i)] [] (cS f' g' a' b') R := by
  obtain ⟨n, hr, wn, dk, sd, gb, pc, bc, W, D, hc, HS, X⟩ := X
  obtain ⟨f1, g1, a1, b1, f2, g2, a2, b2, v, kc, km, Y⟩ := @op_of (some (LL, xs)) d f g h1 h2 n hr wn dk sd gb pc bc W D hc HS X (xs (i + 1)) (xs (i + 2))
  have kc := Cl_iff kc
  have km := Cl_iff km
  obtain ⟨s1, t1, u1⟩ := @scr_i LL i 1 1 rfl (by omega) hL
  obtain ⟨s2, t2, u2⟩ := @scr_i LL i 2 2 rfl (by omega) hL
  refine ⟨f2, g2, a2, b2, Y, fun R => ?_⟩
  simp only [x212_267, x212_268, x212_269, x212_270, x212_271, x212_272, x212_273, x212_274, x212_275, x212_276, x212_277, x212_278, x212_281, x212_282, x212_283, x212_284, x212_285, x212_286, x212_287, x212_288, x212_289, x212_290, x212_291, x212_292, x212_295, kp17t, kp114t, s1, t1, u1, s2, t2, u2, kc, km, bI_True, bI_False, nI_1, Nat.reduceLeDiff, Nat.reduceEqDiff, nb0, nb1, nbI, eq_self, ex_pr, tl_s, tl_n, if_true, if_false, not_true_eq_false, not_false_eq_true, and_self, and_false, false_and, and_true, true_and]
theorem lc_set {i : Nat} (hi : i + 7 ≤ LL) (hL : LL ≤ 3584) (X : XS f g h1 h2) : ∃ f' g' a' b', XS f' g' a' b' ∧ ∀ R, Rn (some (LL, xs)) (d + 30) 212 300 [.ref (0 : Nat), .ref (17 : Nat), .ref (114 : Nat), .int (nI i)] [] (cS f g h1 h2) R ↔ Rn (some (LL, xs)) (d + 30) 212 1335 [.ref (0 : Nat), .ref (17 : Nat), .ref (114 : Nat), .int (nI i)] [] (cS f' g' a' b') R := by
  obtain ⟨n, hr, wn, dk, sd, gb, pc, bc, W, D, hc, HS, X⟩ := X
  obtain ⟨f1, g1, a1, b1, f2, g2, a2, b2, v, kc, km, Y⟩ := @op_set (some (LL, xs)) d f g h1 h2 n hr wn dk sd gb pc bc W D hc HS X (xs (i + 1)) (xs (i + 2)) (xs (i + 3))
  have kc := Cl_iff kc
  have km := Cl_iff km
  obtain ⟨s1, t1, u1⟩ := @scr_i LL i 1 1 rfl (by omega) hL
  obtain ⟨s2, t2, u2⟩ := @scr_i LL i 2 2 rfl (by omega) hL
  obtain ⟨s3, t3, u3⟩ := @scr_i LL i 3 3 rfl (by omega) hL
  refine ⟨f2, g2, a2, b2, Y, fun R => ?_⟩
  simp only [x212_300, x212_301, x212_302, x212_303, x212_304, x212_305, x212_306, x212_307, x212_308, x212_309, x212_310, x212_311, x212_312, x212_313, x212_314, x212_315, x212_316, x212_319, x212_320, x212_321, x212_322, x212_323, x212_324, x212_325, x212_326, x212_327, x212_328, x212_329, x212_330, x212_331, x212_332, x212_333, x212_334, x212_335, x212_338, kp17t, kp114t, s1, t1, u1, s2, t2, u2, s3, t3, u3, kc, km, bI_True, bI_False, nI_1, Nat.reduceLeDiff, Nat.reduceEqDiff, nb0, nb1, nbI, eq_self, ex_pr, tl_s, tl_n, if_true, if_false, not_true_eq_false, not_false_eq_true, and_self, and_false, false_and, and_true, true_and]
theorem lc_row {i : Nat} (hi : i + 7 ≤ LL) (hL : LL ≤ 3584) (X : XS f g h1 h2) : ∃ f' g' a' b', XS f' g' a' b' ∧ ∀ R, Rn (some (LL, xs)) (d + 30) 212 343 [.ref (0 : Nat), .ref (17 : Nat), .ref (114 : Nat), .int (nI i)] [] (cS f g h1 h2) R ↔ Rn (some (LL, xs)) (d + 30) 212 1335 [.ref (0 : Nat), .ref (17 : Nat), .ref (114 : Nat), .int (nI i)] [] (cS f' g' a' b') R := by
  obtain ⟨n, hr, wn, dk, sd, gb, pc, bc, W, D, hc, HS, X⟩ := X
  obtain ⟨f1, g1, a1, b1, f2, g2, a2, b2, v, kc, km, Y⟩ := @op_row (some (LL, xs)) d f g h1 h2 n hr wn dk sd gb pc bc W D hc HS X (xs (i + 1)) (xs (i + 2)) (xs (i + 3))
  have kc := Cl_iff kc
  have km := Cl_iff km
  obtain ⟨s1, t1, u1⟩ := @scr_i LL i 1 1 rfl (by omega) hL
  obtain ⟨s2, t2, u2⟩ := @scr_i LL i 2 2 rfl (by omega) hL
  obtain ⟨s3, t3, u3⟩ := @scr_i LL i 3 3 rfl (by omega) hL
  refine ⟨f2, g2, a2, b2, Y, fun R => ?_⟩
  simp only [x212_343, x212_344, x212_345, x212_346, x212_347, x212_348, x212_349, x212_350, x212_351, x212_352, x212_353, x212_354, x212_355, x212_356, x212_357, x212_358, x212_359, x212_362, x212_363, x212_364, x212_365, x212_366, x212_367, x212_368, x212_369, x212_370, x212_371, x212_372, x212_373, x212_374, x212_375, x212_376, x212_377, x212_378, x212_381, kp17t, kp114t, s1, t1, u1, s2, t2, u2, s3, t3, u3, kc, km, bI_True, bI_False, nI_1, Nat.reduceLeDiff, Nat.reduceEqDiff, nb0, nb1, nbI, eq_self, ex_pr, tl_s, tl_n, if_true, if_false, not_true_eq_false, not_false_eq_true, and_self, and_false, false_and, and_true, true_and]
theorem lc_feed {i : Nat} (hi : i + 7 ≤ LL) (hL : LL ≤ 3584) (X : XS f g h1 h2) : ∃ f' g' a' b', XS f' g' a' b' ∧ ∀ R, Rn (some (LL, xs)) (d + 30) 212 386 [.ref (0 : Nat), .ref (17 : Nat), .ref (114 : Nat), .int (nI i)] [] (cS f g h1 h2) R ↔ Rn (some (LL, xs)) (d + 30) 212 1335 [.ref (0 : Nat), .ref (17 : Nat), .ref (114 : Nat), .int (nI i)] [] (cS f' g' a' b') R := by
  obtain ⟨n, hr, wn, dk, sd, gb, pc, bc, W, D, hc, HS, X⟩ := X
  obtain ⟨f1, g1, a1, b1, f2, g2, a2, b2, v, kc, km, Y⟩ := @op_feed (some (LL, xs)) d f g h1 h2 n hr wn dk sd gb pc bc W D hc HS X (xs (i + 1))
  have kc := Cl_iff kc
  have km := Cl_iff km
  obtain ⟨s1, t1, u1⟩ := @scr_i LL i 1 1 rfl (by omega) hL
  refine ⟨f2, g2, a2, b2, Y, fun R => ?_⟩
  simp only [x212_386, x212_387, x212_388, x212_389, x212_390, x212_391, x212_392, x212_395, x212_396, x212_397, x212_398, x212_399, x212_400, x212_401, x212_404, kp17t, kp114t, s1, t1, u1, kc, km, bI_True, bI_False, nI_1, Nat.reduceLeDiff, Nat.reduceEqDiff, nb0, nb1, nbI, eq_self, ex_pr, tl_s, tl_n, if_true, if_false, not_true_eq_false, not_false_eq_true, and_self, and_false, false_and, and_true, true_and]
theorem lc_hill {i : Nat} (hi : i + 7 ≤ LL) (hL : LL ≤ 3584) (X : XS f g h1 h2) : ∃ f' g' a' b', XS f' g' a' b' ∧ ∀ R, Rn (some (LL, xs)) (d + 30) 212 409 [.ref (0 : Nat), .ref (17 : Nat), .ref (114 : Nat), .int (nI i)] [] (cS f g h1 h2) R ↔ Rn (some (LL, xs)) (d + 30) 212 1335 [.ref (0 : Nat), .ref (17 : Nat), .ref (114 : Nat), .int (nI i)] [] (cS f' g' a' b') R := by
  obtain ⟨n, hr, wn, dk, sd, gb, pc, bc, W, D, hc, HS, X⟩ := X
  obtain ⟨f1, g1, a1, b1, f2, g2, a2, b2, v, kc, km, Y⟩ := @op_hill (some (LL, xs)) d f g h1 h2 n hr wn dk sd gb pc bc W D hc HS X 
  have kc := Cl_iff kc
  have km := Cl_iff km
  refine ⟨f2, g2, a2, b2, Y, fun R => ?_⟩
  simp only [x212_409, x212_410, x212_413, x212_414, x212_417, kp17t, kp114t, kc, km, bI_True, bI_False, nI_1, Nat.reduceLeDiff, Nat.reduceEqDiff, nb0, nb1, nbI, eq_self, ex_pr, tl_s, tl_n, if_true, if_false, not_true_eq_false, not_false_eq_true, and_self, and_false, false_and, and_true, true_and]
theorem lc_told {i : Nat} (hi : i + 7 ≤ LL) (hL : LL ≤ 3584) (X : XS f g h1 h2) : ∃ f' g' a' b', XS f' g' a' b' ∧ ∀ R, Rn (some (LL, xs)) (d + 30) 212 422 [.ref (0 : Nat), .ref (17 : Nat), .ref (114 : Nat), .int (nI i)] [] (cS f g h1 h2) R ↔ Rn (some (LL, xs)) (d + 30) 212 1335 [.ref (0 : Nat), .ref (17 : Nat), .ref (114 : Nat), .int (nI i)] [] (cS f' g' a' b') R := by
  obtain ⟨n, hr, wn, dk, sd, gb, pc, bc, W, D, hc, HS, X⟩ := X
  obtain ⟨f1, g1, a1, b1, f2, g2, a2, b2, v, kc, km, Y⟩ := @op_told (some (LL, xs)) d f g h1 h2 n hr wn dk sd gb pc bc W D hc HS X (xs (i + 1))
  have kc := Cl_iff kc
  have km := Cl_iff km
  obtain ⟨s1, t1, u1⟩ := @scr_i LL i 1 1 rfl (by omega) hL
  refine ⟨f2, g2, a2, b2, Y, fun R => ?_⟩
  simp only [x212_422, x212_423, x212_424, x212_425, x212_426, x212_427, x212_428, x212_431, x212_432, x212_433, x212_434, x212_435, x212_436, x212_437, x212_440, kp17t, kp114t, s1, t1, u1, kc, km, bI_True, bI_False, nI_1, Nat.reduceLeDiff, Nat.reduceEqDiff, nb0, nb1, nbI, eq_self, ex_pr, tl_s, tl_n, if_true, if_false, not_true_eq_false, not_false_eq_true, and_self, and_false, false_and, and_true, true_and]
theorem lc_run {i : Nat} (hi : i + 7 ≤ LL) (hL : LL ≤ 3584) (X : XS f g h1 h2) : ∃ f' g' a' b', XS f' g' a' b' ∧ ∀ R, Rn (some (LL, xs)) (d + 30) 212 445 [.ref (0 : Nat), .ref (17 : Nat), .ref (114 : Nat), .int (nI i)] [] (cS f g h1 h2) R ↔ Rn (some (LL, xs)) (d + 30) 212 1335 [.ref (0 : Nat), .ref (17 : Nat), .ref (114 : Nat), .int (nI i)] [] (cS f' g' a' b') R := by
  obtain ⟨n, hr, wn, dk, sd, gb, pc, bc, W, D, hc, HS, X⟩ := X
  obtain ⟨f1, g1, a1, b1, f2, g2, a2, b2, v, kc, km, Y⟩ := @op_run (some (LL, xs)) d f g h1 h2 n hr wn dk sd gb pc bc W D hc HS X (xs (i + 1)) (xs (i + 2))
  have kc := Cl_iff kc
  have km := Cl_iff km
  obtain ⟨s1, t1, u1⟩ := @scr_i LL i 1 1 rfl (by omega) hL
  obtain ⟨s2, t2, u2⟩ := @scr_i LL i 2 2 rfl (by omega) hL
  refine ⟨f2, g2, a2, b2, Y, fun R => ?_⟩
  simp only [x212_445, x212_446, x212_447, x212_448, x212_449, x212_450, x212_451, x212_452, x212_453, x212_454, x212_455, x212_456, x212_459, x212_460, x212_461, x212_462, x212_463, x212_464, x212_465, x212_466, x212_467, x212_468, x212_469, x212_470, x212_473, kp17t, kp114t, s1, t1, u1, s2, t2, u2, kc, km, bI_True, bI_False, nI_1, Nat.reduceLeDiff, Nat.reduceEqDiff, nb0, nb1, nbI, eq_self, ex_pr, tl_s, tl_n, if_true, if_false, not_true_eq_false, not_false_eq_true, and_self, and_false, false_and, and_true, true_and]
theorem lc_hour {i : Nat} (hi : i + 7 ≤ LL) (hL : LL ≤ 3584) (X : XS f g h1 h2) : ∃ f' g' a' b', XS f' g' a' b' ∧ ∀ R, Rn (some (LL, xs)) (d + 30) 212 478 [.ref (0 : Nat), .ref (17 : Nat), .ref (114 : Nat), .int (nI i)] [] (cS f g h1 h2) R ↔ Rn (some (LL, xs)) (d + 30) 212 1335 [.ref (0 : Nat), .ref (17 : Nat), .ref (114 : Nat), .int (nI i)] [] (cS f' g' a' b') R := by
  obtain ⟨n, hr, wn, dk, sd, gb, pc, bc, W, D, hc, HS, X⟩ := X
  obtain ⟨f1, g1, a1, b1, f2, g2, a2, b2, v, kc, km, Y⟩ := @op_hour (some (LL, xs)) d f g h1 h2 n hr wn dk sd gb pc bc W D hc HS X 
  have kc := Cl_iff kc
  have km := Cl_iff km
  refine ⟨f2, g2, a2, b2, Y, fun R => ?_⟩
  simp only [x212_478, x212_479, x212_482, x212_483, x212_486, kp17t, kp114t, kc, km, bI_True, bI_False, nI_1, Nat.reduceLeDiff, Nat.reduceEqDiff, nb0, nb1, nbI, eq_self, ex_pr, tl_s, tl_n, if_true, if_false, not_true_eq_false, not_false_eq_true, and_self, and_false, false_and, and_true, true_and]
theorem lc_with {i : Nat} (hi : i + 7 ≤ LL) (hL : LL ≤ 3584) (X : XS f g h1 h2) : ∃ f' g' a' b', XS f' g' a' b' ∧ ∀ R, Rn (some (LL, xs)) (d + 30) 212 491 [.ref (0 : Nat), .ref (17 : Nat), .ref (114 : Nat), .int (nI i)] [] (cS f g h1 h2) R ↔ Rn (some (LL, xs)) (d + 30) 212 1335 [.ref (0 : Nat), .ref (17 : Nat), .ref (114 : Nat), .int (nI i)] [] (cS f' g' a' b') R := by
  obtain ⟨n, hr, wn, dk, sd, gb, pc, bc, W, D, hc, HS, X⟩ := X
  obtain ⟨f1, g1, a1, b1, f2, g2, a2, b2, v, kc, km, Y⟩ := @op_with (some (LL, xs)) d f g h1 h2 n hr wn dk sd gb pc bc W D hc HS X (xs (i + 1))
  have kc := Cl_iff kc
  have km := Cl_iff km
  obtain ⟨s1, t1, u1⟩ := @scr_i LL i 1 1 rfl (by omega) hL
  refine ⟨f2, g2, a2, b2, Y, fun R => ?_⟩
  simp only [x212_491, x212_492, x212_493, x212_494, x212_495, x212_496, x212_497, x212_500, x212_501, x212_502, x212_503, x212_504, x212_505, x212_506, x212_509, kp17t, kp114t, s1, t1, u1, kc, km, bI_True, bI_False, nI_1, Nat.reduceLeDiff, Nat.reduceEqDiff, nb0, nb1, nbI, eq_self, ex_pr, tl_s, tl_n, if_true, if_false, not_true_eq_false, not_false_eq_true, and_self, and_false, false_and, and_true, true_and]
theorem lc_ballast {i : Nat} (hi : i + 7 ≤ LL) (hL : LL ≤ 3584) (X : XS f g h1 h2) : ∃ f' g' a' b', XS f' g' a' b' ∧ ∀ R, Rn (some (LL, xs)) (d + 30) 212 514 [.ref (0 : Nat), .ref (17 : Nat), .ref (114 : Nat), .int (nI i)] [] (cS f g h1 h2) R ↔ Rn (some (LL, xs)) (d + 30) 212 1335 [.ref (0 : Nat), .ref (17 : Nat), .ref (114 : Nat), .int (nI i)] [] (cS f' g' a' b') R := by
  obtain ⟨n, hr, wn, dk, sd, gb, pc, bc, W, D, hc, HS, X⟩ := X
  obtain ⟨f1, g1, a1, b1, f2, g2, a2, b2, v, kc, km, Y⟩ := @op_ballast (some (LL, xs)) d f g h1 h2 n hr wn dk sd gb pc bc W D hc HS X (xs (i + 1)) (xs (i + 2)) (xs (i + 3))
  have kc := Cl_iff kc
  have km := Cl_iff km
  obtain ⟨s1, t1, u1⟩ := @scr_i LL i 1 1 rfl (by omega) hL
  obtain ⟨s2, t2, u2⟩ := @scr_i LL i 2 2 rfl (by omega) hL
  obtain ⟨s3, t3, u3⟩ := @scr_i LL i 3 3 rfl (by omega) hL
  refine ⟨f2, g2, a2, b2, Y, fun R => ?_⟩
  simp only [x212_514, x212_515, x212_516, x212_517, x212_518, x212_519, x212_520, x212_521, x212_522, x212_523, x212_524, x212_525, x212_526, x212_527, x212_528, x212_529, x212_530, x212_533, x212_534, x212_535, x212_536, x212_537, x212_538, x212_539, x212_540, x212_541, x212_542, x212_543, x212_544, x212_545, x212_546, x212_547, x212_548, x212_549, x212_552, kp17t, kp114t, s1, t1, u1, s2, t2, u2, s3, t3, u3, kc, km, bI_True, bI_False, nI_1, Nat.reduceLeDiff, Nat.reduceEqDiff, nb0, nb1, nbI, eq_self, ex_pr, tl_s, tl_n, if_true, if_false, not_true_eq_false, not_false_eq_true, and_self, and_false, false_and, and_true, true_and]
theorem lc_best {i : Nat} (hi : i + 7 ≤ LL) (hL : LL ≤ 3584) (X : XS f g h1 h2) : ∃ f' g' a' b', XS f' g' a' b' ∧ ∀ R, Rn (some (LL, xs)) (d + 30) 212 557 [.ref (0 : Nat), .ref (17 : Nat), .ref (114 : Nat), .int (nI i)] [] (cS f g h1 h2) R ↔ Rn (some (LL, xs)) (d + 30) 212 1335 [.ref (0 : Nat), .ref (17 : Nat), .ref (114 : Nat), .int (nI i)] [] (cS f' g' a' b') R := by
  obtain ⟨n, hr, wn, dk, sd, gb, pc, bc, W, D, hc, HS, X⟩ := X
  obtain ⟨f1, g1, a1, b1, f2, g2, a2, b2, v, kc, km, Y⟩ := @op_best (some (LL, xs)) d f g h1 h2 n hr wn dk sd gb pc bc W D hc HS X (xs (i + 1)) (xs (i + 2))
  have kc := Cl_iff kc
  have km := Cl_iff km
  obtain ⟨s1, t1, u1⟩ := @scr_i LL i 1 1 rfl (by omega) hL
  obtain ⟨s2, t2, u2⟩ := @scr_i LL i 2 2 rfl (by omega) hL
  refine ⟨f2, g2, a2, b2, Y, fun R => ?_⟩
  simp only [x212_557, x212_558, x212_559, x212_560, x212_561, x212_562, x212_563, x212_564, x212_565, x212_566, x212_567, x212_568, x212_571, x212_572, x212_573, x212_574, x212_575, x212_576, x212_577, x212_578, x212_579, x212_580, x212_581, x212_582, x212_585, kp17t, kp114t, s1, t1, u1, s2, t2, u2, kc, km, bI_True, bI_False, nI_1, Nat.reduceLeDiff, Nat.reduceEqDiff, nb0, nb1, nbI, eq_self, ex_pr, tl_s, tl_n, if_true, if_false, not_true_eq_false, not_false_eq_true, and_self, and_false, false_and, and_true, true_and]
theorem lc_never {i : Nat} (hi : i + 7 ≤ LL) (hL : LL ≤ 3584) (X : XS f g h1 h2) : ∃ f' g' a' b', XS f' g' a' b' ∧ ∀ R, Rn (some (LL, xs)) (d + 30) 212 590 [.ref (0 : Nat), .ref (17 : Nat), .ref (114 : Nat), .int (nI i)] [] (cS f g h1 h2) R ↔ Rn (some (LL, xs)) (d + 30) 212 1335 [.ref (0 : Nat), .ref (17 : Nat), .ref (114 : Nat), .int (nI i)] [] (cS f' g' a' b') R := by
  obtain ⟨n, hr, wn, dk, sd, gb, pc, bc, W, D, hc, HS, X⟩ := X
  obtain ⟨f1, g1, a1, b1, f2, g2, a2, b2, v, kc, km, Y⟩ := @op_never (some (LL, xs)) d f g h1 h2 n hr wn dk sd gb pc bc W D hc HS X 
  have kc := Cl_iff kc
  have km := Cl_iff km
  refine ⟨f2, g2, a2, b2, Y, fun R => ?_⟩
  simp only [x212_590, x212_591, x212_594, x212_595, x212_598, kp17t, kp114t, kc, km, bI_True, bI_False, nI_1, Nat.reduceLeDiff, Nat.reduceEqDiff, nb0, nb1, nbI, eq_self, ex_pr, tl_s, tl_n, if_true, if_false, not_true_eq_false, not_false_eq_true, and_self, and_false, false_and, and_true, true_and]
theorem lc_when {i : Nat} (hi : i + 7 ≤ LL) (hL : LL ≤ 3584) (X : XS f g h1 h2) : ∃ f' g' a' b', XS f' g' a' b' ∧ ∀ R, Rn (some (LL, xs)) (d + 30) 212 603 [.ref (0 : Nat), .ref (17 : Nat), .ref (114 : Nat), .int (nI i)] [] (cS f g h1 h2) R ↔ Rn (some (LL, xs)) (d + 30) 212 1335 [.ref (0 : Nat), .ref (17 : Nat), .ref (114 : Nat), .int (nI i)] [] (cS f' g' a' b') R := by
  obtain ⟨n, hr, wn, dk, sd, gb, pc, bc, W, D, hc, HS, X⟩ := X
  obtain ⟨f1, g1, a1, b1, f2, g2, a2, b2, v, kc, km, Y⟩ := @op_when (some (LL, xs)) d f g h1 h2 n hr wn dk sd gb pc bc W D hc HS X (xs (i + 1)) (xs (i + 2))
  have kc := Cl_iff kc
  have km := Cl_iff km
  obtain ⟨s1, t1, u1⟩ := @scr_i LL i 1 1 rfl (by omega) hL
  obtain ⟨s2, t2, u2⟩ := @scr_i LL i 2 2 rfl (by omega) hL
  refine ⟨f2, g2, a2, b2, Y, fun R => ?_⟩
  simp only [x212_603, x212_604, x212_605, x212_606, x212_607, x212_608, x212_609, x212_610, x212_611, x212_612, x212_613, x212_614, x212_617, x212_618, x212_619, x212_620, x212_621, x212_622, x212_623, x212_624, x212_625, x212_626, x212_627, x212_628, x212_631, kp17t, kp114t, s1, t1, u1, s2, t2, u2, kc, km, bI_True, bI_False, nI_1, Nat.reduceLeDiff, Nat.reduceEqDiff, nb0, nb1, nbI, eq_self, ex_pr, tl_s, tl_n, if_true, if_false, not_true_eq_false, not_false_eq_true, and_self, and_false, false_and, and_true, true_and]
theorem lc_can {i : Nat} (hi : i + 7 ≤ LL) (hL : LL ≤ 3584) (X : XS f g h1 h2) : ∃ f' g' a' b', XS f' g' a' b' ∧ ∀ R, Rn (some (LL, xs)) (d + 30) 212 636 [.ref (0 : Nat), .ref (17 : Nat), .ref (114 : Nat), .int (nI i)] [] (cS f g h1 h2) R ↔ Rn (some (LL, xs)) (d + 30) 212 1335 [.ref (0 : Nat), .ref (17 : Nat), .ref (114 : Nat), .int (nI i)] [] (cS f' g' a' b') R := by
  obtain ⟨n, hr, wn, dk, sd, gb, pc, bc, W, D, hc, HS, X⟩ := X
  obtain ⟨f1, g1, a1, b1, f2, g2, a2, b2, v, kc, km, Y⟩ := @op_can (some (LL, xs)) d f g h1 h2 n hr wn dk sd gb pc bc W D hc HS X (xs (i + 1)) (xs (i + 2))
  have kc := Cl_iff kc
  have km := Cl_iff km
  obtain ⟨s1, t1, u1⟩ := @scr_i LL i 1 1 rfl (by omega) hL
  obtain ⟨s2, t2, u2⟩ := @scr_i LL i 2 2 rfl (by omega) hL
  refine ⟨f2, g2, a2, b2, Y, fun R => ?_⟩
  simp only [x212_636, x212_637, x212_638, x212_639, x212_640, x212_641, x212_642, x212_643, x212_644, x212_645, x212_646, x212_647, x212_650, x212_651, x212_652, x212_653, x212_654, x212_655, x212_656, x212_657, x212_658, x212_659, x212_660, x212_661, x212_664, kp17t, kp114t, s1, t1, u1, s2, t2, u2, kc, km, bI_True, bI_False, nI_1, Nat.reduceLeDiff, Nat.reduceEqDiff, nb0, nb1, nbI, eq_self, ex_pr, tl_s, tl_n, if_true, if_false, not_true_eq_false, not_false_eq_true, and_self, and_false, false_and, and_true, true_and]
theorem lc_dusk {i : Nat} (hi : i + 7 ≤ LL) (hL : LL ≤ 3584) (X : XS f g h1 h2) : ∃ f' g' a' b', XS f' g' a' b' ∧ ∀ R, Rn (some (LL, xs)) (d + 30) 212 669 [.ref (0 : Nat), .ref (17 : Nat), .ref (114 : Nat), .int (nI i)] [] (cS f g h1 h2) R ↔ Rn (some (LL, xs)) (d + 30) 212 1335 [.ref (0 : Nat), .ref (17 : Nat), .ref (114 : Nat), .int (nI i)] [] (cS f' g' a' b') R := by
  obtain ⟨n, hr, wn, dk, sd, gb, pc, bc, W, D, hc, HS, X⟩ := X
  obtain ⟨f1, g1, a1, b1, f2, g2, a2, b2, v, kc, km, Y⟩ := @op_dusk (some (LL, xs)) d f g h1 h2 n hr wn dk sd gb pc bc W D hc HS X (xs (i + 1))
  have kc := Cl_iff kc
  have km := Cl_iff km
  obtain ⟨s1, t1, u1⟩ := @scr_i LL i 1 1 rfl (by omega) hL
  refine ⟨f2, g2, a2, b2, Y, fun R => ?_⟩
  simp only [x212_669, x212_670, x212_671, x212_672, x212_673, x212_674, x212_675, x212_678, x212_679, x212_680, x212_681, x212_682, x212_683, x212_684, x212_687, kp17t, kp114t, s1, t1, u1, kc, km, bI_True, bI_False, nI_1, Nat.reduceLeDiff, Nat.reduceEqDiff, nb0, nb1, nbI, eq_self, ex_pr, tl_s, tl_n, if_true, if_false, not_true_eq_false, not_false_eq_true, and_self, and_false, false_and, and_true, true_and]
theorem lc_runs {i : Nat} (hi : i + 7 ≤ LL) (hL : LL ≤ 3584) (X : XS f g h1 h2) : ∃ f' g' a' b', XS f' g' a' b' ∧ ∀ R, Rn (some (LL, xs)) (d + 30) 212 692 [.ref (0 : Nat), .ref (17 : Nat), .ref (114 : Nat), .int (nI i)] [] (cS f g h1 h2) R ↔ Rn (some (LL, xs)) (d + 30) 212 1335 [.ref (0 : Nat), .ref (17 : Nat), .ref (114 : Nat), .int (nI i)] [] (cS f' g' a' b') R := by
  obtain ⟨n, hr, wn, dk, sd, gb, pc, bc, W, D, hc, HS, X⟩ := X
  obtain ⟨f1, g1, a1, b1, f2, g2, a2, b2, v, kc, km, Y⟩ := @op_runs (some (LL, xs)) d f g h1 h2 n hr wn dk sd gb pc bc W D hc HS X (xs (i + 1)) (xs (i + 2))
  have kc := Cl_iff kc
  have km := Cl_iff km
  obtain ⟨s1, t1, u1⟩ := @scr_i LL i 1 1 rfl (by omega) hL
  obtain ⟨s2, t2, u2⟩ := @scr_i LL i 2 2 rfl (by omega) hL
  refine ⟨f2, g2, a2, b2, Y, fun R => ?_⟩
  simp only [x212_692, x212_693, x212_694, x212_695, x212_696, x212_697, x212_698, x212_699, x212_700, x212_701, x212_702, x212_703, x212_706, x212_707, x212_708, x212_709, x212_710, x212_711, x212_712, x212_713, x212_714, x212_715, x212_716, x212_717, x212_720, kp17t, kp114t, s1, t1, u1, s2, t2, u2, kc, km, bI_True, bI_False, nI_1, Nat.reduceLeDiff, Nat.reduceEqDiff, nb0, nb1, nbI, eq_self, ex_pr, tl_s, tl_n, if_true, if_false, not_true_eq_false, not_false_eq_true, and_self, and_false, false_and, and_true, true_and]
theorem lc_two {i : Nat} (hi : i + 7 ≤ LL) (hL : LL ≤ 3584) (X : XS f g h1 h2) : ∃ f' g' a' b', XS f' g' a' b' ∧ ∀ R, Rn (some (LL, xs)) (d + 30) 212 725 [.ref (0 : Nat), .ref (17 : Nat), .ref (114 : Nat), .int (nI i)] [] (cS f g h1 h2) R ↔ Rn (some (LL, xs)) (d + 30) 212 1335 [.ref (0 : Nat), .ref (17 : Nat), .ref (114 : Nat), .int (nI i)] [] (cS f' g' a' b') R := by
  obtain ⟨n, hr, wn, dk, sd, gb, pc, bc, W, D, hc, HS, X⟩ := X
  obtain ⟨f1, g1, a1, b1, f2, g2, a2, b2, v, kc, km, Y⟩ := @op_two (some (LL, xs)) d f g h1 h2 n hr wn dk sd gb pc bc W D hc HS X (xs (i + 1))
  have kc := Cl_iff kc
  have km := Cl_iff km
  obtain ⟨s1, t1, u1⟩ := @scr_i LL i 1 1 rfl (by omega) hL
  refine ⟨f2, g2, a2, b2, Y, fun R => ?_⟩
  simp only [x212_725, x212_726, x212_727, x212_728, x212_729, x212_730, x212_731, x212_734, x212_735, x212_736, x212_737, x212_738, x212_739, x212_740, x212_743, kp17t, kp114t, s1, t1, u1, kc, km, bI_True, bI_False, nI_1, Nat.reduceLeDiff, Nat.reduceEqDiff, nb0, nb1, nbI, eq_self, ex_pr, tl_s, tl_n, if_true, if_false, not_true_eq_false, not_false_eq_true, and_self, and_false, false_and, and_true, true_and]
theorem lc_price {i : Nat} (hi : i + 7 ≤ LL) (hL : LL ≤ 3584) (X : XS f g h1 h2) : ∃ f' g' a' b', XS f' g' a' b' ∧ ∀ R, Rn (some (LL, xs)) (d + 30) 212 748 [.ref (0 : Nat), .ref (17 : Nat), .ref (114 : Nat), .int (nI i)] [] (cS f g h1 h2) R ↔ Rn (some (LL, xs)) (d + 30) 212 1335 [.ref (0 : Nat), .ref (17 : Nat), .ref (114 : Nat), .int (nI i)] [] (cS f' g' a' b') R := by
  obtain ⟨n, hr, wn, dk, sd, gb, pc, bc, W, D, hc, HS, X⟩ := X
  obtain ⟨f1, g1, a1, b1, f2, g2, a2, b2, v, kc, km, Y⟩ := @op_price (some (LL, xs)) d f g h1 h2 n hr wn dk sd gb pc bc W D hc HS X (xs (i + 1))
  have kc := Cl_iff kc
  have km := Cl_iff km
  obtain ⟨s1, t1, u1⟩ := @scr_i LL i 1 1 rfl (by omega) hL
  refine ⟨f2, g2, a2, b2, Y, fun R => ?_⟩
  simp only [x212_748, x212_749, x212_750, x212_751, x212_752, x212_753, x212_754, x212_757, x212_758, x212_759, x212_760, x212_761, x212_762, x212_763, x212_766, kp17t, kp114t, s1, t1, u1, kc, km, bI_True, bI_False, nI_1, Nat.reduceLeDiff, Nat.reduceEqDiff, nb0, nb1, nbI, eq_self, ex_pr, tl_s, tl_n, if_true, if_false, not_true_eq_false, not_false_eq_true, and_self, and_false, false_and, and_true, true_and]
theorem lc_plan {i : Nat} (hi : i + 7 ≤ LL) (hL : LL ≤ 3584) (X : XS f g h1 h2) : ∃ f' g' a' b', XS f' g' a' b' ∧ ∀ R, Rn (some (LL, xs)) (d + 30) 212 771 [.ref (0 : Nat), .ref (17 : Nat), .ref (114 : Nat), .int (nI i)] [] (cS f g h1 h2) R ↔ Rn (some (LL, xs)) (d + 30) 212 1335 [.ref (0 : Nat), .ref (17 : Nat), .ref (114 : Nat), .int (nI i)] [] (cS f' g' a' b') R := by
  obtain ⟨n, hr, wn, dk, sd, gb, pc, bc, W, D, hc, HS, X⟩ := X
  obtain ⟨f1, g1, a1, b1, f2, g2, a2, b2, v, kc, km, Y⟩ := @op_plan (some (LL, xs)) d f g h1 h2 n hr wn dk sd gb pc bc W D hc HS X (xs (i + 1)) (xs (i + 2))
  have kc := Cl_iff kc
  have km := Cl_iff km
  obtain ⟨s1, t1, u1⟩ := @scr_i LL i 1 1 rfl (by omega) hL
  obtain ⟨s2, t2, u2⟩ := @scr_i LL i 2 2 rfl (by omega) hL
  refine ⟨f2, g2, a2, b2, Y, fun R => ?_⟩
  simp only [x212_771, x212_772, x212_773, x212_774, x212_775, x212_776, x212_777, x212_778, x212_779, x212_780, x212_781, x212_782, x212_785, x212_786, x212_787, x212_788, x212_789, x212_790, x212_791, x212_792, x212_793, x212_794, x212_795, x212_796, x212_799, kp17t, kp114t, s1, t1, u1, s2, t2, u2, kc, km, bI_True, bI_False, nI_1, Nat.reduceLeDiff, Nat.reduceEqDiff, nb0, nb1, nbI, eq_self, ex_pr, tl_s, tl_n, if_true, if_false, not_true_eq_false, not_false_eq_true, and_self, and_false, false_and, and_true, true_and]
theorem lc_wear {i : Nat} (hi : i + 7 ≤ LL) (hL : LL ≤ 3584) (X : XS f g h1 h2) : ∃ f' g' a' b', XS f' g' a' b' ∧ ∀ R, Rn (some (LL, xs)) (d + 30) 212 804 [.ref (0 : Nat), .ref (17 : Nat), .ref (114 : Nat), .int (nI i)] [] (cS f g h1 h2) R ↔ Rn (some (LL, xs)) (d + 30) 212 1335 [.ref (0 : Nat), .ref (17 : Nat), .ref (114 : Nat), .int (nI i)] [] (cS f' g' a' b') R := by
  obtain ⟨n, hr, wn, dk, sd, gb, pc, bc, W, D, hc, HS, X⟩ := X
  obtain ⟨f1, g1, a1, b1, f2, g2, a2, b2, v, kc, km, Y⟩ := @op_wear (some (LL, xs)) d f g h1 h2 n hr wn dk sd gb pc bc W D hc HS X (xs (i + 1))
  have kc := Cl_iff kc
  have km := Cl_iff km
  obtain ⟨s1, t1, u1⟩ := @scr_i LL i 1 1 rfl (by omega) hL
  refine ⟨f2, g2, a2, b2, Y, fun R => ?_⟩
  simp only [x212_804, x212_805, x212_806, x212_807, x212_808, x212_809, x212_810, x212_813, x212_814, x212_815, x212_816, x212_817, x212_818, x212_819, x212_822, kp17t, kp114t, s1, t1, u1, kc, km, bI_True, bI_False, nI_1, Nat.reduceLeDiff, Nat.reduceEqDiff, nb0, nb1, nbI, eq_self, ex_pr, tl_s, tl_n, if_true, if_false, not_true_eq_false, not_false_eq_true, and_self, and_false, false_and, and_true, true_and]
theorem lc_odds {i : Nat} (hi : i + 7 ≤ LL) (hL : LL ≤ 3584) (X : XS f g h1 h2) : ∃ f' g' a' b', XS f' g' a' b' ∧ ∀ R, Rn (some (LL, xs)) (d + 30) 212 827 [.ref (0 : Nat), .ref (17 : Nat), .ref (114 : Nat), .int (nI i)] [] (cS f g h1 h2) R ↔ Rn (some (LL, xs)) (d + 30) 212 1335 [.ref (0 : Nat), .ref (17 : Nat), .ref (114 : Nat), .int (nI i)] [] (cS f' g' a' b') R := by
  obtain ⟨n, hr, wn, dk, sd, gb, pc, bc, W, D, hc, HS, X⟩ := X
  obtain ⟨f1, g1, a1, b1, f2, g2, a2, b2, v, kc, km, Y⟩ := @op_odds (some (LL, xs)) d f g h1 h2 n hr wn dk sd gb pc bc W D hc HS X (xs (i + 1)) (xs (i + 2)) (xs (i + 3))
  have kc := Cl_iff kc
  have km := Cl_iff km
  obtain ⟨s1, t1, u1⟩ := @scr_i LL i 1 1 rfl (by omega) hL
  obtain ⟨s2, t2, u2⟩ := @scr_i LL i 2 2 rfl (by omega) hL
  obtain ⟨s3, t3, u3⟩ := @scr_i LL i 3 3 rfl (by omega) hL
  refine ⟨f2, g2, a2, b2, Y, fun R => ?_⟩
  simp only [x212_827, x212_828, x212_829, x212_830, x212_831, x212_832, x212_833, x212_834, x212_835, x212_836, x212_837, x212_838, x212_839, x212_840, x212_841, x212_842, x212_843, x212_846, x212_847, x212_848, x212_849, x212_850, x212_851, x212_852, x212_853, x212_854, x212_855, x212_856, x212_857, x212_858, x212_859, x212_860, x212_861, x212_862, x212_865, x212_866, kp17t, kp114t, s1, t1, u1, s2, t2, u2, s3, t3, u3, kc, km, lg_self, bI_True, bI_False, nI_1, Nat.reduceLeDiff, Nat.reduceEqDiff, nb0, nb1, nbI, eq_self, ex_pr, tl_s, tl_n, if_true, if_false, not_true_eq_false, not_false_eq_true, and_self, and_false, false_and, and_true, true_and]
theorem lc_mean {i : Nat} (hi : i + 7 ≤ LL) (hL : LL ≤ 3584) (X : XS f g h1 h2) : ∃ f' g' a' b', XS f' g' a' b' ∧ ∀ R, Rn (some (LL, xs)) (d + 30) 212 871 [.ref (0 : Nat), .ref (17 : Nat), .ref (114 : Nat), .int (nI i)] [] (cS f g h1 h2) R ↔ Rn (some (LL, xs)) (d + 30) 212 1335 [.ref (0 : Nat), .ref (17 : Nat), .ref (114 : Nat), .int (nI i)] [] (cS f' g' a' b') R := by
  obtain ⟨n, hr, wn, dk, sd, gb, pc, bc, W, D, hc, HS, X⟩ := X
  obtain ⟨f1, g1, a1, b1, f2, g2, a2, b2, v, kc, km, Y⟩ := @op_mean (some (LL, xs)) d f g h1 h2 n hr wn dk sd gb pc bc W D hc HS X (xs (i + 1))
  have kc := Cl_iff kc
  have km := Cl_iff km
  obtain ⟨s1, t1, u1⟩ := @scr_i LL i 1 1 rfl (by omega) hL
  refine ⟨f2, g2, a2, b2, Y, fun R => ?_⟩
  simp only [x212_871, x212_872, x212_873, x212_874, x212_875, x212_876, x212_877, x212_880, x212_881, x212_882, x212_883, x212_884, x212_885, x212_886, x212_889, x212_890, kp17t, kp114t, s1, t1, u1, kc, km, lg_self, bI_True, bI_False, nI_1, Nat.reduceLeDiff, Nat.reduceEqDiff, nb0, nb1, nbI, eq_self, ex_pr, tl_s, tl_n, if_true, if_false, not_true_eq_false, not_false_eq_true, and_self, and_false, false_and, and_true, true_and]
theorem lc_book {i : Nat} (hi : i + 7 ≤ LL) (hL : LL ≤ 3584) (X : XS f g h1 h2) : ∃ f' g' a' b', XS f' g' a' b' ∧ ∀ R, Rn (some (LL, xs)) (d + 30) 212 895 [.ref (0 : Nat), .ref (17 : Nat), .ref (114 : Nat), .int (nI i)] [] (cS f g h1 h2) R ↔ Rn (some (LL, xs)) (d + 30) 212 1335 [.ref (0 : Nat), .ref (17 : Nat), .ref (114 : Nat), .int (nI i)] [] (cS f' g' a' b') R := by
  obtain ⟨n, hr, wn, dk, sd, gb, pc, bc, W, D, hc, HS, X⟩ := X
  obtain ⟨f1, g1, a1, b1, f2, g2, a2, b2, v, kc, km, Y⟩ := @op_book (some (LL, xs)) d f g h1 h2 n hr wn dk sd gb pc bc W D hc HS X (xs (i + 1)) (xs (i + 2))
  have kc := Cl_iff kc
  have km := Cl_iff km
  obtain ⟨s1, t1, u1⟩ := @scr_i LL i 1 1 rfl (by omega) hL
  obtain ⟨s2, t2, u2⟩ := @scr_i LL i 2 2 rfl (by omega) hL
  refine ⟨f2, g2, a2, b2, Y, fun R => ?_⟩
  simp only [x212_895, x212_896, x212_897, x212_898, x212_899, x212_900, x212_901, x212_902, x212_903, x212_904, x212_905, x212_906, x212_909, x212_910, x212_911, x212_912, x212_913, x212_914, x212_915, x212_916, x212_917, x212_918, x212_919, x212_920, x212_923, kp17t, kp114t, s1, t1, u1, s2, t2, u2, kc, km, bI_True, bI_False, nI_1, Nat.reduceLeDiff, Nat.reduceEqDiff, nb0, nb1, nbI, eq_self, ex_pr, tl_s, tl_n, if_true, if_false, not_true_eq_false, not_false_eq_true, and_self, and_false, false_and, and_true, true_and]
theorem lc_looked {i : Nat} (hi : i + 7 ≤ LL) (hL : LL ≤ 3584) (X : XS f g h1 h2) : ∃ f' g' a' b', XS f' g' a' b' ∧ ∀ R, Rn (some (LL, xs)) (d + 30) 212 928 [.ref (0 : Nat), .ref (17 : Nat), .ref (114 : Nat), .int (nI i)] [] (cS f g h1 h2) R ↔ Rn (some (LL, xs)) (d + 30) 212 1335 [.ref (0 : Nat), .ref (17 : Nat), .ref (114 : Nat), .int (nI i)] [] (cS f' g' a' b') R := by
  obtain ⟨n, hr, wn, dk, sd, gb, pc, bc, W, D, hc, HS, X⟩ := X
  obtain ⟨f1, g1, a1, b1, f2, g2, a2, b2, v, kc, km, Y⟩ := @op_looked (some (LL, xs)) d f g h1 h2 n hr wn dk sd gb pc bc W D hc HS X 
  have kc := Cl_iff kc
  have km := Cl_iff km
  refine ⟨f2, g2, a2, b2, Y, fun R => ?_⟩
  simp only [x212_928, x212_929, x212_932, x212_933, x212_936, kp17t, kp114t, kc, km, bI_True, bI_False, nI_1, Nat.reduceLeDiff, Nat.reduceEqDiff, nb0, nb1, nbI, eq_self, ex_pr, tl_s, tl_n, if_true, if_false, not_true_eq_false, not_false_eq_true, and_self, and_false, false_and, and_true, true_and]
theorem lc_judge {i : Nat} (hi : i + 7 ≤ LL) (hL : LL ≤ 3584) (X : XS f g h1 h2) : ∃ f' g' a' b', XS f' g' a' b' ∧ ∀ R, Rn (some (LL, xs)) (d + 30) 212 941 [.ref (0 : Nat), .ref (17 : Nat), .ref (114 : Nat), .int (nI i)] [] (cS f g h1 h2) R ↔ Rn (some (LL, xs)) (d + 30) 212 1335 [.ref (0 : Nat), .ref (17 : Nat), .ref (114 : Nat), .int (nI i)] [] (cS f' g' a' b') R := by
  obtain ⟨n, hr, wn, dk, sd, gb, pc, bc, W, D, hc, HS, X⟩ := X
  obtain ⟨f1, g1, a1, b1, f2, g2, a2, b2, v, kc, km, Y⟩ := @op_judge (some (LL, xs)) d f g h1 h2 n hr wn dk sd gb pc bc W D hc HS X (xs (i + 1)) (xs (i + 2))
  have kc := Cl_iff kc
  have km := Cl_iff km
  obtain ⟨s1, t1, u1⟩ := @scr_i LL i 1 1 rfl (by omega) hL
  obtain ⟨s2, t2, u2⟩ := @scr_i LL i 2 2 rfl (by omega) hL
  refine ⟨f2, g2, a2, b2, Y, fun R => ?_⟩
  simp only [x212_941, x212_942, x212_943, x212_944, x212_945, x212_946, x212_947, x212_948, x212_949, x212_950, x212_951, x212_952, x212_955, x212_956, x212_957, x212_958, x212_959, x212_960, x212_961, x212_962, x212_963, x212_964, x212_965, x212_966, x212_969, kp17t, kp114t, s1, t1, u1, s2, t2, u2, kc, km, bI_True, bI_False, nI_1, Nat.reduceLeDiff, Nat.reduceEqDiff, nb0, nb1, nbI, eq_self, ex_pr, tl_s, tl_n, if_true, if_false, not_true_eq_false, not_false_eq_true, and_self, and_false, false_and, and_true, true_and]
theorem lc_image {i : Nat} (hi : i + 7 ≤ LL) (hL : LL ≤ 3584) (X : XS f g h1 h2) : ∃ f' g' a' b', XS f' g' a' b' ∧ ∀ R, Rn (some (LL, xs)) (d + 30) 212 974 [.ref (0 : Nat), .ref (17 : Nat), .ref (114 : Nat), .int (nI i)] [] (cS f g h1 h2) R ↔ Rn (some (LL, xs)) (d + 30) 212 1335 [.ref (0 : Nat), .ref (17 : Nat), .ref (114 : Nat), .int (nI i)] [] (cS f' g' a' b') R := by
  obtain ⟨n, hr, wn, dk, sd, gb, pc, bc, W, D, hc, HS, X⟩ := X
  obtain ⟨f1, g1, a1, b1, f2, g2, a2, b2, v, kc, km, Y⟩ := @op_image (some (LL, xs)) d f g h1 h2 n hr wn dk sd gb pc bc W D hc HS X 
  have kc := Cl_iff kc
  have km := Cl_iff km
  refine ⟨f2, g2, a2, b2, Y, fun R => ?_⟩
  simp only [x212_974, x212_975, x212_978, x212_979, x212_982, kp17t, kp114t, kc, km, bI_True, bI_False, nI_1, Nat.reduceLeDiff, Nat.reduceEqDiff, nb0, nb1, nbI, eq_self, ex_pr, tl_s, tl_n, if_true, if_false, not_true_eq_false, not_false_eq_true, and_self, and_false, false_and, and_true, true_and]
theorem lc_undo {i : Nat} (hi : i + 7 ≤ LL) (hL : LL ≤ 3584) (X : XS f g h1 h2) : ∃ f' g' a' b', XS f' g' a' b' ∧ ∀ R, Rn (some (LL, xs)) (d + 30) 212 987 [.ref (0 : Nat), .ref (17 : Nat), .ref (114 : Nat), .int (nI i)] [] (cS f g h1 h2) R ↔ Rn (some (LL, xs)) (d + 30) 212 1335 [.ref (0 : Nat), .ref (17 : Nat), .ref (114 : Nat), .int (nI i)] [] (cS f' g' a' b') R := by
  obtain ⟨n, hr, wn, dk, sd, gb, pc, bc, W, D, hc, HS, X⟩ := X
  obtain ⟨f1, g1, a1, b1, f2, g2, a2, b2, v, kc, km, Y⟩ := @op_undo (some (LL, xs)) d f g h1 h2 n hr wn dk sd gb pc bc W D hc HS X 
  have kc := Cl_iff kc
  have km := Cl_iff km
  refine ⟨f2, g2, a2, b2, Y, fun R => ?_⟩
  simp only [x212_987, x212_988, x212_991, x212_992, x212_995, kp17t, kp114t, kc, km, bI_True, bI_False, nI_1, Nat.reduceLeDiff, Nat.reduceEqDiff, nb0, nb1, nbI, eq_self, ex_pr, tl_s, tl_n, if_true, if_false, not_true_eq_false, not_false_eq_true, and_self, and_false, false_and, and_true, true_and]
theorem lc_act {i : Nat} (hi : i + 7 ≤ LL) (hL : LL ≤ 3584) (X : XS f g h1 h2) : ∃ f' g' a' b', XS f' g' a' b' ∧ ∀ R, Rn (some (LL, xs)) (d + 30) 212 1000 [.ref (0 : Nat), .ref (17 : Nat), .ref (114 : Nat), .int (nI i)] [] (cS f g h1 h2) R ↔ Rn (some (LL, xs)) (d + 30) 212 1335 [.ref (0 : Nat), .ref (17 : Nat), .ref (114 : Nat), .int (nI i)] [] (cS f' g' a' b') R := by
  obtain ⟨n, hr, wn, dk, sd, gb, pc, bc, W, D, hc, HS, X⟩ := X
  obtain ⟨f1, g1, a1, b1, f2, g2, a2, b2, v, kc, km, Y⟩ := @op_actX (some (LL, xs)) d f g h1 h2 n hr wn dk sd gb pc bc W D hc HS X (xs (i + 1)) (xs (i + 2)) (xs (i + 3))
  have kc := Cl_iff kc
  have km := Cl_iff km
  obtain ⟨s1, t1, u1⟩ := @scr_i LL i 1 1 rfl (by omega) hL
  obtain ⟨s2, t2, u2⟩ := @scr_i LL i 2 2 rfl (by omega) hL
  obtain ⟨s3, t3, u3⟩ := @scr_i LL i 3 3 rfl (by omega) hL
  refine ⟨f2, g2, a2, b2, Y, fun R => ?_⟩
  simp only [x212_1000, x212_1001, x212_1002, x212_1003, x212_1004, x212_1005, x212_1006, x212_1007, x212_1008, x212_1009, x212_1010, x212_1011, x212_1012, x212_1013, x212_1014, x212_1015, x212_1016, x212_1019, x212_1020, x212_1021, x212_1022, x212_1023, x212_1024, x212_1025, x212_1026, x212_1027, x212_1028, x212_1029, x212_1030, x212_1031, x212_1032, x212_1033, x212_1034, x212_1035, x212_1038, kp17t, kp114t, s1, t1, u1, s2, t2, u2, s3, t3, u3, kc, km, bI_True, bI_False, nI_1, Nat.reduceLeDiff, Nat.reduceEqDiff, nb0, nb1, nbI, eq_self, ex_pr, tl_s, tl_n, if_true, if_false, not_true_eq_false, not_false_eq_true, and_self, and_false, false_and, and_true, true_and]
theorem lc_trace {i : Nat} (hi : i + 7 ≤ LL) (hL : LL ≤ 3584) (X : XS f g h1 h2) : ∃ f' g' a' b', XS f' g' a' b' ∧ ∀ R, Rn (some (LL, xs)) (d + 30) 212 1043 [.ref (0 : Nat), .ref (17 : Nat), .ref (114 : Nat), .int (nI i)] [] (cS f g h1 h2) R ↔ Rn (some (LL, xs)) (d + 30) 212 1335 [.ref (0 : Nat), .ref (17 : Nat), .ref (114 : Nat), .int (nI i)] [] (cS f' g' a' b') R := by
  obtain ⟨n, hr, wn, dk, sd, gb, pc, bc, W, D, hc, HS, X⟩ := X
  obtain ⟨f1, g1, a1, b1, f2, g2, a2, b2, v, kc, km, Y⟩ := @op_traceX (some (LL, xs)) d f g h1 h2 n hr wn dk sd gb pc bc W D hc HS X (xs (i + 1))
  have kc := Cl_iff kc
  have km := Cl_iff km
  obtain ⟨s1, t1, u1⟩ := @scr_i LL i 1 1 rfl (by omega) hL
  refine ⟨f2, g2, a2, b2, Y, fun R => ?_⟩
  simp only [x212_1043, x212_1044, x212_1045, x212_1046, x212_1047, x212_1048, x212_1049, x212_1052, x212_1053, x212_1054, x212_1055, x212_1056, x212_1057, x212_1058, x212_1061, kp17t, kp114t, s1, t1, u1, kc, km, bI_True, bI_False, nI_1, Nat.reduceLeDiff, Nat.reduceEqDiff, nb0, nb1, nbI, eq_self, ex_pr, tl_s, tl_n, if_true, if_false, not_true_eq_false, not_false_eq_true, and_self, and_false, false_and, and_true, true_and]
theorem lc_taken {i : Nat} (hi : i + 7 ≤ LL) (hL : LL ≤ 3584) (X : XS f g h1 h2) : ∃ f' g' a' b', XS f' g' a' b' ∧ ∀ R, Rn (some (LL, xs)) (d + 30) 212 1066 [.ref (0 : Nat), .ref (17 : Nat), .ref (114 : Nat), .int (nI i)] [] (cS f g h1 h2) R ↔ Rn (some (LL, xs)) (d + 30) 212 1335 [.ref (0 : Nat), .ref (17 : Nat), .ref (114 : Nat), .int (nI i)] [] (cS f' g' a' b') R := by
  obtain ⟨n, hr, wn, dk, sd, gb, pc, bc, W, D, hc, HS, X⟩ := X
  obtain ⟨f1, g1, a1, b1, f2, g2, a2, b2, v, kc, km, Y⟩ := @op_taken (some (LL, xs)) d f g h1 h2 n hr wn dk sd gb pc bc W D hc HS X (xs (i + 1)) (xs (i + 2))
  have kc := Cl_iff kc
  have km := Cl_iff km
  obtain ⟨s1, t1, u1⟩ := @scr_i LL i 1 1 rfl (by omega) hL
  obtain ⟨s2, t2, u2⟩ := @scr_i LL i 2 2 rfl (by omega) hL
  refine ⟨f2, g2, a2, b2, Y, fun R => ?_⟩
  simp only [x212_1066, x212_1067, x212_1068, x212_1069, x212_1070, x212_1071, x212_1072, x212_1073, x212_1074, x212_1075, x212_1076, x212_1077, x212_1080, x212_1081, x212_1082, x212_1083, x212_1084, x212_1085, x212_1086, x212_1087, x212_1088, x212_1089, x212_1090, x212_1091, x212_1094, kp17t, kp114t, s1, t1, u1, s2, t2, u2, kc, km, bI_True, bI_False, nI_1, Nat.reduceLeDiff, Nat.reduceEqDiff, nb0, nb1, nbI, eq_self, ex_pr, tl_s, tl_n, if_true, if_false, not_true_eq_false, not_false_eq_true, and_self, and_false, false_and, and_true, true_and]
theorem lc_count {i : Nat} (hi : i + 7 ≤ LL) (hL : LL ≤ 3584) (X : XS f g h1 h2) : ∃ f' g' a' b', XS f' g' a' b' ∧ ∀ R, Rn (some (LL, xs)) (d + 30) 212 1099 [.ref (0 : Nat), .ref (17 : Nat), .ref (114 : Nat), .int (nI i)] [] (cS f g h1 h2) R ↔ Rn (some (LL, xs)) (d + 30) 212 1335 [.ref (0 : Nat), .ref (17 : Nat), .ref (114 : Nat), .int (nI i)] [] (cS f' g' a' b') R := by
  obtain ⟨n, hr, wn, dk, sd, gb, pc, bc, W, D, hc, HS, X⟩ := X
  obtain ⟨f1, g1, a1, b1, f2, g2, a2, b2, v, kc, km, Y⟩ := @op_count (some (LL, xs)) d f g h1 h2 n hr wn dk sd gb pc bc W D hc HS X (xs (i + 1))
  have kc := Cl_iff kc
  have km := Cl_iff km
  obtain ⟨s1, t1, u1⟩ := @scr_i LL i 1 1 rfl (by omega) hL
  refine ⟨f2, g2, a2, b2, Y, fun R => ?_⟩
  simp only [x212_1099, x212_1100, x212_1101, x212_1102, x212_1103, x212_1104, x212_1105, x212_1108, x212_1109, x212_1110, x212_1111, x212_1112, x212_1113, x212_1114, x212_1117, kp17t, kp114t, s1, t1, u1, kc, km, bI_True, bI_False, nI_1, Nat.reduceLeDiff, Nat.reduceEqDiff, nb0, nb1, nbI, eq_self, ex_pr, tl_s, tl_n, if_true, if_false, not_true_eq_false, not_false_eq_true, and_self, and_false, false_and, and_true, true_and]
theorem lc_tape {i : Nat} (hi : i + 7 ≤ LL) (hL : LL ≤ 3584) (X : XS f g h1 h2) : ∃ f' g' a' b', XS f' g' a' b' ∧ ∀ R, Rn (some (LL, xs)) (d + 30) 212 1122 [.ref (0 : Nat), .ref (17 : Nat), .ref (114 : Nat), .int (nI i)] [] (cS f g h1 h2) R ↔ Rn (some (LL, xs)) (d + 30) 212 1335 [.ref (0 : Nat), .ref (17 : Nat), .ref (114 : Nat), .int (nI i)] [] (cS f' g' a' b') R := by
  obtain ⟨n, hr, wn, dk, sd, gb, pc, bc, W, D, hc, HS, X⟩ := X
  obtain ⟨f1, g1, a1, b1, f2, g2, a2, b2, v, kc, km, Y⟩ := @op_tapeX (some (LL, xs)) d f g h1 h2 n hr wn dk sd gb pc bc W D hc HS X (xs (i + 1)) (xs (i + 2)) (xs (i + 3))
  have kc := Cl_iff kc
  have km := Cl_iff km
  obtain ⟨s1, t1, u1⟩ := @scr_i LL i 1 1 rfl (by omega) hL
  obtain ⟨s2, t2, u2⟩ := @scr_i LL i 2 2 rfl (by omega) hL
  obtain ⟨s3, t3, u3⟩ := @scr_i LL i 3 3 rfl (by omega) hL
  refine ⟨f2, g2, a2, b2, Y, fun R => ?_⟩
  simp only [x212_1122, x212_1123, x212_1124, x212_1125, x212_1126, x212_1127, x212_1128, x212_1129, x212_1130, x212_1131, x212_1132, x212_1133, x212_1134, x212_1135, x212_1136, x212_1137, x212_1138, x212_1141, x212_1142, x212_1143, x212_1144, x212_1145, x212_1146, x212_1147, x212_1148, x212_1149, x212_1150, x212_1151, x212_1152, x212_1153, x212_1154, x212_1155, x212_1156, x212_1157, x212_1160, kp17t, kp114t, s1, t1, u1, s2, t2, u2, s3, t3, u3, kc, km, bI_True, bI_False, nI_1, Nat.reduceLeDiff, Nat.reduceEqDiff, nb0, nb1, nbI, eq_self, ex_pr, tl_s, tl_n, if_true, if_false, not_true_eq_false, not_false_eq_true, and_self, and_false, false_and, and_true, true_and]
theorem lc_item {i : Nat} (hi : i + 7 ≤ LL) (hL : LL ≤ 3584) (X : XS f g h1 h2) : ∃ f' g' a' b', XS f' g' a' b' ∧ ∀ R, Rn (some (LL, xs)) (d + 30) 212 1165 [.ref (0 : Nat), .ref (17 : Nat), .ref (114 : Nat), .int (nI i)] [] (cS f g h1 h2) R ↔ Rn (some (LL, xs)) (d + 30) 212 1335 [.ref (0 : Nat), .ref (17 : Nat), .ref (114 : Nat), .int (nI i)] [] (cS f' g' a' b') R := by
  obtain ⟨n, hr, wn, dk, sd, gb, pc, bc, W, D, hc, HS, X⟩ := X
  obtain ⟨f1, g1, a1, b1, f2, g2, a2, b2, v, kc, km, Y⟩ := @op_itemX (some (LL, xs)) d f g h1 h2 n hr wn dk sd gb pc bc W D hc HS X (xs (i + 1)) (xs (i + 2)) ((xs (i + 3)).toInt64 <<< ((32 : Int32).toInt64 &&& 63) ||| (xs (i + 4)).toInt64 &&& 4294967295)
  have kc := Cl_iff kc
  have km := Cl_iff km
  obtain ⟨s1, t1, u1⟩ := @scr_i LL i 1 1 rfl (by omega) hL
  obtain ⟨s2, t2, u2⟩ := @scr_i LL i 2 2 rfl (by omega) hL
  obtain ⟨s3, t3, u3⟩ := @scr_i LL i 3 3 rfl (by omega) hL
  obtain ⟨s4, t4, u4⟩ := @scr_i LL i 4 4 rfl (by omega) hL
  refine ⟨f2, g2, a2, b2, Y, fun R => ?_⟩
  simp only [x212_1165, x212_1166, x212_1167, x212_1168, x212_1169, x212_1170, x212_1171, x212_1172, x212_1173, x212_1174, x212_1175, x212_1176, x212_1177, x212_1178, x212_1179, x212_1180, x212_1181, x212_1182, x212_1184, x212_1185, x212_1186, x212_1187, x212_1188, x212_1189, x212_1190, x212_1191, x212_1194, x212_1195, x212_1196, x212_1199, x212_1200, x212_1201, x212_1202, x212_1203, x212_1204, x212_1205, x212_1206, x212_1207, x212_1208, x212_1209, x212_1210, x212_1211, x212_1212, x212_1213, x212_1214, x212_1215, x212_1216, x212_1218, x212_1219, x212_1220, x212_1221, x212_1222, x212_1223, x212_1224, x212_1225, x212_1228, x212_1229, x212_1230, x212_1233, kp17t, kp114t, s1, t1, u1, s2, t2, u2, s3, t3, u3, s4, t4, u4, kc, km, bI_True, bI_False, nI_1, Nat.reduceLeDiff, Nat.reduceEqDiff, nb0, nb1, nbI, eq_self, ex_pr, tl_s, tl_n, if_true, if_false, not_true_eq_false, not_false_eq_true, and_self, and_false, false_and, and_true, true_and]
theorem lc_read {i : Nat} (hi : i + 7 ≤ LL) (hL : LL ≤ 3584) (X : XS f g h1 h2) : ∃ f' g' a' b', XS f' g' a' b' ∧ ∀ R, Rn (some (LL, xs)) (d + 30) 212 1238 [.ref (0 : Nat), .ref (17 : Nat), .ref (114 : Nat), .int (nI i)] [] (cS f g h1 h2) R ↔ Rn (some (LL, xs)) (d + 30) 212 1335 [.ref (0 : Nat), .ref (17 : Nat), .ref (114 : Nat), .int (nI i)] [] (cS f' g' a' b') R := by
  obtain ⟨n, hr, wn, dk, sd, gb, pc, bc, W, D, hc, HS, X⟩ := X
  obtain ⟨f1, g1, a1, b1, f2, g2, a2, b2, v, kc, km, Y⟩ := @op_readX (some (LL, xs)) d f g h1 h2 n hr wn dk sd gb pc bc W D hc HS X (xs (i + 1)) (xs (i + 2))
  have kc := Cl_iff kc
  have km := Cl_iff km
  obtain ⟨s1, t1, u1⟩ := @scr_i LL i 1 1 rfl (by omega) hL
  obtain ⟨s2, t2, u2⟩ := @scr_i LL i 2 2 rfl (by omega) hL
  refine ⟨f2, g2, a2, b2, Y, fun R => ?_⟩
  simp only [x212_1238, x212_1239, x212_1240, x212_1241, x212_1242, x212_1243, x212_1244, x212_1245, x212_1246, x212_1247, x212_1248, x212_1249, x212_1252, x212_1253, x212_1254, x212_1255, x212_1256, x212_1257, x212_1258, x212_1259, x212_1260, x212_1261, x212_1262, x212_1263, x212_1266, x212_1267, kp17t, kp114t, s1, t1, u1, s2, t2, u2, kc, km, lg_self, bI_True, bI_False, nI_1, Nat.reduceLeDiff, Nat.reduceEqDiff, nb0, nb1, nbI, eq_self, ex_pr, tl_s, tl_n, if_true, if_false, not_true_eq_false, not_false_eq_true, and_self, and_false, false_and, and_true, true_and]
theorem lc_shift {i : Nat} (hi : i + 7 ≤ LL) (hL : LL ≤ 3584) (X : XS f g h1 h2) : ∃ f' g' a' b', XS f' g' a' b' ∧ ∀ R, Rn (some (LL, xs)) (d + 30) 212 1272 [.ref (0 : Nat), .ref (17 : Nat), .ref (114 : Nat), .int (nI i)] [] (cS f g h1 h2) R ↔ Rn (some (LL, xs)) (d + 30) 212 1335 [.ref (0 : Nat), .ref (17 : Nat), .ref (114 : Nat), .int (nI i)] [] (cS f' g' a' b') R := by
  obtain ⟨n, hr, wn, dk, sd, gb, pc, bc, W, D, hc, HS, X⟩ := X
  obtain ⟨f1, g1, a1, b1, f2, g2, a2, b2, v, kc, km, Y⟩ := @op_shiftX (some (LL, xs)) d f g h1 h2 n hr wn dk sd gb pc bc W D hc HS X (xs (i + 1)) (xs (i + 2)) (xs (i + 3)) (xs (i + 4)) (xs (i + 5))
  have kc := Cl_iff kc
  have km := Cl_iff km
  obtain ⟨s1, t1, u1⟩ := @scr_i LL i 1 1 rfl (by omega) hL
  obtain ⟨s2, t2, u2⟩ := @scr_i LL i 2 2 rfl (by omega) hL
  obtain ⟨s3, t3, u3⟩ := @scr_i LL i 3 3 rfl (by omega) hL
  obtain ⟨s4, t4, u4⟩ := @scr_i LL i 4 4 rfl (by omega) hL
  obtain ⟨s5, t5, u5⟩ := @scr_i LL i 5 5 rfl (by omega) hL
  refine ⟨f2, g2, a2, b2, Y, fun R => ?_⟩
  simp only [x212_1272, x212_1273, x212_1274, x212_1275, x212_1276, x212_1277, x212_1278, x212_1279, x212_1280, x212_1281, x212_1282, x212_1283, x212_1284, x212_1285, x212_1286, x212_1287, x212_1288, x212_1289, x212_1290, x212_1291, x212_1292, x212_1293, x212_1294, x212_1295, x212_1296, x212_1297, x212_1298, x212_1301, x212_1302, x212_1303, x212_1304, x212_1305, x212_1306, x212_1307, x212_1308, x212_1309, x212_1310, x212_1311, x212_1312, x212_1313, x212_1314, x212_1315, x212_1316, x212_1317, x212_1318, x212_1319, x212_1320, x212_1321, x212_1322, x212_1323, x212_1324, x212_1325, x212_1326, x212_1327, x212_1330, kp17t, kp114t, s1, t1, u1, s2, t2, u2, s3, t3, u3, s4, t4, u4, s5, t5, u5, kc, km, bI_True, bI_False, nI_1, Nat.reduceLeDiff, Nat.reduceEqDiff, nb0, nb1, nbI, eq_self, ex_pr, tl_s, tl_n, if_true, if_false, not_true_eq_false, not_false_eq_true, and_self, and_false, false_and, and_true, true_and]
/-- a round of the loop -/
theorem law_step {i : Nat} (hi : i + 7 ≤ LL) (hL : LL ≤ 3584) (X : XS f g h1 h2) : ∃ f' g' a' b', XS f' g' a' b' ∧ ∀ R, Rn (some (LL, xs)) (d + 30) 212 27 [.ref (0 : Nat), .ref (17 : Nat), .ref (114 : Nat), .int (nI i)] [] (cS f g h1 h2) R ↔ Rn (some (LL, xs)) (d + 30) 212 1335 [.ref (0 : Nat), .ref (17 : Nat), .ref (114 : Nat), .int (nI i)] [] (cS f' g' a' b') R := by
  have t0 : inb (nI i) LL = true := inb_nI (by omega) (by omega)
  have u0 : (nI i).toNatClampNeg = i := cl_nI (by omega)
  obtain ⟨z, hz⟩ : ∃ z, z = xs i &&& 63 := ⟨_, rfl⟩
  have go : ∀ R, Rn (some (LL, xs)) (d + 30) 212 27 [.ref (0 : Nat), .ref (17 : Nat), .ref (114 : Nat), .int (nI i)] [] (cS f g h1 h2) R ↔ Rn (some (LL, xs)) (d + 30) 212 33 [.ref (0 : Nat), .ref (17 : Nat), .ref (114 : Nat), .int (nI i)] [.int z] (cS f g h1 h2) R := fun R => by
    rw [hz]
    simp only [x212_27, x212_28, x212_29, x212_30, x212_32, t0, u0]
  simp only [go, x212_33]
  by_cases c0 : z = 0
  · simp only [if_pos c0]
    exact lc_sledge hi hL X
  simp only [if_neg c0]
  by_cases c1 : z = 1
  · simp only [if_pos c1]
    exact lc_of hi hL X
  simp only [if_neg c1]
  by_cases c2 : z = 2
  · simp only [if_pos c2]
    exact lc_set hi hL X
  simp only [if_neg c2]
  by_cases c3 : z = 3
  · simp only [if_pos c3]
    exact lc_row hi hL X
  simp only [if_neg c3]
  by_cases c4 : z = 4
  · simp only [if_pos c4]
    exact lc_feed hi hL X
  simp only [if_neg c4]
  by_cases c5 : z = 5
  · simp only [if_pos c5]
    exact lc_hill hi hL X
  simp only [if_neg c5]
  by_cases c6 : z = 6
  · simp only [if_pos c6]
    exact lc_told hi hL X
  simp only [if_neg c6]
  by_cases c7 : z = 7
  · simp only [if_pos c7]
    exact lc_run hi hL X
  simp only [if_neg c7]
  by_cases c8 : z = 8
  · simp only [if_pos c8]
    exact lc_hour hi hL X
  simp only [if_neg c8]
  by_cases c9 : z = 9
  · simp only [if_pos c9]
    exact lc_with hi hL X
  simp only [if_neg c9]
  by_cases c10 : z = 10
  · simp only [if_pos c10]
    exact lc_ballast hi hL X
  simp only [if_neg c10]
  by_cases c11 : z = 11
  · simp only [if_pos c11]
    exact lc_best hi hL X
  simp only [if_neg c11]
  by_cases c12 : z = 12
  · simp only [if_pos c12]
    exact lc_never hi hL X
  simp only [if_neg c12]
  by_cases c13 : z = 13
  · simp only [if_pos c13]
    exact lc_when hi hL X
  simp only [if_neg c13]
  by_cases c14 : z = 14
  · simp only [if_pos c14]
    exact lc_can hi hL X
  simp only [if_neg c14]
  by_cases c15 : z = 15
  · simp only [if_pos c15]
    exact lc_dusk hi hL X
  simp only [if_neg c15]
  by_cases c16 : z = 16
  · simp only [if_pos c16]
    exact lc_runs hi hL X
  simp only [if_neg c16]
  by_cases c17 : z = 17
  · simp only [if_pos c17]
    exact lc_two hi hL X
  simp only [if_neg c17]
  by_cases c18 : z = 18
  · simp only [if_pos c18]
    exact lc_price hi hL X
  simp only [if_neg c18]
  by_cases c19 : z = 19
  · simp only [if_pos c19]
    exact lc_plan hi hL X
  simp only [if_neg c19]
  by_cases c20 : z = 20
  · simp only [if_pos c20]
    exact lc_wear hi hL X
  simp only [if_neg c20]
  by_cases c21 : z = 21
  · simp only [if_pos c21]
    exact lc_odds hi hL X
  simp only [if_neg c21]
  by_cases c22 : z = 22
  · simp only [if_pos c22]
    exact lc_mean hi hL X
  simp only [if_neg c22]
  by_cases c23 : z = 23
  · simp only [if_pos c23]
    exact lc_book hi hL X
  simp only [if_neg c23]
  by_cases c24 : z = 24
  · simp only [if_pos c24]
    exact lc_looked hi hL X
  simp only [if_neg c24]
  by_cases c25 : z = 25
  · simp only [if_pos c25]
    exact lc_judge hi hL X
  simp only [if_neg c25]
  by_cases c26 : z = 26
  · simp only [if_pos c26]
    exact lc_image hi hL X
  simp only [if_neg c26]
  by_cases c27 : z = 27
  · simp only [if_pos c27]
    exact lc_undo hi hL X
  simp only [if_neg c27]
  by_cases c28 : z = 28
  · simp only [if_pos c28]
    exact lc_act hi hL X
  simp only [if_neg c28]
  by_cases c29 : z = 29
  · simp only [if_pos c29]
    exact lc_trace hi hL X
  simp only [if_neg c29]
  by_cases c30 : z = 30
  · simp only [if_pos c30]
    exact lc_taken hi hL X
  simp only [if_neg c30]
  by_cases c31 : z = 31
  · simp only [if_pos c31]
    exact lc_count hi hL X
  simp only [if_neg c31]
  by_cases c32 : z = 32
  · simp only [if_pos c32]
    exact lc_tape hi hL X
  simp only [if_neg c32]
  by_cases c33 : z = 33
  · simp only [if_pos c33]
    exact lc_item hi hL X
  simp only [if_neg c33]
  by_cases c34 : z = 34
  · simp only [if_pos c34]
    exact lc_read hi hL X
  simp only [if_neg c34]
  by_cases c35 : z = 35
  · simp only [if_pos c35]
    exact lc_shift hi hL X
  simp only [if_neg c35]
  exact ⟨f, g, h1, h2, X, fun R => Iff.rfl⟩
theorem law_loop (hL : LL ≤ 3584) : ∀ (k i : Nat) (f : Nat → Nat → Int32) (g : Nat → Nat → Int64) (h1 h2 : Nat), LL < i + 7 * k → i ≤ LL + 7 → XS f g h1 h2 → ∃ (F : Nat → Nat → Int32) (G : Nat → Nat → Int64) (A B : Nat), Rn (some (LL, xs)) (d + 30) 212 18 [.ref (0 : Nat), .ref (17 : Nat), .ref (114 : Nat), .int (nI i)] [] (cS f g h1 h2) (cS F G A B, some (.int 1))
  | k, i, f, g, h1, h2, hk, hi, X => by
    have e7 : nI LL - 7 = iI ((LL : Int) - 7) := nI_subI LL 7
    have e : (iI ((LL : Int) - 7) < nI i) = (LL < i + 7) := by
      rw [iI_N i, iI_lt (by omega) (by omega) (by omega) (by omega)]
      exact propext (by omega)
    have r1 : (1 : Int32) &&& 1 = 1 := by decide
    by_cases z : LL < i + 7
    · refine ⟨f, g, h1, h2, ?_⟩
      simp only [x212_18, x212_19, x212_20, x212_21, x212_23, x212_24, x212_1341, x212_1342, e7, e, eq_true z, r1, bI_True, bI_False, nI_1, Nat.reduceLeDiff, Nat.reduceEqDiff, nb0, nb1, nbI, eq_self, ex_pr, tl_s, tl_n, if_true, if_false, not_true_eq_false, not_false_eq_true, and_self, and_false, false_and, and_true, true_and]
    · obtain ⟨f', g', a', b', X', st⟩ := @law_step d f g h1 h2 LL xs i (by omega) hL X
      cases k with
      | zero => exact absurd hk (by omega)
      | succ k =>
        obtain ⟨F, G, A, B, h⟩ := law_loop hL k (i + 7) f' g' a' b' (by omega) (by omega) X'
        refine ⟨F, G, A, B, ?_⟩
        have z7 : nI i + 7 = nI (i + 7) := nI_add i 7
        simp only [x212_18 (x3 := nI i), x212_19, x212_20, x212_21, x212_23, x212_24, e7, e, eq_false z, st, x212_1335, x212_1338, z7, if_false]
        exact h
end LW
