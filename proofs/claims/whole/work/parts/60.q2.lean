/-! told, taken, count, trace, with -/
section Q2
variable {sc : aSc} {d : Nat} {r : aRes} {f : Nat → Nat → Int32} {g : Nat → Nat → Int64} {h1 h2 : Nat} {n hr wn dk sd gb pc bc : Nat} {W : Nat → Nat} {D : aD} {hc : Nat} {HS : Nat → aH} {σ : aS}
theorem zi1 : ¬ (1 : Int32) = 0 := by decide
theorem lt_all {n : Nat} (h : n ≤ 7) : 2 ^ n - 1 < 128 := by
  have := p2_7 h
  omega
theorem told_c (X : XP f g h1 h2 n hr wn dk sd gb pc bc W D hc HS) (x : Int32) : Cl sc (d + 30) 72 [.ref (17 : Nat), .int x] (cS f g h1 h2) (cS f g h1 h2, some (.int (if x = 0 then nI hr else if x = 1 then nI wn else if x = 2 then nI (ga W (2 ^ n - 1) sd gb n 0) else if x = 3 then nI (ndH (dH D)) else if x = 4 then nI (rpH (dH D)) else if x = 5 then nI sd else -1))) := by
  have n7 : n ≤ 7 := X.d.b0
  have b1 : hr ≤ 9999 := X.d.b1
  have b2 : wn ≤ 9999 := X.d.b2
  have p2n : 2 ^ n ≤ 128 := p2_7 n7
  have b3 : dk < 2 ^ n := X.d.b3
  have b4 : sd < 2 ^ n := X.d.b4
  have b5 : gb < 2 ^ n := X.d.b5
  have b6 : pc ≤ 12 := X.d.b6
  have b7 : bc ≤ 12 := X.d.b7
  have c0 : f 56 0 = nI n := X.d.c0
  have c1 : f 56 1 = nI hr := X.d.c1
  have c2 : f 56 2 = nI wn := X.d.c2
  have c3 : f 56 3 = nI dk := X.d.c3
  have c4 : f 56 4 = nI sd := X.d.c4
  have c5 : f 56 5 = nI gb := X.d.c5
  have c6 : f 56 11 = nI pc := X.d.c6
  have c7 : f 56 14 = nI bc := X.d.c7
  have m0 : f 114 0 = nI n := X.d.m0
  have m1 : f 114 1 = nI sd := X.d.m1
  have m2 : f 114 2 = nI hr := X.d.m2
  have m3 : f 114 3 = nI wn := X.d.m3
  have m5 : f 114 37 = nI dk := X.d.m5
  have m6 : f 114 40 = nI pc := X.d.m6
  have m7 : f 114 43 = nI bc := X.d.m7
  have sl : ∀ s, s < n → f 57 s = nI (dK D s) ∧ f 58 s = nI (dV D s) ∧ f 59 s = nI (dL D s) ∧ f 60 s = nI (W s) ∧ W s ≤ 99 := X.d.sl
  have sm : ∀ s, s < n → f 115 s = nI (dK D s) ∧ f 116 s = nI (dV D s) ∧ f 117 s = nI (dL D s) ∧ f 118 s = nI (bt gb s) ∧ f 119 s = nI (W s) := X.d.sm
  have CEh : CE f h1 D n := X.ce
  have MEh : ME f D n := X.me
  have aw : f 114 4 = -1 := X.w
  have nn : ∀ x : Int32, (¬ x < 0 ∧ ¬ nI n - 1 < x) = (¬ x < 0 ∧ x < nI n) := fun x => propext (and_congr_right fun _ => lt_pred (by omega))
  have HL := CEh.1.2.1.f
  have A := all_of n7
  have k := fun d r => @s22 sc d r f g h1 h2 W n (2 ^ n - 1) sd gb n7 c0 c5 (fun s hs => (sl s hs).2.2.2) (lt_all n7)
  by_cases x0 : x = 0
  · subst x0
    simp only [c72, x72_0, x72_1, x72_40, x72_41, x72_44, x72_47, x72_48, x72_49, x72_52, x72_55, x72_56, x72_57, x72_60, x72_61, x72_64, x72_67, x72_68, x72_71, x72_74, x72_77, x72_78, x72_79, x72_82, x72_85, x72_88, x72_89, x72_90, x72_93, x72_96, x72_99, x72_100, x72_101, x72_104, x72_107, x72_108, x72_109, kp17, rf17_0, rp17_0, rf17_1, rp17_1, rf17_3, rp17_3, rf17_4, rp17_4, al20, iA20, iG20, rf17_6, rp17_6, rf17_7, rp17_7, rf17_8, rp17_8, al51, iA51, iG51, kp56, rf56_6, rp56_6, al57, iA57, it57, rf56_7, rp56_7, al58, iA58, it58, rf56_8, rp56_8, al59, iA59, it59, rf56_9, rp56_9, al60, iA60, it60, rf56_10, rp56_10, al61, iA61, it61, rf56_12, rp56_12, al62, iA62, it62, rf56_13, rp56_13, al63, iA63, it63, rf56_15, rp56_15, al64, iA64, it64, rf56_16, rp56_16, al65, iA65, it65, rf56_17, rp56_17, rf56_18, rp56_18, al66, iA66, it66, c1, kn0_1, kn0_2, kn0_3, kn0_4, kn0_5, kn0_6, kn1_0, kn1_2, kn1_3, kn1_4, kn1_5, kn1_6, kn2_0, kn2_1, kn2_3, kn2_4, kn2_5, kn2_6, kn3_0, kn3_1, kn3_2, kn3_4, kn3_5, kn3_6, kn4_0, kn4_1, kn4_2, kn4_3, kn4_5, kn4_6, kn5_0, kn5_1, kn5_2, kn5_3, kn5_4, kn5_6, kn6_0, kn6_1, kn6_2, kn6_3, kn6_4, kn6_5, bI_True, bI_False, nI_1, Nat.reduceLeDiff, Nat.reduceEqDiff, nb0, nb1, nbI, eq_self, ex_pr, tl_s, tl_n, if_true, if_false, not_true_eq_false, not_false_eq_true, and_self, and_false, false_and, and_true, true_and]
  by_cases x1 : x = 1
  · subst x1
    simp only [c72, x72_0, x72_1, x72_40, x72_41, x72_44, x72_47, x72_48, x72_49, x72_52, x72_55, x72_56, x72_57, x72_60, x72_61, x72_64, x72_67, x72_68, x72_71, x72_74, x72_77, x72_78, x72_79, x72_82, x72_85, x72_88, x72_89, x72_90, x72_93, x72_96, x72_99, x72_100, x72_101, x72_104, x72_107, x72_108, x72_109, kp17, rf17_0, rp17_0, rf17_1, rp17_1, rf17_3, rp17_3, rf17_4, rp17_4, al20, iA20, iG20, rf17_6, rp17_6, rf17_7, rp17_7, rf17_8, rp17_8, al51, iA51, iG51, kp56, rf56_6, rp56_6, al57, iA57, it57, rf56_7, rp56_7, al58, iA58, it58, rf56_8, rp56_8, al59, iA59, it59, rf56_9, rp56_9, al60, iA60, it60, rf56_10, rp56_10, al61, iA61, it61, rf56_12, rp56_12, al62, iA62, it62, rf56_13, rp56_13, al63, iA63, it63, rf56_15, rp56_15, al64, iA64, it64, rf56_16, rp56_16, al65, iA65, it65, rf56_17, rp56_17, rf56_18, rp56_18, al66, iA66, it66, c2, kn0_1, kn0_2, kn0_3, kn0_4, kn0_5, kn0_6, kn1_0, kn1_2, kn1_3, kn1_4, kn1_5, kn1_6, kn2_0, kn2_1, kn2_3, kn2_4, kn2_5, kn2_6, kn3_0, kn3_1, kn3_2, kn3_4, kn3_5, kn3_6, kn4_0, kn4_1, kn4_2, kn4_3, kn4_5, kn4_6, kn5_0, kn5_1, kn5_2, kn5_3, kn5_4, kn5_6, kn6_0, kn6_1, kn6_2, kn6_3, kn6_4, kn6_5, bI_True, bI_False, nI_1, Nat.reduceLeDiff, Nat.reduceEqDiff, nb0, nb1, nbI, eq_self, ex_pr, tl_s, tl_n, if_true, if_false, not_true_eq_false, not_false_eq_true, and_self, and_false, false_and, and_true, true_and]
  by_cases x2 : x = 2
  · subst x2
    simp only [c72, x72_0, x72_1, x72_40, x72_41, x72_44, x72_47, x72_48, x72_49, x72_52, x72_55, x72_56, x72_57, x72_60, x72_61, x72_64, x72_67, x72_68, x72_71, x72_74, x72_77, x72_78, x72_79, x72_82, x72_85, x72_88, x72_89, x72_90, x72_93, x72_96, x72_99, x72_100, x72_101, x72_104, x72_107, x72_108, x72_109, kp17, rf17_0, rp17_0, rf17_1, rp17_1, rf17_3, rp17_3, rf17_4, rp17_4, al20, iA20, iG20, rf17_6, rp17_6, rf17_7, rp17_7, rf17_8, rp17_8, al51, iA51, iG51, kp56, rf56_6, rp56_6, al57, iA57, it57, rf56_7, rp56_7, al58, iA58, it58, rf56_8, rp56_8, al59, iA59, it59, rf56_9, rp56_9, al60, iA60, it60, rf56_10, rp56_10, al61, iA61, it61, rf56_12, rp56_12, al62, iA62, it62, rf56_13, rp56_13, al63, iA63, it63, rf56_15, rp56_15, al64, iA64, it64, rf56_16, rp56_16, al65, iA65, it65, rf56_17, rp56_17, rf56_18, rp56_18, al66, iA66, it66, c4, s8, c0, A, k, kn0_1, kn0_2, kn0_3, kn0_4, kn0_5, kn0_6, kn1_0, kn1_2, kn1_3, kn1_4, kn1_5, kn1_6, kn2_0, kn2_1, kn2_3, kn2_4, kn2_5, kn2_6, kn3_0, kn3_1, kn3_2, kn3_4, kn3_5, kn3_6, kn4_0, kn4_1, kn4_2, kn4_3, kn4_5, kn4_6, kn5_0, kn5_1, kn5_2, kn5_3, kn5_4, kn5_6, kn6_0, kn6_1, kn6_2, kn6_3, kn6_4, kn6_5, bI_True, bI_False, nI_1, Nat.reduceLeDiff, Nat.reduceEqDiff, nb0, nb1, nbI, eq_self, ex_pr, tl_s, tl_n, if_true, if_false, not_true_eq_false, not_false_eq_true, and_self, and_false, false_and, and_true, true_and]
  by_cases x3 : x = 3
  · subst x3
    simp only [c72, x72_0, x72_1, x72_40, x72_41, x72_44, x72_47, x72_48, x72_49, x72_52, x72_55, x72_56, x72_57, x72_60, x72_61, x72_64, x72_67, x72_68, x72_71, x72_74, x72_77, x72_78, x72_79, x72_82, x72_85, x72_88, x72_89, x72_90, x72_93, x72_96, x72_99, x72_100, x72_101, x72_104, x72_107, x72_108, x72_109, kp17, rf17_0, rp17_0, rf17_1, rp17_1, rf17_3, rp17_3, rf17_4, rp17_4, al20, iA20, iG20, rf17_6, rp17_6, rf17_7, rp17_7, rf17_8, rp17_8, al51, iA51, iG51, kp56, rf56_6, rp56_6, al57, iA57, it57, rf56_7, rp56_7, al58, iA58, it58, rf56_8, rp56_8, al59, iA59, it59, rf56_9, rp56_9, al60, iA60, it60, rf56_10, rp56_10, al61, iA61, it61, rf56_12, rp56_12, al62, iA62, it62, rf56_13, rp56_13, al63, iA63, it63, rf56_15, rp56_15, al64, iA64, it64, rf56_16, rp56_16, al65, iA65, it65, rf56_17, rp56_17, rf56_18, rp56_18, al66, iA66, it66, HL.k, HL.g, CEh.2.1, kn0_1, kn0_2, kn0_3, kn0_4, kn0_5, kn0_6, kn1_0, kn1_2, kn1_3, kn1_4, kn1_5, kn1_6, kn2_0, kn2_1, kn2_3, kn2_4, kn2_5, kn2_6, kn3_0, kn3_1, kn3_2, kn3_4, kn3_5, kn3_6, kn4_0, kn4_1, kn4_2, kn4_3, kn4_5, kn4_6, kn5_0, kn5_1, kn5_2, kn5_3, kn5_4, kn5_6, kn6_0, kn6_1, kn6_2, kn6_3, kn6_4, kn6_5, bI_True, bI_False, nI_1, Nat.reduceLeDiff, Nat.reduceEqDiff, nb0, nb1, nbI, eq_self, ex_pr, tl_s, tl_n, if_true, if_false, not_true_eq_false, not_false_eq_true, and_self, and_false, false_and, and_true, true_and]
  by_cases x4 : x = 4
  · subst x4
    simp only [c72, x72_0, x72_1, x72_40, x72_41, x72_44, x72_47, x72_48, x72_49, x72_52, x72_55, x72_56, x72_57, x72_60, x72_61, x72_64, x72_67, x72_68, x72_71, x72_74, x72_77, x72_78, x72_79, x72_82, x72_85, x72_88, x72_89, x72_90, x72_93, x72_96, x72_99, x72_100, x72_101, x72_104, x72_107, x72_108, x72_109, kp17, rf17_0, rp17_0, rf17_1, rp17_1, rf17_3, rp17_3, rf17_4, rp17_4, al20, iA20, iG20, rf17_6, rp17_6, rf17_7, rp17_7, rf17_8, rp17_8, al51, iA51, iG51, kp56, rf56_6, rp56_6, al57, iA57, it57, rf56_7, rp56_7, al58, iA58, it58, rf56_8, rp56_8, al59, iA59, it59, rf56_9, rp56_9, al60, iA60, it60, rf56_10, rp56_10, al61, iA61, it61, rf56_12, rp56_12, al62, iA62, it62, rf56_13, rp56_13, al63, iA63, it63, rf56_15, rp56_15, al64, iA64, it64, rf56_16, rp56_16, al65, iA65, it65, rf56_17, rp56_17, rf56_18, rp56_18, al66, iA66, it66, HL.k, HL.g, CEh.2.2, kn0_1, kn0_2, kn0_3, kn0_4, kn0_5, kn0_6, kn1_0, kn1_2, kn1_3, kn1_4, kn1_5, kn1_6, kn2_0, kn2_1, kn2_3, kn2_4, kn2_5, kn2_6, kn3_0, kn3_1, kn3_2, kn3_4, kn3_5, kn3_6, kn4_0, kn4_1, kn4_2, kn4_3, kn4_5, kn4_6, kn5_0, kn5_1, kn5_2, kn5_3, kn5_4, kn5_6, kn6_0, kn6_1, kn6_2, kn6_3, kn6_4, kn6_5, bI_True, bI_False, nI_1, Nat.reduceLeDiff, Nat.reduceEqDiff, nb0, nb1, nbI, eq_self, ex_pr, tl_s, tl_n, if_true, if_false, not_true_eq_false, not_false_eq_true, and_self, and_false, false_and, and_true, true_and]
  by_cases x5 : x = 5
  · subst x5
    simp only [c72, x72_0, x72_1, x72_40, x72_41, x72_44, x72_47, x72_48, x72_49, x72_52, x72_55, x72_56, x72_57, x72_60, x72_61, x72_64, x72_67, x72_68, x72_71, x72_74, x72_77, x72_78, x72_79, x72_82, x72_85, x72_88, x72_89, x72_90, x72_93, x72_96, x72_99, x72_100, x72_101, x72_104, x72_107, x72_108, x72_109, kp17, rf17_0, rp17_0, rf17_1, rp17_1, rf17_3, rp17_3, rf17_4, rp17_4, al20, iA20, iG20, rf17_6, rp17_6, rf17_7, rp17_7, rf17_8, rp17_8, al51, iA51, iG51, kp56, rf56_6, rp56_6, al57, iA57, it57, rf56_7, rp56_7, al58, iA58, it58, rf56_8, rp56_8, al59, iA59, it59, rf56_9, rp56_9, al60, iA60, it60, rf56_10, rp56_10, al61, iA61, it61, rf56_12, rp56_12, al62, iA62, it62, rf56_13, rp56_13, al63, iA63, it63, rf56_15, rp56_15, al64, iA64, it64, rf56_16, rp56_16, al65, iA65, it65, rf56_17, rp56_17, rf56_18, rp56_18, al66, iA66, it66, c4, kn0_1, kn0_2, kn0_3, kn0_4, kn0_5, kn0_6, kn1_0, kn1_2, kn1_3, kn1_4, kn1_5, kn1_6, kn2_0, kn2_1, kn2_3, kn2_4, kn2_5, kn2_6, kn3_0, kn3_1, kn3_2, kn3_4, kn3_5, kn3_6, kn4_0, kn4_1, kn4_2, kn4_3, kn4_5, kn4_6, kn5_0, kn5_1, kn5_2, kn5_3, kn5_4, kn5_6, kn6_0, kn6_1, kn6_2, kn6_3, kn6_4, kn6_5, bI_True, bI_False, nI_1, Nat.reduceLeDiff, Nat.reduceEqDiff, nb0, nb1, nbI, eq_self, ex_pr, tl_s, tl_n, if_true, if_false, not_true_eq_false, not_false_eq_true, and_self, and_false, false_and, and_true, true_and]
  · simp only [c72, x72_0, x72_1, x72_40, x72_41, x72_44, x72_47, x72_48, x72_49, x72_52, x72_55, x72_56, x72_57, x72_60, x72_61, x72_64, x72_67, x72_68, x72_71, x72_74, x72_77, x72_78, x72_79, x72_82, x72_85, x72_88, x72_89, x72_90, x72_93, x72_96, x72_99, x72_100, x72_101, x72_104, x72_107, x72_108, x72_109, x0, x1, x2, x3, x4, x5, bI_True, bI_False, nI_1, Nat.reduceLeDiff, Nat.reduceEqDiff, nb0, nb1, nbI, eq_self, ex_pr, tl_s, tl_n, if_true, if_false, not_true_eq_false, not_false_eq_true, and_self, and_false, false_and, and_true, true_and]
theorem told_m (X : XP f g h1 h2 n hr wn dk sd gb pc bc W D hc HS) (x : Int32) : Cl sc (d + 30) 145 [.ref (114 : Nat), .int x] (cS f g h1 h2) (cS f g h1 h2, some (.int (if x = 0 then nI hr else if x = 1 then nI wn else if x = 2 then nI (ga W (2 ^ n - 1) sd gb n 0) else if x = 3 then nI (ndH (dH D)) else if x = 4 then nI (rpH (dH D)) else if x = 5 then nI sd else -1))) := by
  have n7 : n ≤ 7 := X.d.b0
  have b1 : hr ≤ 9999 := X.d.b1
  have b2 : wn ≤ 9999 := X.d.b2
  have p2n : 2 ^ n ≤ 128 := p2_7 n7
  have b3 : dk < 2 ^ n := X.d.b3
  have b4 : sd < 2 ^ n := X.d.b4
  have b5 : gb < 2 ^ n := X.d.b5
  have b6 : pc ≤ 12 := X.d.b6
  have b7 : bc ≤ 12 := X.d.b7
  have c0 : f 56 0 = nI n := X.d.c0
  have c1 : f 56 1 = nI hr := X.d.c1
  have c2 : f 56 2 = nI wn := X.d.c2
  have c3 : f 56 3 = nI dk := X.d.c3
  have c4 : f 56 4 = nI sd := X.d.c4
  have c5 : f 56 5 = nI gb := X.d.c5
  have c6 : f 56 11 = nI pc := X.d.c6
  have c7 : f 56 14 = nI bc := X.d.c7
  have m0 : f 114 0 = nI n := X.d.m0
  have m1 : f 114 1 = nI sd := X.d.m1
  have m2 : f 114 2 = nI hr := X.d.m2
  have m3 : f 114 3 = nI wn := X.d.m3
  have m5 : f 114 37 = nI dk := X.d.m5
  have m6 : f 114 40 = nI pc := X.d.m6
  have m7 : f 114 43 = nI bc := X.d.m7
  have sl : ∀ s, s < n → f 57 s = nI (dK D s) ∧ f 58 s = nI (dV D s) ∧ f 59 s = nI (dL D s) ∧ f 60 s = nI (W s) ∧ W s ≤ 99 := X.d.sl
  have sm : ∀ s, s < n → f 115 s = nI (dK D s) ∧ f 116 s = nI (dV D s) ∧ f 117 s = nI (dL D s) ∧ f 118 s = nI (bt gb s) ∧ f 119 s = nI (W s) := X.d.sm
  have CEh : CE f h1 D n := X.ce
  have MEh : ME f D n := X.me
  have aw : f 114 4 = -1 := X.w
  have nn : ∀ x : Int32, (¬ x < 0 ∧ ¬ nI n - 1 < x) = (¬ x < 0 ∧ x < nI n) := fun x => propext (and_congr_right fun _ => lt_pred (by omega))
  have k2 := fun d r => @s132 sc d r f g h1 h2 D 2 1 MEh.2.2.2 MEh.1.2.2.2.1 (by decide)
  have k3 := fun d r => @s133 sc d r f g h1 h2 D MEh.2.2.2 MEh.1.2.2.2.1
  have k := fun d r => @s143 sc d r f g h1 h2 W n (2 ^ n - 1) sd gb 7 n7 m0 m1 (by omega) (fun s hs => ⟨(sm s hs).2.2.2.1, (sm s hs).2.2.2.2, (sl s hs).2.2.2.2⟩) (by rw [aw]; rfl) (fun s hs => by rw [bt1, tb_all, decide_eq_true hs]; exact ⟨fun _ => by omega, fun _ => rfl⟩)
  have u : lst 2 (dH D) 1 = ndH (dH D) := rfl
  rw [lt2, lt1, u] at k2
  by_cases x0 : x = 0
  · subst x0
    simp only [c145, x145_0, x145_1, x145_40, x145_41, x145_44, x145_45, x145_46, x145_49, x145_50, x145_51, x145_54, x145_55, x145_56, x145_57, x145_58, x145_61, x145_62, x145_63, x145_66, x145_67, x145_68, x145_71, x145_72, x145_73, kp114, rf114_5, rp114_5, al115, iA115, it115, rf114_6, rp114_6, al116, iA116, it116, rf114_7, rp114_7, al117, iA117, it117, rf114_8, rp114_8, al118, iA118, it118, rf114_9, rp114_9, al119, iA119, it119, rf114_10, rp114_10, al120, iA120, it120, rf114_16, rp114_16, al121, iA121, it121, rf114_17, rp114_17, al122, iA122, it122, rf114_18, rp114_18, al123, iA123, it123, rf114_19, rp114_19, al124, iA124, it124, rf114_20, rp114_20, al125, iA125, it125, rf114_21, rp114_21, al126, iA126, it126, rf114_22, rp114_22, al127, iA127, it127, rf114_23, rp114_23, al128, iA128, it128, rf114_27, rp114_27, al129, iA129, it129, rf114_28, rp114_28, al130, iA130, it130, rf114_29, rp114_29, al131, iA131, it131, rf114_30, rp114_30, al132, iA132, it132, rf114_31, rp114_31, al133, iA133, it133, rf114_41, rp114_41, al134, iA134, it134, rf114_42, rp114_42, al135, iA135, it135, rf114_44, rp114_44, al136, iA136, it136, rf114_45, rp114_45, al137, iA137, it137, rf114_55, rp114_55, al138, iA138, it138, rf114_56, rp114_56, al139, iA139, it139, rf114_57, rp114_57, al140, iA140, it140, rf114_58, rp114_58, al141, iA141, it141, rf114_59, rp114_59, al142, iA142, it142, rf114_60, rp114_60, al143, iA143, it143, rf114_61, rp114_61, al144, iA144, it144, rf114_62, rp114_62, al145, iA145, it145, rf114_63, rp114_63, al146, iA146, it146, rf114_64, rp114_64, al147, iA147, it147, rf114_66, rp114_66, al148, iA148, it148, rf114_67, rp114_67, al149, iA149, it149, rf114_68, rp114_68, al150, iA150, it150, rf114_69, rp114_69, al151, iA151, it151, rf114_70, rp114_70, al152, iA152, it152, m2, kn0_1, kn0_2, kn0_3, kn0_4, kn0_5, kn0_6, kn1_0, kn1_2, kn1_3, kn1_4, kn1_5, kn1_6, kn2_0, kn2_1, kn2_3, kn2_4, kn2_5, kn2_6, kn3_0, kn3_1, kn3_2, kn3_4, kn3_5, kn3_6, kn4_0, kn4_1, kn4_2, kn4_3, kn4_5, kn4_6, kn5_0, kn5_1, kn5_2, kn5_3, kn5_4, kn5_6, kn6_0, kn6_1, kn6_2, kn6_3, kn6_4, kn6_5, bI_True, bI_False, nI_1, Nat.reduceLeDiff, Nat.reduceEqDiff, nb0, nb1, nbI, eq_self, ex_pr, tl_s, tl_n, if_true, if_false, not_true_eq_false, not_false_eq_true, and_self, and_false, false_and, and_true, true_and]
  by_cases x1 : x = 1
  · subst x1
    simp only [c145, x145_0, x145_1, x145_40, x145_41, x145_44, x145_45, x145_46, x145_49, x145_50, x145_51, x145_54, x145_55, x145_56, x145_57, x145_58, x145_61, x145_62, x145_63, x145_66, x145_67, x145_68, x145_71, x145_72, x145_73, kp114, rf114_5, rp114_5, al115, iA115, it115, rf114_6, rp114_6, al116, iA116, it116, rf114_7, rp114_7, al117, iA117, it117, rf114_8, rp114_8, al118, iA118, it118, rf114_9, rp114_9, al119, iA119, it119, rf114_10, rp114_10, al120, iA120, it120, rf114_16, rp114_16, al121, iA121, it121, rf114_17, rp114_17, al122, iA122, it122, rf114_18, rp114_18, al123, iA123, it123, rf114_19, rp114_19, al124, iA124, it124, rf114_20, rp114_20, al125, iA125, it125, rf114_21, rp114_21, al126, iA126, it126, rf114_22, rp114_22, al127, iA127, it127, rf114_23, rp114_23, al128, iA128, it128, rf114_27, rp114_27, al129, iA129, it129, rf114_28, rp114_28, al130, iA130, it130, rf114_29, rp114_29, al131, iA131, it131, rf114_30, rp114_30, al132, iA132, it132, rf114_31, rp114_31, al133, iA133, it133, rf114_41, rp114_41, al134, iA134, it134, rf114_42, rp114_42, al135, iA135, it135, rf114_44, rp114_44, al136, iA136, it136, rf114_45, rp114_45, al137, iA137, it137, rf114_55, rp114_55, al138, iA138, it138, rf114_56, rp114_56, al139, iA139, it139, rf114_57, rp114_57, al140, iA140, it140, rf114_58, rp114_58, al141, iA141, it141, rf114_59, rp114_59, al142, iA142, it142, rf114_60, rp114_60, al143, iA143, it143, rf114_61, rp114_61, al144, iA144, it144, rf114_62, rp114_62, al145, iA145, it145, rf114_63, rp114_63, al146, iA146, it146, rf114_64, rp114_64, al147, iA147, it147, rf114_66, rp114_66, al148, iA148, it148, rf114_67, rp114_67, al149, iA149, it149, rf114_68, rp114_68, al150, iA150, it150, rf114_69, rp114_69, al151, iA151, it151, rf114_70, rp114_70, al152, iA152, it152, m3, kn0_1, kn0_2, kn0_3, kn0_4, kn0_5, kn0_6, kn1_0, kn1_2, kn1_3, kn1_4, kn1_5, kn1_6, kn2_0, kn2_1, kn2_3, kn2_4, kn2_5, kn2_6, kn3_0, kn3_1, kn3_2, kn3_4, kn3_5, kn3_6, kn4_0, kn4_1, kn4_2, kn4_3, kn4_5, kn4_6, kn5_0, kn5_1, kn5_2, kn5_3, kn5_4, kn5_6, kn6_0, kn6_1, kn6_2, kn6_3, kn6_4, kn6_5, bI_True, bI_False, nI_1, Nat.reduceLeDiff, Nat.reduceEqDiff, nb0, nb1, nbI, eq_self, ex_pr, tl_s, tl_n, if_true, if_false, not_true_eq_false, not_false_eq_true, and_self, and_false, false_and, and_true, true_and]
  by_cases x2 : x = 2
  · subst x2
    simp only [c145, x145_0, x145_1, x145_40, x145_41, x145_44, x145_45, x145_46, x145_49, x145_50, x145_51, x145_54, x145_55, x145_56, x145_57, x145_58, x145_61, x145_62, x145_63, x145_66, x145_67, x145_68, x145_71, x145_72, x145_73, kp114, rf114_5, rp114_5, al115, iA115, it115, rf114_6, rp114_6, al116, iA116, it116, rf114_7, rp114_7, al117, iA117, it117, rf114_8, rp114_8, al118, iA118, it118, rf114_9, rp114_9, al119, iA119, it119, rf114_10, rp114_10, al120, iA120, it120, rf114_16, rp114_16, al121, iA121, it121, rf114_17, rp114_17, al122, iA122, it122, rf114_18, rp114_18, al123, iA123, it123, rf114_19, rp114_19, al124, iA124, it124, rf114_20, rp114_20, al125, iA125, it125, rf114_21, rp114_21, al126, iA126, it126, rf114_22, rp114_22, al127, iA127, it127, rf114_23, rp114_23, al128, iA128, it128, rf114_27, rp114_27, al129, iA129, it129, rf114_28, rp114_28, al130, iA130, it130, rf114_29, rp114_29, al131, iA131, it131, rf114_30, rp114_30, al132, iA132, it132, rf114_31, rp114_31, al133, iA133, it133, rf114_41, rp114_41, al134, iA134, it134, rf114_42, rp114_42, al135, iA135, it135, rf114_44, rp114_44, al136, iA136, it136, rf114_45, rp114_45, al137, iA137, it137, rf114_55, rp114_55, al138, iA138, it138, rf114_56, rp114_56, al139, iA139, it139, rf114_57, rp114_57, al140, iA140, it140, rf114_58, rp114_58, al141, iA141, it141, rf114_59, rp114_59, al142, iA142, it142, rf114_60, rp114_60, al143, iA143, it143, rf114_61, rp114_61, al144, iA144, it144, rf114_62, rp114_62, al145, iA145, it145, rf114_63, rp114_63, al146, iA146, it146, rf114_64, rp114_64, al147, iA147, it147, rf114_66, rp114_66, al148, iA148, it148, rf114_67, rp114_67, al149, iA149, it149, rf114_68, rp114_68, al150, iA150, it150, rf114_69, rp114_69, al151, iA151, it151, rf114_70, rp114_70, al152, iA152, it152, k, kn0_1, kn0_2, kn0_3, kn0_4, kn0_5, kn0_6, kn1_0, kn1_2, kn1_3, kn1_4, kn1_5, kn1_6, kn2_0, kn2_1, kn2_3, kn2_4, kn2_5, kn2_6, kn3_0, kn3_1, kn3_2, kn3_4, kn3_5, kn3_6, kn4_0, kn4_1, kn4_2, kn4_3, kn4_5, kn4_6, kn5_0, kn5_1, kn5_2, kn5_3, kn5_4, kn5_6, kn6_0, kn6_1, kn6_2, kn6_3, kn6_4, kn6_5, bI_True, bI_False, nI_1, Nat.reduceLeDiff, Nat.reduceEqDiff, nb0, nb1, nbI, eq_self, ex_pr, tl_s, tl_n, if_true, if_false, not_true_eq_false, not_false_eq_true, and_self, and_false, false_and, and_true, true_and]
  by_cases x3 : x = 3
  · subst x3
    simp only [c145, x145_0, x145_1, x145_40, x145_41, x145_44, x145_45, x145_46, x145_49, x145_50, x145_51, x145_54, x145_55, x145_56, x145_57, x145_58, x145_61, x145_62, x145_63, x145_66, x145_67, x145_68, x145_71, x145_72, x145_73, kp114, rf114_5, rp114_5, al115, iA115, it115, rf114_6, rp114_6, al116, iA116, it116, rf114_7, rp114_7, al117, iA117, it117, rf114_8, rp114_8, al118, iA118, it118, rf114_9, rp114_9, al119, iA119, it119, rf114_10, rp114_10, al120, iA120, it120, rf114_16, rp114_16, al121, iA121, it121, rf114_17, rp114_17, al122, iA122, it122, rf114_18, rp114_18, al123, iA123, it123, rf114_19, rp114_19, al124, iA124, it124, rf114_20, rp114_20, al125, iA125, it125, rf114_21, rp114_21, al126, iA126, it126, rf114_22, rp114_22, al127, iA127, it127, rf114_23, rp114_23, al128, iA128, it128, rf114_27, rp114_27, al129, iA129, it129, rf114_28, rp114_28, al130, iA130, it130, rf114_29, rp114_29, al131, iA131, it131, rf114_30, rp114_30, al132, iA132, it132, rf114_31, rp114_31, al133, iA133, it133, rf114_41, rp114_41, al134, iA134, it134, rf114_42, rp114_42, al135, iA135, it135, rf114_44, rp114_44, al136, iA136, it136, rf114_45, rp114_45, al137, iA137, it137, rf114_55, rp114_55, al138, iA138, it138, rf114_56, rp114_56, al139, iA139, it139, rf114_57, rp114_57, al140, iA140, it140, rf114_58, rp114_58, al141, iA141, it141, rf114_59, rp114_59, al142, iA142, it142, rf114_60, rp114_60, al143, iA143, it143, rf114_61, rp114_61, al144, iA144, it144, rf114_62, rp114_62, al145, iA145, it145, rf114_63, rp114_63, al146, iA146, it146, rf114_64, rp114_64, al147, iA147, it147, rf114_66, rp114_66, al148, iA148, it148, rf114_67, rp114_67, al149, iA149, it149, rf114_68, rp114_68, al150, iA150, it150, rf114_69, rp114_69, al151, iA151, it151, rf114_70, rp114_70, al152, iA152, it152, k2, kn0_1, kn0_2, kn0_3, kn0_4, kn0_5, kn0_6, kn1_0, kn1_2, kn1_3, kn1_4, kn1_5, kn1_6, kn2_0, kn2_1, kn2_3, kn2_4, kn2_5, kn2_6, kn3_0, kn3_1, kn3_2, kn3_4, kn3_5, kn3_6, kn4_0, kn4_1, kn4_2, kn4_3, kn4_5, kn4_6, kn5_0, kn5_1, kn5_2, kn5_3, kn5_4, kn5_6, kn6_0, kn6_1, kn6_2, kn6_3, kn6_4, kn6_5, bI_True, bI_False, nI_1, Nat.reduceLeDiff, Nat.reduceEqDiff, nb0, nb1, nbI, eq_self, ex_pr, tl_s, tl_n, if_true, if_false, not_true_eq_false, not_false_eq_true, and_self, and_false, false_and, and_true, true_and]
  by_cases x4 : x = 4
  · subst x4
    simp only [c145, x145_0, x145_1, x145_40, x145_41, x145_44, x145_45, x145_46, x145_49, x145_50, x145_51, x145_54, x145_55, x145_56, x145_57, x145_58, x145_61, x145_62, x145_63, x145_66, x145_67, x145_68, x145_71, x145_72, x145_73, kp114, rf114_5, rp114_5, al115, iA115, it115, rf114_6, rp114_6, al116, iA116, it116, rf114_7, rp114_7, al117, iA117, it117, rf114_8, rp114_8, al118, iA118, it118, rf114_9, rp114_9, al119, iA119, it119, rf114_10, rp114_10, al120, iA120, it120, rf114_16, rp114_16, al121, iA121, it121, rf114_17, rp114_17, al122, iA122, it122, rf114_18, rp114_18, al123, iA123, it123, rf114_19, rp114_19, al124, iA124, it124, rf114_20, rp114_20, al125, iA125, it125, rf114_21, rp114_21, al126, iA126, it126, rf114_22, rp114_22, al127, iA127, it127, rf114_23, rp114_23, al128, iA128, it128, rf114_27, rp114_27, al129, iA129, it129, rf114_28, rp114_28, al130, iA130, it130, rf114_29, rp114_29, al131, iA131, it131, rf114_30, rp114_30, al132, iA132, it132, rf114_31, rp114_31, al133, iA133, it133, rf114_41, rp114_41, al134, iA134, it134, rf114_42, rp114_42, al135, iA135, it135, rf114_44, rp114_44, al136, iA136, it136, rf114_45, rp114_45, al137, iA137, it137, rf114_55, rp114_55, al138, iA138, it138, rf114_56, rp114_56, al139, iA139, it139, rf114_57, rp114_57, al140, iA140, it140, rf114_58, rp114_58, al141, iA141, it141, rf114_59, rp114_59, al142, iA142, it142, rf114_60, rp114_60, al143, iA143, it143, rf114_61, rp114_61, al144, iA144, it144, rf114_62, rp114_62, al145, iA145, it145, rf114_63, rp114_63, al146, iA146, it146, rf114_64, rp114_64, al147, iA147, it147, rf114_66, rp114_66, al148, iA148, it148, rf114_67, rp114_67, al149, iA149, it149, rf114_68, rp114_68, al150, iA150, it150, rf114_69, rp114_69, al151, iA151, it151, rf114_70, rp114_70, al152, iA152, it152, k3, kn0_1, kn0_2, kn0_3, kn0_4, kn0_5, kn0_6, kn1_0, kn1_2, kn1_3, kn1_4, kn1_5, kn1_6, kn2_0, kn2_1, kn2_3, kn2_4, kn2_5, kn2_6, kn3_0, kn3_1, kn3_2, kn3_4, kn3_5, kn3_6, kn4_0, kn4_1, kn4_2, kn4_3, kn4_5, kn4_6, kn5_0, kn5_1, kn5_2, kn5_3, kn5_4, kn5_6, kn6_0, kn6_1, kn6_2, kn6_3, kn6_4, kn6_5, bI_True, bI_False, nI_1, Nat.reduceLeDiff, Nat.reduceEqDiff, nb0, nb1, nbI, eq_self, ex_pr, tl_s, tl_n, if_true, if_false, not_true_eq_false, not_false_eq_true, and_self, and_false, false_and, and_true, true_and]
  by_cases x5 : x = 5
  · subst x5
    simp only [c145, x145_0, x145_1, x145_40, x145_41, x145_44, x145_45, x145_46, x145_49, x145_50, x145_51, x145_54, x145_55, x145_56, x145_57, x145_58, x145_61, x145_62, x145_63, x145_66, x145_67, x145_68, x145_71, x145_72, x145_73, kp114, rf114_5, rp114_5, al115, iA115, it115, rf114_6, rp114_6, al116, iA116, it116, rf114_7, rp114_7, al117, iA117, it117, rf114_8, rp114_8, al118, iA118, it118, rf114_9, rp114_9, al119, iA119, it119, rf114_10, rp114_10, al120, iA120, it120, rf114_16, rp114_16, al121, iA121, it121, rf114_17, rp114_17, al122, iA122, it122, rf114_18, rp114_18, al123, iA123, it123, rf114_19, rp114_19, al124, iA124, it124, rf114_20, rp114_20, al125, iA125, it125, rf114_21, rp114_21, al126, iA126, it126, rf114_22, rp114_22, al127, iA127, it127, rf114_23, rp114_23, al128, iA128, it128, rf114_27, rp114_27, al129, iA129, it129, rf114_28, rp114_28, al130, iA130, it130, rf114_29, rp114_29, al131, iA131, it131, rf114_30, rp114_30, al132, iA132, it132, rf114_31, rp114_31, al133, iA133, it133, rf114_41, rp114_41, al134, iA134, it134, rf114_42, rp114_42, al135, iA135, it135, rf114_44, rp114_44, al136, iA136, it136, rf114_45, rp114_45, al137, iA137, it137, rf114_55, rp114_55, al138, iA138, it138, rf114_56, rp114_56, al139, iA139, it139, rf114_57, rp114_57, al140, iA140, it140, rf114_58, rp114_58, al141, iA141, it141, rf114_59, rp114_59, al142, iA142, it142, rf114_60, rp114_60, al143, iA143, it143, rf114_61, rp114_61, al144, iA144, it144, rf114_62, rp114_62, al145, iA145, it145, rf114_63, rp114_63, al146, iA146, it146, rf114_64, rp114_64, al147, iA147, it147, rf114_66, rp114_66, al148, iA148, it148, rf114_67, rp114_67, al149, iA149, it149, rf114_68, rp114_68, al150, iA150, it150, rf114_69, rp114_69, al151, iA151, it151, rf114_70, rp114_70, al152, iA152, it152, m1, kn0_1, kn0_2, kn0_3, kn0_4, kn0_5, kn0_6, kn1_0, kn1_2, kn1_3, kn1_4, kn1_5, kn1_6, kn2_0, kn2_1, kn2_3, kn2_4, kn2_5, kn2_6, kn3_0, kn3_1, kn3_2, kn3_4, kn3_5, kn3_6, kn4_0, kn4_1, kn4_2, kn4_3, kn4_5, kn4_6, kn5_0, kn5_1, kn5_2, kn5_3, kn5_4, kn5_6, kn6_0, kn6_1, kn6_2, kn6_3, kn6_4, kn6_5, bI_True, bI_False, nI_1, Nat.reduceLeDiff, Nat.reduceEqDiff, nb0, nb1, nbI, eq_self, ex_pr, tl_s, tl_n, if_true, if_false, not_true_eq_false, not_false_eq_true, and_self, and_false, false_and, and_true, true_and]
  · simp only [c145, x145_0, x145_1, x145_40, x145_41, x145_44, x145_45, x145_46, x145_49, x145_50, x145_51, x145_54, x145_55, x145_56, x145_57, x145_58, x145_61, x145_62, x145_63, x145_66, x145_67, x145_68, x145_71, x145_72, x145_73, x0, x1, x2, x3, x4, x5, bI_True, bI_False, nI_1, Nat.reduceLeDiff, Nat.reduceEqDiff, nb0, nb1, nbI, eq_self, ex_pr, tl_s, tl_n, if_true, if_false, not_true_eq_false, not_false_eq_true, and_self, and_false, false_and, and_true, true_and]
theorem op_told (X : XP f g h1 h2 n hr wn dk sd gb pc bc W D hc HS) (x : Int32) : OPI sc (d + 30) 72 145 [.int x] f g h1 h2 := opi_q X (qc0 (told_c X x)) fun f1 X1 => qc0 (told_m X1 x)
theorem count_c {L m : Nat} (t1 : f 18 1 = nI L) (a1 : f 49 1 = nI m) (q1 : f 17 5 = nI hc) (X : XP f g h1 h2 n hr wn dk sd gb pc bc W D hc HS) (x : Int32) : Cl sc (d + 30) 97 [.ref (17 : Nat), .int x] (cS f g h1 h2) (cS f g h1 h2, some (.int (if x = 0 then nI n else if x = 1 then nI hc else if x = 2 then nI pc else if x = 3 then nI bc else if x = 4 then nI L else if x = 5 then nI m else -2))) := by
  have n7 : n ≤ 7 := X.d.b0
  have b1 : hr ≤ 9999 := X.d.b1
  have b2 : wn ≤ 9999 := X.d.b2
  have p2n : 2 ^ n ≤ 128 := p2_7 n7
  have b3 : dk < 2 ^ n := X.d.b3
  have b4 : sd < 2 ^ n := X.d.b4
  have b5 : gb < 2 ^ n := X.d.b5
  have b6 : pc ≤ 12 := X.d.b6
  have b7 : bc ≤ 12 := X.d.b7
  have c0 : f 56 0 = nI n := X.d.c0
  have c1 : f 56 1 = nI hr := X.d.c1
  have c2 : f 56 2 = nI wn := X.d.c2
  have c3 : f 56 3 = nI dk := X.d.c3
  have c4 : f 56 4 = nI sd := X.d.c4
  have c5 : f 56 5 = nI gb := X.d.c5
  have c6 : f 56 11 = nI pc := X.d.c6
  have c7 : f 56 14 = nI bc := X.d.c7
  have m0 : f 114 0 = nI n := X.d.m0
  have m1 : f 114 1 = nI sd := X.d.m1
  have m2 : f 114 2 = nI hr := X.d.m2
  have m3 : f 114 3 = nI wn := X.d.m3
  have m5 : f 114 37 = nI dk := X.d.m5
  have m6 : f 114 40 = nI pc := X.d.m6
  have m7 : f 114 43 = nI bc := X.d.m7
  have sl : ∀ s, s < n → f 57 s = nI (dK D s) ∧ f 58 s = nI (dV D s) ∧ f 59 s = nI (dL D s) ∧ f 60 s = nI (W s) ∧ W s ≤ 99 := X.d.sl
  have sm : ∀ s, s < n → f 115 s = nI (dK D s) ∧ f 116 s = nI (dV D s) ∧ f 117 s = nI (dL D s) ∧ f 118 s = nI (bt gb s) ∧ f 119 s = nI (W s) := X.d.sm
  have CEh : CE f h1 D n := X.ce
  have MEh : ME f D n := X.me
  have aw : f 114 4 = -1 := X.w
  have nn : ∀ x : Int32, (¬ x < 0 ∧ ¬ nI n - 1 < x) = (¬ x < 0 ∧ x < nI n) := fun x => propext (and_congr_right fun _ => lt_pred (by omega))
  by_cases x0 : x = 0
  · subst x0
    simp only [c97, x97_0, x97_1, x97_40, x97_41, x97_44, x97_47, x97_48, x97_49, x97_52, x97_53, x97_54, x97_57, x97_60, x97_61, x97_62, x97_65, x97_68, x97_69, x97_70, x97_73, x97_76, x97_77, x97_78, x97_81, x97_84, x97_85, x97_87, kp17, rf17_0, rp17_0, rf17_1, rp17_1, rf17_3, rp17_3, rf17_4, rp17_4, al20, iA20, iG20, rf17_6, rp17_6, rf17_7, rp17_7, rf17_8, rp17_8, al51, iA51, iG51, kp56, rf56_6, rp56_6, al57, iA57, it57, rf56_7, rp56_7, al58, iA58, it58, rf56_8, rp56_8, al59, iA59, it59, rf56_9, rp56_9, al60, iA60, it60, rf56_10, rp56_10, al61, iA61, it61, rf56_12, rp56_12, al62, iA62, it62, rf56_13, rp56_13, al63, iA63, it63, rf56_15, rp56_15, al64, iA64, it64, rf56_16, rp56_16, al65, iA65, it65, rf56_17, rp56_17, rf56_18, rp56_18, al66, iA66, it66, c0, kn0_1, kn0_2, kn0_3, kn0_4, kn0_5, kn0_6, kn1_0, kn1_2, kn1_3, kn1_4, kn1_5, kn1_6, kn2_0, kn2_1, kn2_3, kn2_4, kn2_5, kn2_6, kn3_0, kn3_1, kn3_2, kn3_4, kn3_5, kn3_6, kn4_0, kn4_1, kn4_2, kn4_3, kn4_5, kn4_6, kn5_0, kn5_1, kn5_2, kn5_3, kn5_4, kn5_6, kn6_0, kn6_1, kn6_2, kn6_3, kn6_4, kn6_5, bI_True, bI_False, nI_1, Nat.reduceLeDiff, Nat.reduceEqDiff, nb0, nb1, nbI, eq_self, ex_pr, tl_s, tl_n, if_true, if_false, not_true_eq_false, not_false_eq_true, and_self, and_false, false_and, and_true, true_and]
  by_cases x1 : x = 1
  · subst x1
    simp only [c97, x97_0, x97_1, x97_40, x97_41, x97_44, x97_47, x97_48, x97_49, x97_52, x97_53, x97_54, x97_57, x97_60, x97_61, x97_62, x97_65, x97_68, x97_69, x97_70, x97_73, x97_76, x97_77, x97_78, x97_81, x97_84, x97_85, x97_87, kp17, rf17_0, rp17_0, rf17_1, rp17_1, rf17_3, rp17_3, rf17_4, rp17_4, al20, iA20, iG20, rf17_6, rp17_6, rf17_7, rp17_7, rf17_8, rp17_8, al51, iA51, iG51, q1, kn0_1, kn0_2, kn0_3, kn0_4, kn0_5, kn0_6, kn1_0, kn1_2, kn1_3, kn1_4, kn1_5, kn1_6, kn2_0, kn2_1, kn2_3, kn2_4, kn2_5, kn2_6, kn3_0, kn3_1, kn3_2, kn3_4, kn3_5, kn3_6, kn4_0, kn4_1, kn4_2, kn4_3, kn4_5, kn4_6, kn5_0, kn5_1, kn5_2, kn5_3, kn5_4, kn5_6, kn6_0, kn6_1, kn6_2, kn6_3, kn6_4, kn6_5, bI_True, bI_False, nI_1, Nat.reduceLeDiff, Nat.reduceEqDiff, nb0, nb1, nbI, eq_self, ex_pr, tl_s, tl_n, if_true, if_false, not_true_eq_false, not_false_eq_true, and_self, and_false, false_and, and_true, true_and]
  by_cases x2 : x = 2
  · subst x2
    simp only [c97, x97_0, x97_1, x97_40, x97_41, x97_44, x97_47, x97_48, x97_49, x97_52, x97_53, x97_54, x97_57, x97_60, x97_61, x97_62, x97_65, x97_68, x97_69, x97_70, x97_73, x97_76, x97_77, x97_78, x97_81, x97_84, x97_85, x97_87, kp17, rf17_0, rp17_0, rf17_1, rp17_1, rf17_3, rp17_3, rf17_4, rp17_4, al20, iA20, iG20, rf17_6, rp17_6, rf17_7, rp17_7, rf17_8, rp17_8, al51, iA51, iG51, kp56, rf56_6, rp56_6, al57, iA57, it57, rf56_7, rp56_7, al58, iA58, it58, rf56_8, rp56_8, al59, iA59, it59, rf56_9, rp56_9, al60, iA60, it60, rf56_10, rp56_10, al61, iA61, it61, rf56_12, rp56_12, al62, iA62, it62, rf56_13, rp56_13, al63, iA63, it63, rf56_15, rp56_15, al64, iA64, it64, rf56_16, rp56_16, al65, iA65, it65, rf56_17, rp56_17, rf56_18, rp56_18, al66, iA66, it66, c6, kn0_1, kn0_2, kn0_3, kn0_4, kn0_5, kn0_6, kn1_0, kn1_2, kn1_3, kn1_4, kn1_5, kn1_6, kn2_0, kn2_1, kn2_3, kn2_4, kn2_5, kn2_6, kn3_0, kn3_1, kn3_2, kn3_4, kn3_5, kn3_6, kn4_0, kn4_1, kn4_2, kn4_3, kn4_5, kn4_6, kn5_0, kn5_1, kn5_2, kn5_3, kn5_4, kn5_6, kn6_0, kn6_1, kn6_2, kn6_3, kn6_4, kn6_5, bI_True, bI_False, nI_1, Nat.reduceLeDiff, Nat.reduceEqDiff, nb0, nb1, nbI, eq_self, ex_pr, tl_s, tl_n, if_true, if_false, not_true_eq_false, not_false_eq_true, and_self, and_false, false_and, and_true, true_and]
  by_cases x3 : x = 3
  · subst x3
    simp only [c97, x97_0, x97_1, x97_40, x97_41, x97_44, x97_47, x97_48, x97_49, x97_52, x97_53, x97_54, x97_57, x97_60, x97_61, x97_62, x97_65, x97_68, x97_69, x97_70, x97_73, x97_76, x97_77, x97_78, x97_81, x97_84, x97_85, x97_87, kp17, rf17_0, rp17_0, rf17_1, rp17_1, rf17_3, rp17_3, rf17_4, rp17_4, al20, iA20, iG20, rf17_6, rp17_6, rf17_7, rp17_7, rf17_8, rp17_8, al51, iA51, iG51, kp56, rf56_6, rp56_6, al57, iA57, it57, rf56_7, rp56_7, al58, iA58, it58, rf56_8, rp56_8, al59, iA59, it59, rf56_9, rp56_9, al60, iA60, it60, rf56_10, rp56_10, al61, iA61, it61, rf56_12, rp56_12, al62, iA62, it62, rf56_13, rp56_13, al63, iA63, it63, rf56_15, rp56_15, al64, iA64, it64, rf56_16, rp56_16, al65, iA65, it65, rf56_17, rp56_17, rf56_18, rp56_18, al66, iA66, it66, c7, kn0_1, kn0_2, kn0_3, kn0_4, kn0_5, kn0_6, kn1_0, kn1_2, kn1_3, kn1_4, kn1_5, kn1_6, kn2_0, kn2_1, kn2_3, kn2_4, kn2_5, kn2_6, kn3_0, kn3_1, kn3_2, kn3_4, kn3_5, kn3_6, kn4_0, kn4_1, kn4_2, kn4_3, kn4_5, kn4_6, kn5_0, kn5_1, kn5_2, kn5_3, kn5_4, kn5_6, kn6_0, kn6_1, kn6_2, kn6_3, kn6_4, kn6_5, bI_True, bI_False, nI_1, Nat.reduceLeDiff, Nat.reduceEqDiff, nb0, nb1, nbI, eq_self, ex_pr, tl_s, tl_n, if_true, if_false, not_true_eq_false, not_false_eq_true, and_self, and_false, false_and, and_true, true_and]
  by_cases x4 : x = 4
  · subst x4
    simp only [c97, x97_0, x97_1, x97_40, x97_41, x97_44, x97_47, x97_48, x97_49, x97_52, x97_53, x97_54, x97_57, x97_60, x97_61, x97_62, x97_65, x97_68, x97_69, x97_70, x97_73, x97_76, x97_77, x97_78, x97_81, x97_84, x97_85, x97_87, kp17, rf17_0, rp17_0, rf17_1, rp17_1, rf17_3, rp17_3, rf17_4, rp17_4, al20, iA20, iG20, rf17_6, rp17_6, rf17_7, rp17_7, rf17_8, rp17_8, al51, iA51, iG51, kp18, rf18_0, rp18_0, al19, iA19, it19, t1, kn0_1, kn0_2, kn0_3, kn0_4, kn0_5, kn0_6, kn1_0, kn1_2, kn1_3, kn1_4, kn1_5, kn1_6, kn2_0, kn2_1, kn2_3, kn2_4, kn2_5, kn2_6, kn3_0, kn3_1, kn3_2, kn3_4, kn3_5, kn3_6, kn4_0, kn4_1, kn4_2, kn4_3, kn4_5, kn4_6, kn5_0, kn5_1, kn5_2, kn5_3, kn5_4, kn5_6, kn6_0, kn6_1, kn6_2, kn6_3, kn6_4, kn6_5, bI_True, bI_False, nI_1, Nat.reduceLeDiff, Nat.reduceEqDiff, nb0, nb1, nbI, eq_self, ex_pr, tl_s, tl_n, if_true, if_false, not_true_eq_false, not_false_eq_true, and_self, and_false, false_and, and_true, true_and]
  by_cases x5 : x = 5
  · subst x5
    simp only [c97, x97_0, x97_1, x97_40, x97_41, x97_44, x97_47, x97_48, x97_49, x97_52, x97_53, x97_54, x97_57, x97_60, x97_61, x97_62, x97_65, x97_68, x97_69, x97_70, x97_73, x97_76, x97_77, x97_78, x97_81, x97_84, x97_85, x97_87, kp17, rf17_0, rp17_0, rf17_1, rp17_1, rf17_3, rp17_3, rf17_4, rp17_4, al20, iA20, iG20, rf17_6, rp17_6, rf17_7, rp17_7, rf17_8, rp17_8, al51, iA51, iG51, kp49, rf49_0, rp49_0, al50, iA50, it50, a1, kn0_1, kn0_2, kn0_3, kn0_4, kn0_5, kn0_6, kn1_0, kn1_2, kn1_3, kn1_4, kn1_5, kn1_6, kn2_0, kn2_1, kn2_3, kn2_4, kn2_5, kn2_6, kn3_0, kn3_1, kn3_2, kn3_4, kn3_5, kn3_6, kn4_0, kn4_1, kn4_2, kn4_3, kn4_5, kn4_6, kn5_0, kn5_1, kn5_2, kn5_3, kn5_4, kn5_6, kn6_0, kn6_1, kn6_2, kn6_3, kn6_4, kn6_5, bI_True, bI_False, nI_1, Nat.reduceLeDiff, Nat.reduceEqDiff, nb0, nb1, nbI, eq_self, ex_pr, tl_s, tl_n, if_true, if_false, not_true_eq_false, not_false_eq_true, and_self, and_false, false_and, and_true, true_and]
  · simp only [c97, x97_0, x97_1, x97_40, x97_41, x97_44, x97_47, x97_48, x97_49, x97_52, x97_53, x97_54, x97_57, x97_60, x97_61, x97_62, x97_65, x97_68, x97_69, x97_70, x97_73, x97_76, x97_77, x97_78, x97_81, x97_84, x97_85, x97_87, x0, x1, x2, x3, x4, x5, bI_True, bI_False, nI_1, Nat.reduceLeDiff, Nat.reduceEqDiff, nb0, nb1, nbI, eq_self, ex_pr, tl_s, tl_n, if_true, if_false, not_true_eq_false, not_false_eq_true, and_self, and_false, false_and, and_true, true_and]
theorem count_m {L m : Nat} (t2 : f 114 13 = nI L) (a2 : f 114 65 = nI m) (q2 : f 114 11 = nI hc) (X : XP f g h1 h2 n hr wn dk sd gb pc bc W D hc HS) (x : Int32) : Cl sc (d + 30) 188 [.ref (114 : Nat), .int x] (cS f g h1 h2) (cS f g h1 h2, some (.int (if x = 0 then nI n else if x = 1 then nI hc else if x = 2 then nI pc else if x = 3 then nI bc else if x = 4 then nI L else if x = 5 then nI m else -2))) := by
  have n7 : n ≤ 7 := X.d.b0
  have b1 : hr ≤ 9999 := X.d.b1
  have b2 : wn ≤ 9999 := X.d.b2
  have p2n : 2 ^ n ≤ 128 := p2_7 n7
  have b3 : dk < 2 ^ n := X.d.b3
  have b4 : sd < 2 ^ n := X.d.b4
  have b5 : gb < 2 ^ n := X.d.b5
  have b6 : pc ≤ 12 := X.d.b6
  have b7 : bc ≤ 12 := X.d.b7
  have c0 : f 56 0 = nI n := X.d.c0
  have c1 : f 56 1 = nI hr := X.d.c1
  have c2 : f 56 2 = nI wn := X.d.c2
  have c3 : f 56 3 = nI dk := X.d.c3
  have c4 : f 56 4 = nI sd := X.d.c4
  have c5 : f 56 5 = nI gb := X.d.c5
  have c6 : f 56 11 = nI pc := X.d.c6
  have c7 : f 56 14 = nI bc := X.d.c7
  have m0 : f 114 0 = nI n := X.d.m0
  have m1 : f 114 1 = nI sd := X.d.m1
  have m2 : f 114 2 = nI hr := X.d.m2
  have m3 : f 114 3 = nI wn := X.d.m3
  have m5 : f 114 37 = nI dk := X.d.m5
  have m6 : f 114 40 = nI pc := X.d.m6
  have m7 : f 114 43 = nI bc := X.d.m7
  have sl : ∀ s, s < n → f 57 s = nI (dK D s) ∧ f 58 s = nI (dV D s) ∧ f 59 s = nI (dL D s) ∧ f 60 s = nI (W s) ∧ W s ≤ 99 := X.d.sl
  have sm : ∀ s, s < n → f 115 s = nI (dK D s) ∧ f 116 s = nI (dV D s) ∧ f 117 s = nI (dL D s) ∧ f 118 s = nI (bt gb s) ∧ f 119 s = nI (W s) := X.d.sm
  have CEh : CE f h1 D n := X.ce
  have MEh : ME f D n := X.me
  have aw : f 114 4 = -1 := X.w
  have nn : ∀ x : Int32, (¬ x < 0 ∧ ¬ nI n - 1 < x) = (¬ x < 0 ∧ x < nI n) := fun x => propext (and_congr_right fun _ => lt_pred (by omega))
  by_cases x0 : x = 0
  · subst x0
    simp only [c188, x188_0, x188_1, x188_40, x188_41, x188_44, x188_45, x188_46, x188_49, x188_50, x188_51, x188_54, x188_55, x188_56, x188_59, x188_60, x188_61, x188_64, x188_65, x188_66, x188_69, x188_70, x188_72, kp114, rf114_5, rp114_5, al115, iA115, it115, rf114_6, rp114_6, al116, iA116, it116, rf114_7, rp114_7, al117, iA117, it117, rf114_8, rp114_8, al118, iA118, it118, rf114_9, rp114_9, al119, iA119, it119, rf114_10, rp114_10, al120, iA120, it120, rf114_16, rp114_16, al121, iA121, it121, rf114_17, rp114_17, al122, iA122, it122, rf114_18, rp114_18, al123, iA123, it123, rf114_19, rp114_19, al124, iA124, it124, rf114_20, rp114_20, al125, iA125, it125, rf114_21, rp114_21, al126, iA126, it126, rf114_22, rp114_22, al127, iA127, it127, rf114_23, rp114_23, al128, iA128, it128, rf114_27, rp114_27, al129, iA129, it129, rf114_28, rp114_28, al130, iA130, it130, rf114_29, rp114_29, al131, iA131, it131, rf114_30, rp114_30, al132, iA132, it132, rf114_31, rp114_31, al133, iA133, it133, rf114_41, rp114_41, al134, iA134, it134, rf114_42, rp114_42, al135, iA135, it135, rf114_44, rp114_44, al136, iA136, it136, rf114_45, rp114_45, al137, iA137, it137, rf114_55, rp114_55, al138, iA138, it138, rf114_56, rp114_56, al139, iA139, it139, rf114_57, rp114_57, al140, iA140, it140, rf114_58, rp114_58, al141, iA141, it141, rf114_59, rp114_59, al142, iA142, it142, rf114_60, rp114_60, al143, iA143, it143, rf114_61, rp114_61, al144, iA144, it144, rf114_62, rp114_62, al145, iA145, it145, rf114_63, rp114_63, al146, iA146, it146, rf114_64, rp114_64, al147, iA147, it147, rf114_66, rp114_66, al148, iA148, it148, rf114_67, rp114_67, al149, iA149, it149, rf114_68, rp114_68, al150, iA150, it150, rf114_69, rp114_69, al151, iA151, it151, rf114_70, rp114_70, al152, iA152, it152, m0, kn0_1, kn0_2, kn0_3, kn0_4, kn0_5, kn0_6, kn1_0, kn1_2, kn1_3, kn1_4, kn1_5, kn1_6, kn2_0, kn2_1, kn2_3, kn2_4, kn2_5, kn2_6, kn3_0, kn3_1, kn3_2, kn3_4, kn3_5, kn3_6, kn4_0, kn4_1, kn4_2, kn4_3, kn4_5, kn4_6, kn5_0, kn5_1, kn5_2, kn5_3, kn5_4, kn5_6, kn6_0, kn6_1, kn6_2, kn6_3, kn6_4, kn6_5, bI_True, bI_False, nI_1, Nat.reduceLeDiff, Nat.reduceEqDiff, nb0, nb1, nbI, eq_self, ex_pr, tl_s, tl_n, if_true, if_false, not_true_eq_false, not_false_eq_true, and_self, and_false, false_and, and_true, true_and]
  by_cases x1 : x = 1
  · subst x1
    simp only [c188, x188_0, x188_1, x188_40, x188_41, x188_44, x188_45, x188_46, x188_49, x188_50, x188_51, x188_54, x188_55, x188_56, x188_59, x188_60, x188_61, x188_64, x188_65, x188_66, x188_69, x188_70, x188_72, kp114, rf114_5, rp114_5, al115, iA115, it115, rf114_6, rp114_6, al116, iA116, it116, rf114_7, rp114_7, al117, iA117, it117, rf114_8, rp114_8, al118, iA118, it118, rf114_9, rp114_9, al119, iA119, it119, rf114_10, rp114_10, al120, iA120, it120, rf114_16, rp114_16, al121, iA121, it121, rf114_17, rp114_17, al122, iA122, it122, rf114_18, rp114_18, al123, iA123, it123, rf114_19, rp114_19, al124, iA124, it124, rf114_20, rp114_20, al125, iA125, it125, rf114_21, rp114_21, al126, iA126, it126, rf114_22, rp114_22, al127, iA127, it127, rf114_23, rp114_23, al128, iA128, it128, rf114_27, rp114_27, al129, iA129, it129, rf114_28, rp114_28, al130, iA130, it130, rf114_29, rp114_29, al131, iA131, it131, rf114_30, rp114_30, al132, iA132, it132, rf114_31, rp114_31, al133, iA133, it133, rf114_41, rp114_41, al134, iA134, it134, rf114_42, rp114_42, al135, iA135, it135, rf114_44, rp114_44, al136, iA136, it136, rf114_45, rp114_45, al137, iA137, it137, rf114_55, rp114_55, al138, iA138, it138, rf114_56, rp114_56, al139, iA139, it139, rf114_57, rp114_57, al140, iA140, it140, rf114_58, rp114_58, al141, iA141, it141, rf114_59, rp114_59, al142, iA142, it142, rf114_60, rp114_60, al143, iA143, it143, rf114_61, rp114_61, al144, iA144, it144, rf114_62, rp114_62, al145, iA145, it145, rf114_63, rp114_63, al146, iA146, it146, rf114_64, rp114_64, al147, iA147, it147, rf114_66, rp114_66, al148, iA148, it148, rf114_67, rp114_67, al149, iA149, it149, rf114_68, rp114_68, al150, iA150, it150, rf114_69, rp114_69, al151, iA151, it151, rf114_70, rp114_70, al152, iA152, it152, q2, kn0_1, kn0_2, kn0_3, kn0_4, kn0_5, kn0_6, kn1_0, kn1_2, kn1_3, kn1_4, kn1_5, kn1_6, kn2_0, kn2_1, kn2_3, kn2_4, kn2_5, kn2_6, kn3_0, kn3_1, kn3_2, kn3_4, kn3_5, kn3_6, kn4_0, kn4_1, kn4_2, kn4_3, kn4_5, kn4_6, kn5_0, kn5_1, kn5_2, kn5_3, kn5_4, kn5_6, kn6_0, kn6_1, kn6_2, kn6_3, kn6_4, kn6_5, bI_True, bI_False, nI_1, Nat.reduceLeDiff, Nat.reduceEqDiff, nb0, nb1, nbI, eq_self, ex_pr, tl_s, tl_n, if_true, if_false, not_true_eq_false, not_false_eq_true, and_self, and_false, false_and, and_true, true_and]
  by_cases x2 : x = 2
  · subst x2
    simp only [c188, x188_0, x188_1, x188_40, x188_41, x188_44, x188_45, x188_46, x188_49, x188_50, x188_51, x188_54, x188_55, x188_56, x188_59, x188_60, x188_61, x188_64, x188_65, x188_66, x188_69, x188_70, x188_72, kp114, rf114_5, rp114_5, al115, iA115, it115, rf114_6, rp114_6, al116, iA116, it116, rf114_7, rp114_7, al117, iA117, it117, rf114_8, rp114_8, al118, iA118, it118, rf114_9, rp114_9, al119, iA119, it119, rf114_10, rp114_10, al120, iA120, it120, rf114_16, rp114_16, al121, iA121, it121, rf114_17, rp114_17, al122, iA122, it122, rf114_18, rp114_18, al123, iA123, it123, rf114_19, rp114_19, al124, iA124, it124, rf114_20, rp114_20, al125, iA125, it125, rf114_21, rp114_21, al126, iA126, it126, rf114_22, rp114_22, al127, iA127, it127, rf114_23, rp114_23, al128, iA128, it128, rf114_27, rp114_27, al129, iA129, it129, rf114_28, rp114_28, al130, iA130, it130, rf114_29, rp114_29, al131, iA131, it131, rf114_30, rp114_30, al132, iA132, it132, rf114_31, rp114_31, al133, iA133, it133, rf114_41, rp114_41, al134, iA134, it134, rf114_42, rp114_42, al135, iA135, it135, rf114_44, rp114_44, al136, iA136, it136, rf114_45, rp114_45, al137, iA137, it137, rf114_55, rp114_55, al138, iA138, it138, rf114_56, rp114_56, al139, iA139, it139, rf114_57, rp114_57, al140, iA140, it140, rf114_58, rp114_58, al141, iA141, it141, rf114_59, rp114_59, al142, iA142, it142, rf114_60, rp114_60, al143, iA143, it143, rf114_61, rp114_61, al144, iA144, it144, rf114_62, rp114_62, al145, iA145, it145, rf114_63, rp114_63, al146, iA146, it146, rf114_64, rp114_64, al147, iA147, it147, rf114_66, rp114_66, al148, iA148, it148, rf114_67, rp114_67, al149, iA149, it149, rf114_68, rp114_68, al150, iA150, it150, rf114_69, rp114_69, al151, iA151, it151, rf114_70, rp114_70, al152, iA152, it152, m6, kn0_1, kn0_2, kn0_3, kn0_4, kn0_5, kn0_6, kn1_0, kn1_2, kn1_3, kn1_4, kn1_5, kn1_6, kn2_0, kn2_1, kn2_3, kn2_4, kn2_5, kn2_6, kn3_0, kn3_1, kn3_2, kn3_4, kn3_5, kn3_6, kn4_0, kn4_1, kn4_2, kn4_3, kn4_5, kn4_6, kn5_0, kn5_1, kn5_2, kn5_3, kn5_4, kn5_6, kn6_0, kn6_1, kn6_2, kn6_3, kn6_4, kn6_5, bI_True, bI_False, nI_1, Nat.reduceLeDiff, Nat.reduceEqDiff, nb0, nb1, nbI, eq_self, ex_pr, tl_s, tl_n, if_true, if_false, not_true_eq_false, not_false_eq_true, and_self, and_false, false_and, and_true, true_and]
  by_cases x3 : x = 3
  · subst x3
    simp only [c188, x188_0, x188_1, x188_40, x188_41, x188_44, x188_45, x188_46, x188_49, x188_50, x188_51, x188_54, x188_55, x188_56, x188_59, x188_60, x188_61, x188_64, x188_65, x188_66, x188_69, x188_70, x188_72, kp114, rf114_5, rp114_5, al115, iA115, it115, rf114_6, rp114_6, al116, iA116, it116, rf114_7, rp114_7, al117, iA117, it117, rf114_8, rp114_8, al118, iA118, it118, rf114_9, rp114_9, al119, iA119, it119, rf114_10, rp114_10, al120, iA120, it120, rf114_16, rp114_16, al121, iA121, it121, rf114_17, rp114_17, al122, iA122, it122, rf114_18, rp114_18, al123, iA123, it123, rf114_19, rp114_19, al124, iA124, it124, rf114_20, rp114_20, al125, iA125, it125, rf114_21, rp114_21, al126, iA126, it126, rf114_22, rp114_22, al127, iA127, it127, rf114_23, rp114_23, al128, iA128, it128, rf114_27, rp114_27, al129, iA129, it129, rf114_28, rp114_28, al130, iA130, it130, rf114_29, rp114_29, al131, iA131, it131, rf114_30, rp114_30, al132, iA132, it132, rf114_31, rp114_31, al133, iA133, it133, rf114_41, rp114_41, al134, iA134, it134, rf114_42, rp114_42, al135, iA135, it135, rf114_44, rp114_44, al136, iA136, it136, rf114_45, rp114_45, al137, iA137, it137, rf114_55, rp114_55, al138, iA138, it138, rf114_56, rp114_56, al139, iA139, it139, rf114_57, rp114_57, al140, iA140, it140, rf114_58, rp114_58, al141, iA141, it141, rf114_59, rp114_59, al142, iA142, it142, rf114_60, rp114_60, al143, iA143, it143, rf114_61, rp114_61, al144, iA144, it144, rf114_62, rp114_62, al145, iA145, it145, rf114_63, rp114_63, al146, iA146, it146, rf114_64, rp114_64, al147, iA147, it147, rf114_66, rp114_66, al148, iA148, it148, rf114_67, rp114_67, al149, iA149, it149, rf114_68, rp114_68, al150, iA150, it150, rf114_69, rp114_69, al151, iA151, it151, rf114_70, rp114_70, al152, iA152, it152, m7, kn0_1, kn0_2, kn0_3, kn0_4, kn0_5, kn0_6, kn1_0, kn1_2, kn1_3, kn1_4, kn1_5, kn1_6, kn2_0, kn2_1, kn2_3, kn2_4, kn2_5, kn2_6, kn3_0, kn3_1, kn3_2, kn3_4, kn3_5, kn3_6, kn4_0, kn4_1, kn4_2, kn4_3, kn4_5, kn4_6, kn5_0, kn5_1, kn5_2, kn5_3, kn5_4, kn5_6, kn6_0, kn6_1, kn6_2, kn6_3, kn6_4, kn6_5, bI_True, bI_False, nI_1, Nat.reduceLeDiff, Nat.reduceEqDiff, nb0, nb1, nbI, eq_self, ex_pr, tl_s, tl_n, if_true, if_false, not_true_eq_false, not_false_eq_true, and_self, and_false, false_and, and_true, true_and]
  by_cases x4 : x = 4
  · subst x4
    simp only [c188, x188_0, x188_1, x188_40, x188_41, x188_44, x188_45, x188_46, x188_49, x188_50, x188_51, x188_54, x188_55, x188_56, x188_59, x188_60, x188_61, x188_64, x188_65, x188_66, x188_69, x188_70, x188_72, kp114, rf114_5, rp114_5, al115, iA115, it115, rf114_6, rp114_6, al116, iA116, it116, rf114_7, rp114_7, al117, iA117, it117, rf114_8, rp114_8, al118, iA118, it118, rf114_9, rp114_9, al119, iA119, it119, rf114_10, rp114_10, al120, iA120, it120, rf114_16, rp114_16, al121, iA121, it121, rf114_17, rp114_17, al122, iA122, it122, rf114_18, rp114_18, al123, iA123, it123, rf114_19, rp114_19, al124, iA124, it124, rf114_20, rp114_20, al125, iA125, it125, rf114_21, rp114_21, al126, iA126, it126, rf114_22, rp114_22, al127, iA127, it127, rf114_23, rp114_23, al128, iA128, it128, rf114_27, rp114_27, al129, iA129, it129, rf114_28, rp114_28, al130, iA130, it130, rf114_29, rp114_29, al131, iA131, it131, rf114_30, rp114_30, al132, iA132, it132, rf114_31, rp114_31, al133, iA133, it133, rf114_41, rp114_41, al134, iA134, it134, rf114_42, rp114_42, al135, iA135, it135, rf114_44, rp114_44, al136, iA136, it136, rf114_45, rp114_45, al137, iA137, it137, rf114_55, rp114_55, al138, iA138, it138, rf114_56, rp114_56, al139, iA139, it139, rf114_57, rp114_57, al140, iA140, it140, rf114_58, rp114_58, al141, iA141, it141, rf114_59, rp114_59, al142, iA142, it142, rf114_60, rp114_60, al143, iA143, it143, rf114_61, rp114_61, al144, iA144, it144, rf114_62, rp114_62, al145, iA145, it145, rf114_63, rp114_63, al146, iA146, it146, rf114_64, rp114_64, al147, iA147, it147, rf114_66, rp114_66, al148, iA148, it148, rf114_67, rp114_67, al149, iA149, it149, rf114_68, rp114_68, al150, iA150, it150, rf114_69, rp114_69, al151, iA151, it151, rf114_70, rp114_70, al152, iA152, it152, t2, kn0_1, kn0_2, kn0_3, kn0_4, kn0_5, kn0_6, kn1_0, kn1_2, kn1_3, kn1_4, kn1_5, kn1_6, kn2_0, kn2_1, kn2_3, kn2_4, kn2_5, kn2_6, kn3_0, kn3_1, kn3_2, kn3_4, kn3_5, kn3_6, kn4_0, kn4_1, kn4_2, kn4_3, kn4_5, kn4_6, kn5_0, kn5_1, kn5_2, kn5_3, kn5_4, kn5_6, kn6_0, kn6_1, kn6_2, kn6_3, kn6_4, kn6_5, bI_True, bI_False, nI_1, Nat.reduceLeDiff, Nat.reduceEqDiff, nb0, nb1, nbI, eq_self, ex_pr, tl_s, tl_n, if_true, if_false, not_true_eq_false, not_false_eq_true, and_self, and_false, false_and, and_true, true_and]
  by_cases x5 : x = 5
  · subst x5
    simp only [c188, x188_0, x188_1, x188_40, x188_41, x188_44, x188_45, x188_46, x188_49, x188_50, x188_51, x188_54, x188_55, x188_56, x188_59, x188_60, x188_61, x188_64, x188_65, x188_66, x188_69, x188_70, x188_72, kp114, rf114_5, rp114_5, al115, iA115, it115, rf114_6, rp114_6, al116, iA116, it116, rf114_7, rp114_7, al117, iA117, it117, rf114_8, rp114_8, al118, iA118, it118, rf114_9, rp114_9, al119, iA119, it119, rf114_10, rp114_10, al120, iA120, it120, rf114_16, rp114_16, al121, iA121, it121, rf114_17, rp114_17, al122, iA122, it122, rf114_18, rp114_18, al123, iA123, it123, rf114_19, rp114_19, al124, iA124, it124, rf114_20, rp114_20, al125, iA125, it125, rf114_21, rp114_21, al126, iA126, it126, rf114_22, rp114_22, al127, iA127, it127, rf114_23, rp114_23, al128, iA128, it128, rf114_27, rp114_27, al129, iA129, it129, rf114_28, rp114_28, al130, iA130, it130, rf114_29, rp114_29, al131, iA131, it131, rf114_30, rp114_30, al132, iA132, it132, rf114_31, rp114_31, al133, iA133, it133, rf114_41, rp114_41, al134, iA134, it134, rf114_42, rp114_42, al135, iA135, it135, rf114_44, rp114_44, al136, iA136, it136, rf114_45, rp114_45, al137, iA137, it137, rf114_55, rp114_55, al138, iA138, it138, rf114_56, rp114_56, al139, iA139, it139, rf114_57, rp114_57, al140, iA140, it140, rf114_58, rp114_58, al141, iA141, it141, rf114_59, rp114_59, al142, iA142, it142, rf114_60, rp114_60, al143, iA143, it143, rf114_61, rp114_61, al144, iA144, it144, rf114_62, rp114_62, al145, iA145, it145, rf114_63, rp114_63, al146, iA146, it146, rf114_64, rp114_64, al147, iA147, it147, rf114_66, rp114_66, al148, iA148, it148, rf114_67, rp114_67, al149, iA149, it149, rf114_68, rp114_68, al150, iA150, it150, rf114_69, rp114_69, al151, iA151, it151, rf114_70, rp114_70, al152, iA152, it152, a2, kn0_1, kn0_2, kn0_3, kn0_4, kn0_5, kn0_6, kn1_0, kn1_2, kn1_3, kn1_4, kn1_5, kn1_6, kn2_0, kn2_1, kn2_3, kn2_4, kn2_5, kn2_6, kn3_0, kn3_1, kn3_2, kn3_4, kn3_5, kn3_6, kn4_0, kn4_1, kn4_2, kn4_3, kn4_5, kn4_6, kn5_0, kn5_1, kn5_2, kn5_3, kn5_4, kn5_6, kn6_0, kn6_1, kn6_2, kn6_3, kn6_4, kn6_5, bI_True, bI_False, nI_1, Nat.reduceLeDiff, Nat.reduceEqDiff, nb0, nb1, nbI, eq_self, ex_pr, tl_s, tl_n, if_true, if_false, not_true_eq_false, not_false_eq_true, and_self, and_false, false_and, and_true, true_and]
  · simp only [c188, x188_0, x188_1, x188_40, x188_41, x188_44, x188_45, x188_46, x188_49, x188_50, x188_51, x188_54, x188_55, x188_56, x188_59, x188_60, x188_61, x188_64, x188_65, x188_66, x188_69, x188_70, x188_72, x0, x1, x2, x3, x4, x5, bI_True, bI_False, nI_1, Nat.reduceLeDiff, Nat.reduceEqDiff, nb0, nb1, nbI, eq_self, ex_pr, tl_s, tl_n, if_true, if_false, not_true_eq_false, not_false_eq_true, and_self, and_false, false_and, and_true, true_and]
theorem op_count (X : XP f g h1 h2 n hr wn dk sd gb pc bc W D hc HS) (x : Int32) : OPI sc (d + 30) 97 188 [.int x] f g h1 h2 := by
  obtain ⟨L, -, t1, t2, -⟩ := X.x
  obtain ⟨m, -, a1, a2, -⟩ := X.a
  exact ⟨f, g, h1, h2, f, g, h1, h2, _, count_c t1 a1 X.q.2.1 X x, count_m t2 a2 X.q.2.2.1 X x, X.xs⟩
theorem op_traceX (X : XP f g h1 h2 n hr wn dk sd gb pc bc W D hc HS) (x : Int32) : OPI sc (d + 30) 95 186 [.int x] f g h1 h2 := by
  obtain ⟨v, k1, k2⟩ := @op_trace sc (d + 25) f g h1 h2 X.a x
  exact ⟨f, g, h1, h2, f, g, h1, h2, v, k1, k2, X.xs⟩
/-- a KIND at or under another -/
def UN (k q : Nat) : Bool := decide (q = 0 ∨ k = q ∨ (q = 1 ∧ k = 4) ∨ (q = 2 ∧ k = 5) ∨ (q = 3 ∧ k = 6))
theorem aB0 : fI 1 0 = -1 := by decide +kernel
theorem aB1 : fI 1 1 = nI 0 := by decide +kernel
theorem aB2 : fI 1 2 = nI 0 := by decide +kernel
theorem aB3 : fI 1 3 = nI 0 := by decide +kernel
theorem aB4 : fI 1 4 = nI 1 := by decide +kernel
theorem aB5 : fI 1 5 = nI 2 := by decide +kernel
theorem aB6 : fI 1 6 = nI 3 := by decide +kernel
theorem u105 {x0 : Int32} {a q j : Nat} (ha : a ≤ 6) (hq : q ≤ 6) (hj : j < 7) : Rn sc d 105 4 [.int x0, .int (nI q), .int (nI a), .int (nI j)] [] (cS f g h1 h2) r ↔ if a = q then r = (cS f g h1 h2, some (.int 1)) else Rn sc d 105 4 [.int x0, .int (nI q), .int (fI 1 a), .int (nI (j + 1))] [] (cS f g h1 h2) r := by
  have e1 : nI j < nI 7 := nI_lt hj (by decide)
  have e2 : ¬ nI a < 0 := nI_pos (by omega)
  have e3 := @nI_eq a q (by omega) (by omega)
  have i1 : inb (nI a) 7 = true := inb_nI (by omega) (by decide)
  have i2 : (nI a).toNatClampNeg = a := cl_nI (by omega)
  have e4 : ¬ nI q < 0 := nI_pos (by omega)
  have g1 : (1 < 17) = True := by decide
  have g2 : (1 = 0) = False := by decide
  by_cases z : a = q <;> simp only [c105, x105_0, x105_1, x105_2, x105_3, x105_5, x105_8, x105_9, x105_12, x105_13, x105_16, x105_17, x105_18, x105_21, x105_22, x105_23, x105_26, x105_27, x105_27s, x105_28, x105_29, x105_32, x105_35, x105_36, x105_4 (x3 := nI j), al1, iA1, it1, e1, e2, e3, e4, z, i1, i2, g1, g2, w17_1, bI_True, bI_False, nI_1, Nat.reduceLeDiff, Nat.reduceEqDiff, nb0, nb1, nbI, eq_self, ex_pr, tl_s, tl_n, if_true, if_false, not_true_eq_false, not_false_eq_true, and_self, and_false, false_and, and_true, true_and]
theorem u105e {x0 q : Int32} {j : Nat} (hj : j < 7) : Rn sc d 105 4 [.int x0, .int q, .int (-1), .int (nI j)] [] (cS f g h1 h2) r ↔ r = (cS f g h1 h2, some (.int 0)) := by
  have e1 : nI j < nI 7 := nI_lt hj (by decide)
  have e2 : (-1 : Int32) < 0 := by decide
  simp only [c105, x105_0, x105_1, x105_2, x105_3, x105_5, x105_8, x105_9, x105_12, x105_13, x105_16, x105_17, x105_18, x105_21, x105_22, x105_23, x105_26, x105_27, x105_27s, x105_28, x105_29, x105_32, x105_35, x105_36, x105_4 (x3 := nI j), al1, iA1, it1, e1, e2, bI_True, bI_False, nI_1, Nat.reduceLeDiff, Nat.reduceEqDiff, nb0, nb1, nbI, eq_self, ex_pr, tl_s, tl_n, if_true, if_false, not_true_eq_false, not_false_eq_true, and_self, and_false, false_and, and_true, true_and]
theorem s105 {k q : Nat} (hk : k ≤ 6) (hq : q ≤ 6) : Cl sc (d + 1) 105 [.int (nI k), .int (nI q)] (cS f g h1 h2) r ↔ r = (cS f g h1 h2, some (.int (bI (UN k q = true)))) := by
  have h0 : Cl sc (d + 1) 105 [.int (nI k), .int (nI q)] (cS f g h1 h2) r ↔ Rn sc d 105 4 [.int (nI k), .int (nI q), .int (nI k), .int (nI 0)] [] (cS f g h1 h2) r := by
    simp only [c105, x105_0, x105_1, x105_2, x105_3, lt0]
  have b0 : ∀ x0, Rn sc d 105 4 [.int x0, .int (nI q), .int (nI 0), .int (nI 1)] [] (cS f g h1 h2) r ↔ r = (cS f g h1 h2, some (.int (bI (0 = q)))) := by
    intro x0
    rw [u105 (by omega) hq (by omega), aB0, u105e (by omega)]
    unfold bI
    by_cases z : 0 = q <;> simp only [z, bI_True, bI_False, nI_1, Nat.reduceLeDiff, Nat.reduceEqDiff, nb0, nb1, nbI, eq_self, ex_pr, tl_s, tl_n, if_true, if_false, not_true_eq_false, not_false_eq_true, and_self, and_false, false_and, and_true, true_and]
  have b1 : ∀ x0, Rn sc d 105 4 [.int x0, .int (nI q), .int (nI 0), .int (nI 2)] [] (cS f g h1 h2) r ↔ r = (cS f g h1 h2, some (.int (bI (0 = q)))) := by
    intro x0
    rw [u105 (by omega) hq (by omega), aB0, u105e (by omega)]
    unfold bI
    by_cases z : 0 = q <;> simp only [z, bI_True, bI_False, nI_1, Nat.reduceLeDiff, Nat.reduceEqDiff, nb0, nb1, nbI, eq_self, ex_pr, tl_s, tl_n, if_true, if_false, not_true_eq_false, not_false_eq_true, and_self, and_false, false_and, and_true, true_and]
  have fin : ∀ a : Nat, ∀ b : Bool, (UN k q = (decide (a = q) || b)) → (if a = q then r = (cS f g h1 h2, some (.int 1)) else r = (cS f g h1 h2, some (.int (bI (b = true))))) = (r = (cS f g h1 h2, some (.int (bI (UN k q = true))))) := by
    intro a b e
    rw [e]
    by_cases z : a = q
    · rw [if_pos z, decide_eq_true z, Bool.true_or, bI_t rfl]
    · rw [if_neg z, decide_eq_false z, Bool.false_or]
  rw [h0, u105 hk hq (by omega)]
  have dq : ∀ c : Prop, [Decidable c] → bI c = bI (decide c = true) := by
    intro c _
    unfold bI
    by_cases z : c <;> simp [z]
  rcases (show k = 0 ∨ k = 1 ∨ k = 2 ∨ k = 3 ∨ k = 4 ∨ k = 5 ∨ k = 6 by omega) with rfl | rfl | rfl | rfl | rfl | rfl | rfl
  · rw [aB0, u105e (by omega)]
    have e := fin 0 false (by
      have : ∀ q, q ≤ 6 → UN 0 q = (decide (0 = q) || false) := by decide
      exact this q hq)
    rw [show bI (false = true) = 0 from rfl] at e
    exact Iff.of_eq e
  · rw [aB1, b0, dq (0 = q)]
    exact Iff.of_eq (fin 1 (decide (0 = q)) (by
      have : ∀ q, q ≤ 6 → UN 1 q = (decide (1 = q) || decide (0 = q)) := by decide
      exact this q hq))
  · rw [aB2, b0, dq (0 = q)]
    exact Iff.of_eq (fin 2 (decide (0 = q)) (by
      have : ∀ q, q ≤ 6 → UN 2 q = (decide (2 = q) || decide (0 = q)) := by decide
      exact this q hq))
  · rw [aB3, b0, dq (0 = q)]
    exact Iff.of_eq (fin 3 (decide (0 = q)) (by
      have : ∀ q, q ≤ 6 → UN 3 q = (decide (3 = q) || decide (0 = q)) := by decide
      exact this q hq))
  · have y : (if 1 = q then r = (cS f g h1 h2, some (.int 1)) else r = (cS f g h1 h2, some (.int (bI (decide (0 = q) = true))))) = (r = (cS f g h1 h2, some (.int (bI ((decide (1 = q) || decide (0 = q)) = true))))) := by
      by_cases z : 1 = q
      · rw [if_pos z, decide_eq_true z, Bool.true_or, bI_t rfl]
      · rw [if_neg z, decide_eq_false z, Bool.false_or]
    rw [aB4, u105 (by omega) hq (by omega), aB1, b1, dq (0 = q), y]
    exact Iff.of_eq (fin 4 (decide (1 = q) || decide (0 = q)) (by
      have : ∀ q, q ≤ 6 → UN 4 q = (decide (4 = q) || (decide (1 = q) || decide (0 = q))) := by decide
      exact this q hq))
  · have y : (if 2 = q then r = (cS f g h1 h2, some (.int 1)) else r = (cS f g h1 h2, some (.int (bI (decide (0 = q) = true))))) = (r = (cS f g h1 h2, some (.int (bI ((decide (2 = q) || decide (0 = q)) = true))))) := by
      by_cases z : 2 = q
      · rw [if_pos z, decide_eq_true z, Bool.true_or, bI_t rfl]
      · rw [if_neg z, decide_eq_false z, Bool.false_or]
    rw [aB5, u105 (by omega) hq (by omega), aB2, b1, dq (0 = q), y]
    exact Iff.of_eq (fin 5 (decide (2 = q) || decide (0 = q)) (by
      have : ∀ q, q ≤ 6 → UN 5 q = (decide (5 = q) || (decide (2 = q) || decide (0 = q))) := by decide
      exact this q hq))
  · have y : (if 3 = q then r = (cS f g h1 h2, some (.int 1)) else r = (cS f g h1 h2, some (.int (bI (decide (0 = q) = true))))) = (r = (cS f g h1 h2, some (.int (bI ((decide (3 = q) || decide (0 = q)) = true))))) := by
      by_cases z : 3 = q
      · rw [if_pos z, decide_eq_true z, Bool.true_or, bI_t rfl]
      · rw [if_neg z, decide_eq_false z, Bool.false_or]
    rw [aB6, u105 (by omega) hq (by omega), aB3, b1, dq (0 = q), y]
    exact Iff.of_eq (fin 6 (decide (3 = q) || decide (0 = q)) (by
      have : ∀ q, q ≤ 6 → UN 6 q = (decide (6 = q) || (decide (3 = q) || decide (0 = q))) := by decide
      exact this q hq))
end Q2
