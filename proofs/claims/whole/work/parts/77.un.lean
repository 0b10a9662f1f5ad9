/-! undo -/
section UN
variable {sc : aSc} {d : Nat} {r : aRes} {f : Nat → Nat → Int32} {g : Nat → Nat → Int64} {h1 h2 : Nat} {n hr wn dk sd gb pc bc : Nat} {W : Nat → Nat} {D : aD} {hc : Nat} {HS : Nat → aH} {σ : aS}
theorem op_undo (X : XP f g h1 h2 n hr wn dk sd gb pc bc W D hc HS) : OPI sc (d + 30) 93 176 [] f g h1 h2 := by
  rcases X.i with ⟨z1, z2⟩ | ⟨z1, z2, n', hr', wn', dk', sd', gb', pc', bc', W', D', J, HH⟩
  · refine opi_q2 (v := -3) X (qc0 ?_) fun f1 F1 X1 => qc0 ?_
    · simp only [c93, x93_0, x93_1, x93_4, x93_7, x93_9, x93_10, x93_11, x93_14, x93_15, x93_18, x93_21, x93_22, x93_25, x93_28, kp17, rf17_0, rp17_0, rf17_1, rp17_1, rf17_3, rp17_3, rf17_4, rp17_4, al20, iA20, iG20, rf17_6, rp17_6, rf17_7, rp17_7, rf17_8, rp17_8, al51, iA51, iG51, z1, bI_True, bI_False, nI_1, Nat.reduceLeDiff, Nat.reduceEqDiff, nb0, nb1, nbI, eq_self, ex_pr, tl_s, tl_n, if_true, if_false, not_true_eq_false, not_false_eq_true, and_self, and_false, false_and, and_true, true_and]
    · have z2' : f1 114 46 = 0 := by rw [F1 114 46 (by unfold scq; omega)]; exact z2
      simp only [c176, x176_0, x176_1, x176_4, x176_7, x176_9, x176_10, x176_11, x176_12, x176_15, x176_18, x176_19, x176_20, x176_23, x176_26, x176_27, x176_28, x176_31, x176_34, x176_35, x176_36, x176_39, x176_42, x176_43, x176_44, x176_47, x176_50, x176_51, x176_52, x176_55, x176_58, x176_59, x176_60, x176_63, x176_66, x176_67, x176_68, x176_71, x176_74, x176_75, x176_77, x176_79, x176_82, x176_83, x176_86, x176_87, x176_88, x176_91, x176_92, x176_93, x176_94, x176_95, x176_98, x176_99, x176_100, x176_103, x176_104, x176_105, x176_106, x176_107, x176_110, x176_111, x176_112, x176_115, x176_116, x176_117, x176_118, x176_119, x176_122, x176_123, x176_124, x176_127, x176_128, x176_129, x176_130, x176_131, x176_134, x176_135, x176_136, x176_139, x176_140, x176_141, x176_142, x176_145, x176_148, x176_149, x176_151, x176_153, x176_156, x176_157, x176_160, x176_161, x176_162, x176_165, x176_166, x176_167, x176_168, x176_171, x176_174, x176_175, x176_177, x176_179, x176_182, x176_183, x176_186, x176_187, x176_188, x176_191, x176_192, x176_193, x176_194, x176_195, x176_198, x176_199, x176_200, x176_203, x176_204, x176_205, x176_206, x176_207, x176_210, x176_211, x176_212, x176_215, x176_216, x176_217, x176_218, x176_219, x176_222, x176_223, x176_224, x176_227, x176_228, x176_229, x176_230, x176_233, x176_236, x176_237, x176_240, kp114, rf114_5, rp114_5, al115, iA115, it115, rf114_6, rp114_6, al116, iA116, it116, rf114_7, rp114_7, al117, iA117, it117, rf114_8, rp114_8, al118, iA118, it118, rf114_9, rp114_9, al119, iA119, it119, rf114_10, rp114_10, al120, iA120, it120, rf114_16, rp114_16, al121, iA121, it121, rf114_17, rp114_17, al122, iA122, it122, rf114_18, rp114_18, al123, iA123, it123, rf114_19, rp114_19, al124, iA124, it124, rf114_20, rp114_20, al125, iA125, it125, rf114_21, rp114_21, al126, iA126, it126, rf114_22, rp114_22, al127, iA127, it127, rf114_23, rp114_23, al128, iA128, it128, rf114_27, rp114_27, al129, iA129, it129, rf114_28, rp114_28, al130, iA130, it130, rf114_29, rp114_29, al131, iA131, it131, rf114_30, rp114_30, al132, iA132, it132, rf114_31, rp114_31, al133, iA133, it133, rf114_41, rp114_41, al134, iA134, it134, rf114_42, rp114_42, al135, iA135, it135, rf114_44, rp114_44, al136, iA136, it136, rf114_45, rp114_45, al137, iA137, it137, rf114_55, rp114_55, al138, iA138, it138, rf114_56, rp114_56, al139, iA139, it139, rf114_57, rp114_57, al140, iA140, it140, rf114_58, rp114_58, al141, iA141, it141, rf114_59, rp114_59, al142, iA142, it142, rf114_60, rp114_60, al143, iA143, it143, rf114_61, rp114_61, al144, iA144, it144, rf114_62, rp114_62, al145, iA145, it145, rf114_63, rp114_63, al146, iA146, it146, rf114_64, rp114_64, al147, iA147, it147, rf114_66, rp114_66, al148, iA148, it148, rf114_67, rp114_67, al149, iA149, it149, rf114_68, rp114_68, al150, iA150, it150, rf114_69, rp114_69, al151, iA151, it151, rf114_70, rp114_70, al152, iA152, it152, z2', bI_True, bI_False, nI_1, Nat.reduceLeDiff, Nat.reduceEqDiff, nb0, nb1, nbI, eq_self, ex_pr, tl_s, tl_n, if_true, if_false, not_true_eq_false, not_false_eq_true, and_self, and_false, false_and, and_true, true_and]
  have E : ∀ q, ¬ (56 ≤ q ∧ q ≤ 65) → dcU f q = f q := fun q h => dcU_o h
  have V : ∀ q, q ≠ 114 → ¬ (56 ≤ q ∧ q ≤ 65) → ¬ ((115 ≤ q ∧ q ≤ 120) ∨ (134 ≤ q ∧ q ≤ 137)) → umM (dcU f) q = f q := fun q a2 a3 a4 => by rw [umM_o a4, umS_o a2, E q a3]
  have VM : ∀ k, ¬ (k = 12 ∨ k = 0 ∨ k = 1 ∨ k = 2 ∨ k = 3 ∨ k = 37 ∨ k = 40 ∨ k = 43) → umM (dcU f) 114 k = f 114 k := fun k hk => by
    rw [umM_o (by omega)]
    unfold umS
    simp only [u2_at]
    repeat rw [if_neg (by omega)]
    exact congrFun (E 114 (by omega)) k
  have VI : ∀ q, 56 ≤ q → q ≤ 65 → umM (dcU f) q = dcU f q := fun q a b => by rw [umM_o (by omega), umS_o (by omega)]
  have FQ : ∀ q k, ¬ scq q k → ¬ imc q k → ¬ dyd q k → umM (dcU f) q k = f q k := by
    intro q k _ _ h3
    unfold dyd dyc at h3
    by_cases e : q = 114
    · subst e
      exact VM k (by omega)
    · rw [V q e (by omega) (by omega)]
  have E2 : ∀ q, 115 ≤ q → umS (dcU f) q = f q := fun q hq => by rw [umS_o (by omega), E q (by omega)]
  have e114 : dcU f 114 = f 114 := E 114 (by omega)
  have I : ∀ j, umM (dcU f) 114 j = umS (dcU f) 114 j := fun j => by rw [umM_o (by omega)]
  have S0 : DSim (umM (dcU f)) 56 (nT (umM (dcU f))) (nB (umM (dcU f))) n' hr' wn' dk' sd' gb' pc' bc' W' D' := by
    refine J.cp ?_ ?_ ?_ ?_ ?_ ?_ ?_ ?_ ?_ ?_ ?_ ?_ ?_ ?_ ?_ ?_ ?_ ?_ ?_ ?_ ?_
    · intro k hk
      rw [VI 56 (by omega) (by omega)]
      unfold dcU
      rcases (show k = 0 ∨ k = 1 ∨ k = 2 ∨ k = 3 ∨ k = 4 ∨ k = 5 ∨ k = 11 ∨ k = 14 by omega) with rfl | rfl | rfl | rfl | rfl | rfl | rfl | rfl <;> simp only [u2_at, cpA_at, Nat.reduceEqDiff, eq_self, false_and, and_false, if_false, true_and, and_self, and_true, if_true]
    · intro k hk; rw [VI 57 (by omega) (by omega)]; unfold dcU; simp only [u2_at, cpA_at, Nat.reduceEqDiff, eq_self, false_and, and_false, if_false, true_and, and_self, and_true, if_true, hk]
    · intro k hk; rw [VI 58 (by omega) (by omega)]; unfold dcU; simp only [u2_at, cpA_at, Nat.reduceEqDiff, eq_self, false_and, and_false, if_false, true_and, and_self, and_true, if_true, hk]
    · intro k hk; rw [VI 59 (by omega) (by omega)]; unfold dcU; simp only [u2_at, cpA_at, Nat.reduceEqDiff, eq_self, false_and, and_false, if_false, true_and, and_self, and_true, if_true, hk]
    · intro k hk; rw [VI 60 (by omega) (by omega)]; unfold dcU; simp only [u2_at, cpA_at, Nat.reduceEqDiff, eq_self, false_and, and_false, if_false, true_and, and_self, and_true, if_true, hk]
    · intro k hk; rw [VI 61 (by omega) (by omega)]; unfold dcU; simp only [u2_at, cpA_at, Nat.reduceEqDiff, eq_self, false_and, and_false, if_false, true_and, and_self, and_true, if_true, hk]
    · intro k hk; rw [VI 62 (by omega) (by omega)]; unfold dcU; simp only [u2_at, cpA_at, Nat.reduceEqDiff, eq_self, false_and, and_false, if_false, true_and, and_self, and_true, if_true, hk]
    · intro k hk; rw [VI 63 (by omega) (by omega)]; unfold dcU; simp only [u2_at, cpA_at, Nat.reduceEqDiff, eq_self, false_and, and_false, if_false, true_and, and_self, and_true, if_true, hk]
    · intro k hk; rw [VI 64 (by omega) (by omega)]; unfold dcU; simp only [u2_at, cpA_at, Nat.reduceEqDiff, eq_self, false_and, and_false, if_false, true_and, and_self, and_true, if_true, hk]
    · intro k hk; rw [VI 65 (by omega) (by omega)]; unfold dcU; simp only [u2_at, cpA_at, Nat.reduceEqDiff, eq_self, false_and, and_false, if_false, true_and, and_self, and_true, if_true, hk]
    · intro k hk
      rcases (show k = 0 ∨ k = 1 ∨ k = 2 ∨ k = 3 ∨ k = 4 ∨ k = 5 ∨ k = 6 ∨ k = 7 by omega) with rfl | rfl | rfl | rfl | rfl | rfl | rfl | rfl
      · show umM (dcU f) 114 0 = f 114 48
        rw [I]; unfold umS; simp only [u2_at, cpA_at, Nat.reduceEqDiff, eq_self, false_and, and_false, if_false, true_and, and_self, and_true, if_true, e114]
      · show umM (dcU f) 114 1 = f 114 49
        rw [I]; unfold umS; simp only [u2_at, cpA_at, Nat.reduceEqDiff, eq_self, false_and, and_false, if_false, true_and, and_self, and_true, if_true, e114]
      · show umM (dcU f) 114 2 = f 114 50
        rw [I]; unfold umS; simp only [u2_at, cpA_at, Nat.reduceEqDiff, eq_self, false_and, and_false, if_false, true_and, and_self, and_true, if_true, e114]
      · show umM (dcU f) 114 3 = f 114 51
        rw [I]; unfold umS; simp only [u2_at, cpA_at, Nat.reduceEqDiff, eq_self, false_and, and_false, if_false, true_and, and_self, and_true, if_true, e114]
      · show umM (dcU f) 114 12 = f 114 47
        rw [I]; unfold umS; simp only [u2_at, cpA_at, Nat.reduceEqDiff, eq_self, false_and, and_false, if_false, true_and, and_self, and_true, if_true, e114]
      · show umM (dcU f) 114 37 = f 114 52
        rw [I]; unfold umS; simp only [u2_at, cpA_at, Nat.reduceEqDiff, eq_self, false_and, and_false, if_false, true_and, and_self, and_true, if_true, e114]
      · show umM (dcU f) 114 40 = f 114 53
        rw [I]; unfold umS; simp only [u2_at, cpA_at, Nat.reduceEqDiff, eq_self, false_and, and_false, if_false, true_and, and_self, and_true, if_true, e114]
      · show umM (dcU f) 114 43 = f 114 54
        rw [I]; unfold umS; simp only [u2_at, cpA_at, Nat.reduceEqDiff, eq_self, false_and, and_false, if_false, true_and, and_self, and_true, if_true, e114]
    · intro k hk; show umM (dcU f) 115 k = f 138 k; rw [umM_a (by omega) hk, E2 _ (by omega)]
    · intro k hk; show umM (dcU f) 116 k = f 139 k; rw [umM_a (by omega) hk, E2 _ (by omega)]
    · intro k hk; show umM (dcU f) 117 k = f 140 k; rw [umM_a (by omega) hk, E2 _ (by omega)]
    · intro k hk; show umM (dcU f) 118 k = f 141 k; rw [umM_a (by omega) hk, E2 _ (by omega)]
    · intro k hk; show umM (dcU f) 119 k = f 142 k; rw [umM_a (by omega) hk, E2 _ (by omega)]
    · intro k hk; show umM (dcU f) 120 k = f 143 k; rw [umM_b hk, E2 _ (by omega)]
    · intro k hk; show umM (dcU f) 134 k = f 144 k; rw [umM_c (by omega) hk, E2 _ (by omega)]
    · intro k hk; show umM (dcU f) 135 k = f 145 k; rw [umM_c (by omega) hk, E2 _ (by omega)]
    · intro k hk; show umM (dcU f) 136 k = f 146 k; rw [umM_c (by omega) hk, E2 _ (by omega)]
    · intro k hk; show umM (dcU f) 137 k = f 147 k; rw [umM_c (by omega) hk, E2 _ (by omega)]
  have e4 : nT (umM (dcU f)) 4 = iT f 4 := by
    show umM (dcU f) 114 12 = f 114 47
    rw [I]; unfold umS; simp only [u2_at, cpA_at, Nat.reduceEqDiff, eq_self, false_and, and_false, if_false, true_and, and_self, and_true, if_true, e114]
  have I0 : IMs (umM (dcU f)) h2 hc HS := X.i.fr (fun q hq => V q (by omega) (by omega) (by omega)) (by rw [V 17 (by omega) (by omega) (by omega)]) (fun k a b => VM k (by omega))
  have X9 := X.re FQ S0 (by rw [e4]; exact HH) I0
  have j0 : f 67 0 = nI n' := J.c0
  have jm : f 114 48 = nI n' := J.m0
  have e46 : dcU f 114 46 = 1 := by rw [e114]; exact z2
  refine ⟨dcU f, g, h2, h2, umM (dcU f), g, h2, h2, nI n', ?_, ?_, X9.xs⟩
  · have e0 : dcU f 56 0 = nI n' := by
      unfold dcU
      simp only [u2_at, cpA_at, Nat.reduceEqDiff, eq_self, false_and, and_false, if_false, true_and, and_self, and_true, if_true]
      exact j0
    simp only [c93, x93_0, x93_1, x93_4, x93_7, x93_9, x93_10, x93_11, x93_14, x93_15, x93_18, x93_21, x93_22, x93_25, x93_28, kp17, rf17_0, rp17_0, rf17_1, rp17_1, rf17_3, rp17_3, rf17_4, rp17_4, al20, iA20, iG20, rf17_6, rp17_6, rf17_7, rp17_7, rf17_8, rp17_8, al51, iA51, iG51, kp56, rf56_6, rp56_6, al57, iA57, it57, rf56_7, rp56_7, al58, iA58, it58, rf56_8, rp56_8, al59, iA59, it59, rf56_9, rp56_9, al60, iA60, it60, rf56_10, rp56_10, al61, iA61, it61, rf56_12, rp56_12, al62, iA62, it62, rf56_13, rp56_13, al63, iA63, it63, rf56_15, rp56_15, al64, iA64, it64, rf56_16, rp56_16, al65, iA65, it65, rf56_17, rp56_17, rf56_18, rp56_18, al66, iA66, it66, kp67, z1, zi1, s6u, e0, bI_True, bI_False, nI_1, Nat.reduceLeDiff, Nat.reduceEqDiff, nb0, nb1, nbI, eq_self, ex_pr, tl_s, tl_n, if_true, if_false, not_true_eq_false, not_false_eq_true, and_self, and_false, false_and, and_true, true_and]
  · have q := (@s176 sc (d + 29) (cS (umM (dcU f)) g h2 h2, some (.int (dcU f 114 48))) (dcU f) g h2 h2 e46).mpr rfl
    rw [e114, jm] at q
    exact q
end UN
