/-! the day changed: hour, dusk, plan, book -/
theorem dsim_mk {f : Nat → Nat → Int32} {n hr wn dk sd gb pc bc : Nat} {W : Nat → Nat} {D : aD} (b0 : n ≤ 7) (b1 : hr ≤ 9999) (b2 : wn ≤ 9999) (b3 : dk < 2 ^ n) (b4 : sd < 2 ^ n) (b5 : gb < 2 ^ n) (b6 : pc ≤ 12) (b7 : bc ≤ 12) (c0 : f 56 0 = nI n) (c1 : f 56 1 = nI hr) (c2 : f 56 2 = nI wn) (c3 : f 56 3 = nI dk) (c4 : f 56 4 = nI sd) (c5 : f 56 5 = nI gb) (c6 : f 56 11 = nI pc) (c7 : f 56 14 = nI bc) (m0 : f 114 0 = nI n) (m1 : f 114 1 = nI sd) (m2 : f 114 2 = nI hr) (m3 : f 114 3 = nI wn) (m5 : f 114 37 = nI dk) (m6 : f 114 40 = nI pc) (m7 : f 114 43 = nI bc) (sl : ∀ s, s < n → f 57 s = nI (dK D s) ∧ f 58 s = nI (dV D s) ∧ f 59 s = nI (dL D s) ∧ f 60 s = nI (W s) ∧ W s ≤ 99) (sm : ∀ s, s < n → f 115 s = nI (dK D s) ∧ f 116 s = nI (dV D s) ∧ f 117 s = nI (dL D s) ∧ f 118 s = nI (bt gb s) ∧ f 119 s = nI (W s)) (rw' : ∀ k, k < 28 → f 61 k = nI (dR D k) ∧ f 120 k = nI (dR D k) ∧ (4 * n ≤ k → dR D k = 0)) (pl : ∀ i, i < pc → ∃ a b, a < n ∧ b < n ∧ a ≠ b ∧ f 62 i = nI a ∧ f 63 i = nI b ∧ f 134 i = nI a ∧ f 135 i = nI b) (bk : ∀ i, i < bc → ∃ s x, s < n ∧ x ≤ 999 ∧ f 64 i = nI s ∧ f 65 i = nI x ∧ f 136 i = nI s ∧ f 137 i = nI x) (ok : DOK D n) : DSim f 56 (nT f) (nB f) n hr wn dk sd gb pc bc W D :=
  ⟨b0, b1, b2, b3, b4, b5, b6, b7, c0, c1, c2, c3, c4, c5, c6, c7, m0, m1, m2, m3, m5, m6, m7, sl, sm, rw', pl, bk, ok⟩
/-- cells of the day that holds now -/
def dyc (q k : Nat) : Prop := (57 ≤ q ∧ q ≤ 65) ∨ q = 56 ∨ (115 ≤ q ∧ q ≤ 120) ∨ (134 ≤ q ∧ q ≤ 137) ∨ (q = 114 ∧ (k = 0 ∨ k = 1 ∨ k = 2 ∨ k = 3 ∨ k = 37 ∨ k = 40 ∨ k = 43))
/-- the same off the day, and off what asking may change -/
def FyD (f f' : Nat → Nat → Int32) : Prop := ∀ q k, ¬ scq q k → ¬ dyc q k → f' q k = f q k
theorem FyD.refl {f : Nat → Nat → Int32} : FyD f f := fun _ _ _ _ => rfl
theorem FyD.trans {f f' f2 : Nat → Nat → Int32} (a : FyD f f') (b : FyD f' f2) : FyD f f2 := fun q k h h2 => (b q k h h2).trans (a q k h h2)
theorem Fq.fd {f f' : Nat → Nat → Int32} (h : Fq f f') : FyD f f' := fun q k a _ => h q k a
theorem FyD.u {f : Nat → Nat → Int32} {q k : Nat} {x : Int32} (h : dyc q k) : FyD f (u2 f q k x) := fun a b _ hq => u2_nn (fun e => hq (by rw [e.1, e.2]; exact h))
theorem FyD.row {f f' : Nat → Nat → Int32} (h : FyD f f') {q : Nat} (hq : ∀ k, ¬ scq q k) (h2 : ∀ k, ¬ dyc q k) : f' q = f q := funext fun k => h q k (hq k) (h2 k)
theorem XP.day {f : Nat → Nat → Int32} {g : Nat → Nat → Int64} {h1 h2 : Nat} {n hr wn dk sd gb pc bc : Nat} {W : Nat → Nat} {D : aD} {hc : Nat} {HS : Nat → aH} {f' : Nat → Nat → Int32} {n' hr' wn' dk' sd' gb' pc' bc' : Nat} {W' : Nat → Nat} {D' : aD} (X : XP f g h1 h2 n hr wn dk sd gb pc bc W D hc HS) (F : FyD f f') (eh : dH D' = dH D) (S : DSim f' 56 (nT f') (nB f') n' hr' wn' dk' sd' gb' pc' bc' W' D') : XP f' g h1 h2 n' hr' wn' dk' sd' gb' pc' bc' W' D' hc HS := by
  have R : ∀ q, (∀ k, ¬ scq q k) → (∀ k, ¬ dyc q k) → f' q = f q := fun q hq h2 => F.row hq h2
  have M : ∀ k, ¬ scq 114 k → ¬ dyc 114 k → f' 114 k = f 114 k := fun k hk h2 => F 114 k hk h2
  refine ⟨S, ?_, X.q.fr (fun q hq => R q (fun k => by unfold scq; omega) (fun k => by unfold dyc; omega)) (F 17 5 (by unfold scq; omega) (by unfold dyc; omega)) (M 11 (by unfold scq; omega) (by unfold dyc; omega)), X.i.fr (fun q hq => R q (fun k => by unfold scq; omega) (fun k => by unfold dyc; omega)) (F 17 2 (by unfold scq; omega) (by unfold dyc; omega)) (fun k h1 h2 => M k (by unfold scq; omega) (by unfold dyc; omega)), X.t.fr (fun q hq => R q (fun k => by unfold scq; omega) (fun k => by unfold dyc; omega)), X.a.fr (F 49 1 (by unfold scq; omega) (by unfold dyc; omega)) (R 50 (fun k => by unfold scq; omega) (fun k => by unfold dyc; omega)) (R 148 (fun k => by unfold scq; omega) (fun k => by unfold dyc; omega)) (M 65 (by unfold scq; omega) (by unfold dyc; omega)), X.x.fr (F 18 1 (by unfold scq; omega) (by unfold dyc; omega)) (R 19 (fun k => by unfold scq; omega) (fun k => by unfold dyc; omega)) (R 121 (fun k => by unfold scq; omega) (fun k => by unfold dyc; omega)) (M 13 (by unfold scq; omega) (by unfold dyc; omega)), ?_, ?_⟩
  · have e : nT f' 4 = nT f 4 := M 12 (by unfold scq; omega) (by unfold dyc; omega)
    unfold HSim
    rw [e, eh]
    exact X.h
  · rw [M 4 (by unfold scq; omega) (by unfold dyc; omega)]
    exact X.w
  · intro k hk
    rw [R 129 (fun k => by unfold scq; omega) (fun k => by unfold dyc; omega)]
    exact X.l k hk
section M0
variable {sc : aSc} {d : Nat} {r : aRes} {f : Nat → Nat → Int32} {g : Nat → Nat → Int64} {h1 h2 : Nat} {n hr wn dk sd gb pc bc : Nat} {W : Nat → Nat} {D : aD} {hc : Nat} {HS : Nat → aH} {σ : aS}
theorem opi_m {jc jm : Nat} {as : List Value} {v : Int32} {f1 f' : Nat → Nat → Int32} (C : Cl sc d jc (.ref (17 : Nat) :: as) (cS f g h1 h2) (cS f1 g h1 h2, some (.int v))) (M : Cl sc d jm (.ref (114 : Nat) :: as) (cS f1 g h1 h2) (cS f' g h1 h2, some (.int v))) (X : XS f' g h1 h2) : OPI sc d jc jm as f g h1 h2 := ⟨f1, g, h1, h2, f', g, h1, h2, v, C, M, X⟩
theorem lt9 : nI 9999 = 9999 := rfl
theorem lt12 : nI 12 = 12 := rfl
theorem op_hour (X : XP f g h1 h2 n hr wn dk sd gb pc bc W D hc HS) : OPI sc (d + 30) 74 148 [] f g h1 h2 := by
  have c1 : f 56 1 = nI hr := X.d.c1
  have m2 : f 114 2 = nI hr := X.d.m2
  have b1 : hr ≤ 9999 := X.d.b1
  have q1 := @nI_ltI hr 9999 (by omega) (by decide)
  have q2 := @nI_eq hr 9999 (by omega) (by decide)
  rw [lt9] at q1 q2
  by_cases w : hr = 9999
  · have w1 : ¬ hr < 9999 := by omega
    refine opi_q (v := -3) X (qc0 ?_) fun f1 X1 => qc0 ?_
    · simp only [c74, x74_0, x74_1, x74_4, x74_7, x74_10, x74_13, x74_15, x74_16, x74_17, x74_20, x74_21, x74_24, x74_25, x74_26, x74_29, x74_30, x74_33, x74_36, kp17, rf17_0, rp17_0, rf17_1, rp17_1, rf17_3, rp17_3, rf17_4, rp17_4, al20, iA20, iG20, rf17_6, rp17_6, rf17_7, rp17_7, rf17_8, rp17_8, al51, iA51, iG51, kp56, rf56_6, rp56_6, al57, iA57, it57, rf56_7, rp56_7, al58, iA58, it58, rf56_8, rp56_8, al59, iA59, it59, rf56_9, rp56_9, al60, iA60, it60, rf56_10, rp56_10, al61, iA61, it61, rf56_12, rp56_12, al62, iA62, it62, rf56_13, rp56_13, al63, iA63, it63, rf56_15, rp56_15, al64, iA64, it64, rf56_16, rp56_16, al65, iA65, it65, rf56_17, rp56_17, rf56_18, rp56_18, al66, iA66, it66, c1, q1, w1, bI_True, bI_False, nI_1, Nat.reduceLeDiff, Nat.reduceEqDiff, nb0, nb1, nbI, eq_self, ex_pr, tl_s, tl_n, if_true, if_false, not_true_eq_false, not_false_eq_true, and_self, and_false, false_and, and_true, true_and]
    · have m2 : f1 114 2 = nI hr := X1.d.m2
      simp only [c148, x148_0, x148_1, x148_4, x148_7, x148_10, x148_12, x148_13, x148_14, x148_15, x148_18, x148_19, x148_20, x148_23, x148_24, x148_27, kp114, rf114_5, rp114_5, al115, iA115, it115, rf114_6, rp114_6, al116, iA116, it116, rf114_7, rp114_7, al117, iA117, it117, rf114_8, rp114_8, al118, iA118, it118, rf114_9, rp114_9, al119, iA119, it119, rf114_10, rp114_10, al120, iA120, it120, rf114_16, rp114_16, al121, iA121, it121, rf114_17, rp114_17, al122, iA122, it122, rf114_18, rp114_18, al123, iA123, it123, rf114_19, rp114_19, al124, iA124, it124, rf114_20, rp114_20, al125, iA125, it125, rf114_21, rp114_21, al126, iA126, it126, rf114_22, rp114_22, al127, iA127, it127, rf114_23, rp114_23, al128, iA128, it128, rf114_27, rp114_27, al129, iA129, it129, rf114_28, rp114_28, al130, iA130, it130, rf114_29, rp114_29, al131, iA131, it131, rf114_30, rp114_30, al132, iA132, it132, rf114_31, rp114_31, al133, iA133, it133, rf114_41, rp114_41, al134, iA134, it134, rf114_42, rp114_42, al135, iA135, it135, rf114_44, rp114_44, al136, iA136, it136, rf114_45, rp114_45, al137, iA137, it137, rf114_55, rp114_55, al138, iA138, it138, rf114_56, rp114_56, al139, iA139, it139, rf114_57, rp114_57, al140, iA140, it140, rf114_58, rp114_58, al141, iA141, it141, rf114_59, rp114_59, al142, iA142, it142, rf114_60, rp114_60, al143, iA143, it143, rf114_61, rp114_61, al144, iA144, it144, rf114_62, rp114_62, al145, iA145, it145, rf114_63, rp114_63, al146, iA146, it146, rf114_64, rp114_64, al147, iA147, it147, rf114_66, rp114_66, al148, iA148, it148, rf114_67, rp114_67, al149, iA149, it149, rf114_68, rp114_68, al150, iA150, it150, rf114_69, rp114_69, al151, iA151, it151, rf114_70, rp114_70, al152, iA152, it152, m2, q2, eq_true w, bI_True, bI_False, nI_1, Nat.reduceLeDiff, Nat.reduceEqDiff, nb0, nb1, nbI, eq_self, ex_pr, tl_s, tl_n, if_true, if_false, not_true_eq_false, not_false_eq_true, and_self, and_false, false_and, and_true, true_and]
  · have w1 : hr < 9999 := by omega
    refine opi_m (v := nI (hr + 1)) (f1 := u2 f 56 1 (nI (hr + 1))) (f' := u2 (u2 f 56 1 (nI (hr + 1))) 114 2 (nI (hr + 1))) ?_ ?_ (XP.xs (X.day (n' := n) (hr' := hr + 1) (wn' := wn) (dk' := dk) (sd' := sd) (gb' := gb) (pc' := pc) (bc' := bc) (W' := W) (D' := D) ((FyD.u (by unfold dyc; omega)).trans (FyD.u (by unfold dyc; omega))) rfl (dsim_mk X.d.b0 (by omega) X.d.b2 X.d.b3 X.d.b4 X.d.b5 X.d.b6 X.d.b7 (by simp only [u2_at, Nat.reduceEqDiff, false_and, and_false, if_false]; exact X.d.c0) (by rw [u2_nn (by omega)]; exact u2_ss) (by simp only [u2_at, Nat.reduceEqDiff, false_and, and_false, if_false]; exact X.d.c2) (by simp only [u2_at, Nat.reduceEqDiff, false_and, and_false, if_false]; exact X.d.c3) (by simp only [u2_at, Nat.reduceEqDiff, false_and, and_false, if_false]; exact X.d.c4) (by simp only [u2_at, Nat.reduceEqDiff, false_and, and_false, if_false]; exact X.d.c5) (by simp only [u2_at, Nat.reduceEqDiff, false_and, and_false, if_false]; exact X.d.c6) (by simp only [u2_at, Nat.reduceEqDiff, false_and, and_false, if_false]; exact X.d.c7) (by simp only [u2_at, Nat.reduceEqDiff, false_and, and_false, if_false]; exact X.d.m0) (by simp only [u2_at, Nat.reduceEqDiff, false_and, and_false, if_false]; exact X.d.m1) (u2_ss) (by simp only [u2_at, Nat.reduceEqDiff, false_and, and_false, if_false]; exact X.d.m3) (by simp only [u2_at, Nat.reduceEqDiff, false_and, and_false, if_false]; exact X.d.m5) (by simp only [u2_at, Nat.reduceEqDiff, false_and, and_false, if_false]; exact X.d.m6) (by simp only [u2_at, Nat.reduceEqDiff, false_and, and_false, if_false]; exact X.d.m7) (by simp only [u2_at, Nat.reduceEqDiff, false_and, and_false, if_false]; exact X.d.sl) (by simp only [u2_at, Nat.reduceEqDiff, false_and, and_false, if_false]; exact X.d.sm) (by simp only [u2_at, Nat.reduceEqDiff, false_and, and_false, if_false]; exact X.d.rw) (by simp only [u2_at, Nat.reduceEqDiff, false_and, and_false, if_false]; exact X.d.pl) (by simp only [u2_at, Nat.reduceEqDiff, false_and, and_false, if_false]; exact X.d.bk) X.d.ok)))
    · simp only [c74, x74_0, x74_1, x74_4, x74_7, x74_10, x74_13, x74_15, x74_16, x74_17, x74_20, x74_21, x74_24, x74_25, x74_26, x74_29, x74_30, x74_33, x74_36, kp17, rf17_0, rp17_0, rf17_1, rp17_1, rf17_3, rp17_3, rf17_4, rp17_4, al20, iA20, iG20, rf17_6, rp17_6, rf17_7, rp17_7, rf17_8, rp17_8, al51, iA51, iG51, kp56, rf56_6, rp56_6, al57, iA57, it57, rf56_7, rp56_7, al58, iA58, it58, rf56_8, rp56_8, al59, iA59, it59, rf56_9, rp56_9, al60, iA60, it60, rf56_10, rp56_10, al61, iA61, it61, rf56_12, rp56_12, al62, iA62, it62, rf56_13, rp56_13, al63, iA63, it63, rf56_15, rp56_15, al64, iA64, it64, rf56_16, rp56_16, al65, iA65, it65, rf56_17, rp56_17, rf56_18, rp56_18, al66, iA66, it66, c1, q1, w1, u2_ss, bI_True, bI_False, nI_1, Nat.reduceLeDiff, Nat.reduceEqDiff, nb0, nb1, nbI, eq_self, ex_pr, tl_s, tl_n, if_true, if_false, not_true_eq_false, not_false_eq_true, and_self, and_false, false_and, and_true, true_and]
    · simp only [c148, x148_0, x148_1, x148_4, x148_7, x148_10, x148_12, x148_13, x148_14, x148_15, x148_18, x148_19, x148_20, x148_23, x148_24, x148_27, kp114, rf114_5, rp114_5, al115, iA115, it115, rf114_6, rp114_6, al116, iA116, it116, rf114_7, rp114_7, al117, iA117, it117, rf114_8, rp114_8, al118, iA118, it118, rf114_9, rp114_9, al119, iA119, it119, rf114_10, rp114_10, al120, iA120, it120, rf114_16, rp114_16, al121, iA121, it121, rf114_17, rp114_17, al122, iA122, it122, rf114_18, rp114_18, al123, iA123, it123, rf114_19, rp114_19, al124, iA124, it124, rf114_20, rp114_20, al125, iA125, it125, rf114_21, rp114_21, al126, iA126, it126, rf114_22, rp114_22, al127, iA127, it127, rf114_23, rp114_23, al128, iA128, it128, rf114_27, rp114_27, al129, iA129, it129, rf114_28, rp114_28, al130, iA130, it130, rf114_29, rp114_29, al131, iA131, it131, rf114_30, rp114_30, al132, iA132, it132, rf114_31, rp114_31, al133, iA133, it133, rf114_41, rp114_41, al134, iA134, it134, rf114_42, rp114_42, al135, iA135, it135, rf114_44, rp114_44, al136, iA136, it136, rf114_45, rp114_45, al137, iA137, it137, rf114_55, rp114_55, al138, iA138, it138, rf114_56, rp114_56, al139, iA139, it139, rf114_57, rp114_57, al140, iA140, it140, rf114_58, rp114_58, al141, iA141, it141, rf114_59, rp114_59, al142, iA142, it142, rf114_60, rp114_60, al143, iA143, it143, rf114_61, rp114_61, al144, iA144, it144, rf114_62, rp114_62, al145, iA145, it145, rf114_63, rp114_63, al146, iA146, it146, rf114_64, rp114_64, al147, iA147, it147, rf114_66, rp114_66, al148, iA148, it148, rf114_67, rp114_67, al149, iA149, it149, rf114_68, rp114_68, al150, iA150, it150, rf114_69, rp114_69, al151, iA151, it151, rf114_70, rp114_70, al152, iA152, it152, u2_at, m2, q2, eq_false w, bI_True, bI_False, nI_1, Nat.reduceLeDiff, Nat.reduceEqDiff, nb0, nb1, nbI, eq_self, ex_pr, tl_s, tl_n, if_true, if_false, not_true_eq_false, not_false_eq_true, and_self, and_false, false_and, and_true, true_and]
theorem dusk_ok (x : Int32) {n : Nat} (h : n ≤ 7) : (x &&& (nI (2 ^ n - 1) ^^^ -1) = 0) = (¬ x < 0 ∧ ¬ nI (2 ^ n - 1) < x) := by
  have p := p2_7 h
  have p0 : 0 < 2 ^ n := Nat.two_pow_pos n
  by_cases w : x < 0
  · refine propext ⟨fun e => ?_, fun e => absurd w e.1⟩
    have e2 : bl x 31 = false := by
      have := congrArg (fun z => bl z 31) e
      simp only [bl_and, bl_xor] at this
      rw [bl_m1 (by decide), bl_nI, Nat.testBit_lt_two_pow (show 2 ^ n - 1 < 2 ^ 31 by omega)] at this
      simp only [Bool.and_false, Bool.false_xor, Bool.and_true] at this
      rw [this]
      decide
    have e3 : bl x 31 = true := by
      show x.toBitVec.getLsbD 31 = true
      have a := BitVec.msb_eq_toInt (x := x.toBitVec)
      have b : x.toBitVec.toInt < 0 := by
        have := Int32.lt_iff_toInt_lt.mp w
        exact this
      rw [decide_eq_true b, BitVec.msb_eq_getLsbD_last] at a
      exact a
    rw [e2] at e3
    cases e3
  · obtain ⟨m, hm, rfl⟩ := nI_of w
    rw [nI_ann, nI_ltI (by omega) hm]
    have bd : ann m (2 ^ n - 1) < 2147483648 := tb_lt (n := 31) fun k hk => by
      rw [ann_tb, lt_tb (n := 31) hm hk, Bool.false_and]
    have e0 := @nI_eq (ann m (2 ^ n - 1)) 0 bd (by decide)
    rw [lt0] at e0
    refine propext ⟨fun e => ⟨w, ?_⟩, fun e => e0.mpr ?_⟩
    · have e2 := e0.mp e
      have : m < 2 ^ n := tb_lt fun k hk => by
        have t := congrArg (fun z => z.testBit k) e2
        simp only [ann_tb, tb_all, Nat.zero_testBit] at t
        rw [decide_eq_false (by omega), Bool.not_false, Bool.and_true] at t
        exact t
      omega
    · have l : m < 2 ^ n := by
        have := e.2
        omega
      refine Nat.eq_of_testBit_eq fun k => ?_
      rw [ann_tb, tb_all, Nat.zero_testBit]
      by_cases hk : k < n
      · rw [decide_eq_true hk, Bool.not_true, Bool.and_false]
      · rw [lt_tb l (by omega), Bool.false_and]
end M0
