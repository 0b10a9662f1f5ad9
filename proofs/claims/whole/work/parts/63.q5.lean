/-! fractions; ballast, odds, mean, looked -/
section Q5
variable {sc : aSc} {d : Nat} {r : aRes} {f : Nat → Nat → Int32} {g : Nat → Nat → Int64} {h1 h2 : Nat} {n hr wn dk sd gb pc bc : Nat} {W : Nat → Nat} {D : aD} {hc : Nat} {HS : Nat → aH} {σ : aS}
def lowV (x y : Nat) (z : Int32) : Int64 := ((if z = 0 then nI x else nI y) / nI (Nat.gcd x y)).toInt64
theorem mx1 {a : Nat} (h : 0 < a) (h2 : a < 2147483648) : (if (1 : Int32) < nI a then nI a else 1) = nI a := by
  by_cases e : a = 1
  · subst e
    decide
  · have q : (1 : Int32) < nI a := nI_lt (show 1 < a by omega) (by omega)
    rw [if_pos q]
theorem l106 {x y : Nat} {z : Int32} {G : Nat} (hG : 0 < G) (hG2 : G < 2147483648) : ∀ (m a b i : Nat) (v6 : Value), b ≤ m → i + m ≤ 99 → a < 2147483648 → Nat.gcd a b = G → (Rn sc (d + 1) 106 8 [.int (nI x), .int (nI y), .int z, .int (nI a), .int (nI b), .int (nI i), v6] [] σ r ↔ r = (σ, some (.long ((if z = 0 then nI x else nI y) / nI G).toInt64)))
  | 0, a, b, i, v6, hb, hi, ha, hg => by
    have e : b = 0 := by omega
    subst e
    rw [Nat.gcd_zero_right] at hg
    subst hg
    have e1 : nI i < 100 := nI_lt (show i < 100 by omega) (by decide)
    have e2 : ¬ nI a = 0 := nI_ne0 hG hG2
    by_cases w : z = 0 <;> simp only [c106, x106_0, x106_1, x106_2, x106_3, x106_5, x106_6, x106_10, x106_12, x106_15, x106_17, x106_20, x106_21, x106_23, x106_24, x106_26, x106_28, x106_29, x106_31, x106_33, x106_36, x106_39, x106_40, x106_41, x106_44, x106_46, x106_47, x106_50, x106_51, x106_53, x106_54, x106_55, x106_58, x106_59, x106_61, x106_62, x106_63, x106_8 (x5 := nI i), e1, lt0, s207, mx1 hG hG2, e2, w, bI_True, bI_False, nI_1, Nat.reduceLeDiff, Nat.reduceEqDiff, nb0, nb1, nbI, eq_self, ex_pr, tl_s, tl_n, if_true, if_false, not_true_eq_false, not_false_eq_true, and_self, and_false, false_and, and_true, true_and]
  | m + 1, a, b, i, v6, hb, hi, ha, hg => by
    have e1 : nI i < 100 := nI_lt (show i < 100 by omega) (by decide)
    by_cases e : b = 0
    · subst e
      rw [Nat.gcd_zero_right] at hg
      subst hg
      have e2 : ¬ nI a = 0 := nI_ne0 hG hG2
      by_cases w : z = 0 <;> simp only [c106, x106_0, x106_1, x106_2, x106_3, x106_5, x106_6, x106_10, x106_12, x106_15, x106_17, x106_20, x106_21, x106_23, x106_24, x106_26, x106_28, x106_29, x106_31, x106_33, x106_36, x106_39, x106_40, x106_41, x106_44, x106_46, x106_47, x106_50, x106_51, x106_53, x106_54, x106_55, x106_58, x106_59, x106_61, x106_62, x106_63, x106_8 (x5 := nI i), e1, lt0, s207, mx1 hG hG2, e2, w, bI_True, bI_False, nI_1, Nat.reduceLeDiff, Nat.reduceEqDiff, nb0, nb1, nbI, eq_self, ex_pr, tl_s, tl_n, if_true, if_false, not_true_eq_false, not_false_eq_true, and_self, and_false, false_and, and_true, true_and]
    · have e2 : ¬ nI b = 0 := nI_ne0 (by omega) (by omega)
      have e3 : nI a % nI b = nI (a % b) := nI_rem ha (by omega)
      have lt : a % b < b := Nat.mod_lt _ (by omega)
      have k := l106 hG hG2 (x := x) (y := y) (z := z) m b (a % b) (i + 1) (.int (nI (a % b))) (by omega) (by omega) (by omega) (by rw [← hg, Nat.gcd_comm b, ← Nat.gcd_rec, Nat.gcd_comm])
      rw [← k]
      simp only [c106, x106_0, x106_1, x106_2, x106_3, x106_5, x106_6, x106_10, x106_12, x106_15, x106_17, x106_20, x106_21, x106_23, x106_24, x106_26, x106_28, x106_29, x106_31, x106_33, x106_36, x106_39, x106_40, x106_41, x106_44, x106_46, x106_47, x106_50, x106_51, x106_53, x106_54, x106_55, x106_58, x106_59, x106_61, x106_62, x106_63, x106_8 (x5 := nI i), e1, e2, e3, bI_True, bI_False, nI_1, Nat.reduceLeDiff, Nat.reduceEqDiff, nb0, nb1, nbI, eq_self, ex_pr, tl_s, tl_n, if_true, if_false, not_true_eq_false, not_false_eq_true, and_self, and_false, false_and, and_true, true_and]
theorem s106 {x y : Nat} {z : Int32} (hx : x < 2147483648) (hy : 0 < y) (hy2 : y ≤ 90) : Cl sc (d + 2) 106 [.int (nI x), .int (nI y), .int z] σ r ↔ r = (σ, some (.long (lowV x y z))) := by
  have g0 : 0 < Nat.gcd x y := Nat.gcd_pos_of_pos_right _ hy
  have g1 : Nat.gcd x y ≤ y := Nat.gcd_le_right _ hy
  have k := @l106 sc d r σ x y z (Nat.gcd x y) g0 (by omega) 99 x y 0 mk0 (by omega) (by omega) hx rfl
  unfold lowV
  rw [← k]
  simp only [c106, x106_0, x106_1, x106_2, x106_3, x106_5, x106_6, x106_10, x106_12, x106_15, x106_17, x106_20, x106_21, x106_23, x106_24, x106_26, x106_28, x106_29, x106_31, x106_33, x106_36, x106_39, x106_40, x106_41, x106_44, x106_46, x106_47, x106_50, x106_51, x106_53, x106_54, x106_55, x106_58, x106_59, x106_61, x106_62, x106_63, lt0, bI_True, bI_False, nI_1, Nat.reduceLeDiff, Nat.reduceEqDiff, nb0, nb1, nbI, eq_self, ex_pr, tl_s, tl_n, if_true, if_false, not_true_eq_false, not_false_eq_true, and_self, and_false, false_and, and_true, true_and]
theorem l168 {x y : Int32} {G : Nat} : ∀ (m a b : Nat) (v5 : Value), b ≤ m → m < 2147483648 → a < 2147483648 → Nat.gcd a b = G → (Rn sc d 168 5 [.ref (114 : Nat), .int x, .int y, .int (nI a), .int (nI b), v5] [] σ r ↔ r = (σ, some (.int (nI G))))
  | 0, a, b, v5, hb, hm, ha, hg => by
    have e : b = 0 := by omega
    subst e
    rw [Nat.gcd_zero_right] at hg
    subst hg
    simp only [c168, x168_0, x168_1, x168_2, x168_3, x168_7, x168_10, x168_11, x168_13, x168_14, x168_16, x168_18, x168_19, x168_21, x168_23, x168_26, x168_27, x168_5 (x4 := 0), lt0, bI_True, bI_False, nI_1, Nat.reduceLeDiff, Nat.reduceEqDiff, nb0, nb1, nbI, eq_self, ex_pr, tl_s, tl_n, if_true, if_false, not_true_eq_false, not_false_eq_true, and_self, and_false, false_and, and_true, true_and]
  | m + 1, a, b, v5, hb, hm, ha, hg => by
    by_cases e : b = 0
    · subst e
      rw [Nat.gcd_zero_right] at hg
      subst hg
      simp only [c168, x168_0, x168_1, x168_2, x168_3, x168_7, x168_10, x168_11, x168_13, x168_14, x168_16, x168_18, x168_19, x168_21, x168_23, x168_26, x168_27, x168_5 (x4 := 0), lt0, bI_True, bI_False, nI_1, Nat.reduceLeDiff, Nat.reduceEqDiff, nb0, nb1, nbI, eq_self, ex_pr, tl_s, tl_n, if_true, if_false, not_true_eq_false, not_false_eq_true, and_self, and_false, false_and, and_true, true_and]
    · have e2 : ¬ nI b = 0 := nI_ne0 (by omega) (by omega)
      have e3 : nI a % nI b = nI (a % b) := nI_rem ha (by omega)
      have lt : a % b < b := Nat.mod_lt _ (by omega)
      have k := l168 (x := x) (y := y) (G := G) m b (a % b) (.int (nI (a % b))) (by omega) (by omega) (by omega) (by rw [← hg, Nat.gcd_comm b, ← Nat.gcd_rec, Nat.gcd_comm])
      rw [← k]
      simp only [c168, x168_0, x168_1, x168_2, x168_3, x168_7, x168_10, x168_11, x168_13, x168_14, x168_16, x168_18, x168_19, x168_21, x168_23, x168_26, x168_27, x168_5 (x4 := nI b), e2, e3, bI_True, bI_False, nI_1, Nat.reduceLeDiff, Nat.reduceEqDiff, nb0, nb1, nbI, eq_self, ex_pr, tl_s, tl_n, if_true, if_false, not_true_eq_false, not_false_eq_true, and_self, and_false, false_and, and_true, true_and]
theorem s169 {x y : Nat} {z : Int32} (hx : x < 2147483648) (hy : 0 < y) (hy2 : y ≤ 90) : Cl sc (d + 2) 169 [.ref (114 : Nat), .int (nI x), .int (nI y), .int z] (cS f g h1 h2) r ↔ r = (cS f g h1 h2, some (.long (lowV x y z))) := by
  have g0 : 0 < Nat.gcd x y := Nat.gcd_pos_of_pos_right _ hy
  have g1 : Nat.gcd x y ≤ y := Nat.gcd_le_right _ hy
  have k : ∀ d r, Cl sc (d + 1) 168 [.ref (114 : Nat), .int (nI x), .int (nI y)] (cS f g h1 h2) r ↔ r = (cS f g h1 h2, some (.int (nI (Nat.gcd x y)))) := by
    intro d r
    rw [← @l168 sc d r (cS f g h1 h2) (nI x) (nI y) (Nat.gcd x y) y x y mk0 (by omega) (by omega) hx rfl]
    simp only [c168, x168_0, x168_1, x168_2, x168_3, x168_7, x168_10, x168_11, x168_13, x168_14, x168_16, x168_18, x168_19, x168_21, x168_23, x168_26, x168_27]
  have e2 : ¬ nI (Nat.gcd x y) = 0 := nI_ne0 g0 (by omega)
  unfold lowV
  by_cases w : z = 0 <;> simp only [c169, x169_0, x169_1, x169_2, x169_3, x169_6, x169_8, x169_9, x169_12, x169_13, x169_15, x169_16, x169_17, x169_20, x169_21, x169_23, x169_24, x169_25, kp114, rf114_5, rp114_5, al115, iA115, it115, rf114_6, rp114_6, al116, iA116, it116, rf114_7, rp114_7, al117, iA117, it117, rf114_8, rp114_8, al118, iA118, it118, rf114_9, rp114_9, al119, iA119, it119, rf114_10, rp114_10, al120, iA120, it120, rf114_16, rp114_16, al121, iA121, it121, rf114_17, rp114_17, al122, iA122, it122, rf114_18, rp114_18, al123, iA123, it123, rf114_19, rp114_19, al124, iA124, it124, rf114_20, rp114_20, al125, iA125, it125, rf114_21, rp114_21, al126, iA126, it126, rf114_22, rp114_22, al127, iA127, it127, rf114_23, rp114_23, al128, iA128, it128, rf114_27, rp114_27, al129, iA129, it129, rf114_28, rp114_28, al130, iA130, it130, rf114_29, rp114_29, al131, iA131, it131, rf114_30, rp114_30, al132, iA132, it132, rf114_31, rp114_31, al133, iA133, it133, rf114_41, rp114_41, al134, iA134, it134, rf114_42, rp114_42, al135, iA135, it135, rf114_44, rp114_44, al136, iA136, it136, rf114_45, rp114_45, al137, iA137, it137, rf114_55, rp114_55, al138, iA138, it138, rf114_56, rp114_56, al139, iA139, it139, rf114_57, rp114_57, al140, iA140, it140, rf114_58, rp114_58, al141, iA141, it141, rf114_59, rp114_59, al142, iA142, it142, rf114_60, rp114_60, al143, iA143, it143, rf114_61, rp114_61, al144, iA144, it144, rf114_62, rp114_62, al145, iA145, it145, rf114_63, rp114_63, al146, iA146, it146, rf114_64, rp114_64, al147, iA147, it147, rf114_66, rp114_66, al148, iA148, it148, rf114_67, rp114_67, al149, iA149, it149, rf114_68, rp114_68, al150, iA150, it150, rf114_69, rp114_69, al151, iA151, it151, rf114_70, rp114_70, al152, iA152, it152, k, e2, w, bI_True, bI_False, nI_1, Nat.reduceLeDiff, Nat.reduceEqDiff, nb0, nb1, nbI, eq_self, ex_pr, tl_s, tl_n, if_true, if_false, not_true_eq_false, not_false_eq_true, and_self, and_false, false_and, and_true, true_and]
/-- pulls together -/
def smP (D : aD) (sd hr : Nat) : Nat → Nat → Nat
  | 0, _ => 0
  | k + 1, i => PU D i (bt sd i) hr + smP D sd hr k (i + 1)
theorem l88 {x1 : Int32} : ∀ (k i a : Nat) (f : Nat → Nat → Int32), CY f h1 D n sd hr → i + k = n → a ≤ 3000 * i → ∃ f', Sc f f' ∧ ∀ r, (Rn sc (d + 6) 88 26 [.ref (17 : Nat), .int x1, .int (nI a), .int (nI i)] [] (cS f g h1 h2) r ↔ Rn sc (d + 6) 88 54 [.ref (17 : Nat), .int x1, .int (nI (a + smP D sd hr k i)), .int (nI n)] [] (cS f' g h1 h2) r) ∧ a + smP D sd hr k i ≤ 3000 * n
  | 0, i, a, f, C, h, ha => by
    have e : i = n := h
    subst e
    obtain ⟨-, n7, c0, -⟩ := C
    have e1 : ¬ nI i < nI i := Int32.lt_irrefl
    refine ⟨f, Sc.refl, fun r => ⟨?_, ha⟩⟩
    show _ ↔ Rn sc (d + 6) 88 54 [.ref (17 : Nat), .int x1, .int (nI a), .int (nI i)] [] (cS f g h1 h2) r
    simp only [x88_26 (x3 := nI i), x88_27, x88_28, x88_31, x88_34, kp17, rf17_0, rp17_0, rf17_1, rp17_1, rf17_3, rp17_3, rf17_4, rp17_4, al20, iA20, iG20, rf17_6, rp17_6, rf17_7, rp17_7, rf17_8, rp17_8, al51, iA51, iG51, kp56, rf56_6, rp56_6, al57, iA57, it57, rf56_7, rp56_7, al58, iA58, it58, rf56_8, rp56_8, al59, iA59, it59, rf56_9, rp56_9, al60, iA60, it60, rf56_10, rp56_10, al61, iA61, it61, rf56_12, rp56_12, al62, iA62, it62, rf56_13, rp56_13, al63, iA63, it63, rf56_15, rp56_15, al64, iA64, it64, rf56_16, rp56_16, al65, iA65, it65, rf56_17, rp56_17, rf56_18, rp56_18, al66, iA66, it66, c0, e1, bI_True, bI_False, nI_1, Nat.reduceLeDiff, Nat.reduceEqDiff, nb0, nb1, nbI, eq_self, ex_pr, tl_s, tl_n, if_true, if_false, not_true_eq_false, not_false_eq_true, and_self, and_false, false_and, and_true, true_and]
  | k + 1, i, a, f, C, h, ha => by
    have C0 := C
    obtain ⟨ce, n7, c0, c4, c1, b4, b1⟩ := C
    have b5 := go_lt n7 b4
    have e1 : nI i < nI n := nI_lt (by omega) (by omega)
    have k1 := fun d r => @s15 sc d r f g h1 h2 D n i sd hr ce (by omega) c4 c1 b5 (by omega)
    have pb := PU_le ce.1.1 (show i < n by omega) (bt sd i) hr
    obtain ⟨f2, F2, k2⟩ := l88 (x1 := x1) k (i + 1) (a + PU D i (bt sd i) hr) (wr6 f (fct D i (bt sd i) hr)) (C0.sc Sc.wr) (by omega) (by omega)
    have st : smP D sd hr (k + 1) i = PU D i (bt sd i) hr + smP D sd hr k (i + 1) := rfl
    refine ⟨f2, Sc.wr.trans F2, fun r => ?_⟩
    rw [st, ← Nat.add_assoc]
    refine ⟨?_, (k2 r).2⟩
    rw [← (k2 r).1]
    simp only [c88, x88_0, x88_1, x88_2, x88_5, x88_8, x88_9, x88_12, x88_15, x88_18, x88_21, x88_22, x88_23, x88_24, x88_25, x88_27, x88_28, x88_31, x88_34, x88_37, x88_38, x88_39, x88_42, x88_43, x88_46, x88_47, x88_48, x88_51, x88_54, x88_55, x88_56, x88_59, x88_62, x88_63, x88_66, x88_26 (x3 := nI i), kp17, rf17_0, rp17_0, rf17_1, rp17_1, rf17_3, rp17_3, rf17_4, rp17_4, al20, iA20, iG20, rf17_6, rp17_6, rf17_7, rp17_7, rf17_8, rp17_8, al51, iA51, iG51, kp56, rf56_6, rp56_6, al57, iA57, it57, rf56_7, rp56_7, al58, iA58, it58, rf56_8, rp56_8, al59, iA59, it59, rf56_9, rp56_9, al60, iA60, it60, rf56_10, rp56_10, al61, iA61, it61, rf56_12, rp56_12, al62, iA62, it62, rf56_13, rp56_13, al63, iA63, it63, rf56_15, rp56_15, al64, iA64, it64, rf56_16, rp56_16, al65, iA65, it65, rf56_17, rp56_17, rf56_18, rp56_18, al66, iA66, it66, c0, e1, k1, nI_add, bI_True, bI_False, nI_1, Nat.reduceLeDiff, Nat.reduceEqDiff, nb0, nb1, nbI, eq_self, ex_pr, tl_s, tl_n, if_true, if_false, not_true_eq_false, not_false_eq_true, and_self, and_false, false_and, and_true, true_and]
theorem l171 {x1 : Int32} : ∀ (k i a : Nat) (f : Nat → Nat → Int32), MY f D n sd hr 7 → i + k = n → a ≤ 3000 * i → ∃ f', Sm f f' ∧ ∀ r, (Rn sc (d + 6) 171 25 [.ref (114 : Nat), .int x1, .int (nI a), .int (nI i)] [] (cS f g h1 h2) r ↔ Rn sc (d + 6) 171 47 [.ref (114 : Nat), .int x1, .int (nI (a + smP D sd hr k i)), .int (nI n)] [] (cS f' g h1 h2) r)
  | 0, i, a, f, C, h, ha => by
    have e : i = n := h
    subst e
    obtain ⟨-, n7, c0, -⟩ := C
    have e1 : ¬ nI i < nI i := Int32.lt_irrefl
    refine ⟨f, Sm.refl, fun r => ?_⟩
    show _ ↔ Rn sc (d + 6) 171 47 [.ref (114 : Nat), .int x1, .int (nI a), .int (nI i)] [] (cS f g h1 h2) r
    simp only [x171_25 (x3 := nI i), x171_26, x171_27, x171_30, kp114, rf114_5, rp114_5, al115, iA115, it115, rf114_6, rp114_6, al116, iA116, it116, rf114_7, rp114_7, al117, iA117, it117, rf114_8, rp114_8, al118, iA118, it118, rf114_9, rp114_9, al119, iA119, it119, rf114_10, rp114_10, al120, iA120, it120, rf114_16, rp114_16, al121, iA121, it121, rf114_17, rp114_17, al122, iA122, it122, rf114_18, rp114_18, al123, iA123, it123, rf114_19, rp114_19, al124, iA124, it124, rf114_20, rp114_20, al125, iA125, it125, rf114_21, rp114_21, al126, iA126, it126, rf114_22, rp114_22, al127, iA127, it127, rf114_23, rp114_23, al128, iA128, it128, rf114_27, rp114_27, al129, iA129, it129, rf114_28, rp114_28, al130, iA130, it130, rf114_29, rp114_29, al131, iA131, it131, rf114_30, rp114_30, al132, iA132, it132, rf114_31, rp114_31, al133, iA133, it133, rf114_41, rp114_41, al134, iA134, it134, rf114_42, rp114_42, al135, iA135, it135, rf114_44, rp114_44, al136, iA136, it136, rf114_45, rp114_45, al137, iA137, it137, rf114_55, rp114_55, al138, iA138, it138, rf114_56, rp114_56, al139, iA139, it139, rf114_57, rp114_57, al140, iA140, it140, rf114_58, rp114_58, al141, iA141, it141, rf114_59, rp114_59, al142, iA142, it142, rf114_60, rp114_60, al143, iA143, it143, rf114_61, rp114_61, al144, iA144, it144, rf114_62, rp114_62, al145, iA145, it145, rf114_63, rp114_63, al146, iA146, it146, rf114_64, rp114_64, al147, iA147, it147, rf114_66, rp114_66, al148, iA148, it148, rf114_67, rp114_67, al149, iA149, it149, rf114_68, rp114_68, al150, iA150, it150, rf114_69, rp114_69, al151, iA151, it151, rf114_70, rp114_70, al152, iA152, it152, c0, e1, bI_True, bI_False, nI_1, Nat.reduceLeDiff, Nat.reduceEqDiff, nb0, nb1, nbI, eq_self, ex_pr, tl_s, tl_n, if_true, if_false, not_true_eq_false, not_false_eq_true, and_self, and_false, false_and, and_true, true_and]
  | k + 1, i, a, f, C, h, ha => by
    have C0 := C
    obtain ⟨me, n7, c0, m1, m2, -, b4, b1⟩ := C
    have b5 := go_lt n7 b4
    have e1 : nI i < nI n := nI_lt (by omega) (by omega)
    obtain ⟨f1, F1, k1⟩ := @s138 sc (d + 1) f g h1 h2 D n i sd hr me (by omega) m1 m2 (by omega) (by omega)
    have pb := PU_le me.1 (show i < n by omega) (bt sd i) hr
    obtain ⟨f2, F2, k2⟩ := l171 (x1 := x1) k (i + 1) (a + PU D i (bt sd i) hr) f1 (C0.sm F1) (by omega) (by omega)
    have st : smP D sd hr (k + 1) i = PU D i (bt sd i) hr + smP D sd hr k (i + 1) := rfl
    refine ⟨f2, F1.trans F2, fun r => ?_⟩
    rw [st, ← Nat.add_assoc, ← k2 r]
    simp only [c171, x171_0, x171_1, x171_2, x171_3, x171_4, x171_7, x171_10, x171_11, x171_14, x171_17, x171_20, x171_21, x171_22, x171_23, x171_24, x171_26, x171_27, x171_30, x171_33, x171_34, x171_35, x171_36, x171_39, x171_40, x171_41, x171_44, x171_47, x171_48, x171_49, x171_50, x171_53, x171_54, x171_57, x171_25 (x3 := nI i), kp114, rf114_5, rp114_5, al115, iA115, it115, rf114_6, rp114_6, al116, iA116, it116, rf114_7, rp114_7, al117, iA117, it117, rf114_8, rp114_8, al118, iA118, it118, rf114_9, rp114_9, al119, iA119, it119, rf114_10, rp114_10, al120, iA120, it120, rf114_16, rp114_16, al121, iA121, it121, rf114_17, rp114_17, al122, iA122, it122, rf114_18, rp114_18, al123, iA123, it123, rf114_19, rp114_19, al124, iA124, it124, rf114_20, rp114_20, al125, iA125, it125, rf114_21, rp114_21, al126, iA126, it126, rf114_22, rp114_22, al127, iA127, it127, rf114_23, rp114_23, al128, iA128, it128, rf114_27, rp114_27, al129, iA129, it129, rf114_28, rp114_28, al130, iA130, it130, rf114_29, rp114_29, al131, iA131, it131, rf114_30, rp114_30, al132, iA132, it132, rf114_31, rp114_31, al133, iA133, it133, rf114_41, rp114_41, al134, iA134, it134, rf114_42, rp114_42, al135, iA135, it135, rf114_44, rp114_44, al136, iA136, it136, rf114_45, rp114_45, al137, iA137, it137, rf114_55, rp114_55, al138, iA138, it138, rf114_56, rp114_56, al139, iA139, it139, rf114_57, rp114_57, al140, iA140, it140, rf114_58, rp114_58, al141, iA141, it141, rf114_59, rp114_59, al142, iA142, it142, rf114_60, rp114_60, al143, iA143, it143, rf114_61, rp114_61, al144, iA144, it144, rf114_62, rp114_62, al145, iA145, it145, rf114_63, rp114_63, al146, iA146, it146, rf114_64, rp114_64, al147, iA147, it147, rf114_66, rp114_66, al148, iA148, it148, rf114_67, rp114_67, al149, iA149, it149, rf114_68, rp114_68, al150, iA150, it150, rf114_69, rp114_69, al151, iA151, it151, rf114_70, rp114_70, al152, iA152, it152, c0, e1, k1, nI_add, bI_True, bI_False, nI_1, Nat.reduceLeDiff, Nat.reduceEqDiff, nb0, nb1, nbI, eq_self, ex_pr, tl_s, tl_n, if_true, if_false, not_true_eq_false, not_false_eq_true, and_self, and_false, false_and, and_true, true_and]
theorem op_mean (X : XP f g h1 h2 n hr wn dk sd gb pc bc W D hc HS) (x0 : Int32) : OPJ sc (d + 30) 88 171 [.int x0] f g h1 h2 := by
  have n7 : n ≤ 7 := X.d.b0
  have c0 : f 56 0 = nI n := X.d.c0
  by_cases a0 : ¬ x0 < 0 ∧ ¬ 1 < x0
  rotate_left
  · refine opj_q (v := -9223372036854775808) X (qc0 ?_) fun f1 X1 => qc0 ?_
    · simp only [c88, x88_0, x88_1, x88_2, x88_5, x88_8, x88_9, x88_12, x88_15, x88_18, x88_21, x88_22, x88_23, x88_24, x88_25, x88_27, x88_28, x88_31, x88_34, x88_37, x88_38, x88_39, x88_42, x88_43, x88_46, x88_47, x88_48, x88_51, x88_54, x88_55, x88_56, x88_59, x88_62, x88_63, x88_66, s102, bI_f a0, bI_True, bI_False, nI_1, Nat.reduceLeDiff, Nat.reduceEqDiff, nb0, nb1, nbI, eq_self, ex_pr, tl_s, tl_n, if_true, if_false, not_true_eq_false, not_false_eq_true, and_self, and_false, false_and, and_true, true_and]
    · simp only [c171, x171_0, x171_1, x171_2, x171_3, x171_4, x171_7, x171_10, x171_11, x171_14, x171_17, x171_20, x171_21, x171_22, x171_23, x171_24, x171_26, x171_27, x171_30, x171_33, x171_34, x171_35, x171_36, x171_39, x171_40, x171_41, x171_44, x171_47, x171_48, x171_49, x171_50, x171_53, x171_54, x171_57, kp114, rf114_5, rp114_5, al115, iA115, it115, rf114_6, rp114_6, al116, iA116, it116, rf114_7, rp114_7, al117, iA117, it117, rf114_8, rp114_8, al118, iA118, it118, rf114_9, rp114_9, al119, iA119, it119, rf114_10, rp114_10, al120, iA120, it120, rf114_16, rp114_16, al121, iA121, it121, rf114_17, rp114_17, al122, iA122, it122, rf114_18, rp114_18, al123, iA123, it123, rf114_19, rp114_19, al124, iA124, it124, rf114_20, rp114_20, al125, iA125, it125, rf114_21, rp114_21, al126, iA126, it126, rf114_22, rp114_22, al127, iA127, it127, rf114_23, rp114_23, al128, iA128, it128, rf114_27, rp114_27, al129, iA129, it129, rf114_28, rp114_28, al130, iA130, it130, rf114_29, rp114_29, al131, iA131, it131, rf114_30, rp114_30, al132, iA132, it132, rf114_31, rp114_31, al133, iA133, it133, rf114_41, rp114_41, al134, iA134, it134, rf114_42, rp114_42, al135, iA135, it135, rf114_44, rp114_44, al136, iA136, it136, rf114_45, rp114_45, al137, iA137, it137, rf114_55, rp114_55, al138, iA138, it138, rf114_56, rp114_56, al139, iA139, it139, rf114_57, rp114_57, al140, iA140, it140, rf114_58, rp114_58, al141, iA141, it141, rf114_59, rp114_59, al142, iA142, it142, rf114_60, rp114_60, al143, iA143, it143, rf114_61, rp114_61, al144, iA144, it144, rf114_62, rp114_62, al145, iA145, it145, rf114_63, rp114_63, al146, iA146, it146, rf114_64, rp114_64, al147, iA147, it147, rf114_66, rp114_66, al148, iA148, it148, rf114_67, rp114_67, al149, iA149, it149, rf114_68, rp114_68, al150, iA150, it150, rf114_69, rp114_69, al151, iA151, it151, rf114_70, rp114_70, al152, iA152, it152, s108, bI_f a0, bI_True, bI_False, nI_1, Nat.reduceLeDiff, Nat.reduceEqDiff, nb0, nb1, nbI, eq_self, ex_pr, tl_s, tl_n, if_true, if_false, not_true_eq_false, not_false_eq_true, and_self, and_false, false_and, and_true, true_and]
  by_cases n0 : n = 0
  · refine opj_q (v := -9223372036854775808) X (qc0 ?_) fun f1 X1 => qc0 ?_
    · simp only [c88, x88_0, x88_1, x88_2, x88_5, x88_8, x88_9, x88_12, x88_15, x88_18, x88_21, x88_22, x88_23, x88_24, x88_25, x88_27, x88_28, x88_31, x88_34, x88_37, x88_38, x88_39, x88_42, x88_43, x88_46, x88_47, x88_48, x88_51, x88_54, x88_55, x88_56, x88_59, x88_62, x88_63, x88_66, kp17, rf17_0, rp17_0, rf17_1, rp17_1, rf17_3, rp17_3, rf17_4, rp17_4, al20, iA20, iG20, rf17_6, rp17_6, rf17_7, rp17_7, rf17_8, rp17_8, al51, iA51, iG51, kp56, rf56_6, rp56_6, al57, iA57, it57, rf56_7, rp56_7, al58, iA58, it58, rf56_8, rp56_8, al59, iA59, it59, rf56_9, rp56_9, al60, iA60, it60, rf56_10, rp56_10, al61, iA61, it61, rf56_12, rp56_12, al62, iA62, it62, rf56_13, rp56_13, al63, iA63, it63, rf56_15, rp56_15, al64, iA64, it64, rf56_16, rp56_16, al65, iA65, it65, rf56_17, rp56_17, rf56_18, rp56_18, al66, iA66, it66, s102, bI_t a0, zi1, c0, n0, lt0, bI_True, bI_False, nI_1, Nat.reduceLeDiff, Nat.reduceEqDiff, nb0, nb1, nbI, eq_self, ex_pr, tl_s, tl_n, if_true, if_false, not_true_eq_false, not_false_eq_true, and_self, and_false, false_and, and_true, true_and]
    · have m0 : f1 114 0 = nI n := X1.d.m0
      simp only [c171, x171_0, x171_1, x171_2, x171_3, x171_4, x171_7, x171_10, x171_11, x171_14, x171_17, x171_20, x171_21, x171_22, x171_23, x171_24, x171_26, x171_27, x171_30, x171_33, x171_34, x171_35, x171_36, x171_39, x171_40, x171_41, x171_44, x171_47, x171_48, x171_49, x171_50, x171_53, x171_54, x171_57, kp114, rf114_5, rp114_5, al115, iA115, it115, rf114_6, rp114_6, al116, iA116, it116, rf114_7, rp114_7, al117, iA117, it117, rf114_8, rp114_8, al118, iA118, it118, rf114_9, rp114_9, al119, iA119, it119, rf114_10, rp114_10, al120, iA120, it120, rf114_16, rp114_16, al121, iA121, it121, rf114_17, rp114_17, al122, iA122, it122, rf114_18, rp114_18, al123, iA123, it123, rf114_19, rp114_19, al124, iA124, it124, rf114_20, rp114_20, al125, iA125, it125, rf114_21, rp114_21, al126, iA126, it126, rf114_22, rp114_22, al127, iA127, it127, rf114_23, rp114_23, al128, iA128, it128, rf114_27, rp114_27, al129, iA129, it129, rf114_28, rp114_28, al130, iA130, it130, rf114_29, rp114_29, al131, iA131, it131, rf114_30, rp114_30, al132, iA132, it132, rf114_31, rp114_31, al133, iA133, it133, rf114_41, rp114_41, al134, iA134, it134, rf114_42, rp114_42, al135, iA135, it135, rf114_44, rp114_44, al136, iA136, it136, rf114_45, rp114_45, al137, iA137, it137, rf114_55, rp114_55, al138, iA138, it138, rf114_56, rp114_56, al139, iA139, it139, rf114_57, rp114_57, al140, iA140, it140, rf114_58, rp114_58, al141, iA141, it141, rf114_59, rp114_59, al142, iA142, it142, rf114_60, rp114_60, al143, iA143, it143, rf114_61, rp114_61, al144, iA144, it144, rf114_62, rp114_62, al145, iA145, it145, rf114_63, rp114_63, al146, iA146, it146, rf114_64, rp114_64, al147, iA147, it147, rf114_66, rp114_66, al148, iA148, it148, rf114_67, rp114_67, al149, iA149, it149, rf114_68, rp114_68, al150, iA150, it150, rf114_69, rp114_69, al151, iA151, it151, rf114_70, rp114_70, al152, iA152, it152, s108, bI_t a0, zi1, m0, n0, lt0, bI_True, bI_False, nI_1, Nat.reduceLeDiff, Nat.reduceEqDiff, nb0, nb1, nbI, eq_self, ex_pr, tl_s, tl_n, if_true, if_false, not_true_eq_false, not_false_eq_true, and_self, and_false, false_and, and_true, true_and]
  · have z : ¬ nI n = 0 := nI_ne0 (by omega) (by omega)
    refine opj_q (v := lowV (smP D sd hr n 0) n x0) X ?_ fun f1 X1 => ?_
    · obtain ⟨f', F, k⟩ := @l88 sc (d + 23) g h1 h2 n hr sd D x0 n 0 0 f X.cy (Nat.zero_add _) (by omega)
      have bd := (k (cS f g h1 h2, none)).2
      rw [Nat.zero_add] at bd k
      have q := fun d r => @s106 sc d r (cS f' g h1 h2) (smP D sd hr n 0) n x0 (by omega) (by omega) (by omega)
      have c0' : f' 56 0 = nI n := by rw [F 56 (by decide)]; exact c0
      refine ⟨f', F.fq, ?_⟩
      rw [lt0] at k
      simp only [c88, x88_0, x88_1, x88_2, x88_5, x88_8, x88_9, x88_12, x88_15, x88_18, x88_21, x88_22, x88_23, x88_24, x88_25, x88_27, x88_28, x88_31, x88_34, x88_37, x88_38, x88_39, x88_42, x88_43, x88_46, x88_47, x88_48, x88_51, x88_54, x88_55, x88_56, x88_59, x88_62, x88_63, x88_66, kp17, rf17_0, rp17_0, rf17_1, rp17_1, rf17_3, rp17_3, rf17_4, rp17_4, al20, iA20, iG20, rf17_6, rp17_6, rf17_7, rp17_7, rf17_8, rp17_8, al51, iA51, iG51, kp56, rf56_6, rp56_6, al57, iA57, it57, rf56_7, rp56_7, al58, iA58, it58, rf56_8, rp56_8, al59, iA59, it59, rf56_9, rp56_9, al60, iA60, it60, rf56_10, rp56_10, al61, iA61, it61, rf56_12, rp56_12, al62, iA62, it62, rf56_13, rp56_13, al63, iA63, it63, rf56_15, rp56_15, al64, iA64, it64, rf56_16, rp56_16, al65, iA65, it65, rf56_17, rp56_17, rf56_18, rp56_18, al66, iA66, it66, s102, bI_t a0, zi1, c0, z, fun r => (k r).1, c0', q, bI_True, bI_False, nI_1, Nat.reduceLeDiff, Nat.reduceEqDiff, nb0, nb1, nbI, eq_self, ex_pr, tl_s, tl_n, if_true, if_false, not_true_eq_false, not_false_eq_true, and_self, and_false, false_and, and_true, true_and]
    · have m0 : f1 114 0 = nI n := X1.d.m0
      obtain ⟨f', F, k⟩ := @l88 sc (d + 23) g h1 h2 n hr sd D x0 n 0 0 f1 X1.cy (Nat.zero_add _) (by omega)
      have bd := (k (cS f1 g h1 h2, none)).2
      obtain ⟨f', F, k⟩ := @l171 sc (d + 23) g h1 h2 n hr sd D x0 n 0 0 f1 X1.my (Nat.zero_add _) (by omega)
      rw [Nat.zero_add] at bd k
      have q := fun d r => @s169 sc d r f' g h1 h2 (smP D sd hr n 0) n x0 (by omega) (by omega) (by omega)
      have m0' : f' 114 0 = nI n := by rw [F 114 (by decide)]; exact m0
      refine ⟨f', F.fq, ?_⟩
      rw [lt0] at k
      simp only [c171, x171_0, x171_1, x171_2, x171_3, x171_4, x171_7, x171_10, x171_11, x171_14, x171_17, x171_20, x171_21, x171_22, x171_23, x171_24, x171_26, x171_27, x171_30, x171_33, x171_34, x171_35, x171_36, x171_39, x171_40, x171_41, x171_44, x171_47, x171_48, x171_49, x171_50, x171_53, x171_54, x171_57, kp114, rf114_5, rp114_5, al115, iA115, it115, rf114_6, rp114_6, al116, iA116, it116, rf114_7, rp114_7, al117, iA117, it117, rf114_8, rp114_8, al118, iA118, it118, rf114_9, rp114_9, al119, iA119, it119, rf114_10, rp114_10, al120, iA120, it120, rf114_16, rp114_16, al121, iA121, it121, rf114_17, rp114_17, al122, iA122, it122, rf114_18, rp114_18, al123, iA123, it123, rf114_19, rp114_19, al124, iA124, it124, rf114_20, rp114_20, al125, iA125, it125, rf114_21, rp114_21, al126, iA126, it126, rf114_22, rp114_22, al127, iA127, it127, rf114_23, rp114_23, al128, iA128, it128, rf114_27, rp114_27, al129, iA129, it129, rf114_28, rp114_28, al130, iA130, it130, rf114_29, rp114_29, al131, iA131, it131, rf114_30, rp114_30, al132, iA132, it132, rf114_31, rp114_31, al133, iA133, it133, rf114_41, rp114_41, al134, iA134, it134, rf114_42, rp114_42, al135, iA135, it135, rf114_44, rp114_44, al136, iA136, it136, rf114_45, rp114_45, al137, iA137, it137, rf114_55, rp114_55, al138, iA138, it138, rf114_56, rp114_56, al139, iA139, it139, rf114_57, rp114_57, al140, iA140, it140, rf114_58, rp114_58, al141, iA141, it141, rf114_59, rp114_59, al142, iA142, it142, rf114_60, rp114_60, al143, iA143, it143, rf114_61, rp114_61, al144, iA144, it144, rf114_62, rp114_62, al145, iA145, it145, rf114_63, rp114_63, al146, iA146, it146, rf114_64, rp114_64, al147, iA147, it147, rf114_66, rp114_66, al148, iA148, it148, rf114_67, rp114_67, al149, iA149, it149, rf114_68, rp114_68, al150, iA150, it150, rf114_69, rp114_69, al151, iA151, it151, rf114_70, rp114_70, al152, iA152, it152, s108, bI_t a0, zi1, m0, z, k, m0', q, bI_True, bI_False, nI_1, Nat.reduceLeDiff, Nat.reduceEqDiff, nb0, nb1, nbI, eq_self, ex_pr, tl_s, tl_n, if_true, if_false, not_true_eq_false, not_false_eq_true, and_self, and_false, false_and, and_true, true_and]
end Q5
