/-! who comes over: the class -/
theorem xb_ne (s t i : Nat) : (s ^^^ t).testBit i = !decide (bt s i = bt t i) := by
  rw [Nat.testBit_xor]
  have e := bt_ex s t i
  by_cases z : bt s i = bt t i
  · rw [decide_eq_true z, e.mp z, Bool.xor_self]
    rfl
  · rw [decide_eq_false z]
    cases h1 : s.testBit i <;> cases h2 : t.testBit i
    · exact absurd (e.mpr (by rw [h1, h2])) z
    · rfl
    · rfl
    · exact absurd (e.mpr (by rw [h1, h2])) z
section CR
variable {sc : aSc} {d : Nat} {r : aRes} {f : Nat → Nat → Int32} {g : Nat → Nat → Int64} {h1 h2 : Nat} {n hr wn dk sd gb pc bc : Nat} {W : Nat → Nat} {D : aD} {hc : Nat} {HS : Nat → aH} {σ : aS}
/-- one hour's tables: whom one comes over with -/
theorem l43s {hs h pr i : Nat} (h3 : hs ≤ 3) (hh : h ≤ hs) (hi : i < n) : ∀ (k s : Nat) (f' : Nat → Nat → Int32) (v6 : Value), LC f' h1 D n hr hs pr sd → (h < hs → ∀ s', s' < 2 ^ n → pcn s' = pcn sd → TWR f' (crD D pr hr hs sd i) hs (h + 1) s') → (∀ s', s' < s → pcn s' = pcn sd → TWR f' (crD D pr hr hs sd i) hs h s') → s + k = 2 ^ n → ∃ f2 w6, (∀ q, q ≠ 35 + h → f2 q = f' q) ∧ (∀ s', s' < 2 ^ n → pcn s' = pcn sd → TWR f2 (crD D pr hr hs sd i) hs h s') ∧ ∀ r, (Rn sc (d + 7) 43 21 [.ref (21 : Nat), .ref (56 : Nat), .int (nI i), .int (nI hs), .int (nI h), .int (nI s), v6] [] (cS f' g h1 h2) r ↔ Rn sc (d + 7) 43 95 [.ref (21 : Nat), .ref (56 : Nat), .int (nI i), .int (nI hs), .int (nI h), .int (nI (2 ^ n)), w6] [] (cS f2 g h1 h2) r)
  | 0, s, f', v6, C, T1, T0, hk => by
    have e : s = 2 ^ n := hk
    obtain ⟨P, ce, n7, c21, cp, c4, cs, c0⟩ := C
    have A := all_of n7
    have p := p2_7 n7
    have e1 : nI (2 ^ n - 1) < nI s := nI_lt (by omega) (by omega)
    refine ⟨f', v6, fun _ _ => rfl, fun s' a b => T0 s' (by omega) b, fun r => ?_⟩
    rw [← e]
    simp only [x43_21 (x5 := nI s), x43_23, x43_24, x43_27, kp56, rf56_6, rp56_6, al57, iA57, it57, rf56_7, rp56_7, al58, iA58, it58, rf56_8, rp56_8, al59, iA59, it59, rf56_9, rp56_9, al60, iA60, it60, rf56_10, rp56_10, al61, iA61, it61, rf56_12, rp56_12, al62, iA62, it62, rf56_13, rp56_13, al63, iA63, it63, rf56_15, rp56_15, al64, iA64, it64, rf56_16, rp56_16, al65, iA65, it65, rf56_17, rp56_17, rf56_18, rp56_18, al66, iA66, it66, s8, c0, A, e1, bI_True, bI_False, nI_1, Nat.reduceLeDiff, Nat.reduceEqDiff, nb0, nb1, nbI, eq_self, ex_pr, tl_s, tl_n, if_true, if_false, not_true_eq_false, not_false_eq_true, and_self, and_false, false_and, and_true, true_and]
  | k + 1, s, f', v6, C, T1, T0, hk => by
    have C0 := C
    obtain ⟨P, ce, n7, c21, cp, c4, cs, c0⟩ := C
    have A := all_of n7
    have p := p2_7 n7
    have sn : s < 2 ^ n := by omega
    have sb7 := go_lt n7 sn
    have sd7 := go_lt n7 cs
    have e1 : ¬ nI (2 ^ n - 1) < nI s := by
      rw [nI_ltI (by omega) (by omega)]
      omega
    have z1 : nI s + 1 = nI (s + 1) := by rw [← lt1, nI_add]
    have e2 := @nI_ltI h hs (by omega) (by omega)
    obtain ⟨u1, u2', u3, u4, u5⟩ := or34 h (by omega)
    have j1 : inb (nI h) 4 = true := inb_nI (by omega) (by decide)
    have j2 : (nI h).toNatClampNeg = h := cl_nI (by omega)
    have i1 : inb (nI s) 128 = true := inb_nI sb7 (by decide)
    have i2 : (nI s).toNatClampNeg = s := cl_nI (by omega)
    have b1 := @bit_bt s i (by omega) (by omega)
    have b2 := @bit_bt sd i (by omega) (by omega)
    have y1 := bt_lt s i
    have y2 := bt_lt sd i
    have be := @nI_eq (bt s i) (bt sd i) (by omega) (by omega)
    obtain ⟨x, w6, hx, k1⟩ : ∃ x w6, (pcn s = pcn sd → x = nI (crD D pr hr hs sd i (hs - h) s)) ∧ ∀ r, (Rn sc (d + 7) 43 21 [.ref (21 : Nat), .ref (56 : Nat), .int (nI i), .int (nI hs), .int (nI h), .int (nI s), v6] [] (cS f' g h1 h2) r ↔ Rn sc (d + 7) 43 21 [.ref (21 : Nat), .ref (56 : Nat), .int (nI i), .int (nI hs), .int (nI h), .int (nI (s + 1)), w6] [] (cS (u2 f' (35 + h) s x) g h1 h2) r) := by
      by_cases bb : bt s i = bt sd i
      · have xb : (s ^^^ sd).testBit i = false := by rw [xb_ne, decide_eq_true bb]; rfl
        by_cases z : h < hs
        · rw [crD_s z, xb, Bool.false_or]
          by_cases y : pcn s = pcn sd
          · have k45 := fun d r => @s45 sc d r f' g h1 h2 n hr sd D h hs pr s 1 (fun q => crD D pr hr hs sd i (hs - h - 1) (flq s q)) C0 h3 z sn y (by decide) (fun q hq v => by
              obtain ⟨q1, q2⟩ := flq_ok cp n7 sn (by omega) (Or.inr v)
              have t := T1 z (flq s q) q1 (by rw [q2, y])
              unfold TWR at t
              rw [show 35 + (h + 1) = 36 + h by omega, show hs - (h + 1) = hs - h - 1 by omega] at t
              exact ⟨t, crB_b⟩)
            have bd := @lp_cwb (VD D pr s (hr + h)) (fun q => crD D pr hr hs sd i (hs - h - 1) (flq s q)) 1 (fun q _ => crB_b) 21 0
            obtain ⟨S, eS⟩ : ∃ S, S = lp (cwF (VD D pr s (hr + h)) (fun q => crD D pr hr hs sd i (hs - h - 1) (flq s q))) 21 0 0 := ⟨_, rfl⟩
            rw [← eS] at k45 bd ⊢
            have e3 := @nI_ltI 0 S (by decide) (by omega)
            rw [lt0] at e3
            by_cases w : 0 < S
            · refine ⟨1, .int 0, fun _ => by rw [decide_eq_true w]; rfl, fun r => ?_⟩
              simp only [x43_21 (x5 := nI s), x43_23, x43_24, x43_27, x43_30, x43_32, x43_33, x43_34, x43_35, x43_36, x43_37, x43_38, x43_41, x43_48, x43_49, x43_51, x43_52, x43_55, x43_57, x43_58, x43_60, x43_62, x43_65, x43_67, x43_68, x43_71, x43_72, x43_73, x43_75, x43_77, x43_80, x43_83, x43_84, x43_88, x43_89, x43_92, kp21, rf21_0, rp21_0, al22, iA22, iG22, rf21_1, rp21_1, al28, iA28, iG28, rf21_2, rp21_2, al34, iA34, iG34, rf21_3, rp21_3, al39, iA39, iG39, rf21_4, rp21_4, al44, iA44, iG44, al34, iA34, iG34, rf34_0, rp34_0, al35, iA35, it35, rf34_1, rp34_1, al36, iA36, it36, rf34_2, rp34_2, al37, iA37, it37, rf34_3, rp34_3, al38, iA38, it38, kp56, rf56_6, rp56_6, al57, iA57, it57, rf56_7, rp56_7, al58, iA58, it58, rf56_8, rp56_8, al59, iA59, it59, rf56_9, rp56_9, al60, iA60, it60, rf56_10, rp56_10, al61, iA61, it61, rf56_12, rp56_12, al62, iA62, it62, rf56_13, rp56_13, al63, iA63, it63, rf56_15, rp56_15, al64, iA64, it64, rf56_16, rp56_16, al65, iA65, it65, rf56_17, rp56_17, rf56_18, rp56_18, al66, iA66, it66, s8, s13, c0, c4, A, e1, b1, b2, be, eq_true bb, e2, eq_true z, k45, e3, eq_true w, u1, u2', u3, u4, u5, j1, j2, i1, i2, z1, bI_True, bI_False, nI_1, Nat.reduceLeDiff, Nat.reduceEqDiff, nb0, nb1, nbI, eq_self, ex_pr, tl_s, tl_n, if_true, if_false, not_true_eq_false, not_false_eq_true, and_self, and_false, false_and, and_true, true_and]
            · refine ⟨0, .int 0, fun _ => by rw [decide_eq_false w]; rfl, fun r => ?_⟩
              simp only [x43_21 (x5 := nI s), x43_23, x43_24, x43_27, x43_30, x43_32, x43_33, x43_34, x43_35, x43_36, x43_37, x43_38, x43_41, x43_48, x43_49, x43_51, x43_52, x43_55, x43_57, x43_58, x43_60, x43_62, x43_65, x43_67, x43_68, x43_71, x43_72, x43_73, x43_75, x43_77, x43_80, x43_87, x43_88, x43_89, x43_92, kp21, rf21_0, rp21_0, al22, iA22, iG22, rf21_1, rp21_1, al28, iA28, iG28, rf21_2, rp21_2, al34, iA34, iG34, rf21_3, rp21_3, al39, iA39, iG39, rf21_4, rp21_4, al44, iA44, iG44, al34, iA34, iG34, rf34_0, rp34_0, al35, iA35, it35, rf34_1, rp34_1, al36, iA36, it36, rf34_2, rp34_2, al37, iA37, it37, rf34_3, rp34_3, al38, iA38, it38, kp56, rf56_6, rp56_6, al57, iA57, it57, rf56_7, rp56_7, al58, iA58, it58, rf56_8, rp56_8, al59, iA59, it59, rf56_9, rp56_9, al60, iA60, it60, rf56_10, rp56_10, al61, iA61, it61, rf56_12, rp56_12, al62, iA62, it62, rf56_13, rp56_13, al63, iA63, it63, rf56_15, rp56_15, al64, iA64, it64, rf56_16, rp56_16, al65, iA65, it65, rf56_17, rp56_17, rf56_18, rp56_18, al66, iA66, it66, s8, s13, c0, c4, A, e1, b1, b2, be, eq_true bb, e2, eq_true z, k45, e3, eq_false w, u1, u2', u3, u4, u5, j1, j2, i1, i2, z1, bI_True, bI_False, nI_1, Nat.reduceLeDiff, Nat.reduceEqDiff, nb0, nb1, nbI, eq_self, ex_pr, tl_s, tl_n, if_true, if_false, not_true_eq_false, not_false_eq_true, and_self, and_false, false_and, and_true, true_and]
          · have k45 := fun d r => @s45n sc d r f' g h1 h2 n sd h s c4 n7 cs sn y
            have e3 : ¬ (0 : Int32) < 0 := by decide
            refine ⟨0, .int 0, fun e => absurd e y, fun r => ?_⟩
            simp only [x43_21 (x5 := nI s), x43_23, x43_24, x43_27, x43_30, x43_32, x43_33, x43_34, x43_35, x43_36, x43_37, x43_38, x43_41, x43_48, x43_49, x43_51, x43_52, x43_55, x43_57, x43_58, x43_60, x43_62, x43_65, x43_67, x43_68, x43_71, x43_72, x43_73, x43_75, x43_77, x43_80, x43_87, x43_88, x43_89, x43_92, kp21, rf21_0, rp21_0, al22, iA22, iG22, rf21_1, rp21_1, al28, iA28, iG28, rf21_2, rp21_2, al34, iA34, iG34, rf21_3, rp21_3, al39, iA39, iG39, rf21_4, rp21_4, al44, iA44, iG44, al34, iA34, iG34, rf34_0, rp34_0, al35, iA35, it35, rf34_1, rp34_1, al36, iA36, it36, rf34_2, rp34_2, al37, iA37, it37, rf34_3, rp34_3, al38, iA38, it38, kp56, rf56_6, rp56_6, al57, iA57, it57, rf56_7, rp56_7, al58, iA58, it58, rf56_8, rp56_8, al59, iA59, it59, rf56_9, rp56_9, al60, iA60, it60, rf56_10, rp56_10, al61, iA61, it61, rf56_12, rp56_12, al62, iA62, it62, rf56_13, rp56_13, al63, iA63, it63, rf56_15, rp56_15, al64, iA64, it64, rf56_16, rp56_16, al65, iA65, it65, rf56_17, rp56_17, rf56_18, rp56_18, al66, iA66, it66, s8, s13, c0, c4, A, e1, b1, b2, be, eq_true bb, e2, eq_true z, k45, e3, u1, u2', u3, u4, u5, j1, j2, i1, i2, z1, bI_True, bI_False, nI_1, Nat.reduceLeDiff, Nat.reduceEqDiff, nb0, nb1, nbI, eq_self, ex_pr, tl_s, tl_n, if_true, if_false, not_true_eq_false, not_false_eq_true, and_self, and_false, false_and, and_true, true_and]
        · have eh : hs - h = 0 := by omega
          rw [eh]
          have cd : crD D pr hr hs sd i 0 s = ((s ^^^ sd).testBit i).toNat := rfl
          rw [cd, xb]
          refine ⟨0, .int 0, fun _ => rfl, fun r => ?_⟩
          simp only [x43_21 (x5 := nI s), x43_23, x43_24, x43_27, x43_30, x43_32, x43_33, x43_34, x43_35, x43_36, x43_37, x43_38, x43_41, x43_48, x43_49, x43_51, x43_52, x43_55, x43_57, x43_58, x43_60, x43_62, x43_65, x43_67, x43_68, x43_87, x43_88, x43_89, x43_92, kp21, rf21_0, rp21_0, al22, iA22, iG22, rf21_1, rp21_1, al28, iA28, iG28, rf21_2, rp21_2, al34, iA34, iG34, rf21_3, rp21_3, al39, iA39, iG39, rf21_4, rp21_4, al44, iA44, iG44, al34, iA34, iG34, rf34_0, rp34_0, al35, iA35, it35, rf34_1, rp34_1, al36, iA36, it36, rf34_2, rp34_2, al37, iA37, it37, rf34_3, rp34_3, al38, iA38, it38, kp56, rf56_6, rp56_6, al57, iA57, it57, rf56_7, rp56_7, al58, iA58, it58, rf56_8, rp56_8, al59, iA59, it59, rf56_9, rp56_9, al60, iA60, it60, rf56_10, rp56_10, al61, iA61, it61, rf56_12, rp56_12, al62, iA62, it62, rf56_13, rp56_13, al63, iA63, it63, rf56_15, rp56_15, al64, iA64, it64, rf56_16, rp56_16, al65, iA65, it65, rf56_17, rp56_17, rf56_18, rp56_18, al66, iA66, it66, s8, s13, c0, c4, A, e1, b1, b2, be, eq_true bb, e2, eq_false z, u1, u2', u3, u4, u5, j1, j2, i1, i2, z1, bI_True, bI_False, nI_1, Nat.reduceLeDiff, Nat.reduceEqDiff, nb0, nb1, nbI, eq_self, ex_pr, tl_s, tl_n, if_true, if_false, not_true_eq_false, not_false_eq_true, and_self, and_false, false_and, and_true, true_and]
      · have xb : (s ^^^ sd).testBit i = true := by rw [xb_ne, decide_eq_false bb]; rfl
        refine ⟨1, .int 1, fun _ => ?_, fun r => ?_⟩
        · by_cases z : h < hs
          · rw [crD_s z, xb, Bool.true_or]
            rfl
          · rw [show hs - h = 0 by omega]
            have cd : crD D pr hr hs sd i 0 s = ((s ^^^ sd).testBit i).toNat := rfl
            rw [cd, xb]
            rfl
        · simp only [x43_21 (x5 := nI s), x43_23, x43_24, x43_27, x43_30, x43_32, x43_33, x43_34, x43_35, x43_36, x43_37, x43_38, x43_41, x43_44, x43_45, x43_49, x43_51, x43_52, x43_55, x43_57, x43_58, x43_60, x43_62, x43_83, x43_84, x43_88, x43_89, x43_92, kp21, rf21_0, rp21_0, al22, iA22, iG22, rf21_1, rp21_1, al28, iA28, iG28, rf21_2, rp21_2, al34, iA34, iG34, rf21_3, rp21_3, al39, iA39, iG39, rf21_4, rp21_4, al44, iA44, iG44, al34, iA34, iG34, rf34_0, rp34_0, al35, iA35, it35, rf34_1, rp34_1, al36, iA36, it36, rf34_2, rp34_2, al37, iA37, it37, rf34_3, rp34_3, al38, iA38, it38, kp56, rf56_6, rp56_6, al57, iA57, it57, rf56_7, rp56_7, al58, iA58, it58, rf56_8, rp56_8, al59, iA59, it59, rf56_9, rp56_9, al60, iA60, it60, rf56_10, rp56_10, al61, iA61, it61, rf56_12, rp56_12, al62, iA62, it62, rf56_13, rp56_13, al63, iA63, it63, rf56_15, rp56_15, al64, iA64, it64, rf56_16, rp56_16, al65, iA65, it65, rf56_17, rp56_17, rf56_18, rp56_18, al66, iA66, it66, s8, s13, c0, c4, A, e1, b1, b2, be, eq_false bb, zi1, u1, u2', u3, u4, u5, j1, j2, i1, i2, z1, bI_True, bI_False, nI_1, Nat.reduceLeDiff, Nat.reduceEqDiff, nb0, nb1, nbI, eq_self, ex_pr, tl_s, tl_n, if_true, if_false, not_true_eq_false, not_false_eq_true, and_self, and_false, false_and, and_true, true_and]
    have U : ∀ q, q ≠ 35 + h → u2 f' (35 + h) s x q = f' q := fun q hq => u2_n hq
    obtain ⟨f3, w3, F3, G3, k3⟩ := l43s h3 hh hi k (s + 1) (u2 f' (35 + h) s x) w6 (C0.fr (fun q hq => U q (by omega)) (by omega)) (fun z s' a b => by
        have := T1 z s' a b
        unfold TWR at this ⊢
        rw [U _ (by omega)]
        exact this) (fun s' a b => by
        unfold TWR
        by_cases w : s' = s
        · subst w
          rw [u2_ss]
          exact hx b
        · rw [u2_nn (by omega)]
          exact T0 s' (by omega) b) (by omega)
    exact ⟨f3, w3, fun q hq => (F3 q hq).trans (U q hq), G3, fun r => (k1 r).trans (k3 r)⟩
theorem l43 {hs pr i : Nat} (h3 : hs ≤ 3) (hi : i < n) : ∀ (h : Nat) (f' : Nat → Nat → Int32) (v5 v6 : Value), h ≤ hs → LC f' h1 D n hr hs pr sd → (h < hs → ∀ s', s' < 2 ^ n → pcn s' = pcn sd → TWR f' (crD D pr hr hs sd i) hs (h + 1) s') → ∃ f2, (∀ q, ¬ rsQ h q → f2 q = f' q) ∧ (∀ s', s' < 2 ^ n → pcn s' = pcn sd → TWR f2 (crD D pr hr hs sd i) hs 0 s') ∧ ∀ r, (Rn sc (d + 7) 43 13 [.ref (21 : Nat), .ref (56 : Nat), .int (nI i), .int (nI hs), .int (nI h), v5, v6] [] (cS f' g h1 h2) r ↔ r = (cS f2 g h1 h2, some (.int (nI (crD D pr hr hs sd i hs sd)))))
  | 0, f', v5, v6, hh, C, T1 => by
    obtain ⟨f2, w6, F2, G2, k2⟩ := @l43s sc d g h1 h2 n hr sd D hs 0 pr i h3 hh hi (2 ^ n) 0 f' v6 C T1 (fun s' a => absurd a (by omega)) (Nat.zero_add _)
    refine ⟨f2, fun q hq => F2 q (fun w => hq (by unfold rsQ; omega)), G2, fun r => ?_⟩
    obtain ⟨P, ce, n7, c21, cp, c4, cs, c0⟩ := C.fr (fun q hq => F2 q (by omega)) (by omega)
    have e1 : ¬ nI 0 < 0 := by decide
    have e2 : nI 0 + (-1) < 0 := by decide
    have sb7 := go_lt n7 cs
    have j1 : inb 0 4 = true := by decide
    have j2 : (0 : Int32).toNatClampNeg = 0 := by decide
    have i1 : inb (nI sd) 128 = true := inb_nI sb7 (by decide)
    have i2 : (nI sd).toNatClampNeg = sd := cl_nI (by omega)
    have t : f2 35 sd = nI (crD D pr hr hs sd i hs sd) := G2 sd cs rfl
    have cb : crD D pr hr hs sd i hs sd ≤ 1 := crB_b
    rw [lt0] at k2 e1 e2 ⊢
    simp only [x43_13 (x4 := 0), x43_15, x43_18, x43_19, e1, k2, x43_95, x43_98, bI_True, bI_False, nI_1, Nat.reduceLeDiff, Nat.reduceEqDiff, nb0, nb1, nbI, eq_self, ex_pr, tl_s, tl_n, if_true, if_false, not_true_eq_false, not_false_eq_true, and_self, and_false, false_and, and_true, true_and]
    rcases (show crD D pr hr hs sd i hs sd = 0 ∨ crD D pr hr hs sd i hs sd = 1 by omega) with w | w
    · have q : ¬ (0 : Int32) < 0 := by decide
      rw [w, lt0] at t
      rw [w, lt0]
      simp only [x43_13 (x4 := 0 + (-1)), x43_15, x43_101, x43_102, x43_105, x43_106, x43_107, x43_108, x43_111, x43_112, x43_119, x43_120, kp21, rf21_0, rp21_0, al22, iA22, iG22, rf21_1, rp21_1, al28, iA28, iG28, rf21_2, rp21_2, al34, iA34, iG34, rf21_3, rp21_3, al39, iA39, iG39, rf21_4, rp21_4, al44, iA44, iG44, al34, iA34, iG34, rf34_0, rp34_0, al35, iA35, it35, rf34_1, rp34_1, al36, iA36, it36, rf34_2, rp34_2, al37, iA37, it37, rf34_3, rp34_3, al38, iA38, it38, al35, iA35, it35, kp56, rf56_6, rp56_6, al57, iA57, it57, rf56_7, rp56_7, al58, iA58, it58, rf56_8, rp56_8, al59, iA59, it59, rf56_9, rp56_9, al60, iA60, it60, rf56_10, rp56_10, al61, iA61, it61, rf56_12, rp56_12, al62, iA62, it62, rf56_13, rp56_13, al63, iA63, it63, rf56_15, rp56_15, al64, iA64, it64, rf56_16, rp56_16, al65, iA65, it65, rf56_17, rp56_17, rf56_18, rp56_18, al66, iA66, it66, e2, c4, j1, j2, i1, i2, t, q, bI_True, bI_False, nI_1, Nat.reduceLeDiff, Nat.reduceEqDiff, nb0, nb1, nbI, eq_self, ex_pr, tl_s, tl_n, if_true, if_false, not_true_eq_false, not_false_eq_true, and_self, and_false, false_and, and_true, true_and]
    · have q : (0 : Int32) < 1 := by decide
      rw [w, lt1] at t
      rw [w, lt1]
      simp only [x43_13 (x4 := 0 + (-1)), x43_15, x43_101, x43_102, x43_105, x43_106, x43_107, x43_108, x43_111, x43_112, x43_115, x43_116, x43_120, kp21, rf21_0, rp21_0, al22, iA22, iG22, rf21_1, rp21_1, al28, iA28, iG28, rf21_2, rp21_2, al34, iA34, iG34, rf21_3, rp21_3, al39, iA39, iG39, rf21_4, rp21_4, al44, iA44, iG44, al34, iA34, iG34, rf34_0, rp34_0, al35, iA35, it35, rf34_1, rp34_1, al36, iA36, it36, rf34_2, rp34_2, al37, iA37, it37, rf34_3, rp34_3, al38, iA38, it38, al35, iA35, it35, kp56, rf56_6, rp56_6, al57, iA57, it57, rf56_7, rp56_7, al58, iA58, it58, rf56_8, rp56_8, al59, iA59, it59, rf56_9, rp56_9, al60, iA60, it60, rf56_10, rp56_10, al61, iA61, it61, rf56_12, rp56_12, al62, iA62, it62, rf56_13, rp56_13, al63, iA63, it63, rf56_15, rp56_15, al64, iA64, it64, rf56_16, rp56_16, al65, iA65, it65, rf56_17, rp56_17, rf56_18, rp56_18, al66, iA66, it66, e2, c4, j1, j2, i1, i2, t, q, bI_True, bI_False, nI_1, Nat.reduceLeDiff, Nat.reduceEqDiff, nb0, nb1, nbI, eq_self, ex_pr, tl_s, tl_n, if_true, if_false, not_true_eq_false, not_false_eq_true, and_self, and_false, false_and, and_true, true_and]
  | h + 1, f', v5, v6, hh, C, T1 => by
    obtain ⟨f2, w6, F2, G2, k2⟩ := @l43s sc d g h1 h2 n hr sd D hs (h + 1) pr i h3 hh hi (2 ^ n) 0 f' v6 C T1 (fun s' a => absurd a (by omega)) (Nat.zero_add _)
    obtain ⟨f3, F3, G3, k3⟩ := l43 h3 hi h f2 (.int (nI (2 ^ n))) w6 (by omega) (C.fr (fun q hq => F2 q (by omega)) (by omega)) (fun _ => G2)
    have e1 : ¬ nI (h + 1) < 0 := nI_pos (by omega)
    have e2 : nI (h + 1) + (-1) = nI h := by
      rw [show (-1 : Int32) = iI (-1) from rfl, iI_N, iI_add, iI_N]
      congr 1
      omega
    rw [lt0] at k2
    refine ⟨f3, fun q hq => (F3 q (fun w => hq (by unfold rsQ at w ⊢; omega))).trans (F2 q (fun w => hq (by unfold rsQ; omega))), G3, fun r => ?_⟩
    rw [← k3 r]
    simp only [x43_13 (x4 := nI (h + 1)), x43_15, x43_18, x43_19, e1, k2, x43_95, e2, x43_98, bI_True, bI_False, nI_1, Nat.reduceLeDiff, Nat.reduceEqDiff, nb0, nb1, nbI, eq_self, ex_pr, tl_s, tl_n, if_true, if_false, not_true_eq_false, not_false_eq_true, and_self, and_false, false_and, and_true, true_and]
/-- crosses -/
theorem s43 {hs i : Nat} (h3 : hs ≤ 3) (hi : i < n) (C : CY f h1 D n sd hr) : ∃ f', Fq f f' ∧ ∀ r, Cl sc (d + 8) 43 [.ref (21 : Nat), .ref (56 : Nat), .int (nI i), .int (nI hs)] (cS f g h1 h2) r ↔ r = (cS f' g h1 h2, some (.int (nI (crD D (2 ^ n - 1) hr hs sd i hs sd)))) := by
  have n7 := C.2.1
  have A := all_of n7
  have c0 := C.2.2.1
  have p0 := Nat.two_pow_pos n
  obtain ⟨f1, E, e5, P, k⟩ := @s33 sc (d + 1) f g h1 h2 n hr sd D hs (2 ^ n - 1) (by omega) C
  have F : Fq f f1 := fun q j hq => E q j (fun w => hq (by unfold lkq at w; unfold scq; omega))
  have C1 : LC f1 h1 D n hr hs (2 ^ n - 1) sd := by
    obtain ⟨ce, n7, c0, c4, c1, b4, b1⟩ := C
    refine ⟨P, ce.fr (fun q hq => funext fun j => F q j (by unfold scq; omega)), n7, e5, by omega, ?_, b4, ?_⟩
    · rw [F 56 4 (by unfold scq; omega)]
      exact c4
    · rw [F 56 0 (by unfold scq; omega)]
      exact c0
  obtain ⟨f2, F2, G2, k2⟩ := @l43 sc d g h1 h2 n hr sd D hs (2 ^ n - 1) i h3 hi hs f1 mk0 mk0 (Nat.le_refl _) C1 (fun h => absurd h (by omega))
  refine ⟨f2, F.trans fun q j hq => by rw [F2 q (fun w => hq (by unfold rsQ at w; unfold scq; omega))], fun r => ?_⟩
  simp only [c43, x43_0, x43_1, x43_2, x43_3, x43_4, x43_7, x43_10, x43_11, kp21, rf21_0, rp21_0, al22, iA22, iG22, rf21_1, rp21_1, al28, iA28, iG28, rf21_2, rp21_2, al34, iA34, iG34, rf21_3, rp21_3, al39, iA39, iG39, rf21_4, rp21_4, al44, iA44, iG44, kp56, rf56_6, rp56_6, al57, iA57, it57, rf56_7, rp56_7, al58, iA58, it58, rf56_8, rp56_8, al59, iA59, it59, rf56_9, rp56_9, al60, iA60, it60, rf56_10, rp56_10, al61, iA61, it61, rf56_12, rp56_12, al62, iA62, it62, rf56_13, rp56_13, al63, iA63, it63, rf56_15, rp56_15, al64, iA64, it64, rf56_16, rp56_16, al65, iA65, it65, rf56_17, rp56_17, rf56_18, rp56_18, al66, iA66, it66, s8, c0, A, k, k2, bI_True, bI_False, nI_1, Nat.reduceLeDiff, Nat.reduceEqDiff, nb0, nb1, nbI, eq_self, ex_pr, tl_s, tl_n, if_true, if_false, not_true_eq_false, not_false_eq_true, and_self, and_false, false_and, and_true, true_and]
end CR
