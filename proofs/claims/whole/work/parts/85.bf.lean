/-! the best row of runs: the class's tables, whole -/
def TBR (f : Nat → Nat → Int32) (v : Nat → Nat → aW) (hs h s : Nat) : Prop := f (23 + h) s = nI (v (hs - h) s).1 ∧ f (29 + h) s = nI (v (hs - h) s).2.1 ∧ (h < hs → f (40 + h) s = nI ((v (hs - h) s).2.2.headD 21))
theorem TBR.fr {f f' : Nat → Nat → Int32} {v : Nat → Nat → aW} {hs h s : Nat} (t : TBR f v hs h s) (a : f' (23 + h) s = f (23 + h) s) (b : f' (29 + h) s = f (29 + h) s) (c : f' (40 + h) s = f (40 + h) s) : TBR f' v hs h s := by
  unfold TBR
  rw [a, b, c]
  exact t
/-- cells of one hour's tables -/
def bsq (h q : Nat) : Prop := q = 23 + h ∨ q = 29 + h ∨ q = 40 + h
section BF
variable {sc : aSc} {d : Nat} {r : aRes} {f : Nat → Nat → Int32} {g : Nat → Nat → Int64} {h1 h2 : Nat} {n hr wn dk sd gb pc bc : Nat} {W : Nat → Nat} {D : aD} {hc : Nat} {HS : Nat → aH} {σ : aS}
theorem LC.fr {f f' : Nat → Nat → Int32} {h1 n hr hs pr sd : Nat} {D : aD} (c : LC f h1 D n hr hs pr sd) (h : ∀ q, (45 ≤ q ∧ q ≤ 101) ∨ q = 21 → f' q = f q) (h4 : hs ≤ 4) : LC f' h1 D n hr hs pr sd := by
  obtain ⟨P, ce, n7, c21, cp, c4, cs, c0⟩ := c
  refine ⟨fun t ht i hi => ?_, ce.fr fun q hq => h q (by omega), n7, ?_, cp, ?_, cs, ?_⟩
  · rw [h (45 + t) (by omega)]
    exact P t ht i hi
  · rw [h 21 (by omega)]
    exact c21
  · rw [h 56 (by omega)]
    exact c4
  · rw [h 56 (by omega)]
    exact c0
theorem mvI (k : Nat) (s : Nat) {D : aD} {W : Nat → Nat} {pr gb n hr hs h : Nat} (hk : hs - h = k + 1) (hh : h < hs) : lp (chS (VD D pr s (hr + h)) (fun q => exR (vb D W pr gb n hr hs k (flq s q)) (PLL D s (hr + h) q) q)) 22 0 none = some (vb D W pr gb n hr hs (k + 1) s) := by
  have e : hs - 1 - k = h := by omega
  have q := @Vb_so (vE D pr hr hs) (vP D hr hs) (fun s => ga W pr s gb n 0) k s
  have e1 : vE D pr hr hs k s = VD D pr s (hr + h) := by
    unfold vE
    rw [e]
  have e2 : ∀ q, vP D hr hs k s q = PLL D s (hr + h) q := fun q => by
    unfold vP
    rw [e]
  rw [e1] at q
  simp only [e2] at q
  exact q
/-- one hour's tables -/
theorem l40s {hs h pr : Nat} (h4 : hs ≤ 4) (hh : h ≤ hs) (c5 : f 56 5 = nI gb) (hw : ∀ s, s < n → f 60 s = nI (W s) ∧ W s ≤ 99) : ∀ (k s : Nat) (f' : Nat → Nat → Int32), LC f' h1 D n hr hs pr sd → (∀ q, (45 ≤ q ∧ q ≤ 101) → f' q = f q) → (h < hs → ∀ s', s' < 2 ^ n → pcn s' = pcn sd → TBR f' (vb D W pr gb n hr hs) hs (h + 1) s') → (∀ s', s' < s → pcn s' = pcn sd → TBR f' (vb D W pr gb n hr hs) hs h s') → s + k = 2 ^ n → ∃ f2, (∀ q, ¬ bsq h q → f2 q = f' q) ∧ (∀ s', s' < 2 ^ n → pcn s' = pcn sd → TBR f2 (vb D W pr gb n hr hs) hs h s') ∧ ∀ r, (Rn sc (d + 6) 40 18 [.ref (21 : Nat), .ref (56 : Nat), .int (nI hs), .int (nI pr), .int (nI h), .int (nI s)] [] (cS f' g h1 h2) r ↔ Rn sc (d + 6) 40 91 [.ref (21 : Nat), .ref (56 : Nat), .int (nI hs), .int (nI pr), .int (nI h), .int (nI (2 ^ n))] [] (cS f2 g h1 h2) r)
  | 0, s, f', C, E, T1, T0, hk => by
    have e : s = 2 ^ n := hk
    obtain ⟨P, ce, n7, c21, cp, c4, cs, c0⟩ := C
    have A := all_of n7
    have p := p2_7 n7
    have e1 : nI (2 ^ n - 1) < nI s := nI_lt (by omega) (by omega)
    refine ⟨f', fun _ _ => rfl, fun s' a b => T0 s' (by omega) b, fun r => ?_⟩
    rw [← e]
    simp only [x40_18 (x5 := nI s), x40_20, x40_21, x40_24, kp56, rf56_6, rp56_6, al57, iA57, it57, rf56_7, rp56_7, al58, iA58, it58, rf56_8, rp56_8, al59, iA59, it59, rf56_9, rp56_9, al60, iA60, it60, rf56_10, rp56_10, al61, iA61, it61, rf56_12, rp56_12, al62, iA62, it62, rf56_13, rp56_13, al63, iA63, it63, rf56_15, rp56_15, al64, iA64, it64, rf56_16, rp56_16, al65, iA65, it65, rf56_17, rp56_17, rf56_18, rp56_18, al66, iA66, it66, s8, c0, A, e1, bI_True, bI_False, nI_1, Nat.reduceLeDiff, Nat.reduceEqDiff, nb0, nb1, nbI, eq_self, ex_pr, tl_s, tl_n, if_true, if_false, not_true_eq_false, not_false_eq_true, and_self, and_false, false_and, and_true, true_and]
  | k + 1, s, f', C, E, T1, T0, hk => by
    have C0 := C
    obtain ⟨P, ce, n7, c21, cp, c4, cs, c0⟩ := C
    have A := all_of n7
    have p := p2_7 n7
    have sn : s < 2 ^ n := by omega
    have s7 := go_lt n7 sn
    have e1 : ¬ nI (2 ^ n - 1) < nI s := by
      rw [nI_ltI (by omega) (by omega)]
      omega
    have k39 := fun d r => @s39 sc d r f' g h1 h2 sd s s7 c4 (go_lt n7 cs)
    have z1 : nI s + 1 = nI (s + 1) := by rw [← lt1, nI_add]
    by_cases y : pcn s = pcn sd
    · obtain ⟨f2, F2, G2, k2⟩ : ∃ f2, (∀ q, ¬ bsq h q → f2 q = f' q) ∧ ((∀ s', s' ≠ s → f2 (23 + h) s' = f' (23 + h) s' ∧ f2 (29 + h) s' = f' (29 + h) s' ∧ f2 (40 + h) s' = f' (40 + h) s') ∧ TBR f2 (vb D W pr gb n hr hs) hs h s) ∧ ∀ r, (Rn sc (d + 6) 40 18 [.ref (21 : Nat), .ref (56 : Nat), .int (nI hs), .int (nI pr), .int (nI h), .int (nI s)] [] (cS f' g h1 h2) r ↔ Rn sc (d + 6) 40 18 [.ref (21 : Nat), .ref (56 : Nat), .int (nI hs), .int (nI pr), .int (nI h), .int (nI (s + 1))] [] (cS f2 g h1 h2) r) := by
        have eh := @nI_eq h hs (by omega) (by omega)
        by_cases z : h = hs
        · subst z
          obtain ⟨u1, u2', u3, u4, u5⟩ := or22 h (by omega)
          obtain ⟨w1, w2, w3, w4, w5⟩ := or28 h (by omega)
          have j1 : inb (nI h) 5 = true := inb_nI (by omega) (by decide)
          have j2 : (nI h).toNatClampNeg = h := cl_nI (by omega)
          have i1 : inb (nI s) 128 = true := inb_nI s7 (by decide)
          have i2 : (nI s).toNatClampNeg = s := cl_nI (by omega)
          have k22 := fun d r => @s22 sc d r f' g h1 h2 W n pr s gb n7 c0 (by rw [E 56 (by omega)]; exact c5) (fun s hs => by rw [E 60 (by omega)]; exact hw s hs) (go_lt n7 cp)
          refine ⟨u2 (u2 f' (23 + h) s (nI (ga W pr s gb n 0))) (29 + h) s 0, fun q hq => ?_, ⟨fun s' hs' => ⟨?_, ?_, ?_⟩, ?_, ?_, fun z => absurd z (by omega)⟩, fun r => ?_⟩
          · unfold bsq at hq
            rw [u2_n (by omega), u2_n (by omega)]
          · rw [u2_nn (by omega), u2_nn (by omega)]
          · rw [u2_nn (by omega), u2_nn (by omega)]
          · rw [u2_nn (by omega), u2_nn (by omega)]
          · rw [u2_nn (by omega), u2_ss, Nat.sub_self]
            rfl
          · rw [u2_ss, Nat.sub_self]
            rfl
          · simp only [x40_18 (x5 := nI s), x40_20, x40_21, x40_24, x40_27, x40_28, x40_30, x40_33, x40_39, x40_41, x40_42, x40_45, x40_46, x40_49, x40_51, x40_52, x40_54, x40_55, x40_57, x40_58, x40_61, x40_62, x40_63, x40_66, x40_68, x40_69, x40_71, x40_72, x40_73, x40_85, x40_88, kp21, rf21_0, rp21_0, al22, iA22, iG22, rf21_1, rp21_1, al28, iA28, iG28, rf21_2, rp21_2, al34, iA34, iG34, rf21_3, rp21_3, al39, iA39, iG39, rf21_4, rp21_4, al44, iA44, iG44, al22, iA22, iG22, rf22_0, rp22_0, al23, iA23, it23, rf22_1, rp22_1, al24, iA24, it24, rf22_2, rp22_2, al25, iA25, it25, rf22_3, rp22_3, al26, iA26, it26, rf22_4, rp22_4, al27, iA27, it27, al28, iA28, iG28, rf28_0, rp28_0, al29, iA29, it29, rf28_1, rp28_1, al30, iA30, it30, rf28_2, rp28_2, al31, iA31, it31, rf28_3, rp28_3, al32, iA32, it32, rf28_4, rp28_4, al33, iA33, it33, kp56, rf56_6, rp56_6, al57, iA57, it57, rf56_7, rp56_7, al58, iA58, it58, rf56_8, rp56_8, al59, iA59, it59, rf56_9, rp56_9, al60, iA60, it60, rf56_10, rp56_10, al61, iA61, it61, rf56_12, rp56_12, al62, iA62, it62, rf56_13, rp56_13, al63, iA63, it63, rf56_15, rp56_15, al64, iA64, it64, rf56_16, rp56_16, al65, iA65, it65, rf56_17, rp56_17, rf56_18, rp56_18, al66, iA66, it66, s8, c0, A, e1, k39, bI_t y, zi1, k22, u1, u2', u3, u4, u5, w1, w2, w3, w4, w5, j1, j2, i1, i2, z1, nI_add, bI_True, bI_False, nI_1, Nat.reduceLeDiff, Nat.reduceEqDiff, nb0, nb1, nbI, eq_self, ex_pr, tl_s, tl_n, if_true, if_false, not_true_eq_false, not_false_eq_true, and_self, and_false, false_and, and_true, true_and]
        · have hh' : h < hs := by omega
          have hw' : ∀ s, s < n → W s ≤ 99 := fun s hs => (hw s hs).2
          have Tn : ∀ s', s' < 2 ^ n → pcn s' = pcn sd → f' (24 + h) s' = nI (vb D W pr gb n hr hs (hs - h - 1) s').1 ∧ f' (30 + h) s' = nI (vb D W pr gb n hr hs (hs - h - 1) s').2.1 ∧ (vb D W pr gb n hr hs (hs - h - 1) s').1 ≤ 693 ∧ (vb D W pr gb n hr hs (hs - h - 1) s').2.1 ≤ 18000 := fun s' a b => by
            have t := T1 hh' s' a b
            obtain ⟨t1, t2, -⟩ := t
            rw [show 23 + (h + 1) = 24 + h by omega, show hs - (h + 1) = hs - h - 1 by omega] at t1
            rw [show 29 + (h + 1) = 30 + h by omega, show hs - (h + 1) = hs - h - 1 by omega] at t2
            obtain ⟨b1, b2, -⟩ := @vb_b D W pr gb n hr hs ce.1.1 cp n7 hw' (hs - h - 1) s' a
            have : 6000 * (hs - h - 1) ≤ 6000 * 3 := Nat.mul_le_mul_left _ (by omega)
            exact ⟨t1, t2, b1, by omega⟩
          have k41 := fun r => @l41 sc d r f' g h1 h2 n hr sd D h hs pr s (vb D W pr gb n hr hs (hs - h - 1)) C0 h4 hh' sn y Tn 22 0 none mk0 mk0 mk0 rfl (fun v hv => by cases hv)
          have mv := @mvI (hs - h - 1) s D W pr gb n hr hs h (by omega) hh'
          rw [mv, show hs - h - 1 + 1 = hs - h by omega] at k41
          have k41' : ∀ r, Rn sc (d + 5) 41 13 [.ref (21 : Nat), .ref (56 : Nat), .int (nI h), .int (nI s), .int (-1), .int 0, .int 21, .int 0, mk0, mk0, mk0] [] (cS f' g h1 h2) r ↔ r = (cS (u2 (u2 (u2 f' (23 + h) s (nI (vb D W pr gb n hr hs (hs - h) s).1)) (29 + h) s (nI (vb D W pr gb n hr hs (hs - h) s).2.1)) (40 + h) s (nI ((vb D W pr gb n hr hs (hs - h) s).2.2.headD 21))) g h1 h2, none) := k41
          refine ⟨u2 (u2 (u2 f' (23 + h) s (nI (vb D W pr gb n hr hs (hs - h) s).1)) (29 + h) s (nI (vb D W pr gb n hr hs (hs - h) s).2.1)) (40 + h) s (nI ((vb D W pr gb n hr hs (hs - h) s).2.2.headD 21)), fun q hq => ?_, ⟨fun s' hs' => ⟨?_, ?_, ?_⟩, ?_, ?_, fun _ => ?_⟩, fun r => ?_⟩
          · unfold bsq at hq
            rw [u2_n (by omega), u2_n (by omega), u2_n (by omega)]
          · rw [u2_nn (by omega), u2_nn (by omega), u2_nn (by omega)]
          · rw [u2_nn (by omega), u2_nn (by omega), u2_nn (by omega)]
          · rw [u2_nn (by omega), u2_nn (by omega), u2_nn (by omega)]
          · rw [u2_nn (by omega), u2_nn (by omega), u2_ss]
          · rw [u2_nn (by omega), u2_ss]
          · rw [u2_ss]
          · simp only [x40_18 (x5 := nI s), x40_20, x40_21, x40_24, x40_27, x40_28, x40_30, x40_33, x40_39, x40_41, x40_42, x40_76, x40_77, x40_78, x40_80, x40_82, x40_85, x40_88, c41, x41_0, x41_1, x41_3, x41_4, x41_6, x41_8, x41_10, x41_11, x41_15, x41_17, x41_20, x41_22, x41_24, x41_27, x41_28, x41_29, x41_30, x41_31, x41_33, x41_36, x41_39, x41_42, x41_43, x41_45, x41_48, x41_49, x41_51, x41_52, x41_55, x41_56, x41_57, x41_58, x41_59, x41_61, x41_62, x41_64, x41_65, x41_68, x41_69, x41_70, x41_71, x41_72, x41_74, x41_75, x41_76, x41_77, x41_78, x41_80, x41_83, x41_84, x41_86, x41_88, x41_90, x41_93, x41_95, x41_97, x41_100, x41_102, x41_104, x41_107, x41_109, x41_111, x41_113, x41_115, x41_117, x41_119, x41_122, x41_125, x41_126, x41_129, x41_130, x41_131, x41_132, x41_134, x41_135, x41_136, x41_139, x41_140, x41_141, x41_142, x41_144, x41_145, x41_146, x41_149, x41_150, x41_151, x41_152, x41_154, x41_155, kp21, rf21_0, rp21_0, al22, iA22, iG22, rf21_1, rp21_1, al28, iA28, iG28, rf21_2, rp21_2, al34, iA34, iG34, rf21_3, rp21_3, al39, iA39, iG39, rf21_4, rp21_4, al44, iA44, iG44, kp56, rf56_6, rp56_6, al57, iA57, it57, rf56_7, rp56_7, al58, iA58, it58, rf56_8, rp56_8, al59, iA59, it59, rf56_9, rp56_9, al60, iA60, it60, rf56_10, rp56_10, al61, iA61, it61, rf56_12, rp56_12, al62, iA62, it62, rf56_13, rp56_13, al63, iA63, it63, rf56_15, rp56_15, al64, iA64, it64, rf56_16, rp56_16, al65, iA65, it65, rf56_17, rp56_17, rf56_18, rp56_18, al66, iA66, it66, s8, c0, A, e1, k39, bI_t y, zi1, eh, eq_false z, k41', z1, nI_add, bI_True, bI_False, nI_1, Nat.reduceLeDiff, Nat.reduceEqDiff, nb0, nb1, nbI, eq_self, ex_pr, tl_s, tl_n, if_true, if_false, not_true_eq_false, not_false_eq_true, and_self, and_false, false_and, and_true, true_and]
      obtain ⟨g1, g2⟩ := G2
      obtain ⟨f3, F3, G3, k3⟩ := l40s h4 hh c5 hw k (s + 1) f2 (C0.fr (fun q hq => F2 q (by unfold bsq; omega)) h4) (fun q hq => (F2 q (by unfold bsq; omega)).trans (E q hq)) (fun z s' a b => (T1 z s' a b).fr (by rw [F2 _ (by unfold bsq; omega)]) (by rw [F2 _ (by unfold bsq; omega)]) (by rw [F2 _ (by unfold bsq; omega)])) (fun s' a b => by
        by_cases w : s' = s
        · rw [w]
          exact g2
        · obtain ⟨q1, q2, q3⟩ := g1 s' w
          exact (T0 s' (by omega) b).fr q1 q2 q3) (by omega)
      exact ⟨f3, fun q hq => (F3 q hq).trans (F2 q hq), G3, fun r => (k2 r).trans (k3 r)⟩
    · obtain ⟨f3, F3, G3, k3⟩ := l40s h4 hh c5 hw k (s + 1) f' C0 E T1 (fun s' a b => by
        by_cases w : s' = s
        · exact absurd (w ▸ b) y
        · exact T0 s' (by omega) b) (by omega)
      refine ⟨f3, F3, G3, fun r => ?_⟩
      rw [← k3 r]
      simp only [x40_18 (x5 := nI s), x40_20, x40_21, x40_24, x40_27, x40_28, x40_30, x40_33, x40_36, x40_85, x40_88, kp21, rf21_0, rp21_0, al22, iA22, iG22, rf21_1, rp21_1, al28, iA28, iG28, rf21_2, rp21_2, al34, iA34, iG34, rf21_3, rp21_3, al39, iA39, iG39, rf21_4, rp21_4, al44, iA44, iG44, kp56, rf56_6, rp56_6, al57, iA57, it57, rf56_7, rp56_7, al58, iA58, it58, rf56_8, rp56_8, al59, iA59, it59, rf56_9, rp56_9, al60, iA60, it60, rf56_10, rp56_10, al61, iA61, it61, rf56_12, rp56_12, al62, iA62, it62, rf56_13, rp56_13, al63, iA63, it63, rf56_15, rp56_15, al64, iA64, it64, rf56_16, rp56_16, al65, iA65, it65, rf56_17, rp56_17, rf56_18, rp56_18, al66, iA66, it66, s8, c0, A, e1, k39, bI_f y, z1, nI_add, bI_True, bI_False, nI_1, Nat.reduceLeDiff, Nat.reduceEqDiff, nb0, nb1, nbI, eq_self, ex_pr, tl_s, tl_n, if_true, if_false, not_true_eq_false, not_false_eq_true, and_self, and_false, false_and, and_true, true_and]
def bsQ (h q : Nat) : Prop := (23 ≤ q ∧ q ≤ 23 + h) ∨ (29 ≤ q ∧ q ≤ 29 + h) ∨ (40 ≤ q ∧ q ≤ 40 + h)
theorem l40 {hs pr : Nat} (h4 : hs ≤ 4) (c5 : f 56 5 = nI gb) (hw : ∀ s, s < n → f 60 s = nI (W s) ∧ W s ≤ 99) : ∀ (h : Nat) (f' : Nat → Nat → Int32) (v5 : Value), h ≤ hs → LC f' h1 D n hr hs pr sd → (∀ q, (45 ≤ q ∧ q ≤ 101) → f' q = f q) → (h < hs → ∀ s', s' < 2 ^ n → pcn s' = pcn sd → TBR f' (vb D W pr gb n hr hs) hs (h + 1) s') → ∃ f2, (∀ q, ¬ bsQ h q → f2 q = f' q) ∧ (∀ h', h' ≤ h → ∀ s', s' < 2 ^ n → pcn s' = pcn sd → TBR f2 (vb D W pr gb n hr hs) hs h' s') ∧ ∀ r, (Rn sc (d + 6) 40 10 [.ref (21 : Nat), .ref (56 : Nat), .int (nI hs), .int (nI pr), .int (nI h), v5] [] (cS f' g h1 h2) r ↔ r = (cS f2 g h1 h2, none))
  | 0, f', v5, hh, C, E, T1 => by
    obtain ⟨f2, F2, G2, k2⟩ := @l40s sc d f g h1 h2 n hr sd gb W D hs 0 pr h4 hh c5 hw (2 ^ n) 0 f' C E T1 (fun s' a => absurd a (by omega)) (Nat.zero_add _)
    refine ⟨f2, fun q hq => F2 q (fun w => hq (by unfold bsq at w; unfold bsQ; omega)), fun h' a => by rw [show h' = 0 by omega]; exact G2, fun r => ?_⟩
    have e1 : ¬ nI 0 < 0 := by decide
    have e2 : nI 0 + (-1) < 0 := by decide
    rw [lt0] at k2 e1 e2 ⊢
    simp only [x40_10 (x4 := 0), x40_12, x40_15, x40_16, e1, k2, x40_91, x40_94, bI_True, bI_False, nI_1, Nat.reduceLeDiff, Nat.reduceEqDiff, nb0, nb1, nbI, eq_self, ex_pr, tl_s, tl_n, if_true, if_false, not_true_eq_false, not_false_eq_true, and_self, and_false, false_and, and_true, true_and]
    simp only [x40_10 (x4 := 0 + (-1)), x40_12, x40_97, e2, bI_True, bI_False, nI_1, Nat.reduceLeDiff, Nat.reduceEqDiff, nb0, nb1, nbI, eq_self, ex_pr, tl_s, tl_n, if_true, if_false, not_true_eq_false, not_false_eq_true, and_self, and_false, false_and, and_true, true_and]
  | h + 1, f', v5, hh, C, E, T1 => by
    obtain ⟨f2, F2, G2, k2⟩ := @l40s sc d f g h1 h2 n hr sd gb W D hs (h + 1) pr h4 hh c5 hw (2 ^ n) 0 f' C E T1 (fun s' a => absurd a (by omega)) (Nat.zero_add _)
    obtain ⟨f3, F3, G3, k3⟩ := l40 h4 c5 hw h f2 (.int (nI (2 ^ n))) (by omega) (C.fr (fun q hq => F2 q (by unfold bsq; omega)) h4) (fun q hq => (F2 q (by unfold bsq; omega)).trans (E q hq)) (fun _ => G2)
    have e1 : ¬ nI (h + 1) < 0 := nI_pos (by omega)
    have e2 : nI (h + 1) + (-1) = nI h := by
      rw [show (-1 : Int32) = iI (-1) from rfl, iI_N, iI_add, iI_N]
      congr 1
      omega
    rw [lt0] at k2
    refine ⟨f3, fun q hq => (F3 q (fun w => hq (by unfold bsQ at w ⊢; omega))).trans (F2 q (fun w => hq (by unfold bsq at w; unfold bsQ; omega))), fun h' a s' b c => ?_, fun r => ?_⟩
    · by_cases w : h' ≤ h
      · exact G3 h' w s' b c
      · have e : h' = h + 1 := by omega
        subst e
        exact (G2 s' b c).fr (by rw [F3 _ (by unfold bsQ; omega)]) (by rw [F3 _ (by unfold bsQ; omega)]) (by rw [F3 _ (by unfold bsQ; omega)])
    · rw [← k3 r]
      simp only [x40_10 (x4 := nI (h + 1)), x40_12, x40_15, x40_16, e1, k2, x40_91, e2, x40_94, bI_True, bI_False, nI_1, Nat.reduceLeDiff, Nat.reduceEqDiff, nb0, nb1, nbI, eq_self, ex_pr, tl_s, tl_n, if_true, if_false, not_true_eq_false, not_false_eq_true, and_self, and_false, false_and, and_true, true_and]
/-- findBest -/
theorem s40 {hs pr : Nat} (h4 : hs ≤ 4) (C : CY f h1 D n sd hr) (c5 : f 56 5 = nI gb) (hw : ∀ s, s < n → f 60 s = nI (W s) ∧ W s ≤ 99) (hp : pr < 2 ^ n) : ∃ f', Fq f f' ∧ (∀ h', h' ≤ hs → ∀ s', s' < 2 ^ n → pcn s' = pcn sd → TBR f' (vb D W pr gb n hr hs) hs h' s') ∧ ∀ r, Cl sc (d + 7) 40 [.ref (21 : Nat), .ref (56 : Nat), .int (nI hs), .int (nI pr)] (cS f g h1 h2) r ↔ r = (cS f' g h1 h2, none) := by
  have n7 := C.2.1
  obtain ⟨f1, E, e5, P, k⟩ := @s33 sc d f g h1 h2 n hr sd D hs pr h4 C
  have F : Fq f f1 := fun q j hq => E q j (fun w => hq (by unfold lkq at w; unfold scq; omega))
  have C1 : LC f1 h1 D n hr hs pr sd := by
    obtain ⟨ce, n7, c0, c4, c1, b4, b1⟩ := C
    refine ⟨P, ce.fr (fun q hq => funext fun j => F q j (by unfold scq; omega)), n7, e5, hp, ?_, b4, ?_⟩
    · rw [F 56 4 (by unfold scq; omega)]
      exact c4
    · rw [F 56 0 (by unfold scq; omega)]
      exact c0
  have c5' : f1 56 5 = nI gb := by
    rw [F 56 5 (by unfold scq; omega)]
    exact c5
  have hw' : ∀ s, s < n → f1 60 s = nI (W s) ∧ W s ≤ 99 := fun s hs => by
    rw [F 60 s (by unfold scq; omega)]
    exact hw s hs
  obtain ⟨f2, F2, G2, k2⟩ := @l40 sc d f1 g h1 h2 n hr sd gb W D hs pr h4 c5' hw' hs f1 mk0 (Nat.le_refl _) C1 (fun _ _ => rfl) (fun h => absurd h (by omega))
  refine ⟨f2, F.trans fun q j hq => by rw [F2 q (fun w => hq (by unfold bsQ at w; unfold scq; omega))], G2, fun r => ?_⟩
  simp only [c40, x40_0, x40_1, x40_2, x40_3, x40_4, x40_7, x40_8, kp21, rf21_0, rp21_0, al22, iA22, iG22, rf21_1, rp21_1, al28, iA28, iG28, rf21_2, rp21_2, al34, iA34, iG34, rf21_3, rp21_3, al39, iA39, iG39, rf21_4, rp21_4, al44, iA44, iG44, k, k2, bI_True, bI_False, nI_1, Nat.reduceLeDiff, Nat.reduceEqDiff, nb0, nb1, nbI, eq_self, ex_pr, tl_s, tl_n, if_true, if_false, not_true_eq_false, not_false_eq_true, and_self, and_false, false_and, and_true, true_and]
theorem pth {v : Nat → Nat → aW} {E : Nat → Nat → Nat → Bool} {P : Nat → Nat → Nat → Nat} {G : Nat → Nat} (hv : v = Vb E P G) (m s : Nat) : (v (m + 1) s).2.2 = ((v (m + 1) s).2.2.headD 21) :: (v m (flq s ((v (m + 1) s).2.2.headD 21))).2.2 ∧ (v (m + 1) s).2.2.headD 21 ≤ 21 ∧ ((v (m + 1) s).2.2.headD 21 = 21 ∨ E m s ((v (m + 1) s).2.2.headD 21) = true) := by
  subst hv
  obtain ⟨q, q1, q2, q3⟩ := @Vb_q E P G m s
  have e : (Vb E P G (m + 1) s).2.2.headD 21 = q := by
    rw [q3]
    rfl
  rw [e]
  refine ⟨?_, q1, q2⟩
  rw [q3]
  rfl
/-- bestPair: the row told, from hour h on -/
theorem l42 {hs pr K : Nat} {v1 : Int32} (h4 : hs ≤ 4) (O : pr < 2 ^ n) (n7 : n ≤ 7) (hK : K < hs) (T : ∀ h', h' ≤ hs → ∀ s', s' < 2 ^ n → pcn s' = pcn sd → TBR f (vb D W pr gb n hr hs) hs h' s') : ∀ (k h s : Nat), h + k = K → s < 2 ^ n → pcn s = pcn sd → (Rn sc (d + 2) 42 5 [.ref (21 : Nat), .int v1, .int (nI K), .int (nI s), .int (nI h)] [] (cS f g h1 h2) r ↔ r = (cS f g h1 h2, some (.int (nI (nuO ((vb D W pr gb n hr hs (hs - h) s).2.2.getD k 0))))))
  | k, h, s, hk, hs', hp => by
    obtain ⟨t1, t2, t3⟩ := T h (by omega) s hs' hp
    have t3 := t3 (by omega)
    have s7 := go_lt n7 hs'
    obtain ⟨p1, p2, p3⟩ := @pth (vb D W pr gb n hr hs) (vE D pr hr hs) (vP D hr hs) (fun s => ga W pr s gb n 0) rfl (hs - h - 1) s
    rw [show hs - h - 1 + 1 = hs - h by omega] at p1 p2 p3
    obtain ⟨y1, y2, y3, y4, y5⟩ := or39 h (by omega)
    have j3 : inb (nI h) 4 = true := inb_nI (by omega) (by decide)
    have j2 : (nI h).toNatClampNeg = h := cl_nI (by omega)
    have i1 : inb (nI s) 128 = true := inb_nI s7 (by decide)
    have i2 : (nI s).toNatClampNeg = s := cl_nI (by omega)
    obtain ⟨c, ec⟩ : ∃ c, c = (vb D W pr gb n hr hs (hs - h) s).2.2.headD 21 := ⟨_, rfl⟩
    rw [← ec] at p1 p2 p3 t3
    rw [p1]
    cases k with
    | zero =>
      have e : h = K := hk
      subst e
      have e1 : ¬ nI h < nI h := Int32.lt_irrefl
      have k35 := fun d r => @s35 sc d r f g h1 h2 c (by omega)
      show _ ↔ r = (cS f g h1 h2, some (.int (nI (nuO c))))
      simp only [x42_5 (x4 := nI h), x42_7, x42_8, x42_32, x42_33, x42_36, x42_37, x42_38, x42_39, x42_40, x42_43, kp21, rf21_0, rp21_0, al22, iA22, iG22, rf21_1, rp21_1, al28, iA28, iG28, rf21_2, rp21_2, al34, iA34, iG34, rf21_3, rp21_3, al39, iA39, iG39, rf21_4, rp21_4, al44, iA44, iG44, al39, iA39, iG39, rf39_0, rp39_0, al40, iA40, it40, rf39_1, rp39_1, al41, iA41, it41, rf39_2, rp39_2, al42, iA42, it42, rf39_3, rp39_3, al43, iA43, it43, e1, y1, y2, y3, y4, y5, j3, j2, i1, i2, t3, k35, bI_True, bI_False, nI_1, Nat.reduceLeDiff, Nat.reduceEqDiff, nb0, nb1, nbI, eq_self, ex_pr, tl_s, tl_n, if_true, if_false, not_true_eq_false, not_false_eq_true, and_self, and_false, false_and, and_true, true_and]
    | succ k =>
      have e1 : nI h < nI K := nI_lt (by omega) (by omega)
      have k34 := fun d r => @s34 sc d r f g h1 h2 c (by omega)
      have t5 : nI s ^^^ nI (pbt c) = nI (flq s c) := nI_xor _ _
      have fo : flq s c < 2 ^ n ∧ pcn (flq s c) = pcn s := flq_ok (D := D) (hx := hr + (hs - 1 - (hs - h - 1))) O n7 hs' p2 p3
      have z1 : nI h + 1 = nI (h + 1) := by rw [← lt1, nI_add]
      have k2 := l42 h4 O n7 hK T k (h + 1) (flq s c) (by omega) fo.1 (by rw [fo.2, hp]) (v1 := v1)
      rw [show hs - (h + 1) = hs - h - 1 by omega] at k2
      show _ ↔ r = (cS f g h1 h2, some (.int (nI (nuO ((vb D W pr gb n hr hs (hs - h - 1) (flq s c)).2.2.getD k 0)))))
      rw [← k2]
      simp only [x42_5 (x4 := nI h), x42_7, x42_8, x42_11, x42_12, x42_13, x42_16, x42_18, x42_19, x42_20, x42_21, x42_24, x42_25, x42_26, x42_29, kp21, rf21_0, rp21_0, al22, iA22, iG22, rf21_1, rp21_1, al28, iA28, iG28, rf21_2, rp21_2, al34, iA34, iG34, rf21_3, rp21_3, al39, iA39, iG39, rf21_4, rp21_4, al44, iA44, iG44, al39, iA39, iG39, rf39_0, rp39_0, al40, iA40, it40, rf39_1, rp39_1, al41, iA41, it41, rf39_2, rp39_2, al42, iA42, it42, rf39_3, rp39_3, al43, iA43, it43, e1, y1, y2, y3, y4, y5, j3, j2, i1, i2, t3, k34, t5, z1, nI_add, bI_True, bI_False, nI_1, Nat.reduceLeDiff, Nat.reduceEqDiff, nb0, nb1, nbI, eq_self, ex_pr, tl_s, tl_n, if_true, if_false, not_true_eq_false, not_false_eq_true, and_self, and_false, false_and, and_true, true_and]
theorem s42 {hs pr K : Nat} (h4 : hs ≤ 4) (O : pr < 2 ^ n) (n7 : n ≤ 7) (hK : K < hs) (hsd : sd < 2 ^ n) (T : ∀ h', h' ≤ hs → ∀ s', s' < 2 ^ n → pcn s' = pcn sd → TBR f (vb D W pr gb n hr hs) hs h' s') : Cl sc (d + 3) 42 [.ref (21 : Nat), .int (nI sd), .int (nI K)] (cS f g h1 h2) r ↔ r = (cS f g h1 h2, some (.int (nI (nuO ((vb D W pr gb n hr hs hs sd).2.2.getD K 0))))) := by
  have k2 := @l42 sc d r f g h1 h2 n hr sd gb W D hs pr K (nI sd) h4 O n7 hK T K 0 sd (Nat.zero_add _) hsd rfl
  rw [Nat.sub_zero, lt0] at k2
  rw [← k2]
  simp only [c42, x42_0, x42_1, x42_2, x42_3, x42_7, x42_8, x42_11, x42_12, x42_13, x42_16, x42_18, x42_19, x42_20, x42_20s, x42_21, x42_24, x42_25, x42_26, x42_29, x42_32, x42_33, x42_36, x42_37, x42_38, x42_39, x42_39s, x42_40, x42_43, bI_True, bI_False, nI_1, Nat.reduceLeDiff, Nat.reduceEqDiff, nb0, nb1, nbI, eq_self, ex_pr, tl_s, tl_n, if_true, if_false, not_true_eq_false, not_false_eq_true, and_self, and_false, false_and, and_true, true_and]
end BF
