/-! rows of runs that go: the class -/
def TWR (f : Nat → Nat → Int32) (v : Nat → Nat → Nat) (hs h s : Nat) : Prop := f (35 + h) s = nI (v (hs - h) s)
theorem crB_b {E : Nat → Nat → Nat → Bool} {now i m s : Nat} : (crB E now i m s).toNat ≤ 1 := by
  cases crB E now i m s <;> decide
section RC
variable {sc : aSc} {d : Nat} {r : aRes} {f : Nat → Nat → Int32} {g : Nat → Nat → Int64} {h1 h2 : Nat} {n hr wn dk sd gb pc bc : Nat} {W : Nat → Nat} {D : aD} {hc : Nat} {HS : Nat → aH} {σ : aS}
theorem l45 {h hs pr s B : Nat} {w : Nat → Nat} (C : LC f h1 D n hr hs pr sd) (h4 : hs ≤ 3) (hh : h < hs) (hsn : s < 2 ^ n) (hpc : pcn s = pcn sd) (hB : B ≤ 10000) (Tn : ∀ q, q < 21 → VD D pr s (hr + h) q = true → f (36 + h) (flq s q) = nI (w q) ∧ w q ≤ B) : ∀ (k p a : Nat), p + k = 21 → a ≤ B * p → (Rn sc (d + 5) 45 16 [.ref (21 : Nat), .ref (56 : Nat), .int (nI h), .int (nI s), .int (nI a), .int (nI p)] [] (cS f g h1 h2) r ↔ r = (cS f g h1 h2, some (.int (nI (lp (cwF (VD D pr s (hr + h)) w) k p a)))))
  | 0, p, a, hp, ha => by
    have e : p = 21 := hp
    subst e
    have e1 : ¬ nI 21 < 21 := by decide
    show _ ↔ r = (cS f g h1 h2, some (.int (nI a)))
    simp only [x45_16 (x5 := nI 21), x45_18, x45_20, x45_62, x45_64, e1, bI_True, bI_False, nI_1, Nat.reduceLeDiff, Nat.reduceEqDiff, nb0, nb1, nbI, eq_self, ex_pr, tl_s, tl_n, if_true, if_false, not_true_eq_false, not_false_eq_true, and_self, and_false, false_and, and_true, true_and]
  | k + 1, p, a, hp, ha => by
    have C0 := C
    obtain ⟨P, ce, n7, c21, cp, c4, cs, c0⟩ := C
    have s7 := go_lt n7 hsn
    have e1 : nI p < 21 := nI_lt (show p < 21 by omega) (by decide)
    have z1 : nI p + 1 = nI (p + 1) := by rw [← lt1, nI_add]
    have z2 : nI h + 1 = nI (h + 1) := by rw [← lt1, nI_add]
    have k38 := fun d r => @s38 sc d r f g h1 h2 n hr D h p s hs pr P ce hh (by omega) (by omega) n7 s7 c21 cp
    have st : lp (cwF (VD D pr s (hr + h)) w) (k + 1) p a = lp (cwF (VD D pr s (hr + h)) w) k (p + 1) (cwF (VD D pr s (hr + h)) w p a) := rfl
    rw [st]
    by_cases y : VD D pr s (hr + h) p = true
    · obtain ⟨t1, t2⟩ := Tn p (by omega) y
      obtain ⟨q1, q2⟩ := flq_ok cp n7 hsn (by omega) (Or.inr y)
      have f7 := go_lt n7 q1
      obtain ⟨u1, u2', u3, u4, u5⟩ := or34 (h + 1) (by omega)
      have j1 : inb (nI (h + 1)) 4 = true := inb_nI (by omega) (by decide)
      have j2 : (nI (h + 1)).toNatClampNeg = h + 1 := cl_nI (by omega)
      have i1 : inb (nI (flq s p)) 128 = true := inb_nI f7 (by decide)
      have i2 : (nI (flq s p)).toNatClampNeg = flq s p := cl_nI (by omega)
      have r1 : f (35 + (h + 1)) (flq s p) = nI (w p) := by rw [show 35 + (h + 1) = 36 + h by omega]; exact t1
      have k34 := fun d r => @s34 sc d r f g h1 h2 p (by omega)
      have t5 : nI s ^^^ nI (pbt p) = nI (flq s p) := nI_xor _ _
      have ch : cwF (VD D pr s (hr + h)) w p a = a + w p := if_pos y
      have k2 := l45 C0 h4 hh hsn hpc hB Tn k (p + 1) (a + w p) (by omega) (by rw [Nat.mul_succ]; omega)
      rw [ch, ← k2]
      simp only [x45_16 (x5 := nI p), x45_18, x45_20, x45_23, x45_24, x45_25, x45_26, x45_27, x45_29, x45_32, x45_35, x45_37, x45_38, x45_41, x45_42, x45_43, x45_44, x45_45, x45_46, x45_48, x45_51, x45_52, x45_53, x45_54, x45_56, x45_59, kp21, rf21_0, rp21_0, al22, iA22, iG22, rf21_1, rp21_1, al28, iA28, iG28, rf21_2, rp21_2, al34, iA34, iG34, rf21_3, rp21_3, al39, iA39, iG39, rf21_4, rp21_4, al44, iA44, iG44, al34, iA34, iG34, rf34_0, rp34_0, al35, iA35, it35, rf34_1, rp34_1, al36, iA36, it36, rf34_2, rp34_2, al37, iA37, it37, rf34_3, rp34_3, al38, iA38, it38, e1, k38, bI_t y, zi1, z2, u1, u2', u3, u4, u5, j1, j2, k34, t5, i1, i2, r1, z1, nI_add, bI_True, bI_False, nI_1, Nat.reduceLeDiff, Nat.reduceEqDiff, nb0, nb1, nbI, eq_self, ex_pr, tl_s, tl_n, if_true, if_false, not_true_eq_false, not_false_eq_true, and_self, and_false, false_and, and_true, true_and]
    · have ch : cwF (VD D pr s (hr + h)) w p a = a := if_neg y
      have k2 := l45 C0 h4 hh hsn hpc hB Tn k (p + 1) a (by omega) (by rw [Nat.mul_succ]; omega)
      rw [ch, ← k2]
      simp only [x45_16 (x5 := nI p), x45_18, x45_20, x45_23, x45_24, x45_25, x45_26, x45_27, x45_29, x45_32, x45_56, x45_59, kp21, rf21_0, rp21_0, al22, iA22, iG22, rf21_1, rp21_1, al28, iA28, iG28, rf21_2, rp21_2, al34, iA34, iG34, rf21_3, rp21_3, al39, iA39, iG39, rf21_4, rp21_4, al44, iA44, iG44, e1, k38, bI_f y, z1, bI_True, bI_False, nI_1, Nat.reduceLeDiff, Nat.reduceEqDiff, nb0, nb1, nbI, eq_self, ex_pr, tl_s, tl_n, if_true, if_false, not_true_eq_false, not_false_eq_true, and_self, and_false, false_and, and_true, true_and]
/-- waysOn -/
theorem s45 {h hs pr s B : Nat} {w : Nat → Nat} (C : LC f h1 D n hr hs pr sd) (h4 : hs ≤ 3) (hh : h < hs) (hsn : s < 2 ^ n) (hpc : pcn s = pcn sd) (hB : B ≤ 10000) (Tn : ∀ q, q < 21 → VD D pr s (hr + h) q = true → f (36 + h) (flq s q) = nI (w q) ∧ w q ≤ B) : Cl sc (d + 6) 45 [.ref (21 : Nat), .ref (56 : Nat), .int (nI h), .int (nI s)] (cS f g h1 h2) r ↔ r = (cS f g h1 h2, some (.int (nI (lp (cwF (VD D pr s (hr + h)) w) 21 0 0)))) := by
  have k := @l45 sc d r f g h1 h2 n hr sd D h hs pr s B w C h4 hh hsn hpc hB Tn 21 0 0 rfl (Nat.zero_le _)
  obtain ⟨P, ce, n7, c21, cp, c4, cs, c0⟩ := C
  have k39 := fun d r => @s39 sc d r f g h1 h2 sd s (go_lt n7 hsn) c4 (go_lt n7 cs)
  rw [lt0] at k
  rw [← k]
  simp only [c45, x45_0, x45_1, x45_2, x45_5, x45_8, x45_9, x45_10, x45_11, x45_13, x45_14, x45_18, x45_20, x45_23, x45_24, x45_25, x45_26, x45_27, x45_29, x45_32, x45_35, x45_37, x45_38, x45_41, x45_42, x45_43, x45_44, x45_45, x45_46, x45_48, x45_51, x45_52, x45_53, x45_54, x45_56, x45_59, x45_62, x45_64, kp56, rf56_6, rp56_6, al57, iA57, it57, rf56_7, rp56_7, al58, iA58, it58, rf56_8, rp56_8, al59, iA59, it59, rf56_9, rp56_9, al60, iA60, it60, rf56_10, rp56_10, al61, iA61, it61, rf56_12, rp56_12, al62, iA62, it62, rf56_13, rp56_13, al63, iA63, it63, rf56_15, rp56_15, al64, iA64, it64, rf56_16, rp56_16, al65, iA65, it65, rf56_17, rp56_17, rf56_18, rp56_18, al66, iA66, it66, k39, bI_t hpc, zi1, bI_True, bI_False, nI_1, Nat.reduceLeDiff, Nat.reduceEqDiff, nb0, nb1, nbI, eq_self, ex_pr, tl_s, tl_n, if_true, if_false, not_true_eq_false, not_false_eq_true, and_self, and_false, false_and, and_true, true_and]
theorem s45n {h s : Nat} (c4 : f 56 4 = nI sd) (n7 : n ≤ 7) (cs : sd < 2 ^ n) (hsn : s < 2 ^ n) (hpc : ¬ pcn s = pcn sd) : Cl sc (d + 6) 45 [.ref (21 : Nat), .ref (56 : Nat), .int (nI h), .int (nI s)] (cS f g h1 h2) r ↔ r = (cS f g h1 h2, some (.int 0)) := by
  have k39 := fun d r => @s39 sc d r f g h1 h2 sd s (go_lt n7 hsn) c4 (go_lt n7 cs)
  simp only [c45, x45_0, x45_1, x45_2, x45_5, x45_8, x45_9, x45_10, x45_11, x45_13, x45_14, x45_18, x45_20, x45_23, x45_24, x45_25, x45_26, x45_27, x45_29, x45_32, x45_35, x45_37, x45_38, x45_41, x45_42, x45_43, x45_44, x45_45, x45_46, x45_48, x45_51, x45_52, x45_53, x45_54, x45_56, x45_59, x45_62, x45_64, kp56, rf56_6, rp56_6, al57, iA57, it57, rf56_7, rp56_7, al58, iA58, it58, rf56_8, rp56_8, al59, iA59, it59, rf56_9, rp56_9, al60, iA60, it60, rf56_10, rp56_10, al61, iA61, it61, rf56_12, rp56_12, al62, iA62, it62, rf56_13, rp56_13, al63, iA63, it63, rf56_15, rp56_15, al64, iA64, it64, rf56_16, rp56_16, al65, iA65, it65, rf56_17, rp56_17, rf56_18, rp56_18, al66, iA66, it66, k39, bI_f hpc, bI_True, bI_False, nI_1, Nat.reduceLeDiff, Nat.reduceEqDiff, nb0, nb1, nbI, eq_self, ex_pr, tl_s, tl_n, if_true, if_false, not_true_eq_false, not_false_eq_true, and_self, and_false, false_and, and_true, true_and]
def cwD (D : aD) (pr hr hs dk : Nat) : Nat → Nat → Nat := cwR (vE D pr hr hs) dk
def crD (D : aD) (pr hr hs sd i : Nat) : Nat → Nat → Nat := fun m s => (crB (vE D pr hr hs) sd i m s).toNat
theorem vEq {D : aD} {pr hr hs h : Nat} (hh : h < hs) (s : Nat) : vE D pr hr hs (hs - h - 1) s = VD D pr s (hr + h) := by
  unfold vE
  rw [show hs - 1 - (hs - h - 1) = h by omega]
theorem cwD_s {pr hs h s : Nat} (hh : h < hs) : cwD D pr hr hs dk (hs - h) s = lp (cwF (VD D pr s (hr + h)) (fun q => cwD D pr hr hs dk (hs - h - 1) (flq s q))) 21 0 0 := by
  rw [← vEq hh]
  obtain ⟨m, hm⟩ : ∃ m, hs - h = m + 1 := ⟨hs - h - 1, by omega⟩
  rw [hm]
  rfl
theorem crD_s {pr hs h s i : Nat} (hh : h < hs) : crD D pr hr hs sd i (hs - h) s = ((s ^^^ sd).testBit i || decide (0 < lp (cwF (VD D pr s (hr + h)) (fun q => crD D pr hr hs sd i (hs - h - 1) (flq s q))) 21 0 0)).toNat := by
  rw [← vEq hh]
  obtain ⟨m, hm⟩ : ∃ m, hs - h = m + 1 := ⟨hs - h - 1, by omega⟩
  rw [hm]
  show ((s ^^^ sd).testBit i || anq (vE D pr hr hs m s) (fun q => crB (vE D pr hr hs) sd i m (flq s q)) 21 0).toNat = ((s ^^^ sd).testBit i || decide (0 < lp (cwF (vE D pr hr hs m s) (fun q => (crB (vE D pr hr hs) sd i m (flq s q)).toNat)) 21 0 0)).toNat
  have e := @anq_c (vE D pr hr hs m s) (fun q => crB (vE D pr hr hs) sd i m (flq s q)) 21 0
  congr 2
  rw [Bool.eq_iff_iff, decide_eq_true_eq, e]
/-- one hour's tables: how many rows -/
theorem l44s {hs h pr : Nat} (h3 : hs ≤ 3) (hh : h ≤ hs) (c3 : f 56 3 = nI dk) (hdk : dk < 2 ^ n) : ∀ (k s : Nat) (f' : Nat → Nat → Int32), LC f' h1 D n hr hs pr sd → (∀ q, (45 ≤ q ∧ q ≤ 101) → f' q = f q) → (h < hs → ∀ s', s' < 2 ^ n → pcn s' = pcn sd → TWR f' (cwD D pr hr hs dk) hs (h + 1) s') → (∀ s', s' < s → pcn s' = pcn sd → TWR f' (cwD D pr hr hs dk) hs h s') → s + k = 2 ^ n → ∃ f2, (∀ q, q ≠ 35 + h → f2 q = f' q) ∧ (∀ s', s' < 2 ^ n → pcn s' = pcn sd → TWR f2 (cwD D pr hr hs dk) hs h s') ∧ ∀ r, (Rn sc (d + 7) 44 19 [.ref (21 : Nat), .ref (56 : Nat), .int (nI hs), .int (nI h), .int (nI s)] [] (cS f' g h1 h2) r ↔ Rn sc (d + 7) 44 73 [.ref (21 : Nat), .ref (56 : Nat), .int (nI hs), .int (nI h), .int (nI (2 ^ n))] [] (cS f2 g h1 h2) r)
  | 0, s, f', C, E, T1, T0, hk => by
    have e : s = 2 ^ n := hk
    obtain ⟨P, ce, n7, c21, cp, c4, cs, c0⟩ := C
    have A := all_of n7
    have p := p2_7 n7
    have e1 : nI (2 ^ n - 1) < nI s := nI_lt (by omega) (by omega)
    refine ⟨f', fun _ _ => rfl, fun s' a b => T0 s' (by omega) b, fun r => ?_⟩
    rw [← e]
    simp only [x44_19 (x4 := nI s), x44_21, x44_22, x44_25, kp56, rf56_6, rp56_6, al57, iA57, it57, rf56_7, rp56_7, al58, iA58, it58, rf56_8, rp56_8, al59, iA59, it59, rf56_9, rp56_9, al60, iA60, it60, rf56_10, rp56_10, al61, iA61, it61, rf56_12, rp56_12, al62, iA62, it62, rf56_13, rp56_13, al63, iA63, it63, rf56_15, rp56_15, al64, iA64, it64, rf56_16, rp56_16, al65, iA65, it65, rf56_17, rp56_17, rf56_18, rp56_18, al66, iA66, it66, s8, c0, A, e1, bI_True, bI_False, nI_1, Nat.reduceLeDiff, Nat.reduceEqDiff, nb0, nb1, nbI, eq_self, ex_pr, tl_s, tl_n, if_true, if_false, not_true_eq_false, not_false_eq_true, and_self, and_false, false_and, and_true, true_and]
  | k + 1, s, f', C, E, T1, T0, hk => by
    have C0 := C
    obtain ⟨P, ce, n7, c21, cp, c4, cs, c0⟩ := C
    have A := all_of n7
    have p := p2_7 n7
    have sn : s < 2 ^ n := by omega
    have sb7 := go_lt n7 sn
    have e1 : ¬ nI (2 ^ n - 1) < nI s := by
      rw [nI_ltI (by omega) (by omega)]
      omega
    have z1 : nI s + 1 = nI (s + 1) := by rw [← lt1, nI_add]
    have e2 := @nI_ltI h hs (by omega) (by omega)
    obtain ⟨u1, u2', u3, u4, u5⟩ := or34 h (by omega)
    have j1 : inb (nI h) 4 = true := inb_nI (by omega) (by decide)
    have j2 : (nI h).toNatClampNeg = h := cl_nI (by omega)
    have i1 : inb (nI s) 128 = true := inb_nI sb7 (by decide)
    have i2 : (nI s).toNatClampNeg = s := cl_nI (by omega)
    obtain ⟨x, hx, k1⟩ : ∃ x, (pcn s = pcn sd → x = nI (cwD D pr hr hs dk (hs - h) s)) ∧ ∀ r, (Rn sc (d + 7) 44 19 [.ref (21 : Nat), .ref (56 : Nat), .int (nI hs), .int (nI h), .int (nI s)] [] (cS f' g h1 h2) r ↔ Rn sc (d + 7) 44 19 [.ref (21 : Nat), .ref (56 : Nat), .int (nI hs), .int (nI h), .int (nI (s + 1))] [] (cS (u2 f' (35 + h) s x) g h1 h2) r) := by
      by_cases z : h < hs
      · by_cases y : pcn s = pcn sd
        · have k45 := fun d r => @s45 sc d r f' g h1 h2 n hr sd D h hs pr s (21 ^ 3) (fun q => cwD D pr hr hs dk (hs - h - 1) (flq s q)) C0 h3 z sn y (by decide) (fun q hq v => by
            obtain ⟨q1, q2⟩ := flq_ok cp n7 sn (by omega) (Or.inr v)
            have t := T1 z (flq s q) q1 (by rw [q2, y])
            unfold TWR at t
            rw [show 35 + (h + 1) = 36 + h by omega, show hs - (h + 1) = hs - h - 1 by omega] at t
            exact ⟨t, Nat.le_trans (cwR_b _ _) (Nat.pow_le_pow_right (by decide) (by omega))⟩)
          rw [← cwD_s z] at k45
          refine ⟨nI (cwD D pr hr hs dk (hs - h) s), fun _ => rfl, fun r => ?_⟩
          simp only [x44_19 (x4 := nI s), x44_21, x44_22, x44_25, x44_28, x44_29, x44_32, x44_33, x44_34, x44_36, x44_37, x44_38, x44_41, x44_42, x44_43, x44_44, x44_46, x44_49, x44_66, x44_67, x44_70, kp21, rf21_0, rp21_0, al22, iA22, iG22, rf21_1, rp21_1, al28, iA28, iG28, rf21_2, rp21_2, al34, iA34, iG34, rf21_3, rp21_3, al39, iA39, iG39, rf21_4, rp21_4, al44, iA44, iG44, al34, iA34, iG34, rf34_0, rp34_0, al35, iA35, it35, rf34_1, rp34_1, al36, iA36, it36, rf34_2, rp34_2, al37, iA37, it37, rf34_3, rp34_3, al38, iA38, it38, kp56, rf56_6, rp56_6, al57, iA57, it57, rf56_7, rp56_7, al58, iA58, it58, rf56_8, rp56_8, al59, iA59, it59, rf56_9, rp56_9, al60, iA60, it60, rf56_10, rp56_10, al61, iA61, it61, rf56_12, rp56_12, al62, iA62, it62, rf56_13, rp56_13, al63, iA63, it63, rf56_15, rp56_15, al64, iA64, it64, rf56_16, rp56_16, al65, iA65, it65, rf56_17, rp56_17, rf56_18, rp56_18, al66, iA66, it66, s8, c0, A, e1, e2, eq_true z, k45, u1, u2', u3, u4, u5, j1, j2, i1, i2, z1, bI_True, bI_False, nI_1, Nat.reduceLeDiff, Nat.reduceEqDiff, nb0, nb1, nbI, eq_self, ex_pr, tl_s, tl_n, if_true, if_false, not_true_eq_false, not_false_eq_true, and_self, and_false, false_and, and_true, true_and]
        · have k45 := fun d r => @s45n sc d r f' g h1 h2 n sd h s c4 n7 cs sn y
          refine ⟨0, fun e => absurd e y, fun r => ?_⟩
          simp only [x44_19 (x4 := nI s), x44_21, x44_22, x44_25, x44_28, x44_29, x44_32, x44_33, x44_34, x44_36, x44_37, x44_38, x44_41, x44_42, x44_43, x44_44, x44_46, x44_49, x44_66, x44_67, x44_70, kp21, rf21_0, rp21_0, al22, iA22, iG22, rf21_1, rp21_1, al28, iA28, iG28, rf21_2, rp21_2, al34, iA34, iG34, rf21_3, rp21_3, al39, iA39, iG39, rf21_4, rp21_4, al44, iA44, iG44, al34, iA34, iG34, rf34_0, rp34_0, al35, iA35, it35, rf34_1, rp34_1, al36, iA36, it36, rf34_2, rp34_2, al37, iA37, it37, rf34_3, rp34_3, al38, iA38, it38, kp56, rf56_6, rp56_6, al57, iA57, it57, rf56_7, rp56_7, al58, iA58, it58, rf56_8, rp56_8, al59, iA59, it59, rf56_9, rp56_9, al60, iA60, it60, rf56_10, rp56_10, al61, iA61, it61, rf56_12, rp56_12, al62, iA62, it62, rf56_13, rp56_13, al63, iA63, it63, rf56_15, rp56_15, al64, iA64, it64, rf56_16, rp56_16, al65, iA65, it65, rf56_17, rp56_17, rf56_18, rp56_18, al66, iA66, it66, s8, c0, A, e1, e2, eq_true z, k45, u1, u2', u3, u4, u5, j1, j2, i1, i2, z1, bI_True, bI_False, nI_1, Nat.reduceLeDiff, Nat.reduceEqDiff, nb0, nb1, nbI, eq_self, ex_pr, tl_s, tl_n, if_true, if_false, not_true_eq_false, not_false_eq_true, and_self, and_false, false_and, and_true, true_and]
      · have c3' : f' 56 3 = nI dk := by rw [E 56 (by omega)]; exact c3
        have e3 := @nI_eq s dk (by omega) (by omega)
        have eh : hs - h = 0 := by omega
        rw [eh]
        have cd : cwD D pr hr hs dk 0 s = if s = dk then 1 else 0 := rfl
        rw [cd]
        by_cases y : s = dk
        · refine ⟨1, fun _ => by rw [if_pos y]; rfl, fun r => ?_⟩
          simp only [x44_19 (x4 := nI s), x44_21, x44_22, x44_25, x44_28, x44_29, x44_32, x44_33, x44_34, x44_36, x44_37, x44_38, x44_52, x44_54, x44_55, x44_58, x44_61, x44_62, x44_66, x44_67, x44_70, kp21, rf21_0, rp21_0, al22, iA22, iG22, rf21_1, rp21_1, al28, iA28, iG28, rf21_2, rp21_2, al34, iA34, iG34, rf21_3, rp21_3, al39, iA39, iG39, rf21_4, rp21_4, al44, iA44, iG44, al34, iA34, iG34, rf34_0, rp34_0, al35, iA35, it35, rf34_1, rp34_1, al36, iA36, it36, rf34_2, rp34_2, al37, iA37, it37, rf34_3, rp34_3, al38, iA38, it38, kp56, rf56_6, rp56_6, al57, iA57, it57, rf56_7, rp56_7, al58, iA58, it58, rf56_8, rp56_8, al59, iA59, it59, rf56_9, rp56_9, al60, iA60, it60, rf56_10, rp56_10, al61, iA61, it61, rf56_12, rp56_12, al62, iA62, it62, rf56_13, rp56_13, al63, iA63, it63, rf56_15, rp56_15, al64, iA64, it64, rf56_16, rp56_16, al65, iA65, it65, rf56_17, rp56_17, rf56_18, rp56_18, al66, iA66, it66, s8, c0, A, e1, e2, eq_false z, c3', e3, eq_true y, u1, u2', u3, u4, u5, j1, j2, i1, i2, z1, bI_True, bI_False, nI_1, Nat.reduceLeDiff, Nat.reduceEqDiff, nb0, nb1, nbI, eq_self, ex_pr, tl_s, tl_n, if_true, if_false, not_true_eq_false, not_false_eq_true, and_self, and_false, false_and, and_true, true_and]
        · refine ⟨0, fun _ => by rw [if_neg y]; rfl, fun r => ?_⟩
          simp only [x44_19 (x4 := nI s), x44_21, x44_22, x44_25, x44_28, x44_29, x44_32, x44_33, x44_34, x44_36, x44_37, x44_38, x44_52, x44_54, x44_55, x44_58, x44_65, x44_66, x44_67, x44_70, kp21, rf21_0, rp21_0, al22, iA22, iG22, rf21_1, rp21_1, al28, iA28, iG28, rf21_2, rp21_2, al34, iA34, iG34, rf21_3, rp21_3, al39, iA39, iG39, rf21_4, rp21_4, al44, iA44, iG44, al34, iA34, iG34, rf34_0, rp34_0, al35, iA35, it35, rf34_1, rp34_1, al36, iA36, it36, rf34_2, rp34_2, al37, iA37, it37, rf34_3, rp34_3, al38, iA38, it38, kp56, rf56_6, rp56_6, al57, iA57, it57, rf56_7, rp56_7, al58, iA58, it58, rf56_8, rp56_8, al59, iA59, it59, rf56_9, rp56_9, al60, iA60, it60, rf56_10, rp56_10, al61, iA61, it61, rf56_12, rp56_12, al62, iA62, it62, rf56_13, rp56_13, al63, iA63, it63, rf56_15, rp56_15, al64, iA64, it64, rf56_16, rp56_16, al65, iA65, it65, rf56_17, rp56_17, rf56_18, rp56_18, al66, iA66, it66, s8, c0, A, e1, e2, eq_false z, c3', e3, eq_false y, u1, u2', u3, u4, u5, j1, j2, i1, i2, z1, bI_True, bI_False, nI_1, Nat.reduceLeDiff, Nat.reduceEqDiff, nb0, nb1, nbI, eq_self, ex_pr, tl_s, tl_n, if_true, if_false, not_true_eq_false, not_false_eq_true, and_self, and_false, false_and, and_true, true_and]
    have U : ∀ q, q ≠ 35 + h → u2 f' (35 + h) s x q = f' q := fun q hq => u2_n hq
    obtain ⟨f3, F3, G3, k3⟩ := l44s h3 hh c3 hdk k (s + 1) (u2 f' (35 + h) s x) (C0.fr (fun q hq => U q (by omega)) (by omega)) (fun q hq => (U q (by omega)).trans (E q hq)) (fun z s' a b => by
        have := T1 z s' a b
        unfold TWR at this ⊢
        rw [U _ (by omega)]
        exact this) (fun s' a b => by
        unfold TWR
        by_cases w : s' = s
        · subst w
          rw [u2_ss]
          exact hx b
        · rw [u2_nn (by omega)]
          exact T0 s' (by omega) b) (by omega)
    exact ⟨f3, fun q hq => (F3 q hq).trans (U q hq), G3, fun r => (k1 r).trans (k3 r)⟩
def rsQ (h q : Nat) : Prop := 35 ≤ q ∧ q ≤ 35 + h
theorem l44 {hs pr : Nat} (h3 : hs ≤ 3) (c3 : f 56 3 = nI dk) (hdk : dk < 2 ^ n) : ∀ (h : Nat) (f' : Nat → Nat → Int32) (v5 : Value), h ≤ hs → LC f' h1 D n hr hs pr sd → (∀ q, (45 ≤ q ∧ q ≤ 101) → f' q = f q) → (h < hs → ∀ s', s' < 2 ^ n → pcn s' = pcn sd → TWR f' (cwD D pr hr hs dk) hs (h + 1) s') → ∃ f2, (∀ q, ¬ rsQ h q → f2 q = f' q) ∧ (∀ h', h' ≤ h → ∀ s', s' < 2 ^ n → pcn s' = pcn sd → TWR f2 (cwD D pr hr hs dk) hs h' s') ∧ ∀ r, (Rn sc (d + 7) 44 12 [.ref (21 : Nat), .ref (56 : Nat), .int (nI hs), .int (nI h), v5] [] (cS f' g h1 h2) r ↔ r = (cS f2 g h1 h2, none))
  | 0, f', v5, hh, C, E, T1 => by
    obtain ⟨f2, F2, G2, k2⟩ := @l44s sc d f g h1 h2 n hr dk sd D hs 0 pr h3 hh c3 hdk (2 ^ n) 0 f' C E T1 (fun s' a => absurd a (by omega)) (Nat.zero_add _)
    refine ⟨f2, fun q hq => F2 q (fun w => hq (by unfold rsQ; omega)), fun h' a => by rw [show h' = 0 by omega]; exact G2, fun r => ?_⟩
    have e1 : ¬ nI 0 < 0 := by decide
    have e2 : nI 0 + (-1) < 0 := by decide
    rw [lt0] at k2 e1 e2 ⊢
    simp only [x44_12 (x3 := 0), x44_13, x44_16, x44_17, e1, k2, x44_73, x44_76, bI_True, bI_False, nI_1, Nat.reduceLeDiff, Nat.reduceEqDiff, nb0, nb1, nbI, eq_self, ex_pr, tl_s, tl_n, if_true, if_false, not_true_eq_false, not_false_eq_true, and_self, and_false, false_and, and_true, true_and]
    simp only [x44_12 (x3 := 0 + (-1)), x44_13, x44_79, e2, bI_True, bI_False, nI_1, Nat.reduceLeDiff, Nat.reduceEqDiff, nb0, nb1, nbI, eq_self, ex_pr, tl_s, tl_n, if_true, if_false, not_true_eq_false, not_false_eq_true, and_self, and_false, false_and, and_true, true_and]
  | h + 1, f', v5, hh, C, E, T1 => by
    obtain ⟨f2, F2, G2, k2⟩ := @l44s sc d f g h1 h2 n hr dk sd D hs (h + 1) pr h3 hh c3 hdk (2 ^ n) 0 f' C E T1 (fun s' a => absurd a (by omega)) (Nat.zero_add _)
    obtain ⟨f3, F3, G3, k3⟩ := l44 h3 c3 hdk h f2 (.int (nI (2 ^ n))) (by omega) (C.fr (fun q hq => F2 q (by omega)) (by omega)) (fun q hq => (F2 q (by omega)).trans (E q hq)) (fun _ => G2)
    have e1 : ¬ nI (h + 1) < 0 := nI_pos (by omega)
    have e2 : nI (h + 1) + (-1) = nI h := by
      rw [show (-1 : Int32) = iI (-1) from rfl, iI_N, iI_add, iI_N]
      congr 1
      omega
    rw [lt0] at k2
    refine ⟨f3, fun q hq => (F3 q (fun w => hq (by unfold rsQ at w ⊢; omega))).trans (F2 q (fun w => hq (by unfold rsQ; omega))), fun h' a s' b c => ?_, fun r => ?_⟩
    · by_cases w : h' ≤ h
      · exact G3 h' w s' b c
      · have e : h' = h + 1 := by omega
        subst e
        have := G2 s' b c
        unfold TWR at this ⊢
        rw [F3 _ (by unfold rsQ; omega)]
        exact this
    · rw [← k3 r]
      simp only [x44_12 (x3 := nI (h + 1)), x44_13, x44_16, x44_17, e1, k2, x44_73, e2, x44_76, bI_True, bI_False, nI_1, Nat.reduceLeDiff, Nat.reduceEqDiff, nb0, nb1, nbI, eq_self, ex_pr, tl_s, tl_n, if_true, if_false, not_true_eq_false, not_false_eq_true, and_self, and_false, false_and, and_true, true_and]
/-- countRows -/
theorem s44 {hs : Nat} (h3 : hs ≤ 3) (C : CY f h1 D n sd hr) (c3 : f 56 3 = nI dk) (hdk : dk < 2 ^ n) : ∃ f', Fq f f' ∧ LC f' h1 D n hr hs (2 ^ n - 1) sd ∧ (∀ h', h' ≤ hs → ∀ s', s' < 2 ^ n → pcn s' = pcn sd → TWR f' (cwD D (2 ^ n - 1) hr hs dk) hs h' s') ∧ ∀ r, Cl sc (d + 8) 44 [.ref (21 : Nat), .ref (56 : Nat), .int (nI hs)] (cS f g h1 h2) r ↔ r = (cS f' g h1 h2, none) := by
  have n7 := C.2.1
  have A := all_of n7
  have c0 := C.2.2.1
  have p0 := Nat.two_pow_pos n
  obtain ⟨f1, E, e5, P, k⟩ := @s33 sc (d + 1) f g h1 h2 n hr sd D hs (2 ^ n - 1) (by omega) C
  have F : Fq f f1 := fun q j hq => E q j (fun w => hq (by unfold lkq at w; unfold scq; omega))
  have C1 : LC f1 h1 D n hr hs (2 ^ n - 1) sd := by
    obtain ⟨ce, n7, c0, c4, c1, b4, b1⟩ := C
    refine ⟨P, ce.fr (fun q hq => funext fun j => F q j (by unfold scq; omega)), n7, e5, by omega, ?_, b4, ?_⟩
    · rw [F 56 4 (by unfold scq; omega)]
      exact c4
    · rw [F 56 0 (by unfold scq; omega)]
      exact c0
  have c3' : f1 56 3 = nI dk := by
    rw [F 56 3 (by unfold scq; omega)]
    exact c3
  obtain ⟨f2, F2, G2, k2⟩ := @l44 sc d f1 g h1 h2 n hr dk sd D hs (2 ^ n - 1) h3 c3' hdk hs f1 mk0 (Nat.le_refl _) C1 (fun _ _ => rfl) (fun h => absurd h (by omega))
  refine ⟨f2, F.trans fun q j hq => by rw [F2 q (fun w => hq (by unfold rsQ at w; unfold scq; omega))], C1.fr (fun q hq => F2 q (by unfold rsQ; omega)) (by omega), G2, fun r => ?_⟩
  simp only [c44, x44_0, x44_1, x44_2, x44_3, x44_4, x44_7, x44_10, x44_11, kp21, rf21_0, rp21_0, al22, iA22, iG22, rf21_1, rp21_1, al28, iA28, iG28, rf21_2, rp21_2, al34, iA34, iG34, rf21_3, rp21_3, al39, iA39, iG39, rf21_4, rp21_4, al44, iA44, iG44, kp56, rf56_6, rp56_6, al57, iA57, it57, rf56_7, rp56_7, al58, iA58, it58, rf56_8, rp56_8, al59, iA59, it59, rf56_9, rp56_9, al60, iA60, it60, rf56_10, rp56_10, al61, iA61, it61, rf56_12, rp56_12, al62, iA62, it62, rf56_13, rp56_13, al63, iA63, it63, rf56_15, rp56_15, al64, iA64, it64, rf56_16, rp56_16, al65, iA65, it65, rf56_17, rp56_17, rf56_18, rp56_18, al66, iA66, it66, s8, c0, A, k, k2, bI_True, bI_False, nI_1, Nat.reduceLeDiff, Nat.reduceEqDiff, nb0, nb1, nbI, eq_self, ex_pr, tl_s, tl_n, if_true, if_false, not_true_eq_false, not_false_eq_true, and_self, and_false, false_and, and_true, true_and]
/-- firstPair -/
theorem l46 {hs pr B : Nat} {w : Nat → Nat} (C : LC f h1 D n hr hs pr sd) (h3 : hs ≤ 3) (hh : 0 < hs) (hB : B ≤ 10000) (Tn : ∀ q, q < 21 → VD D pr sd hr q = true → f 36 (flq sd q) = nI (w q) ∧ w q ≤ B) : ∀ (k p : Nat), p + k = 21 → (Rn sc (d + 5) 46 19 [.ref (21 : Nat), .ref (56 : Nat), .int (nI hs), .int (nI p)] [] (cS f g h1 h2) r ↔ r = (cS f g h1 h2, some (.int (nI (nuO (fsq (VD D pr sd hr) w (fun q => q) k p 21))))))
  | 0, p, hp => by
    have e : p = 21 := hp
    subst e
    have e0 : (0 : Int32) < nI hs := by
      rw [← lt0, nI_ltI (by decide) (by omega)]
      exact hh
    have e1 : ¬ nI 21 < 21 := by decide
    have e99 : nI (nuO 21) = 99 := by decide
    show _ ↔ r = (cS f g h1 h2, some (.int (nI (nuO 21))))
    rw [e99]
    simp only [x46_19 (x2 := nI hs), x46_20, x46_23, x46_24, x46_26, x46_73, x46_75, e0, e1, bI_True, bI_False, nI_1, Nat.reduceLeDiff, Nat.reduceEqDiff, nb0, nb1, nbI, eq_self, ex_pr, tl_s, tl_n, if_true, if_false, not_true_eq_false, not_false_eq_true, and_self, and_false, false_and, and_true, true_and]
  | k + 1, p, hp => by
    have C0 := C
    obtain ⟨P, ce, n7, c21, cp, c4, cs, c0⟩ := C
    have sb7 := go_lt n7 cs
    have e0 : (0 : Int32) < nI hs := by
      rw [← lt0, nI_ltI (by decide) (by omega)]
      exact hh
    have e1 : nI p < 21 := nI_lt (show p < 21 by omega) (by decide)
    have z1 : nI p + 1 = nI (p + 1) := by rw [← lt1, nI_add]
    have k38 := fun d r => @s38 sc d r f g h1 h2 n hr D 0 p sd hs pr P ce hh (by omega) (by omega) n7 sb7 c21 cp
    rw [lt0, Nat.add_zero] at k38
    have st : fsq (VD D pr sd hr) w (fun q => q) (k + 1) p 21 = if VD D pr sd hr p = true ∧ 0 < w p then p else fsq (VD D pr sd hr) w (fun q => q) k (p + 1) 21 := rfl
    have k2 := l46 C0 h3 hh hB Tn k (p + 1) (by omega)
    rw [st]
    by_cases y : VD D pr sd hr p = true
    · obtain ⟨t1, t2⟩ := Tn p (by omega) y
      obtain ⟨q1, q2⟩ := flq_ok cp n7 cs (by omega) (Or.inr y)
      have f7 := go_lt n7 q1
      have i1 : inb (nI (flq sd p)) 128 = true := inb_nI f7 (by decide)
      have i2 : (nI (flq sd p)).toNatClampNeg = flq sd p := cl_nI (by omega)
      have j1 : inb 1 4 = true := by decide
      have j2 : (1 : Int32).toNatClampNeg = 1 := by decide
      have k34 := fun d r => @s34 sc d r f g h1 h2 p (by omega)
      have k35 := fun d r => @s35 sc d r f g h1 h2 p (by omega)
      have t5 : nI sd ^^^ nI (pbt p) = nI (flq sd p) := nI_xor _ _
      have e3 := @nI_ltI 0 (w p) (by decide) (by omega)
      rw [lt0] at e3
      by_cases x : 0 < w p
      · rw [if_pos ⟨y, x⟩]
        simp only [x46_19 (a3 := .int (nI p)), x46_20, x46_23, x46_24, x46_26, x46_29, x46_30, x46_31, x46_32, x46_33, x46_36, x46_37, x46_40, x46_43, x46_44, x46_47, x46_48, x46_49, x46_50, x46_53, x46_54, x46_57, x46_58, x46_59, x46_62, x46_63, x46_66, kp21, rf21_0, rp21_0, al22, iA22, iG22, rf21_1, rp21_1, al28, iA28, iG28, rf21_2, rp21_2, al34, iA34, iG34, rf21_3, rp21_3, al39, iA39, iG39, rf21_4, rp21_4, al44, iA44, iG44, al34, iA34, iG34, rf34_0, rp34_0, al35, iA35, it35, rf34_1, rp34_1, al36, iA36, it36, rf34_2, rp34_2, al37, iA37, it37, rf34_3, rp34_3, al38, iA38, it38, al36, iA36, it36, kp56, rf56_6, rp56_6, al57, iA57, it57, rf56_7, rp56_7, al58, iA58, it58, rf56_8, rp56_8, al59, iA59, it59, rf56_9, rp56_9, al60, iA60, it60, rf56_10, rp56_10, al61, iA61, it61, rf56_12, rp56_12, al62, iA62, it62, rf56_13, rp56_13, al63, iA63, it63, rf56_15, rp56_15, al64, iA64, it64, rf56_16, rp56_16, al65, iA65, it65, rf56_17, rp56_17, rf56_18, rp56_18, al66, iA66, it66, e0, e1, c4, k38, bI_t y, zi1, j1, j2, k34, t5, i1, i2, t1, e3, eq_true x, k35, bI_True, bI_False, nI_1, Nat.reduceLeDiff, Nat.reduceEqDiff, nb0, nb1, nbI, eq_self, ex_pr, tl_s, tl_n, if_true, if_false, not_true_eq_false, not_false_eq_true, and_self, and_false, false_and, and_true, true_and]
      · rw [if_neg (fun h => x h.2), ← k2]
        simp only [x46_19 (a3 := .int (nI p)), x46_20, x46_23, x46_24, x46_26, x46_29, x46_30, x46_31, x46_32, x46_33, x46_36, x46_37, x46_40, x46_43, x46_44, x46_47, x46_48, x46_49, x46_50, x46_53, x46_54, x46_57, x46_58, x46_59, x46_67, x46_70, kp21, rf21_0, rp21_0, al22, iA22, iG22, rf21_1, rp21_1, al28, iA28, iG28, rf21_2, rp21_2, al34, iA34, iG34, rf21_3, rp21_3, al39, iA39, iG39, rf21_4, rp21_4, al44, iA44, iG44, al34, iA34, iG34, rf34_0, rp34_0, al35, iA35, it35, rf34_1, rp34_1, al36, iA36, it36, rf34_2, rp34_2, al37, iA37, it37, rf34_3, rp34_3, al38, iA38, it38, al36, iA36, it36, kp56, rf56_6, rp56_6, al57, iA57, it57, rf56_7, rp56_7, al58, iA58, it58, rf56_8, rp56_8, al59, iA59, it59, rf56_9, rp56_9, al60, iA60, it60, rf56_10, rp56_10, al61, iA61, it61, rf56_12, rp56_12, al62, iA62, it62, rf56_13, rp56_13, al63, iA63, it63, rf56_15, rp56_15, al64, iA64, it64, rf56_16, rp56_16, al65, iA65, it65, rf56_17, rp56_17, rf56_18, rp56_18, al66, iA66, it66, e0, e1, c4, k38, bI_t y, zi1, j1, j2, k34, t5, i1, i2, t1, e3, eq_false x, z1, bI_True, bI_False, nI_1, Nat.reduceLeDiff, Nat.reduceEqDiff, nb0, nb1, nbI, eq_self, ex_pr, tl_s, tl_n, if_true, if_false, not_true_eq_false, not_false_eq_true, and_self, and_false, false_and, and_true, true_and]
    · rw [if_neg (fun h => y h.1), ← k2]
      simp only [x46_19 (a3 := .int (nI p)), x46_20, x46_23, x46_24, x46_26, x46_29, x46_30, x46_31, x46_32, x46_33, x46_36, x46_37, x46_40, x46_67, x46_70, kp21, rf21_0, rp21_0, al22, iA22, iG22, rf21_1, rp21_1, al28, iA28, iG28, rf21_2, rp21_2, al34, iA34, iG34, rf21_3, rp21_3, al39, iA39, iG39, rf21_4, rp21_4, al44, iA44, iG44, kp56, rf56_6, rp56_6, al57, iA57, it57, rf56_7, rp56_7, al58, iA58, it58, rf56_8, rp56_8, al59, iA59, it59, rf56_9, rp56_9, al60, iA60, it60, rf56_10, rp56_10, al61, iA61, it61, rf56_12, rp56_12, al62, iA62, it62, rf56_13, rp56_13, al63, iA63, it63, rf56_15, rp56_15, al64, iA64, it64, rf56_16, rp56_16, al65, iA65, it65, rf56_17, rp56_17, rf56_18, rp56_18, al66, iA66, it66, e0, e1, c4, k38, bI_f y, z1, bI_True, bI_False, nI_1, Nat.reduceLeDiff, Nat.reduceEqDiff, nb0, nb1, nbI, eq_self, ex_pr, tl_s, tl_n, if_true, if_false, not_true_eq_false, not_false_eq_true, and_self, and_false, false_and, and_true, true_and]
end RC
