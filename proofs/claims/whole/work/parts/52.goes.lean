/-! whether a run goes, by the class -/
def lst (w : Nat) : aH → Nat → Nat
  | [], a => a
  | (v, n, _) :: H, a => lst w H (if v = w then n else a)
def ndH (H : aH) : Nat := lst 2 H 1
def rpH (H : aH) : Nat := 10 * lst 3 H 99
theorem lst_le {w : Nat} : ∀ {H : aH} {a : Nat}, WFH H → a ≤ 99 → lst w H a ≤ 99
  | [], a, _, h => h
  | (v, n, ts) :: H, a, hw, h => by
    refine @lst_le w H (if v = w then n else a) (fun c hc => hw c (List.mem_cons_of_mem _ hc)) ?_
    have b : n ≤ 99 := (hw _ List.mem_cons_self).2.1
    split <;> omega
def bt (b k : Nat) : Nat := b / 2 ^ k % 2
theorem bt_lt (b k : Nat) : bt b k < 2 := Nat.mod_lt _ (by decide)
def GO (D : aD) (a b sd hr : Nat) : Bool := decide (bt sd a ≠ bt sd b) && BE (ndH (dH D)) (rpH (dH D)) (PU D a (bt sd a) hr) (PU D b (bt sd b) hr)
def CE (f : Nat → Nat → Int32) (o : Nat) (D : aD) (n : Nat) : Prop := CD f o D n ∧ f o 0 = nI (ndH (dH D)) ∧ f o 1 = nI (rpH (dH D))
/-- only what pullAt puts down may be otherwise -/
def Sc (f f' : Nat → Nat → Int32) : Prop := ∀ q, q ≠ 66 → f' q = f q
theorem Sc.refl {f : Nat → Nat → Int32} : Sc f f := fun _ _ => rfl
theorem Sc.trans {f f' f2 : Nat → Nat → Int32} (a : Sc f f') (b : Sc f' f2) : Sc f f2 := fun q h => (b q h).trans (a q h)
theorem Sc.wr {f : Nat → Nat → Int32} {fc : Nat → Nat} : Sc f (wr6 f fc) := fun _ h => wr6_n h
theorem CE.fr {f f' : Nat → Nat → Int32} {o n : Nat} {D : aD} (c : CE f o D n) (h : ∀ q, (57 ≤ q ∧ q ≤ 61 ∧ q ≠ 60) ∨ 52 ≤ q ∧ q ≤ 55 ∨ 78 ≤ q ∧ q ≤ 101 → f' q = f q) : CE f' o D n := by
  have hb : 52 ≤ o ∧ o ≤ 52 ∨ 78 ≤ o ∧ o ≤ 98 := by
    rcases c.1.2.1 with rfl | ⟨t, ht, rfl⟩ <;> omega
  exact ⟨c.1.fr h, by rw [h o (by omega)]; exact c.2.1, by rw [h o (by omega)]; exact c.2.2⟩
theorem CE.sc {f f' : Nat → Nat → Int32} {o n : Nat} {D : aD} (c : CE f o D n) (h : Sc f f') : CE f' o D n := c.fr fun q hq => h q (by omega)
theorem CE.nd {f : Nat → Nat → Int32} {o n : Nat} {D : aD} (c : CE f o D n) : ndH (dH D) ≤ 99 ∧ rpH (dH D) ≤ 990 := by
  have w := c.1.1.2.2.2.1
  have a := @lst_le 2 (dH D) 1 w (by decide)
  have b := @lst_le 3 (dH D) 99 w (by decide)
  unfold ndH rpH
  omega
section GS
variable {sc : aSc} {d : Nat} {r : aRes} {f : Nat → Nat → Int32} {g : Nat → Nat → Int64} {o h2 : Nat} {σ : aS} {D : aD} {n : Nat}
theorem bit_bt {b k : Nat} (hb : b < 2147483648) (hk : k < 32) : (nI b >>> (nI k &&& 31)) &&& 1 = nI (bt b k) := bit_of hb hk
theorem s15 {s sd hr : Nat} (C : CE f o D n) (hs : s < n) (h4 : f 56 4 = nI sd) (h1 : f 56 1 = nI hr) (hsd : sd < 128) (hh : hr < 2147483648) : Cl sc (d + 5) 15 [.ref (56 : Nat), .int (nI s)] (cS f g o h2) r ↔ r = (cS (wr6 f (fct D s (bt sd s) hr)) g o h2, some (.int (nI (PU D s (bt sd s) hr)))) := by
  have n7 : n ≤ 7 := C.1.1.1
  have b1 := @bit_bt sd s (by omega) (by omega)
  have b2 := bt_lt sd s
  have h16 := fun d r => @s16 sc d r f g o h2 D n s (bt sd s) hr C.1 hs (by omega) hh
  simp only [c15, x15_0, x15_1, x15_2, x15_3, x15_4, x15_7, x15_8, x15_11, x15_14, kp56, rf56_6, rp56_6, al57, iA57, it57, rf56_7, rp56_7, al58, iA58, it58, rf56_8, rp56_8, al59, iA59, it59, rf56_9, rp56_9, al60, iA60, it60, rf56_10, rp56_10, al61, iA61, it61, rf56_12, rp56_12, al62, iA62, it62, rf56_13, rp56_13, al63, iA63, it63, rf56_15, rp56_15, al64, iA64, it64, rf56_16, rp56_16, al65, iA65, it65, rf56_17, rp56_17, rf56_18, rp56_18, al66, iA66, it66, s13, h4, h1, b1, h16, bI_True, bI_False, nI_1, Nat.reduceLeDiff, Nat.reduceEqDiff, nb0, nb1, nbI, eq_self, ex_pr, tl_s, tl_n, if_true, if_false, not_true_eq_false, not_false_eq_true, and_self, and_false, false_and, and_true, true_and]
theorem s14n {a b sd : Nat} (ha : a < 7) (hb : b < 7) (hsd : sd < 2147483648) : Cl sc (d + 1) 14 [.ref (56 : Nat), .int (nI a), .int (nI b), .int (nI sd)] σ r ↔ r = (σ, some (.int (bI (bt sd a ≠ bt sd b)))) := by
  have b1 := @bit_bt sd a hsd (by omega)
  have b2 := @bit_bt sd b hsd (by omega)
  have x1 := bt_lt sd a
  have x2 := bt_lt sd b
  have e := @nI_eq (bt sd a) (bt sd b) (by omega) (by omega)
  rw [s14]
  simp only [b1, b2, e, ne_eq]
theorem s18 {a b sd hr : Nat} (C : CE f o D n) (ha : a < n) (hb : b < n) (hsd : sd < 2147483648) (hh : hr < 2147483648) : Cl sc (d + 5) 18 [.ref (56 : Nat), .int (nI a), .int (nI b), .int (nI sd), .int (nI hr)] (cS f g o h2) r ↔ r = (cS (wr6 f (fct D b (bt sd b) hr)) g o h2, some (.int (nI (PU D a (bt sd a) hr + PU D b (bt sd b) hr)))) := by
  have n7 : n ≤ 7 := C.1.1.1
  have b1 := @bit_bt sd a (by omega) (by omega)
  have b2 := @bit_bt sd b (by omega) (by omega)
  have x1 := bt_lt sd a
  have x2 := bt_lt sd b
  have ha16 := fun d r => @s16 sc d r f g o h2 D n a (bt sd a) hr C.1 ha (by omega) hh
  have hb16 := fun d r => @s16 sc d r (wr6 f (fct D a (bt sd a) hr)) g o h2 D n b (bt sd b) hr C.1.wr hb (by omega) hh
  simp only [c18, x18_0, x18_1, x18_2, x18_3, x18_4, x18_5, x18_6, x18_7, x18_9, x18_12, x18_13, x18_14, x18_15, x18_16, x18_17, x18_18, x18_19, x18_21, x18_24, x18_25, b1, b2, ha16, hb16, kp56, wr6_2, nI_add, bI_True, bI_False, nI_1, Nat.reduceLeDiff, Nat.reduceEqDiff, nb0, nb1, nbI, eq_self, ex_pr, tl_s, tl_n, if_true, if_false, not_true_eq_false, not_false_eq_true, and_self, and_false, false_and, and_true, true_and]
theorem s19 {a b sd hr : Nat} (C : CE f o D n) (ha : a < n) (hb : b < n) (hsd : sd < 2147483648) (hh : hr < 2147483648) : ∃ f', Sc f f' ∧ ∀ r, Cl sc (d + 5) 19 [.ref (56 : Nat), .int (nI a), .int (nI b), .int (nI sd), .int (nI hr)] (cS f g o h2) r ↔ r = (cS f' g o h2, some (.int (bI (GO D a b sd hr = true)))) := by
  have n7 : n ≤ 7 := C.1.1.1
  have b1 := @bit_bt sd a (by omega) (by omega)
  have b2 := @bit_bt sd b (by omega) (by omega)
  have x1 := bt_lt sd a
  have x2 := bt_lt sd b
  have ha16 := fun d r => @s16 sc d r f g o h2 D n a (bt sd a) hr C.1 ha (by omega) hh
  have hb16 := fun d r => @s16 sc d r (wr6 f (fct D a (bt sd a) hr)) g o h2 D n b (bt sd b) hr C.1.wr hb (by omega) hh
  have p1 := PU_le C.1.1 ha (bt sd a) hr
  have p2 := PU_le C.1.1 hb (bt sd b) hr
  have nd := C.nd
  have C2 : CE (wr6 f (fct D b (bt sd b) hr)) o D n := C.sc Sc.wr
  have h31 := fun d r => @s31 sc d r (wr6 f (fct D b (bt sd b) hr)) g o h2 o (ndH (dH D)) (rpH (dH D)) (PU D a (bt sd a) hr) (PU D b (bt sd b) hr) C.1.2.1.f C2.2.1 C2.2.2 (by omega) (by omega) (by omega) (by omega)
  have h14 := fun d r => @s14n sc d r (cS f g o h2) a b sd (by omega) (by omega) hsd
  have HL := C.1.2.1.f
  by_cases z : bt sd a = bt sd b
  · refine ⟨f, Sc.refl, fun r => ?_⟩
    have z2 : ¬ bt sd a ≠ bt sd b := fun e => e z
    have z3 : ¬ (GO D a b sd hr = true) := by
      unfold GO
      rw [decide_eq_false z2, Bool.false_and]
      exact Bool.false_ne_true
    simp only [c19, x19_0, x19_1, x19_2, x19_3, x19_4, x19_7, x19_10, x19_11, x19_14, x19_15, x19_16, x19_17, x19_18, x19_19, x19_20, x19_21, x19_23, x19_26, x19_27, x19_28, x19_29, x19_30, x19_31, x19_32, x19_33, x19_35, x19_38, x19_41, x19_44, x19_45, x19_48, x19_49, kp56, rf56_6, rp56_6, al57, iA57, it57, rf56_7, rp56_7, al58, iA58, it58, rf56_8, rp56_8, al59, iA59, it59, rf56_9, rp56_9, al60, iA60, it60, rf56_10, rp56_10, al61, iA61, it61, rf56_12, rp56_12, al62, iA62, it62, rf56_13, rp56_13, al63, iA63, it63, rf56_15, rp56_15, al64, iA64, it64, rf56_16, rp56_16, al65, iA65, it65, rf56_17, rp56_17, rf56_18, rp56_18, al66, iA66, it66, HL.k, h14, bI_f z2, bI_f z3, bI_True, bI_False, nI_1, Nat.reduceLeDiff, Nat.reduceEqDiff, nb0, nb1, nbI, eq_self, ex_pr, tl_s, tl_n, if_true, if_false, not_true_eq_false, not_false_eq_true, and_self, and_false, false_and, and_true, true_and]
  · refine ⟨wr6 f (fct D b (bt sd b) hr), Sc.wr, fun r => ?_⟩
    have z3 : GO D a b sd hr = BE (ndH (dH D)) (rpH (dH D)) (PU D a (bt sd a) hr) (PU D b (bt sd b) hr) := by
      unfold GO
      rw [decide_eq_true z, Bool.true_and]
    rw [z3]
    by_cases y : BE (ndH (dH D)) (rpH (dH D)) (PU D a (bt sd a) hr) (PU D b (bt sd b) hr) = true
    · simp only [c19, x19_0, x19_1, x19_2, x19_3, x19_4, x19_7, x19_10, x19_11, x19_14, x19_15, x19_16, x19_17, x19_18, x19_19, x19_20, x19_21, x19_23, x19_26, x19_27, x19_28, x19_29, x19_30, x19_31, x19_32, x19_33, x19_35, x19_38, x19_41, x19_44, x19_45, x19_48, x19_49, kp56, rf56_6, rp56_6, al57, iA57, it57, rf56_7, rp56_7, al58, iA58, it58, rf56_8, rp56_8, al59, iA59, it59, rf56_9, rp56_9, al60, iA60, it60, rf56_10, rp56_10, al61, iA61, it61, rf56_12, rp56_12, al62, iA62, it62, rf56_13, rp56_13, al63, iA63, it63, rf56_15, rp56_15, al64, iA64, it64, rf56_16, rp56_16, al65, iA65, it65, rf56_17, rp56_17, rf56_18, rp56_18, al66, iA66, it66, HL.k, h14, bI_t z, b1, b2, ha16, hb16, wr6_2, h31, bI_t y, show ¬ ((1 : Int32) = 0) by decide, bI_True, bI_False, nI_1, Nat.reduceLeDiff, Nat.reduceEqDiff, nb0, nb1, nbI, eq_self, ex_pr, tl_s, tl_n, if_true, if_false, not_true_eq_false, not_false_eq_true, and_self, and_false, false_and, and_true, true_and]
    · simp only [c19, x19_0, x19_1, x19_2, x19_3, x19_4, x19_7, x19_10, x19_11, x19_14, x19_15, x19_16, x19_17, x19_18, x19_19, x19_20, x19_21, x19_23, x19_26, x19_27, x19_28, x19_29, x19_30, x19_31, x19_32, x19_33, x19_35, x19_38, x19_41, x19_44, x19_45, x19_48, x19_49, kp56, rf56_6, rp56_6, al57, iA57, it57, rf56_7, rp56_7, al58, iA58, it58, rf56_8, rp56_8, al59, iA59, it59, rf56_9, rp56_9, al60, iA60, it60, rf56_10, rp56_10, al61, iA61, it61, rf56_12, rp56_12, al62, iA62, it62, rf56_13, rp56_13, al63, iA63, it63, rf56_15, rp56_15, al64, iA64, it64, rf56_16, rp56_16, al65, iA65, it65, rf56_17, rp56_17, rf56_18, rp56_18, al66, iA66, it66, HL.k, h14, bI_t z, b1, b2, ha16, hb16, wr6_2, h31, bI_f y, show ¬ ((1 : Int32) = 0) by decide, bI_True, bI_False, nI_1, Nat.reduceLeDiff, Nat.reduceEqDiff, nb0, nb1, nbI, eq_self, ex_pr, tl_s, tl_n, if_true, if_false, not_true_eq_false, not_false_eq_true, and_self, and_false, false_and, and_true, true_and]
end GS
