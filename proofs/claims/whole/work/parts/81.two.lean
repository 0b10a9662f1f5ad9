/-! two ropes: the class -/
def GM (f : Nat → Nat → Int32) (W : Nat → Nat) (gb n : Nat) : Prop := ∀ s, s < n → f 118 s = nI (bt gb s) ∧ f 119 s = nI (W s) ∧ W s ≤ 99
theorem dj_o : ∀ p, p < 21 → ∀ q, q < 21 → o1 p < o1 q → (pbt p &&& pbt q = 0 ↔ (o1 q ≠ o2 p ∧ o2 q ≠ o2 p)) := by decide +kernel
theorem dj_s : ∀ p, p < 21 → ∀ q, q < 21 → p < q ∧ q < off (o1 p + 1) → ¬ pbt p &&& pbt q = 0 := by decide +kernel
theorem VD_all {D : aD} {n s hx q : Nat} (hq : q < 21) (h : o2 q < n) : VD D (2 ^ n - 1) s hx q = GO D (o1 q) (o2 q) s hx := by
  have o := o12 q hq
  have e : bt (2 ^ n - 1) (o1 q) = 1 ∧ bt (2 ^ n - 1) (o2 q) = 1 := by
    rw [bt1, bt1, tb_all, tb_all]
    exact ⟨decide_eq_true (by omega), decide_eq_true h⟩
  unfold VD
  rw [decide_eq_true hq, decide_eq_true e, Bool.true_and, Bool.true_and]
/-- how much more GAIN is behind both runs -/
def dlt (W : Nat → Nat) (n gb sd p q : Nat) : Int := (ga W (2 ^ n - 1) (flq (flq sd p) q) gb n 0 : Int) - (ga W (2 ^ n - 1) sd gb n 0 : Int)
theorem dlt_b {W : Nat → Nat} {n gb sd p q : Nat} (n7 : n ≤ 7) (hw : ∀ s, s < n → W s ≤ 99) : -693 ≤ dlt W n gb sd p q ∧ dlt W n gb sd p q ≤ 693 := by
  have a := @ga_le W (2 ^ n - 1) (flq (flq sd p) q) gb n 0 (fun s _ h => hw s (by omega))
  have b := @ga_le W (2 ^ n - 1) sd gb n 0 (fun s _ h => hw s (by omega))
  unfold dlt
  omega
def Fwo (G : Nat → Bool) (dl : Nat → Nat → Int) (p q : Nat) (s : Nat × Int) : Nat × Int := if pbt p &&& pbt q = 0 ∧ G q = true then (s.1 + 1, if s.2 < dl p q then dl p q else s.2) else s
def Two2 (G : Nat → Bool) (dl : Nat → Nat → Int) (p : Nat) (s : Nat × Int) : Nat × Int := if G p = true then lp (Fwo G dl p) (20 - p) (p + 1) s else s
def TwP (G : Nat → Bool) (dl : Nat → Nat → Int) : Nat × Int := lp (Two2 G dl) 21 0 (0, -1001)
theorem Fwo_s {G : Nat → Bool} {dl : Nat → Nat → Int} {p q : Nat} {s : Nat × Int} (hd : ∀ p q, -693 ≤ dl p q ∧ dl p q ≤ 693) (h : s.2 ≤ 693 ∧ -1001 ≤ s.2) : (Fwo G dl p q s).1 ≤ s.1 + 1 ∧ (Fwo G dl p q s).2 ≤ 693 ∧ -1001 ≤ (Fwo G dl p q s).2 := by
  have := hd p q
  unfold Fwo
  split
  · refine ⟨Nat.le_refl _, ?_⟩
    show (if s.2 < dl p q then dl p q else s.2) ≤ 693 ∧ -1001 ≤ (if s.2 < dl p q then dl p q else s.2)
    split <;> omega
  · exact ⟨Nat.le_succ _, h⟩
theorem lpFwo_s {G : Nat → Bool} {dl : Nat → Nat → Int} {p : Nat} (hd : ∀ p q, -693 ≤ dl p q ∧ dl p q ≤ 693) : ∀ (k q : Nat) (s : Nat × Int), s.2 ≤ 693 ∧ -1001 ≤ s.2 → (lp (Fwo G dl p) k q s).1 ≤ s.1 + k ∧ (lp (Fwo G dl p) k q s).2 ≤ 693 ∧ -1001 ≤ (lp (Fwo G dl p) k q s).2
  | 0, q, s, h => ⟨Nat.le_refl _, h⟩
  | k + 1, q, s, h => by
    obtain ⟨a, b⟩ := @Fwo_s G dl p q s hd h
    obtain ⟨c, e⟩ := lpFwo_s hd k (q + 1) (Fwo G dl p q s) b
    refine ⟨?_, e⟩
    show (lp (Fwo G dl p) k (q + 1) (Fwo G dl p q s)).1 ≤ _
    omega
theorem Two_s {G : Nat → Bool} {dl : Nat → Nat → Int} {p : Nat} {s : Nat × Int} (hd : ∀ p q, -693 ≤ dl p q ∧ dl p q ≤ 693) (h : s.2 ≤ 693 ∧ -1001 ≤ s.2) : (Two2 G dl p s).1 ≤ s.1 + 20 ∧ (Two2 G dl p s).2 ≤ 693 ∧ -1001 ≤ (Two2 G dl p s).2 := by
  unfold Two2
  split
  · have := @lpFwo_s G dl p hd (20 - p) (p + 1) s h
    exact ⟨by omega, this.2⟩
  · exact ⟨by omega, h⟩
section TC
variable {sc : aSc} {d : Nat} {r : aRes} {f : Nat → Nat → Int32} {g : Nat → Nat → Int64} {h1 h2 : Nat} {n hr wn dk sd gb pc bc : Nat} {W : Nat → Nat} {D : aD} {hc : Nat} {HS : Nat → aH} {σ : aS}
/-- what the class's outlook rests on -/
def LC (f : Nat → Nat → Int32) (h1 : Nat) (D : aD) (n hr hs pr sd : Nat) : Prop := PT f D n hr hs ∧ CE f h1 D n ∧ n ≤ 7 ∧ f 21 5 = nI pr ∧ pr < 2 ^ n ∧ f 56 4 = nI sd ∧ sd < 2 ^ n ∧ f 56 0 = nI n
theorem s49 {p q pr : Nat} (C : LC f h1 D n hr 1 pr sd) (hp : p < 21) (hq : q < 21) : Cl sc (d + 5) 49 [.ref (21 : Nat), .ref (56 : Nat), .int (nI p), .int (nI q)] (cS f g h1 h2) r ↔ r = (cS f g h1 h2, some (.int (bI (pbt p &&& pbt q = 0 ∧ VD D pr sd hr p = true ∧ VD D pr sd hr q = true)))) := by
  obtain ⟨P, ce, n7, c5, cp, c4, cs, c0⟩ := C
  have s7 := go_lt n7 cs
  have k1 := fun d r => @s34 sc d r f g h1 h2 p (by omega)
  have k2 := fun d r => @s34 sc d r f g h1 h2 q (by omega)
  have k3 := fun d r => @s38 sc d r f g h1 h2 n hr D 0 p sd 1 pr P ce (by omega) (by omega) hp n7 s7 c5 cp
  have k4 := fun d r => @s38 sc d r f g h1 h2 n hr D 0 q sd 1 pr P ce (by omega) (by omega) hq n7 s7 c5 cp
  rw [lt0, Nat.add_zero] at k3 k4
  have a : pbt p &&& pbt q < 128 := Nat.lt_of_le_of_lt Nat.and_le_left (pbt_lt p (by omega))
  have e := @nI_eq (pbt p &&& pbt q) 0 (by omega) (by decide)
  rw [lt0] at e
  by_cases x : pbt p &&& pbt q = 0
  · by_cases y : VD D pr sd hr p = true
    · by_cases z : VD D pr sd hr q = true
      · rw [bI_t ⟨x, y, z⟩]
        simp only [c49, x49_0, x49_1, x49_4, x49_5, x49_8, x49_9, x49_12, x49_13, x49_14, x49_15, x49_16, x49_19, x49_20, x49_23, x49_26, x49_27, x49_28, x49_29, x49_30, x49_33, x49_34, x49_37, x49_40, x49_41, x49_44, x49_45, kp56, rf56_6, rp56_6, al57, iA57, it57, rf56_7, rp56_7, al58, iA58, it58, rf56_8, rp56_8, al59, iA59, it59, rf56_9, rp56_9, al60, iA60, it60, rf56_10, rp56_10, al61, iA61, it61, rf56_12, rp56_12, al62, iA62, it62, rf56_13, rp56_13, al63, iA63, it63, rf56_15, rp56_15, al64, iA64, it64, rf56_16, rp56_16, al65, iA65, it65, rf56_17, rp56_17, rf56_18, rp56_18, al66, iA66, it66, kp21, k1, k2, nI_and, e, eq_true x, c4, k3, bI_t y, k4, bI_t z, zi1, bI_True, bI_False, nI_1, Nat.reduceLeDiff, Nat.reduceEqDiff, nb0, nb1, nbI, eq_self, ex_pr, tl_s, tl_n, if_true, if_false, not_true_eq_false, not_false_eq_true, and_self, and_false, false_and, and_true, true_and]
      · rw [bI_f (fun w => z w.2.2)]
        simp only [c49, x49_0, x49_1, x49_4, x49_5, x49_8, x49_9, x49_12, x49_13, x49_14, x49_15, x49_16, x49_19, x49_20, x49_23, x49_26, x49_27, x49_28, x49_29, x49_30, x49_33, x49_34, x49_37, x49_40, x49_41, x49_44, x49_45, kp56, rf56_6, rp56_6, al57, iA57, it57, rf56_7, rp56_7, al58, iA58, it58, rf56_8, rp56_8, al59, iA59, it59, rf56_9, rp56_9, al60, iA60, it60, rf56_10, rp56_10, al61, iA61, it61, rf56_12, rp56_12, al62, iA62, it62, rf56_13, rp56_13, al63, iA63, it63, rf56_15, rp56_15, al64, iA64, it64, rf56_16, rp56_16, al65, iA65, it65, rf56_17, rp56_17, rf56_18, rp56_18, al66, iA66, it66, kp21, k1, k2, nI_and, e, eq_true x, c4, k3, bI_t y, k4, bI_f z, zi1, bI_True, bI_False, nI_1, Nat.reduceLeDiff, Nat.reduceEqDiff, nb0, nb1, nbI, eq_self, ex_pr, tl_s, tl_n, if_true, if_false, not_true_eq_false, not_false_eq_true, and_self, and_false, false_and, and_true, true_and]
    · rw [bI_f (fun w => y w.2.1)]
      simp only [c49, x49_0, x49_1, x49_4, x49_5, x49_8, x49_9, x49_12, x49_13, x49_14, x49_15, x49_16, x49_19, x49_20, x49_23, x49_26, x49_27, x49_28, x49_29, x49_30, x49_33, x49_34, x49_37, x49_40, x49_41, x49_44, x49_45, kp56, rf56_6, rp56_6, al57, iA57, it57, rf56_7, rp56_7, al58, iA58, it58, rf56_8, rp56_8, al59, iA59, it59, rf56_9, rp56_9, al60, iA60, it60, rf56_10, rp56_10, al61, iA61, it61, rf56_12, rp56_12, al62, iA62, it62, rf56_13, rp56_13, al63, iA63, it63, rf56_15, rp56_15, al64, iA64, it64, rf56_16, rp56_16, al65, iA65, it65, rf56_17, rp56_17, rf56_18, rp56_18, al66, iA66, it66, kp21, k1, k2, nI_and, e, eq_true x, c4, k3, bI_f y, bI_True, bI_False, nI_1, Nat.reduceLeDiff, Nat.reduceEqDiff, nb0, nb1, nbI, eq_self, ex_pr, tl_s, tl_n, if_true, if_false, not_true_eq_false, not_false_eq_true, and_self, and_false, false_and, and_true, true_and]
  · rw [bI_f (fun w => x w.1)]
    simp only [c49, x49_0, x49_1, x49_4, x49_5, x49_8, x49_9, x49_12, x49_13, x49_14, x49_15, x49_16, x49_19, x49_20, x49_23, x49_26, x49_27, x49_28, x49_29, x49_30, x49_33, x49_34, x49_37, x49_40, x49_41, x49_44, x49_45, kp56, rf56_6, rp56_6, al57, iA57, it57, rf56_7, rp56_7, al58, iA58, it58, rf56_8, rp56_8, al59, iA59, it59, rf56_9, rp56_9, al60, iA60, it60, rf56_10, rp56_10, al61, iA61, it61, rf56_12, rp56_12, al62, iA62, it62, rf56_13, rp56_13, al63, iA63, it63, rf56_15, rp56_15, al64, iA64, it64, rf56_16, rp56_16, al65, iA65, it65, rf56_17, rp56_17, rf56_18, rp56_18, al66, iA66, it66, kp21, k1, k2, nI_and, e, eq_false x, bI_True, bI_False, nI_1, Nat.reduceLeDiff, Nat.reduceEqDiff, nb0, nb1, nbI, eq_self, ex_pr, tl_s, tl_n, if_true, if_false, not_true_eq_false, not_false_eq_true, and_self, and_false, false_and, and_true, true_and]
theorem l47i {p pr : Nat} (C : LC f h1 D n hr 1 pr sd) (hp : p < 21) (dl : Nat → Nat → Int) : ∀ (k q : Nat) (s : Nat × Int), q + k = 21 → (Rn sc (d + 5) 47 25 [.ref (21 : Nat), .ref (56 : Nat), .int (nI s.1), .int (nI p), .int (nI q)] [] (cS f g h1 h2) r ↔ Rn sc (d + 5) 47 57 [.ref (21 : Nat), .ref (56 : Nat), .int (nI (if VD D pr sd hr p = true then lp (Fwo (VD D pr sd hr) dl p) k q s else s).1), .int (nI p), .int (nI 21)] [] (cS f g h1 h2) r)
  | 0, q, s, h => by
    have e : q = 21 := h
    subst e
    have e1 : ¬ nI 21 < 21 := by decide
    have e2 : (if VD D pr sd hr p = true then lp (Fwo (VD D pr sd hr) dl p) 0 21 s else s) = s := by split <;> rfl
    rw [e2]
    simp only [x47_25 (x4 := nI 21), x47_27, x47_29, e1, bI_True, bI_False, nI_1, Nat.reduceLeDiff, Nat.reduceEqDiff, nb0, nb1, nbI, eq_self, ex_pr, tl_s, tl_n, if_true, if_false, not_true_eq_false, not_false_eq_true, and_self, and_false, false_and, and_true, true_and]
  | k + 1, q, s, h => by
    have e1 : nI q < 21 := nI_lt (show q < 21 by omega) (by decide)
    have k1 := fun d r => @s49 sc d r f g h1 h2 n hr sd D p q pr C hp (by omega)
    by_cases y : VD D pr sd hr p = true
    · have k2 := l47i C hp dl k (q + 1) (Fwo (VD D pr sd hr) dl p q s) (by omega)
      have st : lp (Fwo (VD D pr sd hr) dl p) (k + 1) q s = lp (Fwo (VD D pr sd hr) dl p) k (q + 1) (Fwo (VD D pr sd hr) dl p q s) := rfl
      rw [if_pos y] at k2 ⊢
      rw [st, ← k2]
      unfold Fwo
      by_cases z : pbt p &&& pbt q = 0 ∧ VD D pr sd hr q = true
      · rw [if_pos z]
        have w : pbt p &&& pbt q = 0 ∧ VD D pr sd hr p = true ∧ VD D pr sd hr q = true := ⟨z.1, y, z.2⟩
        simp only [x47_25 (x4 := nI q), x47_27, x47_29, x47_32, x47_33, x47_34, x47_35, x47_36, x47_38, x47_41, x47_44, x47_45, x47_48, x47_49, x47_50, x47_51, x47_54, kp21, e1, k1, bI_t w, zi1, bI_True, bI_False, nI_1, Nat.reduceLeDiff, Nat.reduceEqDiff, nb0, nb1, nbI, eq_self, ex_pr, tl_s, tl_n, if_true, if_false, not_true_eq_false, not_false_eq_true, and_self, and_false, false_and, and_true, true_and]
      · rw [if_neg z]
        have w : ¬ (pbt p &&& pbt q = 0 ∧ VD D pr sd hr p = true ∧ VD D pr sd hr q = true) := fun w => z ⟨w.1, w.2.2⟩
        simp only [x47_25 (x4 := nI q), x47_27, x47_29, x47_32, x47_33, x47_34, x47_35, x47_36, x47_38, x47_41, x47_44, x47_45, x47_48, x47_49, x47_50, x47_51, x47_54, kp21, e1, k1, bI_f w, Int32.add_zero, bI_True, bI_False, nI_1, Nat.reduceLeDiff, Nat.reduceEqDiff, nb0, nb1, nbI, eq_self, ex_pr, tl_s, tl_n, if_true, if_false, not_true_eq_false, not_false_eq_true, and_self, and_false, false_and, and_true, true_and]
    · have k2 := l47i C hp dl k (q + 1) s (by omega)
      rw [if_neg y] at k2 ⊢
      rw [← k2]
      have w : ¬ (pbt p &&& pbt q = 0 ∧ VD D pr sd hr p = true ∧ VD D pr sd hr q = true) := fun w => y w.2.1
      simp only [x47_25 (x4 := nI q), x47_27, x47_29, x47_32, x47_33, x47_34, x47_35, x47_36, x47_38, x47_41, x47_44, x47_45, x47_48, x47_49, x47_50, x47_51, x47_54, kp21, e1, k1, bI_f w, Int32.add_zero, bI_True, bI_False, nI_1, Nat.reduceLeDiff, Nat.reduceEqDiff, nb0, nb1, nbI, eq_self, ex_pr, tl_s, tl_n, if_true, if_false, not_true_eq_false, not_false_eq_true, and_self, and_false, false_and, and_true, true_and]
theorem l47 {pr : Nat} (C : LC f h1 D n hr 1 pr sd) (dl : Nat → Nat → Int) : ∀ (k p : Nat) (s : Nat × Int) (v4 : Value), p + k = 21 → (Rn sc (d + 5) 47 14 [.ref (21 : Nat), .ref (56 : Nat), .int (nI s.1), .int (nI p), v4] [] (cS f g h1 h2) r ↔ r = (cS f g h1 h2, some (.int (nI (lp (Two2 (VD D pr sd hr) dl) k p s).1))))
  | 0, p, s, v4, h => by
    have e : p = 21 := h
    subst e
    have e1 : ¬ nI 21 < 21 := by decide
    show _ ↔ r = (cS f g h1 h2, some (.int (nI s.1)))
    simp only [x47_14 (x3 := nI 21), x47_15, x47_17, x47_63, x47_64, e1, bI_True, bI_False, nI_1, Nat.reduceLeDiff, Nat.reduceEqDiff, nb0, nb1, nbI, eq_self, ex_pr, tl_s, tl_n, if_true, if_false, not_true_eq_false, not_false_eq_true, and_self, and_false, false_and, and_true, true_and]
  | k + 1, p, s, v4, h => by
    have e1 : nI p < 21 := nI_lt (show p < 21 by omega) (by decide)
    have k1 := @l47i sc d r f g h1 h2 n hr sd D p pr C (by omega) dl (20 - p) (p + 1) s (by omega)
    have k2 := l47 C dl k (p + 1) (Two2 (VD D pr sd hr) dl p s) (.int (nI 21)) (by omega)
    have st : lp (Two2 (VD D pr sd hr) dl) (k + 1) p s = lp (Two2 (VD D pr sd hr) dl) k (p + 1) (Two2 (VD D pr sd hr) dl p s) := rfl
    have st2 : Two2 (VD D pr sd hr) dl p s = if VD D pr sd hr p = true then lp (Fwo (VD D pr sd hr) dl p) (20 - p) (p + 1) s else s := rfl
    rw [st, ← k2, st2]
    simp only [x47_14 (x3 := nI p), x47_15, x47_17, x47_20, x47_21, x47_22, x47_23, e1, nI_1, if_true, k1, x47_57, x47_60]
theorem l48i {p pr : Nat} (C : LC f h1 D n hr 1 pr sd) (c5 : f 56 5 = nI gb) (hw : ∀ s, s < n → f 60 s = nI (W s) ∧ W s ≤ 99) (hpr : pr = 2 ^ n - 1) (hp : p < 21) : ∀ (k q : Nat) (s : Nat × Int) (v6 : Value), q + k = 21 → s.2 ≤ 693 ∧ -1001 ≤ s.2 → ∃ w6, ∀ r, (Rn sc (d + 5) 48 43 [.ref (21 : Nat), .ref (56 : Nat), .int (nI (ga W pr sd gb n 0)), .int (iI s.2), .int (nI p), .int (nI q), v6] [] (cS f g h1 h2) r ↔ Rn sc (d + 5) 48 103 [.ref (21 : Nat), .ref (56 : Nat), .int (nI (ga W pr sd gb n 0)), .int (iI (if VD D pr sd hr p = true then lp (Fwo (VD D pr sd hr) (dlt W n gb sd) p) k q s else s).2), .int (nI p), .int (nI 21), w6] [] (cS f g h1 h2) r)
  | 0, q, s, v6, h, hs => by
    have e : q = 21 := h
    subst e
    have e1 : ¬ nI 21 < 21 := by decide
    have e2 : (if VD D pr sd hr p = true then lp (Fwo (VD D pr sd hr) (dlt W n gb sd) p) 0 21 s else s) = s := by split <;> rfl
    refine ⟨v6, fun r => ?_⟩
    rw [e2]
    simp only [x48_43 (x5 := nI 21), x48_45, x48_47, e1, bI_True, bI_False, nI_1, Nat.reduceLeDiff, Nat.reduceEqDiff, nb0, nb1, nbI, eq_self, ex_pr, tl_s, tl_n, if_true, if_false, not_true_eq_false, not_false_eq_true, and_self, and_false, false_and, and_true, true_and]
  | k + 1, q, s, v6, h, hs => by
    have C0 := C
    obtain ⟨P, ce, n7, c21, cp, c4, cs, c0⟩ := C
    have e1 : nI q < 21 := nI_lt (show q < 21 by omega) (by decide)
    have k1 := fun d r => @s49 sc d r f g h1 h2 n hr sd D p q pr C0 hp (by omega)
    have hd := fun p q => @dlt_b W n gb sd p q n7 (fun s h => (hw s h).2)
    by_cases y : VD D pr sd hr p = true
    · have st : lp (Fwo (VD D pr sd hr) (dlt W n gb sd) p) (k + 1) q s = lp (Fwo (VD D pr sd hr) (dlt W n gb sd) p) k (q + 1) (Fwo (VD D pr sd hr) (dlt W n gb sd) p q s) := rfl
      obtain ⟨fb1, fb2⟩ := @Fwo_s (VD D pr sd hr) (dlt W n gb sd) p q s hd hs
      by_cases z : pbt p &&& pbt q = 0 ∧ VD D pr sd hr q = true
      · obtain ⟨w6, k2⟩ := l48i C0 c5 hw hpr hp k (q + 1) (Fwo (VD D pr sd hr) (dlt W n gb sd) p q s) (.int (nI (flq (flq sd p) q))) (by omega) fb2
        refine ⟨w6, fun r => ?_⟩
        have k2 := k2 r
        rw [if_pos y] at k2 ⊢
        rw [st, ← k2]
        unfold Fwo
        rw [if_pos z]
        have w : pbt p &&& pbt q = 0 ∧ VD D pr sd hr p = true ∧ VD D pr sd hr q = true := ⟨z.1, y, z.2⟩
        have t1 := fun d r => @s34 sc d r f g h1 h2 p (by omega)
        have t2 := fun d r => @s34 sc d r f g h1 h2 q (by omega)
        have t3 := fun d r => @s22 sc d r f g h1 h2 W n pr (flq (flq sd p) q) gb n7 c0 c5 hw (go_lt n7 cp)
        have t4 : nI sd ^^^ nI (pbt p) = nI (flq sd p) := nI_xor _ _
        have t5 : nI (flq sd p) ^^^ nI (pbt q) = nI (flq (flq sd p) q) := nI_xor _ _
        have t6 : nI (ga W pr (flq (flq sd p) q) gb n 0) - nI (ga W pr sd gb n 0) = iI (dlt W n gb sd p q) := by
          rw [nI_subI, hpr]
          rfl
        have hb := hd p q
        have t7 : (if iI s.2 < iI (dlt W n gb sd p q) then iI (dlt W n gb sd p q) else iI s.2) = iI (if s.2 < dlt W n gb sd p q then dlt W n gb sd p q else s.2) := by
          have l : (iI s.2 < iI (dlt W n gb sd p q)) = (s.2 < dlt W n gb sd p q) := iI_lt (by omega) (by omega) (by omega) (by omega)
          by_cases b : s.2 < dlt W n gb sd p q
          · rw [if_pos b, if_pos (l.mpr b)]
          · rw [if_neg b, if_neg (fun z => b (l.mp z))]
        simp only [x48_43 (x5 := nI q), x48_45, x48_47, x48_50, x48_51, x48_52, x48_54, x48_56, x48_59, x48_62, x48_63, x48_66, x48_68, x48_71, x48_72, x48_74, x48_77, x48_78, x48_80, x48_81, x48_82, x48_84, x48_85, x48_88, x48_91, x48_92, x48_93, x48_96, x48_97, x48_100, kp21, rf21_0, rp21_0, al22, iA22, iG22, rf21_1, rp21_1, al28, iA28, iG28, rf21_2, rp21_2, al34, iA34, iG34, rf21_3, rp21_3, al39, iA39, iG39, rf21_4, rp21_4, al44, iA44, iG44, kp56, rf56_6, rp56_6, al57, iA57, it57, rf56_7, rp56_7, al58, iA58, it58, rf56_8, rp56_8, al59, iA59, it59, rf56_9, rp56_9, al60, iA60, it60, rf56_10, rp56_10, al61, iA61, it61, rf56_12, rp56_12, al62, iA62, it62, rf56_13, rp56_13, al63, iA63, it63, rf56_15, rp56_15, al64, iA64, it64, rf56_16, rp56_16, al65, iA65, it65, rf56_17, rp56_17, rf56_18, rp56_18, al66, iA66, it66, e1, k1, bI_t w, zi1, c4, t1, t4, t2, t5, c21, t3, t6, s207, t7, bI_True, bI_False, nI_1, Nat.reduceLeDiff, Nat.reduceEqDiff, nb0, nb1, nbI, eq_self, ex_pr, tl_s, tl_n, if_true, if_false, not_true_eq_false, not_false_eq_true, and_self, and_false, false_and, and_true, true_and]
      · obtain ⟨w6, k2⟩ := l48i C0 c5 hw hpr hp k (q + 1) (Fwo (VD D pr sd hr) (dlt W n gb sd) p q s) v6 (by omega) fb2
        refine ⟨w6, fun r => ?_⟩
        have k2 := k2 r
        rw [if_pos y] at k2 ⊢
        rw [st, ← k2]
        unfold Fwo
        rw [if_neg z]
        have w : ¬ (pbt p &&& pbt q = 0 ∧ VD D pr sd hr p = true ∧ VD D pr sd hr q = true) := fun w => z ⟨w.1, w.2.2⟩
        simp only [x48_43 (x5 := nI q), x48_45, x48_47, x48_50, x48_51, x48_52, x48_54, x48_56, x48_59, x48_97, x48_100, kp21, rf21_0, rp21_0, al22, iA22, iG22, rf21_1, rp21_1, al28, iA28, iG28, rf21_2, rp21_2, al34, iA34, iG34, rf21_3, rp21_3, al39, iA39, iG39, rf21_4, rp21_4, al44, iA44, iG44, kp56, rf56_6, rp56_6, al57, iA57, it57, rf56_7, rp56_7, al58, iA58, it58, rf56_8, rp56_8, al59, iA59, it59, rf56_9, rp56_9, al60, iA60, it60, rf56_10, rp56_10, al61, iA61, it61, rf56_12, rp56_12, al62, iA62, it62, rf56_13, rp56_13, al63, iA63, it63, rf56_15, rp56_15, al64, iA64, it64, rf56_16, rp56_16, al65, iA65, it65, rf56_17, rp56_17, rf56_18, rp56_18, al66, iA66, it66, e1, k1, bI_f w, bI_True, bI_False, nI_1, Nat.reduceLeDiff, Nat.reduceEqDiff, nb0, nb1, nbI, eq_self, ex_pr, tl_s, tl_n, if_true, if_false, not_true_eq_false, not_false_eq_true, and_self, and_false, false_and, and_true, true_and]
    · obtain ⟨w6, k2⟩ := l48i C0 c5 hw hpr hp k (q + 1) s v6 (by omega) hs
      refine ⟨w6, fun r => ?_⟩
      have k2 := k2 r
      rw [if_neg y] at k2 ⊢
      rw [← k2]
      have w : ¬ (pbt p &&& pbt q = 0 ∧ VD D pr sd hr p = true ∧ VD D pr sd hr q = true) := fun w => y w.2.1
      simp only [x48_43 (x5 := nI q), x48_45, x48_47, x48_50, x48_51, x48_52, x48_54, x48_56, x48_59, x48_97, x48_100, kp21, rf21_0, rp21_0, al22, iA22, iG22, rf21_1, rp21_1, al28, iA28, iG28, rf21_2, rp21_2, al34, iA34, iG34, rf21_3, rp21_3, al39, iA39, iG39, rf21_4, rp21_4, al44, iA44, iG44, kp56, rf56_6, rp56_6, al57, iA57, it57, rf56_7, rp56_7, al58, iA58, it58, rf56_8, rp56_8, al59, iA59, it59, rf56_9, rp56_9, al60, iA60, it60, rf56_10, rp56_10, al61, iA61, it61, rf56_12, rp56_12, al62, iA62, it62, rf56_13, rp56_13, al63, iA63, it63, rf56_15, rp56_15, al64, iA64, it64, rf56_16, rp56_16, al65, iA65, it65, rf56_17, rp56_17, rf56_18, rp56_18, al66, iA66, it66, e1, k1, bI_f w, bI_True, bI_False, nI_1, Nat.reduceLeDiff, Nat.reduceEqDiff, nb0, nb1, nbI, eq_self, ex_pr, tl_s, tl_n, if_true, if_false, not_true_eq_false, not_false_eq_true, and_self, and_false, false_and, and_true, true_and]
theorem l48 {pr : Nat} (C : LC f h1 D n hr 1 pr sd) (c5 : f 56 5 = nI gb) (hw : ∀ s, s < n → f 60 s = nI (W s) ∧ W s ≤ 99) (hpr : pr = 2 ^ n - 1) : ∀ (k p : Nat) (s : Nat × Int) (v5 v6 : Value), p + k = 21 → s.2 ≤ 693 ∧ -1001 ≤ s.2 → (Rn sc (d + 5) 48 30 [.ref (21 : Nat), .ref (56 : Nat), .int (nI (ga W pr sd gb n 0)), .int (iI s.2), .int (nI p), v5, v6] [] (cS f g h1 h2) r ↔ r = (cS f g h1 h2, some (.int (iI (lp (Two2 (VD D pr sd hr) (dlt W n gb sd)) k p s).2))))
  | 0, p, s, v5, v6, h, hs => by
    have e : p = 21 := h
    subst e
    have e1 : ¬ nI 21 < 21 := by decide
    show _ ↔ r = (cS f g h1 h2, some (.int (iI s.2)))
    simp only [x48_30 (x4 := nI 21), x48_32, x48_34, x48_109, x48_110, e1, bI_True, bI_False, nI_1, Nat.reduceLeDiff, Nat.reduceEqDiff, nb0, nb1, nbI, eq_self, ex_pr, tl_s, tl_n, if_true, if_false, not_true_eq_false, not_false_eq_true, and_self, and_false, false_and, and_true, true_and]
  | k + 1, p, s, v5, v6, h, hs => by
    have hd := fun p q => @dlt_b W n gb sd p q C.2.2.1 (fun s h => (hw s h).2)
    have e1 : nI p < 21 := nI_lt (show p < 21 by omega) (by decide)
    obtain ⟨w6, k1⟩ := @l48i sc d f g h1 h2 n hr sd gb W D p pr C c5 hw hpr (by omega) (20 - p) (p + 1) s v6 (by omega) hs
    have k2 := l48 C c5 hw hpr k (p + 1) (Two2 (VD D pr sd hr) (dlt W n gb sd) p s) (.int (nI 21)) w6 (by omega) (Two_s hd hs).2
    have st : lp (Two2 (VD D pr sd hr) (dlt W n gb sd)) (k + 1) p s = lp (Two2 (VD D pr sd hr) (dlt W n gb sd)) k (p + 1) (Two2 (VD D pr sd hr) (dlt W n gb sd) p s) := rfl
    have st2 : Two2 (VD D pr sd hr) (dlt W n gb sd) p s = if VD D pr sd hr p = true then lp (Fwo (VD D pr sd hr) (dlt W n gb sd) p) (20 - p) (p + 1) s else s := rfl
    rw [st, ← k2, st2]
    simp only [x48_30 (x4 := nI p), x48_32, x48_34, x48_37, x48_39, x48_40, x48_41, e1, nI_1, if_true, k1, x48_103, x48_106]
/-- the class's answer -/
theorem two_c (X : XP f g h1 h2 n hr wn dk sd gb pc bc W D hc HS) (x0 : Int32) (a0 : ¬ x0 < 0 ∧ ¬ 1 < x0) : QC sc (d + 30) 83 17 [.int x0] f g h1 h2 (.int (if x0 = 0 then nI (TwP (VD D (2 ^ n - 1) sd hr) (dlt W n gb sd)).1 else iI (TwP (VD D (2 ^ n - 1) sd hr) (dlt W n gb sd)).2)) := by
  have n7 := X.d.b0
  have c0 : f 56 0 = nI n := X.d.c0
  have c4 : f 56 4 = nI sd := X.d.c4
  have c5 : f 56 5 = nI gb := X.d.c5
  have A := all_of n7
  have p := p2_7 n7
  have p0 : 0 < 2 ^ n := Nat.two_pow_pos n
  obtain ⟨f', E, e5, P, k⟩ := @s33 sc (d + 22) f g h1 h2 n hr sd D 1 (2 ^ n - 1) (by omega) X.cy
  have F : Fq f f' := fun q j hq => E q j (fun w => hq (by unfold lkq at w; unfold scq; omega))
  have X1 := X.fq F
  have C1 : LC f' h1 D n hr 1 (2 ^ n - 1) sd := ⟨P, X1.ce, n7, e5, by omega, X1.d.c4, X1.d.b4, X1.d.c0⟩
  refine ⟨f', F, ?_⟩
  rw [lt1] at k
  by_cases w : x0 = 0
  · subst w
    have k2 := fun r => @l47 sc (d + 23) r f' g h1 h2 n hr sd D (2 ^ n - 1) C1 (dlt W n gb sd) 21 0 (0, -1001) mk0 rfl
    simp only [lt0] at k2
    rw [if_pos rfl]
    unfold TwP
    simp only [c83, x83_0, x83_1, x83_2, x83_5, x83_8, x83_11, x83_12, x83_13, x83_16, x83_17, x83_20, x83_21, x83_24, x83_27, x83_30, x83_31, x83_34, x83_35, x83_38, x83_41, c47, x47_0, x47_1, x47_2, x47_3, x47_4, x47_7, x47_10, x47_11, x47_12, x47_13, x47_15, x47_17, x47_20, x47_21, x47_22, x47_23, x47_27, x47_29, x47_32, x47_33, x47_34, x47_35, x47_36, x47_38, x47_41, x47_44, x47_45, x47_48, x47_49, x47_50, x47_51, x47_54, x47_57, x47_60, x47_63, x47_64, kp17, rf17_0, rp17_0, rf17_1, rp17_1, rf17_3, rp17_3, rf17_4, rp17_4, al20, iA20, iG20, rf17_6, rp17_6, rf17_7, rp17_7, rf17_8, rp17_8, al51, iA51, iG51, kp56, rf56_6, rp56_6, al57, iA57, it57, rf56_7, rp56_7, al58, iA58, it58, rf56_8, rp56_8, al59, iA59, it59, rf56_9, rp56_9, al60, iA60, it60, rf56_10, rp56_10, al61, iA61, it61, rf56_12, rp56_12, al62, iA62, it62, rf56_13, rp56_13, al63, iA63, it63, rf56_15, rp56_15, al64, iA64, it64, rf56_16, rp56_16, al65, iA65, it65, rf56_17, rp56_17, rf56_18, rp56_18, al66, iA66, it66, kp21, s102, bI_t a0, zi1, s8, c0, A, k, k2, bI_True, bI_False, nI_1, Nat.reduceLeDiff, Nat.reduceEqDiff, nb0, nb1, nbI, eq_self, ex_pr, tl_s, tl_n, if_true, if_false, not_true_eq_false, not_false_eq_true, and_self, and_false, false_and, and_true, true_and]
  · have hw : ∀ s, s < n → f' 60 s = nI (W s) ∧ W s ≤ 99 := fun s hs => (X1.d.sl s hs).2.2.2
    have c5' : f' 56 5 = nI gb := X1.d.c5
    have c4' : f' 56 4 = nI sd := X1.d.c4
    have c0' : f' 56 0 = nI n := X1.d.c0
    have k2 := fun r => @l48 sc (d + 23) r f' g h1 h2 n hr sd gb W D (2 ^ n - 1) C1 c5' hw rfl 21 0 (0, -1001) mk0 mk0 rfl ⟨by decide, by decide⟩
    have k3 := fun d r => @s22 sc d r f' g h1 h2 W n (2 ^ n - 1) sd gb n7 c0' c5' hw (by omega)
    have e : iI (-1001) = -1001 := rfl
    simp only [lt0, e] at k2
    rw [if_neg w]
    unfold TwP
    simp only [c83, x83_0, x83_1, x83_2, x83_5, x83_8, x83_11, x83_12, x83_13, x83_16, x83_17, x83_20, x83_21, x83_24, x83_27, x83_30, x83_31, x83_34, x83_35, x83_38, x83_41, c48, x48_0, x48_1, x48_2, x48_3, x48_4, x48_7, x48_10, x48_11, x48_12, x48_15, x48_16, x48_19, x48_22, x48_23, x48_26, x48_27, x48_28, x48_32, x48_34, x48_37, x48_39, x48_40, x48_41, x48_45, x48_47, x48_50, x48_51, x48_52, x48_54, x48_56, x48_59, x48_62, x48_63, x48_66, x48_68, x48_71, x48_72, x48_74, x48_77, x48_78, x48_80, x48_81, x48_82, x48_84, x48_85, x48_88, x48_91, x48_92, x48_93, x48_96, x48_97, x48_100, x48_103, x48_106, x48_109, x48_110, kp17, rf17_0, rp17_0, rf17_1, rp17_1, rf17_3, rp17_3, rf17_4, rp17_4, al20, iA20, iG20, rf17_6, rp17_6, rf17_7, rp17_7, rf17_8, rp17_8, al51, iA51, iG51, kp21, rf21_0, rp21_0, al22, iA22, iG22, rf21_1, rp21_1, al28, iA28, iG28, rf21_2, rp21_2, al34, iA34, iG34, rf21_3, rp21_3, al39, iA39, iG39, rf21_4, rp21_4, al44, iA44, iG44, kp56, rf56_6, rp56_6, al57, iA57, it57, rf56_7, rp56_7, al58, iA58, it58, rf56_8, rp56_8, al59, iA59, it59, rf56_9, rp56_9, al60, iA60, it60, rf56_10, rp56_10, al61, iA61, it61, rf56_12, rp56_12, al62, iA62, it62, rf56_13, rp56_13, al63, iA63, it63, rf56_15, rp56_15, al64, iA64, it64, rf56_16, rp56_16, al65, iA65, it65, rf56_17, rp56_17, rf56_18, rp56_18, al66, iA66, it66, s102, bI_t a0, zi1, w, s8, c0, A, k, c4', e5, k3, k2, bI_True, bI_False, nI_1, Nat.reduceLeDiff, Nat.reduceEqDiff, nb0, nb1, nbI, eq_self, ex_pr, tl_s, tl_n, if_true, if_false, not_true_eq_false, not_false_eq_true, and_self, and_false, false_and, and_true, true_and]
end TC
