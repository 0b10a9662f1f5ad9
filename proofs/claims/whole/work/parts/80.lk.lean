/-! look: the class's table of pulls; loops over pairs -/
def lp {S : Type} (F : Nat → S → S) : Nat → Nat → S → S
  | 0, _, s => s
  | k + 1, p, s => lp F k (p + 1) (F p s)
theorem lp_id {S : Type} {F : Nat → S → S} : ∀ (k p : Nat) (s : S), (∀ q, p ≤ q → q < p + k → ∀ s, F q s = s) → lp F k p s = s
  | 0, _, _, _ => rfl
  | k + 1, p, s, h => by
    show lp F k (p + 1) (F p s) = s
    rw [h p (Nat.le_refl _) (by omega)]
    exact lp_id k (p + 1) s fun q a b => h q (by omega) (by omega)
theorem lp_add {S : Type} {F : Nat → S → S} : ∀ (k m p : Nat) (s : S), lp F (k + m) p s = lp F m (p + k) (lp F k p s)
  | 0, m, p, s => by
    rw [Nat.zero_add]
    rfl
  | k + 1, m, p, s => by
    rw [show k + 1 + m = (k + m) + 1 by omega]
    show lp F (k + m) (p + 1) (F p s) = lp F m (p + (k + 1)) (lp F k (p + 1) (F p s))
    rw [lp_add k m (p + 1), show p + 1 + k = p + (k + 1) by omega]
theorem lp_cong {S : Type} {F G : Nat → S → S} : ∀ (k p : Nat) (s : S), (∀ q, p ≤ q → q < p + k → ∀ s, F q s = G q s) → lp F k p s = lp G k p s
  | 0, _, _, _ => rfl
  | k + 1, p, s, h => by
    show lp F k (p + 1) (F p s) = lp G k (p + 1) (G p s)
    rw [h p (Nat.le_refl _) (by omega)]
    exact lp_cong k (p + 1) _ fun q a b => h q (by omega) (by omega)
/-- the place of the first pair of a SLEDGE; of a pair -/
def off (a : Nat) : Nat := [0, 6, 11, 15, 18, 20, 21, 21].getD a 21
def pp (a b : Nat) : Nat := off a + (b - a - 1)
theorem off_s : ∀ a, a < 7 → off (a + 1) = off a + (6 - a) := by decide
theorem off_le : ∀ a, a < 8 → off a ≤ 21 := by decide
theorem pp_o : ∀ a, a < 7 → ∀ b, b < 7 → a < b → pp a b < 21 ∧ o1 (pp a b) = a ∧ o2 (pp a b) = b := by decide +kernel
theorem pp_r : ∀ p, p < 21 → pp (o1 p) (o2 p) = p := by decide +kernel
theorem off_o : ∀ n, n < 8 → ∀ p, p < 21 → off n ≤ p → n ≤ o1 p := by decide +kernel
theorem pp_n : ∀ a, a < 7 → ∀ n, n < 8 → ∀ p, p < 21 → a < n ∧ pp a n ≤ p ∧ p < off (a + 1) → n ≤ o2 p := by decide +kernel
theorem VD_n {D : aD} {pr n s hx p : Nat} (hp : pr < 2 ^ n) (h : n ≤ o2 p) : VD D pr s hx p = false := by
  unfold VD
  by_cases e : bt pr (o1 p) = 1 ∧ bt pr (o2 p) = 1
  · have := pr_lt hp e.2
    omega
  · rw [decide_eq_false e, Bool.and_false, Bool.false_and]
section LK
variable {sc : aSc} {d : Nat} {r : aRes} {f : Nat → Nat → Int32} {g : Nat → Nat → Int64} {h1 h2 : Nat} {n hr wn dk sd gb pc bc : Nat} {W : Nat → Nat} {D : aD} {hc : Nat} {HS : Nat → aH} {σ : aS}
theorem l33i {h : Nat} {hv pv : Int32} (hh : h < 4) (n7 : n ≤ 7) (hr9 : hr ≤ 9999) : ∀ (k i : Nat) (f : Nat → Nat → Int32), CE f h1 D n → f 56 0 = nI n → f 56 1 = nI hr → i + k = n → ∃ f', (∀ q j, q ≠ 66 → ¬ (q = 45 + h ∧ ((i ≤ j ∧ j < n) ∨ (7 + i ≤ j ∧ j < 7 + n))) → f' q j = f q j) ∧ (∀ j, i ≤ j → j < n → f' (45 + h) j = nI (PU D j 0 (hr + h)) ∧ f' (45 + h) (7 + j) = nI (PU D j 1 (hr + h))) ∧ ∀ r, (Rn sc (d + 5) 33 17 [.ref (21 : Nat), .ref (56 : Nat), .int hv, .int pv, .int (nI h), .int (nI i)] [] (cS f g h1 h2) r ↔ Rn sc (d + 5) 33 83 [.ref (21 : Nat), .ref (56 : Nat), .int hv, .int pv, .int (nI h), .int (nI n)] [] (cS f' g h1 h2) r)
  | 0, i, f, C, c0, c1, h' => by
    have e : i = n := h'
    subst e
    have e1 : ¬ nI i < nI i := Int32.lt_irrefl
    refine ⟨f, fun _ _ _ _ => rfl, fun j a b => absurd a (by omega), fun r => ?_⟩
    simp only [x33_17 (x5 := nI i), x33_19, x33_20, x33_23, kp56, rf56_6, rp56_6, al57, iA57, it57, rf56_7, rp56_7, al58, iA58, it58, rf56_8, rp56_8, al59, iA59, it59, rf56_9, rp56_9, al60, iA60, it60, rf56_10, rp56_10, al61, iA61, it61, rf56_12, rp56_12, al62, iA62, it62, rf56_13, rp56_13, al63, iA63, it63, rf56_15, rp56_15, al64, iA64, it64, rf56_16, rp56_16, al65, iA65, it65, rf56_17, rp56_17, rf56_18, rp56_18, al66, iA66, it66, c0, e1, bI_True, bI_False, nI_1, Nat.reduceLeDiff, Nat.reduceEqDiff, nb0, nb1, nbI, eq_self, ex_pr, tl_s, tl_n, if_true, if_false, not_true_eq_false, not_false_eq_true, and_self, and_false, false_and, and_true, true_and]
  | k + 1, i, f, C, c0, c1, h' => by
    have e1 : nI i < nI n := nI_lt (by omega) (by omega)
    obtain ⟨u1, u2', u3, u4, u5⟩ := or44 h hh
    have j1 : inb (nI h) 4 = true := inb_nI (by omega) (by decide)
    have j2 : (nI h).toNatClampNeg = h := cl_nI (by omega)
    have i1 : inb (nI i) 14 = true := inb_nI (by omega) (by decide)
    have i2 : (nI i).toNatClampNeg = i := cl_nI (by omega)
    have i3 : inb (nI (7 + i)) 14 = true := inb_nI (by omega) (by decide)
    have i4 : (nI (7 + i)).toNatClampNeg = 7 + i := cl_nI (by omega)
    have i5 : (7 : Int32) + nI i = nI (7 + i) := nI_add 7 i
    have ka := fun d r => @s16 sc d r f g h1 h2 D n i 0 (hr + h) C.1 (by omega) (by omega) (by omega)
    rw [lt0] at ka
    have E1 : ∀ q, q ≠ 66 → q ≠ 45 + h → u2 (wr6 f (fct D i 0 (hr + h))) (45 + h) i (nI (PU D i 0 (hr + h))) q = f q := fun q a b => by rw [u2_n b, wr6_n a]
    have C1 : CE (u2 (wr6 f (fct D i 0 (hr + h))) (45 + h) i (nI (PU D i 0 (hr + h)))) h1 D n := C.fr fun q hq => E1 q (by omega) (by omega)
    have kb := fun d r => @s16 sc d r (u2 (wr6 f (fct D i 0 (hr + h))) (45 + h) i (nI (PU D i 0 (hr + h)))) g h1 h2 D n i 1 (hr + h) C1.1 (by omega) (by omega) (by omega)
    rw [lt1] at kb
    have c1' : u2 (wr6 f (fct D i 0 (hr + h))) (45 + h) i (nI (PU D i 0 (hr + h))) 56 1 = nI hr := by rw [E1 56 (by omega) (by omega)]; exact c1
    obtain ⟨fz, ez⟩ : ∃ fz, fz = u2 (wr6 (u2 (wr6 f (fct D i 0 (hr + h))) (45 + h) i (nI (PU D i 0 (hr + h)))) (fct D i 1 (hr + h))) (45 + h) (7 + i) (nI (PU D i 1 (hr + h))) := ⟨_, rfl⟩
    have E2 : ∀ q, q ≠ 66 → q ≠ 45 + h → fz q = f q := fun q a b => by rw [ez, u2_n b, wr6_n a, E1 q a b]
    have E3 : ∀ j, fz (45 + h) j = if j = 7 + i then nI (PU D i 1 (hr + h)) else if j = i then nI (PU D i 0 (hr + h)) else f (45 + h) j := fun j => by
      have w : ∀ fc, ∀ f : Nat → Nat → Int32, wr6 f fc (45 + h) = f (45 + h) := fun fc f => wr6_n (by omega)
      rw [ez, u2_at, w, u2_at, w]
      by_cases a : j = 7 + i
      · rw [if_pos ⟨rfl, a⟩, if_pos a]
      · rw [if_neg (fun z => a z.2), if_neg a]
        by_cases b : j = i
        · rw [if_pos ⟨rfl, b⟩, if_pos b]
        · rw [if_neg (fun z => b z.2), if_neg b]
    obtain ⟨f2, A, B, k2⟩ := l33i (hv := hv) (pv := pv) hh n7 hr9 k (i + 1) fz (C.fr fun q hq => E2 q (by omega) (by omega)) (by rw [E2 56 (by omega) (by omega)]; exact c0) (by rw [E2 56 (by omega) (by omega)]; exact c1) (by omega)
    refine ⟨f2, fun q j a b => ?_, fun j a b => ?_, fun r => ?_⟩
    · rw [A q j a (fun z => b ⟨z.1, by omega⟩)]
      by_cases e : q = 45 + h
      · subst e
        rw [E3, if_neg (fun z => b ⟨rfl, by omega⟩), if_neg (fun z => b ⟨rfl, by omega⟩)]
      · rw [E2 q a e]
    · by_cases e : j = i
      · subst e
        rw [A _ j (by omega) (by omega), A _ (7 + j) (by omega) (by omega), E3, E3, if_neg (by omega), if_pos rfl, if_pos rfl]
        exact ⟨rfl, rfl⟩
      · exact B j (by omega) b
    · rw [← k2 r, ez]
      simp only [x33_17 (x5 := nI i), x33_19, x33_20, x33_23, x33_26, x33_27, x33_30, x33_32, x33_33, x33_35, x33_36, x33_38, x33_39, x33_40, x33_43, x33_45, x33_46, x33_49, x33_50, x33_51, x33_54, x33_56, x33_57, x33_59, x33_61, x33_62, x33_63, x33_65, x33_66, x33_67, x33_70, x33_72, x33_73, x33_76, x33_77, x33_80, kp21, rf21_0, rp21_0, al22, iA22, iG22, rf21_1, rp21_1, al28, iA28, iG28, rf21_2, rp21_2, al34, iA34, iG34, rf21_3, rp21_3, al39, iA39, iG39, rf21_4, rp21_4, al44, iA44, iG44, al44, iA44, iG44, rf44_0, rp44_0, al45, iA45, it45, rf44_1, rp44_1, al46, iA46, it46, rf44_2, rp44_2, al47, iA47, it47, rf44_3, rp44_3, al48, iA48, it48, kp56, rf56_6, rp56_6, al57, iA57, it57, rf56_7, rp56_7, al58, iA58, it58, rf56_8, rp56_8, al59, iA59, it59, rf56_9, rp56_9, al60, iA60, it60, rf56_10, rp56_10, al61, iA61, it61, rf56_12, rp56_12, al62, iA62, it62, rf56_13, rp56_13, al63, iA63, it63, rf56_15, rp56_15, al64, iA64, it64, rf56_16, rp56_16, al65, iA65, it65, rf56_17, rp56_17, rf56_18, rp56_18, al66, iA66, it66, c0, c1, c1', e1, j1, j2, u1, u2', u3, u4, u5, i1, i2, i3, i4, i5, nI_add, ka, kb, bI_True, bI_False, nI_1, Nat.reduceLeDiff, Nat.reduceEqDiff, nb0, nb1, nbI, eq_self, ex_pr, tl_s, tl_n, if_true, if_false, not_true_eq_false, not_false_eq_true, and_self, and_false, false_and, and_true, true_and]
theorem l33 {hs : Nat} {pv : Int32} (h4 : hs ≤ 4) (n7 : n ≤ 7) (hr9 : hr ≤ 9999) : ∀ (k h : Nat) (f : Nat → Nat → Int32) (v5 : Value), CE f h1 D n → f 56 0 = nI n → f 56 1 = nI hr → h + k = hs → ∃ f', (∀ q j, q ≠ 66 → ¬ (45 + h ≤ q ∧ q ≤ 48) → f' q j = f q j) ∧ (∀ t, h ≤ t → t < hs → ∀ i, i < n → f' (45 + t) i = nI (PU D i 0 (hr + t)) ∧ f' (45 + t) (7 + i) = nI (PU D i 1 (hr + t))) ∧ ∀ r, (Rn sc (d + 5) 33 8 [.ref (21 : Nat), .ref (56 : Nat), .int (nI hs), .int pv, .int (nI h), v5] [] (cS f g h1 h2) r ↔ r = (cS f' g h1 h2, none))
  | 0, h, f, v5, C, c0, c1, h' => by
    have e : h = hs := h'
    subst e
    have e1 : ¬ nI h < nI h := Int32.lt_irrefl
    refine ⟨f, fun _ _ _ _ => rfl, fun t a b => absurd a (by omega), fun r => ?_⟩
    simp only [x33_8 (x4 := nI h), x33_10, x33_11, x33_89, e1, bI_True, bI_False, nI_1, Nat.reduceLeDiff, Nat.reduceEqDiff, nb0, nb1, nbI, eq_self, ex_pr, tl_s, tl_n, if_true, if_false, not_true_eq_false, not_false_eq_true, and_self, and_false, false_and, and_true, true_and]
  | k + 1, h, f, v5, C, c0, c1, h' => by
    have e1 : nI h < nI hs := nI_lt (by omega) (by omega)
    obtain ⟨f1, A1, B1, k1⟩ := @l33i sc d g h1 h2 n hr D h (nI hs) pv (by omega) n7 hr9 n 0 f C c0 c1 (Nat.zero_add _)
    have E1 : ∀ q, q ≠ 66 → q ≠ 45 + h → f1 q = f q := fun q a b => funext fun j => A1 q j a (fun z => b z.1)
    obtain ⟨f2, A2, B2, k2⟩ := l33 (pv := pv) h4 n7 hr9 k (h + 1) f1 (.int (nI n)) (C.fr fun q hq => E1 q (by omega) (by omega)) (by rw [E1 56 (by omega) (by omega)]; exact c0) (by rw [E1 56 (by omega) (by omega)]; exact c1) (by omega)
    rw [lt0] at k1
    refine ⟨f2, fun q j a b => ?_, fun t a b i hi => ?_, fun r => ?_⟩
    · rw [A2 q j a (by omega), E1 q a (by omega)]
    · by_cases e : t = h
      · subst e
        rw [A2 _ i (by omega) (by omega), A2 _ (7 + i) (by omega) (by omega)]
        exact B1 i (Nat.zero_le _) hi
      · exact B2 t (by omega) b i hi
    · rw [← k2 r]
      simp only [x33_8 (x4 := nI h), x33_10, x33_11, x33_14, x33_15, e1, k1, x33_83, x33_86, bI_True, bI_False, nI_1, Nat.reduceLeDiff, Nat.reduceEqDiff, nb0, nb1, nbI, eq_self, ex_pr, tl_s, tl_n, if_true, if_false, not_true_eq_false, not_false_eq_true, and_self, and_false, false_and, and_true, true_and]
/-- cells that look may change -/
def lkq (q j : Nat) : Prop := q = 66 ∨ (45 ≤ q ∧ q ≤ 48) ∨ (q = 21 ∧ j = 5)
theorem s33 {hs pr : Nat} (h4 : hs ≤ 4) (C : CY f h1 D n sd hr) : ∃ f', (∀ q j, ¬ lkq q j → f' q j = f q j) ∧ f' 21 5 = nI pr ∧ PT f' D n hr hs ∧ ∀ r, Cl sc (d + 6) 33 [.ref (21 : Nat), .ref (56 : Nat), .int (nI hs), .int (nI pr)] (cS f g h1 h2) r ↔ r = (cS f' g h1 h2, none) := by
  obtain ⟨ce, n7, c0, c4, c1, b4, b1⟩ := C
  have E0 : ∀ q, q ≠ 21 → u2 f 21 5 (nI pr) q = f q := fun q a => u2_n a
  obtain ⟨f1, A1, B1, k1⟩ := @l33 sc d g h1 h2 n hr D hs (nI pr) h4 n7 b1 hs 0 (u2 f 21 5 (nI pr)) mk0 (ce.fr fun q hq => E0 q (by omega)) (by rw [E0 56 (by omega)]; exact c0) (by rw [E0 56 (by omega)]; exact c1) (Nat.zero_add _)
  rw [lt0] at k1
  refine ⟨f1, fun q j a => ?_, ?_, fun t ht i hi => B1 t (Nat.zero_le _) ht i hi, fun r => ?_⟩
  · unfold lkq at a
    rw [A1 q j (by omega) (by omega), u2_nn (by omega)]
  · rw [A1 21 5 (by omega) (by omega), u2_ss]
  · simp only [c33, x33_0, x33_1, x33_2, x33_5, x33_6, kp21, rf21_0, rp21_0, al22, iA22, iG22, rf21_1, rp21_1, al28, iA28, iG28, rf21_2, rp21_2, al34, iA34, iG34, rf21_3, rp21_3, al39, iA39, iG39, rf21_4, rp21_4, al44, iA44, iG44, k1, bI_True, bI_False, nI_1, Nat.reduceLeDiff, Nat.reduceEqDiff, nb0, nb1, nbI, eq_self, ex_pr, tl_s, tl_n, if_true, if_false, not_true_eq_false, not_false_eq_true, and_self, and_false, false_and, and_true, true_and]
end LK
