/-! never -/
def gIn (p : Nat → Bool) (a : Nat) : Nat → Nat → Nat → Nat
  | 0, _, u => u
  | k + 1, b, u => gIn p a k (b + 1) (if p b = true then u ||| (2 ^ a ||| 2 ^ b) else u)
def gOu (p : Nat → Nat → Bool) (n : Nat) : Nat → Nat → Nat → Nat
  | 0, _, u => u
  | k + 1, a, u => gOu p n k (a + 1) (gIn (p a) a (n - (a + 1)) (a + 1) u)
def gHo (q : Nat → Nat → Nat → Bool) (n : Nat) : Nat → Nat → Nat → Nat
  | 0, _, u => u
  | k + 1, i, u => gHo q n k (i + 1) (gOu (q i) n n 0 u)
theorem gIn_or {p : Nat → Bool} {a : Nat} : ∀ (k b u : Nat), gIn p a k b u = u ||| gIn p a k b 0
  | 0, b, u => (Nat.or_zero u).symm
  | k + 1, b, u => by
    show gIn p a k (b + 1) _ = u ||| gIn p a k (b + 1) _
    rw [gIn_or k (b + 1) (if p b = true then u ||| (2 ^ a ||| 2 ^ b) else u), gIn_or k (b + 1) (if p b = true then 0 ||| (2 ^ a ||| 2 ^ b) else 0)]
    by_cases w : p b = true
    · rw [if_pos w, if_pos w, Nat.zero_or, Nat.or_assoc]
    · rw [if_neg w, if_neg w, Nat.zero_or]
theorem gOu_or {p : Nat → Nat → Bool} {n : Nat} : ∀ (k a u : Nat), gOu p n k a u = u ||| gOu p n k a 0
  | 0, b, u => (Nat.or_zero u).symm
  | k + 1, a, u => by
    show gOu p n k (a + 1) _ = u ||| gOu p n k (a + 1) _
    rw [gOu_or k (a + 1) (gIn (p a) a (n - (a + 1)) (a + 1) u), gOu_or k (a + 1) (gIn (p a) a (n - (a + 1)) (a + 1) 0), gIn_or _ _ u, Nat.or_assoc]
theorem ann_or (x u m : Nat) : ann (ann x u) m = ann x (u ||| m) := by
  refine Nat.eq_of_testBit_eq fun k => ?_
  rw [ann_tb, ann_tb, ann_tb, Nat.testBit_or]
  cases x.testBit k <;> cases u.testBit k <;> cases m.testBit k <;> rfl
theorem ann_0 (x : Nat) : ann x 0 = x := by
  refine Nat.eq_of_testBit_eq fun k => ?_
  rw [ann_tb, Nat.zero_testBit]
  cases x.testBit k <;> rfl
section Q9
variable {sc : aSc} {d : Nat} {r : aRes} {f : Nat → Nat → Int32} {g : Nat → Nat → Int64} {h1 h2 : Nat} {n hr wn dk sd gb pc bc : Nat} {W : Nat → Nat} {D : aD} {hc : Nat} {HS : Nat → aH} {σ : aS}
theorem l21i {hx a : Nat} (n7 : n ≤ 7) (hsd : sd < 128) (hh : hx < 2147483648) (ha : a < n) : ∀ (k b u : Nat) (f : Nat → Nat → Int32), CE f h1 D n → f 56 0 = nI n → f 56 4 = nI sd → b + k = n → ∃ f', Sc f f' ∧ ∀ r, (Rn sc (d + 5) 21 17 [.ref (56 : Nat), .int (nI hx), .int (nI u), .int (nI a), .int (nI b)] [] (cS f g h1 h2) r ↔ Rn sc (d + 5) 21 58 [.ref (56 : Nat), .int (nI hx), .int (nI (gIn (fun b => GO D a b sd hx) a k b u)), .int (nI a), .int (nI n)] [] (cS f' g h1 h2) r)
  | 0, b, u, f, C, c0, c4, h => by
    have e : b = n := h
    subst e
    have e1 : ¬ nI b < nI b := Int32.lt_irrefl
    refine ⟨f, Sc.refl, fun r => ?_⟩
    show _ ↔ Rn sc (d + 5) 21 58 [.ref (56 : Nat), .int (nI hx), .int (nI u), .int (nI a), .int (nI b)] [] (cS f g h1 h2) r
    simp only [x21_17 (x4 := nI b), x21_19, x21_20, x21_23, kp56, rf56_6, rp56_6, al57, iA57, it57, rf56_7, rp56_7, al58, iA58, it58, rf56_8, rp56_8, al59, iA59, it59, rf56_9, rp56_9, al60, iA60, it60, rf56_10, rp56_10, al61, iA61, it61, rf56_12, rp56_12, al62, iA62, it62, rf56_13, rp56_13, al63, iA63, it63, rf56_15, rp56_15, al64, iA64, it64, rf56_16, rp56_16, al65, iA65, it65, rf56_17, rp56_17, rf56_18, rp56_18, al66, iA66, it66, c0, e1, bI_True, bI_False, nI_1, Nat.reduceLeDiff, Nat.reduceEqDiff, nb0, nb1, nbI, eq_self, ex_pr, tl_s, tl_n, if_true, if_false, not_true_eq_false, not_false_eq_true, and_self, and_false, false_and, and_true, true_and]
  | k + 1, b, u, f, C, c0, c4, h => by
    have e1 : nI b < nI n := nI_lt (by omega) (by omega)
    obtain ⟨f1, F1, k1⟩ := @s19 sc d f g h1 h2 D n a b sd hx C ha (by omega) (by omega) hh
    have q1 : (1 : Int32) <<< (nI a &&& 31) = nI (2 ^ a) := shl1_of (by omega)
    have q2 : (1 : Int32) <<< (nI b &&& 31) = nI (2 ^ b) := shl1_of (by omega)
    obtain ⟨f2, F2, k2⟩ := l21i n7 hsd hh ha k (b + 1) (if GO D a b sd hx = true then u ||| (2 ^ a ||| 2 ^ b) else u) f1 (C.sc F1) (by rw [F1 56 (by decide)]; exact c0) (by rw [F1 56 (by decide)]; exact c4) (by omega)
    have st : gIn (fun b => GO D a b sd hx) a (k + 1) b u = gIn (fun b => GO D a b sd hx) a k (b + 1) (if GO D a b sd hx = true then u ||| (2 ^ a ||| 2 ^ b) else u) := rfl
    refine ⟨f2, F1.trans F2, fun r => ?_⟩
    rw [st, ← k2 r]
    by_cases y : GO D a b sd hx = true
    · rw [if_pos y]
      simp only [x21_17 (x4 := nI b), x21_19, x21_20, x21_23, x21_26, x21_27, x21_28, x21_30, x21_31, x21_34, x21_35, x21_38, x21_41, x21_42, x21_43, x21_44, x21_45, x21_46, x21_48, x21_49, x21_50, x21_51, x21_52, x21_55, kp56, rf56_6, rp56_6, al57, iA57, it57, rf56_7, rp56_7, al58, iA58, it58, rf56_8, rp56_8, al59, iA59, it59, rf56_9, rp56_9, al60, iA60, it60, rf56_10, rp56_10, al61, iA61, it61, rf56_12, rp56_12, al62, iA62, it62, rf56_13, rp56_13, al63, iA63, it63, rf56_15, rp56_15, al64, iA64, it64, rf56_16, rp56_16, al65, iA65, it65, rf56_17, rp56_17, rf56_18, rp56_18, al66, iA66, it66, c0, c4, e1, k1, bI_t y, zi1, q1, q2, nI_or, bI_True, bI_False, nI_1, Nat.reduceLeDiff, Nat.reduceEqDiff, nb0, nb1, nbI, eq_self, ex_pr, tl_s, tl_n, if_true, if_false, not_true_eq_false, not_false_eq_true, and_self, and_false, false_and, and_true, true_and]
    · rw [if_neg y]
      simp only [x21_17 (x4 := nI b), x21_19, x21_20, x21_23, x21_26, x21_27, x21_28, x21_30, x21_31, x21_34, x21_35, x21_38, x21_52, x21_55, kp56, rf56_6, rp56_6, al57, iA57, it57, rf56_7, rp56_7, al58, iA58, it58, rf56_8, rp56_8, al59, iA59, it59, rf56_9, rp56_9, al60, iA60, it60, rf56_10, rp56_10, al61, iA61, it61, rf56_12, rp56_12, al62, iA62, it62, rf56_13, rp56_13, al63, iA63, it63, rf56_15, rp56_15, al64, iA64, it64, rf56_16, rp56_16, al65, iA65, it65, rf56_17, rp56_17, rf56_18, rp56_18, al66, iA66, it66, c0, c4, e1, k1, bI_f y, bI_True, bI_False, nI_1, Nat.reduceLeDiff, Nat.reduceEqDiff, nb0, nb1, nbI, eq_self, ex_pr, tl_s, tl_n, if_true, if_false, not_true_eq_false, not_false_eq_true, and_self, and_false, false_and, and_true, true_and]
theorem l21o {hx : Nat} (n7 : n ≤ 7) (hsd : sd < 128) (hh : hx < 2147483648) : ∀ (k a u : Nat) (f : Nat → Nat → Int32) (v4 : Value), CE f h1 D n → f 56 0 = nI n → f 56 4 = nI sd → a + k = n → ∃ f', Sc f f' ∧ ∀ r, (Rn sc (d + 5) 21 4 [.ref (56 : Nat), .int (nI hx), .int (nI u), .int (nI a), v4] [] (cS f g h1 h2) r ↔ r = (cS f' g h1 h2, some (.int (nI (gOu (fun a b => GO D a b sd hx) n k a u)))))
  | 0, a, u, f, v4, C, c0, c4, h => by
    have e : a = n := h
    subst e
    have e1 : ¬ nI a < nI a := Int32.lt_irrefl
    refine ⟨f, Sc.refl, fun r => ?_⟩
    show _ ↔ r = (cS f g h1 h2, some (.int (nI u)))
    simp only [x21_4 (x3 := nI a), x21_5, x21_6, x21_9, x21_64, x21_65, kp56, rf56_6, rp56_6, al57, iA57, it57, rf56_7, rp56_7, al58, iA58, it58, rf56_8, rp56_8, al59, iA59, it59, rf56_9, rp56_9, al60, iA60, it60, rf56_10, rp56_10, al61, iA61, it61, rf56_12, rp56_12, al62, iA62, it62, rf56_13, rp56_13, al63, iA63, it63, rf56_15, rp56_15, al64, iA64, it64, rf56_16, rp56_16, al65, iA65, it65, rf56_17, rp56_17, rf56_18, rp56_18, al66, iA66, it66, c0, e1, bI_True, bI_False, nI_1, Nat.reduceLeDiff, Nat.reduceEqDiff, nb0, nb1, nbI, eq_self, ex_pr, tl_s, tl_n, if_true, if_false, not_true_eq_false, not_false_eq_true, and_self, and_false, false_and, and_true, true_and]
  | k + 1, a, u, f, v4, C, c0, c4, h => by
    have e1 : nI a < nI n := nI_lt (by omega) (by omega)
    obtain ⟨f1, F1, k1⟩ := @l21i sc d g h1 h2 n sd D hx a n7 hsd hh (by omega) (n - (a + 1)) (a + 1) u f C c0 c4 (by omega)
    obtain ⟨f2, F2, k2⟩ := l21o n7 hsd hh k (a + 1) (gIn (fun b => GO D a b sd hx) a (n - (a + 1)) (a + 1) u) f1 (.int (nI n)) (C.sc F1) (by rw [F1 56 (by decide)]; exact c0) (by rw [F1 56 (by decide)]; exact c4) (by omega)
    have st : gOu (fun a b => GO D a b sd hx) n (k + 1) a u = gOu (fun a b => GO D a b sd hx) n k (a + 1) (gIn (fun b => GO D a b sd hx) a (n - (a + 1)) (a + 1) u) := rfl
    refine ⟨f2, F1.trans F2, fun r => ?_⟩
    rw [st, ← k2 r]
    simp only [x21_4 (x3 := nI a), x21_5, x21_6, x21_9, x21_12, x21_13, x21_14, x21_15, kp56, rf56_6, rp56_6, al57, iA57, it57, rf56_7, rp56_7, al58, iA58, it58, rf56_8, rp56_8, al59, iA59, it59, rf56_9, rp56_9, al60, iA60, it60, rf56_10, rp56_10, al61, iA61, it61, rf56_12, rp56_12, al62, iA62, it62, rf56_13, rp56_13, al63, iA63, it63, rf56_15, rp56_15, al64, iA64, it64, rf56_16, rp56_16, al65, iA65, it65, rf56_17, rp56_17, rf56_18, rp56_18, al66, iA66, it66, c0, e1, nI_1, k1, x21_58, x21_61, if_true, bI_True, bI_False, nI_1, Nat.reduceLeDiff, Nat.reduceEqDiff, nb0, nb1, nbI, eq_self, ex_pr, tl_s, tl_n, if_true, if_false, not_true_eq_false, not_false_eq_true, and_self, and_false, false_and, and_true, true_and]
theorem s21 {hx : Nat} (n7 : n ≤ 7) (hsd : sd < 128) (hh : hx < 2147483648) (C : CE f h1 D n) (c0 : f 56 0 = nI n) (c4 : f 56 4 = nI sd) : ∃ f', Sc f f' ∧ ∀ r, Cl sc (d + 6) 21 [.ref (56 : Nat), .int (nI hx)] (cS f g h1 h2) r ↔ r = (cS f' g h1 h2, some (.int (nI (gOu (fun a b => GO D a b sd hx) n n 0 0)))) := by
  obtain ⟨f1, F1, k1⟩ := @l21o sc d g h1 h2 n sd D hx n7 hsd hh n 0 0 f mk0 C c0 c4 (Nat.zero_add _)
  refine ⟨f1, F1, fun r => ?_⟩
  rw [lt0] at k1
  simp only [c21, x21_0, x21_1, x21_2, x21_3, k1, bI_True, bI_False, nI_1, Nat.reduceLeDiff, Nat.reduceEqDiff, nb0, nb1, nbI, eq_self, ex_pr, tl_s, tl_n, if_true, if_false, not_true_eq_false, not_false_eq_true, and_self, and_false, false_and, and_true, true_and]
theorem l78 : ∀ (k i u : Nat) (f : Nat → Nat → Int32), CY f h1 D n sd hr → i + k = 12 → ∃ f', Sc f f' ∧ ∀ r, (Rn sc (d + 6) 78 4 [.ref (17 : Nat), .int (nI u), .int (nI i)] [] (cS f g h1 h2) r ↔ r = (cS f' g h1 h2, some (.int (nI (ann (2 ^ n - 1) (gHo (fun i a b => GO D a b sd (hr + i)) n k i u))))))
  | 0, i, u, f, C, h => by
    have e : i = 12 := h
    subst e
    have e1 : (11 : Int32) < nI 12 := by decide
    have A := all_of C.2.1
    have c0 := C.2.2.1
    refine ⟨f, Sc.refl, fun r => ?_⟩
    show _ ↔ r = (cS f g h1 h2, some (.int (nI (ann (2 ^ n - 1) u))))
    simp only [c78, x78_0, x78_1, x78_2, x78_3, x78_5, x78_7, x78_10, x78_11, x78_12, x78_15, x78_16, x78_19, x78_22, x78_23, x78_24, x78_27, x78_28, x78_29, x78_32, x78_35, x78_36, x78_39, x78_42, x78_43, x78_44, x78_45, x78_46, x78_4 (x2 := nI 12), kp17, rf17_0, rp17_0, rf17_1, rp17_1, rf17_3, rp17_3, rf17_4, rp17_4, al20, iA20, iG20, rf17_6, rp17_6, rf17_7, rp17_7, rf17_8, rp17_8, al51, iA51, iG51, kp56, rf56_6, rp56_6, al57, iA57, it57, rf56_7, rp56_7, al58, iA58, it58, rf56_8, rp56_8, al59, iA59, it59, rf56_9, rp56_9, al60, iA60, it60, rf56_10, rp56_10, al61, iA61, it61, rf56_12, rp56_12, al62, iA62, it62, rf56_13, rp56_13, al63, iA63, it63, rf56_15, rp56_15, al64, iA64, it64, rf56_16, rp56_16, al65, iA65, it65, rf56_17, rp56_17, rf56_18, rp56_18, al66, iA66, it66, e1, s8, c0, A, nI_ann, bI_True, bI_False, nI_1, Nat.reduceLeDiff, Nat.reduceEqDiff, nb0, nb1, nbI, eq_self, ex_pr, tl_s, tl_n, if_true, if_false, not_true_eq_false, not_false_eq_true, and_self, and_false, false_and, and_true, true_and]
  | k + 1, i, u, f, C, h => by
    have C0 := C
    obtain ⟨ce, n7, c0, c4, c1, b4, b1⟩ := C
    have b5 := go_lt n7 b4
    have e1 : ¬ (11 : Int32) < nI i := nI_nlt (show i ≤ 11 by omega) (by decide)
    obtain ⟨f1, F1, k1⟩ := @s21 sc d f g h1 h2 n sd D (hr + i) n7 b5 (by omega) ce c0 c4
    obtain ⟨f2, F2, k2⟩ := l78 k (i + 1) (gOu (fun a b => GO D a b sd (hr + i)) n n 0 u) f1 (C0.sc F1) (by omega)
    have st : gHo (fun i a b => GO D a b sd (hr + i)) n (k + 1) i u = gHo (fun i a b => GO D a b sd (hr + i)) n k (i + 1) (gOu (fun a b => GO D a b sd (hr + i)) n n 0 u) := rfl
    refine ⟨f2, F1.trans F2, fun r => ?_⟩
    rw [st, ← k2 r, gOu_or n 0 u]
    simp only [c78, x78_0, x78_1, x78_2, x78_3, x78_5, x78_7, x78_10, x78_11, x78_12, x78_15, x78_16, x78_19, x78_22, x78_23, x78_24, x78_27, x78_28, x78_29, x78_32, x78_35, x78_36, x78_39, x78_42, x78_43, x78_44, x78_45, x78_46, x78_4 (x2 := nI i), kp17, rf17_0, rp17_0, rf17_1, rp17_1, rf17_3, rp17_3, rf17_4, rp17_4, al20, iA20, iG20, rf17_6, rp17_6, rf17_7, rp17_7, rf17_8, rp17_8, al51, iA51, iG51, kp56, rf56_6, rp56_6, al57, iA57, it57, rf56_7, rp56_7, al58, iA58, it58, rf56_8, rp56_8, al59, iA59, it59, rf56_9, rp56_9, al60, iA60, it60, rf56_10, rp56_10, al61, iA61, it61, rf56_12, rp56_12, al62, iA62, it62, rf56_13, rp56_13, al63, iA63, it63, rf56_15, rp56_15, al64, iA64, it64, rf56_16, rp56_16, al65, iA65, it65, rf56_17, rp56_17, rf56_18, rp56_18, al66, iA66, it66, e1, c1, nI_add, k1, nI_or, bI_True, bI_False, nI_1, Nat.reduceLeDiff, Nat.reduceEqDiff, nb0, nb1, nbI, eq_self, ex_pr, tl_s, tl_n, if_true, if_false, not_true_eq_false, not_false_eq_true, and_self, and_false, false_and, and_true, true_and]
theorem l156i {hx a i : Nat} {v1 : Int32} (ha : a < n) : ∀ (k b u : Nat) (f : Nat → Nat → Int32), MY f D n sd hx 7 → b + k = n → ∃ f', Sm f f' ∧ ∀ r, (Rn sc (d + 7) 156 47 [.ref (114 : Nat), .int v1, .int (nI (ann (2 ^ n - 1) u)), .int (nI i), .int (nI a), .int (nI b)] [] (cS f g h1 h2) r ↔ Rn sc (d + 7) 156 87 [.ref (114 : Nat), .int v1, .int (nI (ann (2 ^ n - 1) (gIn (fun b => GO D a b sd hx) a k b u))), .int (nI i), .int (nI a), .int (nI n)] [] (cS f' g h1 h2) r)
  | 0, b, u, f, C, h => by
    have e : b = n := h
    subst e
    have e1 : ¬ nI b < nI b := Int32.lt_irrefl
    have c0 := C.2.2.1
    refine ⟨f, Sm.refl, fun r => ?_⟩
    show _ ↔ Rn sc (d + 7) 156 87 [.ref (114 : Nat), .int v1, .int (nI (ann (2 ^ b - 1) u)), .int (nI i), .int (nI a), .int (nI b)] [] (cS f g h1 h2) r
    simp only [x156_47 (x5 := nI b), x156_49, x156_50, x156_53, kp114, rf114_5, rp114_5, al115, iA115, it115, rf114_6, rp114_6, al116, iA116, it116, rf114_7, rp114_7, al117, iA117, it117, rf114_8, rp114_8, al118, iA118, it118, rf114_9, rp114_9, al119, iA119, it119, rf114_10, rp114_10, al120, iA120, it120, rf114_16, rp114_16, al121, iA121, it121, rf114_17, rp114_17, al122, iA122, it122, rf114_18, rp114_18, al123, iA123, it123, rf114_19, rp114_19, al124, iA124, it124, rf114_20, rp114_20, al125, iA125, it125, rf114_21, rp114_21, al126, iA126, it126, rf114_22, rp114_22, al127, iA127, it127, rf114_23, rp114_23, al128, iA128, it128, rf114_27, rp114_27, al129, iA129, it129, rf114_28, rp114_28, al130, iA130, it130, rf114_29, rp114_29, al131, iA131, it131, rf114_30, rp114_30, al132, iA132, it132, rf114_31, rp114_31, al133, iA133, it133, rf114_41, rp114_41, al134, iA134, it134, rf114_42, rp114_42, al135, iA135, it135, rf114_44, rp114_44, al136, iA136, it136, rf114_45, rp114_45, al137, iA137, it137, rf114_55, rp114_55, al138, iA138, it138, rf114_56, rp114_56, al139, iA139, it139, rf114_57, rp114_57, al140, iA140, it140, rf114_58, rp114_58, al141, iA141, it141, rf114_59, rp114_59, al142, iA142, it142, rf114_60, rp114_60, al143, iA143, it143, rf114_61, rp114_61, al144, iA144, it144, rf114_62, rp114_62, al145, iA145, it145, rf114_63, rp114_63, al146, iA146, it146, rf114_64, rp114_64, al147, iA147, it147, rf114_66, rp114_66, al148, iA148, it148, rf114_67, rp114_67, al149, iA149, it149, rf114_68, rp114_68, al150, iA150, it150, rf114_69, rp114_69, al151, iA151, it151, rf114_70, rp114_70, al152, iA152, it152, c0, e1, bI_True, bI_False, nI_1, Nat.reduceLeDiff, Nat.reduceEqDiff, nb0, nb1, nbI, eq_self, ex_pr, tl_s, tl_n, if_true, if_false, not_true_eq_false, not_false_eq_true, and_self, and_false, false_and, and_true, true_and]
  | k + 1, b, u, f, C, h => by
    have n7 := C.2.1
    have c0 := C.2.2.1
    have e1 : nI b < nI n := nI_lt (by omega) (by omega)
    obtain ⟨f1, F1, k1⟩ := @mgo7 sc f g h1 h2 n hx sd D a b C ha (by omega) (d + 1)
    have q1 : (1 : Int32) <<< (nI a &&& 31) = nI (2 ^ a) := shl1_of (by omega)
    have q2 : (1 : Int32) <<< (nI b &&& 31) = nI (2 ^ b) := shl1_of (by omega)
    obtain ⟨f2, F2, k2⟩ := l156i (v1 := v1) (i := i) ha k (b + 1) (if GO D a b sd hx = true then u ||| (2 ^ a ||| 2 ^ b) else u) f1 (C.sm F1) (by omega)
    have st : gIn (fun b => GO D a b sd hx) a (k + 1) b u = gIn (fun b => GO D a b sd hx) a k (b + 1) (if GO D a b sd hx = true then u ||| (2 ^ a ||| 2 ^ b) else u) := rfl
    refine ⟨f2, F1.trans F2, fun r => ?_⟩
    rw [st, ← k2 r]
    by_cases y : GO D a b sd hx = true
    · rw [if_pos y, ← ann_or]
      simp only [x156_47 (x5 := nI b), x156_49, x156_50, x156_53, x156_56, x156_57, x156_59, x156_61, x156_64, x156_67, x156_68, x156_69, x156_71, x156_72, x156_73, x156_75, x156_76, x156_77, x156_78, x156_79, x156_80, x156_81, x156_84, kp114, rf114_5, rp114_5, al115, iA115, it115, rf114_6, rp114_6, al116, iA116, it116, rf114_7, rp114_7, al117, iA117, it117, rf114_8, rp114_8, al118, iA118, it118, rf114_9, rp114_9, al119, iA119, it119, rf114_10, rp114_10, al120, iA120, it120, rf114_16, rp114_16, al121, iA121, it121, rf114_17, rp114_17, al122, iA122, it122, rf114_18, rp114_18, al123, iA123, it123, rf114_19, rp114_19, al124, iA124, it124, rf114_20, rp114_20, al125, iA125, it125, rf114_21, rp114_21, al126, iA126, it126, rf114_22, rp114_22, al127, iA127, it127, rf114_23, rp114_23, al128, iA128, it128, rf114_27, rp114_27, al129, iA129, it129, rf114_28, rp114_28, al130, iA130, it130, rf114_29, rp114_29, al131, iA131, it131, rf114_30, rp114_30, al132, iA132, it132, rf114_31, rp114_31, al133, iA133, it133, rf114_41, rp114_41, al134, iA134, it134, rf114_42, rp114_42, al135, iA135, it135, rf114_44, rp114_44, al136, iA136, it136, rf114_45, rp114_45, al137, iA137, it137, rf114_55, rp114_55, al138, iA138, it138, rf114_56, rp114_56, al139, iA139, it139, rf114_57, rp114_57, al140, iA140, it140, rf114_58, rp114_58, al141, iA141, it141, rf114_59, rp114_59, al142, iA142, it142, rf114_60, rp114_60, al143, iA143, it143, rf114_61, rp114_61, al144, iA144, it144, rf114_62, rp114_62, al145, iA145, it145, rf114_63, rp114_63, al146, iA146, it146, rf114_64, rp114_64, al147, iA147, it147, rf114_66, rp114_66, al148, iA148, it148, rf114_67, rp114_67, al149, iA149, it149, rf114_68, rp114_68, al150, iA150, it150, rf114_69, rp114_69, al151, iA151, it151, rf114_70, rp114_70, al152, iA152, it152, c0, e1, k1, bI_t y, zi1, q1, q2, nI_or, nI_ann, bI_True, bI_False, nI_1, Nat.reduceLeDiff, Nat.reduceEqDiff, nb0, nb1, nbI, eq_self, ex_pr, tl_s, tl_n, if_true, if_false, not_true_eq_false, not_false_eq_true, and_self, and_false, false_and, and_true, true_and]
    · rw [if_neg y]
      simp only [x156_47 (x5 := nI b), x156_49, x156_50, x156_53, x156_56, x156_57, x156_59, x156_61, x156_64, x156_81, x156_84, kp114, rf114_5, rp114_5, al115, iA115, it115, rf114_6, rp114_6, al116, iA116, it116, rf114_7, rp114_7, al117, iA117, it117, rf114_8, rp114_8, al118, iA118, it118, rf114_9, rp114_9, al119, iA119, it119, rf114_10, rp114_10, al120, iA120, it120, rf114_16, rp114_16, al121, iA121, it121, rf114_17, rp114_17, al122, iA122, it122, rf114_18, rp114_18, al123, iA123, it123, rf114_19, rp114_19, al124, iA124, it124, rf114_20, rp114_20, al125, iA125, it125, rf114_21, rp114_21, al126, iA126, it126, rf114_22, rp114_22, al127, iA127, it127, rf114_23, rp114_23, al128, iA128, it128, rf114_27, rp114_27, al129, iA129, it129, rf114_28, rp114_28, al130, iA130, it130, rf114_29, rp114_29, al131, iA131, it131, rf114_30, rp114_30, al132, iA132, it132, rf114_31, rp114_31, al133, iA133, it133, rf114_41, rp114_41, al134, iA134, it134, rf114_42, rp114_42, al135, iA135, it135, rf114_44, rp114_44, al136, iA136, it136, rf114_45, rp114_45, al137, iA137, it137, rf114_55, rp114_55, al138, iA138, it138, rf114_56, rp114_56, al139, iA139, it139, rf114_57, rp114_57, al140, iA140, it140, rf114_58, rp114_58, al141, iA141, it141, rf114_59, rp114_59, al142, iA142, it142, rf114_60, rp114_60, al143, iA143, it143, rf114_61, rp114_61, al144, iA144, it144, rf114_62, rp114_62, al145, iA145, it145, rf114_63, rp114_63, al146, iA146, it146, rf114_64, rp114_64, al147, iA147, it147, rf114_66, rp114_66, al148, iA148, it148, rf114_67, rp114_67, al149, iA149, it149, rf114_68, rp114_68, al150, iA150, it150, rf114_69, rp114_69, al151, iA151, it151, rf114_70, rp114_70, al152, iA152, it152, c0, e1, k1, bI_f y, bI_True, bI_False, nI_1, Nat.reduceLeDiff, Nat.reduceEqDiff, nb0, nb1, nbI, eq_self, ex_pr, tl_s, tl_n, if_true, if_false, not_true_eq_false, not_false_eq_true, and_self, and_false, false_and, and_true, true_and]
theorem l156o {hx i : Nat} {v1 : Int32} : ∀ (k a u : Nat) (f : Nat → Nat → Int32) (v5 : Value), MY f D n sd hx 7 → a + k = n → ∃ f' w5, Sm f f' ∧ ∀ r, (Rn sc (d + 7) 156 32 [.ref (114 : Nat), .int v1, .int (nI (ann (2 ^ n - 1) u)), .int (nI i), .int (nI a), v5] [] (cS f g h1 h2) r ↔ Rn sc (d + 7) 156 93 [.ref (114 : Nat), .int v1, .int (nI (ann (2 ^ n - 1) (gOu (fun a b => GO D a b sd hx) n k a u))), .int (nI i), .int (nI n), w5] [] (cS f' g h1 h2) r)
  | 0, a, u, f, v5, C, h => by
    have e : a = n := h
    subst e
    have e1 : ¬ nI a < nI a := Int32.lt_irrefl
    have c0 := C.2.2.1
    refine ⟨f, v5, Sm.refl, fun r => ?_⟩
    show _ ↔ Rn sc (d + 7) 156 93 [.ref (114 : Nat), .int v1, .int (nI (ann (2 ^ a - 1) u)), .int (nI i), .int (nI a), v5] [] (cS f g h1 h2) r
    simp only [x156_32 (x4 := nI a), x156_34, x156_35, x156_38, kp114, rf114_5, rp114_5, al115, iA115, it115, rf114_6, rp114_6, al116, iA116, it116, rf114_7, rp114_7, al117, iA117, it117, rf114_8, rp114_8, al118, iA118, it118, rf114_9, rp114_9, al119, iA119, it119, rf114_10, rp114_10, al120, iA120, it120, rf114_16, rp114_16, al121, iA121, it121, rf114_17, rp114_17, al122, iA122, it122, rf114_18, rp114_18, al123, iA123, it123, rf114_19, rp114_19, al124, iA124, it124, rf114_20, rp114_20, al125, iA125, it125, rf114_21, rp114_21, al126, iA126, it126, rf114_22, rp114_22, al127, iA127, it127, rf114_23, rp114_23, al128, iA128, it128, rf114_27, rp114_27, al129, iA129, it129, rf114_28, rp114_28, al130, iA130, it130, rf114_29, rp114_29, al131, iA131, it131, rf114_30, rp114_30, al132, iA132, it132, rf114_31, rp114_31, al133, iA133, it133, rf114_41, rp114_41, al134, iA134, it134, rf114_42, rp114_42, al135, iA135, it135, rf114_44, rp114_44, al136, iA136, it136, rf114_45, rp114_45, al137, iA137, it137, rf114_55, rp114_55, al138, iA138, it138, rf114_56, rp114_56, al139, iA139, it139, rf114_57, rp114_57, al140, iA140, it140, rf114_58, rp114_58, al141, iA141, it141, rf114_59, rp114_59, al142, iA142, it142, rf114_60, rp114_60, al143, iA143, it143, rf114_61, rp114_61, al144, iA144, it144, rf114_62, rp114_62, al145, iA145, it145, rf114_63, rp114_63, al146, iA146, it146, rf114_64, rp114_64, al147, iA147, it147, rf114_66, rp114_66, al148, iA148, it148, rf114_67, rp114_67, al149, iA149, it149, rf114_68, rp114_68, al150, iA150, it150, rf114_69, rp114_69, al151, iA151, it151, rf114_70, rp114_70, al152, iA152, it152, c0, e1, bI_True, bI_False, nI_1, Nat.reduceLeDiff, Nat.reduceEqDiff, nb0, nb1, nbI, eq_self, ex_pr, tl_s, tl_n, if_true, if_false, not_true_eq_false, not_false_eq_true, and_self, and_false, false_and, and_true, true_and]
  | k + 1, a, u, f, v5, C, h => by
    have n7 := C.2.1
    have c0 := C.2.2.1
    have e1 : nI a < nI n := nI_lt (by omega) (by omega)
    obtain ⟨f1, F1, k1⟩ := @l156i sc d g h1 h2 n sd D hx a i v1 (by omega) (n - (a + 1)) (a + 1) u f C (by omega)
    obtain ⟨f2, w5, F2, k2⟩ := l156o (v1 := v1) (i := i) k (a + 1) (gIn (fun b => GO D a b sd hx) a (n - (a + 1)) (a + 1) u) f1 (.int (nI n)) (C.sm F1) (by omega)
    have st : gOu (fun a b => GO D a b sd hx) n (k + 1) a u = gOu (fun a b => GO D a b sd hx) n k (a + 1) (gIn (fun b => GO D a b sd hx) a (n - (a + 1)) (a + 1) u) := rfl
    refine ⟨f2, w5, F1.trans F2, fun r => ?_⟩
    rw [st, ← k2 r]
    simp only [x156_32 (x4 := nI a), x156_34, x156_35, x156_38, x156_41, x156_43, x156_44, x156_45, kp114, rf114_5, rp114_5, al115, iA115, it115, rf114_6, rp114_6, al116, iA116, it116, rf114_7, rp114_7, al117, iA117, it117, rf114_8, rp114_8, al118, iA118, it118, rf114_9, rp114_9, al119, iA119, it119, rf114_10, rp114_10, al120, iA120, it120, rf114_16, rp114_16, al121, iA121, it121, rf114_17, rp114_17, al122, iA122, it122, rf114_18, rp114_18, al123, iA123, it123, rf114_19, rp114_19, al124, iA124, it124, rf114_20, rp114_20, al125, iA125, it125, rf114_21, rp114_21, al126, iA126, it126, rf114_22, rp114_22, al127, iA127, it127, rf114_23, rp114_23, al128, iA128, it128, rf114_27, rp114_27, al129, iA129, it129, rf114_28, rp114_28, al130, iA130, it130, rf114_29, rp114_29, al131, iA131, it131, rf114_30, rp114_30, al132, iA132, it132, rf114_31, rp114_31, al133, iA133, it133, rf114_41, rp114_41, al134, iA134, it134, rf114_42, rp114_42, al135, iA135, it135, rf114_44, rp114_44, al136, iA136, it136, rf114_45, rp114_45, al137, iA137, it137, rf114_55, rp114_55, al138, iA138, it138, rf114_56, rp114_56, al139, iA139, it139, rf114_57, rp114_57, al140, iA140, it140, rf114_58, rp114_58, al141, iA141, it141, rf114_59, rp114_59, al142, iA142, it142, rf114_60, rp114_60, al143, iA143, it143, rf114_61, rp114_61, al144, iA144, it144, rf114_62, rp114_62, al145, iA145, it145, rf114_63, rp114_63, al146, iA146, it146, rf114_64, rp114_64, al147, iA147, it147, rf114_66, rp114_66, al148, iA148, it148, rf114_67, rp114_67, al149, iA149, it149, rf114_68, rp114_68, al150, iA150, it150, rf114_69, rp114_69, al151, iA151, it151, rf114_70, rp114_70, al152, iA152, it152, c0, e1, nI_1, k1, x156_87, x156_90, if_true, bI_True, bI_False, nI_1, Nat.reduceLeDiff, Nat.reduceEqDiff, nb0, nb1, nbI, eq_self, ex_pr, tl_s, tl_n, if_true, if_false, not_true_eq_false, not_false_eq_true, and_self, and_false, false_and, and_true, true_and]
theorem l156 (hr9 : hr ≤ 9999) : ∀ (k i u : Nat) (f : Nat → Nat → Int32) (hx : Nat) (v4 v5 : Value), MY f D n sd hx 7 → i + k = 12 → ∃ f', Fx f f' ∧ f' 114 1 = f 114 1 ∧ f' 114 2 = nI hr ∧ f' 114 4 = f 114 4 ∧ ∀ r, (Rn sc (d + 7) 156 16 [.ref (114 : Nat), .int (nI hr), .int (nI (ann (2 ^ n - 1) u)), .int (nI i), v4, v5] [] (cS f g h1 h2) r ↔ r = (cS f' g h1 h2, some (.int (nI (ann (2 ^ n - 1) (gHo (fun i a b => GO D a b sd (hr + i)) n k i u))))))
  | 0, i, u, f, hx, v4, v5, C, h => by
    have e : i = 12 := h
    subst e
    have e1 : ¬ nI 12 < 12 := by decide
    refine ⟨u2 f 114 2 (nI hr), Fx.u (by omega), by rw [u2_nn (by omega)], u2_ss, by rw [u2_nn (by omega)], fun r => ?_⟩
    show _ ↔ r = (cS _ g h1 h2, some (.int (nI (ann (2 ^ n - 1) u))))
    simp only [x156_16 (x3 := nI 12), x156_17, x156_19, x156_99, x156_100, x156_101, x156_104, x156_105, kp114, rf114_5, rp114_5, al115, iA115, it115, rf114_6, rp114_6, al116, iA116, it116, rf114_7, rp114_7, al117, iA117, it117, rf114_8, rp114_8, al118, iA118, it118, rf114_9, rp114_9, al119, iA119, it119, rf114_10, rp114_10, al120, iA120, it120, rf114_16, rp114_16, al121, iA121, it121, rf114_17, rp114_17, al122, iA122, it122, rf114_18, rp114_18, al123, iA123, it123, rf114_19, rp114_19, al124, iA124, it124, rf114_20, rp114_20, al125, iA125, it125, rf114_21, rp114_21, al126, iA126, it126, rf114_22, rp114_22, al127, iA127, it127, rf114_23, rp114_23, al128, iA128, it128, rf114_27, rp114_27, al129, iA129, it129, rf114_28, rp114_28, al130, iA130, it130, rf114_29, rp114_29, al131, iA131, it131, rf114_30, rp114_30, al132, iA132, it132, rf114_31, rp114_31, al133, iA133, it133, rf114_41, rp114_41, al134, iA134, it134, rf114_42, rp114_42, al135, iA135, it135, rf114_44, rp114_44, al136, iA136, it136, rf114_45, rp114_45, al137, iA137, it137, rf114_55, rp114_55, al138, iA138, it138, rf114_56, rp114_56, al139, iA139, it139, rf114_57, rp114_57, al140, iA140, it140, rf114_58, rp114_58, al141, iA141, it141, rf114_59, rp114_59, al142, iA142, it142, rf114_60, rp114_60, al143, iA143, it143, rf114_61, rp114_61, al144, iA144, it144, rf114_62, rp114_62, al145, iA145, it145, rf114_63, rp114_63, al146, iA146, it146, rf114_64, rp114_64, al147, iA147, it147, rf114_66, rp114_66, al148, iA148, it148, rf114_67, rp114_67, al149, iA149, it149, rf114_68, rp114_68, al150, iA150, it150, rf114_69, rp114_69, al151, iA151, it151, rf114_70, rp114_70, al152, iA152, it152, e1, bI_True, bI_False, nI_1, Nat.reduceLeDiff, Nat.reduceEqDiff, nb0, nb1, nbI, eq_self, ex_pr, tl_s, tl_n, if_true, if_false, not_true_eq_false, not_false_eq_true, and_self, and_false, false_and, and_true, true_and]
  | k + 1, i, u, f, hx, v4, v5, C, h => by
    have e1 : nI i < 12 := nI_lt (show i < 12 by omega) (by decide)
    have C1 := C.hour (hr' := hr + i) (by omega)
    obtain ⟨f1, w5, F1, k1⟩ := @l156o sc d g h1 h2 n sd D (hr + i) i (nI hr) n 0 u (u2 f 114 2 (nI (hr + i))) v5 C1 (Nat.zero_add _)
    have FF : Fx f f1 := (Fx.u (by omega)).trans F1.fq.fx
    obtain ⟨f2, F2, x1, x2, x4, k2⟩ := l156 hr9 k (i + 1) (gOu (fun a b => GO D a b sd (hr + i)) n n 0 u) f1 (hr + i) (.int (nI n)) w5 (C1.sm F1) (by omega)
    have st : gHo (fun i a b => GO D a b sd (hr + i)) n (k + 1) i u = gHo (fun i a b => GO D a b sd (hr + i)) n k (i + 1) (gOu (fun a b => GO D a b sd (hr + i)) n n 0 u) := rfl
    rw [lt0] at k1
    refine ⟨f2, FF.trans F2, by rw [x1, F1 114 (by decide), u2_nn (by omega)], x2, by rw [x4, F1 114 (by decide), u2_nn (by omega)], fun r => ?_⟩
    rw [st, ← k2 r]
    simp only [x156_16 (x3 := nI i), x156_17, x156_19, x156_22, x156_23, x156_24, x156_25, x156_26, x156_29, x156_30, kp114, rf114_5, rp114_5, al115, iA115, it115, rf114_6, rp114_6, al116, iA116, it116, rf114_7, rp114_7, al117, iA117, it117, rf114_8, rp114_8, al118, iA118, it118, rf114_9, rp114_9, al119, iA119, it119, rf114_10, rp114_10, al120, iA120, it120, rf114_16, rp114_16, al121, iA121, it121, rf114_17, rp114_17, al122, iA122, it122, rf114_18, rp114_18, al123, iA123, it123, rf114_19, rp114_19, al124, iA124, it124, rf114_20, rp114_20, al125, iA125, it125, rf114_21, rp114_21, al126, iA126, it126, rf114_22, rp114_22, al127, iA127, it127, rf114_23, rp114_23, al128, iA128, it128, rf114_27, rp114_27, al129, iA129, it129, rf114_28, rp114_28, al130, iA130, it130, rf114_29, rp114_29, al131, iA131, it131, rf114_30, rp114_30, al132, iA132, it132, rf114_31, rp114_31, al133, iA133, it133, rf114_41, rp114_41, al134, iA134, it134, rf114_42, rp114_42, al135, iA135, it135, rf114_44, rp114_44, al136, iA136, it136, rf114_45, rp114_45, al137, iA137, it137, rf114_55, rp114_55, al138, iA138, it138, rf114_56, rp114_56, al139, iA139, it139, rf114_57, rp114_57, al140, iA140, it140, rf114_58, rp114_58, al141, iA141, it141, rf114_59, rp114_59, al142, iA142, it142, rf114_60, rp114_60, al143, iA143, it143, rf114_61, rp114_61, al144, iA144, it144, rf114_62, rp114_62, al145, iA145, it145, rf114_63, rp114_63, al146, iA146, it146, rf114_64, rp114_64, al147, iA147, it147, rf114_66, rp114_66, al148, iA148, it148, rf114_67, rp114_67, al149, iA149, it149, rf114_68, rp114_68, al150, iA150, it150, rf114_69, rp114_69, al151, iA151, it151, rf114_70, rp114_70, al152, iA152, it152, e1, nI_add, k1, x156_93, x156_96, if_true, bI_True, bI_False, nI_1, Nat.reduceLeDiff, Nat.reduceEqDiff, nb0, nb1, nbI, eq_self, ex_pr, tl_s, tl_n, if_true, if_false, not_true_eq_false, not_false_eq_true, and_self, and_false, false_and, and_true, true_and]
theorem op_never (X : XP f g h1 h2 n hr wn dk sd gb pc bc W D hc HS) : OPI sc (d + 30) 78 156 [] f g h1 h2 := by
  have n7 := X.d.b0
  have A := all_of n7
  refine opi_q (v := nI (ann (2 ^ n - 1) (gHo (fun i a b => GO D a b sd (hr + i)) n 12 0 0))) X ?_ fun f1 X1 => ?_
  · obtain ⟨f', F, k⟩ := @l78 sc (d + 23) g h1 h2 n hr sd D 12 0 0 f X.cy rfl
    refine ⟨f', F.fq, ?_⟩
    rw [lt0] at k
    simp only [c78, x78_0, x78_1, x78_2, x78_3, x78_5, x78_7, x78_10, x78_11, x78_12, x78_15, x78_16, x78_19, x78_22, x78_23, x78_24, x78_27, x78_28, x78_29, x78_32, x78_35, x78_36, x78_39, x78_42, x78_43, x78_44, x78_45, x78_46, k, bI_True, bI_False, nI_1, Nat.reduceLeDiff, Nat.reduceEqDiff, nb0, nb1, nbI, eq_self, ex_pr, tl_s, tl_n, if_true, if_false, not_true_eq_false, not_false_eq_true, and_self, and_false, false_and, and_true, true_and]
  · have m0 : f1 114 0 = nI n := X1.d.m0
    have m1 : f1 114 1 = nI sd := X1.d.m1
    have m2 : f1 114 2 = nI hr := X1.d.m2
    obtain ⟨f', F, x1, x2, x4, k⟩ := @l156 sc (d + 22) g h1 h2 n hr sd D X.d.b1 12 0 0 f1 hr mk0 mk0 X1.my rfl
    refine ⟨f', F.fq (by rw [x1]) (by rw [x2, m2]) x4, ?_⟩
    rw [lt0, ann_0] at k
    simp only [c156, x156_0, x156_1, x156_4, x156_5, x156_6, x156_7, x156_10, x156_11, x156_12, x156_13, x156_14, x156_15, x156_17, x156_19, x156_22, x156_23, x156_24, x156_25, x156_26, x156_29, x156_30, x156_34, x156_35, x156_38, x156_41, x156_43, x156_44, x156_45, x156_49, x156_50, x156_53, x156_56, x156_57, x156_59, x156_61, x156_64, x156_67, x156_68, x156_69, x156_71, x156_72, x156_73, x156_75, x156_76, x156_77, x156_78, x156_79, x156_80, x156_81, x156_84, x156_87, x156_90, x156_93, x156_96, x156_99, x156_100, x156_101, x156_104, x156_105, kp114, rf114_5, rp114_5, al115, iA115, it115, rf114_6, rp114_6, al116, iA116, it116, rf114_7, rp114_7, al117, iA117, it117, rf114_8, rp114_8, al118, iA118, it118, rf114_9, rp114_9, al119, iA119, it119, rf114_10, rp114_10, al120, iA120, it120, rf114_16, rp114_16, al121, iA121, it121, rf114_17, rp114_17, al122, iA122, it122, rf114_18, rp114_18, al123, iA123, it123, rf114_19, rp114_19, al124, iA124, it124, rf114_20, rp114_20, al125, iA125, it125, rf114_21, rp114_21, al126, iA126, it126, rf114_22, rp114_22, al127, iA127, it127, rf114_23, rp114_23, al128, iA128, it128, rf114_27, rp114_27, al129, iA129, it129, rf114_28, rp114_28, al130, iA130, it130, rf114_29, rp114_29, al131, iA131, it131, rf114_30, rp114_30, al132, iA132, it132, rf114_31, rp114_31, al133, iA133, it133, rf114_41, rp114_41, al134, iA134, it134, rf114_42, rp114_42, al135, iA135, it135, rf114_44, rp114_44, al136, iA136, it136, rf114_45, rp114_45, al137, iA137, it137, rf114_55, rp114_55, al138, iA138, it138, rf114_56, rp114_56, al139, iA139, it139, rf114_57, rp114_57, al140, iA140, it140, rf114_58, rp114_58, al141, iA141, it141, rf114_59, rp114_59, al142, iA142, it142, rf114_60, rp114_60, al143, iA143, it143, rf114_61, rp114_61, al144, iA144, it144, rf114_62, rp114_62, al145, iA145, it145, rf114_63, rp114_63, al146, iA146, it146, rf114_64, rp114_64, al147, iA147, it147, rf114_66, rp114_66, al148, iA148, it148, rf114_67, rp114_67, al149, iA149, it149, rf114_68, rp114_68, al150, iA150, it150, rf114_69, rp114_69, al151, iA151, it151, rf114_70, rp114_70, al152, iA152, it152, m0, m2, A, k, bI_True, bI_False, nI_1, Nat.reduceLeDiff, Nat.reduceEqDiff, nb0, nb1, nbI, eq_self, ex_pr, tl_s, tl_n, if_true, if_false, not_true_eq_false, not_false_eq_true, and_self, and_false, false_and, and_true, true_and]
end Q9
