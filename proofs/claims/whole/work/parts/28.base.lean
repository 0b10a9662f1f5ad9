/-! facts of numbers; the small methods -/
theorem inb_nI {k n : Nat} (h : k < n) (hn : n < 2147483648) : inb (nI k) n = true := by
  have h2 := nI_in h (show n < 2 ^ 31 from hn)
  unfold inb
  simp only [not_or] at h2
  simp only [h2, decide_false, Bool.or_self, Bool.not_false]
theorem cl_nI {k : Nat} (h : k < 2147483648) : (nI k).toNatClampNeg = k := nI_clamp h
theorem lit_nI (n : Nat) : (OfNat.ofNat n : Int32) = nI n := rfl
def bI (c : Prop) [Decidable c] : Int32 := if c then 1 else 0
theorem if_req {c : Prop} [Decidable c] {α : Type} {r a b : α} : (if c then r = a else r = b) ↔ r = if c then a else b := by
  split <;> exact Iff.rfl
theorem ite_pt {c : Prop} [Decidable c] {σ : aS} {a b : Int32} : (if c then ((σ, some (Value.int a)) : aRes) else (σ, some (Value.int b))) = (σ, some (Value.int (if c then a else b))) := by
  split <;> rfl
theorem ex_pr {α β : Type} {a : α} {b : β} {P : α → β → Prop} : (∃ x y, (x, y) = (a, b) ∧ P x y) ↔ P a b := ⟨fun ⟨_, _, e, h⟩ => by cases e; exact h, fun h => ⟨_, _, rfl, h⟩⟩
theorem tl_s {x : Value} {st : List Value} : (some x).toList ++ st = x :: st := rfl
theorem tl_n {st : List Value} : (none : Option Value).toList ++ st = st := rfl
theorem nb0 : (0 : Int32) &&& 1 = 0 := by decide
theorem nb1 : (1 : Int32) &&& 1 = 1 := by decide
theorem nbI {c : Prop} [Decidable c] : bI c &&& 1 = bI c := by
  unfold bI
  split <;> decide
section SM
variable {sc : aSc} {d : Nat} {r : aRes} {f : Nat → Nat → Int32} {g : Nat → Nat → Int64} {h1 h2 : Nat} {σ : aS}
theorem s102 {x y : Int32} : Cl sc (d + 1) 102 [.int x, .int y] σ r ↔ r = (σ, some (.int (bI (¬ x < 0 ∧ ¬ y < x)))) := by
  simp only [c102, x102_0, x102_1, x102_4, x102_5, x102_6, x102_9, x102_10, x102_13, x102_14, Nat.reduceLeDiff, Nat.reduceEqDiff, nb0, nb1, nbI, eq_self, ex_pr, tl_s, tl_n, if_true, if_false, not_true_eq_false, not_false_eq_true, and_self, and_false, false_and, and_true, true_and]
  unfold bI
  by_cases a : x < 0 <;> by_cases b : y < x <;> simp only [c102, x102_0, x102_1, x102_4, x102_5, x102_6, x102_9, x102_10, x102_13, x102_14, a, b, Nat.reduceLeDiff, Nat.reduceEqDiff, nb0, nb1, nbI, eq_self, ex_pr, tl_s, tl_n, if_true, if_false, not_true_eq_false, not_false_eq_true, and_self, and_false, false_and, and_true, true_and]
theorem s103 {x : Int32} : Cl sc (d + 2) 103 [.int x] σ r ↔ r = (σ, some (.int (bI (¬ x < 0 ∧ ¬ 5 < x)))) := by
  simp only [c103, x103_0, x103_1, x103_2, x103_5, s102, Nat.reduceLeDiff, Nat.reduceEqDiff, nb0, nb1, nbI, eq_self, ex_pr, tl_s, tl_n, if_true, if_false, not_true_eq_false, not_false_eq_true, and_self, and_false, false_and, and_true, true_and]
theorem s7 {x : Int32} : Cl sc (d + 1) 7 [.ref (56 : Nat), .int x] (cS f g h1 h2) r ↔ r = (cS f g h1 h2, some (.int (bI (¬ x < 0 ∧ x < f 56 0)))) := by
  simp only [c7, x7_0, x7_1, x7_4, x7_5, x7_6, x7_9, x7_12, x7_13, x7_16, x7_17, kp56, rf56_6, rp56_6, al57, iA57, it57, rf56_7, rp56_7, al58, iA58, it58, rf56_8, rp56_8, al59, iA59, it59, rf56_9, rp56_9, al60, iA60, it60, rf56_10, rp56_10, al61, iA61, it61, rf56_12, rp56_12, al62, iA62, it62, rf56_13, rp56_13, al63, iA63, it63, rf56_15, rp56_15, al64, iA64, it64, rf56_16, rp56_16, al65, iA65, it65, rf56_17, rp56_17, rf56_18, rp56_18, al66, iA66, it66, Nat.reduceLeDiff, Nat.reduceEqDiff, nb0, nb1, nbI, eq_self, ex_pr, tl_s, tl_n, if_true, if_false, not_true_eq_false, not_false_eq_true, and_self, and_false, false_and, and_true, true_and]
  unfold bI
  by_cases a : x < 0 <;> by_cases b : x < f 56 0 <;> simp only [c7, x7_0, x7_1, x7_4, x7_5, x7_6, x7_9, x7_12, x7_13, x7_16, x7_17, kp56, rf56_6, rp56_6, al57, iA57, it57, rf56_7, rp56_7, al58, iA58, it58, rf56_8, rp56_8, al59, iA59, it59, rf56_9, rp56_9, al60, iA60, it60, rf56_10, rp56_10, al61, iA61, it61, rf56_12, rp56_12, al62, iA62, it62, rf56_13, rp56_13, al63, iA63, it63, rf56_15, rp56_15, al64, iA64, it64, rf56_16, rp56_16, al65, iA65, it65, rf56_17, rp56_17, rf56_18, rp56_18, al66, iA66, it66, a, b, Nat.reduceLeDiff, Nat.reduceEqDiff, nb0, nb1, nbI, eq_self, ex_pr, tl_s, tl_n, if_true, if_false, not_true_eq_false, not_false_eq_true, and_self, and_false, false_and, and_true, true_and]
theorem s8 : Cl sc (d + 1) 8 [.ref (56 : Nat)] (cS f g h1 h2) r ↔ r = (cS f g h1 h2, some (.int ((1 <<< (f 56 0 &&& 31)) - 1))) := by
  simp only [c8, x8_0, x8_1, x8_2, x8_5, x8_6, x8_7, x8_8, kp56, rf56_6, rp56_6, al57, iA57, it57, rf56_7, rp56_7, al58, iA58, it58, rf56_8, rp56_8, al59, iA59, it59, rf56_9, rp56_9, al60, iA60, it60, rf56_10, rp56_10, al61, iA61, it61, rf56_12, rp56_12, al62, iA62, it62, rf56_13, rp56_13, al63, iA63, it63, rf56_15, rp56_15, al64, iA64, it64, rf56_16, rp56_16, al65, iA65, it65, rf56_17, rp56_17, rf56_18, rp56_18, al66, iA66, it66, Nat.reduceLeDiff, Nat.reduceEqDiff, nb0, nb1, nbI, eq_self, ex_pr, tl_s, tl_n, if_true, if_false, not_true_eq_false, not_false_eq_true, and_self, and_false, false_and, and_true, true_and]
theorem s12 {x y z : Int32} : Cl sc (d + 1) 12 [.int x, .int y, .int z] σ r ↔ r = (σ, some (.int ((x &&& ((1 <<< (y &&& 31)) ^^^ -1)) ||| (z <<< (y &&& 31))))) := by
  simp only [c12, x12_0, x12_1, x12_2, x12_3, x12_4, x12_5, x12_6, x12_7, x12_8, x12_9, x12_10, x12_11, Nat.reduceLeDiff, Nat.reduceEqDiff, nb0, nb1, nbI, eq_self, ex_pr, tl_s, tl_n, if_true, if_false, not_true_eq_false, not_false_eq_true, and_self, and_false, false_and, and_true, true_and]
theorem s13 {x : Int32} : Cl sc (d + 1) 13 [.ref (56 : Nat), .int x] (cS f g h1 h2) r ↔ r = (cS f g h1 h2, some (.int ((f 56 4 >>> (x &&& 31)) &&& 1))) := by
  simp only [c13, x13_0, x13_1, x13_4, x13_5, x13_6, x13_7, x13_8, kp56, rf56_6, rp56_6, al57, iA57, it57, rf56_7, rp56_7, al58, iA58, it58, rf56_8, rp56_8, al59, iA59, it59, rf56_9, rp56_9, al60, iA60, it60, rf56_10, rp56_10, al61, iA61, it61, rf56_12, rp56_12, al62, iA62, it62, rf56_13, rp56_13, al63, iA63, it63, rf56_15, rp56_15, al64, iA64, it64, rf56_16, rp56_16, al65, iA65, it65, rf56_17, rp56_17, rf56_18, rp56_18, al66, iA66, it66, Nat.reduceLeDiff, Nat.reduceEqDiff, nb0, nb1, nbI, eq_self, ex_pr, tl_s, tl_n, if_true, if_false, not_true_eq_false, not_false_eq_true, and_self, and_false, false_and, and_true, true_and]
theorem s14 {x y z : Int32} : Cl sc (d + 1) 14 [.ref (56 : Nat), .int x, .int y, .int z] σ r ↔ r = (σ, some (.int (bI (¬ (z >>> (x &&& 31)) &&& 1 = (z >>> (y &&& 31)) &&& 1)))) := by
  simp only [c14, x14_0, x14_1, x14_2, x14_3, x14_4, x14_5, x14_6, x14_7, x14_8, x14_9, x14_10, x14_13, x14_14, x14_17, x14_18, Nat.reduceLeDiff, Nat.reduceEqDiff, nb0, nb1, nbI, eq_self, ex_pr, tl_s, tl_n, if_true, if_false, not_true_eq_false, not_false_eq_true, and_self, and_false, false_and, and_true, true_and]
  unfold bI
  by_cases a : (z >>> (x &&& 31)) &&& 1 = (z >>> (y &&& 31)) &&& 1 <;> simp only [c14, x14_0, x14_1, x14_2, x14_3, x14_4, x14_5, x14_6, x14_7, x14_8, x14_9, x14_10, x14_13, x14_14, x14_17, x14_18, a, Nat.reduceLeDiff, Nat.reduceEqDiff, nb0, nb1, nbI, eq_self, ex_pr, tl_s, tl_n, if_true, if_false, not_true_eq_false, not_false_eq_true, and_self, and_false, false_and, and_true, true_and]
theorem s10 {s : Nat} {x : Int32} (hs : s < 7) : Cl sc (d + 1) 10 [.ref (56 : Nat), .int (nI s), .int x] (cS f g h1 h2) r ↔ r = (cS (u2 f 59 s x) g h1 h2, some (.int (f 59 s))) := by
  have e1 : inb (nI s) 7 = true := inb_nI hs (by decide)
  have e2 : (nI s).toNatClampNeg = s := cl_nI (by omega)
  simp only [c10, x10_0, x10_1, x10_4, x10_5, x10_6, x10_7, x10_8, x10_11, x10_12, x10_13, x10_14, x10_15, kp56, rf56_6, rp56_6, al57, iA57, it57, rf56_7, rp56_7, al58, iA58, it58, rf56_8, rp56_8, al59, iA59, it59, rf56_9, rp56_9, al60, iA60, it60, rf56_10, rp56_10, al61, iA61, it61, rf56_12, rp56_12, al62, iA62, it62, rf56_13, rp56_13, al63, iA63, it63, rf56_15, rp56_15, al64, iA64, it64, rf56_16, rp56_16, al65, iA65, it65, rf56_17, rp56_17, rf56_18, rp56_18, al66, iA66, it66, e1, e2, Nat.reduceLeDiff, Nat.reduceEqDiff, nb0, nb1, nbI, eq_self, ex_pr, tl_s, tl_n, if_true, if_false, not_true_eq_false, not_false_eq_true, and_self, and_false, false_and, and_true, true_and]
theorem s11 {s : Nat} {x : Int32} : Cl sc (d + 2) 11 [.ref (56 : Nat), .int (nI s), .int x] (cS f g h1 h2) r ↔ r = (cS (u2 f 56 5 ((f 56 5 &&& ((1 <<< (nI s &&& 31)) ^^^ -1)) ||| (x <<< (nI s &&& 31)))) g h1 h2, some (.int (f 56 5 >>> (nI s &&& 31) &&& 1))) := by
  simp only [c11, x11_0, x11_1, x11_4, x11_5, x11_6, x11_7, x11_8, x11_9, x11_10, x11_11, x11_14, x11_15, x11_16, x11_19, x11_22, x11_23, kp56, rf56_6, rp56_6, al57, iA57, it57, rf56_7, rp56_7, al58, iA58, it58, rf56_8, rp56_8, al59, iA59, it59, rf56_9, rp56_9, al60, iA60, it60, rf56_10, rp56_10, al61, iA61, it61, rf56_12, rp56_12, al62, iA62, it62, rf56_13, rp56_13, al63, iA63, it63, rf56_15, rp56_15, al64, iA64, it64, rf56_16, rp56_16, al65, iA65, it65, rf56_17, rp56_17, rf56_18, rp56_18, al66, iA66, it66, s12, Nat.reduceLeDiff, Nat.reduceEqDiff, nb0, nb1, nbI, eq_self, ex_pr, tl_s, tl_n, if_true, if_false, not_true_eq_false, not_false_eq_true, and_self, and_false, false_and, and_true, true_and]
end SM
