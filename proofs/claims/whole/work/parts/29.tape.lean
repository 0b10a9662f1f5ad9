/-! tapes -/
def TPF (o : Nat) : Prop := ((KK[o]? = some (.inl 4)) = True) ∧ (∀ a b, ((RR a b o 2).isSome = true) = True) ∧ (∀ a b, rf a b o 2 = o + 1) ∧ ((17 ≤ o) = True) ∧ ((17 ≤ o + 1) = True) ∧ (isT9 .long (o + 1)) ∧ (aln (o + 1) = 60)
theorem TPF.k {o : Nat} (H : TPF o) : (KK[o]? = some (.inl 4)) = True := H.1
theorem TPF.r {o : Nat} (H : TPF o) : ∀ a b, ((RR a b o 2).isSome = true) = True := H.2.1
theorem TPF.q {o : Nat} (H : TPF o) : ∀ a b, rf a b o 2 = o + 1 := H.2.2.1
theorem TPF.g {o : Nat} (H : TPF o) : (17 ≤ o) = True := H.2.2.2.1
theorem TPF.g1 {o : Nat} (H : TPF o) : (17 ≤ o + 1) = True := H.2.2.2.2.1
theorem TPF.i {o : Nat} (H : TPF o) : isT9 .long (o + 1) := H.2.2.2.2.2.1
theorem TPF.l {o : Nat} (H : TPF o) : aln (o + 1) = 60 := H.2.2.2.2.2.2
theorem tpf : ∀ t, t < 6 → TPF (102 + 2 * t)
  | 0, _ => ⟨eq_true rfl, fun _ _ => eq_true rfl, fun _ _ => rfl, by decide, by decide, rfl, rfl⟩
  | 1, _ => ⟨eq_true rfl, fun _ _ => eq_true rfl, fun _ _ => rfl, by decide, by decide, rfl, rfl⟩
  | 2, _ => ⟨eq_true rfl, fun _ _ => eq_true rfl, fun _ _ => rfl, by decide, by decide, rfl, rfl⟩
  | 3, _ => ⟨eq_true rfl, fun _ _ => eq_true rfl, fun _ _ => rfl, by decide, by decide, rfl, rfl⟩
  | 4, _ => ⟨eq_true rfl, fun _ _ => eq_true rfl, fun _ _ => rfl, by decide, by decide, rfl, rfl⟩
  | 5, _ => ⟨eq_true rfl, fun _ _ => eq_true rfl, fun _ _ => rfl, by decide, by decide, rfl, rfl⟩
  | t + 6, h => absurd h (by omega)
theorem tpr : ∀ t, t < 6 → (∀ a b, ((RR a b 51 t).isSome = true) = True) ∧ ∀ a b, rf a b 51 t = 102 + 2 * t
  | 0, _ => ⟨fun _ _ => eq_true rfl, fun _ _ => rfl⟩
  | 1, _ => ⟨fun _ _ => eq_true rfl, fun _ _ => rfl⟩
  | 2, _ => ⟨fun _ _ => eq_true rfl, fun _ _ => rfl⟩
  | 3, _ => ⟨fun _ _ => eq_true rfl, fun _ _ => rfl⟩
  | 4, _ => ⟨fun _ _ => eq_true rfl, fun _ _ => rfl⟩
  | 5, _ => ⟨fun _ _ => eq_true rfl, fun _ _ => rfl⟩
  | t + 6, h => absurd h (by omega)
/-- a row's places from a on, n of them, put to x -/
def fl2 {α : Type} (g : Nat → Nat → α) (o a n : Nat) (x : α) : Nat → Nat → α := fun q k => if q = o ∧ a ≤ k ∧ k < a + n then x else g q k
theorem fl2_0 {α : Type} {g : Nat → Nat → α} {o a : Nat} {x : α} : fl2 g o a 0 x = g := by
  funext q k
  unfold fl2
  rw [if_neg (by omega)]
theorem fl2_1 {α : Type} {g : Nat → Nat → α} {o a n : Nat} {x : α} : u2 (fl2 g o a n x) o (a + n) x = fl2 g o a (n + 1) x := by
  funext q k
  unfold u2 va_up fl2
  by_cases h : q = o
  · subst h
    by_cases hk : k = a + n
    · subst hk
      rw [if_pos rfl, if_pos rfl, if_pos (by omega)]
    · rw [if_pos rfl, if_neg hk]
      by_cases h2 : a ≤ k ∧ k < a + n
      · rw [if_pos ⟨rfl, h2⟩, if_pos (by omega)]
      · rw [if_neg (by omega), if_neg (by omega)]
  · rw [if_neg h, if_neg (by omega), if_neg (by omega)]
section TP
variable {sc : aSc} {d : Nat} {r : aRes} {f : Nat → Nat → Int32} {g : Nat → Nat → Int64} {h1 h2 : Nat} {σ : aS}
theorem l52 {o : Nat} (H : TPF o) {v1 v2 : Int32} : ∀ (n k : Nat), k + n = 60 → (Rn sc d 52 12 [.ref o, .int v1, .int v2, .int (nI k)] [] (cS f (fl2 g (o + 1) 0 k 0) h1 h2) r ↔ r = (cS f (fl2 g (o + 1) 0 60 0) h1 h2, none))
  | 0, k, h => by
    have e : k = 60 := by omega
    subst e
    have e1 : ¬ nI 60 < 60 := by decide
    simp only [c52, x52_0, x52_1, x52_2, x52_5, x52_6, x52_7, x52_10, x52_11, x52_12, x52_13, x52_15, x52_18, x52_19, x52_22, x52_23, x52_24, x52_25, x52_28, x52_31, e1, nI_1, Nat.reduceLeDiff, Nat.reduceEqDiff, nb0, nb1, nbI, eq_self, ex_pr, tl_s, tl_n, if_true, if_false, not_true_eq_false, not_false_eq_true, and_self, and_false, false_and, and_true, true_and]
  | n + 1, k, h => by
    have e1 : nI k < 60 := nI_lt (show k < 60 by omega) (by decide)
    have e2 : inb (nI k) 60 = true := inb_nI (by omega) (by decide)
    have e3 : (nI k).toNatClampNeg = k := cl_nI (by omega)
    have e4 := @fl2_1 Int64 g (o + 1) 0 k 0
    rw [Nat.zero_add] at e4
    simp only [c52, x52_0, x52_1, x52_2, x52_5, x52_6, x52_7, x52_10, x52_11, x52_13, x52_15, x52_18, x52_19, x52_22, x52_23, x52_24, x52_25, x52_28, x52_31, x52_12 (x3 := nI k), e1, e2, e3, H.k, H.r, H.q, H.g, H.g1, H.i, H.l, nI_1, Nat.reduceLeDiff, Nat.reduceEqDiff, nb0, nb1, nbI, eq_self, ex_pr, tl_s, tl_n, if_true, if_false, not_true_eq_false, not_false_eq_true, and_self, and_false, false_and, and_true, true_and]
    rw [e4]
    exact l52 H n (k + 1) (by omega)
theorem s52 {o : Nat} {x y : Int32} (H : TPF o) : Cl sc (d + 1) 52 [.ref o, .int x, .int y] (cS f g h1 h2) r ↔ r = (cS (u2 (u2 f o 0 x) o 1 y) (fl2 g (o + 1) 0 60 0) h1 h2, none) := by
  simp only [c52, x52_0, x52_1, x52_2, x52_5, x52_6, x52_7, x52_10, x52_11, x52_13, x52_15, x52_18, x52_19, x52_22, x52_23, x52_24, x52_25, x52_28, x52_31, H.k, H.g, nI_1, Nat.reduceLeDiff, Nat.reduceEqDiff, nb0, nb1, nbI, eq_self, ex_pr, tl_s, tl_n, if_true, if_false, not_true_eq_false, not_false_eq_true, and_self, and_false, false_and, and_true, true_and]
  have h := @l52 sc d r (u2 (u2 f o 0 x) o 1 y) g h1 h2 o H x y 60 0 (by omega)
  rw [fl2_0] at h
  exact h
theorem s51 {o : Nat} (H : TPF o) : Cl sc (d + 1) 51 [.ref o] (cS f g h1 h2) r ↔ r = (cS f g h1 h2, some (.int (bI (f o 0 = -1)))) := by
  simp only [c51, x51_0, x51_1, x51_4, x51_5, x51_8, x51_9, x51_12, x51_13, H.k, H.g, nI_1, Nat.reduceLeDiff, Nat.reduceEqDiff, nb0, nb1, nbI, eq_self, ex_pr, tl_s, tl_n, if_true, if_false, not_true_eq_false, not_false_eq_true, and_self, and_false, false_and, and_true, true_and]
  unfold bI
  by_cases a : f o 0 = -1 <;> simp only [c51, x51_0, x51_1, x51_4, x51_5, x51_8, x51_9, x51_12, x51_13, a, nI_1, Nat.reduceLeDiff, Nat.reduceEqDiff, nb0, nb1, nbI, eq_self, ex_pr, tl_s, tl_n, if_true, if_false, not_true_eq_false, not_false_eq_true, and_self, and_false, false_and, and_true, true_and]
end TP
