/-! perform -/
theorem bgs_K {O j K : Nat} (hO : ¬ K = O) : ∀ (l : List Int32) (f : Nat → Nat → Int32) (m k : Nat), bgs O j K f m l K k = if m ≤ k ∧ k < m + l.length then l.getD (k - m) 0 else f K k
  | [], f, m, k => by
    rw [if_neg (by show ¬ (m ≤ k ∧ k < m + 0); omega)]
    rfl
  | x :: l, f, m, k => by
    rw [bgs_cons, bgs_K hO l]
    have e : bg O j K f m x K k = if k = m then x else f K k := by
      unfold bg
      rw [u2_nn (fun e => hO e.1), u2_at]
      by_cases h : k = m
      · rw [if_pos ⟨rfl, h⟩, if_pos h]
      · rw [if_neg (fun e => h e.2), if_neg h]
    rw [e]
    by_cases h : k = m
    · subst h
      rw [if_neg (by omega), if_pos rfl, if_pos (by show k ≤ k ∧ k < k + (l.length + 1); omega), Nat.sub_self]
      rfl
    · by_cases h2 : m + 1 ≤ k ∧ k < m + 1 + l.length
      · rw [if_pos h2, if_pos (by show m ≤ k ∧ k < m + (l.length + 1); omega)]
        obtain ⟨t, rfl⟩ : ∃ t, k = m + 1 + t := ⟨k - (m + 1), by omega⟩
        rw [show m + 1 + t - (m + 1) = t by omega, show m + 1 + t - m = t + 1 by omega]
        rfl
      · rw [if_neg h2, if_neg h, if_neg (by show ¬ (m ≤ k ∧ k < m + (l.length + 1)); omega)]
section AS
variable {sc : aSc} {d : Nat} {r : aRes} {f : Nat → Nat → Int32} {g : Nat → Nat → Int64} {h1 h2 : Nat} {x : Int32}
/-- what perform sets before it acts -/
def pf0 (f : Nat → Nat → Int32) (k n v : Int32) : Nat → Nat → Int32 := u2 (u2 (u2 (u2 f 49 2 k) 49 3 n) 49 4 v) 49 1 0
theorem pf0_1 {k n v : Int32} : pf0 f k n v 49 1 = nI 0 := u2_ss
theorem pf0_2 {k n v : Int32} : pf0 f k n v 49 2 = k := by
  unfold pf0
  rw [u2_nn (by omega), u2_nn (by omega), u2_nn (by omega), u2_ss]
theorem pf0_3 {k n v : Int32} : pf0 f k n v 49 3 = n := by
  unfold pf0
  rw [u2_nn (by omega), u2_nn (by omega), u2_ss]
theorem pf0_4 {k n v : Int32} : pf0 f k n v 49 4 = v := by
  unfold pf0
  rw [u2_nn (by omega), u2_ss]
theorem pf0_n {k n v : Int32} {q : Nat} (h : ¬ q = 49) : pf0 f k n v q = f q := by
  unfold pf0
  rw [u2_n h, u2_n h, u2_n h, u2_n h]
theorem s1 {k n v a y : Int32} {σ : aS} (h : Cl sc d 3 [.ref (49 : Nat), .int a, .int k, .int x, .int (nI 0)] (cS (pf0 f k n v) g h1 h2) (σ, some (.int y))) : Cl sc (d + 1) 1 [.ref (49 : Nat), .int k, .int n, .int v, .int a, .int x] (cS f g h1 h2) (σ, some (.int y)) := by
  have e : u2 (u2 (u2 (u2 f 49 2 k) 49 3 n) 49 4 v) 49 1 0 = pf0 f k n v := rfl
  have e2 : u2 (u2 (u2 (u2 f 49 2 k) 49 3 n) 49 4 v) 49 1 0 49 2 = k := pf0_2
  rw [nI_0] at h
  simp only [c1, x1_0, x1_1, x1_2, x1_5, x1_6, x1_7, x1_10, x1_11, x1_12, x1_15, x1_16, x1_17, x1_20, x1_21, x1_23, x1_24, x1_27, x1_29, x1_30, x1_33, kp49, rf49_0, rp49_0, al50, iA50, it50, e2, bI_True, bI_False, nI_1, Nat.reduceLeDiff, Nat.reduceEqDiff, nb0, nb1, nbI, eq_self, ex_pr, tl_s, tl_n, if_true, if_false, not_true_eq_false, not_false_eq_true, and_self, and_false, false_and, and_true, true_and]
  rw [e]
  exact ⟨_, _, h, by simp only [c1, x1_0, x1_1, x1_2, x1_5, x1_6, x1_7, x1_10, x1_11, x1_12, x1_15, x1_16, x1_17, x1_20, x1_21, x1_23, x1_24, x1_27, x1_29, x1_30, x1_33, bI_True, bI_False, nI_1, Nat.reduceLeDiff, Nat.reduceEqDiff, nb0, nb1, nbI, eq_self, ex_pr, tl_s, tl_n, if_true, if_false, not_true_eq_false, not_false_eq_true, and_self, and_false, false_and, and_true, true_and]⟩
end AS
