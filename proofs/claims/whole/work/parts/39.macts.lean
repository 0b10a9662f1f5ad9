/-! the acts of the reference -/
section MA
variable {sc : aSc} {d : Nat} {r : aRes} {f : Nat → Nat → Int32} {g : Nat → Nat → Int64} {h1 h2 : Nat} {m s q w : Nat} {x : Int32}
theorem s178 (hm : f 114 65 = nI m) (hm2 : m < 20) {i : Int32} : Cl sc (d + 2) 178 [.ref (114 : Nat), .int i, .int x] (cS f g h1 h2) r ↔ r = (cS (bgs 114 65 148 f m [10]) g h1 h2, some (.int (x + i))) := by
  simp only [c178, x178_0, x178_1, x178_3, x178_6, x178_7, x178_8, x178_9, kp114, s177 hm hm2, bI_True, bI_False, nI_1, Nat.reduceLeDiff, Nat.reduceEqDiff, nb0, nb1, nbI, eq_self, ex_pr, tl_s, tl_n, if_true, if_false, not_true_eq_false, not_false_eq_true, and_self, and_false, false_and, and_true, true_and]
  exact Iff.rfl
theorem ltne {a b : Nat} (ha : a < 2147483648) (hb : b < 2147483648) (h : ¬ a = b) : ((nI a = nI b) = False) := eq_false (fun e => h ((nI_eq ha hb).mp e))
end MA
