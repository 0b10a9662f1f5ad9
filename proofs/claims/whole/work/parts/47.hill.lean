/-! hills as told, and what the class answers of one sign of them (begun by wip/whole/mk47.py) -/
/-- facts of a hill's cells -/
def HLF (o : Nat) : Prop := ((KK[o]? = some (.inl 2)) = True) ∧ (∀ a b, ((RR a b o 3).isSome = true) = True) ∧ (∀ a b, ((RR a b o 4).isSome = true) = True) ∧ (∀ a b, ((RR a b o 5).isSome = true) = True) ∧ (∀ a b, rf a b o 3 = o + 1) ∧ (∀ a b, rf a b o 4 = o + 2) ∧ (∀ a b, rf a b o 5 = o + 3) ∧ ((17 ≤ o) = True) ∧ ((17 ≤ o + 1) = True) ∧ ((17 ≤ o + 2) = True) ∧ ((17 ≤ o + 3) = True) ∧ isT9 .int (o + 1) ∧ isT9 .int (o + 2) ∧ isT9 .int (o + 3) ∧ aln (o + 1) = 10 ∧ aln (o + 2) = 10 ∧ aln (o + 3) = 100
theorem HLF.k {o : Nat} (H : HLF o) : (KK[o]? = some (.inl 2)) = True := H.1
theorem HLF.r3 {o : Nat} (H : HLF o) : ∀ a b, ((RR a b o 3).isSome = true) = True := H.2.1
theorem HLF.r4 {o : Nat} (H : HLF o) : ∀ a b, ((RR a b o 4).isSome = true) = True := H.2.2.1
theorem HLF.r5 {o : Nat} (H : HLF o) : ∀ a b, ((RR a b o 5).isSome = true) = True := H.2.2.2.1
theorem HLF.q3 {o : Nat} (H : HLF o) : ∀ a b, rf a b o 3 = o + 1 := H.2.2.2.2.1
theorem HLF.q4 {o : Nat} (H : HLF o) : ∀ a b, rf a b o 4 = o + 2 := H.2.2.2.2.2.1
theorem HLF.q5 {o : Nat} (H : HLF o) : ∀ a b, rf a b o 5 = o + 3 := H.2.2.2.2.2.2.1
theorem HLF.g {o : Nat} (H : HLF o) : (17 ≤ o) = True := H.2.2.2.2.2.2.2.1
theorem HLF.g1 {o : Nat} (H : HLF o) : (17 ≤ o + 1) = True := H.2.2.2.2.2.2.2.2.1
theorem HLF.g2 {o : Nat} (H : HLF o) : (17 ≤ o + 2) = True := H.2.2.2.2.2.2.2.2.2.1
theorem HLF.g3 {o : Nat} (H : HLF o) : (17 ≤ o + 3) = True := H.2.2.2.2.2.2.2.2.2.2.1
theorem HLF.i1 {o : Nat} (H : HLF o) : isT9 .int (o + 1) := H.2.2.2.2.2.2.2.2.2.2.2.1
theorem HLF.i2 {o : Nat} (H : HLF o) : isT9 .int (o + 2) := H.2.2.2.2.2.2.2.2.2.2.2.2.1
theorem HLF.i3 {o : Nat} (H : HLF o) : isT9 .int (o + 3) := H.2.2.2.2.2.2.2.2.2.2.2.2.2.1
theorem HLF.l1 {o : Nat} (H : HLF o) : aln (o + 1) = 10 := H.2.2.2.2.2.2.2.2.2.2.2.2.2.2.1
theorem HLF.l2 {o : Nat} (H : HLF o) : aln (o + 2) = 10 := H.2.2.2.2.2.2.2.2.2.2.2.2.2.2.2.1
theorem HLF.l3 {o : Nat} (H : HLF o) : aln (o + 3) = 100 := H.2.2.2.2.2.2.2.2.2.2.2.2.2.2.2.2
theorem hlf52 : HLF 52 := ⟨eq_true rfl, fun _ _ => eq_true rfl, fun _ _ => eq_true rfl, fun _ _ => eq_true rfl, fun _ _ => rfl, fun _ _ => rfl, fun _ _ => rfl, by decide, by decide, by decide, by decide, rfl, rfl, rfl, rfl, rfl, rfl⟩
theorem hlf : ∀ t, t < 6 → HLF (78 + 4 * t)
  | 0, _ => ⟨eq_true rfl, fun _ _ => eq_true rfl, fun _ _ => eq_true rfl, fun _ _ => eq_true rfl, fun _ _ => rfl, fun _ _ => rfl, fun _ _ => rfl, by decide, by decide, by decide, by decide, rfl, rfl, rfl, rfl, rfl, rfl⟩
  | 1, _ => ⟨eq_true rfl, fun _ _ => eq_true rfl, fun _ _ => eq_true rfl, fun _ _ => eq_true rfl, fun _ _ => rfl, fun _ _ => rfl, fun _ _ => rfl, by decide, by decide, by decide, by decide, rfl, rfl, rfl, rfl, rfl, rfl⟩
  | 2, _ => ⟨eq_true rfl, fun _ _ => eq_true rfl, fun _ _ => eq_true rfl, fun _ _ => eq_true rfl, fun _ _ => rfl, fun _ _ => rfl, fun _ _ => rfl, by decide, by decide, by decide, by decide, rfl, rfl, rfl, rfl, rfl, rfl⟩
  | 3, _ => ⟨eq_true rfl, fun _ _ => eq_true rfl, fun _ _ => eq_true rfl, fun _ _ => eq_true rfl, fun _ _ => rfl, fun _ _ => rfl, fun _ _ => rfl, by decide, by decide, by decide, by decide, rfl, rfl, rfl, rfl, rfl, rfl⟩
  | 4, _ => ⟨eq_true rfl, fun _ _ => eq_true rfl, fun _ _ => eq_true rfl, fun _ _ => eq_true rfl, fun _ _ => rfl, fun _ _ => rfl, fun _ _ => rfl, by decide, by decide, by decide, by decide, rfl, rfl, rfl, rfl, rfl, rfl⟩
  | 5, _ => ⟨eq_true rfl, fun _ _ => eq_true rfl, fun _ _ => eq_true rfl, fun _ _ => eq_true rfl, fun _ _ => rfl, fun _ _ => rfl, fun _ _ => rfl, by decide, by decide, by decide, by decide, rfl, rfl, rfl, rfl, rfl, rfl⟩
  | t + 6, h => absurd h (by omega)
theorem hl20 : ∀ t, t < 6 → (∀ a b, ((RR a b 20 t).isSome = true) = True) ∧ ∀ a b, rf a b 20 t = 78 + 4 * t
  | 0, _ => ⟨fun _ _ => eq_true rfl, fun _ _ => rfl⟩
  | 1, _ => ⟨fun _ _ => eq_true rfl, fun _ _ => rfl⟩
  | 2, _ => ⟨fun _ _ => eq_true rfl, fun _ _ => rfl⟩
  | 3, _ => ⟨fun _ _ => eq_true rfl, fun _ _ => rfl⟩
  | 4, _ => ⟨fun _ _ => eq_true rfl, fun _ _ => rfl⟩
  | 5, _ => ⟨fun _ _ => eq_true rfl, fun _ _ => rfl⟩
  | t + 6, h => absurd h (by omega)
/-- a sign: 1000 l + 100 r + n of a test; 6001 not, 6002 and, 6003 or -/
def isTs (t : Nat) : Prop := t < 6000 ∧ t / 100 % 10 < 3
def tst (fc : Nat → Nat) (t : Nat) : Bool := if t / 100 % 10 = 0 then decide (fc (t / 1000) < t % 100) else if t / 100 % 10 = 1 then decide (fc (t / 1000) = t % 100) else decide (t % 100 < fc (t / 1000))
def st1 (fc : Nat → Nat) (t : Nat) (st : List Bool) : List Bool :=
  if t = 6001 then (match st with | a :: s => (!a) :: s | [] => [])
  else if t = 6002 then (match st with | b :: a :: s => (a && b) :: s | s => s)
  else if t = 6003 then (match st with | b :: a :: s => (a || b) :: s | s => s)
  else tst fc t :: st
def ev (fc : Nat → Nat) : List Nat → List Bool → List Bool
  | [], st => st
  | t :: ts, st => ev fc ts (st1 fc t st)
def wf : List Nat → Nat → Prop
  | [], h => h = 1
  | t :: ts, h => (t = 6001 ∧ 1 ≤ h ∧ wf ts h) ∨ ((t = 6002 ∨ t = 6003) ∧ 2 ≤ h ∧ wf ts (h - 1)) ∨ (isTs t ∧ h < 60 ∧ wf ts (h + 1))
/-- a sign in the class, and in the reference -/
def ckT (t : Nat) : Int32 := if t = 6001 then -1 else if t = 6002 then -2 else if t = 6003 then -3 else nI ((t / 1000 * 3 + t / 100 % 10) * 100 + t % 100)
def mkT (t : Nat) : Int32 := if t = 6001 then -33 else if t = 6002 then -38 else if t = 6003 then -124 else nI t
section HI
variable {sc : aSc} {d : Nat} {r : aRes} {f : Nat → Nat → Int32} {g : Nat → Nat → Int64} {h1 h2 : Nat}
theorem s30 {t : Nat} {fc : Nat → Nat} (ht : isTs t) (hf : ∀ l, l < 6 → f 66 l = nI (fc l) ∧ fc l < 2147483648) : Cl sc (d + 1) 30 [.int (ckT t), .ref (66 : Nat)] (cS f g h1 h2) r ↔ r = (cS f g h1 h2, some (.int (bI (tst fc t = true)))) := by
  obtain ⟨a, b⟩ := ht
  have e0 : ckT t = nI ((t / 1000 * 3 + t / 100 % 10) * 100 + t % 100) := by
    unfold ckT
    rw [if_neg (by omega), if_neg (by omega), if_neg (by omega)]
  have q1 : nI ((t / 1000 * 3 + t / 100 % 10) * 100 + t % 100) % 100 = nI (t % 100) := (nI_rem (b := 100) (by omega) (by decide)).trans (congrArg nI (by omega))
  have q2 : nI ((t / 1000 * 3 + t / 100 % 10) * 100 + t % 100) / 300 = nI (t / 1000) := (nI_div (b := 300) (by omega) (by decide)).trans (congrArg nI (by omega))
  have q3 : nI ((t / 1000 * 3 + t / 100 % 10) * 100 + t % 100) / 100 = nI (t / 1000 * 3 + t / 100 % 10) := (nI_div (b := 100) (by omega) (by decide)).trans (congrArg nI (by omega))
  have q4 : nI (t / 1000 * 3 + t / 100 % 10) % 3 = nI (t / 100 % 10) := (nI_rem (b := 3) (by omega) (by decide)).trans (congrArg nI (by omega))
  have l6 : t / 1000 < 6 := by omega
  obtain ⟨w1, w2⟩ := hf _ l6
  have e1 : inb (nI (t / 1000)) 6 = true := inb_nI l6 (by decide)
  have e2 : (nI (t / 1000)).toNatClampNeg = t / 1000 := cl_nI (by omega)
  have n1 : ¬ (100 : Int32) = 0 := by decide
  have n2 : ¬ (300 : Int32) = 0 := by decide
  have n3 : ¬ (3 : Int32) = 0 := by decide
  simp only [c30, x30_0, x30_1, x30_3, x30_4, x30_5, x30_6, x30_7, x30_10, x30_11, x30_12, x30_13, x30_14, x30_16, x30_17, x30_18, x30_19, x30_44, x30_45, x30_46, x30_49, x30_50, x30_53, x30_54, x30_55, x30_56, x30_57, x30_60, x30_61, x30_64, x30_65, x30_66, x30_67, x30_68, x30_71, x30_72, x30_75, x30_76, e0, q1, q2, q3, q4, n1, n2, n3, e1, e2, w1, al66, iA66, it66, bI_True, bI_False, nI_1, Nat.reduceLeDiff, Nat.reduceEqDiff, nb0, nb1, nbI, eq_self, ex_pr, tl_s, tl_n, if_true, if_false, not_true_eq_false, not_false_eq_true, and_self, and_false, false_and, and_true, true_and]
  have hn : t % 100 < 2147483648 := by omega
  unfold tst bI
  rcases (show t / 100 % 10 = 0 ∨ t / 100 % 10 = 1 ∨ t / 100 % 10 = 2 by omega) with c | c | c
  · have k0 : nI 0 = 0 := nI_0
    rw [c]
    simp only [k0, bI_True, bI_False, nI_1, Nat.reduceLeDiff, Nat.reduceEqDiff, nb0, nb1, nbI, eq_self, ex_pr, tl_s, tl_n, if_true, if_false, not_true_eq_false, not_false_eq_true, and_self, and_false, false_and, and_true, true_and, nI_ltI w2 hn, decide_eq_true_eq]
    by_cases z : fc (t / 1000) < t % 100 <;> simp only [c30, x30_0, x30_1, x30_3, x30_4, x30_5, x30_6, x30_7, x30_10, x30_11, x30_12, x30_13, x30_14, x30_16, x30_17, x30_18, x30_19, x30_44, x30_45, x30_46, x30_49, x30_50, x30_53, x30_54, x30_55, x30_56, x30_57, x30_60, x30_61, x30_64, x30_65, x30_66, x30_67, x30_68, x30_71, x30_72, x30_75, x30_76, z, bI_True, bI_False, nI_1, Nat.reduceLeDiff, Nat.reduceEqDiff, nb0, nb1, nbI, eq_self, ex_pr, tl_s, tl_n, if_true, if_false, not_true_eq_false, not_false_eq_true, and_self, and_false, false_and, and_true, true_and]
  · have k0 : ¬ (1 : Int32) = 0 := by decide
    have k1 : nI 1 = 1 := rfl
    rw [c]
    simp only [k0, k1, bI_True, bI_False, nI_1, Nat.reduceLeDiff, Nat.reduceEqDiff, nb0, nb1, nbI, eq_self, ex_pr, tl_s, tl_n, if_true, if_false, not_true_eq_false, not_false_eq_true, and_self, and_false, false_and, and_true, true_and, nI_eq w2 hn, decide_eq_true_eq]
    by_cases z : fc (t / 1000) = t % 100 <;> simp only [c30, x30_0, x30_1, x30_3, x30_4, x30_5, x30_6, x30_7, x30_10, x30_11, x30_12, x30_13, x30_14, x30_16, x30_17, x30_18, x30_19, x30_44, x30_45, x30_46, x30_49, x30_50, x30_53, x30_54, x30_55, x30_56, x30_57, x30_60, x30_61, x30_64, x30_65, x30_66, x30_67, x30_68, x30_71, x30_72, x30_75, x30_76, z, bI_True, bI_False, nI_1, Nat.reduceLeDiff, Nat.reduceEqDiff, nb0, nb1, nbI, eq_self, ex_pr, tl_s, tl_n, if_true, if_false, not_true_eq_false, not_false_eq_true, and_self, and_false, false_and, and_true, true_and]
  · have k0 : ¬ (2 : Int32) = 0 := by decide
    have k2 : ¬ (2 : Int32) = 1 := by decide
    have k1 : nI 2 = 2 := rfl
    rw [c]
    simp only [k0, k1, k2, bI_True, bI_False, nI_1, Nat.reduceLeDiff, Nat.reduceEqDiff, nb0, nb1, nbI, eq_self, ex_pr, tl_s, tl_n, if_true, if_false, not_true_eq_false, not_false_eq_true, and_self, and_false, false_and, and_true, true_and, nI_ltI hn w2, decide_eq_true_eq]
    by_cases z : t % 100 < fc (t / 1000) <;> simp only [c30, x30_0, x30_1, x30_3, x30_4, x30_5, x30_6, x30_7, x30_10, x30_11, x30_12, x30_13, x30_14, x30_16, x30_17, x30_18, x30_19, x30_44, x30_45, x30_46, x30_49, x30_50, x30_53, x30_54, x30_55, x30_56, x30_57, x30_60, x30_61, x30_64, x30_65, x30_66, x30_67, x30_68, x30_71, x30_72, x30_75, x30_76, z, bI_True, bI_False, nI_1, Nat.reduceLeDiff, Nat.reduceEqDiff, nb0, nb1, nbI, eq_self, ex_pr, tl_s, tl_n, if_true, if_false, not_true_eq_false, not_false_eq_true, and_self, and_false, false_and, and_true, true_and]
end HI
