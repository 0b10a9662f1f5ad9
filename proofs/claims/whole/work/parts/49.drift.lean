/-! a hill's drift by the class -/
abbrev aH : Type := List (Nat × Nat × List Nat)
def amt (w n : Nat) : Int32 := if w = 0 then nI n else -nI n
/-- the clauses that snow or slush, as the class keeps them, from place i and code s on -/
def CFL (f : Nat → Nat → Int32) (o : Nat) : Nat → Nat → aH → Prop
  | i, s, [] => f o 2 = nI i ∧ f o 6 = nI s
  | i, s, (w, n, ts) :: H => if w ≤ 1 then (f (o + 1) i = amt w n ∧ f (o + 2) i = nI (s + ts.length) ∧ (∀ j, j < ts.length → f (o + 3) (s + j) = ckT (ts.getD j 0)) ∧ s + ts.length ≤ 100 ∧ i < 10) ∧ CFL f o (i + 1) (s + ts.length) H else CFL f o i s H
def cnt : aH → Nat
  | [] => 0
  | (w, _, _) :: H => (if w ≤ 1 then 1 else 0) + cnt H
def WFH (H : aH) : Prop := ∀ c, c ∈ H → c.1 ≤ 3 ∧ c.2.1 ≤ 99 ∧ (c.1 ≤ 1 → wf c.2.2 0)
def sno (w0 : Nat) (fc : Nat → Nat) : aH → Nat
  | [] => 0
  | (w, n, ts) :: H => (if w = w0 ∧ (ev fc ts []).headD false = true then n else 0) + sno w0 fc H
theorem sno_le {w0 : Nat} {fc : Nat → Nat} : ∀ {H : aH}, WFH H → sno w0 fc H ≤ 99 * H.length
  | [], _ => Nat.zero_le _
  | (w, n, ts) :: H, h => by
    have a := @sno_le w0 fc H (fun c hc => h c (List.mem_cons_of_mem _ hc))
    have b : n ≤ 99 := (h _ List.mem_cons_self).2.1
    show (if _ then n else 0) + sno w0 fc H ≤ 99 * (H.length + 1)
    split <;> omega
theorem cfl_n {f : Nat → Nat → Int32} {o : Nat} : ∀ {H : aH} {i s : Nat}, i ≤ 10 → CFL f o i s H → f o 2 = nI (i + cnt H) ∧ i + cnt H ≤ 10
  | [], i, s, h, c => ⟨c.1, h⟩
  | (w, n, ts) :: H, i, s, h, c => by
    unfold CFL at c
    show _ = nI (i + ((if w ≤ 1 then 1 else 0) + cnt H)) ∧ i + ((if w ≤ 1 then 1 else 0) + cnt H) ≤ 10
    by_cases hw : w ≤ 1
    · rw [if_pos hw] at c ⊢
      obtain ⟨⟨-, -, -, -, c5⟩, c6⟩ := c
      have q := @cfl_n f o H (i + 1) _ (by omega) c6
      rw [show i + (1 + cnt H) = i + 1 + cnt H by omega]
      exact q
    · rw [if_neg hw] at c ⊢
      rw [Nat.zero_add]
      exact cfl_n h c
section DR
variable {sc : aSc} {d : Nat} {r : aRes} {f : Nat → Nat → Int32} {g : Nat → Nat → Int64} {h1 h2 : Nat}
theorem s29 {o : Nat} (HL : HLF o) {fc : Nat → Nat} (hf : ∀ l, l < 6 → f 66 l = nI (fc l) ∧ fc l < 2147483648) {s : Nat} {ts : List Nat} (hl : s + ts.length ≤ 100) (hc : ∀ j, j < ts.length → f (o + 3) (s + j) = ckT (ts.getD j 0)) (hw : wf ts 0) : Cl sc (d + 2) 29 [.ref o, .int (nI s), .int (nI (s + ts.length)), .ref (66 : Nat)] (cS f g h1 h2) r ↔ r = (cS f g h1 h2, some (.int (bI ((ev fc ts []).headD false = true)))) := by
  have k := @l29 sc d r f g h1 h2 o HL fc hf (nI s) (s + ts.length) hl ts s [] 0 mk0 rfl hc hw (Nat.zero_le _) (fun i hi => absurd hi (Nat.not_lt_zero i))
  rw [← k]
  simp only [c29, x29_0, x29_1, x29_3, x29_4]
theorem l28 {o : Nat} (HL : HLF o) {fc : Nat → Nat} (hf : ∀ l, l < 6 → f 66 l = nI (fc l) ∧ fc l < 2147483648) : ∀ (H : aH) (i s : Nat) (acc : Int32), i ≤ 10 → CFL f o i s H → WFH H → (Rn sc (d + 2) 28 7 [.ref o, .ref (66 : Nat), .int acc, .int (nI s), .int (nI i)] [] (cS f g h1 h2) r ↔ r = (cS f g h1 h2, some (.int (acc + (nI (sno 0 fc H) - nI (sno 1 fc H))))))
  | [], i, s, acc, hi, c, hw => by
    obtain ⟨c1, c2⟩ := c
    have e1 : ¬ nI i < nI i := Int32.lt_irrefl
    have e2 : acc + (nI (sno 0 fc []) - nI (sno 1 fc [])) = acc := by
      show acc + (0 - 0) = acc
      rw [Int32.sub_self, Int32.add_zero]
    rw [e2]
    simp only [c28, x28_0, x28_1, x28_2, x28_3, x28_4, x28_5, x28_9, x28_10, x28_13, x28_16, x28_17, x28_18, x28_19, x28_22, x28_24, x28_25, x28_26, x28_29, x28_32, x28_33, x28_34, x28_37, x28_39, x28_40, x28_41, x28_42, x28_43, x28_46, x28_48, x28_49, x28_50, x28_53, x28_56, x28_57, x28_7 (x4 := nI i), HL.k, HL.g, c1, e1, bI_True, bI_False, nI_1, Nat.reduceLeDiff, Nat.reduceEqDiff, nb0, nb1, nbI, eq_self, ex_pr, tl_s, tl_n, if_true, if_false, not_true_eq_false, not_false_eq_true, and_self, and_false, false_and, and_true, true_and]
  | (w, n, ts) :: H, i, s, acc, hi, c, hw => by
    have hn := cfl_n hi c
    have hw2 : WFH H := fun c hc => hw c (List.mem_cons_of_mem _ hc)
    obtain ⟨w1, w2, w3⟩ := hw _ List.mem_cons_self
    have s0 : sno 0 fc ((w, n, ts) :: H) = (if w = 0 ∧ (ev fc ts []).headD false = true then n else 0) + sno 0 fc H := rfl
    have s1 : sno 1 fc ((w, n, ts) :: H) = (if w = 1 ∧ (ev fc ts []).headD false = true then n else 0) + sno 1 fc H := rfl
    unfold CFL at c
    by_cases hw1 : w ≤ 1
    · rw [if_pos hw1] at c
      obtain ⟨⟨c1, c2, c3, c4, c5⟩, c6⟩ := c
      have e0 : cnt ((w, n, ts) :: H) = 1 + cnt H := by
        show (if w ≤ 1 then 1 else 0) + cnt H = _
        rw [if_pos hw1]
      rw [e0] at hn
      have e1 : nI i < nI (i + (1 + cnt H)) := nI_lt (by omega) (by omega)
      have e2 : inb (nI i) 10 = true := inb_nI (by omega) (by decide)
      have e3 : (nI i).toNatClampNeg = i := cl_nI (by omega)
      have q := @s29 sc d
      have k := fun a => l28 HL hf H (i + 1) (s + ts.length) a (by omega) c6 hw2
      have hs := fun r => @s29 sc d r f g h1 h2 o HL fc hf s ts c4 c3 (w3 hw1)
      by_cases z : (ev fc ts []).headD false = true
      · have k2 := k (acc + amt w n)
        have e4 : acc + amt w n + (nI (sno 0 fc H) - nI (sno 1 fc H)) = acc + (nI (sno 0 fc ((w, n, ts) :: H)) - nI (sno 1 fc ((w, n, ts) :: H))) := by
          rw [s0, s1, ← nI_add, ← nI_add]
          rcases (show w = 0 ∨ w = 1 by omega) with rfl | rfl
          · rw [if_pos ⟨rfl, z⟩, if_neg (by omega), nI_0]
            show acc + nI n + _ = _
            grind
          · rw [if_neg (by omega), if_pos ⟨rfl, z⟩, nI_0]
            show acc + -nI n + _ = _
            grind
        rw [← e4, ← k2]
        simp only [c28, x28_0, x28_1, x28_2, x28_3, x28_4, x28_5, x28_9, x28_10, x28_13, x28_16, x28_17, x28_18, x28_19, x28_22, x28_24, x28_25, x28_26, x28_29, x28_32, x28_33, x28_34, x28_37, x28_39, x28_40, x28_41, x28_42, x28_43, x28_46, x28_48, x28_49, x28_50, x28_53, x28_56, x28_57, x28_7 (x4 := nI i), HL.k, HL.g, HL.r3, HL.r4, HL.q3, HL.q4, HL.g1, HL.g2, HL.i1, HL.i2, HL.l1, HL.l2, hn.1, c1, c2, e1, e2, e3, hs, bI_t z, show ¬ ((1 : Int32) = 0) by decide, bI_True, bI_False, nI_1, Nat.reduceLeDiff, Nat.reduceEqDiff, nb0, nb1, nbI, eq_self, ex_pr, tl_s, tl_n, if_true, if_false, not_true_eq_false, not_false_eq_true, and_self, and_false, false_and, and_true, true_and]
      · have k2 := k acc
        have e4 : acc + (nI (sno 0 fc H) - nI (sno 1 fc H)) = acc + (nI (sno 0 fc ((w, n, ts) :: H)) - nI (sno 1 fc ((w, n, ts) :: H))) := by
          rw [s0, s1, if_neg (fun q => z q.2), if_neg (fun q => z q.2), Nat.zero_add, Nat.zero_add]
        rw [← e4, ← k2]
        simp only [c28, x28_0, x28_1, x28_2, x28_3, x28_4, x28_5, x28_9, x28_10, x28_13, x28_16, x28_17, x28_18, x28_19, x28_22, x28_24, x28_25, x28_26, x28_29, x28_32, x28_33, x28_34, x28_37, x28_39, x28_40, x28_41, x28_42, x28_43, x28_46, x28_48, x28_49, x28_50, x28_53, x28_56, x28_57, x28_7 (x4 := nI i), HL.k, HL.g, HL.r3, HL.r4, HL.q3, HL.q4, HL.g1, HL.g2, HL.i1, HL.i2, HL.l1, HL.l2, hn.1, c1, c2, e1, e2, e3, hs, bI_f z, bI_True, bI_False, nI_1, Nat.reduceLeDiff, Nat.reduceEqDiff, nb0, nb1, nbI, eq_self, ex_pr, tl_s, tl_n, if_true, if_false, not_true_eq_false, not_false_eq_true, and_self, and_false, false_and, and_true, true_and]
    · rw [if_neg hw1] at c
      rw [s0, s1, if_neg (by omega), if_neg (by omega), Nat.zero_add, Nat.zero_add]
      exact l28 HL hf H i s acc hi c hw2
theorem s28 {o : Nat} (HL : HLF o) {fc : Nat → Nat} (hf : ∀ l, l < 6 → f 66 l = nI (fc l) ∧ fc l < 2147483648) {H : aH} (c : CFL f o 0 0 H) (hw : WFH H) : Cl sc (d + 3) 28 [.ref o, .ref (66 : Nat)] (cS f g h1 h2) r ↔ r = (cS f g h1 h2, some (.int (nI (sno 0 fc H) - nI (sno 1 fc H)))) := by
  have k := @l28 sc d r f g h1 h2 o HL fc hf H 0 0 0 (Nat.zero_le _) c hw
  rw [Int32.zero_add] at k
  rw [← k]
  simp only [c28, x28_0, x28_1, x28_2, x28_3, x28_4, x28_5, nI_0]
end DR
