/-! rows of runs that go: pure. How many end so, the first's first pair, whom one comes over with -/
def cwF (E : Nat → Bool) (w : Nat → Nat) (q a : Nat) : Nat := if E q = true then a + w q else a
theorem lp_cw {E : Nat → Bool} {w : Nat → Nat} : ∀ (k p a : Nat), lp (cwF E w) k p a = a + lp (cwF E w) k p 0
  | 0, _, _ => rfl
  | k + 1, p, a => by
    show lp (cwF E w) k (p + 1) (cwF E w p a) = a + lp (cwF E w) k (p + 1) (cwF E w p 0)
    rw [lp_cw k (p + 1) (cwF E w p a), lp_cw k (p + 1) (cwF E w p 0)]
    unfold cwF
    by_cases h : E p = true
    · rw [if_pos h, if_pos h]
      omega
    · rw [if_neg h, if_neg h]
      omega
theorem lp_cwb {E : Nat → Bool} {w : Nat → Nat} {B : Nat} (h : ∀ q, E q = true → w q ≤ B) : ∀ (k p : Nat), lp (cwF E w) k p 0 ≤ B * k
  | 0, _ => Nat.zero_le _
  | k + 1, p => by
    show lp (cwF E w) k (p + 1) (cwF E w p 0) ≤ _
    rw [lp_cw k (p + 1) (cwF E w p 0), Nat.mul_succ]
    have := lp_cwb h k (p + 1)
    unfold cwF at this ⊢
    by_cases z : E p = true
    · rw [if_pos z]
      have := h p z
      omega
    · rw [if_neg z]
      omega
def fsq (E : Nat → Bool) (w r : Nat → Nat) : Nat → Nat → Nat → Nat
  | 0, _, df => df
  | k + 1, p, df => if E p = true ∧ 0 < w p then r p else fsq E w r k (p + 1) df
theorem fsq_c {E : Nat → Bool} {w : Nat → Nat} {r0 : Nat} : ∀ (k p df : Nat), fsq E w (fun _ => r0) k p df = if 0 < lp (cwF E w) k p 0 then r0 else df
  | 0, _, df => (if_neg (Nat.lt_irrefl 0)).symm
  | k + 1, p, df => by
    show (if E p = true ∧ 0 < w p then r0 else fsq E w (fun _ => r0) k (p + 1) df) = if 0 < lp (cwF E w) k (p + 1) (cwF E w p 0) then r0 else df
    rw [lp_cw k (p + 1) (cwF E w p 0), fsq_c k (p + 1) df]
    unfold cwF
    by_cases z : E p = true
    · rw [if_pos z]
      by_cases y : 0 < w p
      · rw [if_pos ⟨z, y⟩, if_pos (by omega)]
      · rw [if_neg (fun h => y h.2), show 0 + w p + lp (fun q a => if E q = true then a + w q else a) k (p + 1) 0 = lp (fun q a => if E q = true then a + w q else a) k (p + 1) 0 by omega]
    · rw [if_neg (fun h => z h.1), if_neg z, Nat.zero_add]
theorem fsq_n {E : Nat → Bool} {w r : Nat → Nat} : ∀ (k p df : Nat), lp (cwF E w) k p 0 = 0 → fsq E w r k p df = df
  | 0, _, _, _ => rfl
  | k + 1, p, df, h => by
    have h : lp (cwF E w) k (p + 1) (cwF E w p 0) = 0 := h
    rw [lp_cw k (p + 1) (cwF E w p 0)] at h
    have e : ¬ (E p = true ∧ 0 < w p) := by
      rintro ⟨a, b⟩
      unfold cwF at h
      rw [if_pos a] at h
      omega
    show (if E p = true ∧ 0 < w p then r p else fsq E w r k (p + 1) df) = df
    rw [if_neg e]
    exact fsq_n k (p + 1) df (by omega)
theorem fsq_p {E : Nat → Bool} {w : Nat → Nat} : ∀ (k p df df' : Nat), ¬ lp (cwF E w) k p 0 = 0 → fsq E w (fun q => q) k p df = fsq E w (fun q => q) k p df' ∧ p ≤ fsq E w (fun q => q) k p df ∧ fsq E w (fun q => q) k p df < p + k
  | 0, _, _, _, h => absurd rfl h
  | k + 1, p, df, df', h => by
    have h : ¬ lp (cwF E w) k (p + 1) (cwF E w p 0) = 0 := h
    rw [lp_cw k (p + 1) (cwF E w p 0)] at h
    show (if E p = true ∧ 0 < w p then p else fsq E w (fun q => q) k (p + 1) df) = (if E p = true ∧ 0 < w p then p else fsq E w (fun q => q) k (p + 1) df') ∧ p ≤ (if E p = true ∧ 0 < w p then p else fsq E w (fun q => q) k (p + 1) df) ∧ (if E p = true ∧ 0 < w p then p else fsq E w (fun q => q) k (p + 1) df) < p + (k + 1)
    by_cases z : E p = true ∧ 0 < w p
    · rw [if_pos z, if_pos z]
      omega
    · rw [if_neg z, if_neg z]
      have e : cwF E w p 0 = 0 := by
        unfold cwF
        by_cases y : E p = true
        · rw [if_pos y]
          by_cases x : 0 < w p
          · exact absurd ⟨y, x⟩ z
          · omega
        · rw [if_neg y]
      have := fsq_p (E := E) (w := w) k (p + 1) df df' (by omega)
      omega
def anq (E c : Nat → Bool) : Nat → Nat → Bool
  | 0, _ => false
  | k + 1, p => (E p && c p) || anq E c k (p + 1)
theorem anq_c {E c : Nat → Bool} : ∀ (k p : Nat), (0 < lp (cwF E (fun q => (c q).toNat)) k p 0) = (anq E c k p = true)
  | 0, _ => by
    show (0 < 0) = (false = true)
    decide
  | k + 1, p => by
    show (0 < lp (cwF E (fun q => (c q).toNat)) k (p + 1) (cwF E (fun q => (c q).toNat) p 0)) = ((E p && c p || anq E c k (p + 1)) = true)
    rw [lp_cw k (p + 1) (cwF E (fun q => (c q).toNat) p 0), Bool.or_eq_true, Bool.and_eq_true, ← anq_c k (p + 1)]
    unfold cwF
    refine propext ?_
    dsimp only
    cases hE : E p <;> cases hc : c p <;> simp <;> omega
/-- what a row of runs may have come to -/
abbrev aQ : Type := Nat × Nat × Nat
def rup (now s : Nat) (st : aQ) : aQ := (st.1, st.2.1, st.2.2 ||| (s ^^^ now))
def RFb (E : Nat → Bool) (c : Nat → aQ → aQ) (q : Nat) (st : aQ) : aQ := if E q = true then c q st else st
def cwR (E : Nat → Nat → Nat → Bool) (told : Nat) : Nat → Nat → Nat
  | 0, s => if s = told then 1 else 0
  | m + 1, s => lp (cwF (E m s) (fun q => cwR E told m (flq s q))) 21 0 0
def crB (E : Nat → Nat → Nat → Bool) (now i : Nat) : Nat → Nat → Bool
  | 0, s => (s ^^^ now).testBit i
  | m + 1, s => (s ^^^ now).testBit i || anq (E m s) (fun q => crB E now i m (flq s q)) 21 0
def Drr (E : Nat → Nat → Nat → Bool) (now told : Nat) : Nat → Nat → Nat → aQ → aQ
  | 0, s, r0, st => if s = told then (st.1 + 1, if st.1 = 0 then r0 else st.2.1, st.2.2) else st
  | m + 1, s, r0, st => lp (RFb (E m s) (fun q st => Drr E now told m (flq s q) r0 (rup now (flq s q) st))) 21 0 st
theorem lp_rf {E : Nat → Bool} {c : Nat → aQ → aQ} {w r : Nat → Nat} {b : Nat → Bool} {i : Nat} (h1 : ∀ q st, (c q st).1 = st.1 + w q) (h2 : ∀ q st, (c q st).2.1 = if st.1 = 0 ∧ 0 < w q then r q else st.2.1) (h3 : ∀ q st, (c q st).2.2.testBit i = (st.2.2.testBit i || b q)) : ∀ (k p : Nat) (st : aQ), (lp (RFb E c) k p st).1 = st.1 + lp (cwF E w) k p 0 ∧ (lp (RFb E c) k p st).2.1 = (if st.1 = 0 then fsq E w r k p st.2.1 else st.2.1) ∧ (lp (RFb E c) k p st).2.2.testBit i = (st.2.2.testBit i || anq E b k p)
  | 0, p, st => by
    refine ⟨rfl, ?_, (Bool.or_false _).symm⟩
    show st.2.1 = if st.1 = 0 then st.2.1 else st.2.1
    split <;> rfl
  | k + 1, p, st => by
    obtain ⟨a1, a2, a3⟩ := lp_rf (r := r) h1 h2 h3 k (p + 1) (RFb E c p st)
    show (lp (RFb E c) k (p + 1) (RFb E c p st)).1 = st.1 + lp (cwF E w) k (p + 1) (cwF E w p 0) ∧ (lp (RFb E c) k (p + 1) (RFb E c p st)).2.1 = (if st.1 = 0 then (if E p = true ∧ 0 < w p then r p else fsq E w r k (p + 1) st.2.1) else st.2.1) ∧ (lp (RFb E c) k (p + 1) (RFb E c p st)).2.2.testBit i = (st.2.2.testBit i || (E p && b p || anq E b k (p + 1)))
    rw [lp_cw k (p + 1) (cwF E w p 0), a1, a2, a3]
    unfold RFb cwF
    by_cases z : E p = true
    · rw [if_pos z, if_pos z, h1, h2, h3, z, Bool.true_and]
      refine ⟨by omega, ?_, Bool.or_assoc _ _ _⟩
      by_cases y : st.1 = 0
      · rw [if_pos y]
        by_cases x : 0 < w p
        · rw [if_neg (by omega), if_pos ⟨y, x⟩, if_pos ⟨rfl, x⟩]
        · rw [if_pos (by omega), if_neg (fun h => x h.2), if_neg (fun h => x h.2)]
      · rw [if_neg y, if_neg (by omega), if_neg (fun h => y h.1)]
    · have z' : E p = false := by
        cases e : E p with
        | true => exact absurd e z
        | false => rfl
      rw [if_neg z, if_neg z, z', Bool.false_and, Bool.false_or, if_neg (c := (false = true ∧ 0 < w p)) (fun h => Bool.false_ne_true h.1)]
      exact ⟨by omega, rfl, rfl⟩
theorem Drr_s {E : Nat → Nat → Nat → Bool} {now told i : Nat} : ∀ (m s r0 : Nat) (st : aQ), (Drr E now told m s r0 st).1 = st.1 + cwR E told m s ∧ (Drr E now told m s r0 st).2.1 = (if st.1 = 0 ∧ 0 < cwR E told m s then r0 else st.2.1) ∧ ((Drr E now told m s r0 (rup now s st)).2.2.testBit i = (st.2.2.testBit i || crB E now i m s)) ∧ (Drr E now told m s r0 st).2.2.testBit i = (st.2.2.testBit i || (decide (0 < m) && anq (E (m - 1) s) (fun q => crB E now i (m - 1) (flq s q)) 21 0))
  | 0, s, r0, st => by
    have rb : (rup now s st).2.2.testBit i = (st.2.2.testBit i || (s ^^^ now).testBit i) := Nat.testBit_or _ _ _
    have l0 : (st.2.2.testBit i || (decide (0 < 0) && anq (E (0 - 1) s) (fun q => crB E now i (0 - 1) (flq s q)) 21 0)) = st.2.2.testBit i := by
      rw [decide_eq_false (Nat.lt_irrefl 0), Bool.false_and, Bool.or_false]
    by_cases z : s = told
    · have c1 : cwR E told 0 s = 1 := if_pos z
      have d1 : ∀ st : aQ, Drr E now told 0 s r0 st = (st.1 + 1, if st.1 = 0 then r0 else st.2.1, st.2.2) := fun st => if_pos z
      rw [c1, d1, d1, l0]
      refine ⟨rfl, ?_, rb, rfl⟩
      show (if st.1 = 0 then r0 else st.2.1) = if st.1 = 0 ∧ 0 < 1 then r0 else st.2.1
      by_cases y : st.1 = 0
      · rw [if_pos y, if_pos ⟨y, by omega⟩]
      · rw [if_neg y, if_neg (fun h => y h.1)]
    · have c1 : cwR E told 0 s = 0 := if_neg z
      have d1 : ∀ st : aQ, Drr E now told 0 s r0 st = st := fun st => if_neg z
      rw [c1, d1, d1, l0]
      refine ⟨rfl, ?_, rb, rfl⟩
      rw [if_neg (fun h => absurd h.2 (by omega))]
  | m + 1, s, r0, st => by
    have L := fun st => @lp_rf (E m s) (fun q st => Drr E now told m (flq s q) r0 (rup now (flq s q) st)) (fun q => cwR E told m (flq s q)) (fun _ => r0) (fun q => crB E now i m (flq s q)) i (fun q st => (Drr_s (i := i) m (flq s q) r0 (rup now (flq s q) st)).1) (fun q st => (Drr_s (i := i) m (flq s q) r0 (rup now (flq s q) st)).2.1) (fun q st => (Drr_s m (flq s q) r0 st).2.2.1) 21 0 st
    obtain ⟨a1, a2, a3⟩ := L st
    obtain ⟨b1, b2, b3⟩ := L (rup now s st)
    refine ⟨a1, ?_, ?_, ?_⟩
    · show (lp (RFb (E m s) (fun q st => Drr E now told m (flq s q) r0 (rup now (flq s q) st))) 21 0 st).2.1 = _
      rw [a2, fsq_c]
      show _ = if st.1 = 0 ∧ 0 < lp (cwF (E m s) (fun q => cwR E told m (flq s q))) 21 0 0 then r0 else st.2.1
      by_cases y : st.1 = 0
      · rw [if_pos y]
        by_cases x : 0 < lp (cwF (E m s) (fun q => cwR E told m (flq s q))) 21 0 0
        · rw [if_pos x, if_pos ⟨y, x⟩]
        · rw [if_neg x, if_neg (fun h => x h.2)]
      · rw [if_neg y, if_neg (fun h => y h.1)]
    · refine b3.trans ?_
      show ((st.2.2 ||| (s ^^^ now)).testBit i || _) = (st.2.2.testBit i || ((s ^^^ now).testBit i || anq (E m s) (fun q => crB E now i m (flq s q)) 21 0))
      rw [Nat.testBit_or, Bool.or_assoc]
    · refine a3.trans ?_
      rw [decide_eq_true (Nat.succ_pos m), Bool.true_and]
      rfl
theorem cwR_b {E : Nat → Nat → Nat → Bool} {told : Nat} : ∀ (m s : Nat), cwR E told m s ≤ 21 ^ m
  | 0, s => by
    show (if s = told then 1 else 0) ≤ 1
    split <;> omega
  | m + 1, s => by
    have := @lp_cwb (E m s) (fun q => cwR E told m (flq s q)) (21 ^ m) (fun q _ => cwR_b m (flq s q)) 21 0
    rw [Nat.pow_succ]
    exact this
