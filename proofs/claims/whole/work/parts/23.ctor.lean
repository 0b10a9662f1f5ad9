/-! the store after both constructors is one of the shape cS -/
section CT
variable {sc : aSc} {mi : Nat}
/-- without the script's view the same, wherever it answers -/
theorem stp_sc {pc : Nat} {L st : List Value} {σ : aS} {o : aOut} (h : stp none mi pc L st σ = some o) : stp sc mi pc L st σ = some o := by
  unfold stp at h ⊢
  cases hd : decode (mC mi) pc with
  | error e => rw [hd] at h; cases h
  | ok p =>
  obtain ⟨i, len⟩ := p
  rw [hd] at h
  simp only at h ⊢
  cases i
  case arraylength =>
    simp only [stpI] at h ⊢
    split at h <;> try cases h
    rw [if_pos ‹_›]
    split at h <;> try cases h
    split at h <;> try cases h
    rw [if_neg ‹_›]
    exact h
  case iaload =>
    simp only [stpI] at h ⊢
    split at h <;> try cases h
    rw [if_pos ‹_›]
    split at h <;> try cases h
    rename_i i a r
    by_cases ha : a = 0
    · unfold arI at h
      rw [if_pos ha] at h
      cases h
    · have e : arI sc σ a = arI none σ a := by
        unfold arI
        rw [if_neg ha, if_neg ha]
      rw [e]
      exact h
  all_goals exact h
theorem ex_sc {cb cb2 : Nat → List Value → aS → Option aRes} (hcb : ∀ j as σ r, cb j as σ = some r → cb2 j as σ = some r) : ∀ (n pc : Nat) (L st : List Value) (σ : aS) (r : aRes), ex cb none mi n pc L st σ = some r → ex cb2 sc mi n pc L st σ = some r
  | 0, _, _, _, _, _, h => by cases h
  | n + 1, pc, L, st, σ, r, h => by
    unfold ex at h ⊢
    split at h
    · rename_i hs
      simp only [stp_sc hs]
      exact ex_sc hcb n _ _ _ _ _ h
    · rename_i hs
      simp only [stp_sc hs]
      split at h
      · rename_i hc
        simp only [hcb _ _ _ _ hc]
        exact ex_sc hcb n _ _ _ _ _ h
      · cases h
    · rename_i hs
      simp only [stp_sc hs]
      exact h
    · cases h
theorem cl_sc {N : Nat} : ∀ (d j : Nat) (as : List Value) (σ : aS) (r : aRes), cl none N d j as σ = some r → cl sc N d j as σ = some r
  | 0, _, _, _, _, h => by cases h
  | d + 1, j, as, σ, r, h => by
    unfold cl at h ⊢
    split at h
    · rw [if_pos ‹_›]
      exact ex_sc (fun j as σ r h => cl_sc d j as σ r h) _ _ _ _ _ _ h
    · cases h
/-- how many references a cell may hold -/
def szR : aK → Nat
  | .inl ci => nfl ci
  | .inr (ty, n) => if isRf ty = true then n else 0
/-- the first seventeen cells stand fast; no reference lies outside its cell -/
def Inv (σ : aS) : Prop := 17 ≤ σ.1.length ∧ (∀ o, o < 17 → aI σ o = fI o) ∧ ∀ o k q, aR σ o k = some q → ∃ kd, σ.1[o]? = some kd ∧ k < szR kd
theorem inv_I {σ : aS} {o : Nat} {w : Nat → Int32} (h17 : 17 ≤ o) (h : Inv σ) : Inv (pIr σ o w) :=
  ⟨h.1, fun q hq => by
    show va_up (aI σ) o w q = fI q
    unfold va_up
    rw [if_neg (by omega)]
    exact h.2.1 q hq, h.2.2⟩
theorem inv_J {σ : aS} {o : Nat} {w : Nat → Int64} (h : Inv σ) : Inv (pJr σ o w) := h
theorem inv_R {σ : aS} {o k : Nat} {kd : aK} {x : Option Nat} (hk : σ.1[o]? = some kd) (hs : k < szR kd) (h : Inv σ) : Inv (pR σ o k x) := by
  refine ⟨h.1, h.2.1, fun a b q hq => ?_⟩
  have e : aR (pR σ o k x) a b = (if a = o then (if b = k then x else aR σ o b) else aR σ a b) := by
    show va_up (aR σ) o (va_up (aR σ o) k x) a b = _
    unfold va_up
    split
    · rfl
    · rfl
  rw [e] at hq
  split at hq
  · subst_vars
    split at hq
    · subst_vars
      exact ⟨kd, hk, hs⟩
    · exact h.2.2 _ _ _ hq
  · exact h.2.2 _ _ _ hq
theorem inv_zN {σ : aS} {kd : aK} (h : Inv σ) : Inv (zN σ kd) := by
  refine ⟨by show 17 ≤ (σ.1 ++ [kd]).length; rw [List.length_append]; have := h.1; omega, fun q hq => ?_, fun a b q hq => ?_⟩
  · show va_up (aI σ) σ.1.length (fun _ => 0) q = fI q
    have := h.1
    unfold va_up
    rw [if_neg (by omega)]
    exact h.2.1 q hq
  · have hq2 : va_up (aR σ) σ.1.length (fun _ => none) a b = some q := hq
    unfold va_up at hq2
    split at hq2
    · cases hq2
    · obtain ⟨kd2, h1, h2⟩ := h.2.2 _ _ _ hq2
      refine ⟨kd2, ?_, h2⟩
      show (σ.1 ++ [kd])[a]? = some kd2
      rw [List.getElem?_append_left (List.getElem?_eq_some_iff.mp h1).1]
      exact h1
theorem inv_zM {σ : aS} {n k : Nat} (h : Inv σ) : Inv (zM σ n k) := by
  refine ⟨by show 17 ≤ (σ.1 ++ _ :: _).length; rw [List.length_append]; have := h.1; omega, fun q hq => ?_, fun a b q hq => ?_⟩
  · have := h.1
    show (if σ.1.length ≤ q then fun _ => 0 else aI σ q) = fI q
    rw [if_neg (by omega)]
    exact h.2.1 q hq
  · have hq2 : (if a = σ.1.length then fun i => if i < n then some (σ.1.length + 1 + i) else none else if σ.1.length < a then fun _ => none else aR σ a) b = some q := hq
    split at hq2
    · subst_vars
      simp only at hq2
      split at hq2
      · refine ⟨.inr (.array .int, n), ?_, ?_⟩
        · show (σ.1 ++ _ :: _)[σ.1.length]? = _
          rw [List.getElem?_append_right (Nat.le_refl _), Nat.sub_self]
          rfl
        · show b < n
          assumption
      · cases hq2
    · split at hq2
      · cases hq2
      · obtain ⟨kd2, h1, h2⟩ := h.2.2 _ _ _ hq2
        refine ⟨kd2, ?_, h2⟩
        show (σ.1 ++ _ :: _)[a]? = some kd2
        rw [List.getElem?_append_left (List.getElem?_eq_some_iff.mp h1).1]
        exact h1
theorem inv_putv {σ σ2 : aS} {o k ci : Nat} {ty : FieldType} {v : Value} (h17 : 17 ≤ o) (hk : σ.1[o]? = some (.inl ci)) (hn : k < nfl ci) (hp : putv σ o k ty v = some σ2) (h : Inv σ) : Inv σ2 := by
  unfold putv at hp
  split at hp
  · split at hp
    · cases hp; exact inv_I h17 h
    · cases hp
  · split at hp
    · cases hp; exact inv_R hk hn h
    · cases hp
  · cases hp
theorem stp_inv {pc pc' : Nat} {L st L' st' : List Value} {σ σ' : aS} (h : stp sc mi pc L st σ = some (.inl (pc', L', st', σ'))) (hI : Inv σ) : Inv σ' := by
  unfold stp at h
  split at h <;> try cases h
  rename_i i len hd
  cases i
  case invokevirtual x =>
    simp only [stpI] at h
    split at h <;> try cases h
    exact (doCall_no h).elim
  case invokestatic x =>
    simp only [stpI, nx] at h
    split at h <;> try cases h
    split at h
    · split at h <;> try cases h
      split at h <;> try cases h
      rename_i hg
      have h17 : ∀ b : Nat, ¬ (b < 17) → 17 ≤ b := fun b hb => by omega
      split at h
      · split at h <;> cases h
        exact inv_I (h17 _ (fun q => hg (Or.inr (Or.inr (Or.inr (Or.inr (Or.inl q))))))) hI
      · split at h <;> cases h
        exact inv_J hI
      · cases h
    · exact (doCall_no h).elim
  case invokespecial x =>
    simp only [stpI, nx] at h
    split at h <;> try cases h
    split at h
    · repeat' split at h
      all_goals (first | (cases h; done) | (cases h; exact hI))
    · split at h <;> exact (doCall_no h).elim
  case putfield x =>
    simp only [stpI, nx] at h
    split at h <;> try cases h
    split at h <;> try cases h
    split at h <;> try cases h
    split at h <;> try cases h
    rename_i hg
    split at h <;> cases h
    rename_i hp
    exact inv_putv hg.1 hg.2.2.1 hg.2.2.2.1 hp hI
  case aastore =>
    simp only [stpI, nx] at h
    split at h <;> try cases h
    split at h <;> try cases h
    split at h <;> try cases h
    rename_i hk
    split at h <;> try cases h
    split at h <;> cases h
    rename_i hg
    refine inv_R hk ?_ hI
    have h1 := hg.1
    unfold inb at h1
    simp only [Bool.not_eq_true', Bool.or_eq_false_iff, decide_eq_false_iff_not] at h1
    have e : ∀ C n, szR (.inr (.object C, n)) = n := fun _ _ => rfl
    rw [e]
    omega
  case iastore =>
    simp only [stpI, nx] at h
    repeat' split at h
    all_goals (first | (cases h; done) | (cases h; exact inv_I (‹_ ∧ 17 ≤ _›).2 hI))
  case bastore =>
    simp only [stpI, nx] at h
    repeat' split at h
    all_goals (first | (cases h; done) | (cases h; exact inv_I (‹_ ∧ 17 ≤ _›).2 hI))
  all_goals (simp only [stpI, nx, gt0, cj] at h; repeat' split at h)
  all_goals (first | (cases h; done) | (cases h; exact hI) | (cases h; exact inv_J hI) | (cases h; exact inv_zN hI) | (cases h; exact inv_zM hI))
theorem ex_inv {cb : Nat → List Value → aS → Option aRes} (hcb : ∀ j as σ σ' v, cb j as σ = some (σ', v) → Inv σ → Inv σ') : ∀ (n pc : Nat) (L st : List Value) (σ σ' : aS) (v : Option Value), ex cb sc mi n pc L st σ = some (σ', v) → Inv σ → Inv σ'
  | 0, _, _, _, _, _, _, h, _ => by cases h
  | n + 1, pc, L, st, σ, σ', v, h, hI => by
    unfold ex at h
    split at h
    · rename_i pc1 L1 st1 σ1 hs
      exact ex_inv hcb n _ _ _ _ _ _ h (stp_inv hs hI)
    · rename_i j as pc1 L1 st1 σ1 hs
      split at h
      · rename_i σ2 v2 hc
        obtain ⟨x, kd, hd, -⟩ := call_is hs
        obtain ⟨-, -, -, -, -, rfl, -⟩ := doCall_is hd
        exact ex_inv hcb n _ _ _ _ _ _ h (hcb _ _ _ _ _ hc hI)
      · cases h
    · cases h; exact hI
    · cases h
theorem cl_inv {N : Nat} : ∀ (d j : Nat) (as : List Value) (σ σ' : aS) (v : Option Value), cl sc N d j as σ = some (σ', v) → Inv σ → Inv σ'
  | 0, _, _, _, _, _, h, _ => by cases h
  | d + 1, j, as, σ, σ', v, h, hI => by
    unfold cl at h
    split at h
    · exact ex_inv (fun j as σ σ' v h => cl_inv d j as σ σ' v h) _ _ _ _ _ _ _ h hI
    · cases h
end CT
