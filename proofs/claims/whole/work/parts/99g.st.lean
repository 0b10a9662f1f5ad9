/-! the start: both just made are alike; the law holds -/
theorem ini {o k : Nat} {v : Int32} (h : (o, k, v) ∈ iniL) : f0 o k = v := by
  have a := List.all_eq_true.mp cM_all.2.2.2.2 (o, k, v) h
  exact eq_of_beq a
theorem i61 : ∀ k, k < 28 → (61, k, (0 : Int32)) ∈ iniL ∧ (120, k, (0 : Int32)) ∈ iniL := by decide +kernel
theorem i102 : ∀ t, t < 6 → (102 + 2 * t, 0, (-1 : Int32)) ∈ iniL ∧ (102 + 2 * t, 1, (0 : Int32)) ∈ iniL := by decide +kernel
theorem i149 : ∀ t, t < 6 → (149, t, (-1 : Int32)) ∈ iniL ∧ (150, t, (0 : Int32)) ∈ iniL := by decide +kernel
theorem i129 : ∀ k, k < 17 → (129, k, nI ([115, 110, 111, 119, 115, 108, 117, 115, 104, 110, 101, 101, 100, 114, 111, 112, 101].getD k 0)) ∈ iniL := by decide +kernel
def D0 : aD := (fun _ => 0, fun _ => 0, fun _ => 0, fun _ => 0, [])
theorem xs0 : XS f0 g0 52 52 := by
  refine ⟨0, 0, 0, 0, 0, 0, 0, 0, fun _ => 0, D0, 0, fun _ => [], ?_, Or.inl ⟨rfl, ini (by decide +kernel), rfl⟩, ⟨by decide, ini (by decide +kernel), ini (by decide +kernel), fun t ht => absurd ht (Nat.not_lt_zero t), ⟨ini (by decide +kernel), ini (by decide +kernel)⟩, ini (by decide +kernel), ini (by decide +kernel)⟩, Or.inl ⟨ini (by decide +kernel), ini (by decide +kernel)⟩, fun t ht => ?_, ⟨0, by decide, ini (by decide +kernel), ini (by decide +kernel), fun k hk => absurd hk (Nat.not_lt_zero k)⟩, ⟨0, by decide, ini (by decide +kernel), ini (by decide +kernel), fun k hk => absurd hk (Nat.not_lt_zero k)⟩, ini (by decide +kernel), fun k hk => ini (i129 k hk)⟩
  · exact dsim_mk (by decide) (by decide) (by decide) (by decide) (by decide) (by decide) (by decide) (by decide) (ini (by decide +kernel)) (ini (by decide +kernel)) (ini (by decide +kernel)) (ini (by decide +kernel)) (ini (by decide +kernel)) (ini (by decide +kernel)) (ini (by decide +kernel)) (ini (by decide +kernel)) (ini (by decide +kernel)) (ini (by decide +kernel)) (ini (by decide +kernel)) (ini (by decide +kernel)) (ini (by decide +kernel)) (ini (by decide +kernel)) (ini (by decide +kernel)) (fun s hs => absurd hs (Nat.not_lt_zero s)) (fun s hs => absurd hs (Nat.not_lt_zero s)) (fun k hk => ⟨ini (i61 k hk).1, ini (i61 k hk).2, fun _ => rfl⟩) (fun i hi => absurd hi (Nat.not_lt_zero i)) (fun i hi => absurd hi (Nat.not_lt_zero i)) ⟨by decide, fun s hs => absurd hs (Nat.not_lt_zero s), fun k hk => Nat.zero_le _, fun c hc => absurd hc (List.not_mem_nil), Nat.zero_le _⟩
  · obtain ⟨a1, a2⟩ := i102 t ht
    obtain ⟨a3, a4⟩ := i149 t ht
    exact ⟨0, by decide, ini a2, ini a4, Or.inl ⟨ini a1, rfl⟩, (ini a3).trans (ini a1).symm, fun k hk => absurd hk (Nat.not_lt_zero k)⟩
theorem law_goal : LawGoal := by
  intro L xs hL
  obtain ⟨F, G, A, B, h⟩ := @law_loop 970 L xs hL 513 0 f0 g0 52 52 (by omega) (by omega) xs0
  exact ⟨F, G, A, B, h⟩
