/-! the best row of runs: pure. By all rows one after another, and by what is best behind each pair -/
abbrev aW : Type := Nat × Nat × List Nat
def upw (st : Option aW) (b : aW) : Option aW := match st with
  | none => some b
  | some a => if a.1 < b.1 ∨ (b.1 = a.1 ∧ b.2.1 < a.2.1) then some b else some a
def shR (w : Nat) (rw : List Nat) (v : aW) : aW := (v.1, w + v.2.1, rw ++ v.2.2)
def exR (v : aW) (p q : Nat) : aW := (v.1, v.2.1 + p, q :: v.2.2)
def umR (w : Nat) (rw : List Nat) (st o : Option aW) : Option aW := match o with
  | none => st
  | some v => upw st (shR w rw v)
def chS (E : Nat → Bool) (c : Nat → aW) (q : Nat) (st : Option aW) : Option aW := if q = 21 ∨ E q = true then upw st (c q) else st
def Vb (E : Nat → Nat → Nat → Bool) (P : Nat → Nat → Nat → Nat) (G : Nat → Nat) : Nat → Nat → aW
  | 0, s => (G s, 0, [])
  | m + 1, s => (lp (chS (E m s) (fun q => exR (Vb E P G m (flq s q)) (P m s q) q)) 22 0 none).getD (0, 0, [])
def DbF (E : Nat → Bool) (c : Nat → Option aW → Option aW) (q : Nat) (st : Option aW) : Option aW := if q = 21 ∨ E q = true then c q st else st
def Db (E : Nat → Nat → Nat → Bool) (P : Nat → Nat → Nat → Nat) (G : Nat → Nat) : Nat → Nat → Nat → List Nat → Option aW → Option aW
  | 0, s, w, rw, st => upw st (G s, w, rw)
  | m + 1, s, w, rw, st => lp (DbF (E m s) (fun q st => Db E P G m (flq s q) (w + P m s q) (rw ++ [q]) st)) 22 0 st
theorem upw_um (w : Nat) (rw : List Nat) (st o : Option aW) (b : aW) : umR w rw st (upw o b) = upw (umR w rw st o) (shR w rw b) := by
  obtain ⟨b1, b2, b3⟩ := b
  cases o with
  | none => rfl
  | some a =>
    obtain ⟨a1, a2, a3⟩ := a
    cases st with
    | none =>
      unfold umR upw shR
      dsimp only
      by_cases h : a1 < b1 ∨ (b1 = a1 ∧ b2 < a2)
      · rw [if_pos h, if_pos (by omega)]
      · rw [if_neg h, if_neg (by omega)]
    | some c =>
      obtain ⟨c1, c2, c3⟩ := c
      unfold umR upw shR
      dsimp only
      by_cases h : a1 < b1 ∨ (b1 = a1 ∧ b2 < a2)
      · rw [if_pos h]
        dsimp only
        by_cases h2 : c1 < a1 ∨ (a1 = c1 ∧ w + a2 < c2)
        · rw [if_pos h2]
          dsimp only
          rw [if_pos (by omega), if_pos (by omega)]
        · rw [if_neg h2]
      · rw [if_neg h]
        dsimp only
        by_cases h2 : c1 < a1 ∨ (a1 = c1 ∧ w + a2 < c2)
        · rw [if_pos h2]
          dsimp only
          rw [if_neg (by omega)]
        · rw [if_neg h2]
          dsimp only
          rw [if_neg (by omega)]
theorem lp_um {E : Nat → Bool} {c : Nat → aW} {w : Nat} {rw : List Nat} : ∀ (k p : Nat) (st o : Option aW), lp (DbF E (fun q st => upw st (shR w rw (c q)))) k p (umR w rw st o) = umR w rw st (lp (chS E c) k p o)
  | 0, _, _, _ => rfl
  | k + 1, p, st, o => by
    show lp _ k (p + 1) (DbF E (fun q st => upw st (shR w rw (c q))) p (umR w rw st o)) = umR w rw st (lp (chS E c) k (p + 1) (chS E c p o))
    have e : DbF E (fun q st => upw st (shR w rw (c q))) p (umR w rw st o) = umR w rw st (chS E c p o) := by
      unfold DbF chS
      by_cases h : p = 21 ∨ E p = true
      · rw [if_pos h, if_pos h, upw_um]
      · rw [if_neg h, if_neg h]
    rw [e]
    exact lp_um k (p + 1) st _
theorem upw_so (o : Option aW) (b : aW) : ∃ v, upw o b = some v := by
  cases o with
  | none => exact ⟨b, rfl⟩
  | some a =>
    unfold upw
    dsimp only
    split
    · exact ⟨b, rfl⟩
    · exact ⟨a, rfl⟩
theorem lp_so {E : Nat → Bool} {c : Nat → aW} : ∃ v, lp (chS E c) 22 0 none = some v := by
  rw [show 22 = 21 + 1 from rfl, lp_add 21 1]
  show ∃ v, chS E c (0 + 21) _ = some v
  unfold chS
  rw [if_pos (Or.inl rfl)]
  exact upw_so _ _
theorem Vb_so {E : Nat → Nat → Nat → Bool} {P : Nat → Nat → Nat → Nat} {G : Nat → Nat} {m s : Nat} : lp (chS (E m s) (fun q => exR (Vb E P G m (flq s q)) (P m s q) q)) 22 0 none = some (Vb E P G (m + 1) s) := by
  obtain ⟨v, hv⟩ := @lp_so (E m s) (fun q => exR (Vb E P G m (flq s q)) (P m s q) q)
  show _ = some ((lp (chS (E m s) (fun q => exR (Vb E P G m (flq s q)) (P m s q) q)) 22 0 none).getD (0, 0, []))
  rw [hv]
  rfl
theorem Db_V {E : Nat → Nat → Nat → Bool} {P : Nat → Nat → Nat → Nat} {G : Nat → Nat} : ∀ (m s w : Nat) (rw : List Nat) (st : Option aW), Db E P G m s w rw st = upw st (shR w rw (Vb E P G m s))
  | 0, s, w, rw, st => by
    show upw st (G s, w, rw) = upw st (G s, w + 0, rw ++ [])
    rw [List.append_nil, Nat.add_zero]
  | m + 1, s, w, rw, st => by
    have e : lp (DbF (E m s) (fun q st => Db E P G m (flq s q) (w + P m s q) (rw ++ [q]) st)) 22 0 st = lp (DbF (E m s) (fun q st => upw st (shR w rw (exR (Vb E P G m (flq s q)) (P m s q) q)))) 22 0 st := lp_cong 22 0 st fun q _ _ st => by
      unfold DbF
      dsimp only
      rw [Db_V m]
      unfold shR exR
      rw [List.append_assoc, Nat.add_assoc, Nat.add_comm (P m s q)]
      rfl
    show lp (DbF (E m s) (fun q st => Db E P G m (flq s q) (w + P m s q) (rw ++ [q]) st)) 22 0 st = _
    have h := @lp_um (E m s) (fun q => exR (Vb E P G m (flq s q)) (P m s q) q) w rw 22 0 st none
    rw [e]
    refine h.trans ?_
    rw [Vb_so]
    rfl
/-- what a choice is of -/
theorem ch_of {E : Nat → Bool} {c : Nat → aW} : ∀ (k p : Nat) (o : Option aW), p + k ≤ 22 → (∀ v, o = some v → ∃ q, q ≤ 21 ∧ (q = 21 ∨ E q = true) ∧ v = c q) → ∀ v, lp (chS E c) k p o = some v → ∃ q, q ≤ 21 ∧ (q = 21 ∨ E q = true) ∧ v = c q
  | 0, _, _, _, h, v, hv => h v hv
  | k + 1, p, o, hk, h, v, hv => by
    refine ch_of k (p + 1) (chS E c p o) (by omega) (fun u hu => ?_) v hv
    unfold chS at hu
    by_cases z : p = 21 ∨ E p = true
    · rw [if_pos z] at hu
      cases o with
      | none =>
        cases hu
        exact ⟨p, by omega, z, rfl⟩
      | some a =>
        unfold upw at hu
        dsimp only at hu
        split at hu
        · cases hu
          exact ⟨p, by omega, z, rfl⟩
        · cases hu
          exact h _ rfl
    · rw [if_neg z] at hu
      exact h u hu
theorem Vb_q {E : Nat → Nat → Nat → Bool} {P : Nat → Nat → Nat → Nat} {G : Nat → Nat} {m s : Nat} : ∃ q, q ≤ 21 ∧ (q = 21 ∨ E m s q = true) ∧ Vb E P G (m + 1) s = exR (Vb E P G m (flq s q)) (P m s q) q :=
  ch_of 22 0 none (Nat.le_refl _) (fun v h => by cases h) _ Vb_so
theorem Vb_b {E : Nat → Nat → Nat → Bool} {P : Nat → Nat → Nat → Nat} {G : Nat → Nat} {n B : Nat} (hG : ∀ s, s < 2 ^ n → G s ≤ 693) (hP : ∀ m s q, s < 2 ^ n → q ≤ 21 → (q = 21 ∨ E m s q = true) → P m s q ≤ B) (hE : ∀ m s q, s < 2 ^ n → q ≤ 21 → (q = 21 ∨ E m s q = true) → flq s q < 2 ^ n) : ∀ (m s : Nat), s < 2 ^ n → (Vb E P G m s).1 ≤ 693 ∧ (Vb E P G m s).2.1 ≤ B * m ∧ (Vb E P G m s).2.2.length = m ∧ ∀ k, k < m → (Vb E P G m s).2.2.getD k 0 ≤ 21
  | 0, s, h => ⟨hG s h, Nat.zero_le _, rfl, fun k hk => absurd hk (by omega)⟩
  | m + 1, s, h => by
    obtain ⟨q, q1, q2, q3⟩ := @Vb_q E P G m s
    obtain ⟨a, b, c, e⟩ := Vb_b hG hP hE m (flq s q) (hE m s q h q1 q2)
    have p := hP m s q h q1 q2
    rw [q3]
    unfold exR
    refine ⟨a, ?_, ?_, fun k hk => ?_⟩
    · show (Vb E P G m (flq s q)).2.1 + P m s q ≤ B * (m + 1)
      rw [Nat.mul_succ]
      omega
    · show (q :: (Vb E P G m (flq s q)).2.2).length = m + 1
      rw [List.length_cons, c]
    · cases k with
      | zero => exact q1
      | succ k => exact e k (by omega)
/-- the next pair that would go -/
def nxk (G : Nat → Bool) : Nat → Nat → Nat
  | 0, t => t
  | k + 1, t => if G t = true then t else nxk G k (t + 1)
def nxt (G : Nat → Bool) (t : Nat) : Nat := nxk G (21 - t) t
theorem nxt_hit {G : Nat → Bool} {t : Nat} (h : t < 21) (g : G t = true) : nxt G t = t := by
  unfold nxt
  rw [show 21 - t = (20 - t) + 1 by omega]
  exact if_pos g
theorem nxt_st {G : Nat → Bool} {t : Nat} (h : t < 21) (g : G t = false) : nxt G t = nxt G (t + 1) := by
  unfold nxt
  rw [show 21 - t = (21 - (t + 1)) + 1 by omega]
  exact if_neg (fun e => by rw [g] at e; cases e)
theorem nxt_skip {G : Nat → Bool} {u : Nat} (hu : u ≤ 21) : ∀ (k t : Nat), t + k = u → (∀ q, t ≤ q → q < u → G q = false) → nxt G t = nxt G u
  | 0, t, h, _ => by rw [show t = u from h]
  | k + 1, t, h, g => by
    rw [nxt_st (by omega) (g t (Nat.le_refl _) (by omega))]
    exact nxt_skip hu k (t + 1) (by omega) fun q a b => g q (by omega) b
theorem nxt_21 {G : Nat → Bool} : nxt G 21 = 21 := rfl
theorem nxt_p {G : Nat → Bool} : ∀ (k t : Nat), t + k = 21 → t ≤ nxt G t ∧ nxt G t ≤ 21 ∧ (nxt G t < 21 → G (nxt G t) = true) ∧ ∀ q, t ≤ q → q < nxt G t → G q = false
  | 0, t, h => by
    have e : t = 21 := h
    subst e
    rw [nxt_21]
    exact ⟨Nat.le_refl _, Nat.le_refl _, fun h => absurd h (by omega), fun q a b => absurd a (by omega)⟩
  | k + 1, t, h => by
    by_cases g : G t = true
    · rw [nxt_hit (by omega) g]
      exact ⟨Nat.le_refl _, by omega, fun _ => g, fun q a b => absurd a (by omega)⟩
    · have g' : G t = false := by
        cases e : G t with
        | true => exact absurd e g
        | false => rfl
      obtain ⟨a, b, c, e⟩ := nxt_p (G := G) k (t + 1) (by omega)
      rw [nxt_st (by omega) g']
      refine ⟨by omega, b, c, fun q x y => ?_⟩
      by_cases z : q = t
      · rw [z]
        exact g'
      · exact e q (by omega) y
