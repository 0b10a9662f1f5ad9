/-! the law from its loop on -/
theorem okR_is {c : Option aRes} (h : okR c = true) : c = some ((c.getD (s0, none)).1, none) := by
  unfold okR at h
  split at h
  · rfl
  · cases h
theorem RT_dom {o k q : Nat} (h : RT o k = some q) : o < 153 ∧ k < szR (KK.getD o (.inl 0)) := by
  unfold RT at h
  split at h
  all_goals first | (split at h <;> first | exact ⟨by decide, by decide +kernel⟩ | cases h) | skip
  unfold fR at h
  split at h
  · rename_i hk
    have hc := List.all_eq_true.mp (show (List.range 11).all (fun o => decide (o < 5) || decide (0 < szR (KK.getD o (.inl 0)))) = true by decide +kernel) o (List.mem_range.mpr hk.2.1)
    simp only [Bool.or_eq_true, decide_eq_true_eq] at hc
    have := hk.1
    have := hk.2.1
    refine ⟨by omega, ?_⟩
    rw [hk.2.2]
    rcases hc with hc | hc
    · omega
    · exact hc
  · cases h
theorem RR_dom {o k q : Nat} (h : RR 52 52 o k = some q) : o < 153 ∧ k < szR (KK.getD o (.inl 0)) := by
  unfold RR at h
  split at h
  · subst_vars
    split at h
    · subst_vars
      exact ⟨by decide, by decide +kernel⟩
    · split at h
      · subst_vars
        exact ⟨by decide, by decide +kernel⟩
      · exact RT_dom h
  · exact RT_dom h
theorem cS_of {σ : aS} {f : Nat → Nat → Int32} {h1 h2 : Nat} (hk : σ.1 = KK) (hI : aI σ = canI f) (hR : aR σ = RR h1 h2) : σ = cS f (aJ σ) h1 h2 := by
  obtain ⟨k, i, j, q⟩ := σ
  have a : k = KK := hk
  have b : i = canI f := hI
  have c : q = RR h1 h2 := hR
  subst a b c
  rfl
theorem ex_pt {α β : Type} {a : α} {b : β} {P : α → β → Prop} : (∃ x y, (x = a ∧ y = b) ∧ P x y) ↔ P a b := ⟨fun ⟨_, _, ⟨e1, e2⟩, h⟩ => by subst e1 e2; exact h, fun h => ⟨_, _, ⟨rfl, rfl⟩, h⟩⟩
def f0 : Nat → Nat → Int32 := aI sM
def g0 : Nat → Nat → Int64 := aJ sM
theorem inv_s0 : Inv s0 := by
  refine ⟨by decide, fun _ _ => rfl, fun o k q h => ?_⟩
  have h2 : fR o k = some q := h
  unfold fR at h2
  split at h2
  · rename_i hk
    have hc := List.all_eq_true.mp (show (List.range 11).all (fun o => decide (o < 5) || (decide (s0.1[o]? = some (.inl 8)))) = true by decide +kernel) o (List.mem_range.mpr hk.2.1)
    simp only [Bool.or_eq_true, decide_eq_true_eq] at hc
    have := hk.1
    rcases hc with hc | hc
    · omega
    · exact ⟨_, hc, by rw [hk.2.2]; decide +kernel⟩
  · cases h2
theorem cX_eq : cX = some (sX, none) := okR_is cX_ok
theorem cM_all : okR cM = true ∧ sX.1.length = 114 ∧ sM.1 = KK ∧ (List.range 153).all (fun o => (List.range (szR (KK.getD o (.inl 0)))).all fun k => aR sM o k == RR 52 52 o k) = true ∧ iniL.all (fun e => aI sM e.1 e.2.1 == e.2.2) = true := by
  have h := cM_ok
  simp only [Bool.and_eq_true, decide_eq_true_eq] at h
  exact ⟨h.1.1.1.1, h.1.1.1.2, h.1.1.2, h.1.2, h.2⟩
theorem cM_eq : cM = some (sM, none) := okR_is cM_all.1
theorem inv_sX : Inv sX := cl_inv _ _ _ _ _ _ cX_eq (inv_zN inv_s0)
theorem inv_sM : Inv sM := cl_inv _ _ _ _ _ _ cM_eq (inv_zN inv_sX)
theorem sM_can : sM = cS f0 g0 52 52 := by
  have hI : aI sM = canI f0 := by
    funext o
    unfold canI
    split
    · exact inv_sM.2.1 o ‹_›
    · rfl
  have hR : aR sM = RR 52 52 := by
    funext o k
    by_cases hd : o < 153 ∧ k < szR (KK.getD o (.inl 0))
    · have h1 := List.all_eq_true.mp cM_all.2.2.2.1 o (List.mem_range.mpr hd.1)
      have h2 := List.all_eq_true.mp h1 k (List.mem_range.mpr hd.2)
      exact eq_of_beq h2
    · have e1 : RR 52 52 o k = none := by
        cases e : RR 52 52 o k with
        | none => rfl
        | some q => exact (hd (RR_dom e)).elim
      have e2 : aR sM o k = none := by
        cases e : aR sM o k with
        | none => rfl
        | some q =>
          obtain ⟨kd, h1, h2⟩ := inv_sM.2.2 _ _ _ e
          rw [cM_all.2.2.1] at h1
          have h3 : KK.getD o (.inl 0) = kd := by rw [List.getD_eq_getElem?_getD, h1]; rfl
          refine (hd ⟨?_, by rw [h3]; exact h2⟩).elim
          have h4 := (List.getElem?_eq_some_iff.mp h1).1
          have h5 : KK.length = 153 := rfl
          omega
      rw [e1, e2]
  exact cS_of cM_all.2.2.1 hI hR
theorem d212_0 : decode (mC 212) 0 = .ok (.new 7, 3) := by decide +kernel
theorem d212_3 : decode (mC 212) 3 = .ok (.dup, 1) := by decide +kernel
theorem d212_4 : decode (mC 212) 4 = .ok (.invokespecial 9, 3) := by decide +kernel
theorem d212_7 : decode (mC 212) 7 = .ok (.astore_n 1, 1) := by decide +kernel
theorem d212_8 : decode (mC 212) 8 = .ok (.new 10, 3) := by decide +kernel
theorem d212_11 : decode (mC 212) 11 = .ok (.dup, 1) := by decide +kernel
theorem d212_12 : decode (mC 212) 12 = .ok (.invokespecial 12, 3) := by decide +kernel
theorem d212_15 : decode (mC 212) 15 = .ok (.astore_n 2, 1) := by decide +kernel
theorem d212_16 : decode (mC 212) 16 = .ok (.iconst 0, 1) := by decide +kernel
theorem d212_17 : decode (mC 212) 17 = .ok (.istore_n 3, 1) := by decide +kernel
section L0
variable {sc : aSc} {d m pc : Nat} {L st : List Value} {σ : aS} {r : aRes}
theorem r_new {x ci : Nat} (hd : decode (mC m) pc = .ok (.new x, 3)) (hl : lk3 klT (mO m) x = some ci) (hc : ci < 8) : Rn sc d m pc L st σ r ↔ Rn sc d m (pc + 3) L (.ref σ.1.length :: st) (zN σ (.inl ci)) r := Rn_next (stp_of hd (by simp only [stpI, if_pos, hl, hc]; rfl))
theorem r_callC {x j o : Nat} {rest : List Value} (hd : decode (mC m) pc = .ok (.invokespecial x, 3)) (ha : lk2 oiT (mO m) x = false) (hl : lk3 mlT (mO m) x = some j) (hj : mK j = 2 ∧ j < 212 ∧ mN j = 0) (hc : cats rest ≤ 8) (hK : σ.1[o]? = some (.inl (mO j))) : Rn sc d m pc L (.ref o :: rest) σ r ↔ ∃ (σ3 : aS) (v : Option Value), Cl sc d j [.ref o] σ (σ3, v) ∧ Rn sc d m (pc + 3) L (v.toList ++ rest) σ3 r := by
  refine Rn_call (stp_of hd ?_)
  have hn : ¬ (lk2 oiT (mO m) x = true) := by rw [ha]; exact Bool.false_ne_true
  simp only [stpI]
  rw [if_pos trivial, if_neg hn, hl]
  simp only [doCall]
  rw [if_neg (by decide : ¬ (2 = 3)), hl]
  simp only
  rw [if_pos ⟨by rw [if_neg (by decide : ¬ (2 = 3))]; exact hj.1, hj.2.1⟩, if_neg (by decide : ¬ (2 = 1)), hj.2.2]
  show (if cats rest ≤ 8 ∧ σ.1[o]? = some (.inl (mO j)) then _ else _) = _
  rw [if_pos ⟨hc, hK⟩]
  rfl
theorem law0 : Rn sc 1000 212 0 (entL 212 [.ref 0]) [] s0 r ↔ Rn sc 1000 212 18 [.ref 0, .ref 17, .ref 114, .int 0] [] (cS f0 g0 52 52) r := by
  have e : entL 212 [.ref 0] = [.ref 0, mk0, mk0, mk0] := by rfl
  have l0 : s0.1.length = 17 := rfl
  have hX : ∀ q, Cl sc 1000 65 [.ref 17] (zN s0 (.inl 6)) q ↔ q = (sX, none) := Cl_iff (Cl_deep (by decide) ⟨3000, cl_sc 40 65 _ _ _ cX_eq⟩)
  have hM : ∀ q, Cl sc 1000 107 [.ref 114] (zN sX (.inl 7)) q ↔ q = (sM, none) := Cl_iff (Cl_deep (by decide) ⟨3000, cl_sc 40 107 _ _ _ cM_eq⟩)
  have hkX : (zN s0 (.inl 6)).1[17]? = some (.inl (mO 65)) := by rfl
  have hkM : (zN sX (.inl 7)).1[114]? = some (.inl (mO 107)) := by
    show (sX.1 ++ [_])[114]? = _
    rw [← cM_all.2.1, List.getElem?_append_right (Nat.le_refl _), Nat.sub_self]
    rfl
  rw [e, r_new d212_0 (ci := 6) (by decide +kernel) (by decide), l0, r_dup d212_3 rfl, r_callC d212_4 (by decide +kernel) (j := 65) (by decide +kernel) ⟨by decide +kernel, by decide, by decide +kernel⟩ (by decide) hkX]
  simp only [hX, Prod.mk.injEq]
  rw [ex_pt]
  simp only [Option.toList, List.nil_append]
  rw [r_astore_n d212_7 (by decide) (by decide)]
  show Rn sc 1000 212 8 [.ref 0, .ref 17, mk0, mk0] [] sX r ↔ _
  rw [r_new d212_8 (ci := 7) (by decide +kernel) (by decide), cM_all.2.1, r_dup d212_11 rfl, r_callC d212_12 (by decide +kernel) (j := 107) (by decide +kernel) ⟨by decide +kernel, by decide, by decide +kernel⟩ (by decide) hkM]
  simp only [hM, Prod.mk.injEq]
  rw [ex_pt]
  simp only [Option.toList, List.nil_append]
  rw [r_astore_n d212_15 (by decide) (by decide)]
  show Rn sc 1000 212 16 [.ref 0, .ref 17, .ref 114, mk0] [] sM r ↔ _
  rw [r_iconst d212_16 (v := 0) (by decide), r_istore_n d212_17 (by decide) (by decide), sM_can]
  exact Iff.rfl
end L0
theorem KK_len : KK.length ≤ 600000 := by decide +kernel
theorem KK_sum : (KK.map ksl).sum ≤ 7302250 := by decide +kernel
/-- what is left to show of the law -/
def LawGoal : Prop := ∀ (L : Nat) (xs : Nat → Int32), L ≤ 3584 → ∃ (f : Nat → Nat → Int32) (g : Nat → Nat → Int64) (h1 h2 : Nat), Rn (some (L, xs)) 1000 212 18 [.ref 0, .ref 17, .ref 114, .int 0] [] (cS f0 g0 52 52) (cS f g h1 h2, some (.int 1))
theorem pure_of (h : LawGoal) : PureLaw := by
  intro L xs hL
  obtain ⟨f, g, h1, h2, hr⟩ := h L xs hL
  obtain ⟨N, n, hr⟩ := law0.mpr hr
  exact ⟨N, n, _, hr, KK_len, KK_sum⟩
