/-! fields, rows, new cells -/
theorem tyK {D : va_G} {cF : FieldType → ClassId} {s : State} (hK : va_K D vwCl (tyS.map fun t => (cF t, t)) s) {ty : FieldType} (h : ty ∈ tyS) : ArrOfT s (cF ty) ty ∧ va_RA s (cF ty) ty := by
  obtain ⟨i, hi⟩ := List.getElem?_of_mem h
  exact hK.2 i (cF ty, ty) (by rw [List.getElem?_map, hi]; rfl)
theorem clV {ci : Nat} (h : ci < 8) : vwCl[ci]? = some (cN ci, fT ci, nfl ci) := by
  match ci, h with
  | 0, _ => rfl
  | 1, _ => rfl
  | 2, _ => rfl
  | 3, _ => rfl
  | 4, _ => rfl
  | 5, _ => rfl
  | 6, _ => rfl
  | 7, _ => rfl
theorem ud_s {α : Type} (f : Nat → α) (k : Nat) (x : α) : va_up f k x k = x := if_pos rfl
theorem ud_n {α : Type} {f : Nat → α} {k j : Nat} {x : α} (h : j ≠ k) : va_up f k x j = f j := if_neg h
theorem fvl_congr {σ σ2 : aS} {o : Nat} (h1 : aI σ2 o = aI σ o) (h2 : aJ σ2 o = aJ σ o) (h3 : aR σ2 o = aR σ o) (k : Nat) (ty : FieldType) : fvl σ2 o k ty = fvl σ o k ty := by
  unfold fvl
  rw [h1, h2, h3]
theorem atO_congr {D : va_G} {cF : FieldType → ClassId} {fa : Nat → Nat} {B : Nat} {fm : Value} {σ σ2 : aS} {o : Nat} {H H' : Heap} {kd : aK} (h : atO D cF fa B fm σ o H kd) (h1 : aI σ2 o = aI σ o) (h2 : aJ σ2 o = aJ σ o) (h3 : aR σ2 o = aR σ o) (hH : H'[rho fa B o]? = H[rho fa B o]?) : atO D cF fa B fm σ2 o H' kd := by
  match kd, h with
  | .inl ci, h =>
    refine ⟨h.1, ?_⟩
    have := h.2.kept hH
    exact this.to (fun k _ => by rw [fvl_congr h1 h2 h3])
  | .inr (ty, n), h =>
    refine ⟨h.1, hH.trans (h.2.trans ?_)⟩
    unfold rowC
    rw [h1, h2, h3]
/-- one own cell is written -/
theorem Rel_set {D : va_G} {cF : FieldType → ClassId} {fa : Nat → Nat} {B : Nat} {fm : Value} {σ σ2 : aS} {o : Nat} {kd : aK} {H H' : Heap} (h : Rel D cF fa B fm σ H) (ho : 17 ≤ o) (hk : σ.1[o]? = some kd) (hK : σ2.1 = σ.1) (hI : ∀ q, q ≠ o → aI σ2 q = aI σ q) (hJ : ∀ q, q ≠ o → aJ σ2 q = aJ σ q) (hR : ∀ q, q ≠ o → aR σ2 q = aR σ q) (hz : H'.size = H.size) (hq : ∀ q, q ≠ rho fa B o → H'[q]? = H[q]?) (hn : atO D cF fa B fm σ2 o H' kd) : Rel D cF fa B fm σ2 H' := by
  obtain ⟨⟨g1, g2, g3⟩, g4, g5, g6⟩ := h
  refine ⟨⟨by rw [hK]; exact g1, fun q a b => by rw [hI q (by omega)]; exact g2 q a b, fun q a => by rw [hR q (by omega)]; exact g3 q a⟩, by rw [hK]; exact g4, by rw [hz, hK]; exact g5, fun q k9 hq9 hk9 => ?_⟩
  rw [hK] at hk9
  by_cases e : q = o
  · subst e
    cases hk.symm.trans hk9
    exact hn
  · exact atO_congr (g6 q k9 hq9 hk9) (hI q e) (hJ q e) (hR q e) (hq _ (fun z => e (rho_inj hq9 ho z)))
theorem vaS_put {B : Nat} {H0 H H' : Heap} {locs : List Loc} {fa : Nat → Nat} {o k : Nat} (h : va_S (Bo B) H0 H locs) (ho : 17 ≤ o) (z : H'.size = H.size) (oq : ∀ q : Nat, q ≠ rho fa B o → H'[q]? = H[q]?) : va_S (Bo B) H0 H' (locs ++ [⟨rho fa B o, k⟩]) := h.put z oq (by show B ≤ rho fa B o; rw [rho_own ho]; omega)
section HP
variable {p : Program} {l : Launch} {e : Env} {R : Room} {s : State} {m : MethodId} {args : Array Value} {below : List Frame} {meth : Method} {c : Code} {H : Heap} {locs : List Loc} {cells slots : Nat} {Q : State → Prop}
variable {D : va_G} {cF : FieldType → ClassId} {fa : Nat → Nat} {B : Nat} {fm : Value} {sc : Option (Nat × (Nat → Int32))} {mi : Nat} {ls : Array Slot}
set_option maxHeartbeats 4000000 in
theorem so_ldc {len pc pc' : Nat} {L st L' st' : List Value} {σ σ' : aS} {x : Nat} (C : Cx D cF fa B fm sc p R s m args meth c mi) (S : St D cF fa B fm mi s σ H locs ls L) (hd : decode (mC mi) pc = .ok (.ldc x, len)) (h : stpI sc mi (.ldc x) len pc L st σ = some (.inl (pc', L', st', σ')))
    (kk : ∀ (H' : Heap) (locs' : List Loc) (ls' : Array Slot) (cells' slots' : Nat), St D cF fa B fm mi s σ' H' locs' ls' L' → cells' + σ.1.length = cells + σ'.1.length → slots' + nS σ = slots + nS σ' → W p l e R s m args below meth c H' locs' cells' slots' Q (F0 m pc' ls' (st'.map (cv fa B fm)))) : W p l e R s m args below meth c H locs cells slots Q (F0 m pc ls (st.map (cv fa B fm))) := by
  obtain ⟨hx, hb, hml, hown, hts, hrt, hlk, hin, hB, hfr, hlo⟩ := C
  simp only [stpI, nx] at h
  split at h <;> try cases h
  rename_i hl
  subst hl
  split at h <;> cases h
  rename_i i ht
  have hm := lk3_mem ht
  have hck := List.all_eq_true.mp (show ldT.all (fun e => e.1 == 5 && decide (e.2.2 < 6) && (sIx.getD e.2.2 (0, "")).1 == e.2.1) = true by decide +kernel) _ hm
  simp only [Bool.and_eq_true, beq_iff_eq, decide_eq_true_eq] at hck
  obtain ⟨⟨e5, i6⟩, ex⟩ := hck
  have hR := hB.2.2.2.2.2.2.2.2.1 i i6
  rw [ex] at hR
  rw [e5] at hown
  have hv : cv fa B fm (.ref (5 + i)) = .ref (fa (5 + i)) := by show Value.ref (rho fa B (5 + i)) = _; rw [rho, if_pos (by omega)]
  have k0 := kk _ _ _ _ _ ⟨S.1, S.2.1, S.2.2⟩ rfl rfl
  rw [List.map_cons, hv] at k0
  exact va_ldcS hx hb hown hR hd k0
set_option maxHeartbeats 4000000 in
theorem so_getstatic {len pc pc' : Nat} {L st L' st' : List Value} {σ σ' : aS} {x : Nat} (C : Cx D cF fa B fm sc p R s m args meth c mi) (S : St D cF fa B fm mi s σ H locs ls L) (hd : decode (mC mi) pc = .ok (.getstatic x, len)) (h : stpI sc mi (.getstatic x) len pc L st σ = some (.inl (pc', L', st', σ')))
    (kk : ∀ (H' : Heap) (locs' : List Loc) (ls' : Array Slot) (cells' slots' : Nat), St D cF fa B fm mi s σ' H' locs' ls' L' → cells' + σ.1.length = cells + σ'.1.length → slots' + nS σ = slots + nS σ' → W p l e R s m args below meth c H' locs' cells' slots' Q (F0 m pc' ls' (st'.map (cv fa B fm)))) : W p l e R s m args below meth c H locs cells slots Q (F0 m pc ls (st.map (cv fa B fm))) := by
  obtain ⟨hx, hb, hml, hown, hts, hrt, hlk, hin, hB, hfr, hlo⟩ := C
  simp only [stpI, nx] at h
  split at h <;> try cases h
  rename_i hl
  subst hl
  split at h
  · rename_i k ht
    cases h
    exact va_gets hx hb (hB.2.2.2.2.1 k (st_lt ht)) S.2.1 hown (hts _ (w_st ht)) (fun _ q => q) hd (kk _ _ _ _ _ ⟨S.1, S.2.1, S.2.2⟩ rfl rfl)
  · split at h <;> cases h
    rename_i k ht
    exact va_getsN hx hb (hB.2.2.2.2.1 k (sn_lt ht)) S.2.1 hown (va_Nw.use rfl (hB.2.2.2.2.2.2.2.2.2.2.2.2.2 _ (lk3_mem ht))) (fun _ q => q) hd (kk _ _ _ _ _ ⟨S.1, S.2.1, S.2.2⟩ rfl rfl)
set_option maxHeartbeats 4000000 in
theorem so_getfield {len pc pc' : Nat} {L st L' st' : List Value} {σ σ' : aS} {x : Nat} (C : Cx D cF fa B fm sc p R s m args meth c mi) (S : St D cF fa B fm mi s σ H locs ls L) (hd : decode (mC mi) pc = .ok (.getfield x, len)) (h : stpI sc mi (.getfield x) len pc L st σ = some (.inl (pc', L', st', σ')))
    (kk : ∀ (H' : Heap) (locs' : List Loc) (ls' : Array Slot) (cells' slots' : Nat), St D cF fa B fm mi s σ' H' locs' ls' L' → cells' + σ.1.length = cells + σ'.1.length → slots' + nS σ = slots + nS σ' → W p l e R s m args below meth c H' locs' cells' slots' Q (F0 m pc' ls' (st'.map (cv fa B fm)))) : W p l e R s m args below meth c H locs cells slots Q (F0 m pc ls (st.map (cv fa B fm))) := by
  obtain ⟨hx, hb, hml, hown, hts, hrt, hlk, hin, hB, hfr, hlo⟩ := C
  simp only [stpI, nx] at h
  split at h <;> try cases h
  rename_i hl
  subst hl
  split at h <;> try cases h
  rename_i ci k ht
  split at h <;> try cases h
  rename_i o9 r
  obtain ⟨o, rfl⟩ : ∃ o : Nat, o = o9 := ⟨o9, rfl⟩
  split at h <;> cases h
  rename_i hc
  obtain ⟨hko, hk⟩ := hc
  have k0 := kk _ _ _ _ _ ⟨S.1, S.2.1, S.2.2⟩ rfl rfl
  rcases Nat.lt_or_ge o 17 with h17 | h17
  rotate_left
  · obtain ⟨h8, cell, q1, q2, q3, q4⟩ := S.1.2.2.2 o (.inl ci) h17 hko
    obtain ⟨hS9, hfc, kC, hkC, hkind⟩ := clK hB.1 h8
    obtain ⟨cf, kf, fi, f, hi, hsl⟩ := hS9 k hk
    refine W.getf hx hb hown (hts _ (w_fl ht)) hi (u_facts hfc hkC (u_lays hts (clW h8) hk) hi).1 q1 (by rw [q3]; exact fun z => by cases z) (v := cv fa B fm (fvl σ o k (cty ci k))) ?_ rfl rfl hd k0
    rw [hsl]
    exact q4 k hk
  · have hkF := S.1.1.1 o (by omega)
    rw [hko] at hkF
    have h58 : 5 ≤ o ∧ o < 11 ∧ ci = 8 := by
      have hck := List.all_eq_true.mp (show (List.range 17).all (fun o => match fK[o]? with
        | some (.inl c9) => (decide (5 ≤ o) && decide (o < 11) && c9 == 8) || nfl c9 == 0
        | _ => true) = true by decide +kernel) o (List.mem_range.mpr (by omega))
      rw [← hkF] at hck
      simp only [Bool.or_eq_true, Bool.and_eq_true, decide_eq_true_eq, beq_iff_eq] at hck
      rcases hck with h9 | h9
      · exact ⟨h9.1.1, h9.1.2, h9.2⟩
      · omega
    obtain ⟨h5, h11, rfl⟩ := h58
    obtain ⟨g1, g2, g3, g4⟩ := hB.2.2.2.2.2.2.1 o h5 h11
    have hro : rho fa B o = fa o := by rw [rho, if_pos (by omega)]
    have hk2 : k < 2 := hk
    have hI := S.1.1.2.1 o (by omega) (by omega)
    have hRo := S.1.1.2.2 o (by omega)
    have hw := hts _ (w_fl ht)
    rw [show (Value.ref o :: r).map (cv fa B fm) = .ref (fa o) :: r.map (cv fa B fm) by show Value.ref (rho fa B o) :: _ = _; rw [hro]]
    match k, hk2 with
    | 0, _ =>
      refine vk_getf hx hb g3 S.2.1 hown hw (fun _ q => q) hd ?_
      have hv : cv fa B fm (fvl σ o 0 (cty 8 0)) = .ref (fa (o + 6)) := by
        show cv fa B fm (va_rf (aR σ o 0)) = _
        rw [hRo, fR, if_pos ⟨h5, h11, rfl⟩]
        show Value.ref (rho fa B (o + 6)) = _
        rw [rho, if_pos (by omega)]
      rw [← hv]
      exact k0
    | 1, _ =>
      refine vk_getf hx hb g2 S.2.1 hown hw (fun _ q => q) hd ?_
      have hv : cv fa B fm (fvl σ o 1 (cty 8 1)) = .int 0 := by
        show Value.int (aI σ o 1) = _
        rw [hI]
        have hck := List.all_eq_true.mp (show (List.range 11).all (fun o => decide (o < 5) || fI o 1 == 0) = true by decide +kernel) o (List.mem_range.mpr h11)
        simp only [Bool.or_eq_true, decide_eq_true_eq, beq_iff_eq] at hck
        rcases hck with h9 | h9
        · omega
        · rw [h9]
      rw [← hv]
      exact k0
theorem putv_spec {σ σ2 : aS} {o k : Nat} {ty : FieldType} {v : Value} (h : putv σ o k ty v = some σ2) : (∃ x, v = .int x ∧ σ2 = pI σ o k x ∧ narrow ty v = v ∧ fits ty v = true ∧ ty ≠ .long ∧ isRf ty = false) ∨ (∃ q, v = .ref q ∧ σ2 = pR σ o k (some q) ∧ isRf ty = true) := by
  unfold putv at h
  split at h
  · rename_i x
    split at h
    · rename_i hc; cases h; exact Or.inl ⟨x, rfl, rfl, hc.1, hc.2.1, hc.2.2.1, hc.2.2.2⟩
    · cases h
  · rename_i q
    split at h
    · rename_i hc; cases h; exact Or.inr ⟨q, rfl, rfl, hc⟩
    · cases h
  · cases h
theorem putv_facts {fa : Nat → Nat} {B : Nat} {fm : Value} {σ σ2 : aS} {o k : Nat} {ty : FieldType} {v : Value} (h : putv σ o k ty v = some σ2) : σ2.1 = σ.1 ∧ (∀ q, q ≠ o → aI σ2 q = aI σ q ∧ aJ σ2 q = aJ σ q ∧ aR σ2 q = aR σ q) ∧ fvl σ2 o k ty = v ∧ (∀ j t9, j ≠ k → fvl σ2 o j t9 = fvl σ o j t9) ∧ narrow ty (cv fa B fm v) = cv fa B fm v ∧ fits ty (cv fa B fm v) = true := by
  rcases putv_spec h with ⟨x, rfl, rfl, h1, h2, h3, h4⟩ | ⟨q, rfl, rfl, h1⟩
  · refine ⟨rfl, fun q hq => ⟨ud_n hq, rfl, rfl⟩, ?_, fun j t9 hj => ?_, h1, h2⟩
    · cases ty <;> first | (exact absurd rfl h3) | (simp [isRf] at h4; done) | (show Value.int (va_up (aI σ) o (va_up (aI σ o) k x) o k) = _; rw [ud_s, ud_s])
    · unfold fvl
      have e1 : aI (pI σ o k x) o j = aI σ o j := by show va_up (aI σ) o (va_up (aI σ o) k x) o j = _; rw [ud_s, ud_n hj]
      have e2 : aJ (pI σ o k x) o j = aJ σ o j := rfl
      have e3 : aR (pI σ o k x) o j = aR σ o j := rfl
      rw [e1, e2, e3]
  · refine ⟨rfl, fun q hq => ⟨rfl, rfl, ud_n hq⟩, ?_, fun j t9 hj => ?_, ?_, ?_⟩
    · have e3 : aR (pR σ o k (some q)) o k = some q := by show va_up (aR σ) o (va_up (aR σ o) k (some q)) o k = _; rw [ud_s, ud_s]
      cases ty <;> first | (simp [isRf] at h1; done) | (show va_rf (aR (pR σ o k (some q)) o k) = _; rw [e3]; rfl)
    · unfold fvl
      have e1 : aR (pR σ o k (some q)) o j = aR σ o j := by show va_up (aR σ) o (va_up (aR σ o) k (some q)) o j = _; rw [ud_s, ud_n hj]
      have e2 : aJ (pR σ o k (some q)) o j = aJ σ o j := rfl
      have e3 : aI (pR σ o k (some q)) o j = aI σ o j := rfl
      rw [e1, e2, e3]
    · cases ty <;> first | (simp [isRf] at h1; done) | rfl
    · cases ty <;> first | (simp [isRf] at h1; done) | rfl
set_option maxHeartbeats 4000000 in
theorem so_putfield {len pc pc' : Nat} {L st L' st' : List Value} {σ σ' : aS} {x : Nat} (C : Cx D cF fa B fm sc p R s m args meth c mi) (S : St D cF fa B fm mi s σ H locs ls L) (hd : decode (mC mi) pc = .ok (.putfield x, len)) (h : stpI sc mi (.putfield x) len pc L st σ = some (.inl (pc', L', st', σ')))
    (kk : ∀ (H' : Heap) (locs' : List Loc) (ls' : Array Slot) (cells' slots' : Nat), St D cF fa B fm mi s σ' H' locs' ls' L' → cells' + σ.1.length = cells + σ'.1.length → slots' + nS σ = slots + nS σ' → W p l e R s m args below meth c H' locs' cells' slots' Q (F0 m pc' ls' (st'.map (cv fa B fm)))) : W p l e R s m args below meth c H locs cells slots Q (F0 m pc ls (st.map (cv fa B fm))) := by
  obtain ⟨hx, hb, hml, hown, hts, hrt, hlk, hin, hB, hfr, hlo⟩ := C
  simp only [stpI, nx] at h
  split at h <;> try cases h
  rename_i hl
  subst hl
  split at h <;> try cases h
  rename_i ci k ht
  split at h <;> try cases h
  rename_i v o r
  split at h <;> try cases h
  rename_i hc
  obtain ⟨h17, h8, hko, hk, hfin⟩ := hc
  split at h <;> cases h
  rename_i hp
  obtain ⟨f1, f2, f3, f4, f5, f6⟩ := putv_facts (fa := fa) (B := B) (fm := fm) hp
  obtain ⟨-, cell, q1, q2, q3, q4⟩ := S.1.2.2.2 o (.inl ci) h17 hko
  have hap := va_apart (own := "") hts (clW h8) (cty ci) (fun j hj => (clT h8 hj).2) (clN h8) hB.1 (clV h8)
  obtain ⟨hS9, hfc, kC, hkC, hkind⟩ := clK hB.1 h8
  obtain ⟨cf, kf, fi, f, hi, hsl⟩ := hS9 k hk
  have hlay := hts _ (clW h8 _ (u_in_lay hk))
  have hdsc := (clT h8 hk).2
  have hst := (u_facts hfc hkC (u_lays hts (clW h8) hk) hi).1
  have key : ∀ H' : Heap, H'[rho fa B o]? = some (cell.setSlot f.slot (cv fa B fm v)) → H'.size = H.size → (∀ q, q ≠ rho fa B o → H'[q]? = H[q]?) → Rel D cF fa B fm σ' H' := by
    intro H' e1 e2 e3
    refine Rel_set S.1 h17 hko f1 (fun q hq => (f2 q hq).1) (fun q hq => (f2 q hq).2.1) (fun q hq => (f2 q hq).2.2) e2 e3 ?_
    rw [hsl] at e1
    refine ⟨h8, t_OB.to (V := updV (fun k => cv fa B fm (fvl σ o k (cty ci k))) k (cv fa B fm v)) ⟨_, e1, q2, q3, t_set q4 hap hk (cv fa B fm v)⟩ (fun j _ => ?_)⟩
    by_cases ej : j = k
    · subst ej
      rw [f3]
      simp [updV]
    · rw [f4 j _ ej]
      simp [updV, ej]
  unfold u_lay at hlay
  by_cases hfl : (fT ci k).2.2.2 = true
  · rw [if_pos hfl] at hlay
    have hcf : m.cls = cf := by
      obtain ⟨_, _, c9, _, _, _, -, -, hf9, -, -, -, hown2, -⟩ := Cond.laysFinal_spec hlay
      have e1 : c9 = cf := by have := hi.symm.trans hf9; simp at this; exact this.1.symm
      rw [(clT h8 hk).1, ← (hfin hfl).2] at hown2
      rw [← e1]
      exact Option.some.inj (hown.symm.trans hown2)
    have h6 := u_fits hfc hkC hkind (Or.inr hlay) hi hdsc f5 f6
    exact W.putFinK hx hb hown (hts _ (w_fl ht)) hi hst hcf (hin (hfin hfl).1) (by rw [q2]; exact h6) q1 q3 (by rw [hsl]; exact k2_hasslot (q4 k hk)) rfl rfl hd (fun H' e1 e2 e3 => kk _ _ _ _ _ ⟨key H' e1 e2 e3, vaS_put S.2.1 h17 e2 e3, S.2.2⟩ (by rw [f1]) (by unfold nS; rw [f1]))
  · rw [if_neg hfl] at hlay
    have h6 := u_store hfc hkC hkind hlay hi hdsc f5 f6
    exact W.putK hx hb (f := f) ⟨hown, hts _ (w_fl ht), ⟨_, _, _, hi⟩, hst⟩ (by rw [q2]; exact h6) q1 q3 (by rw [hsl]; exact k2_hasslot (q4 k hk)) rfl rfl hd (fun H' e1 e2 e3 => kk _ _ _ _ _ ⟨key H' e1 e2 e3, vaS_put S.2.1 h17 e2 e3, S.2.2⟩ (by rw [f1]) (by unfold nS; rw [f1]))
end HP
