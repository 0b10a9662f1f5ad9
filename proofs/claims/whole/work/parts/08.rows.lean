/-! rows, new cells, copies -/
theorem rowC_size (fa : Nat → Nat) (B : Nat) (cA : ClassId) (σ : aS) (o : Nat) (ty : FieldType) (n : Nat) : (rowC fa B cA σ o ty n).slots.size = n := by
  cases ty <;> exact arrV_size _ _ _
theorem rowC_arr {s : State} {fa : Nat → Nat} {B : Nat} {cA : ClassId} {σ : aS} {o : Nat} {ty : FieldType} {n : Nat} (h : ArrOfT s cA ty) : s.isArrayOf (rowC fa B cA σ o ty n) ty := by
  cases ty <;> exact h n _
theorem rowC_vm (fa : Nat → Nat) (B : Nat) (cA : ClassId) (σ : aS) (o : Nat) (ty : FieldType) (n : Nat) : (rowC fa B cA σ o ty n).vm ≠ .unknown := by
  cases ty <;> exact fun q => by cases q
theorem rowC_st (fa : Nat → Nat) (B : Nat) (cA : ClassId) (σ : aS) (o : Nat) (ty : FieldType) (n : Nat) : ∀ q, (rowC fa B cA σ o ty n).vm ≠ .statics q := by
  cases ty <;> exact fun _ q => by cases q
theorem rowC_cls (fa : Nat → Nat) (B : Nat) (cA : ClassId) (σ : aS) (o : Nat) (ty : FieldType) (n : Nat) : (rowC fa B cA σ o ty n).cls = cA := by
  cases ty <;> rfl
theorem row_set {α : Type} (mk : α → Value) (cI : ClassId) (N k : Nat) (f : Nat → α) (x : α) : (arrV cI N (fun j => mk (f j))).setSlot k (mk x) = arrV cI N (fun j => mk (va_up f k x j)) := by
  rw [arrV_store]
  congr 1
  funext j
  by_cases h : j = k
  · subst h; simp [updV, va_up]
  · simp [updV, va_up, h]
theorem n_in {i : Int32} {n m : Nat} (h : ¬ (i < 0 ∨ n ≤ i.toNatClampNeg)) (e : m = n) : ¬ (i < 0 ∨ m ≤ i.toNatClampNeg) := by rw [e]; exact h
/-- what an own row of a foreign number is -/
theorem fgn {σ : aS} (hF : Frn σ) {a : Nat} (h : a < 17) {ty : FieldType} {n : Nat} (hk : σ.1[a]? = some (.inr (ty, n))) : (1 ≤ a ∧ a < 5 ∧ ty = .int ∧ n = fN a) ∨ (11 ≤ a ∧ ty = .byte ∧ n = fN a) := by
  have hkF := hF.1 a h
  rw [hk] at hkF
  have hck := List.all_eq_true.mp (show (List.range 17).all (fun o => match fK[o]? with
    | some (.inr (t9, n9)) => (decide (1 ≤ o) && decide (o < 5) && t9 == .int && n9 == fN o) || (decide (11 ≤ o) && t9 == .byte && n9 == fN o)
    | _ => true) = true by decide +kernel) a (List.mem_range.mpr h)
  rw [← hkF] at hck
  simp only [Bool.or_eq_true, Bool.and_eq_true, decide_eq_true_eq, beq_iff_eq] at hck
  rcases hck with h9 | h9
  · exact Or.inl ⟨h9.1.1.1, h9.1.1.2, h9.1.2, h9.2⟩
  · exact Or.inr ⟨h9.1.1, h9.1.2, h9.2⟩
theorem Rel_grow {D : va_G} {cF : FieldType → ClassId} {fa : Nat → Nat} {B : Nat} {fm : Value} {σ σ2 : aS} {ks : List aK} {H H' : Heap} (h : Rel D cF fa B fm σ H) (hK : σ2.1 = σ.1 ++ ks) (hI : ∀ q, q < σ.1.length → aI σ2 q = aI σ q) (hJ : ∀ q, q < σ.1.length → aJ σ2 q = aJ σ q) (hR : ∀ q, q < σ.1.length → aR σ2 q = aR σ q) (hz : H'.size = H.size + ks.length) (hq : ∀ q, q < H.size → H'[q]? = H[q]?) (hn : ∀ i kd, ks[i]? = some kd → atO D cF fa B fm σ2 (σ.1.length + i) H' kd) : Rel D cF fa B fm σ2 H' := by
  obtain ⟨⟨g1, g2, g3⟩, g4, g5, g6⟩ := h
  refine ⟨⟨fun q a => by rw [hK, List.getElem?_append_left (by omega)]; exact g1 q a, fun q a b => by rw [hI q (by omega)]; exact g2 q a b, fun q a => by rw [hR q (by omega)]; exact g3 q a⟩, by rw [hK, List.length_append]; omega, by rw [hz, hK, List.length_append]; omega, fun q kd hq9 hk9 => ?_⟩
  rw [hK] at hk9
  rcases Nat.lt_or_ge q σ.1.length with hl | hl
  · rw [List.getElem?_append_left hl] at hk9
    exact atO_congr (g6 q kd hq9 hk9) (hI q hl) (hJ q hl) (hR q hl) (hq _ (by rw [rho_own hq9, g5]; omega))
  · rw [List.getElem?_append_right hl] at hk9
    have := hn _ _ hk9
    rw [show σ.1.length + (q - σ.1.length) = q by omega] at this
    exact this
theorem rho_new {D : va_G} {cF : FieldType → ClassId} {fa : Nat → Nat} {B : Nat} {fm : Value} {σ : aS} {H : Heap} (h : Rel D cF fa B fm σ H) (i : Nat) : rho fa B (σ.1.length + i) = H.size + i := by
  rw [rho_own (by have := h.2.1; omega), h.2.2.1]
  have := h.2.1
  omega
theorem vaS_new {B : Nat} {H0 H H' : Heap} {locs : List Loc} (h : va_S (Bo B) H0 H locs) (z : H.size ≤ H'.size) (oq : ∀ q : Nat, q < H.size → H'[q]? = H[q]?) : va_S (Bo B) H0 H' locs := ⟨Nat.le_trans h.1 z, fun q h1 h2 => (oq q (Nat.lt_of_lt_of_le h1 h.1)).trans (h.2.1 q h1 h2), h.2.2⟩
theorem zN_len (σ : aS) (kd : aK) : (zN σ kd).1.length = σ.1.length + 1 := by simp [zN]
theorem zN_S (σ : aS) (kd : aK) : nS (zN σ kd) = nS σ + ksl kd := by simp [nS, zN]
theorem zN_old {σ : aS} {kd : aK} {q : Nat} (h : q < σ.1.length) : aI (zN σ kd) q = aI σ q ∧ aJ (zN σ kd) q = aJ σ q ∧ aR (zN σ kd) q = aR σ q := ⟨ud_n (by omega), ud_n (by omega), ud_n (by omega)⟩
theorem zN_new (σ : aS) (kd : aK) : aI (zN σ kd) σ.1.length = (fun _ => 0) ∧ aJ (zN σ kd) σ.1.length = (fun _ => 0) ∧ aR (zN σ kd) σ.1.length = (fun _ => none) := ⟨ud_s _ _ _, ud_s _ _ _, ud_s _ _ _⟩
theorem cty_okk {ci k : Nat} (h : ci < 8) (hk : k < nfl ci) : (cty ci k ≠ .float ∧ cty ci k ≠ .double) := by
  have h1 := List.all_eq_true.mp (show (List.range 8).all (fun c => (List.range (nfl c)).all (fun k => cty c k != .float && cty c k != .double)) = true by decide +kernel) ci (List.mem_range.mpr h)
  have h2 := List.all_eq_true.mp h1 k (List.mem_range.mpr hk)
  simp only [Bool.and_eq_true, bne_iff_ne] at h2
  exact h2
section HR
variable {p : Program} {l : Launch} {e : Env} {R : Room} {s : State} {m : MethodId} {args : Array Value} {below : List Frame} {meth : Method} {c : Code} {H : Heap} {locs : List Loc} {cells slots : Nat} {Q : State → Prop}
variable {D : va_G} {cF : FieldType → ClassId} {fa : Nat → Nat} {B : Nat} {fm : Value} {sc : Option (Nat × (Nat → Int32))} {mi : Nat} {ls : Array Slot}
set_option maxHeartbeats 4000000 in
theorem so_arraylength {len pc pc' : Nat} {L st L' st' : List Value} {σ σ' : aS} (C : Cx D cF fa B fm sc p R s m args meth c mi) (S : St D cF fa B fm mi s σ H locs ls L) (hd : decode (mC mi) pc = .ok (.arraylength, len)) (h : stpI sc mi (.arraylength) len pc L st σ = some (.inl (pc', L', st', σ')))
    (kk : ∀ (H' : Heap) (locs' : List Loc) (ls' : Array Slot) (cells' slots' : Nat), St D cF fa B fm mi s σ' H' locs' ls' L' → cells' + σ.1.length = cells + σ'.1.length → slots' + nS σ = slots + nS σ' → W p l e R s m args below meth c H' locs' cells' slots' Q (F0 m pc' ls' (st'.map (cv fa B fm)))) : W p l e R s m args below meth c H locs cells slots Q (F0 m pc ls (st.map (cv fa B fm))) := by
  obtain ⟨hx, hb, hml, hown, hts, hrt, hlk, hin, hB, hfr, hlo⟩ := C
  simp only [stpI, nx] at h
  split at h <;> try cases h
  rename_i hl
  subst hl
  split at h <;> try cases h
  rename_i a9 r
  obtain ⟨a, rfl⟩ : ∃ a : Nat, a = a9 := ⟨a9, rfl⟩
  split at h
  · rename_i ha
    subst ha
    split at h <;> cases h
    rename_i n f
    exact va_tlen hx hb (hB.2.2.2.2.2.2.2.1 n f rfl) S.2.1 rfl hd (kk _ _ _ _ _ ⟨S.1, S.2.1, S.2.2⟩ rfl rfl)
  · rename_i ha
    split at h <;> cases h
    rename_i ty n hk
    have k0 := kk _ _ _ _ _ ⟨S.1, S.2.1, S.2.2⟩ rfl rfl
    rcases Nat.lt_or_ge a 17 with h17 | h17
    · rw [show (Value.ref a :: r).map (cv fa B fm) = .ref (fa a) :: r.map (cv fa B fm) by show Value.ref (rho fa B a) :: _ = _; rw [rho, if_pos h17]]
      rcases fgn S.1.1 h17 hk with ⟨a1, a2, rfl, rfl⟩ | ⟨a1, rfl, rfl⟩
      · exact va_tlen hx hb (hB.2.2.2.2.2.1 a a1 a2) S.2.1 rfl hd k0
      · have g4 := (hB.2.2.2.2.2.2.1 (a - 6) (by omega) (by omega)).2.2.2
        rw [show a - 6 + 6 = a by omega] at g4
        exact va_tlen hx hb g4 S.2.1 rfl hd k0
    · obtain ⟨hty, hcell⟩ := S.1.2.2.2 a _ h17 hk
      exact W.alen (n := Int32.ofNat n) hx hb hcell (rowC_arr (tyK hB.1 hty).1) (by rw [rowC_size] <;> rfl) rfl rfl hd k0
set_option maxHeartbeats 4000000 in
theorem so_iaload {len pc pc' : Nat} {L st L' st' : List Value} {σ σ' : aS} (C : Cx D cF fa B fm sc p R s m args meth c mi) (S : St D cF fa B fm mi s σ H locs ls L) (hd : decode (mC mi) pc = .ok (.iaload, len)) (h : stpI sc mi (.iaload) len pc L st σ = some (.inl (pc', L', st', σ')))
    (kk : ∀ (H' : Heap) (locs' : List Loc) (ls' : Array Slot) (cells' slots' : Nat), St D cF fa B fm mi s σ' H' locs' ls' L' → cells' + σ.1.length = cells + σ'.1.length → slots' + nS σ = slots + nS σ' → W p l e R s m args below meth c H' locs' cells' slots' Q (F0 m pc' ls' (st'.map (cv fa B fm)))) : W p l e R s m args below meth c H locs cells slots Q (F0 m pc ls (st.map (cv fa B fm))) := by
  obtain ⟨hx, hb, hml, hown, hts, hrt, hlk, hin, hB, hfr, hlo⟩ := C
  simp only [stpI, nx] at h
  split at h <;> try cases h
  rename_i hl
  subst hl
  split at h <;> try cases h
  rename_i i a9 r
  obtain ⟨a, rfl⟩ : ∃ a : Nat, a = a9 := ⟨a9, rfl⟩
  split at h <;> try cases h
  rename_i n f hv
  split at h <;> cases h
  rename_i hi
  have hi := inb_spec hi
  have k0 := kk _ _ _ _ _ ⟨S.1, S.2.1, S.2.2⟩ rfl rfl
  unfold arI at hv
  split at hv
  · rename_i ha
    subst ha
    exact va_ti hx hb (hB.2.2.2.2.2.2.2.1 n f hv) S.2.1 hi rfl hd k0
  · rename_i ha
    split at hv <;> cases hv
    rename_i hk
    rcases Nat.lt_or_ge a 17 with h17 | h17
    · rw [show (Value.int i :: Value.ref a :: r).map (cv fa B fm) = .int i :: .ref (fa a) :: r.map (cv fa B fm) by show Value.int i :: Value.ref (rho fa B a) :: _ = _; rw [rho, if_pos h17]]
      rcases fgn S.1.1 h17 hk with ⟨a1, a2, -, hn⟩ | ⟨-, hc, -⟩
      · rw [hn] at hi
        rw [S.1.1.2.1 a (by omega) h17] at k0
        exact va_ti hx hb (hB.2.2.2.2.2.1 a a1 a2) S.2.1 hi rfl hd k0
      · cases hc
    · obtain ⟨hty, hcell⟩ := S.1.2.2.2 a _ h17 hk
      have hlt : i.toNatClampNeg < n := Nat.not_le.mp fun q => hi (Or.inr q)
      exact W.iald (v := .int (aI σ a i.toNatClampNeg)) hx hb hcell (rowC_arr (tyK hB.1 hty).1) (rowC_vm _ _ _ _ _ _ _) (n_in hi (rowC_size _ _ _ _ _ _ _)) (by show (arrV _ _ _).slots[_]? = _; rw [arrV_read _ _ hlt]) rfl rfl hd k0
set_option maxHeartbeats 4000000 in
theorem so_laload {len pc pc' : Nat} {L st L' st' : List Value} {σ σ' : aS} (C : Cx D cF fa B fm sc p R s m args meth c mi) (S : St D cF fa B fm mi s σ H locs ls L) (hd : decode (mC mi) pc = .ok (.laload, len)) (h : stpI sc mi (.laload) len pc L st σ = some (.inl (pc', L', st', σ')))
    (kk : ∀ (H' : Heap) (locs' : List Loc) (ls' : Array Slot) (cells' slots' : Nat), St D cF fa B fm mi s σ' H' locs' ls' L' → cells' + σ.1.length = cells + σ'.1.length → slots' + nS σ = slots + nS σ' → W p l e R s m args below meth c H' locs' cells' slots' Q (F0 m pc' ls' (st'.map (cv fa B fm)))) : W p l e R s m args below meth c H locs cells slots Q (F0 m pc ls (st.map (cv fa B fm))) := by
  obtain ⟨hx, hb, hml, hown, hts, hrt, hlk, hin, hB, hfr, hlo⟩ := C
  simp only [stpI, nx] at h
  split at h <;> try cases h
  rename_i hl
  subst hl
  split at h <;> try cases h
  rename_i i a9 r
  obtain ⟨a, rfl⟩ : ∃ a : Nat, a = a9 := ⟨a9, rfl⟩
  split at h <;> try cases h
  rename_i n hk
  split at h <;> cases h
  rename_i hi
  obtain ⟨hi, h17⟩ := hi
  have hi := inb_spec hi
  obtain ⟨hty, hcell⟩ := S.1.2.2.2 a _ h17 hk
  have hlt : i.toNatClampNeg < n := Nat.not_le.mp fun q => hi (Or.inr q)
  exact W.lald (v := .long (aJ σ a i.toNatClampNeg)) hx hb hcell (rowC_arr (tyK hB.1 hty).1) (rowC_vm _ _ _ _ _ _ _) (n_in hi (rowC_size _ _ _ _ _ _ _)) (by show (arrV _ _ _).slots[_]? = _; rw [arrV_read _ _ hlt]) rfl rfl hd (kk _ _ _ _ _ ⟨S.1, S.2.1, S.2.2⟩ rfl rfl)
set_option maxHeartbeats 4000000 in
theorem so_baload {len pc pc' : Nat} {L st L' st' : List Value} {σ σ' : aS} (C : Cx D cF fa B fm sc p R s m args meth c mi) (S : St D cF fa B fm mi s σ H locs ls L) (hd : decode (mC mi) pc = .ok (.baload, len)) (h : stpI sc mi (.baload) len pc L st σ = some (.inl (pc', L', st', σ')))
    (kk : ∀ (H' : Heap) (locs' : List Loc) (ls' : Array Slot) (cells' slots' : Nat), St D cF fa B fm mi s σ' H' locs' ls' L' → cells' + σ.1.length = cells + σ'.1.length → slots' + nS σ = slots + nS σ' → W p l e R s m args below meth c H' locs' cells' slots' Q (F0 m pc' ls' (st'.map (cv fa B fm)))) : W p l e R s m args below meth c H locs cells slots Q (F0 m pc ls (st.map (cv fa B fm))) := by
  obtain ⟨hx, hb, hml, hown, hts, hrt, hlk, hin, hB, hfr, hlo⟩ := C
  simp only [stpI, nx] at h
  split at h <;> try cases h
  rename_i hl
  subst hl
  split at h <;> try cases h
  rename_i i a9 r
  obtain ⟨a, rfl⟩ : ∃ a : Nat, a = a9 := ⟨a9, rfl⟩
  split at h <;> try cases h
  · rename_i n hk
    split at h <;> cases h
    rename_i hi
    obtain ⟨hi, h0⟩ := hi
    have hi := inb_spec hi
    have k0 := kk _ _ _ _ _ ⟨S.1, S.2.1, S.2.2⟩ rfl rfl
    rcases Nat.lt_or_ge a 17 with h17 | h17
    · rw [show (Value.int i :: Value.ref a :: r).map (cv fa B fm) = .int i :: .ref (fa a) :: r.map (cv fa B fm) by show Value.int i :: Value.ref (rho fa B a) :: _ = _; rw [rho, if_pos h17]]
      rcases fgn S.1.1 h17 hk with ⟨-, -, hc, -⟩ | ⟨a1, -, hn⟩
      · cases hc
      · have g4 := (hB.2.2.2.2.2.2.1 (a - 6) (by omega) (by omega)).2.2.2
        rw [show a - 6 + 6 = a by omega] at g4
        rw [hn] at hi
        rw [S.1.1.2.1 a (by omega) h17] at k0
        exact va_tb hx hb g4 S.2.1 hi rfl hd k0
    · obtain ⟨hty, hcell⟩ := S.1.2.2.2 a _ h17 hk
      have hlt : i.toNatClampNeg < n := Nat.not_le.mp fun q => hi (Or.inr q)
      exact W.bald (v := .int (aI σ a i.toNatClampNeg)) hx hb hcell (rowC_arr (tyK hB.1 hty).1) (rowC_vm _ _ _ _ _ _ _) (n_in hi (rowC_size _ _ _ _ _ _ _)) (by show (arrV _ _ _).slots[_]? = _; rw [arrV_read _ _ hlt]) rfl rfl hd k0
  · rename_i n hk
    split at h <;> cases h
    rename_i hi
    obtain ⟨hi, h17⟩ := hi
    have hi := inb_spec hi
    obtain ⟨hty, hcell⟩ := S.1.2.2.2 a _ h17 hk
    have hlt : i.toNatClampNeg < n := Nat.not_le.mp fun q => hi (Or.inr q)
    exact W.zald (v := .int (aI σ a i.toNatClampNeg)) hx hb hcell (rowC_arr (tyK hB.1 hty).1) (rowC_vm _ _ _ _ _ _ _) (n_in hi (rowC_size _ _ _ _ _ _ _)) (by show (arrV _ _ _).slots[_]? = _; rw [arrV_read _ _ hlt]) rfl rfl hd (kk _ _ _ _ _ ⟨S.1, S.2.1, S.2.2⟩ rfl rfl)
set_option maxHeartbeats 4000000 in
theorem so_aaload {len pc pc' : Nat} {L st L' st' : List Value} {σ σ' : aS} (C : Cx D cF fa B fm sc p R s m args meth c mi) (S : St D cF fa B fm mi s σ H locs ls L) (hd : decode (mC mi) pc = .ok (.aaload, len)) (h : stpI sc mi (.aaload) len pc L st σ = some (.inl (pc', L', st', σ')))
    (kk : ∀ (H' : Heap) (locs' : List Loc) (ls' : Array Slot) (cells' slots' : Nat), St D cF fa B fm mi s σ' H' locs' ls' L' → cells' + σ.1.length = cells + σ'.1.length → slots' + nS σ = slots + nS σ' → W p l e R s m args below meth c H' locs' cells' slots' Q (F0 m pc' ls' (st'.map (cv fa B fm)))) : W p l e R s m args below meth c H locs cells slots Q (F0 m pc ls (st.map (cv fa B fm))) := by
  obtain ⟨hx, hb, hml, hown, hts, hrt, hlk, hin, hB, hfr, hlo⟩ := C
  simp only [stpI, nx] at h
  split at h <;> try cases h
  rename_i hl
  subst hl
  split at h <;> try cases h
  rename_i i a9 r
  obtain ⟨a, rfl⟩ : ∃ a : Nat, a = a9 := ⟨a9, rfl⟩
  split at h <;> try cases h
  rename_i ty n hk
  split at h <;> cases h
  rename_i hi
  obtain ⟨hi, h17, hrf⟩ := hi
  have hi := inb_spec hi
  obtain ⟨hty, hcell⟩ := S.1.2.2.2 a _ h17 hk
  have hlt : i.toNatClampNeg < n := Nat.not_le.mp fun q => hi (Or.inr q)
  have k0 := kk _ _ _ _ _ ⟨S.1, S.2.1, S.2.2⟩ rfl rfl
  rw [List.map_cons, cvr] at k0
  refine W.aald (v := va_rf ((aR σ a i.toNatClampNeg).map (rho fa B))) (ty := ty) hx hb hcell (rowC_arr (tyK hB.1 hty).1) (by cases ty <;> first | rfl | (simp [isRf] at hrf; done)) (rowC_vm _ _ _ _ _ _ _) (n_in hi (rowC_size _ _ _ _ _ _ _)) ?_ rfl rfl hd k0
  cases ty <;> first | (simp [isRf] at hrf; done) | (show (arrV _ _ _).slots[_]? = _; rw [arrV_read _ _ hlt])
set_option maxHeartbeats 4000000 in
theorem so_iastore {len pc pc' : Nat} {L st L' st' : List Value} {σ σ' : aS} (C : Cx D cF fa B fm sc p R s m args meth c mi) (S : St D cF fa B fm mi s σ H locs ls L) (hd : decode (mC mi) pc = .ok (.iastore, len)) (h : stpI sc mi (.iastore) len pc L st σ = some (.inl (pc', L', st', σ')))
    (kk : ∀ (H' : Heap) (locs' : List Loc) (ls' : Array Slot) (cells' slots' : Nat), St D cF fa B fm mi s σ' H' locs' ls' L' → cells' + σ.1.length = cells + σ'.1.length → slots' + nS σ = slots + nS σ' → W p l e R s m args below meth c H' locs' cells' slots' Q (F0 m pc' ls' (st'.map (cv fa B fm)))) : W p l e R s m args below meth c H locs cells slots Q (F0 m pc ls (st.map (cv fa B fm))) := by
  obtain ⟨hx, hb, hml, hown, hts, hrt, hlk, hin, hB, hfr, hlo⟩ := C
  simp only [stpI, nx] at h
  split at h <;> try cases h
  rename_i hl
  subst hl
  split at h <;> try cases h
  rename_i x i a9 r
  obtain ⟨a, rfl⟩ : ∃ a : Nat, a = a9 := ⟨a9, rfl⟩
  split at h <;> try cases h
  rename_i n hk
  split at h <;> cases h
  rename_i hi
  obtain ⟨hi, h17⟩ := hi
  have hi := inb_spec hi
  obtain ⟨hty, hcell⟩ := S.1.2.2.2 a _ h17 hk
  refine W.iast hx hb hcell (rowC_arr (tyK hB.1 hty).1) (rowC_vm _ _ _ _ _ _ _) (n_in hi (rowC_size _ _ _ _ _ _ _)) rfl rfl hd (fun H1 e z oq => kk _ _ _ _ _ ⟨Rel_set S.1 h17 hk rfl (fun q hq => ud_n hq) (fun q hq => rfl) (fun q hq => rfl) z oq ⟨hty, e.trans ?_⟩, vaS_put S.2.1 h17 z oq, S.2.2⟩ rfl rfl)
  show some ((arrV _ n (fun j => .int (aI σ a j))).setSlot _ (.int x)) = some (arrV _ n (fun j => .int (va_up (aI σ) a (va_up (aI σ a) i.toNatClampNeg x) a j)))
  rw [row_set, ud_s]
set_option maxHeartbeats 4000000 in
theorem so_lastore {len pc pc' : Nat} {L st L' st' : List Value} {σ σ' : aS} (C : Cx D cF fa B fm sc p R s m args meth c mi) (S : St D cF fa B fm mi s σ H locs ls L) (hd : decode (mC mi) pc = .ok (.lastore, len)) (h : stpI sc mi (.lastore) len pc L st σ = some (.inl (pc', L', st', σ')))
    (kk : ∀ (H' : Heap) (locs' : List Loc) (ls' : Array Slot) (cells' slots' : Nat), St D cF fa B fm mi s σ' H' locs' ls' L' → cells' + σ.1.length = cells + σ'.1.length → slots' + nS σ = slots + nS σ' → W p l e R s m args below meth c H' locs' cells' slots' Q (F0 m pc' ls' (st'.map (cv fa B fm)))) : W p l e R s m args below meth c H locs cells slots Q (F0 m pc ls (st.map (cv fa B fm))) := by
  obtain ⟨hx, hb, hml, hown, hts, hrt, hlk, hin, hB, hfr, hlo⟩ := C
  simp only [stpI, nx] at h
  split at h <;> try cases h
  rename_i hl
  subst hl
  split at h <;> try cases h
  rename_i x i a9 r
  obtain ⟨a, rfl⟩ : ∃ a : Nat, a = a9 := ⟨a9, rfl⟩
  split at h <;> try cases h
  rename_i n hk
  split at h <;> cases h
  rename_i hi
  obtain ⟨hi, h17⟩ := hi
  have hi := inb_spec hi
  obtain ⟨hty, hcell⟩ := S.1.2.2.2 a _ h17 hk
  refine W.last hx hb hcell (rowC_arr (tyK hB.1 hty).1) (rowC_vm _ _ _ _ _ _ _) (n_in hi (rowC_size _ _ _ _ _ _ _)) rfl rfl hd (fun H1 e z oq => kk _ _ _ _ _ ⟨Rel_set S.1 h17 hk rfl (fun q hq => rfl) (fun q hq => ud_n hq) (fun q hq => rfl) z oq ⟨hty, e.trans ?_⟩, vaS_put S.2.1 h17 z oq, S.2.2⟩ rfl rfl)
  show some ((arrV _ n (fun j => .long (aJ σ a j))).setSlot _ (.long x)) = some (arrV _ n (fun j => .long (va_up (aJ σ) a (va_up (aJ σ a) i.toNatClampNeg x) a j)))
  rw [row_set, ud_s]
set_option maxHeartbeats 4000000 in
theorem so_bastore {len pc pc' : Nat} {L st L' st' : List Value} {σ σ' : aS} (C : Cx D cF fa B fm sc p R s m args meth c mi) (S : St D cF fa B fm mi s σ H locs ls L) (hd : decode (mC mi) pc = .ok (.bastore, len)) (h : stpI sc mi (.bastore) len pc L st σ = some (.inl (pc', L', st', σ')))
    (kk : ∀ (H' : Heap) (locs' : List Loc) (ls' : Array Slot) (cells' slots' : Nat), St D cF fa B fm mi s σ' H' locs' ls' L' → cells' + σ.1.length = cells + σ'.1.length → slots' + nS σ = slots + nS σ' → W p l e R s m args below meth c H' locs' cells' slots' Q (F0 m pc' ls' (st'.map (cv fa B fm)))) : W p l e R s m args below meth c H locs cells slots Q (F0 m pc ls (st.map (cv fa B fm))) := by
  obtain ⟨hx, hb, hml, hown, hts, hrt, hlk, hin, hB, hfr, hlo⟩ := C
  simp only [stpI, nx] at h
  split at h <;> try cases h
  rename_i hl
  subst hl
  split at h <;> try cases h
  rename_i x i a9 r
  obtain ⟨a, rfl⟩ : ∃ a : Nat, a = a9 := ⟨a9, rfl⟩
  split at h <;> try cases h
  · rename_i n hk
    split at h <;> cases h
    rename_i hi
    obtain ⟨hi, h17⟩ := hi
    have hi := inb_spec hi
    obtain ⟨hty, hcell⟩ := S.1.2.2.2 a _ h17 hk
    refine W.bast hx hb hcell (rowC_arr (tyK hB.1 hty).1) (rowC_vm _ _ _ _ _ _ _) (n_in hi (rowC_size _ _ _ _ _ _ _)) rfl rfl hd (fun H1 e z oq => kk _ _ _ _ _ ⟨Rel_set S.1 h17 hk rfl (fun q hq => ud_n hq) (fun q hq => rfl) (fun q hq => rfl) z oq ⟨hty, e.trans ?_⟩, vaS_put S.2.1 h17 z oq, S.2.2⟩ rfl rfl)
    show some ((arrV _ n (fun j => .int (aI σ a j))).setSlot _ (.int (vp_nar .byte x))) = some (arrV _ n (fun j => .int (va_up (aI σ) a (va_up (aI σ a) i.toNatClampNeg (vp_nar .byte x)) a j)))
    rw [row_set, ud_s]
  · rename_i n hk
    split at h <;> cases h
    rename_i hi
    obtain ⟨hi, h17⟩ := hi
    have hi := inb_spec hi
    obtain ⟨hty, hcell⟩ := S.1.2.2.2 a _ h17 hk
    refine W.zast hx hb hcell (rowC_arr (tyK hB.1 hty).1) (rowC_vm _ _ _ _ _ _ _) (n_in hi (rowC_size _ _ _ _ _ _ _)) rfl rfl hd (fun H1 e z oq => kk _ _ _ _ _ ⟨Rel_set S.1 h17 hk rfl (fun q hq => ud_n hq) (fun q hq => rfl) (fun q hq => rfl) z oq ⟨hty, e.trans ?_⟩, vaS_put S.2.1 h17 z oq, S.2.2⟩ rfl rfl)
    show some ((arrV _ n (fun j => .int (aI σ a j))).setSlot _ (.int (vp_nar .boolean x))) = some (arrV _ n (fun j => .int (va_up (aI σ) a (va_up (aI σ a) i.toNatClampNeg (vp_nar .boolean x)) a j)))
    rw [row_set, ud_s]
set_option maxHeartbeats 4000000 in
theorem so_aastore {len pc pc' : Nat} {L st L' st' : List Value} {σ σ' : aS} (C : Cx D cF fa B fm sc p R s m args meth c mi) (S : St D cF fa B fm mi s σ H locs ls L) (hd : decode (mC mi) pc = .ok (.aastore, len)) (h : stpI sc mi (.aastore) len pc L st σ = some (.inl (pc', L', st', σ')))
    (kk : ∀ (H' : Heap) (locs' : List Loc) (ls' : Array Slot) (cells' slots' : Nat), St D cF fa B fm mi s σ' H' locs' ls' L' → cells' + σ.1.length = cells + σ'.1.length → slots' + nS σ = slots + nS σ' → W p l e R s m args below meth c H' locs' cells' slots' Q (F0 m pc' ls' (st'.map (cv fa B fm)))) : W p l e R s m args below meth c H locs cells slots Q (F0 m pc ls (st.map (cv fa B fm))) := by
  obtain ⟨hx, hb, hml, hown, hts, hrt, hlk, hin, hB, hfr, hlo⟩ := C
  simp only [stpI, nx] at h
  split at h <;> try cases h
  rename_i hl
  subst hl
  split at h <;> try cases h
  rename_i v9 i a9 r
  obtain ⟨a, rfl⟩ : ∃ a : Nat, a = a9 := ⟨a9, rfl⟩
  obtain ⟨v, rfl⟩ : ∃ v : Nat, v = v9 := ⟨v9, rfl⟩
  split at h <;> try cases h
  rename_i C n hk
  split at h <;> try cases h
  rename_i ci hkv
  split at h <;> cases h
  rename_i hi
  obtain ⟨hi, h17, h17v, h8, hC⟩ := hi
  have hi := inb_spec hi
  obtain ⟨hty, hcell⟩ := S.1.2.2.2 a _ h17 hk
  obtain ⟨-, cellV, g1, g2, g3, -⟩ := S.1.2.2.2 v _ h17v hkv
  have hcls := (clK hB.1 h8).2
  obtain ⟨kA, comp, k1, k2, k3, -⟩ := (tyK hB.1 hty).2
  rw [hC] at k3
  have hcomp : comp = D.1 ci := Option.some.inj (k3.symm.trans hcls.1)
  subst hcomp
  obtain ⟨kC, hkC, -⟩ := hcls.2
  refine W.aast hx hb hcell (rowC_st _ _ _ _ _ _ _) (rowC_vm _ _ _ _ _ _ _) (by rw [rowC_cls]; exact k1) k2 rfl hkC ⟨fun q => hi (Or.inl q), by rw [rowC_size]; exact Nat.not_le.mp fun q => hi (Or.inr q)⟩ g1 (fun q z => by rw [g3] at z; cases z) (by rw [g2]; exact hkC) (by rw [g2]; exact va_assign hcls) rfl rfl hd (fun H1 e z oq => kk _ _ _ _ _ ⟨Rel_set S.1 h17 hk rfl (fun q hq => rfl) (fun q hq => rfl) (fun q hq => ud_n hq) z oq ⟨hty, e.trans ?_⟩, vaS_put S.2.1 h17 z oq, S.2.2⟩ rfl rfl)
  show some ((arrV _ n (fun j => va_rf ((aR σ a j).map (rho fa B)))).setSlot _ (va_rf ((some v).map (rho fa B)))) = some (arrV _ n (fun j => va_rf ((va_up (aR σ) a (va_up (aR σ a) i.toNatClampNeg (some v)) a j).map (rho fa B))))
  rw [row_set (fun z : Option Nat => va_rf (z.map (rho fa B))), ud_s]
set_option maxHeartbeats 4000000 in
theorem so_new {len pc pc' : Nat} {L st L' st' : List Value} {σ σ' : aS} {x : Nat} (C : Cx D cF fa B fm sc p R s m args meth c mi) (S : St D cF fa B fm mi s σ H locs ls L) (hd : decode (mC mi) pc = .ok (.new x, len)) (h : stpI sc mi (.new x) len pc L st σ = some (.inl (pc', L', st', σ'))) (hC : cells + σ'.1.length ≤ R.cells + σ.1.length) (hS9 : slots + nS σ' ≤ R.slots + nS σ)
    (kk : ∀ (H' : Heap) (locs' : List Loc) (ls' : Array Slot) (cells' slots' : Nat), St D cF fa B fm mi s σ' H' locs' ls' L' → cells' + σ.1.length = cells + σ'.1.length → slots' + nS σ = slots + nS σ' → W p l e R s m args below meth c H' locs' cells' slots' Q (F0 m pc' ls' (st'.map (cv fa B fm)))) : W p l e R s m args below meth c H locs cells slots Q (F0 m pc ls (st.map (cv fa B fm))) := by
  obtain ⟨hx, hb, hml, hown, hts, hrt, hlk, hin, hB, hfr, hlo⟩ := C
  simp only [stpI, nx] at h
  split at h <;> try cases h
  rename_i hl
  subst hl
  split at h <;> try cases h
  rename_i ci ht
  split at h <;> cases h
  rename_i h8
  rw [zN_len] at hC
  rw [zN_S] at hS9
  have hn9 : slots + nfl ci ≤ R.slots := by show slots + ksl (.inl ci) ≤ _; omega
  have hIn := List.all_eq_true.mp ins_ok ci (List.mem_range.mpr h8)
  have hMk := hts _ (isW_in hIn)
  have hKn := clK hB.1 h8
  have hIni : (Cond.initialized (cN ci)).before args s = true := hts _ (clI h8)
  refine W.newcK hx hb hown (hts _ (w_kl ht)) hMk hIni rfl hd (by omega) hn9 hKn.2.1 rfl fun H1 kC hkC e1 z1 o1 => ?_
  have hrho := rho_new S.1 0
  rw [Nat.add_zero, Nat.add_zero] at hrho
  have k0 := kk H1 locs ls (cells + 1) (slots + nfl ci) ⟨?_, vaS_new S.2.1 (by omega) o1, S.2.2⟩ (by rw [zN_len]; omega) (by rw [zN_S]; show _ = _ + (_ + nfl ci); omega)
  · rw [List.map_cons, show cv fa B fm (.ref σ.1.length) = .ref H.size by show Value.ref (rho fa B σ.1.length) = _; rw [hrho]] at k0
    exact k0
  · refine Rel_grow S.1 (ks := [.inl ci]) rfl (fun q hq => (zN_old hq).1) (fun q hq => (zN_old hq).2.1) (fun q hq => (zN_old hq).2.2) z1 o1 (fun i kd hi => ?_)
    match i, hi with
    | 0, hi =>
      cases hi
      refine ⟨h8, ?_⟩
      rw [rho_new S.1 0, Nat.add_zero]
      refine t_OB.to (u_born (cty ci) hts (clW h8) hKn hkC e1 (fun k hk => (clT h8 hk).2)) (fun k hk => ?_)
      obtain ⟨z1, z2, z3⟩ := zN_new σ (.inl ci)
      obtain ⟨c1, c2⟩ := cty_okk h8 hk
      unfold fvl
      rw [Nat.add_zero, z1, z2, z3]
      cases hc : cty ci k <;> first | rfl | (exact absurd hc c1) | (exact absurd hc c2)
set_option maxHeartbeats 4000000 in
theorem so_newarray {len pc pc' : Nat} {L st L' st' : List Value} {σ σ' : aS} {ty : ArrayType} (C : Cx D cF fa B fm sc p R s m args meth c mi) (S : St D cF fa B fm mi s σ H locs ls L) (hd : decode (mC mi) pc = .ok (.newarray ty, len)) (h : stpI sc mi (.newarray ty) len pc L st σ = some (.inl (pc', L', st', σ'))) (hC : cells + σ'.1.length ≤ R.cells + σ.1.length) (hS9 : slots + nS σ' ≤ R.slots + nS σ)
    (kk : ∀ (H' : Heap) (locs' : List Loc) (ls' : Array Slot) (cells' slots' : Nat), St D cF fa B fm mi s σ' H' locs' ls' L' → cells' + σ.1.length = cells + σ'.1.length → slots' + nS σ = slots + nS σ' → W p l e R s m args below meth c H' locs' cells' slots' Q (F0 m pc' ls' (st'.map (cv fa B fm)))) : W p l e R s m args below meth c H locs cells slots Q (F0 m pc ls (st.map (cv fa B fm))) := by
  obtain ⟨hx, hb, hml, hown, hts, hrt, hlk, hin, hB, hfr, hlo⟩ := C
  simp only [stpI, nx] at h
  split at h <;> try cases h
  rename_i hl
  subst hl
  split at h <;> try cases h
  rename_i n r
  split at h <;> try cases h
  rename_i hn
  have hn0 : ¬ n < 0 := fun q => hn (Or.inl q)
  have hn1 : n.toNatClampNeg ≤ 100000 := Nat.not_lt.mp fun q => hn (Or.inr q)
  cases ty <;> simp only at h <;> try cases h
  · rw [zN_len] at hC
    rw [zN_S] at hS9
    have hn9 : slots + n.toNatClampNeg ≤ R.slots := by show slots + ksl (.inr (.boolean, n.toNatClampNeg)) ≤ _; omega
    refine va_newaK (atype := .boolean) (N := n.toNatClampNeg) hx hb (hts _ wA_boolean) rfl hd rfl hn0 rfl (by show n.toNatClampNeg * 1 ≤ 536870912; omega) (by omega) hn9 rfl fun H1 cA e1 z1 o1 hAr hNm => ?_
    have hcA : cA = cF .boolean := Option.some.inj (hNm.symm.trans (tyK hB.1 (ty := .boolean) (by decide)).2)
    subst hcA
    have hrho := rho_new S.1 0
    rw [Nat.add_zero, Nat.add_zero] at hrho
    have k0 := kk H1 locs ls (cells + 1) (slots + n.toNatClampNeg) ⟨?_, vaS_new S.2.1 (by omega) o1, S.2.2⟩ (by rw [zN_len]; omega) (by rw [zN_S]; show _ = _ + (_ + n.toNatClampNeg); omega)
    · rw [List.map_cons, show cv fa B fm (.ref σ.1.length) = .ref H.size by show Value.ref (rho fa B σ.1.length) = _; rw [hrho]] at k0
      exact k0
    · refine Rel_grow S.1 (ks := [.inr (.boolean, n.toNatClampNeg)]) rfl (fun q hq => (zN_old hq).1) (fun q hq => (zN_old hq).2.1) (fun q hq => (zN_old hq).2.2) z1 o1 (fun i kd hi => ?_)
      match i, hi with
      | 0, hi =>
        cases hi
        refine ⟨by decide, ?_⟩
        rw [rho_new S.1 0, Nat.add_zero, e1]
        obtain ⟨z1, z2, z3⟩ := zN_new σ (.inr (.boolean, n.toNatClampNeg))
        unfold rowC
        rw [Nat.add_zero, z1, z2, z3]
        rfl
  · rw [zN_len] at hC
    rw [zN_S] at hS9
    have hn9 : slots + n.toNatClampNeg ≤ R.slots := by show slots + ksl (.inr (.byte, n.toNatClampNeg)) ≤ _; omega
    refine va_newaK (atype := .byte) (N := n.toNatClampNeg) hx hb (hts _ wA_byte) rfl hd rfl hn0 rfl (by show n.toNatClampNeg * 1 ≤ 536870912; omega) (by omega) hn9 rfl fun H1 cA e1 z1 o1 hAr hNm => ?_
    have hcA : cA = cF .byte := Option.some.inj (hNm.symm.trans (tyK hB.1 (ty := .byte) (by decide)).2)
    subst hcA
    have hrho := rho_new S.1 0
    rw [Nat.add_zero, Nat.add_zero] at hrho
    have k0 := kk H1 locs ls (cells + 1) (slots + n.toNatClampNeg) ⟨?_, vaS_new S.2.1 (by omega) o1, S.2.2⟩ (by rw [zN_len]; omega) (by rw [zN_S]; show _ = _ + (_ + n.toNatClampNeg); omega)
    · rw [List.map_cons, show cv fa B fm (.ref σ.1.length) = .ref H.size by show Value.ref (rho fa B σ.1.length) = _; rw [hrho]] at k0
      exact k0
    · refine Rel_grow S.1 (ks := [.inr (.byte, n.toNatClampNeg)]) rfl (fun q hq => (zN_old hq).1) (fun q hq => (zN_old hq).2.1) (fun q hq => (zN_old hq).2.2) z1 o1 (fun i kd hi => ?_)
      match i, hi with
      | 0, hi =>
        cases hi
        refine ⟨by decide, ?_⟩
        rw [rho_new S.1 0, Nat.add_zero, e1]
        obtain ⟨z1, z2, z3⟩ := zN_new σ (.inr (.byte, n.toNatClampNeg))
        unfold rowC
        rw [Nat.add_zero, z1, z2, z3]
        rfl
  · rw [zN_len] at hC
    rw [zN_S] at hS9
    have hn9 : slots + n.toNatClampNeg ≤ R.slots := by show slots + ksl (.inr (.int, n.toNatClampNeg)) ≤ _; omega
    refine va_newaK (atype := .int) (N := n.toNatClampNeg) hx hb (hts _ wA_int) rfl hd rfl hn0 rfl (by show n.toNatClampNeg * 4 ≤ 536870912; omega) (by omega) hn9 rfl fun H1 cA e1 z1 o1 hAr hNm => ?_
    have hcA : cA = cF .int := Option.some.inj (hNm.symm.trans (tyK hB.1 (ty := .int) (by decide)).2)
    subst hcA
    have hrho := rho_new S.1 0
    rw [Nat.add_zero, Nat.add_zero] at hrho
    have k0 := kk H1 locs ls (cells + 1) (slots + n.toNatClampNeg) ⟨?_, vaS_new S.2.1 (by omega) o1, S.2.2⟩ (by rw [zN_len]; omega) (by rw [zN_S]; show _ = _ + (_ + n.toNatClampNeg); omega)
    · rw [List.map_cons, show cv fa B fm (.ref σ.1.length) = .ref H.size by show Value.ref (rho fa B σ.1.length) = _; rw [hrho]] at k0
      exact k0
    · refine Rel_grow S.1 (ks := [.inr (.int, n.toNatClampNeg)]) rfl (fun q hq => (zN_old hq).1) (fun q hq => (zN_old hq).2.1) (fun q hq => (zN_old hq).2.2) z1 o1 (fun i kd hi => ?_)
      match i, hi with
      | 0, hi =>
        cases hi
        refine ⟨by decide, ?_⟩
        rw [rho_new S.1 0, Nat.add_zero, e1]
        obtain ⟨z1, z2, z3⟩ := zN_new σ (.inr (.int, n.toNatClampNeg))
        unfold rowC
        rw [Nat.add_zero, z1, z2, z3]
        rfl
  · rw [zN_len] at hC
    rw [zN_S] at hS9
    have hn9 : slots + n.toNatClampNeg ≤ R.slots := by show slots + ksl (.inr (.long, n.toNatClampNeg)) ≤ _; omega
    refine va_newaK (atype := .long) (N := n.toNatClampNeg) hx hb (hts _ wA_long) rfl hd rfl hn0 rfl (by show n.toNatClampNeg * 8 ≤ 536870912; omega) (by omega) hn9 rfl fun H1 cA e1 z1 o1 hAr hNm => ?_
    have hcA : cA = cF .long := Option.some.inj (hNm.symm.trans (tyK hB.1 (ty := .long) (by decide)).2)
    subst hcA
    have hrho := rho_new S.1 0
    rw [Nat.add_zero, Nat.add_zero] at hrho
    have k0 := kk H1 locs ls (cells + 1) (slots + n.toNatClampNeg) ⟨?_, vaS_new S.2.1 (by omega) o1, S.2.2⟩ (by rw [zN_len]; omega) (by rw [zN_S]; show _ = _ + (_ + n.toNatClampNeg); omega)
    · rw [List.map_cons, show cv fa B fm (.ref σ.1.length) = .ref H.size by show Value.ref (rho fa B σ.1.length) = _; rw [hrho]] at k0
      exact k0
    · refine Rel_grow S.1 (ks := [.inr (.long, n.toNatClampNeg)]) rfl (fun q hq => (zN_old hq).1) (fun q hq => (zN_old hq).2.1) (fun q hq => (zN_old hq).2.2) z1 o1 (fun i kd hi => ?_)
      match i, hi with
      | 0, hi =>
        cases hi
        refine ⟨by decide, ?_⟩
        rw [rho_new S.1 0, Nat.add_zero, e1]
        obtain ⟨z1, z2, z3⟩ := zN_new σ (.inr (.long, n.toNatClampNeg))
        unfold rowC
        rw [Nat.add_zero, z1, z2, z3]
        rfl
set_option maxHeartbeats 4000000 in
theorem so_anewarray {len pc pc' : Nat} {L st L' st' : List Value} {σ σ' : aS} {x : Nat} (C : Cx D cF fa B fm sc p R s m args meth c mi) (S : St D cF fa B fm mi s σ H locs ls L) (hd : decode (mC mi) pc = .ok (.anewarray x, len)) (h : stpI sc mi (.anewarray x) len pc L st σ = some (.inl (pc', L', st', σ'))) (hC : cells + σ'.1.length ≤ R.cells + σ.1.length) (hS9 : slots + nS σ' ≤ R.slots + nS σ)
    (kk : ∀ (H' : Heap) (locs' : List Loc) (ls' : Array Slot) (cells' slots' : Nat), St D cF fa B fm mi s σ' H' locs' ls' L' → cells' + σ.1.length = cells + σ'.1.length → slots' + nS σ = slots + nS σ' → W p l e R s m args below meth c H' locs' cells' slots' Q (F0 m pc' ls' (st'.map (cv fa B fm)))) : W p l e R s m args below meth c H locs cells slots Q (F0 m pc ls (st.map (cv fa B fm))) := by
  obtain ⟨hx, hb, hml, hown, hts, hrt, hlk, hin, hB, hfr, hlo⟩ := C
  simp only [stpI, nx] at h
  split at h <;> try cases h
  rename_i hl
  subst hl
  split at h <;> try cases h
  rename_i ci ht
  split at h <;> try cases h
  rename_i n r
  split at h <;> cases h
  rename_i hn
  have hn0 : ¬ n < 0 := fun q => hn (Or.inl q)
  have hn1 : n.toNatClampNeg ≤ 100000 := Nat.not_lt.mp fun q => hn (Or.inr (Or.inl q))
  have hci : ci = 2 ∨ ci = 4 := Decidable.of_not_not fun q => hn (Or.inr (Or.inr q))
  have hT9 : FieldType.object (cN ci) ∈ tyS := by rcases hci with rfl | rfl <;> decide
  have hAO : va_AO (cN ci) s := by
    rcases hci with rfl | rfl
    · exact hB.2.2.2.2.2.2.2.2.2.1
    · exact hB.2.2.2.2.2.2.2.2.2.2.1
  rw [zN_len] at hC
  rw [zN_S] at hS9
  have hn9 : slots + n.toNatClampNeg ≤ R.slots := by show slots + ksl (.inr (.object (cN ci), n.toNatClampNeg)) ≤ _; omega
  refine W.anew hx hb hown (hts _ (w_kl ht)) (va_AO.use hAO) rfl hd rfl hn0 (by omega) (by omega) hn9 fun cA kA comp f1 f2 f3 f4 => ?_
  obtain ⟨-, -, -, -, -, hNm⟩ := (tyK hB.1 hT9).2
  have hcA : cA = cF (.object (cN ci)) := Option.some.inj (f1.symm.trans hNm)
  subst hcA
  generalize hH1 : H.push ({ cls := cF (.object (cN ci)), slots := Array.replicate n.toNatClampNeg .null, vm := .none } : Cell) = H1
  have z1 : H1.size = H.size + 1 := by rw [← hH1, Array.size_push]
  have e1 : H1[H.size]? = some (arrV (cF (.object (cN ci))) n.toNatClampNeg (fun _ => .null)) := by rw [← hH1, Array.getElem?_push_size, ← arrV_new]
  have o1 : ∀ q : Nat, q < H.size → H1[q]? = H[q]? := fun q hq => by rw [← hH1, Array.getElem?_push, if_neg (Nat.ne_of_lt hq)]
  have hrho := rho_new S.1 0
  rw [Nat.add_zero, Nat.add_zero] at hrho
  have k0 := kk H1 locs ls (cells + 1) (slots + n.toNatClampNeg) ⟨?_, vaS_new S.2.1 (by omega) o1, S.2.2⟩ (by rw [zN_len]; omega) (by rw [zN_S]; show _ = _ + (_ + n.toNatClampNeg); omega)
  · rw [List.map_cons, show cv fa B fm (.ref σ.1.length) = .ref H.size by show Value.ref (rho fa B σ.1.length) = _; rw [hrho]] at k0
    exact k0
  · refine Rel_grow S.1 (ks := [.inr (.object (cN ci), n.toNatClampNeg)]) rfl (fun q hq => (zN_old hq).1) (fun q hq => (zN_old hq).2.1) (fun q hq => (zN_old hq).2.2) z1 o1 (fun i kd hi => ?_)
    match i, hi with
    | 0, hi =>
      cases hi
      refine ⟨hT9, ?_⟩
      rw [rho_new S.1 0, Nat.add_zero, e1]
      obtain ⟨z1, z2, z3⟩ := zN_new σ (.inr (.object (cN ci), n.toNatClampNeg))
      unfold rowC
      rw [Nat.add_zero, z3]
      rfl
end HR
