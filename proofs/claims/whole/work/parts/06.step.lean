/-! one step of the abstract machine is one of the machine -/
theorem jt_spec {pc t : Nat} {off : Int} (h : jt pc off = some t) : (pc : Int) + off = (t : Int) := by
  unfold jt at h
  split at h
  · rename_i q hq; cases h; exact hq
  · cases h
theorem gt0_spec {pc pc' : Nat} {off : Int} {L st L' st' : List Value} {σ σ' : aS} (h : gt0 pc off L st σ = some (.inl (pc', L', st', σ'))) : (pc : Int) + off = (pc' : Int) ∧ L' = L ∧ st' = st ∧ σ' = σ := by
  unfold gt0 nx at h
  split at h
  · rename_i t ht; cases h; exact ⟨jt_spec ht, rfl, rfl, rfl⟩
  · cases h
theorem cj_spec {pc pc' : Nat} {off : Int} {c : Bool} {L st L' st' : List Value} {σ σ' : aS} (h : cj pc off c L st σ = some (.inl (pc', L', st', σ'))) : ∃ t : Nat, (pc : Int) + off = (t : Int) ∧ pc' = (if c = true then t else pc + 3) ∧ L' = L ∧ st' = st ∧ σ' = σ := by
  unfold cj nx at h
  split at h
  · rename_i t ht
    refine ⟨t, jt_spec ht, ?_⟩
    split at h <;> rename_i hc <;> cases h
    · rw [if_pos hc]; exact ⟨rfl, rfl, rfl, rfl⟩
    · rw [if_neg hc]; exact ⟨rfl, rfl, rfl, rfl⟩
  · cases h
theorem inb_spec {i : Int32} {n : Nat} (h : inb i n = true) : ¬ (i < 0 ∨ n ≤ i.toNatClampNeg) := by
  unfold inb at h
  simpa using h
theorem cvr (fa : Nat → Nat) (B : Nat) (fm : Value) (r : Option Nat) : cv fa B fm (va_rf r) = va_rf (r.map (rho fa B)) := by cases r <;> rfl
section STP
variable {p : Program} {l : Launch} {e : Env} {R : Room} {s : State} {m : MethodId} {args : Array Value} {below : List Frame} {meth : Method} {c : Code} {H : Heap} {locs : List Loc} {cells slots : Nat} {Q : State → Prop}
variable {D : va_G} {cF : FieldType → ClassId} {fa : Nat → Nat} {B : Nat} {fm : Value} {sc : Option (Nat × (Nat → Int32))} {mi : Nat} {ls : Array Slot}
/-- what stands while a method runs -/
def Cx (D : va_G) (cF : FieldType → ClassId) (fa : Nat → Nat) (B : Nat) (fm : Value) (sc : Option (Nat × (Nat → Int32))) (p : Program) (R : Room) (s : State) (m : MethodId) (args : Array Value) (meth : Method) (c : Code) (mi : Nat) : Prop :=
  p.tables.exec = Jvm.exec ∧ c.code = mC mi ∧ c.maxLocals = mL mi ∧ s.vm.findClass (cN (mO mi)) = some m.cls ∧ (∀ w ∈ wsG, w.before args s = true) ∧ meth.sig.returnType = mR mi ∧ meth.locks = false ∧ (mK mi = 2 → meth.name = "<init>") ∧ Bs D cF fa B fm sc s s.heap ∧ 2 ≤ R.frames ∧ 100 ≤ R.locals
def St (D : va_G) (cF : FieldType → ClassId) (fa : Nat → Nat) (B : Nat) (fm : Value) (mi : Nat) (s : State) (σ : aS) (H : Heap) (locs : List Loc) (ls : Array Slot) (L : List Value) : Prop := Rel D cF fa B fm σ H ∧ va_S (Bo B) s.heap H locs ∧ RL fa B fm ls (mL mi) L

theorem so_iconst {len pc pc' : Nat} {L st L' st' : List Value} {σ σ' : aS} {n : Int} (C : Cx D cF fa B fm sc p R s m args meth c mi) (S : St D cF fa B fm mi s σ H locs ls L) (hd : decode (mC mi) pc = .ok (.iconst n, len)) (h : stpI sc mi (.iconst n) len pc L st σ = some (.inl (pc', L', st', σ')))
    (kk : ∀ (H' : Heap) (locs' : List Loc) (ls' : Array Slot) (cells' slots' : Nat), St D cF fa B fm mi s σ' H' locs' ls' L' → cells' + σ.1.length = cells + σ'.1.length → slots' + nS σ = slots + nS σ' → W p l e R s m args below meth c H' locs' cells' slots' Q (F0 m pc' ls' (st'.map (cv fa B fm)))) : W p l e R s m args below meth c H locs cells slots Q (F0 m pc ls (st.map (cv fa B fm))) := by
  obtain ⟨hx, hb, hml, hown, hts, hrt, hlk, hin, hB, hfr, hlo⟩ := C
  simp only [stpI, nx] at h
  split at h <;> cases h
  rename_i hl
  subst hl
  exact lv_iconst hx hb hd rfl (kk _ _ _ _ _ ⟨S.1, S.2.1, S.2.2⟩ rfl rfl)
theorem so_bipush {len pc pc' : Nat} {L st L' st' : List Value} {σ σ' : aS} {n : Int} (C : Cx D cF fa B fm sc p R s m args meth c mi) (S : St D cF fa B fm mi s σ H locs ls L) (hd : decode (mC mi) pc = .ok (.bipush n, len)) (h : stpI sc mi (.bipush n) len pc L st σ = some (.inl (pc', L', st', σ')))
    (kk : ∀ (H' : Heap) (locs' : List Loc) (ls' : Array Slot) (cells' slots' : Nat), St D cF fa B fm mi s σ' H' locs' ls' L' → cells' + σ.1.length = cells + σ'.1.length → slots' + nS σ = slots + nS σ' → W p l e R s m args below meth c H' locs' cells' slots' Q (F0 m pc' ls' (st'.map (cv fa B fm)))) : W p l e R s m args below meth c H locs cells slots Q (F0 m pc ls (st.map (cv fa B fm))) := by
  obtain ⟨hx, hb, hml, hown, hts, hrt, hlk, hin, hB, hfr, hlo⟩ := C
  simp only [stpI, nx] at h
  split at h <;> cases h
  rename_i hl
  subst hl
  exact lv_bipush hx hb hd rfl (kk _ _ _ _ _ ⟨S.1, S.2.1, S.2.2⟩ rfl rfl)
theorem so_sipush {len pc pc' : Nat} {L st L' st' : List Value} {σ σ' : aS} {n : Int} (C : Cx D cF fa B fm sc p R s m args meth c mi) (S : St D cF fa B fm mi s σ H locs ls L) (hd : decode (mC mi) pc = .ok (.sipush n, len)) (h : stpI sc mi (.sipush n) len pc L st σ = some (.inl (pc', L', st', σ')))
    (kk : ∀ (H' : Heap) (locs' : List Loc) (ls' : Array Slot) (cells' slots' : Nat), St D cF fa B fm mi s σ' H' locs' ls' L' → cells' + σ.1.length = cells + σ'.1.length → slots' + nS σ = slots + nS σ' → W p l e R s m args below meth c H' locs' cells' slots' Q (F0 m pc' ls' (st'.map (cv fa B fm)))) : W p l e R s m args below meth c H locs cells slots Q (F0 m pc ls (st.map (cv fa B fm))) := by
  obtain ⟨hx, hb, hml, hown, hts, hrt, hlk, hin, hB, hfr, hlo⟩ := C
  simp only [stpI, nx] at h
  split at h <;> cases h
  rename_i hl
  subst hl
  exact lv_sipush hx hb hd rfl (kk _ _ _ _ _ ⟨S.1, S.2.1, S.2.2⟩ rfl rfl)
theorem so_lconst {len pc pc' : Nat} {L st L' st' : List Value} {σ σ' : aS} {n : Fin 2} (C : Cx D cF fa B fm sc p R s m args meth c mi) (S : St D cF fa B fm mi s σ H locs ls L) (hd : decode (mC mi) pc = .ok (.lconst n, len)) (h : stpI sc mi (.lconst n) len pc L st σ = some (.inl (pc', L', st', σ')))
    (kk : ∀ (H' : Heap) (locs' : List Loc) (ls' : Array Slot) (cells' slots' : Nat), St D cF fa B fm mi s σ' H' locs' ls' L' → cells' + σ.1.length = cells + σ'.1.length → slots' + nS σ = slots + nS σ' → W p l e R s m args below meth c H' locs' cells' slots' Q (F0 m pc' ls' (st'.map (cv fa B fm)))) : W p l e R s m args below meth c H locs cells slots Q (F0 m pc ls (st.map (cv fa B fm))) := by
  obtain ⟨hx, hb, hml, hown, hts, hrt, hlk, hin, hB, hfr, hlo⟩ := C
  simp only [stpI, nx] at h
  split at h <;> cases h
  rename_i hl
  subst hl
  exact lv_lconst hx hb hd rfl (kk _ _ _ _ _ ⟨S.1, S.2.1, S.2.2⟩ rfl rfl)
theorem so_ldc_w {len pc pc' : Nat} {L st L' st' : List Value} {σ σ' : aS} {x : Nat} (C : Cx D cF fa B fm sc p R s m args meth c mi) (S : St D cF fa B fm mi s σ H locs ls L) (hd : decode (mC mi) pc = .ok (.ldc_w x, len)) (h : stpI sc mi (.ldc_w x) len pc L st σ = some (.inl (pc', L', st', σ')))
    (kk : ∀ (H' : Heap) (locs' : List Loc) (ls' : Array Slot) (cells' slots' : Nat), St D cF fa B fm mi s σ' H' locs' ls' L' → cells' + σ.1.length = cells + σ'.1.length → slots' + nS σ = slots + nS σ' → W p l e R s m args below meth c H' locs' cells' slots' Q (F0 m pc' ls' (st'.map (cv fa B fm)))) : W p l e R s m args below meth c H locs cells slots Q (F0 m pc ls (st.map (cv fa B fm))) := by
  obtain ⟨hx, hb, hml, hown, hts, hrt, hlk, hin, hB, hfr, hlo⟩ := C
  simp only [stpI, nx] at h
  split at h <;> try cases h
  rename_i hl
  subst hl
  split at h <;> cases h
  rename_i ht
  exact lv_ldcw hx hb hown (hts _ (w_lci ht)) hd (kk _ _ _ _ _ ⟨S.1, S.2.1, S.2.2⟩ rfl rfl)
theorem so_ldc2_w {len pc pc' : Nat} {L st L' st' : List Value} {σ σ' : aS} {x : Nat} (C : Cx D cF fa B fm sc p R s m args meth c mi) (S : St D cF fa B fm mi s σ H locs ls L) (hd : decode (mC mi) pc = .ok (.ldc2_w x, len)) (h : stpI sc mi (.ldc2_w x) len pc L st σ = some (.inl (pc', L', st', σ')))
    (kk : ∀ (H' : Heap) (locs' : List Loc) (ls' : Array Slot) (cells' slots' : Nat), St D cF fa B fm mi s σ' H' locs' ls' L' → cells' + σ.1.length = cells + σ'.1.length → slots' + nS σ = slots + nS σ' → W p l e R s m args below meth c H' locs' cells' slots' Q (F0 m pc' ls' (st'.map (cv fa B fm)))) : W p l e R s m args below meth c H locs cells slots Q (F0 m pc ls (st.map (cv fa B fm))) := by
  obtain ⟨hx, hb, hml, hown, hts, hrt, hlk, hin, hB, hfr, hlo⟩ := C
  simp only [stpI, nx] at h
  split at h <;> try cases h
  rename_i hl
  subst hl
  split at h <;> cases h
  rename_i ht
  exact lv_ldc2 hx hb hown (hts _ (w_lcl ht)) hd (kk _ _ _ _ _ ⟨S.1, S.2.1, S.2.2⟩ rfl rfl)
theorem so_iload {len pc pc' : Nat} {L st L' st' : List Value} {σ σ' : aS} {k : Nat} (C : Cx D cF fa B fm sc p R s m args meth c mi) (S : St D cF fa B fm mi s σ H locs ls L) (hd : decode (mC mi) pc = .ok (.iload k, len)) (h : stpI sc mi (.iload k) len pc L st σ = some (.inl (pc', L', st', σ')))
    (kk : ∀ (H' : Heap) (locs' : List Loc) (ls' : Array Slot) (cells' slots' : Nat), St D cF fa B fm mi s σ' H' locs' ls' L' → cells' + σ.1.length = cells + σ'.1.length → slots' + nS σ = slots + nS σ' → W p l e R s m args below meth c H' locs' cells' slots' Q (F0 m pc' ls' (st'.map (cv fa B fm)))) : W p l e R s m args below meth c H locs cells slots Q (F0 m pc ls (st.map (cv fa B fm))) := by
  obtain ⟨hx, hb, hml, hown, hts, hrt, hlk, hin, hB, hfr, hlo⟩ := C
  simp only [stpI, nx] at h
  split at h <;> try cases h
  rename_i hl
  subst hl
  split at h <;> cases h
  rename_i x hx1
  exact lv_iload hx hb hd (S.2.2.2.2.2 _ _ hx1 (by simp)) (kk _ _ _ _ _ ⟨S.1, S.2.1, S.2.2⟩ rfl rfl)
theorem so_iload_n {len pc pc' : Nat} {L st L' st' : List Value} {σ σ' : aS} {k : Fin 4} (C : Cx D cF fa B fm sc p R s m args meth c mi) (S : St D cF fa B fm mi s σ H locs ls L) (hd : decode (mC mi) pc = .ok (.iload_n k, len)) (h : stpI sc mi (.iload_n k) len pc L st σ = some (.inl (pc', L', st', σ')))
    (kk : ∀ (H' : Heap) (locs' : List Loc) (ls' : Array Slot) (cells' slots' : Nat), St D cF fa B fm mi s σ' H' locs' ls' L' → cells' + σ.1.length = cells + σ'.1.length → slots' + nS σ = slots + nS σ' → W p l e R s m args below meth c H' locs' cells' slots' Q (F0 m pc' ls' (st'.map (cv fa B fm)))) : W p l e R s m args below meth c H locs cells slots Q (F0 m pc ls (st.map (cv fa B fm))) := by
  obtain ⟨hx, hb, hml, hown, hts, hrt, hlk, hin, hB, hfr, hlo⟩ := C
  simp only [stpI, nx] at h
  split at h <;> try cases h
  rename_i hl
  subst hl
  split at h <;> cases h
  rename_i x hx1
  exact lv_iload_n hx hb hd rfl (S.2.2.2.2.2 _ _ hx1 (by simp)) (kk _ _ _ _ _ ⟨S.1, S.2.1, S.2.2⟩ rfl rfl)
theorem so_lload {len pc pc' : Nat} {L st L' st' : List Value} {σ σ' : aS} {k : Nat} (C : Cx D cF fa B fm sc p R s m args meth c mi) (S : St D cF fa B fm mi s σ H locs ls L) (hd : decode (mC mi) pc = .ok (.lload k, len)) (h : stpI sc mi (.lload k) len pc L st σ = some (.inl (pc', L', st', σ')))
    (kk : ∀ (H' : Heap) (locs' : List Loc) (ls' : Array Slot) (cells' slots' : Nat), St D cF fa B fm mi s σ' H' locs' ls' L' → cells' + σ.1.length = cells + σ'.1.length → slots' + nS σ = slots + nS σ' → W p l e R s m args below meth c H' locs' cells' slots' Q (F0 m pc' ls' (st'.map (cv fa B fm)))) : W p l e R s m args below meth c H locs cells slots Q (F0 m pc ls (st.map (cv fa B fm))) := by
  obtain ⟨hx, hb, hml, hown, hts, hrt, hlk, hin, hB, hfr, hlo⟩ := C
  simp only [stpI, nx] at h
  split at h <;> try cases h
  rename_i hl
  subst hl
  split at h <;> cases h
  rename_i x hx1
  exact lv_lload hx hb hd (S.2.2.2.2.2 _ _ hx1 (by simp)) (kk _ _ _ _ _ ⟨S.1, S.2.1, S.2.2⟩ rfl rfl)
theorem so_lload_n {len pc pc' : Nat} {L st L' st' : List Value} {σ σ' : aS} {k : Fin 4} (C : Cx D cF fa B fm sc p R s m args meth c mi) (S : St D cF fa B fm mi s σ H locs ls L) (hd : decode (mC mi) pc = .ok (.lload_n k, len)) (h : stpI sc mi (.lload_n k) len pc L st σ = some (.inl (pc', L', st', σ')))
    (kk : ∀ (H' : Heap) (locs' : List Loc) (ls' : Array Slot) (cells' slots' : Nat), St D cF fa B fm mi s σ' H' locs' ls' L' → cells' + σ.1.length = cells + σ'.1.length → slots' + nS σ = slots + nS σ' → W p l e R s m args below meth c H' locs' cells' slots' Q (F0 m pc' ls' (st'.map (cv fa B fm)))) : W p l e R s m args below meth c H locs cells slots Q (F0 m pc ls (st.map (cv fa B fm))) := by
  obtain ⟨hx, hb, hml, hown, hts, hrt, hlk, hin, hB, hfr, hlo⟩ := C
  simp only [stpI, nx] at h
  split at h <;> try cases h
  rename_i hl
  subst hl
  split at h <;> cases h
  rename_i x hx1
  exact lv_lload_n hx hb hd rfl (S.2.2.2.2.2 _ _ hx1 (by simp)) (kk _ _ _ _ _ ⟨S.1, S.2.1, S.2.2⟩ rfl rfl)
theorem so_aload {len pc pc' : Nat} {L st L' st' : List Value} {σ σ' : aS} {k : Nat} (C : Cx D cF fa B fm sc p R s m args meth c mi) (S : St D cF fa B fm mi s σ H locs ls L) (hd : decode (mC mi) pc = .ok (.aload k, len)) (h : stpI sc mi (.aload k) len pc L st σ = some (.inl (pc', L', st', σ')))
    (kk : ∀ (H' : Heap) (locs' : List Loc) (ls' : Array Slot) (cells' slots' : Nat), St D cF fa B fm mi s σ' H' locs' ls' L' → cells' + σ.1.length = cells + σ'.1.length → slots' + nS σ = slots + nS σ' → W p l e R s m args below meth c H' locs' cells' slots' Q (F0 m pc' ls' (st'.map (cv fa B fm)))) : W p l e R s m args below meth c H locs cells slots Q (F0 m pc ls (st.map (cv fa B fm))) := by
  obtain ⟨hx, hb, hml, hown, hts, hrt, hlk, hin, hB, hfr, hlo⟩ := C
  simp only [stpI, nx] at h
  split at h <;> try cases h
  rename_i hl
  subst hl
  split at h <;> cases h
  rename_i x hx1
  exact lv_aload hx hb hd (S.2.2.2.2.2 _ _ hx1 (by simp)) (kk _ _ _ _ _ ⟨S.1, S.2.1, S.2.2⟩ rfl rfl)
theorem so_aload_n {len pc pc' : Nat} {L st L' st' : List Value} {σ σ' : aS} {k : Fin 4} (C : Cx D cF fa B fm sc p R s m args meth c mi) (S : St D cF fa B fm mi s σ H locs ls L) (hd : decode (mC mi) pc = .ok (.aload_n k, len)) (h : stpI sc mi (.aload_n k) len pc L st σ = some (.inl (pc', L', st', σ')))
    (kk : ∀ (H' : Heap) (locs' : List Loc) (ls' : Array Slot) (cells' slots' : Nat), St D cF fa B fm mi s σ' H' locs' ls' L' → cells' + σ.1.length = cells + σ'.1.length → slots' + nS σ = slots + nS σ' → W p l e R s m args below meth c H' locs' cells' slots' Q (F0 m pc' ls' (st'.map (cv fa B fm)))) : W p l e R s m args below meth c H locs cells slots Q (F0 m pc ls (st.map (cv fa B fm))) := by
  obtain ⟨hx, hb, hml, hown, hts, hrt, hlk, hin, hB, hfr, hlo⟩ := C
  simp only [stpI, nx] at h
  split at h <;> try cases h
  rename_i hl
  subst hl
  split at h <;> cases h
  rename_i x hx1
  exact lv_aload_n hx hb hd rfl (S.2.2.2.2.2 _ _ hx1 (by simp)) (kk _ _ _ _ _ ⟨S.1, S.2.1, S.2.2⟩ rfl rfl)
theorem so_istore {len pc pc' : Nat} {L st L' st' : List Value} {σ σ' : aS} {k : Nat} (C : Cx D cF fa B fm sc p R s m args meth c mi) (S : St D cF fa B fm mi s σ H locs ls L) (hd : decode (mC mi) pc = .ok (.istore k, len)) (h : stpI sc mi (.istore k) len pc L st σ = some (.inl (pc', L', st', σ')))
    (kk : ∀ (H' : Heap) (locs' : List Loc) (ls' : Array Slot) (cells' slots' : Nat), St D cF fa B fm mi s σ' H' locs' ls' L' → cells' + σ.1.length = cells + σ'.1.length → slots' + nS σ = slots + nS σ' → W p l e R s m args below meth c H' locs' cells' slots' Q (F0 m pc' ls' (st'.map (cv fa B fm)))) : W p l e R s m args below meth c H locs cells slots Q (F0 m pc ls (st.map (cv fa B fm))) := by
  obtain ⟨hx, hb, hml, hown, hts, hrt, hlk, hin, hB, hfr, hlo⟩ := C
  simp only [stpI, nx] at h
  split at h <;> try cases h
  rename_i hl
  obtain ⟨hl, hk, ho⟩ := hl
  subst hl
  split at h <;> cases h
  rename_i r x
  exact lv_istore hx hb hd (prs_has S.2.2) (by rw [← S.2.2.1]; exact hk) rfl (fun ls' q => kk _ _ _ _ _ ⟨S.1, S.2.1, RL_set1 hB.2.2.2.1 (x := .int x) hk ho S.2.2.1 q⟩ rfl rfl)
theorem so_istore_n {len pc pc' : Nat} {L st L' st' : List Value} {σ σ' : aS} {k : Fin 4} (C : Cx D cF fa B fm sc p R s m args meth c mi) (S : St D cF fa B fm mi s σ H locs ls L) (hd : decode (mC mi) pc = .ok (.istore_n k, len)) (h : stpI sc mi (.istore_n k) len pc L st σ = some (.inl (pc', L', st', σ')))
    (kk : ∀ (H' : Heap) (locs' : List Loc) (ls' : Array Slot) (cells' slots' : Nat), St D cF fa B fm mi s σ' H' locs' ls' L' → cells' + σ.1.length = cells + σ'.1.length → slots' + nS σ = slots + nS σ' → W p l e R s m args below meth c H' locs' cells' slots' Q (F0 m pc' ls' (st'.map (cv fa B fm)))) : W p l e R s m args below meth c H locs cells slots Q (F0 m pc ls (st.map (cv fa B fm))) := by
  obtain ⟨hx, hb, hml, hown, hts, hrt, hlk, hin, hB, hfr, hlo⟩ := C
  simp only [stpI, nx] at h
  split at h <;> try cases h
  rename_i hl
  obtain ⟨hl, hk, ho⟩ := hl
  subst hl
  split at h <;> cases h
  rename_i r x
  exact lv_istore_n hx hb hd rfl (prs_has S.2.2) (by rw [← S.2.2.1]; exact hk) rfl (fun ls' q => kk _ _ _ _ _ ⟨S.1, S.2.1, RL_set1 hB.2.2.2.1 (x := .int x) hk ho S.2.2.1 q⟩ rfl rfl)
theorem so_astore {len pc pc' : Nat} {L st L' st' : List Value} {σ σ' : aS} {k : Nat} (C : Cx D cF fa B fm sc p R s m args meth c mi) (S : St D cF fa B fm mi s σ H locs ls L) (hd : decode (mC mi) pc = .ok (.astore k, len)) (h : stpI sc mi (.astore k) len pc L st σ = some (.inl (pc', L', st', σ')))
    (kk : ∀ (H' : Heap) (locs' : List Loc) (ls' : Array Slot) (cells' slots' : Nat), St D cF fa B fm mi s σ' H' locs' ls' L' → cells' + σ.1.length = cells + σ'.1.length → slots' + nS σ = slots + nS σ' → W p l e R s m args below meth c H' locs' cells' slots' Q (F0 m pc' ls' (st'.map (cv fa B fm)))) : W p l e R s m args below meth c H locs cells slots Q (F0 m pc ls (st.map (cv fa B fm))) := by
  obtain ⟨hx, hb, hml, hown, hts, hrt, hlk, hin, hB, hfr, hlo⟩ := C
  simp only [stpI, nx] at h
  split at h <;> try cases h
  rename_i hl
  obtain ⟨hl, hk, ho⟩ := hl
  subst hl
  split at h <;> cases h
  rename_i r x
  exact lv_astore hx hb hd (prs_has S.2.2) (by rw [← S.2.2.1]; exact hk) rfl (fun ls' q => kk _ _ _ _ _ ⟨S.1, S.2.1, RL_set1 hB.2.2.2.1 (x := .ref x) hk ho S.2.2.1 q⟩ rfl rfl)
theorem so_astore_n {len pc pc' : Nat} {L st L' st' : List Value} {σ σ' : aS} {k : Fin 4} (C : Cx D cF fa B fm sc p R s m args meth c mi) (S : St D cF fa B fm mi s σ H locs ls L) (hd : decode (mC mi) pc = .ok (.astore_n k, len)) (h : stpI sc mi (.astore_n k) len pc L st σ = some (.inl (pc', L', st', σ')))
    (kk : ∀ (H' : Heap) (locs' : List Loc) (ls' : Array Slot) (cells' slots' : Nat), St D cF fa B fm mi s σ' H' locs' ls' L' → cells' + σ.1.length = cells + σ'.1.length → slots' + nS σ = slots + nS σ' → W p l e R s m args below meth c H' locs' cells' slots' Q (F0 m pc' ls' (st'.map (cv fa B fm)))) : W p l e R s m args below meth c H locs cells slots Q (F0 m pc ls (st.map (cv fa B fm))) := by
  obtain ⟨hx, hb, hml, hown, hts, hrt, hlk, hin, hB, hfr, hlo⟩ := C
  simp only [stpI, nx] at h
  split at h <;> try cases h
  rename_i hl
  obtain ⟨hl, hk, ho⟩ := hl
  subst hl
  split at h <;> cases h
  rename_i r x
  exact lv_astore_n hx hb hd rfl (prs_has S.2.2) (by rw [← S.2.2.1]; exact hk) rfl (fun ls' q => kk _ _ _ _ _ ⟨S.1, S.2.1, RL_set1 hB.2.2.2.1 (x := .ref x) hk ho S.2.2.1 q⟩ rfl rfl)
theorem so_lstore {len pc pc' : Nat} {L st L' st' : List Value} {σ σ' : aS} {k : Nat} (C : Cx D cF fa B fm sc p R s m args meth c mi) (S : St D cF fa B fm mi s σ H locs ls L) (hd : decode (mC mi) pc = .ok (.lstore k, len)) (h : stpI sc mi (.lstore k) len pc L st σ = some (.inl (pc', L', st', σ')))
    (kk : ∀ (H' : Heap) (locs' : List Loc) (ls' : Array Slot) (cells' slots' : Nat), St D cF fa B fm mi s σ' H' locs' ls' L' → cells' + σ.1.length = cells + σ'.1.length → slots' + nS σ = slots + nS σ' → W p l e R s m args below meth c H' locs' cells' slots' Q (F0 m pc' ls' (st'.map (cv fa B fm)))) : W p l e R s m args below meth c H locs cells slots Q (F0 m pc ls (st.map (cv fa B fm))) := by
  obtain ⟨hx, hb, hml, hown, hts, hrt, hlk, hin, hB, hfr, hlo⟩ := C
  simp only [stpI, nx] at h
  split at h <;> try cases h
  rename_i hl
  obtain ⟨hl, hk, ho⟩ := hl
  subst hl
  split at h <;> cases h
  rename_i r x
  exact lv_lstore hx hb hd (prs_has S.2.2) (by rw [← S.2.2.1]; exact hk) rfl (fun ls' q => kk _ _ _ _ _ ⟨S.1, S.2.1, RL_set2 hB.2.2.2.1 (x := .long x) hk ho S.2.2.1 q⟩ rfl rfl)
theorem so_lstore_n {len pc pc' : Nat} {L st L' st' : List Value} {σ σ' : aS} {k : Fin 4} (C : Cx D cF fa B fm sc p R s m args meth c mi) (S : St D cF fa B fm mi s σ H locs ls L) (hd : decode (mC mi) pc = .ok (.lstore_n k, len)) (h : stpI sc mi (.lstore_n k) len pc L st σ = some (.inl (pc', L', st', σ')))
    (kk : ∀ (H' : Heap) (locs' : List Loc) (ls' : Array Slot) (cells' slots' : Nat), St D cF fa B fm mi s σ' H' locs' ls' L' → cells' + σ.1.length = cells + σ'.1.length → slots' + nS σ = slots + nS σ' → W p l e R s m args below meth c H' locs' cells' slots' Q (F0 m pc' ls' (st'.map (cv fa B fm)))) : W p l e R s m args below meth c H locs cells slots Q (F0 m pc ls (st.map (cv fa B fm))) := by
  obtain ⟨hx, hb, hml, hown, hts, hrt, hlk, hin, hB, hfr, hlo⟩ := C
  simp only [stpI, nx] at h
  split at h <;> try cases h
  rename_i hl
  obtain ⟨hl, hk, ho⟩ := hl
  subst hl
  split at h <;> cases h
  rename_i r x
  exact lv_lstore_n hx hb hd rfl (prs_has S.2.2) (by rw [← S.2.2.1]; exact hk) rfl (fun ls' q => kk _ _ _ _ _ ⟨S.1, S.2.1, RL_set2 hB.2.2.2.1 (x := .long x) hk ho S.2.2.1 q⟩ rfl rfl)
theorem so_iinc {len pc pc' : Nat} {L st L' st' : List Value} {σ σ' : aS} {k : Nat} {n : Int} (C : Cx D cF fa B fm sc p R s m args meth c mi) (S : St D cF fa B fm mi s σ H locs ls L) (hd : decode (mC mi) pc = .ok (.iinc k n, len)) (h : stpI sc mi (.iinc k n) len pc L st σ = some (.inl (pc', L', st', σ')))
    (kk : ∀ (H' : Heap) (locs' : List Loc) (ls' : Array Slot) (cells' slots' : Nat), St D cF fa B fm mi s σ' H' locs' ls' L' → cells' + σ.1.length = cells + σ'.1.length → slots' + nS σ = slots + nS σ' → W p l e R s m args below meth c H' locs' cells' slots' Q (F0 m pc' ls' (st'.map (cv fa B fm)))) : W p l e R s m args below meth c H locs cells slots Q (F0 m pc ls (st.map (cv fa B fm))) := by
  obtain ⟨hx, hb, hml, hown, hts, hrt, hlk, hin, hB, hfr, hlo⟩ := C
  simp only [stpI, nx] at h
  split at h <;> try cases h
  rename_i hl
  obtain ⟨hl, hk, ho⟩ := hl
  subst hl
  split at h <;> cases h
  rename_i x hx1
  have hm : (k, Value.int x) ∈ prs fa B fm L := prs_mem.mpr ⟨.int x, hx1, by simp, rfl⟩
  obtain ⟨j, hj⟩ := List.getElem?_of_mem hm
  exact lv_iinc hx hb hd (prs_has S.2.2) hj rfl (by rw [← S.2.2.1]; exact hk) rfl (fun ls' q => kk _ _ _ _ _ ⟨S.1, S.2.1, RL_set1 hB.2.2.2.1 (x := .int (x + Int32.ofInt n)) hk ho S.2.2.1 q⟩ rfl rfl)
theorem so_dup {len pc pc' : Nat} {L st L' st' : List Value} {σ σ' : aS} (C : Cx D cF fa B fm sc p R s m args meth c mi) (S : St D cF fa B fm mi s σ H locs ls L) (hd : decode (mC mi) pc = .ok (.dup, len)) (h : stpI sc mi (.dup) len pc L st σ = some (.inl (pc', L', st', σ')))
    (kk : ∀ (H' : Heap) (locs' : List Loc) (ls' : Array Slot) (cells' slots' : Nat), St D cF fa B fm mi s σ' H' locs' ls' L' → cells' + σ.1.length = cells + σ'.1.length → slots' + nS σ = slots + nS σ' → W p l e R s m args below meth c H' locs' cells' slots' Q (F0 m pc' ls' (st'.map (cv fa B fm)))) : W p l e R s m args below meth c H locs cells slots Q (F0 m pc ls (st.map (cv fa B fm))) := by
  obtain ⟨hx, hb, hml, hown, hts, hrt, hlk, hin, hB, hfr, hlo⟩ := C
  simp only [stpI, nx] at h
  split at h <;> try cases h
  rename_i hl
  subst hl
  split at h <;> try cases h
  rename_i v r
  split at h <;> cases h
  rename_i hc
  exact lv_dup hx hb hd (by rw [cat_cv hB.2.2.2.1]; exact hc) (kk _ _ _ _ _ ⟨S.1, S.2.1, S.2.2⟩ rfl rfl)
theorem so_pop {len pc pc' : Nat} {L st L' st' : List Value} {σ σ' : aS} (C : Cx D cF fa B fm sc p R s m args meth c mi) (S : St D cF fa B fm mi s σ H locs ls L) (hd : decode (mC mi) pc = .ok (.pop, len)) (h : stpI sc mi (.pop) len pc L st σ = some (.inl (pc', L', st', σ')))
    (kk : ∀ (H' : Heap) (locs' : List Loc) (ls' : Array Slot) (cells' slots' : Nat), St D cF fa B fm mi s σ' H' locs' ls' L' → cells' + σ.1.length = cells + σ'.1.length → slots' + nS σ = slots + nS σ' → W p l e R s m args below meth c H' locs' cells' slots' Q (F0 m pc' ls' (st'.map (cv fa B fm)))) : W p l e R s m args below meth c H locs cells slots Q (F0 m pc ls (st.map (cv fa B fm))) := by
  obtain ⟨hx, hb, hml, hown, hts, hrt, hlk, hin, hB, hfr, hlo⟩ := C
  simp only [stpI, nx] at h
  split at h <;> try cases h
  rename_i hl
  subst hl
  split at h <;> try cases h
  rename_i v r
  split at h <;> cases h
  rename_i hc
  exact lv_pop hx hb hd (by rw [cat_cv hB.2.2.2.1]; exact hc) (kk _ _ _ _ _ ⟨S.1, S.2.1, S.2.2⟩ rfl rfl)
theorem so_iadd {len pc pc' : Nat} {L st L' st' : List Value} {σ σ' : aS} (C : Cx D cF fa B fm sc p R s m args meth c mi) (S : St D cF fa B fm mi s σ H locs ls L) (hd : decode (mC mi) pc = .ok (.iadd, len)) (h : stpI sc mi (.iadd) len pc L st σ = some (.inl (pc', L', st', σ')))
    (kk : ∀ (H' : Heap) (locs' : List Loc) (ls' : Array Slot) (cells' slots' : Nat), St D cF fa B fm mi s σ' H' locs' ls' L' → cells' + σ.1.length = cells + σ'.1.length → slots' + nS σ = slots + nS σ' → W p l e R s m args below meth c H' locs' cells' slots' Q (F0 m pc' ls' (st'.map (cv fa B fm)))) : W p l e R s m args below meth c H locs cells slots Q (F0 m pc ls (st.map (cv fa B fm))) := by
  obtain ⟨hx, hb, hml, hown, hts, hrt, hlk, hin, hB, hfr, hlo⟩ := C
  simp only [stpI, nx] at h
  split at h <;> try cases h
  rename_i hl
  subst hl
  split at h <;> cases h
  exact lv_iadd hx hb hd (kk _ _ _ _ _ ⟨S.1, S.2.1, S.2.2⟩ rfl rfl)
theorem so_isub {len pc pc' : Nat} {L st L' st' : List Value} {σ σ' : aS} (C : Cx D cF fa B fm sc p R s m args meth c mi) (S : St D cF fa B fm mi s σ H locs ls L) (hd : decode (mC mi) pc = .ok (.isub, len)) (h : stpI sc mi (.isub) len pc L st σ = some (.inl (pc', L', st', σ')))
    (kk : ∀ (H' : Heap) (locs' : List Loc) (ls' : Array Slot) (cells' slots' : Nat), St D cF fa B fm mi s σ' H' locs' ls' L' → cells' + σ.1.length = cells + σ'.1.length → slots' + nS σ = slots + nS σ' → W p l e R s m args below meth c H' locs' cells' slots' Q (F0 m pc' ls' (st'.map (cv fa B fm)))) : W p l e R s m args below meth c H locs cells slots Q (F0 m pc ls (st.map (cv fa B fm))) := by
  obtain ⟨hx, hb, hml, hown, hts, hrt, hlk, hin, hB, hfr, hlo⟩ := C
  simp only [stpI, nx] at h
  split at h <;> try cases h
  rename_i hl
  subst hl
  split at h <;> cases h
  exact lv_isub hx hb hd (kk _ _ _ _ _ ⟨S.1, S.2.1, S.2.2⟩ rfl rfl)
theorem so_imul {len pc pc' : Nat} {L st L' st' : List Value} {σ σ' : aS} (C : Cx D cF fa B fm sc p R s m args meth c mi) (S : St D cF fa B fm mi s σ H locs ls L) (hd : decode (mC mi) pc = .ok (.imul, len)) (h : stpI sc mi (.imul) len pc L st σ = some (.inl (pc', L', st', σ')))
    (kk : ∀ (H' : Heap) (locs' : List Loc) (ls' : Array Slot) (cells' slots' : Nat), St D cF fa B fm mi s σ' H' locs' ls' L' → cells' + σ.1.length = cells + σ'.1.length → slots' + nS σ = slots + nS σ' → W p l e R s m args below meth c H' locs' cells' slots' Q (F0 m pc' ls' (st'.map (cv fa B fm)))) : W p l e R s m args below meth c H locs cells slots Q (F0 m pc ls (st.map (cv fa B fm))) := by
  obtain ⟨hx, hb, hml, hown, hts, hrt, hlk, hin, hB, hfr, hlo⟩ := C
  simp only [stpI, nx] at h
  split at h <;> try cases h
  rename_i hl
  subst hl
  split at h <;> cases h
  exact lv_imul hx hb hd (kk _ _ _ _ _ ⟨S.1, S.2.1, S.2.2⟩ rfl rfl)
theorem so_iand {len pc pc' : Nat} {L st L' st' : List Value} {σ σ' : aS} (C : Cx D cF fa B fm sc p R s m args meth c mi) (S : St D cF fa B fm mi s σ H locs ls L) (hd : decode (mC mi) pc = .ok (.iand, len)) (h : stpI sc mi (.iand) len pc L st σ = some (.inl (pc', L', st', σ')))
    (kk : ∀ (H' : Heap) (locs' : List Loc) (ls' : Array Slot) (cells' slots' : Nat), St D cF fa B fm mi s σ' H' locs' ls' L' → cells' + σ.1.length = cells + σ'.1.length → slots' + nS σ = slots + nS σ' → W p l e R s m args below meth c H' locs' cells' slots' Q (F0 m pc' ls' (st'.map (cv fa B fm)))) : W p l e R s m args below meth c H locs cells slots Q (F0 m pc ls (st.map (cv fa B fm))) := by
  obtain ⟨hx, hb, hml, hown, hts, hrt, hlk, hin, hB, hfr, hlo⟩ := C
  simp only [stpI, nx] at h
  split at h <;> try cases h
  rename_i hl
  subst hl
  split at h <;> cases h
  exact lv_iand hx hb hd (kk _ _ _ _ _ ⟨S.1, S.2.1, S.2.2⟩ rfl rfl)
theorem so_ior {len pc pc' : Nat} {L st L' st' : List Value} {σ σ' : aS} (C : Cx D cF fa B fm sc p R s m args meth c mi) (S : St D cF fa B fm mi s σ H locs ls L) (hd : decode (mC mi) pc = .ok (.ior, len)) (h : stpI sc mi (.ior) len pc L st σ = some (.inl (pc', L', st', σ')))
    (kk : ∀ (H' : Heap) (locs' : List Loc) (ls' : Array Slot) (cells' slots' : Nat), St D cF fa B fm mi s σ' H' locs' ls' L' → cells' + σ.1.length = cells + σ'.1.length → slots' + nS σ = slots + nS σ' → W p l e R s m args below meth c H' locs' cells' slots' Q (F0 m pc' ls' (st'.map (cv fa B fm)))) : W p l e R s m args below meth c H locs cells slots Q (F0 m pc ls (st.map (cv fa B fm))) := by
  obtain ⟨hx, hb, hml, hown, hts, hrt, hlk, hin, hB, hfr, hlo⟩ := C
  simp only [stpI, nx] at h
  split at h <;> try cases h
  rename_i hl
  subst hl
  split at h <;> cases h
  exact lv_ior hx hb hd (kk _ _ _ _ _ ⟨S.1, S.2.1, S.2.2⟩ rfl rfl)
theorem so_ixor {len pc pc' : Nat} {L st L' st' : List Value} {σ σ' : aS} (C : Cx D cF fa B fm sc p R s m args meth c mi) (S : St D cF fa B fm mi s σ H locs ls L) (hd : decode (mC mi) pc = .ok (.ixor, len)) (h : stpI sc mi (.ixor) len pc L st σ = some (.inl (pc', L', st', σ')))
    (kk : ∀ (H' : Heap) (locs' : List Loc) (ls' : Array Slot) (cells' slots' : Nat), St D cF fa B fm mi s σ' H' locs' ls' L' → cells' + σ.1.length = cells + σ'.1.length → slots' + nS σ = slots + nS σ' → W p l e R s m args below meth c H' locs' cells' slots' Q (F0 m pc' ls' (st'.map (cv fa B fm)))) : W p l e R s m args below meth c H locs cells slots Q (F0 m pc ls (st.map (cv fa B fm))) := by
  obtain ⟨hx, hb, hml, hown, hts, hrt, hlk, hin, hB, hfr, hlo⟩ := C
  simp only [stpI, nx] at h
  split at h <;> try cases h
  rename_i hl
  subst hl
  split at h <;> cases h
  exact lv_ixor hx hb hd (kk _ _ _ _ _ ⟨S.1, S.2.1, S.2.2⟩ rfl rfl)
theorem so_ishl {len pc pc' : Nat} {L st L' st' : List Value} {σ σ' : aS} (C : Cx D cF fa B fm sc p R s m args meth c mi) (S : St D cF fa B fm mi s σ H locs ls L) (hd : decode (mC mi) pc = .ok (.ishl, len)) (h : stpI sc mi (.ishl) len pc L st σ = some (.inl (pc', L', st', σ')))
    (kk : ∀ (H' : Heap) (locs' : List Loc) (ls' : Array Slot) (cells' slots' : Nat), St D cF fa B fm mi s σ' H' locs' ls' L' → cells' + σ.1.length = cells + σ'.1.length → slots' + nS σ = slots + nS σ' → W p l e R s m args below meth c H' locs' cells' slots' Q (F0 m pc' ls' (st'.map (cv fa B fm)))) : W p l e R s m args below meth c H locs cells slots Q (F0 m pc ls (st.map (cv fa B fm))) := by
  obtain ⟨hx, hb, hml, hown, hts, hrt, hlk, hin, hB, hfr, hlo⟩ := C
  simp only [stpI, nx] at h
  split at h <;> try cases h
  rename_i hl
  subst hl
  split at h <;> cases h
  exact lv_ishl hx hb hd (kk _ _ _ _ _ ⟨S.1, S.2.1, S.2.2⟩ rfl rfl)
theorem so_ishr {len pc pc' : Nat} {L st L' st' : List Value} {σ σ' : aS} (C : Cx D cF fa B fm sc p R s m args meth c mi) (S : St D cF fa B fm mi s σ H locs ls L) (hd : decode (mC mi) pc = .ok (.ishr, len)) (h : stpI sc mi (.ishr) len pc L st σ = some (.inl (pc', L', st', σ')))
    (kk : ∀ (H' : Heap) (locs' : List Loc) (ls' : Array Slot) (cells' slots' : Nat), St D cF fa B fm mi s σ' H' locs' ls' L' → cells' + σ.1.length = cells + σ'.1.length → slots' + nS σ = slots + nS σ' → W p l e R s m args below meth c H' locs' cells' slots' Q (F0 m pc' ls' (st'.map (cv fa B fm)))) : W p l e R s m args below meth c H locs cells slots Q (F0 m pc ls (st.map (cv fa B fm))) := by
  obtain ⟨hx, hb, hml, hown, hts, hrt, hlk, hin, hB, hfr, hlo⟩ := C
  simp only [stpI, nx] at h
  split at h <;> try cases h
  rename_i hl
  subst hl
  split at h <;> cases h
  exact lv_ishr hx hb hd (kk _ _ _ _ _ ⟨S.1, S.2.1, S.2.2⟩ rfl rfl)
theorem so_land {len pc pc' : Nat} {L st L' st' : List Value} {σ σ' : aS} (C : Cx D cF fa B fm sc p R s m args meth c mi) (S : St D cF fa B fm mi s σ H locs ls L) (hd : decode (mC mi) pc = .ok (.land, len)) (h : stpI sc mi (.land) len pc L st σ = some (.inl (pc', L', st', σ')))
    (kk : ∀ (H' : Heap) (locs' : List Loc) (ls' : Array Slot) (cells' slots' : Nat), St D cF fa B fm mi s σ' H' locs' ls' L' → cells' + σ.1.length = cells + σ'.1.length → slots' + nS σ = slots + nS σ' → W p l e R s m args below meth c H' locs' cells' slots' Q (F0 m pc' ls' (st'.map (cv fa B fm)))) : W p l e R s m args below meth c H locs cells slots Q (F0 m pc ls (st.map (cv fa B fm))) := by
  obtain ⟨hx, hb, hml, hown, hts, hrt, hlk, hin, hB, hfr, hlo⟩ := C
  simp only [stpI, nx] at h
  split at h <;> try cases h
  rename_i hl
  subst hl
  split at h <;> cases h
  exact lv_land hx hb hd (kk _ _ _ _ _ ⟨S.1, S.2.1, S.2.2⟩ rfl rfl)
theorem so_lor {len pc pc' : Nat} {L st L' st' : List Value} {σ σ' : aS} (C : Cx D cF fa B fm sc p R s m args meth c mi) (S : St D cF fa B fm mi s σ H locs ls L) (hd : decode (mC mi) pc = .ok (.lor, len)) (h : stpI sc mi (.lor) len pc L st σ = some (.inl (pc', L', st', σ')))
    (kk : ∀ (H' : Heap) (locs' : List Loc) (ls' : Array Slot) (cells' slots' : Nat), St D cF fa B fm mi s σ' H' locs' ls' L' → cells' + σ.1.length = cells + σ'.1.length → slots' + nS σ = slots + nS σ' → W p l e R s m args below meth c H' locs' cells' slots' Q (F0 m pc' ls' (st'.map (cv fa B fm)))) : W p l e R s m args below meth c H locs cells slots Q (F0 m pc ls (st.map (cv fa B fm))) := by
  obtain ⟨hx, hb, hml, hown, hts, hrt, hlk, hin, hB, hfr, hlo⟩ := C
  simp only [stpI, nx] at h
  split at h <;> try cases h
  rename_i hl
  subst hl
  split at h <;> cases h
  exact lv_lor hx hb hd (kk _ _ _ _ _ ⟨S.1, S.2.1, S.2.2⟩ rfl rfl)
theorem so_lxor {len pc pc' : Nat} {L st L' st' : List Value} {σ σ' : aS} (C : Cx D cF fa B fm sc p R s m args meth c mi) (S : St D cF fa B fm mi s σ H locs ls L) (hd : decode (mC mi) pc = .ok (.lxor, len)) (h : stpI sc mi (.lxor) len pc L st σ = some (.inl (pc', L', st', σ')))
    (kk : ∀ (H' : Heap) (locs' : List Loc) (ls' : Array Slot) (cells' slots' : Nat), St D cF fa B fm mi s σ' H' locs' ls' L' → cells' + σ.1.length = cells + σ'.1.length → slots' + nS σ = slots + nS σ' → W p l e R s m args below meth c H' locs' cells' slots' Q (F0 m pc' ls' (st'.map (cv fa B fm)))) : W p l e R s m args below meth c H locs cells slots Q (F0 m pc ls (st.map (cv fa B fm))) := by
  obtain ⟨hx, hb, hml, hown, hts, hrt, hlk, hin, hB, hfr, hlo⟩ := C
  simp only [stpI, nx] at h
  split at h <;> try cases h
  rename_i hl
  subst hl
  split at h <;> cases h
  exact lv_lxor hx hb hd (kk _ _ _ _ _ ⟨S.1, S.2.1, S.2.2⟩ rfl rfl)
theorem so_lcmp {len pc pc' : Nat} {L st L' st' : List Value} {σ σ' : aS} (C : Cx D cF fa B fm sc p R s m args meth c mi) (S : St D cF fa B fm mi s σ H locs ls L) (hd : decode (mC mi) pc = .ok (.lcmp, len)) (h : stpI sc mi (.lcmp) len pc L st σ = some (.inl (pc', L', st', σ')))
    (kk : ∀ (H' : Heap) (locs' : List Loc) (ls' : Array Slot) (cells' slots' : Nat), St D cF fa B fm mi s σ' H' locs' ls' L' → cells' + σ.1.length = cells + σ'.1.length → slots' + nS σ = slots + nS σ' → W p l e R s m args below meth c H' locs' cells' slots' Q (F0 m pc' ls' (st'.map (cv fa B fm)))) : W p l e R s m args below meth c H locs cells slots Q (F0 m pc ls (st.map (cv fa B fm))) := by
  obtain ⟨hx, hb, hml, hown, hts, hrt, hlk, hin, hB, hfr, hlo⟩ := C
  simp only [stpI, nx] at h
  split at h <;> try cases h
  rename_i hl
  subst hl
  split at h <;> cases h
  exact W.lcmp hx hb hd (kk _ _ _ _ _ ⟨S.1, S.2.1, S.2.2⟩ rfl rfl)
theorem so_iushr {len pc pc' : Nat} {L st L' st' : List Value} {σ σ' : aS} (C : Cx D cF fa B fm sc p R s m args meth c mi) (S : St D cF fa B fm mi s σ H locs ls L) (hd : decode (mC mi) pc = .ok (.iushr, len)) (h : stpI sc mi (.iushr) len pc L st σ = some (.inl (pc', L', st', σ')))
    (kk : ∀ (H' : Heap) (locs' : List Loc) (ls' : Array Slot) (cells' slots' : Nat), St D cF fa B fm mi s σ' H' locs' ls' L' → cells' + σ.1.length = cells + σ'.1.length → slots' + nS σ = slots + nS σ' → W p l e R s m args below meth c H' locs' cells' slots' Q (F0 m pc' ls' (st'.map (cv fa B fm)))) : W p l e R s m args below meth c H locs cells slots Q (F0 m pc ls (st.map (cv fa B fm))) := by
  obtain ⟨hx, hb, hml, hown, hts, hrt, hlk, hin, hB, hfr, hlo⟩ := C
  simp only [stpI, nx] at h
  split at h <;> try cases h
  rename_i hl
  subst hl
  split at h <;> cases h
  exact lv_iushr hx hb hd rfl (kk _ _ _ _ _ ⟨S.1, S.2.1, S.2.2⟩ rfl rfl)
theorem so_lshl {len pc pc' : Nat} {L st L' st' : List Value} {σ σ' : aS} (C : Cx D cF fa B fm sc p R s m args meth c mi) (S : St D cF fa B fm mi s σ H locs ls L) (hd : decode (mC mi) pc = .ok (.lshl, len)) (h : stpI sc mi (.lshl) len pc L st σ = some (.inl (pc', L', st', σ')))
    (kk : ∀ (H' : Heap) (locs' : List Loc) (ls' : Array Slot) (cells' slots' : Nat), St D cF fa B fm mi s σ' H' locs' ls' L' → cells' + σ.1.length = cells + σ'.1.length → slots' + nS σ = slots + nS σ' → W p l e R s m args below meth c H' locs' cells' slots' Q (F0 m pc' ls' (st'.map (cv fa B fm)))) : W p l e R s m args below meth c H locs cells slots Q (F0 m pc ls (st.map (cv fa B fm))) := by
  obtain ⟨hx, hb, hml, hown, hts, hrt, hlk, hin, hB, hfr, hlo⟩ := C
  simp only [stpI, nx] at h
  split at h <;> try cases h
  rename_i hl
  subst hl
  split at h <;> cases h
  exact lv_lshl hx hb hd rfl (kk _ _ _ _ _ ⟨S.1, S.2.1, S.2.2⟩ rfl rfl)
theorem so_lushr {len pc pc' : Nat} {L st L' st' : List Value} {σ σ' : aS} (C : Cx D cF fa B fm sc p R s m args meth c mi) (S : St D cF fa B fm mi s σ H locs ls L) (hd : decode (mC mi) pc = .ok (.lushr, len)) (h : stpI sc mi (.lushr) len pc L st σ = some (.inl (pc', L', st', σ')))
    (kk : ∀ (H' : Heap) (locs' : List Loc) (ls' : Array Slot) (cells' slots' : Nat), St D cF fa B fm mi s σ' H' locs' ls' L' → cells' + σ.1.length = cells + σ'.1.length → slots' + nS σ = slots + nS σ' → W p l e R s m args below meth c H' locs' cells' slots' Q (F0 m pc' ls' (st'.map (cv fa B fm)))) : W p l e R s m args below meth c H locs cells slots Q (F0 m pc ls (st.map (cv fa B fm))) := by
  obtain ⟨hx, hb, hml, hown, hts, hrt, hlk, hin, hB, hfr, hlo⟩ := C
  simp only [stpI, nx] at h
  split at h <;> try cases h
  rename_i hl
  subst hl
  split at h <;> cases h
  exact lv_lushr hx hb hd rfl (kk _ _ _ _ _ ⟨S.1, S.2.1, S.2.2⟩ rfl rfl)
theorem so_i2l {len pc pc' : Nat} {L st L' st' : List Value} {σ σ' : aS} (C : Cx D cF fa B fm sc p R s m args meth c mi) (S : St D cF fa B fm mi s σ H locs ls L) (hd : decode (mC mi) pc = .ok (.i2l, len)) (h : stpI sc mi (.i2l) len pc L st σ = some (.inl (pc', L', st', σ')))
    (kk : ∀ (H' : Heap) (locs' : List Loc) (ls' : Array Slot) (cells' slots' : Nat), St D cF fa B fm mi s σ' H' locs' ls' L' → cells' + σ.1.length = cells + σ'.1.length → slots' + nS σ = slots + nS σ' → W p l e R s m args below meth c H' locs' cells' slots' Q (F0 m pc' ls' (st'.map (cv fa B fm)))) : W p l e R s m args below meth c H locs cells slots Q (F0 m pc ls (st.map (cv fa B fm))) := by
  obtain ⟨hx, hb, hml, hown, hts, hrt, hlk, hin, hB, hfr, hlo⟩ := C
  simp only [stpI, nx] at h
  split at h <;> try cases h
  rename_i hl
  subst hl
  split at h <;> cases h
  exact lv_i2l hx hb hd rfl (kk _ _ _ _ _ ⟨S.1, S.2.1, S.2.2⟩ rfl rfl)
theorem so_l2i {len pc pc' : Nat} {L st L' st' : List Value} {σ σ' : aS} (C : Cx D cF fa B fm sc p R s m args meth c mi) (S : St D cF fa B fm mi s σ H locs ls L) (hd : decode (mC mi) pc = .ok (.l2i, len)) (h : stpI sc mi (.l2i) len pc L st σ = some (.inl (pc', L', st', σ')))
    (kk : ∀ (H' : Heap) (locs' : List Loc) (ls' : Array Slot) (cells' slots' : Nat), St D cF fa B fm mi s σ' H' locs' ls' L' → cells' + σ.1.length = cells + σ'.1.length → slots' + nS σ = slots + nS σ' → W p l e R s m args below meth c H' locs' cells' slots' Q (F0 m pc' ls' (st'.map (cv fa B fm)))) : W p l e R s m args below meth c H locs cells slots Q (F0 m pc ls (st.map (cv fa B fm))) := by
  obtain ⟨hx, hb, hml, hown, hts, hrt, hlk, hin, hB, hfr, hlo⟩ := C
  simp only [stpI, nx] at h
  split at h <;> try cases h
  rename_i hl
  subst hl
  split at h <;> cases h
  exact lv_l2i hx hb hd rfl (kk _ _ _ _ _ ⟨S.1, S.2.1, S.2.2⟩ rfl rfl)
theorem so_i2b {len pc pc' : Nat} {L st L' st' : List Value} {σ σ' : aS} (C : Cx D cF fa B fm sc p R s m args meth c mi) (S : St D cF fa B fm mi s σ H locs ls L) (hd : decode (mC mi) pc = .ok (.i2b, len)) (h : stpI sc mi (.i2b) len pc L st σ = some (.inl (pc', L', st', σ')))
    (kk : ∀ (H' : Heap) (locs' : List Loc) (ls' : Array Slot) (cells' slots' : Nat), St D cF fa B fm mi s σ' H' locs' ls' L' → cells' + σ.1.length = cells + σ'.1.length → slots' + nS σ = slots + nS σ' → W p l e R s m args below meth c H' locs' cells' slots' Q (F0 m pc' ls' (st'.map (cv fa B fm)))) : W p l e R s m args below meth c H locs cells slots Q (F0 m pc ls (st.map (cv fa B fm))) := by
  obtain ⟨hx, hb, hml, hown, hts, hrt, hlk, hin, hB, hfr, hlo⟩ := C
  simp only [stpI, nx] at h
  split at h <;> try cases h
  rename_i hl
  subst hl
  split at h <;> cases h
  exact lv_i2b hx hb hd rfl (kk _ _ _ _ _ ⟨S.1, S.2.1, S.2.2⟩ rfl rfl)
theorem so_i2s {len pc pc' : Nat} {L st L' st' : List Value} {σ σ' : aS} (C : Cx D cF fa B fm sc p R s m args meth c mi) (S : St D cF fa B fm mi s σ H locs ls L) (hd : decode (mC mi) pc = .ok (.i2s, len)) (h : stpI sc mi (.i2s) len pc L st σ = some (.inl (pc', L', st', σ')))
    (kk : ∀ (H' : Heap) (locs' : List Loc) (ls' : Array Slot) (cells' slots' : Nat), St D cF fa B fm mi s σ' H' locs' ls' L' → cells' + σ.1.length = cells + σ'.1.length → slots' + nS σ = slots + nS σ' → W p l e R s m args below meth c H' locs' cells' slots' Q (F0 m pc' ls' (st'.map (cv fa B fm)))) : W p l e R s m args below meth c H locs cells slots Q (F0 m pc ls (st.map (cv fa B fm))) := by
  obtain ⟨hx, hb, hml, hown, hts, hrt, hlk, hin, hB, hfr, hlo⟩ := C
  simp only [stpI, nx] at h
  split at h <;> try cases h
  rename_i hl
  subst hl
  split at h <;> cases h
  exact lv_i2s hx hb hd rfl (kk _ _ _ _ _ ⟨S.1, S.2.1, S.2.2⟩ rfl rfl)
theorem so_i2c {len pc pc' : Nat} {L st L' st' : List Value} {σ σ' : aS} (C : Cx D cF fa B fm sc p R s m args meth c mi) (S : St D cF fa B fm mi s σ H locs ls L) (hd : decode (mC mi) pc = .ok (.i2c, len)) (h : stpI sc mi (.i2c) len pc L st σ = some (.inl (pc', L', st', σ')))
    (kk : ∀ (H' : Heap) (locs' : List Loc) (ls' : Array Slot) (cells' slots' : Nat), St D cF fa B fm mi s σ' H' locs' ls' L' → cells' + σ.1.length = cells + σ'.1.length → slots' + nS σ = slots + nS σ' → W p l e R s m args below meth c H' locs' cells' slots' Q (F0 m pc' ls' (st'.map (cv fa B fm)))) : W p l e R s m args below meth c H locs cells slots Q (F0 m pc ls (st.map (cv fa B fm))) := by
  obtain ⟨hx, hb, hml, hown, hts, hrt, hlk, hin, hB, hfr, hlo⟩ := C
  simp only [stpI, nx] at h
  split at h <;> try cases h
  rename_i hl
  subst hl
  split at h <;> cases h
  exact lv_i2c hx hb hd rfl (kk _ _ _ _ _ ⟨S.1, S.2.1, S.2.2⟩ rfl rfl)
theorem so_ineg {len pc pc' : Nat} {L st L' st' : List Value} {σ σ' : aS} (C : Cx D cF fa B fm sc p R s m args meth c mi) (S : St D cF fa B fm mi s σ H locs ls L) (hd : decode (mC mi) pc = .ok (.ineg, len)) (h : stpI sc mi (.ineg) len pc L st σ = some (.inl (pc', L', st', σ')))
    (kk : ∀ (H' : Heap) (locs' : List Loc) (ls' : Array Slot) (cells' slots' : Nat), St D cF fa B fm mi s σ' H' locs' ls' L' → cells' + σ.1.length = cells + σ'.1.length → slots' + nS σ = slots + nS σ' → W p l e R s m args below meth c H' locs' cells' slots' Q (F0 m pc' ls' (st'.map (cv fa B fm)))) : W p l e R s m args below meth c H locs cells slots Q (F0 m pc ls (st.map (cv fa B fm))) := by
  obtain ⟨hx, hb, hml, hown, hts, hrt, hlk, hin, hB, hfr, hlo⟩ := C
  simp only [stpI, nx] at h
  split at h <;> try cases h
  rename_i hl
  subst hl
  split at h <;> cases h
  exact lv_ineg hx hb hd (kk _ _ _ _ _ ⟨S.1, S.2.1, S.2.2⟩ rfl rfl)
theorem so_idiv {len pc pc' : Nat} {L st L' st' : List Value} {σ σ' : aS} (C : Cx D cF fa B fm sc p R s m args meth c mi) (S : St D cF fa B fm mi s σ H locs ls L) (hd : decode (mC mi) pc = .ok (.idiv, len)) (h : stpI sc mi (.idiv) len pc L st σ = some (.inl (pc', L', st', σ')))
    (kk : ∀ (H' : Heap) (locs' : List Loc) (ls' : Array Slot) (cells' slots' : Nat), St D cF fa B fm mi s σ' H' locs' ls' L' → cells' + σ.1.length = cells + σ'.1.length → slots' + nS σ = slots + nS σ' → W p l e R s m args below meth c H' locs' cells' slots' Q (F0 m pc' ls' (st'.map (cv fa B fm)))) : W p l e R s m args below meth c H locs cells slots Q (F0 m pc ls (st.map (cv fa B fm))) := by
  obtain ⟨hx, hb, hml, hown, hts, hrt, hlk, hin, hB, hfr, hlo⟩ := C
  simp only [stpI, nx] at h
  split at h <;> try cases h
  rename_i hl
  subst hl
  split at h <;> try cases h
  split at h <;> cases h
  rename_i hy
  exact lv_idiv hx hb hd hy (kk _ _ _ _ _ ⟨S.1, S.2.1, S.2.2⟩ rfl rfl)
theorem so_irem {len pc pc' : Nat} {L st L' st' : List Value} {σ σ' : aS} (C : Cx D cF fa B fm sc p R s m args meth c mi) (S : St D cF fa B fm mi s σ H locs ls L) (hd : decode (mC mi) pc = .ok (.irem, len)) (h : stpI sc mi (.irem) len pc L st σ = some (.inl (pc', L', st', σ')))
    (kk : ∀ (H' : Heap) (locs' : List Loc) (ls' : Array Slot) (cells' slots' : Nat), St D cF fa B fm mi s σ' H' locs' ls' L' → cells' + σ.1.length = cells + σ'.1.length → slots' + nS σ = slots + nS σ' → W p l e R s m args below meth c H' locs' cells' slots' Q (F0 m pc' ls' (st'.map (cv fa B fm)))) : W p l e R s m args below meth c H locs cells slots Q (F0 m pc ls (st.map (cv fa B fm))) := by
  obtain ⟨hx, hb, hml, hown, hts, hrt, hlk, hin, hB, hfr, hlo⟩ := C
  simp only [stpI, nx] at h
  split at h <;> try cases h
  rename_i hl
  subst hl
  split at h <;> try cases h
  rename_i y x r
  split at h <;> cases h
  rename_i hy
  have k0 := kk H locs ls cells slots ⟨S.1, S.2.1, S.2.2⟩ rfl rfl
  refine lv_irem hx hb hd hy ?_
  rw [irem_eq_mod]
  exact k0
theorem so_ifCond {len pc pc' : Nat} {L st L' st' : List Value} {σ σ' : aS} {cc : ClassFile.Cond} {off : Int} (C : Cx D cF fa B fm sc p R s m args meth c mi) (S : St D cF fa B fm mi s σ H locs ls L) (hd : decode (mC mi) pc = .ok (.ifCond cc off, len)) (h : stpI sc mi (.ifCond cc off) len pc L st σ = some (.inl (pc', L', st', σ')))
    (kk : ∀ (H' : Heap) (locs' : List Loc) (ls' : Array Slot) (cells' slots' : Nat), St D cF fa B fm mi s σ' H' locs' ls' L' → cells' + σ.1.length = cells + σ'.1.length → slots' + nS σ = slots + nS σ' → W p l e R s m args below meth c H' locs' cells' slots' Q (F0 m pc' ls' (st'.map (cv fa B fm)))) : W p l e R s m args below meth c H locs cells slots Q (F0 m pc ls (st.map (cv fa B fm))) := by
  obtain ⟨hx, hb, hml, hown, hts, hrt, hlk, hin, hB, hfr, hlo⟩ := C
  simp only [stpI, nx] at h
  split at h <;> try cases h
  rename_i hl
  subst hl
  split at h <;> try cases h
  cases cc <;> simp only at h <;> obtain ⟨t, ht, e1, rfl, rfl, rfl⟩ := cj_spec h
  · refine lv_if_eq hx hb hd ht (fun q => ?_) (fun q => ?_)
    · have k0 := kk H locs ls cells slots ⟨S.1, S.2.1, S.2.2⟩ rfl rfl
      rw [e1, if_pos (decide_eq_true q)] at k0
      exact k0
    · have k0 := kk H locs ls cells slots ⟨S.1, S.2.1, S.2.2⟩ rfl rfl
      rw [e1, if_neg (fun z => q (of_decide_eq_true z))] at k0
      exact k0
  · refine lv_if_ne hx hb hd ht (fun q => ?_) (fun q => ?_)
    · have k0 := kk H locs ls cells slots ⟨S.1, S.2.1, S.2.2⟩ rfl rfl
      rw [e1, if_pos (decide_eq_true q)] at k0
      exact k0
    · have k0 := kk H locs ls cells slots ⟨S.1, S.2.1, S.2.2⟩ rfl rfl
      rw [e1, if_neg (fun z => (of_decide_eq_true z) q)] at k0
      exact k0
  · refine lv_if_lt hx hb hd ht (fun q => ?_) (fun q => ?_)
    · have k0 := kk H locs ls cells slots ⟨S.1, S.2.1, S.2.2⟩ rfl rfl
      rw [e1, if_pos (decide_eq_true q)] at k0
      exact k0
    · have k0 := kk H locs ls cells slots ⟨S.1, S.2.1, S.2.2⟩ rfl rfl
      rw [e1, if_neg (fun z => q (of_decide_eq_true z))] at k0
      exact k0
  · refine lv_if_ge hx hb hd ht (fun q => ?_) (fun q => ?_)
    · have k0 := kk H locs ls cells slots ⟨S.1, S.2.1, S.2.2⟩ rfl rfl
      rw [e1, if_pos (decide_eq_true q)] at k0
      exact k0
    · have k0 := kk H locs ls cells slots ⟨S.1, S.2.1, S.2.2⟩ rfl rfl
      rw [e1, if_neg (fun z => q (of_decide_eq_true z))] at k0
      exact k0
  · refine lv_if_gt hx hb hd ht (fun q => ?_) (fun q => ?_)
    · have k0 := kk H locs ls cells slots ⟨S.1, S.2.1, S.2.2⟩ rfl rfl
      rw [e1, if_pos (decide_eq_true q)] at k0
      exact k0
    · have k0 := kk H locs ls cells slots ⟨S.1, S.2.1, S.2.2⟩ rfl rfl
      rw [e1, if_neg (fun z => q (of_decide_eq_true z))] at k0
      exact k0
  · refine lv_if_le hx hb hd ht (fun q => ?_) (fun q => ?_)
    · have k0 := kk H locs ls cells slots ⟨S.1, S.2.1, S.2.2⟩ rfl rfl
      rw [e1, if_pos (decide_eq_true q)] at k0
      exact k0
    · have k0 := kk H locs ls cells slots ⟨S.1, S.2.1, S.2.2⟩ rfl rfl
      rw [e1, if_neg (fun z => q (of_decide_eq_true z))] at k0
      exact k0
theorem so_if_icmp {len pc pc' : Nat} {L st L' st' : List Value} {σ σ' : aS} {cc : ClassFile.Cond} {off : Int} (C : Cx D cF fa B fm sc p R s m args meth c mi) (S : St D cF fa B fm mi s σ H locs ls L) (hd : decode (mC mi) pc = .ok (.if_icmp cc off, len)) (h : stpI sc mi (.if_icmp cc off) len pc L st σ = some (.inl (pc', L', st', σ')))
    (kk : ∀ (H' : Heap) (locs' : List Loc) (ls' : Array Slot) (cells' slots' : Nat), St D cF fa B fm mi s σ' H' locs' ls' L' → cells' + σ.1.length = cells + σ'.1.length → slots' + nS σ = slots + nS σ' → W p l e R s m args below meth c H' locs' cells' slots' Q (F0 m pc' ls' (st'.map (cv fa B fm)))) : W p l e R s m args below meth c H locs cells slots Q (F0 m pc ls (st.map (cv fa B fm))) := by
  obtain ⟨hx, hb, hml, hown, hts, hrt, hlk, hin, hB, hfr, hlo⟩ := C
  simp only [stpI, nx] at h
  split at h <;> try cases h
  rename_i hl
  subst hl
  split at h <;> try cases h
  cases cc <;> simp only at h <;> obtain ⟨t, ht, e1, rfl, rfl, rfl⟩ := cj_spec h
  · refine lv_icmp_eq hx hb hd ht (fun q => ?_) (fun q => ?_)
    · have k0 := kk H locs ls cells slots ⟨S.1, S.2.1, S.2.2⟩ rfl rfl
      rw [e1, if_pos (decide_eq_true q)] at k0
      exact k0
    · have k0 := kk H locs ls cells slots ⟨S.1, S.2.1, S.2.2⟩ rfl rfl
      rw [e1, if_neg (fun z => q (of_decide_eq_true z))] at k0
      exact k0
  · refine lv_icmp_ne hx hb hd ht (fun q => ?_) (fun q => ?_)
    · have k0 := kk H locs ls cells slots ⟨S.1, S.2.1, S.2.2⟩ rfl rfl
      rw [e1, if_pos (decide_eq_true q)] at k0
      exact k0
    · have k0 := kk H locs ls cells slots ⟨S.1, S.2.1, S.2.2⟩ rfl rfl
      rw [e1, if_neg (fun z => (of_decide_eq_true z) q)] at k0
      exact k0
  · refine lv_icmp_lt hx hb hd ht (fun q => ?_) (fun q => ?_)
    · have k0 := kk H locs ls cells slots ⟨S.1, S.2.1, S.2.2⟩ rfl rfl
      rw [e1, if_pos (decide_eq_true q)] at k0
      exact k0
    · have k0 := kk H locs ls cells slots ⟨S.1, S.2.1, S.2.2⟩ rfl rfl
      rw [e1, if_neg (fun z => q (of_decide_eq_true z))] at k0
      exact k0
  · refine lv_icmp_ge hx hb hd ht (fun q => ?_) (fun q => ?_)
    · have k0 := kk H locs ls cells slots ⟨S.1, S.2.1, S.2.2⟩ rfl rfl
      rw [e1, if_pos (decide_eq_true q)] at k0
      exact k0
    · have k0 := kk H locs ls cells slots ⟨S.1, S.2.1, S.2.2⟩ rfl rfl
      rw [e1, if_neg (fun z => q (of_decide_eq_true z))] at k0
      exact k0
  · refine lv_icmp_gt hx hb hd ht (fun q => ?_) (fun q => ?_)
    · have k0 := kk H locs ls cells slots ⟨S.1, S.2.1, S.2.2⟩ rfl rfl
      rw [e1, if_pos (decide_eq_true q)] at k0
      exact k0
    · have k0 := kk H locs ls cells slots ⟨S.1, S.2.1, S.2.2⟩ rfl rfl
      rw [e1, if_neg (fun z => q (of_decide_eq_true z))] at k0
      exact k0
  · refine lv_icmp_le hx hb hd ht (fun q => ?_) (fun q => ?_)
    · have k0 := kk H locs ls cells slots ⟨S.1, S.2.1, S.2.2⟩ rfl rfl
      rw [e1, if_pos (decide_eq_true q)] at k0
      exact k0
    · have k0 := kk H locs ls cells slots ⟨S.1, S.2.1, S.2.2⟩ rfl rfl
      rw [e1, if_neg (fun z => q (of_decide_eq_true z))] at k0
      exact k0
theorem so_goto {len pc pc' : Nat} {L st L' st' : List Value} {σ σ' : aS} {off : Int} (C : Cx D cF fa B fm sc p R s m args meth c mi) (S : St D cF fa B fm mi s σ H locs ls L) (hd : decode (mC mi) pc = .ok (.goto off, len)) (h : stpI sc mi (.goto off) len pc L st σ = some (.inl (pc', L', st', σ')))
    (kk : ∀ (H' : Heap) (locs' : List Loc) (ls' : Array Slot) (cells' slots' : Nat), St D cF fa B fm mi s σ' H' locs' ls' L' → cells' + σ.1.length = cells + σ'.1.length → slots' + nS σ = slots + nS σ' → W p l e R s m args below meth c H' locs' cells' slots' Q (F0 m pc' ls' (st'.map (cv fa B fm)))) : W p l e R s m args below meth c H locs cells slots Q (F0 m pc ls (st.map (cv fa B fm))) := by
  obtain ⟨hx, hb, hml, hown, hts, hrt, hlk, hin, hB, hfr, hlo⟩ := C
  simp only [stpI] at h
  split at h <;> try cases h
  rename_i hl
  subst hl
  obtain ⟨ht, rfl, rfl, rfl⟩ := gt0_spec h
  exact lv_goto hx hb hd ht (kk _ _ _ _ _ ⟨S.1, S.2.1, S.2.2⟩ rfl rfl)
theorem so_tableswitch {len pc pc' : Nat} {L st L' st' : List Value} {σ σ' : aS} {dflt lo hi : Int} {offs : Array Int} (C : Cx D cF fa B fm sc p R s m args meth c mi) (S : St D cF fa B fm mi s σ H locs ls L) (hd : decode (mC mi) pc = .ok (.tableswitch dflt lo hi offs, len)) (h : stpI sc mi (.tableswitch dflt lo hi offs) len pc L st σ = some (.inl (pc', L', st', σ')))
    (kk : ∀ (H' : Heap) (locs' : List Loc) (ls' : Array Slot) (cells' slots' : Nat), St D cF fa B fm mi s σ' H' locs' ls' L' → cells' + σ.1.length = cells + σ'.1.length → slots' + nS σ = slots + nS σ' → W p l e R s m args below meth c H' locs' cells' slots' Q (F0 m pc' ls' (st'.map (cv fa B fm)))) : W p l e R s m args below meth c H locs cells slots Q (F0 m pc ls (st.map (cv fa B fm))) := by
  obtain ⟨hx, hb, hml, hown, hts, hrt, hlk, hin, hB, hfr, hlo⟩ := C
  simp only [stpI, nx] at h
  split at h <;> try cases h
  rename_i x r
  split at h <;> cases h
  rename_i ht
  unfold swt at ht
  split at ht
  · rename_i hc
    exact lv_tableOut hx hb hd hc (jt_spec ht) (kk _ _ _ _ _ ⟨S.1, S.2.1, S.2.2⟩ rfl rfl)
  · rename_i hc
    split at ht
    · rename_i off ho
      exact lv_tableIn hx hb hd (fun q => hc (Or.inl q)) (fun q => hc (Or.inr q)) ho (jt_spec ht) (kk _ _ _ _ _ ⟨S.1, S.2.1, S.2.2⟩ rfl rfl)
    · cases ht
theorem so_lookupswitch {len pc pc' : Nat} {L st L' st' : List Value} {σ σ' : aS} {dflt : Int} {ps : Array (Int × Int)} (C : Cx D cF fa B fm sc p R s m args meth c mi) (S : St D cF fa B fm mi s σ H locs ls L) (hd : decode (mC mi) pc = .ok (.lookupswitch dflt ps, len)) (h : stpI sc mi (.lookupswitch dflt ps) len pc L st σ = some (.inl (pc', L', st', σ')))
    (kk : ∀ (H' : Heap) (locs' : List Loc) (ls' : Array Slot) (cells' slots' : Nat), St D cF fa B fm mi s σ' H' locs' ls' L' → cells' + σ.1.length = cells + σ'.1.length → slots' + nS σ = slots + nS σ' → W p l e R s m args below meth c H' locs' cells' slots' Q (F0 m pc' ls' (st'.map (cv fa B fm)))) : W p l e R s m args below meth c H locs cells slots Q (F0 m pc ls (st.map (cv fa B fm))) := by
  obtain ⟨hx, hb, hml, hown, hts, hrt, hlk, hin, hB, hfr, hlo⟩ := C
  simp only [stpI, nx] at h
  split at h <;> try cases h
  rename_i x r
  split at h <;> cases h
  rename_i ht
  unfold lwt at ht
  split at ht
  · rename_i hc
    exact lv_lookup hx hb hd hc rfl (jt_spec ht) (kk _ _ _ _ _ ⟨S.1, S.2.1, S.2.2⟩ rfl rfl)
  · cases ht
end STP
