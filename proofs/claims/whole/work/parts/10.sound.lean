/-! a step, a return, a call, a body, a method: sound -/
theorem Bs.eqvm {D : va_G} {cF : FieldType → ClassId} {fa : Nat → Nat} {B : Nat} {fm : Value} {sc : Option (Nat × (Nat → Int32))} {s U : State} {H : Heap} (h : Bs D cF fa B fm sc s H) (hv : U.vm = s.vm) : Bs D cF fa B fm sc U H := by
  obtain ⟨h1, h2, h3, h4, h5, h6, h7, h8, h9, g01, g02, g03, h10, h11⟩ := h
  have ha : s.vm.Alike U.vm := by rw [hv]; exact Vm.Alike.refl _
  refine ⟨h1.moved ha, h2, h3, h4, fun i hi => (h5 i hi).moved ha, fun i a b => (h6 i a b).moved ha, fun i a b => ?_, fun L xs e => (h8 L xs e).moved ha, fun i hi => (h9 i hi).same hv, g01.moved ha, g02.moved ha, g03.moved ha, fun e he => (h10 e he).same rfl hv.symm, fun e he => (h11 e he).same rfl hv.symm⟩
  obtain ⟨g1, g2, g3, g4⟩ := h7 i a b
  exact ⟨g1.moved ha, g2.moved ha, g3.moved ha, g4.moved ha⟩
def mWs (j : Nat) : List Cond := .code (mY j) (mC j) (mL j) (mR j) :: wsG
def rmD (d mc ms : Nat) : Room := { frames := d + 2, cells := mc, slots := ms, locals := 64 * d + 200 }
def PcA (D : va_G) (cF : FieldType → ClassId) (fa : Nat → Nat) (B : Nat) (fm : Value) (sc : Option (Nat × (Nat → Int32))) (σ : aS) (as : List Value) : Array Value → State → Prop := va_Pc (as.map (cv fa B fm)) (fun U => Bs D cF fa B fm sc U U.heap ∧ Rel D cF fa B fm σ U.heap)
def QcA (D : va_G) (cF : FieldType → ClassId) (fa : Nat → Nat) (B : Nat) (fm : Value) (σ : aS) : Option Value → Array Value → State → Outcome → State → Prop
  | none => va_Qv (fun _ : Unit => True) (fun _ t => Rel D cF fa B fm σ t.heap) (Bo B)
  | some (.int x) => va_Qi (fun y (_ : Unit) => y = x) (fun _ t => Rel D cF fa B fm σ t.heap) (Bo B)
  | some (.long x) => va_Ql (fun y (_ : Unit) => y = x) (fun _ t => Rel D cF fa B fm σ t.heap) (Bo B)
  | some _ => fun _ _ _ _ => False
theorem wsG_good {w : Cond} (h : w ∈ wsG) : w ∈ wsG ∧ ((w.onTables && w.keeps) = true ∨ ∃ ty, w = .arrayClass ty) := ⟨h, good_of_word (List.mem_filter.mp h).2⟩
theorem mWs_good {j : Nat} (h : j < 212) : GoodIn wsG (mWs j) := by
  intro w hw
  rcases List.mem_cons.mp hw with rfl | hw
  · exact wsG_good (okC_all j h)
  · exact wsG_good hw
theorem mF {j : Nat} (h : j < 212) : Cond.initialized (mY j).cls ∈ wsG ∧ (mY j).cls = cN (mO j) ∧ (mK j = 1 → Cond.static (mY j) ∈ wsG) ∧ (mK j ≠ 1 → Cond.instanceMethod (mY j) ∈ wsG) ∧ (mK j = 0 → Cond.selects (cN (mO j)) (mY j) (mY j) ∈ wsG) ∧ (mK j = 2 → (mY j).name = "<init>" ∧ mR j = none) ∧ ((mY j).cls ≠ "java/lang/invoke/MethodHandle" ∧ (mY j).cls ≠ "java/lang/invoke/VarHandle" ∧ (parseMethodDescriptor (mY j).desc).map (fun d => d.parameters.length) = some (mN j)) ∧ plainFor (mY j) = true ∧ mL j ≤ 30 := by
  have q := okM_all h
  unfold okM at q
  simp only [Bool.and_eq_true] at q
  obtain ⟨⟨⟨⟨⟨⟨⟨q1, q2⟩, q3⟩, q4⟩, q5⟩, q6⟩, q7⟩, q8⟩ := q
  refine ⟨in_G _ q1, by simpa using q2, fun e => ?_, fun e => ?_, fun e => ?_, fun e => ?_, of_decide_eq_true q6, q7, of_decide_eq_true q8⟩
  · rw [if_pos e] at q3; exact in_G _ q3
  · rw [if_neg e] at q3; exact in_G _ q3
  · rw [if_pos e] at q4; exact in_G _ q4
  · rw [if_pos e] at q5
    simp only [Bool.and_eq_true, beq_iff_eq, Option.isNone_iff_eq_none] at q5
    exact q5
section SD
variable {p : Program} {l : Launch} {e : Env} {R : Room} {s : State} {m : MethodId} {args : Array Value} {below : List Frame} {meth : Method} {c : Code} {H : Heap} {locs : List Loc} {cells slots : Nat} {Q : State → Prop}
variable {D : va_G} {cF : FieldType → ClassId} {fa : Nat → Nat} {B : Nat} {fm : Value} {sc : Option (Nat × (Nat → Int32))} {mi : Nat} {ls : Array Slot}
set_option maxHeartbeats 4000000 in
theorem step_ok {pc pc' : Nat} {L st L' st' : List Value} {σ σ' : aS} (C : Cx D cF fa B fm sc p R s m args meth c mi) (S : St D cF fa B fm mi s σ H locs ls L) (h : stp sc mi pc L st σ = some (.inl (pc', L', st', σ'))) (hC : cells + σ'.1.length ≤ R.cells + σ.1.length) (hS9 : slots + nS σ' ≤ R.slots + nS σ)
    (kk : ∀ (H' : Heap) (locs' : List Loc) (ls' : Array Slot) (cells' slots' : Nat), St D cF fa B fm mi s σ' H' locs' ls' L' → cells' + σ.1.length = cells + σ'.1.length → slots' + nS σ = slots + nS σ' → W p l e R s m args below meth c H' locs' cells' slots' Q (F0 m pc' ls' (st'.map (cv fa B fm)))) : W p l e R s m args below meth c H locs cells slots Q (F0 m pc ls (st.map (cv fa B fm))) := by
  unfold stp at h
  split at h <;> try cases h
  rename_i i len hd
  cases i
  case aaload => exact so_aaload C S hd h kk
  case aastore => exact so_aastore C S hd h kk
  case aload k => exact so_aload C S hd h kk
  case aload_n k => exact so_aload_n C S hd h kk
  case arraylength => exact so_arraylength C S hd h kk
  case astore k => exact so_astore C S hd h kk
  case astore_n k => exact so_astore_n C S hd h kk
  case baload => exact so_baload C S hd h kk
  case bastore => exact so_bastore C S hd h kk
  case bipush n => exact so_bipush C S hd h kk
  case dup => exact so_dup C S hd h kk
  case getfield x => exact so_getfield C S hd h kk
  case getstatic x => exact so_getstatic C S hd h kk
  case goto off => exact so_goto C S hd h kk
  case i2b => exact so_i2b C S hd h kk
  case i2c => exact so_i2c C S hd h kk
  case i2l => exact so_i2l C S hd h kk
  case i2s => exact so_i2s C S hd h kk
  case iadd => exact so_iadd C S hd h kk
  case iaload => exact so_iaload C S hd h kk
  case iand => exact so_iand C S hd h kk
  case iastore => exact so_iastore C S hd h kk
  case iconst n => exact so_iconst C S hd h kk
  case idiv => exact so_idiv C S hd h kk
  case if_icmp cc off => exact so_if_icmp C S hd h kk
  case ifCond cc off => exact so_ifCond C S hd h kk
  case iinc k n => exact so_iinc C S hd h kk
  case iload k => exact so_iload C S hd h kk
  case iload_n k => exact so_iload_n C S hd h kk
  case imul => exact so_imul C S hd h kk
  case ineg => exact so_ineg C S hd h kk
  case invokespecial x => exact so_invokespecial C S hd h kk
  case invokestatic x => exact so_invokestatic C S hd h kk
  case invokevirtual x => exact so_invokevirtual C S hd h kk
  case ior => exact so_ior C S hd h kk
  case irem => exact so_irem C S hd h kk
  case ishl => exact so_ishl C S hd h kk
  case ishr => exact so_ishr C S hd h kk
  case istore k => exact so_istore C S hd h kk
  case istore_n k => exact so_istore_n C S hd h kk
  case isub => exact so_isub C S hd h kk
  case iushr => exact so_iushr C S hd h kk
  case ixor => exact so_ixor C S hd h kk
  case l2i => exact so_l2i C S hd h kk
  case laload => exact so_laload C S hd h kk
  case land => exact so_land C S hd h kk
  case lastore => exact so_lastore C S hd h kk
  case lcmp => exact so_lcmp C S hd h kk
  case lconst n => exact so_lconst C S hd h kk
  case ldc x => exact so_ldc C S hd h kk
  case ldc_w x => exact so_ldc_w C S hd h kk
  case ldc2_w x => exact so_ldc2_w C S hd h kk
  case lload k => exact so_lload C S hd h kk
  case lload_n k => exact so_lload_n C S hd h kk
  case lookupswitch d ps => exact so_lookupswitch C S hd h kk
  case lor => exact so_lor C S hd h kk
  case lshl => exact so_lshl C S hd h kk
  case lstore k => exact so_lstore C S hd h kk
  case lstore_n k => exact so_lstore_n C S hd h kk
  case lushr => exact so_lushr C S hd h kk
  case lxor => exact so_lxor C S hd h kk
  case pop => exact so_pop C S hd h kk
  case putfield x => exact so_putfield C S hd h kk
  case sipush n => exact so_sipush C S hd h kk
  case tableswitch d lo hi offs => exact so_tableswitch C S hd h kk
  case multianewarray x d => exact so_multianewarray C S hd h hC hS9 kk
  case new x => exact so_new C S hd h hC hS9 kk
  case newarray ty => exact so_newarray C S hd h hC hS9 kk
  case anewarray x => exact so_anewarray C S hd h hC hS9 kk
  case ireturn => simp only [stpI] at h; repeat' split at h
                  all_goals cases h
  case lreturn => simp only [stpI] at h; repeat' split at h
                  all_goals cases h
  case return_ => simp only [stpI] at h; repeat' split at h
                  all_goals cases h
  all_goals (simp only [stpI] at h; cases h)
/-- what a step that answers is -/
theorem ret_is {pc : Nat} {L st : List Value} {σ : aS} {v : Option Value} (h : stp sc mi pc L st σ = some (.inr (.inr v))) : (∃ x ty, v = some (.int x) ∧ st = [.int x] ∧ mR mi = some ty ∧ narrow ty (.int x) = .int x ∧ decode (mC mi) pc = .ok (.ireturn, 1)) ∨ (∃ x, v = some (.long x) ∧ st = [.long x] ∧ mR mi = some .long ∧ decode (mC mi) pc = .ok (.lreturn, 1)) ∨ (v = none ∧ st = [] ∧ mR mi = none ∧ decode (mC mi) pc = .ok (.return_, 1)) := by
  unfold stp at h
  split at h <;> try cases h
  rename_i i len hd
  cases i
  case ireturn =>
    simp only [stpI] at h
    split at h <;> try cases h
    rename_i hl
    subst hl
    split at h <;> try cases h
    rename_i x
    split at h <;> try cases h
    rename_i ty hr
    split at h <;> cases h
    rename_i hn
    exact Or.inl ⟨x, ty, rfl, rfl, hr, hn, hd⟩
  case lreturn =>
    simp only [stpI] at h
    split at h <;> try cases h
    rename_i hl
    obtain ⟨hl, hr⟩ := hl
    subst hl
    split at h <;> cases h
    rename_i x
    exact Or.inr (Or.inl ⟨x, rfl, rfl, hr, hd⟩)
  case return_ =>
    simp only [stpI] at h
    split at h <;> try cases h
    rename_i hl
    obtain ⟨hl, hr⟩ := hl
    subst hl
    split at h <;> cases h
    exact Or.inr (Or.inr ⟨rfl, rfl, hr, hd⟩)
  all_goals (exfalso; simp only [stpI, nx, gt0, cj, doCall] at h; repeat' split at h)
  all_goals cases h
/-- what a step that calls is -/
theorem doCall_is {own idx pc kd j pc' : Nat} {L st as L' st' : List Value} {σ σ' : aS} (h : doCall own idx pc L st σ kd = some (.inr (.inl (j, as, (pc', L', st', σ'))))) : lk3 (if kd = 3 then mnT else mlT) own idx = some j ∧ j < 212 ∧ mK j = (if kd = 3 then 2 else kd) ∧ pc' = pc + 3 ∧ L' = L ∧ σ' = σ ∧ cats st' ≤ 8 ∧ ((kd = 1 ∧ as.length = mN j ∧ st = as.reverse ++ st') ∨ (kd ≠ 1 ∧ ∃ b vs, as = .ref b :: vs ∧ vs.length = mN j ∧ st = vs.reverse ++ .ref b :: st' ∧ σ.1[b]? = some (.inl (mO j)))) := by
  unfold doCall at h
  cases hj : lk3 (if kd = 3 then mnT else mlT) own idx with
  | none => rw [hj] at h; cases h
  | some j9 =>
    rw [hj] at h
    simp only at h
    by_cases hc : mK j9 = (if kd = 3 then 2 else kd) ∧ j9 < 212
    · rw [if_pos hc] at h
      by_cases hk : kd = 1
      · rw [if_pos hk] at h
        by_cases hc2 : cats (st.drop (mN j9)) ≤ 8 ∧ (st.take (mN j9)).length = mN j9
        · rw [if_pos hc2] at h
          cases h
          exact ⟨rfl, hc.2, hc.1, rfl, rfl, rfl, hc2.1, Or.inl ⟨hk, by rw [List.length_reverse]; exact hc2.2, by rw [List.reverse_reverse, List.take_append_drop]⟩⟩
        · rw [if_neg hc2] at h; cases h
      · rw [if_neg hk] at h
        cases hd : st.drop (mN j9) with
        | nil => rw [hd] at h; cases h
        | cons w rest =>
          rw [hd] at h
          cases w with
          | ref b =>
            simp only at h
            by_cases hc2 : cats rest ≤ 8 ∧ σ.1[b]? = some (.inl (mO j9))
            · rw [if_pos hc2] at h
              cases h
              have hln : (st.take (mN j)).length = mN j := by
                rw [List.length_take]
                have h1 : (st.drop (mN j)).length = st'.length + 1 := by rw [hd]; rfl
                rw [List.length_drop] at h1
                omega
              exact ⟨rfl, hc.2, hc.1, rfl, rfl, rfl, hc2.1, Or.inr ⟨hk, b, (st.take (mN j)).reverse, rfl, by rw [List.length_reverse]; exact hln, by rw [List.reverse_reverse, ← hd, List.take_append_drop], hc2.2⟩⟩
            · rw [if_neg hc2] at h; cases h
          | _ => cases h
    · rw [if_neg hc] at h; cases h
theorem call_is {pc j pc' : Nat} {L st as L' st' : List Value} {σ σ' : aS} (h : stp sc mi pc L st σ = some (.inr (.inl (j, as, (pc', L', st', σ'))))) : ∃ x kd, doCall (mO mi) x pc L st σ kd = some (.inr (.inl (j, as, (pc', L', st', σ')))) ∧ ((kd = 0 ∧ decode (mC mi) pc = .ok (.invokevirtual x, 3)) ∨ (kd = 1 ∧ decode (mC mi) pc = .ok (.invokestatic x, 3)) ∨ ((kd = 2 ∨ kd = 3) ∧ decode (mC mi) pc = .ok (.invokespecial x, 3))) := by
  unfold stp at h
  split at h <;> try cases h
  rename_i i len hd
  cases i
  case invokevirtual x =>
    simp only [stpI] at h
    split at h <;> try cases h
    rename_i hl
    subst hl
    exact ⟨x, 0, h, Or.inl ⟨rfl, hd⟩⟩
  case invokestatic x =>
    simp only [stpI, nx] at h
    split at h <;> try cases h
    rename_i hl
    subst hl
    split at h
    · exfalso
      repeat' split at h
      all_goals cases h
    · exact ⟨x, 1, h, Or.inr (Or.inl ⟨rfl, hd⟩)⟩
  case invokespecial x =>
    simp only [stpI, nx] at h
    split at h <;> try cases h
    rename_i hl
    subst hl
    split at h
    · exfalso
      repeat' split at h
      all_goals cases h
    · split at h
      · exact ⟨x, 2, h, Or.inr (Or.inr ⟨Or.inl rfl, hd⟩)⟩
      · exact ⟨x, 3, h, Or.inr (Or.inr ⟨Or.inr rfl, hd⟩)⟩
  all_goals (exfalso; simp only [stpI, nx, gt0, cj] at h; repeat' split at h)
  all_goals cases h
/-- cells only come -/
theorem stp_len {pc pc' : Nat} {L st L' st' : List Value} {σ σ' : aS} (h : stp sc mi pc L st σ = some (.inl (pc', L', st', σ'))) : σ.1.length ≤ σ'.1.length ∧ nS σ ≤ nS σ' := by
  have key : σ'.1 = σ.1 → σ.1.length ≤ σ'.1.length ∧ nS σ ≤ nS σ' := fun e => by unfold nS; rw [e]; exact ⟨Nat.le_refl _, Nat.le_refl _⟩
  have kz : ∀ kd, σ.1.length ≤ (zN σ kd).1.length ∧ nS σ ≤ nS (zN σ kd) := fun kd => by rw [zN_len, zN_S]; omega
  have km : ∀ n k, σ.1.length ≤ (zM σ n k).1.length ∧ nS σ ≤ nS (zM σ n k) := fun n k => by rw [zM_len, zM_S]; omega
  unfold stp at h
  split at h <;> try cases h
  rename_i i len hd
  cases i
  case invokevirtual x =>
    simp only [stpI] at h
    split at h <;> try cases h
    exact (doCall_no h).elim
  case invokestatic x =>
    simp only [stpI, nx] at h
    split at h <;> try cases h
    split at h
    · repeat' split at h
      all_goals (first | (cases h; done) | (cases h; exact key rfl))
    · exact (doCall_no h).elim
  case invokespecial x =>
    simp only [stpI, nx] at h
    split at h <;> try cases h
    split at h
    · repeat' split at h
      all_goals (first | (cases h; done) | (cases h; exact key rfl))
    · split at h <;> exact (doCall_no h).elim
  case putfield x =>
    simp only [stpI, nx] at h
    split at h <;> try cases h
    split at h <;> try cases h
    split at h <;> try cases h
    split at h <;> try cases h
    split at h <;> cases h
    rename_i hp
    exact key (putv_facts (fa := fun _ => 0) (B := 0) (fm := .null) hp).1
  all_goals (simp only [stpI, nx, gt0, cj] at h; repeat' split at h)
  all_goals (first | (cases h; done) | (cases h; exact key rfl) | (cases h; exact kz _) | (cases h; exact km _ _))
theorem ex_len {cb : Nat → List Value → aS → Option aRes} (hcb : ∀ j as σ σ' v, cb j as σ = some (σ', v) → σ.1.length ≤ σ'.1.length ∧ nS σ ≤ nS σ') : ∀ (n pc : Nat) (L st : List Value) (σ σ' : aS) (v : Option Value), ex cb sc mi n pc L st σ = some (σ', v) → σ.1.length ≤ σ'.1.length ∧ nS σ ≤ nS σ'
  | 0, _, _, _, _, _, _, h => by cases h
  | n + 1, pc, L, st, σ, σ', v, h => by
    unfold ex at h
    split at h
    · rename_i pc1 L1 st1 σ1 hs
      have h1 := stp_len hs
      have h2 := ex_len hcb n _ _ _ _ _ _ h
      omega
    · rename_i j as pc1 L1 st1 σ1 hs
      split at h
      · rename_i σ2 v2 hc
        have h1 := hcb _ _ _ _ _ hc
        have h2 := ex_len hcb n _ _ _ _ _ _ h
        obtain ⟨x, kd, hd, -⟩ := call_is hs
        obtain ⟨-, -, -, -, -, rfl, -⟩ := doCall_is hd
        omega
      · cases h
    · cases h; exact ⟨Nat.le_refl _, Nat.le_refl _⟩
    · cases h
theorem cl_len {N : Nat} : ∀ (d j : Nat) (as : List Value) (σ σ' : aS) (v : Option Value), cl sc N d j as σ = some (σ', v) → σ.1.length ≤ σ'.1.length ∧ nS σ ≤ nS σ'
  | 0, _, _, _, _, _, h => by cases h
  | d + 1, j, as, σ, σ', v, h => by
    unfold cl at h
    split at h
    · exact ex_len (fun j as σ σ' v h => cl_len d j as σ σ' v h) _ _ _ _ _ _ _ h
    · cases h
def okv (v : Option Value) : Prop := v = none ∨ (∃ x, v = some (.int x)) ∨ ∃ x, v = some (.long x)
theorem ex_okv {cb : Nat → List Value → aS → Option aRes} : ∀ (n pc : Nat) (L st : List Value) (σ σ' : aS) (v : Option Value), ex cb sc mi n pc L st σ = some (σ', v) → okv v
  | 0, _, _, _, _, _, _, h => by cases h
  | n + 1, pc, L, st, σ, σ', v, h => by
    unfold ex at h
    split at h
    · exact ex_okv n _ _ _ _ _ _ h
    · split at h
      · exact ex_okv n _ _ _ _ _ _ h
      · cases h
    · rename_i hs
      cases h
      rcases ret_is hs with ⟨x, ty, rfl, -⟩ | ⟨x, rfl, -⟩ | ⟨rfl, -⟩
      · exact Or.inr (Or.inl ⟨x, rfl⟩)
      · exact Or.inr (Or.inr ⟨x, rfl⟩)
      · exact Or.inl rfl
    · cases h
theorem cl_okv {N d j : Nat} {as : List Value} {σ σ' : aS} {v : Option Value} (h : cl sc N d j as σ = some (σ', v)) : okv v := by
  cases d with
  | zero => cases h
  | succ d =>
    unfold cl at h
    split at h
    · exact ex_okv _ _ _ _ _ _ _ h
    · cases h
end SD
