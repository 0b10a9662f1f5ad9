/-! grids, copies, Object's own maker; all steps -/
theorem outer_is (c : ClassId) (N h0 : Nat) : ∀ i : Nat, Jvm.Free.Multi.outerC c N h0 i = arrV c N (fun j => va_rf (if j < i then some (h0 + 1 + j) else none))
  | 0 => by
    show ({ cls := c, slots := Array.replicate N .null, vm := .none } : Cell) = _
    rw [arrV_new]
    refine congrArg (arrV c N) (funext fun j => ?_)
    simp [va_rf]
  | i + 1 => by
    show (Jvm.Free.Multi.outerC c N h0 i).setSlot i (.ref (h0 + 1 + i)) = _
    rw [outer_is c N h0 i, arrV_store]
    refine congrArg (arrV c N) (funext fun j => ?_)
    by_cases e : j = i
    · subst e
      simp [updV, va_rf]
    · by_cases h : j < i
      · simp [updV, e, h, Nat.lt_succ_of_lt h]
      · simp [updV, e, h, show ¬ j < i + 1 by omega]
theorem zM_len (σ : aS) (n k : Nat) : (zM σ n k).1.length = σ.1.length + 1 + n := by simp [zM]; omega
theorem zM_S (σ : aS) (n k : Nat) : nS (zM σ n k) = nS σ + (n + n * k) := by
  show ((σ.1 ++ ((Sum.inr (FieldType.array .int, n) :: List.replicate n (Sum.inr (FieldType.int, k))) : List aK)).map ksl).sum = _
  rw [List.map_append, List.sum_append, List.map_cons, List.sum_cons, List.map_replicate, List.sum_replicate_nat]
  rfl
theorem zM_old {σ : aS} {n k : Nat} {q : Nat} (h : q < σ.1.length) : aI (zM σ n k) q = aI σ q ∧ aJ (zM σ n k) q = aJ σ q ∧ aR (zM σ n k) q = aR σ q := ⟨if_neg (by omega), if_neg (by omega), by show (if q = _ then _ else if _ then _ else _) = _; rw [if_neg (by omega), if_neg (by omega)]⟩
theorem doCall_no {own idx pc kd : Nat} {L st : List Value} {σ : aS} {x : aCf} (h : doCall own idx pc L st σ kd = some (.inl x)) : False := by
  unfold doCall at h
  repeat' split at h
  all_goals cases h
section HM
variable {p : Program} {l : Launch} {e : Env} {R : Room} {s : State} {m : MethodId} {args : Array Value} {below : List Frame} {meth : Method} {c : Code} {H : Heap} {locs : List Loc} {cells slots : Nat} {Q : State → Prop}
variable {D : va_G} {cF : FieldType → ClassId} {fa : Nat → Nat} {B : Nat} {fm : Value} {sc : Option (Nat × (Nat → Int32))} {mi : Nat} {ls : Array Slot}
set_option maxHeartbeats 4000000 in
theorem so_multianewarray {len pc pc' : Nat} {L st L' st' : List Value} {σ σ' : aS} {x d : Nat} (C : Cx D cF fa B fm sc p R s m args meth c mi) (S : St D cF fa B fm mi s σ H locs ls L) (hd : decode (mC mi) pc = .ok (.multianewarray x d, len)) (h : stpI sc mi (.multianewarray x d) len pc L st σ = some (.inl (pc', L', st', σ'))) (hC : cells + σ'.1.length ≤ R.cells + σ.1.length) (hS9 : slots + nS σ' ≤ R.slots + nS σ)
    (kk : ∀ (H' : Heap) (locs' : List Loc) (ls' : Array Slot) (cells' slots' : Nat), St D cF fa B fm mi s σ' H' locs' ls' L' → cells' + σ.1.length = cells + σ'.1.length → slots' + nS σ = slots + nS σ' → W p l e R s m args below meth c H' locs' cells' slots' Q (F0 m pc' ls' (st'.map (cv fa B fm)))) : W p l e R s m args below meth c H locs cells slots Q (F0 m pc ls (st.map (cv fa B fm))) := by
  obtain ⟨hx, hb, hml, hown, hts, hrt, hlk, hin, hB, hfr, hlo⟩ := C
  simp only [stpI, nx] at h
  split at h <;> try cases h
  rename_i hl
  obtain ⟨hl, ho, hx11, hd2⟩ := hl
  subst hl hx11 hd2
  split at h <;> try cases h
  rename_i k n r
  split at h <;> cases h
  rename_i hn
  have hn0 : ¬ n < 0 := fun q => hn (Or.inl q)
  have hk0 : ¬ k < 0 := fun q => hn (Or.inr (Or.inl q))
  have hn1 : n.toNatClampNeg ≤ 1000 := Nat.not_lt.mp fun q => hn (Or.inr (Or.inr (Or.inl q)))
  have hk1 : k.toNatClampNeg ≤ 1000 := Nat.not_lt.mp fun q => hn (Or.inr (Or.inr (Or.inr q)))
  rw [zM_len] at hC
  rw [zM_S] at hS9
  rw [ho] at hown
  have e3 : "[" ++ (FieldType.array .int).toString = "[[I" := by decide +kernel
  have hcl : (Cond.classLink (cN 3) 11 ("[" ++ (FieldType.array .int).toString)).before args s = true := by rw [e3]; exact hts _ wGrid
  intro T hT Xs
  obtain ⟨vm₁, cA, comp, -, fA, fC, hO, -, X', step⟩ := Xs.multianewarray2F hx hown hcl (show (Jvm.Cond.arrayOver (.array .int)).before args s = true from hB.2.2.2.2.2.2.2.2.2.2.2.1) (hts _ wA_int) (g := F0 m pc ls ((Value.int k :: .int n :: r).map (cv fa B fm))) rfl (by rw [hb]; exact hd) rfl hn0 hk0 (by omega) (by show _ * 4 ≤ _; omega) (by omega) rfl rfl (by omega) (by omega)
  have hcA : cA = cF (.array .int) := Option.some.inj (fA.symm.trans (tyK hB.1 (ty := .array .int) (by decide)).2)
  have hco : comp = cF .int := Option.some.inj (fC.symm.trans (tyK hB.1 (ty := .int) (by decide)).2)
  subst hcA hco
  generalize hF : Jvm.Free.Multi.fill (T.setVm vm₁) (cF (.array .int)) (cF .int) n.toNatClampNeg k.toNatClampNeg (defaultValue .int) n.toNatClampNeg = F at X' step
  have hTh : (T.setVm vm₁).heap = H := hT
  obtain ⟨f1, f2, -, -⟩ := Jvm.Free.Multi.fill_facts (T.setVm vm₁) (cF (.array .int)) (cF .int) n.toNatClampNeg k.toNatClampNeg (defaultValue .int) n.toNatClampNeg
  rw [hF, hTh] at f1 f2
  have hold : ∀ x : Nat, x < H.size → F.heap[x]? = H[x]? := fun x hx9 => by
    have := Jvm.Free.Multi.fill_old (T.setVm vm₁) (cF (.array .int)) (cF .int) n.toNatClampNeg k.toNatClampNeg (defaultValue .int) (a := x) (by rw [hTh]; exact hx9) n.toNatClampNeg
    rw [hF, hTh] at this
    exact this
  have hrow : ∀ j : Nat, j < n.toNatClampNeg → F.heap[H.size + 1 + j]? = some (arrV (cF .int) k.toNatClampNeg (fun _ => .int 0)) := fun j hj => by
    have := Jvm.Free.Multi.fill_inner (T.setVm vm₁) (cF (.array .int)) (cF .int) n.toNatClampNeg k.toNatClampNeg (defaultValue .int) n.toNatClampNeg j hj
    rw [hF, hTh] at this
    rw [this, ← arrV_new]
    rfl
  rw [outer_is] at f2
  have hrho := rho_new S.1 0
  rw [Nat.add_zero, Nat.add_zero] at hrho
  have hRel : Rel D cF fa B fm (zM σ n.toNatClampNeg k.toNatClampNeg) F.heap := by
    refine Rel_grow S.1 (ks := .inr (.array .int, n.toNatClampNeg) :: List.replicate n.toNatClampNeg (.inr (.int, k.toNatClampNeg))) rfl (fun q hq => (zM_old hq).1) (fun q hq => (zM_old hq).2.1) (fun q hq => (zM_old hq).2.2) (by rw [f1]; simp; omega) hold (fun i kd hi => ?_)
    match i, hi with
    | 0, hi =>
      cases hi
      refine ⟨by decide, ?_⟩
      rw [Nat.add_zero, hrho, f2]
      have hrc : rowC fa B (cF (.array .int)) (zM σ n.toNatClampNeg k.toNatClampNeg) σ.1.length (.array .int) n.toNatClampNeg = arrV (cF (.array .int)) n.toNatClampNeg (fun j => va_rf ((aR (zM σ n.toNatClampNeg k.toNatClampNeg) σ.1.length j).map (rho fa B))) := rfl
      rw [hrc]
      refine congrArg (fun z => some (arrV (cF (.array .int)) n.toNatClampNeg z)) (funext fun j => ?_)
      have e1 : aR (zM σ n.toNatClampNeg k.toNatClampNeg) σ.1.length j = if j < n.toNatClampNeg then some (σ.1.length + 1 + j) else none := by
        show (if σ.1.length = σ.1.length then _ else _ : Nat → Option Nat) j = _
        rw [if_pos rfl]
      rw [e1]
      by_cases hj : j < n.toNatClampNeg
      · rw [if_pos hj, if_pos hj]
        have := rho_new S.1 (1 + j)
        show va_rf (some (H.size + 1 + j)) = va_rf (some (rho fa B (σ.1.length + 1 + j)))
        rw [Nat.add_assoc σ.1.length, this, Nat.add_assoc]
      · rw [if_neg hj, if_neg hj]
        rfl
    | i + 1, hi =>
      rw [List.getElem?_cons_succ] at hi
      have hil : i < n.toNatClampNeg := by
        have := (List.getElem?_eq_some_iff.mp hi).1
        rwa [List.length_replicate] at this
      have hkd := List.eq_of_mem_replicate (List.mem_of_getElem? hi)
      subst hkd
      refine ⟨by decide, ?_⟩
      rw [rho_new S.1 (i + 1), show H.size + (i + 1) = H.size + 1 + i by omega, hrow i hil]
      have e1 : aI (zM σ n.toNatClampNeg k.toNatClampNeg) (σ.1.length + (i + 1)) = fun _ => 0 := if_pos (by omega)
      unfold rowC
      rw [e1]
  have k0 := kk F.heap locs ls (cells + 1 + n.toNatClampNeg) (slots + n.toNatClampNeg + n.toNatClampNeg * k.toNatClampNeg) ⟨hRel, vaS_new S.2.1 (by rw [f1]; omega) hold, S.2.2⟩ (by rw [zM_len]; omega) (by rw [zM_S]; omega)
  rw [List.map_cons, show cv fa B fm (.ref σ.1.length) = .ref H.size by show Value.ref (rho fa B σ.1.length) = _; rw [hrho]] at k0
  obtain ⟨t, a1, b1⟩ := k0 F rfl X'
  refine ⟨t, step t ?_, b1⟩
  have e9 : T.heap.size = H.size := by rw [hT]
  rw [e9]
  exact a1
set_option maxHeartbeats 4000000 in
theorem so_invokestatic {len pc pc' : Nat} {L st L' st' : List Value} {σ σ' : aS} {x : Nat} (C : Cx D cF fa B fm sc p R s m args meth c mi) (S : St D cF fa B fm mi s σ H locs ls L) (hd : decode (mC mi) pc = .ok (.invokestatic x, len)) (h : stpI sc mi (.invokestatic x) len pc L st σ = some (.inl (pc', L', st', σ')))
    (kk : ∀ (H' : Heap) (locs' : List Loc) (ls' : Array Slot) (cells' slots' : Nat), St D cF fa B fm mi s σ' H' locs' ls' L' → cells' + σ.1.length = cells + σ'.1.length → slots' + nS σ = slots + nS σ' → W p l e R s m args below meth c H' locs' cells' slots' Q (F0 m pc' ls' (st'.map (cv fa B fm)))) : W p l e R s m args below meth c H locs cells slots Q (F0 m pc ls (st.map (cv fa B fm))) := by
  obtain ⟨hx, hb, hml, hown, hts, hrt, hlk, hin, hB, hfr, hlo⟩ := C
  simp only [stpI, nx] at h
  split at h <;> try cases h
  rename_i hl
  subst hl
  split at h
  · rename_i hac
    split at h <;> try cases h
    rename_i n dp b9 sp a9 r
    obtain ⟨a, rfl⟩ : ∃ a : Nat, a = a9 := ⟨a9, rfl⟩
    obtain ⟨b, rfl⟩ : ∃ b : Nat, b = b9 := ⟨b9, rfl⟩
    split at h <;> try cases h
    rename_i hn
    have h1 : ¬ n < 0 := fun q => hn (Or.inl q)
    have h2 : ¬ dp < 0 := fun q => hn (Or.inr (Or.inl q))
    have h3 : ¬ sp < 0 := fun q => hn (Or.inr (Or.inr (Or.inl q)))
    have ha17 : 17 ≤ a := Nat.not_lt.mp fun q => hn (Or.inr (Or.inr (Or.inr (Or.inl q))))
    have hb17 : 17 ≤ b := Nat.not_lt.mp fun q => hn (Or.inr (Or.inr (Or.inr (Or.inr (Or.inl q)))))
    have hr8 : cats r ≤ 8 := Nat.not_lt.mp fun q => hn (Or.inr (Or.inr (Or.inr (Or.inr (Or.inr q)))))
    have nn : ∀ z : Int32, ¬ z < 0 → z.toInt = (z.toNatClampNeg : Int) := by
      intro z hz
      have hz0 : (0 : Int) ≤ z.toInt := by
        have := Int32.not_lt.mp hz
        simpa using Int32.le_iff_toInt_le.mp this
      show z.toInt = ((z.toInt.toNat : Nat) : Int)
      omega
    split at h <;> try cases h
    · rename_i n0 n1 hka hkb
      split at h <;> cases h
      rename_i hc
      obtain ⟨h4, h5⟩ := hc
      obtain ⟨hty, hca⟩ := S.1.2.2.2 a _ ha17 hka
      obtain ⟨-, hcb⟩ := S.1.2.2.2 b _ hb17 hkb
      obtain ⟨-, k0, hk0, cm0, hkk0⟩ := (tyK hB.1 hty).1 n0 (fun j => .int (aI σ a j))
      intro T hT X
      obtain ⟨vm', X', step⟩ := X.arraycopy hx hown (hts _ (w_ac hac)) (hts _ wAN) (hts _ wAS) (hts _ wAI) (src := rho fa B a) (dst := rho fa B b) (cs := arrV (cF .int) n0 (fun j => .int (aI σ a j))) (cd := arrV (cF .int) n1 (fun j => .int (aI σ b j))) (srcPos := sp) (destPos := dp) (n := n) (by rw [hT]; exact hca) (by rw [hT]; exact hcb)
        (fun _ h => by cases h) (fun _ h => by cases h) (fun h => by cases h) (fun h => by cases h) hk0 hk0 hkk0 hkk0 (by simp [refKind]) h3 h2 h1
        (by rw [nn sp h3, nn n h1]; show ¬ _ > ((arrV (cF .int) n0 (fun j => .int (aI σ a j))).slots.size : Int); rw [arrV_size]; omega)
        (by rw [nn dp h2, nn n h1]; show ¬ _ > ((arrV (cF .int) n1 (fun j => .int (aI σ b j))).slots.size : Int); rw [arrV_size]; omega)
        (fun vm₁ _ i hi => by
          have e9 : (arrV (cF .int) n0 (fun j => Value.int (aI σ a j))).slots.getD (sp.toNatClampNeg + i) .null = .int (aI σ a (sp.toNatClampNeg + i)) := by
            rw [Array.getD_eq_getD_getElem?, arrV_read _ _ (by omega)]
            rfl
          refine ⟨?_, ?_⟩
          · rw [e9]; rfl
          · rw [e9]; exact trivial)
        (g := F0 m pc ls ((Value.int n :: .int dp :: .ref b :: .int sp :: .ref a :: st').map (cv fa B fm))) rfl (by rw [hml]; exact S.2.2.2.1) (rest := st'.map (cv fa B fm)) rfl (by rw [hb]; exact hd) (by omega) (by
          have hcat : ((st'.map (cv fa B fm)).map fun v => v.category).sum = cats st' := by rw [List.map_map]; unfold cats; congr 1; exact List.map_congr_left (fun v _ => cat_cv hB.2.2.2.1 v)
          have hnw : nativeFrameWords "java/lang/System" "arraycopy" 5 ≤ 20 := by decide +kernel
          show 2 * 0 + _ + _ ≤ _
          rw [hcat]
          omega)
      have e1 : copied (arrV (cF .int) n0 (fun j => Value.int (aI σ a j))) (arrV (cF .int) n1 (fun j => Value.int (aI σ b j))) sp dp n = arrV (cF .int) n1 (fun j => Value.int (va_cpy (aI σ a) (aI σ b) sp.toNatClampNeg dp.toNatClampNeg n.toNatClampNeg j)) := va_copied (fun z => .int z) _ _ _ _ h4
      rw [e1] at X' step
      have hl9 : rho fa B b < H.size := (Array.getElem?_eq_some_iff.mp hcb).1
      have hheap : ((T.setVm vm').setCell (rho fa B b) (arrV (cF .int) n1 (fun j => Value.int (va_cpy (aI σ a) (aI σ b) sp.toNatClampNeg dp.toNatClampNeg n.toNatClampNeg j)))).heap = H.setIfInBounds (rho fa B b) (arrV (cF .int) n1 (fun j => Value.int (va_cpy (aI σ a) (aI σ b) sp.toNatClampNeg dp.toNatClampNeg n.toNatClampNeg j))) := by rw [← hT]; rfl
      have oq : ∀ q : Nat, q ≠ rho fa B b → (H.setIfInBounds (rho fa B b) (arrV (cF .int) n1 (fun j => Value.int (va_cpy (aI σ a) (aI σ b) sp.toNatClampNeg dp.toNatClampNeg n.toNatClampNeg j))))[q]? = H[q]? := fun q hq => by simp [Array.getElem?_setIfInBounds, Ne.symm hq]
      have hself : (H.setIfInBounds (rho fa B b) (arrV (cF .int) n1 (fun j => Value.int (va_cpy (aI σ a) (aI σ b) sp.toNatClampNeg dp.toNatClampNeg n.toNatClampNeg j))))[rho fa B b]? = some (arrV (cF .int) n1 (fun j => Value.int (va_cpy (aI σ a) (aI σ b) sp.toNatClampNeg dp.toNatClampNeg n.toNatClampNeg j))) := by simp [Array.getElem?_setIfInBounds, hl9]
      refine Exists.elim (kk (H.setIfInBounds (rho fa B b) (arrV (cF .int) n1 (fun j => Value.int (va_cpy (aI σ a) (aI σ b) sp.toNatClampNeg dp.toNatClampNeg n.toNatClampNeg j)))) _ ls cells slots ⟨Rel_set S.1 hb17 hkb rfl (fun q hq => ud_n hq) (fun q hq => rfl) (fun q hq => rfl) (by simp) oq ⟨hty, hself.trans ?_⟩, ?_, S.2.2⟩ rfl rfl _ hheap X') (fun t q => ⟨t, step t q.1, q.2⟩)
      · show some (arrV _ _ _) = some (arrV _ _ (fun j => .int (va_up (aI σ) b (va_cpy (aI σ a) (aI σ b) sp.toNatClampNeg dp.toNatClampNeg n.toNatClampNeg) b j)))
        rw [ud_s]
      · refine ⟨by simp; exact S.2.1.1, fun q g1 g2 => ?_, fun q hq => ?_⟩
        · rw [oq q (fun e => g2 (by rw [e]; show B ≤ rho fa B b; rw [rho_own hb17]; omega))]
          exact S.2.1.2.1 q g1 g2
        · rcases List.mem_append.mp hq with h | h
          · exact S.2.1.2.2 q h
          · obtain ⟨z, -, hz⟩ := List.mem_map.mp h
            rw [← hz]
            show B ≤ rho fa B b
            rw [rho_own hb17]
            omega
    · rename_i n0 n1 hka hkb
      split at h <;> cases h
      rename_i hc
      obtain ⟨h4, h5⟩ := hc
      obtain ⟨hty, hca⟩ := S.1.2.2.2 a _ ha17 hka
      obtain ⟨-, hcb⟩ := S.1.2.2.2 b _ hb17 hkb
      obtain ⟨-, k0, hk0, cm0, hkk0⟩ := (tyK hB.1 hty).1 n0 (fun j => .long (aJ σ a j))
      intro T hT X
      obtain ⟨vm', X', step⟩ := X.arraycopy hx hown (hts _ (w_ac hac)) (hts _ wAN) (hts _ wAS) (hts _ wAI) (src := rho fa B a) (dst := rho fa B b) (cs := arrV (cF .long) n0 (fun j => .long (aJ σ a j))) (cd := arrV (cF .long) n1 (fun j => .long (aJ σ b j))) (srcPos := sp) (destPos := dp) (n := n) (by rw [hT]; exact hca) (by rw [hT]; exact hcb)
        (fun _ h => by cases h) (fun _ h => by cases h) (fun h => by cases h) (fun h => by cases h) hk0 hk0 hkk0 hkk0 (by simp [refKind]) h3 h2 h1
        (by rw [nn sp h3, nn n h1]; show ¬ _ > ((arrV (cF .long) n0 (fun j => .long (aJ σ a j))).slots.size : Int); rw [arrV_size]; omega)
        (by rw [nn dp h2, nn n h1]; show ¬ _ > ((arrV (cF .long) n1 (fun j => .long (aJ σ b j))).slots.size : Int); rw [arrV_size]; omega)
        (fun vm₁ _ i hi => by
          have e9 : (arrV (cF .long) n0 (fun j => Value.long (aJ σ a j))).slots.getD (sp.toNatClampNeg + i) .null = .long (aJ σ a (sp.toNatClampNeg + i)) := by
            rw [Array.getD_eq_getD_getElem?, arrV_read _ _ (by omega)]
            rfl
          refine ⟨?_, ?_⟩
          · rw [e9]; rfl
          · rw [e9]; exact trivial)
        (g := F0 m pc ls ((Value.int n :: .int dp :: .ref b :: .int sp :: .ref a :: st').map (cv fa B fm))) rfl (by rw [hml]; exact S.2.2.2.1) (rest := st'.map (cv fa B fm)) rfl (by rw [hb]; exact hd) (by omega) (by
          have hcat : ((st'.map (cv fa B fm)).map fun v => v.category).sum = cats st' := by rw [List.map_map]; unfold cats; congr 1; exact List.map_congr_left (fun v _ => cat_cv hB.2.2.2.1 v)
          have hnw : nativeFrameWords "java/lang/System" "arraycopy" 5 ≤ 20 := by decide +kernel
          show 2 * 0 + _ + _ ≤ _
          rw [hcat]
          omega)
      have e1 : copied (arrV (cF .long) n0 (fun j => Value.long (aJ σ a j))) (arrV (cF .long) n1 (fun j => Value.long (aJ σ b j))) sp dp n = arrV (cF .long) n1 (fun j => Value.long (va_cpy (aJ σ a) (aJ σ b) sp.toNatClampNeg dp.toNatClampNeg n.toNatClampNeg j)) := va_copied (fun z => .long z) _ _ _ _ h4
      rw [e1] at X' step
      have hl9 : rho fa B b < H.size := (Array.getElem?_eq_some_iff.mp hcb).1
      have hheap : ((T.setVm vm').setCell (rho fa B b) (arrV (cF .long) n1 (fun j => Value.long (va_cpy (aJ σ a) (aJ σ b) sp.toNatClampNeg dp.toNatClampNeg n.toNatClampNeg j)))).heap = H.setIfInBounds (rho fa B b) (arrV (cF .long) n1 (fun j => Value.long (va_cpy (aJ σ a) (aJ σ b) sp.toNatClampNeg dp.toNatClampNeg n.toNatClampNeg j))) := by rw [← hT]; rfl
      have oq : ∀ q : Nat, q ≠ rho fa B b → (H.setIfInBounds (rho fa B b) (arrV (cF .long) n1 (fun j => Value.long (va_cpy (aJ σ a) (aJ σ b) sp.toNatClampNeg dp.toNatClampNeg n.toNatClampNeg j))))[q]? = H[q]? := fun q hq => by simp [Array.getElem?_setIfInBounds, Ne.symm hq]
      have hself : (H.setIfInBounds (rho fa B b) (arrV (cF .long) n1 (fun j => Value.long (va_cpy (aJ σ a) (aJ σ b) sp.toNatClampNeg dp.toNatClampNeg n.toNatClampNeg j))))[rho fa B b]? = some (arrV (cF .long) n1 (fun j => Value.long (va_cpy (aJ σ a) (aJ σ b) sp.toNatClampNeg dp.toNatClampNeg n.toNatClampNeg j))) := by simp [Array.getElem?_setIfInBounds, hl9]
      refine Exists.elim (kk (H.setIfInBounds (rho fa B b) (arrV (cF .long) n1 (fun j => Value.long (va_cpy (aJ σ a) (aJ σ b) sp.toNatClampNeg dp.toNatClampNeg n.toNatClampNeg j)))) _ ls cells slots ⟨Rel_set S.1 hb17 hkb rfl (fun q hq => rfl) (fun q hq => ud_n hq) (fun q hq => rfl) (by simp) oq ⟨hty, hself.trans ?_⟩, ?_, S.2.2⟩ rfl rfl _ hheap X') (fun t q => ⟨t, step t q.1, q.2⟩)
      · show some (arrV _ _ _) = some (arrV _ _ (fun j => .long (va_up (aJ σ) b (va_cpy (aJ σ a) (aJ σ b) sp.toNatClampNeg dp.toNatClampNeg n.toNatClampNeg) b j)))
        rw [ud_s]
      · refine ⟨by simp; exact S.2.1.1, fun q g1 g2 => ?_, fun q hq => ?_⟩
        · rw [oq q (fun e => g2 (by rw [e]; show B ≤ rho fa B b; rw [rho_own hb17]; omega))]
          exact S.2.1.2.1 q g1 g2
        · rcases List.mem_append.mp hq with h | h
          · exact S.2.1.2.2 q h
          · obtain ⟨z, -, hz⟩ := List.mem_map.mp h
            rw [← hz]
            show B ≤ rho fa B b
            rw [rho_own hb17]
            omega
  · exact (doCall_no h).elim
set_option maxHeartbeats 4000000 in
theorem so_invokespecial {len pc pc' : Nat} {L st L' st' : List Value} {σ σ' : aS} {x : Nat} (C : Cx D cF fa B fm sc p R s m args meth c mi) (S : St D cF fa B fm mi s σ H locs ls L) (hd : decode (mC mi) pc = .ok (.invokespecial x, len)) (h : stpI sc mi (.invokespecial x) len pc L st σ = some (.inl (pc', L', st', σ')))
    (kk : ∀ (H' : Heap) (locs' : List Loc) (ls' : Array Slot) (cells' slots' : Nat), St D cF fa B fm mi s σ' H' locs' ls' L' → cells' + σ.1.length = cells + σ'.1.length → slots' + nS σ = slots + nS σ' → W p l e R s m args below meth c H' locs' cells' slots' Q (F0 m pc' ls' (st'.map (cv fa B fm)))) : W p l e R s m args below meth c H locs cells slots Q (F0 m pc ls (st.map (cv fa B fm))) := by
  obtain ⟨hx, hb, hml, hown, hts, hrt, hlk, hin, hB, hfr, hlo⟩ := C
  simp only [stpI, nx] at h
  split at h <;> try cases h
  rename_i hl
  subst hl
  split at h
  · rename_i hoi
    split at h <;> try cases h
    rename_i b r
    split at h <;> cases h
    rename_i hc8
    have hcat : ((st'.map (cv fa B fm)).map fun v => v.category).sum = cats st' := by rw [List.map_map]; unfold cats; congr 1; exact List.map_congr_left (fun v _ => cat_cv hB.2.2.2.1 v)
    refine W.objInit hx hb hown (hts _ (w_oi hoi)) (hts _ wOI) (hts _ wOC) rfl (by rw [hml]; exact S.2.2.2.1) rfl hd (by omega) (by show 2 * 0 + _ + 12 ≤ _; rw [hcat]; omega) ?_
    exact (kk _ _ _ _ _ ⟨S.1, S.2.1, S.2.2⟩ rfl rfl)
  · split at h <;> exact (doCall_no h).elim
set_option maxHeartbeats 4000000 in
theorem so_invokevirtual {len pc pc' : Nat} {L st L' st' : List Value} {σ σ' : aS} {x : Nat} (C : Cx D cF fa B fm sc p R s m args meth c mi) (S : St D cF fa B fm mi s σ H locs ls L) (hd : decode (mC mi) pc = .ok (.invokevirtual x, len)) (h : stpI sc mi (.invokevirtual x) len pc L st σ = some (.inl (pc', L', st', σ')))
    (kk : ∀ (H' : Heap) (locs' : List Loc) (ls' : Array Slot) (cells' slots' : Nat), St D cF fa B fm mi s σ' H' locs' ls' L' → cells' + σ.1.length = cells + σ'.1.length → slots' + nS σ = slots + nS σ' → W p l e R s m args below meth c H' locs' cells' slots' Q (F0 m pc' ls' (st'.map (cv fa B fm)))) : W p l e R s m args below meth c H locs cells slots Q (F0 m pc ls (st.map (cv fa B fm))) := by
  obtain ⟨hx, hb, hml, hown, hts, hrt, hlk, hin, hB, hfr, hlo⟩ := C
  simp only [stpI, nx] at h
  split at h <;> try cases h
  exact (doCall_no h).elim
end HM
