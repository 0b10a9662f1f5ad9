/-! what the Statement gives of the start is what the abstract machine stands on -/
def flN : List Jvm.Cond := flatC (Jvm.Cond.and given_1 narrow_1)
def inN (w : Jvm.Cond) : Bool := decide (w ∈ flN)
def tmA (o : Nat) : Term := .static (sD (o - 1)).1 (sD (o - 1)).2.1 (sD (o - 1)).2.2
def tmS (i : Nat) : Term := .string "FetchRope$Text" (sIx.getD i (0, "")).1
theorem nar_1 : (List.range' 1 4).all (fun o => inN (.arrayOf (tmA o) .int) && inN (.eq (.length (tmA o)) (.int (Int32.ofNat (fN o)))) && (List.range (fN o)).all (fun j => inN (.eq (.elem (tmA o) (.int (Int32.ofNat j))) (.int (fI o j))))) = true := by decide +kernel
theorem nar_2 : (inN (.eq (.static "java/lang/String" "COMPACT_STRINGS" "Z") (.int 1)) && inN (.isRef (.static "jdk/internal/util/Preconditions" "SIOOBE_FORMATTER" "Ljava/util/function/BiFunction;"))) = true := by decide +kernel
theorem nar_3 : (List.range 6).all (fun i => inN (.exactly (tmS i) "java/lang/String") && inN (.eq (.field (tmS i) "java/lang/String" "coder" "B") (.int 0)) && inN (.arrayOf (.field (tmS i) "java/lang/String" "value" "[B") .byte) && inN (.eq (.length (.field (tmS i) "java/lang/String" "value" "[B")) (.int (Int32.ofNat (fN (i + 11))))) && (List.range (fN (i + 11))).all (fun j => inN (.eq (.elem (.field (tmS i) "java/lang/String" "value" "[B") (.int (Int32.ofNat j))) (.int (fI (i + 11) j))))) = true := by decide +kernel
theorem nar_4 : (List.range 6).all (fun i => (List.range 6).all (fun j => decide (i = j) || inN (.not (.eq (tmS i) (tmS j))) || inN (.not (.eq (tmS j) (tmS i))))) = true := by decide +kernel
section BSE
variable {s : State} {args : Array Value}
theorem bs_tys (hts : ∀ w ∈ lw_tbl, w.before args s = true) : ∀ ty : FieldType, ∃ cA : ClassId, ty ∈ tyS → ArrOfT s cA ty ∧ va_RA s cA ty := by
  have hG : ∀ w ∈ wsG, w.before args s = true := fun w hw => hts w (List.mem_filter.mp hw).1
  have pr : ∀ ty : FieldType, (∀ c, va_RA s c ty = (s.vm.findClass ("[" ++ ty.toString) = some c)) → (Jvm.Cond.arrayClass ty).before args s = true → ∃ cA : ClassId, ArrOfT s cA ty ∧ va_RA s cA ty := fun ty he h => by
    obtain ⟨c, k, comp, h1, h2, h3⟩ := Cond.arrayClass_spec h
    exact ⟨c, fun n z => ⟨fun k h => (by cases h), k, h2, comp, h3⟩, by rw [he]; exact h1⟩
  have ob : ∀ C : String, (Jvm.Cond.arrayOver (.object C)).before args s = true → ∃ cA : ClassId, ArrOfT s cA (.object C) ∧ va_RA s cA (.object C) := fun C h => by
    obtain ⟨comp, c, k, h1, h2, h3, h4, h5⟩ := Cond.arrayOver_spec h
    exact ⟨c, fun n z => ⟨fun k h => (by cases h), k, h3, comp, h4⟩, k, comp, h3, h4, h1, h5⟩
  intro ty
  by_cases h : ty ∈ tyS
  · have h9 := h
    simp only [tyS, List.mem_cons, List.not_mem_nil, or_false] at h9
    rcases h9 with rfl | rfl | rfl | rfl | rfl | rfl | rfl
    · obtain ⟨c, q⟩ := pr .int (fun _ => rfl) (hG _ wA_int); exact ⟨c, fun _ => q⟩
    · obtain ⟨c, q⟩ := pr .long (fun _ => rfl) (hG _ wA_long); exact ⟨c, fun _ => q⟩
    · obtain ⟨c, q⟩ := pr .byte (fun _ => rfl) (hG _ wA_byte); exact ⟨c, fun _ => q⟩
    · obtain ⟨c, q⟩ := pr .boolean (fun _ => rfl) (hG _ wA_boolean); exact ⟨c, fun _ => q⟩
    · obtain ⟨c, q⟩ := ob "FetchRope$Hill" (hts _ wT_hill); exact ⟨c, fun _ => q⟩
    · obtain ⟨c, q⟩ := ob "FetchRope$Tape" (hts _ wT_tape); exact ⟨c, fun _ => q⟩
    · obtain ⟨comp, c, k, h1, h2, h3, h4, h5⟩ := arrayOverA_spec (hts _ wT_grid)
      exact ⟨c, fun _ => ⟨fun n z => ⟨fun k h => (by cases h), k, h3, comp, h4⟩, h5⟩⟩
  · exact ⟨0, fun q => absurd q h⟩
theorem bs_cls (hts : ∀ w ∈ lw_tbl, w.before args s = true) : ∀ ci : Nat, ∃ q : ClassId × (Nat → Nat), ci < 8 → u_Kn s (cN ci) (fT ci) (nfl ci) q.1 q.2 := by
  have hG : ∀ w ∈ wsG, w.before args s = true := fun w hw => hts w (List.mem_filter.mp hw).1
  intro ci
  by_cases h : ci < 8
  · have hIn := List.all_eq_true.mp ins_ok ci (List.mem_range.mpr h)
    obtain ⟨c, i, q⟩ := u_known (C := cN ci) (T := fT ci) (N := nfl ci) (n := nfl ci) hG (clW h) (hG _ (isW_in hIn))
    exact ⟨(c, i), fun _ => q⟩
  · exact ⟨(0, fun _ => 0), fun q => absurd q h⟩
theorem inN_b (hgv : (Jvm.Cond.and given_1 narrow_1).before args s = true) {w : Jvm.Cond} (h : inN w = true) : w.before args s = true := flat_of_before _ hgv w (of_decide_eq_true h)
theorem bs_arr (hgv : (Jvm.Cond.and given_1 narrow_1).before args s = true) : ∀ o : Nat, ∃ t : Nat, 1 ≤ o → o < 5 → (tmA o).eval args s none [] s = some (.ref t) ∧ va_T .int t (fN o) (fun j => .int (fI o j)) (Bo s.heap.size) s s.heap := by
  intro o
  by_cases h : 1 ≤ o ∧ o < 5
  · have q := List.all_eq_true.mp nar_1 o (List.mem_range'_1.mpr ⟨h.1, by omega⟩)
    simp only [Bool.and_eq_true] at q
    obtain ⟨⟨q1, q2⟩, q3⟩ := q
    have hlt : fN o < 2 ^ 31 := by
      have := List.all_eq_true.mp (show (List.range 17).all (fun o => decide (fN o < 2 ^ 31)) = true by decide +kernel) o (List.mem_range.mpr (by omega))
      exact of_decide_eq_true this
    obtain ⟨t, h1, h2⟩ := va_Tof (args := args) (s := s) (tm := tmA o) (ty := .int) (N := fN o) (f := fun j => .int (fI o j)) (A := Bo s.heap.size) hlt (inN_b hgv q1) (va_eqt (inN_b hgv q2)) (fun j hj => va_eqt (inN_b hgv (List.all_eq_true.mp q3 j (List.mem_range.mpr hj)))) (fun a h => Nat.not_le.mpr h)
    exact ⟨t, fun _ _ => ⟨h1, h2⟩⟩
  · exact ⟨0, fun a b => absurd ⟨a, b⟩ h⟩
theorem bs_str (hgv : (Jvm.Cond.and given_1 narrow_1).before args s = true) : ∃ adK adV : Nat → Nat, vk_S 6 ((List.range 6).map (fun i => fN (i + 11))) ((List.range 6).map (fun i => fIl.getD (i + 11) [])) adK adV (Bo s.heap.size) s s.heap ∧ ∀ i : Nat, i < 6 → (tmS i).eval args s none [] s = some (.ref (adK i)) := by
  have e1 : ∀ i, i < 6 → ((List.range 6).map (fun i => fN (i + 11))).getD i 0 = fN (i + 11) := by decide +kernel
  have e2 : ∀ i, i < 6 → ((List.range 6).map (fun i => fIl.getD (i + 11) [])).getD i [] = fIl.getD (i + 11) [] := by decide +kernel
  have q := fun i (hi : i < 6) => by
    have q := List.all_eq_true.mp nar_3 i (List.mem_range.mpr hi)
    simp only [Bool.and_eq_true] at q
    exact q
  refine vk_Sof (tm := tmS) (fun i hi => ?_) (fun i hi => inN_b hgv (q i hi).1.1.1.1) (fun i hi => inN_b hgv (q i hi).1.1.1.2) (fun i hi => inN_b hgv (q i hi).1.1.2) (fun i hi => ?_) (fun i hi j hj => ?_) (fun i j hi hj hij => ?_) (fun a h => Nat.not_le.mpr h)
  · rw [e1 i hi]
    have := List.all_eq_true.mp (show (List.range 17).all (fun o => decide (fN o < 2 ^ 31)) = true by decide +kernel) (i + 11) (List.mem_range.mpr (by omega))
    exact of_decide_eq_true this
  · rw [e1 i hi]
    exact inN_b hgv (q i hi).1.2
  · rw [e1 i hi] at hj
    rw [e2 i hi]
    exact inN_b hgv (List.all_eq_true.mp (q i hi).2 j (List.mem_range.mpr hj))
  · have h := List.all_eq_true.mp (List.all_eq_true.mp nar_4 i (List.mem_range.mpr hi)) j (List.mem_range.mpr hj)
    simp only [Bool.or_eq_true, decide_eq_true_eq] at h
    rcases h with (h | h) | h
    · exact absurd h hij
    · exact Or.inl (inN_b hgv h)
    · exact Or.inr (inN_b hgv h)
theorem isT_in {k : Nat} {w : Jvm.Cond} (h : isT k w = true) : w ∈ lw_tbl := by
  unfold isT at h
  simp only [beq_iff_eq] at h
  exact List.mem_of_getElem? h
theorem nest_of {α : Type} {l : List α} {P : List Nat} {f : α → Jvm.Cond} (h : (l.zip P).all (fun e => isT e.2 (f e.1)) = true) (hl : l.length ≤ P.length) {x : α} (hx : x ∈ l) : f x ∈ lw_tbl := by
  obtain ⟨i, hi⟩ := List.getElem?_of_mem hx
  have hil : i < l.length := (List.getElem?_eq_some_iff.mp hi).1
  have hp : P[i]? = some (P[i]'(by omega)) := List.getElem?_eq_getElem (by omega)
  have hz : (l.zip P)[i]? = some (x, P[i]'(by omega)) := by rw [List.getElem?_zip_eq_some]; exact ⟨hi, hp⟩
  exact isT_in (List.all_eq_true.mp h _ (List.mem_of_getElem? hz))
/-- the start -/
theorem base_of {b L : Nat} {xs : Nat → Int32} (hts : ∀ w ∈ lw_tbl, w.before args s = true) (hX : va_X b L xs s s.heap) (hbl : b < s.heap.size) (hgv : (Jvm.Cond.and given_1 narrow_1).before args s = true) : ∃ (D : va_G) (cF : FieldType → ClassId) (fa : Nat → Nat) (fm : Value), Bs D cF fa s.heap.size fm (some (L, xs)) s s.heap ∧ fa 0 = b := by
  obtain ⟨cf, hcf⟩ := Classical.axiomOfChoice (bs_cls hts)
  obtain ⟨cF, hcF⟩ := Classical.axiomOfChoice (bs_tys hts)
  obtain ⟨ar, har⟩ := Classical.axiomOfChoice (bs_arr hgv)
  obtain ⟨adK, adV, hstr, hsr⟩ := bs_str hgv
  have hA : ∀ a : Nat, a < s.heap.size → ¬ Bo s.heap.size a := fun a h => Nat.not_le.mpr h
  have hls := fun i (hi : i < 6) => by
    have q := List.all_eq_true.mp ls_ok i (List.mem_range.mpr hi)
    simp only [Bool.and_eq_true] at q
    exact (⟨hts _ (isT_in q.1), hts _ (isT_in q.2)⟩ : (Cond.laysStatic (sD i).1 (sD i).2.1 (sD i).2.2).before args s = true ∧ (Cond.initialized (sD i).1).before args s = true)
  have h2 := nar_2
  simp only [Bool.and_eq_true] at h2
  have hcs := va_eqi (inN_b hgv h2.1)
  obtain ⟨fm, hfm, hZ5⟩ : ∃ fm : Value, fm.category = 1 ∧ va_Z (sD 5).1 (sD 5).2.1 (sD 5).2.2 fm (Bo s.heap.size) s s.heap := by
    rcases va_Zqof (hls 5 (by omega)).1 (hls 5 (by omega)).2 (inN_b hgv h2.2) hA with h | ⟨t, h⟩
    · exact ⟨.null, rfl, h⟩
    · exact ⟨.ref t, rfl, h⟩
  generalize hfa : (fun k => if k = 0 then b else if k < 5 then ar k else if k < 11 then adK (k - 5) else adV (k - 11) : Nat → Nat) = fa
  have f0 : fa 0 = b := by rw [← hfa]; rfl
  have f1 : ∀ i, 1 ≤ i → i < 5 → fa i = ar i := fun i a b => by
    rw [← hfa]
    show (if i = 0 then _ else if i < 5 then _ else _) = _
    rw [if_neg (by omega), if_pos b]
  have f2 : ∀ i, 5 ≤ i → i < 11 → fa i = adK (i - 5) := fun i a b => by
    rw [← hfa]
    show (if i = 0 then _ else if i < 5 then _ else if i < 11 then _ else _) = _
    rw [if_neg (by omega), if_neg (by omega), if_pos b]
  have f3 : ∀ i, 11 ≤ i → fa i = adV (i - 11) := fun i a => by
    rw [← hfa]
    show (if i = 0 then _ else if i < 5 then _ else if i < 11 then _ else _) = _
    rw [if_neg (by omega), if_neg (by omega), if_neg (by omega)]
  have tlt : ∀ {ty : FieldType} {t N : Nat} {f : Nat → Value}, va_T ty t N f (Bo s.heap.size) s s.heap → t < s.heap.size := fun h => by
    obtain ⟨cell, h1, -⟩ := h
    exact (Array.getElem?_eq_some_iff.mp h1).1
  have g6 : ∀ i, 5 ≤ i → i < 11 → va_O "java/lang/String" (fa i) (Bo s.heap.size) s s.heap ∧ va_OF "java/lang/String" "coder" "B" (.int 0) (fa i) (Bo s.heap.size) s s.heap ∧ va_OF "java/lang/String" "value" "[B" (.ref (fa (i + 6))) (fa i) (Bo s.heap.size) s s.heap ∧ va_T .byte (fa (i + 6)) (fN (i + 6)) (fun j => .int (fI (i + 6) j)) (Bo s.heap.size) s s.heap := fun i a b => by
    have e1 : ∀ i, i < 6 → ((List.range 6).map (fun i => fN (i + 11))).getD i 0 = fN (i + 11) := by decide +kernel
    have e2 : ∀ i, i < 6 → ((List.range 6).map (fun i => fIl.getD (i + 11) [])).getD i [] = fIl.getD (i + 11) [] := by decide +kernel
    have q := hstr.1 (i - 5) (by omega)
    rw [e1 (i - 5) (by omega), e2 (i - 5) (by omega), show i - 5 + 11 = i + 6 by omega] at q
    rw [f2 i a b, f3 (i + 6) (by omega), show i + 6 - 11 = i - 5 by omega]
    exact q
  refine ⟨(fun k => (cf k).1, fun k => (cf k).2), cF, fa, fm, ⟨⟨fun k q hk => ?_, fun k q hk => ?_⟩, Nat.le_refl _, fun i hi => ?_, hfm, fun i hi => ?_, fun i a b => ?_, g6, fun L9 xs9 e => ?_, fun i hi => ?_, hts _ wT_hill, hts _ wT_tape, hts _ wT_grid, fun e he => ?_, fun e he => ?_⟩, f0⟩
  · have h8 : k < 8 := (List.getElem?_eq_some_iff.mp hk).1
    rw [clV h8] at hk
    cases hk
    exact hcf k h8
  · rw [List.getElem?_map] at hk
    cases ht : tyS[k]? with
    | none => rw [ht] at hk; cases hk
    | some t =>
      rw [ht] at hk
      cases hk
      exact hcF t (List.mem_of_getElem? ht)
  · by_cases h0 : i = 0
    · rw [h0, f0]; exact hbl
    · by_cases h5 : i < 5
      · rw [f1 i (by omega) h5]; exact tlt (har i (by omega) h5).2
      · by_cases h11 : i < 11
        · obtain ⟨cell, q1, -⟩ := (g6 i (by omega) h11).1
          exact (Array.getElem?_eq_some_iff.mp q1).1
        · have := (g6 (i - 6) (by omega) (by omega)).2.2.2
          rw [show i - 6 + 6 = i by omega] at this
          exact tlt this
  · match i, hi with
    | 0, _ => exact va_Zof (hls 0 (by omega)).1 (hls 0 (by omega)).2 (by show (tmA 1).eval args s none [] s = some (.ref (fa 1)); rw [f1 1 (by omega) (by omega)]; exact (har 1 (by omega) (by omega)).1) hA
    | 1, _ => exact va_Zof (hls 1 (by omega)).1 (hls 1 (by omega)).2 (by show (tmA 2).eval args s none [] s = some (.ref (fa 2)); rw [f1 2 (by omega) (by omega)]; exact (har 2 (by omega) (by omega)).1) hA
    | 2, _ => exact va_Zof (hls 2 (by omega)).1 (hls 2 (by omega)).2 (by show (tmA 3).eval args s none [] s = some (.ref (fa 3)); rw [f1 3 (by omega) (by omega)]; exact (har 3 (by omega) (by omega)).1) hA
    | 3, _ => exact va_Zof (hls 3 (by omega)).1 (hls 3 (by omega)).2 (by show (tmA 4).eval args s none [] s = some (.ref (fa 4)); rw [f1 4 (by omega) (by omega)]; exact (har 4 (by omega) (by omega)).1) hA
    | 4, _ => exact va_Zof (hls 4 (by omega)).1 (hls 4 (by omega)).2 hcs hA
    | 5, _ => exact hZ5
  · rw [f1 i a b]; exact (har i a b).2
  · cases e
    obtain ⟨scr, x1, x2, x3, x4, x5⟩ := hX
    rw [f0]
    exact ⟨scr, x1, x2, x3, by omega, by rw [x4] <;> rfl, x5, hA b hbl⟩
  · rw [f2 (5 + i) (by omega) (by omega), show 5 + i - 5 = i by omega]
    have q := List.all_eq_true.mp sr_ok i (List.mem_range.mpr hi)
    exact vk_R.of (hts _ (isT_in q)) (hsr i hi)
  · exact va_Nw.of rfl (hts _ (nest_of (f := fun e : Nat × Nat × Nat => Cond.methodLinkNest (cN e.1) e.2.1 (mY e.2.2) "FetchRope") mnC_ok (by decide +kernel) he))
  · exact va_Nw.of rfl (hts _ (nest_of (f := fun e : Nat × Nat × Nat => Cond.fieldLinkNest (cN e.1) e.2.1 (sD e.2.2).1 (sD e.2.2).2.1 (sD e.2.2).2.2 "FetchRope") snC_ok (by decide +kernel) he))
end BSE
