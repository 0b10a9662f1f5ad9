/-! what ties the abstract cells to the heap -/
def fK : List aK := [.inl 99, .inr (.int, 7), .inr (.int, 21), .inr (.int, 21), .inr (.int, 21), .inl 8, .inl 8, .inl 8, .inl 8, .inl 8, .inl 8, .inr (.byte, 5), .inr (.byte, 4), .inr (.byte, 5), .inr (.byte, 5), .inr (.byte, 6), .inr (.byte, 3)]
def fIl : List (List Int32) := [[], [-1, 0, 0, 0, 1, 2, 3], [0, 0, 0, 0, 0, 0, 1, 1, 1, 1, 1, 2, 2, 2, 2, 3, 3, 3, 4, 4, 5], [1, 2, 3, 4, 5, 6, 2, 3, 4, 5, 6, 3, 4, 5, 6, 4, 5, 6, 5, 6, 6], [10, 0, 30, 0, 50, 0, 71, 11, 20, 0, 0, 51, 0, 70, 12, 0, 0, 40, 0, 60, 0], [], [], [], [], [], [], [108, 117, 115, 104, 32], [110, 111, 119, 32], [114, 111, 112, 101, 32], [110, 101, 101, 100, 32], [115, 107, 118, 100, 108, 104], [60, 61, 62]]
def fI (o k : Nat) : Int32 := (fIl.getD o []).getD k 0
def fR (o k : Nat) : Option Nat := if 5 ≤ o ∧ o < 11 ∧ k = 0 then some (o + 6) else none
def fN (o : Nat) : Nat := (fIl.getD o []).length
def sIx : List (Nat × String) := [(37, "lush "), (39, "now "), (41, "rope "), (43, "need "), (75, "skvdlh"), (81, "<=>")]
def tyS : List FieldType := [.int, .long, .byte, .boolean, .object "FetchRope$Hill", .object "FetchRope$Tape", .array .int]
def rho (fa : Nat → Nat) (B k : Nat) : Nat := if k < 17 then fa k else B + (k - 17)
def cv (fa : Nat → Nat) (B : Nat) (fm : Value) : Value → Value
  | .ref k => .ref (rho fa B k)
  | .retAddr _ => fm
  | v => v
abbrev Bo (B : Nat) : Nat → Prop := fun q => B ≤ q
def Frn (σ : aS) : Prop := (∀ o, o < 17 → σ.1[o]? = fK[o]?) ∧ (∀ o, 0 < o → o < 17 → aI σ o = fI o) ∧ ∀ o, o < 17 → aR σ o = fR o
/-- a row's cell -/
def rowC (fa : Nat → Nat) (B : Nat) (cA : ClassId) (σ : aS) (o : Nat) (ty : FieldType) (n : Nat) : Cell := match ty with
  | .long => arrV cA n (fun j => .long (aJ σ o j))
  | .object _ | .array _ => arrV cA n (fun j => va_rf ((aR σ o j).map (rho fa B)))
  | _ => arrV cA n (fun j => .int (aI σ o j))
def atO (D : va_G) (cF : FieldType → ClassId) (fa : Nat → Nat) (B : Nat) (fm : Value) (σ : aS) (o : Nat) (H : Heap) : aK → Prop
  | .inl ci => ci < 8 ∧ t_OB (rho fa B o) (D.1 ci) (nfl ci) (D.2 ci) H (fun k => cv fa B fm (fvl σ o k (cty ci k)))
  | .inr (ty, n) => ty ∈ tyS ∧ H[rho fa B o]? = some (rowC fa B (cF ty) σ o ty n)
def Rel (D : va_G) (cF : FieldType → ClassId) (fa : Nat → Nat) (B : Nat) (fm : Value) (σ : aS) (H : Heap) : Prop :=
  Frn σ ∧ 17 ≤ σ.1.length ∧ H.size = B + (σ.1.length - 17) ∧ ∀ o kd, 17 ≤ o → σ.1[o]? = some kd → atO D cF fa B fm σ o H kd
/-- the tables' word on grids of ints -/
def AOA (U : State) : Prop := (Jvm.Cond.arrayOver (.array .int)).before #[] U = true
theorem AOA.moved {u U : State} (hvm : u.vm.Alike U.vm) (h : AOA u) : AOA U := by
  obtain ⟨comp, c, k, h1, h2, h3, h4, h5⟩ := arrayOverA_spec h
  obtain ⟨k', hk', he⟩ := hvm.2.2 _ _ h3
  have e1 : U.vm.findClass (FieldType.array .int).toString = some comp := by rw [hvm.findClass]; exact h1
  have e5 : U.vm.findClass ("[" ++ (FieldType.array .int).toString) = some c := by rw [hvm.findClass]; exact h5
  show (Jvm.Cond.arrayOver (.array .int)).holds #[] U none U [] = true
  simp only [Jvm.Cond.holds, Jvm.Cond.value, e1, Option.bind_some, beq_iff_eq]
  rw [Option.bind_eq_some_iff]
  refine ⟨c, (hvm.findIdx?_eqK _ (fun _ => rfl)).trans h2, ?_⟩
  have e4 : k'.kind = .array comp (.array .int) := by rw [he]; exact h4
  simp [hk', e4, e5]
/-- what was there before, and stays -/
def Bs (D : va_G) (cF : FieldType → ClassId) (fa : Nat → Nat) (B : Nat) (fm : Value) (sc : Option (Nat × (Nat → Int32))) (s : State) (H : Heap) : Prop :=
  va_K D vwCl (tyS.map fun t => (cF t, t)) s ∧ B ≤ H.size ∧ (∀ i, i < 17 → fa i < B) ∧ fm.category = 1 ∧
  (∀ i, i < 6 → va_Z (sD i).1 (sD i).2.1 (sD i).2.2 (cv fa B fm (sVal i)) (Bo B) s H) ∧
  (∀ i, 1 ≤ i → i < 5 → va_T .int (fa i) (fN i) (fun j => .int (fI i j)) (Bo B) s H) ∧
  (∀ i, 5 ≤ i → i < 11 → va_O "java/lang/String" (fa i) (Bo B) s H ∧ va_OF "java/lang/String" "coder" "B" (.int 0) (fa i) (Bo B) s H ∧ va_OF "java/lang/String" "value" "[B" (.ref (fa (i + 6))) (fa i) (Bo B) s H ∧ va_T .byte (fa (i + 6)) (fN (i + 6)) (fun j => .int (fI (i + 6) j)) (Bo B) s H) ∧
  (∀ L xs, sc = some (L, xs) → va_T .int (fa 0) L (fun j => .int (xs j)) (Bo B) s H) ∧
  (∀ i, i < 6 → vk_R "FetchRope$Text" (sIx.getD i (0, "")).1 (sIx.getD i (0, "")).2 (fa (5 + i)) s) ∧
  va_AO "FetchRope$Hill" s ∧ va_AO "FetchRope$Tape" s ∧ AOA s ∧
  (∀ e, e ∈ mnT → va_Nw (.methodLinkNest (cN e.1) e.2.1 (mY e.2.2) "FetchRope") s) ∧ ∀ e, e ∈ snT → va_Nw (.fieldLinkNest (cN e.1) e.2.1 (sD e.2.2).1 (sD e.2.2).2.1 (sD e.2.2).2.2 "FetchRope") s
theorem Bs.moved {D : va_G} {cF : FieldType → ClassId} {fa : Nat → Nat} {B : Nat} {fm : Value} {sc : Option (Nat × (Nat → Int32))} {s U : State} {H H1 : Heap} (h : Bs D cF fa B fm sc s H) (hW : s.WarmedH U.vm) (hz : H.size ≤ H1.size) (hq : ∀ q, q < H.size → ¬ Bo B q → H1[q]? = H[q]?) : Bs D cF fa B fm sc U H1 := by
  obtain ⟨h1, h2, h3, h4, h5, h6, h7, h8, h9, g01, g02, g03, h10, h11⟩ := h
  have ha := hW.alike
  refine ⟨h1.moved ha, Nat.le_trans h2 hz, h3, h4, fun i hi => ((h5 i hi).moved ha).kept hq, fun i a b => ((h6 i a b).moved ha).kept hq, fun i a b => ?_, fun L xs e => ((h8 L xs e).moved ha).kept hq, fun i hi => (h9 i hi).warm hW, g01.moved ha, g02.moved ha, g03.moved ha, fun e he => (h10 e he).warmM hW, fun e he => (h11 e he).warmF hW⟩
  obtain ⟨g1, g2, g3, g4⟩ := h7 i a b
  exact ⟨(g1.moved ha).kept hq, (g2.moved ha).kept hq, (g3.moved ha).kept hq, (g4.moved ha).kept hq⟩
theorem Bs.same {D : va_G} {cF : FieldType → ClassId} {fa : Nat → Nat} {B : Nat} {fm : Value} {sc : Option (Nat × (Nat → Int32))} {s : State} {H H1 : Heap} (h : Bs D cF fa B fm sc s H) (hz : H.size ≤ H1.size) (hq : ∀ q, q < H.size → ¬ Bo B q → H1[q]? = H[q]?) : Bs D cF fa B fm sc s H1 := by
  obtain ⟨h1, h2, h3, h4, h5, h6, h7, h8, h9, g01, g02, g03, h10, h11⟩ := h
  refine ⟨h1, Nat.le_trans h2 hz, h3, h4, fun i hi => (h5 i hi).kept hq, fun i a b => (h6 i a b).kept hq, fun i a b => ?_, fun L xs e => (h8 L xs e).kept hq, h9, g01, g02, g03, h10, h11⟩
  obtain ⟨g1, g2, g3, g4⟩ := h7 i a b
  exact ⟨g1.kept hq, g2.kept hq, g3.kept hq, g4.kept hq⟩
theorem cat_cv {fa : Nat → Nat} {B : Nat} {fm : Value} (hf : fm.category = 1) (v : Value) : (cv fa B fm v).category = v.category := by cases v <;> first | rfl | exact hf
/-- the locals -/
def RL (fa : Nat → Nat) (B : Nat) (fm : Value) (ls : Array Slot) (n : Nat) (L : List Value) : Prop := L.length = n ∧ ls.size = n ∧ lv_wf ls ∧ ∀ (i : Nat) (v : Value), L[i]? = some v → v ≠ mk0 → ls[i]? = some (.val (cv fa B fm v))
def prs (fa : Nat → Nat) (B : Nat) (fm : Value) (L : List Value) : List (Nat × Value) := (List.range L.length).filterMap (fun i => match L[i]? with
  | some v => if v = mk0 then none else some (i, cv fa B fm v)
  | none => none)
theorem prs_mem {fa : Nat → Nat} {B : Nat} {fm : Value} {L : List Value} {q : Nat × Value} : q ∈ prs fa B fm L ↔ ∃ v, L[q.1]? = some v ∧ v ≠ mk0 ∧ q.2 = cv fa B fm v := by
  unfold prs
  rw [List.mem_filterMap]
  constructor
  · rintro ⟨i, hi, h⟩
    cases hv : L[i]? with
    | none => rw [hv] at h; cases h
    | some v =>
      rw [hv] at h
      simp only at h
      by_cases c : v = mk0
      · rw [if_pos c] at h; cases h
      · rw [if_neg c] at h
        cases h
        exact ⟨v, hv, c, rfl⟩
  · rintro ⟨v, hv, c, e⟩
    have hl : q.1 < L.length := (List.getElem?_eq_some_iff.mp hv).1
    refine ⟨q.1, List.mem_range.mpr hl, ?_⟩
    rw [hv]
    simp only
    rw [if_neg c, ← e]
theorem prs_has {fa : Nat → Nat} {B : Nat} {fm : Value} {ls : Array Slot} {n : Nat} {L : List Value} (h : RL fa B fm ls n L) : lv_has ls n (prs fa B fm L) := by
  refine ⟨h.2.1, h.2.2.1, fun q hq => ?_⟩
  obtain ⟨v, hv, c, e⟩ := prs_mem.mp hq
  rw [e]
  exact h.2.2.2 _ _ hv c
theorem okst_ne {fa : Nat → Nat} {B : Nat} {fm : Value} (hf : fm.category = 1) {L : List Value} {k : Nat} (h : okst L k = true) {i : Nat} {w : Value} (hw : L[i]? = some w) (hi : i + 1 = k) : (cv fa B fm w).category ≠ 2 := by
  subst hi
  unfold okst at h
  simp only [hw] at h
  rw [cat_cv hf]
  simpa using h
theorem RL_set1 {fa : Nat → Nat} {B : Nat} {fm : Value} (hf : fm.category = 1) {ls : Array Slot} {n k : Nat} {L : List Value} {x : Value} (hk : k < L.length) (ho : okst L k = true) (hn : L.length = n) (h : lv_has ls n ((k, cv fa B fm x) :: (prs fa B fm L).filter (fun q => !(q.1 == k) && !(q.1 + 1 == k && q.2.category == 2)))) : RL fa B fm ls n (L.set k x) := by
  refine ⟨by rw [List.length_set]; exact hn, h.1, h.2.1, fun i v hv c => ?_⟩
  by_cases e : i = k
  · subst e
    rw [List.getElem?_set_self hk] at hv
    cases hv
    exact h.2.2 _ List.mem_cons_self
  · rw [List.getElem?_set_ne (Ne.symm e)] at hv
    refine h.2.2 (i, cv fa B fm v) (List.mem_cons_of_mem _ (List.mem_filter.mpr ⟨prs_mem.mpr ⟨v, hv, c, rfl⟩, ?_⟩))
    have h1 : i + 1 = k → (cv fa B fm v).category ≠ 2 := fun hi => okst_ne hf ho hv hi
    by_cases e2 : i + 1 = k
    · have := h1 e2
      simp [e, this]
    · simp [e, e2]
theorem RL_set2 {fa : Nat → Nat} {B : Nat} {fm : Value} (hf : fm.category = 1) {ls : Array Slot} {n k : Nat} {L : List Value} {x : Value} (hk : k + 1 < L.length) (ho : okst L k = true) (hn : L.length = n) (h : lv_has ls n ((k, cv fa B fm x) :: (prs fa B fm L).filter (fun q => !(q.1 == k) && (!(q.1 == k + 1) && !(q.1 + 1 == k && q.2.category == 2))))) : RL fa B fm ls n ((L.set k x).set (k + 1) mk0) := by
  refine ⟨by rw [List.length_set, List.length_set]; exact hn, h.1, h.2.1, fun i v hv c => ?_⟩
  by_cases e0 : i = k + 1
  · subst e0
    rw [List.getElem?_set_self (by rw [List.length_set]; exact hk)] at hv
    cases hv
    exact absurd rfl c
  · rw [List.getElem?_set_ne (Ne.symm e0)] at hv
    by_cases e : i = k
    · subst e
      rw [List.getElem?_set_self (by omega)] at hv
      cases hv
      exact h.2.2 _ List.mem_cons_self
    · rw [List.getElem?_set_ne (Ne.symm e)] at hv
      refine h.2.2 (i, cv fa B fm v) (List.mem_cons_of_mem _ (List.mem_filter.mpr ⟨prs_mem.mpr ⟨v, hv, c, rfl⟩, ?_⟩))
      have h1 : i + 1 = k → (cv fa B fm v).category ≠ 2 := fun hi => okst_ne hf ho hv hi
      by_cases e2 : i + 1 = k
      · have := h1 e2
        simp [e, e0, this]
      · simp [e, e0, e2]
theorem argL_args {fa : Nat → Nat} {B : Nat} {fm : Value} (hf : fm.category = 1) : ∀ (vs : List Value) (j i : Nat) (v : Value), (argL vs)[i]? = some v → v ≠ mk0 → (j + i, cv fa B fm v) ∈ lv_args j (vs.map (cv fa B fm))
  | [], j, i, v, h, c => by simp [argL] at h
  | w :: vs, j, i, v, h, c => by
    unfold argL at h
    by_cases hc : w.category = 2
    · rw [if_pos hc] at h
      show _ ∈ (j, cv fa B fm w) :: lv_args (if (cv fa B fm w).category = 2 then j + 2 else j + 1) (vs.map (cv fa B fm))
      rw [cat_cv hf, if_pos hc]
      match i, h with
      | 0, h => cases h; exact List.mem_cons_self
      | 1, h => cases h; exact absurd rfl c
      | i + 2, h =>
        have := argL_args (fa := fa) (B := B) hf vs (j + 2) i v h c
        rw [show j + (i + 2) = j + 2 + i by omega]
        exact List.mem_cons_of_mem _ this
    · rw [if_neg hc] at h
      show _ ∈ (j, cv fa B fm w) :: lv_args (if (cv fa B fm w).category = 2 then j + 2 else j + 1) (vs.map (cv fa B fm))
      rw [cat_cv hf, if_neg hc]
      match i, h with
      | 0, h => cases h; exact List.mem_cons_self
      | i + 1, h =>
        have := argL_args (fa := fa) (B := B) hf vs (j + 1) i v h c
        rw [show j + (i + 1) = j + 1 + i by omega]
        exact List.mem_cons_of_mem _ this
theorem argL_len {fa : Nat → Nat} {B : Nat} {fm : Value} (hf : fm.category = 1) : ∀ vs : List Value, (lg_sl (vs.map (cv fa B fm))).length = (argL vs).length
  | [] => rfl
  | w :: vs => by
    have ih := argL_len (fa := fa) (B := B) hf vs
    unfold lg_sl at ih ⊢
    rw [List.map_cons, List.flatMap_cons, List.length_append, ih]
    rw [show argL (w :: vs) = if w.category = 2 then w :: mk0 :: argL vs else w :: argL vs from rfl, cat_cv hf]
    by_cases hc : w.category = 2
    · rw [if_pos hc, if_pos hc]; simp; omega
    · rw [if_neg hc, if_neg hc]; simp; omega
theorem RL_ent {fa : Nat → Nat} {B : Nat} {fm : Value} (hf : fm.category = 1) {m : Nat} {as : List Value} (h : (argL as).length ≤ mL m) : RL fa B fm ((lg_sl (as.map (cv fa B fm)) ++ List.replicate (mL m - (lg_sl (as.map (cv fa B fm))).length) Slot.unset).toArray) (mL m) (entL m as) := by
  have hl : (lg_sl (as.map (cv fa B fm))).length ≤ mL m := by rw [argL_len hf]; exact h
  have q := lv_entry (as.map (cv fa B fm)) hl
  refine ⟨by simp [entL]; omega, q.1, q.2.1, fun i v hv c => ?_⟩
  unfold entL at hv
  by_cases hi : i < (argL as).length
  · rw [List.getElem?_append_left hi] at hv
    have := argL_args (fa := fa) (B := B) hf as 0 i v hv c
    rw [Nat.zero_add] at this
    exact q.2.2 _ this
  · rw [List.getElem?_append_right (by omega)] at hv
    exact absurd (List.eq_of_mem_replicate (List.mem_of_getElem? hv)) c
/-- the class tables, by number -/
theorem clK {D : va_G} {tys : List (ClassId × FieldType)} {s : State} (hK : va_K D vwCl tys s) {ci : Nat} (h : ci < 8) : u_Kn s (cN ci) (fT ci) (nfl ci) (D.1 ci) (D.2 ci) := by
  match ci, h with
  | 0, _ => exact hK.1 0 _ rfl
  | 1, _ => exact hK.1 1 _ rfl
  | 2, _ => exact hK.1 2 _ rfl
  | 3, _ => exact hK.1 3 _ rfl
  | 4, _ => exact hK.1 4 _ rfl
  | 5, _ => exact hK.1 5 _ rfl
  | 6, _ => exact hK.1 6 _ rfl
  | 7, _ => exact hK.1 7 _ rfl
theorem clW {ci : Nat} (h : ci < 8) : ∀ w ∈ u_ws (cN ci) (fT ci) (nfl ci), w ∈ wsG := by
  match ci, h with
  | 0, _ => exact lay0
  | 1, _ => exact lay1
  | 2, _ => exact lay2
  | 3, _ => exact lay3
  | 4, _ => exact lay4
  | 5, _ => exact lay5
  | 6, _ => exact lay6
  | 7, _ => exact lay7
theorem clN {ci : Nat} (h : ci < 8) : ∀ a, a < nfl ci → ∀ b, b < nfl ci → a ≠ b → (fT ci a).2.1 ≠ (fT ci b).2.1 := by
  match ci, h with
  | 0, _ => exact nmX0
  | 1, _ => exact nmX1
  | 2, _ => exact nmX2
  | 3, _ => exact nmX3
  | 4, _ => exact nmX4
  | 5, _ => exact nmX5
  | 6, _ => exact nmX6
  | 7, _ => exact nmX7
theorem clT {ci k : Nat} (h : ci < 8) (hk : k < nfl ci) : (fT ci k).1 = cN ci ∧ parseFieldDescriptor (fT ci k).2.2.1 = some (cty ci k) := by
  have h1 := List.all_eq_true.mp (show (List.range 8).all (fun c => (List.range (nfl c)).all (fun k => (fT c k).1 == cN c && parseFieldDescriptor (fT c k).2.2.1 == some (cty c k))) = true from fT_own_ok) ci (List.mem_range.mpr h)
  have h2 := List.all_eq_true.mp h1 k (List.mem_range.mpr hk)
  simp only [Bool.and_eq_true, beq_iff_eq] at h2
  exact h2
theorem isW_in' (i : Nat) (h : i < 212 := by omega) : Cond.initialized (mY i).cls ∈ wsG := by
  have q := okM_all h
  unfold okM at q
  simp only [Bool.and_eq_true] at q
  exact in_G _ q.1.1.1.1.1.1.1
theorem clI {ci : Nat} (h : ci < 8) : Cond.initialized (cN ci) ∈ wsG := by
  match ci, h with
  | 0, _ => exact isW_in' 3
  | 1, _ => exact isW_in' 10
  | 2, _ => exact isW_in' 24
  | 3, _ => exact isW_in' 40
  | 4, _ => exact isW_in' 51
  | 5, _ => exact isW_in' 60
  | 6, _ => exact isW_in' 70
  | 7, _ => exact isW_in' 110
theorem rho_own {fa : Nat → Nat} {B o : Nat} (h : 17 ≤ o) : rho fa B o = B + (o - 17) := if_neg (by omega)
theorem rho_inj {fa : Nat → Nat} {B o q : Nat} (h : 17 ≤ o) (h2 : 17 ≤ q) (e : rho fa B o = rho fa B q) : o = q := by
  rw [rho_own h, rho_own h2] at e
  omega
theorem isW_in {k : Nat} {w : Cond} (h : isW k w = true) : w ∈ wsG := in_G k h
theorem zip_in {α : Type} {l : List α} {P : List Nat} {f : α → Cond} (h : (l.zip P).all (fun e => isW e.2 (f e.1)) = true) (hl : l.length ≤ P.length) {x : α} (hx : x ∈ l) : f x ∈ wsG := by
  obtain ⟨i, hi⟩ := List.getElem?_of_mem hx
  have hil : i < l.length := (List.getElem?_eq_some_iff.mp hi).1
  have hp : P[i]? = some (P[i]'(by omega)) := List.getElem?_eq_getElem (by omega)
  have hz : (l.zip P)[i]? = some (x, P[i]'(by omega)) := by rw [List.getElem?_zip_eq_some]; exact ⟨hi, hp⟩
  exact isW_in (List.all_eq_true.mp h _ (List.mem_of_getElem? hz))
theorem w_ml {o x j : Nat} (h : lk3 mlT o x = some j) : Cond.methodLink (cN o) x (mY j) ∈ wsG := zip_in (f := fun e : Nat × Nat × Nat => Cond.methodLink (cN e.1) e.2.1 (mY e.2.2)) mlC_ok (by decide +kernel) (lk3_mem h)
theorem w_fl {o x ci k : Nat} (h : lk3 flT o x = some (ci, k)) : Cond.fieldLink (cN o) x (fT ci k).1 (fT ci k).2.1 (fT ci k).2.2.1 ∈ wsG := zip_in (f := fun e : Nat × Nat × Nat × Nat => Cond.fieldLink (cN e.1) e.2.1 (fT e.2.2.1 e.2.2.2).1 (fT e.2.2.1 e.2.2.2).2.1 (fT e.2.2.1 e.2.2.2).2.2.1) flC_ok (by decide +kernel) (lk3_mem h)
theorem w_kl {o x ci : Nat} (h : lk3 klT o x = some ci) : Cond.classLink (cN o) x (cN ci) ∈ wsG := zip_in (f := fun e : Nat × Nat × Nat => Cond.classLink (cN e.1) e.2.1 (cN e.2.2)) klC_ok (by decide +kernel) (lk3_mem h)
theorem w_lci {o x : Nat} {v : Int32} (h : lk3 lciT o x = some v) : Cond.constant (cN o) x v ∈ wsG := zip_in (f := fun e : Nat × Nat × Int32 => Cond.constant (cN e.1) e.2.1 e.2.2) lciC_ok (by decide +kernel) (lk3_mem h)
theorem w_lcl {o x : Nat} {v : Int64} (h : lk3 lclT o x = some v) : Cond.constantLong (cN o) x v ∈ wsG := zip_in (f := fun e : Nat × Nat × Int64 => Cond.constantLong (cN e.1) e.2.1 e.2.2) lclC_ok (by decide +kernel) (lk3_mem h)
theorem w_st {o x k : Nat} (h : lk3 stT o x = some k) : Cond.fieldLink (cN o) x (sD k).1 (sD k).2.1 (sD k).2.2 ∈ wsG := zip_in (f := fun e : Nat × Nat × Nat => Cond.fieldLink (cN e.1) e.2.1 (sD e.2.2).1 (sD e.2.2).2.1 (sD e.2.2).2.2) stC_ok (by decide +kernel) (lk3_mem h)
theorem w_oi {o x : Nat} (h : lk2 oiT o x = true) : Cond.methodLink (cN o) x Lib.objectInit ∈ wsG := zip_in (f := fun e : Nat × Nat => Cond.methodLink (cN e.1) e.2 Lib.objectInit) oiC_ok (by decide +kernel) (lk2_mem h)
theorem w_ac {o x : Nat} (h : lk2 acT o x = true) : Cond.methodLink (cN o) x arraycopyName ∈ wsG := zip_in (f := fun e : Nat × Nat => Cond.methodLink (cN e.1) e.2 arraycopyName) acC_ok (by decide +kernel) (lk2_mem h)
theorem st_lt {o x k : Nat} (h : lk3 stT o x = some k) : k < 6 := List.all_eq_true.mp (show stT.all (fun e => decide (e.2.2 < 6)) = true by decide +kernel) _ (lk3_mem h) |> of_decide_eq_true
theorem sn_lt {o x k : Nat} (h : lk3 snT o x = some k) : k < 6 := List.all_eq_true.mp (show snT.all (fun e => decide (e.2.2 < 6)) = true by decide +kernel) _ (lk3_mem h) |> of_decide_eq_true
/-- how many cells, how many places -/
def ksl : aK → Nat
  | .inl ci => nfl ci
  | .inr (_, n) => n
def nS (σ : aS) : Nat := (σ.1.map ksl).sum
