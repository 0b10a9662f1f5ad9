/-! E, by the class and by the reference (written by wip/whole/mk98.py) -/
def WFt (w : List Nat) (n : Nat) : Prop := ∀ rest h, 3 * h + n ≤ 177 → wf rest (h + 1) → wf (w ++ rest) h
def WFl (w : List Nat) (n : Nat) : Prop := ∀ rest h, 1 ≤ h → 3 * h + n ≤ 177 → wf rest h → wf (w ++ rest) h
def COK (sc : aSc) (d : Nat) (g : Nat → Nat → Int64) (h1 h2 h3 : Nat) (C : Nat → Int32) (L t cc a : Nat) (m B e p p' : Nat) (w : List Nat) : Prop := ∀ f E, KS f t C L p a E → a + E.length ≤ p → ∃ f', KG f f' t a ∧ KS f' t C L p' a (E ++ w) ∧ ∀ D r, 3 * e + B ≤ D → (Cl sc D m [.ref (18 : Nat), .ref (78 + 4 * t), .int (nI (4 - e))] (cS f g h1 h2) r ↔ r = (cS f' g h1 h2, some (.int 1)))
def CNO (sc : aSc) (d : Nat) (g : Nat → Nat → Int64) (h1 h2 h3 : Nat) (C : Nat → Int32) (L t cc a : Nat) (m B e p p' : Nat) : Prop := ∀ f E, KS f t C L p a E → a + E.length ≤ p → ∃ f', KG f f' t a ∧ f' 18 2 = nI p' ∧ ∀ D r, 3 * e + B ≤ D → (Cl sc D m [.ref (18 : Nat), .ref (78 + 4 * t), .int (nI (4 - e))] (cS f g h1 h2) r ↔ r = (cS f' g h1 h2, some (.int 0)))
def ROK (sc : aSc) (d : Nat) (g : Nat → Nat → Int64) (h1 h2 h3 : Nat) (C : Nat → Int32) (L t cc a : Nat) (s p p' : Nat) (E S : List Nat) (op : Nat) (E' S' : List Nat) (op' : Nat) : Prop := ∀ f v3, MS f C L p (100 * t + a) E S op → ∃ f' w3, MG f f' (100 * t + a) cc ∧ MS f' C L p' (100 * t + a) E' S' op' ∧ ∀ r, (Rn sc (d + 8) 125 22 [.ref (114 : Nat), .int (nI cc), .int (nI s), v3] [] (cS f g h3 h2) r ↔ Rn sc (d + 8) 125 22 [.ref (114 : Nat), .int (nI cc), .int (nI 0), w3] [] (cS f' g h3 h2) r)
def RNO (sc : aSc) (d : Nat) (g : Nat → Nat → Int64) (h1 h2 h3 : Nat) (C : Nat → Int32) (L t cc a : Nat) (s p p' : Nat) (E S : List Nat) (op : Nat) : Prop := ∀ f v3, MS f C L p (100 * t + a) E S op → ∃ f', MG f f' (100 * t + a) cc ∧ f' 114 14 = nI p' ∧ ∀ r, (Rn sc (d + 8) 125 22 [.ref (114 : Nat), .int (nI cc), .int (nI s), v3] [] (cS f g h3 h2) r ↔ r = (cS f' g h3 h2, some (.int 0)))
/-- one level of E: what it reads from a place on, by both -/
def LVL (sc : aSc) (d : Nat) (g : Nat → Nat → Int64) (h1 h2 h3 : Nat) (C : Nat → Int32) (L t cc a : Nat) (N m B : Nat) (al tp : Nat → Prop) (fol : Int32 → Prop) : Prop := ∀ p e, p ≤ L → L - p < N → e ≤ 4 → (∃ p' w u P, (p + 3 ≤ p' ∧ p' ≤ L ∧ w.length ≤ p' - p ∧ WFt w (p' - p) ∧ fol (C p')) ∧ COK sc d g h1 h2 h3 C L t cc a m B e p p' w ∧ w = u ++ P.map opT ∧ (∀ x, x ∈ P → al x) ∧ ∀ E S, a + E.length + S.length ≤ p → nTop tp S → ROK sc d g h1 h2 h3 C L t cc a 1 p p' E S (4 - e) (E ++ u) (P ++ S) (4 - e)) ∨ (∃ p', p ≤ p' ∧ p' ≤ L ∧ CNO sc d g h1 h2 h3 C L t cc a m B e p p' ∧ ∀ E S, a + E.length + S.length ≤ p → nTop tp S → RNO sc d g h1 h2 h3 C L t cc a 1 p p' E S (4 - e))
/-- the innermost: with signs ! that stand open -/
def SGL (sc : aSc) (d : Nat) (g : Nat → Nat → Int64) (h1 h2 h3 : Nat) (C : Nat → Int32) (L t cc a : Nat) (N : Nat) : Prop := ∀ p e, p ≤ L → L - p < N → e ≤ 4 → (∃ p' w, (p + 3 ≤ p' ∧ p' ≤ L ∧ w.length ≤ p' - p ∧ WFt w (p' - p)) ∧ COK sc d g h1 h2 h3 C L t cc a 60 9 e p p' w ∧ ∀ j E S, j ≤ 4 - e → a + E.length + j + S.length ≤ p → nTop (fun x => x = 33) S → ROK sc d g h1 h2 h3 C L t cc a 1 p p' E (List.replicate j 33 ++ S) (4 - e) (E ++ w ++ List.replicate j 6001) S (4 - e - j)) ∨ (∃ p', p ≤ p' ∧ p' ≤ L ∧ CNO sc d g h1 h2 h3 C L t cc a 60 9 e p p' ∧ ∀ j E S, j ≤ 4 - e → a + E.length + j + S.length ≤ p → nTop (fun x => x = 33) S → RNO sc d g h1 h2 h3 C L t cc a 1 p p' E (List.replicate j 33 ++ S) (4 - e))
section GR
variable {sc : aSc} {d : Nat} {r : aRes} {g : Nat → Nat → Int64} {h1 h2 h3 : Nat} {C : Nat → Int32} {L t cc a : Nat}
theorem sgl_lvl {N : Nat} (H : SGL sc d g h1 h2 h3 C L t cc a N) : LVL sc d g h1 h2 h3 C L t cc a N 60 9 (fun _ => False) (fun x => x = 33) (fun _ => True) := by
  intro p e h1 h2 h3
  rcases H p e h1 h2 h3 with ⟨p', w, ⟨a1, a2, a3, a4⟩, a5, a6⟩ | ⟨p', a1, a2, a3, a4⟩
  · refine Or.inl ⟨p', w, w, [], ⟨a1, a2, a3, a4, True.intro⟩, a5, by rw [List.map_nil, List.append_nil], fun x hx => absurd hx (List.not_mem_nil), fun E S b1 b2 => ?_⟩
    have := a6 0 E S (Nat.zero_le _) (by omega) b2
    rw [List.replicate_zero, List.replicate_zero, List.nil_append, List.append_nil] at this
    exact this
  · refine Or.inr ⟨p', a1, a2, a3, fun E S b1 b2 => ?_⟩
    have := a4 0 E S (Nat.zero_le _) (by omega) b2
    rw [List.replicate_zero, List.nil_append] at this
    exact this
theorem ROK.tr {s p p1 p2 : Nat} {E S E1 S1 E2 S2 : List Nat} {op op1 op2 : Nat} (x : ROK sc d g h1 h2 h3 C L t cc a s p p1 E S op E1 S1 op1) (y : ROK sc d g h1 h2 h3 C L t cc a 0 p1 p2 E1 S1 op1 E2 S2 op2) : ROK sc d g h1 h2 h3 C L t cc a s p p2 E S op E2 S2 op2 := by
  intro f v3 M
  obtain ⟨f1, w1, F1, M1, k1⟩ := x f v3 M
  obtain ⟨f2, w2, F2, M2, k2⟩ := y f1 w1 M1
  exact ⟨f2, w2, F1.trans F2, M2, fun r => (k1 r).trans (k2 r)⟩
theorem ROK.no {s p p1 p2 : Nat} {E S E1 S1 : List Nat} {op op1 : Nat} (x : ROK sc d g h1 h2 h3 C L t cc a s p p1 E S op E1 S1 op1) (y : RNO sc d g h1 h2 h3 C L t cc a 0 p1 p2 E1 S1 op1) : RNO sc d g h1 h2 h3 C L t cc a s p p2 E S op := by
  intro f v3 M
  obtain ⟨f1, w1, F1, M1, k1⟩ := x f v3 M
  obtain ⟨f2, F2, M2, k2⟩ := y f1 w1 M1
  exact ⟨f2, F1.trans F2, M2, fun r => (k1 r).trans (k2 r)⟩
theorem ROK.rfl0 {p : Nat} {E S : List Nat} {op : Nat} : ROK sc d g h1 h2 h3 C L t cc a 0 p p E S op E S op := fun f v3 M => ⟨f, v3, MG.refl, M, fun _ => Iff.rfl⟩
/-- an operator, by the reference -/
theorem r125c {c q op : Nat} {P E S : List Nat} {f : Nat → Nat → Int32} {v3 : Value} (hc : c = 38 ∨ c = 124) (ht : t < 6) (T : TXC C L) (M : MS f C L q (100 * t + a) E (P ++ S) op) (hP : ∀ x, x ∈ P → x = 38 ∨ x = 124 ∧ c = 124) (nt : nTop (fun x => x = 38 ∨ x = 124 ∧ c = 124) S) (hb : a + E.length + P.length + S.length ≤ q) (h : C q = nI c) : ∃ f1, MG f f1 (100 * t + a) cc ∧ MS f1 C L (q + 1) (100 * t + a) (E ++ P.map opT) (c :: S) op ∧ ∀ r, (Rn sc (d + 8) 125 22 [.ref (114 : Nat), .int (nI cc), .int (nI 0), v3] [] (cS f g h1 h2) r ↔ Rn sc (d + 8) 125 22 [.ref (114 : Nat), .int (nI cc), .int (nI 1), .int (nI c)] [] (cS f1 g h1 h2) r) := by
  have ql := T.lt h (by omega)
  have tl := T.1
  have k0 := fun d r => @s114 sc d r f g h1 h2 C L q T M.1
  obtain ⟨f1, F1, M1, k1⟩ := @s122 sc f g h1 h2 C L q (100 * t + a) cc op c P E S hc M hP (by omega) (by omega) nt
  have M2 := M1.push (x := c)
  have M3 := M2.mv (p' := q + 1) (by omega)
  have n25 := M1.2.2.2.1
  have n14 := M1.1.2.2.1
  have j1 : inb (nI S.length) 101 = true := inb_nI (by omega) (by decide)
  have j2 : (nI S.length).toNatClampNeg = S.length := cl_nI (by omega)
  have z1 : nI S.length + 1 = nI (S.length + 1) := by rw [← lt1, nI_add]
  have z2 : nI q + 1 = nI (q + 1) := by rw [← lt1, nI_add]
  refine ⟨_, MG.trans F1 (MG.trans (MG.trans MG.s (MG.f (k := 25) (by omega))) (MG.f (k := 14) (by omega))), M3, fun r => ?_⟩
  rw [lt0, lt1]
  rcases hc with rfl | rfl
  · have e1 : nI 38 = 38 := rfl
    rw [h] at k0
    rw [e1] at k0 k1 ⊢
    simp only [x125_22 (σ := cS f g h1 h2), x125_23, x125_26, x125_27, x125_28, x125_110, x125_111, x125_113, x125_122, x125_123, x125_124, x125_127, x125_128, x125_131, x125_132, x125_135, x125_136, x125_137, x125_138, x125_139, x125_142, x125_143, x125_144, x125_147, x125_148, x125_149, x125_150, x125_151, x125_154, x125_155, x125_156, x125_159, kp114, rf114_5, rp114_5, al115, iA115, it115, rf114_6, rp114_6, al116, iA116, it116, rf114_7, rp114_7, al117, iA117, it117, rf114_8, rp114_8, al118, iA118, it118, rf114_9, rp114_9, al119, iA119, it119, rf114_10, rp114_10, al120, iA120, it120, rf114_16, rp114_16, al121, iA121, it121, rf114_17, rp114_17, al122, iA122, it122, rf114_18, rp114_18, al123, iA123, it123, rf114_19, rp114_19, al124, iA124, it124, rf114_20, rp114_20, al125, iA125, it125, rf114_21, rp114_21, al126, iA126, it126, rf114_22, rp114_22, al127, iA127, it127, rf114_23, rp114_23, al128, iA128, it128, rf114_27, rp114_27, al129, iA129, it129, rf114_28, rp114_28, al130, iA130, it130, rf114_29, rp114_29, al131, iA131, it131, rf114_30, rp114_30, al132, iA132, it132, rf114_31, rp114_31, al133, iA133, it133, rf114_41, rp114_41, al134, iA134, it134, rf114_42, rp114_42, al135, iA135, it135, rf114_44, rp114_44, al136, iA136, it136, rf114_45, rp114_45, al137, iA137, it137, rf114_55, rp114_55, al138, iA138, it138, rf114_56, rp114_56, al139, iA139, it139, rf114_57, rp114_57, al140, iA140, it140, rf114_58, rp114_58, al141, iA141, it141, rf114_59, rp114_59, al142, iA142, it142, rf114_60, rp114_60, al143, iA143, it143, rf114_61, rp114_61, al144, iA144, it144, rf114_62, rp114_62, al145, iA145, it145, rf114_63, rp114_63, al146, iA146, it146, rf114_64, rp114_64, al147, iA147, it147, rf114_66, rp114_66, al148, iA148, it148, rf114_67, rp114_67, al149, iA149, it149, rf114_68, rp114_68, al150, iA150, it150, rf114_69, rp114_69, al151, iA151, it151, rf114_70, rp114_70, al152, iA152, it152, al128, iA128, it128, k0, k1, n25, n14, j1, j2, u2_at, z1, z2, bI_True, bI_False, nI_1, Nat.reduceLeDiff, Nat.reduceEqDiff, nb0, nb1, nbI, eq_self, ex_pr, tl_s, tl_n, if_true, if_false, not_true_eq_false, not_false_eq_true, and_self, and_false, false_and, and_true, true_and]
  · have e1 : nI 124 = 124 := rfl
    have n1 : ¬ (124 : Int32) = 38 := by decide
    rw [h] at k0
    rw [e1] at k0 k1 ⊢
    simp only [x125_22 (σ := cS f g h1 h2), x125_23, x125_26, x125_27, x125_28, x125_110, x125_111, x125_113, x125_116, x125_117, x125_119, x125_122, x125_123, x125_124, x125_127, x125_128, x125_131, x125_132, x125_135, x125_136, x125_137, x125_138, x125_139, x125_142, x125_143, x125_144, x125_147, x125_148, x125_149, x125_150, x125_151, x125_154, x125_155, x125_156, x125_159, kp114, rf114_5, rp114_5, al115, iA115, it115, rf114_6, rp114_6, al116, iA116, it116, rf114_7, rp114_7, al117, iA117, it117, rf114_8, rp114_8, al118, iA118, it118, rf114_9, rp114_9, al119, iA119, it119, rf114_10, rp114_10, al120, iA120, it120, rf114_16, rp114_16, al121, iA121, it121, rf114_17, rp114_17, al122, iA122, it122, rf114_18, rp114_18, al123, iA123, it123, rf114_19, rp114_19, al124, iA124, it124, rf114_20, rp114_20, al125, iA125, it125, rf114_21, rp114_21, al126, iA126, it126, rf114_22, rp114_22, al127, iA127, it127, rf114_23, rp114_23, al128, iA128, it128, rf114_27, rp114_27, al129, iA129, it129, rf114_28, rp114_28, al130, iA130, it130, rf114_29, rp114_29, al131, iA131, it131, rf114_30, rp114_30, al132, iA132, it132, rf114_31, rp114_31, al133, iA133, it133, rf114_41, rp114_41, al134, iA134, it134, rf114_42, rp114_42, al135, iA135, it135, rf114_44, rp114_44, al136, iA136, it136, rf114_45, rp114_45, al137, iA137, it137, rf114_55, rp114_55, al138, iA138, it138, rf114_56, rp114_56, al139, iA139, it139, rf114_57, rp114_57, al140, iA140, it140, rf114_58, rp114_58, al141, iA141, it141, rf114_59, rp114_59, al142, iA142, it142, rf114_60, rp114_60, al143, iA143, it143, rf114_61, rp114_61, al144, iA144, it144, rf114_62, rp114_62, al145, iA145, it145, rf114_63, rp114_63, al146, iA146, it146, rf114_64, rp114_64, al147, iA147, it147, rf114_66, rp114_66, al148, iA148, it148, rf114_67, rp114_67, al149, iA149, it149, rf114_68, rp114_68, al150, iA150, it150, rf114_69, rp114_69, al151, iA151, it151, rf114_70, rp114_70, al152, iA152, it152, al128, iA128, it128, k0, n1, k1, n25, n14, j1, j2, u2_at, z1, z2, bI_True, bI_False, nI_1, Nat.reduceLeDiff, Nat.reduceEqDiff, nb0, nb1, nbI, eq_self, ex_pr, tl_s, tl_n, if_true, if_false, not_true_eq_false, not_false_eq_true, and_self, and_false, false_and, and_true, true_and]
theorem wft_l {w w2 : List Nat} {n m : Nat} (x : WFt w n) (y : WFl w2 m) (h3 : 3 ≤ n) : WFt (w ++ w2) (n + m) := by
  intro rest h hh hr
  rw [List.append_assoc]
  exact x _ h (by omega) (y rest (h + 1) (by omega) (by omega) hr)

/-- the loop of readBOTH -/
theorem lo59 {N : Nat} (ht : t < 6) (T : TXC C L) (H : LVL sc d g h1 h2 h3 C L t cc a N 60 9 (fun _ => False) (fun x => x = 33) (fun _ => True)) (e : Nat) (he : e ≤ 4) : ∀ (k q i : Nat), L - q < k → q ≤ L → L - q < N → i ≤ q → (fun _ => True) (C q) → (∃ p' w2, (q ≤ p' ∧ p' ≤ L ∧ w2.length ≤ p' - q ∧ WFl w2 (p' - q) ∧ (fun c : Int32 => ¬ c = nI 38) (C p')) ∧ (∀ f E, KS f t C L q a E → a + E.length ≤ q → ∃ f', KG f f' t a ∧ KS f' t C L p' a (E ++ w2) ∧ ∀ D r, 3 * e + 9 ≤ D → (Rn sc D 59 13 [.ref (18 : Nat), .ref (78 + 4 * t), .int (nI (4 - e)), .int (nI i)] [] (cS f g h1 h2) r ↔ r = (cS f' g h1 h2, some (.int 1)))) ∧ ∀ P, (∀ x, x ∈ P → (fun x => x = 38) x) → ∃ u2 P', P.map opT ++ w2 = u2 ++ P'.map opT ∧ (∀ x, x ∈ P' → (fun x => x = 38) x) ∧ ∀ E S, a + E.length + P.length + S.length ≤ q → nTop (fun x => x = 33 ∨ x = 38) S → ROK sc d g h1 h2 h3 C L t cc a 0 q p' E (P ++ S) (4 - e) (E ++ u2) (P' ++ S) (4 - e)) ∨ (∃ p', q ≤ p' ∧ p' ≤ L ∧ (∀ f E, KS f t C L q a E → a + E.length ≤ q → ∃ f', KG f f' t a ∧ f' 18 2 = nI p' ∧ ∀ D r, 3 * e + 9 ≤ D → (Rn sc D 59 13 [.ref (18 : Nat), .ref (78 + 4 * t), .int (nI (4 - e)), .int (nI i)] [] (cS f g h1 h2) r ↔ r = (cS f' g h1 h2, some (.int 0)))) ∧ ∀ P E S, (∀ x, x ∈ P → (fun x => x = 38) x) → a + E.length + P.length + S.length ≤ q → nTop (fun x => x = 33 ∨ x = 38) S → RNO sc d g h1 h2 h3 C L t cc a 0 q p' E (P ++ S) (4 - e))
  | 0, q, i, hk, _, _, _, _ => absurd hk (by omega)
  | k + 1, q, i, hk, hq, hN, hi, hf => by
    have HL := hlf t ht
    have tl := T.1
    by_cases w : C q = nI 38
    · have ql := T.lt w (by decide)
      have ei : nI i < nI 100 := nI_lt (by omega) (by decide)
      have t100 : nI 100 = 100 := rfl
      rw [t100] at ei
      have tc : nI 38 = 38 := rfl
      have cas : ∀ x, (fun x => x = 38) x → x = 38 ∨ x = 124 ∧ 38 = 124 := fun x hx => by
        dsimp only at hx
        omega
      have ntS : ∀ S, nTop (fun x => x = 33 ∨ x = 38) S → nTop (fun x => x = 38 ∨ x = 124 ∧ 38 = 124) S := fun S hS => by
        cases S with
        | nil => exact True.intro
        | cons y S => exact ⟨hS.1, fun z => hS.2 (by dsimp only at z ⊢; omega)⟩
      rcases H (q + 1) e (by omega) (by omega) he with ⟨p1, w1, u1, P1, ⟨b1, b2, b3, b4, b5⟩, b6, b7, b8, b9⟩ | ⟨p1, b1, b2, b3, b4⟩
      · rcases lo59 ht T H e he k p1 (i + 1) (by omega) b2 (by omega) (by omega) b5 with ⟨p', w2, ⟨c1, c2, c3, c4, c5⟩, c6, c7⟩ | ⟨p', c1, c2, c3, c4⟩
        · refine Or.inl ⟨p', w1 ++ [6002] ++ w2, ⟨by omega, c2, ?_, ?_, c5⟩, ?_, ?_⟩
          · rw [List.length_append, len1]
            omega
          · intro rest h hh1 hh2 hr
            rw [List.append_assoc, List.append_assoc]
            refine b4 _ h (by omega) (Or.inr (Or.inl ⟨Or.inl rfl, by omega, ?_⟩))
            exact c4 rest h hh1 (by omega) hr
          · intro f E K hE
            have k1 := fun d r => @s62t sc d r f g h1 h2 C L q 38 T K.1 w
            have K1 := K.mv (p' := q + 1) (by omega)
            obtain ⟨f2, F2, K2, k2⟩ := b6 _ E K1 (by omega)
            have ll : (E ++ w1).length = E.length + w1.length := List.length_append
            have k3 := fun d r => @s25 sc d r f2 g h1 h2 t (a + (E ++ w1).length) (ckT 6002) ht (by omega) K2.2.1
            have K3 := K2.wr (x := 6002)
            obtain ⟨f4, F4, K4, k4⟩ := c6 _ (E ++ w1 ++ [6002]) K3 (by rw [len1]; omega)
            rw [show E ++ (w1 ++ [6002] ++ w2) = E ++ w1 ++ [6002] ++ w2 by simp only [List.append_assoc]]
            refine ⟨f4, KG.trans KG.at (KG.trans F2 (KG.trans (KG.wr (Nat.le_add_right _ _)) F4)), K4, fun D r hD => ?_⟩
            rw [← k4 D r hD]
            obtain ⟨D', rfl⟩ : ∃ D', D = D' + 2 := ⟨D - 2, by omega⟩
            have k2' := fun r => k2 (D' + 2) r hD
            have z1 : nI i + 1 = nI (i + 1) := by rw [← lt1, nI_add]
            have ck : ckT 6002 = -2 := by decide
            rw [tc] at k1
            rw [ck] at k3 ⊢
            simp only [x59_13 (x3 := nI i), x59_14, x59_16, x59_19, x59_20, x59_22, x59_25, x59_28, x59_29, x59_30, x59_31, x59_34, x59_39, x59_40, x59_42, x59_45, x59_48, kp18, rf18_0, rp18_0, al19, iA19, it19, HL.k, ei, k1, zi1, k2', k3, z1, bI_True, bI_False, nI_1, Nat.reduceLeDiff, Nat.reduceEqDiff, nb0, nb1, nbI, eq_self, ex_pr, tl_s, tl_n, if_true, if_false, not_true_eq_false, not_false_eq_true, and_self, and_false, false_and, and_true, true_and]
          · intro P hP
            obtain ⟨u2, P', x1, x2, x3⟩ := c7 (P1 ++ [38]) (fun x hx => by
              rcases List.mem_append.mp hx with y | y
              · first
                | exact False.elim (b8 x y)
                | (have := b8 x y; dsimp only at this ⊢; omega)
              · rw [List.mem_singleton] at y
                try dsimp only
                omega)
            refine ⟨P.map opT ++ u1 ++ u2, P', ?_, x2, fun E S hES hS => ?_⟩
            · rw [List.append_assoc (P.map opT ++ u1), ← x1, b7, List.map_append]
              simp only [List.append_assoc]
              rfl
            · have lw : u1.length + P1.length = w1.length := by rw [b7, List.length_append, List.length_map]
              have lE : (E ++ P.map opT).length = E.length + P.length := by rw [List.length_append, List.length_map]
              have R1 := b9 (E ++ P.map opT) (38 :: S) (by rw [lE, List.length_cons]; omega) ⟨by decide, by decide⟩
              have R2 := x3 (E ++ P.map opT ++ u1) S (by rw [List.length_append, lE, List.length_append, List.length_singleton]; omega) hS
              have R3 : ROK sc d g h1 h2 h3 C L t cc a 1 (q + 1) p' (E ++ P.map opT) (38 :: S) (4 - e) (E ++ P.map opT ++ u1 ++ u2) (P' ++ S) (4 - e) := R1.tr (by rw [show P1 ++ [38] ++ S = P1 ++ 38 :: S by rw [List.append_assoc]; rfl] at R2; exact R2)
              intro f v3 M
              obtain ⟨f1, F1, M1, k1⟩ := @r125c sc d g h3 h2 C L t cc a 38 q (4 - e) P E S f v3 (Or.inl rfl) ht T M (fun x hx => cas x (hP x hx)) (ntS S hS) hES w
              obtain ⟨f2, w3, F2, M2, k2⟩ := R3 f1 _ M1
              refine ⟨f2, w3, F1.trans F2, ?_, fun r => (k1 r).trans (k2 r)⟩
              rw [show E ++ (P.map opT ++ u1 ++ u2) = E ++ P.map opT ++ u1 ++ u2 by simp only [List.append_assoc]]
              exact M2
        · refine Or.inr ⟨p', by omega, c2, ?_, ?_⟩
          · intro f E K hE
            have k1 := fun d r => @s62t sc d r f g h1 h2 C L q 38 T K.1 w
            have K1 := K.mv (p' := q + 1) (by omega)
            obtain ⟨f2, F2, K2, k2⟩ := b6 _ E K1 (by omega)
            have ll : (E ++ w1).length = E.length + w1.length := List.length_append
            have k3 := fun d r => @s25 sc d r f2 g h1 h2 t (a + (E ++ w1).length) (ckT 6002) ht (by omega) K2.2.1
            have K3 := K2.wr (x := 6002)
            obtain ⟨f4, F4, K4, k4⟩ := c3 _ (E ++ w1 ++ [6002]) K3 (by rw [len1]; omega)
            refine ⟨f4, KG.trans KG.at (KG.trans F2 (KG.trans (KG.wr (Nat.le_add_right _ _)) F4)), K4, fun D r hD => ?_⟩
            rw [← k4 D r hD]
            obtain ⟨D', rfl⟩ : ∃ D', D = D' + 2 := ⟨D - 2, by omega⟩
            have k2' := fun r => k2 (D' + 2) r hD
            have z1 : nI i + 1 = nI (i + 1) := by rw [← lt1, nI_add]
            have ck : ckT 6002 = -2 := by decide
            rw [tc] at k1
            rw [ck] at k3 ⊢
            simp only [x59_13 (x3 := nI i), x59_14, x59_16, x59_19, x59_20, x59_22, x59_25, x59_28, x59_29, x59_30, x59_31, x59_34, x59_39, x59_40, x59_42, x59_45, x59_48, kp18, rf18_0, rp18_0, al19, iA19, it19, HL.k, ei, k1, zi1, k2', k3, z1, bI_True, bI_False, nI_1, Nat.reduceLeDiff, Nat.reduceEqDiff, nb0, nb1, nbI, eq_self, ex_pr, tl_s, tl_n, if_true, if_false, not_true_eq_false, not_false_eq_true, and_self, and_false, false_and, and_true, true_and]
          · intro P E S hP hES hS
            have lw : u1.length + P1.length = w1.length := by rw [b7, List.length_append, List.length_map]
            have lE : (E ++ P.map opT).length = E.length + P.length := by rw [List.length_append, List.length_map]
            have R1 := b9 (E ++ P.map opT) (38 :: S) (by rw [lE, List.length_cons]; omega) ⟨by decide, by decide⟩
            have R2 := c4 (P1 ++ [38]) (E ++ P.map opT ++ u1) S (fun x hx => by
              rcases List.mem_append.mp hx with y | y
              · first
                | exact False.elim (b8 x y)
                | (have := b8 x y; dsimp only at this ⊢; omega)
              · rw [List.mem_singleton] at y
                try dsimp only
                omega) (by rw [List.length_append, lE, List.length_append, List.length_singleton]; omega) hS
            have R3 : RNO sc d g h1 h2 h3 C L t cc a 1 (q + 1) p' (E ++ P.map opT) (38 :: S) (4 - e) := R1.no (by rw [show P1 ++ [38] ++ S = P1 ++ 38 :: S by rw [List.append_assoc]; rfl] at R2; exact R2)
            intro f v3 M
            obtain ⟨f1, F1, M1, k1⟩ := @r125c sc d g h3 h2 C L t cc a 38 q (4 - e) P E S f v3 (Or.inl rfl) ht T M (fun x hx => cas x (hP x hx)) (ntS S hS) hES w
            obtain ⟨f2, F2, M2, k2⟩ := R3 f1 _ M1
            exact ⟨f2, F1.trans F2, M2, fun r => (k1 r).trans (k2 r)⟩
      · refine Or.inr ⟨p1, by omega, b2, ?_, ?_⟩
        · intro f E K hE
          have k1 := fun d r => @s62t sc d r f g h1 h2 C L q 38 T K.1 w
          have K1 := K.mv (p' := q + 1) (by omega)
          obtain ⟨f2, F2, K2, k2⟩ := b3 _ E K1 (by omega)
          refine ⟨f2, KG.trans KG.at F2, K2, fun D r hD => ?_⟩
          obtain ⟨D', rfl⟩ : ∃ D', D = D' + 2 := ⟨D - 2, by omega⟩
          have k2' := fun r => k2 (D' + 2) r hD
          rw [tc] at k1
          simp only [x59_13 (x3 := nI i), x59_14, x59_16, x59_19, x59_20, x59_22, x59_25, x59_28, x59_29, x59_30, x59_31, x59_34, x59_37, x59_38, kp18, rf18_0, rp18_0, al19, iA19, it19, HL.k, ei, k1, zi1, k2', bI_True, bI_False, nI_1, Nat.reduceLeDiff, Nat.reduceEqDiff, nb0, nb1, nbI, eq_self, ex_pr, tl_s, tl_n, if_true, if_false, not_true_eq_false, not_false_eq_true, and_self, and_false, false_and, and_true, true_and]
        · intro P E S hP hES hS f v3 M
          have lE : (E ++ P.map opT).length = E.length + P.length := by rw [List.length_append, List.length_map]
          obtain ⟨f1, F1, M1, k1⟩ := @r125c sc d g h3 h2 C L t cc a 38 q (4 - e) P E S f v3 (Or.inl rfl) ht T M (fun x hx => cas x (hP x hx)) (ntS S hS) hES w
          obtain ⟨f2, F2, M2, k2⟩ := b4 (E ++ P.map opT) (38 :: S) (by rw [lE, List.length_cons]; omega) ⟨by decide, by decide⟩ f1 _ M1
          exact ⟨f2, F1.trans F2, M2, fun r => (k1 r).trans (k2 r)⟩
    · refine Or.inl ⟨q, [], ⟨Nat.le_refl _, hq, Nat.zero_le _, fun rest h _ _ hr => hr, w⟩, ?_, ?_⟩
      · intro f E K hE
        have k1 := fun d r => @s62f sc d r f g h1 h2 C L q 38 T K.1 w
        have tc : nI 38 = 38 := rfl
        rw [tc] at k1
        refine ⟨f, KG.refl, by rw [List.append_nil]; exact K, fun D r hD => ?_⟩
        obtain ⟨D', rfl⟩ : ∃ D', D = D' + 2 := ⟨D - 2, by omega⟩
        by_cases ei : nI i < 100
        · simp only [x59_13 (x3 := nI i), x59_14, x59_16, x59_19, x59_20, x59_22, x59_25, x59_51, x59_52, kp18, rf18_0, rp18_0, al19, iA19, it19, ei, k1, bI_True, bI_False, nI_1, Nat.reduceLeDiff, Nat.reduceEqDiff, nb0, nb1, nbI, eq_self, ex_pr, tl_s, tl_n, if_true, if_false, not_true_eq_false, not_false_eq_true, and_self, and_false, false_and, and_true, true_and]
        · simp only [x59_13 (x3 := nI i), x59_14, x59_16, x59_51, x59_52, ei, bI_True, bI_False, nI_1, Nat.reduceLeDiff, Nat.reduceEqDiff, nb0, nb1, nbI, eq_self, ex_pr, tl_s, tl_n, if_true, if_false, not_true_eq_false, not_false_eq_true, and_self, and_false, false_and, and_true, true_and]
      · intro P hP
        refine ⟨[], P, by rw [List.append_nil, List.nil_append], hP, fun E S _ _ => ?_⟩
        rw [List.append_nil]
        exact ROK.rfl0
theorem lv59 {N : Nat} (ht : t < 6) (T : TXC C L) (H : LVL sc d g h1 h2 h3 C L t cc a N 60 9 (fun _ => False) (fun x => x = 33) (fun _ => True)) : LVL sc d g h1 h2 h3 C L t cc a N 59 10 (fun x => x = 38) (fun x => x = 33 ∨ x = 38) (fun c : Int32 => ¬ c = nI 38) := by
  intro p e hp hN he
  have tps : ∀ S, nTop (fun x => x = 33 ∨ x = 38) S → nTop (fun x => x = 33) S := fun S hS => by
    cases S with
    | nil => exact True.intro
    | cons y S => exact ⟨hS.1, fun z => hS.2 (by dsimp only at z ⊢; omega)⟩
  rcases H p e hp hN he with ⟨p1, w1, u1, P1, ⟨b1, b2, b3, b4, b5⟩, b6, b7, b8, b9⟩ | ⟨p1, b1, b2, b3, b4⟩
  · have alP : ∀ x, x ∈ P1 → (fun x => x = 38) x := fun x y => by
      first
      | exact False.elim (b8 x y)
      | (have := b8 x y; dsimp only at this ⊢; omega)
    have lw : u1.length + P1.length = w1.length := by rw [b7, List.length_append, List.length_map]
    rcases lo59 ht T H e he 200 p1 0 (by have := T.1; omega) b2 (by omega) (by omega) b5 with ⟨p', w2, ⟨c1, c2, c3, c4, c5⟩, c6, c7⟩ | ⟨p', c1, c2, c3, c4⟩
    · obtain ⟨u2, P', x1, x2, x3⟩ := c7 P1 alP
      refine Or.inl ⟨p', w1 ++ w2, u1 ++ u2, P', ⟨by omega, c2, by rw [List.length_append]; omega, ?_, c5⟩, ?_, ?_, x2, ?_⟩
      · have := wft_l b4 c4 (by omega)
        rw [show p1 - p + (p' - p1) = p' - p by omega] at this
        exact this
      · intro f E K hE
        obtain ⟨f2, F2, K2, k2⟩ := b6 f E K hE
        obtain ⟨f3, F3, K3, k3⟩ := c6 f2 (E ++ w1) K2 (by rw [List.length_append]; omega)
        rw [List.append_assoc] at K3
        refine ⟨f3, F2.trans F3, K3, fun D r hD => ?_⟩
        obtain ⟨D', rfl⟩ : ∃ D', D = D' + 1 := ⟨D - 1, by omega⟩
        have k2' := fun r => k2 D' r (by omega)
        have k3' := k3 D' r (by omega)
        rw [lt0] at k3'
        rw [← k3']
        simp only [c59, x59_0, x59_1, x59_2, x59_3, x59_6, x59_11, x59_12, kp18, k2', zi1, bI_True, bI_False, nI_1, Nat.reduceLeDiff, Nat.reduceEqDiff, nb0, nb1, nbI, eq_self, ex_pr, tl_s, tl_n, if_true, if_false, not_true_eq_false, not_false_eq_true, and_self, and_false, false_and, and_true, true_and]
      · rw [b7, List.append_assoc, x1, List.append_assoc]
      · intro E S hES hS
        have R1 := b9 E S hES (tps S hS)
        have R2 := x3 (E ++ u1) S (by rw [List.length_append]; omega) hS
        rw [List.append_assoc] at R2
        exact R1.tr R2
    · refine Or.inr ⟨p', by omega, c2, ?_, ?_⟩
      · intro f E K hE
        obtain ⟨f2, F2, K2, k2⟩ := b6 f E K hE
        obtain ⟨f3, F3, K3, k3⟩ := c3 f2 (E ++ w1) K2 (by rw [List.length_append]; omega)
        refine ⟨f3, F2.trans F3, K3, fun D r hD => ?_⟩
        obtain ⟨D', rfl⟩ : ∃ D', D = D' + 1 := ⟨D - 1, by omega⟩
        have k2' := fun r => k2 D' r (by omega)
        have k3' := k3 D' r (by omega)
        rw [lt0] at k3'
        rw [← k3']
        simp only [c59, x59_0, x59_1, x59_2, x59_3, x59_6, x59_11, x59_12, kp18, k2', zi1, bI_True, bI_False, nI_1, Nat.reduceLeDiff, Nat.reduceEqDiff, nb0, nb1, nbI, eq_self, ex_pr, tl_s, tl_n, if_true, if_false, not_true_eq_false, not_false_eq_true, and_self, and_false, false_and, and_true, true_and]
      · intro E S hES hS
        exact (b9 E S hES (tps S hS)).no (c4 P1 (E ++ u1) S alP (by rw [List.length_append]; omega) hS)
  · refine Or.inr ⟨p1, b1, b2, ?_, fun E S hES hS => b4 E S hES (tps S hS)⟩
    intro f E K hE
    obtain ⟨f2, F2, K2, k2⟩ := b3 f E K hE
    refine ⟨f2, F2, K2, fun D r hD => ?_⟩
    obtain ⟨D', rfl⟩ : ∃ D', D = D' + 1 := ⟨D - 1, by omega⟩
    have k2' := fun r => k2 D' r (by omega)
    simp only [c59, x59_0, x59_1, x59_2, x59_3, x59_6, x59_9, x59_10, kp18, k2', bI_True, bI_False, nI_1, Nat.reduceLeDiff, Nat.reduceEqDiff, nb0, nb1, nbI, eq_self, ex_pr, tl_s, tl_n, if_true, if_false, not_true_eq_false, not_false_eq_true, and_self, and_false, false_and, and_true, true_and]

/-- the loop of readBOTH -/
theorem lo58 {N : Nat} (ht : t < 6) (T : TXC C L) (H : LVL sc d g h1 h2 h3 C L t cc a N 59 10 (fun x => x = 38) (fun x => x = 33 ∨ x = 38) (fun c : Int32 => ¬ c = nI 38)) (e : Nat) (he : e ≤ 4) : ∀ (k q i : Nat), L - q < k → q ≤ L → L - q < N → i ≤ q → (fun c : Int32 => ¬ c = nI 38) (C q) → (∃ p' w2, (q ≤ p' ∧ p' ≤ L ∧ w2.length ≤ p' - q ∧ WFl w2 (p' - q) ∧ (fun c : Int32 => ¬ c = nI 38 ∧ ¬ c = nI 124) (C p')) ∧ (∀ f E, KS f t C L q a E → a + E.length ≤ q → ∃ f', KG f f' t a ∧ KS f' t C L p' a (E ++ w2) ∧ ∀ D r, 3 * e + 10 ≤ D → (Rn sc D 58 13 [.ref (18 : Nat), .ref (78 + 4 * t), .int (nI (4 - e)), .int (nI i)] [] (cS f g h1 h2) r ↔ r = (cS f' g h1 h2, some (.int 1)))) ∧ ∀ P, (∀ x, x ∈ P → (fun x => x = 38 ∨ x = 124) x) → ∃ u2 P', P.map opT ++ w2 = u2 ++ P'.map opT ∧ (∀ x, x ∈ P' → (fun x => x = 38 ∨ x = 124) x) ∧ ∀ E S, a + E.length + P.length + S.length ≤ q → nTop (fun x => x = 33 ∨ x = 38 ∨ x = 124) S → ROK sc d g h1 h2 h3 C L t cc a 0 q p' E (P ++ S) (4 - e) (E ++ u2) (P' ++ S) (4 - e)) ∨ (∃ p', q ≤ p' ∧ p' ≤ L ∧ (∀ f E, KS f t C L q a E → a + E.length ≤ q → ∃ f', KG f f' t a ∧ f' 18 2 = nI p' ∧ ∀ D r, 3 * e + 10 ≤ D → (Rn sc D 58 13 [.ref (18 : Nat), .ref (78 + 4 * t), .int (nI (4 - e)), .int (nI i)] [] (cS f g h1 h2) r ↔ r = (cS f' g h1 h2, some (.int 0)))) ∧ ∀ P E S, (∀ x, x ∈ P → (fun x => x = 38 ∨ x = 124) x) → a + E.length + P.length + S.length ≤ q → nTop (fun x => x = 33 ∨ x = 38 ∨ x = 124) S → RNO sc d g h1 h2 h3 C L t cc a 0 q p' E (P ++ S) (4 - e))
  | 0, q, i, hk, _, _, _, _ => absurd hk (by omega)
  | k + 1, q, i, hk, hq, hN, hi, hf => by
    have HL := hlf t ht
    have tl := T.1
    by_cases w : C q = nI 124
    · have ql := T.lt w (by decide)
      have ei : nI i < nI 100 := nI_lt (by omega) (by decide)
      have t100 : nI 100 = 100 := rfl
      rw [t100] at ei
      have tc : nI 124 = 124 := rfl
      have cas : ∀ x, (fun x => x = 38 ∨ x = 124) x → x = 38 ∨ x = 124 ∧ 124 = 124 := fun x hx => by
        dsimp only at hx
        omega
      have ntS : ∀ S, nTop (fun x => x = 33 ∨ x = 38 ∨ x = 124) S → nTop (fun x => x = 38 ∨ x = 124 ∧ 124 = 124) S := fun S hS => by
        cases S with
        | nil => exact True.intro
        | cons y S => exact ⟨hS.1, fun z => hS.2 (by dsimp only at z ⊢; omega)⟩
      rcases H (q + 1) e (by omega) (by omega) he with ⟨p1, w1, u1, P1, ⟨b1, b2, b3, b4, b5⟩, b6, b7, b8, b9⟩ | ⟨p1, b1, b2, b3, b4⟩
      · rcases lo58 ht T H e he k p1 (i + 1) (by omega) b2 (by omega) (by omega) b5 with ⟨p', w2, ⟨c1, c2, c3, c4, c5⟩, c6, c7⟩ | ⟨p', c1, c2, c3, c4⟩
        · refine Or.inl ⟨p', w1 ++ [6003] ++ w2, ⟨by omega, c2, ?_, ?_, c5⟩, ?_, ?_⟩
          · rw [List.length_append, len1]
            omega
          · intro rest h hh1 hh2 hr
            rw [List.append_assoc, List.append_assoc]
            refine b4 _ h (by omega) (Or.inr (Or.inl ⟨Or.inr rfl, by omega, ?_⟩))
            exact c4 rest h hh1 (by omega) hr
          · intro f E K hE
            have k1 := fun d r => @s62t sc d r f g h1 h2 C L q 124 T K.1 w
            have K1 := K.mv (p' := q + 1) (by omega)
            obtain ⟨f2, F2, K2, k2⟩ := b6 _ E K1 (by omega)
            have ll : (E ++ w1).length = E.length + w1.length := List.length_append
            have k3 := fun d r => @s25 sc d r f2 g h1 h2 t (a + (E ++ w1).length) (ckT 6003) ht (by omega) K2.2.1
            have K3 := K2.wr (x := 6003)
            obtain ⟨f4, F4, K4, k4⟩ := c6 _ (E ++ w1 ++ [6003]) K3 (by rw [len1]; omega)
            rw [show E ++ (w1 ++ [6003] ++ w2) = E ++ w1 ++ [6003] ++ w2 by simp only [List.append_assoc]]
            refine ⟨f4, KG.trans KG.at (KG.trans F2 (KG.trans (KG.wr (Nat.le_add_right _ _)) F4)), K4, fun D r hD => ?_⟩
            rw [← k4 D r hD]
            obtain ⟨D', rfl⟩ : ∃ D', D = D' + 2 := ⟨D - 2, by omega⟩
            have k2' := fun r => k2 (D' + 2) r hD
            have z1 : nI i + 1 = nI (i + 1) := by rw [← lt1, nI_add]
            have ck : ckT 6003 = -3 := by decide
            rw [tc] at k1
            rw [ck] at k3 ⊢
            simp only [x58_13 (x3 := nI i), x58_14, x58_16, x58_19, x58_20, x58_22, x58_25, x58_28, x58_29, x58_30, x58_31, x58_34, x58_39, x58_40, x58_42, x58_45, x58_48, kp18, rf18_0, rp18_0, al19, iA19, it19, HL.k, ei, k1, zi1, k2', k3, z1, bI_True, bI_False, nI_1, Nat.reduceLeDiff, Nat.reduceEqDiff, nb0, nb1, nbI, eq_self, ex_pr, tl_s, tl_n, if_true, if_false, not_true_eq_false, not_false_eq_true, and_self, and_false, false_and, and_true, true_and]
          · intro P hP
            obtain ⟨u2, P', x1, x2, x3⟩ := c7 (P1 ++ [124]) (fun x hx => by
              rcases List.mem_append.mp hx with y | y
              · first
                | exact False.elim (b8 x y)
                | (have := b8 x y; dsimp only at this ⊢; omega)
              · rw [List.mem_singleton] at y
                try dsimp only
                omega)
            refine ⟨P.map opT ++ u1 ++ u2, P', ?_, x2, fun E S hES hS => ?_⟩
            · rw [List.append_assoc (P.map opT ++ u1), ← x1, b7, List.map_append]
              simp only [List.append_assoc]
              rfl
            · have lw : u1.length + P1.length = w1.length := by rw [b7, List.length_append, List.length_map]
              have lE : (E ++ P.map opT).length = E.length + P.length := by rw [List.length_append, List.length_map]
              have R1 := b9 (E ++ P.map opT) (124 :: S) (by rw [lE, List.length_cons]; omega) ⟨by decide, by decide⟩
              have R2 := x3 (E ++ P.map opT ++ u1) S (by rw [List.length_append, lE, List.length_append, List.length_singleton]; omega) hS
              have R3 : ROK sc d g h1 h2 h3 C L t cc a 1 (q + 1) p' (E ++ P.map opT) (124 :: S) (4 - e) (E ++ P.map opT ++ u1 ++ u2) (P' ++ S) (4 - e) := R1.tr (by rw [show P1 ++ [124] ++ S = P1 ++ 124 :: S by rw [List.append_assoc]; rfl] at R2; exact R2)
              intro f v3 M
              obtain ⟨f1, F1, M1, k1⟩ := @r125c sc d g h3 h2 C L t cc a 124 q (4 - e) P E S f v3 (Or.inr rfl) ht T M (fun x hx => cas x (hP x hx)) (ntS S hS) hES w
              obtain ⟨f2, w3, F2, M2, k2⟩ := R3 f1 _ M1
              refine ⟨f2, w3, F1.trans F2, ?_, fun r => (k1 r).trans (k2 r)⟩
              rw [show E ++ (P.map opT ++ u1 ++ u2) = E ++ P.map opT ++ u1 ++ u2 by simp only [List.append_assoc]]
              exact M2
        · refine Or.inr ⟨p', by omega, c2, ?_, ?_⟩
          · intro f E K hE
            have k1 := fun d r => @s62t sc d r f g h1 h2 C L q 124 T K.1 w
            have K1 := K.mv (p' := q + 1) (by omega)
            obtain ⟨f2, F2, K2, k2⟩ := b6 _ E K1 (by omega)
            have ll : (E ++ w1).length = E.length + w1.length := List.length_append
            have k3 := fun d r => @s25 sc d r f2 g h1 h2 t (a + (E ++ w1).length) (ckT 6003) ht (by omega) K2.2.1
            have K3 := K2.wr (x := 6003)
            obtain ⟨f4, F4, K4, k4⟩ := c3 _ (E ++ w1 ++ [6003]) K3 (by rw [len1]; omega)
            refine ⟨f4, KG.trans KG.at (KG.trans F2 (KG.trans (KG.wr (Nat.le_add_right _ _)) F4)), K4, fun D r hD => ?_⟩
            rw [← k4 D r hD]
            obtain ⟨D', rfl⟩ : ∃ D', D = D' + 2 := ⟨D - 2, by omega⟩
            have k2' := fun r => k2 (D' + 2) r hD
            have z1 : nI i + 1 = nI (i + 1) := by rw [← lt1, nI_add]
            have ck : ckT 6003 = -3 := by decide
            rw [tc] at k1
            rw [ck] at k3 ⊢
            simp only [x58_13 (x3 := nI i), x58_14, x58_16, x58_19, x58_20, x58_22, x58_25, x58_28, x58_29, x58_30, x58_31, x58_34, x58_39, x58_40, x58_42, x58_45, x58_48, kp18, rf18_0, rp18_0, al19, iA19, it19, HL.k, ei, k1, zi1, k2', k3, z1, bI_True, bI_False, nI_1, Nat.reduceLeDiff, Nat.reduceEqDiff, nb0, nb1, nbI, eq_self, ex_pr, tl_s, tl_n, if_true, if_false, not_true_eq_false, not_false_eq_true, and_self, and_false, false_and, and_true, true_and]
          · intro P E S hP hES hS
            have lw : u1.length + P1.length = w1.length := by rw [b7, List.length_append, List.length_map]
            have lE : (E ++ P.map opT).length = E.length + P.length := by rw [List.length_append, List.length_map]
            have R1 := b9 (E ++ P.map opT) (124 :: S) (by rw [lE, List.length_cons]; omega) ⟨by decide, by decide⟩
            have R2 := c4 (P1 ++ [124]) (E ++ P.map opT ++ u1) S (fun x hx => by
              rcases List.mem_append.mp hx with y | y
              · first
                | exact False.elim (b8 x y)
                | (have := b8 x y; dsimp only at this ⊢; omega)
              · rw [List.mem_singleton] at y
                try dsimp only
                omega) (by rw [List.length_append, lE, List.length_append, List.length_singleton]; omega) hS
            have R3 : RNO sc d g h1 h2 h3 C L t cc a 1 (q + 1) p' (E ++ P.map opT) (124 :: S) (4 - e) := R1.no (by rw [show P1 ++ [124] ++ S = P1 ++ 124 :: S by rw [List.append_assoc]; rfl] at R2; exact R2)
            intro f v3 M
            obtain ⟨f1, F1, M1, k1⟩ := @r125c sc d g h3 h2 C L t cc a 124 q (4 - e) P E S f v3 (Or.inr rfl) ht T M (fun x hx => cas x (hP x hx)) (ntS S hS) hES w
            obtain ⟨f2, F2, M2, k2⟩ := R3 f1 _ M1
            exact ⟨f2, F1.trans F2, M2, fun r => (k1 r).trans (k2 r)⟩
      · refine Or.inr ⟨p1, by omega, b2, ?_, ?_⟩
        · intro f E K hE
          have k1 := fun d r => @s62t sc d r f g h1 h2 C L q 124 T K.1 w
          have K1 := K.mv (p' := q + 1) (by omega)
          obtain ⟨f2, F2, K2, k2⟩ := b3 _ E K1 (by omega)
          refine ⟨f2, KG.trans KG.at F2, K2, fun D r hD => ?_⟩
          obtain ⟨D', rfl⟩ : ∃ D', D = D' + 2 := ⟨D - 2, by omega⟩
          have k2' := fun r => k2 (D' + 2) r hD
          rw [tc] at k1
          simp only [x58_13 (x3 := nI i), x58_14, x58_16, x58_19, x58_20, x58_22, x58_25, x58_28, x58_29, x58_30, x58_31, x58_34, x58_37, x58_38, kp18, rf18_0, rp18_0, al19, iA19, it19, HL.k, ei, k1, zi1, k2', bI_True, bI_False, nI_1, Nat.reduceLeDiff, Nat.reduceEqDiff, nb0, nb1, nbI, eq_self, ex_pr, tl_s, tl_n, if_true, if_false, not_true_eq_false, not_false_eq_true, and_self, and_false, false_and, and_true, true_and]
        · intro P E S hP hES hS f v3 M
          have lE : (E ++ P.map opT).length = E.length + P.length := by rw [List.length_append, List.length_map]
          obtain ⟨f1, F1, M1, k1⟩ := @r125c sc d g h3 h2 C L t cc a 124 q (4 - e) P E S f v3 (Or.inr rfl) ht T M (fun x hx => cas x (hP x hx)) (ntS S hS) hES w
          obtain ⟨f2, F2, M2, k2⟩ := b4 (E ++ P.map opT) (124 :: S) (by rw [lE, List.length_cons]; omega) ⟨by decide, by decide⟩ f1 _ M1
          exact ⟨f2, F1.trans F2, M2, fun r => (k1 r).trans (k2 r)⟩
    · refine Or.inl ⟨q, [], ⟨Nat.le_refl _, hq, Nat.zero_le _, fun rest h _ _ hr => hr, ⟨hf, w⟩⟩, ?_, ?_⟩
      · intro f E K hE
        have k1 := fun d r => @s62f sc d r f g h1 h2 C L q 124 T K.1 w
        have tc : nI 124 = 124 := rfl
        rw [tc] at k1
        refine ⟨f, KG.refl, by rw [List.append_nil]; exact K, fun D r hD => ?_⟩
        obtain ⟨D', rfl⟩ : ∃ D', D = D' + 2 := ⟨D - 2, by omega⟩
        by_cases ei : nI i < 100
        · simp only [x58_13 (x3 := nI i), x58_14, x58_16, x58_19, x58_20, x58_22, x58_25, x58_51, x58_52, kp18, rf18_0, rp18_0, al19, iA19, it19, ei, k1, bI_True, bI_False, nI_1, Nat.reduceLeDiff, Nat.reduceEqDiff, nb0, nb1, nbI, eq_self, ex_pr, tl_s, tl_n, if_true, if_false, not_true_eq_false, not_false_eq_true, and_self, and_false, false_and, and_true, true_and]
        · simp only [x58_13 (x3 := nI i), x58_14, x58_16, x58_51, x58_52, ei, bI_True, bI_False, nI_1, Nat.reduceLeDiff, Nat.reduceEqDiff, nb0, nb1, nbI, eq_self, ex_pr, tl_s, tl_n, if_true, if_false, not_true_eq_false, not_false_eq_true, and_self, and_false, false_and, and_true, true_and]
      · intro P hP
        refine ⟨[], P, by rw [List.append_nil, List.nil_append], hP, fun E S _ _ => ?_⟩
        rw [List.append_nil]
        exact ROK.rfl0
theorem lv58 {N : Nat} (ht : t < 6) (T : TXC C L) (H : LVL sc d g h1 h2 h3 C L t cc a N 59 10 (fun x => x = 38) (fun x => x = 33 ∨ x = 38) (fun c : Int32 => ¬ c = nI 38)) : LVL sc d g h1 h2 h3 C L t cc a N 58 11 (fun x => x = 38 ∨ x = 124) (fun x => x = 33 ∨ x = 38 ∨ x = 124) (fun c : Int32 => ¬ c = nI 38 ∧ ¬ c = nI 124) := by
  intro p e hp hN he
  have tps : ∀ S, nTop (fun x => x = 33 ∨ x = 38 ∨ x = 124) S → nTop (fun x => x = 33 ∨ x = 38) S := fun S hS => by
    cases S with
    | nil => exact True.intro
    | cons y S => exact ⟨hS.1, fun z => hS.2 (by dsimp only at z ⊢; omega)⟩
  rcases H p e hp hN he with ⟨p1, w1, u1, P1, ⟨b1, b2, b3, b4, b5⟩, b6, b7, b8, b9⟩ | ⟨p1, b1, b2, b3, b4⟩
  · have alP : ∀ x, x ∈ P1 → (fun x => x = 38 ∨ x = 124) x := fun x y => by
      first
      | exact False.elim (b8 x y)
      | (have := b8 x y; dsimp only at this ⊢; omega)
    have lw : u1.length + P1.length = w1.length := by rw [b7, List.length_append, List.length_map]
    rcases lo58 ht T H e he 200 p1 0 (by have := T.1; omega) b2 (by omega) (by omega) b5 with ⟨p', w2, ⟨c1, c2, c3, c4, c5⟩, c6, c7⟩ | ⟨p', c1, c2, c3, c4⟩
    · obtain ⟨u2, P', x1, x2, x3⟩ := c7 P1 alP
      refine Or.inl ⟨p', w1 ++ w2, u1 ++ u2, P', ⟨by omega, c2, by rw [List.length_append]; omega, ?_, c5⟩, ?_, ?_, x2, ?_⟩
      · have := wft_l b4 c4 (by omega)
        rw [show p1 - p + (p' - p1) = p' - p by omega] at this
        exact this
      · intro f E K hE
        obtain ⟨f2, F2, K2, k2⟩ := b6 f E K hE
        obtain ⟨f3, F3, K3, k3⟩ := c6 f2 (E ++ w1) K2 (by rw [List.length_append]; omega)
        rw [List.append_assoc] at K3
        refine ⟨f3, F2.trans F3, K3, fun D r hD => ?_⟩
        obtain ⟨D', rfl⟩ : ∃ D', D = D' + 1 := ⟨D - 1, by omega⟩
        have k2' := fun r => k2 D' r (by omega)
        have k3' := k3 D' r (by omega)
        rw [lt0] at k3'
        rw [← k3']
        simp only [c58, x58_0, x58_1, x58_2, x58_3, x58_6, x58_11, x58_12, kp18, k2', zi1, bI_True, bI_False, nI_1, Nat.reduceLeDiff, Nat.reduceEqDiff, nb0, nb1, nbI, eq_self, ex_pr, tl_s, tl_n, if_true, if_false, not_true_eq_false, not_false_eq_true, and_self, and_false, false_and, and_true, true_and]
      · rw [b7, List.append_assoc, x1, List.append_assoc]
      · intro E S hES hS
        have R1 := b9 E S hES (tps S hS)
        have R2 := x3 (E ++ u1) S (by rw [List.length_append]; omega) hS
        rw [List.append_assoc] at R2
        exact R1.tr R2
    · refine Or.inr ⟨p', by omega, c2, ?_, ?_⟩
      · intro f E K hE
        obtain ⟨f2, F2, K2, k2⟩ := b6 f E K hE
        obtain ⟨f3, F3, K3, k3⟩ := c3 f2 (E ++ w1) K2 (by rw [List.length_append]; omega)
        refine ⟨f3, F2.trans F3, K3, fun D r hD => ?_⟩
        obtain ⟨D', rfl⟩ : ∃ D', D = D' + 1 := ⟨D - 1, by omega⟩
        have k2' := fun r => k2 D' r (by omega)
        have k3' := k3 D' r (by omega)
        rw [lt0] at k3'
        rw [← k3']
        simp only [c58, x58_0, x58_1, x58_2, x58_3, x58_6, x58_11, x58_12, kp18, k2', zi1, bI_True, bI_False, nI_1, Nat.reduceLeDiff, Nat.reduceEqDiff, nb0, nb1, nbI, eq_self, ex_pr, tl_s, tl_n, if_true, if_false, not_true_eq_false, not_false_eq_true, and_self, and_false, false_and, and_true, true_and]
      · intro E S hES hS
        exact (b9 E S hES (tps S hS)).no (c4 P1 (E ++ u1) S alP (by rw [List.length_append]; omega) hS)
  · refine Or.inr ⟨p1, b1, b2, ?_, fun E S hES hS => b4 E S hES (tps S hS)⟩
    intro f E K hE
    obtain ⟨f2, F2, K2, k2⟩ := b3 f E K hE
    refine ⟨f2, F2, K2, fun D r hD => ?_⟩
    obtain ⟨D', rfl⟩ : ∃ D', D = D' + 1 := ⟨D - 1, by omega⟩
    have k2' := fun r => k2 D' r (by omega)
    simp only [c58, x58_0, x58_1, x58_2, x58_3, x58_6, x58_9, x58_10, kp18, k2', bI_True, bI_False, nI_1, Nat.reduceLeDiff, Nat.reduceEqDiff, nb0, nb1, nbI, eq_self, ex_pr, tl_s, tl_n, if_true, if_false, not_true_eq_false, not_false_eq_true, and_self, and_false, false_and, and_true, true_and]
end GR
