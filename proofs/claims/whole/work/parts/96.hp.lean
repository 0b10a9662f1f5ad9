/-! tests; what stands open in the reference -/
def plX (x : Int32) : Int32 := if x = 115 then 0 else if x = 107 then 1 else if x = 118 then 2 else if x = 100 then 3 else if x = 108 then 4 else if x = 104 then 5 else -1
def rlX (x : Int32) : Int32 := if x = 60 then 0 else if x = 61 then 1 else if x = 62 then 2 else -1
theorem pl_b : ∀ b, b < 128 → fnd (fun i => (sW 9).getD i 0) b (sW 9).length 0 = plX (nI b) ∧ fnd (fun i => (sW 10).getD i 0) b (sW 10).length 0 = rlX (nI b) ∧ (plX (nI b) = -1 ∨ ∃ l, l < 6 ∧ plX (nI b) = nI l) ∧ (rlX (nI b) = -1 ∨ ∃ l, l < 3 ∧ nI b = nI (60 + l) ∧ rlX (nI b) = nI l) ∧ (rlX (nI b) = -1 → ¬ (¬ nI b < 60 ∧ ¬ (62 : Int32) < nI b)) := by decide +kernel
theorem pl_m : plX (-1) = -1 ∧ rlX (-1) = -1 ∧ ¬ (¬ (-1 : Int32) < 60 ∧ ¬ (62 : Int32) < -1) := by decide
theorem pl_v {C : Nat → Int32} {L p : Nat} (T : TXC C L) : plX (C p) = -1 ∨ ∃ l, l < 6 ∧ plX (C p) = nI l ∧ p < L := by
  by_cases w : p < L
  · obtain ⟨b, hb, e⟩ := T.2.1 p w
    rw [e]
    rcases (pl_b b (by omega)).2.2.1 with h | ⟨l, hl, h⟩
    · exact Or.inl h
    · exact Or.inr ⟨l, hl, h, w⟩
  · rw [T.2.2 p (by omega)]
    exact Or.inl pl_m.1
theorem rl_v {C : Nat → Int32} {L p : Nat} (T : TXC C L) : (rlX (C p) = -1 ∧ ¬ (¬ C p < 60 ∧ ¬ (62 : Int32) < C p)) ∨ ∃ l, l < 3 ∧ rlX (C p) = nI l ∧ C p = nI (60 + l) ∧ p < L := by
  by_cases w : p < L
  · obtain ⟨b, hb, e⟩ := T.2.1 p w
    rw [e]
    obtain ⟨-, -, -, h, h2⟩ := pl_b b (by omega)
    rcases h with h | ⟨l, hl, h3, h⟩
    · exact Or.inl ⟨h, h2 h⟩
    · exact Or.inr ⟨l, hl, h, h3, w⟩
  · rw [T.2.2 p (by omega)]
    exact Or.inl pl_m.2
/-- a test stands here, or where it breaks off -/
def TTO (C : Nat → Int32) (p p' l rr n : Nat) : Prop := plX (C p) = nI l ∧ rlX (C (p + 1)) = nI rr ∧ C (p + 1) = nI (60 + rr) ∧ NMV C (p + 2) n p'
def TTF (C : Nat → Int32) (p p' : Nat) : Prop := (plX (C p) = -1 ∧ p' = p) ∨ ((∃ l, l < 6 ∧ plX (C p) = nI l) ∧ ((rlX (C (p + 1)) = -1 ∧ ¬ (¬ C (p + 1) < 60 ∧ ¬ (62 : Int32) < C (p + 1)) ∧ p' = p + 1) ∨ ((∃ rr, rr < 3 ∧ rlX (C (p + 1)) = nI rr ∧ C (p + 1) = nI (60 + rr)) ∧ ¬ dg C (p + 2) ∧ p' = p + 2)))
theorem tst_alt {C : Nat → Int32} {L p : Nat} (T : TXC C L) (h : p ≤ L) : (∃ p', p ≤ p' ∧ p' ≤ L ∧ TTF C p p') ∨ ∃ p' l rr n, l < 6 ∧ rr < 3 ∧ n < 100 ∧ p + 3 ≤ p' ∧ p' ≤ L ∧ TTO C p p' l rr n := by
  rcases pl_v (p := p) T with a | ⟨l, hl, a, w⟩
  · exact Or.inl ⟨p, Nat.le_refl _, h, Or.inl ⟨a, rfl⟩⟩
  rcases rl_v (p := p + 1) T with b | ⟨rr, hr, b, b2, w2⟩
  · exact Or.inl ⟨p + 1, by omega, by omega, Or.inr ⟨⟨l, hl, a⟩, Or.inl ⟨b.1, b.2, rfl⟩⟩⟩
  rcases num_alt (p := p + 2) T with c | ⟨v, p', hv, x1, x2, x3, c⟩
  · exact Or.inl ⟨p + 2, by omega, by omega, Or.inr ⟨⟨l, hl, a⟩, Or.inr ⟨⟨rr, hr, b, b2⟩, c, rfl⟩⟩⟩
  · exact Or.inr ⟨p', l, rr, v, hl, hr, by omega, by omega, x2, a, b, b2, c⟩
def TK (f : Nat → Nat → Int32) (A : Nat) (E : List Nat) : Prop := ∀ j, j < E.length → f 127 (A + j) = mkT (E.getD j 0)
def CK (f : Nat → Nat → Int32) (o a : Nat) (E : List Nat) : Prop := ∀ j, j < E.length → f o (a + j) = ckT (E.getD j 0)
theorem gd_app {E w : List Nat} {j : Nat} (h : j < E.length) : (E ++ w).getD j 0 = E.getD j 0 := by
  rw [List.getD_eq_getElem?_getD, List.getD_eq_getElem?_getD, List.getElem?_append_left h]
theorem gd_last {E : List Nat} {x : Nat} : (E ++ [x]).getD E.length 0 = x := by
  rw [List.getD_eq_getElem?_getD, List.getElem?_append_right (Nat.le_refl _), Nat.sub_self]
  rfl
theorem len1 {E : List Nat} {x : Nat} : (E ++ [x]).length = E.length + 1 := by rw [List.length_append]; rfl
/-- the class, reading: its text, what it has written -/
def KS (f : Nat → Nat → Int32) (t : Nat) (C : Nat → Int32) (L p a : Nat) (E : List Nat) : Prop := KT f C L p ∧ f (78 + 4 * t) 6 = nI (a + E.length) ∧ CK f (78 + 4 * t + 3) a E
def KG (f f' : Nat → Nat → Int32) (t a : Nat) : Prop := ∀ q k, ¬ (q = 18 ∧ k = 2) → ¬ (q = 78 + 4 * t ∧ k = 6) → ¬ (q = 78 + 4 * t + 3 ∧ a ≤ k) → f' q k = f q k
theorem KG.refl {f : Nat → Nat → Int32} {t a : Nat} : KG f f t a := fun _ _ _ _ _ => rfl
theorem KG.trans {f f1 f2 : Nat → Nat → Int32} {t a : Nat} (x : KG f f1 t a) (y : KG f1 f2 t a) : KG f f2 t a := fun q k h1 h2 h3 => (y q k h1 h2 h3).trans (x q k h1 h2 h3)
theorem KG.at {f : Nat → Nat → Int32} {t a : Nat} {x : Int32} : KG f (u2 f 18 2 x) t a := fun q k h1 _ _ => u2_nn h1
theorem KS.mv {f : Nat → Nat → Int32} {t : Nat} {C : Nat → Int32} {L p p' a : Nat} {E : List Nat} (K : KS f t C L p a E) (h : p' ≤ L) : KS (u2 f 18 2 (nI p')) t C L p' a E := ⟨K.1.mv h, by rw [u2_nn (by omega)]; exact K.2.1, fun j hj => by rw [u2_nn (by omega)]; exact K.2.2 j hj⟩
theorem KS.wr {f : Nat → Nat → Int32} {t : Nat} {C : Nat → Int32} {L p a : Nat} {E : List Nat} {x : Nat} (K : KS f t C L p a E) : KS (u2 (u2 f (78 + 4 * t + 3) (a + E.length) (ckT x)) (78 + 4 * t) 6 (nI (a + E.length + 1))) t C L p a (E ++ [x]) := by
  obtain ⟨k1, k4, k5⟩ := K
  refine ⟨k1.fr (fun i => by rw [u2_nn (by omega), u2_nn (by omega)]) (by rw [u2_nn (by omega), u2_nn (by omega)]) (by rw [u2_nn (by omega), u2_nn (by omega)]; exact k1.2.1) k1.2.2, by rw [u2_ss, len1]; rfl, fun j hj => ?_⟩
  rw [len1] at hj
  rw [u2_nn (by omega), u2_at]
  by_cases e : j = E.length
  · rw [if_pos ⟨rfl, by omega⟩, e, gd_last]
  · rw [if_neg (by omega), gd_app (by omega)]
    exact k5 j (by omega)
theorem KG.wr {f : Nat → Nat → Int32} {t a z : Nat} {x y : Int32} (h : a ≤ z) : KG f (u2 (u2 f (78 + 4 * t + 3) z x) (78 + 4 * t) 6 y) t a := fun q k _ h2 h3 => by rw [u2_nn h2, u2_nn (by omega)]
def stk (f : Nat → Nat → Int32) : List Nat → Prop
  | [] => True
  | x :: S => f 128 S.length = nI x ∧ stk f S
theorem stk_fr {f f' : Nat → Nat → Int32} : ∀ {S : List Nat}, (∀ k, k < S.length → f' 128 k = f 128 k) → stk f S → stk f' S
  | [], _, _ => True.intro
  | x :: S, h, s => ⟨(h S.length (by rw [List.length_cons]; omega)).trans s.1, stk_fr (fun k hk => h k (by rw [List.length_cons]; omega)) s.2⟩
/-- the reference, reading: its text, what it has written, what stands open -/
def MS (f : Nat → Nat → Int32) (C : Nat → Int32) (L p A : Nat) (E S : List Nat) (op : Nat) : Prop := MTX f C L p ∧ f 114 24 = nI (A + E.length) ∧ TK f A E ∧ f 114 25 = nI S.length ∧ stk f S ∧ f 114 26 = nI op
def MG (f f' : Nat → Nat → Int32) (A cc : Nat) : Prop := ∀ q k, ¬ (q = 127 ∧ A ≤ k) → q ≠ 128 → ¬ (q = 126 ∧ k = cc) → ¬ (q = 114 ∧ (k = 14 ∨ k = 15 ∨ k = 24 ∨ k = 25 ∨ k = 26)) → f' q k = f q k
theorem MG.refl {f : Nat → Nat → Int32} {A cc : Nat} : MG f f A cc := fun _ _ _ _ _ _ => rfl
theorem MG.trans {f f1 f2 : Nat → Nat → Int32} {A cc : Nat} (x : MG f f1 A cc) (y : MG f1 f2 A cc) : MG f f2 A cc := fun q k h1 h2 h3 h4 => (y q k h1 h2 h3 h4).trans (x q k h1 h2 h3 h4)
theorem MG.f {f : Nat → Nat → Int32} {A cc k : Nat} {x : Int32} (h : k = 14 ∨ k = 15 ∨ k = 24 ∨ k = 25 ∨ k = 26) : MG f (u2 f 114 k x) A cc := fun q j _ _ _ h4 => u2_nn (fun e => h4 ⟨e.1, e.2 ▸ h⟩)
theorem MG.e {f : Nat → Nat → Int32} {A cc z : Nat} {x : Int32} (h : A ≤ z) : MG f (u2 f 127 z x) A cc := fun q j h1 _ _ _ => u2_nn (fun e => h1 ⟨e.1, by omega⟩)
theorem MG.s {f : Nat → Nat → Int32} {A cc z : Nat} {x : Int32} : MG f (u2 f 128 z x) A cc := fun q j _ h2 _ _ => u2_nn (fun e => h2 e.1)
theorem MS.mv {f : Nat → Nat → Int32} {C : Nat → Int32} {L p p' A op : Nat} {E S : List Nat} (M : MS f C L p A E S op) (h : p' ≤ L) : MS (u2 f 114 14 (nI p')) C L p' A E S op := by
  obtain ⟨m1, m2, m3, m4, m5, m6⟩ := M
  refine ⟨m1.mv h, by rw [u2_nn (by omega)]; exact m2, fun j hj => by rw [u2_nn (by omega)]; exact m3 j hj, by rw [u2_nn (by omega)]; exact m4, stk_fr (fun k _ => u2_nn (by omega)) m5, by rw [u2_nn (by omega)]; exact m6⟩
theorem MS.wr {f : Nat → Nat → Int32} {C : Nat → Int32} {L p A op : Nat} {E S : List Nat} {x : Nat} (M : MS f C L p A E S op) : MS (u2 (u2 f 127 (A + E.length) (mkT x)) 114 24 (nI (A + E.length + 1))) C L p A (E ++ [x]) S op := by
  obtain ⟨⟨n1, n2, n3, n4⟩, m2, m3, m4, m5, m6⟩ := M
  refine ⟨⟨fun i hi => by rw [u2_nn (by omega), u2_nn (by omega)]; exact n1 i hi, by rw [u2_nn (by omega), u2_nn (by omega)]; exact n2, by rw [u2_nn (by omega), u2_nn (by omega)]; exact n3, n4⟩, by rw [u2_ss, len1]; rfl, fun j hj => ?_, by rw [u2_nn (by omega), u2_nn (by omega)]; exact m4, stk_fr (fun k _ => by rw [u2_nn (by omega), u2_nn (by omega)]) m5, by rw [u2_nn (by omega), u2_nn (by omega)]; exact m6⟩
  rw [len1] at hj
  rw [u2_nn (by omega), u2_at]
  by_cases e : j = E.length
  · rw [if_pos ⟨rfl, by omega⟩, e, gd_last]
  · rw [if_neg (by omega), gd_app (by omega)]
    exact m3 j (by omega)
theorem MS.pop {f : Nat → Nat → Int32} {C : Nat → Int32} {L p A op x : Nat} {E S : List Nat} (M : MS f C L p A E (x :: S) op) : MS (u2 f 114 25 (nI S.length)) C L p A E S op := by
  obtain ⟨⟨n1, n2, n3, n4⟩, m2, m3, m4, m5, m6⟩ := M
  exact ⟨⟨fun i hi => by rw [u2_nn (by omega)]; exact n1 i hi, by rw [u2_nn (by omega)]; exact n2, by rw [u2_nn (by omega)]; exact n3, n4⟩, by rw [u2_nn (by omega)]; exact m2, fun j hj => by rw [u2_nn (by omega)]; exact m3 j hj, u2_ss, stk_fr (fun k _ => u2_nn (by omega)) m5.2, by rw [u2_nn (by omega)]; exact m6⟩
theorem MS.push {f : Nat → Nat → Int32} {C : Nat → Int32} {L p A op x : Nat} {E S : List Nat} (M : MS f C L p A E S op) : MS (u2 (u2 f 128 S.length (nI x)) 114 25 (nI (S.length + 1))) C L p A E (x :: S) op := by
  obtain ⟨⟨n1, n2, n3, n4⟩, m2, m3, m4, m5, m6⟩ := M
  exact ⟨⟨fun i hi => by rw [u2_nn (by omega), u2_nn (by omega)]; exact n1 i hi, by rw [u2_nn (by omega), u2_nn (by omega)]; exact n2, by rw [u2_nn (by omega), u2_nn (by omega)]; exact n3, n4⟩, by rw [u2_nn (by omega), u2_nn (by omega)]; exact m2, fun j hj => by rw [u2_nn (by omega), u2_nn (by omega)]; exact m3 j hj, u2_ss, ⟨by rw [u2_nn (by omega), u2_ss], stk_fr (fun k hk => by rw [u2_nn (by omega), u2_nn (by omega)]) m5⟩, by rw [u2_nn (by omega), u2_nn (by omega)]; exact m6⟩
theorem MS.opn {f : Nat → Nat → Int32} {C : Nat → Int32} {L p A op op' : Nat} {E S : List Nat} (M : MS f C L p A E S op) : MS (u2 f 114 26 (nI op')) C L p A E S op' := by
  obtain ⟨⟨n1, n2, n3, n4⟩, m2, m3, m4, m5, m6⟩ := M
  exact ⟨⟨fun i hi => by rw [u2_nn (by omega)]; exact n1 i hi, by rw [u2_nn (by omega)]; exact n2, by rw [u2_nn (by omega)]; exact n3, n4⟩, by rw [u2_nn (by omega)]; exact m2, fun j hj => by rw [u2_nn (by omega)]; exact m3 j hj, by rw [u2_nn (by omega)]; exact m4, stk_fr (fun k _ => u2_nn (by omega)) m5, u2_ss⟩
theorem MS.dig {f : Nat → Nat → Int32} {C : Nat → Int32} {L p A op : Nat} {E S : List Nat} {f' : Nat → Nat → Int32} {p' : Nat} (M : MS f C L p A E S op) (F : ∀ q k, ¬ (q = 114 ∧ (k = 14 ∨ k = 15)) → f' q k = f q k) (e : f' 114 14 = nI p') (h : p' ≤ L) : MS f' C L p' A E S op := by
  obtain ⟨⟨n1, n2, n3, n4⟩, m2, m3, m4, m5, m6⟩ := M
  exact ⟨⟨fun i hi => by rw [F _ _ (by omega)]; exact n1 i hi, by rw [F _ _ (by omega)]; exact n2, e, h⟩, by rw [F _ _ (by omega)]; exact m2, fun j hj => by rw [F _ _ (by omega)]; exact m3 j hj, by rw [F _ _ (by omega)]; exact m4, stk_fr (fun k _ => F _ _ (by omega)) m5, by rw [F _ _ (by omega)]; exact m6⟩
def opT (x : Nat) : Nat := if x = 38 then 6002 else 6003
theorem mk_op : mkT 6001 = -33 ∧ mkT 6002 = -38 ∧ mkT 6003 = -124 := by decide
/-- no sign of these kinds on top -/
def nTop (P : Nat → Prop) : List Nat → Prop
  | [] => True
  | x :: _ => x < 200 ∧ ¬ P x
section HP
variable {sc : aSc} {d : Nat} {r : aRes} {f : Nat → Nat → Int32} {g : Nat → Nat → Int64} {h1 h2 : Nat} {C : Nat → Int32} {L p : Nat} {σ : aS}
theorem s120 {A op x : Nat} {E S : List Nat} (M : MS f C L p A E S op) (hA : A + E.length < 600) : Cl sc (d + 1) 120 [.ref (114 : Nat), .int (mkT x)] (cS f g h1 h2) r ↔ r = (cS (u2 (u2 f 127 (A + E.length) (mkT x)) 114 24 (nI (A + E.length + 1))) g h1 h2, none) := by
  have m2 := M.2.1
  have j1 : inb (nI (A + E.length)) 600 = true := inb_nI hA (by decide)
  have j2 : (nI (A + E.length)).toNatClampNeg = A + E.length := cl_nI (by omega)
  have z1 : nI (A + E.length) + 1 = nI (A + E.length + 1) := by rw [← lt1, nI_add]
  simp only [c120, x120_0, x120_1, x120_4, x120_5, x120_8, x120_9, x120_10, x120_11, x120_12, x120_15, x120_16, x120_17, x120_20, kp114, rf114_5, rp114_5, al115, iA115, it115, rf114_6, rp114_6, al116, iA116, it116, rf114_7, rp114_7, al117, iA117, it117, rf114_8, rp114_8, al118, iA118, it118, rf114_9, rp114_9, al119, iA119, it119, rf114_10, rp114_10, al120, iA120, it120, rf114_16, rp114_16, al121, iA121, it121, rf114_17, rp114_17, al122, iA122, it122, rf114_18, rp114_18, al123, iA123, it123, rf114_19, rp114_19, al124, iA124, it124, rf114_20, rp114_20, al125, iA125, it125, rf114_21, rp114_21, al126, iA126, it126, rf114_22, rp114_22, al127, iA127, it127, rf114_23, rp114_23, al128, iA128, it128, rf114_27, rp114_27, al129, iA129, it129, rf114_28, rp114_28, al130, iA130, it130, rf114_29, rp114_29, al131, iA131, it131, rf114_30, rp114_30, al132, iA132, it132, rf114_31, rp114_31, al133, iA133, it133, rf114_41, rp114_41, al134, iA134, it134, rf114_42, rp114_42, al135, iA135, it135, rf114_44, rp114_44, al136, iA136, it136, rf114_45, rp114_45, al137, iA137, it137, rf114_55, rp114_55, al138, iA138, it138, rf114_56, rp114_56, al139, iA139, it139, rf114_57, rp114_57, al140, iA140, it140, rf114_58, rp114_58, al141, iA141, it141, rf114_59, rp114_59, al142, iA142, it142, rf114_60, rp114_60, al143, iA143, it143, rf114_61, rp114_61, al144, iA144, it144, rf114_62, rp114_62, al145, iA145, it145, rf114_63, rp114_63, al146, iA146, it146, rf114_64, rp114_64, al147, iA147, it147, rf114_66, rp114_66, al148, iA148, it148, rf114_67, rp114_67, al149, iA149, it149, rf114_68, rp114_68, al150, iA150, it150, rf114_69, rp114_69, al151, iA151, it151, rf114_70, rp114_70, al152, iA152, it152, al127, iA127, it127, m2, j1, j2, u2_at, z1, bI_True, bI_False, nI_1, Nat.reduceLeDiff, Nat.reduceEqDiff, nb0, nb1, nbI, eq_self, ex_pr, tl_s, tl_n, if_true, if_false, not_true_eq_false, not_false_eq_true, and_self, and_false, false_and, and_true, true_and]
theorem rep_s (j x : Nat) (S : List Nat) : List.replicate (j + 1) x ++ S = x :: (List.replicate j x ++ S) := rfl
theorem rep_e (j x : Nat) (E : List Nat) : E ++ [x] ++ List.replicate j x = E ++ List.replicate (j + 1) x := by rw [List.append_assoc]; rfl
theorem pkm1 {k : Nat} : nI (k + 1) - 1 = nI k := by rw [← lt1, pk_sub (by omega)]; rfl
/-- whole -/
theorem l121 {A cc : Nat} : ∀ (j op : Nat) (E S : List Nat) (f : Nat → Nat → Int32), MS f C L p A E (List.replicate j 33 ++ S) (op + j) → A + E.length + j ≤ 600 → j + S.length ≤ 100 → nTop (fun x => x = 33) S → ∃ f', MG f f' A cc ∧ MS f' C L p A (E ++ List.replicate j 6001) S op ∧ ∀ d r, (Rn sc (d + 1) 121 0 [.ref (114 : Nat)] [] (cS f g h1 h2) r ↔ r = (cS f' g h1 h2, none))
  | 0, op, E, S, f, M, hA, hS, nt => by
    have M0 := M
    obtain ⟨m1, m2, m3, m4, m5, m6⟩ := M
    refine ⟨f, MG.refl, by rw [List.replicate_zero, List.append_nil]; exact M0, fun d r => ?_⟩
    cases S with
    | nil =>
      have m4 : f 114 25 = 0 := m4
      have e : ¬ (0 : Int32) < 0 := by decide
      simp only [c121, x121_0, x121_1, x121_4, x121_7, x121_8, x121_11, x121_12, x121_15, x121_16, x121_17, x121_18, x121_20, x121_23, x121_24, x121_26, x121_29, x121_30, x121_31, x121_34, x121_35, x121_36, x121_39, x121_40, x121_41, x121_44, x121_45, x121_46, x121_49, x121_52, kp114, rf114_5, rp114_5, al115, iA115, it115, rf114_6, rp114_6, al116, iA116, it116, rf114_7, rp114_7, al117, iA117, it117, rf114_8, rp114_8, al118, iA118, it118, rf114_9, rp114_9, al119, iA119, it119, rf114_10, rp114_10, al120, iA120, it120, rf114_16, rp114_16, al121, iA121, it121, rf114_17, rp114_17, al122, iA122, it122, rf114_18, rp114_18, al123, iA123, it123, rf114_19, rp114_19, al124, iA124, it124, rf114_20, rp114_20, al125, iA125, it125, rf114_21, rp114_21, al126, iA126, it126, rf114_22, rp114_22, al127, iA127, it127, rf114_23, rp114_23, al128, iA128, it128, rf114_27, rp114_27, al129, iA129, it129, rf114_28, rp114_28, al130, iA130, it130, rf114_29, rp114_29, al131, iA131, it131, rf114_30, rp114_30, al132, iA132, it132, rf114_31, rp114_31, al133, iA133, it133, rf114_41, rp114_41, al134, iA134, it134, rf114_42, rp114_42, al135, iA135, it135, rf114_44, rp114_44, al136, iA136, it136, rf114_45, rp114_45, al137, iA137, it137, rf114_55, rp114_55, al138, iA138, it138, rf114_56, rp114_56, al139, iA139, it139, rf114_57, rp114_57, al140, iA140, it140, rf114_58, rp114_58, al141, iA141, it141, rf114_59, rp114_59, al142, iA142, it142, rf114_60, rp114_60, al143, iA143, it143, rf114_61, rp114_61, al144, iA144, it144, rf114_62, rp114_62, al145, iA145, it145, rf114_63, rp114_63, al146, iA146, it146, rf114_64, rp114_64, al147, iA147, it147, rf114_66, rp114_66, al148, iA148, it148, rf114_67, rp114_67, al149, iA149, it149, rf114_68, rp114_68, al150, iA150, it150, rf114_69, rp114_69, al151, iA151, it151, rf114_70, rp114_70, al152, iA152, it152, m4, e, bI_True, bI_False, nI_1, Nat.reduceLeDiff, Nat.reduceEqDiff, nb0, nb1, nbI, eq_self, ex_pr, tl_s, tl_n, if_true, if_false, not_true_eq_false, not_false_eq_true, and_self, and_false, false_and, and_true, true_and]
    | cons x S =>
      have m4 : f 114 25 = nI (S.length + 1) := m4
      have m5 : f 128 S.length = nI x := m5.1
      obtain ⟨nt1, nt2⟩ := nt
      rw [List.length_cons] at hS
      have e : (0 : Int32) < nI (S.length + 1) := by
        rw [← lt0, nI_ltI (by decide) (by omega)]
        omega
      have j1 : inb (nI S.length) 101 = true := inb_nI (by omega) (by decide)
      have j2 : (nI S.length).toNatClampNeg = S.length := cl_nI (by omega)
      have q := @nI_eq x 33 (by omega) (by decide)
      rw [show nI 33 = 33 from rfl] at q
      simp only [c121, x121_0, x121_1, x121_4, x121_7, x121_8, x121_11, x121_12, x121_15, x121_16, x121_17, x121_18, x121_20, x121_23, x121_24, x121_26, x121_29, x121_30, x121_31, x121_34, x121_35, x121_36, x121_39, x121_40, x121_41, x121_44, x121_45, x121_46, x121_49, x121_52, kp114, rf114_5, rp114_5, al115, iA115, it115, rf114_6, rp114_6, al116, iA116, it116, rf114_7, rp114_7, al117, iA117, it117, rf114_8, rp114_8, al118, iA118, it118, rf114_9, rp114_9, al119, iA119, it119, rf114_10, rp114_10, al120, iA120, it120, rf114_16, rp114_16, al121, iA121, it121, rf114_17, rp114_17, al122, iA122, it122, rf114_18, rp114_18, al123, iA123, it123, rf114_19, rp114_19, al124, iA124, it124, rf114_20, rp114_20, al125, iA125, it125, rf114_21, rp114_21, al126, iA126, it126, rf114_22, rp114_22, al127, iA127, it127, rf114_23, rp114_23, al128, iA128, it128, rf114_27, rp114_27, al129, iA129, it129, rf114_28, rp114_28, al130, iA130, it130, rf114_29, rp114_29, al131, iA131, it131, rf114_30, rp114_30, al132, iA132, it132, rf114_31, rp114_31, al133, iA133, it133, rf114_41, rp114_41, al134, iA134, it134, rf114_42, rp114_42, al135, iA135, it135, rf114_44, rp114_44, al136, iA136, it136, rf114_45, rp114_45, al137, iA137, it137, rf114_55, rp114_55, al138, iA138, it138, rf114_56, rp114_56, al139, iA139, it139, rf114_57, rp114_57, al140, iA140, it140, rf114_58, rp114_58, al141, iA141, it141, rf114_59, rp114_59, al142, iA142, it142, rf114_60, rp114_60, al143, iA143, it143, rf114_61, rp114_61, al144, iA144, it144, rf114_62, rp114_62, al145, iA145, it145, rf114_63, rp114_63, al146, iA146, it146, rf114_64, rp114_64, al147, iA147, it147, rf114_66, rp114_66, al148, iA148, it148, rf114_67, rp114_67, al149, iA149, it149, rf114_68, rp114_68, al150, iA150, it150, rf114_69, rp114_69, al151, iA151, it151, rf114_70, rp114_70, al152, iA152, it152, al128, iA128, it128, m4, e, pkm1, j1, j2, m5, q, eq_false nt2, bI_True, bI_False, nI_1, Nat.reduceLeDiff, Nat.reduceEqDiff, nb0, nb1, nbI, eq_self, ex_pr, tl_s, tl_n, if_true, if_false, not_true_eq_false, not_false_eq_true, and_self, and_false, false_and, and_true, true_and]
  | j + 1, op, E, S, f, M, hA, hS, nt => by
    rw [rep_s] at M
    have m4 := M.2.2.2.1
    have m5 := M.2.2.2.2.1.1
    have m6 := M.2.2.2.2.2
    have ll : (List.replicate j 33 ++ S).length = j + S.length := by rw [List.length_append, List.length_replicate]
    have m4 : f 114 25 = nI (j + S.length + 1) := by rw [← ll]; exact m4
    have m5 : f 128 (j + S.length) = nI 33 := by rw [← ll]; exact m5
    have m6 : f 114 26 = nI (op + j + 1) := m6
    have e : (0 : Int32) < nI (j + S.length + 1) := by
      rw [← lt0, nI_ltI (by decide) (by omega)]
      omega
    have j1 : inb (nI (j + S.length)) 101 = true := inb_nI (by omega) (by decide)
    have j2 : (nI (j + S.length)).toNatClampNeg = j + S.length := cl_nI (by omega)
    have k1 := fun d r => @s120 sc d r f g h1 h2 C L p A _ 6001 E _ M (by omega)
    rw [mk_op.1] at k1
    obtain ⟨f1, e1⟩ : ∃ f1, f1 = u2 (u2 f 127 (A + E.length) (-33)) 114 24 (nI (A + E.length + 1)) := ⟨_, rfl⟩
    have M1 : MS f1 C L p A (E ++ [6001]) (33 :: (List.replicate j 33 ++ S)) (op + (j + 1)) := by
      rw [e1]
      have := M.wr (x := 6001)
      rw [mk_op.1] at this
      exact this
    rw [← e1] at k1
    have M2 := (M1.pop).opn (op' := op + j)
    rw [ll] at M2
    have n25 : f1 114 25 = nI (j + S.length + 1) := by rw [e1, u2_nn (by omega), u2_nn (by omega)]; exact m4
    have n26 : f1 114 26 = nI (op + j + 1) := M1.2.2.2.2.2
    obtain ⟨f3, F3, M3, k3⟩ := l121 (cc := cc) j op (E ++ [6001]) S _ M2 (by rw [len1]; omega) (by omega) nt
    rw [rep_e] at M3
    have G1 : MG f f1 A cc := by
      rw [e1]
      exact MG.trans (MG.e (Nat.le_add_right _ _)) (MG.f (k := 24) (by omega))
    refine ⟨f3, MG.trans (MG.trans (MG.trans G1 (MG.f (k := 25) (by omega))) (MG.f (k := 26) (by omega))) F3, M3, fun d r => ?_⟩
    rw [← k3 d r]
    have t33 : nI 33 = 33 := rfl
    simp only [x121_0 (σ := cS f g h1 h2), x121_1, x121_4, x121_7, x121_8, x121_11, x121_12, x121_15, x121_16, x121_17, x121_18, x121_20, x121_23, x121_24, x121_26, x121_29, x121_30, x121_31, x121_34, x121_35, x121_36, x121_39, x121_40, x121_41, x121_44, x121_45, x121_46, x121_49, kp114, rf114_5, rp114_5, al115, iA115, it115, rf114_6, rp114_6, al116, iA116, it116, rf114_7, rp114_7, al117, iA117, it117, rf114_8, rp114_8, al118, iA118, it118, rf114_9, rp114_9, al119, iA119, it119, rf114_10, rp114_10, al120, iA120, it120, rf114_16, rp114_16, al121, iA121, it121, rf114_17, rp114_17, al122, iA122, it122, rf114_18, rp114_18, al123, iA123, it123, rf114_19, rp114_19, al124, iA124, it124, rf114_20, rp114_20, al125, iA125, it125, rf114_21, rp114_21, al126, iA126, it126, rf114_22, rp114_22, al127, iA127, it127, rf114_23, rp114_23, al128, iA128, it128, rf114_27, rp114_27, al129, iA129, it129, rf114_28, rp114_28, al130, iA130, it130, rf114_29, rp114_29, al131, iA131, it131, rf114_30, rp114_30, al132, iA132, it132, rf114_31, rp114_31, al133, iA133, it133, rf114_41, rp114_41, al134, iA134, it134, rf114_42, rp114_42, al135, iA135, it135, rf114_44, rp114_44, al136, iA136, it136, rf114_45, rp114_45, al137, iA137, it137, rf114_55, rp114_55, al138, iA138, it138, rf114_56, rp114_56, al139, iA139, it139, rf114_57, rp114_57, al140, iA140, it140, rf114_58, rp114_58, al141, iA141, it141, rf114_59, rp114_59, al142, iA142, it142, rf114_60, rp114_60, al143, iA143, it143, rf114_61, rp114_61, al144, iA144, it144, rf114_62, rp114_62, al145, iA145, it145, rf114_63, rp114_63, al146, iA146, it146, rf114_64, rp114_64, al147, iA147, it147, rf114_66, rp114_66, al148, iA148, it148, rf114_67, rp114_67, al149, iA149, it149, rf114_68, rp114_68, al150, iA150, it150, rf114_69, rp114_69, al151, iA151, it151, rf114_70, rp114_70, al152, iA152, it152, al128, iA128, it128, m4, e, pkm1, j1, j2, m5, t33, k1, n25, n26, u2_at, bI_True, bI_False, nI_1, Nat.reduceLeDiff, Nat.reduceEqDiff, nb0, nb1, nbI, eq_self, ex_pr, tl_s, tl_n, if_true, if_false, not_true_eq_false, not_false_eq_true, and_self, and_false, false_and, and_true, true_and]
theorem s121 {A cc j op : Nat} {E S : List Nat} (M : MS f C L p A E (List.replicate j 33 ++ S) (op + j)) (hA : A + E.length + j ≤ 600) (hS : j + S.length ≤ 100) (nt : nTop (fun x => x = 33) S) : ∃ f', MG f f' A cc ∧ MS f' C L p A (E ++ List.replicate j 6001) S op ∧ ∀ d r, Cl sc (d + 2) 121 [.ref (114 : Nat)] (cS f g h1 h2) r ↔ r = (cS f' g h1 h2, none) := by
  obtain ⟨f', F, M', k⟩ := @l121 sc g h1 h2 C L p A cc j op E S f M hA hS nt
  refine ⟨f', F, M', fun d r => ?_⟩
  rw [← k d r]
  simp only [c121]
/-- settle -/
theorem l122 {A cc op s : Nat} (hs : s = 38 ∨ s = 124) : ∀ (P : List Nat) (E S : List Nat) (f : Nat → Nat → Int32), MS f C L p A E (P ++ S) op → (∀ x, x ∈ P → x = 38 ∨ x = 124 ∧ s = 124) → A + E.length + P.length ≤ 600 → P.length + S.length ≤ 100 → nTop (fun x => x = 38 ∨ x = 124 ∧ s = 124) S → ∃ f', MG f f' A cc ∧ MS f' C L p A (E ++ P.map opT) S op ∧ ∀ d r, (Rn sc (d + 1) 122 0 [.ref (114 : Nat), .int (nI s)] [] (cS f g h1 h2) r ↔ r = (cS f' g h1 h2, none))
  | [], E, S, f, M, hP, hA, hS, nt => by
    have M0 := M
    obtain ⟨m1, m2, m3, m4, m5, m6⟩ := M
    refine ⟨f, MG.refl, by rw [List.map_nil, List.append_nil]; exact M0, fun d r => ?_⟩
    cases S with
    | nil =>
      have m4 : f 114 25 = 0 := m4
      have e : ¬ (0 : Int32) < 0 := by decide
      simp only [c122, x122_0, x122_1, x122_4, x122_7, x122_8, x122_11, x122_12, x122_15, x122_16, x122_17, x122_18, x122_20, x122_23, x122_24, x122_27, x122_28, x122_31, x122_32, x122_33, x122_34, x122_36, x122_39, x122_40, x122_42, x122_45, x122_46, x122_47, x122_50, x122_51, x122_52, x122_55, x122_56, x122_57, x122_60, x122_61, x122_64, x122_65, x122_66, x122_69, x122_72, kp114, rf114_5, rp114_5, al115, iA115, it115, rf114_6, rp114_6, al116, iA116, it116, rf114_7, rp114_7, al117, iA117, it117, rf114_8, rp114_8, al118, iA118, it118, rf114_9, rp114_9, al119, iA119, it119, rf114_10, rp114_10, al120, iA120, it120, rf114_16, rp114_16, al121, iA121, it121, rf114_17, rp114_17, al122, iA122, it122, rf114_18, rp114_18, al123, iA123, it123, rf114_19, rp114_19, al124, iA124, it124, rf114_20, rp114_20, al125, iA125, it125, rf114_21, rp114_21, al126, iA126, it126, rf114_22, rp114_22, al127, iA127, it127, rf114_23, rp114_23, al128, iA128, it128, rf114_27, rp114_27, al129, iA129, it129, rf114_28, rp114_28, al130, iA130, it130, rf114_29, rp114_29, al131, iA131, it131, rf114_30, rp114_30, al132, iA132, it132, rf114_31, rp114_31, al133, iA133, it133, rf114_41, rp114_41, al134, iA134, it134, rf114_42, rp114_42, al135, iA135, it135, rf114_44, rp114_44, al136, iA136, it136, rf114_45, rp114_45, al137, iA137, it137, rf114_55, rp114_55, al138, iA138, it138, rf114_56, rp114_56, al139, iA139, it139, rf114_57, rp114_57, al140, iA140, it140, rf114_58, rp114_58, al141, iA141, it141, rf114_59, rp114_59, al142, iA142, it142, rf114_60, rp114_60, al143, iA143, it143, rf114_61, rp114_61, al144, iA144, it144, rf114_62, rp114_62, al145, iA145, it145, rf114_63, rp114_63, al146, iA146, it146, rf114_64, rp114_64, al147, iA147, it147, rf114_66, rp114_66, al148, iA148, it148, rf114_67, rp114_67, al149, iA149, it149, rf114_68, rp114_68, al150, iA150, it150, rf114_69, rp114_69, al151, iA151, it151, rf114_70, rp114_70, al152, iA152, it152, m4, e, bI_True, bI_False, nI_1, Nat.reduceLeDiff, Nat.reduceEqDiff, nb0, nb1, nbI, eq_self, ex_pr, tl_s, tl_n, if_true, if_false, not_true_eq_false, not_false_eq_true, and_self, and_false, false_and, and_true, true_and]
    | cons x S =>
      have m4 : f 114 25 = nI (S.length + 1) := m4
      have m5 : f 128 S.length = nI x := m5.1
      obtain ⟨nt1, nt2⟩ := nt
      rw [List.length_cons] at hS
      have e : (0 : Int32) < nI (S.length + 1) := by
        rw [← lt0, nI_ltI (by decide) (by omega)]
        omega
      have j1 : inb (nI S.length) 101 = true := inb_nI (by omega) (by decide)
      have j2 : (nI S.length).toNatClampNeg = S.length := cl_nI (by omega)
      have q := @nI_eq x 38 (by omega) (by decide)
      rw [show nI 38 = 38 from rfl] at q
      have q2 := @nI_eq x 124 (by omega) (by decide)
      rw [show nI 124 = 124 from rfl] at q2
      have n1 : ¬ x = 38 := fun e => nt2 (Or.inl e)
      by_cases w : x = 124
      · have s38 : s = 38 := by
          rcases hs with h | h
          · exact h
          · exact absurd (Or.inr ⟨w, h⟩) nt2
        have t38 : nI s = 38 := by rw [s38]; rfl
        simp only [c122, x122_0, x122_1, x122_4, x122_7, x122_8, x122_11, x122_12, x122_15, x122_16, x122_17, x122_18, x122_20, x122_23, x122_24, x122_27, x122_28, x122_31, x122_32, x122_33, x122_34, x122_36, x122_39, x122_40, x122_42, x122_45, x122_46, x122_47, x122_50, x122_51, x122_52, x122_55, x122_56, x122_57, x122_60, x122_61, x122_64, x122_65, x122_66, x122_69, x122_72, kp114, rf114_5, rp114_5, al115, iA115, it115, rf114_6, rp114_6, al116, iA116, it116, rf114_7, rp114_7, al117, iA117, it117, rf114_8, rp114_8, al118, iA118, it118, rf114_9, rp114_9, al119, iA119, it119, rf114_10, rp114_10, al120, iA120, it120, rf114_16, rp114_16, al121, iA121, it121, rf114_17, rp114_17, al122, iA122, it122, rf114_18, rp114_18, al123, iA123, it123, rf114_19, rp114_19, al124, iA124, it124, rf114_20, rp114_20, al125, iA125, it125, rf114_21, rp114_21, al126, iA126, it126, rf114_22, rp114_22, al127, iA127, it127, rf114_23, rp114_23, al128, iA128, it128, rf114_27, rp114_27, al129, iA129, it129, rf114_28, rp114_28, al130, iA130, it130, rf114_29, rp114_29, al131, iA131, it131, rf114_30, rp114_30, al132, iA132, it132, rf114_31, rp114_31, al133, iA133, it133, rf114_41, rp114_41, al134, iA134, it134, rf114_42, rp114_42, al135, iA135, it135, rf114_44, rp114_44, al136, iA136, it136, rf114_45, rp114_45, al137, iA137, it137, rf114_55, rp114_55, al138, iA138, it138, rf114_56, rp114_56, al139, iA139, it139, rf114_57, rp114_57, al140, iA140, it140, rf114_58, rp114_58, al141, iA141, it141, rf114_59, rp114_59, al142, iA142, it142, rf114_60, rp114_60, al143, iA143, it143, rf114_61, rp114_61, al144, iA144, it144, rf114_62, rp114_62, al145, iA145, it145, rf114_63, rp114_63, al146, iA146, it146, rf114_64, rp114_64, al147, iA147, it147, rf114_66, rp114_66, al148, iA148, it148, rf114_67, rp114_67, al149, iA149, it149, rf114_68, rp114_68, al150, iA150, it150, rf114_69, rp114_69, al151, iA151, it151, rf114_70, rp114_70, al152, iA152, it152, al128, iA128, it128, m4, e, pkm1, j1, j2, m5, q, eq_false n1, q2, eq_true w, t38, bI_True, bI_False, nI_1, Nat.reduceLeDiff, Nat.reduceEqDiff, nb0, nb1, nbI, eq_self, ex_pr, tl_s, tl_n, if_true, if_false, not_true_eq_false, not_false_eq_true, and_self, and_false, false_and, and_true, true_and]
      · simp only [c122, x122_0, x122_1, x122_4, x122_7, x122_8, x122_11, x122_12, x122_15, x122_16, x122_17, x122_18, x122_20, x122_23, x122_24, x122_27, x122_28, x122_31, x122_32, x122_33, x122_34, x122_36, x122_39, x122_40, x122_42, x122_45, x122_46, x122_47, x122_50, x122_51, x122_52, x122_55, x122_56, x122_57, x122_60, x122_61, x122_64, x122_65, x122_66, x122_69, x122_72, kp114, rf114_5, rp114_5, al115, iA115, it115, rf114_6, rp114_6, al116, iA116, it116, rf114_7, rp114_7, al117, iA117, it117, rf114_8, rp114_8, al118, iA118, it118, rf114_9, rp114_9, al119, iA119, it119, rf114_10, rp114_10, al120, iA120, it120, rf114_16, rp114_16, al121, iA121, it121, rf114_17, rp114_17, al122, iA122, it122, rf114_18, rp114_18, al123, iA123, it123, rf114_19, rp114_19, al124, iA124, it124, rf114_20, rp114_20, al125, iA125, it125, rf114_21, rp114_21, al126, iA126, it126, rf114_22, rp114_22, al127, iA127, it127, rf114_23, rp114_23, al128, iA128, it128, rf114_27, rp114_27, al129, iA129, it129, rf114_28, rp114_28, al130, iA130, it130, rf114_29, rp114_29, al131, iA131, it131, rf114_30, rp114_30, al132, iA132, it132, rf114_31, rp114_31, al133, iA133, it133, rf114_41, rp114_41, al134, iA134, it134, rf114_42, rp114_42, al135, iA135, it135, rf114_44, rp114_44, al136, iA136, it136, rf114_45, rp114_45, al137, iA137, it137, rf114_55, rp114_55, al138, iA138, it138, rf114_56, rp114_56, al139, iA139, it139, rf114_57, rp114_57, al140, iA140, it140, rf114_58, rp114_58, al141, iA141, it141, rf114_59, rp114_59, al142, iA142, it142, rf114_60, rp114_60, al143, iA143, it143, rf114_61, rp114_61, al144, iA144, it144, rf114_62, rp114_62, al145, iA145, it145, rf114_63, rp114_63, al146, iA146, it146, rf114_64, rp114_64, al147, iA147, it147, rf114_66, rp114_66, al148, iA148, it148, rf114_67, rp114_67, al149, iA149, it149, rf114_68, rp114_68, al150, iA150, it150, rf114_69, rp114_69, al151, iA151, it151, rf114_70, rp114_70, al152, iA152, it152, al128, iA128, it128, m4, e, pkm1, j1, j2, m5, q, eq_false n1, q2, eq_false w, bI_True, bI_False, nI_1, Nat.reduceLeDiff, Nat.reduceEqDiff, nb0, nb1, nbI, eq_self, ex_pr, tl_s, tl_n, if_true, if_false, not_true_eq_false, not_false_eq_true, and_self, and_false, false_and, and_true, true_and]
  | x :: P, E, S, f, M, hP, hA, hS, nt => by
    have M : MS f C L p A E (x :: (P ++ S)) op := M
    rw [List.length_cons] at hA hS
    have m4 := M.2.2.2.1
    have m5 := M.2.2.2.2.1.1
    have ll : (P ++ S).length = P.length + S.length := List.length_append
    have m4b : f 114 25 = nI (P.length + S.length + 1) := by rw [← ll]; exact m4
    have m5b : f 128 (P.length + S.length) = nI x := by rw [← ll]; exact m5
    clear m4 m5
    have hx := hP x List.mem_cons_self
    have e : (0 : Int32) < nI (P.length + S.length + 1) := by
      rw [← lt0, nI_ltI (by decide) (by omega)]
      omega
    have j1 : inb (nI (P.length + S.length)) 101 = true := inb_nI (by omega) (by decide)
    have j2 : (nI (P.length + S.length)).toNatClampNeg = P.length + S.length := cl_nI (by omega)
    have M1 := M.pop
    rw [ll] at M1
    obtain ⟨f1, e1⟩ : ∃ f1, f1 = u2 f 114 25 (nI (P.length + S.length)) := ⟨_, rfl⟩
    rw [← e1] at M1
    have n25 : f1 114 25 = nI (P.length + S.length) := by rw [e1, u2_ss]
    have n128 : f1 128 (P.length + S.length) = nI x := by rw [e1, u2_nn (by omega)]; exact m5b
    have k1 := fun d r => @s120 sc d r f1 g h1 h2 C L p A op (opT x) E _ M1 (by omega)
    have M2 := M1.wr (x := opT x)
    obtain ⟨f3, F3, M3, k3⟩ := l122 (cc := cc) hs P (E ++ [opT x]) S _ M2 (fun y hy => hP y (List.mem_cons_of_mem _ hy)) (by rw [len1]; omega) (by omega) nt
    rw [List.append_assoc] at M3
    have st1 : cS (u2 f 114 25 (nI (P.length + S.length))) g h1 h2 = cS f1 g h1 h2 := by rw [e1]
    have G1 : MG f f1 A cc := by
      rw [e1]
      exact MG.f (k := 25) (by omega)
    refine ⟨f3, MG.trans (MG.trans G1 (MG.trans (MG.e (Nat.le_add_right _ _)) (MG.f (k := 24) (by omega)))) F3, M3, fun d r => ?_⟩
    rw [← k3 d r]
    rcases hx with rfl | ⟨rfl, rfl⟩
    · have t38 : nI 38 = 38 := rfl
      have ng : -(38 : Int32) = mkT (opT 38) := by decide
      simp only [x122_0 (σ := cS f g h1 h2), x122_1, x122_4, x122_7, x122_8, x122_11, x122_12, x122_15, x122_16, x122_17, x122_18, x122_20, x122_45, x122_46, x122_47, x122_50, x122_51, x122_52, x122_55, x122_56, x122_57, x122_60, x122_61, x122_64, x122_65, x122_66, x122_69, kp114, rf114_5, rp114_5, al115, iA115, it115, rf114_6, rp114_6, al116, iA116, it116, rf114_7, rp114_7, al117, iA117, it117, rf114_8, rp114_8, al118, iA118, it118, rf114_9, rp114_9, al119, iA119, it119, rf114_10, rp114_10, al120, iA120, it120, rf114_16, rp114_16, al121, iA121, it121, rf114_17, rp114_17, al122, iA122, it122, rf114_18, rp114_18, al123, iA123, it123, rf114_19, rp114_19, al124, iA124, it124, rf114_20, rp114_20, al125, iA125, it125, rf114_21, rp114_21, al126, iA126, it126, rf114_22, rp114_22, al127, iA127, it127, rf114_23, rp114_23, al128, iA128, it128, rf114_27, rp114_27, al129, iA129, it129, rf114_28, rp114_28, al130, iA130, it130, rf114_29, rp114_29, al131, iA131, it131, rf114_30, rp114_30, al132, iA132, it132, rf114_31, rp114_31, al133, iA133, it133, rf114_41, rp114_41, al134, iA134, it134, rf114_42, rp114_42, al135, iA135, it135, rf114_44, rp114_44, al136, iA136, it136, rf114_45, rp114_45, al137, iA137, it137, rf114_55, rp114_55, al138, iA138, it138, rf114_56, rp114_56, al139, iA139, it139, rf114_57, rp114_57, al140, iA140, it140, rf114_58, rp114_58, al141, iA141, it141, rf114_59, rp114_59, al142, iA142, it142, rf114_60, rp114_60, al143, iA143, it143, rf114_61, rp114_61, al144, iA144, it144, rf114_62, rp114_62, al145, iA145, it145, rf114_63, rp114_63, al146, iA146, it146, rf114_64, rp114_64, al147, iA147, it147, rf114_66, rp114_66, al148, iA148, it148, rf114_67, rp114_67, al149, iA149, it149, rf114_68, rp114_68, al150, iA150, it150, rf114_69, rp114_69, al151, iA151, it151, rf114_70, rp114_70, al152, iA152, it152, al128, iA128, it128, m4b, e, pkm1, j1, j2, m5b, t38, st1, n25, n128, ng, k1, bI_True, bI_False, nI_1, Nat.reduceLeDiff, Nat.reduceEqDiff, nb0, nb1, nbI, eq_self, ex_pr, tl_s, tl_n, if_true, if_false, not_true_eq_false, not_false_eq_true, and_self, and_false, false_and, and_true, true_and]
    · have t124 : nI 124 = 124 := rfl
      have n1 : ¬ (124 : Int32) = 38 := by decide
      have ng : -(124 : Int32) = mkT (opT 124) := by decide
      simp only [x122_0 (σ := cS f g h1 h2), x122_1, x122_4, x122_7, x122_8, x122_11, x122_12, x122_15, x122_16, x122_17, x122_18, x122_20, x122_23, x122_24, x122_27, x122_28, x122_31, x122_32, x122_33, x122_34, x122_36, x122_39, x122_40, x122_42, x122_45, x122_46, x122_47, x122_50, x122_51, x122_52, x122_55, x122_56, x122_57, x122_60, x122_61, x122_64, x122_65, x122_66, x122_69, kp114, rf114_5, rp114_5, al115, iA115, it115, rf114_6, rp114_6, al116, iA116, it116, rf114_7, rp114_7, al117, iA117, it117, rf114_8, rp114_8, al118, iA118, it118, rf114_9, rp114_9, al119, iA119, it119, rf114_10, rp114_10, al120, iA120, it120, rf114_16, rp114_16, al121, iA121, it121, rf114_17, rp114_17, al122, iA122, it122, rf114_18, rp114_18, al123, iA123, it123, rf114_19, rp114_19, al124, iA124, it124, rf114_20, rp114_20, al125, iA125, it125, rf114_21, rp114_21, al126, iA126, it126, rf114_22, rp114_22, al127, iA127, it127, rf114_23, rp114_23, al128, iA128, it128, rf114_27, rp114_27, al129, iA129, it129, rf114_28, rp114_28, al130, iA130, it130, rf114_29, rp114_29, al131, iA131, it131, rf114_30, rp114_30, al132, iA132, it132, rf114_31, rp114_31, al133, iA133, it133, rf114_41, rp114_41, al134, iA134, it134, rf114_42, rp114_42, al135, iA135, it135, rf114_44, rp114_44, al136, iA136, it136, rf114_45, rp114_45, al137, iA137, it137, rf114_55, rp114_55, al138, iA138, it138, rf114_56, rp114_56, al139, iA139, it139, rf114_57, rp114_57, al140, iA140, it140, rf114_58, rp114_58, al141, iA141, it141, rf114_59, rp114_59, al142, iA142, it142, rf114_60, rp114_60, al143, iA143, it143, rf114_61, rp114_61, al144, iA144, it144, rf114_62, rp114_62, al145, iA145, it145, rf114_63, rp114_63, al146, iA146, it146, rf114_64, rp114_64, al147, iA147, it147, rf114_66, rp114_66, al148, iA148, it148, rf114_67, rp114_67, al149, iA149, it149, rf114_68, rp114_68, al150, iA150, it150, rf114_69, rp114_69, al151, iA151, it151, rf114_70, rp114_70, al152, iA152, it152, al128, iA128, it128, m4b, e, pkm1, j1, j2, m5b, t124, n1, st1, n25, n128, ng, k1, bI_True, bI_False, nI_1, Nat.reduceLeDiff, Nat.reduceEqDiff, nb0, nb1, nbI, eq_self, ex_pr, tl_s, tl_n, if_true, if_false, not_true_eq_false, not_false_eq_true, and_self, and_false, false_and, and_true, true_and]
theorem s122 {A cc op s : Nat} {P E S : List Nat} (hs : s = 38 ∨ s = 124) (M : MS f C L p A E (P ++ S) op) (hP : ∀ x, x ∈ P → x = 38 ∨ x = 124 ∧ s = 124) (hA : A + E.length + P.length ≤ 600) (hS : P.length + S.length ≤ 100) (nt : nTop (fun x => x = 38 ∨ x = 124 ∧ s = 124) S) : ∃ f', MG f f' A cc ∧ MS f' C L p A (E ++ P.map opT) S op ∧ ∀ d r, Cl sc (d + 2) 122 [.ref (114 : Nat), .int (nI s)] (cS f g h1 h2) r ↔ r = (cS f' g h1 h2, none) := by
  obtain ⟨f', F, M', k⟩ := @l122 sc g h1 h2 C L p A cc op s hs P E S f M hP hA hS nt
  refine ⟨f', F, M', fun d r => ?_⟩
  rw [← k d r]
  simp only [c122]
theorem s123 {x : Int32} : Cl sc (d + 1) 123 [.ref (114 : Nat), .int x] σ r ↔ r = (σ, some (.int (plX x))) := by
  unfold plX
  by_cases a1 : x = 115
  · subst a1
    simp (config := { decide := true }) only [c123, x123_0, x123_1, x123_92, x123_93, x123_94, x123_95, x123_96, x123_97, x123_98, x123_99, x123_100, x123_101, x123_102, x123_103, x123_104, x123_105, bI_True, bI_False, nI_1, Nat.reduceLeDiff, Nat.reduceEqDiff, nb0, nb1, nbI, eq_self, ex_pr, tl_s, tl_n, if_true, if_false, not_true_eq_false, not_false_eq_true, and_self, and_false, false_and, and_true, true_and]
  by_cases a2 : x = 107
  · subst a2
    simp (config := { decide := true }) only [c123, x123_0, x123_1, x123_92, x123_93, x123_94, x123_95, x123_96, x123_97, x123_98, x123_99, x123_100, x123_101, x123_102, x123_103, x123_104, x123_105, bI_True, bI_False, nI_1, Nat.reduceLeDiff, Nat.reduceEqDiff, nb0, nb1, nbI, eq_self, ex_pr, tl_s, tl_n, if_true, if_false, not_true_eq_false, not_false_eq_true, and_self, and_false, false_and, and_true, true_and]
  by_cases a3 : x = 118
  · subst a3
    simp (config := { decide := true }) only [c123, x123_0, x123_1, x123_92, x123_93, x123_94, x123_95, x123_96, x123_97, x123_98, x123_99, x123_100, x123_101, x123_102, x123_103, x123_104, x123_105, bI_True, bI_False, nI_1, Nat.reduceLeDiff, Nat.reduceEqDiff, nb0, nb1, nbI, eq_self, ex_pr, tl_s, tl_n, if_true, if_false, not_true_eq_false, not_false_eq_true, and_self, and_false, false_and, and_true, true_and]
  by_cases a4 : x = 100
  · subst a4
    simp (config := { decide := true }) only [c123, x123_0, x123_1, x123_92, x123_93, x123_94, x123_95, x123_96, x123_97, x123_98, x123_99, x123_100, x123_101, x123_102, x123_103, x123_104, x123_105, bI_True, bI_False, nI_1, Nat.reduceLeDiff, Nat.reduceEqDiff, nb0, nb1, nbI, eq_self, ex_pr, tl_s, tl_n, if_true, if_false, not_true_eq_false, not_false_eq_true, and_self, and_false, false_and, and_true, true_and]
  by_cases a5 : x = 108
  · subst a5
    simp (config := { decide := true }) only [c123, x123_0, x123_1, x123_92, x123_93, x123_94, x123_95, x123_96, x123_97, x123_98, x123_99, x123_100, x123_101, x123_102, x123_103, x123_104, x123_105, bI_True, bI_False, nI_1, Nat.reduceLeDiff, Nat.reduceEqDiff, nb0, nb1, nbI, eq_self, ex_pr, tl_s, tl_n, if_true, if_false, not_true_eq_false, not_false_eq_true, and_self, and_false, false_and, and_true, true_and]
  by_cases a6 : x = 104
  · subst a6
    simp (config := { decide := true }) only [c123, x123_0, x123_1, x123_92, x123_93, x123_94, x123_95, x123_96, x123_97, x123_98, x123_99, x123_100, x123_101, x123_102, x123_103, x123_104, x123_105, bI_True, bI_False, nI_1, Nat.reduceLeDiff, Nat.reduceEqDiff, nb0, nb1, nbI, eq_self, ex_pr, tl_s, tl_n, if_true, if_false, not_true_eq_false, not_false_eq_true, and_self, and_false, false_and, and_true, true_and]
  · simp only [c123, x123_0, x123_1, x123_92, x123_93, x123_94, x123_95, x123_96, x123_97, x123_98, x123_99, x123_100, x123_101, x123_102, x123_103, x123_104, x123_105, a1, a2, a3, a4, a5, a6, ite_self, bI_True, bI_False, nI_1, Nat.reduceLeDiff, Nat.reduceEqDiff, nb0, nb1, nbI, eq_self, ex_pr, tl_s, tl_n, if_true, if_false, not_true_eq_false, not_false_eq_true, and_self, and_false, false_and, and_true, true_and]
end HP
