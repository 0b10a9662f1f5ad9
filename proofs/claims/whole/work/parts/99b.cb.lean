/-! a clause, by both (written by wip/whole/mk99b.py) -/
def FC (f f' : Nat → Nat → Int32) (t i a : Nat) : Prop := ∀ q k, ¬ (q = 18 ∧ k = 2) → ¬ (q = 78 + 4 * t ∧ (k = 0 ∨ k = 1 ∨ k = 2 ∨ k = 6)) → ¬ (q = 78 + 4 * t + 1 ∧ k = i) → ¬ (q = 78 + 4 * t + 2 ∧ k = i) → ¬ (q = 78 + 4 * t + 3 ∧ a ≤ k) → f' q k = f q k
theorem FC.tr {f f1 f2 : Nat → Nat → Int32} {t i a : Nat} (x : FC f f1 t i a) (y : FC f1 f2 t i a) : FC f f2 t i a := fun q k a1 a2 a3 a4 a5 => (y q k a1 a2 a3 a4 a5).trans (x q k a1 a2 a3 a4 a5)
theorem KG.fc {f f' : Nat → Nat → Int32} {t i a : Nat} (x : KG f f' t a) : FC f f' t i a := fun q k a1 a2 _ _ a5 => x q k a1 (fun e => a2 ⟨e.1, by omega⟩) a5
def FR (f f' : Nat → Nat → Int32) (A cc : Nat) : Prop := ∀ q k, ¬ (q = 127 ∧ A ≤ k) → q ≠ 128 → ¬ ((q = 123 ∨ q = 124 ∨ q = 125 ∨ q = 126) ∧ k = cc) → ¬ (q = 114 ∧ (k = 14 ∨ k = 15 ∨ k = 24 ∨ k = 25 ∨ k = 26)) → f' q k = f q k
theorem FR.tr {f f1 f2 : Nat → Nat → Int32} {A cc : Nat} (x : FR f f1 A cc) (y : FR f1 f2 A cc) : FR f f2 A cc := fun q k a1 a2 a3 a4 => (y q k a1 a2 a3 a4).trans (x q k a1 a2 a3 a4)
theorem MG.fr {f f' : Nat → Nat → Int32} {A cc : Nat} (x : MG f f' A cc) : FR f f' A cc := fun q k a1 a2 a3 a4 => x q k a1 a2 (fun e => a3 ⟨by omega, e.2⟩) a4
/-- what a clause leaves with the class -/
def CEND (f f' : Nat → Nat → Int32) (t i a w n : Nat) (ts : List Nat) : Prop := f' (78 + 4 * t) 0 = (if w = 2 then nI n else f (78 + 4 * t) 0) ∧ f' (78 + 4 * t) 1 = (if w = 3 then nI (10 * n) else f (78 + 4 * t) 1) ∧ f' (78 + 4 * t) 2 = nI (i + (if w ≤ 1 then 1 else 0)) ∧ f' (78 + 4 * t) 6 = nI (a + ts.length) ∧ (w ≤ 1 → f' (78 + 4 * t + 1) i = amt w n ∧ f' (78 + 4 * t + 2) i = nI (a + ts.length)) ∧ CK f' (78 + 4 * t + 3) a ts
def CLK (sc : aSc) (g : Nat → Nat → Int64) (h1 h2 : Nat) (C : Nat → Int32) (L t a p p' w n : Nat) (ts : List Nat) : Prop := ∀ f i, KT f C L p → f (78 + 4 * t) 2 = nI i → i < 10 → f (78 + 4 * t) 6 = nI a → a ≤ p → ∃ f', FC f f' t i a ∧ KT f' C L p' ∧ CEND f f' t i a w n ts ∧ ∀ D r, 27 ≤ D → (Cl sc D 57 [.ref (18 : Nat), .ref (78 + 4 * t)] (cS f g h1 h2) r ↔ r = (cS f' g h1 h2, some (.int 1)))
def CLF (sc : aSc) (g : Nat → Nat → Int64) (h1 h2 : Nat) (C : Nat → Int32) (L t a p p' : Nat) : Prop := ∀ f i, KT f C L p → f (78 + 4 * t) 2 = nI i → i < 10 → f (78 + 4 * t) 6 = nI a → a ≤ p → ∃ f', FC f f' t i a ∧ f' 18 2 = nI p' ∧ ∀ D r, 27 ≤ D → (Cl sc D 57 [.ref (18 : Nat), .ref (78 + 4 * t)] (cS f g h1 h2) r ↔ r = (cS f' g h1 h2, some (.int 0)))
def RLK (sc : aSc) (d : Nat) (g : Nat → Nat → Int64) (h1 h2 h3 : Nat) (C : Nat → Int32) (L t cc a : Nat) (p p' w n : Nat) (ts : List Nat) : Prop := ∀ f, MTX f C L p → LTs f → f 114 24 = nI (100 * t + a) → a ≤ p → ∃ f', FR f f' (100 * t + a) cc ∧ MTX f' C L p' ∧ f' 114 24 = nI (100 * t + a + ts.length) ∧ f' 123 cc = nI w ∧ f' 124 cc = nI n ∧ (w ≤ 1 → f' 125 cc = nI (100 * t + a) ∧ f' 126 cc = nI (100 * t + a + ts.length) ∧ TK f' (100 * t + a) ts) ∧ ∀ r, Cl sc (d + 10) 127 [.ref (114 : Nat), .int (nI cc)] (cS f g h3 h2) r ↔ r = (cS f' g h3 h2, some (.int 1))
def RLF (sc : aSc) (d : Nat) (g : Nat → Nat → Int64) (h1 h2 h3 : Nat) (C : Nat → Int32) (L t cc a : Nat) (p p' : Nat) : Prop := ∀ f, MTX f C L p → LTs f → f 114 24 = nI (100 * t + a) → a ≤ p → ∃ f', FR f f' (100 * t + a) cc ∧ f' 114 14 = nI p' ∧ ∀ r, Cl sc (d + 10) 127 [.ref (114 : Nat), .int (nI cc)] (cS f g h3 h2) r ↔ r = (cS f' g h3 h2, some (.int 0))
section CLb
variable {sc : aSc} {d : Nat} {r : aRes} {f : Nat → Nat → Int32} {g : Nat → Nat → Int64} {h1 h2 h3 : Nat} {C : Nat → Int32} {L p t cc a : Nat}
theorem e125o {p' : Nat} {u P w : List Nat} (hcc : cc < 60) (ht : t < 6) (T : TXC C L) (R : ROK sc d g h1 h2 h3 C L t cc a 1 p p' [] [] 0 ([] ++ u) (P ++ []) 0) (hw : w = u ++ P.map opT) (hP : ∀ x, x ∈ P → x = 38 ∨ x = 124) (hf : ¬ C p' = nI 38 ∧ ¬ C p' = nI 124) (hb : a + w.length ≤ p') (K : MTX f C L p) (h24 : f 114 24 = nI (100 * t + a)) : ∃ f', FR f f' (100 * t + a) cc ∧ MS f' C L p' (100 * t + a) w [] 0 ∧ f' 125 cc = nI (100 * t + a) ∧ f' 126 cc = nI (100 * t + a + w.length) ∧ (∀ q k, q = 123 ∨ q = 124 → f' q k = f q k) ∧ ∀ r, Cl sc (d + 9) 125 [.ref (114 : Nat), .int (nI cc)] (cS f g h3 h2) r ↔ r = (cS f' g h3 h2, some (.int 1)) := by
  obtain ⟨f0, e0⟩ : ∃ f0, f0 = u2 (u2 (u2 f 114 25 0) 114 26 0) 125 cc (nI (100 * t + a)) := ⟨_, rfl⟩
  have F0 : FR f f0 (100 * t + a) cc := fun q k a1 a2 a3 a4 => by rw [e0, u2_nn (by omega), u2_nn (by omega), u2_nn (by omega)]
  have M0 : MS f0 C L p (100 * t + a) [] [] 0 := ⟨K.fr (by rw [e0, u2_n (by omega), u2_n (by omega), u2_n (by omega)]) (by rw [e0, u2_nn (by omega), u2_nn (by omega), u2_nn (by omega)]) (by rw [e0, u2_nn (by omega), u2_nn (by omega), u2_nn (by omega)]; exact K.2.2.1) K.2.2.2, by rw [e0, u2_nn (by omega), u2_nn (by omega), u2_nn (by omega)]; exact h24, fun j hj => absurd hj (Nat.not_lt_zero j), by rw [e0, u2_nn (by omega), u2_nn (by omega), u2_ss]; rfl, True.intro, by rw [e0, u2_nn (by omega), u2_ss]; rfl⟩
  have lw : u.length + P.length = w.length := by rw [hw, List.length_append, List.length_map]
  obtain ⟨f1, w3, F1, M1, k1⟩ := R f0 mk0 M0
  rw [List.nil_append] at M1
  obtain ⟨f2, F2, M2, n126, k2⟩ := @r125s sc d g h3 h2 C L t cc a p' 0 P u [] f1 w3 hcc ht T M1 hP True.intro (by show a + u.length + P.length + 0 ≤ p'; omega) hf
  rw [← hw] at M2 n126
  have n25 : f2 114 25 = 0 := M2.2.2.2.1
  have st1 : cS (u2 (u2 (u2 f 114 25 0) 114 26 0) 125 cc (nI (100 * t + a))) g h3 h2 = cS f0 g h3 h2 := by rw [e0]
  have j1 : inb (nI cc) 60 = true := inb_nI hcc (by decide)
  have j2 : (nI cc).toNatClampNeg = cc := cl_nI (by omega)
  rw [lt1] at k1
  refine ⟨f2, F0.tr (F1.fr.tr F2.fr), M2, ?_, n126, fun q k hq => ?_, fun r => ?_⟩
  · rw [F2 _ _ (by omega) (by omega) (by omega) (by omega), F1 _ _ (by omega) (by omega) (by omega) (by omega), e0, u2_ss]
  · rw [F2 _ _ (by omega) (by omega) (by omega) (by omega), F1 _ _ (by omega) (by omega) (by omega) (by omega), e0, u2_nn (by omega), u2_nn (by omega), u2_nn (by omega)]
  · simp only [c125, x125_0, x125_1, x125_2, x125_5, x125_6, x125_7, x125_10, x125_11, x125_14, x125_15, x125_16, x125_19, x125_20, x125_21, kp114, rf114_5, rp114_5, al115, iA115, it115, rf114_6, rp114_6, al116, iA116, it116, rf114_7, rp114_7, al117, iA117, it117, rf114_8, rp114_8, al118, iA118, it118, rf114_9, rp114_9, al119, iA119, it119, rf114_10, rp114_10, al120, iA120, it120, rf114_16, rp114_16, al121, iA121, it121, rf114_17, rp114_17, al122, iA122, it122, rf114_18, rp114_18, al123, iA123, it123, rf114_19, rp114_19, al124, iA124, it124, rf114_20, rp114_20, al125, iA125, it125, rf114_21, rp114_21, al126, iA126, it126, rf114_22, rp114_22, al127, iA127, it127, rf114_23, rp114_23, al128, iA128, it128, rf114_27, rp114_27, al129, iA129, it129, rf114_28, rp114_28, al130, iA130, it130, rf114_29, rp114_29, al131, iA131, it131, rf114_30, rp114_30, al132, iA132, it132, rf114_31, rp114_31, al133, iA133, it133, rf114_41, rp114_41, al134, iA134, it134, rf114_42, rp114_42, al135, iA135, it135, rf114_44, rp114_44, al136, iA136, it136, rf114_45, rp114_45, al137, iA137, it137, rf114_55, rp114_55, al138, iA138, it138, rf114_56, rp114_56, al139, iA139, it139, rf114_57, rp114_57, al140, iA140, it140, rf114_58, rp114_58, al141, iA141, it141, rf114_59, rp114_59, al142, iA142, it142, rf114_60, rp114_60, al143, iA143, it143, rf114_61, rp114_61, al144, iA144, it144, rf114_62, rp114_62, al145, iA145, it145, rf114_63, rp114_63, al146, iA146, it146, rf114_64, rp114_64, al147, iA147, it147, rf114_66, rp114_66, al148, iA148, it148, rf114_67, rp114_67, al149, iA149, it149, rf114_68, rp114_68, al150, iA150, it150, rf114_69, rp114_69, al151, iA151, it151, rf114_70, rp114_70, al152, iA152, it152, al125, iA125, it125, h24, u2_at, j1, j2, st1, k1, k2, bI_True, bI_False, nI_1, Nat.reduceLeDiff, Nat.reduceEqDiff, nb0, nb1, nbI, eq_self, ex_pr, tl_s, tl_n, if_true, if_false, not_true_eq_false, not_false_eq_true, and_self, and_false, false_and, and_true, true_and]
    simp only [x125_178, x125_179, x125_182, x125_185, x125_186, kp114, rf114_5, rp114_5, al115, iA115, it115, rf114_6, rp114_6, al116, iA116, it116, rf114_7, rp114_7, al117, iA117, it117, rf114_8, rp114_8, al118, iA118, it118, rf114_9, rp114_9, al119, iA119, it119, rf114_10, rp114_10, al120, iA120, it120, rf114_16, rp114_16, al121, iA121, it121, rf114_17, rp114_17, al122, iA122, it122, rf114_18, rp114_18, al123, iA123, it123, rf114_19, rp114_19, al124, iA124, it124, rf114_20, rp114_20, al125, iA125, it125, rf114_21, rp114_21, al126, iA126, it126, rf114_22, rp114_22, al127, iA127, it127, rf114_23, rp114_23, al128, iA128, it128, rf114_27, rp114_27, al129, iA129, it129, rf114_28, rp114_28, al130, iA130, it130, rf114_29, rp114_29, al131, iA131, it131, rf114_30, rp114_30, al132, iA132, it132, rf114_31, rp114_31, al133, iA133, it133, rf114_41, rp114_41, al134, iA134, it134, rf114_42, rp114_42, al135, iA135, it135, rf114_44, rp114_44, al136, iA136, it136, rf114_45, rp114_45, al137, iA137, it137, rf114_55, rp114_55, al138, iA138, it138, rf114_56, rp114_56, al139, iA139, it139, rf114_57, rp114_57, al140, iA140, it140, rf114_58, rp114_58, al141, iA141, it141, rf114_59, rp114_59, al142, iA142, it142, rf114_60, rp114_60, al143, iA143, it143, rf114_61, rp114_61, al144, iA144, it144, rf114_62, rp114_62, al145, iA145, it145, rf114_63, rp114_63, al146, iA146, it146, rf114_64, rp114_64, al147, iA147, it147, rf114_66, rp114_66, al148, iA148, it148, rf114_67, rp114_67, al149, iA149, it149, rf114_68, rp114_68, al150, iA150, it150, rf114_69, rp114_69, al151, iA151, it151, rf114_70, rp114_70, al152, iA152, it152, n25, bI_True, bI_False, nI_1, Nat.reduceLeDiff, Nat.reduceEqDiff, nb0, nb1, nbI, eq_self, ex_pr, tl_s, tl_n, if_true, if_false, not_true_eq_false, not_false_eq_true, and_self, and_false, false_and, and_true, true_and]
theorem e125f {p' : Nat} (hcc : cc < 60) (T : TXC C L) (R : RNO sc d g h1 h2 h3 C L t cc a 1 p p' [] [] 0) (K : MTX f C L p) (h24 : f 114 24 = nI (100 * t + a)) : ∃ f', FR f f' (100 * t + a) cc ∧ f' 114 14 = nI p' ∧ ∀ r, Cl sc (d + 9) 125 [.ref (114 : Nat), .int (nI cc)] (cS f g h3 h2) r ↔ r = (cS f' g h3 h2, some (.int 0)) := by
  obtain ⟨f0, e0⟩ : ∃ f0, f0 = u2 (u2 (u2 f 114 25 0) 114 26 0) 125 cc (nI (100 * t + a)) := ⟨_, rfl⟩
  have F0 : FR f f0 (100 * t + a) cc := fun q k a1 a2 a3 a4 => by rw [e0, u2_nn (by omega), u2_nn (by omega), u2_nn (by omega)]
  have M0 : MS f0 C L p (100 * t + a) [] [] 0 := ⟨K.fr (by rw [e0, u2_n (by omega), u2_n (by omega), u2_n (by omega)]) (by rw [e0, u2_nn (by omega), u2_nn (by omega), u2_nn (by omega)]) (by rw [e0, u2_nn (by omega), u2_nn (by omega), u2_nn (by omega)]; exact K.2.2.1) K.2.2.2, by rw [e0, u2_nn (by omega), u2_nn (by omega), u2_nn (by omega)]; exact h24, fun j hj => absurd hj (Nat.not_lt_zero j), by rw [e0, u2_nn (by omega), u2_nn (by omega), u2_ss]; rfl, True.intro, by rw [e0, u2_nn (by omega), u2_ss]; rfl⟩
  obtain ⟨f1, F1, n14, k1⟩ := R f0 mk0 M0
  have st1 : cS (u2 (u2 (u2 f 114 25 0) 114 26 0) 125 cc (nI (100 * t + a))) g h3 h2 = cS f0 g h3 h2 := by rw [e0]
  have j1 : inb (nI cc) 60 = true := inb_nI hcc (by decide)
  have j2 : (nI cc).toNatClampNeg = cc := cl_nI (by omega)
  rw [lt1] at k1
  refine ⟨f1, F0.tr F1.fr, n14, fun r => ?_⟩
  simp only [c125, x125_0, x125_1, x125_2, x125_5, x125_6, x125_7, x125_10, x125_11, x125_14, x125_15, x125_16, x125_19, x125_20, x125_21, kp114, rf114_5, rp114_5, al115, iA115, it115, rf114_6, rp114_6, al116, iA116, it116, rf114_7, rp114_7, al117, iA117, it117, rf114_8, rp114_8, al118, iA118, it118, rf114_9, rp114_9, al119, iA119, it119, rf114_10, rp114_10, al120, iA120, it120, rf114_16, rp114_16, al121, iA121, it121, rf114_17, rp114_17, al122, iA122, it122, rf114_18, rp114_18, al123, iA123, it123, rf114_19, rp114_19, al124, iA124, it124, rf114_20, rp114_20, al125, iA125, it125, rf114_21, rp114_21, al126, iA126, it126, rf114_22, rp114_22, al127, iA127, it127, rf114_23, rp114_23, al128, iA128, it128, rf114_27, rp114_27, al129, iA129, it129, rf114_28, rp114_28, al130, iA130, it130, rf114_29, rp114_29, al131, iA131, it131, rf114_30, rp114_30, al132, iA132, it132, rf114_31, rp114_31, al133, iA133, it133, rf114_41, rp114_41, al134, iA134, it134, rf114_42, rp114_42, al135, iA135, it135, rf114_44, rp114_44, al136, iA136, it136, rf114_45, rp114_45, al137, iA137, it137, rf114_55, rp114_55, al138, iA138, it138, rf114_56, rp114_56, al139, iA139, it139, rf114_57, rp114_57, al140, iA140, it140, rf114_58, rp114_58, al141, iA141, it141, rf114_59, rp114_59, al142, iA142, it142, rf114_60, rp114_60, al143, iA143, it143, rf114_61, rp114_61, al144, iA144, it144, rf114_62, rp114_62, al145, iA145, it145, rf114_63, rp114_63, al146, iA146, it146, rf114_64, rp114_64, al147, iA147, it147, rf114_66, rp114_66, al148, iA148, it148, rf114_67, rp114_67, al149, iA149, it149, rf114_68, rp114_68, al150, iA150, it150, rf114_69, rp114_69, al151, iA151, it151, rf114_70, rp114_70, al152, iA152, it152, al125, iA125, it125, h24, u2_at, j1, j2, st1, k1, bI_True, bI_False, nI_1, Nat.reduceLeDiff, Nat.reduceEqDiff, nb0, nb1, nbI, eq_self, ex_pr, tl_s, tl_n, if_true, if_false, not_true_eq_false, not_false_eq_true, and_self, and_false, false_and, and_true, true_and]
theorem wf_of {w : List Nat} {n : Nat} (h : WFt w n) (hn : n ≤ 177) : wf w 0 := by
  have := h [] 0 (by omega) (show (0 : Nat) + 1 = 1 from rfl)
  rw [List.append_nil] at this
  exact this
/-- the class, behind a head -/
theorem cl_alt (hcc : cc < 60) (ht : t < 6) (T : TXC C L) (hp : p ≤ L) (ha : a ≤ p) : (∃ p', p ≤ p' ∧ p' ≤ L ∧ CLF sc g h1 h2 C L t a p p' ∧ RLF sc d g h1 h2 h3 C L t cc a p p') ∨ ∃ p' w n ts, (p < p' ∧ p' ≤ L ∧ w ≤ 3 ∧ n ≤ 99 ∧ (w ≤ 1 → wf ts 0) ∧ (¬ w ≤ 1 → ts = []) ∧ ts.length + p ≤ p') ∧ CLK sc g h1 h2 C L t a p p' w n ts ∧ RLK sc d g h1 h2 h3 C L t cc a p p' w n ts := by
  have tl := T.1
  have HL := hlf t ht
  have j1 : inb (nI cc) 60 = true := inb_nI hcc (by decide)
  have j2 : (nI cc).toNatClampNeg = cc := cl_nI (by omega)
  have t32 : nI 32 = 32 := rfl
  rcases hd_alt (p := p) T hp with ⟨p1, q1, q2, hd⟩ | ⟨p1, w, hw3, q1, q2, hd⟩
  · refine Or.inl ⟨p1, q1, q2, fun f i K e2 hi e6 _ => ?_, fun f K LT h24 _ => ?_⟩
    · refine ⟨_, KG.at.fc, u2_ss, fun D r hD => ?_⟩
      obtain ⟨D', rfl⟩ : ∃ D', D = D' + 7 := ⟨D - 7, by omega⟩
      rw [c57]
      exact h57f T K hd
    · obtain ⟨x, k⟩ := @h126f sc f g h3 h2 C L p cc p1 hcc T K LT hd
      refine ⟨u2 (u2 f 123 cc x) 114 14 (nI p1), fun q k a1 a2 a3 a4 => by rw [u2_nn (by omega), u2_nn (by omega)], u2_ss, fun r => ?_⟩
      simp only [c127, x127_0, x127_1, x127_2, x127_5, x127_15, x127_16, kp114, rf114_5, rp114_5, al115, iA115, it115, rf114_6, rp114_6, al116, iA116, it116, rf114_7, rp114_7, al117, iA117, it117, rf114_8, rp114_8, al118, iA118, it118, rf114_9, rp114_9, al119, iA119, it119, rf114_10, rp114_10, al120, iA120, it120, rf114_16, rp114_16, al121, iA121, it121, rf114_17, rp114_17, al122, iA122, it122, rf114_18, rp114_18, al123, iA123, it123, rf114_19, rp114_19, al124, iA124, it124, rf114_20, rp114_20, al125, iA125, it125, rf114_21, rp114_21, al126, iA126, it126, rf114_22, rp114_22, al127, iA127, it127, rf114_23, rp114_23, al128, iA128, it128, rf114_27, rp114_27, al129, iA129, it129, rf114_28, rp114_28, al130, iA130, it130, rf114_29, rp114_29, al131, iA131, it131, rf114_30, rp114_30, al132, iA132, it132, rf114_31, rp114_31, al133, iA133, it133, rf114_41, rp114_41, al134, iA134, it134, rf114_42, rp114_42, al135, iA135, it135, rf114_44, rp114_44, al136, iA136, it136, rf114_45, rp114_45, al137, iA137, it137, rf114_55, rp114_55, al138, iA138, it138, rf114_56, rp114_56, al139, iA139, it139, rf114_57, rp114_57, al140, iA140, it140, rf114_58, rp114_58, al141, iA141, it141, rf114_59, rp114_59, al142, iA142, it142, rf114_60, rp114_60, al143, iA143, it143, rf114_61, rp114_61, al144, iA144, it144, rf114_62, rp114_62, al145, iA145, it145, rf114_63, rp114_63, al146, iA146, it146, rf114_64, rp114_64, al147, iA147, it147, rf114_66, rp114_66, al148, iA148, it148, rf114_67, rp114_67, al149, iA149, it149, rf114_68, rp114_68, al150, iA150, it150, rf114_69, rp114_69, al151, iA151, it151, rf114_70, rp114_70, al152, iA152, it152, k, bI_True, bI_False, nI_1, Nat.reduceLeDiff, Nat.reduceEqDiff, nb0, nb1, nbI, eq_self, ex_pr, tl_s, tl_n, if_true, if_false, not_true_eq_false, not_false_eq_true, and_self, and_false, false_and, and_true, true_and]
  -- the reference's head, and its class
  have rh : ∀ f, MTX f C L p → LTs f → ∃ f1, FR f f1 (100 * t + a) cc ∧ (∀ q k, ¬ (q = 123 ∧ k = cc) → ¬ (q = 114 ∧ k = 14) → f1 q k = f q k) ∧ MTX f1 C L p1 ∧ f1 123 cc = nI w ∧ ∀ d r, Cl sc (d + 5) 126 [.ref (114 : Nat), .int (nI cc)] (cS f g h3 h2) r ↔ r = (cS f1 g h3 h2, some (.int 1)) := fun f K LT => by
    refine ⟨u2 (u2 f 123 cc (nI w)) 114 14 (nI p1), fun q k a1 a2 a3 a4 => by rw [u2_nn (by omega), u2_nn (by omega)], fun q k a1 a2 => by rw [u2_nn (by omega), u2_nn (by omega)], K.fr (by rw [u2_n (by omega), u2_n (by omega)]) (by rw [u2_nn (by omega), u2_nn (by omega)]) u2_ss q2, by rw [u2_nn (by omega), u2_ss], fun d r => h126o hcc T K LT hd⟩
  rcases num_alt (p := p1) T with nd | ⟨n, p2, hn, x1, x2, x3, nv⟩
  · refine Or.inl ⟨p1, by omega, q2, fun f i K e2 hi e6 _ => ?_, fun f K LT h24 _ => ?_⟩
    · have k1 := fun d r => @s61f sc d r _ g h1 h2 C L p1 T (K.mv q2) nd
      refine ⟨_, KG.at.fc, u2_ss, fun D r hD => ?_⟩
      obtain ⟨D', rfl⟩ : ∃ D', D = D' + 7 := ⟨D - 7, by omega⟩
      rw [c57, h57o T K hd]
      simp only [x57_85, x57_86, x57_89, x57_91, x57_93, x57_94, x57_97, x57_98, kp18, rf18_0, rp18_0, al19, iA19, it19, k1, bI_True, bI_False, nI_1, Nat.reduceLeDiff, Nat.reduceEqDiff, nb0, nb1, nbI, eq_self, ex_pr, tl_s, tl_n, if_true, if_false, not_true_eq_false, not_false_eq_true, and_self, and_false, false_and, and_true, true_and]
    · obtain ⟨f1, F1, -, K1, n123, k1⟩ := rh f K LT
      have k2 := fun d r => @s119f sc d r f1 g h3 h2 C L p1 T K1 nd
      refine ⟨f1, F1, K1.2.2.1, fun r => ?_⟩
      simp only [c127, x127_0, x127_1, x127_2, x127_5, x127_8, x127_9, x127_12, x127_15, x127_16, kp114, rf114_5, rp114_5, al115, iA115, it115, rf114_6, rp114_6, al116, iA116, it116, rf114_7, rp114_7, al117, iA117, it117, rf114_8, rp114_8, al118, iA118, it118, rf114_9, rp114_9, al119, iA119, it119, rf114_10, rp114_10, al120, iA120, it120, rf114_16, rp114_16, al121, iA121, it121, rf114_17, rp114_17, al122, iA122, it122, rf114_18, rp114_18, al123, iA123, it123, rf114_19, rp114_19, al124, iA124, it124, rf114_20, rp114_20, al125, iA125, it125, rf114_21, rp114_21, al126, iA126, it126, rf114_22, rp114_22, al127, iA127, it127, rf114_23, rp114_23, al128, iA128, it128, rf114_27, rp114_27, al129, iA129, it129, rf114_28, rp114_28, al130, iA130, it130, rf114_29, rp114_29, al131, iA131, it131, rf114_30, rp114_30, al132, iA132, it132, rf114_31, rp114_31, al133, iA133, it133, rf114_41, rp114_41, al134, iA134, it134, rf114_42, rp114_42, al135, iA135, it135, rf114_44, rp114_44, al136, iA136, it136, rf114_45, rp114_45, al137, iA137, it137, rf114_55, rp114_55, al138, iA138, it138, rf114_56, rp114_56, al139, iA139, it139, rf114_57, rp114_57, al140, iA140, it140, rf114_58, rp114_58, al141, iA141, it141, rf114_59, rp114_59, al142, iA142, it142, rf114_60, rp114_60, al143, iA143, it143, rf114_61, rp114_61, al144, iA144, it144, rf114_62, rp114_62, al145, iA145, it145, rf114_63, rp114_63, al146, iA146, it146, rf114_64, rp114_64, al147, iA147, it147, rf114_66, rp114_66, al148, iA148, it148, rf114_67, rp114_67, al149, iA149, it149, rf114_68, rp114_68, al150, iA150, it150, rf114_69, rp114_69, al151, iA151, it151, rf114_70, rp114_70, al152, iA152, it152, k1, zi1, k2, bI_True, bI_False, nI_1, Nat.reduceLeDiff, Nat.reduceEqDiff, nb0, nb1, nbI, eq_self, ex_pr, tl_s, tl_n, if_true, if_false, not_true_eq_false, not_false_eq_true, and_self, and_false, false_and, and_true, true_and]
  -- the reference's number
  have rn : ∀ f, MTX f C L p → LTs f → f 114 24 = nI (100 * t + a) → ∃ f1, FR f f1 (100 * t + a) cc ∧ MTX f1 C L p2 ∧ f1 123 cc = nI w ∧ f1 124 cc = nI n ∧ f1 114 24 = nI (100 * t + a) ∧ ∀ r, (Cl sc (d + 10) 127 [.ref (114 : Nat), .int (nI cc)] (cS f g h3 h2) r ↔ if (1 : Int32) < nI w then r = (cS f1 g h3 h2, some (.int 1)) else Rn sc (d + 9) 127 37 [.ref (114 : Nat), .int (nI cc)] [] (cS f1 g h3 h2) r) := fun f K LT h24 => by
    obtain ⟨f1, F1, G1, K1, n123, k1⟩ := rh f K LT
    obtain ⟨f2, F2, d2, e2, k2⟩ := @s119 sc f1 g h3 h2 C L p1 n p2 T K1 nv
    have n123' : f2 123 cc = nI w := by rw [F2 _ _ (by omega)]; exact n123
    refine ⟨u2 f2 124 cc (nI n), F1.tr (fun q k a1 a2 a3 a4 => by rw [u2_nn (by omega), F2 _ _ (by omega)]), K1.fr (by rw [u2_n (by omega)]; funext k; exact F2 _ _ (by omega)) (by rw [u2_nn (by omega), F2 _ _ (by omega)]) (by rw [u2_nn (by omega)]; exact e2) x2, by rw [u2_nn (by omega)]; exact n123', u2_ss, by rw [u2_nn (by omega), F2 _ _ (by omega), G1 _ _ (by omega) (by omega)]; exact h24, fun r => ?_⟩
    simp only [c127, x127_0, x127_1, x127_2, x127_5, x127_8, x127_9, x127_12, x127_17, x127_18, x127_21, x127_22, x127_23, x127_26, x127_27, x127_28, x127_31, x127_32, x127_33, x127_34, x127_54, x127_55, x127_59, kp114, rf114_5, rp114_5, al115, iA115, it115, rf114_6, rp114_6, al116, iA116, it116, rf114_7, rp114_7, al117, iA117, it117, rf114_8, rp114_8, al118, iA118, it118, rf114_9, rp114_9, al119, iA119, it119, rf114_10, rp114_10, al120, iA120, it120, rf114_16, rp114_16, al121, iA121, it121, rf114_17, rp114_17, al122, iA122, it122, rf114_18, rp114_18, al123, iA123, it123, rf114_19, rp114_19, al124, iA124, it124, rf114_20, rp114_20, al125, iA125, it125, rf114_21, rp114_21, al126, iA126, it126, rf114_22, rp114_22, al127, iA127, it127, rf114_23, rp114_23, al128, iA128, it128, rf114_27, rp114_27, al129, iA129, it129, rf114_28, rp114_28, al130, iA130, it130, rf114_29, rp114_29, al131, iA131, it131, rf114_30, rp114_30, al132, iA132, it132, rf114_31, rp114_31, al133, iA133, it133, rf114_41, rp114_41, al134, iA134, it134, rf114_42, rp114_42, al135, iA135, it135, rf114_44, rp114_44, al136, iA136, it136, rf114_45, rp114_45, al137, iA137, it137, rf114_55, rp114_55, al138, iA138, it138, rf114_56, rp114_56, al139, iA139, it139, rf114_57, rp114_57, al140, iA140, it140, rf114_58, rp114_58, al141, iA141, it141, rf114_59, rp114_59, al142, iA142, it142, rf114_60, rp114_60, al143, iA143, it143, rf114_61, rp114_61, al144, iA144, it144, rf114_62, rp114_62, al145, iA145, it145, rf114_63, rp114_63, al146, iA146, it146, rf114_64, rp114_64, al147, iA147, it147, rf114_66, rp114_66, al148, iA148, it148, rf114_67, rp114_67, al149, iA149, it149, rf114_68, rp114_68, al150, iA150, it150, rf114_69, rp114_69, al151, iA151, it151, rf114_70, rp114_70, al152, iA152, it152, al123, iA123, it123, al124, iA124, it124, k1, zi1, k2, d2, j1, j2, u2_at, n123', bI_True, bI_False, nI_1, Nat.reduceLeDiff, Nat.reduceEqDiff, nb0, nb1, nbI, eq_self, ex_pr, tl_s, tl_n, if_true, if_false, not_true_eq_false, not_false_eq_true, and_self, and_false, false_and, and_true, true_and]
  by_cases hw : w ≤ 1
  · -- snow or slush
    have wgt : ¬ (1 : Int32) < nI w := by
      rw [← lt1, nI_ltI (by decide) (by omega)]
      omega
    have fa1 : nI (faW w) = 1 := by
      unfold faW
      rw [if_pos hw]
      rfl
    -- the class comes so far
    have cn : ∀ f, KT f C L p → ∀ D r, 27 ≤ D → (Cl sc D 57 [.ref (18 : Nat), .ref (78 + 4 * t)] (cS f g h1 h2) r ↔ Rn sc (D - 1) 57 103 [.ref (18 : Nat), .ref (78 + 4 * t), .int 1, .int (nI (slW w)), .int (nI (roW w)), .int (nI n)] [] (cS (u2 f 18 2 (nI p2)) g h1 h2) r) := fun f K D r hD => by
      have k1 := fun d r => @s61 sc d r _ g h1 h2 C L p1 n p2 T (K.mv q2) nv
      have e3 : ¬ nI n = -1 := nm1 (by omega)
      obtain ⟨D', rfl⟩ : ∃ D', D = D' + 7 := ⟨D - 7, by omega⟩
      rw [show D' + 7 - 1 = D' + 6 by omega, c57, h57o T K hd, fa1]
      simp only [x57_85, x57_86, x57_89, x57_91, x57_93, x57_94, x57_99, x57_100, kp18, rf18_0, rp18_0, al19, iA19, it19, k1, u2_u2, e3, zi1, bI_True, bI_False, nI_1, Nat.reduceLeDiff, Nat.reduceEqDiff, nb0, nb1, nbI, eq_self, ex_pr, tl_s, tl_n, if_true, if_false, not_true_eq_false, not_false_eq_true, and_self, and_false, false_and, and_true, true_and]
    by_cases y : C p2 = nI 32
    · have pl := T.lt y (by decide)
      rcases ei_all (sc := sc) (d := d) (g := g) (h1 := h1) (h2 := h2) (h3 := h3) (a := a) hcc ht T (p2 + 1) 4 (by omega) (by omega) (by omega) with ⟨p', ts, u, P, ⟨b1, b2, b3, b4, b5⟩, b6, b7, b8, b9⟩ | ⟨p', b1, b2, b3, b4⟩
      · refine Or.inr ⟨p', w, n, ts, ⟨by omega, b2, hw3, hn, fun _ => wf_of b4 (by omega), fun h => absurd hw h, by omega⟩, fun f i K e2 hi e6 ha' => ?_, fun f K LT h24 ha' => ?_⟩
        · have K2 : KT (u2 f 18 2 (nI p2)) C L p2 := K.mv x2
          have k1 := fun d r => @s62t sc d r _ g h1 h2 C L p2 32 T K2 y
          have KS0 : KS (u2 f 18 2 (nI (p2 + 1))) t C L (p2 + 1) a [] := ⟨K.mv (by omega), by rw [u2_nn (by omega)]; exact e6, fun j hj => absurd hj (Nat.not_lt_zero j)⟩
          obtain ⟨f3, F3, K3, k3⟩ := b6 _ [] KS0 (by show a + 0 ≤ p2 + 1; omega)
          rw [List.nil_append] at K3
          have n2 : f3 (78 + 4 * t) 2 = nI i := by rw [F3 _ _ (by omega) (by omega) (by omega), u2_nn (by omega)]; exact e2
          have k4 := fun d r => @s27 sc d r f3 g h1 h2 t (a + ts.length) i (amt w n) ht hi n2 K3.2.1
          refine ⟨u2 (u2 (u2 f3 (78 + 4 * t + 1) i (amt w n)) (78 + 4 * t + 2) i (nI (a + ts.length))) (78 + 4 * t) 2 (nI (i + 1)), (KG.trans KG.at F3).fc.tr (fun q k a1 a2 a3 a4 a5 => by rw [u2_nn (by omega), u2_nn (by omega), u2_nn (by omega)]), K3.1.fr (fun k => by rw [u2_nn (by omega), u2_nn (by omega), u2_nn (by omega)]) (by rw [u2_nn (by omega), u2_nn (by omega), u2_nn (by omega)]) (by rw [u2_nn (by omega), u2_nn (by omega), u2_nn (by omega)]; exact K3.1.2.1) b2, ⟨?_, ?_, ?_, ?_, fun _ => ⟨?_, ?_⟩, fun j hj => ?_⟩, fun D r hD => ?_⟩
          · rw [if_neg (by omega), u2_nn (by omega), u2_nn (by omega), u2_nn (by omega), F3 _ _ (by omega) (by omega) (by omega), u2_nn (by omega)]
          · rw [if_neg (by omega), u2_nn (by omega), u2_nn (by omega), u2_nn (by omega), F3 _ _ (by omega) (by omega) (by omega), u2_nn (by omega)]
          · rw [if_pos hw, u2_ss]
          · rw [u2_nn (by omega), u2_nn (by omega), u2_nn (by omega)]
            exact K3.2.1
          · rw [u2_nn (by omega), u2_nn (by omega), u2_ss]
          · rw [u2_nn (by omega), u2_ss]
          · rw [u2_nn (by omega), u2_nn (by omega), u2_nn (by omega)]
            exact K3.2.2 j hj
          · rw [cn f K D r hD]
            have k3' := fun r => k3 (D - 1) r (by omega)
            obtain ⟨D', hD'⟩ : ∃ D', D - 1 = D' + 2 := ⟨D - 3, by omega⟩
            rw [hD'] at k3' ⊢
            have e00 : nI (4 - 4) = 0 := rfl
            rw [e00] at k3'
            rw [t32] at k1
            rcases (show w = 0 ∨ w = 1 by omega) with rfl | rfl
            · have s0 : nI (slW 0) = 0 := rfl
              have am : amt 0 n = nI n := if_pos rfl
              rw [am] at k4 ⊢
              rw [s0]
              simp only [x57_103, x57_104, x57_106, x57_109, x57_112, x57_113, x57_114, x57_115, x57_118, x57_123, x57_124, x57_125, x57_134, x57_136, x57_139, x57_165, x57_166, kp18, rf18_0, rp18_0, al19, iA19, it19, HL.k, k1, u2_u2, zi1, k3', k4, bI_True, bI_False, nI_1, Nat.reduceLeDiff, Nat.reduceEqDiff, nb0, nb1, nbI, eq_self, ex_pr, tl_s, tl_n, if_true, if_false, not_true_eq_false, not_false_eq_true, and_self, and_false, false_and, and_true, true_and]
            · have s0 : nI (slW 1) = 1 := rfl
              have am : amt 1 n = -nI n := if_neg (by decide)
              rw [am] at k4 ⊢
              rw [s0]
              simp only [x57_103, x57_104, x57_106, x57_109, x57_112, x57_113, x57_114, x57_115, x57_118, x57_123, x57_124, x57_125, x57_128, x57_130, x57_131, x57_136, x57_139, x57_165, x57_166, kp18, rf18_0, rp18_0, al19, iA19, it19, HL.k, k1, u2_u2, zi1, k3', k4, bI_True, bI_False, nI_1, Nat.reduceLeDiff, Nat.reduceEqDiff, nb0, nb1, nbI, eq_self, ex_pr, tl_s, tl_n, if_true, if_false, not_true_eq_false, not_false_eq_true, and_self, and_false, false_and, and_true, true_and]
        · obtain ⟨f1, F1, K1, n123, n124, n24, k1⟩ := rn f K LT h24
          have k2 := fun d r => @s116t sc d r f1 g h3 h2 C L p2 (nI 32) T K1 y
          have R := b9 [] [] (by show a + 0 + 0 ≤ p2 + 1; omega) True.intro
          obtain ⟨f3, F3, M3, n125, n126, G3, k3⟩ := @e125o sc d _ g h1 h2 h3 C L (p2 + 1) t cc a p' u P ts hcc ht T R b7 b8 b5 (by omega) (K1.mv (p' := p2 + 1) (by omega)) (by rw [u2_nn (by omega)]; exact n24)
          rw [t32] at k2
          refine ⟨f3, F1.tr (FR.tr (fun q k a1 a2 a3 a4 => u2_nn (by omega)) F3), M3.1, M3.2.1, ?_, ?_, fun _ => ⟨n125, n126, M3.2.2.1⟩, fun r => ?_⟩
          · rw [G3 _ _ (by omega), u2_nn (by omega)]
            exact n123
          · rw [G3 _ _ (by omega), u2_nn (by omega)]
            exact n124
          · rw [k1, if_neg wgt]
            simp only [x127_37, x127_38, x127_40, x127_43, x127_46, x127_47, x127_48, x127_51, x127_54, x127_55, x127_59, kp114, rf114_5, rp114_5, al115, iA115, it115, rf114_6, rp114_6, al116, iA116, it116, rf114_7, rp114_7, al117, iA117, it117, rf114_8, rp114_8, al118, iA118, it118, rf114_9, rp114_9, al119, iA119, it119, rf114_10, rp114_10, al120, iA120, it120, rf114_16, rp114_16, al121, iA121, it121, rf114_17, rp114_17, al122, iA122, it122, rf114_18, rp114_18, al123, iA123, it123, rf114_19, rp114_19, al124, iA124, it124, rf114_20, rp114_20, al125, iA125, it125, rf114_21, rp114_21, al126, iA126, it126, rf114_22, rp114_22, al127, iA127, it127, rf114_23, rp114_23, al128, iA128, it128, rf114_27, rp114_27, al129, iA129, it129, rf114_28, rp114_28, al130, iA130, it130, rf114_29, rp114_29, al131, iA131, it131, rf114_30, rp114_30, al132, iA132, it132, rf114_31, rp114_31, al133, iA133, it133, rf114_41, rp114_41, al134, iA134, it134, rf114_42, rp114_42, al135, iA135, it135, rf114_44, rp114_44, al136, iA136, it136, rf114_45, rp114_45, al137, iA137, it137, rf114_55, rp114_55, al138, iA138, it138, rf114_56, rp114_56, al139, iA139, it139, rf114_57, rp114_57, al140, iA140, it140, rf114_58, rp114_58, al141, iA141, it141, rf114_59, rp114_59, al142, iA142, it142, rf114_60, rp114_60, al143, iA143, it143, rf114_61, rp114_61, al144, iA144, it144, rf114_62, rp114_62, al145, iA145, it145, rf114_63, rp114_63, al146, iA146, it146, rf114_64, rp114_64, al147, iA147, it147, rf114_66, rp114_66, al148, iA148, it148, rf114_67, rp114_67, al149, iA149, it149, rf114_68, rp114_68, al150, iA150, it150, rf114_69, rp114_69, al151, iA151, it151, rf114_70, rp114_70, al152, iA152, it152, k2, zi1, k3, bI_True, bI_False, nI_1, Nat.reduceLeDiff, Nat.reduceEqDiff, nb0, nb1, nbI, eq_self, ex_pr, tl_s, tl_n, if_true, if_false, not_true_eq_false, not_false_eq_true, and_self, and_false, false_and, and_true, true_and]
      · refine Or.inl ⟨p', by omega, b2, fun f i K e2 hi e6 ha' => ?_, fun f K LT h24 ha' => ?_⟩
        · have K2 : KT (u2 f 18 2 (nI p2)) C L p2 := K.mv x2
          have k1 := fun d r => @s62t sc d r _ g h1 h2 C L p2 32 T K2 y
          have KS0 : KS (u2 f 18 2 (nI (p2 + 1))) t C L (p2 + 1) a [] := ⟨K.mv (by omega), by rw [u2_nn (by omega)]; exact e6, fun j hj => absurd hj (Nat.not_lt_zero j)⟩
          obtain ⟨f3, F3, K3, k3⟩ := b3 _ [] KS0 (by show a + 0 ≤ p2 + 1; omega)
          refine ⟨f3, (KG.trans KG.at F3).fc, K3, fun D r hD => ?_⟩
          rw [cn f K D r hD]
          have k3' := fun r => k3 (D - 1) r (by omega)
          obtain ⟨D', hD'⟩ : ∃ D', D - 1 = D' + 2 := ⟨D - 3, by omega⟩
          rw [hD'] at k3' ⊢
          have e00 : nI (4 - 4) = 0 := rfl
          rw [e00] at k3'
          rw [t32] at k1
          simp only [x57_103, x57_104, x57_106, x57_109, x57_112, x57_113, x57_114, x57_115, x57_118, x57_121, x57_122, kp18, rf18_0, rp18_0, al19, iA19, it19, HL.k, k1, u2_u2, zi1, k3', bI_True, bI_False, nI_1, Nat.reduceLeDiff, Nat.reduceEqDiff, nb0, nb1, nbI, eq_self, ex_pr, tl_s, tl_n, if_true, if_false, not_true_eq_false, not_false_eq_true, and_self, and_false, false_and, and_true, true_and]
        · obtain ⟨f1, F1, K1, n123, n124, n24, k1⟩ := rn f K LT h24
          have k2 := fun d r => @s116t sc d r f1 g h3 h2 C L p2 (nI 32) T K1 y
          have R := b4 [] [] (by show a + 0 + 0 ≤ p2 + 1; omega) True.intro
          obtain ⟨f3, F3, n14, k3⟩ := @e125f sc d _ g h1 h2 h3 C L (p2 + 1) t cc a p' hcc T R (K1.mv (p' := p2 + 1) (by omega)) (by rw [u2_nn (by omega)]; exact n24)
          rw [t32] at k2
          refine ⟨f3, F1.tr (FR.tr (fun q k a1 a2 a3 a4 => u2_nn (by omega)) F3), n14, fun r => ?_⟩
          rw [k1, if_neg wgt]
          simp only [x127_37, x127_38, x127_40, x127_43, x127_46, x127_47, x127_48, x127_51, x127_58, x127_59, kp114, rf114_5, rp114_5, al115, iA115, it115, rf114_6, rp114_6, al116, iA116, it116, rf114_7, rp114_7, al117, iA117, it117, rf114_8, rp114_8, al118, iA118, it118, rf114_9, rp114_9, al119, iA119, it119, rf114_10, rp114_10, al120, iA120, it120, rf114_16, rp114_16, al121, iA121, it121, rf114_17, rp114_17, al122, iA122, it122, rf114_18, rp114_18, al123, iA123, it123, rf114_19, rp114_19, al124, iA124, it124, rf114_20, rp114_20, al125, iA125, it125, rf114_21, rp114_21, al126, iA126, it126, rf114_22, rp114_22, al127, iA127, it127, rf114_23, rp114_23, al128, iA128, it128, rf114_27, rp114_27, al129, iA129, it129, rf114_28, rp114_28, al130, iA130, it130, rf114_29, rp114_29, al131, iA131, it131, rf114_30, rp114_30, al132, iA132, it132, rf114_31, rp114_31, al133, iA133, it133, rf114_41, rp114_41, al134, iA134, it134, rf114_42, rp114_42, al135, iA135, it135, rf114_44, rp114_44, al136, iA136, it136, rf114_45, rp114_45, al137, iA137, it137, rf114_55, rp114_55, al138, iA138, it138, rf114_56, rp114_56, al139, iA139, it139, rf114_57, rp114_57, al140, iA140, it140, rf114_58, rp114_58, al141, iA141, it141, rf114_59, rp114_59, al142, iA142, it142, rf114_60, rp114_60, al143, iA143, it143, rf114_61, rp114_61, al144, iA144, it144, rf114_62, rp114_62, al145, iA145, it145, rf114_63, rp114_63, al146, iA146, it146, rf114_64, rp114_64, al147, iA147, it147, rf114_66, rp114_66, al148, iA148, it148, rf114_67, rp114_67, al149, iA149, it149, rf114_68, rp114_68, al150, iA150, it150, rf114_69, rp114_69, al151, iA151, it151, rf114_70, rp114_70, al152, iA152, it152, k2, zi1, k3, bI_True, bI_False, nI_1, Nat.reduceLeDiff, Nat.reduceEqDiff, nb0, nb1, nbI, eq_self, ex_pr, tl_s, tl_n, if_true, if_false, not_true_eq_false, not_false_eq_true, and_self, and_false, false_and, and_true, true_and]
    · refine Or.inl ⟨p2, by omega, x2, fun f i K e2 hi e6 ha' => ?_, fun f K LT h24 ha' => ?_⟩
      · have K2 : KT (u2 f 18 2 (nI p2)) C L p2 := K.mv x2
        have k1 := fun d r => @s62f sc d r _ g h1 h2 C L p2 32 T K2 y
        refine ⟨_, KG.at.fc, u2_ss, fun D r hD => ?_⟩
        rw [cn f K D r hD]
        obtain ⟨D', hD'⟩ : ∃ D', D - 1 = D' + 2 := ⟨D - 3, by omega⟩
        rw [hD', t32] at *
        simp only [x57_103, x57_104, x57_106, x57_109, x57_121, x57_122, kp18, rf18_0, rp18_0, al19, iA19, it19, k1, bI_True, bI_False, nI_1, Nat.reduceLeDiff, Nat.reduceEqDiff, nb0, nb1, nbI, eq_self, ex_pr, tl_s, tl_n, if_true, if_false, not_true_eq_false, not_false_eq_true, and_self, and_false, false_and, and_true, true_and]
      · obtain ⟨f1, F1, K1, n123, n124, n24, k1⟩ := rn f K LT h24
        have k2 := fun d r => @s116f sc d r f1 g h3 h2 C L p2 (nI 32) T K1 y
        rw [t32] at k2
        refine ⟨f1, F1, K1.2.2.1, fun r => ?_⟩
        rw [k1, if_neg wgt]
        simp only [x127_37, x127_38, x127_40, x127_43, x127_58, x127_59, kp114, rf114_5, rp114_5, al115, iA115, it115, rf114_6, rp114_6, al116, iA116, it116, rf114_7, rp114_7, al117, iA117, it117, rf114_8, rp114_8, al118, iA118, it118, rf114_9, rp114_9, al119, iA119, it119, rf114_10, rp114_10, al120, iA120, it120, rf114_16, rp114_16, al121, iA121, it121, rf114_17, rp114_17, al122, iA122, it122, rf114_18, rp114_18, al123, iA123, it123, rf114_19, rp114_19, al124, iA124, it124, rf114_20, rp114_20, al125, iA125, it125, rf114_21, rp114_21, al126, iA126, it126, rf114_22, rp114_22, al127, iA127, it127, rf114_23, rp114_23, al128, iA128, it128, rf114_27, rp114_27, al129, iA129, it129, rf114_28, rp114_28, al130, iA130, it130, rf114_29, rp114_29, al131, iA131, it131, rf114_30, rp114_30, al132, iA132, it132, rf114_31, rp114_31, al133, iA133, it133, rf114_41, rp114_41, al134, iA134, it134, rf114_42, rp114_42, al135, iA135, it135, rf114_44, rp114_44, al136, iA136, it136, rf114_45, rp114_45, al137, iA137, it137, rf114_55, rp114_55, al138, iA138, it138, rf114_56, rp114_56, al139, iA139, it139, rf114_57, rp114_57, al140, iA140, it140, rf114_58, rp114_58, al141, iA141, it141, rf114_59, rp114_59, al142, iA142, it142, rf114_60, rp114_60, al143, iA143, it143, rf114_61, rp114_61, al144, iA144, it144, rf114_62, rp114_62, al145, iA145, it145, rf114_63, rp114_63, al146, iA146, it146, rf114_64, rp114_64, al147, iA147, it147, rf114_66, rp114_66, al148, iA148, it148, rf114_67, rp114_67, al149, iA149, it149, rf114_68, rp114_68, al150, iA150, it150, rf114_69, rp114_69, al151, iA151, it151, rf114_70, rp114_70, al152, iA152, it152, k2, bI_True, bI_False, nI_1, Nat.reduceLeDiff, Nat.reduceEqDiff, nb0, nb1, nbI, eq_self, ex_pr, tl_s, tl_n, if_true, if_false, not_true_eq_false, not_false_eq_true, and_self, and_false, false_and, and_true, true_and]
  · -- rope or need
    have wgt : (1 : Int32) < nI w := by
      rw [← lt1, nI_ltI (by decide) (by omega)]
      omega
    have fa0 : nI (faW w) = 0 := by
      unfold faW
      rw [if_neg hw]
      rfl
    refine Or.inr ⟨p2, w, n, [], ⟨by omega, x2, hw3, hn, fun h => absurd h hw, fun _ => rfl, by show 0 + p ≤ p2; omega⟩, fun f i K e2 hi e6 ha' => ?_, fun f K LT h24 ha' => ?_⟩
    · have k1 := fun d r => @s61 sc d r _ g h1 h2 C L p1 n p2 T (K.mv q2) nv
      have e3 : ¬ nI n = -1 := nm1 (by omega)
      have t10 : (10 : Int32) * nI n = nI (10 * n) := nI_mul 10 n
      rcases (show w = 2 ∨ w = 3 by omega) with rfl | rfl
      · refine ⟨u2 (u2 f 18 2 (nI p2)) (78 + 4 * t) 0 (nI n), KG.at.fc.tr (fun q k a1 a2 a3 a4 a5 => by rw [u2_nn (by omega)]), K.fr (fun k => by rw [u2_nn (by omega), u2_nn (by omega)]) (by rw [u2_nn (by omega), u2_nn (by omega)]) (by rw [u2_nn (by omega), u2_ss]) x2, ⟨by rw [if_pos rfl, u2_ss], by rw [if_neg (by omega), u2_nn (by omega), u2_nn (by omega)], by rw [if_neg hw, u2_nn (by omega), u2_nn (by omega)]; exact e2, by rw [u2_nn (by omega), u2_nn (by omega)]; exact e6, fun h => absurd h hw, fun j hj => absurd hj (Nat.not_lt_zero j)⟩, fun D r hD => ?_⟩
        obtain ⟨D', rfl⟩ : ∃ D', D = D' + 7 := ⟨D - 7, by omega⟩
        have s0 : nI (roW 2) = 0 := rfl
        rw [c57, h57o T K hd, fa0, s0]
        simp only [x57_85, x57_86, x57_89, x57_91, x57_93, x57_94, x57_99, x57_100, x57_142, x57_144, x57_159, x57_160, x57_162, x57_165, x57_166, kp18, rf18_0, rp18_0, al19, iA19, it19, HL.k, HL.g, k1, u2_u2, e3, bI_True, bI_False, nI_1, Nat.reduceLeDiff, Nat.reduceEqDiff, nb0, nb1, nbI, eq_self, ex_pr, tl_s, tl_n, if_true, if_false, not_true_eq_false, not_false_eq_true, and_self, and_false, false_and, and_true, true_and]
      · refine ⟨u2 (u2 f 18 2 (nI p2)) (78 + 4 * t) 1 (nI (10 * n)), KG.at.fc.tr (fun q k a1 a2 a3 a4 a5 => by rw [u2_nn (by omega)]), K.fr (fun k => by rw [u2_nn (by omega), u2_nn (by omega)]) (by rw [u2_nn (by omega), u2_nn (by omega)]) (by rw [u2_nn (by omega), u2_ss]) x2, ⟨by rw [if_neg (by omega), u2_nn (by omega), u2_nn (by omega)], by rw [if_pos rfl, u2_ss], by rw [if_neg hw, u2_nn (by omega), u2_nn (by omega)]; exact e2, by rw [u2_nn (by omega), u2_nn (by omega)]; exact e6, fun h => absurd h hw, fun j hj => absurd hj (Nat.not_lt_zero j)⟩, fun D r hD => ?_⟩
        obtain ⟨D', rfl⟩ : ∃ D', D = D' + 7 := ⟨D - 7, by omega⟩
        have s0 : nI (roW 3) = 1 := rfl
        rw [c57, h57o T K hd, fa0, s0]
        simp only [x57_85, x57_86, x57_89, x57_91, x57_93, x57_94, x57_99, x57_100, x57_142, x57_144, x57_147, x57_148, x57_150, x57_152, x57_153, x57_156, x57_165, x57_166, kp18, rf18_0, rp18_0, al19, iA19, it19, HL.k, HL.g, k1, u2_u2, e3, zi1, t10, bI_True, bI_False, nI_1, Nat.reduceLeDiff, Nat.reduceEqDiff, nb0, nb1, nbI, eq_self, ex_pr, tl_s, tl_n, if_true, if_false, not_true_eq_false, not_false_eq_true, and_self, and_false, false_and, and_true, true_and]
    · obtain ⟨f1, F1, K1, n123, n124, n24, k1⟩ := rn f K LT h24
      refine ⟨f1, F1, K1, n24, n123, n124, fun h => absurd h hw, fun r => ?_⟩
      rw [k1, if_pos wgt]
end CLb
