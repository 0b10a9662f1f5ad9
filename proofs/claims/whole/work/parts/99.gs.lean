/-! E whole, by both (written by wip/whole/mk99.py) -/
theorem MS.to {f : Nat → Nat → Int32} {C : Nat → Int32} {L p A op cc : Nat} {E S : List Nat} {x : Int32} (M : MS f C L p A E S op) : MS (u2 f 126 cc x) C L p A E S op := by
  obtain ⟨⟨n1, n2, n3, n4⟩, m2, m3, m4, m5, m6⟩ := M
  exact ⟨⟨fun i hi => by rw [u2_nn (by omega)]; exact n1 i hi, by rw [u2_nn (by omega)]; exact n2, by rw [u2_nn (by omega)]; exact n3, n4⟩, by rw [u2_nn (by omega)]; exact m2, fun j hj => by rw [u2_nn (by omega)]; exact m3 j hj, by rw [u2_nn (by omega)]; exact m4, stk_fr (fun k _ => u2_nn (by omega)) m5, by rw [u2_nn (by omega)]; exact m6⟩
theorem MG.t {f : Nat → Nat → Int32} {A cc : Nat} {x : Int32} : MG f (u2 f 126 cc x) A cc := fun q j _ _ h3 _ => u2_nn h3
section GS
variable {sc : aSc} {d : Nat} {r : aRes} {g : Nat → Nat → Int64} {h1 h2 h3 : Nat} {C : Nat → Int32} {L t cc a : Nat}
/-- behind a test or a ): all that waits is settled -/
theorem r125s {q op : Nat} {P E S : List Nat} {f : Nat → Nat → Int32} {v3 : Value} (hcc : cc < 60) (ht : t < 6) (T : TXC C L) (M : MS f C L q (100 * t + a) E (P ++ S) op) (hP : ∀ x, x ∈ P → x = 38 ∨ x = 124) (nt : nTop (fun x => x = 38 ∨ x = 124) S) (hb : a + E.length + P.length + S.length ≤ q) (hq : ¬ C q = nI 38 ∧ ¬ C q = nI 124) : ∃ f1, MG f f1 (100 * t + a) cc ∧ MS f1 C L q (100 * t + a) (E ++ P.map opT) S op ∧ f1 126 cc = nI (100 * t + a + (E ++ P.map opT).length) ∧ ∀ r, (Rn sc (d + 8) 125 22 [.ref (114 : Nat), .int (nI cc), .int (nI 0), v3] [] (cS f g h1 h2) r ↔ Rn sc (d + 8) 125 178 [.ref (114 : Nat), .int (nI cc), .int (nI 0), .int (C q)] [] (cS f1 g h1 h2) r) := by
  have tl := T.1
  have ql := M.1.2.2.2
  have k0 := fun d r => @s114 sc d r f g h1 h2 C L q T M.1
  obtain ⟨f1, F1, M1, k1⟩ := @s122 sc f g h1 h2 C L q (100 * t + a) cc op 124 P E S (Or.inr rfl) M (fun x hx => by have := hP x hx; omega) (by omega) (by omega) (by
    cases S with
    | nil => exact True.intro
    | cons y S => exact ⟨nt.1, fun z => nt.2 (by dsimp only at z ⊢; omega)⟩)
  have n24 := M1.2.1
  have j1 : inb (nI cc) 60 = true := inb_nI hcc (by decide)
  have j2 : (nI cc).toNatClampNeg = cc := cl_nI (by omega)
  have e1 : ¬ C q = 38 := hq.1
  have e2 : ¬ C q = 124 := hq.2
  have t124 : nI 124 = 124 := rfl
  rw [t124] at k1
  refine ⟨_, MG.trans F1 MG.t, M1.to, u2_ss, fun r => ?_⟩
  rw [lt0]
  simp only [x125_22 (σ := cS f g h1 h2), x125_23, x125_26, x125_27, x125_28, x125_110, x125_111, x125_113, x125_116, x125_117, x125_119, x125_162, x125_163, x125_165, x125_168, x125_169, x125_172, x125_173, x125_174, x125_177, kp114, rf114_5, rp114_5, al115, iA115, it115, rf114_6, rp114_6, al116, iA116, it116, rf114_7, rp114_7, al117, iA117, it117, rf114_8, rp114_8, al118, iA118, it118, rf114_9, rp114_9, al119, iA119, it119, rf114_10, rp114_10, al120, iA120, it120, rf114_16, rp114_16, al121, iA121, it121, rf114_17, rp114_17, al122, iA122, it122, rf114_18, rp114_18, al123, iA123, it123, rf114_19, rp114_19, al124, iA124, it124, rf114_20, rp114_20, al125, iA125, it125, rf114_21, rp114_21, al126, iA126, it126, rf114_22, rp114_22, al127, iA127, it127, rf114_23, rp114_23, al128, iA128, it128, rf114_27, rp114_27, al129, iA129, it129, rf114_28, rp114_28, al130, iA130, it130, rf114_29, rp114_29, al131, iA131, it131, rf114_30, rp114_30, al132, iA132, it132, rf114_31, rp114_31, al133, iA133, it133, rf114_41, rp114_41, al134, iA134, it134, rf114_42, rp114_42, al135, iA135, it135, rf114_44, rp114_44, al136, iA136, it136, rf114_45, rp114_45, al137, iA137, it137, rf114_55, rp114_55, al138, iA138, it138, rf114_56, rp114_56, al139, iA139, it139, rf114_57, rp114_57, al140, iA140, it140, rf114_58, rp114_58, al141, iA141, it141, rf114_59, rp114_59, al142, iA142, it142, rf114_60, rp114_60, al143, iA143, it143, rf114_61, rp114_61, al144, iA144, it144, rf114_62, rp114_62, al145, iA145, it145, rf114_63, rp114_63, al146, iA146, it146, rf114_64, rp114_64, al147, iA147, it147, rf114_66, rp114_66, al148, iA148, it148, rf114_67, rp114_67, al149, iA149, it149, rf114_68, rp114_68, al150, iA150, it150, rf114_69, rp114_69, al151, iA151, it151, rf114_70, rp114_70, al152, iA152, it152, al126, iA126, it126, k0, e1, e2, k1, n24, j1, j2, bI_True, bI_False, nI_1, Nat.reduceLeDiff, Nat.reduceEqDiff, nb0, nb1, nbI, eq_self, ex_pr, tl_s, tl_n, if_true, if_false, not_true_eq_false, not_false_eq_true, and_self, and_false, false_and, and_true, true_and]
theorem r125p {q op j : Nat} {P E S : List Nat} {f : Nat → Nat → Int32} {v3 : Value} (hcc : cc < 60) (ht : t < 6) (T : TXC C L) (M : MS f C L q (100 * t + a) E (P ++ 40 :: (List.replicate j 33 ++ S)) (op + j + 1)) (hP : ∀ x, x ∈ P → x = 38 ∨ x = 124) (nt : nTop (fun x => x = 33) S) (hb : a + E.length + P.length + j + 1 + S.length ≤ q) (hq : C q = nI 41) : ∃ f1 w3, MG f f1 (100 * t + a) cc ∧ MS f1 C L (q + 1) (100 * t + a) (E ++ P.map opT ++ List.replicate j 6001) S op ∧ ∀ r, (Rn sc (d + 8) 125 22 [.ref (114 : Nat), .int (nI cc), .int (nI 0), v3] [] (cS f g h1 h2) r ↔ Rn sc (d + 8) 125 22 [.ref (114 : Nat), .int (nI cc), .int (nI 0), w3] [] (cS f1 g h1 h2) r) := by
  have tl := T.1
  have ql := T.lt hq (by decide)
  have ll : (40 :: (List.replicate j 33 ++ S)).length = j + S.length + 1 := by rw [List.length_cons, List.length_append, List.length_replicate]
  have l2 : (List.replicate j 33 ++ S).length = j + S.length := by rw [List.length_append, List.length_replicate]
  obtain ⟨f1, F1, M1, -, k1⟩ := @r125s sc d g h1 h2 C L t cc a q (op + j + 1) P E (40 :: (List.replicate j 33 ++ S)) f v3 hcc ht T M hP ⟨by decide, by decide⟩ (by rw [ll]; omega) (by rw [hq]; decide)
  have n25 : f1 114 25 = nI (j + S.length + 1) := by rw [← ll]; exact M1.2.2.2.1
  have n26 : f1 114 26 = nI (op + j + 1) := M1.2.2.2.2.2
  have n14 := M1.1.2.2.1
  have M2 := ((M1.pop).opn (op' := op + j)).mv (p' := q + 1) (by omega)
  rw [l2] at M2
  obtain ⟨f3, F3, M3, k3⟩ := @s121 sc _ g h1 h2 C L (q + 1) (100 * t + a) cc j op _ S M2 (by rw [List.length_append, List.length_map]; omega) (by omega) nt
  have e0 : ¬ nI (j + S.length + 1) = 0 := by
    rw [← lt0, nI_eq (by omega) (by decide)]
    omega
  have t41 : nI 41 = 41 := rfl
  have z2 : nI q + 1 = nI (q + 1) := by rw [← lt1, nI_add]
  refine ⟨f3, .int (C q), MG.trans F1 (MG.trans (MG.trans (MG.trans (MG.f (k := 25) (by omega)) (MG.f (k := 26) (by omega))) (MG.f (k := 14) (by omega))) F3), M3, fun r => ?_⟩
  rw [k1, hq, t41]
  simp only [x125_178, x125_179, x125_182, x125_187, x125_188, x125_190, x125_195, x125_196, x125_197, x125_200, x125_201, x125_202, x125_205, x125_206, x125_207, x125_210, x125_211, x125_212, x125_215, x125_216, x125_217, x125_220, x125_221, x125_222, x125_225, x125_226, x125_229, kp114, rf114_5, rp114_5, al115, iA115, it115, rf114_6, rp114_6, al116, iA116, it116, rf114_7, rp114_7, al117, iA117, it117, rf114_8, rp114_8, al118, iA118, it118, rf114_9, rp114_9, al119, iA119, it119, rf114_10, rp114_10, al120, iA120, it120, rf114_16, rp114_16, al121, iA121, it121, rf114_17, rp114_17, al122, iA122, it122, rf114_18, rp114_18, al123, iA123, it123, rf114_19, rp114_19, al124, iA124, it124, rf114_20, rp114_20, al125, iA125, it125, rf114_21, rp114_21, al126, iA126, it126, rf114_22, rp114_22, al127, iA127, it127, rf114_23, rp114_23, al128, iA128, it128, rf114_27, rp114_27, al129, iA129, it129, rf114_28, rp114_28, al130, iA130, it130, rf114_29, rp114_29, al131, iA131, it131, rf114_30, rp114_30, al132, iA132, it132, rf114_31, rp114_31, al133, iA133, it133, rf114_41, rp114_41, al134, iA134, it134, rf114_42, rp114_42, al135, iA135, it135, rf114_44, rp114_44, al136, iA136, it136, rf114_45, rp114_45, al137, iA137, it137, rf114_55, rp114_55, al138, iA138, it138, rf114_56, rp114_56, al139, iA139, it139, rf114_57, rp114_57, al140, iA140, it140, rf114_58, rp114_58, al141, iA141, it141, rf114_59, rp114_59, al142, iA142, it142, rf114_60, rp114_60, al143, iA143, it143, rf114_61, rp114_61, al144, iA144, it144, rf114_62, rp114_62, al145, iA145, it145, rf114_63, rp114_63, al146, iA146, it146, rf114_64, rp114_64, al147, iA147, it147, rf114_66, rp114_66, al148, iA148, it148, rf114_67, rp114_67, al149, iA149, it149, rf114_68, rp114_68, al150, iA150, it150, rf114_69, rp114_69, al151, iA151, it151, rf114_70, rp114_70, al152, iA152, it152, n25, n26, n14, e0, pkm1, u2_at, z2, k3, bI_True, bI_False, nI_1, Nat.reduceLeDiff, Nat.reduceEqDiff, nb0, nb1, nbI, eq_self, ex_pr, tl_s, tl_n, if_true, if_false, not_true_eq_false, not_false_eq_true, and_self, and_false, false_and, and_true, true_and]
theorem r125n {q op j : Nat} {P E S : List Nat} {f : Nat → Nat → Int32} {v3 : Value} (hcc : cc < 60) (ht : t < 6) (T : TXC C L) (M : MS f C L q (100 * t + a) E (P ++ 40 :: (List.replicate j 33 ++ S)) op) (hP : ∀ x, x ∈ P → x = 38 ∨ x = 124) (hb : a + E.length + P.length + j + 1 + S.length ≤ q) (hq : ¬ C q = nI 38 ∧ ¬ C q = nI 124) (h41 : ¬ C q = nI 41) : ∃ f1, MG f f1 (100 * t + a) cc ∧ f1 114 14 = nI q ∧ ∀ r, (Rn sc (d + 8) 125 22 [.ref (114 : Nat), .int (nI cc), .int (nI 0), v3] [] (cS f g h1 h2) r ↔ r = (cS f1 g h1 h2, some (.int 0))) := by
  have tl := T.1
  have ql := M.1.2.2.2
  have ll : (40 :: (List.replicate j 33 ++ S)).length = j + S.length + 1 := by rw [List.length_cons, List.length_append, List.length_replicate]
  obtain ⟨f1, F1, M1, -, k1⟩ := @r125s sc d g h1 h2 C L t cc a q op P E (40 :: (List.replicate j 33 ++ S)) f v3 hcc ht T M hP ⟨by decide, by decide⟩ (by rw [ll]; omega) hq
  have n25 : f1 114 25 = nI (j + S.length + 1) := by rw [← ll]; exact M1.2.2.2.1
  have e0 : ¬ nI (j + S.length + 1) = 0 := by
    rw [← lt0, nI_eq (by omega) (by decide)]
    omega
  have e4 : ¬ C q = 41 := h41
  refine ⟨f1, F1, M1.1.2.2.1, fun r => ?_⟩
  rw [k1]
  simp only [x125_178, x125_179, x125_182, x125_187, x125_188, x125_190, x125_193, x125_194, kp114, rf114_5, rp114_5, al115, iA115, it115, rf114_6, rp114_6, al116, iA116, it116, rf114_7, rp114_7, al117, iA117, it117, rf114_8, rp114_8, al118, iA118, it118, rf114_9, rp114_9, al119, iA119, it119, rf114_10, rp114_10, al120, iA120, it120, rf114_16, rp114_16, al121, iA121, it121, rf114_17, rp114_17, al122, iA122, it122, rf114_18, rp114_18, al123, iA123, it123, rf114_19, rp114_19, al124, iA124, it124, rf114_20, rp114_20, al125, iA125, it125, rf114_21, rp114_21, al126, iA126, it126, rf114_22, rp114_22, al127, iA127, it127, rf114_23, rp114_23, al128, iA128, it128, rf114_27, rp114_27, al129, iA129, it129, rf114_28, rp114_28, al130, iA130, it130, rf114_29, rp114_29, al131, iA131, it131, rf114_30, rp114_30, al132, iA132, it132, rf114_31, rp114_31, al133, iA133, it133, rf114_41, rp114_41, al134, iA134, it134, rf114_42, rp114_42, al135, iA135, it135, rf114_44, rp114_44, al136, iA136, it136, rf114_45, rp114_45, al137, iA137, it137, rf114_55, rp114_55, al138, iA138, it138, rf114_56, rp114_56, al139, iA139, it139, rf114_57, rp114_57, al140, iA140, it140, rf114_58, rp114_58, al141, iA141, it141, rf114_59, rp114_59, al142, iA142, it142, rf114_60, rp114_60, al143, iA143, it143, rf114_61, rp114_61, al144, iA144, it144, rf114_62, rp114_62, al145, iA145, it145, rf114_63, rp114_63, al146, iA146, it146, rf114_64, rp114_64, al147, iA147, it147, rf114_66, rp114_66, al148, iA148, it148, rf114_67, rp114_67, al149, iA149, it149, rf114_68, rp114_68, al150, iA150, it150, rf114_69, rp114_69, al151, iA151, it151, rf114_70, rp114_70, al152, iA152, it152, n25, e0, e4, bI_True, bI_False, nI_1, Nat.reduceLeDiff, Nat.reduceEqDiff, nb0, nb1, nbI, eq_self, ex_pr, tl_s, tl_n, if_true, if_false, not_true_eq_false, not_false_eq_true, and_self, and_false, false_and, and_true, true_and]
/-- a sign ! or ( -/
theorem r125o {p op x : Nat} {E S : List Nat} {f : Nat → Nat → Int32} {v3 : Value} (hx : x = 33 ∨ x = 40) (T : TXC C L) (M : MS f C L p (100 * t + a) E S op) (hS : S.length ≤ 100) (ho : op < 4) (h : C p = nI x) : ∃ f1, MG f f1 (100 * t + a) cc ∧ MS f1 C L (p + 1) (100 * t + a) E (x :: S) (op + 1) ∧ ∀ r, (Rn sc (d + 8) 125 22 [.ref (114 : Nat), .int (nI cc), .int (nI 1), v3] [] (cS f g h1 h2) r ↔ Rn sc (d + 8) 125 22 [.ref (114 : Nat), .int (nI cc), .int (nI 1), .int (nI x)] [] (cS f1 g h1 h2) r) := by
  have pl := T.lt h (by omega)
  have k0 := fun d r => @s114 sc d r f g h1 h2 C L p T M.1
  have M1 := ((M.opn (op' := op + 1)).push (x := x)).mv (p' := p + 1) (by omega)
  have n26 := M.2.2.2.2.2
  have n25 := M.2.2.2.1
  have n14 := M.1.2.2.1
  have j1 : inb (nI S.length) 101 = true := inb_nI (by omega) (by decide)
  have j2 : (nI S.length).toNatClampNeg = S.length := cl_nI (by omega)
  have z1 : nI S.length + 1 = nI (S.length + 1) := by rw [← lt1, nI_add]
  have z2 : nI p + 1 = nI (p + 1) := by rw [← lt1, nI_add]
  have z3 : nI op + 1 = nI (op + 1) := by rw [← lt1, nI_add]
  have e4 : ¬ nI op = 4 := by
    rw [show (4 : Int32) = nI 4 from rfl, nI_eq (by omega) (by decide)]
    omega
  refine ⟨_, MG.trans (MG.trans (MG.f (k := 26) (by omega)) (MG.trans MG.s (MG.f (k := 25) (by omega)))) (MG.f (k := 14) (by omega)), M1, fun r => ?_⟩
  rw [lt1]
  rw [h] at k0
  rcases hx with rfl | rfl
  · have e1 : nI 33 = 33 := rfl
    rw [e1] at k0 ⊢
    simp only [x125_22 (σ := cS f g h1 h2), x125_23, x125_26, x125_27, x125_28, x125_31, x125_32, x125_34, x125_43, x125_44, x125_47, x125_48, x125_53, x125_54, x125_55, x125_58, x125_59, x125_60, x125_63, x125_64, x125_67, x125_68, x125_71, x125_72, x125_73, x125_74, x125_75, x125_78, x125_79, x125_80, x125_83, x125_84, x125_85, x125_88, x125_89, x125_90, x125_93, kp114, rf114_5, rp114_5, al115, iA115, it115, rf114_6, rp114_6, al116, iA116, it116, rf114_7, rp114_7, al117, iA117, it117, rf114_8, rp114_8, al118, iA118, it118, rf114_9, rp114_9, al119, iA119, it119, rf114_10, rp114_10, al120, iA120, it120, rf114_16, rp114_16, al121, iA121, it121, rf114_17, rp114_17, al122, iA122, it122, rf114_18, rp114_18, al123, iA123, it123, rf114_19, rp114_19, al124, iA124, it124, rf114_20, rp114_20, al125, iA125, it125, rf114_21, rp114_21, al126, iA126, it126, rf114_22, rp114_22, al127, iA127, it127, rf114_23, rp114_23, al128, iA128, it128, rf114_27, rp114_27, al129, iA129, it129, rf114_28, rp114_28, al130, iA130, it130, rf114_29, rp114_29, al131, iA131, it131, rf114_30, rp114_30, al132, iA132, it132, rf114_31, rp114_31, al133, iA133, it133, rf114_41, rp114_41, al134, iA134, it134, rf114_42, rp114_42, al135, iA135, it135, rf114_44, rp114_44, al136, iA136, it136, rf114_45, rp114_45, al137, iA137, it137, rf114_55, rp114_55, al138, iA138, it138, rf114_56, rp114_56, al139, iA139, it139, rf114_57, rp114_57, al140, iA140, it140, rf114_58, rp114_58, al141, iA141, it141, rf114_59, rp114_59, al142, iA142, it142, rf114_60, rp114_60, al143, iA143, it143, rf114_61, rp114_61, al144, iA144, it144, rf114_62, rp114_62, al145, iA145, it145, rf114_63, rp114_63, al146, iA146, it146, rf114_64, rp114_64, al147, iA147, it147, rf114_66, rp114_66, al148, iA148, it148, rf114_67, rp114_67, al149, iA149, it149, rf114_68, rp114_68, al150, iA150, it150, rf114_69, rp114_69, al151, iA151, it151, rf114_70, rp114_70, al152, iA152, it152, al128, iA128, it128, zi1, k0, n26, n25, n14, e4, j1, j2, u2_at, z1, z2, z3, bI_True, bI_False, nI_1, Nat.reduceLeDiff, Nat.reduceEqDiff, nb0, nb1, nbI, eq_self, ex_pr, tl_s, tl_n, if_true, if_false, not_true_eq_false, not_false_eq_true, and_self, and_false, false_and, and_true, true_and]
  · have e1 : nI 40 = 40 := rfl
    have n1 : ¬ (40 : Int32) = 33 := by decide
    rw [e1] at k0 ⊢
    simp only [x125_22 (σ := cS f g h1 h2), x125_23, x125_26, x125_27, x125_28, x125_31, x125_32, x125_34, x125_37, x125_38, x125_40, x125_43, x125_44, x125_47, x125_48, x125_53, x125_54, x125_55, x125_58, x125_59, x125_60, x125_63, x125_64, x125_67, x125_68, x125_71, x125_72, x125_73, x125_74, x125_75, x125_78, x125_79, x125_80, x125_83, x125_84, x125_85, x125_88, x125_89, x125_90, x125_93, kp114, rf114_5, rp114_5, al115, iA115, it115, rf114_6, rp114_6, al116, iA116, it116, rf114_7, rp114_7, al117, iA117, it117, rf114_8, rp114_8, al118, iA118, it118, rf114_9, rp114_9, al119, iA119, it119, rf114_10, rp114_10, al120, iA120, it120, rf114_16, rp114_16, al121, iA121, it121, rf114_17, rp114_17, al122, iA122, it122, rf114_18, rp114_18, al123, iA123, it123, rf114_19, rp114_19, al124, iA124, it124, rf114_20, rp114_20, al125, iA125, it125, rf114_21, rp114_21, al126, iA126, it126, rf114_22, rp114_22, al127, iA127, it127, rf114_23, rp114_23, al128, iA128, it128, rf114_27, rp114_27, al129, iA129, it129, rf114_28, rp114_28, al130, iA130, it130, rf114_29, rp114_29, al131, iA131, it131, rf114_30, rp114_30, al132, iA132, it132, rf114_31, rp114_31, al133, iA133, it133, rf114_41, rp114_41, al134, iA134, it134, rf114_42, rp114_42, al135, iA135, it135, rf114_44, rp114_44, al136, iA136, it136, rf114_45, rp114_45, al137, iA137, it137, rf114_55, rp114_55, al138, iA138, it138, rf114_56, rp114_56, al139, iA139, it139, rf114_57, rp114_57, al140, iA140, it140, rf114_58, rp114_58, al141, iA141, it141, rf114_59, rp114_59, al142, iA142, it142, rf114_60, rp114_60, al143, iA143, it143, rf114_61, rp114_61, al144, iA144, it144, rf114_62, rp114_62, al145, iA145, it145, rf114_63, rp114_63, al146, iA146, it146, rf114_64, rp114_64, al147, iA147, it147, rf114_66, rp114_66, al148, iA148, it148, rf114_67, rp114_67, al149, iA149, it149, rf114_68, rp114_68, al150, iA150, it150, rf114_69, rp114_69, al151, iA151, it151, rf114_70, rp114_70, al152, iA152, it152, al128, iA128, it128, zi1, k0, n1, n26, n25, n14, e4, j1, j2, u2_at, z1, z2, z3, bI_True, bI_False, nI_1, Nat.reduceLeDiff, Nat.reduceEqDiff, nb0, nb1, nbI, eq_self, ex_pr, tl_s, tl_n, if_true, if_false, not_true_eq_false, not_false_eq_true, and_self, and_false, false_and, and_true, true_and]
theorem sgS {N : Nat} (hcc : cc < 60) (ht : t < 6) (T : TXC C L) (H : SGL sc d g h1 h2 h3 C L t cc a N) (HE : LVL sc d g h1 h2 h3 C L t cc a N 58 11 (fun x => x = 38 ∨ x = 124) (fun x => x = 33 ∨ x = 38 ∨ x = 124) (fun c : Int32 => ¬ c = nI 38 ∧ ¬ c = nI 124)) : SGL sc d g h1 h2 h3 C L t cc a (N + 1) := by
  intro p e hp hN he
  have tl := T.1
  have HL := hlf t ht
  have t33 : nI 33 = 33 := rfl
  have t40 : nI 40 = 40 := rfl
  have t41 : nI 41 = 41 := rfl
  by_cases z33 : e ≠ 0 ∧ C p = nI 33
  · obtain ⟨z0, w⟩ := z33
    obtain ⟨e', rfl⟩ : ∃ e', e = e' + 1 := ⟨e - 1, by omega⟩
    have pl := T.lt w (by decide)
    have en : nI (4 - (e' + 1)) < 4 := nI_lt (show 4 - (e' + 1) < 4 by omega) (by decide)
    have ei : nI (4 - (e' + 1)) + 1 = nI (4 - e') := by
      rw [← lt1, nI_add]
      congr 1
      omega
    rcases H (p + 1) e' (by omega) (by omega) (by omega) with ⟨p', w1, ⟨b1, b2, b3, b4⟩, b5, b6⟩ | ⟨p', b1, b2, b3, b4⟩
    · refine Or.inl ⟨p', w1 ++ [6001], ⟨by omega, b2, by rw [len1]; omega, ?_⟩, ?_, ?_⟩
      · intro rest h hh hr
        rw [List.append_assoc]
        exact b4 _ h (by omega) (Or.inl ⟨rfl, by omega, hr⟩)
      · intro f E K hE
        have k1 := fun d r => @s62t sc d r f g h1 h2 C L p 33 T K.1 w
        obtain ⟨f2, F2, K2, k2⟩ := b5 _ E (K.mv (p' := p + 1) (by omega)) (by omega)
        have ll : (E ++ w1).length = E.length + w1.length := List.length_append
        have k3 := fun d r => @s25 sc d r f2 g h1 h2 t (a + (E ++ w1).length) (ckT 6001) ht (by omega) K2.2.1
        have K3 := K2.wr (x := 6001)
        rw [List.append_assoc] at K3
        refine ⟨_, KG.trans KG.at (KG.trans F2 (KG.wr (Nat.le_add_right _ _))), K3, fun D r hD => ?_⟩
        obtain ⟨D', rfl⟩ : ∃ D', D = D' + 3 := ⟨D - 3, by omega⟩
        have k2' := fun r => k2 (D' + 2) r (by omega)
        have ck : ckT 6001 = -1 := by decide
        rw [t33] at k1
        rw [ck] at k3 ⊢
        simp only [c60, x60_0, x60_1, x60_2, x60_5, x60_6, x60_8, x60_11, x60_14, x60_15, x60_16, x60_17, x60_18, x60_19, x60_22, x60_27, x60_28, x60_29, x60_32, x60_33, kp18, rf18_0, rp18_0, al19, iA19, it19, HL.k, en, k1, zi1, ei, k2', k3, bI_True, bI_False, nI_1, Nat.reduceLeDiff, Nat.reduceEqDiff, nb0, nb1, nbI, eq_self, ex_pr, tl_s, tl_n, if_true, if_false, not_true_eq_false, not_false_eq_true, and_self, and_false, false_and, and_true, true_and]
      · intro j E S hj hES nt f v3 M
        have lr : (List.replicate j 33 ++ S).length = j + S.length := by rw [List.length_append, List.length_replicate]
        obtain ⟨f1, F1, M1, k1⟩ := @r125o sc d g h3 h2 C L t cc a p (4 - (e' + 1)) 33 E (List.replicate j 33 ++ S) f v3 (Or.inl rfl) T M (by rw [lr]; omega) (by omega) w
        rw [show 4 - (e' + 1) + 1 = 4 - e' by omega] at M1
        obtain ⟨f2, w3, F2, M2, k2⟩ := b6 (j + 1) E S (by omega) (by omega) nt f1 _ M1
        rw [show 4 - e' - (j + 1) = 4 - (e' + 1) - j by omega, ← rep_e, List.append_assoc E] at M2
        exact ⟨f2, w3, F1.trans F2, M2, fun r => (k1 r).trans (k2 r)⟩
    · refine Or.inr ⟨p', by omega, b2, ?_, ?_⟩
      · intro f E K hE
        have k1 := fun d r => @s62t sc d r f g h1 h2 C L p 33 T K.1 w
        obtain ⟨f2, F2, K2, k2⟩ := b3 _ E (K.mv (p' := p + 1) (by omega)) (by omega)
        refine ⟨f2, KG.trans KG.at F2, K2, fun D r hD => ?_⟩
        obtain ⟨D', rfl⟩ : ∃ D', D = D' + 3 := ⟨D - 3, by omega⟩
        have k2' := fun r => k2 (D' + 2) r (by omega)
        rw [t33] at k1
        simp only [c60, x60_0, x60_1, x60_2, x60_5, x60_6, x60_8, x60_11, x60_14, x60_15, x60_16, x60_17, x60_18, x60_19, x60_22, x60_25, x60_26, kp18, rf18_0, rp18_0, al19, iA19, it19, HL.k, en, k1, zi1, ei, k2', bI_True, bI_False, nI_1, Nat.reduceLeDiff, Nat.reduceEqDiff, nb0, nb1, nbI, eq_self, ex_pr, tl_s, tl_n, if_true, if_false, not_true_eq_false, not_false_eq_true, and_self, and_false, false_and, and_true, true_and]
      · intro j E S hj hES nt f v3 M
        have lr : (List.replicate j 33 ++ S).length = j + S.length := by rw [List.length_append, List.length_replicate]
        obtain ⟨f1, F1, M1, k1⟩ := @r125o sc d g h3 h2 C L t cc a p (4 - (e' + 1)) 33 E (List.replicate j 33 ++ S) f v3 (Or.inl rfl) T M (by rw [lr]; omega) (by omega) w
        rw [show 4 - (e' + 1) + 1 = 4 - e' by omega] at M1
        obtain ⟨f2, F2, M2, k2⟩ := b4 (j + 1) E S (by omega) (by omega) nt f1 _ M1
        exact ⟨f2, F1.trans F2, M2, fun r => (k1 r).trans (k2 r)⟩
  by_cases z40 : e ≠ 0 ∧ C p = nI 40
  · obtain ⟨z0, w⟩ := z40
    obtain ⟨e', rfl⟩ : ∃ e', e = e' + 1 := ⟨e - 1, by omega⟩
    have pl := T.lt w (by decide)
    have en : nI (4 - (e' + 1)) < 4 := nI_lt (show 4 - (e' + 1) < 4 by omega) (by decide)
    have ei : nI (4 - (e' + 1)) + 1 = nI (4 - e') := by
      rw [← lt1, nI_add]
      congr 1
      omega
    have w33 : ¬ C p = nI 33 := by rw [w]; decide
    rcases HE (p + 1) e' (by omega) (by omega) (by omega) with ⟨p', w1, u, P, ⟨b1, b2, b3, b4, b5⟩, b6, b7, b8, b9⟩ | ⟨p', b1, b2, b3, b4⟩
    · have lw : u.length + P.length = w1.length := by rw [b7, List.length_append, List.length_map]
      by_cases y : C p' = nI 41
      · have pl2 := T.lt y (by decide)
        refine Or.inl ⟨p' + 1, w1, ⟨by omega, by omega, by omega, ?_⟩, ?_, ?_⟩
        · intro rest h hh hr
          exact b4 rest h (by omega) hr
        · intro f E K hE
          have k0 := fun d r => @s62f sc d r f g h1 h2 C L p 33 T K.1 w33
          have k1 := fun d r => @s62t sc d r f g h1 h2 C L p 40 T K.1 w
          obtain ⟨f2, F2, K2, k2⟩ := b6 _ E (K.mv (p' := p + 1) (by omega)) (by omega)
          have k3 := fun d r => @s62t sc d r f2 g h1 h2 C L p' 41 T K2.1 y
          refine ⟨_, KG.trans KG.at (KG.trans F2 KG.at), K2.mv (by omega), fun D r hD => ?_⟩
          obtain ⟨D', rfl⟩ : ∃ D', D = D' + 3 := ⟨D - 3, by omega⟩
          have k2' := fun r => k2 (D' + 2) r (by omega)
          rw [t33] at k0
          rw [t40] at k1
          rw [t41] at k3
          simp only [c60, x60_0, x60_1, x60_2, x60_5, x60_6, x60_8, x60_11, x60_34, x60_35, x60_36, x60_39, x60_40, x60_42, x60_45, x60_48, x60_49, x60_50, x60_51, x60_52, x60_53, x60_56, x60_59, x60_60, x60_62, x60_65, x60_68, x60_69, x60_73, kp18, rf18_0, rp18_0, al19, iA19, it19, HL.k, en, k0, k1, zi1, ei, k2', k3, bI_True, bI_False, nI_1, Nat.reduceLeDiff, Nat.reduceEqDiff, nb0, nb1, nbI, eq_self, ex_pr, tl_s, tl_n, if_true, if_false, not_true_eq_false, not_false_eq_true, and_self, and_false, false_and, and_true, true_and]
        · intro j E S hj hES nt f v3 M
          have lr : (List.replicate j 33 ++ S).length = j + S.length := by rw [List.length_append, List.length_replicate]
          obtain ⟨f1, F1, M1, k1⟩ := @r125o sc d g h3 h2 C L t cc a p (4 - (e' + 1)) 40 E (List.replicate j 33 ++ S) f v3 (Or.inr rfl) T M (by rw [lr]; omega) (by omega) w
          rw [show 4 - (e' + 1) + 1 = 4 - e' by omega] at M1
          obtain ⟨f2, w3, F2, M2, k2⟩ := b9 E (40 :: (List.replicate j 33 ++ S)) (by rw [List.length_cons, lr]; omega) ⟨by decide, by decide⟩ f1 _ M1
          rw [show 4 - e' = 4 - (e' + 1) - j + j + 1 by omega] at M2
          obtain ⟨f3, w4, F3, M3, k3⟩ := @r125p sc d g h3 h2 C L t cc a p' (4 - (e' + 1) - j) j P (E ++ u) S f2 w3 hcc ht T M2 b8 nt (by rw [List.length_append]; omega) y
          rw [List.append_assoc E, ← b7] at M3
          exact ⟨f3, w4, F1.trans (F2.trans F3), M3, fun r => (k1 r).trans ((k2 r).trans (k3 r))⟩
      · refine Or.inr ⟨p', by omega, b2, ?_, ?_⟩
        · intro f E K hE
          have k0 := fun d r => @s62f sc d r f g h1 h2 C L p 33 T K.1 w33
          have k1 := fun d r => @s62t sc d r f g h1 h2 C L p 40 T K.1 w
          obtain ⟨f2, F2, K2, k2⟩ := b6 _ E (K.mv (p' := p + 1) (by omega)) (by omega)
          have k3 := fun d r => @s62f sc d r f2 g h1 h2 C L p' 41 T K2.1 y
          refine ⟨f2, KG.trans KG.at F2, K2.1.2.1, fun D r hD => ?_⟩
          obtain ⟨D', rfl⟩ : ∃ D', D = D' + 3 := ⟨D - 3, by omega⟩
          have k2' := fun r => k2 (D' + 2) r (by omega)
          rw [t33] at k0
          rw [t40] at k1
          rw [t41] at k3
          simp only [c60, x60_0, x60_1, x60_2, x60_5, x60_6, x60_8, x60_11, x60_34, x60_35, x60_36, x60_39, x60_40, x60_42, x60_45, x60_48, x60_49, x60_50, x60_51, x60_52, x60_53, x60_56, x60_59, x60_60, x60_62, x60_65, x60_72, x60_73, kp18, rf18_0, rp18_0, al19, iA19, it19, HL.k, en, k0, k1, zi1, ei, k2', k3, bI_True, bI_False, nI_1, Nat.reduceLeDiff, Nat.reduceEqDiff, nb0, nb1, nbI, eq_self, ex_pr, tl_s, tl_n, if_true, if_false, not_true_eq_false, not_false_eq_true, and_self, and_false, false_and, and_true, true_and]
        · intro j E S hj hES nt f v3 M
          have lr : (List.replicate j 33 ++ S).length = j + S.length := by rw [List.length_append, List.length_replicate]
          obtain ⟨f1, F1, M1, k1⟩ := @r125o sc d g h3 h2 C L t cc a p (4 - (e' + 1)) 40 E (List.replicate j 33 ++ S) f v3 (Or.inr rfl) T M (by rw [lr]; omega) (by omega) w
          rw [show 4 - (e' + 1) + 1 = 4 - e' by omega] at M1
          obtain ⟨f2, w3, F2, M2, k2⟩ := b9 E (40 :: (List.replicate j 33 ++ S)) (by rw [List.length_cons, lr]; omega) ⟨by decide, by decide⟩ f1 _ M1
          obtain ⟨f3, F3, M3, k3⟩ := @r125n sc d g h3 h2 C L t cc a p' (4 - e') j P (E ++ u) S f2 w3 hcc ht T M2 b8 (by rw [List.length_append]; omega) b5 y
          exact ⟨f3, F1.trans (F2.trans F3), M3, fun r => (k1 r).trans ((k2 r).trans (k3 r))⟩
    · refine Or.inr ⟨p', by omega, b2, ?_, ?_⟩
      · intro f E K hE
        have k0 := fun d r => @s62f sc d r f g h1 h2 C L p 33 T K.1 w33
        have k1 := fun d r => @s62t sc d r f g h1 h2 C L p 40 T K.1 w
        obtain ⟨f2, F2, K2, k2⟩ := b3 _ E (K.mv (p' := p + 1) (by omega)) (by omega)
        refine ⟨f2, KG.trans KG.at F2, K2, fun D r hD => ?_⟩
        obtain ⟨D', rfl⟩ : ∃ D', D = D' + 3 := ⟨D - 3, by omega⟩
        have k2' := fun r => k2 (D' + 2) r (by omega)
        rw [t33] at k0
        rw [t40] at k1
        simp only [c60, x60_0, x60_1, x60_2, x60_5, x60_6, x60_8, x60_11, x60_34, x60_35, x60_36, x60_39, x60_40, x60_42, x60_45, x60_48, x60_49, x60_50, x60_51, x60_52, x60_53, x60_56, x60_72, x60_73, kp18, rf18_0, rp18_0, al19, iA19, it19, HL.k, en, k0, k1, zi1, ei, k2', bI_True, bI_False, nI_1, Nat.reduceLeDiff, Nat.reduceEqDiff, nb0, nb1, nbI, eq_self, ex_pr, tl_s, tl_n, if_true, if_false, not_true_eq_false, not_false_eq_true, and_self, and_false, false_and, and_true, true_and]
      · intro j E S hj hES nt f v3 M
        have lr : (List.replicate j 33 ++ S).length = j + S.length := by rw [List.length_append, List.length_replicate]
        obtain ⟨f1, F1, M1, k1⟩ := @r125o sc d g h3 h2 C L t cc a p (4 - (e' + 1)) 40 E (List.replicate j 33 ++ S) f v3 (Or.inr rfl) T M (by rw [lr]; omega) (by omega) w
        rw [show 4 - (e' + 1) + 1 = 4 - e' by omega] at M1
        obtain ⟨f2, F2, M2, k2⟩ := b4 E (40 :: (List.replicate j 33 ++ S)) (by rw [List.length_cons, lr]; omega) ⟨by decide, by decide⟩ f1 _ M1
        exact ⟨f2, F1.trans F2, M2, fun r => (k1 r).trans (k2 r)⟩
  -- the class comes to its test
  have ct : ∀ f E, KS f t C L p a E → ∀ D r, 9 ≤ D → (Cl sc D 60 [.ref (18 : Nat), .ref (78 + 4 * t), .int (nI (4 - e))] (cS f g h1 h2) r ↔ Rn sc (D - 1) 60 74 [.ref (18 : Nat), .ref (78 + 4 * t), .int (nI (4 - e)), mk0, mk0, mk0] [] (cS f g h1 h2) r) := fun f E K D r hD => by
    obtain ⟨D', rfl⟩ : ∃ D', D = D' + 3 := ⟨D - 3, by omega⟩
    rw [show D' + 3 - 1 = D' + 2 by omega]
    by_cases z0 : e = 0
    · subst z0
      have en : ¬ nI (4 - 0) < 4 := by decide
      simp only [c60, x60_0, x60_1, x60_2, x60_34, x60_35, x60_36, en, bI_True, bI_False, nI_1, Nat.reduceLeDiff, Nat.reduceEqDiff, nb0, nb1, nbI, eq_self, ex_pr, tl_s, tl_n, if_true, if_false, not_true_eq_false, not_false_eq_true, and_self, and_false, false_and, and_true, true_and]
    · have en : nI (4 - e) < 4 := nI_lt (show 4 - e < 4 by omega) (by decide)
      have k0 := fun d r => @s62f sc d r f g h1 h2 C L p 33 T K.1 (fun w => z33 ⟨z0, w⟩)
      have k1 := fun d r => @s62f sc d r f g h1 h2 C L p 40 T K.1 (fun w => z40 ⟨z0, w⟩)
      rw [t33] at k0
      rw [t40] at k1
      simp only [c60, x60_0, x60_1, x60_2, x60_5, x60_6, x60_8, x60_11, x60_34, x60_35, x60_36, x60_39, x60_40, x60_42, x60_45, kp18, rf18_0, rp18_0, al19, iA19, it19, en, k0, k1, bI_True, bI_False, nI_1, Nat.reduceLeDiff, Nat.reduceEqDiff, nb0, nb1, nbI, eq_self, ex_pr, tl_s, tl_n, if_true, if_false, not_true_eq_false, not_false_eq_true, and_self, and_false, false_and, and_true, true_and]
  by_cases zo : C p = nI 33 ∨ C p = nI 40
  · have z0 : e = 0 := by
      by_cases z0 : e = 0
      · exact z0
      · rcases zo with w | w
        · exact absurd ⟨z0, w⟩ z33
        · exact absurd ⟨z0, w⟩ z40
    subst z0
    have px : plX (C p) = -1 := by
      rcases zo with w | w
      · rw [w]
        decide
      · rw [w]
        decide
    refine Or.inr ⟨p, Nat.le_refl _, hp, ?_, ?_⟩
    · intro f E K hE
      obtain ⟨f', F, A, k⟩ := @l60f sc f g h1 h2 C L p t a p E ht T K (Or.inl ⟨px, rfl⟩) hp
      refine ⟨f', F, A, fun D r hD => ?_⟩
      rw [ct f E K D r (by omega)]
      obtain ⟨D', rfl⟩ : ∃ D', D = D' + 9 := ⟨D - 9, by omega⟩
      exact k D' _ _ _ _ r
    · intro j E S hj hES nt f v3 M
      have k0 := fun d r => @s114 sc d r f g h3 h2 C L p T M.1
      have n26 : f 114 26 = 4 := M.2.2.2.2.2
      refine ⟨f, MG.refl, M.1.2.2.1, fun r => ?_⟩
      rw [lt1]
      rcases zo with w | w
      · rw [w, t33] at k0
        simp only [x125_22, x125_23, x125_26, x125_27, x125_28, x125_31, x125_32, x125_34, x125_43, x125_44, x125_47, x125_48, x125_51, x125_52, kp114, rf114_5, rp114_5, al115, iA115, it115, rf114_6, rp114_6, al116, iA116, it116, rf114_7, rp114_7, al117, iA117, it117, rf114_8, rp114_8, al118, iA118, it118, rf114_9, rp114_9, al119, iA119, it119, rf114_10, rp114_10, al120, iA120, it120, rf114_16, rp114_16, al121, iA121, it121, rf114_17, rp114_17, al122, iA122, it122, rf114_18, rp114_18, al123, iA123, it123, rf114_19, rp114_19, al124, iA124, it124, rf114_20, rp114_20, al125, iA125, it125, rf114_21, rp114_21, al126, iA126, it126, rf114_22, rp114_22, al127, iA127, it127, rf114_23, rp114_23, al128, iA128, it128, rf114_27, rp114_27, al129, iA129, it129, rf114_28, rp114_28, al130, iA130, it130, rf114_29, rp114_29, al131, iA131, it131, rf114_30, rp114_30, al132, iA132, it132, rf114_31, rp114_31, al133, iA133, it133, rf114_41, rp114_41, al134, iA134, it134, rf114_42, rp114_42, al135, iA135, it135, rf114_44, rp114_44, al136, iA136, it136, rf114_45, rp114_45, al137, iA137, it137, rf114_55, rp114_55, al138, iA138, it138, rf114_56, rp114_56, al139, iA139, it139, rf114_57, rp114_57, al140, iA140, it140, rf114_58, rp114_58, al141, iA141, it141, rf114_59, rp114_59, al142, iA142, it142, rf114_60, rp114_60, al143, iA143, it143, rf114_61, rp114_61, al144, iA144, it144, rf114_62, rp114_62, al145, iA145, it145, rf114_63, rp114_63, al146, iA146, it146, rf114_64, rp114_64, al147, iA147, it147, rf114_66, rp114_66, al148, iA148, it148, rf114_67, rp114_67, al149, iA149, it149, rf114_68, rp114_68, al150, iA150, it150, rf114_69, rp114_69, al151, iA151, it151, rf114_70, rp114_70, al152, iA152, it152, zi1, k0, n26, bI_True, bI_False, nI_1, Nat.reduceLeDiff, Nat.reduceEqDiff, nb0, nb1, nbI, eq_self, ex_pr, tl_s, tl_n, if_true, if_false, not_true_eq_false, not_false_eq_true, and_self, and_false, false_and, and_true, true_and]
      · have n1 : ¬ (40 : Int32) = 33 := by decide
        rw [w, t40] at k0
        simp only [x125_22, x125_23, x125_26, x125_27, x125_28, x125_31, x125_32, x125_34, x125_37, x125_38, x125_40, x125_43, x125_44, x125_47, x125_48, x125_51, x125_52, kp114, rf114_5, rp114_5, al115, iA115, it115, rf114_6, rp114_6, al116, iA116, it116, rf114_7, rp114_7, al117, iA117, it117, rf114_8, rp114_8, al118, iA118, it118, rf114_9, rp114_9, al119, iA119, it119, rf114_10, rp114_10, al120, iA120, it120, rf114_16, rp114_16, al121, iA121, it121, rf114_17, rp114_17, al122, iA122, it122, rf114_18, rp114_18, al123, iA123, it123, rf114_19, rp114_19, al124, iA124, it124, rf114_20, rp114_20, al125, iA125, it125, rf114_21, rp114_21, al126, iA126, it126, rf114_22, rp114_22, al127, iA127, it127, rf114_23, rp114_23, al128, iA128, it128, rf114_27, rp114_27, al129, iA129, it129, rf114_28, rp114_28, al130, iA130, it130, rf114_29, rp114_29, al131, iA131, it131, rf114_30, rp114_30, al132, iA132, it132, rf114_31, rp114_31, al133, iA133, it133, rf114_41, rp114_41, al134, iA134, it134, rf114_42, rp114_42, al135, iA135, it135, rf114_44, rp114_44, al136, iA136, it136, rf114_45, rp114_45, al137, iA137, it137, rf114_55, rp114_55, al138, iA138, it138, rf114_56, rp114_56, al139, iA139, it139, rf114_57, rp114_57, al140, iA140, it140, rf114_58, rp114_58, al141, iA141, it141, rf114_59, rp114_59, al142, iA142, it142, rf114_60, rp114_60, al143, iA143, it143, rf114_61, rp114_61, al144, iA144, it144, rf114_62, rp114_62, al145, iA145, it145, rf114_63, rp114_63, al146, iA146, it146, rf114_64, rp114_64, al147, iA147, it147, rf114_66, rp114_66, al148, iA148, it148, rf114_67, rp114_67, al149, iA149, it149, rf114_68, rp114_68, al150, iA150, it150, rf114_69, rp114_69, al151, iA151, it151, rf114_70, rp114_70, al152, iA152, it152, zi1, n1, k0, n26, bI_True, bI_False, nI_1, Nat.reduceLeDiff, Nat.reduceEqDiff, nb0, nb1, nbI, eq_self, ex_pr, tl_s, tl_n, if_true, if_false, not_true_eq_false, not_false_eq_true, and_self, and_false, false_and, and_true, true_and]
  · have m33 : ¬ C p = 33 := fun w => zo (Or.inl w)
    have m40 : ¬ C p = 40 := fun w => zo (Or.inr w)
    rcases tst_alt (p := p) T hp with ⟨p', q1, q2, q3⟩ | ⟨p', l, rr, n, hl, hr, hn, q1, q2, q3⟩
    · refine Or.inr ⟨p', q1, q2, ?_, ?_⟩
      · intro f E K hE
        obtain ⟨f', F, A, k⟩ := @l60f sc f g h1 h2 C L p t a p' E ht T K q3 q2
        refine ⟨f', F, A, fun D r hD => ?_⟩
        rw [ct f E K D r (by omega)]
        obtain ⟨D', rfl⟩ : ∃ D', D = D' + 9 := ⟨D - 9, by omega⟩
        exact k D' _ _ _ _ r
      · intro j E S hj hES nt f v3 M
        have k0 := fun d r => @s114 sc d r f g h3 h2 C L p T M.1
        obtain ⟨f', F, A, k⟩ := @s124f sc f g h3 h2 C L p (100 * t + a) (4 - e) cc p' E _ T M q3 q2
        refine ⟨f', F, A, fun r => ?_⟩
        rw [lt1]
        simp only [x125_22, x125_23, x125_26, x125_27, x125_28, x125_31, x125_32, x125_34, x125_37, x125_38, x125_40, x125_96, x125_97, x125_100, x125_108, x125_109, kp114, rf114_5, rp114_5, al115, iA115, it115, rf114_6, rp114_6, al116, iA116, it116, rf114_7, rp114_7, al117, iA117, it117, rf114_8, rp114_8, al118, iA118, it118, rf114_9, rp114_9, al119, iA119, it119, rf114_10, rp114_10, al120, iA120, it120, rf114_16, rp114_16, al121, iA121, it121, rf114_17, rp114_17, al122, iA122, it122, rf114_18, rp114_18, al123, iA123, it123, rf114_19, rp114_19, al124, iA124, it124, rf114_20, rp114_20, al125, iA125, it125, rf114_21, rp114_21, al126, iA126, it126, rf114_22, rp114_22, al127, iA127, it127, rf114_23, rp114_23, al128, iA128, it128, rf114_27, rp114_27, al129, iA129, it129, rf114_28, rp114_28, al130, iA130, it130, rf114_29, rp114_29, al131, iA131, it131, rf114_30, rp114_30, al132, iA132, it132, rf114_31, rp114_31, al133, iA133, it133, rf114_41, rp114_41, al134, iA134, it134, rf114_42, rp114_42, al135, iA135, it135, rf114_44, rp114_44, al136, iA136, it136, rf114_45, rp114_45, al137, iA137, it137, rf114_55, rp114_55, al138, iA138, it138, rf114_56, rp114_56, al139, iA139, it139, rf114_57, rp114_57, al140, iA140, it140, rf114_58, rp114_58, al141, iA141, it141, rf114_59, rp114_59, al142, iA142, it142, rf114_60, rp114_60, al143, iA143, it143, rf114_61, rp114_61, al144, iA144, it144, rf114_62, rp114_62, al145, iA145, it145, rf114_63, rp114_63, al146, iA146, it146, rf114_64, rp114_64, al147, iA147, it147, rf114_66, rp114_66, al148, iA148, it148, rf114_67, rp114_67, al149, iA149, it149, rf114_68, rp114_68, al150, iA150, it150, rf114_69, rp114_69, al151, iA151, it151, rf114_70, rp114_70, al152, iA152, it152, zi1, k0, m33, m40, k, bI_True, bI_False, nI_1, Nat.reduceLeDiff, Nat.reduceEqDiff, nb0, nb1, nbI, eq_self, ex_pr, tl_s, tl_n, if_true, if_false, not_true_eq_false, not_false_eq_true, and_self, and_false, false_and, and_true, true_and]
    · have pl : p < L := by omega
      refine Or.inl ⟨p', [1000 * l + 100 * rr + n], ⟨q1, q2, by show 1 ≤ _; omega, ?_⟩, ?_, ?_⟩
      · intro rest h hh hw
        exact Or.inr (Or.inr ⟨⟨by omega, by omega⟩, by omega, hw⟩)
      · intro f E K hE
        obtain ⟨f', F, A, k⟩ := @l60t sc f g h1 h2 C L p t a p' l rr n E ht T K (by omega) hl hr hn q3 q1 q2
        refine ⟨f', F, A, fun D r hD => ?_⟩
        rw [ct f E K D r (by omega)]
        obtain ⟨D', rfl⟩ : ∃ D', D = D' + 9 := ⟨D - 9, by omega⟩
        exact k D' _ _ _ _ r
      · intro j E S hj hES nt f v3 M
        have k0 := fun d r => @s114 sc d r f g h3 h2 C L p T M.1
        rw [show 4 - e = 4 - e - j + j by omega] at M
        obtain ⟨f', F, A, k⟩ := @s124t sc f g h3 h2 C L p (100 * t + a) (4 - e - j) cc p' l rr n j E S T M (by omega) (by omega) nt hl hr hn q3 q1 q2
        refine ⟨f', .int (C p), F, A, fun r => ?_⟩
        rw [lt1, lt0]
        simp only [x125_22 (σ := cS f g h3 h2), x125_23, x125_26, x125_27, x125_28, x125_31, x125_32, x125_34, x125_37, x125_38, x125_40, x125_96, x125_97, x125_100, x125_103, x125_104, x125_105, kp114, rf114_5, rp114_5, al115, iA115, it115, rf114_6, rp114_6, al116, iA116, it116, rf114_7, rp114_7, al117, iA117, it117, rf114_8, rp114_8, al118, iA118, it118, rf114_9, rp114_9, al119, iA119, it119, rf114_10, rp114_10, al120, iA120, it120, rf114_16, rp114_16, al121, iA121, it121, rf114_17, rp114_17, al122, iA122, it122, rf114_18, rp114_18, al123, iA123, it123, rf114_19, rp114_19, al124, iA124, it124, rf114_20, rp114_20, al125, iA125, it125, rf114_21, rp114_21, al126, iA126, it126, rf114_22, rp114_22, al127, iA127, it127, rf114_23, rp114_23, al128, iA128, it128, rf114_27, rp114_27, al129, iA129, it129, rf114_28, rp114_28, al130, iA130, it130, rf114_29, rp114_29, al131, iA131, it131, rf114_30, rp114_30, al132, iA132, it132, rf114_31, rp114_31, al133, iA133, it133, rf114_41, rp114_41, al134, iA134, it134, rf114_42, rp114_42, al135, iA135, it135, rf114_44, rp114_44, al136, iA136, it136, rf114_45, rp114_45, al137, iA137, it137, rf114_55, rp114_55, al138, iA138, it138, rf114_56, rp114_56, al139, iA139, it139, rf114_57, rp114_57, al140, iA140, it140, rf114_58, rp114_58, al141, iA141, it141, rf114_59, rp114_59, al142, iA142, it142, rf114_60, rp114_60, al143, iA143, it143, rf114_61, rp114_61, al144, iA144, it144, rf114_62, rp114_62, al145, iA145, it145, rf114_63, rp114_63, al146, iA146, it146, rf114_64, rp114_64, al147, iA147, it147, rf114_66, rp114_66, al148, iA148, it148, rf114_67, rp114_67, al149, iA149, it149, rf114_68, rp114_68, al150, iA150, it150, rf114_69, rp114_69, al151, iA151, it151, rf114_70, rp114_70, al152, iA152, it152, zi1, k0, m33, m40, k, bI_True, bI_False, nI_1, Nat.reduceLeDiff, Nat.reduceEqDiff, nb0, nb1, nbI, eq_self, ex_pr, tl_s, tl_n, if_true, if_false, not_true_eq_false, not_false_eq_true, and_self, and_false, false_and, and_true, true_and]
theorem sg_all (hcc : cc < 60) (ht : t < 6) (T : TXC C L) : ∀ N, SGL sc d g h1 h2 h3 C L t cc a N
  | 0 => fun p e _ h _ => absurd h (by omega)
  | N + 1 => sgS hcc ht T (sg_all hcc ht T N) (lv58 ht T (lv59 ht T (sgl_lvl (sg_all hcc ht T N))))
theorem ei_all (hcc : cc < 60) (ht : t < 6) (T : TXC C L) : LVL sc d g h1 h2 h3 C L t cc a 200 58 11 (fun x => x = 38 ∨ x = 124) (fun x => x = 33 ∨ x = 38 ∨ x = 124) (fun c : Int32 => ¬ c = nI 38 ∧ ¬ c = nI 124) := lv58 ht T (lv59 ht T (sgl_lvl (sg_all hcc ht T 200)))
end GS
