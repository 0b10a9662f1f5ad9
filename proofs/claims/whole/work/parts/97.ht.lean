/-! tests, by the class and by the reference -/
section HT
variable {sc : aSc} {d : Nat} {r : aRes} {f : Nat → Nat → Int32} {g : Nat → Nat → Int64} {h1 h2 : Nat} {C : Nat → Int32} {L p : Nat} {σ : aS}
theorem s64g {q : Nat} {G : Int32 → Int32} (hG : ∀ b, b < 128 → fnd (fun i => (sW q).getD i 0) b (sW q).length 0 = G (nI b)) (hm : G (-1) = -1) (S : STF q) (T : TXC C L) (K : KT f C L p) : Cl sc (d + 7) 64 [.ref (18 : Nat), .ref q] (cS f g h1 h2) r ↔ r = (if G (C p) < 0 then (cS f g h1 h2, some (.int (G (C p)))) else (cS (u2 f 18 2 (nI (p + 1))) g h1 h2, some (.int (G (C p))))) := by
  rw [s64 S T K]
  have u : ∀ x, (C p = -1 ∧ x = -1 ∨ ∃ b, b ≤ 127 ∧ C p = nI b ∧ x = fnd (fun i => (sW q).getD i 0) b (sW q).length 0) ↔ x = G (C p) := fun x => by
    constructor
    · rintro (⟨a, rfl⟩ | ⟨b, hb, a, rfl⟩)
      · rw [a, hm]
      · rw [a]
        exact hG b (by omega)
    · rintro rfl
      by_cases w : p < L
      · obtain ⟨b, hb, e⟩ := T.2.1 p w
        exact Or.inr ⟨b, hb, e, by rw [e]; exact (hG b (by omega)).symm⟩
      · have e := T.2.2 p (by omega)
        exact Or.inl ⟨e, by rw [e, hm]⟩
  constructor
  · rintro ⟨x, hx, h⟩
    rw [(u x).mp hx] at h
    exact h
  · intro h
    exact ⟨G (C p), (u _).mpr rfl, h⟩
theorem s64p (T : TXC C L) (K : KT f C L p) (h : plX (C p) = -1) : Cl sc (d + 7) 64 [.ref (18 : Nat), .ref (9 : Nat)] (cS f g h1 h2) r ↔ r = (cS f g h1 h2, some (.int (-1))) := by
  rw [s64g (G := plX) (fun b hb => (pl_b b hb).1) pl_m.1 stf9 T K, h, if_pos (by decide)]
theorem s64l {l : Nat} (T : TXC C L) (K : KT f C L p) (hl : l < 6) (h : plX (C p) = nI l) : Cl sc (d + 7) 64 [.ref (18 : Nat), .ref (9 : Nat)] (cS f g h1 h2) r ↔ r = (cS (u2 f 18 2 (nI (p + 1))) g h1 h2, some (.int (nI l))) := by
  rw [s64g (G := plX) (fun b hb => (pl_b b hb).1) pl_m.1 stf9 T K, h, if_neg (nI_pos (by omega))]
theorem s64q (T : TXC C L) (K : KT f C L p) (h : rlX (C p) = -1) : Cl sc (d + 7) 64 [.ref (18 : Nat), .ref (10 : Nat)] (cS f g h1 h2) r ↔ r = (cS f g h1 h2, some (.int (-1))) := by
  rw [s64g (G := rlX) (fun b hb => (pl_b b hb).2.1) pl_m.2.1 stf10 T K, h, if_pos (by decide)]
theorem s64r {l : Nat} (T : TXC C L) (K : KT f C L p) (hl : l < 3) (h : rlX (C p) = nI l) : Cl sc (d + 7) 64 [.ref (18 : Nat), .ref (10 : Nat)] (cS f g h1 h2) r ↔ r = (cS (u2 f 18 2 (nI (p + 1))) g h1 h2, some (.int (nI l))) := by
  rw [s64g (G := rlX) (fun b hb => (pl_b b hb).2.1) pl_m.2.1 stf10 T K, h, if_neg (nI_pos (by omega))]
/-- a test by the class -/
theorem l60f {t a p' : Nat} {E : List Nat} (ht : t < 6) (T : TXC C L) (K : KS f t C L p a E) (h : TTF C p p') (hp : p' ≤ L) : ∃ f', KG f f' t a ∧ f' 18 2 = nI p' ∧ ∀ d x2 v3 v4 v5 r, Rn sc (d + 8) 60 74 [.ref (18 : Nat), .ref (78 + 4 * t), .int x2, v3, v4, v5] [] (cS f g h1 h2) r ↔ r = (cS f' g h1 h2, some (.int 0)) := by
  have HL := hlf t ht
  have n1 : (-1 : Int32) < 0 := by decide
  rcases h with ⟨a1, rfl⟩ | ⟨⟨l, hl, a1⟩, ⟨b1, -, rfl⟩ | ⟨⟨rr, hr, b1, -⟩, c1, rfl⟩⟩
  · have k1 := fun d r => @s64p sc d r f g h1 h2 C L _ T K.1 a1
    refine ⟨f, KG.refl, K.1.2.1, fun d x2 v3 v4 v5 r => ?_⟩
    simp only [c60, x60_0, x60_1, x60_2, x60_5, x60_6, x60_8, x60_11, x60_14, x60_15, x60_16, x60_17, x60_18, x60_19, x60_22, x60_25, x60_26, x60_27, x60_28, x60_29, x60_32, x60_33, x60_34, x60_35, x60_36, x60_39, x60_40, x60_42, x60_45, x60_48, x60_49, x60_50, x60_51, x60_52, x60_53, x60_56, x60_59, x60_60, x60_62, x60_65, x60_68, x60_69, x60_72, x60_73, x60_74, x60_75, x60_77, x60_80, x60_81, x60_82, x60_85, x60_86, x60_89, x60_90, x60_92, x60_95, x60_97, x60_99, x60_102, x60_103, x60_106, x60_107, x60_110, x60_112, x60_114, x60_115, x60_118, x60_119, x60_120, x60_121, x60_122, x60_124, x60_126, x60_129, x60_130, kp18, rf18_0, rp18_0, al19, iA19, it19, k1, n1, bI_True, bI_False, nI_1, Nat.reduceLeDiff, Nat.reduceEqDiff, nb0, nb1, nbI, eq_self, ex_pr, tl_s, tl_n, if_true, if_false, not_true_eq_false, not_false_eq_true, and_self, and_false, false_and, and_true, true_and]
  · have k1 := fun d r => @s64l sc d r f g h1 h2 C L p l T K.1 hl a1
    have K1 := K.mv (p' := p + 1) hp
    have k2 := fun d r => @s64q sc d r _ g h1 h2 C L _ T K1.1 b1
    have e1 : ¬ nI l < 0 := nI_pos (by omega)
    refine ⟨_, KG.at, u2_ss, fun d x2 v3 v4 v5 r => ?_⟩
    simp only [c60, x60_0, x60_1, x60_2, x60_5, x60_6, x60_8, x60_11, x60_14, x60_15, x60_16, x60_17, x60_18, x60_19, x60_22, x60_25, x60_26, x60_27, x60_28, x60_29, x60_32, x60_33, x60_34, x60_35, x60_36, x60_39, x60_40, x60_42, x60_45, x60_48, x60_49, x60_50, x60_51, x60_52, x60_53, x60_56, x60_59, x60_60, x60_62, x60_65, x60_68, x60_69, x60_72, x60_73, x60_74, x60_75, x60_77, x60_80, x60_81, x60_82, x60_85, x60_86, x60_89, x60_90, x60_92, x60_95, x60_97, x60_99, x60_102, x60_103, x60_106, x60_107, x60_110, x60_112, x60_114, x60_115, x60_118, x60_119, x60_120, x60_121, x60_122, x60_124, x60_126, x60_129, x60_130, kp18, rf18_0, rp18_0, al19, iA19, it19, k1, n1, e1, k2, bI_True, bI_False, nI_1, Nat.reduceLeDiff, Nat.reduceEqDiff, nb0, nb1, nbI, eq_self, ex_pr, tl_s, tl_n, if_true, if_false, not_true_eq_false, not_false_eq_true, and_self, and_false, false_and, and_true, true_and]
  · have k1 := fun d r => @s64l sc d r f g h1 h2 C L p l T K.1 hl a1
    have K1 := K.mv (p' := p + 1) (by omega)
    have k2 := fun d r => @s64r sc d r _ g h1 h2 C L _ rr T K1.1 hr b1
    have K2 := K1.mv (p' := p + 2) hp
    rw [u2_u2] at K2
    have k3 := fun d r => @s61f sc d r _ g h1 h2 C L _ T K2.1 c1
    have e1 : ¬ nI l < 0 := nI_pos (by omega)
    have e2 : ¬ nI rr < 0 := nI_pos (by omega)
    refine ⟨_, KG.at, u2_ss, fun d x2 v3 v4 v5 r => ?_⟩
    simp only [c60, x60_0, x60_1, x60_2, x60_5, x60_6, x60_8, x60_11, x60_14, x60_15, x60_16, x60_17, x60_18, x60_19, x60_22, x60_25, x60_26, x60_27, x60_28, x60_29, x60_32, x60_33, x60_34, x60_35, x60_36, x60_39, x60_40, x60_42, x60_45, x60_48, x60_49, x60_50, x60_51, x60_52, x60_53, x60_56, x60_59, x60_60, x60_62, x60_65, x60_68, x60_69, x60_72, x60_73, x60_74, x60_75, x60_77, x60_80, x60_81, x60_82, x60_85, x60_86, x60_89, x60_90, x60_92, x60_95, x60_97, x60_99, x60_102, x60_103, x60_106, x60_107, x60_110, x60_112, x60_114, x60_115, x60_118, x60_119, x60_120, x60_121, x60_122, x60_124, x60_126, x60_129, x60_130, kp18, rf18_0, rp18_0, al19, iA19, it19, k1, e1, k2, e2, u2_u2, k3, bI_True, bI_False, nI_1, Nat.reduceLeDiff, Nat.reduceEqDiff, nb0, nb1, nbI, eq_self, ex_pr, tl_s, tl_n, if_true, if_false, not_true_eq_false, not_false_eq_true, and_self, and_false, false_and, and_true, true_and]
theorem l60t {t a p' l rr n : Nat} {E : List Nat} (ht : t < 6) (T : TXC C L) (K : KS f t C L p a E) (ha : a + E.length < 100) (hl : l < 6) (hr : rr < 3) (hn : n < 100) (h : TTO C p p' l rr n) (hp : p + 3 ≤ p') (hp2 : p' ≤ L) : ∃ f', KG f f' t a ∧ KS f' t C L p' a (E ++ [1000 * l + 100 * rr + n]) ∧ ∀ d x2 v3 v4 v5 r, Rn sc (d + 8) 60 74 [.ref (18 : Nat), .ref (78 + 4 * t), .int x2, v3, v4, v5] [] (cS f g h1 h2) r ↔ r = (cS f' g h1 h2, some (.int 1)) := by
  have HL := hlf t ht
  obtain ⟨a1, b1, -, c1⟩ := h
  have k1 := fun d r => @s64l sc d r f g h1 h2 C L p l T K.1 hl a1
  have K1 := K.mv (p' := p + 1) (by omega)
  have k2 := fun d r => @s64r sc d r _ g h1 h2 C L _ rr T K1.1 hr b1
  have K2 := K1.mv (p' := p + 2) (by omega)
  rw [u2_u2] at K2
  have k3 := fun d r => @s61 sc d r _ g h1 h2 C L _ n p' T K2.1 c1
  have K3 := K2.mv (p' := p') hp2
  rw [u2_u2] at K3
  have k4 := fun d r => @s26 sc d r (u2 f 18 2 (nI p')) g h1 h2 t (a + E.length) l rr n ht ha K3.2.1 hl hr hn
  have e1 : ¬ nI l < 0 := nI_pos (by omega)
  have e2 : ¬ nI rr < 0 := nI_pos (by omega)
  have e3 : ¬ nI n = -1 := nm1 (by omega)
  refine ⟨_, KG.trans KG.at (KG.wr (Nat.le_add_right _ _)), K3.wr, fun d x2 v3 v4 v5 r => ?_⟩
  simp only [c60, x60_0, x60_1, x60_2, x60_5, x60_6, x60_8, x60_11, x60_14, x60_15, x60_16, x60_17, x60_18, x60_19, x60_22, x60_25, x60_26, x60_27, x60_28, x60_29, x60_32, x60_33, x60_34, x60_35, x60_36, x60_39, x60_40, x60_42, x60_45, x60_48, x60_49, x60_50, x60_51, x60_52, x60_53, x60_56, x60_59, x60_60, x60_62, x60_65, x60_68, x60_69, x60_72, x60_73, x60_74, x60_75, x60_77, x60_80, x60_81, x60_82, x60_85, x60_86, x60_89, x60_90, x60_92, x60_95, x60_97, x60_99, x60_102, x60_103, x60_106, x60_107, x60_110, x60_112, x60_114, x60_115, x60_118, x60_119, x60_120, x60_121, x60_122, x60_124, x60_126, x60_129, x60_130, kp18, rf18_0, rp18_0, al19, iA19, it19, HL.k, k1, e1, k2, e2, u2_u2, k3, e3, k4, bI_True, bI_False, nI_1, Nat.reduceLeDiff, Nat.reduceEqDiff, nb0, nb1, nbI, eq_self, ex_pr, tl_s, tl_n, if_true, if_false, not_true_eq_false, not_false_eq_true, and_self, and_false, false_and, and_true, true_and]
/-- a test by the reference -/
theorem s124f {A op cc p' : Nat} {E S : List Nat} (T : TXC C L) (M : MS f C L p A E S op) (h : TTF C p p') (hp : p' ≤ L) : ∃ f', MG f f' A cc ∧ f' 114 14 = nI p' ∧ ∀ d r, Cl sc (d + 4) 124 [.ref (114 : Nat)] (cS f g h1 h2) r ↔ r = (cS f' g h1 h2, some (.int 0)) := by
  have n1 : (-1 : Int32) < 0 := by decide
  have k0 := fun d r => @s114 sc d r f g h1 h2 C L p T M.1
  have m14 := M.1.2.2.1
  have z1 : nI p + 1 = nI (p + 1) := by rw [← lt1, nI_add]
  have z2 : nI (p + 1) + 1 = nI (p + 2) := by rw [← lt1, nI_add]
  rcases h with ⟨a1, rfl⟩ | ⟨⟨l, hl, a1⟩, ⟨-, b1, rfl⟩ | ⟨⟨rr, hr, -, b1⟩, c1, rfl⟩⟩
  · refine ⟨f, MG.refl, m14, fun d r => ?_⟩
    simp only [c124, x124_0, x124_1, x124_2, x124_5, x124_8, x124_9, x124_10, x124_13, x124_14, x124_15, x124_16, x124_17, x124_20, x124_21, x124_22, x124_25, x124_26, x124_29, x124_30, x124_31, x124_32, x124_34, x124_36, x124_39, x124_42, x124_43, x124_44, x124_45, x124_46, x124_49, x124_50, x124_51, x124_54, x124_55, x124_58, x124_61, x124_62, x124_63, x124_64, x124_67, x124_68, x124_69, x124_71, x124_72, x124_74, x124_75, x124_76, x124_77, x124_78, x124_81, x124_82, x124_85, x124_86, x124_89, x124_90, kp114, rf114_5, rp114_5, al115, iA115, it115, rf114_6, rp114_6, al116, iA116, it116, rf114_7, rp114_7, al117, iA117, it117, rf114_8, rp114_8, al118, iA118, it118, rf114_9, rp114_9, al119, iA119, it119, rf114_10, rp114_10, al120, iA120, it120, rf114_16, rp114_16, al121, iA121, it121, rf114_17, rp114_17, al122, iA122, it122, rf114_18, rp114_18, al123, iA123, it123, rf114_19, rp114_19, al124, iA124, it124, rf114_20, rp114_20, al125, iA125, it125, rf114_21, rp114_21, al126, iA126, it126, rf114_22, rp114_22, al127, iA127, it127, rf114_23, rp114_23, al128, iA128, it128, rf114_27, rp114_27, al129, iA129, it129, rf114_28, rp114_28, al130, iA130, it130, rf114_29, rp114_29, al131, iA131, it131, rf114_30, rp114_30, al132, iA132, it132, rf114_31, rp114_31, al133, iA133, it133, rf114_41, rp114_41, al134, iA134, it134, rf114_42, rp114_42, al135, iA135, it135, rf114_44, rp114_44, al136, iA136, it136, rf114_45, rp114_45, al137, iA137, it137, rf114_55, rp114_55, al138, iA138, it138, rf114_56, rp114_56, al139, iA139, it139, rf114_57, rp114_57, al140, iA140, it140, rf114_58, rp114_58, al141, iA141, it141, rf114_59, rp114_59, al142, iA142, it142, rf114_60, rp114_60, al143, iA143, it143, rf114_61, rp114_61, al144, iA144, it144, rf114_62, rp114_62, al145, iA145, it145, rf114_63, rp114_63, al146, iA146, it146, rf114_64, rp114_64, al147, iA147, it147, rf114_66, rp114_66, al148, iA148, it148, rf114_67, rp114_67, al149, iA149, it149, rf114_68, rp114_68, al150, iA150, it150, rf114_69, rp114_69, al151, iA151, it151, rf114_70, rp114_70, al152, iA152, it152, k0, s123, a1, n1, bI_True, bI_False, nI_1, Nat.reduceLeDiff, Nat.reduceEqDiff, nb0, nb1, nbI, eq_self, ex_pr, tl_s, tl_n, if_true, if_false, not_true_eq_false, not_false_eq_true, and_self, and_false, false_and, and_true, true_and]
  · have M1 := M.mv (p' := p + 1) hp
    have k1 := fun d r => @s114 sc d r _ g h1 h2 C L _ T M1.1
    have e1 : ¬ nI l < 0 := nI_pos (by omega)
    refine ⟨_, MG.f (k := 14) (by omega), u2_ss, fun d r => ?_⟩
    simp only [c124, x124_0, x124_1, x124_2, x124_5, x124_8, x124_9, x124_10, x124_13, x124_14, x124_15, x124_16, x124_17, x124_20, x124_21, x124_22, x124_25, x124_26, x124_29, x124_30, x124_31, x124_32, x124_34, x124_36, x124_39, x124_42, x124_43, x124_44, x124_45, x124_46, x124_49, x124_50, x124_51, x124_54, x124_55, x124_58, x124_61, x124_62, x124_63, x124_64, x124_67, x124_68, x124_69, x124_71, x124_72, x124_74, x124_75, x124_76, x124_77, x124_78, x124_81, x124_82, x124_85, x124_86, x124_89, x124_90, kp114, rf114_5, rp114_5, al115, iA115, it115, rf114_6, rp114_6, al116, iA116, it116, rf114_7, rp114_7, al117, iA117, it117, rf114_8, rp114_8, al118, iA118, it118, rf114_9, rp114_9, al119, iA119, it119, rf114_10, rp114_10, al120, iA120, it120, rf114_16, rp114_16, al121, iA121, it121, rf114_17, rp114_17, al122, iA122, it122, rf114_18, rp114_18, al123, iA123, it123, rf114_19, rp114_19, al124, iA124, it124, rf114_20, rp114_20, al125, iA125, it125, rf114_21, rp114_21, al126, iA126, it126, rf114_22, rp114_22, al127, iA127, it127, rf114_23, rp114_23, al128, iA128, it128, rf114_27, rp114_27, al129, iA129, it129, rf114_28, rp114_28, al130, iA130, it130, rf114_29, rp114_29, al131, iA131, it131, rf114_30, rp114_30, al132, iA132, it132, rf114_31, rp114_31, al133, iA133, it133, rf114_41, rp114_41, al134, iA134, it134, rf114_42, rp114_42, al135, iA135, it135, rf114_44, rp114_44, al136, iA136, it136, rf114_45, rp114_45, al137, iA137, it137, rf114_55, rp114_55, al138, iA138, it138, rf114_56, rp114_56, al139, iA139, it139, rf114_57, rp114_57, al140, iA140, it140, rf114_58, rp114_58, al141, iA141, it141, rf114_59, rp114_59, al142, iA142, it142, rf114_60, rp114_60, al143, iA143, it143, rf114_61, rp114_61, al144, iA144, it144, rf114_62, rp114_62, al145, iA145, it145, rf114_63, rp114_63, al146, iA146, it146, rf114_64, rp114_64, al147, iA147, it147, rf114_66, rp114_66, al148, iA148, it148, rf114_67, rp114_67, al149, iA149, it149, rf114_68, rp114_68, al150, iA150, it150, rf114_69, rp114_69, al151, iA151, it151, rf114_70, rp114_70, al152, iA152, it152, k0, s123, a1, e1, m14, z1, k1, s108, bI_f b1, bI_True, bI_False, nI_1, Nat.reduceLeDiff, Nat.reduceEqDiff, nb0, nb1, nbI, eq_self, ex_pr, tl_s, tl_n, if_true, if_false, not_true_eq_false, not_false_eq_true, and_self, and_false, false_and, and_true, true_and]
  · have M1 := M.mv (p' := p + 1) (by omega)
    have k1 := fun d r => @s114 sc d r _ g h1 h2 C L _ T M1.1
    have M2 := M1.mv (p' := p + 2) hp
    rw [u2_u2] at M2
    have k2 := fun d r => @s119f sc d r _ g h1 h2 C L _ T M2.1 c1
    have e1 : ¬ nI l < 0 := nI_pos (by omega)
    have e2 : ¬ nI (60 + rr) < 60 ∧ ¬ (62 : Int32) < nI (60 + rr) := by
      rw [show (60 : Int32) = nI 60 from rfl, show (62 : Int32) = nI 62 from rfl, nI_ltI (by omega) (by decide), nI_ltI (by decide) (by omega)]
      omega
    rw [b1] at k1
    refine ⟨_, MG.f (k := 14) (by omega), u2_ss, fun d r => ?_⟩
    simp only [c124, x124_0, x124_1, x124_2, x124_5, x124_8, x124_9, x124_10, x124_13, x124_14, x124_15, x124_16, x124_17, x124_20, x124_21, x124_22, x124_25, x124_26, x124_29, x124_30, x124_31, x124_32, x124_34, x124_36, x124_39, x124_42, x124_43, x124_44, x124_45, x124_46, x124_49, x124_50, x124_51, x124_54, x124_55, x124_58, x124_61, x124_62, x124_63, x124_64, x124_67, x124_68, x124_69, x124_71, x124_72, x124_74, x124_75, x124_76, x124_77, x124_78, x124_81, x124_82, x124_85, x124_86, x124_89, x124_90, kp114, rf114_5, rp114_5, al115, iA115, it115, rf114_6, rp114_6, al116, iA116, it116, rf114_7, rp114_7, al117, iA117, it117, rf114_8, rp114_8, al118, iA118, it118, rf114_9, rp114_9, al119, iA119, it119, rf114_10, rp114_10, al120, iA120, it120, rf114_16, rp114_16, al121, iA121, it121, rf114_17, rp114_17, al122, iA122, it122, rf114_18, rp114_18, al123, iA123, it123, rf114_19, rp114_19, al124, iA124, it124, rf114_20, rp114_20, al125, iA125, it125, rf114_21, rp114_21, al126, iA126, it126, rf114_22, rp114_22, al127, iA127, it127, rf114_23, rp114_23, al128, iA128, it128, rf114_27, rp114_27, al129, iA129, it129, rf114_28, rp114_28, al130, iA130, it130, rf114_29, rp114_29, al131, iA131, it131, rf114_30, rp114_30, al132, iA132, it132, rf114_31, rp114_31, al133, iA133, it133, rf114_41, rp114_41, al134, iA134, it134, rf114_42, rp114_42, al135, iA135, it135, rf114_44, rp114_44, al136, iA136, it136, rf114_45, rp114_45, al137, iA137, it137, rf114_55, rp114_55, al138, iA138, it138, rf114_56, rp114_56, al139, iA139, it139, rf114_57, rp114_57, al140, iA140, it140, rf114_58, rp114_58, al141, iA141, it141, rf114_59, rp114_59, al142, iA142, it142, rf114_60, rp114_60, al143, iA143, it143, rf114_61, rp114_61, al144, iA144, it144, rf114_62, rp114_62, al145, iA145, it145, rf114_63, rp114_63, al146, iA146, it146, rf114_64, rp114_64, al147, iA147, it147, rf114_66, rp114_66, al148, iA148, it148, rf114_67, rp114_67, al149, iA149, it149, rf114_68, rp114_68, al150, iA150, it150, rf114_69, rp114_69, al151, iA151, it151, rf114_70, rp114_70, al152, iA152, it152, k0, s123, a1, e1, m14, z1, k1, s108, bI_t e2, zi1, u2_ss, z2, u2_u2, k2, bI_True, bI_False, nI_1, Nat.reduceLeDiff, Nat.reduceEqDiff, nb0, nb1, nbI, eq_self, ex_pr, tl_s, tl_n, if_true, if_false, not_true_eq_false, not_false_eq_true, and_self, and_false, false_and, and_true, true_and]
theorem mkT_t {l rr n : Nat} (hl : l < 6) (hr : rr < 3) (hn : n < 100) : mkT (1000 * l + 100 * rr + n) = nI (1000 * l + 100 * rr + n) := by
  unfold mkT
  rw [if_neg (by omega), if_neg (by omega), if_neg (by omega)]
theorem s124t {A op cc p' l rr n j : Nat} {E S : List Nat} (T : TXC C L) (M : MS f C L p A E (List.replicate j 33 ++ S) (op + j)) (hA : A + E.length + j + 1 ≤ 600) (hS : j + S.length ≤ 100) (nt : nTop (fun x => x = 33) S) (hl : l < 6) (hr : rr < 3) (hn : n < 100) (h : TTO C p p' l rr n) (hp : p + 3 ≤ p') (hp2 : p' ≤ L) : ∃ f', MG f f' A cc ∧ MS f' C L p' A (E ++ [1000 * l + 100 * rr + n] ++ List.replicate j 6001) S op ∧ ∀ d r, Cl sc (d + 4) 124 [.ref (114 : Nat)] (cS f g h1 h2) r ↔ r = (cS f' g h1 h2, some (.int 1)) := by
  obtain ⟨a1, -, b1, c1⟩ := h
  have k0 := fun d r => @s114 sc d r f g h1 h2 C L p T M.1
  have m14 := M.1.2.2.1
  have z1 : nI p + 1 = nI (p + 1) := by rw [← lt1, nI_add]
  have z2 : nI (p + 1) + 1 = nI (p + 2) := by rw [← lt1, nI_add]
  have M1 := M.mv (p' := p + 1) (by omega)
  have k1 := fun d r => @s114 sc d r _ g h1 h2 C L _ T M1.1
  have M2 := M1.mv (p' := p + 2) (by omega)
  rw [u2_u2] at M2
  obtain ⟨f3, F3, d3, e3, k3⟩ := @s119 sc _ g h1 h2 C L _ n p' T M2.1 c1
  have M3 := M2.dig F3 e3 hp2
  have k4 := fun d r => @s120 sc d r f3 g h1 h2 C L p' A _ (1000 * l + 100 * rr + n) E _ M3 (by omega)
  rw [mkT_t hl hr hn] at k4
  have M4 := M3.wr (x := 1000 * l + 100 * rr + n)
  rw [mkT_t hl hr hn] at M4
  obtain ⟨f5, F5, M5, k5⟩ := @s121 sc _ g h1 h2 C L p' A cc j op _ S M4 (by rw [len1]; omega) hS nt
  have e1 : ¬ nI l < 0 := nI_pos (by omega)
  have e2 : ¬ nI (60 + rr) < 60 ∧ ¬ (62 : Int32) < nI (60 + rr) := by
    rw [show (60 : Int32) = nI 60 from rfl, show (62 : Int32) = nI 62 from rfl, nI_ltI (by omega) (by decide), nI_ltI (by decide) (by omega)]
    omega
  rw [b1] at k1
  have y1 : (1000 : Int32) * nI l = nI (1000 * l) := nI_mul 1000 l
  have y2 : nI (60 + rr) - 60 = nI rr := by
    rw [show (60 : Int32) = nI 60 from rfl, pk_sub (by omega)]
    congr 1
    omega
  have y3 : (100 : Int32) * nI rr = nI (100 * rr) := nI_mul 100 rr
  refine ⟨f5, MG.trans (MG.trans (MG.f (k := 14) (x := nI (p + 2)) (by omega)) (fun q k x1 x2 x3 x4 => F3 q k (by omega))) (MG.trans (MG.trans (MG.e (Nat.le_add_right _ _)) (MG.f (k := 24) (by omega))) F5), M5, fun d r => ?_⟩
  simp only [c124, x124_0, x124_1, x124_2, x124_5, x124_8, x124_9, x124_10, x124_13, x124_14, x124_15, x124_16, x124_17, x124_20, x124_21, x124_22, x124_25, x124_26, x124_29, x124_30, x124_31, x124_32, x124_34, x124_36, x124_39, x124_42, x124_43, x124_44, x124_45, x124_46, x124_49, x124_50, x124_51, x124_54, x124_55, x124_58, x124_61, x124_62, x124_63, x124_64, x124_67, x124_68, x124_69, x124_71, x124_72, x124_74, x124_75, x124_76, x124_77, x124_78, x124_81, x124_82, x124_85, x124_86, x124_89, x124_90, kp114, rf114_5, rp114_5, al115, iA115, it115, rf114_6, rp114_6, al116, iA116, it116, rf114_7, rp114_7, al117, iA117, it117, rf114_8, rp114_8, al118, iA118, it118, rf114_9, rp114_9, al119, iA119, it119, rf114_10, rp114_10, al120, iA120, it120, rf114_16, rp114_16, al121, iA121, it121, rf114_17, rp114_17, al122, iA122, it122, rf114_18, rp114_18, al123, iA123, it123, rf114_19, rp114_19, al124, iA124, it124, rf114_20, rp114_20, al125, iA125, it125, rf114_21, rp114_21, al126, iA126, it126, rf114_22, rp114_22, al127, iA127, it127, rf114_23, rp114_23, al128, iA128, it128, rf114_27, rp114_27, al129, iA129, it129, rf114_28, rp114_28, al130, iA130, it130, rf114_29, rp114_29, al131, iA131, it131, rf114_30, rp114_30, al132, iA132, it132, rf114_31, rp114_31, al133, iA133, it133, rf114_41, rp114_41, al134, iA134, it134, rf114_42, rp114_42, al135, iA135, it135, rf114_44, rp114_44, al136, iA136, it136, rf114_45, rp114_45, al137, iA137, it137, rf114_55, rp114_55, al138, iA138, it138, rf114_56, rp114_56, al139, iA139, it139, rf114_57, rp114_57, al140, iA140, it140, rf114_58, rp114_58, al141, iA141, it141, rf114_59, rp114_59, al142, iA142, it142, rf114_60, rp114_60, al143, iA143, it143, rf114_61, rp114_61, al144, iA144, it144, rf114_62, rp114_62, al145, iA145, it145, rf114_63, rp114_63, al146, iA146, it146, rf114_64, rp114_64, al147, iA147, it147, rf114_66, rp114_66, al148, iA148, it148, rf114_67, rp114_67, al149, iA149, it149, rf114_68, rp114_68, al150, iA150, it150, rf114_69, rp114_69, al151, iA151, it151, rf114_70, rp114_70, al152, iA152, it152, k0, s123, a1, e1, m14, z1, k1, s108, bI_t e2, zi1, u2_ss, z2, u2_u2, k3, y1, y2, y3, nI_add, d3, k4, k5, bI_True, bI_False, nI_1, Nat.reduceLeDiff, Nat.reduceEqDiff, nb0, nb1, nbI, eq_self, ex_pr, tl_s, tl_n, if_true, if_false, not_true_eq_false, not_false_eq_true, and_self, and_false, false_and, and_true, true_and]
end HT
