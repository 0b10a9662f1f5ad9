/-! a text, read by the reference; numbers; what the class writes -/
def MTX (f : Nat → Nat → Int32) (C : Nat → Int32) (L p : Nat) : Prop := (∀ i, i < L → f 121 i = C i) ∧ f 114 13 = nI L ∧ f 114 14 = nI p ∧ p ≤ L
theorem MTX.mv {f : Nat → Nat → Int32} {C : Nat → Int32} {L p p' : Nat} (K : MTX f C L p) (h : p' ≤ L) : MTX (u2 f 114 14 (nI p')) C L p' := ⟨fun i hi => by rw [u2_nn (by omega)]; exact K.1 i hi, by rw [u2_nn (by omega)]; exact K.2.1, u2_ss, h⟩
theorem amf_cong {C : Nat → Int32} {cf cf' : Nat → Nat} : ∀ (k i i' p : Nat), (∀ j, j < k → cf (i + j) = cf' (i' + j)) → amf C cf k i p = amf C cf' k i' p
  | 0, _, _, _, _ => rfl
  | k + 1, i, i', p, h => by
    have e := h 0 (by omega)
    have q := amf_cong (C := C) k (i + 1) (i' + 1) (p + 1) fun j hj => by
      have := h (j + 1) (by omega)
      rw [show i + 1 + j = i + (j + 1) by omega, show i' + 1 + j = i' + (j + 1) by omega]
      exact this
    rw [Nat.add_zero, Nat.add_zero] at e
    show (if C p = nI (cf i) then amf C cf k (i + 1) (p + 1) + 1 else 0) = (if C p = nI (cf' i') then amf C cf' k (i' + 1) (p + 1) + 1 else 0)
    rw [e, q]
def dg (C : Nat → Int32) (p : Nat) : Prop := ¬ C p < 48 ∧ ¬ (57 : Int32) < C p
theorem dg_v {C : Nat → Int32} {L p : Nat} (T : TXC C L) (h : dg C p) : ∃ a, a ≤ 9 ∧ C p = nI (48 + a) ∧ p < L := by
  by_cases w : p < L
  · obtain ⟨b, hb, e⟩ := T.2.1 p w
    obtain ⟨h1, h2⟩ := h
    rw [e, show (48 : Int32) = nI 48 from rfl, nI_ltI (by omega) (by decide)] at h1
    rw [e, show (57 : Int32) = nI 57 from rfl, nI_ltI (by decide) (by omega)] at h2
    exact ⟨b - 48, by omega, by rw [e, show 48 + (b - 48) = b by omega], w⟩
  · have e := T.2.2 p (by omega)
    rw [show dg C p = (¬ C p < 48 ∧ ¬ (57 : Int32) < C p) from rfl, e] at h
    exact absurd h (by decide)
theorem dg_of {C : Nat → Int32} {p a : Nat} (ha : a ≤ 9) (e : C p = nI (48 + a)) : dg C p := by
  unfold dg
  rw [e, show (48 : Int32) = nI 48 from rfl, show (57 : Int32) = nI 57 from rfl, nI_ltI (by omega) (by decide), nI_ltI (by decide) (by omega)]
  omega
/-- a number stands here -/
def NMV (C : Nat → Int32) (p v p' : Nat) : Prop := ∃ a, a ≤ 9 ∧ C p = nI (48 + a) ∧ ((¬ dg C (p + 1) ∧ v = a ∧ p' = p + 1) ∨ ∃ b, b ≤ 9 ∧ C (p + 1) = nI (48 + b) ∧ v = 10 * a + b ∧ p' = p + 2)
theorem num_alt {C : Nat → Int32} {L p : Nat} (T : TXC C L) : ¬ dg C p ∨ ∃ v p', v ≤ 99 ∧ p < p' ∧ p' ≤ L ∧ p' ≤ p + 2 ∧ NMV C p v p' := by
  by_cases h : dg C p
  · obtain ⟨a, ha, e, w⟩ := dg_v T h
    by_cases h2 : dg C (p + 1)
    · obtain ⟨b, hb, e2, w2⟩ := dg_v T h2
      exact Or.inr ⟨10 * a + b, p + 2, by omega, by omega, by omega, by omega, a, ha, e, Or.inr ⟨b, hb, e2, rfl, rfl⟩⟩
    · exact Or.inr ⟨a, p + 1, by omega, by omega, by omega, by omega, a, ha, e, Or.inl ⟨h2, rfl, rfl⟩⟩
  · exact Or.inl h
theorem num1 : ∀ a, a < 10 → (0 : Int32) * 10 + nI (48 + a) - 48 = nI a ∧ (10 : Int32) * 0 + nI (48 + a) - 48 = nI a := by decide +kernel
theorem num2 : ∀ a, a < 10 → ∀ b, b < 10 → (if (0 : Int32) < nI a then nI a else 0) * 10 + nI (48 + b) - 48 = nI (10 * a + b) ∧ (10 : Int32) * nI a + nI (48 + b) - 48 = nI (10 * a + b) := by decide +kernel
theorem dg_n {C : Nat → Int32} {p : Nat} (h : ¬ dg C p) : C p < 48 ∨ (¬ C p < 48 ∧ (57 : Int32) < C p) := by
  unfold dg at h
  by_cases a : C p < 48
  · exact Or.inl a
  · exact Or.inr ⟨a, Classical.not_not.mp fun b => h ⟨a, b⟩⟩
section HN
variable {sc : aSc} {d : Nat} {r : aRes} {f : Nat → Nat → Int32} {g : Nat → Nat → Int64} {h1 h2 : Nat} {C : Nat → Int32} {L p : Nat} {σ : aS}
/-- readNumber -/
theorem s61f (T : TXC C L) (K : KT f C L p) (h : ¬ dg C p) : Cl sc (d + 2) 61 [.ref (18 : Nat)] (cS f g h1 h2) r ↔ r = (cS f g h1 h2, some (.int (-1))) := by
  have k0 := fun d r => @s211 sc d r f g h1 h2 C L p T K
  have e0 : (0 : Int32) < 2 := by decide
  rcases dg_n h with a | ⟨a, b⟩
  · simp only [c61, x61_0, x61_1, x61_2, x61_3, x61_4, x61_5, x61_6, x61_9, x61_10, x61_13, x61_15, x61_18, x61_19, x61_22, x61_24, x61_27, x61_28, x61_29, x61_32, x61_34, x61_35, x61_36, x61_39, x61_40, x61_42, x61_43, x61_44, x61_45, x61_46, x61_49, x61_50, x61_51, x61_54, x61_57, x61_60, x61_61, kp18, rf18_0, rp18_0, al19, iA19, it19, k0, e0, a, bI_True, bI_False, nI_1, Nat.reduceLeDiff, Nat.reduceEqDiff, nb0, nb1, nbI, eq_self, ex_pr, tl_s, tl_n, if_true, if_false, not_true_eq_false, not_false_eq_true, and_self, and_false, false_and, and_true, true_and]
  · simp only [c61, x61_0, x61_1, x61_2, x61_3, x61_4, x61_5, x61_6, x61_9, x61_10, x61_13, x61_15, x61_18, x61_19, x61_22, x61_24, x61_27, x61_28, x61_29, x61_32, x61_34, x61_35, x61_36, x61_39, x61_40, x61_42, x61_43, x61_44, x61_45, x61_46, x61_49, x61_50, x61_51, x61_54, x61_57, x61_60, x61_61, kp18, rf18_0, rp18_0, al19, iA19, it19, k0, e0, a, b, bI_True, bI_False, nI_1, Nat.reduceLeDiff, Nat.reduceEqDiff, nb0, nb1, nbI, eq_self, ex_pr, tl_s, tl_n, if_true, if_false, not_true_eq_false, not_false_eq_true, and_self, and_false, false_and, and_true, true_and]
theorem s61 {v p' : Nat} (T : TXC C L) (K : KT f C L p) (h : NMV C p v p') : Cl sc (d + 2) 61 [.ref (18 : Nat)] (cS f g h1 h2) r ↔ r = (cS (u2 f 18 2 (nI p')) g h1 h2, some (.int (nI v))) := by
  have k0 := fun d r => @s211 sc d r f g h1 h2 C L p T K
  have ka := K.2.1
  have e0 : (0 : Int32) < 2 := by decide
  have e1 : (1 : Int32) < 2 := by decide
  have e2 : ¬ (2 : Int32) < 2 := by decide
  have q1 : (0 : Int32) + 1 = 1 := by decide
  have q2 : (1 : Int32) + 1 = 2 := by decide
  have m0 : ¬ (0 : Int32) < -1 := by decide
  have z1 : nI p + 1 = nI (p + 1) := by rw [← lt1, nI_add]
  obtain ⟨a, ha, ea, h⟩ := h
  obtain ⟨da1, da2⟩ := dg_of ha ea
  have pl := T.lt ea (by omega)
  have k1 := fun d r => @s211 sc d r _ g h1 h2 C L (p + 1) T (K.mv (by omega))
  have n1 := (num1 a (by omega)).1
  rw [ea] at da1 da2
  rcases h with ⟨h, rfl, rfl⟩ | ⟨b, hb, eb, rfl, rfl⟩
  · rcases dg_n h with x | ⟨x, y⟩
    · simp only [c61, x61_0, x61_1, x61_2, x61_3, x61_4, x61_5, x61_6, x61_9, x61_10, x61_13, x61_15, x61_18, x61_19, x61_22, x61_24, x61_27, x61_28, x61_29, x61_32, x61_34, x61_35, x61_36, x61_39, x61_40, x61_42, x61_43, x61_44, x61_45, x61_46, x61_49, x61_50, x61_51, x61_54, x61_57, x61_60, x61_61, kp18, rf18_0, rp18_0, al19, iA19, it19, k0, k1, s207, ka, e0, e1, da1, da2, ea, m0, n1, z1, q1, u2_at, x, bI_True, bI_False, nI_1, Nat.reduceLeDiff, Nat.reduceEqDiff, nb0, nb1, nbI, eq_self, ex_pr, tl_s, tl_n, if_true, if_false, not_true_eq_false, not_false_eq_true, and_self, and_false, false_and, and_true, true_and]
    · simp only [c61, x61_0, x61_1, x61_2, x61_3, x61_4, x61_5, x61_6, x61_9, x61_10, x61_13, x61_15, x61_18, x61_19, x61_22, x61_24, x61_27, x61_28, x61_29, x61_32, x61_34, x61_35, x61_36, x61_39, x61_40, x61_42, x61_43, x61_44, x61_45, x61_46, x61_49, x61_50, x61_51, x61_54, x61_57, x61_60, x61_61, kp18, rf18_0, rp18_0, al19, iA19, it19, k0, k1, s207, ka, e0, e1, da1, da2, ea, m0, n1, z1, q1, u2_at, x, y, bI_True, bI_False, nI_1, Nat.reduceLeDiff, Nat.reduceEqDiff, nb0, nb1, nbI, eq_self, ex_pr, tl_s, tl_n, if_true, if_false, not_true_eq_false, not_false_eq_true, and_self, and_false, false_and, and_true, true_and]
  · obtain ⟨db1, db2⟩ := dg_of hb eb
    rw [eb] at db1 db2
    have n2 := (num2 a (by omega) b (by omega)).1
    have z2 : nI (p + 1) + 1 = nI (p + 2) := by rw [← lt1, nI_add]
    simp only [c61, x61_0, x61_1, x61_2, x61_3, x61_4, x61_5, x61_6, x61_9, x61_10, x61_13, x61_15, x61_18, x61_19, x61_22, x61_24, x61_27, x61_28, x61_29, x61_32, x61_34, x61_35, x61_36, x61_39, x61_40, x61_42, x61_43, x61_44, x61_45, x61_46, x61_49, x61_50, x61_51, x61_54, x61_57, x61_60, x61_61, kp18, rf18_0, rp18_0, al19, iA19, it19, k0, k1, s207, ka, e0, e1, e2, da1, da2, ea, m0, n1, z1, z2, q1, q2, u2_at, eb, db1, db2, n2, u2_u2, bI_True, bI_False, nI_1, Nat.reduceLeDiff, Nat.reduceEqDiff, nb0, nb1, nbI, eq_self, ex_pr, tl_s, tl_n, if_true, if_false, not_true_eq_false, not_false_eq_true, and_self, and_false, false_and, and_true, true_and]
theorem s114 (T : TXC C L) (K : MTX f C L p) : Cl sc (d + 1) 114 [.ref (114 : Nat)] (cS f g h1 h2) r ↔ r = (cS f g h1 h2, some (.int (C p))) := by
  obtain ⟨kb, kf, ka, kp⟩ := K
  have tl := T.1
  have e := @nI_ltI p L (by omega) (by omega)
  by_cases w : p < L
  · have j1 : inb (nI p) 100 = true := inb_nI (by omega) (by decide)
    have j2 : (nI p).toNatClampNeg = p := cl_nI (by omega)
    simp only [c114, x114_0, x114_1, x114_4, x114_5, x114_8, x114_11, x114_12, x114_15, x114_16, x114_19, x114_20, x114_23, x114_24, kp114, rf114_5, rp114_5, al115, iA115, it115, rf114_6, rp114_6, al116, iA116, it116, rf114_7, rp114_7, al117, iA117, it117, rf114_8, rp114_8, al118, iA118, it118, rf114_9, rp114_9, al119, iA119, it119, rf114_10, rp114_10, al120, iA120, it120, rf114_16, rp114_16, al121, iA121, it121, rf114_17, rp114_17, al122, iA122, it122, rf114_18, rp114_18, al123, iA123, it123, rf114_19, rp114_19, al124, iA124, it124, rf114_20, rp114_20, al125, iA125, it125, rf114_21, rp114_21, al126, iA126, it126, rf114_22, rp114_22, al127, iA127, it127, rf114_23, rp114_23, al128, iA128, it128, rf114_27, rp114_27, al129, iA129, it129, rf114_28, rp114_28, al130, iA130, it130, rf114_29, rp114_29, al131, iA131, it131, rf114_30, rp114_30, al132, iA132, it132, rf114_31, rp114_31, al133, iA133, it133, rf114_41, rp114_41, al134, iA134, it134, rf114_42, rp114_42, al135, iA135, it135, rf114_44, rp114_44, al136, iA136, it136, rf114_45, rp114_45, al137, iA137, it137, rf114_55, rp114_55, al138, iA138, it138, rf114_56, rp114_56, al139, iA139, it139, rf114_57, rp114_57, al140, iA140, it140, rf114_58, rp114_58, al141, iA141, it141, rf114_59, rp114_59, al142, iA142, it142, rf114_60, rp114_60, al143, iA143, it143, rf114_61, rp114_61, al144, iA144, it144, rf114_62, rp114_62, al145, iA145, it145, rf114_63, rp114_63, al146, iA146, it146, rf114_64, rp114_64, al147, iA147, it147, rf114_66, rp114_66, al148, iA148, it148, rf114_67, rp114_67, al149, iA149, it149, rf114_68, rp114_68, al150, iA150, it150, rf114_69, rp114_69, al151, iA151, it151, rf114_70, rp114_70, al152, iA152, it152, al121, iA121, it121, kf, ka, e, eq_true w, j1, j2, kb p w, bI_True, bI_False, nI_1, Nat.reduceLeDiff, Nat.reduceEqDiff, nb0, nb1, nbI, eq_self, ex_pr, tl_s, tl_n, if_true, if_false, not_true_eq_false, not_false_eq_true, and_self, and_false, false_and, and_true, true_and]
  · rw [T.2.2 p (by omega)]
    simp only [c114, x114_0, x114_1, x114_4, x114_5, x114_8, x114_11, x114_12, x114_15, x114_16, x114_19, x114_20, x114_23, x114_24, kp114, rf114_5, rp114_5, al115, iA115, it115, rf114_6, rp114_6, al116, iA116, it116, rf114_7, rp114_7, al117, iA117, it117, rf114_8, rp114_8, al118, iA118, it118, rf114_9, rp114_9, al119, iA119, it119, rf114_10, rp114_10, al120, iA120, it120, rf114_16, rp114_16, al121, iA121, it121, rf114_17, rp114_17, al122, iA122, it122, rf114_18, rp114_18, al123, iA123, it123, rf114_19, rp114_19, al124, iA124, it124, rf114_20, rp114_20, al125, iA125, it125, rf114_21, rp114_21, al126, iA126, it126, rf114_22, rp114_22, al127, iA127, it127, rf114_23, rp114_23, al128, iA128, it128, rf114_27, rp114_27, al129, iA129, it129, rf114_28, rp114_28, al130, iA130, it130, rf114_29, rp114_29, al131, iA131, it131, rf114_30, rp114_30, al132, iA132, it132, rf114_31, rp114_31, al133, iA133, it133, rf114_41, rp114_41, al134, iA134, it134, rf114_42, rp114_42, al135, iA135, it135, rf114_44, rp114_44, al136, iA136, it136, rf114_45, rp114_45, al137, iA137, it137, rf114_55, rp114_55, al138, iA138, it138, rf114_56, rp114_56, al139, iA139, it139, rf114_57, rp114_57, al140, iA140, it140, rf114_58, rp114_58, al141, iA141, it141, rf114_59, rp114_59, al142, iA142, it142, rf114_60, rp114_60, al143, iA143, it143, rf114_61, rp114_61, al144, iA144, it144, rf114_62, rp114_62, al145, iA145, it145, rf114_63, rp114_63, al146, iA146, it146, rf114_64, rp114_64, al147, iA147, it147, rf114_66, rp114_66, al148, iA148, it148, rf114_67, rp114_67, al149, iA149, it149, rf114_68, rp114_68, al150, iA150, it150, rf114_69, rp114_69, al151, iA151, it151, rf114_70, rp114_70, al152, iA152, it152, al121, iA121, it121, kf, ka, e, eq_false w, bI_True, bI_False, nI_1, Nat.reduceLeDiff, Nat.reduceEqDiff, nb0, nb1, nbI, eq_self, ex_pr, tl_s, tl_n, if_true, if_false, not_true_eq_false, not_false_eq_true, and_self, and_false, false_and, and_true, true_and]
theorem s115 (T : TXC C L) (K : MTX f C L p) : Cl sc (d + 1) 115 [.ref (114 : Nat)] (cS f g h1 h2) r ↔ r = (cS f g h1 h2, some (.int (C (p + 1)))) := by
  obtain ⟨kb, kf, ka, kp⟩ := K
  have tl := T.1
  have e := @nI_ltI (p + 1) L (by omega) (by omega)
  have z1 : nI p + 1 = nI (p + 1) := by rw [← lt1, nI_add]
  by_cases w : p + 1 < L
  · have j1 : inb (nI (p + 1)) 100 = true := inb_nI (by omega) (by decide)
    have j2 : (nI (p + 1)).toNatClampNeg = p + 1 := cl_nI (by omega)
    simp only [c115, x115_0, x115_1, x115_4, x115_5, x115_6, x115_7, x115_10, x115_13, x115_14, x115_17, x115_18, x115_21, x115_22, x115_23, x115_24, x115_27, x115_28, kp114, rf114_5, rp114_5, al115, iA115, it115, rf114_6, rp114_6, al116, iA116, it116, rf114_7, rp114_7, al117, iA117, it117, rf114_8, rp114_8, al118, iA118, it118, rf114_9, rp114_9, al119, iA119, it119, rf114_10, rp114_10, al120, iA120, it120, rf114_16, rp114_16, al121, iA121, it121, rf114_17, rp114_17, al122, iA122, it122, rf114_18, rp114_18, al123, iA123, it123, rf114_19, rp114_19, al124, iA124, it124, rf114_20, rp114_20, al125, iA125, it125, rf114_21, rp114_21, al126, iA126, it126, rf114_22, rp114_22, al127, iA127, it127, rf114_23, rp114_23, al128, iA128, it128, rf114_27, rp114_27, al129, iA129, it129, rf114_28, rp114_28, al130, iA130, it130, rf114_29, rp114_29, al131, iA131, it131, rf114_30, rp114_30, al132, iA132, it132, rf114_31, rp114_31, al133, iA133, it133, rf114_41, rp114_41, al134, iA134, it134, rf114_42, rp114_42, al135, iA135, it135, rf114_44, rp114_44, al136, iA136, it136, rf114_45, rp114_45, al137, iA137, it137, rf114_55, rp114_55, al138, iA138, it138, rf114_56, rp114_56, al139, iA139, it139, rf114_57, rp114_57, al140, iA140, it140, rf114_58, rp114_58, al141, iA141, it141, rf114_59, rp114_59, al142, iA142, it142, rf114_60, rp114_60, al143, iA143, it143, rf114_61, rp114_61, al144, iA144, it144, rf114_62, rp114_62, al145, iA145, it145, rf114_63, rp114_63, al146, iA146, it146, rf114_64, rp114_64, al147, iA147, it147, rf114_66, rp114_66, al148, iA148, it148, rf114_67, rp114_67, al149, iA149, it149, rf114_68, rp114_68, al150, iA150, it150, rf114_69, rp114_69, al151, iA151, it151, rf114_70, rp114_70, al152, iA152, it152, al121, iA121, it121, kf, ka, z1, e, eq_true w, j1, j2, kb (p + 1) w, bI_True, bI_False, nI_1, Nat.reduceLeDiff, Nat.reduceEqDiff, nb0, nb1, nbI, eq_self, ex_pr, tl_s, tl_n, if_true, if_false, not_true_eq_false, not_false_eq_true, and_self, and_false, false_and, and_true, true_and]
  · rw [T.2.2 (p + 1) (by omega)]
    simp only [c115, x115_0, x115_1, x115_4, x115_5, x115_6, x115_7, x115_10, x115_13, x115_14, x115_17, x115_18, x115_21, x115_22, x115_23, x115_24, x115_27, x115_28, kp114, rf114_5, rp114_5, al115, iA115, it115, rf114_6, rp114_6, al116, iA116, it116, rf114_7, rp114_7, al117, iA117, it117, rf114_8, rp114_8, al118, iA118, it118, rf114_9, rp114_9, al119, iA119, it119, rf114_10, rp114_10, al120, iA120, it120, rf114_16, rp114_16, al121, iA121, it121, rf114_17, rp114_17, al122, iA122, it122, rf114_18, rp114_18, al123, iA123, it123, rf114_19, rp114_19, al124, iA124, it124, rf114_20, rp114_20, al125, iA125, it125, rf114_21, rp114_21, al126, iA126, it126, rf114_22, rp114_22, al127, iA127, it127, rf114_23, rp114_23, al128, iA128, it128, rf114_27, rp114_27, al129, iA129, it129, rf114_28, rp114_28, al130, iA130, it130, rf114_29, rp114_29, al131, iA131, it131, rf114_30, rp114_30, al132, iA132, it132, rf114_31, rp114_31, al133, iA133, it133, rf114_41, rp114_41, al134, iA134, it134, rf114_42, rp114_42, al135, iA135, it135, rf114_44, rp114_44, al136, iA136, it136, rf114_45, rp114_45, al137, iA137, it137, rf114_55, rp114_55, al138, iA138, it138, rf114_56, rp114_56, al139, iA139, it139, rf114_57, rp114_57, al140, iA140, it140, rf114_58, rp114_58, al141, iA141, it141, rf114_59, rp114_59, al142, iA142, it142, rf114_60, rp114_60, al143, iA143, it143, rf114_61, rp114_61, al144, iA144, it144, rf114_62, rp114_62, al145, iA145, it145, rf114_63, rp114_63, al146, iA146, it146, rf114_64, rp114_64, al147, iA147, it147, rf114_66, rp114_66, al148, iA148, it148, rf114_67, rp114_67, al149, iA149, it149, rf114_68, rp114_68, al150, iA150, it150, rf114_69, rp114_69, al151, iA151, it151, rf114_70, rp114_70, al152, iA152, it152, al121, iA121, it121, kf, ka, z1, e, eq_false w, bI_True, bI_False, nI_1, Nat.reduceLeDiff, Nat.reduceEqDiff, nb0, nb1, nbI, eq_self, ex_pr, tl_s, tl_n, if_true, if_false, not_true_eq_false, not_false_eq_true, and_self, and_false, false_and, and_true, true_and]
theorem s116t {x : Int32} (T : TXC C L) (K : MTX f C L p) (h : C p = x) : Cl sc (d + 2) 116 [.ref (114 : Nat), .int x] (cS f g h1 h2) r ↔ r = (cS (u2 f 114 14 (nI (p + 1))) g h1 h2, some (.int 1)) := by
  have k := fun d r => @s114 sc d r f g h1 h2 C L p T K
  have ka := K.2.2.1
  have z1 : nI p + 1 = nI (p + 1) := by rw [← lt1, nI_add]
  simp only [c116, x116_0, x116_1, x116_4, x116_5, x116_8, x116_9, x116_10, x116_11, x116_12, x116_15, x116_16, x116_17, x116_20, x116_21, kp114, rf114_5, rp114_5, al115, iA115, it115, rf114_6, rp114_6, al116, iA116, it116, rf114_7, rp114_7, al117, iA117, it117, rf114_8, rp114_8, al118, iA118, it118, rf114_9, rp114_9, al119, iA119, it119, rf114_10, rp114_10, al120, iA120, it120, rf114_16, rp114_16, al121, iA121, it121, rf114_17, rp114_17, al122, iA122, it122, rf114_18, rp114_18, al123, iA123, it123, rf114_19, rp114_19, al124, iA124, it124, rf114_20, rp114_20, al125, iA125, it125, rf114_21, rp114_21, al126, iA126, it126, rf114_22, rp114_22, al127, iA127, it127, rf114_23, rp114_23, al128, iA128, it128, rf114_27, rp114_27, al129, iA129, it129, rf114_28, rp114_28, al130, iA130, it130, rf114_29, rp114_29, al131, iA131, it131, rf114_30, rp114_30, al132, iA132, it132, rf114_31, rp114_31, al133, iA133, it133, rf114_41, rp114_41, al134, iA134, it134, rf114_42, rp114_42, al135, iA135, it135, rf114_44, rp114_44, al136, iA136, it136, rf114_45, rp114_45, al137, iA137, it137, rf114_55, rp114_55, al138, iA138, it138, rf114_56, rp114_56, al139, iA139, it139, rf114_57, rp114_57, al140, iA140, it140, rf114_58, rp114_58, al141, iA141, it141, rf114_59, rp114_59, al142, iA142, it142, rf114_60, rp114_60, al143, iA143, it143, rf114_61, rp114_61, al144, iA144, it144, rf114_62, rp114_62, al145, iA145, it145, rf114_63, rp114_63, al146, iA146, it146, rf114_64, rp114_64, al147, iA147, it147, rf114_66, rp114_66, al148, iA148, it148, rf114_67, rp114_67, al149, iA149, it149, rf114_68, rp114_68, al150, iA150, it150, rf114_69, rp114_69, al151, iA151, it151, rf114_70, rp114_70, al152, iA152, it152, k, h, ka, z1, bI_True, bI_False, nI_1, Nat.reduceLeDiff, Nat.reduceEqDiff, nb0, nb1, nbI, eq_self, ex_pr, tl_s, tl_n, if_true, if_false, not_true_eq_false, not_false_eq_true, and_self, and_false, false_and, and_true, true_and]
theorem s116f {x : Int32} (T : TXC C L) (K : MTX f C L p) (h : ¬ C p = x) : Cl sc (d + 2) 116 [.ref (114 : Nat), .int x] (cS f g h1 h2) r ↔ r = (cS f g h1 h2, some (.int 0)) := by
  have k := fun d r => @s114 sc d r f g h1 h2 C L p T K
  simp only [c116, x116_0, x116_1, x116_4, x116_5, x116_8, x116_9, x116_10, x116_11, x116_12, x116_15, x116_16, x116_17, x116_20, x116_21, kp114, rf114_5, rp114_5, al115, iA115, it115, rf114_6, rp114_6, al116, iA116, it116, rf114_7, rp114_7, al117, iA117, it117, rf114_8, rp114_8, al118, iA118, it118, rf114_9, rp114_9, al119, iA119, it119, rf114_10, rp114_10, al120, iA120, it120, rf114_16, rp114_16, al121, iA121, it121, rf114_17, rp114_17, al122, iA122, it122, rf114_18, rp114_18, al123, iA123, it123, rf114_19, rp114_19, al124, iA124, it124, rf114_20, rp114_20, al125, iA125, it125, rf114_21, rp114_21, al126, iA126, it126, rf114_22, rp114_22, al127, iA127, it127, rf114_23, rp114_23, al128, iA128, it128, rf114_27, rp114_27, al129, iA129, it129, rf114_28, rp114_28, al130, iA130, it130, rf114_29, rp114_29, al131, iA131, it131, rf114_30, rp114_30, al132, iA132, it132, rf114_31, rp114_31, al133, iA133, it133, rf114_41, rp114_41, al134, iA134, it134, rf114_42, rp114_42, al135, iA135, it135, rf114_44, rp114_44, al136, iA136, it136, rf114_45, rp114_45, al137, iA137, it137, rf114_55, rp114_55, al138, iA138, it138, rf114_56, rp114_56, al139, iA139, it139, rf114_57, rp114_57, al140, iA140, it140, rf114_58, rp114_58, al141, iA141, it141, rf114_59, rp114_59, al142, iA142, it142, rf114_60, rp114_60, al143, iA143, it143, rf114_61, rp114_61, al144, iA144, it144, rf114_62, rp114_62, al145, iA145, it145, rf114_63, rp114_63, al146, iA146, it146, rf114_64, rp114_64, al147, iA147, it147, rf114_66, rp114_66, al148, iA148, it148, rf114_67, rp114_67, al149, iA149, it149, rf114_68, rp114_68, al150, iA150, it150, rf114_69, rp114_69, al151, iA151, it151, rf114_70, rp114_70, al152, iA152, it152, k, h, bI_True, bI_False, nI_1, Nat.reduceLeDiff, Nat.reduceEqDiff, nb0, nb1, nbI, eq_self, ex_pr, tl_s, tl_n, if_true, if_false, not_true_eq_false, not_false_eq_true, and_self, and_false, false_and, and_true, true_and]
def wR (fr m i : Nat) : Nat := if i < m then [115, 110, 111, 119, 115, 108, 117, 115, 104, 110, 101, 101, 100, 114, 111, 112, 101].getD (fr + i) 0 else 32
theorem wR_b : ∀ fr, fr < 18 → ∀ m, m < 18 → ∀ i, i < 18 → wR fr m i ≤ 127 := by decide +kernel
theorem l117 {fr m : Nat} (hm : fr + m ≤ 17) (T : TXC C L) : ∀ (k i p : Nat) (f : Nat → Nat → Int32), i + k = m → MTX f C L p → LTs f → (Rn sc (d + 3) 117 2 [.ref (114 : Nat), .int (nI fr), .int (nI m), .int (nI i)] [] (cS f g h1 h2) r ↔ r = (cS (u2 f 114 14 (nI (p + amf C (wR fr m) (k + 1) i p))) g h1 h2, some (.int (bI (amf C (wR fr m) (k + 1) i p = k + 1)))))
  | 0, i, p, f, h, K, LT => by
    have e : i = m := h
    have e1 : ¬ nI i < nI m := by rw [e]; exact Int32.lt_irrefl
    have w32 : wR fr m i = 32 := if_neg (by omega)
    have st : amf C (wR fr m) 1 i p = if C p = nI (wR fr m i) then 1 else 0 := rfl
    rw [st, w32, show nI 32 = 32 from rfl]
    by_cases y : C p = 32
    · have k2 := fun d r => @s116t sc d r f g h1 h2 C L p 32 T K y
      have e0 : bI (1 = 0 + 1) = 1 := if_pos rfl
      rw [if_pos y, e0]
      simp only [x117_2 (x3 := nI i), x117_3, x117_4, x117_30, x117_31, x117_33, x117_36, kp114, rf114_5, rp114_5, al115, iA115, it115, rf114_6, rp114_6, al116, iA116, it116, rf114_7, rp114_7, al117, iA117, it117, rf114_8, rp114_8, al118, iA118, it118, rf114_9, rp114_9, al119, iA119, it119, rf114_10, rp114_10, al120, iA120, it120, rf114_16, rp114_16, al121, iA121, it121, rf114_17, rp114_17, al122, iA122, it122, rf114_18, rp114_18, al123, iA123, it123, rf114_19, rp114_19, al124, iA124, it124, rf114_20, rp114_20, al125, iA125, it125, rf114_21, rp114_21, al126, iA126, it126, rf114_22, rp114_22, al127, iA127, it127, rf114_23, rp114_23, al128, iA128, it128, rf114_27, rp114_27, al129, iA129, it129, rf114_28, rp114_28, al130, iA130, it130, rf114_29, rp114_29, al131, iA131, it131, rf114_30, rp114_30, al132, iA132, it132, rf114_31, rp114_31, al133, iA133, it133, rf114_41, rp114_41, al134, iA134, it134, rf114_42, rp114_42, al135, iA135, it135, rf114_44, rp114_44, al136, iA136, it136, rf114_45, rp114_45, al137, iA137, it137, rf114_55, rp114_55, al138, iA138, it138, rf114_56, rp114_56, al139, iA139, it139, rf114_57, rp114_57, al140, iA140, it140, rf114_58, rp114_58, al141, iA141, it141, rf114_59, rp114_59, al142, iA142, it142, rf114_60, rp114_60, al143, iA143, it143, rf114_61, rp114_61, al144, iA144, it144, rf114_62, rp114_62, al145, iA145, it145, rf114_63, rp114_63, al146, iA146, it146, rf114_64, rp114_64, al147, iA147, it147, rf114_66, rp114_66, al148, iA148, it148, rf114_67, rp114_67, al149, iA149, it149, rf114_68, rp114_68, al150, iA150, it150, rf114_69, rp114_69, al151, iA151, it151, rf114_70, rp114_70, al152, iA152, it152, e1, k2, bI_True, bI_False, nI_1, Nat.reduceLeDiff, Nat.reduceEqDiff, nb0, nb1, nbI, eq_self, ex_pr, tl_s, tl_n, if_true, if_false, not_true_eq_false, not_false_eq_true, and_self, and_false, false_and, and_true, true_and]
    · have k2 := fun d r => @s116f sc d r f g h1 h2 C L p 32 T K y
      have e0 : bI (0 = 0 + 1) = 0 := if_neg (by omega)
      rw [if_neg y, Nat.add_zero p, u2_id K.2.2.1, e0]
      simp only [x117_2 (x3 := nI i), x117_3, x117_4, x117_30, x117_31, x117_33, x117_36, kp114, rf114_5, rp114_5, al115, iA115, it115, rf114_6, rp114_6, al116, iA116, it116, rf114_7, rp114_7, al117, iA117, it117, rf114_8, rp114_8, al118, iA118, it118, rf114_9, rp114_9, al119, iA119, it119, rf114_10, rp114_10, al120, iA120, it120, rf114_16, rp114_16, al121, iA121, it121, rf114_17, rp114_17, al122, iA122, it122, rf114_18, rp114_18, al123, iA123, it123, rf114_19, rp114_19, al124, iA124, it124, rf114_20, rp114_20, al125, iA125, it125, rf114_21, rp114_21, al126, iA126, it126, rf114_22, rp114_22, al127, iA127, it127, rf114_23, rp114_23, al128, iA128, it128, rf114_27, rp114_27, al129, iA129, it129, rf114_28, rp114_28, al130, iA130, it130, rf114_29, rp114_29, al131, iA131, it131, rf114_30, rp114_30, al132, iA132, it132, rf114_31, rp114_31, al133, iA133, it133, rf114_41, rp114_41, al134, iA134, it134, rf114_42, rp114_42, al135, iA135, it135, rf114_44, rp114_44, al136, iA136, it136, rf114_45, rp114_45, al137, iA137, it137, rf114_55, rp114_55, al138, iA138, it138, rf114_56, rp114_56, al139, iA139, it139, rf114_57, rp114_57, al140, iA140, it140, rf114_58, rp114_58, al141, iA141, it141, rf114_59, rp114_59, al142, iA142, it142, rf114_60, rp114_60, al143, iA143, it143, rf114_61, rp114_61, al144, iA144, it144, rf114_62, rp114_62, al145, iA145, it145, rf114_63, rp114_63, al146, iA146, it146, rf114_64, rp114_64, al147, iA147, it147, rf114_66, rp114_66, al148, iA148, it148, rf114_67, rp114_67, al149, iA149, it149, rf114_68, rp114_68, al150, iA150, it150, rf114_69, rp114_69, al151, iA151, it151, rf114_70, rp114_70, al152, iA152, it152, e1, k2, bI_True, bI_False, nI_1, Nat.reduceLeDiff, Nat.reduceEqDiff, nb0, nb1, nbI, eq_self, ex_pr, tl_s, tl_n, if_true, if_false, not_true_eq_false, not_false_eq_true, and_self, and_false, false_and, and_true, true_and]
  | k + 1, i, p, f, h, K, LT => by
    have e1 : nI i < nI m := nI_lt (by omega) (by omega)
    have lw : f 129 (fr + i) = nI (wR fr m i) := by
      have e : wR fr m i = [115, 110, 111, 119, 115, 108, 117, 115, 104, 110, 101, 101, 100, 114, 111, 112, 101].getD (fr + i) 0 := if_pos (by omega)
      rw [e]
      exact LT (fr + i) (by omega)
    have wb := wR_b fr (by omega) m (by omega) i (by omega)
    have j1 : inb (nI (fr + i)) 17 = true := inb_nI (by omega) (by decide)
    have j2 : (nI (fr + i)).toNatClampNeg = fr + i := cl_nI (by omega)
    have z2 : nI i + 1 = nI (i + 1) := by rw [← lt1, nI_add]
    have st : amf C (wR fr m) (k + 1 + 1) i p = if C p = nI (wR fr m i) then amf C (wR fr m) (k + 1) (i + 1) (p + 1) + 1 else 0 := rfl
    rw [st]
    by_cases y : C p = nI (wR fr m i)
    · have pl := T.lt y (by omega)
      have k2 := fun d r => @s116t sc d r f g h1 h2 C L p (nI (wR fr m i)) T K y
      have k4 := l117 hm T k (i + 1) (p + 1) (u2 f 114 14 (nI (p + 1))) (by omega) (K.mv (by omega)) (fun j hj => by rw [u2_nn (by omega)]; exact LT j hj)
      rw [u2_u2] at k4
      rw [if_pos y, show p + (amf C (wR fr m) (k + 1) (i + 1) (p + 1) + 1) = p + 1 + amf C (wR fr m) (k + 1) (i + 1) (p + 1) by omega]
      have eb : bI (amf C (wR fr m) (k + 1) (i + 1) (p + 1) + 1 = k + 1 + 1) = bI (amf C (wR fr m) (k + 1) (i + 1) (p + 1) = k + 1) := by
        unfold bI
        by_cases w : amf C (wR fr m) (k + 1) (i + 1) (p + 1) = k + 1
        · rw [if_pos w, if_pos (by omega)]
        · rw [if_neg w, if_neg (by omega)]
      rw [eb, ← k4]
      simp only [x117_2 (x3 := nI i), x117_3, x117_4, x117_7, x117_8, x117_9, x117_12, x117_13, x117_14, x117_15, x117_16, x117_19, x117_24, x117_27, kp114, rf114_5, rp114_5, al115, iA115, it115, rf114_6, rp114_6, al116, iA116, it116, rf114_7, rp114_7, al117, iA117, it117, rf114_8, rp114_8, al118, iA118, it118, rf114_9, rp114_9, al119, iA119, it119, rf114_10, rp114_10, al120, iA120, it120, rf114_16, rp114_16, al121, iA121, it121, rf114_17, rp114_17, al122, iA122, it122, rf114_18, rp114_18, al123, iA123, it123, rf114_19, rp114_19, al124, iA124, it124, rf114_20, rp114_20, al125, iA125, it125, rf114_21, rp114_21, al126, iA126, it126, rf114_22, rp114_22, al127, iA127, it127, rf114_23, rp114_23, al128, iA128, it128, rf114_27, rp114_27, al129, iA129, it129, rf114_28, rp114_28, al130, iA130, it130, rf114_29, rp114_29, al131, iA131, it131, rf114_30, rp114_30, al132, iA132, it132, rf114_31, rp114_31, al133, iA133, it133, rf114_41, rp114_41, al134, iA134, it134, rf114_42, rp114_42, al135, iA135, it135, rf114_44, rp114_44, al136, iA136, it136, rf114_45, rp114_45, al137, iA137, it137, rf114_55, rp114_55, al138, iA138, it138, rf114_56, rp114_56, al139, iA139, it139, rf114_57, rp114_57, al140, iA140, it140, rf114_58, rp114_58, al141, iA141, it141, rf114_59, rp114_59, al142, iA142, it142, rf114_60, rp114_60, al143, iA143, it143, rf114_61, rp114_61, al144, iA144, it144, rf114_62, rp114_62, al145, iA145, it145, rf114_63, rp114_63, al146, iA146, it146, rf114_64, rp114_64, al147, iA147, it147, rf114_66, rp114_66, al148, iA148, it148, rf114_67, rp114_67, al149, iA149, it149, rf114_68, rp114_68, al150, iA150, it150, rf114_69, rp114_69, al151, iA151, it151, rf114_70, rp114_70, al152, iA152, it152, al129, iA129, it129, e1, nI_add, j1, j2, lw, k2, zi1, z2, bI_True, bI_False, nI_1, Nat.reduceLeDiff, Nat.reduceEqDiff, nb0, nb1, nbI, eq_self, ex_pr, tl_s, tl_n, if_true, if_false, not_true_eq_false, not_false_eq_true, and_self, and_false, false_and, and_true, true_and]
    · have k2 := fun d r => @s116f sc d r f g h1 h2 C L p (nI (wR fr m i)) T K y
      have e0 : bI (0 = k + 1 + 1) = 0 := if_neg (by omega)
      rw [if_neg y, Nat.add_zero p, u2_id K.2.2.1, e0]
      simp only [x117_2 (x3 := nI i), x117_3, x117_4, x117_7, x117_8, x117_9, x117_12, x117_13, x117_14, x117_15, x117_16, x117_19, x117_22, x117_23, kp114, rf114_5, rp114_5, al115, iA115, it115, rf114_6, rp114_6, al116, iA116, it116, rf114_7, rp114_7, al117, iA117, it117, rf114_8, rp114_8, al118, iA118, it118, rf114_9, rp114_9, al119, iA119, it119, rf114_10, rp114_10, al120, iA120, it120, rf114_16, rp114_16, al121, iA121, it121, rf114_17, rp114_17, al122, iA122, it122, rf114_18, rp114_18, al123, iA123, it123, rf114_19, rp114_19, al124, iA124, it124, rf114_20, rp114_20, al125, iA125, it125, rf114_21, rp114_21, al126, iA126, it126, rf114_22, rp114_22, al127, iA127, it127, rf114_23, rp114_23, al128, iA128, it128, rf114_27, rp114_27, al129, iA129, it129, rf114_28, rp114_28, al130, iA130, it130, rf114_29, rp114_29, al131, iA131, it131, rf114_30, rp114_30, al132, iA132, it132, rf114_31, rp114_31, al133, iA133, it133, rf114_41, rp114_41, al134, iA134, it134, rf114_42, rp114_42, al135, iA135, it135, rf114_44, rp114_44, al136, iA136, it136, rf114_45, rp114_45, al137, iA137, it137, rf114_55, rp114_55, al138, iA138, it138, rf114_56, rp114_56, al139, iA139, it139, rf114_57, rp114_57, al140, iA140, it140, rf114_58, rp114_58, al141, iA141, it141, rf114_59, rp114_59, al142, iA142, it142, rf114_60, rp114_60, al143, iA143, it143, rf114_61, rp114_61, al144, iA144, it144, rf114_62, rp114_62, al145, iA145, it145, rf114_63, rp114_63, al146, iA146, it146, rf114_64, rp114_64, al147, iA147, it147, rf114_66, rp114_66, al148, iA148, it148, rf114_67, rp114_67, al149, iA149, it149, rf114_68, rp114_68, al150, iA150, it150, rf114_69, rp114_69, al151, iA151, it151, rf114_70, rp114_70, al152, iA152, it152, al129, iA129, it129, e1, nI_add, j1, j2, lw, k2, bI_True, bI_False, nI_1, Nat.reduceLeDiff, Nat.reduceEqDiff, nb0, nb1, nbI, eq_self, ex_pr, tl_s, tl_n, if_true, if_false, not_true_eq_false, not_false_eq_true, and_self, and_false, false_and, and_true, true_and]
theorem s117 {fr m : Nat} (hm : fr + m ≤ 17) (T : TXC C L) (K : MTX f C L p) (LT : LTs f) : Cl sc (d + 4) 117 [.ref (114 : Nat), .int (nI fr), .int (nI m)] (cS f g h1 h2) r ↔ r = (cS (u2 f 114 14 (nI (p + amf C (wR fr m) (m + 1) 0 p))) g h1 h2, some (.int (bI (amf C (wR fr m) (m + 1) 0 p = m + 1)))) := by
  have k := @l117 sc d r g h1 h2 C L fr m hm T m 0 p f (Nat.zero_add _) K LT
  rw [lt0] at k
  rw [← k]
  simp only [c117, x117_0, x117_1, bI_True, bI_False, nI_1, Nat.reduceLeDiff, Nat.reduceEqDiff, nb0, nb1, nbI, eq_self, ex_pr, tl_s, tl_n, if_true, if_false, not_true_eq_false, not_false_eq_true, and_self, and_false, false_and, and_true, true_and]
theorem s118 (T : TXC C L) (K : MTX f C L p) : Cl sc (d + 2) 118 [.ref (114 : Nat)] (cS f g h1 h2) r ↔ r = (cS f g h1 h2, some (.int (bI (¬ C p < 48 ∧ ¬ (57 : Int32) < C p)))) := by
  have k := fun d r => @s114 sc d r f g h1 h2 C L p T K
  simp only [c118, x118_0, x118_1, x118_2, x118_5, x118_7, x118_9, x118_12, kp114, rf114_5, rp114_5, al115, iA115, it115, rf114_6, rp114_6, al116, iA116, it116, rf114_7, rp114_7, al117, iA117, it117, rf114_8, rp114_8, al118, iA118, it118, rf114_9, rp114_9, al119, iA119, it119, rf114_10, rp114_10, al120, iA120, it120, rf114_16, rp114_16, al121, iA121, it121, rf114_17, rp114_17, al122, iA122, it122, rf114_18, rp114_18, al123, iA123, it123, rf114_19, rp114_19, al124, iA124, it124, rf114_20, rp114_20, al125, iA125, it125, rf114_21, rp114_21, al126, iA126, it126, rf114_22, rp114_22, al127, iA127, it127, rf114_23, rp114_23, al128, iA128, it128, rf114_27, rp114_27, al129, iA129, it129, rf114_28, rp114_28, al130, iA130, it130, rf114_29, rp114_29, al131, iA131, it131, rf114_30, rp114_30, al132, iA132, it132, rf114_31, rp114_31, al133, iA133, it133, rf114_41, rp114_41, al134, iA134, it134, rf114_42, rp114_42, al135, iA135, it135, rf114_44, rp114_44, al136, iA136, it136, rf114_45, rp114_45, al137, iA137, it137, rf114_55, rp114_55, al138, iA138, it138, rf114_56, rp114_56, al139, iA139, it139, rf114_57, rp114_57, al140, iA140, it140, rf114_58, rp114_58, al141, iA141, it141, rf114_59, rp114_59, al142, iA142, it142, rf114_60, rp114_60, al143, iA143, it143, rf114_61, rp114_61, al144, iA144, it144, rf114_62, rp114_62, al145, iA145, it145, rf114_63, rp114_63, al146, iA146, it146, rf114_64, rp114_64, al147, iA147, it147, rf114_66, rp114_66, al148, iA148, it148, rf114_67, rp114_67, al149, iA149, it149, rf114_68, rp114_68, al150, iA150, it150, rf114_69, rp114_69, al151, iA151, it151, rf114_70, rp114_70, al152, iA152, it152, k, s108, bI_True, bI_False, nI_1, Nat.reduceLeDiff, Nat.reduceEqDiff, nb0, nb1, nbI, eq_self, ex_pr, tl_s, tl_n, if_true, if_false, not_true_eq_false, not_false_eq_true, and_self, and_false, false_and, and_true, true_and]
theorem s119f (T : TXC C L) (K : MTX f C L p) (h : ¬ dg C p) : Cl sc (d + 3) 119 [.ref (114 : Nat)] (cS f g h1 h2) r ↔ r = (cS f g h1 h2, some (.int 0)) := by
  have k := fun d r => @s118 sc d r f g h1 h2 C L p T K
  have h' : ¬ (¬ C p < 48 ∧ ¬ (57 : Int32) < C p) := h
  simp only [c119, x119_0, x119_1, x119_4, x119_7, x119_8, x119_9, x119_10, x119_11, x119_14, x119_15, x119_16, x119_17, x119_18, x119_21, x119_22, x119_25, x119_28, x119_29, x119_31, x119_32, x119_35, x119_36, x119_37, x119_40, x119_41, x119_43, x119_44, x119_47, x119_48, x119_49, x119_52, x119_53, x119_54, x119_57, x119_60, x119_63, x119_64, kp114, rf114_5, rp114_5, al115, iA115, it115, rf114_6, rp114_6, al116, iA116, it116, rf114_7, rp114_7, al117, iA117, it117, rf114_8, rp114_8, al118, iA118, it118, rf114_9, rp114_9, al119, iA119, it119, rf114_10, rp114_10, al120, iA120, it120, rf114_16, rp114_16, al121, iA121, it121, rf114_17, rp114_17, al122, iA122, it122, rf114_18, rp114_18, al123, iA123, it123, rf114_19, rp114_19, al124, iA124, it124, rf114_20, rp114_20, al125, iA125, it125, rf114_21, rp114_21, al126, iA126, it126, rf114_22, rp114_22, al127, iA127, it127, rf114_23, rp114_23, al128, iA128, it128, rf114_27, rp114_27, al129, iA129, it129, rf114_28, rp114_28, al130, iA130, it130, rf114_29, rp114_29, al131, iA131, it131, rf114_30, rp114_30, al132, iA132, it132, rf114_31, rp114_31, al133, iA133, it133, rf114_41, rp114_41, al134, iA134, it134, rf114_42, rp114_42, al135, iA135, it135, rf114_44, rp114_44, al136, iA136, it136, rf114_45, rp114_45, al137, iA137, it137, rf114_55, rp114_55, al138, iA138, it138, rf114_56, rp114_56, al139, iA139, it139, rf114_57, rp114_57, al140, iA140, it140, rf114_58, rp114_58, al141, iA141, it141, rf114_59, rp114_59, al142, iA142, it142, rf114_60, rp114_60, al143, iA143, it143, rf114_61, rp114_61, al144, iA144, it144, rf114_62, rp114_62, al145, iA145, it145, rf114_63, rp114_63, al146, iA146, it146, rf114_64, rp114_64, al147, iA147, it147, rf114_66, rp114_66, al148, iA148, it148, rf114_67, rp114_67, al149, iA149, it149, rf114_68, rp114_68, al150, iA150, it150, rf114_69, rp114_69, al151, iA151, it151, rf114_70, rp114_70, al152, iA152, it152, k, bI_f h', bI_True, bI_False, nI_1, Nat.reduceLeDiff, Nat.reduceEqDiff, nb0, nb1, nbI, eq_self, ex_pr, tl_s, tl_n, if_true, if_false, not_true_eq_false, not_false_eq_true, and_self, and_false, false_and, and_true, true_and]
theorem MTX.fr {f f' : Nat → Nat → Int32} {C : Nat → Int32} {L p p' : Nat} (K : MTX f C L p) (a : f' 121 = f 121) (b : f' 114 13 = f 114 13) (c : f' 114 14 = nI p') (h : p' ≤ L) : MTX f' C L p' := ⟨fun i hi => by rw [a]; exact K.1 i hi, by rw [b]; exact K.2.1, c, h⟩
theorem s119 {v p' : Nat} (T : TXC C L) (K : MTX f C L p) (h : NMV C p v p') : ∃ f', (∀ q k, ¬ (q = 114 ∧ (k = 14 ∨ k = 15)) → f' q k = f q k) ∧ f' 114 15 = nI v ∧ f' 114 14 = nI p' ∧ ∀ d r, Cl sc (d + 3) 119 [.ref (114 : Nat)] (cS f g h1 h2) r ↔ r = (cS f' g h1 h2, some (.int 1)) := by
  have tl := T.1
  have e0 : (0 : Int32) < 2 := by decide
  have e1 : (1 : Int32) < 2 := by decide
  have e2 : ¬ (2 : Int32) < 2 := by decide
  have q1 : (0 : Int32) + 1 = 1 := by decide
  have q2 : (1 : Int32) + 1 = 2 := by decide
  have z1 : nI p + 1 = nI (p + 1) := by rw [← lt1, nI_add]
  obtain ⟨a, ha, ea, h⟩ := h
  have da := dg_of ha ea
  have pl := T.lt ea (by omega)
  have n1 := (num1 a (by omega)).2
  have ka := K.2.2.1
  have kp := K.2.2.2
  obtain ⟨f0, ef0⟩ : ∃ f0, f0 = u2 f 114 15 0 := ⟨_, rfl⟩
  obtain ⟨f1, ef1⟩ : ∃ f1, f1 = u2 (u2 f0 114 15 (nI a)) 114 14 (nI (p + 1)) := ⟨_, rfl⟩
  have K0 : MTX f0 C L p := K.fr (by rw [ef0]; exact u2_n (by omega)) (by rw [ef0]; exact u2_nn (by omega)) (by rw [ef0, u2_nn (by omega)]; exact ka) kp
  have K1 : MTX f1 C L (p + 1) := K0.fr (by rw [ef1, u2_n (by omega), u2_n (by omega)]) (by rw [ef1, u2_nn (by omega), u2_nn (by omega)]) (by rw [ef1, u2_ss]) (by omega)
  have k118 := fun d r => @s118 sc d r f g h1 h2 C L p T K
  have k118a := fun d r => @s118 sc d r f0 g h1 h2 C L p T K0
  have k118b := fun d r => @s118 sc d r f1 g h1 h2 C L (p + 1) T K1
  have k114a := fun d r => @s114 sc d r f0 g h1 h2 C L p T K0
  have k114b := fun d r => @s114 sc d r f1 g h1 h2 C L (p + 1) T K1
  have da' : ¬ nI (48 + a) < 48 ∧ ¬ (57 : Int32) < nI (48 + a) := by
    rw [← ea]
    exact da
  rw [ea] at k118 k118a k114a
  have s0 : cS (u2 f 114 15 0) g h1 h2 = cS f0 g h1 h2 := by rw [ef0]
  have s1 : cS (u2 (u2 f0 114 15 (nI a)) 114 14 (nI (p + 1))) g h1 h2 = cS f1 g h1 h2 := by rw [ef1]
  have f015 : f0 114 15 = 0 := by rw [ef0, u2_ss]
  have f014 : f0 114 14 = nI p := K0.2.2.1
  have f115 : f1 114 15 = nI a := by rw [ef1, u2_nn (by omega), u2_ss]
  have f114 : f1 114 14 = nI (p + 1) := K1.2.2.1
  rcases h with ⟨h, rfl, rfl⟩ | ⟨b, hb, eb, rfl, rfl⟩
  · refine ⟨f1, fun q k hq => ?_, f115, f114, fun d r => ?_⟩
    · rw [ef1, u2_nn (by omega), u2_nn (by omega), ef0, u2_nn (by omega)]
    · have h' : ¬ (¬ C (p + 1) < 48 ∧ ¬ (57 : Int32) < C (p + 1)) := h
      simp only [c119, x119_0, x119_1, x119_4, x119_7, x119_8, x119_9, x119_10, x119_11, x119_14, x119_15, x119_16, x119_17, x119_18, x119_21, x119_22, x119_25, x119_28, x119_29, x119_31, x119_32, x119_35, x119_36, x119_37, x119_40, x119_41, x119_43, x119_44, x119_47, x119_48, x119_49, x119_52, x119_53, x119_54, x119_57, x119_60, x119_63, x119_64, kp114, rf114_5, rp114_5, al115, iA115, it115, rf114_6, rp114_6, al116, iA116, it116, rf114_7, rp114_7, al117, iA117, it117, rf114_8, rp114_8, al118, iA118, it118, rf114_9, rp114_9, al119, iA119, it119, rf114_10, rp114_10, al120, iA120, it120, rf114_16, rp114_16, al121, iA121, it121, rf114_17, rp114_17, al122, iA122, it122, rf114_18, rp114_18, al123, iA123, it123, rf114_19, rp114_19, al124, iA124, it124, rf114_20, rp114_20, al125, iA125, it125, rf114_21, rp114_21, al126, iA126, it126, rf114_22, rp114_22, al127, iA127, it127, rf114_23, rp114_23, al128, iA128, it128, rf114_27, rp114_27, al129, iA129, it129, rf114_28, rp114_28, al130, iA130, it130, rf114_29, rp114_29, al131, iA131, it131, rf114_30, rp114_30, al132, iA132, it132, rf114_31, rp114_31, al133, iA133, it133, rf114_41, rp114_41, al134, iA134, it134, rf114_42, rp114_42, al135, iA135, it135, rf114_44, rp114_44, al136, iA136, it136, rf114_45, rp114_45, al137, iA137, it137, rf114_55, rp114_55, al138, iA138, it138, rf114_56, rp114_56, al139, iA139, it139, rf114_57, rp114_57, al140, iA140, it140, rf114_58, rp114_58, al141, iA141, it141, rf114_59, rp114_59, al142, iA142, it142, rf114_60, rp114_60, al143, iA143, it143, rf114_61, rp114_61, al144, iA144, it144, rf114_62, rp114_62, al145, iA145, it145, rf114_63, rp114_63, al146, iA146, it146, rf114_64, rp114_64, al147, iA147, it147, rf114_66, rp114_66, al148, iA148, it148, rf114_67, rp114_67, al149, iA149, it149, rf114_68, rp114_68, al150, iA150, it150, rf114_69, rp114_69, al151, iA151, it151, rf114_70, rp114_70, al152, iA152, it152, k118, bI_t da', zi1, s0, e0, k118a, f015, k114a, n1, u2_at, f014, z1, s1, q1, e1, k118b, bI_f h', bI_True, bI_False, nI_1, Nat.reduceLeDiff, Nat.reduceEqDiff, nb0, nb1, nbI, eq_self, ex_pr, tl_s, tl_n, if_true, if_false, not_true_eq_false, not_false_eq_true, and_self, and_false, false_and, and_true, true_and]
  · have db := dg_of hb eb
    have n2 := (num2 a (by omega) b (by omega)).2
    have z2 : nI (p + 1) + 1 = nI (p + 2) := by rw [← lt1, nI_add]
    refine ⟨u2 (u2 f1 114 15 (nI (10 * a + b))) 114 14 (nI (p + 2)), fun q k hq => ?_, ?_, u2_ss, fun d r => ?_⟩
    · rw [u2_nn (by omega), u2_nn (by omega), ef1, u2_nn (by omega), u2_nn (by omega), ef0, u2_nn (by omega)]
    · rw [u2_nn (by omega), u2_ss]
    · have db' : ¬ nI (48 + b) < 48 ∧ ¬ (57 : Int32) < nI (48 + b) := by
        rw [← eb]
        exact db
      rw [eb] at k118b k114b
      simp only [c119, x119_0, x119_1, x119_4, x119_7, x119_8, x119_9, x119_10, x119_11, x119_14, x119_15, x119_16, x119_17, x119_18, x119_21, x119_22, x119_25, x119_28, x119_29, x119_31, x119_32, x119_35, x119_36, x119_37, x119_40, x119_41, x119_43, x119_44, x119_47, x119_48, x119_49, x119_52, x119_53, x119_54, x119_57, x119_60, x119_63, x119_64, kp114, rf114_5, rp114_5, al115, iA115, it115, rf114_6, rp114_6, al116, iA116, it116, rf114_7, rp114_7, al117, iA117, it117, rf114_8, rp114_8, al118, iA118, it118, rf114_9, rp114_9, al119, iA119, it119, rf114_10, rp114_10, al120, iA120, it120, rf114_16, rp114_16, al121, iA121, it121, rf114_17, rp114_17, al122, iA122, it122, rf114_18, rp114_18, al123, iA123, it123, rf114_19, rp114_19, al124, iA124, it124, rf114_20, rp114_20, al125, iA125, it125, rf114_21, rp114_21, al126, iA126, it126, rf114_22, rp114_22, al127, iA127, it127, rf114_23, rp114_23, al128, iA128, it128, rf114_27, rp114_27, al129, iA129, it129, rf114_28, rp114_28, al130, iA130, it130, rf114_29, rp114_29, al131, iA131, it131, rf114_30, rp114_30, al132, iA132, it132, rf114_31, rp114_31, al133, iA133, it133, rf114_41, rp114_41, al134, iA134, it134, rf114_42, rp114_42, al135, iA135, it135, rf114_44, rp114_44, al136, iA136, it136, rf114_45, rp114_45, al137, iA137, it137, rf114_55, rp114_55, al138, iA138, it138, rf114_56, rp114_56, al139, iA139, it139, rf114_57, rp114_57, al140, iA140, it140, rf114_58, rp114_58, al141, iA141, it141, rf114_59, rp114_59, al142, iA142, it142, rf114_60, rp114_60, al143, iA143, it143, rf114_61, rp114_61, al144, iA144, it144, rf114_62, rp114_62, al145, iA145, it145, rf114_63, rp114_63, al146, iA146, it146, rf114_64, rp114_64, al147, iA147, it147, rf114_66, rp114_66, al148, iA148, it148, rf114_67, rp114_67, al149, iA149, it149, rf114_68, rp114_68, al150, iA150, it150, rf114_69, rp114_69, al151, iA151, it151, rf114_70, rp114_70, al152, iA152, it152, k118, bI_t da', zi1, s0, e0, k118a, f015, k114a, n1, u2_at, f014, z1, s1, q1, e1, k118b, bI_t db', f115, k114b, n2, f114, z2, q2, e2, bI_True, bI_False, nI_1, Nat.reduceLeDiff, Nat.reduceEqDiff, nb0, nb1, nbI, eq_self, ex_pr, tl_s, tl_n, if_true, if_false, not_true_eq_false, not_false_eq_true, and_self, and_false, false_and, and_true, true_and]
/-- what the class writes -/
theorem hlA : ∀ t, t < 6 → isA (78 + 4 * t + 3)
  | 0, _ => rfl
  | 1, _ => rfl
  | 2, _ => rfl
  | 3, _ => rfl
  | 4, _ => rfl
  | 5, _ => rfl
  | t + 6, h => absurd h (by omega)
theorem s25 {t z : Nat} {v : Int32} (ht : t < 6) (hz : z < 100) (e6 : f (78 + 4 * t) 6 = nI z) : Cl sc (d + 1) 25 [.ref (78 + 4 * t), .int v] (cS f g h1 h2) r ↔ r = (cS (u2 (u2 f (78 + 4 * t + 3) z v) (78 + 4 * t) 6 (nI (z + 1))) g h1 h2, none) := by
  have HL := hlf t ht
  have A := hlA t ht
  have n0 : ¬ 78 + 4 * t + 3 = 0 := by omega
  have e1 : nI z < nI 100 := nI_lt hz (by decide)
  have j1 : inb (nI z) 100 = true := inb_nI hz (by decide)
  have j2 : (nI z).toNatClampNeg = z := cl_nI (by omega)
  have z1 : nI z + 1 = nI (z + 1) := by rw [← lt1, nI_add]
  have ne : (78 + 4 * t = 78 + 4 * t + 3) = False := eq_false (by omega)
  simp only [c25, x25_0, x25_1, x25_4, x25_5, x25_8, x25_9, x25_12, x25_13, x25_16, x25_17, x25_20, x25_21, x25_22, x25_23, x25_24, x25_27, x25_28, x25_29, x25_32, HL.k, HL.r5, HL.q5, HL.g, HL.g3, HL.i3, HL.l3, A, n0, e6, e1, j1, j2, u2_at, ne, z1, bI_True, bI_False, nI_1, Nat.reduceLeDiff, Nat.reduceEqDiff, nb0, nb1, nbI, eq_self, ex_pr, tl_s, tl_n, if_true, if_false, not_true_eq_false, not_false_eq_true, and_self, and_false, false_and, and_true, true_and]
theorem s26 {t z l rr n : Nat} (ht : t < 6) (hz : z < 100) (e6 : f (78 + 4 * t) 6 = nI z) (hl : l < 6) (hr : rr < 3) (hn : n < 100) : Cl sc (d + 2) 26 [.ref (78 + 4 * t), .int (nI l), .int (nI rr), .int (nI n)] (cS f g h1 h2) r ↔ r = (cS (u2 (u2 f (78 + 4 * t + 3) z (ckT (1000 * l + 100 * rr + n))) (78 + 4 * t) 6 (nI (z + 1))) g h1 h2, none) := by
  have HL := hlf t ht
  have k := fun d r v => @s25 sc d r f g h1 h2 t z v ht hz e6
  have e : ckT (1000 * l + 100 * rr + n) = nI ((l * 3 + rr) * 100 + n) := by
    unfold ckT
    rw [if_neg (by omega), if_neg (by omega), if_neg (by omega)]
    congr 1
    omega
  have a1 : nI l * 3 = nI (l * 3) := nI_mul' l 3
  have a2 : nI (l * 3 + rr) * 100 = nI ((l * 3 + rr) * 100) := nI_mul' _ 100
  rw [e]
  simp only [c26, x26_0, x26_1, x26_2, x26_3, x26_4, x26_5, x26_6, x26_8, x26_9, x26_10, x26_11, x26_14, HL.k, a1, nI_add, a2, k, bI_True, bI_False, nI_1, Nat.reduceLeDiff, Nat.reduceEqDiff, nb0, nb1, nbI, eq_self, ex_pr, tl_s, tl_n, if_true, if_false, not_true_eq_false, not_false_eq_true, and_self, and_false, false_and, and_true, true_and]
theorem s27 {t z i : Nat} {v : Int32} (ht : t < 6) (hi : i < 10) (e2 : f (78 + 4 * t) 2 = nI i) (e6 : f (78 + 4 * t) 6 = nI z) : Cl sc (d + 1) 27 [.ref (78 + 4 * t), .int v] (cS f g h1 h2) r ↔ r = (cS (u2 (u2 (u2 f (78 + 4 * t + 1) i v) (78 + 4 * t + 2) i (nI z)) (78 + 4 * t) 2 (nI (i + 1))) g h1 h2, none) := by
  have HL := hlf t ht
  have e1 : nI i < 10 := nI_lt (show i < 10 from hi) (by decide)
  have j1 : inb (nI i) 10 = true := inb_nI hi (by decide)
  have j2 : (nI i).toNatClampNeg = i := cl_nI (by omega)
  have z1 : nI i + 1 = nI (i + 1) := by rw [← lt1, nI_add]
  have n1 : (78 + 4 * t = 78 + 4 * t + 1) = False := eq_false (by omega)
  have n2 : (78 + 4 * t = 78 + 4 * t + 2) = False := eq_false (by omega)
  simp only [c27, x27_0, x27_1, x27_4, x27_6, x27_9, x27_10, x27_13, x27_14, x27_17, x27_18, x27_19, x27_20, x27_23, x27_24, x27_27, x27_28, x27_31, x27_32, x27_33, x27_34, x27_37, x27_38, x27_39, x27_42, HL.k, HL.r3, HL.q3, HL.r4, HL.q4, HL.g, HL.g1, HL.g2, HL.i1, HL.i2, HL.l1, HL.l2, e2, e6, e1, j1, j2, u2_at, n1, n2, z1, bI_True, bI_False, nI_1, Nat.reduceLeDiff, Nat.reduceEqDiff, nb0, nb1, nbI, eq_self, ex_pr, tl_s, tl_n, if_true, if_false, not_true_eq_false, not_false_eq_true, and_self, and_false, false_and, and_true, true_and]
theorem s24 {t : Nat} (ht : t < 6) : Cl sc (d + 1) 24 [.ref (78 + 4 * t)] (cS f g h1 h2) r ↔ r = (cS (u2 (u2 (u2 (u2 f (78 + 4 * t) 0 1) (78 + 4 * t) 1 990) (78 + 4 * t) 2 0) (78 + 4 * t) 6 0) g h1 h2, none) := by
  have HL := hlf t ht
  simp only [c24, x24_0, x24_1, x24_2, x24_5, x24_6, x24_9, x24_12, x24_13, x24_14, x24_17, x24_18, x24_19, x24_22, HL.k, HL.g, bI_True, bI_False, nI_1, Nat.reduceLeDiff, Nat.reduceEqDiff, nb0, nb1, nbI, eq_self, ex_pr, tl_s, tl_n, if_true, if_false, not_true_eq_false, not_false_eq_true, and_self, and_false, false_and, and_true, true_and]
end HN
