/-! what the tapes' methods answer -/
theorem nI_mul (a b : Nat) : nI a * nI b = nI (a * b) := (Int32.ofNat_mul a b).symm
theorem m60 (t : Nat) : (60 : Int32) * nI t = nI (60 * t) := nI_mul 60 t
theorem bI_t {c : Prop} [Decidable c] (h : c) : bI c = 1 := if_pos h
theorem bI_f {c : Prop} [Decidable c] (h : ¬ c) : bI c = 0 := if_neg h
theorem bI0 {c : Prop} [Decidable c] : (bI c = 0) = ¬ c := by
  unfold bI
  by_cases h : c <;> simp [h]
theorem rng {x y : Int32} {m : Nat} (hy : y.toInt = m) : (¬ x < 0 ∧ ¬ y < x) ↔ ∃ t : Nat, t ≤ m ∧ x = nI t := by
  constructor
  · rintro ⟨a, b⟩
    exact nI_of2 hy a (Int32.not_lt.mp b)
  · rintro ⟨t, ht, rfl⟩
    have hm : m < 2 ^ 31 := by
      have := Int32.toInt_lt y
      omega
    have e : y = nI m := Int32.toInt_inj.mp (by rw [hy, nI_toInt hm])
    rw [e]
    exact ⟨nI_pos (by omega), nI_nlt ht hm⟩
section TO
variable {sc : aSc} {d : Nat} {r : aRes} {f : Nat → Nat → Int32} {g : Nat → Nat → Int64} {h1 h2 : Nat} {σ : aS}
theorem s108 {x y z : Int32} : Cl sc (d + 1) 108 [.ref (114 : Nat), .int x, .int y, .int z] σ r ↔ r = (σ, some (.int (bI (¬ x < y ∧ ¬ z < x)))) := by
  simp only [c108, x108_0, x108_1, x108_2, x108_5, x108_6, x108_7, x108_10, x108_11, x108_14, x108_15, nI_1, Nat.reduceLeDiff, Nat.reduceEqDiff, nb0, nb1, nbI, eq_self, ex_pr, tl_s, tl_n, if_true, if_false, not_true_eq_false, not_false_eq_true, and_self, and_false, false_and, and_true, true_and]
  unfold bI
  by_cases a : x < y <;> by_cases b : z < x <;> simp only [c108, x108_0, x108_1, x108_2, x108_5, x108_6, x108_7, x108_10, x108_11, x108_14, x108_15, a, b, nI_1, Nat.reduceLeDiff, Nat.reduceEqDiff, nb0, nb1, nbI, eq_self, ex_pr, tl_s, tl_n, if_true, if_false, not_true_eq_false, not_false_eq_true, and_self, and_false, false_and, and_true, true_and]
theorem s189 {x : Int32} : Cl sc (d + 2) 189 [.ref (114 : Nat), .int x] (cS f g h1 h2) r ↔ r = (cS f g h1 h2, some (.int (bI (¬ x < 0 ∧ ¬ 5 < x)))) := by
  simp only [c189, x189_0, x189_1, x189_2, x189_3, x189_4, x189_7, s108, kp114, nI_1, Nat.reduceLeDiff, Nat.reduceEqDiff, nb0, nb1, nbI, eq_self, ex_pr, tl_s, tl_n, if_true, if_false, not_true_eq_false, not_false_eq_true, and_self, and_false, false_and, and_true, true_and]
def cutv (s : Int32) (z : Int64) : Int64 := if s = 0 then z.toInt32.toInt8.toInt32.toInt64 else if s = 1 then z.toInt32.toInt16.toInt32.toInt64 else if s = 2 then z.toInt32.toInt64 else if s = 4 then (if lg_cmp z 0 = 0 then 0 else 1) else z
theorem s53 {o : Nat} (H : TPF o) {z : Int64} : Cl sc (d + 1) 53 [.ref o, .long z] (cS f g h1 h2) r ↔ r = (cS f g h1 h2, some (.long (cutv (f o 0) z))) := by
  simp only [c53, x53_0, x53_1, x53_4, x53_40, x53_41, x53_42, x53_43, x53_44, x53_45, x53_46, x53_47, x53_48, x53_49, x53_50, x53_51, x53_52, x53_53, x53_54, x53_55, x53_56, x53_57, x53_60, x53_61, x53_64, x53_65, x53_66, x53_67, H.k, H.g, nI_1, Nat.reduceLeDiff, Nat.reduceEqDiff, nb0, nb1, nbI, eq_self, ex_pr, tl_s, tl_n, if_true, if_false, not_true_eq_false, not_false_eq_true, and_self, and_false, false_and, and_true, true_and]
  unfold cutv
  by_cases a : f o 0 = 0
  · simp only [c53, x53_0, x53_1, x53_4, x53_40, x53_41, x53_42, x53_43, x53_44, x53_45, x53_46, x53_47, x53_48, x53_49, x53_50, x53_51, x53_52, x53_53, x53_54, x53_55, x53_56, x53_57, x53_60, x53_61, x53_64, x53_65, x53_66, x53_67, a, nI_1, Nat.reduceLeDiff, Nat.reduceEqDiff, nb0, nb1, nbI, eq_self, ex_pr, tl_s, tl_n, if_true, if_false, not_true_eq_false, not_false_eq_true, and_self, and_false, false_and, and_true, true_and]
  by_cases b : f o 0 = 1
  · simp only [c53, x53_0, x53_1, x53_4, x53_40, x53_41, x53_42, x53_43, x53_44, x53_45, x53_46, x53_47, x53_48, x53_49, x53_50, x53_51, x53_52, x53_53, x53_54, x53_55, x53_56, x53_57, x53_60, x53_61, x53_64, x53_65, x53_66, x53_67, a, b, show ¬ ((1 : Int32) = 0) by decide, nI_1, Nat.reduceLeDiff, Nat.reduceEqDiff, nb0, nb1, nbI, eq_self, ex_pr, tl_s, tl_n, if_true, if_false, not_true_eq_false, not_false_eq_true, and_self, and_false, false_and, and_true, true_and]
  by_cases c : f o 0 = 2
  · simp only [c53, x53_0, x53_1, x53_4, x53_40, x53_41, x53_42, x53_43, x53_44, x53_45, x53_46, x53_47, x53_48, x53_49, x53_50, x53_51, x53_52, x53_53, x53_54, x53_55, x53_56, x53_57, x53_60, x53_61, x53_64, x53_65, x53_66, x53_67, a, b, c, show ¬ ((2 : Int32) = 0) by decide, show ¬ ((2 : Int32) = 1) by decide, nI_1, Nat.reduceLeDiff, Nat.reduceEqDiff, nb0, nb1, nbI, eq_self, ex_pr, tl_s, tl_n, if_true, if_false, not_true_eq_false, not_false_eq_true, and_self, and_false, false_and, and_true, true_and]
  by_cases e : f o 0 = 4
  · by_cases q : lg_cmp z 0 = 0 <;> simp only [c53, x53_0, x53_1, x53_4, x53_40, x53_41, x53_42, x53_43, x53_44, x53_45, x53_46, x53_47, x53_48, x53_49, x53_50, x53_51, x53_52, x53_53, x53_54, x53_55, x53_56, x53_57, x53_60, x53_61, x53_64, x53_65, x53_66, x53_67, q, e, show ¬ ((4 : Int32) = 0) by decide, show ¬ ((4 : Int32) = 1) by decide, show ¬ ((4 : Int32) = 2) by decide, show ¬ ((4 : Int32) = 3) by decide, nI_1, Nat.reduceLeDiff, Nat.reduceEqDiff, nb0, nb1, nbI, eq_self, ex_pr, tl_s, tl_n, if_true, if_false, not_true_eq_false, not_false_eq_true, and_self, and_false, false_and, and_true, true_and]
  · by_cases q : f o 0 = 3 <;> simp only [c53, x53_0, x53_1, x53_4, x53_40, x53_41, x53_42, x53_43, x53_44, x53_45, x53_46, x53_47, x53_48, x53_49, x53_50, x53_51, x53_52, x53_53, x53_54, x53_55, x53_56, x53_57, x53_60, x53_61, x53_64, x53_65, x53_66, x53_67, a, b, c, q, e, nI_1, Nat.reduceLeDiff, Nat.reduceEqDiff, nb0, nb1, nbI, eq_self, ex_pr, tl_s, tl_n, if_true, if_false, not_true_eq_false, not_false_eq_true, and_self, and_false, false_and, and_true, true_and]
    simp only [show ¬ ((3 : Int32) = 0) by decide, show ¬ ((3 : Int32) = 1) by decide, show ¬ ((3 : Int32) = 2) by decide, show ¬ ((3 : Int32) = 4) by decide, nI_1, Nat.reduceLeDiff, Nat.reduceEqDiff, nb0, nb1, nbI, eq_self, ex_pr, tl_s, tl_n, if_true, if_false, not_true_eq_false, not_false_eq_true, and_self, and_false, false_and, and_true, true_and]
theorem s191 {s : Int32} {z : Int64} : Cl sc (d + 1) 191 [.ref (114 : Nat), .int s, .long z] σ r ↔ r = (σ, some (.long (cutv s z))) := by
  simp only [c191, x191_0, x191_1, x191_4, x191_5, x191_6, x191_7, x191_8, x191_11, x191_12, x191_13, x191_16, x191_17, x191_18, x191_19, x191_20, x191_23, x191_24, x191_25, x191_28, x191_29, x191_30, x191_31, x191_34, x191_35, x191_36, x191_39, x191_40, x191_41, x191_42, x191_45, x191_46, x191_49, x191_50, x191_53, x191_54, nI_1, Nat.reduceLeDiff, Nat.reduceEqDiff, nb0, nb1, nbI, eq_self, ex_pr, tl_s, tl_n, if_true, if_false, not_true_eq_false, not_false_eq_true, and_self, and_false, false_and, and_true, true_and]
  unfold cutv
  by_cases a : s = 0
  · simp only [c191, x191_0, x191_1, x191_4, x191_5, x191_6, x191_7, x191_8, x191_11, x191_12, x191_13, x191_16, x191_17, x191_18, x191_19, x191_20, x191_23, x191_24, x191_25, x191_28, x191_29, x191_30, x191_31, x191_34, x191_35, x191_36, x191_39, x191_40, x191_41, x191_42, x191_45, x191_46, x191_49, x191_50, x191_53, x191_54, a, nI_1, Nat.reduceLeDiff, Nat.reduceEqDiff, nb0, nb1, nbI, eq_self, ex_pr, tl_s, tl_n, if_true, if_false, not_true_eq_false, not_false_eq_true, and_self, and_false, false_and, and_true, true_and]
  by_cases b : s = 1
  · simp only [c191, x191_0, x191_1, x191_4, x191_5, x191_6, x191_7, x191_8, x191_11, x191_12, x191_13, x191_16, x191_17, x191_18, x191_19, x191_20, x191_23, x191_24, x191_25, x191_28, x191_29, x191_30, x191_31, x191_34, x191_35, x191_36, x191_39, x191_40, x191_41, x191_42, x191_45, x191_46, x191_49, x191_50, x191_53, x191_54, a, b, show ¬ ((1 : Int32) = 0) by decide, nI_1, Nat.reduceLeDiff, Nat.reduceEqDiff, nb0, nb1, nbI, eq_self, ex_pr, tl_s, tl_n, if_true, if_false, not_true_eq_false, not_false_eq_true, and_self, and_false, false_and, and_true, true_and]
  by_cases c : s = 2
  · simp only [c191, x191_0, x191_1, x191_4, x191_5, x191_6, x191_7, x191_8, x191_11, x191_12, x191_13, x191_16, x191_17, x191_18, x191_19, x191_20, x191_23, x191_24, x191_25, x191_28, x191_29, x191_30, x191_31, x191_34, x191_35, x191_36, x191_39, x191_40, x191_41, x191_42, x191_45, x191_46, x191_49, x191_50, x191_53, x191_54, a, b, c, show ¬ ((2 : Int32) = 0) by decide, show ¬ ((2 : Int32) = 1) by decide, nI_1, Nat.reduceLeDiff, Nat.reduceEqDiff, nb0, nb1, nbI, eq_self, ex_pr, tl_s, tl_n, if_true, if_false, not_true_eq_false, not_false_eq_true, and_self, and_false, false_and, and_true, true_and]
  by_cases e : s = 4
  · by_cases q : lg_cmp z 0 = 0 <;> simp only [c191, x191_0, x191_1, x191_4, x191_5, x191_6, x191_7, x191_8, x191_11, x191_12, x191_13, x191_16, x191_17, x191_18, x191_19, x191_20, x191_23, x191_24, x191_25, x191_28, x191_29, x191_30, x191_31, x191_34, x191_35, x191_36, x191_39, x191_40, x191_41, x191_42, x191_45, x191_46, x191_49, x191_50, x191_53, x191_54, q, e, show ¬ ((4 : Int32) = 0) by decide, show ¬ ((4 : Int32) = 1) by decide, show ¬ ((4 : Int32) = 2) by decide, nI_1, Nat.reduceLeDiff, Nat.reduceEqDiff, nb0, nb1, nbI, eq_self, ex_pr, tl_s, tl_n, if_true, if_false, not_true_eq_false, not_false_eq_true, and_self, and_false, false_and, and_true, true_and]
  · simp only [c191, x191_0, x191_1, x191_4, x191_5, x191_6, x191_7, x191_8, x191_11, x191_12, x191_13, x191_16, x191_17, x191_18, x191_19, x191_20, x191_23, x191_24, x191_25, x191_28, x191_29, x191_30, x191_31, x191_34, x191_35, x191_36, x191_39, x191_40, x191_41, x191_42, x191_45, x191_46, x191_49, x191_50, x191_53, x191_54, a, b, c, e, nI_1, Nat.reduceLeDiff, Nat.reduceEqDiff, nb0, nb1, nbI, eq_self, ex_pr, tl_s, tl_n, if_true, if_false, not_true_eq_false, not_false_eq_true, and_self, and_false, false_and, and_true, true_and]
theorem l190 {t : Nat} (ht : t < 6) {v2 v3 : Int32} : ∀ (n k : Nat), k + n = 60 → (Rn sc d 190 69 [.ref (114 : Nat), .int (nI t), .int v2, .int v3, .int (nI k)] [] (cS f (fl2 g 151 (60 * t) k 0) h1 h2) r ↔ r = (cS f (fl2 g 151 (60 * t) 60 0) h1 h2, some (.int 1)))
  | 0, k, h => by
    have e : k = 60 := by omega
    subst e
    have e1 : ¬ nI 60 < 60 := by decide
    simp only [c190, x190_0, x190_1, x190_2, x190_5, x190_8, x190_9, x190_10, x190_11, x190_12, x190_13, x190_14, x190_17, x190_20, x190_21, x190_24, x190_25, x190_27, x190_30, x190_32, x190_33, x190_34, x190_37, x190_38, x190_41, x190_43, x190_44, x190_45, x190_48, x190_49, x190_50, x190_51, x190_52, x190_55, x190_56, x190_57, x190_60, x190_61, x190_64, x190_65, x190_66, x190_67, x190_69, x190_71, x190_73, x190_76, x190_77, x190_80, x190_82, x190_83, x190_84, x190_86, x190_87, x190_88, x190_89, x190_92, x190_95, x190_96, e1, nI_1, Nat.reduceLeDiff, Nat.reduceEqDiff, nb0, nb1, nbI, eq_self, ex_pr, tl_s, tl_n, if_true, if_false, not_true_eq_false, not_false_eq_true, and_self, and_false, false_and, and_true, true_and]
  | n + 1, k, h => by
    have e1 : nI k < 60 := nI_lt (show k < 60 by omega) (by decide)
    have e2 : inb (nI (60 * t + k)) 360 = true := inb_nI (by omega) (by decide)
    have e3 : (nI (60 * t + k)).toNatClampNeg = 60 * t + k := cl_nI (by omega)
    have e4 := @fl2_1 Int64 g 151 (60 * t) k 0
    simp only [c190, x190_0, x190_1, x190_2, x190_5, x190_8, x190_9, x190_10, x190_11, x190_12, x190_13, x190_14, x190_17, x190_20, x190_21, x190_24, x190_25, x190_27, x190_30, x190_32, x190_33, x190_34, x190_37, x190_38, x190_41, x190_43, x190_44, x190_45, x190_48, x190_49, x190_50, x190_51, x190_52, x190_55, x190_56, x190_57, x190_60, x190_61, x190_64, x190_65, x190_66, x190_67, x190_71, x190_73, x190_76, x190_77, x190_80, x190_82, x190_83, x190_84, x190_86, x190_87, x190_88, x190_89, x190_92, x190_95, x190_96, x190_69 (x4 := nI k), kp114, rf114_5, rp114_5, al115, iA115, it115, rf114_6, rp114_6, al116, iA116, it116, rf114_7, rp114_7, al117, iA117, it117, rf114_8, rp114_8, al118, iA118, it118, rf114_9, rp114_9, al119, iA119, it119, rf114_10, rp114_10, al120, iA120, it120, rf114_16, rp114_16, al121, iA121, it121, rf114_17, rp114_17, al122, iA122, it122, rf114_18, rp114_18, al123, iA123, it123, rf114_19, rp114_19, al124, iA124, it124, rf114_20, rp114_20, al125, iA125, it125, rf114_21, rp114_21, al126, iA126, it126, rf114_22, rp114_22, al127, iA127, it127, rf114_23, rp114_23, al128, iA128, it128, rf114_27, rp114_27, al129, iA129, it129, rf114_28, rp114_28, al130, iA130, it130, rf114_29, rp114_29, al131, iA131, it131, rf114_30, rp114_30, al132, iA132, it132, rf114_31, rp114_31, al133, iA133, it133, rf114_41, rp114_41, al134, iA134, it134, rf114_42, rp114_42, al135, iA135, it135, rf114_44, rp114_44, al136, iA136, it136, rf114_45, rp114_45, al137, iA137, it137, rf114_55, rp114_55, al138, iA138, it138, rf114_56, rp114_56, al139, iA139, it139, rf114_57, rp114_57, al140, iA140, it140, rf114_58, rp114_58, al141, iA141, it141, rf114_59, rp114_59, al142, iA142, it142, rf114_60, rp114_60, al143, iA143, it143, rf114_61, rp114_61, al144, iA144, it144, rf114_62, rp114_62, al145, iA145, it145, rf114_63, rp114_63, al146, iA146, it146, rf114_64, rp114_64, al147, iA147, it147, rf114_66, rp114_66, al148, iA148, it148, rf114_67, rp114_67, al149, iA149, it149, rf114_68, rp114_68, al150, iA150, it150, rf114_69, rp114_69, al151, iA151, it151, rf114_70, rp114_70, al152, iA152, it152, e1, e2, e3, m60, nI_add, nI_1, Nat.reduceLeDiff, Nat.reduceEqDiff, nb0, nb1, nbI, eq_self, ex_pr, tl_s, tl_n, if_true, if_false, not_true_eq_false, not_false_eq_true, and_self, and_false, false_and, and_true, true_and]
    rw [e4]
    exact l190 ht n (k + 1) (by omega)
end TO
