/-! shift -/
/-- a row's places from a on, n of them, put to what G says -/
def fl3 {α : Type} (g : Nat → Nat → α) (o a n : Nat) (G : Nat → α) : Nat → Nat → α := fun q k => if q = o ∧ a ≤ k ∧ k < a + n then G (k - a) else g q k
theorem fl3_0 {α : Type} {g : Nat → Nat → α} {o a : Nat} {G : Nat → α} : fl3 g o a 0 G = g := by
  funext q k
  unfold fl3
  rw [if_neg (by omega)]
theorem fl3_1 {α : Type} {g : Nat → Nat → α} {o a n : Nat} {G : Nat → α} {x : α} (hx : x = G n) : u2 (fl3 g o a n G) o (a + n) x = fl3 g o a (n + 1) G := by
  funext q k
  rw [u2_at]
  unfold fl3
  by_cases h : q = o ∧ k = a + n
  · rw [if_pos h, if_pos (by omega), hx, h.2, Nat.add_sub_cancel_left]
  · rw [if_neg h]
    by_cases h2 : q = o ∧ a ≤ k ∧ k < a + n
    · rw [if_pos h2, if_pos (by omega)]
    · rw [if_neg h2, if_neg (by omega)]
theorem fl3_n {α : Type} {g : Nat → Nat → α} {o a n q : Nat} {G : Nat → α} (h : q ≠ o) : fl3 g o a n G q = g q := by
  funext k
  unfold fl3
  rw [if_neg (fun e => h e.1)]
section SH
variable {sc : aSc} {d : Nat} {r : aRes} {f : Nat → Nat → Int32} {g : Nat → Nat → Int64} {h1 h2 : Nat}
theorem l194a {t i n : Nat} (ht : t < 6) (hin : i + n ≤ 60) {v3 v4 : Int32} : ∀ (m k : Nat), k + m = n → (Rn sc d 194 104 [.ref (114 : Nat), .int (nI t), .int (nI i), .int v3, .int v4, .int (nI n), .int (nI k)] [] (cS f (fl3 g 152 0 k (fun j => g 151 (60 * t + i + j))) h1 h2) r ↔ Rn sc d 194 138 [.ref (114 : Nat), .int (nI t), .int (nI i), .int v3, .int v4, .int (nI n), .int (nI n)] [] (cS f (fl3 g 152 0 n (fun j => g 151 (60 * t + i + j))) h1 h2) r)
  | 0, k, h => by
    have e : k = n := by omega
    subst e
    have e1 : ¬ nI k < nI k := nI_nlt (Nat.le_refl _) (by omega)
    simp only [x194_104, x194_106, x194_108, e1, bI_True, bI_False, nI_1, Nat.reduceLeDiff, Nat.reduceEqDiff, nb0, nb1, nbI, eq_self, ex_pr, tl_s, tl_n, if_true, if_false, not_true_eq_false, not_false_eq_true, and_self, and_false, false_and, and_true, true_and]
  | m + 1, k, h => by
    have e1 : nI k < nI n := nI_lt (show k < n by omega) (by omega)
    have e2 : inb (nI (60 * t + i + k)) 360 = true := inb_nI (by omega) (by decide)
    have e3 : (nI (60 * t + i + k)).toNatClampNeg = 60 * t + i + k := cl_nI (by omega)
    have e5 : inb (nI k) 60 = true := inb_nI (by omega) (by decide)
    have e6 : (nI k).toNatClampNeg = k := cl_nI (by omega)
    have e7 : fl3 g 152 0 k (fun j => g 151 (60 * t + i + j)) 151 = g 151 := fl3_n (by decide)
    have e4 := @fl3_1 Int64 g 152 0 k (fun j => g 151 (60 * t + i + j)) _ rfl
    rw [Nat.zero_add] at e4
    simp only [c194, x194_0, x194_1, x194_2, x194_5, x194_8, x194_9, x194_10, x194_13, x194_16, x194_17, x194_18, x194_19, x194_22, x194_23, x194_24, x194_27, x194_28, x194_31, x194_32, x194_33, x194_36, x194_38, x194_39, x194_40, x194_43, x194_44, x194_45, x194_46, x194_49, x194_50, x194_51, x194_54, x194_56, x194_57, x194_59, x194_62, x194_63, x194_66, x194_68, x194_71, x194_72, x194_73, x194_76, x194_77, x194_78, x194_80, x194_81, x194_84, x194_86, x194_87, x194_90, x194_91, x194_92, x194_94, x194_95, x194_98, x194_100, x194_101, x194_102, x194_106, x194_108, x194_111, x194_112, x194_115, x194_117, x194_118, x194_121, x194_123, x194_124, x194_125, x194_126, x194_127, x194_129, x194_130, x194_131, x194_132, x194_135, x194_143, x194_145, x194_148, x194_149, x194_152, x194_154, x194_155, x194_156, x194_158, x194_159, x194_161, x194_162, x194_163, x194_166, x194_168, x194_169, x194_170, x194_173, x194_176, x194_178, x194_104 (x6 := nI k), kp114, rf114_5, rp114_5, al115, iA115, it115, rf114_6, rp114_6, al116, iA116, it116, rf114_7, rp114_7, al117, iA117, it117, rf114_8, rp114_8, al118, iA118, it118, rf114_9, rp114_9, al119, iA119, it119, rf114_10, rp114_10, al120, iA120, it120, rf114_16, rp114_16, al121, iA121, it121, rf114_17, rp114_17, al122, iA122, it122, rf114_18, rp114_18, al123, iA123, it123, rf114_19, rp114_19, al124, iA124, it124, rf114_20, rp114_20, al125, iA125, it125, rf114_21, rp114_21, al126, iA126, it126, rf114_22, rp114_22, al127, iA127, it127, rf114_23, rp114_23, al128, iA128, it128, rf114_27, rp114_27, al129, iA129, it129, rf114_28, rp114_28, al130, iA130, it130, rf114_29, rp114_29, al131, iA131, it131, rf114_30, rp114_30, al132, iA132, it132, rf114_31, rp114_31, al133, iA133, it133, rf114_41, rp114_41, al134, iA134, it134, rf114_42, rp114_42, al135, iA135, it135, rf114_44, rp114_44, al136, iA136, it136, rf114_45, rp114_45, al137, iA137, it137, rf114_55, rp114_55, al138, iA138, it138, rf114_56, rp114_56, al139, iA139, it139, rf114_57, rp114_57, al140, iA140, it140, rf114_58, rp114_58, al141, iA141, it141, rf114_59, rp114_59, al142, iA142, it142, rf114_60, rp114_60, al143, iA143, it143, rf114_61, rp114_61, al144, iA144, it144, rf114_62, rp114_62, al145, iA145, it145, rf114_63, rp114_63, al146, iA146, it146, rf114_64, rp114_64, al147, iA147, it147, rf114_66, rp114_66, al148, iA148, it148, rf114_67, rp114_67, al149, iA149, it149, rf114_68, rp114_68, al150, iA150, it150, rf114_69, rp114_69, al151, iA151, it151, rf114_70, rp114_70, al152, iA152, it152, e1, e2, e3, e5, e6, e7, m60, nI_add, bI_True, bI_False, nI_1, Nat.reduceLeDiff, Nat.reduceEqDiff, nb0, nb1, nbI, eq_self, ex_pr, tl_s, tl_n, if_true, if_false, not_true_eq_false, not_false_eq_true, and_self, and_false, false_and, and_true, true_and]
    rw [e4]
    exact l194a ht hin m (k + 1) (by omega)
theorem l194b {t i n : Nat} {G : Nat → Int64} (ht : t < 6) (hin : i + n ≤ 60) (hG : ∀ k, k < n → g 152 k = G k) {v1 v2 : Int32} : ∀ (m k : Nat), k + m = n → (Rn sc d 194 141 [.ref (114 : Nat), .int v1, .int v2, .int (nI t), .int (nI i), .int (nI n), .int (nI k)] [] (cS f (fl3 g 151 (60 * t + i) k G) h1 h2) r ↔ r = (cS f (fl3 g 151 (60 * t + i) n G) h1 h2, some (.int (nI n))))
  | 0, k, h => by
    have e : k = n := by omega
    subst e
    have e1 : ¬ nI k < nI k := nI_nlt (Nat.le_refl _) (by omega)
    simp only [x194_141, x194_143, x194_145, x194_176, x194_178, e1, bI_True, bI_False, nI_1, Nat.reduceLeDiff, Nat.reduceEqDiff, nb0, nb1, nbI, eq_self, ex_pr, tl_s, tl_n, if_true, if_false, not_true_eq_false, not_false_eq_true, and_self, and_false, false_and, and_true, true_and]
  | m + 1, k, h => by
    have e1 : nI k < nI n := nI_lt (show k < n by omega) (by omega)
    have e2 : inb (nI (60 * t + i + k)) 360 = true := inb_nI (by omega) (by decide)
    have e3 : (nI (60 * t + i + k)).toNatClampNeg = 60 * t + i + k := cl_nI (by omega)
    have e5 : inb (nI k) 60 = true := inb_nI (by omega) (by decide)
    have e6 : (nI k).toNatClampNeg = k := cl_nI (by omega)
    have e7 : fl3 g 151 (60 * t + i) k G 152 = g 152 := fl3_n (by decide)
    have e4 := @fl3_1 Int64 g 151 (60 * t + i) k G _ (hG k (by omega))
    simp only [c194, x194_0, x194_1, x194_2, x194_5, x194_8, x194_9, x194_10, x194_13, x194_16, x194_17, x194_18, x194_19, x194_22, x194_23, x194_24, x194_27, x194_28, x194_31, x194_32, x194_33, x194_36, x194_38, x194_39, x194_40, x194_43, x194_44, x194_45, x194_46, x194_49, x194_50, x194_51, x194_54, x194_56, x194_57, x194_59, x194_62, x194_63, x194_66, x194_68, x194_71, x194_72, x194_73, x194_76, x194_77, x194_78, x194_80, x194_81, x194_84, x194_86, x194_87, x194_90, x194_91, x194_92, x194_94, x194_95, x194_98, x194_100, x194_101, x194_102, x194_106, x194_108, x194_111, x194_112, x194_115, x194_117, x194_118, x194_121, x194_123, x194_124, x194_125, x194_126, x194_127, x194_129, x194_130, x194_131, x194_132, x194_135, x194_138, x194_139, x194_143, x194_145, x194_148, x194_149, x194_152, x194_154, x194_155, x194_156, x194_158, x194_159, x194_161, x194_162, x194_163, x194_166, x194_168, x194_169, x194_170, x194_173, x194_176, x194_178, x194_141 (x6 := nI k), kp114, rf114_5, rp114_5, al115, iA115, it115, rf114_6, rp114_6, al116, iA116, it116, rf114_7, rp114_7, al117, iA117, it117, rf114_8, rp114_8, al118, iA118, it118, rf114_9, rp114_9, al119, iA119, it119, rf114_10, rp114_10, al120, iA120, it120, rf114_16, rp114_16, al121, iA121, it121, rf114_17, rp114_17, al122, iA122, it122, rf114_18, rp114_18, al123, iA123, it123, rf114_19, rp114_19, al124, iA124, it124, rf114_20, rp114_20, al125, iA125, it125, rf114_21, rp114_21, al126, iA126, it126, rf114_22, rp114_22, al127, iA127, it127, rf114_23, rp114_23, al128, iA128, it128, rf114_27, rp114_27, al129, iA129, it129, rf114_28, rp114_28, al130, iA130, it130, rf114_29, rp114_29, al131, iA131, it131, rf114_30, rp114_30, al132, iA132, it132, rf114_31, rp114_31, al133, iA133, it133, rf114_41, rp114_41, al134, iA134, it134, rf114_42, rp114_42, al135, iA135, it135, rf114_44, rp114_44, al136, iA136, it136, rf114_45, rp114_45, al137, iA137, it137, rf114_55, rp114_55, al138, iA138, it138, rf114_56, rp114_56, al139, iA139, it139, rf114_57, rp114_57, al140, iA140, it140, rf114_58, rp114_58, al141, iA141, it141, rf114_59, rp114_59, al142, iA142, it142, rf114_60, rp114_60, al143, iA143, it143, rf114_61, rp114_61, al144, iA144, it144, rf114_62, rp114_62, al145, iA145, it145, rf114_63, rp114_63, al146, iA146, it146, rf114_64, rp114_64, al147, iA147, it147, rf114_66, rp114_66, al148, iA148, it148, rf114_67, rp114_67, al149, iA149, it149, rf114_68, rp114_68, al150, iA150, it150, rf114_69, rp114_69, al151, iA151, it151, rf114_70, rp114_70, al152, iA152, it152, e1, e2, e3, e5, e6, e7, m60, nI_add, bI_True, bI_False, nI_1, Nat.reduceLeDiff, Nat.reduceEqDiff, nb0, nb1, nbI, eq_self, ex_pr, tl_s, tl_n, if_true, if_false, not_true_eq_false, not_false_eq_true, and_self, and_false, false_and, and_true, true_and]
    rw [e4]
    exact l194b ht hin hG m (k + 1) (by omega)
end SH
