/-! acts -/
/-- one more body in a trace of m: row K, counted at (O, j) -/
def bg (O j K : Nat) (f : Nat → Nat → Int32) (m : Nat) (b : Int32) : Nat → Nat → Int32 := u2 (u2 f K m b) O j (nI (m + 1))
theorem bg_c {O j K : Nat} {f : Nat → Nat → Int32} {m : Nat} {b : Int32} : bg O j K f m b O j = nI (m + 1) := u2_ss
theorem bg_o {O j K : Nat} {f : Nat → Nat → Int32} {m : Nat} {b : Int32} {i : Nat} (hi : ¬ i = j) (hK : ¬ O = K) : bg O j K f m b O i = f O i := by
  unfold bg
  rw [u2_nn (fun e => hi e.2), u2_nn (fun e => hK e.1)]
theorem bg_n {O j K q : Nat} {f : Nat → Nat → Int32} {m : Nat} {b : Int32} (hO : ¬ q = O) (hK : ¬ q = K) : bg O j K f m b q = f q := by
  unfold bg
  rw [u2_n hO, u2_n hK]
section AC
variable {sc : aSc} {d : Nat} {r : aRes} {f : Nat → Nat → Int32} {g : Nat → Nat → Int64} {h1 h2 : Nat}
theorem s2 {m : Nat} {b : Int32} (hm : f 49 1 = nI m) (hm2 : m < 20) : Cl sc (d + 1) 2 [.ref (49 : Nat), .int b] (cS f g h1 h2) r ↔ r = (cS (bg 49 1 50 f m b) g h1 h2, none) := by
  have e1 : nI m < 20 := nI_lt (show m < 20 from hm2) (by decide)
  have e2 : inb (nI m) 20 = true := inb_nI hm2 (by decide)
  have e3 : (nI m).toNatClampNeg = m := cl_nI (by omega)
  have e4 : ∀ x, u2 f 50 m x 49 = f 49 := fun x => u2_n (by decide)
  simp only [c2, x2_0, x2_1, x2_4, x2_6, x2_9, x2_10, x2_13, x2_14, x2_17, x2_18, x2_19, x2_20, x2_21, x2_24, x2_25, x2_26, x2_29, kp49, rf49_0, rp49_0, al50, iA50, it50, hm, e1, e2, e3, e4, bg, bI_True, bI_False, nI_1, Nat.reduceLeDiff, Nat.reduceEqDiff, nb0, nb1, nbI, eq_self, ex_pr, tl_s, tl_n, if_true, if_false, not_true_eq_false, not_false_eq_true, and_self, and_false, false_and, and_true, true_and]
theorem s177 {m : Nat} {b : Int32} (hm : f 114 65 = nI m) (hm2 : m < 20) : Cl sc (d + 1) 177 [.ref (114 : Nat), .int b] (cS f g h1 h2) r ↔ r = (cS (bg 114 65 148 f m b) g h1 h2, none) := by
  have e1 : nI m < 20 := nI_lt (show m < 20 from hm2) (by decide)
  have e2 : inb (nI m) 20 = true := inb_nI hm2 (by decide)
  have e3 : (nI m).toNatClampNeg = m := cl_nI (by omega)
  have e4 : ∀ x, u2 f 148 m x 114 = f 114 := fun x => u2_n (by decide)
  simp only [c177, x177_0, x177_1, x177_4, x177_6, x177_9, x177_10, x177_13, x177_14, x177_17, x177_18, x177_19, x177_20, x177_21, x177_24, x177_25, x177_26, x177_29, kp114, rf114_5, rp114_5, al115, iA115, it115, rf114_6, rp114_6, al116, iA116, it116, rf114_7, rp114_7, al117, iA117, it117, rf114_8, rp114_8, al118, iA118, it118, rf114_9, rp114_9, al119, iA119, it119, rf114_10, rp114_10, al120, iA120, it120, rf114_16, rp114_16, al121, iA121, it121, rf114_17, rp114_17, al122, iA122, it122, rf114_18, rp114_18, al123, iA123, it123, rf114_19, rp114_19, al124, iA124, it124, rf114_20, rp114_20, al125, iA125, it125, rf114_21, rp114_21, al126, iA126, it126, rf114_22, rp114_22, al127, iA127, it127, rf114_23, rp114_23, al128, iA128, it128, rf114_27, rp114_27, al129, iA129, it129, rf114_28, rp114_28, al130, iA130, it130, rf114_29, rp114_29, al131, iA131, it131, rf114_30, rp114_30, al132, iA132, it132, rf114_31, rp114_31, al133, iA133, it133, rf114_41, rp114_41, al134, iA134, it134, rf114_42, rp114_42, al135, iA135, it135, rf114_44, rp114_44, al136, iA136, it136, rf114_45, rp114_45, al137, iA137, it137, rf114_55, rp114_55, al138, iA138, it138, rf114_56, rp114_56, al139, iA139, it139, rf114_57, rp114_57, al140, iA140, it140, rf114_58, rp114_58, al141, iA141, it141, rf114_59, rp114_59, al142, iA142, it142, rf114_60, rp114_60, al143, iA143, it143, rf114_61, rp114_61, al144, iA144, it144, rf114_62, rp114_62, al145, iA145, it145, rf114_63, rp114_63, al146, iA146, it146, rf114_64, rp114_64, al147, iA147, it147, rf114_66, rp114_66, al148, iA148, it148, rf114_67, rp114_67, al149, iA149, it149, rf114_68, rp114_68, al150, iA150, it150, rf114_69, rp114_69, al151, iA151, it151, rf114_70, rp114_70, al152, iA152, it152, hm, e1, e2, e3, e4, bg, bI_True, bI_False, nI_1, Nat.reduceLeDiff, Nat.reduceEqDiff, nb0, nb1, nbI, eq_self, ex_pr, tl_s, tl_n, if_true, if_false, not_true_eq_false, not_false_eq_true, and_self, and_false, false_and, and_true, true_and]
/-- the body that an act has at a kind or above it, and the kind above that -/
def bodyAt (act k : Nat) : Nat := [10, 10, 30, 10, 50, 30, 71, 11, 20, 11, 11, 51, 11, 70, 12, 12, 12, 40, 12, 60, 40].getD (act * 7 + k) 0
def nextAt (act k : Nat) : Int32 := [-1, -1, 0, -1, 1, 0, 3, -1, 0, -1, -1, 1, -1, 3, -1, -1, -1, 0, -1, 2, 0].getD (act * 7 + k) 0
end AC
