/-! rows of runs: the reference's next pair, and what it takes back -/
/-- who is there, for the class and for the reference -/
def PRA (pr n aw : Nat) : Prop := pr < 2 ^ n ∧ ∀ s, s < n → (bt pr s = 1 ↔ s ≠ aw)
theorem VD_aw {D : aD} {pr n aw s hx q : Nat} (A : PRA pr n aw) (hq : q < 21) (h : o2 q < n) : (VD D pr s hx q = true) = (o1 q ≠ aw ∧ o2 q ≠ aw ∧ GO D (o1 q) (o2 q) s hx = true) := by
  have o := o12 q hq
  have a := A.2 (o1 q) (by omega)
  have b := A.2 (o2 q) h
  unfold VD
  rw [decide_eq_true hq, Bool.true_and, Bool.and_eq_true, decide_eq_true_eq, a, b, and_assoc]
/-- a pair as the reference writes it: where to go on behind it -/
def cdT (t : Nat) : Int32 := if t = 0 then -1 else nI (nuO (t - 1))
theorem nu_of : ∀ a, a < 7 → ∀ b, b < 7 → a < b → nuO (pp a b) = 10 * a + b := by decide +kernel
theorem nu_dm : ∀ q, q < 21 → nuO q / 10 = o1 q ∧ nuO q % 10 = o2 q ∧ nuO q ≤ 98 := by decide +kernel
section BM
variable {sc : aSc} {d : Nat} {r : aRes} {f : Nat → Nat → Int32} {g : Nat → Nat → Int64} {h1 h2 : Nat} {n hr wn dk sd gb pc bc : Nat} {W : Nat → Nat} {D : aD} {hc : Nat} {HS : Nat → aH} {σ : aS}
theorem l151 {s hx aw pr : Nat} {v1 : Int32} (A : PRA pr n aw) : ∀ (k a b : Nat) (f : Nat → Nat → Int32), MY f D n s hx aw → a ≤ b → (a < n ∧ b < n ∨ a = n ∧ b = n) → 9 * (n - a) + (n - b) < k → ∃ f', Sm f f' ∧ ∀ r, (Rn sc (d + 7) 151 35 [.ref (114 : Nat), .int v1, .int (nI a), .int (nI b)] [] (cS f g h1 h2) r ↔ r = (cS f' g h1 h2, some (.int (nI (nuO (nxt (VD D pr s hx) (pp a (b + 1))))))))
  | 0, a, b, f, C, h, ha, hk => absurd hk (by omega)
  | k + 1, a, b, f, C, h, ha, hk => by
    have n7 := C.2.1
    have c0 := C.2.2.1
    have z1 : nI b + 1 = nI (b + 1) := by rw [← lt1, nI_add]
    have z2 : nI a + 1 = nI (a + 1) := by rw [← lt1, nI_add]
    rcases ha with ⟨y, bn⟩ | ⟨y, bn⟩
    · have e1 : nI a < nI n := nI_lt y (by omega)
      by_cases y2 : b + 1 < n
      · have e2 : nI (b + 1) < nI n := nI_lt y2 (by omega)
        obtain ⟨f1, F1, k1⟩ := @mgo sc f g h1 h2 n hx s D a (b + 1) aw C y y2 (d + 1)
        have q := pp_o a (by omega) (b + 1) (by omega) (by omega)
        have va := @VD_aw D pr n aw s hx (pp a (b + 1)) A q.1 (by rw [q.2.2]; exact y2)
        rw [q.2.1, q.2.2] at va
        have nu := nu_of a (by omega) (b + 1) (by omega) (by omega)
        by_cases y3 : a ≠ aw ∧ b + 1 ≠ aw ∧ GO D a (b + 1) s hx = true
        · refine ⟨f1, F1, fun r => ?_⟩
          rw [nxt_hit q.1 (va.mpr y3), nu]
          have z10 : (10 : Int32) * nI a = nI (10 * a) := nI_mul 10 a
          simp only [x151_35 (x2 := nI a), x151_36, x151_37, x151_40, x151_43, x151_46, x151_47, x151_48, x151_51, x151_62, x151_63, x151_64, x151_65, x151_68, x151_71, x151_73, x151_74, x151_75, x151_76, x151_77, kp114, rf114_5, rp114_5, al115, iA115, it115, rf114_6, rp114_6, al116, iA116, it116, rf114_7, rp114_7, al117, iA117, it117, rf114_8, rp114_8, al118, iA118, it118, rf114_9, rp114_9, al119, iA119, it119, rf114_10, rp114_10, al120, iA120, it120, rf114_16, rp114_16, al121, iA121, it121, rf114_17, rp114_17, al122, iA122, it122, rf114_18, rp114_18, al123, iA123, it123, rf114_19, rp114_19, al124, iA124, it124, rf114_20, rp114_20, al125, iA125, it125, rf114_21, rp114_21, al126, iA126, it126, rf114_22, rp114_22, al127, iA127, it127, rf114_23, rp114_23, al128, iA128, it128, rf114_27, rp114_27, al129, iA129, it129, rf114_28, rp114_28, al130, iA130, it130, rf114_29, rp114_29, al131, iA131, it131, rf114_30, rp114_30, al132, iA132, it132, rf114_31, rp114_31, al133, iA133, it133, rf114_41, rp114_41, al134, iA134, it134, rf114_42, rp114_42, al135, iA135, it135, rf114_44, rp114_44, al136, iA136, it136, rf114_45, rp114_45, al137, iA137, it137, rf114_55, rp114_55, al138, iA138, it138, rf114_56, rp114_56, al139, iA139, it139, rf114_57, rp114_57, al140, iA140, it140, rf114_58, rp114_58, al141, iA141, it141, rf114_59, rp114_59, al142, iA142, it142, rf114_60, rp114_60, al143, iA143, it143, rf114_61, rp114_61, al144, iA144, it144, rf114_62, rp114_62, al145, iA145, it145, rf114_63, rp114_63, al146, iA146, it146, rf114_64, rp114_64, al147, iA147, it147, rf114_66, rp114_66, al148, iA148, it148, rf114_67, rp114_67, al149, iA149, it149, rf114_68, rp114_68, al150, iA150, it150, rf114_69, rp114_69, al151, iA151, it151, rf114_70, rp114_70, al152, iA152, it152, c0, e1, z1, e2, k1, bI_t y3, zi1, z10, nI_add, bI_True, bI_False, nI_1, Nat.reduceLeDiff, Nat.reduceEqDiff, nb0, nb1, nbI, eq_self, ex_pr, tl_s, tl_n, if_true, if_false, not_true_eq_false, not_false_eq_true, and_self, and_false, false_and, and_true, true_and]
        · have vf : VD D pr s hx (pp a (b + 1)) = false := by
            cases e : VD D pr s hx (pp a (b + 1)) with
            | true => exact absurd (va.mp e) y3
            | false => rfl
          obtain ⟨f2, F2, k2⟩ := l151 (v1 := v1) A k a (b + 1) f1 (C.sm F1) (by omega) (Or.inl ⟨y, y2⟩) (by omega)
          refine ⟨f2, F1.trans F2, fun r => ?_⟩
          rw [nxt_st q.1 vf, (pp_s a (by omega) (b + 1) (by omega) (by omega)).1, ← k2 r]
          simp only [x151_35 (x2 := nI a) (a3 := .int (nI b)), x151_36, x151_37, x151_40, x151_43, x151_46, x151_47, x151_48, x151_51, x151_62, x151_63, x151_64, x151_65, x151_68, kp114, rf114_5, rp114_5, al115, iA115, it115, rf114_6, rp114_6, al116, iA116, it116, rf114_7, rp114_7, al117, iA117, it117, rf114_8, rp114_8, al118, iA118, it118, rf114_9, rp114_9, al119, iA119, it119, rf114_10, rp114_10, al120, iA120, it120, rf114_16, rp114_16, al121, iA121, it121, rf114_17, rp114_17, al122, iA122, it122, rf114_18, rp114_18, al123, iA123, it123, rf114_19, rp114_19, al124, iA124, it124, rf114_20, rp114_20, al125, iA125, it125, rf114_21, rp114_21, al126, iA126, it126, rf114_22, rp114_22, al127, iA127, it127, rf114_23, rp114_23, al128, iA128, it128, rf114_27, rp114_27, al129, iA129, it129, rf114_28, rp114_28, al130, iA130, it130, rf114_29, rp114_29, al131, iA131, it131, rf114_30, rp114_30, al132, iA132, it132, rf114_31, rp114_31, al133, iA133, it133, rf114_41, rp114_41, al134, iA134, it134, rf114_42, rp114_42, al135, iA135, it135, rf114_44, rp114_44, al136, iA136, it136, rf114_45, rp114_45, al137, iA137, it137, rf114_55, rp114_55, al138, iA138, it138, rf114_56, rp114_56, al139, iA139, it139, rf114_57, rp114_57, al140, iA140, it140, rf114_58, rp114_58, al141, iA141, it141, rf114_59, rp114_59, al142, iA142, it142, rf114_60, rp114_60, al143, iA143, it143, rf114_61, rp114_61, al144, iA144, it144, rf114_62, rp114_62, al145, iA145, it145, rf114_63, rp114_63, al146, iA146, it146, rf114_64, rp114_64, al147, iA147, it147, rf114_66, rp114_66, al148, iA148, it148, rf114_67, rp114_67, al149, iA149, it149, rf114_68, rp114_68, al150, iA150, it150, rf114_69, rp114_69, al151, iA151, it151, rf114_70, rp114_70, al152, iA152, it152, c0, e1, z1, e2, k1, bI_f y3, bI_True, bI_False, nI_1, Nat.reduceLeDiff, Nat.reduceEqDiff, nb0, nb1, nbI, eq_self, ex_pr, tl_s, tl_n, if_true, if_false, not_true_eq_false, not_false_eq_true, and_self, and_false, false_and, and_true, true_and]
      · have e2 : ¬ nI (b + 1) < nI n := by
          rw [nI_ltI (by omega) (by omega)]
          omega
        obtain ⟨f2, F2, k2⟩ := l151 (v1 := v1) A k (a + 1) (a + 1) f C (Nat.le_refl _) (by omega) (by omega)
        refine ⟨f2, F2, fun r => ?_⟩
        have pf := pp_f a (by omega)
        have sk : nxt (VD D pr s hx) (pp a (b + 1)) = nxt (VD D pr s hx) (pp (a + 1) (a + 1 + 1)) := by
          have e3 : pp (a + 1) (a + 1 + 1) = off (a + 1) := by
            unfold pp
            omega
          rw [e3]
          have le : pp a (b + 1) ≤ off (a + 1) := by
            by_cases w : a < b
            · exact (pp_s a (by omega) b (by omega) w).2
            · rw [show b = a by omega, pf.1]
              exact pf.2.1
          refine nxt_skip pf.2.2 (off (a + 1) - pp a (b + 1)) _ (by omega) fun q x z => VD_n A.1 ?_
          exact pp_n a (by omega) n (by omega) q (by omega) ⟨y, by rw [show n = b + 1 by omega]; exact x, z⟩
        rw [sk, ← k2 r]
        simp only [x151_35 (x2 := nI a), x151_36, x151_37, x151_40, x151_43, x151_46, x151_47, x151_48, x151_51, x151_54, x151_57, x151_58, x151_59, kp114, rf114_5, rp114_5, al115, iA115, it115, rf114_6, rp114_6, al116, iA116, it116, rf114_7, rp114_7, al117, iA117, it117, rf114_8, rp114_8, al118, iA118, it118, rf114_9, rp114_9, al119, iA119, it119, rf114_10, rp114_10, al120, iA120, it120, rf114_16, rp114_16, al121, iA121, it121, rf114_17, rp114_17, al122, iA122, it122, rf114_18, rp114_18, al123, iA123, it123, rf114_19, rp114_19, al124, iA124, it124, rf114_20, rp114_20, al125, iA125, it125, rf114_21, rp114_21, al126, iA126, it126, rf114_22, rp114_22, al127, iA127, it127, rf114_23, rp114_23, al128, iA128, it128, rf114_27, rp114_27, al129, iA129, it129, rf114_28, rp114_28, al130, iA130, it130, rf114_29, rp114_29, al131, iA131, it131, rf114_30, rp114_30, al132, iA132, it132, rf114_31, rp114_31, al133, iA133, it133, rf114_41, rp114_41, al134, iA134, it134, rf114_42, rp114_42, al135, iA135, it135, rf114_44, rp114_44, al136, iA136, it136, rf114_45, rp114_45, al137, iA137, it137, rf114_55, rp114_55, al138, iA138, it138, rf114_56, rp114_56, al139, iA139, it139, rf114_57, rp114_57, al140, iA140, it140, rf114_58, rp114_58, al141, iA141, it141, rf114_59, rp114_59, al142, iA142, it142, rf114_60, rp114_60, al143, iA143, it143, rf114_61, rp114_61, al144, iA144, it144, rf114_62, rp114_62, al145, iA145, it145, rf114_63, rp114_63, al146, iA146, it146, rf114_64, rp114_64, al147, iA147, it147, rf114_66, rp114_66, al148, iA148, it148, rf114_67, rp114_67, al149, iA149, it149, rf114_68, rp114_68, al150, iA150, it150, rf114_69, rp114_69, al151, iA151, it151, rf114_70, rp114_70, al152, iA152, it152, c0, e1, z1, e2, z2, bI_True, bI_False, nI_1, Nat.reduceLeDiff, Nat.reduceEqDiff, nb0, nb1, nbI, eq_self, ex_pr, tl_s, tl_n, if_true, if_false, not_true_eq_false, not_false_eq_true, and_self, and_false, false_and, and_true, true_and]
    · subst y
      have bb : b = a := bn
      subst bb
      have e1 : ¬ nI b < nI b := Int32.lt_irrefl
      refine ⟨f, Sm.refl, fun r => ?_⟩
      have ol := off_le b (by omega)
      have e3 : pp b (b + 1) = off b := by
        unfold pp
        omega
      have sk : nxt (VD D pr s hx) (pp b (b + 1)) = 21 := by
        rw [e3, @nxt_skip (VD D pr s hx) 21 (Nat.le_refl _) (21 - off b) (off b) (by omega) fun q x z => VD_n A.1 (by
            have q1 := off_o b (by omega) q (by omega) x
            have q2 := o12 q (by omega)
            omega), nxt_21]
      rw [sk]
      have e99 : nI (nuO 21) = 99 := by decide
      rw [e99]
      simp only [x151_35 (x2 := nI b), x151_36, x151_37, x151_40, x151_78, x151_80, kp114, rf114_5, rp114_5, al115, iA115, it115, rf114_6, rp114_6, al116, iA116, it116, rf114_7, rp114_7, al117, iA117, it117, rf114_8, rp114_8, al118, iA118, it118, rf114_9, rp114_9, al119, iA119, it119, rf114_10, rp114_10, al120, iA120, it120, rf114_16, rp114_16, al121, iA121, it121, rf114_17, rp114_17, al122, iA122, it122, rf114_18, rp114_18, al123, iA123, it123, rf114_19, rp114_19, al124, iA124, it124, rf114_20, rp114_20, al125, iA125, it125, rf114_21, rp114_21, al126, iA126, it126, rf114_22, rp114_22, al127, iA127, it127, rf114_23, rp114_23, al128, iA128, it128, rf114_27, rp114_27, al129, iA129, it129, rf114_28, rp114_28, al130, iA130, it130, rf114_29, rp114_29, al131, iA131, it131, rf114_30, rp114_30, al132, iA132, it132, rf114_31, rp114_31, al133, iA133, it133, rf114_41, rp114_41, al134, iA134, it134, rf114_42, rp114_42, al135, iA135, it135, rf114_44, rp114_44, al136, iA136, it136, rf114_45, rp114_45, al137, iA137, it137, rf114_55, rp114_55, al138, iA138, it138, rf114_56, rp114_56, al139, iA139, it139, rf114_57, rp114_57, al140, iA140, it140, rf114_58, rp114_58, al141, iA141, it141, rf114_59, rp114_59, al142, iA142, it142, rf114_60, rp114_60, al143, iA143, it143, rf114_61, rp114_61, al144, iA144, it144, rf114_62, rp114_62, al145, iA145, it145, rf114_63, rp114_63, al146, iA146, it146, rf114_64, rp114_64, al147, iA147, it147, rf114_66, rp114_66, al148, iA148, it148, rf114_67, rp114_67, al149, iA149, it149, rf114_68, rp114_68, al150, iA150, it150, rf114_69, rp114_69, al151, iA151, it151, rf114_70, rp114_70, al152, iA152, it152, c0, e1, bI_True, bI_False, nI_1, Nat.reduceLeDiff, Nat.reduceEqDiff, nb0, nb1, nbI, eq_self, ex_pr, tl_s, tl_n, if_true, if_false, not_true_eq_false, not_false_eq_true, and_self, and_false, false_and, and_true, true_and]
theorem cdT0 : cdT 0 = -1 := rfl
theorem cdTs (q : Nat) : cdT (q + 1) = nI (nuO q) := rfl
theorem s151 {s hx aw pr t : Nat} (A : PRA pr n aw) (C : MY f D n s hx aw) (ht : t ≤ 21) (hq : ∀ q, t = q + 1 → o2 q < n) : ∃ f', Sm f f' ∧ ∀ r, Cl sc (d + 8) 151 [.ref (114 : Nat), .int (cdT t)] (cS f g h1 h2) r ↔ r = (cS f' g h1 h2, some (.int (nI (nuO (nxt (VD D pr s hx) t))))) := by
  have n7 := C.2.1
  cases t with
  | zero =>
    obtain ⟨f1, F1, k1⟩ := @l151 sc d g h1 h2 n D s hx aw pr (-1) A 200 0 0 f C (Nat.le_refl _) (by omega) (by omega)
    rw [lt0, show pp 0 (0 + 1) = 0 from rfl] at k1
    refine ⟨f1, F1, fun r => ?_⟩
    have e1 : ¬ (-1 : Int32) = 99 := by decide
    have e2 : (-1 : Int32) < 0 := by decide
    rw [cdT0]
    simp only [c151, x151_0, x151_1, x151_3, x151_6, x151_8, x151_9, x151_10, x151_13, x151_14, x151_17, x151_18, x151_20, x151_21, x151_22, x151_23, x151_26, x151_27, x151_30, x151_31, x151_33, x151_34, x151_43, x151_46, x151_47, x151_48, x151_51, x151_54, x151_57, x151_58, x151_59, x151_62, x151_63, x151_64, x151_65, x151_68, x151_71, x151_73, x151_74, x151_75, x151_76, x151_77, x151_78, x151_80, e1, e2, k1, bI_True, bI_False, nI_1, Nat.reduceLeDiff, Nat.reduceEqDiff, nb0, nb1, nbI, eq_self, ex_pr, tl_s, tl_n, if_true, if_false, not_true_eq_false, not_false_eq_true, and_self, and_false, false_and, and_true, true_and]
  | succ q =>
    have q2 := hq q rfl
    have o := o12 q (by omega)
    obtain ⟨m1, m2, m3⟩ := nu_dm q (by omega)
    obtain ⟨f1, F1, k1⟩ := @l151 sc d g h1 h2 n D s hx aw pr (nI (nuO q)) A 200 (o1 q) (o2 q) f C (by omega) (Or.inl ⟨by omega, q2⟩) (by omega)
    have pe : pp (o1 q) (o2 q + 1) = q + 1 := by
      rw [← (pp_s (o1 q) (by omega) (o2 q) (by omega) o.1).1, pp_r q (by omega)]
    rw [pe] at k1
    refine ⟨f1, F1, fun r => ?_⟩
    have e1 : ¬ nI (nuO q) = 99 := by
      rw [show (99 : Int32) = nI 99 from rfl, nI_eq (by omega) (by decide)]
      omega
    have e2 : ¬ nI (nuO q) < 0 := nI_pos (by omega)
    have e3 : nI (nuO q) / 10 = nI (o1 q) := by
      rw [← lt10, nI_div (by omega) (by decide), m1]
    have e4 : nI (nuO q) % 10 = nI (o2 q) := by
      rw [← lt10, nI_rem (by omega) (by decide), m2]
    have e10 : ¬ (10 : Int32) = 0 := by decide
    rw [cdTs]
    simp only [c151, x151_0, x151_1, x151_3, x151_6, x151_8, x151_9, x151_10, x151_13, x151_14, x151_17, x151_18, x151_20, x151_21, x151_22, x151_23, x151_26, x151_27, x151_30, x151_31, x151_33, x151_34, x151_43, x151_46, x151_47, x151_48, x151_51, x151_54, x151_57, x151_58, x151_59, x151_62, x151_63, x151_64, x151_65, x151_68, x151_71, x151_73, x151_74, x151_75, x151_76, x151_77, x151_78, x151_80, e1, e2, e3, e4, e10, k1, bI_True, bI_False, nI_1, Nat.reduceLeDiff, Nat.reduceEqDiff, nb0, nb1, nbI, eq_self, ex_pr, tl_s, tl_n, if_true, if_false, not_true_eq_false, not_false_eq_true, and_self, and_false, false_and, and_true, true_and]
theorem s151e : Cl sc (d + 1) 151 [.ref (114 : Nat), .int (cdT 22)] (cS f g h1 h2) r ↔ r = (cS f g h1 h2, some (.int 100)) := by
  have e1 : cdT 22 = 99 := by decide
  rw [e1]
  simp only [c151, x151_0, x151_1, x151_3, x151_6, x151_8, x151_9, x151_10, x151_13, x151_14, x151_17, x151_18, x151_20, x151_21, x151_22, x151_23, x151_26, x151_27, x151_30, x151_31, x151_33, x151_34, x151_43, x151_46, x151_47, x151_48, x151_51, x151_54, x151_57, x151_58, x151_59, x151_62, x151_63, x151_64, x151_65, x151_68, x151_71, x151_73, x151_74, x151_75, x151_76, x151_77, x151_78, x151_80, bI_True, bI_False, nI_1, Nat.reduceLeDiff, Nat.reduceEqDiff, nb0, nb1, nbI, eq_self, ex_pr, tl_s, tl_n, if_true, if_false, not_true_eq_false, not_false_eq_true, and_self, and_false, false_and, and_true, true_and]
theorem u2_id {α : Type} {f : Nat → Nat → α} {o k : Nat} {x : α} (h : f o k = x) : u2 f o k x = f := by
  funext q j
  rw [u2_at]
  by_cases e : q = o ∧ j = k
  · rw [if_pos e, e.1, e.2, h]
  · rw [if_neg e]
/-- SIDES as they stand while a row's pair has been run -/
def csT (s t : Nat) : Nat := if t = 0 then s else flq s (t - 1)
theorem s153 {s t k : Nat} (hk : k < 4) (ht : t ≤ 22) (e : f 131 k = cdT t) (m1 : f 114 1 = nI (csT s t)) : Cl sc (d + 2) 153 [.ref (114 : Nat), .int (nI k)] (cS f g h1 h2) r ↔ r = (cS (u2 f 114 1 (nI s)) g h1 h2, none) := by
  have i1 : inb (nI k) 4 = true := inb_nI hk (by decide)
  have i2 : (nI k).toNatClampNeg = k := cl_nI (by omega)
  cases t with
  | zero =>
    have e1 : ¬ (¬ (-1 : Int32) < 0 ∧ ¬ (98 : Int32) < -1) := by decide
    have m1 : f 114 1 = nI s := m1
    rw [cdT0] at e
    rw [u2_id m1]
    simp only [c153, x153_0, x153_1, x153_2, x153_5, x153_6, x153_7, x153_8, x153_10, x153_13, x153_16, x153_17, x153_18, x153_21, x153_22, x153_23, x153_25, x153_26, x153_27, x153_30, x153_31, x153_32, x153_34, x153_35, x153_38, kp114, rf114_5, rp114_5, al115, iA115, it115, rf114_6, rp114_6, al116, iA116, it116, rf114_7, rp114_7, al117, iA117, it117, rf114_8, rp114_8, al118, iA118, it118, rf114_9, rp114_9, al119, iA119, it119, rf114_10, rp114_10, al120, iA120, it120, rf114_16, rp114_16, al121, iA121, it121, rf114_17, rp114_17, al122, iA122, it122, rf114_18, rp114_18, al123, iA123, it123, rf114_19, rp114_19, al124, iA124, it124, rf114_20, rp114_20, al125, iA125, it125, rf114_21, rp114_21, al126, iA126, it126, rf114_22, rp114_22, al127, iA127, it127, rf114_23, rp114_23, al128, iA128, it128, rf114_27, rp114_27, al129, iA129, it129, rf114_28, rp114_28, al130, iA130, it130, rf114_29, rp114_29, al131, iA131, it131, rf114_30, rp114_30, al132, iA132, it132, rf114_31, rp114_31, al133, iA133, it133, rf114_41, rp114_41, al134, iA134, it134, rf114_42, rp114_42, al135, iA135, it135, rf114_44, rp114_44, al136, iA136, it136, rf114_45, rp114_45, al137, iA137, it137, rf114_55, rp114_55, al138, iA138, it138, rf114_56, rp114_56, al139, iA139, it139, rf114_57, rp114_57, al140, iA140, it140, rf114_58, rp114_58, al141, iA141, it141, rf114_59, rp114_59, al142, iA142, it142, rf114_60, rp114_60, al143, iA143, it143, rf114_61, rp114_61, al144, iA144, it144, rf114_62, rp114_62, al145, iA145, it145, rf114_63, rp114_63, al146, iA146, it146, rf114_64, rp114_64, al147, iA147, it147, rf114_66, rp114_66, al148, iA148, it148, rf114_67, rp114_67, al149, iA149, it149, rf114_68, rp114_68, al150, iA150, it150, rf114_69, rp114_69, al151, iA151, it151, rf114_70, rp114_70, al152, iA152, it152, al131, iA131, it131, i1, i2, e, s108, bI_f e1, bI_True, bI_False, nI_1, Nat.reduceLeDiff, Nat.reduceEqDiff, nb0, nb1, nbI, eq_self, ex_pr, tl_s, tl_n, if_true, if_false, not_true_eq_false, not_false_eq_true, and_self, and_false, false_and, and_true, true_and]
  | succ q =>
    have m1 : f 114 1 = nI (flq s q) := m1
    rw [cdTs] at e
    by_cases z : q = 21
    · subst z
      have e0 : nI (nuO 21) = 99 := by decide
      have e1 : ¬ (¬ (99 : Int32) < 0 ∧ ¬ (98 : Int32) < 99) := by decide
      rw [e0] at e
      rw [flq_21] at m1
      rw [u2_id m1]
      simp only [c153, x153_0, x153_1, x153_2, x153_5, x153_6, x153_7, x153_8, x153_10, x153_13, x153_16, x153_17, x153_18, x153_21, x153_22, x153_23, x153_25, x153_26, x153_27, x153_30, x153_31, x153_32, x153_34, x153_35, x153_38, kp114, rf114_5, rp114_5, al115, iA115, it115, rf114_6, rp114_6, al116, iA116, it116, rf114_7, rp114_7, al117, iA117, it117, rf114_8, rp114_8, al118, iA118, it118, rf114_9, rp114_9, al119, iA119, it119, rf114_10, rp114_10, al120, iA120, it120, rf114_16, rp114_16, al121, iA121, it121, rf114_17, rp114_17, al122, iA122, it122, rf114_18, rp114_18, al123, iA123, it123, rf114_19, rp114_19, al124, iA124, it124, rf114_20, rp114_20, al125, iA125, it125, rf114_21, rp114_21, al126, iA126, it126, rf114_22, rp114_22, al127, iA127, it127, rf114_23, rp114_23, al128, iA128, it128, rf114_27, rp114_27, al129, iA129, it129, rf114_28, rp114_28, al130, iA130, it130, rf114_29, rp114_29, al131, iA131, it131, rf114_30, rp114_30, al132, iA132, it132, rf114_31, rp114_31, al133, iA133, it133, rf114_41, rp114_41, al134, iA134, it134, rf114_42, rp114_42, al135, iA135, it135, rf114_44, rp114_44, al136, iA136, it136, rf114_45, rp114_45, al137, iA137, it137, rf114_55, rp114_55, al138, iA138, it138, rf114_56, rp114_56, al139, iA139, it139, rf114_57, rp114_57, al140, iA140, it140, rf114_58, rp114_58, al141, iA141, it141, rf114_59, rp114_59, al142, iA142, it142, rf114_60, rp114_60, al143, iA143, it143, rf114_61, rp114_61, al144, iA144, it144, rf114_62, rp114_62, al145, iA145, it145, rf114_63, rp114_63, al146, iA146, it146, rf114_64, rp114_64, al147, iA147, it147, rf114_66, rp114_66, al148, iA148, it148, rf114_67, rp114_67, al149, iA149, it149, rf114_68, rp114_68, al150, iA150, it150, rf114_69, rp114_69, al151, iA151, it151, rf114_70, rp114_70, al152, iA152, it152, al131, iA131, it131, i1, i2, e, s108, bI_f e1, bI_True, bI_False, nI_1, Nat.reduceLeDiff, Nat.reduceEqDiff, nb0, nb1, nbI, eq_self, ex_pr, tl_s, tl_n, if_true, if_false, not_true_eq_false, not_false_eq_true, and_self, and_false, false_and, and_true, true_and]
    · have o := o12 q (by omega)
      obtain ⟨n1, n2, n3⟩ := nu_dm q (by omega)
      have e1 : ¬ nI (nuO q) < 0 ∧ ¬ (98 : Int32) < nI (nuO q) := by
        refine ⟨nI_pos (by omega), ?_⟩
        rw [show (98 : Int32) = nI 98 from rfl, nI_ltI (by decide) (by omega)]
        omega
      have e3 : nI (nuO q) / 10 = nI (o1 q) := by
        rw [← lt10, nI_div (by omega) (by decide), n1]
      have e4 : nI (nuO q) % 10 = nI (o2 q) := by
        rw [← lt10, nI_rem (by omega) (by decide), n2]
      have e10 : ¬ (10 : Int32) = 0 := by decide
      have k1 := fun d r => s142 (sc := sc) (d := d) (r := r) (f := f) (g := g) (h1 := h1) (h2 := h2) (a := o1 q) (b := o2 q) (sd := flq s q) (by omega) (by omega) m1
      have fe : flp (flq s q) (o1 q) (o2 q) = s := by
        rw [flq_p (by omega)]
        exact flp_flp _ _ _
      rw [fe] at k1
      simp only [c153, x153_0, x153_1, x153_2, x153_5, x153_6, x153_7, x153_8, x153_10, x153_13, x153_16, x153_17, x153_18, x153_21, x153_22, x153_23, x153_25, x153_26, x153_27, x153_30, x153_31, x153_32, x153_34, x153_35, x153_38, kp114, rf114_5, rp114_5, al115, iA115, it115, rf114_6, rp114_6, al116, iA116, it116, rf114_7, rp114_7, al117, iA117, it117, rf114_8, rp114_8, al118, iA118, it118, rf114_9, rp114_9, al119, iA119, it119, rf114_10, rp114_10, al120, iA120, it120, rf114_16, rp114_16, al121, iA121, it121, rf114_17, rp114_17, al122, iA122, it122, rf114_18, rp114_18, al123, iA123, it123, rf114_19, rp114_19, al124, iA124, it124, rf114_20, rp114_20, al125, iA125, it125, rf114_21, rp114_21, al126, iA126, it126, rf114_22, rp114_22, al127, iA127, it127, rf114_23, rp114_23, al128, iA128, it128, rf114_27, rp114_27, al129, iA129, it129, rf114_28, rp114_28, al130, iA130, it130, rf114_29, rp114_29, al131, iA131, it131, rf114_30, rp114_30, al132, iA132, it132, rf114_31, rp114_31, al133, iA133, it133, rf114_41, rp114_41, al134, iA134, it134, rf114_42, rp114_42, al135, iA135, it135, rf114_44, rp114_44, al136, iA136, it136, rf114_45, rp114_45, al137, iA137, it137, rf114_55, rp114_55, al138, iA138, it138, rf114_56, rp114_56, al139, iA139, it139, rf114_57, rp114_57, al140, iA140, it140, rf114_58, rp114_58, al141, iA141, it141, rf114_59, rp114_59, al142, iA142, it142, rf114_60, rp114_60, al143, iA143, it143, rf114_61, rp114_61, al144, iA144, it144, rf114_62, rp114_62, al145, iA145, it145, rf114_63, rp114_63, al146, iA146, it146, rf114_64, rp114_64, al147, iA147, it147, rf114_66, rp114_66, al148, iA148, it148, rf114_67, rp114_67, al149, iA149, it149, rf114_68, rp114_68, al150, iA150, it150, rf114_69, rp114_69, al151, iA151, it151, rf114_70, rp114_70, al152, iA152, it152, al131, iA131, it131, i1, i2, e, s108, bI_t e1, zi1, e3, e4, e10, k1, bI_True, bI_False, nI_1, Nat.reduceLeDiff, Nat.reduceEqDiff, nb0, nb1, nbI, eq_self, ex_pr, tl_s, tl_n, if_true, if_false, not_true_eq_false, not_false_eq_true, and_self, and_false, false_and, and_true, true_and]
/-- the best row so far, as the reference keeps it -/
def BS (f : Nat → Nat → Int32) (N : Nat) (st : Option aW) : Prop := match st with
  | none => f 114 32 = -1
  | some v => f 114 32 = nI v.1 ∧ f 114 33 = nI v.2.1 ∧ v.1 ≤ 693 ∧ v.2.1 ≤ 24000 ∧ ∀ k, k < N → f 132 k = nI (nuO (v.2.2.getD k 0))
theorem BS.fr {f f' : Nat → Nat → Int32} {N : Nat} {st : Option aW} (b : BS f N st) (a1 : f' 114 32 = f 114 32) (a2 : f' 114 33 = f 114 33) (a3 : f' 132 = f 132) : BS f' N st := by
  cases st with
  | none => exact a1.trans b
  | some v =>
    obtain ⟨b1, b2, b3, b4, b5⟩ := b
    exact ⟨a1.trans b1, a2.trans b2, b3, b4, fun k hk => by rw [a3]; exact b5 k hk⟩
theorem gnp {s hx aw pr : Nat} (A : PRA pr n aw) (C : MY f D n s hx aw) (G : GM f W gb n) (d : Nat) (r : aRes) : Cl sc (d + 2) 143 [.ref (114 : Nat)] (cS f g h1 h2) r ↔ r = (cS f g h1 h2, some (.int (nI (ga W pr s gb n 0)))) := by
  have n7 := C.2.1
  exact s143 (aw := aw) n7 C.2.2.1 C.2.2.2.1 (go_lt n7 C.2.2.2.2.2.2.1) G C.2.2.2.2.2.1 A.2
theorem l152 {v1 v2 : Int32} : ∀ (k i : Nat) (f : Nat → Nat → Int32), i + k = 4 → ∃ f', (∀ q j, ¬ (q = 132 ∧ i ≤ j ∧ j < 4) → f' q j = f q j) ∧ (∀ j, i ≤ j → j < 4 → f' 132 j = f 131 j) ∧ ∀ r, (Rn sc d 152 59 [.ref (114 : Nat), .int v1, .int v2, .int (nI i)] [] (cS f g h1 h2) r ↔ r = (cS f' g h1 h2, none))
  | 0, i, f, h => by
    have e : i = 4 := h
    subst e
    have e1 : ¬ nI 4 < 4 := by decide
    refine ⟨f, fun _ _ _ => rfl, fun j a b => absurd a (by omega), fun r => ?_⟩
    simp only [x152_59 (x3 := nI 4), x152_60, x152_61, x152_82, e1, bI_True, bI_False, nI_1, Nat.reduceLeDiff, Nat.reduceEqDiff, nb0, nb1, nbI, eq_self, ex_pr, tl_s, tl_n, if_true, if_false, not_true_eq_false, not_false_eq_true, and_self, and_false, false_and, and_true, true_and]
  | k + 1, i, f, h => by
    have e1 : nI i < 4 := nI_lt (show i < 4 by omega) (by decide)
    have i1 : inb (nI i) 4 = true := inb_nI (by omega) (by decide)
    have i2 : (nI i).toNatClampNeg = i := cl_nI (by omega)
    have z1 : nI i + 1 = nI (i + 1) := by rw [← lt1, nI_add]
    obtain ⟨f2, A2, B2, k2⟩ := l152 (v1 := v1) (v2 := v2) k (i + 1) (u2 f 132 i (f 131 i)) (by omega)
    refine ⟨f2, fun q j hq => ?_, fun j a b => ?_, fun r => ?_⟩
    · rw [A2 q j (by omega), u2_nn (by omega)]
    · by_cases w : j = i
      · subst w
        rw [A2 132 j (by omega), u2_ss]
      · rw [B2 j (by omega) b, u2_nn (by omega)]
    · rw [← k2 r]
      simp only [x152_59 (x3 := nI i), x152_60, x152_61, x152_64, x152_65, x152_68, x152_69, x152_70, x152_73, x152_74, x152_75, x152_76, x152_79, kp114, rf114_5, rp114_5, al115, iA115, it115, rf114_6, rp114_6, al116, iA116, it116, rf114_7, rp114_7, al117, iA117, it117, rf114_8, rp114_8, al118, iA118, it118, rf114_9, rp114_9, al119, iA119, it119, rf114_10, rp114_10, al120, iA120, it120, rf114_16, rp114_16, al121, iA121, it121, rf114_17, rp114_17, al122, iA122, it122, rf114_18, rp114_18, al123, iA123, it123, rf114_19, rp114_19, al124, iA124, it124, rf114_20, rp114_20, al125, iA125, it125, rf114_21, rp114_21, al126, iA126, it126, rf114_22, rp114_22, al127, iA127, it127, rf114_23, rp114_23, al128, iA128, it128, rf114_27, rp114_27, al129, iA129, it129, rf114_28, rp114_28, al130, iA130, it130, rf114_29, rp114_29, al131, iA131, it131, rf114_30, rp114_30, al132, iA132, it132, rf114_31, rp114_31, al133, iA133, it133, rf114_41, rp114_41, al134, iA134, it134, rf114_42, rp114_42, al135, iA135, it135, rf114_44, rp114_44, al136, iA136, it136, rf114_45, rp114_45, al137, iA137, it137, rf114_55, rp114_55, al138, iA138, it138, rf114_56, rp114_56, al139, iA139, it139, rf114_57, rp114_57, al140, iA140, it140, rf114_58, rp114_58, al141, iA141, it141, rf114_59, rp114_59, al142, iA142, it142, rf114_60, rp114_60, al143, iA143, it143, rf114_61, rp114_61, al144, iA144, it144, rf114_62, rp114_62, al145, iA145, it145, rf114_63, rp114_63, al146, iA146, it146, rf114_64, rp114_64, al147, iA147, it147, rf114_66, rp114_66, al148, iA148, it148, rf114_67, rp114_67, al149, iA149, it149, rf114_68, rp114_68, al150, iA150, it150, rf114_69, rp114_69, al151, iA151, it151, rf114_70, rp114_70, al152, iA152, it152, al131, iA131, it131, al132, iA132, it132, e1, i1, i2, z1, bI_True, bI_False, nI_1, Nat.reduceLeDiff, Nat.reduceEqDiff, nb0, nb1, nbI, eq_self, ex_pr, tl_s, tl_n, if_true, if_false, not_true_eq_false, not_false_eq_true, and_self, and_false, false_and, and_true, true_and]
theorem s152 {s hx aw pr N w : Nat} {rw' : List Nat} {st : Option aW} (A : PRA pr n aw) (C : MY f D n s hx aw) (G : GM f W gb n) (hN : N ≤ 4) (hl : rw'.length = N) (hrw : ∀ j, j < N → f 131 j = nI (nuO (rw'.getD j 0))) (hw : f 133 N = nI w) (hw2 : w ≤ 24000) (B : BS f N st) : ∃ f', (∀ q j, q ≠ 132 → ¬ (q = 114 ∧ (j = 32 ∨ j = 33)) → f' q j = f q j) ∧ BS f' N (upw st (ga W pr s gb n 0, w, rw')) ∧ ∀ d r, Cl sc (d + 3) 152 [.ref (114 : Nat), .int (nI N)] (cS f g h1 h2) r ↔ r = (cS f' g h1 h2, none) := by
  have n7 := C.2.1
  have k1 := fun d r => @gnp sc f g h1 h2 n gb W D s hx aw pr A C G d r
  have i1 : inb (nI N) 5 = true := inb_nI (by omega) (by decide)
  have i2 : (nI N).toNatClampNeg = N := cl_nI (by omega)
  have gl := @ga_le W pr s gb n 0 (fun s _ h => (G s (by omega)).2.2)
  obtain ⟨gg, eg⟩ : ∃ gg, gg = ga W pr s gb n 0 := ⟨_, rfl⟩
  rw [← eg] at k1 gl ⊢
  have gl' : gg ≤ 693 := by omega
  -- it is taken
  have take : (st = none ∨ ∃ v, st = some v ∧ (v.1 < gg ∨ (gg = v.1 ∧ w < v.2.1))) → ∃ f', (∀ q j, q ≠ 132 → ¬ (q = 114 ∧ (j = 32 ∨ j = 33)) → f' q j = f q j) ∧ BS f' N (upw st (gg, w, rw')) ∧ ∀ d r, Cl sc (d + 3) 152 [.ref (114 : Nat), .int (nI N)] (cS f g h1 h2) r ↔ r = (cS f' g h1 h2, none) := fun hst => by
    obtain ⟨f0, e0⟩ : ∃ f0, f0 = u2 (u2 f 114 32 (nI gg)) 114 33 (nI w) := ⟨_, rfl⟩
    have L : ∀ d, ∃ f', (∀ q j, ¬ (q = 132 ∧ 0 ≤ j ∧ j < 4) → f' q j = f0 q j) ∧ (∀ j, 0 ≤ j → j < 4 → f' 132 j = f0 131 j) ∧ ∀ r, (Rn sc (d + 2) 152 59 [.ref (114 : Nat), .int (nI N), .int (nI gg), .int (nI 0)] [] (cS f0 g h1 h2) r ↔ r = (cS f' g h1 h2, none)) := fun d => l152 4 0 f0 rfl
    obtain ⟨f', A2, B2, -⟩ := L 0
    have k2 : ∀ d r, (Rn sc (d + 2) 152 59 [.ref (114 : Nat), .int (nI N), .int (nI gg), .int 0] [] (cS f0 g h1 h2) r ↔ r = (cS f' g h1 h2, none)) := fun d r => by
      obtain ⟨f2, A3, B3, k3⟩ := L d
      have : f2 = f' := by
        funext q j
        by_cases z : q = 132 ∧ 0 ≤ j ∧ j < 4
        · rw [z.1, B3 j z.2.1 z.2.2, B2 j z.2.1 z.2.2]
        · rw [A3 q j z, A2 q j z]
      rw [← this]
      exact k3 r
    have ud : upw st (gg, w, rw') = some (gg, w, rw') := by
      rcases hst with rfl | ⟨v, rfl, hv⟩
      · rfl
      · exact if_pos hv
    refine ⟨f', fun q j h h' => ?_, ?_, fun d r => ?_⟩
    · rw [A2 q j (by omega), e0, u2_nn (by omega), u2_nn (by omega)]
    · rw [ud]
      refine ⟨?_, ?_, gl', hw2, fun k hk => ?_⟩
      · rw [A2 _ _ (by omega), e0, u2_nn (by omega), u2_ss]
      · rw [A2 _ _ (by omega), e0, u2_ss]
      · rw [B2 k (Nat.zero_le _) (by omega), e0, u2_nn (by omega), u2_nn (by omega)]
        exact hrw k hk
    · rcases hst with rfl | ⟨v, rfl, hv⟩
      · have b0 : f 114 32 = -1 := B
        have e1 : (-1 : Int32) < 0 := by decide
        have st1 : cS (u2 (u2 f 114 32 (nI gg)) 114 33 (nI w)) g h1 h2 = cS f0 g h1 h2 := by rw [e0]
        simp only [c152, x152_0, x152_1, x152_4, x152_5, x152_6, x152_9, x152_12, x152_13, x152_14, x152_17, x152_20, x152_21, x152_22, x152_25, x152_28, x152_29, x152_32, x152_33, x152_34, x152_35, x152_38, x152_41, x152_42, x152_43, x152_44, x152_47, x152_48, x152_49, x152_52, x152_53, x152_54, x152_57, x152_58, x152_60, x152_61, x152_64, x152_65, x152_68, x152_69, x152_70, x152_73, x152_74, x152_75, x152_76, x152_79, x152_82, kp114, rf114_5, rp114_5, al115, iA115, it115, rf114_6, rp114_6, al116, iA116, it116, rf114_7, rp114_7, al117, iA117, it117, rf114_8, rp114_8, al118, iA118, it118, rf114_9, rp114_9, al119, iA119, it119, rf114_10, rp114_10, al120, iA120, it120, rf114_16, rp114_16, al121, iA121, it121, rf114_17, rp114_17, al122, iA122, it122, rf114_18, rp114_18, al123, iA123, it123, rf114_19, rp114_19, al124, iA124, it124, rf114_20, rp114_20, al125, iA125, it125, rf114_21, rp114_21, al126, iA126, it126, rf114_22, rp114_22, al127, iA127, it127, rf114_23, rp114_23, al128, iA128, it128, rf114_27, rp114_27, al129, iA129, it129, rf114_28, rp114_28, al130, iA130, it130, rf114_29, rp114_29, al131, iA131, it131, rf114_30, rp114_30, al132, iA132, it132, rf114_31, rp114_31, al133, iA133, it133, rf114_41, rp114_41, al134, iA134, it134, rf114_42, rp114_42, al135, iA135, it135, rf114_44, rp114_44, al136, iA136, it136, rf114_45, rp114_45, al137, iA137, it137, rf114_55, rp114_55, al138, iA138, it138, rf114_56, rp114_56, al139, iA139, it139, rf114_57, rp114_57, al140, iA140, it140, rf114_58, rp114_58, al141, iA141, it141, rf114_59, rp114_59, al142, iA142, it142, rf114_60, rp114_60, al143, iA143, it143, rf114_61, rp114_61, al144, iA144, it144, rf114_62, rp114_62, al145, iA145, it145, rf114_63, rp114_63, al146, iA146, it146, rf114_64, rp114_64, al147, iA147, it147, rf114_66, rp114_66, al148, iA148, it148, rf114_67, rp114_67, al149, iA149, it149, rf114_68, rp114_68, al150, iA150, it150, rf114_69, rp114_69, al151, iA151, it151, rf114_70, rp114_70, al152, iA152, it152, al133, iA133, it133, k1, b0, e1, u2_at, hw, i1, i2, st1, k2, bI_True, bI_False, nI_1, Nat.reduceLeDiff, Nat.reduceEqDiff, nb0, nb1, nbI, eq_self, ex_pr, tl_s, tl_n, if_true, if_false, not_true_eq_false, not_false_eq_true, and_self, and_false, false_and, and_true, true_and]
      · obtain ⟨b1, b2, b3, b4, b5⟩ := B
        have e1 : ¬ nI v.1 < 0 := nI_pos (by omega)
        have m1 := @nI_ltI gg v.1 (by omega) (by omega)
        have m2 := @nI_eq gg v.1 (by omega) (by omega)
        have m3 := @nI_ltI w v.2.1 (by omega) (by omega)
        have st1 : cS (u2 (u2 f 114 32 (nI gg)) 114 33 (nI w)) g h1 h2 = cS f0 g h1 h2 := by rw [e0]
        have z1 : ¬ gg < v.1 := by omega
        by_cases z2 : gg = v.1
        · have z3 : w < v.2.1 := by omega
          simp only [c152, x152_0, x152_1, x152_4, x152_5, x152_6, x152_9, x152_12, x152_13, x152_14, x152_17, x152_20, x152_21, x152_22, x152_25, x152_28, x152_29, x152_32, x152_33, x152_34, x152_35, x152_38, x152_41, x152_42, x152_43, x152_44, x152_47, x152_48, x152_49, x152_52, x152_53, x152_54, x152_57, x152_58, x152_60, x152_61, x152_64, x152_65, x152_68, x152_69, x152_70, x152_73, x152_74, x152_75, x152_76, x152_79, x152_82, kp114, rf114_5, rp114_5, al115, iA115, it115, rf114_6, rp114_6, al116, iA116, it116, rf114_7, rp114_7, al117, iA117, it117, rf114_8, rp114_8, al118, iA118, it118, rf114_9, rp114_9, al119, iA119, it119, rf114_10, rp114_10, al120, iA120, it120, rf114_16, rp114_16, al121, iA121, it121, rf114_17, rp114_17, al122, iA122, it122, rf114_18, rp114_18, al123, iA123, it123, rf114_19, rp114_19, al124, iA124, it124, rf114_20, rp114_20, al125, iA125, it125, rf114_21, rp114_21, al126, iA126, it126, rf114_22, rp114_22, al127, iA127, it127, rf114_23, rp114_23, al128, iA128, it128, rf114_27, rp114_27, al129, iA129, it129, rf114_28, rp114_28, al130, iA130, it130, rf114_29, rp114_29, al131, iA131, it131, rf114_30, rp114_30, al132, iA132, it132, rf114_31, rp114_31, al133, iA133, it133, rf114_41, rp114_41, al134, iA134, it134, rf114_42, rp114_42, al135, iA135, it135, rf114_44, rp114_44, al136, iA136, it136, rf114_45, rp114_45, al137, iA137, it137, rf114_55, rp114_55, al138, iA138, it138, rf114_56, rp114_56, al139, iA139, it139, rf114_57, rp114_57, al140, iA140, it140, rf114_58, rp114_58, al141, iA141, it141, rf114_59, rp114_59, al142, iA142, it142, rf114_60, rp114_60, al143, iA143, it143, rf114_61, rp114_61, al144, iA144, it144, rf114_62, rp114_62, al145, iA145, it145, rf114_63, rp114_63, al146, iA146, it146, rf114_64, rp114_64, al147, iA147, it147, rf114_66, rp114_66, al148, iA148, it148, rf114_67, rp114_67, al149, iA149, it149, rf114_68, rp114_68, al150, iA150, it150, rf114_69, rp114_69, al151, iA151, it151, rf114_70, rp114_70, al152, iA152, it152, al133, iA133, it133, k1, b1, b2, e1, m1, eq_false z1, m2, eq_true z2, m3, eq_true z3, u2_at, hw, i1, i2, st1, k2, bI_True, bI_False, nI_1, Nat.reduceLeDiff, Nat.reduceEqDiff, nb0, nb1, nbI, eq_self, ex_pr, tl_s, tl_n, if_true, if_false, not_true_eq_false, not_false_eq_true, and_self, and_false, false_and, and_true, true_and]
        · simp only [c152, x152_0, x152_1, x152_4, x152_5, x152_6, x152_9, x152_12, x152_13, x152_14, x152_17, x152_20, x152_21, x152_22, x152_25, x152_28, x152_29, x152_32, x152_33, x152_34, x152_35, x152_38, x152_41, x152_42, x152_43, x152_44, x152_47, x152_48, x152_49, x152_52, x152_53, x152_54, x152_57, x152_58, x152_60, x152_61, x152_64, x152_65, x152_68, x152_69, x152_70, x152_73, x152_74, x152_75, x152_76, x152_79, x152_82, kp114, rf114_5, rp114_5, al115, iA115, it115, rf114_6, rp114_6, al116, iA116, it116, rf114_7, rp114_7, al117, iA117, it117, rf114_8, rp114_8, al118, iA118, it118, rf114_9, rp114_9, al119, iA119, it119, rf114_10, rp114_10, al120, iA120, it120, rf114_16, rp114_16, al121, iA121, it121, rf114_17, rp114_17, al122, iA122, it122, rf114_18, rp114_18, al123, iA123, it123, rf114_19, rp114_19, al124, iA124, it124, rf114_20, rp114_20, al125, iA125, it125, rf114_21, rp114_21, al126, iA126, it126, rf114_22, rp114_22, al127, iA127, it127, rf114_23, rp114_23, al128, iA128, it128, rf114_27, rp114_27, al129, iA129, it129, rf114_28, rp114_28, al130, iA130, it130, rf114_29, rp114_29, al131, iA131, it131, rf114_30, rp114_30, al132, iA132, it132, rf114_31, rp114_31, al133, iA133, it133, rf114_41, rp114_41, al134, iA134, it134, rf114_42, rp114_42, al135, iA135, it135, rf114_44, rp114_44, al136, iA136, it136, rf114_45, rp114_45, al137, iA137, it137, rf114_55, rp114_55, al138, iA138, it138, rf114_56, rp114_56, al139, iA139, it139, rf114_57, rp114_57, al140, iA140, it140, rf114_58, rp114_58, al141, iA141, it141, rf114_59, rp114_59, al142, iA142, it142, rf114_60, rp114_60, al143, iA143, it143, rf114_61, rp114_61, al144, iA144, it144, rf114_62, rp114_62, al145, iA145, it145, rf114_63, rp114_63, al146, iA146, it146, rf114_64, rp114_64, al147, iA147, it147, rf114_66, rp114_66, al148, iA148, it148, rf114_67, rp114_67, al149, iA149, it149, rf114_68, rp114_68, al150, iA150, it150, rf114_69, rp114_69, al151, iA151, it151, rf114_70, rp114_70, al152, iA152, it152, al133, iA133, it133, k1, b1, b2, e1, m1, eq_false z1, m2, eq_false z2, u2_at, hw, i1, i2, st1, k2, bI_True, bI_False, nI_1, Nat.reduceLeDiff, Nat.reduceEqDiff, nb0, nb1, nbI, eq_self, ex_pr, tl_s, tl_n, if_true, if_false, not_true_eq_false, not_false_eq_true, and_self, and_false, false_and, and_true, true_and]
  cases st with
  | none => exact take (Or.inl rfl)
  | some v =>
    by_cases hv : v.1 < gg ∨ (gg = v.1 ∧ w < v.2.1)
    · exact take (Or.inr ⟨v, rfl, hv⟩)
    · have ud : upw (some v) (gg, w, rw') = some v := if_neg hv
      rw [ud]
      refine ⟨f, fun _ _ _ _ => rfl, B, fun d r => ?_⟩
      obtain ⟨b1, b2, b3, b4, b5⟩ := B
      have e1 : ¬ nI v.1 < 0 := nI_pos (by omega)
      have m1 := @nI_ltI gg v.1 (by omega) (by omega)
      have m2 := @nI_eq gg v.1 (by omega) (by omega)
      have m3 := @nI_ltI w v.2.1 (by omega) (by omega)
      by_cases z1 : gg < v.1
      · simp only [c152, x152_0, x152_1, x152_4, x152_5, x152_6, x152_9, x152_12, x152_13, x152_14, x152_17, x152_20, x152_21, x152_22, x152_25, x152_28, x152_29, x152_32, x152_33, x152_34, x152_35, x152_38, x152_41, x152_42, x152_43, x152_44, x152_47, x152_48, x152_49, x152_52, x152_53, x152_54, x152_57, x152_58, x152_60, x152_61, x152_64, x152_65, x152_68, x152_69, x152_70, x152_73, x152_74, x152_75, x152_76, x152_79, x152_82, kp114, rf114_5, rp114_5, al115, iA115, it115, rf114_6, rp114_6, al116, iA116, it116, rf114_7, rp114_7, al117, iA117, it117, rf114_8, rp114_8, al118, iA118, it118, rf114_9, rp114_9, al119, iA119, it119, rf114_10, rp114_10, al120, iA120, it120, rf114_16, rp114_16, al121, iA121, it121, rf114_17, rp114_17, al122, iA122, it122, rf114_18, rp114_18, al123, iA123, it123, rf114_19, rp114_19, al124, iA124, it124, rf114_20, rp114_20, al125, iA125, it125, rf114_21, rp114_21, al126, iA126, it126, rf114_22, rp114_22, al127, iA127, it127, rf114_23, rp114_23, al128, iA128, it128, rf114_27, rp114_27, al129, iA129, it129, rf114_28, rp114_28, al130, iA130, it130, rf114_29, rp114_29, al131, iA131, it131, rf114_30, rp114_30, al132, iA132, it132, rf114_31, rp114_31, al133, iA133, it133, rf114_41, rp114_41, al134, iA134, it134, rf114_42, rp114_42, al135, iA135, it135, rf114_44, rp114_44, al136, iA136, it136, rf114_45, rp114_45, al137, iA137, it137, rf114_55, rp114_55, al138, iA138, it138, rf114_56, rp114_56, al139, iA139, it139, rf114_57, rp114_57, al140, iA140, it140, rf114_58, rp114_58, al141, iA141, it141, rf114_59, rp114_59, al142, iA142, it142, rf114_60, rp114_60, al143, iA143, it143, rf114_61, rp114_61, al144, iA144, it144, rf114_62, rp114_62, al145, iA145, it145, rf114_63, rp114_63, al146, iA146, it146, rf114_64, rp114_64, al147, iA147, it147, rf114_66, rp114_66, al148, iA148, it148, rf114_67, rp114_67, al149, iA149, it149, rf114_68, rp114_68, al150, iA150, it150, rf114_69, rp114_69, al151, iA151, it151, rf114_70, rp114_70, al152, iA152, it152, al133, iA133, it133, k1, b1, b2, e1, m1, eq_true z1, bI_True, bI_False, nI_1, Nat.reduceLeDiff, Nat.reduceEqDiff, nb0, nb1, nbI, eq_self, ex_pr, tl_s, tl_n, if_true, if_false, not_true_eq_false, not_false_eq_true, and_self, and_false, false_and, and_true, true_and]
      · have z2 : gg = v.1 := by omega
        have z3 : ¬ w < v.2.1 := by omega
        simp only [c152, x152_0, x152_1, x152_4, x152_5, x152_6, x152_9, x152_12, x152_13, x152_14, x152_17, x152_20, x152_21, x152_22, x152_25, x152_28, x152_29, x152_32, x152_33, x152_34, x152_35, x152_38, x152_41, x152_42, x152_43, x152_44, x152_47, x152_48, x152_49, x152_52, x152_53, x152_54, x152_57, x152_58, x152_60, x152_61, x152_64, x152_65, x152_68, x152_69, x152_70, x152_73, x152_74, x152_75, x152_76, x152_79, x152_82, kp114, rf114_5, rp114_5, al115, iA115, it115, rf114_6, rp114_6, al116, iA116, it116, rf114_7, rp114_7, al117, iA117, it117, rf114_8, rp114_8, al118, iA118, it118, rf114_9, rp114_9, al119, iA119, it119, rf114_10, rp114_10, al120, iA120, it120, rf114_16, rp114_16, al121, iA121, it121, rf114_17, rp114_17, al122, iA122, it122, rf114_18, rp114_18, al123, iA123, it123, rf114_19, rp114_19, al124, iA124, it124, rf114_20, rp114_20, al125, iA125, it125, rf114_21, rp114_21, al126, iA126, it126, rf114_22, rp114_22, al127, iA127, it127, rf114_23, rp114_23, al128, iA128, it128, rf114_27, rp114_27, al129, iA129, it129, rf114_28, rp114_28, al130, iA130, it130, rf114_29, rp114_29, al131, iA131, it131, rf114_30, rp114_30, al132, iA132, it132, rf114_31, rp114_31, al133, iA133, it133, rf114_41, rp114_41, al134, iA134, it134, rf114_42, rp114_42, al135, iA135, it135, rf114_44, rp114_44, al136, iA136, it136, rf114_45, rp114_45, al137, iA137, it137, rf114_55, rp114_55, al138, iA138, it138, rf114_56, rp114_56, al139, iA139, it139, rf114_57, rp114_57, al140, iA140, it140, rf114_58, rp114_58, al141, iA141, it141, rf114_59, rp114_59, al142, iA142, it142, rf114_60, rp114_60, al143, iA143, it143, rf114_61, rp114_61, al144, iA144, it144, rf114_62, rp114_62, al145, iA145, it145, rf114_63, rp114_63, al146, iA146, it146, rf114_64, rp114_64, al147, iA147, it147, rf114_66, rp114_66, al148, iA148, it148, rf114_67, rp114_67, al149, iA149, it149, rf114_68, rp114_68, al150, iA150, it150, rf114_69, rp114_69, al151, iA151, it151, rf114_70, rp114_70, al152, iA152, it152, al133, iA133, it133, k1, b1, b2, e1, m1, eq_false z1, m2, eq_true z2, m3, eq_false z3, hw, i1, i2, bI_True, bI_False, nI_1, Nat.reduceLeDiff, Nat.reduceEqDiff, nb0, nb1, nbI, eq_self, ex_pr, tl_s, tl_n, if_true, if_false, not_true_eq_false, not_false_eq_true, and_self, and_false, false_and, and_true, true_and]
end BM
