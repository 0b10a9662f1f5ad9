/-! run, sledge, feed -/
/-- what of the text is told anew -/
def txc (q k : Nat) : Prop := (q = 18 ∧ k = 1) ∨ q = 19 ∨ q = 121 ∨ (q = 114 ∧ k = 13)
def FyT (f f' : Nat → Nat → Int32) : Prop := ∀ q k, ¬ scq q k → ¬ txc q k → f' q k = f q k
theorem FyT.trans {f f' f2 : Nat → Nat → Int32} (a : FyT f f') (b : FyT f' f2) : FyT f f2 := fun q k h h2 => (b q k h h2).trans (a q k h h2)
theorem Fq.fyt {f f' : Nat → Nat → Int32} (h : Fq f f') : FyT f f' := fun q k a _ => h q k a
theorem FyT.u {f : Nat → Nat → Int32} {q k : Nat} {x : Int32} (h : txc q k) : FyT f (u2 f q k x) := fun a b _ hq => u2_nn (fun e => hq (by rw [e.1, e.2]; exact h))
theorem FyT.row {f f' : Nat → Nat → Int32} (h : FyT f f') {q : Nat} (hq : ∀ k, ¬ scq q k) (h2 : ∀ k, ¬ txc q k) : f' q = f q := funext fun k => h q k (hq k) (h2 k)
theorem XP.txt {f : Nat → Nat → Int32} {g : Nat → Nat → Int64} {h1 h2 : Nat} {n hr wn dk sd gb pc bc : Nat} {W : Nat → Nat} {D : aD} {hc : Nat} {HS : Nat → aH} {f' : Nat → Nat → Int32} (X : XP f g h1 h2 n hr wn dk sd gb pc bc W D hc HS) (F : FyT f f') (T : XTx f') : XP f' g h1 h2 n hr wn dk sd gb pc bc W D hc HS := by
  have R : ∀ q, (∀ k, ¬ scq q k) → (∀ k, ¬ txc q k) → f' q = f q := fun q hq h2 => F.row hq h2
  have M : ∀ k, ¬ scq 114 k → ¬ txc 114 k → f' 114 k = f 114 k := fun k hk h2 => F 114 k hk h2
  refine ⟨X.d.fr (R 56 (fun k => by unfold scq; omega) (fun k => by unfold txc; omega)) (fun j h1 h2 => R _ (fun k => by unfold scq; omega) (fun k => by unfold txc; omega)) (fun k hk => ?_) (fun j h1 h2 => ?_), ?_, X.q.fr (fun q hq => R q (fun k => by unfold scq; omega) (fun k => by unfold txc; omega)) (F 17 5 (by unfold scq; omega) (by unfold txc; omega)) (M 11 (by unfold scq; omega) (by unfold txc; omega)), X.i.fr (fun q hq => R q (fun k => by unfold scq; omega) (fun k => by unfold txc; omega)) (F 17 2 (by unfold scq; omega) (by unfold txc; omega)) (fun k h1 h2 => M k (by unfold scq; omega) (by unfold txc; omega)), X.t.fr (fun q hq => R q (fun k => by unfold scq; omega) (fun k => by unfold txc; omega)), X.a.fr (F 49 1 (by unfold scq; omega) (by unfold txc; omega)) (R 50 (fun k => by unfold scq; omega) (fun k => by unfold txc; omega)) (R 148 (fun k => by unfold scq; omega) (fun k => by unfold txc; omega)) (M 65 (by unfold scq; omega) (by unfold txc; omega)), T, ?_, ?_⟩
  · rcases (show k = 0 ∨ k = 1 ∨ k = 2 ∨ k = 3 ∨ k = 4 ∨ k = 5 ∨ k = 6 ∨ k = 7 by omega) with rfl | rfl | rfl | rfl | rfl | rfl | rfl | rfl
    · exact M 0 (by unfold scq; omega) (by unfold txc; omega)
    · exact M 1 (by unfold scq; omega) (by unfold txc; omega)
    · exact M 2 (by unfold scq; omega) (by unfold txc; omega)
    · exact M 3 (by unfold scq; omega) (by unfold txc; omega)
    · exact M 12 (by unfold scq; omega) (by unfold txc; omega)
    · exact M 37 (by unfold scq; omega) (by unfold txc; omega)
    · exact M 40 (by unfold scq; omega) (by unfold txc; omega)
    · exact M 43 (by unfold scq; omega) (by unfold txc; omega)
  · rcases (show j = 1 ∨ j = 2 ∨ j = 3 ∨ j = 4 ∨ j = 5 ∨ j = 6 ∨ j = 7 ∨ j = 8 ∨ j = 9 ∨ j = 10 by omega) with rfl | rfl | rfl | rfl | rfl | rfl | rfl | rfl | rfl | rfl
    · exact R 115 (fun k => by unfold scq; omega) (fun k => by unfold txc; omega)
    · exact R 116 (fun k => by unfold scq; omega) (fun k => by unfold txc; omega)
    · exact R 117 (fun k => by unfold scq; omega) (fun k => by unfold txc; omega)
    · exact R 118 (fun k => by unfold scq; omega) (fun k => by unfold txc; omega)
    · exact R 119 (fun k => by unfold scq; omega) (fun k => by unfold txc; omega)
    · exact R 120 (fun k => by unfold scq; omega) (fun k => by unfold txc; omega)
    · exact R 134 (fun k => by unfold scq; omega) (fun k => by unfold txc; omega)
    · exact R 135 (fun k => by unfold scq; omega) (fun k => by unfold txc; omega)
    · exact R 136 (fun k => by unfold scq; omega) (fun k => by unfold txc; omega)
    · exact R 137 (fun k => by unfold scq; omega) (fun k => by unfold txc; omega)
  · have e : nT f' 4 = nT f 4 := M 12 (by unfold scq; omega) (by unfold txc; omega)
    rw [e]
    exact X.h
  · rw [M 4 (by unfold scq; omega) (by unfold txc; omega)]
    exact X.w
  · intro k hk
    rw [R 129 (fun k => by unfold scq; omega) (fun k => by unfold txc; omega)]
    exact X.l k hk
theorem by8 : ∀ b, b ≤ 127 → (nI b).toInt8.toInt32 = nI b := by
  intro b hb
  have h : ∀ b, b < 128 → (nI b).toInt8.toInt32 = nI b := by decide +kernel
  exact h b (by omega)
section M3
variable {sc : aSc} {d : Nat} {r : aRes} {f : Nat → Nat → Int32} {g : Nat → Nat → Int64} {h1 h2 : Nat} {n hr wn dk sd gb pc bc : Nat} {W : Nat → Nat} {D : aD} {hc : Nat} {HS : Nat → aH} {σ : aS}
theorem op_feed (X : XP f g h1 h2 n hr wn dk sd gb pc bc W D hc HS) (x0 : Int32) : OPI sc (d + 30) 70 113 [.int x0] f g h1 h2 := by
  by_cases w : ¬ x0 < 0 ∧ ¬ 127 < x0
  rotate_left
  · refine opi_q (v := -2) X (qc0 ?_) fun f1 X1 => qc0 ?_
    · simp only [c70, x70_0, x70_1, x70_3, x70_6, x70_9, x70_11, x70_12, x70_13, x70_16, x70_17, x70_20, x70_23, x70_24, x70_27, x70_30, x70_33, x70_35, kp17, rf17_0, rp17_0, rf17_1, rp17_1, rf17_3, rp17_3, rf17_4, rp17_4, al20, iA20, iG20, rf17_6, rp17_6, rf17_7, rp17_7, rf17_8, rp17_8, al51, iA51, iG51, s102, bI_f w, bI_True, bI_False, nI_1, Nat.reduceLeDiff, Nat.reduceEqDiff, nb0, nb1, nbI, eq_self, ex_pr, tl_s, tl_n, if_true, if_false, not_true_eq_false, not_false_eq_true, and_self, and_false, false_and, and_true, true_and]
    · simp only [c113, x113_0, x113_1, x113_2, x113_3, x113_5, x113_8, x113_11, x113_13, x113_14, x113_15, x113_18, x113_20, x113_23, x113_25, x113_26, x113_27, x113_30, x113_31, x113_34, x113_35, x113_36, x113_37, x113_38, x113_41, x113_42, x113_43, x113_46, x113_47, x113_50, kp114, rf114_5, rp114_5, al115, iA115, it115, rf114_6, rp114_6, al116, iA116, it116, rf114_7, rp114_7, al117, iA117, it117, rf114_8, rp114_8, al118, iA118, it118, rf114_9, rp114_9, al119, iA119, it119, rf114_10, rp114_10, al120, iA120, it120, rf114_16, rp114_16, al121, iA121, it121, rf114_17, rp114_17, al122, iA122, it122, rf114_18, rp114_18, al123, iA123, it123, rf114_19, rp114_19, al124, iA124, it124, rf114_20, rp114_20, al125, iA125, it125, rf114_21, rp114_21, al126, iA126, it126, rf114_22, rp114_22, al127, iA127, it127, rf114_23, rp114_23, al128, iA128, it128, rf114_27, rp114_27, al129, iA129, it129, rf114_28, rp114_28, al130, iA130, it130, rf114_29, rp114_29, al131, iA131, it131, rf114_30, rp114_30, al132, iA132, it132, rf114_31, rp114_31, al133, iA133, it133, rf114_41, rp114_41, al134, iA134, it134, rf114_42, rp114_42, al135, iA135, it135, rf114_44, rp114_44, al136, iA136, it136, rf114_45, rp114_45, al137, iA137, it137, rf114_55, rp114_55, al138, iA138, it138, rf114_56, rp114_56, al139, iA139, it139, rf114_57, rp114_57, al140, iA140, it140, rf114_58, rp114_58, al141, iA141, it141, rf114_59, rp114_59, al142, iA142, it142, rf114_60, rp114_60, al143, iA143, it143, rf114_61, rp114_61, al144, iA144, it144, rf114_62, rp114_62, al145, iA145, it145, rf114_63, rp114_63, al146, iA146, it146, rf114_64, rp114_64, al147, iA147, it147, rf114_66, rp114_66, al148, iA148, it148, rf114_67, rp114_67, al149, iA149, it149, rf114_68, rp114_68, al150, iA150, it150, rf114_69, rp114_69, al151, iA151, it151, rf114_70, rp114_70, al152, iA152, it152, s108, bI_f w, bI_True, bI_False, nI_1, Nat.reduceLeDiff, Nat.reduceEqDiff, nb0, nb1, nbI, eq_self, ex_pr, tl_s, tl_n, if_true, if_false, not_true_eq_false, not_false_eq_true, and_self, and_false, false_and, and_true, true_and]
  obtain ⟨b, hb, rfl⟩ := (rng (m := 127) (by decide)).mp w
  obtain ⟨L, hL, t1, t2, t3⟩ := X.x
  have q1 := @nI_ltI L 100 (by omega) (by decide)
  have q2 := @nI_eq L 100 (by omega) (by decide)
  have e100 : nI 100 = 100 := rfl
  rw [e100] at q1 q2
  by_cases y : L = 100
  · have y1 : ¬ L < 100 := by omega
    refine opi_q2 (v := -4) X (qc0 ?_) fun f1 F1 X1 => qc0 ?_
    · simp only [c70, x70_0, x70_1, x70_3, x70_6, x70_9, x70_11, x70_12, x70_13, x70_16, x70_17, x70_20, x70_23, x70_24, x70_27, x70_30, x70_33, x70_35, kp17, rf17_0, rp17_0, rf17_1, rp17_1, rf17_3, rp17_3, rf17_4, rp17_4, al20, iA20, iG20, rf17_6, rp17_6, rf17_7, rp17_7, rf17_8, rp17_8, al51, iA51, iG51, s102, bI_t w, zi1, c55, x55_0, x55_1, x55_4, x55_6, x55_9, x55_10, x55_11, x55_12, x55_15, x55_16, x55_19, x55_20, x55_21, x55_22, x55_23, x55_24, x55_27, x55_28, x55_29, x55_32, x55_33, kp18, rf18_0, rp18_0, al19, iA19, it19, t1, q1, y1, bI_True, bI_False, nI_1, Nat.reduceLeDiff, Nat.reduceEqDiff, nb0, nb1, nbI, eq_self, ex_pr, tl_s, tl_n, if_true, if_false, not_true_eq_false, not_false_eq_true, and_self, and_false, false_and, and_true, true_and]
    · have t2' : f1 114 13 = nI L := by rw [F1 114 13 (by unfold scq; omega)]; exact t2
      simp only [c113, x113_0, x113_1, x113_2, x113_3, x113_5, x113_8, x113_11, x113_13, x113_14, x113_15, x113_18, x113_20, x113_23, x113_25, x113_26, x113_27, x113_30, x113_31, x113_34, x113_35, x113_36, x113_37, x113_38, x113_41, x113_42, x113_43, x113_46, x113_47, x113_50, kp114, rf114_5, rp114_5, al115, iA115, it115, rf114_6, rp114_6, al116, iA116, it116, rf114_7, rp114_7, al117, iA117, it117, rf114_8, rp114_8, al118, iA118, it118, rf114_9, rp114_9, al119, iA119, it119, rf114_10, rp114_10, al120, iA120, it120, rf114_16, rp114_16, al121, iA121, it121, rf114_17, rp114_17, al122, iA122, it122, rf114_18, rp114_18, al123, iA123, it123, rf114_19, rp114_19, al124, iA124, it124, rf114_20, rp114_20, al125, iA125, it125, rf114_21, rp114_21, al126, iA126, it126, rf114_22, rp114_22, al127, iA127, it127, rf114_23, rp114_23, al128, iA128, it128, rf114_27, rp114_27, al129, iA129, it129, rf114_28, rp114_28, al130, iA130, it130, rf114_29, rp114_29, al131, iA131, it131, rf114_30, rp114_30, al132, iA132, it132, rf114_31, rp114_31, al133, iA133, it133, rf114_41, rp114_41, al134, iA134, it134, rf114_42, rp114_42, al135, iA135, it135, rf114_44, rp114_44, al136, iA136, it136, rf114_45, rp114_45, al137, iA137, it137, rf114_55, rp114_55, al138, iA138, it138, rf114_56, rp114_56, al139, iA139, it139, rf114_57, rp114_57, al140, iA140, it140, rf114_58, rp114_58, al141, iA141, it141, rf114_59, rp114_59, al142, iA142, it142, rf114_60, rp114_60, al143, iA143, it143, rf114_61, rp114_61, al144, iA144, it144, rf114_62, rp114_62, al145, iA145, it145, rf114_63, rp114_63, al146, iA146, it146, rf114_64, rp114_64, al147, iA147, it147, rf114_66, rp114_66, al148, iA148, it148, rf114_67, rp114_67, al149, iA149, it149, rf114_68, rp114_68, al150, iA150, it150, rf114_69, rp114_69, al151, iA151, it151, rf114_70, rp114_70, al152, iA152, it152, s108, bI_t w, zi1, t2', q2, eq_true y, bI_True, bI_False, nI_1, Nat.reduceLeDiff, Nat.reduceEqDiff, nb0, nb1, nbI, eq_self, ex_pr, tl_s, tl_n, if_true, if_false, not_true_eq_false, not_false_eq_true, and_self, and_false, false_and, and_true, true_and]
  · have y1 : L < 100 := by omega
    have i1 : inb (nI L) 100 = true := inb_nI (by omega) (by decide)
    have i2 : (nI L).toNatClampNeg = L := cl_nI (by omega)
    have i3 : inb (nI L) 100 = true := inb_nI (by omega) (by decide)
    have bb := by8 b hb
    have T : XTx (u2 (u2 (u2 (u2 f 19 L (nI b)) 18 1 (nI (L + 1))) 121 L (nI b)) 114 13 (nI (L + 1))) := by
      refine ⟨L + 1, by omega, by simp only [u2_at, Nat.reduceEqDiff, eq_self, false_and, and_false, if_false, true_and, and_self, and_true, if_true], u2_ss, fun i hi => ?_⟩
      by_cases e : i = L
      · subst e
        exact ⟨b, hb, by simp only [u2_at, Nat.reduceEqDiff, eq_self, false_and, and_false, if_false, true_and, and_self, and_true, if_true], by simp only [u2_at, Nat.reduceEqDiff, eq_self, false_and, and_false, if_false, true_and, and_self, and_true, if_true]⟩
      · obtain ⟨c, hc, e1⟩ := t3 i (by omega)
        refine ⟨c, hc, ?_⟩
        simp only [u2_at, Nat.reduceEqDiff, eq_self, false_and, and_false, if_false, true_and, and_self, and_true, if_true, e]
        exact e1
    refine opi_m (v := nI (L + 1)) (f1 := u2 (u2 f 19 L (nI b)) 18 1 (nI (L + 1))) (f' := u2 (u2 (u2 (u2 f 19 L (nI b)) 18 1 (nI (L + 1))) 121 L (nI b)) 114 13 (nI (L + 1))) ?_ ?_ (X.txt ((((FyT.u (by unfold txc; omega)).trans (FyT.u (by unfold txc; omega))).trans (FyT.u (by unfold txc; omega))).trans (FyT.u (by unfold txc; omega))) T).xs
    · simp only [c70, x70_0, x70_1, x70_3, x70_6, x70_9, x70_11, x70_12, x70_13, x70_16, x70_17, x70_20, x70_23, x70_24, x70_27, x70_30, x70_33, x70_35, kp17, rf17_0, rp17_0, rf17_1, rp17_1, rf17_3, rp17_3, rf17_4, rp17_4, al20, iA20, iG20, rf17_6, rp17_6, rf17_7, rp17_7, rf17_8, rp17_8, al51, iA51, iG51, s102, bI_t w, zi1, c55, x55_0, x55_1, x55_4, x55_6, x55_9, x55_10, x55_11, x55_12, x55_15, x55_16, x55_19, x55_20, x55_21, x55_22, x55_23, x55_24, x55_27, x55_28, x55_29, x55_32, x55_33, kp18, rf18_0, rp18_0, al19, iA19, it19, u2_at, t1, q1, y1, i1, i2, bb, bI_True, bI_False, nI_1, Nat.reduceLeDiff, Nat.reduceEqDiff, nb0, nb1, nbI, eq_self, ex_pr, tl_s, tl_n, if_true, if_false, not_true_eq_false, not_false_eq_true, and_self, and_false, false_and, and_true, true_and]
    · simp only [c113, x113_0, x113_1, x113_2, x113_3, x113_5, x113_8, x113_11, x113_13, x113_14, x113_15, x113_18, x113_20, x113_23, x113_25, x113_26, x113_27, x113_30, x113_31, x113_34, x113_35, x113_36, x113_37, x113_38, x113_41, x113_42, x113_43, x113_46, x113_47, x113_50, kp114, rf114_5, rp114_5, al115, iA115, it115, rf114_6, rp114_6, al116, iA116, it116, rf114_7, rp114_7, al117, iA117, it117, rf114_8, rp114_8, al118, iA118, it118, rf114_9, rp114_9, al119, iA119, it119, rf114_10, rp114_10, al120, iA120, it120, rf114_16, rp114_16, al121, iA121, it121, rf114_17, rp114_17, al122, iA122, it122, rf114_18, rp114_18, al123, iA123, it123, rf114_19, rp114_19, al124, iA124, it124, rf114_20, rp114_20, al125, iA125, it125, rf114_21, rp114_21, al126, iA126, it126, rf114_22, rp114_22, al127, iA127, it127, rf114_23, rp114_23, al128, iA128, it128, rf114_27, rp114_27, al129, iA129, it129, rf114_28, rp114_28, al130, iA130, it130, rf114_29, rp114_29, al131, iA131, it131, rf114_30, rp114_30, al132, iA132, it132, rf114_31, rp114_31, al133, iA133, it133, rf114_41, rp114_41, al134, iA134, it134, rf114_42, rp114_42, al135, iA135, it135, rf114_44, rp114_44, al136, iA136, it136, rf114_45, rp114_45, al137, iA137, it137, rf114_55, rp114_55, al138, iA138, it138, rf114_56, rp114_56, al139, iA139, it139, rf114_57, rp114_57, al140, iA140, it140, rf114_58, rp114_58, al141, iA141, it141, rf114_59, rp114_59, al142, iA142, it142, rf114_60, rp114_60, al143, iA143, it143, rf114_61, rp114_61, al144, iA144, it144, rf114_62, rp114_62, al145, iA145, it145, rf114_63, rp114_63, al146, iA146, it146, rf114_64, rp114_64, al147, iA147, it147, rf114_66, rp114_66, al148, iA148, it148, rf114_67, rp114_67, al149, iA149, it149, rf114_68, rp114_68, al150, iA150, it150, rf114_69, rp114_69, al151, iA151, it151, rf114_70, rp114_70, al152, iA152, it152, s108, bI_t w, zi1, u2_at, t2, q2, eq_false y, i3, i2, bI_True, bI_False, nI_1, Nat.reduceLeDiff, Nat.reduceEqDiff, nb0, nb1, nbI, eq_self, ex_pr, tl_s, tl_n, if_true, if_false, not_true_eq_false, not_false_eq_true, and_self, and_false, false_and, and_true, true_and]
end M3
