/-! a clause's head; a clause's E -/
def HDO (C : Nat → Int32) (p p1 w : Nat) : Prop := (w = 1 ∧ C p = nI 115 ∧ C (p + 1) = nI 108 ∧ amf C (fun i => (sW 5).getD i 0) 5 0 (p + 1) = 5 ∧ p1 = p + 6) ∨ (w = 0 ∧ C p = nI 115 ∧ ¬ C (p + 1) = nI 108 ∧ amf C (fun i => (sW 6).getD i 0) 4 0 (p + 1) = 4 ∧ p1 = p + 5) ∨ (w = 2 ∧ C p = nI 110 ∧ amf C (fun i => (sW 8).getD i 0) 5 0 p = 5 ∧ p1 = p + 5) ∨ (w = 3 ∧ C p = nI 114 ∧ amf C (fun i => (sW 7).getD i 0) 5 0 p = 5 ∧ p1 = p + 5)
def HDF (C : Nat → Int32) (p p1 : Nat) : Prop := (C p = nI 115 ∧ C (p + 1) = nI 108 ∧ ¬ amf C (fun i => (sW 5).getD i 0) 5 0 (p + 1) = 5 ∧ p1 = p + 1 + amf C (fun i => (sW 5).getD i 0) 5 0 (p + 1)) ∨ (C p = nI 115 ∧ ¬ C (p + 1) = nI 108 ∧ ¬ amf C (fun i => (sW 6).getD i 0) 4 0 (p + 1) = 4 ∧ p1 = p + 1 + amf C (fun i => (sW 6).getD i 0) 4 0 (p + 1)) ∨ (C p = nI 110 ∧ ¬ amf C (fun i => (sW 8).getD i 0) 5 0 p = 5 ∧ p1 = p + amf C (fun i => (sW 8).getD i 0) 5 0 p) ∨ (C p = nI 114 ∧ ¬ amf C (fun i => (sW 7).getD i 0) 5 0 p = 5 ∧ p1 = p + amf C (fun i => (sW 7).getD i 0) 5 0 p) ∨ (¬ C p = nI 115 ∧ ¬ C p = nI 110 ∧ ¬ C p = nI 114 ∧ p1 = p)
theorem sW_b (q i : Nat) : (sW q).getD i 0 < 2147483648 := by
  have h : ∀ l : List Nat, (∀ x, x ∈ l → x < 2147483648) → ∀ i, l.getD i 0 < 2147483648 := fun l hl i => by
    rw [List.getD_eq_getElem?_getD]
    cases e : l[i]? with
    | none => decide
    | some x => exact hl x (List.mem_of_getElem? e)
  refine h _ ?_ i
  unfold sW
  split <;> decide
theorem hd_alt {C : Nat → Int32} {L p : Nat} (T : TXC C L) (hp : p ≤ L) : (∃ p1, p ≤ p1 ∧ p1 ≤ L ∧ HDF C p p1) ∨ ∃ p1 w, w ≤ 3 ∧ p < p1 ∧ p1 ≤ L ∧ HDO C p p1 w := by
  have al := fun q k p h => @amf_le C (fun i => (sW q).getD i 0) L T (fun i => sW_b q i) k 0 p h
  by_cases a : C p = nI 115
  · have pl := T.lt a (by decide)
    by_cases b : C (p + 1) = nI 108
    · have := al 5 5 (p + 1) (by omega)
      by_cases c : amf C (fun i => (sW 5).getD i 0) 5 0 (p + 1) = 5
      · exact Or.inr ⟨p + 6, 1, by omega, by omega, by omega, Or.inl ⟨rfl, a, b, c, rfl⟩⟩
      · exact Or.inl ⟨_, by omega, by omega, Or.inl ⟨a, b, c, rfl⟩⟩
    · have := al 6 4 (p + 1) (by omega)
      by_cases c : amf C (fun i => (sW 6).getD i 0) 4 0 (p + 1) = 4
      · exact Or.inr ⟨p + 5, 0, by omega, by omega, by omega, Or.inr (Or.inl ⟨rfl, a, b, c, rfl⟩)⟩
      · exact Or.inl ⟨_, by omega, by omega, Or.inr (Or.inl ⟨a, b, c, rfl⟩)⟩
  by_cases a2 : C p = nI 110
  · have := al 8 5 p hp
    by_cases c : amf C (fun i => (sW 8).getD i 0) 5 0 p = 5
    · exact Or.inr ⟨p + 5, 2, by omega, by omega, by omega, Or.inr (Or.inr (Or.inl ⟨rfl, a2, c, rfl⟩))⟩
    · exact Or.inl ⟨_, by omega, by omega, Or.inr (Or.inr (Or.inl ⟨a2, c, rfl⟩))⟩
  by_cases a3 : C p = nI 114
  · have := al 7 5 p hp
    by_cases c : amf C (fun i => (sW 7).getD i 0) 5 0 p = 5
    · exact Or.inr ⟨p + 5, 3, by omega, by omega, by omega, Or.inr (Or.inr (Or.inr ⟨rfl, a3, c, rfl⟩))⟩
    · exact Or.inl ⟨_, by omega, by omega, Or.inr (Or.inr (Or.inr (Or.inl ⟨a3, c, rfl⟩)))⟩
  exact Or.inl ⟨p, by omega, hp, Or.inr (Or.inr (Or.inr (Or.inr ⟨a, a2, a3, rfl⟩)))⟩
/-- the class's marks of a head -/
def faW (w : Nat) : Nat := if w ≤ 1 then 1 else 0
def slW (w : Nat) : Nat := if w = 1 then 1 else 0
def roW (w : Nat) : Nat := if w = 3 then 1 else 0
section CLa
variable {sc : aSc} {d : Nat} {r : aRes} {f : Nat → Nat → Int32} {g : Nat → Nat → Int64} {h1 h2 : Nat} {C : Nat → Int32} {L p t cc a : Nat}
theorem h57o {o p1 w : Nat} (T : TXC C L) (K : KT f C L p) (h : HDO C p p1 w) : Rn sc (d + 6) 57 0 [.ref (18 : Nat), .ref o, mk0, mk0, mk0, mk0] [] (cS f g h1 h2) r ↔ Rn sc (d + 6) 57 85 [.ref (18 : Nat), .ref o, .int (nI (faW w)), .int (nI (slW w)), .int (nI (roW w)), mk0] [] (cS (u2 f 18 2 (nI p1)) g h1 h2) r := by
  have i3 := fun d r => @s211 sc d r f g h1 h2 C L p T K
  have ka := K.2.1
  have t115 : nI 115 = 115 := rfl
  rcases h with ⟨rfl, a1, a2, a3, rfl⟩ | ⟨rfl, a1, a2, a3, rfl⟩ | ⟨rfl, a1, a3, rfl⟩ | ⟨rfl, a1, a3, rfl⟩
  · have pl := T.lt a1 (by decide)
    have k1 := fun d r => @s62t sc d r f g h1 h2 C L p 115 T K a1
    have K1 := K.mv (p' := p + 1) (by omega)
    have j3 := fun d r => @s211 sc d r _ g h1 h2 C L (p + 1) T K1
    have k2 := fun d r => @s63 sc d r _ g h1 h2 C L (p + 1) 5 stf5 T K1
    have l5 : (sW 5).length = 5 := rfl
    have t108 : nI 108 = 108 := rfl
    rw [a2, t108] at j3
    rw [l5, a3, bI_t rfl, u2_u2, show p + 1 + 5 = p + 6 by omega] at k2
    rw [t115] at k1
    have e1 : faW 1 = 1 := rfl
    have e2 : slW 1 = 1 := rfl
    have e3 : roW 1 = 0 := rfl
    rw [e1, e2, e3, lt0, lt1]
    simp only [x57_0, x57_1, x57_3, x57_6, x57_7, x57_8, x57_11, x57_12, x57_15, x57_17, x57_20, x57_21, x57_24, x57_25, x57_26, x57_27, x57_30, x57_31, x57_34, x57_36, x57_39, x57_40, x57_43, x57_44, x57_46, x57_47, x57_48, x57_51, x57_53, x57_56, x57_57, x57_60, x57_62, x57_65, x57_67, x57_70, x57_72, x57_75, x57_77, x57_80, kp18, rf18_0, rp18_0, al19, iA19, it19, al19, iA19, it19, k1, zi1, j3, k2, bI_True, bI_False, nI_1, Nat.reduceLeDiff, Nat.reduceEqDiff, nb0, nb1, nbI, eq_self, ex_pr, tl_s, tl_n, if_true, if_false, not_true_eq_false, not_false_eq_true, and_self, and_false, false_and, and_true, true_and]
  · have pl := T.lt a1 (by decide)
    have k1 := fun d r => @s62t sc d r f g h1 h2 C L p 115 T K a1
    have K1 := K.mv (p' := p + 1) (by omega)
    have j3 := fun d r => @s211 sc d r _ g h1 h2 C L (p + 1) T K1
    have k2 := fun d r => @s63 sc d r _ g h1 h2 C L (p + 1) 6 stf6 T K1
    have l5 : (sW 6).length = 4 := rfl
    have n108 : ¬ C (p + 1) = 108 := a2
    rw [l5, a3, bI_t rfl, u2_u2, show p + 1 + 4 = p + 5 by omega] at k2
    rw [t115] at k1
    have e1 : faW 0 = 1 := rfl
    have e2 : slW 0 = 0 := rfl
    have e3 : roW 0 = 0 := rfl
    rw [e1, e2, e3, lt0, lt1]
    simp only [x57_0, x57_1, x57_3, x57_6, x57_7, x57_8, x57_11, x57_12, x57_15, x57_17, x57_20, x57_21, x57_24, x57_25, x57_26, x57_27, x57_30, x57_31, x57_34, x57_36, x57_39, x57_40, x57_43, x57_44, x57_46, x57_47, x57_48, x57_51, x57_53, x57_56, x57_57, x57_60, x57_62, x57_65, x57_67, x57_70, x57_72, x57_75, x57_77, x57_80, kp18, rf18_0, rp18_0, al19, iA19, it19, al19, iA19, it19, k1, zi1, j3, n108, k2, bI_True, bI_False, nI_1, Nat.reduceLeDiff, Nat.reduceEqDiff, nb0, nb1, nbI, eq_self, ex_pr, tl_s, tl_n, if_true, if_false, not_true_eq_false, not_false_eq_true, and_self, and_false, false_and, and_true, true_and]
  · have n115 : ¬ C p = nI 115 := by rw [a1]; decide
    have k1 := fun d r => @s62f sc d r f g h1 h2 C L p 115 T K n115
    have k2 := fun d r => @s63 sc d r _ g h1 h2 C L p 8 stf8 T K
    have l5 : (sW 8).length = 5 := rfl
    have n114 : ¬ C p = 114 := by rw [a1]; decide
    rw [l5, a3, bI_t rfl] at k2
    rw [t115] at k1
    have e1 : faW 2 = 0 := rfl
    have e2 : slW 2 = 0 := rfl
    have e3 : roW 2 = 0 := rfl
    rw [e1, e2, e3, lt0]
    simp only [x57_0, x57_1, x57_3, x57_6, x57_7, x57_8, x57_11, x57_12, x57_15, x57_17, x57_20, x57_21, x57_24, x57_25, x57_26, x57_27, x57_30, x57_31, x57_34, x57_36, x57_39, x57_40, x57_43, x57_44, x57_46, x57_47, x57_48, x57_51, x57_53, x57_56, x57_57, x57_60, x57_62, x57_65, x57_67, x57_70, x57_72, x57_75, x57_77, x57_80, kp18, rf18_0, rp18_0, al19, iA19, it19, al19, iA19, it19, k1, zi1, i3, n114, k2, bI_True, bI_False, nI_1, Nat.reduceLeDiff, Nat.reduceEqDiff, nb0, nb1, nbI, eq_self, ex_pr, tl_s, tl_n, if_true, if_false, not_true_eq_false, not_false_eq_true, and_self, and_false, false_and, and_true, true_and]
  · have n115 : ¬ C p = nI 115 := by rw [a1]; decide
    have k1 := fun d r => @s62f sc d r f g h1 h2 C L p 115 T K n115
    have k2 := fun d r => @s63 sc d r _ g h1 h2 C L p 7 stf7 T K
    have l5 : (sW 7).length = 5 := rfl
    have n114 : C p = 114 := a1
    rw [l5, a3, bI_t rfl] at k2
    rw [t115] at k1
    have e1 : faW 3 = 0 := rfl
    have e2 : slW 3 = 0 := rfl
    have e3 : roW 3 = 1 := rfl
    rw [e1, e2, e3, lt0, lt1]
    simp only [x57_0, x57_1, x57_3, x57_6, x57_7, x57_8, x57_11, x57_12, x57_15, x57_17, x57_20, x57_21, x57_24, x57_25, x57_26, x57_27, x57_30, x57_31, x57_34, x57_36, x57_39, x57_40, x57_43, x57_44, x57_46, x57_47, x57_48, x57_51, x57_53, x57_56, x57_57, x57_60, x57_62, x57_65, x57_67, x57_70, x57_72, x57_75, x57_77, x57_80, kp18, rf18_0, rp18_0, al19, iA19, it19, al19, iA19, it19, k1, zi1, i3, n114, k2, bI_True, bI_False, nI_1, Nat.reduceLeDiff, Nat.reduceEqDiff, nb0, nb1, nbI, eq_self, ex_pr, tl_s, tl_n, if_true, if_false, not_true_eq_false, not_false_eq_true, and_self, and_false, false_and, and_true, true_and]
theorem h57f {o p1 : Nat} (T : TXC C L) (K : KT f C L p) (h : HDF C p p1) : Rn sc (d + 6) 57 0 [.ref (18 : Nat), .ref o, mk0, mk0, mk0, mk0] [] (cS f g h1 h2) r ↔ r = (cS (u2 f 18 2 (nI p1)) g h1 h2, some (.int 0)) := by
  have i3 := fun d r => @s211 sc d r f g h1 h2 C L p T K
  have ka := K.2.1
  have t115 : nI 115 = 115 := rfl
  rcases h with ⟨a1, a2, a3, rfl⟩ | ⟨a1, a2, a3, rfl⟩ | ⟨a1, a3, rfl⟩ | ⟨a1, a3, rfl⟩ | ⟨a1, a2, a4, rfl⟩
  · have pl := T.lt a1 (by decide)
    have k1 := fun d r => @s62t sc d r f g h1 h2 C L p 115 T K a1
    have K1 := K.mv (p' := p + 1) (by omega)
    have j3 := fun d r => @s211 sc d r _ g h1 h2 C L (p + 1) T K1
    have k2 := fun d r => @s63 sc d r _ g h1 h2 C L (p + 1) 5 stf5 T K1
    have l5 : (sW 5).length = 5 := rfl
    have t108 : nI 108 = 108 := rfl
    rw [a2, t108] at j3
    rw [l5, bI_f a3, u2_u2] at k2
    rw [t115] at k1
    simp only [x57_0, x57_1, x57_3, x57_6, x57_7, x57_8, x57_11, x57_12, x57_15, x57_17, x57_20, x57_21, x57_24, x57_25, x57_26, x57_27, x57_30, x57_31, x57_34, x57_36, x57_39, x57_40, x57_43, x57_44, x57_46, x57_47, x57_48, x57_51, x57_53, x57_56, x57_57, x57_60, x57_62, x57_65, x57_67, x57_70, x57_72, x57_75, x57_77, x57_80, x57_83, x57_84, kp18, rf18_0, rp18_0, al19, iA19, it19, al19, iA19, it19, k1, zi1, j3, k2, bI_True, bI_False, nI_1, Nat.reduceLeDiff, Nat.reduceEqDiff, nb0, nb1, nbI, eq_self, ex_pr, tl_s, tl_n, if_true, if_false, not_true_eq_false, not_false_eq_true, and_self, and_false, false_and, and_true, true_and]
  · have pl := T.lt a1 (by decide)
    have k1 := fun d r => @s62t sc d r f g h1 h2 C L p 115 T K a1
    have K1 := K.mv (p' := p + 1) (by omega)
    have j3 := fun d r => @s211 sc d r _ g h1 h2 C L (p + 1) T K1
    have k2 := fun d r => @s63 sc d r _ g h1 h2 C L (p + 1) 6 stf6 T K1
    have l5 : (sW 6).length = 4 := rfl
    have n108 : ¬ C (p + 1) = 108 := a2
    rw [l5, bI_f a3, u2_u2] at k2
    rw [t115] at k1
    simp only [x57_0, x57_1, x57_3, x57_6, x57_7, x57_8, x57_11, x57_12, x57_15, x57_17, x57_20, x57_21, x57_24, x57_25, x57_26, x57_27, x57_30, x57_31, x57_34, x57_36, x57_39, x57_40, x57_43, x57_44, x57_46, x57_47, x57_48, x57_51, x57_53, x57_56, x57_57, x57_60, x57_62, x57_65, x57_67, x57_70, x57_72, x57_75, x57_77, x57_80, x57_83, x57_84, kp18, rf18_0, rp18_0, al19, iA19, it19, al19, iA19, it19, k1, zi1, j3, n108, k2, bI_True, bI_False, nI_1, Nat.reduceLeDiff, Nat.reduceEqDiff, nb0, nb1, nbI, eq_self, ex_pr, tl_s, tl_n, if_true, if_false, not_true_eq_false, not_false_eq_true, and_self, and_false, false_and, and_true, true_and]
  · have n115 : ¬ C p = nI 115 := by rw [a1]; decide
    have k1 := fun d r => @s62f sc d r f g h1 h2 C L p 115 T K n115
    have k2 := fun d r => @s63 sc d r _ g h1 h2 C L p 8 stf8 T K
    have l5 : (sW 8).length = 5 := rfl
    have n114 : ¬ C p = 114 := by rw [a1]; decide
    rw [l5, bI_f a3] at k2
    rw [t115] at k1
    simp only [x57_0, x57_1, x57_3, x57_6, x57_7, x57_8, x57_11, x57_12, x57_15, x57_17, x57_20, x57_21, x57_24, x57_25, x57_26, x57_27, x57_30, x57_31, x57_34, x57_36, x57_39, x57_40, x57_43, x57_44, x57_46, x57_47, x57_48, x57_51, x57_53, x57_56, x57_57, x57_60, x57_62, x57_65, x57_67, x57_70, x57_72, x57_75, x57_77, x57_80, x57_83, x57_84, kp18, rf18_0, rp18_0, al19, iA19, it19, al19, iA19, it19, k1, zi1, i3, n114, k2, bI_True, bI_False, nI_1, Nat.reduceLeDiff, Nat.reduceEqDiff, nb0, nb1, nbI, eq_self, ex_pr, tl_s, tl_n, if_true, if_false, not_true_eq_false, not_false_eq_true, and_self, and_false, false_and, and_true, true_and]
  · have n115 : ¬ C p = nI 115 := by rw [a1]; decide
    have k1 := fun d r => @s62f sc d r f g h1 h2 C L p 115 T K n115
    have k2 := fun d r => @s63 sc d r _ g h1 h2 C L p 7 stf7 T K
    have l5 : (sW 7).length = 5 := rfl
    have n114 : C p = 114 := a1
    rw [l5, bI_f a3] at k2
    rw [t115] at k1
    simp only [x57_0, x57_1, x57_3, x57_6, x57_7, x57_8, x57_11, x57_12, x57_15, x57_17, x57_20, x57_21, x57_24, x57_25, x57_26, x57_27, x57_30, x57_31, x57_34, x57_36, x57_39, x57_40, x57_43, x57_44, x57_46, x57_47, x57_48, x57_51, x57_53, x57_56, x57_57, x57_60, x57_62, x57_65, x57_67, x57_70, x57_72, x57_75, x57_77, x57_80, x57_83, x57_84, kp18, rf18_0, rp18_0, al19, iA19, it19, al19, iA19, it19, k1, zi1, i3, n114, k2, bI_True, bI_False, nI_1, Nat.reduceLeDiff, Nat.reduceEqDiff, nb0, nb1, nbI, eq_self, ex_pr, tl_s, tl_n, if_true, if_false, not_true_eq_false, not_false_eq_true, and_self, and_false, false_and, and_true, true_and]
  · have k1 := fun d r => @s62f sc d r f g h1 h2 C L p1 115 T K a1
    have k2 := fun d r => @s63 sc d r _ g h1 h2 C L p1 8 stf8 T K
    have l5 : (sW 8).length = 5 := rfl
    have n114 : ¬ C p1 = 114 := a4
    have a0 : amf C (fun i => (sW 8).getD i 0) 5 0 p1 = 0 := if_neg a2
    have b0 : bI (0 = 5) = 0 := if_neg (by decide)
    rw [l5, a0, b0, Nat.add_zero p1, u2_id ka] at k2
    rw [t115] at k1
    rw [u2_id ka]
    simp only [x57_0, x57_1, x57_3, x57_6, x57_7, x57_8, x57_11, x57_12, x57_15, x57_17, x57_20, x57_21, x57_24, x57_25, x57_26, x57_27, x57_30, x57_31, x57_34, x57_36, x57_39, x57_40, x57_43, x57_44, x57_46, x57_47, x57_48, x57_51, x57_53, x57_56, x57_57, x57_60, x57_62, x57_65, x57_67, x57_70, x57_72, x57_75, x57_77, x57_80, x57_83, x57_84, kp18, rf18_0, rp18_0, al19, iA19, it19, al19, iA19, it19, k1, zi1, i3, n114, k2, bI_True, bI_False, nI_1, Nat.reduceLeDiff, Nat.reduceEqDiff, nb0, nb1, nbI, eq_self, ex_pr, tl_s, tl_n, if_true, if_false, not_true_eq_false, not_false_eq_true, and_self, and_false, false_and, and_true, true_and]
/-- takesHead -/
theorem wr_s1 : ∀ j, j < 5 → wR 4 5 (1 + j) = (sW 5).getD (0 + j) 0 := by decide +kernel
theorem wr_s0 : ∀ j, j < 4 → wR 0 4 (1 + j) = (sW 6).getD (0 + j) 0 := by decide +kernel
theorem wr_s2 : ∀ j, j < 5 → wR 9 4 (0 + j) = (sW 8).getD (0 + j) 0 := by decide +kernel
theorem wr_s3 : ∀ j, j < 5 → wR 13 4 (0 + j) = (sW 7).getD (0 + j) 0 := by decide +kernel
theorem am_1 (h : C p = nI 115) : amf C (wR 4 5) 6 0 p = amf C (fun i => (sW 5).getD i 0) 5 0 (p + 1) + 1 := by
  have e : wR 4 5 0 = 115 := by decide
  show (if C p = nI (wR 4 5 0) then amf C (wR 4 5) 5 1 (p + 1) + 1 else 0) = _
  rw [e, if_pos h, amf_cong (C := C) (cf' := fun i => (sW 5).getD i 0) 5 1 0 (p + 1) (fun j hj => wr_s1 j hj)]
theorem am_0 (h : C p = nI 115) : amf C (wR 0 4) 5 0 p = amf C (fun i => (sW 6).getD i 0) 4 0 (p + 1) + 1 := by
  have e : wR 0 4 0 = 115 := by decide
  show (if C p = nI (wR 0 4 0) then amf C (wR 0 4) 4 1 (p + 1) + 1 else 0) = _
  rw [e, if_pos h, amf_cong (C := C) (cf' := fun i => (sW 6).getD i 0) 4 1 0 (p + 1) (fun j hj => wr_s0 j hj)]
theorem am_2 : amf C (wR 9 4) 5 0 p = amf C (fun i => (sW 8).getD i 0) 5 0 p := amf_cong (C := C) 5 0 0 p (fun j hj => wr_s2 j hj)
theorem am_3 : amf C (wR 13 4) 5 0 p = amf C (fun i => (sW 7).getD i 0) 5 0 p := amf_cong (C := C) 5 0 0 p (fun j hj => wr_s3 j hj)
theorem h126o {p1 w : Nat} (hcc : cc < 60) (T : TXC C L) (K : MTX f C L p) (LT : LTs f) (h : HDO C p p1 w) : Cl sc (d + 5) 126 [.ref (114 : Nat), .int (nI cc)] (cS f g h1 h2) r ↔ r = (cS (u2 (u2 f 123 cc (nI w)) 114 14 (nI p1)) g h1 h2, some (.int 1)) := by
  have k1 := fun d r => @s114 sc d r f g h1 h2 C L p T K
  have k2 := fun d r => @s115 sc d r f g h1 h2 C L p T K
  have i1 : inb (nI cc) 60 = true := inb_nI hcc (by decide)
  have i2 : (nI cc).toNatClampNeg = cc := cl_nI (by omega)
  have KU : ∀ w, MTX (u2 f 123 cc (nI w)) C L p := fun w => K.fr (u2_n (by omega)) (u2_nn (by omega)) (by rw [u2_nn (by omega)]; exact K.2.2.1) K.2.2.2
  have LU : ∀ w, LTs (u2 f 123 cc (nI w)) := fun w k hk => by rw [u2_nn (by omega)]; exact LT k hk
  rcases h with ⟨rfl, a1, a2, a3, rfl⟩ | ⟨rfl, a1, a2, a3, rfl⟩ | ⟨rfl, a1, a3, rfl⟩ | ⟨rfl, a1, a3, rfl⟩
  · have k3 := fun d r => @s117 sc d r _ g h1 h2 C L p 4 5 (by omega) T (KU 1) (LU 1)
    rw [am_1 a1, a3, bI_t rfl] at k3
    have t1 : nI 115 = 115 := rfl
    have t2 : nI 108 = 108 := rfl
    have t4 : nI 4 = 4 := rfl
    have t5 : nI 5 = 5 := rfl
    have n1 : ¬ (115 : Int32) = 110 := by decide
    rw [a1, t1] at k1
    rw [a2, t2] at k2
    rw [lt1, t4, t5] at k3
    rw [lt1]
    simp only [c126, x126_0, x126_1, x126_4, x126_5, x126_6, x126_9, x126_36, x126_37, x126_40, x126_41, x126_42, x126_44, x126_47, x126_48, x126_51, x126_52, x126_53, x126_54, x126_56, x126_59, x126_60, x126_61, x126_62, x126_65, x126_68, x126_69, x126_70, x126_71, x126_74, x126_75, x126_76, x126_79, x126_80, x126_81, x126_82, x126_83, x126_85, x126_86, x126_89, x126_90, x126_91, x126_94, x126_95, x126_96, x126_97, x126_98, x126_100, x126_101, x126_104, kp114, rf114_5, rp114_5, al115, iA115, it115, rf114_6, rp114_6, al116, iA116, it116, rf114_7, rp114_7, al117, iA117, it117, rf114_8, rp114_8, al118, iA118, it118, rf114_9, rp114_9, al119, iA119, it119, rf114_10, rp114_10, al120, iA120, it120, rf114_16, rp114_16, al121, iA121, it121, rf114_17, rp114_17, al122, iA122, it122, rf114_18, rp114_18, al123, iA123, it123, rf114_19, rp114_19, al124, iA124, it124, rf114_20, rp114_20, al125, iA125, it125, rf114_21, rp114_21, al126, iA126, it126, rf114_22, rp114_22, al127, iA127, it127, rf114_23, rp114_23, al128, iA128, it128, rf114_27, rp114_27, al129, iA129, it129, rf114_28, rp114_28, al130, iA130, it130, rf114_29, rp114_29, al131, iA131, it131, rf114_30, rp114_30, al132, iA132, it132, rf114_31, rp114_31, al133, iA133, it133, rf114_41, rp114_41, al134, iA134, it134, rf114_42, rp114_42, al135, iA135, it135, rf114_44, rp114_44, al136, iA136, it136, rf114_45, rp114_45, al137, iA137, it137, rf114_55, rp114_55, al138, iA138, it138, rf114_56, rp114_56, al139, iA139, it139, rf114_57, rp114_57, al140, iA140, it140, rf114_58, rp114_58, al141, iA141, it141, rf114_59, rp114_59, al142, iA142, it142, rf114_60, rp114_60, al143, iA143, it143, rf114_61, rp114_61, al144, iA144, it144, rf114_62, rp114_62, al145, iA145, it145, rf114_63, rp114_63, al146, iA146, it146, rf114_64, rp114_64, al147, iA147, it147, rf114_66, rp114_66, al148, iA148, it148, rf114_67, rp114_67, al149, iA149, it149, rf114_68, rp114_68, al150, iA150, it150, rf114_69, rp114_69, al151, iA151, it151, rf114_70, rp114_70, al152, iA152, it152, al123, iA123, it123, k1, k2, i1, i2, n1, k3, bI_True, bI_False, nI_1, Nat.reduceLeDiff, Nat.reduceEqDiff, nb0, nb1, nbI, eq_self, ex_pr, tl_s, tl_n, if_true, if_false, not_true_eq_false, not_false_eq_true, and_self, and_false, false_and, and_true, true_and]
  · have k3 := fun d r => @s117 sc d r _ g h1 h2 C L p 0 4 (by omega) T (KU 0) (LU 0)
    rw [am_0 a1, a3, bI_t rfl] at k3
    have t1 : nI 115 = 115 := rfl
    have n2 : ¬ C (p + 1) = 108 := a2
    have t4 : nI 4 = 4 := rfl
    have n1 : ¬ (115 : Int32) = 110 := by decide
    rw [a1, t1] at k1
    rw [lt0, t4] at k3
    rw [lt0]
    simp only [c126, x126_0, x126_1, x126_4, x126_5, x126_6, x126_9, x126_36, x126_37, x126_40, x126_41, x126_42, x126_44, x126_47, x126_48, x126_51, x126_52, x126_53, x126_54, x126_56, x126_59, x126_60, x126_61, x126_62, x126_65, x126_68, x126_69, x126_70, x126_71, x126_74, x126_75, x126_76, x126_79, x126_80, x126_81, x126_82, x126_83, x126_85, x126_86, x126_89, x126_90, x126_91, x126_94, x126_95, x126_96, x126_97, x126_98, x126_100, x126_101, x126_104, kp114, rf114_5, rp114_5, al115, iA115, it115, rf114_6, rp114_6, al116, iA116, it116, rf114_7, rp114_7, al117, iA117, it117, rf114_8, rp114_8, al118, iA118, it118, rf114_9, rp114_9, al119, iA119, it119, rf114_10, rp114_10, al120, iA120, it120, rf114_16, rp114_16, al121, iA121, it121, rf114_17, rp114_17, al122, iA122, it122, rf114_18, rp114_18, al123, iA123, it123, rf114_19, rp114_19, al124, iA124, it124, rf114_20, rp114_20, al125, iA125, it125, rf114_21, rp114_21, al126, iA126, it126, rf114_22, rp114_22, al127, iA127, it127, rf114_23, rp114_23, al128, iA128, it128, rf114_27, rp114_27, al129, iA129, it129, rf114_28, rp114_28, al130, iA130, it130, rf114_29, rp114_29, al131, iA131, it131, rf114_30, rp114_30, al132, iA132, it132, rf114_31, rp114_31, al133, iA133, it133, rf114_41, rp114_41, al134, iA134, it134, rf114_42, rp114_42, al135, iA135, it135, rf114_44, rp114_44, al136, iA136, it136, rf114_45, rp114_45, al137, iA137, it137, rf114_55, rp114_55, al138, iA138, it138, rf114_56, rp114_56, al139, iA139, it139, rf114_57, rp114_57, al140, iA140, it140, rf114_58, rp114_58, al141, iA141, it141, rf114_59, rp114_59, al142, iA142, it142, rf114_60, rp114_60, al143, iA143, it143, rf114_61, rp114_61, al144, iA144, it144, rf114_62, rp114_62, al145, iA145, it145, rf114_63, rp114_63, al146, iA146, it146, rf114_64, rp114_64, al147, iA147, it147, rf114_66, rp114_66, al148, iA148, it148, rf114_67, rp114_67, al149, iA149, it149, rf114_68, rp114_68, al150, iA150, it150, rf114_69, rp114_69, al151, iA151, it151, rf114_70, rp114_70, al152, iA152, it152, al123, iA123, it123, k1, k2, i1, i2, n1, n2, k3, bI_True, bI_False, nI_1, Nat.reduceLeDiff, Nat.reduceEqDiff, nb0, nb1, nbI, eq_self, ex_pr, tl_s, tl_n, if_true, if_false, not_true_eq_false, not_false_eq_true, and_self, and_false, false_and, and_true, true_and]
  · have k3 := fun d r => @s117 sc d r _ g h1 h2 C L p 9 4 (by omega) T (KU 2) (LU 2)
    rw [am_2, a3, bI_t rfl] at k3
    have t1 : nI 110 = 110 := rfl
    have t2 : nI 2 = 2 := rfl
    have t9 : nI 9 = 9 := rfl
    have t4 : nI 4 = 4 := rfl
    rw [a1, t1] at k1
    rw [t2, t9, t4] at k3
    rw [t2]
    simp only [c126, x126_0, x126_1, x126_4, x126_5, x126_6, x126_9, x126_36, x126_37, x126_40, x126_41, x126_42, x126_44, x126_47, x126_48, x126_51, x126_52, x126_53, x126_54, x126_56, x126_59, x126_60, x126_61, x126_62, x126_65, x126_68, x126_69, x126_70, x126_71, x126_74, x126_75, x126_76, x126_79, x126_80, x126_81, x126_82, x126_83, x126_85, x126_86, x126_89, x126_90, x126_91, x126_94, x126_95, x126_96, x126_97, x126_98, x126_100, x126_101, x126_104, kp114, rf114_5, rp114_5, al115, iA115, it115, rf114_6, rp114_6, al116, iA116, it116, rf114_7, rp114_7, al117, iA117, it117, rf114_8, rp114_8, al118, iA118, it118, rf114_9, rp114_9, al119, iA119, it119, rf114_10, rp114_10, al120, iA120, it120, rf114_16, rp114_16, al121, iA121, it121, rf114_17, rp114_17, al122, iA122, it122, rf114_18, rp114_18, al123, iA123, it123, rf114_19, rp114_19, al124, iA124, it124, rf114_20, rp114_20, al125, iA125, it125, rf114_21, rp114_21, al126, iA126, it126, rf114_22, rp114_22, al127, iA127, it127, rf114_23, rp114_23, al128, iA128, it128, rf114_27, rp114_27, al129, iA129, it129, rf114_28, rp114_28, al130, iA130, it130, rf114_29, rp114_29, al131, iA131, it131, rf114_30, rp114_30, al132, iA132, it132, rf114_31, rp114_31, al133, iA133, it133, rf114_41, rp114_41, al134, iA134, it134, rf114_42, rp114_42, al135, iA135, it135, rf114_44, rp114_44, al136, iA136, it136, rf114_45, rp114_45, al137, iA137, it137, rf114_55, rp114_55, al138, iA138, it138, rf114_56, rp114_56, al139, iA139, it139, rf114_57, rp114_57, al140, iA140, it140, rf114_58, rp114_58, al141, iA141, it141, rf114_59, rp114_59, al142, iA142, it142, rf114_60, rp114_60, al143, iA143, it143, rf114_61, rp114_61, al144, iA144, it144, rf114_62, rp114_62, al145, iA145, it145, rf114_63, rp114_63, al146, iA146, it146, rf114_64, rp114_64, al147, iA147, it147, rf114_66, rp114_66, al148, iA148, it148, rf114_67, rp114_67, al149, iA149, it149, rf114_68, rp114_68, al150, iA150, it150, rf114_69, rp114_69, al151, iA151, it151, rf114_70, rp114_70, al152, iA152, it152, al123, iA123, it123, k1, k2, i1, i2, k3, bI_True, bI_False, nI_1, Nat.reduceLeDiff, Nat.reduceEqDiff, nb0, nb1, nbI, eq_self, ex_pr, tl_s, tl_n, if_true, if_false, not_true_eq_false, not_false_eq_true, and_self, and_false, false_and, and_true, true_and]
  · have k3 := fun d r => @s117 sc d r _ g h1 h2 C L p 13 4 (by omega) T (KU 3) (LU 3)
    rw [am_3, a3, bI_t rfl] at k3
    have t1 : nI 114 = 114 := rfl
    have t2 : nI 3 = 3 := rfl
    have t9 : nI 13 = 13 := rfl
    have t4 : nI 4 = 4 := rfl
    have n1 : ¬ (114 : Int32) = 110 := by decide
    have n2 : ¬ (114 : Int32) = 115 := by decide
    rw [a1, t1] at k1
    rw [t2, t9, t4] at k3
    rw [t2]
    simp only [c126, x126_0, x126_1, x126_4, x126_5, x126_6, x126_9, x126_36, x126_37, x126_40, x126_41, x126_42, x126_44, x126_47, x126_48, x126_51, x126_52, x126_53, x126_54, x126_56, x126_59, x126_60, x126_61, x126_62, x126_65, x126_68, x126_69, x126_70, x126_71, x126_74, x126_75, x126_76, x126_79, x126_80, x126_81, x126_82, x126_83, x126_85, x126_86, x126_89, x126_90, x126_91, x126_94, x126_95, x126_96, x126_97, x126_98, x126_100, x126_101, x126_104, kp114, rf114_5, rp114_5, al115, iA115, it115, rf114_6, rp114_6, al116, iA116, it116, rf114_7, rp114_7, al117, iA117, it117, rf114_8, rp114_8, al118, iA118, it118, rf114_9, rp114_9, al119, iA119, it119, rf114_10, rp114_10, al120, iA120, it120, rf114_16, rp114_16, al121, iA121, it121, rf114_17, rp114_17, al122, iA122, it122, rf114_18, rp114_18, al123, iA123, it123, rf114_19, rp114_19, al124, iA124, it124, rf114_20, rp114_20, al125, iA125, it125, rf114_21, rp114_21, al126, iA126, it126, rf114_22, rp114_22, al127, iA127, it127, rf114_23, rp114_23, al128, iA128, it128, rf114_27, rp114_27, al129, iA129, it129, rf114_28, rp114_28, al130, iA130, it130, rf114_29, rp114_29, al131, iA131, it131, rf114_30, rp114_30, al132, iA132, it132, rf114_31, rp114_31, al133, iA133, it133, rf114_41, rp114_41, al134, iA134, it134, rf114_42, rp114_42, al135, iA135, it135, rf114_44, rp114_44, al136, iA136, it136, rf114_45, rp114_45, al137, iA137, it137, rf114_55, rp114_55, al138, iA138, it138, rf114_56, rp114_56, al139, iA139, it139, rf114_57, rp114_57, al140, iA140, it140, rf114_58, rp114_58, al141, iA141, it141, rf114_59, rp114_59, al142, iA142, it142, rf114_60, rp114_60, al143, iA143, it143, rf114_61, rp114_61, al144, iA144, it144, rf114_62, rp114_62, al145, iA145, it145, rf114_63, rp114_63, al146, iA146, it146, rf114_64, rp114_64, al147, iA147, it147, rf114_66, rp114_66, al148, iA148, it148, rf114_67, rp114_67, al149, iA149, it149, rf114_68, rp114_68, al150, iA150, it150, rf114_69, rp114_69, al151, iA151, it151, rf114_70, rp114_70, al152, iA152, it152, al123, iA123, it123, k1, k2, i1, i2, n1, n2, k3, bI_True, bI_False, nI_1, Nat.reduceLeDiff, Nat.reduceEqDiff, nb0, nb1, nbI, eq_self, ex_pr, tl_s, tl_n, if_true, if_false, not_true_eq_false, not_false_eq_true, and_self, and_false, false_and, and_true, true_and]
theorem h126f {p1 : Nat} (hcc : cc < 60) (T : TXC C L) (K : MTX f C L p) (LT : LTs f) (h : HDF C p p1) : ∃ x, ∀ d r, Cl sc (d + 5) 126 [.ref (114 : Nat), .int (nI cc)] (cS f g h1 h2) r ↔ r = (cS (u2 (u2 f 123 cc x) 114 14 (nI p1)) g h1 h2, some (.int 0)) := by
  have k1 := fun d r => @s114 sc d r f g h1 h2 C L p T K
  have k2 := fun d r => @s115 sc d r f g h1 h2 C L p T K
  have i1 : inb (nI cc) 60 = true := inb_nI hcc (by decide)
  have i2 : (nI cc).toNatClampNeg = cc := cl_nI (by omega)
  have KU : ∀ w, MTX (u2 f 123 cc (nI w)) C L p := fun w => K.fr (u2_n (by omega)) (u2_nn (by omega)) (by rw [u2_nn (by omega)]; exact K.2.2.1) K.2.2.2
  have LU : ∀ w, LTs (u2 f 123 cc (nI w)) := fun w k hk => by rw [u2_nn (by omega)]; exact LT k hk
  rcases h with ⟨a1, a2, a3, rfl⟩ | ⟨a1, a2, a3, rfl⟩ | ⟨a1, a3, rfl⟩ | ⟨a1, a3, rfl⟩ | ⟨a1, a2, a3, rfl⟩
  · have k3 := fun d r => @s117 sc d r _ g h1 h2 C L p 4 5 (by omega) T (KU 1) (LU 1)
    have e : ¬ amf C (fun i => (sW 5).getD i 0) 5 0 (p + 1) + 1 = 5 + 1 := by omega
    rw [am_1 a1, bI_f e, show p + (amf C (fun i => (sW 5).getD i 0) 5 0 (p + 1) + 1) = p + 1 + amf C (fun i => (sW 5).getD i 0) 5 0 (p + 1) by omega] at k3
    have t1 : nI 115 = 115 := rfl
    have t2 : nI 108 = 108 := rfl
    have t4 : nI 4 = 4 := rfl
    have t5 : nI 5 = 5 := rfl
    have n1 : ¬ (115 : Int32) = 110 := by decide
    rw [a1, t1] at k1
    rw [a2, t2] at k2
    rw [lt1, t4, t5] at k3
    refine ⟨1, fun d r => ?_⟩
    simp only [c126, x126_0, x126_1, x126_4, x126_5, x126_6, x126_9, x126_36, x126_37, x126_40, x126_41, x126_42, x126_44, x126_47, x126_48, x126_51, x126_52, x126_53, x126_54, x126_56, x126_59, x126_60, x126_61, x126_62, x126_65, x126_68, x126_69, x126_70, x126_71, x126_74, x126_75, x126_76, x126_79, x126_80, x126_81, x126_82, x126_83, x126_85, x126_86, x126_89, x126_90, x126_91, x126_94, x126_95, x126_96, x126_97, x126_98, x126_100, x126_101, x126_104, kp114, rf114_5, rp114_5, al115, iA115, it115, rf114_6, rp114_6, al116, iA116, it116, rf114_7, rp114_7, al117, iA117, it117, rf114_8, rp114_8, al118, iA118, it118, rf114_9, rp114_9, al119, iA119, it119, rf114_10, rp114_10, al120, iA120, it120, rf114_16, rp114_16, al121, iA121, it121, rf114_17, rp114_17, al122, iA122, it122, rf114_18, rp114_18, al123, iA123, it123, rf114_19, rp114_19, al124, iA124, it124, rf114_20, rp114_20, al125, iA125, it125, rf114_21, rp114_21, al126, iA126, it126, rf114_22, rp114_22, al127, iA127, it127, rf114_23, rp114_23, al128, iA128, it128, rf114_27, rp114_27, al129, iA129, it129, rf114_28, rp114_28, al130, iA130, it130, rf114_29, rp114_29, al131, iA131, it131, rf114_30, rp114_30, al132, iA132, it132, rf114_31, rp114_31, al133, iA133, it133, rf114_41, rp114_41, al134, iA134, it134, rf114_42, rp114_42, al135, iA135, it135, rf114_44, rp114_44, al136, iA136, it136, rf114_45, rp114_45, al137, iA137, it137, rf114_55, rp114_55, al138, iA138, it138, rf114_56, rp114_56, al139, iA139, it139, rf114_57, rp114_57, al140, iA140, it140, rf114_58, rp114_58, al141, iA141, it141, rf114_59, rp114_59, al142, iA142, it142, rf114_60, rp114_60, al143, iA143, it143, rf114_61, rp114_61, al144, iA144, it144, rf114_62, rp114_62, al145, iA145, it145, rf114_63, rp114_63, al146, iA146, it146, rf114_64, rp114_64, al147, iA147, it147, rf114_66, rp114_66, al148, iA148, it148, rf114_67, rp114_67, al149, iA149, it149, rf114_68, rp114_68, al150, iA150, it150, rf114_69, rp114_69, al151, iA151, it151, rf114_70, rp114_70, al152, iA152, it152, al123, iA123, it123, k1, k2, i1, i2, n1, k3, bI_True, bI_False, nI_1, Nat.reduceLeDiff, Nat.reduceEqDiff, nb0, nb1, nbI, eq_self, ex_pr, tl_s, tl_n, if_true, if_false, not_true_eq_false, not_false_eq_true, and_self, and_false, false_and, and_true, true_and]
  · have k3 := fun d r => @s117 sc d r _ g h1 h2 C L p 0 4 (by omega) T (KU 0) (LU 0)
    have e : ¬ amf C (fun i => (sW 6).getD i 0) 4 0 (p + 1) + 1 = 4 + 1 := by omega
    rw [am_0 a1, bI_f e, show p + (amf C (fun i => (sW 6).getD i 0) 4 0 (p + 1) + 1) = p + 1 + amf C (fun i => (sW 6).getD i 0) 4 0 (p + 1) by omega] at k3
    have t1 : nI 115 = 115 := rfl
    have n2 : ¬ C (p + 1) = 108 := a2
    have t4 : nI 4 = 4 := rfl
    have n1 : ¬ (115 : Int32) = 110 := by decide
    rw [a1, t1] at k1
    rw [lt0, t4] at k3
    refine ⟨0, fun d r => ?_⟩
    simp only [c126, x126_0, x126_1, x126_4, x126_5, x126_6, x126_9, x126_36, x126_37, x126_40, x126_41, x126_42, x126_44, x126_47, x126_48, x126_51, x126_52, x126_53, x126_54, x126_56, x126_59, x126_60, x126_61, x126_62, x126_65, x126_68, x126_69, x126_70, x126_71, x126_74, x126_75, x126_76, x126_79, x126_80, x126_81, x126_82, x126_83, x126_85, x126_86, x126_89, x126_90, x126_91, x126_94, x126_95, x126_96, x126_97, x126_98, x126_100, x126_101, x126_104, kp114, rf114_5, rp114_5, al115, iA115, it115, rf114_6, rp114_6, al116, iA116, it116, rf114_7, rp114_7, al117, iA117, it117, rf114_8, rp114_8, al118, iA118, it118, rf114_9, rp114_9, al119, iA119, it119, rf114_10, rp114_10, al120, iA120, it120, rf114_16, rp114_16, al121, iA121, it121, rf114_17, rp114_17, al122, iA122, it122, rf114_18, rp114_18, al123, iA123, it123, rf114_19, rp114_19, al124, iA124, it124, rf114_20, rp114_20, al125, iA125, it125, rf114_21, rp114_21, al126, iA126, it126, rf114_22, rp114_22, al127, iA127, it127, rf114_23, rp114_23, al128, iA128, it128, rf114_27, rp114_27, al129, iA129, it129, rf114_28, rp114_28, al130, iA130, it130, rf114_29, rp114_29, al131, iA131, it131, rf114_30, rp114_30, al132, iA132, it132, rf114_31, rp114_31, al133, iA133, it133, rf114_41, rp114_41, al134, iA134, it134, rf114_42, rp114_42, al135, iA135, it135, rf114_44, rp114_44, al136, iA136, it136, rf114_45, rp114_45, al137, iA137, it137, rf114_55, rp114_55, al138, iA138, it138, rf114_56, rp114_56, al139, iA139, it139, rf114_57, rp114_57, al140, iA140, it140, rf114_58, rp114_58, al141, iA141, it141, rf114_59, rp114_59, al142, iA142, it142, rf114_60, rp114_60, al143, iA143, it143, rf114_61, rp114_61, al144, iA144, it144, rf114_62, rp114_62, al145, iA145, it145, rf114_63, rp114_63, al146, iA146, it146, rf114_64, rp114_64, al147, iA147, it147, rf114_66, rp114_66, al148, iA148, it148, rf114_67, rp114_67, al149, iA149, it149, rf114_68, rp114_68, al150, iA150, it150, rf114_69, rp114_69, al151, iA151, it151, rf114_70, rp114_70, al152, iA152, it152, al123, iA123, it123, k1, k2, i1, i2, n1, n2, k3, bI_True, bI_False, nI_1, Nat.reduceLeDiff, Nat.reduceEqDiff, nb0, nb1, nbI, eq_self, ex_pr, tl_s, tl_n, if_true, if_false, not_true_eq_false, not_false_eq_true, and_self, and_false, false_and, and_true, true_and]
  · have k3 := fun d r => @s117 sc d r _ g h1 h2 C L p 9 4 (by omega) T (KU 2) (LU 2)
    rw [am_2, bI_f a3] at k3
    have t1 : nI 110 = 110 := rfl
    have t2 : nI 2 = 2 := rfl
    have t9 : nI 9 = 9 := rfl
    have t4 : nI 4 = 4 := rfl
    rw [a1, t1] at k1
    rw [t2, t9, t4] at k3
    refine ⟨2, fun d r => ?_⟩
    simp only [c126, x126_0, x126_1, x126_4, x126_5, x126_6, x126_9, x126_36, x126_37, x126_40, x126_41, x126_42, x126_44, x126_47, x126_48, x126_51, x126_52, x126_53, x126_54, x126_56, x126_59, x126_60, x126_61, x126_62, x126_65, x126_68, x126_69, x126_70, x126_71, x126_74, x126_75, x126_76, x126_79, x126_80, x126_81, x126_82, x126_83, x126_85, x126_86, x126_89, x126_90, x126_91, x126_94, x126_95, x126_96, x126_97, x126_98, x126_100, x126_101, x126_104, kp114, rf114_5, rp114_5, al115, iA115, it115, rf114_6, rp114_6, al116, iA116, it116, rf114_7, rp114_7, al117, iA117, it117, rf114_8, rp114_8, al118, iA118, it118, rf114_9, rp114_9, al119, iA119, it119, rf114_10, rp114_10, al120, iA120, it120, rf114_16, rp114_16, al121, iA121, it121, rf114_17, rp114_17, al122, iA122, it122, rf114_18, rp114_18, al123, iA123, it123, rf114_19, rp114_19, al124, iA124, it124, rf114_20, rp114_20, al125, iA125, it125, rf114_21, rp114_21, al126, iA126, it126, rf114_22, rp114_22, al127, iA127, it127, rf114_23, rp114_23, al128, iA128, it128, rf114_27, rp114_27, al129, iA129, it129, rf114_28, rp114_28, al130, iA130, it130, rf114_29, rp114_29, al131, iA131, it131, rf114_30, rp114_30, al132, iA132, it132, rf114_31, rp114_31, al133, iA133, it133, rf114_41, rp114_41, al134, iA134, it134, rf114_42, rp114_42, al135, iA135, it135, rf114_44, rp114_44, al136, iA136, it136, rf114_45, rp114_45, al137, iA137, it137, rf114_55, rp114_55, al138, iA138, it138, rf114_56, rp114_56, al139, iA139, it139, rf114_57, rp114_57, al140, iA140, it140, rf114_58, rp114_58, al141, iA141, it141, rf114_59, rp114_59, al142, iA142, it142, rf114_60, rp114_60, al143, iA143, it143, rf114_61, rp114_61, al144, iA144, it144, rf114_62, rp114_62, al145, iA145, it145, rf114_63, rp114_63, al146, iA146, it146, rf114_64, rp114_64, al147, iA147, it147, rf114_66, rp114_66, al148, iA148, it148, rf114_67, rp114_67, al149, iA149, it149, rf114_68, rp114_68, al150, iA150, it150, rf114_69, rp114_69, al151, iA151, it151, rf114_70, rp114_70, al152, iA152, it152, al123, iA123, it123, k1, k2, i1, i2, k3, bI_True, bI_False, nI_1, Nat.reduceLeDiff, Nat.reduceEqDiff, nb0, nb1, nbI, eq_self, ex_pr, tl_s, tl_n, if_true, if_false, not_true_eq_false, not_false_eq_true, and_self, and_false, false_and, and_true, true_and]
  · have k3 := fun d r => @s117 sc d r _ g h1 h2 C L p 13 4 (by omega) T (KU 3) (LU 3)
    rw [am_3, bI_f a3] at k3
    have t1 : nI 114 = 114 := rfl
    have t2 : nI 3 = 3 := rfl
    have t9 : nI 13 = 13 := rfl
    have t4 : nI 4 = 4 := rfl
    have n1 : ¬ (114 : Int32) = 110 := by decide
    have n2 : ¬ (114 : Int32) = 115 := by decide
    rw [a1, t1] at k1
    rw [t2, t9, t4] at k3
    refine ⟨3, fun d r => ?_⟩
    simp only [c126, x126_0, x126_1, x126_4, x126_5, x126_6, x126_9, x126_36, x126_37, x126_40, x126_41, x126_42, x126_44, x126_47, x126_48, x126_51, x126_52, x126_53, x126_54, x126_56, x126_59, x126_60, x126_61, x126_62, x126_65, x126_68, x126_69, x126_70, x126_71, x126_74, x126_75, x126_76, x126_79, x126_80, x126_81, x126_82, x126_83, x126_85, x126_86, x126_89, x126_90, x126_91, x126_94, x126_95, x126_96, x126_97, x126_98, x126_100, x126_101, x126_104, kp114, rf114_5, rp114_5, al115, iA115, it115, rf114_6, rp114_6, al116, iA116, it116, rf114_7, rp114_7, al117, iA117, it117, rf114_8, rp114_8, al118, iA118, it118, rf114_9, rp114_9, al119, iA119, it119, rf114_10, rp114_10, al120, iA120, it120, rf114_16, rp114_16, al121, iA121, it121, rf114_17, rp114_17, al122, iA122, it122, rf114_18, rp114_18, al123, iA123, it123, rf114_19, rp114_19, al124, iA124, it124, rf114_20, rp114_20, al125, iA125, it125, rf114_21, rp114_21, al126, iA126, it126, rf114_22, rp114_22, al127, iA127, it127, rf114_23, rp114_23, al128, iA128, it128, rf114_27, rp114_27, al129, iA129, it129, rf114_28, rp114_28, al130, iA130, it130, rf114_29, rp114_29, al131, iA131, it131, rf114_30, rp114_30, al132, iA132, it132, rf114_31, rp114_31, al133, iA133, it133, rf114_41, rp114_41, al134, iA134, it134, rf114_42, rp114_42, al135, iA135, it135, rf114_44, rp114_44, al136, iA136, it136, rf114_45, rp114_45, al137, iA137, it137, rf114_55, rp114_55, al138, iA138, it138, rf114_56, rp114_56, al139, iA139, it139, rf114_57, rp114_57, al140, iA140, it140, rf114_58, rp114_58, al141, iA141, it141, rf114_59, rp114_59, al142, iA142, it142, rf114_60, rp114_60, al143, iA143, it143, rf114_61, rp114_61, al144, iA144, it144, rf114_62, rp114_62, al145, iA145, it145, rf114_63, rp114_63, al146, iA146, it146, rf114_64, rp114_64, al147, iA147, it147, rf114_66, rp114_66, al148, iA148, it148, rf114_67, rp114_67, al149, iA149, it149, rf114_68, rp114_68, al150, iA150, it150, rf114_69, rp114_69, al151, iA151, it151, rf114_70, rp114_70, al152, iA152, it152, al123, iA123, it123, k1, k2, i1, i2, n1, n2, k3, bI_True, bI_False, nI_1, Nat.reduceLeDiff, Nat.reduceEqDiff, nb0, nb1, nbI, eq_self, ex_pr, tl_s, tl_n, if_true, if_false, not_true_eq_false, not_false_eq_true, and_self, and_false, false_and, and_true, true_and]
  · have k3 := fun d r => @s117 sc d r _ g h1 h2 C L p1 13 4 (by omega) T (KU 3) (LU 3)
    have a0 : amf C (fun i => (sW 7).getD i 0) 5 0 p1 = 0 := if_neg a3
    have b0 : bI (0 = 4 + 1) = 0 := if_neg (by decide)
    rw [am_3, a0, b0, Nat.add_zero p1] at k3
    have t2 : nI 3 = 3 := rfl
    have t9 : nI 13 = 13 := rfl
    have t4 : nI 4 = 4 := rfl
    have n1 : ¬ C p1 = 110 := a2
    have n2 : ¬ C p1 = 115 := a1
    rw [t2, t9, t4] at k3
    refine ⟨3, fun d r => ?_⟩
    simp only [c126, x126_0, x126_1, x126_4, x126_5, x126_6, x126_9, x126_36, x126_37, x126_40, x126_41, x126_42, x126_44, x126_47, x126_48, x126_51, x126_52, x126_53, x126_54, x126_56, x126_59, x126_60, x126_61, x126_62, x126_65, x126_68, x126_69, x126_70, x126_71, x126_74, x126_75, x126_76, x126_79, x126_80, x126_81, x126_82, x126_83, x126_85, x126_86, x126_89, x126_90, x126_91, x126_94, x126_95, x126_96, x126_97, x126_98, x126_100, x126_101, x126_104, kp114, rf114_5, rp114_5, al115, iA115, it115, rf114_6, rp114_6, al116, iA116, it116, rf114_7, rp114_7, al117, iA117, it117, rf114_8, rp114_8, al118, iA118, it118, rf114_9, rp114_9, al119, iA119, it119, rf114_10, rp114_10, al120, iA120, it120, rf114_16, rp114_16, al121, iA121, it121, rf114_17, rp114_17, al122, iA122, it122, rf114_18, rp114_18, al123, iA123, it123, rf114_19, rp114_19, al124, iA124, it124, rf114_20, rp114_20, al125, iA125, it125, rf114_21, rp114_21, al126, iA126, it126, rf114_22, rp114_22, al127, iA127, it127, rf114_23, rp114_23, al128, iA128, it128, rf114_27, rp114_27, al129, iA129, it129, rf114_28, rp114_28, al130, iA130, it130, rf114_29, rp114_29, al131, iA131, it131, rf114_30, rp114_30, al132, iA132, it132, rf114_31, rp114_31, al133, iA133, it133, rf114_41, rp114_41, al134, iA134, it134, rf114_42, rp114_42, al135, iA135, it135, rf114_44, rp114_44, al136, iA136, it136, rf114_45, rp114_45, al137, iA137, it137, rf114_55, rp114_55, al138, iA138, it138, rf114_56, rp114_56, al139, iA139, it139, rf114_57, rp114_57, al140, iA140, it140, rf114_58, rp114_58, al141, iA141, it141, rf114_59, rp114_59, al142, iA142, it142, rf114_60, rp114_60, al143, iA143, it143, rf114_61, rp114_61, al144, iA144, it144, rf114_62, rp114_62, al145, iA145, it145, rf114_63, rp114_63, al146, iA146, it146, rf114_64, rp114_64, al147, iA147, it147, rf114_66, rp114_66, al148, iA148, it148, rf114_67, rp114_67, al149, iA149, it149, rf114_68, rp114_68, al150, iA150, it150, rf114_69, rp114_69, al151, iA151, it151, rf114_70, rp114_70, al152, iA152, it152, al123, iA123, it123, k1, k2, i1, i2, n1, n2, k3, bI_True, bI_False, nI_1, Nat.reduceLeDiff, Nat.reduceEqDiff, nb0, nb1, nbI, eq_self, ex_pr, tl_s, tl_n, if_true, if_false, not_true_eq_false, not_false_eq_true, and_self, and_false, false_and, and_true, true_and]
end CLa
