/-! one E, worked out by the class -/
/-- a long's lowest bits stand for a stack -/
def srp (x : Int64) (st : List Bool) : Prop := ∀ i, i < st.length → x.toBitVec.getLsbD i = st.getD i false
theorem sh1 (x : Int64) : ((x.toUInt64 >>> ((1 : Int32).toInt64.toUInt64 &&& Int64.toUInt64 63)).toInt64).toBitVec = x.toBitVec >>> 1 := rfl
theorem sl1 (x : Int64) : (x <<< ((1 : Int32).toInt64 &&& 63)).toBitVec = x.toBitVec <<< 1 := rfl
theorem srp_not {x : Int64} {a : Bool} {s : List Bool} (h : srp x (a :: s)) : srp (x ^^^ 1) ((!a) :: s) := by
  intro i hi
  have q := h i hi
  rw [Int64.toBitVec_xor, BitVec.getLsbD_xor, q]
  cases i with
  | zero =>
    show (a ^^ (Int64.toBitVec 1).getLsbD 0) = !a
    cases a <;> decide
  | succ i => 
    have e : (1 : Int64).toBitVec.getLsbD (i + 1) = false := by
      show (1#64).getLsbD (i + 1) = false
      rw [BitVec.getLsbD_one]
      simp
    rw [e]
    simp
theorem bI64 {c : Prop} [Decidable c] (i : Nat) : ((bI c).toInt64).toBitVec.getLsbD i = (decide (i = 0) && decide c) := by
  unfold bI
  by_cases h : c
  · rw [if_pos h]
    show (1#64).getLsbD i = _
    rw [BitVec.getLsbD_one]
    simp [h]
  · rw [if_neg h]
    show (0#64).getLsbD i = _
    simp [h]
theorem srp_push {x : Int64} {a : Bool} {s : List Bool} (h : srp x s) (hl : s.length < 64) : srp ((x <<< ((1 : Int32).toInt64 &&& 63)) ||| (bI (a = true)).toInt64) (a :: s) := by
  intro i hi
  rw [Int64.toBitVec_or, BitVec.getLsbD_or, sl1, bI64, BitVec.getLsbD_shiftLeft]
  cases i with
  | zero => simp
  | succ i =>
    have hi2 : i < s.length := by simpa using hi
    have q := h i hi2
    have e : i + 1 < 64 := by omega
    simp [q, e]
theorem srp_and {x : Int64} {a b : Bool} {s : List Bool} (h : srp x (b :: a :: s)) (hl : s.length < 62) : srp ((x.toUInt64 >>> ((1 : Int32).toInt64.toUInt64 &&& Int64.toUInt64 63)).toInt64 &&& (x ||| -2)) ((a && b) :: s) := by
  intro i hi
  rw [Int64.toBitVec_and, BitVec.getLsbD_and, sh1, BitVec.getLsbD_ushiftRight, Int64.toBitVec_or, BitVec.getLsbD_or]
  have q := h (1 + i) (by simp at hi ⊢; omega)
  have q0 := h 0 (by simp)
  rw [q]
  cases i with
  | zero =>
    rw [q0]
    show (a && (b || (18446744073709551614#64).getLsbD 0)) = (a && b)
    rw [show (18446744073709551614#64).getLsbD 0 = false by decide, Bool.or_false]
  | succ i =>
    have hi2 : i < s.length := by simpa using hi
    rw [show (-2 : Int64).toBitVec = ~~~1#64 by decide, BitVec.getLsbD_not, BitVec.getLsbD_one, show 1 + (i + 1) = i + 1 + 1 by omega]
    have e : i + 1 < 64 := by omega
    simp [e]
theorem srp_or {x : Int64} {a b : Bool} {s : List Bool} (h : srp x (b :: a :: s)) : srp ((x.toUInt64 >>> ((1 : Int32).toInt64.toUInt64 &&& Int64.toUInt64 63)).toInt64 ||| (x &&& 1)) ((a || b) :: s) := by
  intro i hi
  rw [Int64.toBitVec_or, BitVec.getLsbD_or, sh1, BitVec.getLsbD_ushiftRight, Int64.toBitVec_and, BitVec.getLsbD_and]
  have q := h (1 + i) (by simp at hi ⊢; omega)
  have q0 := h 0 (by simp)
  rw [q]
  show (_ || (_ && (1#64).getLsbD i)) = _
  rw [BitVec.getLsbD_one]
  cases i with
  | zero =>
    rw [q0]
    simp
  | succ i =>
    rw [show 1 + (i + 1) = i + 1 + 1 by omega]
    simp
theorem srp_end {x : Int64} {a : Bool} (h : srp x [a]) : (lg_cmp (x &&& 1) 1 = 0) ↔ a = true := by
  have q : x.toBitVec.getLsbD 0 = a := h 0 (by simp)
  have e : ∀ i, (x &&& 1).toBitVec.getLsbD i = (decide (i = 0) && a) := by
    intro i
    rw [Int64.toBitVec_and, BitVec.getLsbD_and]
    show (_ && (1#64).getLsbD i) = _
    rw [BitVec.getLsbD_one]
    cases i with
    | zero => rw [q]; simp
    | succ i => simp
  cases a with
  | true =>
    have e1 : x &&& 1 = 1 := by
      refine Int64.toBitVec_inj.mp (BitVec.eq_of_getLsbD_eq fun i hi => ?_)
      rw [e i]
      show _ = (1#64).getLsbD i
      rw [BitVec.getLsbD_one]
      simp
    rw [e1]
    decide
  | false =>
    have e1 : x &&& 1 = 0 := by
      refine Int64.toBitVec_inj.mp (BitVec.eq_of_getLsbD_eq fun i hi => ?_)
      rw [e i]
      show _ = (0#64).getLsbD i
      simp
    rw [e1]
    decide
/-- how high a stack may stand, after one sign -/
theorem wf_not {t : Nat} {ts : List Nat} {h : Nat} (w : wf (t :: ts) h) (e : t = 6001) : 1 ≤ h ∧ wf ts h := by
  rcases w with ⟨-, a, b⟩ | ⟨a, -, -⟩ | ⟨a, -, -⟩
  · exact ⟨a, b⟩
  · omega
  · have := a.1
    omega
theorem wf_two {t : Nat} {ts : List Nat} {h : Nat} (w : wf (t :: ts) h) (e : t = 6002 ∨ t = 6003) : 2 ≤ h ∧ wf ts (h - 1) := by
  rcases w with ⟨a, -, -⟩ | ⟨-, a, b⟩ | ⟨a, -, -⟩
  · omega
  · exact ⟨a, b⟩
  · have := a.1
    omega
theorem wf_ts {t : Nat} {ts : List Nat} {h : Nat} (w : wf (t :: ts) h) (e1 : ¬ t = 6001) (e2 : ¬ t = 6002) (e3 : ¬ t = 6003) : isTs t ∧ h < 60 ∧ wf ts (h + 1) := by
  rcases w with ⟨a, -, -⟩ | ⟨a, -, -⟩ | a
  · exact absurd a e1
  · omega
  · exact a
theorem ck_ts {t : Nat} (h : isTs t) : ¬ ckT t = -1 ∧ ¬ ckT t = -2 ∧ ¬ ckT t = -3 := by
  obtain ⟨a, b⟩ := h
  have e0 : ckT t = nI ((t / 1000 * 3 + t / 100 % 10) * 100 + t % 100) := by
    unfold ckT
    rw [if_neg (by omega), if_neg (by omega), if_neg (by omega)]
  rw [e0]
  have p : ¬ nI ((t / 1000 * 3 + t / 100 % 10) * 100 + t % 100) < 0 := nI_pos (by omega)
  refine ⟨fun e => p (e ▸ (by decide)), fun e => p (e ▸ (by decide)), fun e => p (e ▸ (by decide))⟩
section HO
variable {sc : aSc} {d : Nat} {r : aRes} {f : Nat → Nat → Int32} {g : Nat → Nat → Int64} {h1 h2 : Nat}
theorem l29 {o : Nat} (H : HLF o) {fc : Nat → Nat} (hf : ∀ l, l < 6 → f 66 l = nI (fc l) ∧ fc l < 2147483648) (v1 : Int32) {e : Nat} (he : e ≤ 100) : ∀ (ts : List Nat) (i : Nat) (st : List Bool) (x : Int64) (x7 : Value), i + ts.length = e → (∀ j, j < ts.length → f (o + 3) (i + j) = ckT (ts.getD j 0)) → wf ts st.length → st.length ≤ 60 → srp x st → (Rn sc (d + 1) 29 6 [.ref o, .int v1, .int (nI e), .ref (66 : Nat), .long x, mk0, .int (nI i), x7] [] (cS f g h1 h2) r ↔ r = (cS f g h1 h2, some (.int (bI ((ev fc ts st).headD false = true)))))
  | [], i, st, x, x7, hi, hc, hw, hl, hs => by
    have e1 : i = e := hi
    subst e1
    have e2 : ¬ nI i < nI i := Int32.lt_irrefl
    have hw1 : st.length = 1 := hw
    obtain ⟨a, rfl⟩ : ∃ a, st = [a] := by
      match st, hw1 with
      | [a], _ => exact ⟨a, rfl⟩
    have q := srp_end hs
    have e3 : (ev fc [] [a]).headD false = a := rfl
    rw [e3]
    unfold bI
    cases a with
    | true =>
      have q2 : lg_cmp (x &&& 1) 1 = 0 := q.mpr rfl
      simp only [c29, x29_0, x29_1, x29_3, x29_4, x29_8, x29_9, x29_12, x29_13, x29_16, x29_18, x29_19, x29_21, x29_23, x29_24, x29_27, x29_29, x29_30, x29_31, x29_33, x29_36, x29_38, x29_40, x29_43, x29_45, x29_46, x29_47, x29_49, x29_52, x29_53, x29_54, x29_56, x29_59, x29_61, x29_63, x29_66, x29_68, x29_69, x29_70, x29_72, x29_73, x29_74, x29_75, x29_77, x29_80, x29_82, x29_83, x29_84, x29_86, x29_87, x29_90, x29_93, x29_94, x29_97, x29_98, x29_99, x29_100, x29_102, x29_105, x29_108, x29_110, x29_111, x29_112, x29_113, x29_114, x29_117, x29_118, x29_121, x29_122, x29_6 (x6 := nI i), e2, q2, bI_True, bI_False, nI_1, Nat.reduceLeDiff, Nat.reduceEqDiff, nb0, nb1, nbI, eq_self, ex_pr, tl_s, tl_n, if_true, if_false, not_true_eq_false, not_false_eq_true, and_self, and_false, false_and, and_true, true_and]
    | false =>
      have q2 : ¬ lg_cmp (x &&& 1) 1 = 0 := fun z => Bool.false_ne_true (q.mp z)
      simp only [c29, x29_0, x29_1, x29_3, x29_4, x29_8, x29_9, x29_12, x29_13, x29_16, x29_18, x29_19, x29_21, x29_23, x29_24, x29_27, x29_29, x29_30, x29_31, x29_33, x29_36, x29_38, x29_40, x29_43, x29_45, x29_46, x29_47, x29_49, x29_52, x29_53, x29_54, x29_56, x29_59, x29_61, x29_63, x29_66, x29_68, x29_69, x29_70, x29_72, x29_73, x29_74, x29_75, x29_77, x29_80, x29_82, x29_83, x29_84, x29_86, x29_87, x29_90, x29_93, x29_94, x29_97, x29_98, x29_99, x29_100, x29_102, x29_105, x29_108, x29_110, x29_111, x29_112, x29_113, x29_114, x29_117, x29_118, x29_121, x29_122, x29_6 (x6 := nI i), e2, q2, Bool.false_eq_true, bI_True, bI_False, nI_1, Nat.reduceLeDiff, Nat.reduceEqDiff, nb0, nb1, nbI, eq_self, ex_pr, tl_s, tl_n, if_true, if_false, not_true_eq_false, not_false_eq_true, and_self, and_false, false_and, and_true, true_and]
  | t :: ts, i, st, x, x7, hi, hc, hw, hl, hs => by
    have hi2 : i + (ts.length + 1) = e := hi
    have e2 : nI i < nI e := nI_lt (by omega) (by omega)
    have e3 : inb (nI i) 100 = true := inb_nI (by omega) (by decide)
    have e4 : (nI i).toNatClampNeg = i := cl_nI (by omega)
    have e5 : f (o + 3) i = ckT t := hc 0 (by show 0 < ts.length + 1; omega)
    have hc2 : ∀ j, j < ts.length → f (o + 3) (i + 1 + j) = ckT (ts.getD j 0) := fun j hj => by
      have := hc (j + 1) (by show j + 1 < ts.length + 1; omega)
      rw [show i + 1 + j = i + (j + 1) by omega, this]
      rfl
    by_cases t1 : t = 6001
    · obtain ⟨w1, w2⟩ := wf_not hw t1
      subst t1
      obtain ⟨a, s, rfl⟩ : ∃ a s, st = a :: s := by
        match st, w1 with
        | a :: s, _ => exact ⟨a, s, rfl⟩
      have k := l29 H hf v1 he ts (i + 1) ((!a) :: s) (x ^^^ 1) (.int (-1)) (by omega) hc2 w2 hl (srp_not hs)
      have e6 : ckT 6001 = -1 := rfl
      have e7 : ev fc (6001 :: ts) (a :: s) = ev fc ts ((!a) :: s) := rfl
      rw [e7, ← k]
      simp only [c29, x29_0, x29_1, x29_3, x29_4, x29_8, x29_9, x29_12, x29_13, x29_16, x29_18, x29_19, x29_21, x29_23, x29_24, x29_27, x29_29, x29_30, x29_31, x29_33, x29_36, x29_38, x29_40, x29_43, x29_45, x29_46, x29_47, x29_49, x29_52, x29_53, x29_54, x29_56, x29_59, x29_61, x29_63, x29_66, x29_68, x29_69, x29_70, x29_72, x29_73, x29_74, x29_75, x29_77, x29_80, x29_82, x29_83, x29_84, x29_86, x29_87, x29_90, x29_93, x29_94, x29_97, x29_98, x29_99, x29_100, x29_102, x29_105, x29_108, x29_110, x29_111, x29_112, x29_113, x29_114, x29_117, x29_118, x29_121, x29_122, x29_6 (x6 := nI i), e2, e3, e4, e5, e6, H.k, H.r5, H.q5, H.g3, H.i3, H.l3, bI_True, bI_False, nI_1, Nat.reduceLeDiff, Nat.reduceEqDiff, nb0, nb1, nbI, eq_self, ex_pr, tl_s, tl_n, if_true, if_false, not_true_eq_false, not_false_eq_true, and_self, and_false, false_and, and_true, true_and]
    by_cases t2 : t = 6002
    · obtain ⟨w1, w2⟩ := wf_two hw (Or.inl t2)
      subst t2
      obtain ⟨b, a, s, rfl⟩ : ∃ b a s, st = b :: a :: s := by
        match st, w1 with
        | b :: a :: s, _ => exact ⟨b, a, s, rfl⟩
      have hl2 : s.length < 59 := by
        have : s.length + 1 + 1 ≤ 60 := hl
        omega
      have k := l29 H hf v1 he ts (i + 1) ((a && b) :: s) _ (.int (-2)) (by omega) hc2 w2 (by show s.length + 1 ≤ 60; omega) (srp_and hs (by omega))
      have e6 : ckT 6002 = -2 := rfl
      have e7 : ev fc (6002 :: ts) (b :: a :: s) = ev fc ts ((a && b) :: s) := rfl
      have n1 : ¬ (-2 : Int32) = -1 := by decide
      rw [e7, ← k]
      simp only [c29, x29_0, x29_1, x29_3, x29_4, x29_8, x29_9, x29_12, x29_13, x29_16, x29_18, x29_19, x29_21, x29_23, x29_24, x29_27, x29_29, x29_30, x29_31, x29_33, x29_36, x29_38, x29_40, x29_43, x29_45, x29_46, x29_47, x29_49, x29_52, x29_53, x29_54, x29_56, x29_59, x29_61, x29_63, x29_66, x29_68, x29_69, x29_70, x29_72, x29_73, x29_74, x29_75, x29_77, x29_80, x29_82, x29_83, x29_84, x29_86, x29_87, x29_90, x29_93, x29_94, x29_97, x29_98, x29_99, x29_100, x29_102, x29_105, x29_108, x29_110, x29_111, x29_112, x29_113, x29_114, x29_117, x29_118, x29_121, x29_122, x29_6 (x6 := nI i), e2, e3, e4, e5, e6, n1, H.k, H.r5, H.q5, H.g3, H.i3, H.l3, bI_True, bI_False, nI_1, Nat.reduceLeDiff, Nat.reduceEqDiff, nb0, nb1, nbI, eq_self, ex_pr, tl_s, tl_n, if_true, if_false, not_true_eq_false, not_false_eq_true, and_self, and_false, false_and, and_true, true_and]
    by_cases t3 : t = 6003
    · obtain ⟨w1, w2⟩ := wf_two hw (Or.inr t3)
      subst t3
      obtain ⟨b, a, s, rfl⟩ : ∃ b a s, st = b :: a :: s := by
        match st, w1 with
        | b :: a :: s, _ => exact ⟨b, a, s, rfl⟩
      have hl2 : s.length < 59 := by
        have : s.length + 1 + 1 ≤ 60 := hl
        omega
      have k := l29 H hf v1 he ts (i + 1) ((a || b) :: s) _ (.int (-3)) (by omega) hc2 w2 (by show s.length + 1 ≤ 60; omega) (srp_or hs)
      have e6 : ckT 6003 = -3 := rfl
      have e7 : ev fc (6003 :: ts) (b :: a :: s) = ev fc ts ((a || b) :: s) := rfl
      have n1 : ¬ (-3 : Int32) = -1 := by decide
      have n2 : ¬ (-3 : Int32) = -2 := by decide
      rw [e7, ← k]
      simp only [c29, x29_0, x29_1, x29_3, x29_4, x29_8, x29_9, x29_12, x29_13, x29_16, x29_18, x29_19, x29_21, x29_23, x29_24, x29_27, x29_29, x29_30, x29_31, x29_33, x29_36, x29_38, x29_40, x29_43, x29_45, x29_46, x29_47, x29_49, x29_52, x29_53, x29_54, x29_56, x29_59, x29_61, x29_63, x29_66, x29_68, x29_69, x29_70, x29_72, x29_73, x29_74, x29_75, x29_77, x29_80, x29_82, x29_83, x29_84, x29_86, x29_87, x29_90, x29_93, x29_94, x29_97, x29_98, x29_99, x29_100, x29_102, x29_105, x29_108, x29_110, x29_111, x29_112, x29_113, x29_114, x29_117, x29_118, x29_121, x29_122, x29_6 (x6 := nI i), e2, e3, e4, e5, e6, n1, n2, H.k, H.r5, H.q5, H.g3, H.i3, H.l3, bI_True, bI_False, nI_1, Nat.reduceLeDiff, Nat.reduceEqDiff, nb0, nb1, nbI, eq_self, ex_pr, tl_s, tl_n, if_true, if_false, not_true_eq_false, not_false_eq_true, and_self, and_false, false_and, and_true, true_and]
    · obtain ⟨w0, w1, w2⟩ := wf_ts hw t1 t2 t3
      obtain ⟨n1, n2, n3⟩ := ck_ts w0
      have k := l29 H hf v1 he ts (i + 1) (tst fc t :: st) _ (.int (ckT t)) (by omega) hc2 w2 (by show st.length + 1 ≤ 60; omega) (srp_push hs (by omega))
      have e7 : ev fc (t :: ts) st = ev fc ts (tst fc t :: st) := by
        show ev fc ts (st1 fc t st) = _
        unfold st1
        rw [if_neg t1, if_neg t2, if_neg t3]
      rw [e7, ← k]
      unfold bI
      by_cases z : tst fc t = true <;> simp only [c29, x29_0, x29_1, x29_3, x29_4, x29_8, x29_9, x29_12, x29_13, x29_16, x29_18, x29_19, x29_21, x29_23, x29_24, x29_27, x29_29, x29_30, x29_31, x29_33, x29_36, x29_38, x29_40, x29_43, x29_45, x29_46, x29_47, x29_49, x29_52, x29_53, x29_54, x29_56, x29_59, x29_61, x29_63, x29_66, x29_68, x29_69, x29_70, x29_72, x29_73, x29_74, x29_75, x29_77, x29_80, x29_82, x29_83, x29_84, x29_86, x29_87, x29_90, x29_93, x29_94, x29_97, x29_98, x29_99, x29_100, x29_102, x29_105, x29_108, x29_110, x29_111, x29_112, x29_113, x29_114, x29_117, x29_118, x29_121, x29_122, x29_6 (x6 := nI i), e2, e3, e4, e5, n1, n2, n3, s30 w0 hf, H.k, H.r5, H.q5, H.g3, H.i3, H.l3, z, Bool.false_eq_true, bI_True, bI_False, nI_1, Nat.reduceLeDiff, Nat.reduceEqDiff, nb0, nb1, nbI, eq_self, ex_pr, tl_s, tl_n, if_true, if_false, not_true_eq_false, not_false_eq_true, and_self, and_false, false_and, and_true, true_and, show ¬ ((1 : Int32) = 0) by decide, bI]
end HO
