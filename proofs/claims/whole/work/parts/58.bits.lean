/-! bits; gains -/
def bl (x : Int32) (k : Nat) : Bool := x.toBitVec.getLsbD k
theorem bl_ext {x y : Int32} (h : ∀ k, k < 32 → bl x k = bl y k) : x = y := Int32.toBitVec_inj.mp (BitVec.eq_of_getLsbD_eq fun k hk => h k hk)
theorem bl_nI (n k : Nat) : bl (nI n) k = (decide (k < 32) && n.testBit k) := BitVec.getLsbD_ofNat 32 n k
theorem bl_and (x y : Int32) (k : Nat) : bl (x &&& y) k = (bl x k && bl y k) := by
  unfold bl
  rw [Int32.toBitVec_and, BitVec.getLsbD_and]
theorem bl_or (x y : Int32) (k : Nat) : bl (x ||| y) k = (bl x k || bl y k) := by
  unfold bl
  rw [Int32.toBitVec_or, BitVec.getLsbD_or]
theorem bl_xor (x y : Int32) (k : Nat) : bl (x ^^^ y) k = (bl x k ^^ bl y k) := by
  unfold bl
  rw [Int32.toBitVec_xor, BitVec.getLsbD_xor]
theorem bl_m1 {k : Nat} (h : k < 32) : bl (-1) k = true := by
  have e : (-1 : Int32).toBitVec = BitVec.allOnes 32 := by decide
  unfold bl
  rw [e, BitVec.getLsbD_allOnes]
  exact decide_eq_true h
theorem nI_and (a b : Nat) : nI a &&& nI b = nI (a &&& b) := bl_ext fun k hk => by
  rw [bl_and, bl_nI, bl_nI, bl_nI, Nat.testBit_and]
  simp [hk]
theorem nI_or (a b : Nat) : nI a ||| nI b = nI (a ||| b) := bl_ext fun k hk => by
  rw [bl_or, bl_nI, bl_nI, bl_nI, Nat.testBit_or]
  simp [hk]
theorem nI_xor (a b : Nat) : nI a ^^^ nI b = nI (a ^^^ b) := bl_ext fun k hk => by
  rw [bl_xor, bl_nI, bl_nI, bl_nI, Nat.testBit_xor]
  simp [hk]
/-- the one's bits but the other's -/
def ann (a b : Nat) : Nat := a ^^^ (a &&& b)
theorem ann_tb (a b k : Nat) : (ann a b).testBit k = (a.testBit k && !b.testBit k) := by
  unfold ann
  rw [Nat.testBit_xor, Nat.testBit_and]
  cases a.testBit k <;> cases b.testBit k <;> rfl
theorem nI_ann (a b : Nat) : nI a &&& (nI b ^^^ -1) = nI (ann a b) := bl_ext fun k hk => by
  rw [bl_and, bl_xor, bl_m1 hk, bl_nI, bl_nI, bl_nI, ann_tb]
  simp [hk]
theorem bt_tb (b k : Nat) : bt b k = (b.testBit k).toNat := by
  unfold bt
  rw [Nat.testBit_eq_decide_div_mod_eq]
  have := Nat.mod_lt (b / 2 ^ k) (show 0 < 2 by decide)
  by_cases h : b / 2 ^ k % 2 = 1
  · rw [decide_eq_true h, h]
    rfl
  · rw [decide_eq_false h]
    show _ = 0
    omega
theorem bt1 (b k : Nat) : bt b k = 1 ↔ b.testBit k = true := by
  rw [bt_tb]
  cases b.testBit k <;> decide
theorem bt_ex (a b k : Nat) : bt a k = bt b k ↔ a.testBit k = b.testBit k := by
  rw [bt_tb, bt_tb]
  cases a.testBit k <;> cases b.testBit k <;> decide
theorem tb_lt {x n : Nat} (h : ∀ k, n ≤ k → x.testBit k = false) : x < 2 ^ n := Nat.lt_pow_two_of_testBit x h
theorem lt_tb {x n k : Nat} (h : x < 2 ^ n) (hk : n ≤ k) : x.testBit k = false := Nat.testBit_lt_two_pow (Nat.lt_of_lt_of_le h (Nat.pow_le_pow_right (by decide) hk))
theorem tb_all (n k : Nat) : (2 ^ n - 1).testBit k = decide (k < n) := Nat.testBit_two_pow_sub_one n k
theorem p2_7 {n : Nat} (h : n ≤ 7) : 2 ^ n ≤ 128 := Nat.pow_le_pow_right (show 0 < 2 by decide) h
/-- two SLEDGES come to the other SIDE -/
def flp (sd a b : Nat) : Nat := sd ^^^ (2 ^ a ||| 2 ^ b)
theorem flp_tb (sd a b k : Nat) : (flp sd a b).testBit k = (sd.testBit k ^^ (decide (a = k) || decide (b = k))) := by
  unfold flp
  rw [Nat.testBit_xor, Nat.testBit_or, Nat.testBit_two_pow, Nat.testBit_two_pow]
theorem flp_lt {sd a b n : Nat} (h : sd < 2 ^ n) (ha : a < n) (hb : b < n) : flp sd a b < 2 ^ n := tb_lt fun k hk => by
  rw [flp_tb, lt_tb h hk, decide_eq_false (by omega), decide_eq_false (by omega)]
  rfl
theorem nI_flp {sd a b : Nat} (ha : a < 31) (hb : b < 31) : nI sd ^^^ (((1 : Int32) <<< (nI a &&& 31)) ||| ((1 : Int32) <<< (nI b &&& 31))) = nI (flp sd a b) := by
  rw [shl1_of ha, shl1_of hb, nI_or, nI_xor]
  rfl
theorem flp_flp (sd a b : Nat) : flp (flp sd a b) a b = sd := by
  refine Nat.eq_of_testBit_eq fun k => ?_
  rw [flp_tb, flp_tb]
  cases sd.testBit k <;> cases (decide (a = k) || decide (b = k)) <;> rfl
theorem all_of {n : Nat} (h : n ≤ 7) : ((1 : Int32) <<< (nI n &&& 31)) - 1 = nI (2 ^ n - 1) := by
  rw [shl1_of (by omega), show (1 : Int32) = nI 1 from rfl, pk_sub (Nat.one_le_two_pow)]
/-- GAIN of those of pr: k from i on -/
def ga (W : Nat → Nat) (pr sd gb : Nat) : Nat → Nat → Nat
  | 0, _ => 0
  | k + 1, i => (if bt pr i = 1 ∧ bt sd i = bt gb i then W i else 0) + ga W pr sd gb k (i + 1)
theorem ga_le {W : Nat → Nat} {pr sd gb : Nat} : ∀ {k i : Nat}, (∀ s, i ≤ s → s < i + k → W s ≤ 99) → ga W pr sd gb k i ≤ 99 * k
  | 0, i, _ => Nat.zero_le _
  | k + 1, i, h => by
    have a := @ga_le W pr sd gb k (i + 1) (fun s h1 h2 => h s (by omega) (by omega))
    have b := h i (by omega) (by omega)
    show (if _ then W i else 0) + _ ≤ _
    split <;> omega
section GA
variable {sc : aSc} {d : Nat} {r : aRes} {f : Nat → Nat → Int32} {g : Nat → Nat → Int64} {h1 h2 : Nat} {σ : aS}
theorem home_bt (pr sd gb i : Nat) : bt (ann pr (sd ^^^ gb)) i = 1 ↔ (bt pr i = 1 ∧ bt sd i = bt gb i) := by
  rw [bt1, bt1, bt_ex, ann_tb, Nat.testBit_xor]
  cases pr.testBit i <;> cases sd.testBit i <;> cases gb.testBit i <;> decide
theorem l22 {W : Nat → Nat} {n pr sd gb : Nat} (hn : n ≤ 7) (c0 : f 56 0 = nI n) (hw : ∀ s, s < n → f 60 s = nI (W s) ∧ W s ≤ 99) (hpr : pr < 128) (v1 v2 : Int32) : ∀ (k i a : Nat), i + k = n → a ≤ 99 * i → (Rn sc (d + 1) 22 17 [.ref (56 : Nat), .int v1, .int v2, .int (nI (ann pr (sd ^^^ gb))), .int (nI a), .int (nI i)] [] (cS f g h1 h2) r ↔ r = (cS f g h1 h2, some (.int (nI (a + ga W pr sd gb k i)))))
  | 0, i, a, h, ha => by
    have e : i = n := h
    subst e
    have e1 : ¬ nI i < nI i := Int32.lt_irrefl
    show _ ↔ r = (cS f g h1 h2, some (.int (nI a)))
    simp only [c22, x22_0, x22_1, x22_2, x22_3, x22_6, x22_7, x22_8, x22_9, x22_10, x22_11, x22_12, x22_14, x22_15, x22_19, x22_20, x22_23, x22_26, x22_27, x22_29, x22_30, x22_31, x22_32, x22_33, x22_36, x22_38, x22_39, x22_42, x22_44, x22_45, x22_46, x22_48, x22_51, x22_54, x22_56, x22_17 (x5 := nI i), kp56, rf56_6, rp56_6, al57, iA57, it57, rf56_7, rp56_7, al58, iA58, it58, rf56_8, rp56_8, al59, iA59, it59, rf56_9, rp56_9, al60, iA60, it60, rf56_10, rp56_10, al61, iA61, it61, rf56_12, rp56_12, al62, iA62, it62, rf56_13, rp56_13, al63, iA63, it63, rf56_15, rp56_15, al64, iA64, it64, rf56_16, rp56_16, al65, iA65, it65, rf56_17, rp56_17, rf56_18, rp56_18, al66, iA66, it66, c0, e1, bI_True, bI_False, nI_1, Nat.reduceLeDiff, Nat.reduceEqDiff, nb0, nb1, nbI, eq_self, ex_pr, tl_s, tl_n, if_true, if_false, not_true_eq_false, not_false_eq_true, and_self, and_false, false_and, and_true, true_and]
  | k + 1, i, a, h, ha => by
    have e1 : nI i < nI n := nI_lt (by omega) (by omega)
    have i1 : inb (nI i) 7 = true := inb_nI (by omega) (by decide)
    have i2 : (nI i).toNatClampNeg = i := cl_nI (by omega)
    have b1 := @bit_bt (ann pr (sd ^^^ gb)) i (Nat.lt_of_lt_of_le (tb_lt (n := 7) fun k hk => by rw [ann_tb, lt_tb (n := 7) hpr hk, Bool.false_and]) (by decide)) (by omega)
    have w := hw i (by omega)
    have z1 := bt_lt (ann pr (sd ^^^ gb)) i
    have e2 := @nI_eq (bt (ann pr (sd ^^^ gb)) i) 1 (by omega) (by omega)
    rw [lt1] at e2
    have st : ga W pr sd gb (k + 1) i = (if bt pr i = 1 ∧ bt sd i = bt gb i then W i else 0) + ga W pr sd gb k (i + 1) := rfl
    by_cases z : bt (ann pr (sd ^^^ gb)) i = 1
    · have k' := l22 hn c0 hw hpr v1 v2 (sd := sd) (gb := gb) k (i + 1) (a + W i) (by omega) (by omega)
      rw [st, if_pos ((home_bt _ _ _ _).mp z), ← Nat.add_assoc, ← k']
      simp only [c22, x22_0, x22_1, x22_2, x22_3, x22_6, x22_7, x22_8, x22_9, x22_10, x22_11, x22_12, x22_14, x22_15, x22_19, x22_20, x22_23, x22_26, x22_27, x22_29, x22_30, x22_31, x22_32, x22_33, x22_36, x22_38, x22_39, x22_42, x22_44, x22_45, x22_46, x22_48, x22_51, x22_54, x22_56, x22_17 (x5 := nI i), kp56, rf56_6, rp56_6, al57, iA57, it57, rf56_7, rp56_7, al58, iA58, it58, rf56_8, rp56_8, al59, iA59, it59, rf56_9, rp56_9, al60, iA60, it60, rf56_10, rp56_10, al61, iA61, it61, rf56_12, rp56_12, al62, iA62, it62, rf56_13, rp56_13, al63, iA63, it63, rf56_15, rp56_15, al64, iA64, it64, rf56_16, rp56_16, al65, iA65, it65, rf56_17, rp56_17, rf56_18, rp56_18, al66, iA66, it66, c0, e1, i1, i2, b1, e2, z, w.1, nI_add, lt1, bI_True, bI_False, nI_1, Nat.reduceLeDiff, Nat.reduceEqDiff, nb0, nb1, nbI, eq_self, ex_pr, tl_s, tl_n, if_true, if_false, not_true_eq_false, not_false_eq_true, and_self, and_false, false_and, and_true, true_and]
    · have k' := l22 hn c0 hw hpr v1 v2 (sd := sd) (gb := gb) k (i + 1) a (by omega) (by omega)
      rw [st, if_neg (fun q => z ((home_bt _ _ _ _).mpr q)), Nat.zero_add, ← k']
      simp only [c22, x22_0, x22_1, x22_2, x22_3, x22_6, x22_7, x22_8, x22_9, x22_10, x22_11, x22_12, x22_14, x22_15, x22_19, x22_20, x22_23, x22_26, x22_27, x22_29, x22_30, x22_31, x22_32, x22_33, x22_36, x22_38, x22_39, x22_42, x22_44, x22_45, x22_46, x22_48, x22_51, x22_54, x22_56, x22_17 (x5 := nI i), kp56, rf56_6, rp56_6, al57, iA57, it57, rf56_7, rp56_7, al58, iA58, it58, rf56_8, rp56_8, al59, iA59, it59, rf56_9, rp56_9, al60, iA60, it60, rf56_10, rp56_10, al61, iA61, it61, rf56_12, rp56_12, al62, iA62, it62, rf56_13, rp56_13, al63, iA63, it63, rf56_15, rp56_15, al64, iA64, it64, rf56_16, rp56_16, al65, iA65, it65, rf56_17, rp56_17, rf56_18, rp56_18, al66, iA66, it66, c0, e1, i1, i2, b1, e2, z, w.1, nI_add, bI_True, bI_False, nI_1, Nat.reduceLeDiff, Nat.reduceEqDiff, nb0, nb1, nbI, eq_self, ex_pr, tl_s, tl_n, if_true, if_false, not_true_eq_false, not_false_eq_true, and_self, and_false, false_and, and_true, true_and]
theorem s22 {W : Nat → Nat} {n pr sd gb : Nat} (hn : n ≤ 7) (c0 : f 56 0 = nI n) (c5 : f 56 5 = nI gb) (hw : ∀ s, s < n → f 60 s = nI (W s) ∧ W s ≤ 99) (hpr : pr < 128) : Cl sc (d + 2) 22 [.ref (56 : Nat), .int (nI sd), .int (nI pr)] (cS f g h1 h2) r ↔ r = (cS f g h1 h2, some (.int (nI (ga W pr sd gb n 0)))) := by
  have k' := @l22 sc d r f g h1 h2 W n pr sd gb hn c0 hw hpr (nI sd) (nI pr) n 0 0 (Nat.zero_add _) (by omega)
  rw [Nat.zero_add] at k'
  rw [← k']
  simp only [c22, x22_0, x22_1, x22_2, x22_3, x22_6, x22_7, x22_8, x22_9, x22_10, x22_11, x22_12, x22_14, x22_15, x22_19, x22_20, x22_23, x22_26, x22_27, x22_29, x22_30, x22_31, x22_32, x22_33, x22_36, x22_38, x22_39, x22_42, x22_44, x22_45, x22_46, x22_48, x22_51, x22_54, x22_56, kp56, rf56_6, rp56_6, al57, iA57, it57, rf56_7, rp56_7, al58, iA58, it58, rf56_8, rp56_8, al59, iA59, it59, rf56_9, rp56_9, al60, iA60, it60, rf56_10, rp56_10, al61, iA61, it61, rf56_12, rp56_12, al62, iA62, it62, rf56_13, rp56_13, al63, iA63, it63, rf56_15, rp56_15, al64, iA64, it64, rf56_16, rp56_16, al65, iA65, it65, rf56_17, rp56_17, rf56_18, rp56_18, al66, iA66, it66, c5, nI_xor, nI_ann, lt0, bI_True, bI_False, nI_1, Nat.reduceLeDiff, Nat.reduceEqDiff, nb0, nb1, nbI, eq_self, ex_pr, tl_s, tl_n, if_true, if_false, not_true_eq_false, not_false_eq_true, and_self, and_false, false_and, and_true, true_and]
theorem l143 {W : Nat → Nat} {n pr sd gb aw : Nat} (hn : n ≤ 7) (m0 : f 114 0 = nI n) (m1 : f 114 1 = nI sd) (hsd : sd < 128) (hw : ∀ s, s < n → f 118 s = nI (bt gb s) ∧ f 119 s = nI (W s) ∧ W s ≤ 99) (ew : f 114 4 = (if aw < 7 then nI aw else -1)) (hp : ∀ s, s < n → (bt pr s = 1 ↔ s ≠ aw)) : ∀ (k i a : Nat), i + k = n → a ≤ 99 * i → (Rn sc (d + 1) 143 4 [.ref (114 : Nat), .int (nI a), .int (nI i)] [] (cS f g h1 h2) r ↔ r = (cS f g h1 h2, some (.int (nI (a + ga W pr sd gb k i)))))
  | 0, i, a, h, ha => by
    have e : i = n := h
    subst e
    have e1 : ¬ nI i < nI i := Int32.lt_irrefl
    show _ ↔ r = (cS f g h1 h2, some (.int (nI a)))
    simp only [c143, x143_0, x143_1, x143_2, x143_3, x143_5, x143_6, x143_9, x143_12, x143_13, x143_14, x143_15, x143_18, x143_21, x143_22, x143_25, x143_26, x143_27, x143_28, x143_29, x143_30, x143_33, x143_34, x143_35, x143_38, x143_39, x143_42, x143_43, x143_44, x143_47, x143_48, x143_49, x143_50, x143_53, x143_56, x143_57, x143_4 (x2 := nI i), kp114, rf114_5, rp114_5, al115, iA115, it115, rf114_6, rp114_6, al116, iA116, it116, rf114_7, rp114_7, al117, iA117, it117, rf114_8, rp114_8, al118, iA118, it118, rf114_9, rp114_9, al119, iA119, it119, rf114_10, rp114_10, al120, iA120, it120, rf114_16, rp114_16, al121, iA121, it121, rf114_17, rp114_17, al122, iA122, it122, rf114_18, rp114_18, al123, iA123, it123, rf114_19, rp114_19, al124, iA124, it124, rf114_20, rp114_20, al125, iA125, it125, rf114_21, rp114_21, al126, iA126, it126, rf114_22, rp114_22, al127, iA127, it127, rf114_23, rp114_23, al128, iA128, it128, rf114_27, rp114_27, al129, iA129, it129, rf114_28, rp114_28, al130, iA130, it130, rf114_29, rp114_29, al131, iA131, it131, rf114_30, rp114_30, al132, iA132, it132, rf114_31, rp114_31, al133, iA133, it133, rf114_41, rp114_41, al134, iA134, it134, rf114_42, rp114_42, al135, iA135, it135, rf114_44, rp114_44, al136, iA136, it136, rf114_45, rp114_45, al137, iA137, it137, rf114_55, rp114_55, al138, iA138, it138, rf114_56, rp114_56, al139, iA139, it139, rf114_57, rp114_57, al140, iA140, it140, rf114_58, rp114_58, al141, iA141, it141, rf114_59, rp114_59, al142, iA142, it142, rf114_60, rp114_60, al143, iA143, it143, rf114_61, rp114_61, al144, iA144, it144, rf114_62, rp114_62, al145, iA145, it145, rf114_63, rp114_63, al146, iA146, it146, rf114_64, rp114_64, al147, iA147, it147, rf114_66, rp114_66, al148, iA148, it148, rf114_67, rp114_67, al149, iA149, it149, rf114_68, rp114_68, al150, iA150, it150, rf114_69, rp114_69, al151, iA151, it151, rf114_70, rp114_70, al152, iA152, it152, m0, e1, bI_True, bI_False, nI_1, Nat.reduceLeDiff, Nat.reduceEqDiff, nb0, nb1, nbI, eq_self, ex_pr, tl_s, tl_n, if_true, if_false, not_true_eq_false, not_false_eq_true, and_self, and_false, false_and, and_true, true_and]
  | k + 1, i, a, h, ha => by
    have e1 : nI i < nI n := nI_lt (by omega) (by omega)
    have i1 : inb (nI i) 7 = true := inb_nI (by omega) (by decide)
    have i2 : (nI i).toNatClampNeg = i := cl_nI (by omega)
    have b1 := @bit_bt sd i (by omega) (by omega)
    obtain ⟨w1, w2, w3⟩ := hw i (by omega)
    have z1 := bt_lt sd i
    have z2 := bt_lt gb i
    have e2 := @nI_eq (bt sd i) (bt gb i) (by omega) (by omega)
    have wa : (nI i = f 114 4) = (i = aw) := by
      rw [ew]
      by_cases w : aw < 7
      · rw [if_pos w]
        exact propext (nI_eq (by omega) (by omega))
      · rw [if_neg w]
        exact propext ⟨fun e => absurd e (nm1 (by omega)), fun e => absurd e (by omega)⟩
    have p := hp i (by omega)
    have st : ga W pr sd gb (k + 1) i = (if bt pr i = 1 ∧ bt sd i = bt gb i then W i else 0) + ga W pr sd gb k (i + 1) := rfl
    by_cases z : i = aw
    · have k' := l143 hn m0 m1 hsd hw ew hp k (i + 1) a (by omega) (by omega)
      rw [st, if_neg (fun q => p.mp q.1 z), Nat.zero_add, ← k']
      simp only [c143, x143_0, x143_1, x143_2, x143_3, x143_5, x143_6, x143_9, x143_12, x143_13, x143_14, x143_15, x143_18, x143_21, x143_22, x143_25, x143_26, x143_27, x143_28, x143_29, x143_30, x143_33, x143_34, x143_35, x143_38, x143_39, x143_42, x143_43, x143_44, x143_47, x143_48, x143_49, x143_50, x143_53, x143_56, x143_57, x143_4 (x2 := nI i), kp114, rf114_5, rp114_5, al115, iA115, it115, rf114_6, rp114_6, al116, iA116, it116, rf114_7, rp114_7, al117, iA117, it117, rf114_8, rp114_8, al118, iA118, it118, rf114_9, rp114_9, al119, iA119, it119, rf114_10, rp114_10, al120, iA120, it120, rf114_16, rp114_16, al121, iA121, it121, rf114_17, rp114_17, al122, iA122, it122, rf114_18, rp114_18, al123, iA123, it123, rf114_19, rp114_19, al124, iA124, it124, rf114_20, rp114_20, al125, iA125, it125, rf114_21, rp114_21, al126, iA126, it126, rf114_22, rp114_22, al127, iA127, it127, rf114_23, rp114_23, al128, iA128, it128, rf114_27, rp114_27, al129, iA129, it129, rf114_28, rp114_28, al130, iA130, it130, rf114_29, rp114_29, al131, iA131, it131, rf114_30, rp114_30, al132, iA132, it132, rf114_31, rp114_31, al133, iA133, it133, rf114_41, rp114_41, al134, iA134, it134, rf114_42, rp114_42, al135, iA135, it135, rf114_44, rp114_44, al136, iA136, it136, rf114_45, rp114_45, al137, iA137, it137, rf114_55, rp114_55, al138, iA138, it138, rf114_56, rp114_56, al139, iA139, it139, rf114_57, rp114_57, al140, iA140, it140, rf114_58, rp114_58, al141, iA141, it141, rf114_59, rp114_59, al142, iA142, it142, rf114_60, rp114_60, al143, iA143, it143, rf114_61, rp114_61, al144, iA144, it144, rf114_62, rp114_62, al145, iA145, it145, rf114_63, rp114_63, al146, iA146, it146, rf114_64, rp114_64, al147, iA147, it147, rf114_66, rp114_66, al148, iA148, it148, rf114_67, rp114_67, al149, iA149, it149, rf114_68, rp114_68, al150, iA150, it150, rf114_69, rp114_69, al151, iA151, it151, rf114_70, rp114_70, al152, iA152, it152, m0, e1, i1, i2, wa, eq_true z, Int32.add_zero, bI_True, bI_False, nI_1, Nat.reduceLeDiff, Nat.reduceEqDiff, nb0, nb1, nbI, eq_self, ex_pr, tl_s, tl_n, if_true, if_false, not_true_eq_false, not_false_eq_true, and_self, and_false, false_and, and_true, true_and]
    · by_cases y : bt sd i = bt gb i
      · have k' := l143 hn m0 m1 hsd hw ew hp k (i + 1) (a + W i) (by omega) (by omega)
        rw [st, if_pos ⟨p.mpr z, y⟩, ← Nat.add_assoc, ← k']
        simp only [c143, x143_0, x143_1, x143_2, x143_3, x143_5, x143_6, x143_9, x143_12, x143_13, x143_14, x143_15, x143_18, x143_21, x143_22, x143_25, x143_26, x143_27, x143_28, x143_29, x143_30, x143_33, x143_34, x143_35, x143_38, x143_39, x143_42, x143_43, x143_44, x143_47, x143_48, x143_49, x143_50, x143_53, x143_56, x143_57, x143_4 (x2 := nI i), kp114, rf114_5, rp114_5, al115, iA115, it115, rf114_6, rp114_6, al116, iA116, it116, rf114_7, rp114_7, al117, iA117, it117, rf114_8, rp114_8, al118, iA118, it118, rf114_9, rp114_9, al119, iA119, it119, rf114_10, rp114_10, al120, iA120, it120, rf114_16, rp114_16, al121, iA121, it121, rf114_17, rp114_17, al122, iA122, it122, rf114_18, rp114_18, al123, iA123, it123, rf114_19, rp114_19, al124, iA124, it124, rf114_20, rp114_20, al125, iA125, it125, rf114_21, rp114_21, al126, iA126, it126, rf114_22, rp114_22, al127, iA127, it127, rf114_23, rp114_23, al128, iA128, it128, rf114_27, rp114_27, al129, iA129, it129, rf114_28, rp114_28, al130, iA130, it130, rf114_29, rp114_29, al131, iA131, it131, rf114_30, rp114_30, al132, iA132, it132, rf114_31, rp114_31, al133, iA133, it133, rf114_41, rp114_41, al134, iA134, it134, rf114_42, rp114_42, al135, iA135, it135, rf114_44, rp114_44, al136, iA136, it136, rf114_45, rp114_45, al137, iA137, it137, rf114_55, rp114_55, al138, iA138, it138, rf114_56, rp114_56, al139, iA139, it139, rf114_57, rp114_57, al140, iA140, it140, rf114_58, rp114_58, al141, iA141, it141, rf114_59, rp114_59, al142, iA142, it142, rf114_60, rp114_60, al143, iA143, it143, rf114_61, rp114_61, al144, iA144, it144, rf114_62, rp114_62, al145, iA145, it145, rf114_63, rp114_63, al146, iA146, it146, rf114_64, rp114_64, al147, iA147, it147, rf114_66, rp114_66, al148, iA148, it148, rf114_67, rp114_67, al149, iA149, it149, rf114_68, rp114_68, al150, iA150, it150, rf114_69, rp114_69, al151, iA151, it151, rf114_70, rp114_70, al152, iA152, it152, m0, m1, e1, i1, i2, wa, eq_false z, b1, e2, w1, y, w2, nI_add, bI_True, bI_False, nI_1, Nat.reduceLeDiff, Nat.reduceEqDiff, nb0, nb1, nbI, eq_self, ex_pr, tl_s, tl_n, if_true, if_false, not_true_eq_false, not_false_eq_true, and_self, and_false, false_and, and_true, true_and]
      · have k' := l143 hn m0 m1 hsd hw ew hp k (i + 1) a (by omega) (by omega)
        rw [st, if_neg (fun q => y q.2), Nat.zero_add, ← k']
        simp only [c143, x143_0, x143_1, x143_2, x143_3, x143_5, x143_6, x143_9, x143_12, x143_13, x143_14, x143_15, x143_18, x143_21, x143_22, x143_25, x143_26, x143_27, x143_28, x143_29, x143_30, x143_33, x143_34, x143_35, x143_38, x143_39, x143_42, x143_43, x143_44, x143_47, x143_48, x143_49, x143_50, x143_53, x143_56, x143_57, x143_4 (x2 := nI i), kp114, rf114_5, rp114_5, al115, iA115, it115, rf114_6, rp114_6, al116, iA116, it116, rf114_7, rp114_7, al117, iA117, it117, rf114_8, rp114_8, al118, iA118, it118, rf114_9, rp114_9, al119, iA119, it119, rf114_10, rp114_10, al120, iA120, it120, rf114_16, rp114_16, al121, iA121, it121, rf114_17, rp114_17, al122, iA122, it122, rf114_18, rp114_18, al123, iA123, it123, rf114_19, rp114_19, al124, iA124, it124, rf114_20, rp114_20, al125, iA125, it125, rf114_21, rp114_21, al126, iA126, it126, rf114_22, rp114_22, al127, iA127, it127, rf114_23, rp114_23, al128, iA128, it128, rf114_27, rp114_27, al129, iA129, it129, rf114_28, rp114_28, al130, iA130, it130, rf114_29, rp114_29, al131, iA131, it131, rf114_30, rp114_30, al132, iA132, it132, rf114_31, rp114_31, al133, iA133, it133, rf114_41, rp114_41, al134, iA134, it134, rf114_42, rp114_42, al135, iA135, it135, rf114_44, rp114_44, al136, iA136, it136, rf114_45, rp114_45, al137, iA137, it137, rf114_55, rp114_55, al138, iA138, it138, rf114_56, rp114_56, al139, iA139, it139, rf114_57, rp114_57, al140, iA140, it140, rf114_58, rp114_58, al141, iA141, it141, rf114_59, rp114_59, al142, iA142, it142, rf114_60, rp114_60, al143, iA143, it143, rf114_61, rp114_61, al144, iA144, it144, rf114_62, rp114_62, al145, iA145, it145, rf114_63, rp114_63, al146, iA146, it146, rf114_64, rp114_64, al147, iA147, it147, rf114_66, rp114_66, al148, iA148, it148, rf114_67, rp114_67, al149, iA149, it149, rf114_68, rp114_68, al150, iA150, it150, rf114_69, rp114_69, al151, iA151, it151, rf114_70, rp114_70, al152, iA152, it152, m0, m1, e1, i1, i2, wa, eq_false z, b1, e2, w1, y, w2, nI_add, Int32.add_zero, bI_True, bI_False, nI_1, Nat.reduceLeDiff, Nat.reduceEqDiff, nb0, nb1, nbI, eq_self, ex_pr, tl_s, tl_n, if_true, if_false, not_true_eq_false, not_false_eq_true, and_self, and_false, false_and, and_true, true_and]
theorem s143 {W : Nat → Nat} {n pr sd gb aw : Nat} (hn : n ≤ 7) (m0 : f 114 0 = nI n) (m1 : f 114 1 = nI sd) (hsd : sd < 128) (hw : ∀ s, s < n → f 118 s = nI (bt gb s) ∧ f 119 s = nI (W s) ∧ W s ≤ 99) (ew : f 114 4 = (if aw < 7 then nI aw else -1)) (hp : ∀ s, s < n → (bt pr s = 1 ↔ s ≠ aw)) : Cl sc (d + 2) 143 [.ref (114 : Nat)] (cS f g h1 h2) r ↔ r = (cS f g h1 h2, some (.int (nI (ga W pr sd gb n 0)))) := by
  have k' := @l143 sc d r f g h1 h2 W n pr sd gb aw hn m0 m1 hsd hw ew hp n 0 0 (Nat.zero_add _) (by omega)
  rw [Nat.zero_add] at k'
  rw [← k']
  simp only [c143, x143_0, x143_1, x143_2, x143_3, x143_5, x143_6, x143_9, x143_12, x143_13, x143_14, x143_15, x143_18, x143_21, x143_22, x143_25, x143_26, x143_27, x143_28, x143_29, x143_30, x143_33, x143_34, x143_35, x143_38, x143_39, x143_42, x143_43, x143_44, x143_47, x143_48, x143_49, x143_50, x143_53, x143_56, x143_57, lt0, bI_True, bI_False, nI_1, Nat.reduceLeDiff, Nat.reduceEqDiff, nb0, nb1, nbI, eq_self, ex_pr, tl_s, tl_n, if_true, if_false, not_true_eq_false, not_false_eq_true, and_self, and_false, false_and, and_true, true_and]
end GA
