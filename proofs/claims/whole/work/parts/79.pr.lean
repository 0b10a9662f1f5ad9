/-! pairs, as the class looks them over -/
def o1 (p : Nat) : Nat := [0, 0, 0, 0, 0, 0, 1, 1, 1, 1, 1, 2, 2, 2, 2, 3, 3, 3, 4, 4, 5].getD p 0
def o2 (p : Nat) : Nat := [1, 2, 3, 4, 5, 6, 2, 3, 4, 5, 6, 3, 4, 5, 6, 4, 5, 6, 5, 6, 6].getD p 0
theorem fI2 : ∀ p, p < 21 → fI 2 p = nI (o1 p) := by decide +kernel
theorem fI3 : ∀ p, p < 21 → fI 3 p = nI (o2 p) := by decide +kernel
theorem o12 : ∀ p, p < 21 → o1 p < o2 p ∧ o2 p < 7 := by decide +kernel
def pbt (p : Nat) : Nat := if p = 21 then 0 else 2 ^ o1 p ||| 2 ^ o2 p
def nuO (p : Nat) : Nat := if p = 21 then 99 else 10 * o1 p + o2 p
theorem pbt_lt : ∀ p, p < 22 → pbt p < 128 := by decide +kernel
theorem nuO_lt : ∀ p, p < 22 → nuO p ≤ 99 := by decide +kernel
def pcn (x : Nat) : Nat := bt x 0 + bt x 1 + bt x 2 + bt x 3 + bt x 4 + bt x 5 + bt x 6
def usx (x y : Int32) : Int32 := (x.toUInt32 >>> (y.toUInt32 &&& Int32.toUInt32 31)).toInt32
def bc1 (x : Int32) : Int32 := x - (usx x 1 &&& 1431655765)
def bc2 (x : Int32) : Int32 := (x &&& 858993459) + (usx x 2 &&& 858993459)
def bc3 (x : Int32) : Int32 := (x + usx x 4) &&& 252645135
def bc4 (x : Int32) : Int32 := x + usx x 8
def bc5 (x : Int32) : Int32 := x + usx x 16
def bcE (x : Int32) : Int32 := bc5 (bc4 (bc3 (bc2 (bc1 x)))) &&& 63
theorem bc_eq : ∀ x, x < 128 → bcE (nI x) = nI (pcn x) := by decide +kernel
theorem bc_pair : ∀ p, p < 21 → ∀ s, s < 128 → (pcn (pbt p &&& s) = 1 ↔ ¬ bt s (o1 p) = bt s (o2 p)) := by decide +kernel
theorem bc_flp : ∀ p, p < 21 → ∀ s, s < 128 → ¬ bt s (o1 p) = bt s (o2 p) → pcn (flp s (o1 p) (o2 p)) = pcn s := by decide +kernel
theorem bc_pr : ∀ p, p < 21 → ∀ s, s < 128 → (ann (pbt p) s = 0 ↔ (bt s (o1 p) = 1 ∧ bt s (o2 p) = 1)) := by decide +kernel
theorem pcn_le : ∀ s, s < 128 → pcn s ≤ 7 := by decide +kernel
/-- the sides behind a pair's run -/
def flq (s p : Nat) : Nat := s ^^^ pbt p
theorem flq_21 (s : Nat) : flq s 21 = s := Nat.xor_zero s
theorem flq_p {s p : Nat} (h : p < 21) : flq s p = flp s (o1 p) (o2 p) := by
  unfold flq pbt flp
  rw [if_neg (by omega)]
/-- the pair has a run that goes, then -/
def VD (D : aD) (pr s hx p : Nat) : Bool := decide (p < 21) && decide (bt pr (o1 p) = 1 ∧ bt pr (o2 p) = 1) && GO D (o1 p) (o2 p) s hx
def PLL (D : aD) (s hx p : Nat) : Nat := if p = 21 then 0 else PU D (o1 p) (bt s (o1 p)) hx + PU D (o2 p) (bt s (o2 p)) hx
def PT (f : Nat → Nat → Int32) (D : aD) (n hr hs : Nat) : Prop := ∀ h, h < hs → ∀ i, i < n → f (45 + h) i = nI (PU D i 0 (hr + h)) ∧ f (45 + h) (7 + i) = nI (PU D i 1 (hr + h))
theorem pr_lt {pr n i : Nat} (h : pr < 2 ^ n) (b : bt pr i = 1) : i < n := by
  by_cases e : i < n
  · exact e
  · have := lt_tb h (show n ≤ i by omega)
    rw [bt1] at b
    rw [b] at this
    cases this
theorem or44 : ∀ h, h < 4 → (∀ a b, ((RR a b 44 h).isSome = true) = True) ∧ (∀ a b, rf a b 44 h = 45 + h) ∧ isT9 .int (45 + h) ∧ aln (45 + h) = 14 ∧ ((17 ≤ 45 + h) = True)
  | 0, _ => ⟨fun _ _ => eq_true rfl, fun _ _ => rfl, rfl, rfl, eq_true (by omega)⟩
  | 1, _ => ⟨fun _ _ => eq_true rfl, fun _ _ => rfl, rfl, rfl, eq_true (by omega)⟩
  | 2, _ => ⟨fun _ _ => eq_true rfl, fun _ _ => rfl, rfl, rfl, eq_true (by omega)⟩
  | 3, _ => ⟨fun _ _ => eq_true rfl, fun _ _ => rfl, rfl, rfl, eq_true (by omega)⟩
  | t + 4, h => absurd h (by omega)
section PR
variable {sc : aSc} {d : Nat} {r : aRes} {f : Nat → Nat → Int32} {g : Nat → Nat → Int64} {h1 h2 : Nat} {n hr wn dk sd gb pc bc : Nat} {W : Nat → Nat} {D : aD} {hc : Nat} {HS : Nat → aH} {σ : aS}
theorem s210 {x : Nat} (hx : x < 128) : Cl sc (d + 1) 210 [.int (nI x)] σ r ↔ r = (σ, some (.int (nI (pcn x)))) := by
  rw [← bc_eq x hx]
  unfold bcE bc5 bc4 bc3 bc2 bc1 usx
  simp only [c210, x210_0, x210_1, x210_2, x210_3, x210_4, x210_7, x210_8, x210_9, x210_10, x210_11, x210_14, x210_15, x210_16, x210_17, x210_18, x210_21, x210_22, x210_23, x210_24, x210_25, x210_26, x210_27, x210_28, x210_29, x210_32, x210_33, x210_34, x210_35, x210_36, x210_38, x210_39, x210_40, x210_41, x210_42, x210_43, x210_45, x210_46, x210_47, x210_48, x210_49, x210_51, x210_52, bI_True, bI_False, nI_1, Nat.reduceLeDiff, Nat.reduceEqDiff, nb0, nb1, nbI, eq_self, ex_pr, tl_s, tl_n, if_true, if_false, not_true_eq_false, not_false_eq_true, and_self, and_false, false_and, and_true, true_and]
theorem g2_17 : (2 < 17) = True := by decide
theorem g2_0 : (2 = 0) = False := by decide
theorem g3_17 : (3 < 17) = True := by decide
theorem g3_0 : (3 = 0) = False := by decide
theorem s34 {p : Nat} (hp : p < 22) : Cl sc (d + 1) 34 [.int (nI p)] (cS f g h1 h2) r ↔ r = (cS f g h1 h2, some (.int (nI (pbt p)))) := by
  have q := @nI_eq p 21 (by omega) (by decide)
  have e21 : nI 21 = 21 := rfl
  rw [e21] at q
  unfold pbt
  by_cases e : p = 21
  · rw [if_pos e]
    simp only [c34, x34_0, x34_1, x34_3, x34_6, x34_7, x34_10, x34_11, x34_14, x34_15, x34_15s, x34_16, x34_17, x34_18, x34_21, x34_22, x34_22s, x34_23, x34_24, x34_25, q, eq_true e, lt0, bI_True, bI_False, nI_1, Nat.reduceLeDiff, Nat.reduceEqDiff, nb0, nb1, nbI, eq_self, ex_pr, tl_s, tl_n, if_true, if_false, not_true_eq_false, not_false_eq_true, and_self, and_false, false_and, and_true, true_and]
  · have hp' : p < 21 := by omega
    have i1 : inb (nI p) 21 = true := inb_nI hp' (by decide)
    have i2 : (nI p).toNatClampNeg = p := cl_nI (by omega)
    have o := o12 p hp'
    have q1 : (1 : Int32) <<< (nI (o1 p) &&& 31) = nI (2 ^ o1 p) := shl1_of (by omega)
    have q2 : (1 : Int32) <<< (nI (o2 p) &&& 31) = nI (2 ^ o2 p) := shl1_of (by omega)
    rw [if_neg e]
    simp only [c34, x34_0, x34_1, x34_3, x34_6, x34_7, x34_10, x34_11, x34_14, x34_15, x34_15s, x34_16, x34_17, x34_18, x34_21, x34_22, x34_22s, x34_23, x34_24, x34_25, al2, iA2, it2, al3, iA3, it3, q, eq_false e, g2_17, g2_0, g3_17, g3_0, i1, i2, fI2 p hp', fI3 p hp', q1, q2, nI_or, bI_True, bI_False, nI_1, Nat.reduceLeDiff, Nat.reduceEqDiff, nb0, nb1, nbI, eq_self, ex_pr, tl_s, tl_n, if_true, if_false, not_true_eq_false, not_false_eq_true, and_self, and_false, false_and, and_true, true_and]
theorem s35 {p : Nat} (hp : p < 22) : Cl sc (d + 1) 35 [.int (nI p)] (cS f g h1 h2) r ↔ r = (cS f g h1 h2, some (.int (nI (nuO p)))) := by
  have q := @nI_eq p 21 (by omega) (by decide)
  have e21 : nI 21 = 21 := rfl
  have e99 : nI 99 = 99 := rfl
  rw [e21] at q
  unfold nuO
  by_cases e : p = 21
  · rw [if_pos e]
    simp only [c35, x35_0, x35_1, x35_3, x35_6, x35_8, x35_11, x35_13, x35_16, x35_17, x35_17s, x35_18, x35_19, x35_22, x35_23, x35_23s, x35_24, x35_25, q, eq_true e, e99, bI_True, bI_False, nI_1, Nat.reduceLeDiff, Nat.reduceEqDiff, nb0, nb1, nbI, eq_self, ex_pr, tl_s, tl_n, if_true, if_false, not_true_eq_false, not_false_eq_true, and_self, and_false, false_and, and_true, true_and]
  · have hp' : p < 21 := by omega
    have i1 : inb (nI p) 21 = true := inb_nI hp' (by decide)
    have i2 : (nI p).toNatClampNeg = p := cl_nI (by omega)
    have t10 : (10 : Int32) * nI (o1 p) = nI (10 * o1 p) := nI_mul 10 _
    rw [if_neg e]
    simp only [c35, x35_0, x35_1, x35_3, x35_6, x35_8, x35_11, x35_13, x35_16, x35_17, x35_17s, x35_18, x35_19, x35_22, x35_23, x35_23s, x35_24, x35_25, al2, iA2, it2, al3, iA3, it3, q, eq_false e, g2_17, g2_0, g3_17, g3_0, i1, i2, fI2 p hp', fI3 p hp', t10, nI_add, bI_True, bI_False, nI_1, Nat.reduceLeDiff, Nat.reduceEqDiff, nb0, nb1, nbI, eq_self, ex_pr, tl_s, tl_n, if_true, if_false, not_true_eq_false, not_false_eq_true, and_self, and_false, false_and, and_true, true_and]
theorem s36 {h i s hs : Nat} (P : PT f D n hr hs) (hh : h < hs) (h4 : hs ≤ 4) (hi : i < n) (n7 : n ≤ 7) (hsb : s < 128) : Cl sc (d + 1) 36 [.ref (21 : Nat), .int (nI h), .int (nI i), .int (nI s)] (cS f g h1 h2) r ↔ r = (cS f g h1 h2, some (.int (nI (PU D i (bt s i) (hr + h))))) := by
  obtain ⟨u1, u2, u3, u4, u5⟩ := or44 h (by omega)
  obtain ⟨p1, p2⟩ := P h hh i hi
  have j1 : inb (nI h) 4 = true := inb_nI (by omega) (by decide)
  have j2 : (nI h).toNatClampNeg = h := cl_nI (by omega)
  have b := @bit_bt s i (by omega) (by omega)
  have x := bt_lt s i
  have c1 : inb (nI (bt s i * 7 + i)) 14 = true := inb_nI (by omega) (by decide)
  have c2 : (nI (bt s i * 7 + i)).toNatClampNeg = bt s i * 7 + i := cl_nI (by omega)
  have c3 : nI (bt s i) * 7 = nI (bt s i * 7) := nI_mul _ 7
  have c4 : f (45 + h) (bt s i * 7 + i) = nI (PU D i (bt s i) (hr + h)) := by
    rcases (show bt s i = 0 ∨ bt s i = 1 by omega) with e | e
    · rw [e, Nat.zero_mul, Nat.zero_add]
      exact p1
    · rw [e, Nat.one_mul]
      exact p2
  simp only [c36, x36_0, x36_1, x36_4, x36_5, x36_6, x36_7, x36_8, x36_9, x36_10, x36_11, x36_13, x36_14, x36_15, x36_16, x36_16s, x36_17, kp21, rf21_0, rp21_0, al22, iA22, iG22, rf21_1, rp21_1, al28, iA28, iG28, rf21_2, rp21_2, al34, iA34, iG34, rf21_3, rp21_3, al39, iA39, iG39, rf21_4, rp21_4, al44, iA44, iG44, al44, iA44, iG44, rf44_0, rp44_0, al45, iA45, it45, rf44_1, rp44_1, al46, iA46, it46, rf44_2, rp44_2, al47, iA47, it47, rf44_3, rp44_3, al48, iA48, it48, j1, j2, u1, u2, u3, u4, u5, b, c3, nI_add, c1, c2, c4, bI_True, bI_False, nI_1, Nat.reduceLeDiff, Nat.reduceEqDiff, nb0, nb1, nbI, eq_self, ex_pr, tl_s, tl_n, if_true, if_false, not_true_eq_false, not_false_eq_true, and_self, and_false, false_and, and_true, true_and]
theorem s37 {h p s hs : Nat} (P : PT f D n hr hs) (hh : h < hs) (h4 : hs ≤ 4) (hp : p < 22) (hpn : p < 21 → o2 p < n) (n7 : n ≤ 7) (hsb : s < 128) : Cl sc (d + 2) 37 [.ref (21 : Nat), .int (nI h), .int (nI s), .int (nI p)] (cS f g h1 h2) r ↔ r = (cS f g h1 h2, some (.int (nI (PLL D s (hr + h) p)))) := by
  have q := @nI_eq p 21 (by omega) (by decide)
  have e21 : nI 21 = 21 := rfl
  rw [e21] at q
  unfold PLL
  by_cases e : p = 21
  · rw [if_pos e]
    simp only [c37, x37_0, x37_1, x37_3, x37_6, x37_7, x37_10, x37_11, x37_12, x37_15, x37_16, x37_16s, x37_17, x37_18, x37_21, x37_22, x37_23, x37_26, x37_27, x37_27s, x37_28, x37_29, x37_32, x37_33, q, eq_true e, lt0, bI_True, bI_False, nI_1, Nat.reduceLeDiff, Nat.reduceEqDiff, nb0, nb1, nbI, eq_self, ex_pr, tl_s, tl_n, if_true, if_false, not_true_eq_false, not_false_eq_true, and_self, and_false, false_and, and_true, true_and]
  · have hp' : p < 21 := by omega
    have i1 : inb (nI p) 21 = true := inb_nI hp' (by decide)
    have i2 : (nI p).toNatClampNeg = p := cl_nI (by omega)
    have o := o12 p hp'
    have on := hpn hp'
    have k1 := fun d r => @s36 sc d r f g h1 h2 n hr D h (o1 p) s hs P hh h4 (by omega) n7 hsb
    have k2 := fun d r => @s36 sc d r f g h1 h2 n hr D h (o2 p) s hs P hh h4 on n7 hsb
    rw [if_neg e]
    simp only [c37, x37_0, x37_1, x37_3, x37_6, x37_7, x37_10, x37_11, x37_12, x37_15, x37_16, x37_16s, x37_17, x37_18, x37_21, x37_22, x37_23, x37_26, x37_27, x37_27s, x37_28, x37_29, x37_32, x37_33, kp21, rf21_0, rp21_0, al22, iA22, iG22, rf21_1, rp21_1, al28, iA28, iG28, rf21_2, rp21_2, al34, iA34, iG34, rf21_3, rp21_3, al39, iA39, iG39, rf21_4, rp21_4, al44, iA44, iG44, al2, iA2, it2, al3, iA3, it3, q, eq_false e, g2_17, g2_0, g3_17, g3_0, i1, i2, fI2 p hp', fI3 p hp', k1, k2, nI_add, bI_True, bI_False, nI_1, Nat.reduceLeDiff, Nat.reduceEqDiff, nb0, nb1, nbI, eq_self, ex_pr, tl_s, tl_n, if_true, if_false, not_true_eq_false, not_false_eq_true, and_self, and_false, false_and, and_true, true_and]
theorem s38 {h p s hs pr : Nat} (P : PT f D n hr hs) (C : CE f h1 D n) (hh : h < hs) (h4 : hs ≤ 4) (hp : p < 21) (n7 : n ≤ 7) (hsb : s < 128) (hpr : f 21 5 = nI pr) (hpn : pr < 2 ^ n) : Cl sc (d + 4) 38 [.ref (21 : Nat), .ref (56 : Nat), .int (nI h), .int (nI s), .int (nI p)] (cS f g h1 h2) r ↔ r = (cS f g h1 h2, some (.int (bI (VD D pr s (hr + h) p = true)))) := by
  have pr7 := go_lt n7 hpn
  have HL := C.1.2.1.f
  have i1 : inb (nI p) 21 = true := inb_nI hp (by decide)
  have i2 : (nI p).toNatClampNeg = p := cl_nI (by omega)
  have o := o12 p hp
  have k34 := fun d r => @s34 sc d r f g h1 h2 p (by omega)
  have pl := pbt_lt p (by omega)
  have a1 : ann (pbt p) pr < 2147483648 := tb_lt (n := 31) fun k hk => by rw [ann_tb, lt_tb (n := 7) (show pbt p < 2 ^ 7 from pl) (by omega), Bool.false_and]
  have q1 := @nI_eq (ann (pbt p) pr) 0 a1 (by decide)
  rw [lt0, bc_pr p hp pr pr7] at q1
  have a2 : pbt p &&& s < 128 := Nat.lt_of_le_of_lt Nat.and_le_left pl
  have k210 := fun d r => @s210 sc d r (cS f g h1 h2) (pbt p &&& s) a2
  have q2 := @nI_eq (pcn (pbt p &&& s)) 1 (Nat.lt_of_le_of_lt (pcn_le _ a2) (by decide)) (by decide)
  rw [lt1, bc_pair p hp s hsb] at q2
  have pp : decide (p < 21) = true := decide_eq_true hp
  unfold VD
  rw [pp, Bool.true_and]
  by_cases y : bt pr (o1 p) = 1 ∧ bt pr (o2 p) = 1
  · have b1 := pr_lt hpn y.1
    have b2 := pr_lt hpn y.2
    have k1 := fun d r => @s36 sc d r f g h1 h2 n hr D h (o1 p) s hs P hh h4 b1 n7 hsb
    have k2 := fun d r => @s36 sc d r f g h1 h2 n hr D h (o2 p) s hs P hh h4 b2 n7 hsb
    have p1 := PU_le C.1.1 b1 (bt s (o1 p)) (hr + h)
    have p2 := PU_le C.1.1 b2 (bt s (o2 p)) (hr + h)
    have nd := C.nd
    have k3 := fun d r => @s31 sc d r f g h1 h2 h1 (ndH (dH D)) (rpH (dH D)) (PU D (o1 p) (bt s (o1 p)) (hr + h)) (PU D (o2 p) (bt s (o2 p)) (hr + h)) HL C.2.1 C.2.2 (by omega) (by omega) (by omega) (by omega)
    rw [decide_eq_true y, Bool.true_and]
    unfold GO
    by_cases z : bt s (o1 p) = bt s (o2 p)
    · have z2 : ¬ (decide (bt s (o1 p) ≠ bt s (o2 p)) && BE (ndH (dH D)) (rpH (dH D)) (PU D (o1 p) (bt s (o1 p)) (hr + h)) (PU D (o2 p) (bt s (o2 p)) (hr + h))) = true := by
        rw [decide_eq_false (fun e => e z), Bool.false_and]
        exact Bool.false_ne_true
      rw [bI_f z2]
      simp only [c38, x38_0, x38_2, x38_5, x38_7, x38_9, x38_10, x38_13, x38_14, x38_15, x38_16, x38_19, x38_21, x38_22, x38_23, x38_26, x38_27, x38_30, x38_31, x38_34, x38_35, x38_36, x38_39, x38_41, x38_41s, x38_42, x38_43, x38_46, x38_47, x38_48, x38_51, x38_53, x38_53s, x38_54, x38_55, x38_58, x38_61, x38_64, x38_65, x38_68, x38_69, kp21, rf21_0, rp21_0, al22, iA22, iG22, rf21_1, rp21_1, al28, iA28, iG28, rf21_2, rp21_2, al34, iA34, iG34, rf21_3, rp21_3, al39, iA39, iG39, rf21_4, rp21_4, al44, iA44, iG44, kp56, rf56_6, rp56_6, al57, iA57, it57, rf56_7, rp56_7, al58, iA58, it58, rf56_8, rp56_8, al59, iA59, it59, rf56_9, rp56_9, al60, iA60, it60, rf56_10, rp56_10, al61, iA61, it61, rf56_12, rp56_12, al62, iA62, it62, rf56_13, rp56_13, al63, iA63, it63, rf56_15, rp56_15, al64, iA64, it64, rf56_16, rp56_16, al65, iA65, it65, rf56_17, rp56_17, rf56_18, rp56_18, al66, iA66, it66, k34, hpr, nI_ann, nI_and, k210, q1, y, q2, z, bI_True, bI_False, nI_1, Nat.reduceLeDiff, Nat.reduceEqDiff, nb0, nb1, nbI, eq_self, ex_pr, tl_s, tl_n, if_true, if_false, not_true_eq_false, not_false_eq_true, and_self, and_false, false_and, and_true, true_and]
    · rw [decide_eq_true z, Bool.true_and]
      by_cases w : BE (ndH (dH D)) (rpH (dH D)) (PU D (o1 p) (bt s (o1 p)) (hr + h)) (PU D (o2 p) (bt s (o2 p)) (hr + h)) = true
      · rw [bI_t w]
        simp only [c38, x38_0, x38_2, x38_5, x38_7, x38_9, x38_10, x38_13, x38_14, x38_15, x38_16, x38_19, x38_21, x38_22, x38_23, x38_26, x38_27, x38_30, x38_31, x38_34, x38_35, x38_36, x38_39, x38_41, x38_41s, x38_42, x38_43, x38_46, x38_47, x38_48, x38_51, x38_53, x38_53s, x38_54, x38_55, x38_58, x38_61, x38_64, x38_65, x38_68, x38_69, kp21, rf21_0, rp21_0, al22, iA22, iG22, rf21_1, rp21_1, al28, iA28, iG28, rf21_2, rp21_2, al34, iA34, iG34, rf21_3, rp21_3, al39, iA39, iG39, rf21_4, rp21_4, al44, iA44, iG44, kp56, rf56_6, rp56_6, al57, iA57, it57, rf56_7, rp56_7, al58, iA58, it58, rf56_8, rp56_8, al59, iA59, it59, rf56_9, rp56_9, al60, iA60, it60, rf56_10, rp56_10, al61, iA61, it61, rf56_12, rp56_12, al62, iA62, it62, rf56_13, rp56_13, al63, iA63, it63, rf56_15, rp56_15, al64, iA64, it64, rf56_16, rp56_16, al65, iA65, it65, rf56_17, rp56_17, rf56_18, rp56_18, al66, iA66, it66, al2, iA2, it2, al3, iA3, it3, HL.k, k34, hpr, nI_ann, nI_and, k210, q1, y, q2, z, g2_17, g2_0, g3_17, g3_0, i1, i2, fI2 p hp, fI3 p hp, k1, k2, k3, bI_t w, zi1, bI_True, bI_False, nI_1, Nat.reduceLeDiff, Nat.reduceEqDiff, nb0, nb1, nbI, eq_self, ex_pr, tl_s, tl_n, if_true, if_false, not_true_eq_false, not_false_eq_true, and_self, and_false, false_and, and_true, true_and]
      · rw [bI_f w]
        simp only [c38, x38_0, x38_2, x38_5, x38_7, x38_9, x38_10, x38_13, x38_14, x38_15, x38_16, x38_19, x38_21, x38_22, x38_23, x38_26, x38_27, x38_30, x38_31, x38_34, x38_35, x38_36, x38_39, x38_41, x38_41s, x38_42, x38_43, x38_46, x38_47, x38_48, x38_51, x38_53, x38_53s, x38_54, x38_55, x38_58, x38_61, x38_64, x38_65, x38_68, x38_69, kp21, rf21_0, rp21_0, al22, iA22, iG22, rf21_1, rp21_1, al28, iA28, iG28, rf21_2, rp21_2, al34, iA34, iG34, rf21_3, rp21_3, al39, iA39, iG39, rf21_4, rp21_4, al44, iA44, iG44, kp56, rf56_6, rp56_6, al57, iA57, it57, rf56_7, rp56_7, al58, iA58, it58, rf56_8, rp56_8, al59, iA59, it59, rf56_9, rp56_9, al60, iA60, it60, rf56_10, rp56_10, al61, iA61, it61, rf56_12, rp56_12, al62, iA62, it62, rf56_13, rp56_13, al63, iA63, it63, rf56_15, rp56_15, al64, iA64, it64, rf56_16, rp56_16, al65, iA65, it65, rf56_17, rp56_17, rf56_18, rp56_18, al66, iA66, it66, al2, iA2, it2, al3, iA3, it3, HL.k, k34, hpr, nI_ann, nI_and, k210, q1, y, q2, z, g2_17, g2_0, g3_17, g3_0, i1, i2, fI2 p hp, fI3 p hp, k1, k2, k3, bI_f w, bI_True, bI_False, nI_1, Nat.reduceLeDiff, Nat.reduceEqDiff, nb0, nb1, nbI, eq_self, ex_pr, tl_s, tl_n, if_true, if_false, not_true_eq_false, not_false_eq_true, and_self, and_false, false_and, and_true, true_and]
  · rw [decide_eq_false y, Bool.false_and, bI_f Bool.false_ne_true]
    simp only [c38, x38_0, x38_2, x38_5, x38_7, x38_9, x38_10, x38_13, x38_14, x38_15, x38_16, x38_19, x38_21, x38_22, x38_23, x38_26, x38_27, x38_30, x38_31, x38_34, x38_35, x38_36, x38_39, x38_41, x38_41s, x38_42, x38_43, x38_46, x38_47, x38_48, x38_51, x38_53, x38_53s, x38_54, x38_55, x38_58, x38_61, x38_64, x38_65, x38_68, x38_69, kp21, rf21_0, rp21_0, al22, iA22, iG22, rf21_1, rp21_1, al28, iA28, iG28, rf21_2, rp21_2, al34, iA34, iG34, rf21_3, rp21_3, al39, iA39, iG39, rf21_4, rp21_4, al44, iA44, iG44, kp56, rf56_6, rp56_6, al57, iA57, it57, rf56_7, rp56_7, al58, iA58, it58, rf56_8, rp56_8, al59, iA59, it59, rf56_9, rp56_9, al60, iA60, it60, rf56_10, rp56_10, al61, iA61, it61, rf56_12, rp56_12, al62, iA62, it62, rf56_13, rp56_13, al63, iA63, it63, rf56_15, rp56_15, al64, iA64, it64, rf56_16, rp56_16, al65, iA65, it65, rf56_17, rp56_17, rf56_18, rp56_18, al66, iA66, it66, k34, hpr, nI_ann, q1, y, bI_True, bI_False, nI_1, Nat.reduceLeDiff, Nat.reduceEqDiff, nb0, nb1, nbI, eq_self, ex_pr, tl_s, tl_n, if_true, if_false, not_true_eq_false, not_false_eq_true, and_self, and_false, false_and, and_true, true_and]
end PR
