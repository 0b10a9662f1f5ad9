/-! pulls by the class -/
/-- a day's data that pulls hang on: KINDS, v, LOADS, ROWS, CLAUSES -/
abbrev aD : Type := (Nat → Nat) × (Nat → Nat) × (Nat → Nat) × (Nat → Nat) × aH
def dK (D : aD) : Nat → Nat := D.1
def dV (D : aD) : Nat → Nat := D.2.1
def dL (D : aD) : Nat → Nat := D.2.2.1
def dR (D : aD) : Nat → Nat := D.2.2.2.1
def dH (D : aD) : aH := D.2.2.2.2
def fct (D : aD) (s sd hr : Nat) : Nat → Nat
  | 0 => s
  | 1 => dK D s
  | 2 => dV D s
  | 3 => sd
  | 4 => dL D s / 10
  | _ => hr % 12
def kf (k v : Nat) (p : Int) (hr rw : Nat) : Int := match k with
  | 1 => p + v
  | 2 => p.tdiv 2
  | 3 => p - 2 * v
  | 4 => (p + v) * (if hr % 2 = 1 then 2 else 1)
  | 5 => if hr % 3 = 0 then v else p.tdiv 2
  | 6 => p - 2 * v + rw
  | _ => p
def pln (D : aD) (s sd hr : Nat) : Int := dL D s + ((sno 0 (fct D s sd hr) (dH D) : Nat) - (sno 1 (fct D s sd hr) (dH D) : Nat) : Int)
def PU (D : aD) (s sd hr : Nat) : Nat := (kf (dK D s) (dV D s) (pln D s sd hr) hr (dR D (s * 4 + hr % 4))).toNat
def DOK (D : aD) (n : Nat) : Prop := n ≤ 7 ∧ (∀ s, s < n → dK D s ≤ 6 ∧ dV D s ≤ 9 ∧ dL D s ≤ 99) ∧ (∀ k, k < 28 → dR D k ≤ 9) ∧ WFH (dH D) ∧ (dH D).length ≤ 10
theorem pln_le {D : aD} {n s : Nat} (h : DOK D n) (hs : s < n) (sd hr : Nat) : -1000 ≤ pln D s sd hr ∧ pln D s sd hr ≤ 1100 := by
  obtain ⟨-, b, -, w, l⟩ := h
  have a := (b s hs).2.2
  have q0 := @sno_le 0 (fct D s sd hr) _ w
  have q1 := @sno_le 1 (fct D s sd hr) _ w
  unfold pln
  omega
theorem tdiv2 {p : Int} (h1 : -1000 ≤ p) (h2 : p ≤ 1100) : -1000 ≤ p.tdiv 2 ∧ p.tdiv 2 ≤ 1100 := by
  by_cases h : 0 ≤ p
  · have := Int.tdiv_eq_ediv_of_nonneg (b := 2) h
    omega
  · have : (-p).tdiv 2 = -p.tdiv 2 := Int.neg_tdiv _ _
    have q := Int.tdiv_eq_ediv_of_nonneg (a := -p) (b := 2) (by omega)
    omega
theorem kf_le {k v hr rw : Nat} {p : Int} (hv : v ≤ 9) (hr9 : rw ≤ 9) (h1 : -1000 ≤ p) (h2 : p ≤ 1100) : -3000 ≤ kf k v p hr rw ∧ kf k v p hr rw ≤ 3000 := by
  have t := tdiv2 h1 h2
  unfold kf
  split
  · omega
  · omega
  · omega
  · split <;> omega
  · split <;> omega
  · omega
  · omega
theorem PU_le {D : aD} {n s : Nat} (h : DOK D n) (hs : s < n) (sd hr : Nat) : PU D s sd hr ≤ 3000 := by
  have a := pln_le h hs sd hr
  obtain ⟨n7, b, c, -, -⟩ := h
  have q := @kf_le (dK D s) (dV D s) hr (dR D (s * 4 + hr % 4)) _ (b s hs).2.1 (c _ (by omega)) a.1 a.2
  unfold PU
  omega
/-- the class's day holds the data -/
def HOB (o : Nat) : Prop := o = 52 ∨ ∃ t, t < 6 ∧ o = 78 + 4 * t
theorem HOB.f {o : Nat} (h : HOB o) : HLF o := by
  rcases h with rfl | ⟨t, ht, rfl⟩
  · exact hlf52
  · exact hlf t ht
def CD (f : Nat → Nat → Int32) (o : Nat) (D : aD) (n : Nat) : Prop := DOK D n ∧ HOB o ∧ (∀ s, s < n → f 57 s = nI (dK D s) ∧ f 58 s = nI (dV D s) ∧ f 59 s = nI (dL D s)) ∧ (∀ k, k < 28 → f 61 k = nI (dR D k)) ∧ CFL f o 0 0 (dH D)
theorem cfl_fr {f f' : Nat → Nat → Int32} {o : Nat} (h0 : f' o = f o) (h1 : f' (o + 1) = f (o + 1)) (h2 : f' (o + 2) = f (o + 2)) (h3 : f' (o + 3) = f (o + 3)) : ∀ {H : aH} {i s : Nat}, CFL f o i s H → CFL f' o i s H
  | [], i, s, c => by
    unfold CFL at c ⊢
    rw [h0]
    exact c
  | (w, n, ts) :: H, i, s, c => by
    unfold CFL at c ⊢
    by_cases hw : w ≤ 1
    · rw [if_pos hw] at c ⊢
      rw [h1, h2, h3]
      exact ⟨c.1, cfl_fr h0 h1 h2 h3 c.2⟩
    · rw [if_neg hw] at c ⊢
      exact cfl_fr h0 h1 h2 h3 c
theorem CD.fr {f f' : Nat → Nat → Int32} {o n : Nat} {D : aD} (c : CD f o D n) (h : ∀ q, (57 ≤ q ∧ q ≤ 61 ∧ q ≠ 60) ∨ 52 ≤ q ∧ q ≤ 55 ∨ 78 ≤ q ∧ q ≤ 101 → f' q = f q) : CD f' o D n := by
  obtain ⟨a, b, c1, c2, c3⟩ := c
  have hb : 52 ≤ o ∧ o ≤ 52 ∨ 78 ≤ o ∧ o ≤ 98 := by
    rcases b with rfl | ⟨t, ht, rfl⟩ <;> omega
  refine ⟨a, b, fun s hs => ?_, fun k hk => ?_, cfl_fr (h _ (by omega)) (h _ (by omega)) (h _ (by omega)) (h _ (by omega)) c3⟩
  · rw [h 57 (by omega), h 58 (by omega), h 59 (by omega)]
    exact c1 s hs
  · rw [h 61 (by omega)]
    exact c2 k hk
def wr6 (f : Nat → Nat → Int32) (fc : Nat → Nat) : Nat → Nat → Int32 := fun q k => if q = 66 ∧ k < 6 then nI (fc k) else f q k
theorem wr6_n {f : Nat → Nat → Int32} {fc : Nat → Nat} {q : Nat} (h : q ≠ 66) : wr6 f fc q = f q := by
  funext k
  unfold wr6
  rw [if_neg (fun e => h e.1)]
theorem wr6_2 {f : Nat → Nat → Int32} {a b : Nat → Nat} : wr6 (wr6 f a) b = wr6 f b := by
  funext q k
  unfold wr6
  by_cases h : q = 66 ∧ k < 6
  · rw [if_pos h, if_pos h]
  · rw [if_neg h, if_neg h, if_neg h]
theorem wr6_u {f : Nat → Nat → Int32} {fc : Nat → Nat} : u2 (u2 (u2 (u2 (u2 (u2 f 66 0 (nI (fc 0))) 66 1 (nI (fc 1))) 66 2 (nI (fc 2))) 66 3 (nI (fc 3))) 66 4 (nI (fc 4))) 66 5 (nI (fc 5)) = wr6 f fc := by
  funext q k
  rw [u2_at, u2_at, u2_at, u2_at, u2_at, u2_at]
  unfold wr6
  by_cases h : q = 66 ∧ k < 6
  · rw [if_pos h]
    obtain ⟨rfl, hk⟩ := h
    rcases (show k = 0 ∨ k = 1 ∨ k = 2 ∨ k = 3 ∨ k = 4 ∨ k = 5 by omega) with rfl | rfl | rfl | rfl | rfl | rfl <;> rfl
  · rw [if_neg (by omega), if_neg (by omega), if_neg (by omega), if_neg (by omega), if_neg (by omega), if_neg (by omega), if_neg h]
theorem CD.wr {f : Nat → Nat → Int32} {fc : Nat → Nat} {o n : Nat} {D : aD} (c : CD f o D n) : CD (wr6 f fc) o D n := c.fr fun q h => wr6_n (by omega)
section PU
variable {sc : aSc} {d : Nat} {r : aRes} {f : Nat → Nat → Int32} {g : Nat → Nat → Int64} {h1 h2 : Nat} {σ : aS}
theorem s207 {x y : Int32} : Cl sc (d + 1) 207 [.int x, .int y] σ r ↔ r = (σ, some (.int (if x < y then y else x))) := by
  by_cases h : x < y <;> simp only [c207, x207_0, x207_1, x207_2, x207_5, x207_6, x207_9, x207_10, h, bI_True, bI_False, nI_1, Nat.reduceLeDiff, Nat.reduceEqDiff, nb0, nb1, nbI, eq_self, ex_pr, tl_s, tl_n, if_true, if_false, not_true_eq_false, not_false_eq_true, and_self, and_false, false_and, and_true, true_and]
theorem s208 {x y : Int32} : Cl sc (d + 1) 208 [.int x, .int y] σ r ↔ r = (σ, some (.int (if y < x then y else x))) := by
  by_cases h : y < x <;> simp only [c208, x208_0, x208_1, x208_2, x208_5, x208_6, x208_9, x208_10, h, bI_True, bI_False, nI_1, Nat.reduceLeDiff, Nat.reduceEqDiff, nb0, nb1, nbI, eq_self, ex_pr, tl_s, tl_n, if_true, if_false, not_true_eq_false, not_false_eq_true, and_self, and_false, false_and, and_true, true_and]
theorem s209 {x : Int32} : Cl sc (d + 1) 209 [.int x] σ r ↔ r = (σ, some (.int (if x < 0 then -x else x))) := by
  by_cases h : x < 0 <;> simp only [c209, x209_0, x209_1, x209_4, x209_5, x209_6, x209_9, x209_10, h, bI_True, bI_False, nI_1, Nat.reduceLeDiff, Nat.reduceEqDiff, nb0, nb1, nbI, eq_self, ex_pr, tl_s, tl_n, if_true, if_false, not_true_eq_false, not_false_eq_true, and_self, and_false, false_and, and_true, true_and]
theorem max0' {a : Int} (h1 : -2147483648 ≤ a) (h2 : a < 2147483648) : (if (0 : Int32) < iI a then iI a else 0) = nI a.toNat := by
  have q := iI_lt (show -2147483648 ≤ (0 : Int) by decide) (by decide) h1 h2
  have e : (0 : Int32) = iI 0 := rfl
  rw [e]
  by_cases h : 0 < a
  · rw [if_pos (q ▸ h), iI_N, show (a.toNat : Int) = a by omega]
  · rw [if_neg (q ▸ h), iI_N, show (a.toNat : Int) = 0 by omega]
def BE (nd rp a b : Nat) : Bool := decide (nd ≤ (a - b) + (b - a) ∧ a + b ≤ rp)
theorem s31 {o nd rp a b : Nat} (HL : HLF o) (hn : f o 0 = nI nd) (hr : f o 1 = nI rp) (ha : a < 1000000) (hb : b < 1000000) (hn2 : nd < 1000000) (hr2 : rp < 1000000) : Cl sc (d + 2) 31 [.ref o, .int (nI a), .int (nI b)] (cS f g h1 h2) r ↔ r = (cS f g h1 h2, some (.int (bI (BE nd rp a b = true)))) := by
  have e1 : (if nI a - nI b < 0 then -(nI a - nI b) else nI a - nI b) = nI ((a - b) + (b - a)) := by
    rw [nI_subI, iI_neg]
    have q := iI_lt (a := (a : Int) - b) (b := 0) (by omega) (by omega) (by decide) (by decide)
    have e : (0 : Int32) = iI 0 := rfl
    rw [e]
    by_cases h : (a : Int) - b < 0
    · rw [if_pos (q ▸ h), iI_N]
      congr 1
      omega
    · rw [if_neg (q ▸ h), iI_N]
      congr 1
      omega
  have e2 := @nI_ltI ((a - b) + (b - a)) nd (by omega) (by omega)
  have e3 := @nI_ltI rp (a + b) (by omega) (by omega)
  unfold BE bI
  by_cases p : a - b + (b - a) < nd
  · have z : ¬ (nd ≤ (a - b) + (b - a) ∧ a + b ≤ rp) := by omega
    simp only [c31, x31_0, x31_1, x31_2, x31_3, x31_6, x31_7, x31_10, x31_13, x31_14, x31_15, x31_16, x31_17, x31_20, x31_23, x31_24, x31_27, x31_28, s209, HL.k, HL.g, e1, e2, e3, hn, hr, nI_add, p, z, decide_false, Bool.false_eq_true, bI_True, bI_False, nI_1, Nat.reduceLeDiff, Nat.reduceEqDiff, nb0, nb1, nbI, eq_self, ex_pr, tl_s, tl_n, if_true, if_false, not_true_eq_false, not_false_eq_true, and_self, and_false, false_and, and_true, true_and]
  · by_cases p2 : rp < a + b
    · have z : ¬ (nd ≤ (a - b) + (b - a) ∧ a + b ≤ rp) := by omega
      simp only [c31, x31_0, x31_1, x31_2, x31_3, x31_6, x31_7, x31_10, x31_13, x31_14, x31_15, x31_16, x31_17, x31_20, x31_23, x31_24, x31_27, x31_28, s209, HL.k, HL.g, e1, e2, e3, hn, hr, nI_add, p, p2, z, decide_false, Bool.false_eq_true, bI_True, bI_False, nI_1, Nat.reduceLeDiff, Nat.reduceEqDiff, nb0, nb1, nbI, eq_self, ex_pr, tl_s, tl_n, if_true, if_false, not_true_eq_false, not_false_eq_true, and_self, and_false, false_and, and_true, true_and]
    · have z : (nd ≤ (a - b) + (b - a) ∧ a + b ≤ rp) := by omega
      simp only [c31, x31_0, x31_1, x31_2, x31_3, x31_6, x31_7, x31_10, x31_13, x31_14, x31_15, x31_16, x31_17, x31_20, x31_23, x31_24, x31_27, x31_28, s209, HL.k, HL.g, e1, e2, e3, hn, hr, nI_add, p, p2, z, decide_true, bI_True, bI_False, nI_1, Nat.reduceLeDiff, Nat.reduceEqDiff, nb0, nb1, nbI, eq_self, ex_pr, tl_s, tl_n, if_true, if_false, not_true_eq_false, not_false_eq_true, and_self, and_false, false_and, and_true, true_and]
theorem li2 : (2 : Int32) = iI 2 := rfl
theorem li1 : (1 : Int32) = nI 1 := rfl
theorem li0 : (0 : Int32) = nI 0 := rfl
theorem s17 {s hr k v rw : Nat} {p : Int} (hs : s < 7) (c1 : f 57 s = nI k) (c2 : f 58 s = nI v) (c3 : f 61 (s * 4 + hr % 4) = nI rw) (hk : k ≤ 6) (hv : v ≤ 9) (hp : -1000 ≤ p ∧ p ≤ 1100) (hh : hr < 2147483648) : Cl sc (d + 1) 17 [.ref (56 : Nat), .int (nI s), .int (iI p), .int (nI hr)] (cS f g h1 h2) r ↔ r = (cS f g h1 h2, some (.int (iI (kf k v p hr rw)))) := by
  have e1 : inb (nI s) 7 = true := inb_nI hs (by decide)
  have e2 : (nI s).toNatClampNeg = s := cl_nI (by omega)
  have e3 : iI p + nI v = iI (p + v) := nI_addI _ _
  have e4 : iI p / 2 = iI (p.tdiv 2) := by
    rw [li2, iI_div (by omega) (by omega) (by decide) (by decide)]
  have e5 : iI p - 2 * nI v = iI (p - 2 * v) := by
    rw [li2, iI_N, iI_mul, iI_sub]
  have e6 : iI p - 2 * nI v + nI rw = iI (p - 2 * v + rw) := by rw [e5, nI_addI]
  have e7 : nI hr % 4 = nI (hr % 4) := nI_rem (b := 4) hh (by decide)
  have e8 : nI hr % 3 = nI (hr % 3) := nI_rem (b := 3) hh (by decide)
  have e9 : nI hr % 2 = nI (hr % 2) := nI_rem (b := 2) hh (by decide)
  have e10 : nI s * 4 = nI (s * 4) := nI_mul' s 4
  have e11 : inb (nI (s * 4 + hr % 4)) 28 = true := inb_nI (by omega) (by decide)
  have e12 : (nI (s * 4 + hr % 4)).toNatClampNeg = s * 4 + hr % 4 := cl_nI (by omega)
  have n2 : ¬ (2 : Int32) = 0 := by decide
  have n3 : ¬ (3 : Int32) = 0 := by decide
  have n4 : ¬ (4 : Int32) = 0 := by decide
  have m1 : iI (p + v) * 1 = iI (p + v) := Int32.mul_one _
  have m2 : iI (p + v) * 2 = iI ((p + v) * 2) := by rw [li2, iI_mul]
  rcases (show k = 0 ∨ k = 1 ∨ k = 2 ∨ k = 3 ∨ k = 4 ∨ k = 5 ∨ k = 6 by omega) with rfl | rfl | rfl | rfl | rfl | rfl | rfl
  · simp only [c17, x17_0, x17_1, x17_4, x17_5, x17_6, x17_8, x17_9, x17_12, x17_13, x17_14, x17_52, x17_53, x17_55, x17_56, x17_57, x17_58, x17_59, x17_60, x17_61, x17_62, x17_63, x17_65, x17_66, x17_67, x17_68, x17_69, x17_71, x17_72, x17_73, x17_74, x17_75, x17_76, x17_79, x17_80, x17_83, x17_84, x17_85, x17_86, x17_87, x17_88, x17_89, x17_92, x17_94, x17_97, x17_98, x17_99, x17_100, x17_101, x17_102, x17_103, x17_105, x17_106, x17_107, x17_108, x17_111, x17_112, x17_113, x17_114, x17_115, x17_116, x17_117, x17_118, x17_119, x17_120, x17_121, x17_122, kp56, rf56_6, rp56_6, al57, iA57, it57, rf56_7, rp56_7, al58, iA58, it58, rf56_8, rp56_8, al59, iA59, it59, rf56_9, rp56_9, al60, iA60, it60, rf56_10, rp56_10, al61, iA61, it61, rf56_12, rp56_12, al62, iA62, it62, rf56_13, rp56_13, al63, iA63, it63, rf56_15, rp56_15, al64, iA64, it64, rf56_16, rp56_16, al65, iA65, it65, rf56_17, rp56_17, rf56_18, rp56_18, al66, iA66, it66, e1, e2, c1, c2, lt0, kn0_1, kn0_2, kn0_3, kn0_4, kn0_5, kn0_6, kn1_0, kn1_2, kn1_3, kn1_4, kn1_5, kn1_6, kn2_0, kn2_1, kn2_3, kn2_4, kn2_5, kn2_6, kn3_0, kn3_1, kn3_2, kn3_4, kn3_5, kn3_6, kn4_0, kn4_1, kn4_2, kn4_3, kn4_5, kn4_6, kn5_0, kn5_1, kn5_2, kn5_3, kn5_4, kn5_6, kn6_0, kn6_1, kn6_2, kn6_3, kn6_4, kn6_5, bI_True, bI_False, nI_1, Nat.reduceLeDiff, Nat.reduceEqDiff, nb0, nb1, nbI, eq_self, ex_pr, tl_s, tl_n, if_true, if_false, not_true_eq_false, not_false_eq_true, and_self, and_false, false_and, and_true, true_and]
    rfl
  · simp only [c17, x17_0, x17_1, x17_4, x17_5, x17_6, x17_8, x17_9, x17_12, x17_13, x17_14, x17_52, x17_53, x17_55, x17_56, x17_57, x17_58, x17_59, x17_60, x17_61, x17_62, x17_63, x17_65, x17_66, x17_67, x17_68, x17_69, x17_71, x17_72, x17_73, x17_74, x17_75, x17_76, x17_79, x17_80, x17_83, x17_84, x17_85, x17_86, x17_87, x17_88, x17_89, x17_92, x17_94, x17_97, x17_98, x17_99, x17_100, x17_101, x17_102, x17_103, x17_105, x17_106, x17_107, x17_108, x17_111, x17_112, x17_113, x17_114, x17_115, x17_116, x17_117, x17_118, x17_119, x17_120, x17_121, x17_122, kp56, rf56_6, rp56_6, al57, iA57, it57, rf56_7, rp56_7, al58, iA58, it58, rf56_8, rp56_8, al59, iA59, it59, rf56_9, rp56_9, al60, iA60, it60, rf56_10, rp56_10, al61, iA61, it61, rf56_12, rp56_12, al62, iA62, it62, rf56_13, rp56_13, al63, iA63, it63, rf56_15, rp56_15, al64, iA64, it64, rf56_16, rp56_16, al65, iA65, it65, rf56_17, rp56_17, rf56_18, rp56_18, al66, iA66, it66, e1, e2, c1, c2, lt1, e3, kn0_1, kn0_2, kn0_3, kn0_4, kn0_5, kn0_6, kn1_0, kn1_2, kn1_3, kn1_4, kn1_5, kn1_6, kn2_0, kn2_1, kn2_3, kn2_4, kn2_5, kn2_6, kn3_0, kn3_1, kn3_2, kn3_4, kn3_5, kn3_6, kn4_0, kn4_1, kn4_2, kn4_3, kn4_5, kn4_6, kn5_0, kn5_1, kn5_2, kn5_3, kn5_4, kn5_6, kn6_0, kn6_1, kn6_2, kn6_3, kn6_4, kn6_5, bI_True, bI_False, nI_1, Nat.reduceLeDiff, Nat.reduceEqDiff, nb0, nb1, nbI, eq_self, ex_pr, tl_s, tl_n, if_true, if_false, not_true_eq_false, not_false_eq_true, and_self, and_false, false_and, and_true, true_and]
    rfl
  · simp only [c17, x17_0, x17_1, x17_4, x17_5, x17_6, x17_8, x17_9, x17_12, x17_13, x17_14, x17_52, x17_53, x17_55, x17_56, x17_57, x17_58, x17_59, x17_60, x17_61, x17_62, x17_63, x17_65, x17_66, x17_67, x17_68, x17_69, x17_71, x17_72, x17_73, x17_74, x17_75, x17_76, x17_79, x17_80, x17_83, x17_84, x17_85, x17_86, x17_87, x17_88, x17_89, x17_92, x17_94, x17_97, x17_98, x17_99, x17_100, x17_101, x17_102, x17_103, x17_105, x17_106, x17_107, x17_108, x17_111, x17_112, x17_113, x17_114, x17_115, x17_116, x17_117, x17_118, x17_119, x17_120, x17_121, x17_122, kp56, rf56_6, rp56_6, al57, iA57, it57, rf56_7, rp56_7, al58, iA58, it58, rf56_8, rp56_8, al59, iA59, it59, rf56_9, rp56_9, al60, iA60, it60, rf56_10, rp56_10, al61, iA61, it61, rf56_12, rp56_12, al62, iA62, it62, rf56_13, rp56_13, al63, iA63, it63, rf56_15, rp56_15, al64, iA64, it64, rf56_16, rp56_16, al65, iA65, it65, rf56_17, rp56_17, rf56_18, rp56_18, al66, iA66, it66, e1, e2, c1, c2, lt2, e4, n2, kn0_1, kn0_2, kn0_3, kn0_4, kn0_5, kn0_6, kn1_0, kn1_2, kn1_3, kn1_4, kn1_5, kn1_6, kn2_0, kn2_1, kn2_3, kn2_4, kn2_5, kn2_6, kn3_0, kn3_1, kn3_2, kn3_4, kn3_5, kn3_6, kn4_0, kn4_1, kn4_2, kn4_3, kn4_5, kn4_6, kn5_0, kn5_1, kn5_2, kn5_3, kn5_4, kn5_6, kn6_0, kn6_1, kn6_2, kn6_3, kn6_4, kn6_5, bI_True, bI_False, nI_1, Nat.reduceLeDiff, Nat.reduceEqDiff, nb0, nb1, nbI, eq_self, ex_pr, tl_s, tl_n, if_true, if_false, not_true_eq_false, not_false_eq_true, and_self, and_false, false_and, and_true, true_and]
    rfl
  · simp only [c17, x17_0, x17_1, x17_4, x17_5, x17_6, x17_8, x17_9, x17_12, x17_13, x17_14, x17_52, x17_53, x17_55, x17_56, x17_57, x17_58, x17_59, x17_60, x17_61, x17_62, x17_63, x17_65, x17_66, x17_67, x17_68, x17_69, x17_71, x17_72, x17_73, x17_74, x17_75, x17_76, x17_79, x17_80, x17_83, x17_84, x17_85, x17_86, x17_87, x17_88, x17_89, x17_92, x17_94, x17_97, x17_98, x17_99, x17_100, x17_101, x17_102, x17_103, x17_105, x17_106, x17_107, x17_108, x17_111, x17_112, x17_113, x17_114, x17_115, x17_116, x17_117, x17_118, x17_119, x17_120, x17_121, x17_122, kp56, rf56_6, rp56_6, al57, iA57, it57, rf56_7, rp56_7, al58, iA58, it58, rf56_8, rp56_8, al59, iA59, it59, rf56_9, rp56_9, al60, iA60, it60, rf56_10, rp56_10, al61, iA61, it61, rf56_12, rp56_12, al62, iA62, it62, rf56_13, rp56_13, al63, iA63, it63, rf56_15, rp56_15, al64, iA64, it64, rf56_16, rp56_16, al65, iA65, it65, rf56_17, rp56_17, rf56_18, rp56_18, al66, iA66, it66, e1, e2, c1, c2, lt3, e5, n2, kn0_1, kn0_2, kn0_3, kn0_4, kn0_5, kn0_6, kn1_0, kn1_2, kn1_3, kn1_4, kn1_5, kn1_6, kn2_0, kn2_1, kn2_3, kn2_4, kn2_5, kn2_6, kn3_0, kn3_1, kn3_2, kn3_4, kn3_5, kn3_6, kn4_0, kn4_1, kn4_2, kn4_3, kn4_5, kn4_6, kn5_0, kn5_1, kn5_2, kn5_3, kn5_4, kn5_6, kn6_0, kn6_1, kn6_2, kn6_3, kn6_4, kn6_5, bI_True, bI_False, nI_1, Nat.reduceLeDiff, Nat.reduceEqDiff, nb0, nb1, nbI, eq_self, ex_pr, tl_s, tl_n, if_true, if_false, not_true_eq_false, not_false_eq_true, and_self, and_false, false_and, and_true, true_and]
    rfl
  · have k1 : kf 4 v p hr rw = (p + v) * (if hr % 2 = 1 then 2 else 1) := rfl
    rw [k1]
    by_cases z : hr % 2 = 1
    · rw [if_pos z]
      simp only [c17, x17_0, x17_1, x17_4, x17_5, x17_6, x17_8, x17_9, x17_12, x17_13, x17_14, x17_52, x17_53, x17_55, x17_56, x17_57, x17_58, x17_59, x17_60, x17_61, x17_62, x17_63, x17_65, x17_66, x17_67, x17_68, x17_69, x17_71, x17_72, x17_73, x17_74, x17_75, x17_76, x17_79, x17_80, x17_83, x17_84, x17_85, x17_86, x17_87, x17_88, x17_89, x17_92, x17_94, x17_97, x17_98, x17_99, x17_100, x17_101, x17_102, x17_103, x17_105, x17_106, x17_107, x17_108, x17_111, x17_112, x17_113, x17_114, x17_115, x17_116, x17_117, x17_118, x17_119, x17_120, x17_121, x17_122, kp56, rf56_6, rp56_6, al57, iA57, it57, rf56_7, rp56_7, al58, iA58, it58, rf56_8, rp56_8, al59, iA59, it59, rf56_9, rp56_9, al60, iA60, it60, rf56_10, rp56_10, al61, iA61, it61, rf56_12, rp56_12, al62, iA62, it62, rf56_13, rp56_13, al63, iA63, it63, rf56_15, rp56_15, al64, iA64, it64, rf56_16, rp56_16, al65, iA65, it65, rf56_17, rp56_17, rf56_18, rp56_18, al66, iA66, it66, e1, e2, c1, c2, lt4, e3, e9, z, lt1, n2, m2, kn0_1, kn0_2, kn0_3, kn0_4, kn0_5, kn0_6, kn1_0, kn1_2, kn1_3, kn1_4, kn1_5, kn1_6, kn2_0, kn2_1, kn2_3, kn2_4, kn2_5, kn2_6, kn3_0, kn3_1, kn3_2, kn3_4, kn3_5, kn3_6, kn4_0, kn4_1, kn4_2, kn4_3, kn4_5, kn4_6, kn5_0, kn5_1, kn5_2, kn5_3, kn5_4, kn5_6, kn6_0, kn6_1, kn6_2, kn6_3, kn6_4, kn6_5, bI_True, bI_False, nI_1, Nat.reduceLeDiff, Nat.reduceEqDiff, nb0, nb1, nbI, eq_self, ex_pr, tl_s, tl_n, if_true, if_false, not_true_eq_false, not_false_eq_true, and_self, and_false, false_and, and_true, true_and]
    · rw [if_neg z, Int.mul_one, ← m1]
      have z0 : hr % 2 = 0 := by omega
      simp only [c17, x17_0, x17_1, x17_4, x17_5, x17_6, x17_8, x17_9, x17_12, x17_13, x17_14, x17_52, x17_53, x17_55, x17_56, x17_57, x17_58, x17_59, x17_60, x17_61, x17_62, x17_63, x17_65, x17_66, x17_67, x17_68, x17_69, x17_71, x17_72, x17_73, x17_74, x17_75, x17_76, x17_79, x17_80, x17_83, x17_84, x17_85, x17_86, x17_87, x17_88, x17_89, x17_92, x17_94, x17_97, x17_98, x17_99, x17_100, x17_101, x17_102, x17_103, x17_105, x17_106, x17_107, x17_108, x17_111, x17_112, x17_113, x17_114, x17_115, x17_116, x17_117, x17_118, x17_119, x17_120, x17_121, x17_122, kp56, rf56_6, rp56_6, al57, iA57, it57, rf56_7, rp56_7, al58, iA58, it58, rf56_8, rp56_8, al59, iA59, it59, rf56_9, rp56_9, al60, iA60, it60, rf56_10, rp56_10, al61, iA61, it61, rf56_12, rp56_12, al62, iA62, it62, rf56_13, rp56_13, al63, iA63, it63, rf56_15, rp56_15, al64, iA64, it64, rf56_16, rp56_16, al65, iA65, it65, rf56_17, rp56_17, rf56_18, rp56_18, al66, iA66, it66, e1, e2, c1, c2, lt4, e3, e9, z0, lt0, n2, m1, kn0_1, kn0_2, kn0_3, kn0_4, kn0_5, kn0_6, kn1_0, kn1_2, kn1_3, kn1_4, kn1_5, kn1_6, kn2_0, kn2_1, kn2_3, kn2_4, kn2_5, kn2_6, kn3_0, kn3_1, kn3_2, kn3_4, kn3_5, kn3_6, kn4_0, kn4_1, kn4_2, kn4_3, kn4_5, kn4_6, kn5_0, kn5_1, kn5_2, kn5_3, kn5_4, kn5_6, kn6_0, kn6_1, kn6_2, kn6_3, kn6_4, kn6_5, bI_True, bI_False, nI_1, Nat.reduceLeDiff, Nat.reduceEqDiff, nb0, nb1, nbI, eq_self, ex_pr, tl_s, tl_n, if_true, if_false, not_true_eq_false, not_false_eq_true, and_self, and_false, false_and, and_true, true_and]
  · have k1 : kf 5 v p hr rw = if hr % 3 = 0 then (v : Int) else p.tdiv 2 := rfl
    rw [k1]
    by_cases z : hr % 3 = 0
    · rw [if_pos z, ← iI_N]
      simp only [c17, x17_0, x17_1, x17_4, x17_5, x17_6, x17_8, x17_9, x17_12, x17_13, x17_14, x17_52, x17_53, x17_55, x17_56, x17_57, x17_58, x17_59, x17_60, x17_61, x17_62, x17_63, x17_65, x17_66, x17_67, x17_68, x17_69, x17_71, x17_72, x17_73, x17_74, x17_75, x17_76, x17_79, x17_80, x17_83, x17_84, x17_85, x17_86, x17_87, x17_88, x17_89, x17_92, x17_94, x17_97, x17_98, x17_99, x17_100, x17_101, x17_102, x17_103, x17_105, x17_106, x17_107, x17_108, x17_111, x17_112, x17_113, x17_114, x17_115, x17_116, x17_117, x17_118, x17_119, x17_120, x17_121, x17_122, kp56, rf56_6, rp56_6, al57, iA57, it57, rf56_7, rp56_7, al58, iA58, it58, rf56_8, rp56_8, al59, iA59, it59, rf56_9, rp56_9, al60, iA60, it60, rf56_10, rp56_10, al61, iA61, it61, rf56_12, rp56_12, al62, iA62, it62, rf56_13, rp56_13, al63, iA63, it63, rf56_15, rp56_15, al64, iA64, it64, rf56_16, rp56_16, al65, iA65, it65, rf56_17, rp56_17, rf56_18, rp56_18, al66, iA66, it66, e1, e2, c1, c2, lt5, e8, z, lt0, n3, kn0_1, kn0_2, kn0_3, kn0_4, kn0_5, kn0_6, kn1_0, kn1_2, kn1_3, kn1_4, kn1_5, kn1_6, kn2_0, kn2_1, kn2_3, kn2_4, kn2_5, kn2_6, kn3_0, kn3_1, kn3_2, kn3_4, kn3_5, kn3_6, kn4_0, kn4_1, kn4_2, kn4_3, kn4_5, kn4_6, kn5_0, kn5_1, kn5_2, kn5_3, kn5_4, kn5_6, kn6_0, kn6_1, kn6_2, kn6_3, kn6_4, kn6_5, bI_True, bI_False, nI_1, Nat.reduceLeDiff, Nat.reduceEqDiff, nb0, nb1, nbI, eq_self, ex_pr, tl_s, tl_n, if_true, if_false, not_true_eq_false, not_false_eq_true, and_self, and_false, false_and, and_true, true_and]
    · rw [if_neg z, ← e4]
      have z0 : ¬ nI (hr % 3) = 0 := nI_ne0 (by omega) (by omega)
      simp only [c17, x17_0, x17_1, x17_4, x17_5, x17_6, x17_8, x17_9, x17_12, x17_13, x17_14, x17_52, x17_53, x17_55, x17_56, x17_57, x17_58, x17_59, x17_60, x17_61, x17_62, x17_63, x17_65, x17_66, x17_67, x17_68, x17_69, x17_71, x17_72, x17_73, x17_74, x17_75, x17_76, x17_79, x17_80, x17_83, x17_84, x17_85, x17_86, x17_87, x17_88, x17_89, x17_92, x17_94, x17_97, x17_98, x17_99, x17_100, x17_101, x17_102, x17_103, x17_105, x17_106, x17_107, x17_108, x17_111, x17_112, x17_113, x17_114, x17_115, x17_116, x17_117, x17_118, x17_119, x17_120, x17_121, x17_122, kp56, rf56_6, rp56_6, al57, iA57, it57, rf56_7, rp56_7, al58, iA58, it58, rf56_8, rp56_8, al59, iA59, it59, rf56_9, rp56_9, al60, iA60, it60, rf56_10, rp56_10, al61, iA61, it61, rf56_12, rp56_12, al62, iA62, it62, rf56_13, rp56_13, al63, iA63, it63, rf56_15, rp56_15, al64, iA64, it64, rf56_16, rp56_16, al65, iA65, it65, rf56_17, rp56_17, rf56_18, rp56_18, al66, iA66, it66, e1, e2, c1, c2, lt5, e8, z0, n2, n3, kn0_1, kn0_2, kn0_3, kn0_4, kn0_5, kn0_6, kn1_0, kn1_2, kn1_3, kn1_4, kn1_5, kn1_6, kn2_0, kn2_1, kn2_3, kn2_4, kn2_5, kn2_6, kn3_0, kn3_1, kn3_2, kn3_4, kn3_5, kn3_6, kn4_0, kn4_1, kn4_2, kn4_3, kn4_5, kn4_6, kn5_0, kn5_1, kn5_2, kn5_3, kn5_4, kn5_6, kn6_0, kn6_1, kn6_2, kn6_3, kn6_4, kn6_5, bI_True, bI_False, nI_1, Nat.reduceLeDiff, Nat.reduceEqDiff, nb0, nb1, nbI, eq_self, ex_pr, tl_s, tl_n, if_true, if_false, not_true_eq_false, not_false_eq_true, and_self, and_false, false_and, and_true, true_and]
  · have k1 : kf 6 v p hr rw = p - 2 * v + rw := rfl
    rw [k1, ← e6]
    simp only [c17, x17_0, x17_1, x17_4, x17_5, x17_6, x17_8, x17_9, x17_12, x17_13, x17_14, x17_52, x17_53, x17_55, x17_56, x17_57, x17_58, x17_59, x17_60, x17_61, x17_62, x17_63, x17_65, x17_66, x17_67, x17_68, x17_69, x17_71, x17_72, x17_73, x17_74, x17_75, x17_76, x17_79, x17_80, x17_83, x17_84, x17_85, x17_86, x17_87, x17_88, x17_89, x17_92, x17_94, x17_97, x17_98, x17_99, x17_100, x17_101, x17_102, x17_103, x17_105, x17_106, x17_107, x17_108, x17_111, x17_112, x17_113, x17_114, x17_115, x17_116, x17_117, x17_118, x17_119, x17_120, x17_121, x17_122, kp56, rf56_6, rp56_6, al57, iA57, it57, rf56_7, rp56_7, al58, iA58, it58, rf56_8, rp56_8, al59, iA59, it59, rf56_9, rp56_9, al60, iA60, it60, rf56_10, rp56_10, al61, iA61, it61, rf56_12, rp56_12, al62, iA62, it62, rf56_13, rp56_13, al63, iA63, it63, rf56_15, rp56_15, al64, iA64, it64, rf56_16, rp56_16, al65, iA65, it65, rf56_17, rp56_17, rf56_18, rp56_18, al66, iA66, it66, e1, e2, c1, c2, lt6, e7, e10, e11, e12, c3, n4, nI_add, kn0_1, kn0_2, kn0_3, kn0_4, kn0_5, kn0_6, kn1_0, kn1_2, kn1_3, kn1_4, kn1_5, kn1_6, kn2_0, kn2_1, kn2_3, kn2_4, kn2_5, kn2_6, kn3_0, kn3_1, kn3_2, kn3_4, kn3_5, kn3_6, kn4_0, kn4_1, kn4_2, kn4_3, kn4_5, kn4_6, kn5_0, kn5_1, kn5_2, kn5_3, kn5_4, kn5_6, kn6_0, kn6_1, kn6_2, kn6_3, kn6_4, kn6_5, bI_True, bI_False, nI_1, Nat.reduceLeDiff, Nat.reduceEqDiff, nb0, nb1, nbI, eq_self, ex_pr, tl_s, tl_n, if_true, if_false, not_true_eq_false, not_false_eq_true, and_self, and_false, false_and, and_true, true_and]
end PU
