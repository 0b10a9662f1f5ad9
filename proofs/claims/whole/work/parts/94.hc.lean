/-! a text, read by the class -/
def TXC (C : Nat → Int32) (L : Nat) : Prop := L ≤ 100 ∧ (∀ i, i < L → ∃ b, b ≤ 127 ∧ C i = nI b) ∧ ∀ i, L ≤ i → C i = -1
def KT (f : Nat → Nat → Int32) (C : Nat → Int32) (L p : Nat) : Prop := ((∀ i, i < L → f 19 i = C i) ∧ f 18 1 = nI L) ∧ f 18 2 = nI p ∧ p ≤ L
theorem KT.fr {f f' : Nat → Nat → Int32} {C : Nat → Int32} {L p p' : Nat} (K : KT f C L p) (a : ∀ i, f' 19 i = f 19 i) (b : f' 18 1 = f 18 1) (c : f' 18 2 = nI p') (h : p' ≤ L) : KT f' C L p' := ⟨⟨fun i hi => (a i).trans (K.1.1 i hi), b.trans K.1.2⟩, c, h⟩
theorem TXC.lt {C : Nat → Int32} {L p c : Nat} (T : TXC C L) (h : C p = nI c) (hc : c < 2147483648) : p < L := by
  by_cases z : p < L
  · exact z
  · rw [T.2.2 p (by omega)] at h
    exact absurd h.symm (nm1 hc)
theorem u2_u2 {α : Type} {f : Nat → Nat → α} {o k : Nat} {x y : α} : u2 (u2 f o k x) o k y = u2 f o k y := by
  funext q j
  rw [u2_at, u2_at, u2_at]
  split <;> rfl
theorem KT.mv {f : Nat → Nat → Int32} {C : Nat → Int32} {L p p' : Nat} (K : KT f C L p) (h : p' ≤ L) : KT (u2 f 18 2 (nI p')) C L p' := K.fr (fun i => u2_nn (by omega)) (u2_nn (by omega)) u2_ss h
/-- how many signs of a word stand here -/
def amf (C : Nat → Int32) (cf : Nat → Nat) : Nat → Nat → Nat → Nat
  | 0, _, _ => 0
  | k + 1, i, p => if C p = nI (cf i) then amf C cf k (i + 1) (p + 1) + 1 else 0
theorem amf_le {C : Nat → Int32} {cf : Nat → Nat} {L : Nat} (T : TXC C L) (hc : ∀ i, cf i < 2147483648) : ∀ (k i p : Nat), p ≤ L → p + amf C cf k i p ≤ L ∧ amf C cf k i p ≤ k
  | 0, _, _, h => ⟨h, Nat.le_refl _⟩
  | k + 1, i, p, h => by
    show p + (if C p = nI (cf i) then amf C cf k (i + 1) (p + 1) + 1 else 0) ≤ L ∧ (if C p = nI (cf i) then amf C cf k (i + 1) (p + 1) + 1 else 0) ≤ k + 1
    by_cases z : C p = nI (cf i)
    · have q := T.lt z (hc i)
      have := amf_le T hc k (i + 1) (p + 1) (by omega)
      rw [if_pos z]
      omega
    · rw [if_neg z]
      omega
def sW (q : Nat) : List Nat := match q with
  | 5 => [108, 117, 115, 104, 32]
  | 6 => [110, 111, 119, 32]
  | 7 => [114, 111, 112, 101, 32]
  | 8 => [110, 101, 101, 100, 32]
  | 9 => [115, 107, 118, 100, 108, 104]
  | _ => [60, 61, 62]
/-- facts of a string -/
def STF (q : Nat) : Prop := 5 ≤ q ∧ q < 11 ∧ ((KK[q]? = some (.inl 8)) = True) ∧ isA (q + 6) ∧ isT9 .byte (q + 6) ∧ aln (q + 6) = (sW q).length ∧ ∀ k, k < (sW q).length → fI (q + 6) k = nI ((sW q).getD k 0) ∧ (sW q).getD k 0 ≤ 127
theorem stf5 : STF 5 := ⟨by decide, by decide, eq_true rfl, rfl, rfl, rfl, by decide +kernel⟩
theorem stf6 : STF 6 := ⟨by decide, by decide, eq_true rfl, rfl, rfl, rfl, by decide +kernel⟩
theorem stf7 : STF 7 := ⟨by decide, by decide, eq_true rfl, rfl, rfl, rfl, by decide +kernel⟩
theorem stf8 : STF 8 := ⟨by decide, by decide, eq_true rfl, rfl, rfl, rfl, by decide +kernel⟩
theorem stf9 : STF 9 := ⟨by decide, by decide, eq_true rfl, rfl, rfl, rfl, by decide +kernel⟩
theorem stf10 : STF 10 := ⟨by decide, by decide, eq_true rfl, rfl, rfl, rfl, by decide +kernel⟩
theorem ch_255 : ∀ b, b < 128 → nI b &&& 255 = nI b ∧ ((nI b).toUInt32 % 65536).toInt32 = nI b ∧ (nI b).toUInt32.toUInt16.toUInt32.toInt32 = nI b ∧ (nI b).toInt8.toInt32 = nI b := by decide +kernel
theorem shr0 : ∀ b, b < 128 → nI b >>> ((0 : Int32) &&& 31) = nI b := by decide +kernel
def fnd (cf : Nat → Nat) (b : Nat) : Nat → Nat → Int32
  | 0, _ => -1
  | k + 1, i => if cf i = b then nI i else fnd cf b k (i + 1)
section HC
variable {sc : aSc} {d : Nat} {r : aRes} {f : Nat → Nat → Int32} {g : Nat → Nat → Int64} {h1 h2 : Nat} {C : Nat → Int32} {L p : Nat} {σ : aS}
theorem c206 {x y : Int32} : Cl sc (d + 1) 206 [.int x, .int y, .retAddr 0] σ r ↔ Rn sc d 206 0 [.int x, .int y, .retAddr 0] [] σ r := Cl_unf (Nat.le_of_ble_eq_true rfl)
theorem s199 {q : Nat} (S : STF q) : Cl sc (d + 1) 199 [.ref q] (cS f g h1 h2) r ↔ r = (cS f g h1 h2, some (.int 0)) := by
  obtain ⟨a1, a2, a3, -⟩ := S
  have e : (0 : Int32).toInt8.toInt32 = 0 := by decide
  simp only [c199, x199_0, x199_3, x199_6, x199_7, x199_10, x199_13, x199_14, a1, a2, a3, e, zi1, bI_True, bI_False, nI_1, Nat.reduceLeDiff, Nat.reduceEqDiff, nb0, nb1, nbI, eq_self, ex_pr, tl_s, tl_n, if_true, if_false, not_true_eq_false, not_false_eq_true, and_self, and_false, false_and, and_true, true_and]
theorem s200 {q : Nat} (S : STF q) : Cl sc (d + 1) 200 [.ref q] (cS f g h1 h2) r ↔ r = (cS f g h1 h2, some (.int 1)) := by
  obtain ⟨a1, a2, a3, -⟩ := S
  have e : (1 : Int32) &&& 1 = 1 := by decide
  simp only [c200, x200_0, x200_3, x200_6, x200_7, x200_10, x200_13, x200_14, x200_17, x200_18, a1, a2, a3, e, zi1, bI_True, bI_False, nI_1, Nat.reduceLeDiff, Nat.reduceEqDiff, nb0, nb1, nbI, eq_self, ex_pr, tl_s, tl_n, if_true, if_false, not_true_eq_false, not_false_eq_true, and_self, and_false, false_and, and_true, true_and]
theorem sW_l (q : Nat) : (sW q).length < 128 ∧ 0 < (sW q).length := by
  unfold sW
  split <;> decide
theorem s195 {q : Nat} (S : STF q) : Cl sc (d + 2) 195 [.ref q] (cS f g h1 h2) r ↔ r = (cS f g h1 h2, some (.int (nI (sW q).length))) := by
  have k := fun d r => @s199 sc d r f g h1 h2 q S
  obtain ⟨a1, a2, a3, a4, a5, a6, a7⟩ := S
  have e := shr0 _ (sW_l q).1
  have n0 : ¬ q + 6 = 0 := by omega
  simp only [c195, x195_0, x195_1, x195_4, x195_5, x195_6, x195_9, x195_10, a1, a2, a3, a4, a6, n0, k, e, bI_True, bI_False, nI_1, Nat.reduceLeDiff, Nat.reduceEqDiff, nb0, nb1, nbI, eq_self, ex_pr, tl_s, tl_n, if_true, if_false, not_true_eq_false, not_false_eq_true, and_self, and_false, false_and, and_true, true_and]
theorem s201 {i m : Nat} (h : i < m) (hm : m < 2147483648) : Cl sc (d + 2) 201 [.int (nI i), .int (nI m)] σ r ↔ r = (σ, none) := by
  have e1 : ¬ nI i < 0 := nI_pos (by omega)
  have e2 : nI i < nI m := nI_lt h hm
  simp only [c201, x201_0, x201_1, x201_2, x201_5, x201_8, x201_9, c206, x206_0, x206_1, x206_4, x206_5, x206_6, x206_16, x206_17, e1, e2, bI_True, bI_False, nI_1, Nat.reduceLeDiff, Nat.reduceEqDiff, nb0, nb1, nbI, eq_self, ex_pr, tl_s, tl_n, if_true, if_false, not_true_eq_false, not_false_eq_true, and_self, and_false, false_and, and_true, true_and]
theorem s196 {q i : Nat} (S : STF q) (hi : i < (sW q).length) : Cl sc (d + 4) 196 [.ref q, .int (nI i)] (cS f g h1 h2) r ↔ r = (cS f g h1 h2, some (.int (nI ((sW q).getD i 0)))) := by
  have k := fun d r => @s200 sc d r f g h1 h2 q S
  obtain ⟨a1, a2, a3, a4, a5, a6, a7⟩ := S
  have n0 : ¬ q + 6 = 0 := by omega
  have n17 : q + 6 < 17 := by omega
  have l := (sW_l q).1
  obtain ⟨b1, b2⟩ := a7 i hi
  obtain ⟨c1, c2, c3, c4⟩ := ch_255 ((sW q).getD i 0) (by omega)
  have k2 := fun d r => @s201 sc d r (cS f g h1 h2) i (sW q).length hi (by omega)
  have j1 : inb (nI i) (sW q).length = true := inb_nI hi (by omega)
  have j2 : (nI i).toNatClampNeg = i := cl_nI (by omega)
  simp only [c196, x196_0, x196_1, x196_4, x196_7, x196_8, x196_11, x196_12, x196_15, x196_16, x196_17, x196_20, c202, x202_0, x202_1, x202_2, x202_3, x202_6, x202_7, x202_8, x202_9, x202_12, x202_13, x202_14, a1, a2, a3, a4, a5, a6, n0, n17, k, k2, zi1, j1, j2, b1, c1, c2, c3, bI_True, bI_False, nI_1, Nat.reduceLeDiff, Nat.reduceEqDiff, nb0, nb1, nbI, eq_self, ex_pr, tl_s, tl_n, if_true, if_false, not_true_eq_false, not_false_eq_true, and_self, and_false, false_and, and_true, true_and]
theorem l205 {q b : Nat} {x : Int32} {z : Int32} (S : STF q) (hb : b < 128) : ∀ (k i : Nat), i + k = (sW q).length → (Rn sc d 205 7 [.ref (q + 6), .int x, .int z, .int (nI (sW q).length), .int (nI b), .int (nI i)] [] (cS f g h1 h2) r ↔ r = (cS f g h1 h2, some (.int (fnd (fun i => (sW q).getD i 0) b k i))))
  | 0, i, h => by
    have e : i = (sW q).length := h
    have e1 : ¬ nI i < nI (sW q).length := by rw [e]; exact Int32.lt_irrefl
    show _ ↔ r = (cS f g h1 h2, some (.int (-1)))
    simp only [x205_7 (x5 := nI i), x205_9, x205_10, x205_31, x205_32, e1, bI_True, bI_False, nI_1, Nat.reduceLeDiff, Nat.reduceEqDiff, nb0, nb1, nbI, eq_self, ex_pr, tl_s, tl_n, if_true, if_false, not_true_eq_false, not_false_eq_true, and_self, and_false, false_and, and_true, true_and]
  | k + 1, i, h => by
    have S0 := S
    obtain ⟨a1, a2, a3, a4, a5, a6, a7⟩ := S
    have l := (sW_l q).1
    have e1 : nI i < nI (sW q).length := nI_lt (by omega) (by omega)
    have n0 : ¬ q + 6 = 0 := by omega
    have n17 : q + 6 < 17 := by omega
    obtain ⟨b1, b2⟩ := a7 i (by omega)
    have j1 : inb (nI i) (sW q).length = true := inb_nI (by omega) (by omega)
    have j2 : (nI i).toNatClampNeg = i := cl_nI (by omega)
    have e2 := @nI_eq ((sW q).getD i 0) b (by omega) (by omega)
    have z1 : nI i + 1 = nI (i + 1) := by rw [← lt1, nI_add]
    have st : fnd (fun i => (sW q).getD i 0) b (k + 1) i = if (sW q).getD i 0 = b then nI i else fnd (fun i => (sW q).getD i 0) b k (i + 1) := rfl
    rw [st]
    by_cases y : (sW q).getD i 0 = b
    · rw [if_pos y]
      simp only [x205_7 (x5 := nI i), x205_9, x205_10, x205_13, x205_14, x205_16, x205_17, x205_19, x205_22, x205_24, e1, n0, n17, a5, a6, j1, j2, b1, e2, eq_true y, bI_True, bI_False, nI_1, Nat.reduceLeDiff, Nat.reduceEqDiff, nb0, nb1, nbI, eq_self, ex_pr, tl_s, tl_n, if_true, if_false, not_true_eq_false, not_false_eq_true, and_self, and_false, false_and, and_true, true_and]
    · have k2 := l205 (x := x) (z := z) S0 hb k (i + 1) (by omega)
      rw [if_neg y, ← k2]
      simp only [x205_7 (x5 := nI i), x205_9, x205_10, x205_13, x205_14, x205_16, x205_17, x205_19, x205_25, x205_28, e1, n0, n17, a5, a6, j1, j2, b1, e2, eq_false y, z1, bI_True, bI_False, nI_1, Nat.reduceLeDiff, Nat.reduceEqDiff, nb0, nb1, nbI, eq_self, ex_pr, tl_s, tl_n, if_true, if_false, not_true_eq_false, not_false_eq_true, and_self, and_false, false_and, and_true, true_and]
theorem s198 {q b : Nat} (S : STF q) (hb : b < 128) : Cl sc (d + 5) 198 [.ref q, .int (nI b), .int 0] (cS f g h1 h2) r ↔ r = (cS f g h1 h2, some (.int (fnd (fun i => (sW q).getD i 0) b (sW q).length 0))) := by
  have k := fun d r => @s200 sc d r f g h1 h2 q S
  have k2 := fun d r => @s195 sc d r f g h1 h2 q S
  have k3 := fun d r x z => @l205 sc d r f g h1 h2 q b x z S hb (sW q).length 0 (Nat.zero_add _)
  obtain ⟨a1, a2, a3, a4, a5, a6, a7⟩ := S
  have n0 : ¬ q + 6 = 0 := by omega
  have n17 : q + 6 < 17 := by omega
  obtain ⟨l, l0⟩ := sW_l q
  obtain ⟨c1, c2, c3, c4⟩ := ch_255 b hb
  have e1 : ¬ nI b < 0 := nI_pos (by omega)
  have e2 : ¬ (255 : Int32) < nI b := by
    rw [show (255 : Int32) = nI 255 from rfl, nI_ltI (by decide) (by omega)]
    omega
  have e3 : ¬ (0 : Int32) < 0 := by decide
  have e4 : ¬ nI (sW q).length < nI (sW q).length := Int32.lt_irrefl
  have e5 : (0 : Int32) < nI (sW q).length := by
    rw [← lt0, nI_ltI (by decide) (by omega)]
    exact l0
  simp only [lt0] at k3
  simp only [c198, x198_0, x198_1, x198_4, x198_7, x198_8, x198_11, x198_12, x198_13, x198_14, x198_17, x198_20, x198_23, x198_24, x198_27, x198_28, x198_29, x198_30, x198_36, c204, x204_0, x204_1, x204_4, x204_7, x204_8, x204_9, x204_10, x204_11, x204_14, x204_15, x204_16, x204_17, x204_18, x204_21, x204_22, x204_23, x204_24, x204_27, x204_28, x204_29, x204_30, x204_31, x204_32, x204_33, x204_36, c203, x203_0, x203_1, x203_4, x203_5, x203_8, x203_11, x203_12, x203_15, x203_16, c205, x205_0, x205_1, x205_2, x205_4, x205_5, x205_9, x205_10, x205_13, x205_14, x205_16, x205_17, x205_19, x205_22, x205_24, x205_25, x205_28, x205_31, x205_32, c207, x207_0, x207_1, x207_2, x207_5, x207_6, x207_9, x207_10, c208, x208_0, x208_1, x208_2, x208_5, x208_6, x208_9, x208_10, a1, a2, a3, a4, a6, n0, k, k2, k3, zi1, e1, e2, e3, e4, e5, c4, bI_True, bI_False, nI_1, Nat.reduceLeDiff, Nat.reduceEqDiff, nb0, nb1, nbI, eq_self, ex_pr, tl_s, tl_n, if_true, if_false, not_true_eq_false, not_false_eq_true, and_self, and_false, false_and, and_true, true_and]
/-- sign -/
theorem s211 (T : TXC C L) (K : KT f C L p) : Cl sc (d + 1) 211 [.ref (18 : Nat)] (cS f g h1 h2) r ↔ r = (cS f g h1 h2, some (.int (C p))) := by
  obtain ⟨⟨kb, kl⟩, ka, kp⟩ := K
  have tl := T.1
  by_cases w : p < L
  · have r0 : f 19 p = C p := kb p w
    have j1 : inb (nI p) 100 = true := inb_nI (by omega) (by decide)
    have j2 : (nI p).toNatClampNeg = p := cl_nI (by omega)
    have e1 : nI p < nI L := nI_lt w (by omega)
    simp only [c211, x211_0, x211_1, x211_4, x211_5, x211_8, x211_11, x211_12, x211_15, x211_16, x211_19, x211_20, x211_23, x211_24, kp18, rf18_0, rp18_0, al19, iA19, it19, al19, iA19, it19, ka, kl, j1, j2, r0, e1, bI_True, bI_False, nI_1, Nat.reduceLeDiff, Nat.reduceEqDiff, nb0, nb1, nbI, eq_self, ex_pr, tl_s, tl_n, if_true, if_false, not_true_eq_false, not_false_eq_true, and_self, and_false, false_and, and_true, true_and]
  · have e1 : ¬ nI p < nI L := by rw [show p = L by omega]; exact Int32.lt_irrefl
    rw [T.2.2 p (by omega)]
    simp only [c211, x211_0, x211_1, x211_4, x211_5, x211_8, x211_11, x211_12, x211_15, x211_16, x211_19, x211_20, x211_23, x211_24, kp18, rf18_0, rp18_0, al19, iA19, it19, al19, iA19, it19, ka, kl, e1, bI_True, bI_False, nI_1, Nat.reduceLeDiff, Nat.reduceEqDiff, nb0, nb1, nbI, eq_self, ex_pr, tl_s, tl_n, if_true, if_false, not_true_eq_false, not_false_eq_true, and_self, and_false, false_and, and_true, true_and]
/-- acceptOneOf -/
theorem s64 {q : Nat} (S : STF q) (T : TXC C L) (K : KT f C L p) : Cl sc (d + 7) 64 [.ref (18 : Nat), .ref q] (cS f g h1 h2) r ↔ ∃ x, (C p = -1 ∧ x = -1 ∨ ∃ b, b ≤ 127 ∧ C p = nI b ∧ x = fnd (fun i => (sW q).getD i 0) b (sW q).length 0) ∧ r = (if x < 0 then (cS f g h1 h2, some (.int x)) else (cS (u2 f 18 2 (nI (p + 1))) g h1 h2, some (.int x))) := by
  have k0 := fun d r => @s211 sc d r f g h1 h2 C L p T K
  obtain ⟨-, ka, kp⟩ := K
  obtain ⟨tl, tb, te⟩ := T
  have z1 : nI p + 1 = nI (p + 1) := by rw [← lt1, nI_add]
  have a3 := S.2.2.1
  by_cases w : p < L
  · obtain ⟨b, hb, e⟩ := tb p w
    have k2 := fun d r => @s198 sc d r f g h1 h2 q b S (by omega)
    obtain ⟨c1, c2, c3, c4⟩ := ch_255 b (by omega)
    have nb : ¬ nI b = -1 := nm1 (by omega)
    obtain ⟨x, ex⟩ : ∃ x, x = fnd (fun i => (sW q).getD i 0) b (sW q).length 0 := ⟨_, rfl⟩
    rw [← ex] at k2
    have go : Cl sc (d + 7) 64 [.ref (18 : Nat), .ref q] (cS f g h1 h2) r ↔ r = (if x < 0 then (cS f g h1 h2, some (.int x)) else (cS (u2 f 18 2 (nI (p + 1))) g h1 h2, some (.int x))) := by
      by_cases y : x < 0
      · rw [if_pos y]
        simp only [c64, x64_0, x64_1, x64_4, x64_5, x64_8, x64_9, x64_12, x64_13, x64_14, x64_17, x64_18, x64_21, x64_22, x64_23, x64_26, x64_27, x64_28, x64_31, x64_32, x64_33, x64_36, x64_37, c197, x197_0, x197_1, x197_2, x197_3, x197_6, kp18, rf18_0, rp18_0, al19, iA19, it19, k0, a3, ka, e, nb, c2, k2, y, bI_True, bI_False, nI_1, Nat.reduceLeDiff, Nat.reduceEqDiff, nb0, nb1, nbI, eq_self, ex_pr, tl_s, tl_n, if_true, if_false, not_true_eq_false, not_false_eq_true, and_self, and_false, false_and, and_true, true_and]
      · rw [if_neg y]
        simp only [c64, x64_0, x64_1, x64_4, x64_5, x64_8, x64_9, x64_12, x64_13, x64_14, x64_17, x64_18, x64_21, x64_22, x64_23, x64_26, x64_27, x64_28, x64_31, x64_32, x64_33, x64_36, x64_37, c197, x197_0, x197_1, x197_2, x197_3, x197_6, kp18, rf18_0, rp18_0, al19, iA19, it19, k0, a3, ka, e, nb, c2, k2, y, z1, bI_True, bI_False, nI_1, Nat.reduceLeDiff, Nat.reduceEqDiff, nb0, nb1, nbI, eq_self, ex_pr, tl_s, tl_n, if_true, if_false, not_true_eq_false, not_false_eq_true, and_self, and_false, false_and, and_true, true_and]
    rw [go]
    constructor
    · intro h
      exact ⟨x, Or.inr ⟨b, hb, e, ex⟩, h⟩
    · rintro ⟨y, ⟨e2, -⟩ | ⟨b2, hb2, e2, e3⟩, h⟩
      · rw [e] at e2
        exact absurd e2 nb
      · have : b2 = b := by
          rw [e] at e2
          exact ((nI_eq (by omega) (by omega)).mp e2).symm
        subst this
        rw [ex, ← e3]
        exact h
  · have e : C p = -1 := te p (by omega)
    have y : (-1 : Int32) < 0 := by decide
    have go : Cl sc (d + 7) 64 [.ref (18 : Nat), .ref q] (cS f g h1 h2) r ↔ r = (cS f g h1 h2, some (.int (-1))) := by
      simp only [c64, x64_0, x64_1, x64_4, x64_5, x64_8, x64_9, x64_12, x64_13, x64_14, x64_17, x64_18, x64_21, x64_22, x64_23, x64_26, x64_27, x64_28, x64_31, x64_32, x64_33, x64_36, x64_37, kp18, rf18_0, rp18_0, al19, iA19, it19, k0, ka, e, y, bI_True, bI_False, nI_1, Nat.reduceLeDiff, Nat.reduceEqDiff, nb0, nb1, nbI, eq_self, ex_pr, tl_s, tl_n, if_true, if_false, not_true_eq_false, not_false_eq_true, and_self, and_false, false_and, and_true, true_and]
    rw [go]
    constructor
    · intro h
      exact ⟨-1, Or.inl ⟨e, rfl⟩, by rw [if_pos y]; exact h⟩
    · rintro ⟨x, ⟨e2, rfl⟩ | ⟨b2, hb2, e2, e3⟩, h⟩
      · rw [if_pos y] at h
        exact h
      · rw [e] at e2
        exact absurd e2.symm (nm1 (by omega))
/-- accept -/
theorem s62t {c : Nat} (T : TXC C L) (K : KT f C L p) (h : C p = nI c) : Cl sc (d + 2) 62 [.ref (18 : Nat), .int (nI c)] (cS f g h1 h2) r ↔ r = (cS (u2 f 18 2 (nI (p + 1))) g h1 h2, some (.int 1)) := by
  have k0 := fun d r => @s211 sc d r f g h1 h2 C L p T K
  have ka := K.2.1
  have z1 : nI p + 1 = nI (p + 1) := by rw [← lt1, nI_add]
  simp only [c62, x62_0, x62_1, x62_4, x62_5, x62_8, x62_9, x62_10, x62_11, x62_12, x62_15, x62_16, x62_17, x62_20, x62_21, kp18, rf18_0, rp18_0, al19, iA19, it19, k0, ka, h, z1, bI_True, bI_False, nI_1, Nat.reduceLeDiff, Nat.reduceEqDiff, nb0, nb1, nbI, eq_self, ex_pr, tl_s, tl_n, if_true, if_false, not_true_eq_false, not_false_eq_true, and_self, and_false, false_and, and_true, true_and]
theorem s62f {c : Nat} (T : TXC C L) (K : KT f C L p) (h : ¬ C p = nI c) : Cl sc (d + 2) 62 [.ref (18 : Nat), .int (nI c)] (cS f g h1 h2) r ↔ r = (cS f g h1 h2, some (.int 0)) := by
  have k0 := fun d r => @s211 sc d r f g h1 h2 C L p T K
  have ka := K.2.1
  simp only [c62, x62_0, x62_1, x62_4, x62_5, x62_8, x62_9, x62_10, x62_11, x62_12, x62_15, x62_16, x62_17, x62_20, x62_21, kp18, rf18_0, rp18_0, al19, iA19, it19, k0, ka, h, bI_True, bI_False, nI_1, Nat.reduceLeDiff, Nat.reduceEqDiff, nb0, nb1, nbI, eq_self, ex_pr, tl_s, tl_n, if_true, if_false, not_true_eq_false, not_false_eq_true, and_self, and_false, false_and, and_true, true_and]
/-- acceptAll -/
theorem l63 {q : Nat} (S : STF q) (T : TXC C L) : ∀ (k i p : Nat) (f : Nat → Nat → Int32), i + k = (sW q).length → KT f C L p → (Rn sc (d + 4) 63 2 [.ref (18 : Nat), .ref q, .int (nI i)] [] (cS f g h1 h2) r ↔ r = (cS (u2 f 18 2 (nI (p + amf C (fun i => (sW q).getD i 0) k i p))) g h1 h2, some (.int (bI (amf C (fun i => (sW q).getD i 0) k i p = k)))))
  | 0, i, p, f, h, K => by
    have e : i = (sW q).length := h
    have e1 : ¬ nI i < nI (sW q).length := by rw [e]; exact Int32.lt_irrefl
    have k2 := fun d r => @s195 sc d r f g h1 h2 q S
    have a3 := S.2.2.1
    have st : amf C (fun i => (sW q).getD i 0) 0 i p = 0 := rfl
    rw [st, Nat.add_zero p, u2_id K.2.1]
    simp only [x63_2 (x2 := nI i), x63_3, x63_4, x63_7, x63_40, x63_41, a3, k2, e1, bI_True, bI_False, nI_1, Nat.reduceLeDiff, Nat.reduceEqDiff, nb0, nb1, nbI, eq_self, ex_pr, tl_s, tl_n, if_true, if_false, not_true_eq_false, not_false_eq_true, and_self, and_false, false_and, and_true, true_and]
  | k + 1, i, p, f, h, K => by
    have l := (sW_l q).1
    have e1 : nI i < nI (sW q).length := nI_lt (by omega) (by omega)
    have k2 := fun d r => @s195 sc d r f g h1 h2 q S
    have k3 := fun d r => @s196 sc d r f g h1 h2 q i S (by omega)
    have a3 := S.2.2.1
    have a7 := (S.2.2.2.2.2.2 i (by omega)).2
    have tl := T.1
    have kp := K.2.2
    have ka := K.2.1
    have k0 := fun d r => @s211 sc d r f g h1 h2 C L p T K
    have z1 : nI p + 1 = nI (p + 1) := by rw [← lt1, nI_add]
    have z2 : nI i + 1 = nI (i + 1) := by rw [← lt1, nI_add]
    have st : amf C (fun i => (sW q).getD i 0) (k + 1) i p = if C p = nI ((sW q).getD i 0) then amf C (fun i => (sW q).getD i 0) k (i + 1) (p + 1) + 1 else 0 := rfl
    rw [st]
    by_cases y : C p = nI ((sW q).getD i 0)
    · have pl := T.lt y (by omega)
      have k4 := l63 S T k (i + 1) (p + 1) (u2 f 18 2 (nI (p + 1))) (by omega) (K.mv (by omega))
      rw [u2_u2] at k4
      rw [if_pos y, show p + (amf C (fun i => (sW q).getD i 0) k (i + 1) (p + 1) + 1) = p + 1 + amf C (fun i => (sW q).getD i 0) k (i + 1) (p + 1) by omega]
      have eb : bI (amf C (fun i => (sW q).getD i 0) k (i + 1) (p + 1) + 1 = k + 1) = bI (amf C (fun i => (sW q).getD i 0) k (i + 1) (p + 1) = k) := by
        unfold bI
        by_cases w : amf C (fun i => (sW q).getD i 0) k (i + 1) (p + 1) = k
        · rw [if_pos w, if_pos (by omega)]
        · rw [if_neg w, if_neg (by omega)]
      rw [eb, ← k4]
      simp only [x63_2 (x2 := nI i), x63_3, x63_4, x63_7, x63_10, x63_11, x63_14, x63_15, x63_16, x63_19, x63_24, x63_25, x63_26, x63_29, x63_30, x63_31, x63_34, x63_37, kp18, rf18_0, rp18_0, al19, iA19, it19, k0, a3, k2, k3, e1, ka, y, z1, z2, bI_True, bI_False, nI_1, Nat.reduceLeDiff, Nat.reduceEqDiff, nb0, nb1, nbI, eq_self, ex_pr, tl_s, tl_n, if_true, if_false, not_true_eq_false, not_false_eq_true, and_self, and_false, false_and, and_true, true_and]
    · have e0 : bI (0 = k + 1) = 0 := if_neg (by omega)
      rw [if_neg y, Nat.add_zero p, u2_id ka, e0]
      simp only [x63_2 (x2 := nI i), x63_3, x63_4, x63_7, x63_10, x63_11, x63_14, x63_15, x63_16, x63_19, x63_22, x63_23, kp18, rf18_0, rp18_0, al19, iA19, it19, k0, a3, k2, k3, e1, ka, y, bI_True, bI_False, nI_1, Nat.reduceLeDiff, Nat.reduceEqDiff, nb0, nb1, nbI, eq_self, ex_pr, tl_s, tl_n, if_true, if_false, not_true_eq_false, not_false_eq_true, and_self, and_false, false_and, and_true, true_and]
theorem s63 {q : Nat} (S : STF q) (T : TXC C L) (K : KT f C L p) : Cl sc (d + 5) 63 [.ref (18 : Nat), .ref q] (cS f g h1 h2) r ↔ r = (cS (u2 f 18 2 (nI (p + amf C (fun i => (sW q).getD i 0) (sW q).length 0 p))) g h1 h2, some (.int (bI (amf C (fun i => (sW q).getD i 0) (sW q).length 0 p = (sW q).length)))) := by
  have k := @l63 sc d r g h1 h2 C L q S T (sW q).length 0 p f (Nat.zero_add _) K
  rw [lt0] at k
  rw [← k]
  simp only [c63, x63_0, x63_1, bI_True, bI_False, nI_1, Nat.reduceLeDiff, Nat.reduceEqDiff, nb0, nb1, nbI, eq_self, ex_pr, tl_s, tl_n, if_true, if_false, not_true_eq_false, not_false_eq_true, and_self, and_false, false_and, and_true, true_and]
end HC
