/-! the best row of runs: the class -/
theorem or22 : ∀ h, h < 5 → (∀ a b, ((RR a b 22 h).isSome = true) = True) ∧ (∀ a b, rf a b 22 h = 23 + h) ∧ isT9 .int (23 + h) ∧ aln (23 + h) = 128 ∧ ((17 ≤ 23 + h) = True)
  | 0, _ => ⟨fun _ _ => eq_true rfl, fun _ _ => rfl, rfl, rfl, eq_true (by omega)⟩
  | 1, _ => ⟨fun _ _ => eq_true rfl, fun _ _ => rfl, rfl, rfl, eq_true (by omega)⟩
  | 2, _ => ⟨fun _ _ => eq_true rfl, fun _ _ => rfl, rfl, rfl, eq_true (by omega)⟩
  | 3, _ => ⟨fun _ _ => eq_true rfl, fun _ _ => rfl, rfl, rfl, eq_true (by omega)⟩
  | 4, _ => ⟨fun _ _ => eq_true rfl, fun _ _ => rfl, rfl, rfl, eq_true (by omega)⟩
  | t + 5, h => absurd h (by omega)
theorem or28 : ∀ h, h < 5 → (∀ a b, ((RR a b 28 h).isSome = true) = True) ∧ (∀ a b, rf a b 28 h = 29 + h) ∧ isT9 .int (29 + h) ∧ aln (29 + h) = 128 ∧ ((17 ≤ 29 + h) = True)
  | 0, _ => ⟨fun _ _ => eq_true rfl, fun _ _ => rfl, rfl, rfl, eq_true (by omega)⟩
  | 1, _ => ⟨fun _ _ => eq_true rfl, fun _ _ => rfl, rfl, rfl, eq_true (by omega)⟩
  | 2, _ => ⟨fun _ _ => eq_true rfl, fun _ _ => rfl, rfl, rfl, eq_true (by omega)⟩
  | 3, _ => ⟨fun _ _ => eq_true rfl, fun _ _ => rfl, rfl, rfl, eq_true (by omega)⟩
  | 4, _ => ⟨fun _ _ => eq_true rfl, fun _ _ => rfl, rfl, rfl, eq_true (by omega)⟩
  | t + 5, h => absurd h (by omega)
theorem or39 : ∀ h, h < 4 → (∀ a b, ((RR a b 39 h).isSome = true) = True) ∧ (∀ a b, rf a b 39 h = 40 + h) ∧ isT9 .int (40 + h) ∧ aln (40 + h) = 128 ∧ ((17 ≤ 40 + h) = True)
  | 0, _ => ⟨fun _ _ => eq_true rfl, fun _ _ => rfl, rfl, rfl, eq_true (by omega)⟩
  | 1, _ => ⟨fun _ _ => eq_true rfl, fun _ _ => rfl, rfl, rfl, eq_true (by omega)⟩
  | 2, _ => ⟨fun _ _ => eq_true rfl, fun _ _ => rfl, rfl, rfl, eq_true (by omega)⟩
  | 3, _ => ⟨fun _ _ => eq_true rfl, fun _ _ => rfl, rfl, rfl, eq_true (by omega)⟩
  | t + 4, h => absurd h (by omega)
theorem or34 : ∀ h, h < 4 → (∀ a b, ((RR a b 34 h).isSome = true) = True) ∧ (∀ a b, rf a b 34 h = 35 + h) ∧ isT9 .int (35 + h) ∧ aln (35 + h) = 128 ∧ ((17 ≤ 35 + h) = True)
  | 0, _ => ⟨fun _ _ => eq_true rfl, fun _ _ => rfl, rfl, rfl, eq_true (by omega)⟩
  | 1, _ => ⟨fun _ _ => eq_true rfl, fun _ _ => rfl, rfl, rfl, eq_true (by omega)⟩
  | 2, _ => ⟨fun _ _ => eq_true rfl, fun _ _ => rfl, rfl, rfl, eq_true (by omega)⟩
  | 3, _ => ⟨fun _ _ => eq_true rfl, fun _ _ => rfl, rfl, rfl, eq_true (by omega)⟩
  | t + 4, h => absurd h (by omega)
def moS (st : Option aW) : Int32 := match st with
  | none => -1
  | some v => nI v.1
def leS (st : Option aW) : Int32 := match st with
  | none => 0
  | some v => nI v.2.1
def cqS (st : Option aW) : Nat := match st with
  | none => 21
  | some v => v.2.2.headD 21
def okS (st : Option aW) : Prop := ∀ v, st = some v → v.1 ≤ 693 ∧ v.2.1 ≤ 24000
theorem ok_up {st : Option aW} {b : aW} (h : okS st) (hb : b.1 ≤ 693 ∧ b.2.1 ≤ 24000) : okS (upw st b) := by
  intro v hv
  cases st with
  | none =>
    cases hv
    exact hb
  | some a =>
    unfold upw at hv
    dsimp only at hv
    split at hv
    · cases hv
      exact hb
    · cases hv
      exact h _ rfl
/-- runs of pairs that may go, as tables -/
def vE (D : aD) (pr hr hs : Nat) : Nat → Nat → Nat → Bool := fun m s q => VD D pr s (hr + (hs - 1 - m)) q
def vP (D : aD) (hr hs : Nat) : Nat → Nat → Nat → Nat := fun m s q => PLL D s (hr + (hs - 1 - m)) q
def vb (D : aD) (W : Nat → Nat) (pr gb n hr hs : Nat) : Nat → Nat → aW := Vb (vE D pr hr hs) (vP D hr hs) (fun s => ga W pr s gb n 0)
theorem VD_p {D : aD} {pr s hx q : Nat} (h : VD D pr s hx q = true) : q < 21 ∧ bt pr (o1 q) = 1 ∧ bt pr (o2 q) = 1 ∧ GO D (o1 q) (o2 q) s hx = true := by
  unfold VD at h
  rw [Bool.and_eq_true, Bool.and_eq_true] at h
  obtain ⟨⟨a, b⟩, c⟩ := h
  exact ⟨of_decide_eq_true a, (of_decide_eq_true b).1, (of_decide_eq_true b).2, c⟩
theorem GO_u {D : aD} {a b s hx : Nat} (h : GO D a b s hx = true) : ¬ bt s a = bt s b := by
  unfold GO at h
  rw [Bool.and_eq_true] at h
  exact of_decide_eq_true h.1
theorem flq_ok {D : aD} {pr n s hx q : Nat} (hp : pr < 2 ^ n) (n7 : n ≤ 7) (hs : s < 2 ^ n) (hq : q ≤ 21) (h : q = 21 ∨ VD D pr s hx q = true) : flq s q < 2 ^ n ∧ pcn (flq s q) = pcn s := by
  rcases h with rfl | h
  · rw [flq_21]
    exact ⟨hs, rfl⟩
  · obtain ⟨a, b, c, e⟩ := VD_p h
    rw [flq_p a]
    exact ⟨flp_lt hs (pr_lt hp b) (pr_lt hp c), bc_flp q a s (go_lt n7 hs) (GO_u e)⟩
theorem PLL_le {D : aD} {pr n s hx q : Nat} (O : DOK D n) (hp : pr < 2 ^ n) (h : q = 21 ∨ VD D pr s hx q = true) : PLL D s hx q ≤ 6000 := by
  unfold PLL
  rcases h with rfl | h
  · rw [if_pos rfl]
    omega
  · obtain ⟨a, b, c, e⟩ := VD_p h
    have p1 := PU_le O (pr_lt hp b) (bt s (o1 q)) hx
    have p2 := PU_le O (pr_lt hp c) (bt s (o2 q)) hx
    rw [if_neg (by omega)]
    omega
theorem vb_b {D : aD} {W : Nat → Nat} {pr gb n hr hs : Nat} (O : DOK D n) (hp : pr < 2 ^ n) (n7 : n ≤ 7) (hw : ∀ s, s < n → W s ≤ 99) (m s : Nat) (h : s < 2 ^ n) : (vb D W pr gb n hr hs m s).1 ≤ 693 ∧ (vb D W pr gb n hr hs m s).2.1 ≤ 6000 * m ∧ (vb D W pr gb n hr hs m s).2.2.length = m ∧ ∀ k, k < m → (vb D W pr gb n hr hs m s).2.2.getD k 0 ≤ 21 :=
  Vb_b (n := n) (fun s _ => by
    have := @ga_le W pr s gb n 0 (fun s _ h => hw s (by omega))
    show ga W pr s gb n 0 ≤ 693
    omega) (fun m s q _ _ h => PLL_le O hp h) (fun m s q hs hq h => (flq_ok hp n7 hs hq h).1) m s h
section BC
variable {sc : aSc} {d : Nat} {r : aRes} {f : Nat → Nat → Int32} {g : Nat → Nat → Int64} {h1 h2 : Nat} {n hr wn dk sd gb pc bc : Nat} {W : Nat → Nat} {D : aD} {hc : Nat} {HS : Nat → aH} {σ : aS}
theorem s39 {s : Nat} (hs : s < 128) (c4 : f 56 4 = nI sd) (hsd : sd < 128) : Cl sc (d + 2) 39 [.ref (56 : Nat), .int (nI s)] (cS f g h1 h2) r ↔ r = (cS f g h1 h2, some (.int (bI (pcn s = pcn sd)))) := by
  have k1 := fun d r => @s210 sc d r (cS f g h1 h2) s hs
  have k2 := fun d r => @s210 sc d r (cS f g h1 h2) sd hsd
  have a := pcn_le s hs
  have b := pcn_le sd hsd
  have e := @nI_eq (pcn s) (pcn sd) (by omega) (by omega)
  by_cases z : pcn s = pcn sd
  · rw [bI_t z]
    simp only [c39, x39_0, x39_1, x39_4, x39_5, x39_8, x39_11, x39_14, x39_15, x39_18, x39_19, kp56, rf56_6, rp56_6, al57, iA57, it57, rf56_7, rp56_7, al58, iA58, it58, rf56_8, rp56_8, al59, iA59, it59, rf56_9, rp56_9, al60, iA60, it60, rf56_10, rp56_10, al61, iA61, it61, rf56_12, rp56_12, al62, iA62, it62, rf56_13, rp56_13, al63, iA63, it63, rf56_15, rp56_15, al64, iA64, it64, rf56_16, rp56_16, al65, iA65, it65, rf56_17, rp56_17, rf56_18, rp56_18, al66, iA66, it66, k1, k2, c4, e, eq_true z, bI_True, bI_False, nI_1, Nat.reduceLeDiff, Nat.reduceEqDiff, nb0, nb1, nbI, eq_self, ex_pr, tl_s, tl_n, if_true, if_false, not_true_eq_false, not_false_eq_true, and_self, and_false, false_and, and_true, true_and]
  · rw [bI_f z]
    simp only [c39, x39_0, x39_1, x39_4, x39_5, x39_8, x39_11, x39_14, x39_15, x39_18, x39_19, kp56, rf56_6, rp56_6, al57, iA57, it57, rf56_7, rp56_7, al58, iA58, it58, rf56_8, rp56_8, al59, iA59, it59, rf56_9, rp56_9, al60, iA60, it60, rf56_10, rp56_10, al61, iA61, it61, rf56_12, rp56_12, al62, iA62, it62, rf56_13, rp56_13, al63, iA63, it63, rf56_15, rp56_15, al64, iA64, it64, rf56_16, rp56_16, al65, iA65, it65, rf56_17, rp56_17, rf56_18, rp56_18, al66, iA66, it66, k1, k2, c4, e, eq_false z, bI_True, bI_False, nI_1, Nat.reduceLeDiff, Nat.reduceEqDiff, nb0, nb1, nbI, eq_self, ex_pr, tl_s, tl_n, if_true, if_false, not_true_eq_false, not_false_eq_true, and_self, and_false, false_and, and_true, true_and]
theorem l41 {h hs pr s : Nat} {vn : Nat → aW} (C : LC f h1 D n hr hs pr sd) (h4 : hs ≤ 4) (hh : h < hs) (hsn : s < 2 ^ n) (hpc : pcn s = pcn sd) (Tn : ∀ s', s' < 2 ^ n → pcn s' = pcn sd → f (24 + h) s' = nI (vn s').1 ∧ f (30 + h) s' = nI (vn s').2.1 ∧ (vn s').1 ≤ 693 ∧ (vn s').2.1 ≤ 18000) : ∀ (k p : Nat) (st : Option aW) (v8 v9 v10 : Value), p + k = 22 → okS st → (Rn sc (d + 5) 41 13 [.ref (21 : Nat), .ref (56 : Nat), .int (nI h), .int (nI s), .int (moS st), .int (leS st), .int (nI (cqS st)), .int (nI p), v8, v9, v10] [] (cS f g h1 h2) r ↔ r = (cS (u2 (u2 (u2 f (23 + h) s (moS (lp (chS (VD D pr s (hr + h)) (fun q => exR (vn (flq s q)) (PLL D s (hr + h) q) q)) k p st))) (29 + h) s (leS (lp (chS (VD D pr s (hr + h)) (fun q => exR (vn (flq s q)) (PLL D s (hr + h) q) q)) k p st))) (40 + h) s (nI (cqS (lp (chS (VD D pr s (hr + h)) (fun q => exR (vn (flq s q)) (PLL D s (hr + h) q) q)) k p st)))) g h1 h2, none))
  | 0, p, st, v8, v9, v10, hp, ok => by
    have e : p = 22 := hp
    subst e
    have e1 : (21 : Int32) < nI 22 := by decide
    obtain ⟨P, ce, n7, c21, cp, c4, cs, c0⟩ := C
    have s7 := go_lt n7 hsn
    obtain ⟨u1, u2', u3, u4, u5⟩ := or22 h (by omega)
    obtain ⟨w1, w2, w3, w4, w5⟩ := or28 h (by omega)
    obtain ⟨y1, y2, y3, y4, y5⟩ := or39 h (by omega)
    have j1 : inb (nI h) 5 = true := inb_nI (by omega) (by decide)
    have j2 : (nI h).toNatClampNeg = h := cl_nI (by omega)
    have j3 : inb (nI h) 4 = true := inb_nI (by omega) (by decide)
    have i1 : inb (nI s) 128 = true := inb_nI s7 (by decide)
    have i2 : (nI s).toNatClampNeg = s := cl_nI (by omega)
    show _ ↔ r = (cS (u2 (u2 (u2 f (23 + h) s (moS st)) (29 + h) s (leS st)) (40 + h) s (nI (cqS st))) g h1 h2, none)
    simp only [x41_13 (x7 := nI 22), x41_15, x41_17, x41_125, x41_126, x41_129, x41_130, x41_131, x41_132, x41_134, x41_135, x41_136, x41_139, x41_140, x41_141, x41_142, x41_144, x41_145, x41_146, x41_149, x41_150, x41_151, x41_152, x41_154, x41_155, kp21, rf21_0, rp21_0, al22, iA22, iG22, rf21_1, rp21_1, al28, iA28, iG28, rf21_2, rp21_2, al34, iA34, iG34, rf21_3, rp21_3, al39, iA39, iG39, rf21_4, rp21_4, al44, iA44, iG44, al22, iA22, iG22, rf22_0, rp22_0, al23, iA23, it23, rf22_1, rp22_1, al24, iA24, it24, rf22_2, rp22_2, al25, iA25, it25, rf22_3, rp22_3, al26, iA26, it26, rf22_4, rp22_4, al27, iA27, it27, al28, iA28, iG28, rf28_0, rp28_0, al29, iA29, it29, rf28_1, rp28_1, al30, iA30, it30, rf28_2, rp28_2, al31, iA31, it31, rf28_3, rp28_3, al32, iA32, it32, rf28_4, rp28_4, al33, iA33, it33, al39, iA39, iG39, rf39_0, rp39_0, al40, iA40, it40, rf39_1, rp39_1, al41, iA41, it41, rf39_2, rp39_2, al42, iA42, it42, rf39_3, rp39_3, al43, iA43, it43, e1, u1, u2', u3, u4, u5, w1, w2, w3, w4, w5, y1, y2, y3, y4, y5, j1, j2, j3, i1, i2, bI_True, bI_False, nI_1, Nat.reduceLeDiff, Nat.reduceEqDiff, nb0, nb1, nbI, eq_self, ex_pr, tl_s, tl_n, if_true, if_false, not_true_eq_false, not_false_eq_true, and_self, and_false, false_and, and_true, true_and]
  | k + 1, p, st, v8, v9, v10, hp, ok => by
    have C0 := C
    obtain ⟨P, ce, n7, c21, cp, c4, cs, c0⟩ := C
    have s7 := go_lt n7 hsn
    have e1 : ¬ (21 : Int32) < nI p := by
      rw [show (21 : Int32) = nI 21 from rfl, nI_ltI (by decide) (by omega)]
      omega
    have e2 := @nI_eq p 21 (by omega) (by decide)
    rw [show nI 21 = 21 from rfl] at e2
    have z1 : nI p + 1 = nI (p + 1) := by rw [← lt1, nI_add]
    have st1 : lp (chS (VD D pr s (hr + h)) (fun q => exR (vn (flq s q)) (PLL D s (hr + h) q) q)) (k + 1) p st = lp (chS (VD D pr s (hr + h)) (fun q => exR (vn (flq s q)) (PLL D s (hr + h) q) q)) k (p + 1) (chS (VD D pr s (hr + h)) (fun q => exR (vn (flq s q)) (PLL D s (hr + h) q) q) p st) := rfl
    rw [st1]
    by_cases y : p = 21 ∨ VD D pr s (hr + h) p = true
    · have ch : chS (VD D pr s (hr + h)) (fun q => exR (vn (flq s q)) (PLL D s (hr + h) q) q) p st = upw st (exR (vn (flq s p)) (PLL D s (hr + h) p) p) := if_pos y
      rw [ch]
      obtain ⟨q1, q2⟩ := flq_ok cp n7 hsn (by omega) y
      obtain ⟨t1, t2, t3, t4⟩ := Tn (flq s p) q1 (by rw [q2, hpc])
      have pl := PLL_le ce.1.1 cp y
      have okn := ok_up ok (b := exR (vn (flq s p)) (PLL D s (hr + h) p) p) ⟨t3, by show (vn (flq s p)).2.1 + PLL D s (hr + h) p ≤ 24000; omega⟩
      have k2 := fun v8 v9 v10 => l41 C0 h4 hh hsn hpc Tn k (p + 1) (upw st (exR (vn (flq s p)) (PLL D s (hr + h) p) p)) v8 v9 v10 (by omega) okn
      rw [← k2 (.int (nI (flq s p))) (.int (nI (vn (flq s p)).1)) (.int (nI ((vn (flq s p)).2.1 + PLL D s (hr + h) p)))]
      obtain ⟨u1, u2', u3, u4, u5⟩ := or22 (h + 1) (by omega)
      obtain ⟨w1, w2, w3, w4, w5⟩ := or28 (h + 1) (by omega)
      have f7 := go_lt n7 q1
      have j1 : inb (nI (h + 1)) 5 = true := inb_nI (by omega) (by decide)
      have j2 : (nI (h + 1)).toNatClampNeg = h + 1 := cl_nI (by omega)
      have i1 : inb (nI (flq s p)) 128 = true := inb_nI f7 (by decide)
      have i2 : (nI (flq s p)).toNatClampNeg = flq s p := cl_nI (by omega)
      have z2 : nI h + 1 = nI (h + 1) := by rw [← lt1, nI_add]
      have r1 : f (23 + (h + 1)) (flq s p) = nI (vn (flq s p)).1 := by rw [show 23 + (h + 1) = 24 + h by omega]; exact t1
      have r2 : f (29 + (h + 1)) (flq s p) = nI (vn (flq s p)).2.1 := by rw [show 29 + (h + 1) = 30 + h by omega]; exact t2
      have k34 := fun d r => @s34 sc d r f g h1 h2 p (by omega)
      have t5 : nI s ^^^ nI (pbt p) = nI (flq s p) := nI_xor _ _
      have k37 := fun d r => @s37 sc d r f g h1 h2 n hr D h p s hs P hh h4 (by omega) (fun hp' => by
        rcases y with y | y
        · omega
        · exact pr_lt cp (VD_p y).2.2.1) n7 s7
      have go : ∀ r, (Rn sc (d + 5) 41 13 [.ref (21 : Nat), .ref (56 : Nat), .int (nI h), .int (nI s), .int (moS st), .int (leS st), .int (nI (cqS st)), .int (nI p), v8, v9, v10] [] (cS f g h1 h2) r ↔ Rn sc (d + 5) 41 86 [.ref (21 : Nat), .ref (56 : Nat), .int (nI h), .int (nI s), .int (moS st), .int (leS st), .int (nI (cqS st)), .int (nI p), .int (nI (flq s p)), .int (nI (vn (flq s p)).1), .int (nI ((vn (flq s p)).2.1 + PLL D s (hr + h) p))] [] (cS f g h1 h2) r) := fun r => by
        by_cases e : p = 21
        · simp only [x41_13 (x7 := nI p), x41_15, x41_17, x41_20, x41_22, x41_24, x41_42, x41_43, x41_45, x41_48, x41_49, x41_51, x41_52, x41_55, x41_56, x41_57, x41_58, x41_59, x41_61, x41_62, x41_64, x41_65, x41_68, x41_69, x41_70, x41_71, x41_72, x41_74, x41_75, x41_76, x41_77, x41_78, x41_80, x41_83, x41_84, kp21, rf21_0, rp21_0, al22, iA22, iG22, rf21_1, rp21_1, al28, iA28, iG28, rf21_2, rp21_2, al34, iA34, iG34, rf21_3, rp21_3, al39, iA39, iG39, rf21_4, rp21_4, al44, iA44, iG44, al22, iA22, iG22, rf22_0, rp22_0, al23, iA23, it23, rf22_1, rp22_1, al24, iA24, it24, rf22_2, rp22_2, al25, iA25, it25, rf22_3, rp22_3, al26, iA26, it26, rf22_4, rp22_4, al27, iA27, it27, al28, iA28, iG28, rf28_0, rp28_0, al29, iA29, it29, rf28_1, rp28_1, al30, iA30, it30, rf28_2, rp28_2, al31, iA31, it31, rf28_3, rp28_3, al32, iA32, it32, rf28_4, rp28_4, al33, iA33, it33, e1, e2, eq_true e, k34, t5, z2, u1, u2', u3, u4, u5, w1, w2, w3, w4, w5, j1, j2, i1, i2, r1, r2, k37, nI_add, bI_True, bI_False, nI_1, Nat.reduceLeDiff, Nat.reduceEqDiff, nb0, nb1, nbI, eq_self, ex_pr, tl_s, tl_n, if_true, if_false, not_true_eq_false, not_false_eq_true, and_self, and_false, false_and, and_true, true_and]
        · have yv : VD D pr s (hr + h) p = true := by
            rcases y with y | y
            · exact absurd y e
            · exact y
          have k38 := fun d r => @s38 sc d r f g h1 h2 n hr D h p s hs pr P ce hh h4 (by omega) n7 s7 c21 cp
          simp only [x41_13 (x7 := nI p), x41_15, x41_17, x41_20, x41_22, x41_24, x41_27, x41_28, x41_29, x41_30, x41_31, x41_33, x41_36, x41_42, x41_43, x41_45, x41_48, x41_49, x41_51, x41_52, x41_55, x41_56, x41_57, x41_58, x41_59, x41_61, x41_62, x41_64, x41_65, x41_68, x41_69, x41_70, x41_71, x41_72, x41_74, x41_75, x41_76, x41_77, x41_78, x41_80, x41_83, x41_84, kp21, rf21_0, rp21_0, al22, iA22, iG22, rf21_1, rp21_1, al28, iA28, iG28, rf21_2, rp21_2, al34, iA34, iG34, rf21_3, rp21_3, al39, iA39, iG39, rf21_4, rp21_4, al44, iA44, iG44, al22, iA22, iG22, rf22_0, rp22_0, al23, iA23, it23, rf22_1, rp22_1, al24, iA24, it24, rf22_2, rp22_2, al25, iA25, it25, rf22_3, rp22_3, al26, iA26, it26, rf22_4, rp22_4, al27, iA27, it27, al28, iA28, iG28, rf28_0, rp28_0, al29, iA29, it29, rf28_1, rp28_1, al30, iA30, it30, rf28_2, rp28_2, al31, iA31, it31, rf28_3, rp28_3, al32, iA32, it32, rf28_4, rp28_4, al33, iA33, it33, e1, e2, eq_false e, k38, bI_t yv, zi1, k34, t5, z2, u1, u2', u3, u4, u5, w1, w2, w3, w4, w5, j1, j2, i1, i2, r1, r2, k37, nI_add, bI_True, bI_False, nI_1, Nat.reduceLeDiff, Nat.reduceEqDiff, nb0, nb1, nbI, eq_self, ex_pr, tl_s, tl_n, if_true, if_false, not_true_eq_false, not_false_eq_true, and_self, and_false, false_and, and_true, true_and]
      rw [go]
      cases st with
      | none =>
        have m1 : (-1 : Int32) < nI (vn (flq s p)).1 := by
          rw [show (-1 : Int32) = iI (-1) from rfl, iI_N, iI_lt (by decide) (by decide) (by omega) (by omega)]
          omega
        show Rn sc (d + 5) 41 86 [.ref (21 : Nat), .ref (56 : Nat), .int (nI h), .int (nI s), .int (-1), .int 0, .int (nI 21), .int (nI p), .int (nI (flq s p)), .int (nI (vn (flq s p)).1), .int (nI ((vn (flq s p)).2.1 + PLL D s (hr + h) p))] [] (cS f g h1 h2) r ↔ Rn sc (d + 5) 41 13 [.ref (21 : Nat), .ref (56 : Nat), .int (nI h), .int (nI s), .int (nI (vn (flq s p)).1), .int (nI ((vn (flq s p)).2.1 + PLL D s (hr + h) p)), .int (nI p), .int (nI (p + 1)), .int (nI (flq s p)), .int (nI (vn (flq s p)).1), .int (nI ((vn (flq s p)).2.1 + PLL D s (hr + h) p))] [] (cS f g h1 h2) r
        simp only [x41_86, x41_88, x41_90, x41_107, x41_109, x41_111, x41_113, x41_115, x41_117, x41_119, x41_122, m1, nI_add, bI_True, bI_False, nI_1, Nat.reduceLeDiff, Nat.reduceEqDiff, nb0, nb1, nbI, eq_self, ex_pr, tl_s, tl_n, if_true, if_false, not_true_eq_false, not_false_eq_true, and_self, and_false, false_and, and_true, true_and]
      | some v =>
        obtain ⟨ov1, ov2⟩ := ok v rfl
        have m1 := @nI_ltI v.1 (vn (flq s p)).1 (by omega) (by omega)
        have m2 := @nI_eq (vn (flq s p)).1 v.1 (by omega) (by omega)
        have m3 := @nI_ltI ((vn (flq s p)).2.1 + PLL D s (hr + h) p) v.2.1 (by omega) (by omega)
        show Rn sc (d + 5) 41 86 [.ref (21 : Nat), .ref (56 : Nat), .int (nI h), .int (nI s), .int (nI v.1), .int (nI v.2.1), .int (nI (v.2.2.headD 21)), .int (nI p), .int (nI (flq s p)), .int (nI (vn (flq s p)).1), .int (nI ((vn (flq s p)).2.1 + PLL D s (hr + h) p))] [] (cS f g h1 h2) r ↔ _
        have ud : upw (some v) (exR (vn (flq s p)) (PLL D s (hr + h) p) p) = if v.1 < (vn (flq s p)).1 ∨ ((vn (flq s p)).1 = v.1 ∧ (vn (flq s p)).2.1 + PLL D s (hr + h) p < v.2.1) then some (exR (vn (flq s p)) (PLL D s (hr + h) p) p) else some v := rfl
        rw [ud]
        by_cases z : v.1 < (vn (flq s p)).1 ∨ ((vn (flq s p)).1 = v.1 ∧ (vn (flq s p)).2.1 + PLL D s (hr + h) p < v.2.1)
        · rw [if_pos z]
          show _ ↔ Rn sc (d + 5) 41 13 [.ref (21 : Nat), .ref (56 : Nat), .int (nI h), .int (nI s), .int (nI (vn (flq s p)).1), .int (nI ((vn (flq s p)).2.1 + PLL D s (hr + h) p)), .int (nI p), .int (nI (p + 1)), .int (nI (flq s p)), .int (nI (vn (flq s p)).1), .int (nI ((vn (flq s p)).2.1 + PLL D s (hr + h) p))] [] (cS f g h1 h2) r
          by_cases z3 : v.1 < (vn (flq s p)).1
          · simp only [x41_86, x41_88, x41_90, x41_107, x41_109, x41_111, x41_113, x41_115, x41_117, x41_119, x41_122, m1, eq_true z3, nI_add, bI_True, bI_False, nI_1, Nat.reduceLeDiff, Nat.reduceEqDiff, nb0, nb1, nbI, eq_self, ex_pr, tl_s, tl_n, if_true, if_false, not_true_eq_false, not_false_eq_true, and_self, and_false, false_and, and_true, true_and]
          · have z4 : (vn (flq s p)).1 = v.1 ∧ (vn (flq s p)).2.1 + PLL D s (hr + h) p < v.2.1 := by omega
            simp only [x41_86, x41_88, x41_90, x41_93, x41_95, x41_97, x41_100, x41_102, x41_104, x41_107, x41_109, x41_111, x41_113, x41_115, x41_117, x41_119, x41_122, m1, eq_false z3, m2, eq_true z4.1, m3, eq_true z4.2, nI_add, bI_True, bI_False, nI_1, Nat.reduceLeDiff, Nat.reduceEqDiff, nb0, nb1, nbI, eq_self, ex_pr, tl_s, tl_n, if_true, if_false, not_true_eq_false, not_false_eq_true, and_self, and_false, false_and, and_true, true_and]
        · rw [if_neg z]
          show _ ↔ Rn sc (d + 5) 41 13 [.ref (21 : Nat), .ref (56 : Nat), .int (nI h), .int (nI s), .int (nI v.1), .int (nI v.2.1), .int (nI (v.2.2.headD 21)), .int (nI (p + 1)), .int (nI (flq s p)), .int (nI (vn (flq s p)).1), .int (nI ((vn (flq s p)).2.1 + PLL D s (hr + h) p))] [] (cS f g h1 h2) r
          have z3 : ¬ v.1 < (vn (flq s p)).1 := fun e => z (Or.inl e)
          by_cases z4 : (vn (flq s p)).1 = v.1
          · have z5 : ¬ (vn (flq s p)).2.1 + PLL D s (hr + h) p < v.2.1 := fun e => z (Or.inr ⟨z4, e⟩)
            simp only [x41_86, x41_88, x41_90, x41_93, x41_95, x41_97, x41_100, x41_102, x41_104, x41_119, x41_122, m1, eq_false z3, m2, eq_true z4, m3, eq_false z5, nI_add, bI_True, bI_False, nI_1, Nat.reduceLeDiff, Nat.reduceEqDiff, nb0, nb1, nbI, eq_self, ex_pr, tl_s, tl_n, if_true, if_false, not_true_eq_false, not_false_eq_true, and_self, and_false, false_and, and_true, true_and]
          · simp only [x41_86, x41_88, x41_90, x41_93, x41_95, x41_97, x41_119, x41_122, m1, eq_false z3, m2, eq_false z4, nI_add, bI_True, bI_False, nI_1, Nat.reduceLeDiff, Nat.reduceEqDiff, nb0, nb1, nbI, eq_self, ex_pr, tl_s, tl_n, if_true, if_false, not_true_eq_false, not_false_eq_true, and_self, and_false, false_and, and_true, true_and]
    · have ch : chS (VD D pr s (hr + h)) (fun q => exR (vn (flq s q)) (PLL D s (hr + h) q) q) p st = st := if_neg y
      have y1 : ¬ p = 21 := fun e => y (Or.inl e)
      have y2 : ¬ VD D pr s (hr + h) p = true := fun e => y (Or.inr e)
      have k38 := fun d r => @s38 sc d r f g h1 h2 n hr D h p s hs pr P ce hh h4 (by omega) n7 s7 c21 cp
      rw [ch, ← l41 C0 h4 hh hsn hpc Tn k (p + 1) st v8 v9 v10 (by omega) ok]
      simp only [x41_13 (x7 := nI p), x41_15, x41_17, x41_20, x41_22, x41_24, x41_27, x41_28, x41_29, x41_30, x41_31, x41_33, x41_36, x41_39, x41_119, x41_122, kp21, rf21_0, rp21_0, al22, iA22, iG22, rf21_1, rp21_1, al28, iA28, iG28, rf21_2, rp21_2, al34, iA34, iG34, rf21_3, rp21_3, al39, iA39, iG39, rf21_4, rp21_4, al44, iA44, iG44, kp56, rf56_6, rp56_6, al57, iA57, it57, rf56_7, rp56_7, al58, iA58, it58, rf56_8, rp56_8, al59, iA59, it59, rf56_9, rp56_9, al60, iA60, it60, rf56_10, rp56_10, al61, iA61, it61, rf56_12, rp56_12, al62, iA62, it62, rf56_13, rp56_13, al63, iA63, it63, rf56_15, rp56_15, al64, iA64, it64, rf56_16, rp56_16, al65, iA65, it65, rf56_17, rp56_17, rf56_18, rp56_18, al66, iA66, it66, e1, e2, eq_false y1, k38, bI_f y2, nI_add, bI_True, bI_False, nI_1, Nat.reduceLeDiff, Nat.reduceEqDiff, nb0, nb1, nbI, eq_self, ex_pr, tl_s, tl_n, if_true, if_false, not_true_eq_false, not_false_eq_true, and_self, and_false, false_and, and_true, true_and]
end BC
