/-! two ropes: the reference -/
theorem pp_s : ∀ c, c < 7 → ∀ e, e < 7 → c < e → pp c e + 1 = pp c (e + 1) ∧ pp c (e + 1) ≤ off (c + 1) := by decide +kernel
theorem pp_f : ∀ c, c < 7 → pp c (c + 1) = off c ∧ off c ≤ off (c + 1) ∧ off (c + 1) ≤ 21 := by decide +kernel
theorem pp_l : ∀ a, a < 7 → ∀ b, b < 7 → a < b → pp a b < off (a + 1) := by decide +kernel
/-- the reference's count, and its most so far -/
def TW (f : Nat → Nat → Int32) (s : Nat × Int) (m : Nat) : Prop := f 114 38 = nI s.1 ∧ (s.1 = 0 ∧ s.2 = -1001 ∨ 0 < s.1 ∧ f 114 39 = iI s.2) ∧ (s.2 ≤ 693 ∧ -1001 ≤ s.2) ∧ s.1 ≤ m
theorem TW.mo {f : Nat → Nat → Int32} {s : Nat × Int} {m m' : Nat} (t : TW f s m) (h : m ≤ m') : TW f s m' := ⟨t.1, t.2.1, t.2.2.1, Nat.le_trans t.2.2.2 h⟩
theorem TW.sm {f f' : Nat → Nat → Int32} {s : Nat × Int} {m : Nat} (t : TW f s m) (F : Sm f f') : TW f' s m := by
  obtain ⟨a, b, c⟩ := t
  refine ⟨?_, ?_, c⟩
  · rw [F 114 (by decide)]; exact a
  · rw [F 114 (by decide)]; exact b
theorem GM.fq {f f' : Nat → Nat → Int32} {W : Nat → Nat} {gb n : Nat} (G : GM f W gb n) (F : Fq f f') : GM f' W gb n := fun s hs => by
  rw [F 118 s (by unfold scq; omega), F 119 s (by unfold scq; omega)]
  exact G s hs
theorem GM.fx {f f' : Nat → Nat → Int32} {W : Nat → Nat} {gb n : Nat} (G : GM f W gb n) (F : Fx f f') : GM f' W gb n := fun s hs => by
  rw [F 118 s (by unfold scq; omega) (by omega), F 119 s (by unfold scq; omega) (by omega)]
  exact G s hs
theorem MY.fq {f f' : Nat → Nat → Int32} {n sd hr aw : Nat} {D : aD} (c : MY f D n sd hr aw) (F : Fq f f') : MY f' D n sd hr aw := c.fx F.fx (by rw [F 114 1 (by unfold scq; omega)]; exact c.2.2.2.1) (by rw [F 114 2 (by unfold scq; omega)]; exact c.2.2.2.2.1) (by rw [F 114 4 (by unfold scq; omega)]; exact c.2.2.2.2.2.1) c.2.2.2.2.2.2.1 c.2.2.2.2.2.2.2
theorem pr_all {n : Nat} : ∀ s, s < n → n ≤ 7 → (bt (2 ^ n - 1) s = 1 ↔ s ≠ 7) := fun s h h7 => by
  rw [bt1, tb_all]
  exact ⟨fun _ => by omega, fun _ => decide_eq_true h⟩
section TM
variable {sc : aSc} {d : Nat} {r : aRes} {f : Nat → Nat → Int32} {g : Nat → Nat → Int64} {h1 h2 : Nat} {n hr wn dk sd gb pc bc : Nat} {W : Nat → Nat} {D : aD} {hc : Nat} {HS : Nat → aH} {σ : aS}
theorem gn7 (C : MY f D n sd hr 7) (G : GM f W gb n) (d : Nat) (r : aRes) : Cl sc (d + 2) 143 [.ref (114 : Nat)] (cS f g h1 h2) r ↔ r = (cS f g h1 h2, some (.int (nI (ga W (2 ^ n - 1) sd gb n 0)))) := by
  have n7 := C.2.1
  exact s143 (aw := 7) n7 C.2.2.1 C.2.2.2.1 (go_lt n7 C.2.2.2.2.2.2.1) G C.2.2.2.2.2.1 (fun s hs => pr_all s hs n7)
theorem s162 {p q : Nat} {s : Nat × Int} {m : Nat} (C : MY f D n sd hr 7) (G : GM f W gb n) (hp : p < 21) (hq : q < 21) (hpn : o2 p < n) (hqn : o2 q < n) (T : TW f s m) (hm : m ≤ 1000) : ∃ f', Fq f f' ∧ TW f' (s.1 + 1, if s.2 < dlt W n gb sd p q then dlt W n gb sd p q else s.2) (m + 1) ∧ ∀ d r, Cl sc (d + 4) 162 [.ref (114 : Nat), .int (nI (o1 p)), .int (nI (o2 p)), .int (nI (o1 q)), .int (nI (o2 q))] (cS f g h1 h2) r ↔ r = (cS f' g h1 h2, none) := by
  have n7 := C.2.1
  have op := o12 p hp
  have oq := o12 q hq
  have m1 := C.2.2.2.1
  have b0 := C.2.2.2.2.2.2.1
  obtain ⟨t1, t2, t3, t4⟩ := T
  have b1 : flq sd p < 2 ^ n := by rw [flq_p hp]; exact flp_lt b0 (by omega) hpn
  have b2 : flq (flq sd p) q < 2 ^ n := by rw [flq_p hq]; exact flp_lt b1 (by omega) hqn
  obtain ⟨F1, e1⟩ : ∃ F1, F1 = u2 f 114 1 (nI (flq sd p)) := ⟨_, rfl⟩
  obtain ⟨F2, e2⟩ : ∃ F2, F2 = u2 F1 114 1 (nI (flq (flq sd p) q)) := ⟨_, rfl⟩
  obtain ⟨F3, e3⟩ : ∃ F3, F3 = u2 F2 114 1 (nI (flq sd q)) := ⟨_, rfl⟩
  obtain ⟨F4, e4⟩ : ∃ F4, F4 = u2 F3 114 1 (nI sd) := ⟨_, rfl⟩
  have x3 : flp (flq (flq sd p) q) (o1 p) (o2 p) = flq sd q := by
    rw [← flq_p hp]
    unfold flq
    rw [Nat.xor_assoc, Nat.xor_assoc, Nat.xor_comm (pbt p), Nat.xor_assoc, Nat.xor_self, Nat.xor_zero]
  have x4 : flp (flq sd q) (o1 q) (o2 q) = sd := by
    rw [flq_p hq]
    exact flp_flp _ _ _
  have k1 : ∀ d r, Cl sc (d + 1) 142 [.ref (114 : Nat), .int (nI (o1 p)), .int (nI (o2 p))] (cS f g h1 h2) r ↔ r = (cS F1 g h1 h2, none) := fun d r => by
    rw [e1, flq_p hp]
    exact s142 (by omega) (by omega) m1
  have k2 : ∀ d r, Cl sc (d + 1) 142 [.ref (114 : Nat), .int (nI (o1 q)), .int (nI (o2 q))] (cS F1 g h1 h2) r ↔ r = (cS F2 g h1 h2, none) := fun d r => by
    rw [e2, flq_p hq]
    exact s142 (by omega) (by omega) (by rw [e1, u2_ss])
  have k3 : ∀ d r, Cl sc (d + 1) 142 [.ref (114 : Nat), .int (nI (o1 p)), .int (nI (o2 p))] (cS F2 g h1 h2) r ↔ r = (cS F3 g h1 h2, none) := fun d r => by
    rw [e3, ← x3]
    exact s142 (by omega) (by omega) (by rw [e2, u2_ss])
  have k4 : ∀ d r, Cl sc (d + 1) 142 [.ref (114 : Nat), .int (nI (o1 q)), .int (nI (o2 q))] (cS F3 g h1 h2) r ↔ r = (cS F4 g h1 h2, none) := fun d r => by
    have q := @s142 sc d r F3 g h1 h2 (flq sd q) (o1 q) (o2 q) (by omega) (by omega) (by rw [e3, u2_ss])
    rw [x4, ← e4] at q
    exact q
  have C1 : MY F1 D n (flq sd p) hr 7 := by rw [e1]; exact C.side b1
  have C2 : MY F2 D n (flq (flq sd p) q) hr 7 := by rw [e2]; exact C1.side b2
  have G2 : GM F2 W gb n := fun s hs => by
    rw [e2, e1, u2_n (by omega), u2_n (by omega), u2_n (by omega), u2_n (by omega)]
    exact G s hs
  have kg := fun d r => gn7 (sc := sc) (g := g) (h1 := h1) (h2 := h2) C G d r
  have kg2 := fun d r => gn7 (sc := sc) (g := g) (h1 := h1) (h2 := h2) C2 G2 d r
  have df : nI (ga W (2 ^ n - 1) (flq (flq sd p) q) gb n 0) - nI (ga W (2 ^ n - 1) sd gb n 0) = iI (dlt W n gb sd p q) := nI_subI _ _
  have y4 : ∀ k, k ≠ 1 → F4 114 k = f 114 k := fun k hk => by rw [e4, e3, e2, e1, u2_nn (by omega), u2_nn (by omega), u2_nn (by omega), u2_nn (by omega)]
  have y38 := y4 38 (by omega)
  have y39 := y4 39 (by omega)
  have db := @dlt_b W n gb sd p q n7 (fun s hs => (G s hs).2.2)
  refine ⟨u2 (u2 F4 114 39 (iI (if s.2 < dlt W n gb sd p q then dlt W n gb sd p q else s.2))) 114 38 (nI (s.1 + 1)), ?_, ?_, ?_⟩
  · intro a k hq
    have h1 : ¬ (a = 114 ∧ k = 38) := fun e => hq (by unfold scq; omega)
    have h2 : ¬ (a = 114 ∧ k = 39) := fun e => hq (by unfold scq; omega)
    rw [u2_nn h1, u2_nn h2, e4, u2_at]
    by_cases e : a = 114 ∧ k = 1
    · rw [if_pos e, e.1, e.2, m1]
    · rw [if_neg e, e3, u2_nn e, e2, u2_nn e, e1, u2_nn e]
  · refine ⟨u2_ss, Or.inr ⟨Nat.succ_pos _, ?_⟩, ?_, by show s.1 + 1 ≤ m + 1; omega⟩
    · rw [u2_nn (by omega), u2_ss]
    · show (if s.2 < dlt W n gb sd p q then dlt W n gb sd p q else s.2) ≤ 693 ∧ -1001 ≤ (if s.2 < dlt W n gb sd p q then dlt W n gb sd p q else s.2)
      split <;> omega
  · intro d r
    have z1 : nI s.1 + 1 = nI (s.1 + 1) := by rw [← lt1, nI_add]
    rcases t2 with ⟨s0, s1⟩ | ⟨s0, s1⟩
    · have z0 : s.2 < dlt W n gb sd p q := by omega
      rw [if_pos z0]
      have z2 : nI s.1 = 0 := by rw [s0]; rfl
      simp only [c162, x162_0, x162_1, x162_4, x162_6, x162_7, x162_8, x162_9, x162_12, x162_13, x162_14, x162_16, x162_19, x162_20, x162_23, x162_25, x162_26, x162_28, x162_29, x162_30, x162_31, x162_34, x162_35, x162_36, x162_38, x162_41, x162_42, x162_43, x162_46, x162_49, x162_51, x162_52, x162_55, x162_58, x162_60, x162_63, x162_64, x162_67, x162_70, x162_71, x162_72, x162_75, x162_76, x162_77, x162_80, kp114, rf114_5, rp114_5, al115, iA115, it115, rf114_6, rp114_6, al116, iA116, it116, rf114_7, rp114_7, al117, iA117, it117, rf114_8, rp114_8, al118, iA118, it118, rf114_9, rp114_9, al119, iA119, it119, rf114_10, rp114_10, al120, iA120, it120, rf114_16, rp114_16, al121, iA121, it121, rf114_17, rp114_17, al122, iA122, it122, rf114_18, rp114_18, al123, iA123, it123, rf114_19, rp114_19, al124, iA124, it124, rf114_20, rp114_20, al125, iA125, it125, rf114_21, rp114_21, al126, iA126, it126, rf114_22, rp114_22, al127, iA127, it127, rf114_23, rp114_23, al128, iA128, it128, rf114_27, rp114_27, al129, iA129, it129, rf114_28, rp114_28, al130, iA130, it130, rf114_29, rp114_29, al131, iA131, it131, rf114_30, rp114_30, al132, iA132, it132, rf114_31, rp114_31, al133, iA133, it133, rf114_41, rp114_41, al134, iA134, it134, rf114_42, rp114_42, al135, iA135, it135, rf114_44, rp114_44, al136, iA136, it136, rf114_45, rp114_45, al137, iA137, it137, rf114_55, rp114_55, al138, iA138, it138, rf114_56, rp114_56, al139, iA139, it139, rf114_57, rp114_57, al140, iA140, it140, rf114_58, rp114_58, al141, iA141, it141, rf114_59, rp114_59, al142, iA142, it142, rf114_60, rp114_60, al143, iA143, it143, rf114_61, rp114_61, al144, iA144, it144, rf114_62, rp114_62, al145, iA145, it145, rf114_63, rp114_63, al146, iA146, it146, rf114_64, rp114_64, al147, iA147, it147, rf114_66, rp114_66, al148, iA148, it148, rf114_67, rp114_67, al149, iA149, it149, rf114_68, rp114_68, al150, iA150, it150, rf114_69, rp114_69, al151, iA151, it151, rf114_70, rp114_70, al152, iA152, it152, kg, k1, k2, kg2, df, k3, k4, y38, y39, t1, z1, u2_at, z2, bI_True, bI_False, nI_1, Nat.reduceLeDiff, Nat.reduceEqDiff, nb0, nb1, nbI, eq_self, ex_pr, tl_s, tl_n, if_true, if_false, not_true_eq_false, not_false_eq_true, and_self, and_false, false_and, and_true, true_and]
      rw [← z1, z2]
    · have z2 : ¬ nI s.1 = 0 := by
        rw [← lt0, nI_eq (by omega) (by decide)]
        omega
      have l : (iI s.2 < iI (dlt W n gb sd p q)) = (s.2 < dlt W n gb sd p q) := iI_lt (by omega) (by omega) (by omega) (by omega)
      by_cases z0 : s.2 < dlt W n gb sd p q
      · rw [if_pos z0]
        simp only [c162, x162_0, x162_1, x162_4, x162_6, x162_7, x162_8, x162_9, x162_12, x162_13, x162_14, x162_16, x162_19, x162_20, x162_23, x162_25, x162_26, x162_28, x162_29, x162_30, x162_31, x162_34, x162_35, x162_36, x162_38, x162_41, x162_42, x162_43, x162_46, x162_49, x162_51, x162_52, x162_55, x162_58, x162_60, x162_63, x162_64, x162_67, x162_70, x162_71, x162_72, x162_75, x162_76, x162_77, x162_80, kp114, rf114_5, rp114_5, al115, iA115, it115, rf114_6, rp114_6, al116, iA116, it116, rf114_7, rp114_7, al117, iA117, it117, rf114_8, rp114_8, al118, iA118, it118, rf114_9, rp114_9, al119, iA119, it119, rf114_10, rp114_10, al120, iA120, it120, rf114_16, rp114_16, al121, iA121, it121, rf114_17, rp114_17, al122, iA122, it122, rf114_18, rp114_18, al123, iA123, it123, rf114_19, rp114_19, al124, iA124, it124, rf114_20, rp114_20, al125, iA125, it125, rf114_21, rp114_21, al126, iA126, it126, rf114_22, rp114_22, al127, iA127, it127, rf114_23, rp114_23, al128, iA128, it128, rf114_27, rp114_27, al129, iA129, it129, rf114_28, rp114_28, al130, iA130, it130, rf114_29, rp114_29, al131, iA131, it131, rf114_30, rp114_30, al132, iA132, it132, rf114_31, rp114_31, al133, iA133, it133, rf114_41, rp114_41, al134, iA134, it134, rf114_42, rp114_42, al135, iA135, it135, rf114_44, rp114_44, al136, iA136, it136, rf114_45, rp114_45, al137, iA137, it137, rf114_55, rp114_55, al138, iA138, it138, rf114_56, rp114_56, al139, iA139, it139, rf114_57, rp114_57, al140, iA140, it140, rf114_58, rp114_58, al141, iA141, it141, rf114_59, rp114_59, al142, iA142, it142, rf114_60, rp114_60, al143, iA143, it143, rf114_61, rp114_61, al144, iA144, it144, rf114_62, rp114_62, al145, iA145, it145, rf114_63, rp114_63, al146, iA146, it146, rf114_64, rp114_64, al147, iA147, it147, rf114_66, rp114_66, al148, iA148, it148, rf114_67, rp114_67, al149, iA149, it149, rf114_68, rp114_68, al150, iA150, it150, rf114_69, rp114_69, al151, iA151, it151, rf114_70, rp114_70, al152, iA152, it152, kg, k1, k2, kg2, df, k3, k4, y38, y39, t1, s1, l, z0, z1, u2_at, z2, bI_True, bI_False, nI_1, Nat.reduceLeDiff, Nat.reduceEqDiff, nb0, nb1, nbI, eq_self, ex_pr, tl_s, tl_n, if_true, if_false, not_true_eq_false, not_false_eq_true, and_self, and_false, false_and, and_true, true_and]
      · rw [if_neg z0]
        simp only [c162, x162_0, x162_1, x162_4, x162_6, x162_7, x162_8, x162_9, x162_12, x162_13, x162_14, x162_16, x162_19, x162_20, x162_23, x162_25, x162_26, x162_28, x162_29, x162_30, x162_31, x162_34, x162_35, x162_36, x162_38, x162_41, x162_42, x162_43, x162_46, x162_49, x162_51, x162_52, x162_55, x162_58, x162_60, x162_63, x162_64, x162_67, x162_70, x162_71, x162_72, x162_75, x162_76, x162_77, x162_80, kp114, rf114_5, rp114_5, al115, iA115, it115, rf114_6, rp114_6, al116, iA116, it116, rf114_7, rp114_7, al117, iA117, it117, rf114_8, rp114_8, al118, iA118, it118, rf114_9, rp114_9, al119, iA119, it119, rf114_10, rp114_10, al120, iA120, it120, rf114_16, rp114_16, al121, iA121, it121, rf114_17, rp114_17, al122, iA122, it122, rf114_18, rp114_18, al123, iA123, it123, rf114_19, rp114_19, al124, iA124, it124, rf114_20, rp114_20, al125, iA125, it125, rf114_21, rp114_21, al126, iA126, it126, rf114_22, rp114_22, al127, iA127, it127, rf114_23, rp114_23, al128, iA128, it128, rf114_27, rp114_27, al129, iA129, it129, rf114_28, rp114_28, al130, iA130, it130, rf114_29, rp114_29, al131, iA131, it131, rf114_30, rp114_30, al132, iA132, it132, rf114_31, rp114_31, al133, iA133, it133, rf114_41, rp114_41, al134, iA134, it134, rf114_42, rp114_42, al135, iA135, it135, rf114_44, rp114_44, al136, iA136, it136, rf114_45, rp114_45, al137, iA137, it137, rf114_55, rp114_55, al138, iA138, it138, rf114_56, rp114_56, al139, iA139, it139, rf114_57, rp114_57, al140, iA140, it140, rf114_58, rp114_58, al141, iA141, it141, rf114_59, rp114_59, al142, iA142, it142, rf114_60, rp114_60, al143, iA143, it143, rf114_61, rp114_61, al144, iA144, it144, rf114_62, rp114_62, al145, iA145, it145, rf114_63, rp114_63, al146, iA146, it146, rf114_64, rp114_64, al147, iA147, it147, rf114_66, rp114_66, al148, iA148, it148, rf114_67, rp114_67, al149, iA149, it149, rf114_68, rp114_68, al150, iA150, it150, rf114_69, rp114_69, al151, iA151, it151, rf114_70, rp114_70, al152, iA152, it152, kg, k1, k2, kg2, df, k3, k4, y38, y39, t1, s1, l, z0, z1, u2_at, z2, bI_True, bI_False, nI_1, Nat.reduceLeDiff, Nat.reduceEqDiff, nb0, nb1, nbI, eq_self, ex_pr, tl_s, tl_n, if_true, if_false, not_true_eq_false, not_false_eq_true, and_self, and_false, false_and, and_true, true_and]
/-- the reference's inner loops -/
theorem l163i {p c : Nat} (hp : p < 21) (hpn : o2 p < n) (hc : o1 p < c) (hcn : c < n) : ∀ (k e : Nat) (s : Nat × Int) (f : Nat → Nat → Int32), MY f D n sd hr 7 → GM f W gb n → TW f s (21 * p + pp c e) → e + k = n → c < e → ∃ f', Fq f f' ∧ TW f' (lp (Fwo (VD D (2 ^ n - 1) sd hr) (dlt W n gb sd) p) (off (c + 1) - pp c e) (pp c e) s) (21 * p + off (c + 1)) ∧ ∀ r, (Rn sc (d + 7) 163 17 [.ref (114 : Nat), .int (nI (o1 p)), .int (nI (o2 p)), .int (nI c), .int (nI e)] [] (cS f g h1 h2) r ↔ Rn sc (d + 7) 163 62 [.ref (114 : Nat), .int (nI (o1 p)), .int (nI (o2 p)), .int (nI c), .int (nI n)] [] (cS f' g h1 h2) r)
  | 0, e, s, f, C, G, T, h, he => by
    have n7 := C.2.1
    have c0 := C.2.2.1
    have ee : e = n := h
    subst ee
    have e1 : ¬ nI e < nI e := Int32.lt_irrefl
    have pl := pp_f c (by omega)
    have i : lp (Fwo (VD D (2 ^ e - 1) sd hr) (dlt W e gb sd) p) (off (c + 1) - pp c e) (pp c e) s = s := lp_id _ _ _ fun q a b s => by
      have q1 := pp_n c (by omega) e (by omega) q (by omega) ⟨hcn, a, by omega⟩
      unfold Fwo
      rw [if_neg]
      intro z
      rw [VD_n (pr := 2 ^ e - 1) (by have := Nat.two_pow_pos e; omega) q1] at z
      exact Bool.false_ne_true z.2
    rw [i]
    refine ⟨f, Fq.refl, T.mo ?_, fun r => ?_⟩
    · have := pp_s c (by omega) (e - 1) (by omega)
      by_cases z : c < e - 1
      · have := (this z).2
        rw [show e - 1 + 1 = e by omega] at this
        omega
      · rw [show e = c + 1 by omega, pl.1]
        omega
    · simp only [x163_17 (x4 := nI e), x163_19, x163_20, x163_23, kp114, rf114_5, rp114_5, al115, iA115, it115, rf114_6, rp114_6, al116, iA116, it116, rf114_7, rp114_7, al117, iA117, it117, rf114_8, rp114_8, al118, iA118, it118, rf114_9, rp114_9, al119, iA119, it119, rf114_10, rp114_10, al120, iA120, it120, rf114_16, rp114_16, al121, iA121, it121, rf114_17, rp114_17, al122, iA122, it122, rf114_18, rp114_18, al123, iA123, it123, rf114_19, rp114_19, al124, iA124, it124, rf114_20, rp114_20, al125, iA125, it125, rf114_21, rp114_21, al126, iA126, it126, rf114_22, rp114_22, al127, iA127, it127, rf114_23, rp114_23, al128, iA128, it128, rf114_27, rp114_27, al129, iA129, it129, rf114_28, rp114_28, al130, iA130, it130, rf114_29, rp114_29, al131, iA131, it131, rf114_30, rp114_30, al132, iA132, it132, rf114_31, rp114_31, al133, iA133, it133, rf114_41, rp114_41, al134, iA134, it134, rf114_42, rp114_42, al135, iA135, it135, rf114_44, rp114_44, al136, iA136, it136, rf114_45, rp114_45, al137, iA137, it137, rf114_55, rp114_55, al138, iA138, it138, rf114_56, rp114_56, al139, iA139, it139, rf114_57, rp114_57, al140, iA140, it140, rf114_58, rp114_58, al141, iA141, it141, rf114_59, rp114_59, al142, iA142, it142, rf114_60, rp114_60, al143, iA143, it143, rf114_61, rp114_61, al144, iA144, it144, rf114_62, rp114_62, al145, iA145, it145, rf114_63, rp114_63, al146, iA146, it146, rf114_64, rp114_64, al147, iA147, it147, rf114_66, rp114_66, al148, iA148, it148, rf114_67, rp114_67, al149, iA149, it149, rf114_68, rp114_68, al150, iA150, it150, rf114_69, rp114_69, al151, iA151, it151, rf114_70, rp114_70, al152, iA152, it152, c0, e1, bI_True, bI_False, nI_1, Nat.reduceLeDiff, Nat.reduceEqDiff, nb0, nb1, nbI, eq_self, ex_pr, tl_s, tl_n, if_true, if_false, not_true_eq_false, not_false_eq_true, and_self, and_false, false_and, and_true, true_and]
  | k + 1, e, s, f, C, G, T, h, he => by
    have n7 := C.2.1
    have c0 := C.2.2.1
    have e1 : nI e < nI n := nI_lt (by omega) (by omega)
    have op := o12 p hp
    have q := pp_o c (by omega) e (by omega) he
    have ps := pp_s c (by omega) e (by omega) he
    have pl := pp_l c (by omega) e (by omega) he
    have w1 := @nI_eq c (o2 p) (by omega) (by omega)
    have w2 := @nI_eq e (o2 p) (by omega) (by omega)
    obtain ⟨f1, F1, k1⟩ := @mgo7 sc f g h1 h2 n hr sd D c e C hcn (by omega) (d + 1)
    have dj := dj_o p hp (pp c e) q.1 (by rw [q.2.1]; exact hc)
    rw [q.2.1, q.2.2] at dj
    have vd := @VD_all D n sd hr (pp c e) q.1 (by rw [q.2.2]; omega)
    rw [q.2.1, q.2.2] at vd
    have st : lp (Fwo (VD D (2 ^ n - 1) sd hr) (dlt W n gb sd) p) (off (c + 1) - pp c e) (pp c e) s = lp (Fwo (VD D (2 ^ n - 1) sd hr) (dlt W n gb sd) p) (off (c + 1) - pp c (e + 1)) (pp c (e + 1)) (Fwo (VD D (2 ^ n - 1) sd hr) (dlt W n gb sd) p (pp c e) s) := by
      rw [show off (c + 1) - pp c e = (off (c + 1) - pp c (e + 1)) + 1 by omega, ← ps.1]
      rfl
    rw [st]
    have z1 : nI e + 1 = nI (e + 1) := by rw [← lt1, nI_add]
    by_cases y1 : c = o2 p
    · have fw : Fwo (VD D (2 ^ n - 1) sd hr) (dlt W n gb sd) p (pp c e) s = s := if_neg fun z => (dj.mp z.1).1 y1
      obtain ⟨f2, F2, T2, k2⟩ := l163i hp hpn hc hcn k (e + 1) s f C G (T.mo (by omega)) (by omega) (by omega)
      rw [fw]
      refine ⟨f2, F2, T2, fun r => ?_⟩
      rw [← k2 r]
      simp only [x163_17 (x4 := nI e), x163_19, x163_20, x163_23, x163_26, x163_27, x163_28, x163_56, x163_59, kp114, rf114_5, rp114_5, al115, iA115, it115, rf114_6, rp114_6, al116, iA116, it116, rf114_7, rp114_7, al117, iA117, it117, rf114_8, rp114_8, al118, iA118, it118, rf114_9, rp114_9, al119, iA119, it119, rf114_10, rp114_10, al120, iA120, it120, rf114_16, rp114_16, al121, iA121, it121, rf114_17, rp114_17, al122, iA122, it122, rf114_18, rp114_18, al123, iA123, it123, rf114_19, rp114_19, al124, iA124, it124, rf114_20, rp114_20, al125, iA125, it125, rf114_21, rp114_21, al126, iA126, it126, rf114_22, rp114_22, al127, iA127, it127, rf114_23, rp114_23, al128, iA128, it128, rf114_27, rp114_27, al129, iA129, it129, rf114_28, rp114_28, al130, iA130, it130, rf114_29, rp114_29, al131, iA131, it131, rf114_30, rp114_30, al132, iA132, it132, rf114_31, rp114_31, al133, iA133, it133, rf114_41, rp114_41, al134, iA134, it134, rf114_42, rp114_42, al135, iA135, it135, rf114_44, rp114_44, al136, iA136, it136, rf114_45, rp114_45, al137, iA137, it137, rf114_55, rp114_55, al138, iA138, it138, rf114_56, rp114_56, al139, iA139, it139, rf114_57, rp114_57, al140, iA140, it140, rf114_58, rp114_58, al141, iA141, it141, rf114_59, rp114_59, al142, iA142, it142, rf114_60, rp114_60, al143, iA143, it143, rf114_61, rp114_61, al144, iA144, it144, rf114_62, rp114_62, al145, iA145, it145, rf114_63, rp114_63, al146, iA146, it146, rf114_64, rp114_64, al147, iA147, it147, rf114_66, rp114_66, al148, iA148, it148, rf114_67, rp114_67, al149, iA149, it149, rf114_68, rp114_68, al150, iA150, it150, rf114_69, rp114_69, al151, iA151, it151, rf114_70, rp114_70, al152, iA152, it152, c0, e1, w1, y1, z1, nI_add, bI_True, bI_False, nI_1, Nat.reduceLeDiff, Nat.reduceEqDiff, nb0, nb1, nbI, eq_self, ex_pr, tl_s, tl_n, if_true, if_false, not_true_eq_false, not_false_eq_true, and_self, and_false, false_and, and_true, true_and]
    by_cases y2 : e = o2 p
    · have fw : Fwo (VD D (2 ^ n - 1) sd hr) (dlt W n gb sd) p (pp c e) s = s := if_neg fun z => (dj.mp z.1).2 y2
      obtain ⟨f2, F2, T2, k2⟩ := l163i hp hpn hc hcn k (e + 1) s f C G (T.mo (by omega)) (by omega) (by omega)
      rw [fw]
      refine ⟨f2, F2, T2, fun r => ?_⟩
      rw [← k2 r]
      simp only [x163_17 (x4 := nI e), x163_19, x163_20, x163_23, x163_26, x163_27, x163_28, x163_31, x163_33, x163_34, x163_56, x163_59, kp114, rf114_5, rp114_5, al115, iA115, it115, rf114_6, rp114_6, al116, iA116, it116, rf114_7, rp114_7, al117, iA117, it117, rf114_8, rp114_8, al118, iA118, it118, rf114_9, rp114_9, al119, iA119, it119, rf114_10, rp114_10, al120, iA120, it120, rf114_16, rp114_16, al121, iA121, it121, rf114_17, rp114_17, al122, iA122, it122, rf114_18, rp114_18, al123, iA123, it123, rf114_19, rp114_19, al124, iA124, it124, rf114_20, rp114_20, al125, iA125, it125, rf114_21, rp114_21, al126, iA126, it126, rf114_22, rp114_22, al127, iA127, it127, rf114_23, rp114_23, al128, iA128, it128, rf114_27, rp114_27, al129, iA129, it129, rf114_28, rp114_28, al130, iA130, it130, rf114_29, rp114_29, al131, iA131, it131, rf114_30, rp114_30, al132, iA132, it132, rf114_31, rp114_31, al133, iA133, it133, rf114_41, rp114_41, al134, iA134, it134, rf114_42, rp114_42, al135, iA135, it135, rf114_44, rp114_44, al136, iA136, it136, rf114_45, rp114_45, al137, iA137, it137, rf114_55, rp114_55, al138, iA138, it138, rf114_56, rp114_56, al139, iA139, it139, rf114_57, rp114_57, al140, iA140, it140, rf114_58, rp114_58, al141, iA141, it141, rf114_59, rp114_59, al142, iA142, it142, rf114_60, rp114_60, al143, iA143, it143, rf114_61, rp114_61, al144, iA144, it144, rf114_62, rp114_62, al145, iA145, it145, rf114_63, rp114_63, al146, iA146, it146, rf114_64, rp114_64, al147, iA147, it147, rf114_66, rp114_66, al148, iA148, it148, rf114_67, rp114_67, al149, iA149, it149, rf114_68, rp114_68, al150, iA150, it150, rf114_69, rp114_69, al151, iA151, it151, rf114_70, rp114_70, al152, iA152, it152, c0, e1, w1, y1, w2, eq_true y2, z1, nI_add, bI_True, bI_False, nI_1, Nat.reduceLeDiff, Nat.reduceEqDiff, nb0, nb1, nbI, eq_self, ex_pr, tl_s, tl_n, if_true, if_false, not_true_eq_false, not_false_eq_true, and_self, and_false, false_and, and_true, true_and]
    by_cases y3 : GO D c e sd hr = true
    · have fw : Fwo (VD D (2 ^ n - 1) sd hr) (dlt W n gb sd) p (pp c e) s = (s.1 + 1, if s.2 < dlt W n gb sd p (pp c e) then dlt W n gb sd p (pp c e) else s.2) := if_pos ⟨dj.mpr ⟨y1, y2⟩, vd.trans y3⟩
      rw [fw]
      obtain ⟨f2, F2, T2, k2⟩ := @s162 sc f1 g h1 h2 n hr sd gb W D p (pp c e) s (21 * p + pp c e) (C.sm F1) (G.fq F1.fq) hp q.1 hpn (by rw [q.2.2]; omega) (T.sm F1) (by omega)
      rw [q.2.1, q.2.2] at k2
      obtain ⟨f3, F3, T3, k3⟩ := l163i hp hpn hc hcn k (e + 1) _ f2 ((C.sm F1).fq F2) ((G.fq F1.fq).fq F2) (T2.mo (by omega)) (by omega) (by omega)
      refine ⟨f3, F1.fq.trans (F2.trans F3), T3, fun r => ?_⟩
      rw [← k3 r]
      simp only [x163_17 (x4 := nI e), x163_19, x163_20, x163_23, x163_26, x163_27, x163_28, x163_31, x163_33, x163_34, x163_37, x163_38, x163_39, x163_41, x163_44, x163_47, x163_48, x163_49, x163_50, x163_51, x163_53, x163_56, x163_59, kp114, rf114_5, rp114_5, al115, iA115, it115, rf114_6, rp114_6, al116, iA116, it116, rf114_7, rp114_7, al117, iA117, it117, rf114_8, rp114_8, al118, iA118, it118, rf114_9, rp114_9, al119, iA119, it119, rf114_10, rp114_10, al120, iA120, it120, rf114_16, rp114_16, al121, iA121, it121, rf114_17, rp114_17, al122, iA122, it122, rf114_18, rp114_18, al123, iA123, it123, rf114_19, rp114_19, al124, iA124, it124, rf114_20, rp114_20, al125, iA125, it125, rf114_21, rp114_21, al126, iA126, it126, rf114_22, rp114_22, al127, iA127, it127, rf114_23, rp114_23, al128, iA128, it128, rf114_27, rp114_27, al129, iA129, it129, rf114_28, rp114_28, al130, iA130, it130, rf114_29, rp114_29, al131, iA131, it131, rf114_30, rp114_30, al132, iA132, it132, rf114_31, rp114_31, al133, iA133, it133, rf114_41, rp114_41, al134, iA134, it134, rf114_42, rp114_42, al135, iA135, it135, rf114_44, rp114_44, al136, iA136, it136, rf114_45, rp114_45, al137, iA137, it137, rf114_55, rp114_55, al138, iA138, it138, rf114_56, rp114_56, al139, iA139, it139, rf114_57, rp114_57, al140, iA140, it140, rf114_58, rp114_58, al141, iA141, it141, rf114_59, rp114_59, al142, iA142, it142, rf114_60, rp114_60, al143, iA143, it143, rf114_61, rp114_61, al144, iA144, it144, rf114_62, rp114_62, al145, iA145, it145, rf114_63, rp114_63, al146, iA146, it146, rf114_64, rp114_64, al147, iA147, it147, rf114_66, rp114_66, al148, iA148, it148, rf114_67, rp114_67, al149, iA149, it149, rf114_68, rp114_68, al150, iA150, it150, rf114_69, rp114_69, al151, iA151, it151, rf114_70, rp114_70, al152, iA152, it152, c0, e1, w1, y1, w2, y2, k1, bI_t y3, zi1, k2, z1, nI_add, bI_True, bI_False, nI_1, Nat.reduceLeDiff, Nat.reduceEqDiff, nb0, nb1, nbI, eq_self, ex_pr, tl_s, tl_n, if_true, if_false, not_true_eq_false, not_false_eq_true, and_self, and_false, false_and, and_true, true_and]
    · have fw : Fwo (VD D (2 ^ n - 1) sd hr) (dlt W n gb sd) p (pp c e) s = s := if_neg fun z => y3 (vd ▸ z.2)
      obtain ⟨f2, F2, T2, k2⟩ := l163i hp hpn hc hcn k (e + 1) s f1 (C.sm F1) (G.fq F1.fq) ((T.sm F1).mo (by omega)) (by omega) (by omega)
      rw [fw]
      refine ⟨f2, F1.fq.trans F2, T2, fun r => ?_⟩
      rw [← k2 r]
      simp only [x163_17 (x4 := nI e), x163_19, x163_20, x163_23, x163_26, x163_27, x163_28, x163_31, x163_33, x163_34, x163_37, x163_38, x163_39, x163_41, x163_44, x163_56, x163_59, kp114, rf114_5, rp114_5, al115, iA115, it115, rf114_6, rp114_6, al116, iA116, it116, rf114_7, rp114_7, al117, iA117, it117, rf114_8, rp114_8, al118, iA118, it118, rf114_9, rp114_9, al119, iA119, it119, rf114_10, rp114_10, al120, iA120, it120, rf114_16, rp114_16, al121, iA121, it121, rf114_17, rp114_17, al122, iA122, it122, rf114_18, rp114_18, al123, iA123, it123, rf114_19, rp114_19, al124, iA124, it124, rf114_20, rp114_20, al125, iA125, it125, rf114_21, rp114_21, al126, iA126, it126, rf114_22, rp114_22, al127, iA127, it127, rf114_23, rp114_23, al128, iA128, it128, rf114_27, rp114_27, al129, iA129, it129, rf114_28, rp114_28, al130, iA130, it130, rf114_29, rp114_29, al131, iA131, it131, rf114_30, rp114_30, al132, iA132, it132, rf114_31, rp114_31, al133, iA133, it133, rf114_41, rp114_41, al134, iA134, it134, rf114_42, rp114_42, al135, iA135, it135, rf114_44, rp114_44, al136, iA136, it136, rf114_45, rp114_45, al137, iA137, it137, rf114_55, rp114_55, al138, iA138, it138, rf114_56, rp114_56, al139, iA139, it139, rf114_57, rp114_57, al140, iA140, it140, rf114_58, rp114_58, al141, iA141, it141, rf114_59, rp114_59, al142, iA142, it142, rf114_60, rp114_60, al143, iA143, it143, rf114_61, rp114_61, al144, iA144, it144, rf114_62, rp114_62, al145, iA145, it145, rf114_63, rp114_63, al146, iA146, it146, rf114_64, rp114_64, al147, iA147, it147, rf114_66, rp114_66, al148, iA148, it148, rf114_67, rp114_67, al149, iA149, it149, rf114_68, rp114_68, al150, iA150, it150, rf114_69, rp114_69, al151, iA151, it151, rf114_70, rp114_70, al152, iA152, it152, c0, e1, w1, y1, w2, y2, k1, bI_f y3, z1, nI_add, bI_True, bI_False, nI_1, Nat.reduceLeDiff, Nat.reduceEqDiff, nb0, nb1, nbI, eq_self, ex_pr, tl_s, tl_n, if_true, if_false, not_true_eq_false, not_false_eq_true, and_self, and_false, false_and, and_true, true_and]
theorem l163o {p : Nat} (hp : p < 21) (hpn : o2 p < n) : ∀ (k c : Nat) (s : Nat × Int) (f : Nat → Nat → Int32) (v4 : Value), MY f D n sd hr 7 → GM f W gb n → TW f s (21 * p + off c) → c + k = n → o1 p < c → ∃ f', Fq f f' ∧ TW f' (lp (Fwo (VD D (2 ^ n - 1) sd hr) (dlt W n gb sd) p) (21 - off c) (off c) s) (21 * p + 21) ∧ ∀ r, (Rn sc (d + 7) 163 4 [.ref (114 : Nat), .int (nI (o1 p)), .int (nI (o2 p)), .int (nI c), v4] [] (cS f g h1 h2) r ↔ r = (cS f' g h1 h2, none))
  | 0, c, s, f, v4, C, G, T, h, hc => by
    have n7 := C.2.1
    have c0 := C.2.2.1
    have ee : c = n := h
    subst ee
    have e1 : ¬ nI c < nI c := Int32.lt_irrefl
    have ol := off_le c (by omega)
    have i : lp (Fwo (VD D (2 ^ c - 1) sd hr) (dlt W c gb sd) p) (21 - off c) (off c) s = s := lp_id _ _ _ fun q a b s => by
      have q1 := off_o c (by omega) q (by omega) a
      have q2 := o12 q (by omega)
      unfold Fwo
      rw [if_neg]
      intro z
      rw [VD_n (pr := 2 ^ c - 1) (n := c) (by have := Nat.two_pow_pos c; omega) (by omega)] at z
      exact Bool.false_ne_true z.2
    rw [i]
    refine ⟨f, Fq.refl, T.mo (by omega), fun r => ?_⟩
    simp only [x163_4 (x3 := nI c), x163_5, x163_6, x163_9, x163_68, kp114, rf114_5, rp114_5, al115, iA115, it115, rf114_6, rp114_6, al116, iA116, it116, rf114_7, rp114_7, al117, iA117, it117, rf114_8, rp114_8, al118, iA118, it118, rf114_9, rp114_9, al119, iA119, it119, rf114_10, rp114_10, al120, iA120, it120, rf114_16, rp114_16, al121, iA121, it121, rf114_17, rp114_17, al122, iA122, it122, rf114_18, rp114_18, al123, iA123, it123, rf114_19, rp114_19, al124, iA124, it124, rf114_20, rp114_20, al125, iA125, it125, rf114_21, rp114_21, al126, iA126, it126, rf114_22, rp114_22, al127, iA127, it127, rf114_23, rp114_23, al128, iA128, it128, rf114_27, rp114_27, al129, iA129, it129, rf114_28, rp114_28, al130, iA130, it130, rf114_29, rp114_29, al131, iA131, it131, rf114_30, rp114_30, al132, iA132, it132, rf114_31, rp114_31, al133, iA133, it133, rf114_41, rp114_41, al134, iA134, it134, rf114_42, rp114_42, al135, iA135, it135, rf114_44, rp114_44, al136, iA136, it136, rf114_45, rp114_45, al137, iA137, it137, rf114_55, rp114_55, al138, iA138, it138, rf114_56, rp114_56, al139, iA139, it139, rf114_57, rp114_57, al140, iA140, it140, rf114_58, rp114_58, al141, iA141, it141, rf114_59, rp114_59, al142, iA142, it142, rf114_60, rp114_60, al143, iA143, it143, rf114_61, rp114_61, al144, iA144, it144, rf114_62, rp114_62, al145, iA145, it145, rf114_63, rp114_63, al146, iA146, it146, rf114_64, rp114_64, al147, iA147, it147, rf114_66, rp114_66, al148, iA148, it148, rf114_67, rp114_67, al149, iA149, it149, rf114_68, rp114_68, al150, iA150, it150, rf114_69, rp114_69, al151, iA151, it151, rf114_70, rp114_70, al152, iA152, it152, c0, e1, bI_True, bI_False, nI_1, Nat.reduceLeDiff, Nat.reduceEqDiff, nb0, nb1, nbI, eq_self, ex_pr, tl_s, tl_n, if_true, if_false, not_true_eq_false, not_false_eq_true, and_self, and_false, false_and, and_true, true_and]
  | k + 1, c, s, f, v4, C, G, T, h, hc => by
    have n7 := C.2.1
    have c0 := C.2.2.1
    have e1 : nI c < nI n := nI_lt (by omega) (by omega)
    have pf := pp_f c (by omega)
    have T' := T
    rw [← pf.1] at T'
    obtain ⟨f1, F1, T1, k1⟩ := @l163i sc d g h1 h2 n hr sd gb W D p c hp hpn hc (by omega) (n - (c + 1)) (c + 1) s f C G T' (by omega) (by omega)
    rw [pf.1] at T1
    obtain ⟨f2, F2, T2, k2⟩ := l163o hp hpn k (c + 1) _ f1 (.int (nI n)) (C.fq F1) (G.fq F1) T1 (by omega) (by omega)
    have st : lp (Fwo (VD D (2 ^ n - 1) sd hr) (dlt W n gb sd) p) (21 - off c) (off c) s = lp (Fwo (VD D (2 ^ n - 1) sd hr) (dlt W n gb sd) p) (21 - off (c + 1)) (off (c + 1)) (lp (Fwo (VD D (2 ^ n - 1) sd hr) (dlt W n gb sd) p) (off (c + 1) - off c) (off c) s) := by
      rw [show 21 - off c = (off (c + 1) - off c) + (21 - off (c + 1)) by omega, lp_add, show off c + (off (c + 1) - off c) = off (c + 1) by omega]
    rw [st]
    refine ⟨f2, F1.trans F2, T2, fun r => ?_⟩
    rw [← k2 r]
    simp only [x163_4 (x3 := nI c), x163_5, x163_6, x163_9, x163_12, x163_13, x163_14, x163_15, x163_62, x163_65, kp114, rf114_5, rp114_5, al115, iA115, it115, rf114_6, rp114_6, al116, iA116, it116, rf114_7, rp114_7, al117, iA117, it117, rf114_8, rp114_8, al118, iA118, it118, rf114_9, rp114_9, al119, iA119, it119, rf114_10, rp114_10, al120, iA120, it120, rf114_16, rp114_16, al121, iA121, it121, rf114_17, rp114_17, al122, iA122, it122, rf114_18, rp114_18, al123, iA123, it123, rf114_19, rp114_19, al124, iA124, it124, rf114_20, rp114_20, al125, iA125, it125, rf114_21, rp114_21, al126, iA126, it126, rf114_22, rp114_22, al127, iA127, it127, rf114_23, rp114_23, al128, iA128, it128, rf114_27, rp114_27, al129, iA129, it129, rf114_28, rp114_28, al130, iA130, it130, rf114_29, rp114_29, al131, iA131, it131, rf114_30, rp114_30, al132, iA132, it132, rf114_31, rp114_31, al133, iA133, it133, rf114_41, rp114_41, al134, iA134, it134, rf114_42, rp114_42, al135, iA135, it135, rf114_44, rp114_44, al136, iA136, it136, rf114_45, rp114_45, al137, iA137, it137, rf114_55, rp114_55, al138, iA138, it138, rf114_56, rp114_56, al139, iA139, it139, rf114_57, rp114_57, al140, iA140, it140, rf114_58, rp114_58, al141, iA141, it141, rf114_59, rp114_59, al142, iA142, it142, rf114_60, rp114_60, al143, iA143, it143, rf114_61, rp114_61, al144, iA144, it144, rf114_62, rp114_62, al145, iA145, it145, rf114_63, rp114_63, al146, iA146, it146, rf114_64, rp114_64, al147, iA147, it147, rf114_66, rp114_66, al148, iA148, it148, rf114_67, rp114_67, al149, iA149, it149, rf114_68, rp114_68, al150, iA150, it150, rf114_69, rp114_69, al151, iA151, it151, rf114_70, rp114_70, al152, iA152, it152, c0, e1, nI_1, if_true, k1, bI_True, bI_False, nI_1, Nat.reduceLeDiff, Nat.reduceEqDiff, nb0, nb1, nbI, eq_self, ex_pr, tl_s, tl_n, if_true, if_false, not_true_eq_false, not_false_eq_true, and_self, and_false, false_and, and_true, true_and]
theorem s163 {p : Nat} {s : Nat × Int} (C : MY f D n sd hr 7) (G : GM f W gb n) (hp : p < 21) (hpn : o2 p < n) (T : TW f s (21 * p)) (hG : GO D (o1 p) (o2 p) sd hr = true) : ∃ f', Fq f f' ∧ TW f' (Two2 (VD D (2 ^ n - 1) sd hr) (dlt W n gb sd) p s) (21 * (p + 1)) ∧ ∀ r, Cl sc (d + 8) 163 [.ref (114 : Nat), .int (nI (o1 p)), .int (nI (o2 p))] (cS f g h1 h2) r ↔ r = (cS f' g h1 h2, none) := by
  have n7 := C.2.1
  have op := o12 p hp
  have pf := pp_f (o1 p) (by omega)
  have pl := pp_l (o1 p) (by omega) (o2 p) (by omega) op.1
  rw [pp_r p hp] at pl
  obtain ⟨f1, F1, T1, k1⟩ := @l163o sc d g h1 h2 n hr sd gb W D p hp hpn (n - (o1 p + 1)) (o1 p + 1) s f mk0 C G (T.mo (by omega)) (by omega) (by omega)
  have st : Two2 (VD D (2 ^ n - 1) sd hr) (dlt W n gb sd) p s = lp (Fwo (VD D (2 ^ n - 1) sd hr) (dlt W n gb sd) p) (21 - off (o1 p + 1)) (off (o1 p + 1)) s := by
    unfold Two2
    rw [if_pos ((VD_all hp hpn).trans hG), show 20 - p = (off (o1 p + 1) - (p + 1)) + (21 - off (o1 p + 1)) by omega, lp_add, show p + 1 + (off (o1 p + 1) - (p + 1)) = off (o1 p + 1) by omega]
    congr 1
    refine lp_id _ _ _ fun q a b s => if_neg fun z => ?_
    exact dj_s p hp q (by omega) ⟨by omega, by omega⟩ z.1
  rw [st]
  refine ⟨f1, F1, T1.mo (by omega), fun r => ?_⟩
  simp only [c163, x163_0, x163_1, x163_2, x163_3, nI_1, nI_add, k1, bI_True, bI_False, nI_1, Nat.reduceLeDiff, Nat.reduceEqDiff, nb0, nb1, nbI, eq_self, ex_pr, tl_s, tl_n, if_true, if_false, not_true_eq_false, not_false_eq_true, and_self, and_false, false_and, and_true, true_and]
theorem l164i {a : Nat} {z : Int32} (ha : a < n) : ∀ (k b : Nat) (s : Nat × Int) (f : Nat → Nat → Int32), MY f D n sd hr 7 → GM f W gb n → TW f s (21 * pp a b) → b + k = n → a < b → ∃ f', Fq f f' ∧ TW f' (lp (Two2 (VD D (2 ^ n - 1) sd hr) (dlt W n gb sd)) (off (a + 1) - pp a b) (pp a b) s) (21 * off (a + 1)) ∧ ∀ r, (Rn sc (d + 9) 164 33 [.ref (114 : Nat), .int z, .int (nI a), .int (nI b)] [] (cS f g h1 h2) r ↔ Rn sc (d + 9) 164 62 [.ref (114 : Nat), .int z, .int (nI a), .int (nI n)] [] (cS f' g h1 h2) r)
  | 0, b, s, f, C, G, T, h, hb => by
    have n7 := C.2.1
    have c0 := C.2.2.1
    have ee : b = n := h
    subst ee
    have e1 : ¬ nI b < nI b := Int32.lt_irrefl
    have pl := pp_f a (by omega)
    have i : lp (Two2 (VD D (2 ^ b - 1) sd hr) (dlt W b gb sd)) (off (a + 1) - pp a b) (pp a b) s = s := lp_id _ _ _ fun q x y s => by
      have q1 := pp_n a (by omega) b (by omega) q (by omega) ⟨ha, x, by omega⟩
      unfold Two2
      rw [if_neg]
      intro z
      rw [VD_n (pr := 2 ^ b - 1) (by have := Nat.two_pow_pos b; omega) q1] at z
      exact Bool.false_ne_true z
    rw [i]
    refine ⟨f, Fq.refl, T.mo ?_, fun r => ?_⟩
    · have := pp_s a (by omega) (b - 1) (by omega)
      by_cases z : a < b - 1
      · have := (this z).2
        rw [show b - 1 + 1 = b by omega] at this
        omega
      · rw [show b = a + 1 by omega, pl.1]
        omega
    · simp only [x164_33 (x3 := nI b), x164_34, x164_35, x164_38, kp114, rf114_5, rp114_5, al115, iA115, it115, rf114_6, rp114_6, al116, iA116, it116, rf114_7, rp114_7, al117, iA117, it117, rf114_8, rp114_8, al118, iA118, it118, rf114_9, rp114_9, al119, iA119, it119, rf114_10, rp114_10, al120, iA120, it120, rf114_16, rp114_16, al121, iA121, it121, rf114_17, rp114_17, al122, iA122, it122, rf114_18, rp114_18, al123, iA123, it123, rf114_19, rp114_19, al124, iA124, it124, rf114_20, rp114_20, al125, iA125, it125, rf114_21, rp114_21, al126, iA126, it126, rf114_22, rp114_22, al127, iA127, it127, rf114_23, rp114_23, al128, iA128, it128, rf114_27, rp114_27, al129, iA129, it129, rf114_28, rp114_28, al130, iA130, it130, rf114_29, rp114_29, al131, iA131, it131, rf114_30, rp114_30, al132, iA132, it132, rf114_31, rp114_31, al133, iA133, it133, rf114_41, rp114_41, al134, iA134, it134, rf114_42, rp114_42, al135, iA135, it135, rf114_44, rp114_44, al136, iA136, it136, rf114_45, rp114_45, al137, iA137, it137, rf114_55, rp114_55, al138, iA138, it138, rf114_56, rp114_56, al139, iA139, it139, rf114_57, rp114_57, al140, iA140, it140, rf114_58, rp114_58, al141, iA141, it141, rf114_59, rp114_59, al142, iA142, it142, rf114_60, rp114_60, al143, iA143, it143, rf114_61, rp114_61, al144, iA144, it144, rf114_62, rp114_62, al145, iA145, it145, rf114_63, rp114_63, al146, iA146, it146, rf114_64, rp114_64, al147, iA147, it147, rf114_66, rp114_66, al148, iA148, it148, rf114_67, rp114_67, al149, iA149, it149, rf114_68, rp114_68, al150, iA150, it150, rf114_69, rp114_69, al151, iA151, it151, rf114_70, rp114_70, al152, iA152, it152, c0, e1, bI_True, bI_False, nI_1, Nat.reduceLeDiff, Nat.reduceEqDiff, nb0, nb1, nbI, eq_self, ex_pr, tl_s, tl_n, if_true, if_false, not_true_eq_false, not_false_eq_true, and_self, and_false, false_and, and_true, true_and]
  | k + 1, b, s, f, C, G, T, h, hb => by
    have n7 := C.2.1
    have c0 := C.2.2.1
    have e1 : nI b < nI n := nI_lt (by omega) (by omega)
    have q := pp_o a (by omega) b (by omega) hb
    have ps := pp_s a (by omega) b (by omega) hb
    have pl := pp_l a (by omega) b (by omega) hb
    obtain ⟨f1, F1, k1⟩ := @mgo7 sc f g h1 h2 n hr sd D a b C ha (by omega) (d + 3)
    have vd := @VD_all D n sd hr (pp a b) q.1 (by rw [q.2.2]; omega)
    rw [q.2.1, q.2.2] at vd
    have st : lp (Two2 (VD D (2 ^ n - 1) sd hr) (dlt W n gb sd)) (off (a + 1) - pp a b) (pp a b) s = lp (Two2 (VD D (2 ^ n - 1) sd hr) (dlt W n gb sd)) (off (a + 1) - pp a (b + 1)) (pp a (b + 1)) (Two2 (VD D (2 ^ n - 1) sd hr) (dlt W n gb sd) (pp a b) s) := by
      rw [show off (a + 1) - pp a b = (off (a + 1) - pp a (b + 1)) + 1 by omega, ← ps.1]
      rfl
    rw [st]
    by_cases y3 : GO D a b sd hr = true
    · obtain ⟨f2, F2, T2, k2⟩ := @s163 sc (d + 1) f1 g h1 h2 n hr sd gb W D (pp a b) s (C.sm F1) (G.fq F1.fq) q.1 (by rw [q.2.2]; omega) (T.sm F1) (by rw [q.2.1, q.2.2]; exact y3)
      rw [q.2.1, q.2.2] at k2
      obtain ⟨f3, F3, T3, k3⟩ := l164i ha k (b + 1) _ f2 ((C.sm F1).fq F2) ((G.fq F1.fq).fq F2) (T2.mo (by omega)) (by omega) (by omega)
      refine ⟨f3, F1.fq.trans (F2.trans F3), T3, fun r => ?_⟩
      rw [← k3 r]
      simp only [x164_33 (x3 := nI b), x164_34, x164_35, x164_38, x164_41, x164_42, x164_43, x164_44, x164_47, x164_50, x164_51, x164_52, x164_53, x164_56, x164_59, kp114, rf114_5, rp114_5, al115, iA115, it115, rf114_6, rp114_6, al116, iA116, it116, rf114_7, rp114_7, al117, iA117, it117, rf114_8, rp114_8, al118, iA118, it118, rf114_9, rp114_9, al119, iA119, it119, rf114_10, rp114_10, al120, iA120, it120, rf114_16, rp114_16, al121, iA121, it121, rf114_17, rp114_17, al122, iA122, it122, rf114_18, rp114_18, al123, iA123, it123, rf114_19, rp114_19, al124, iA124, it124, rf114_20, rp114_20, al125, iA125, it125, rf114_21, rp114_21, al126, iA126, it126, rf114_22, rp114_22, al127, iA127, it127, rf114_23, rp114_23, al128, iA128, it128, rf114_27, rp114_27, al129, iA129, it129, rf114_28, rp114_28, al130, iA130, it130, rf114_29, rp114_29, al131, iA131, it131, rf114_30, rp114_30, al132, iA132, it132, rf114_31, rp114_31, al133, iA133, it133, rf114_41, rp114_41, al134, iA134, it134, rf114_42, rp114_42, al135, iA135, it135, rf114_44, rp114_44, al136, iA136, it136, rf114_45, rp114_45, al137, iA137, it137, rf114_55, rp114_55, al138, iA138, it138, rf114_56, rp114_56, al139, iA139, it139, rf114_57, rp114_57, al140, iA140, it140, rf114_58, rp114_58, al141, iA141, it141, rf114_59, rp114_59, al142, iA142, it142, rf114_60, rp114_60, al143, iA143, it143, rf114_61, rp114_61, al144, iA144, it144, rf114_62, rp114_62, al145, iA145, it145, rf114_63, rp114_63, al146, iA146, it146, rf114_64, rp114_64, al147, iA147, it147, rf114_66, rp114_66, al148, iA148, it148, rf114_67, rp114_67, al149, iA149, it149, rf114_68, rp114_68, al150, iA150, it150, rf114_69, rp114_69, al151, iA151, it151, rf114_70, rp114_70, al152, iA152, it152, c0, e1, k1, bI_t y3, zi1, k2, nI_add, bI_True, bI_False, nI_1, Nat.reduceLeDiff, Nat.reduceEqDiff, nb0, nb1, nbI, eq_self, ex_pr, tl_s, tl_n, if_true, if_false, not_true_eq_false, not_false_eq_true, and_self, and_false, false_and, and_true, true_and]
    · have fw : Two2 (VD D (2 ^ n - 1) sd hr) (dlt W n gb sd) (pp a b) s = s := if_neg fun z => y3 (vd ▸ z)
      obtain ⟨f2, F2, T2, k2⟩ := l164i ha k (b + 1) s f1 (C.sm F1) (G.fq F1.fq) ((T.sm F1).mo (by omega)) (by omega) (by omega)
      rw [fw]
      refine ⟨f2, F1.fq.trans F2, T2, fun r => ?_⟩
      rw [← k2 r]
      simp only [x164_33 (x3 := nI b), x164_34, x164_35, x164_38, x164_41, x164_42, x164_43, x164_44, x164_47, x164_56, x164_59, kp114, rf114_5, rp114_5, al115, iA115, it115, rf114_6, rp114_6, al116, iA116, it116, rf114_7, rp114_7, al117, iA117, it117, rf114_8, rp114_8, al118, iA118, it118, rf114_9, rp114_9, al119, iA119, it119, rf114_10, rp114_10, al120, iA120, it120, rf114_16, rp114_16, al121, iA121, it121, rf114_17, rp114_17, al122, iA122, it122, rf114_18, rp114_18, al123, iA123, it123, rf114_19, rp114_19, al124, iA124, it124, rf114_20, rp114_20, al125, iA125, it125, rf114_21, rp114_21, al126, iA126, it126, rf114_22, rp114_22, al127, iA127, it127, rf114_23, rp114_23, al128, iA128, it128, rf114_27, rp114_27, al129, iA129, it129, rf114_28, rp114_28, al130, iA130, it130, rf114_29, rp114_29, al131, iA131, it131, rf114_30, rp114_30, al132, iA132, it132, rf114_31, rp114_31, al133, iA133, it133, rf114_41, rp114_41, al134, iA134, it134, rf114_42, rp114_42, al135, iA135, it135, rf114_44, rp114_44, al136, iA136, it136, rf114_45, rp114_45, al137, iA137, it137, rf114_55, rp114_55, al138, iA138, it138, rf114_56, rp114_56, al139, iA139, it139, rf114_57, rp114_57, al140, iA140, it140, rf114_58, rp114_58, al141, iA141, it141, rf114_59, rp114_59, al142, iA142, it142, rf114_60, rp114_60, al143, iA143, it143, rf114_61, rp114_61, al144, iA144, it144, rf114_62, rp114_62, al145, iA145, it145, rf114_63, rp114_63, al146, iA146, it146, rf114_64, rp114_64, al147, iA147, it147, rf114_66, rp114_66, al148, iA148, it148, rf114_67, rp114_67, al149, iA149, it149, rf114_68, rp114_68, al150, iA150, it150, rf114_69, rp114_69, al151, iA151, it151, rf114_70, rp114_70, al152, iA152, it152, c0, e1, k1, bI_f y3, nI_add, bI_True, bI_False, nI_1, Nat.reduceLeDiff, Nat.reduceEqDiff, nb0, nb1, nbI, eq_self, ex_pr, tl_s, tl_n, if_true, if_false, not_true_eq_false, not_false_eq_true, and_self, and_false, false_and, and_true, true_and]
theorem l164o {z : Int32} : ∀ (k a : Nat) (s : Nat × Int) (f : Nat → Nat → Int32) (v3 : Value), MY f D n sd hr 7 → GM f W gb n → TW f s (21 * off a) → a + k = n → ∃ f' w3, Fq f f' ∧ TW f' (lp (Two2 (VD D (2 ^ n - 1) sd hr) (dlt W n gb sd)) (21 - off a) (off a) s) 441 ∧ ∀ r, (Rn sc (d + 9) 164 21 [.ref (114 : Nat), .int z, .int (nI a), v3] [] (cS f g h1 h2) r ↔ Rn sc (d + 9) 164 68 [.ref (114 : Nat), .int z, .int (nI n), w3] [] (cS f' g h1 h2) r)
  | 0, a, s, f, v3, C, G, T, h => by
    have n7 := C.2.1
    have c0 := C.2.2.1
    have ee : a = n := h
    subst ee
    have e1 : ¬ nI a < nI a := Int32.lt_irrefl
    have ol := off_le a (by omega)
    have i : lp (Two2 (VD D (2 ^ a - 1) sd hr) (dlt W a gb sd)) (21 - off a) (off a) s = s := lp_id _ _ _ fun q x y s => by
      have q1 := off_o a (by omega) q (by omega) x
      have q2 := o12 q (by omega)
      unfold Two2
      rw [if_neg]
      intro z
      rw [VD_n (pr := 2 ^ a - 1) (n := a) (by have := Nat.two_pow_pos a; omega) (by omega)] at z
      exact Bool.false_ne_true z
    rw [i]
    refine ⟨f, v3, Fq.refl, T.mo (by omega), fun r => ?_⟩
    simp only [x164_21 (x2 := nI a), x164_22, x164_23, x164_26, kp114, rf114_5, rp114_5, al115, iA115, it115, rf114_6, rp114_6, al116, iA116, it116, rf114_7, rp114_7, al117, iA117, it117, rf114_8, rp114_8, al118, iA118, it118, rf114_9, rp114_9, al119, iA119, it119, rf114_10, rp114_10, al120, iA120, it120, rf114_16, rp114_16, al121, iA121, it121, rf114_17, rp114_17, al122, iA122, it122, rf114_18, rp114_18, al123, iA123, it123, rf114_19, rp114_19, al124, iA124, it124, rf114_20, rp114_20, al125, iA125, it125, rf114_21, rp114_21, al126, iA126, it126, rf114_22, rp114_22, al127, iA127, it127, rf114_23, rp114_23, al128, iA128, it128, rf114_27, rp114_27, al129, iA129, it129, rf114_28, rp114_28, al130, iA130, it130, rf114_29, rp114_29, al131, iA131, it131, rf114_30, rp114_30, al132, iA132, it132, rf114_31, rp114_31, al133, iA133, it133, rf114_41, rp114_41, al134, iA134, it134, rf114_42, rp114_42, al135, iA135, it135, rf114_44, rp114_44, al136, iA136, it136, rf114_45, rp114_45, al137, iA137, it137, rf114_55, rp114_55, al138, iA138, it138, rf114_56, rp114_56, al139, iA139, it139, rf114_57, rp114_57, al140, iA140, it140, rf114_58, rp114_58, al141, iA141, it141, rf114_59, rp114_59, al142, iA142, it142, rf114_60, rp114_60, al143, iA143, it143, rf114_61, rp114_61, al144, iA144, it144, rf114_62, rp114_62, al145, iA145, it145, rf114_63, rp114_63, al146, iA146, it146, rf114_64, rp114_64, al147, iA147, it147, rf114_66, rp114_66, al148, iA148, it148, rf114_67, rp114_67, al149, iA149, it149, rf114_68, rp114_68, al150, iA150, it150, rf114_69, rp114_69, al151, iA151, it151, rf114_70, rp114_70, al152, iA152, it152, c0, e1, bI_True, bI_False, nI_1, Nat.reduceLeDiff, Nat.reduceEqDiff, nb0, nb1, nbI, eq_self, ex_pr, tl_s, tl_n, if_true, if_false, not_true_eq_false, not_false_eq_true, and_self, and_false, false_and, and_true, true_and]
  | k + 1, a, s, f, v3, C, G, T, h => by
    have n7 := C.2.1
    have c0 := C.2.2.1
    have e1 : nI a < nI n := nI_lt (by omega) (by omega)
    have pf := pp_f a (by omega)
    have T' := T
    rw [← pf.1] at T'
    obtain ⟨f1, F1, T1, k1⟩ := @l164i sc d g h1 h2 n hr sd gb W D a z (by omega) (n - (a + 1)) (a + 1) s f C G T' (by omega) (by omega)
    rw [pf.1] at T1
    obtain ⟨f2, w3, F2, T2, k2⟩ := l164o (z := z) k (a + 1) _ f1 (.int (nI n)) (C.fq F1) (G.fq F1) T1 (by omega)
    have st : lp (Two2 (VD D (2 ^ n - 1) sd hr) (dlt W n gb sd)) (21 - off a) (off a) s = lp (Two2 (VD D (2 ^ n - 1) sd hr) (dlt W n gb sd)) (21 - off (a + 1)) (off (a + 1)) (lp (Two2 (VD D (2 ^ n - 1) sd hr) (dlt W n gb sd)) (off (a + 1) - off a) (off a) s) := by
      rw [show 21 - off a = (off (a + 1) - off a) + (21 - off (a + 1)) by omega, lp_add, show off a + (off (a + 1) - off a) = off (a + 1) by omega]
    rw [st]
    refine ⟨f2, w3, F1.trans F2, T2, fun r => ?_⟩
    rw [← k2 r]
    simp only [x164_21 (x2 := nI a), x164_22, x164_23, x164_26, x164_29, x164_30, x164_31, x164_32, x164_62, x164_65, kp114, rf114_5, rp114_5, al115, iA115, it115, rf114_6, rp114_6, al116, iA116, it116, rf114_7, rp114_7, al117, iA117, it117, rf114_8, rp114_8, al118, iA118, it118, rf114_9, rp114_9, al119, iA119, it119, rf114_10, rp114_10, al120, iA120, it120, rf114_16, rp114_16, al121, iA121, it121, rf114_17, rp114_17, al122, iA122, it122, rf114_18, rp114_18, al123, iA123, it123, rf114_19, rp114_19, al124, iA124, it124, rf114_20, rp114_20, al125, iA125, it125, rf114_21, rp114_21, al126, iA126, it126, rf114_22, rp114_22, al127, iA127, it127, rf114_23, rp114_23, al128, iA128, it128, rf114_27, rp114_27, al129, iA129, it129, rf114_28, rp114_28, al130, iA130, it130, rf114_29, rp114_29, al131, iA131, it131, rf114_30, rp114_30, al132, iA132, it132, rf114_31, rp114_31, al133, iA133, it133, rf114_41, rp114_41, al134, iA134, it134, rf114_42, rp114_42, al135, iA135, it135, rf114_44, rp114_44, al136, iA136, it136, rf114_45, rp114_45, al137, iA137, it137, rf114_55, rp114_55, al138, iA138, it138, rf114_56, rp114_56, al139, iA139, it139, rf114_57, rp114_57, al140, iA140, it140, rf114_58, rp114_58, al141, iA141, it141, rf114_59, rp114_59, al142, iA142, it142, rf114_60, rp114_60, al143, iA143, it143, rf114_61, rp114_61, al144, iA144, it144, rf114_62, rp114_62, al145, iA145, it145, rf114_63, rp114_63, al146, iA146, it146, rf114_64, rp114_64, al147, iA147, it147, rf114_66, rp114_66, al148, iA148, it148, rf114_67, rp114_67, al149, iA149, it149, rf114_68, rp114_68, al150, iA150, it150, rf114_69, rp114_69, al151, iA151, it151, rf114_70, rp114_70, al152, iA152, it152, c0, e1, nI_1, if_true, k1, bI_True, bI_False, nI_1, Nat.reduceLeDiff, Nat.reduceEqDiff, nb0, nb1, nbI, eq_self, ex_pr, tl_s, tl_n, if_true, if_false, not_true_eq_false, not_false_eq_true, and_self, and_false, false_and, and_true, true_and]
theorem XP.gm (X : XP f g h1 h2 n hr wn dk sd gb pc bc W D hc HS) : GM f W gb n := fun s hs => ⟨(X.d.sm s hs).2.2.2.1, (X.d.sm s hs).2.2.2.2, (X.d.sl s hs).2.2.2.2⟩
theorem two_m (X : XP f g h1 h2 n hr wn dk sd gb pc bc W D hc HS) (x0 : Int32) (a0 : ¬ x0 < 0 ∧ ¬ 1 < x0) : QC sc (d + 30) 164 114 [.int x0] f g h1 h2 (.int (if x0 = 0 then nI (TwP (VD D (2 ^ n - 1) sd hr) (dlt W n gb sd)).1 else iI (TwP (VD D (2 ^ n - 1) sd hr) (dlt W n gb sd)).2)) := by
  obtain ⟨f', w3, F, T, k⟩ := @l164o sc (d + 20) g h1 h2 n hr sd gb W D x0 n 0 (0, -1001) (u2 f 114 38 (nI 0)) mk0 (X.my.fq (Fq.u (by unfold scq; omega))) (X.gm.fq (Fq.u (by unfold scq; omega))) ⟨u2_ss, Or.inl ⟨rfl, rfl⟩, ⟨by decide, by decide⟩, Nat.zero_le _⟩ (Nat.zero_add _)
  rw [lt0] at k
  have T' : TW f' (TwP (VD D (2 ^ n - 1) sd hr) (dlt W n gb sd)) 441 := T
  obtain ⟨t1, t2, t3, t4⟩ := T'
  refine ⟨f', (Fq.u (x := nI 0) (q := 114) (k := 38) (by unfold scq; omega)).trans F, ?_⟩
  by_cases w : x0 = 0
  · subst w
    rw [if_pos rfl]
    simp only [c164, x164_0, x164_1, x164_2, x164_3, x164_4, x164_7, x164_10, x164_13, x164_14, x164_15, x164_16, x164_19, x164_20, x164_22, x164_23, x164_26, x164_29, x164_30, x164_31, x164_32, x164_34, x164_35, x164_38, x164_41, x164_42, x164_43, x164_44, x164_47, x164_50, x164_51, x164_52, x164_53, x164_56, x164_59, x164_62, x164_65, x164_68, x164_69, x164_72, x164_73, x164_76, x164_79, x164_80, x164_83, x164_86, x164_89, x164_92, x164_93, x164_96, kp114, rf114_5, rp114_5, al115, iA115, it115, rf114_6, rp114_6, al116, iA116, it116, rf114_7, rp114_7, al117, iA117, it117, rf114_8, rp114_8, al118, iA118, it118, rf114_9, rp114_9, al119, iA119, it119, rf114_10, rp114_10, al120, iA120, it120, rf114_16, rp114_16, al121, iA121, it121, rf114_17, rp114_17, al122, iA122, it122, rf114_18, rp114_18, al123, iA123, it123, rf114_19, rp114_19, al124, iA124, it124, rf114_20, rp114_20, al125, iA125, it125, rf114_21, rp114_21, al126, iA126, it126, rf114_22, rp114_22, al127, iA127, it127, rf114_23, rp114_23, al128, iA128, it128, rf114_27, rp114_27, al129, iA129, it129, rf114_28, rp114_28, al130, iA130, it130, rf114_29, rp114_29, al131, iA131, it131, rf114_30, rp114_30, al132, iA132, it132, rf114_31, rp114_31, al133, iA133, it133, rf114_41, rp114_41, al134, iA134, it134, rf114_42, rp114_42, al135, iA135, it135, rf114_44, rp114_44, al136, iA136, it136, rf114_45, rp114_45, al137, iA137, it137, rf114_55, rp114_55, al138, iA138, it138, rf114_56, rp114_56, al139, iA139, it139, rf114_57, rp114_57, al140, iA140, it140, rf114_58, rp114_58, al141, iA141, it141, rf114_59, rp114_59, al142, iA142, it142, rf114_60, rp114_60, al143, iA143, it143, rf114_61, rp114_61, al144, iA144, it144, rf114_62, rp114_62, al145, iA145, it145, rf114_63, rp114_63, al146, iA146, it146, rf114_64, rp114_64, al147, iA147, it147, rf114_66, rp114_66, al148, iA148, it148, rf114_67, rp114_67, al149, iA149, it149, rf114_68, rp114_68, al150, iA150, it150, rf114_69, rp114_69, al151, iA151, it151, rf114_70, rp114_70, al152, iA152, it152, s108, bI_t a0, zi1, k, t1, bI_True, bI_False, nI_1, Nat.reduceLeDiff, Nat.reduceEqDiff, nb0, nb1, nbI, eq_self, ex_pr, tl_s, tl_n, if_true, if_false, not_true_eq_false, not_false_eq_true, and_self, and_false, false_and, and_true, true_and]
  · rw [if_neg w]
    rcases t2 with ⟨s0, s1⟩ | ⟨s0, s1⟩
    · have z2 : nI (TwP (VD D (2 ^ n - 1) sd hr) (dlt W n gb sd)).1 = 0 := by rw [s0]; rfl
      have z3 : iI (TwP (VD D (2 ^ n - 1) sd hr) (dlt W n gb sd)).2 = -1001 := by rw [s1]; rfl
      rw [z3]
      simp only [c164, x164_0, x164_1, x164_2, x164_3, x164_4, x164_7, x164_10, x164_13, x164_14, x164_15, x164_16, x164_19, x164_20, x164_22, x164_23, x164_26, x164_29, x164_30, x164_31, x164_32, x164_34, x164_35, x164_38, x164_41, x164_42, x164_43, x164_44, x164_47, x164_50, x164_51, x164_52, x164_53, x164_56, x164_59, x164_62, x164_65, x164_68, x164_69, x164_72, x164_73, x164_76, x164_79, x164_80, x164_83, x164_86, x164_89, x164_92, x164_93, x164_96, kp114, rf114_5, rp114_5, al115, iA115, it115, rf114_6, rp114_6, al116, iA116, it116, rf114_7, rp114_7, al117, iA117, it117, rf114_8, rp114_8, al118, iA118, it118, rf114_9, rp114_9, al119, iA119, it119, rf114_10, rp114_10, al120, iA120, it120, rf114_16, rp114_16, al121, iA121, it121, rf114_17, rp114_17, al122, iA122, it122, rf114_18, rp114_18, al123, iA123, it123, rf114_19, rp114_19, al124, iA124, it124, rf114_20, rp114_20, al125, iA125, it125, rf114_21, rp114_21, al126, iA126, it126, rf114_22, rp114_22, al127, iA127, it127, rf114_23, rp114_23, al128, iA128, it128, rf114_27, rp114_27, al129, iA129, it129, rf114_28, rp114_28, al130, iA130, it130, rf114_29, rp114_29, al131, iA131, it131, rf114_30, rp114_30, al132, iA132, it132, rf114_31, rp114_31, al133, iA133, it133, rf114_41, rp114_41, al134, iA134, it134, rf114_42, rp114_42, al135, iA135, it135, rf114_44, rp114_44, al136, iA136, it136, rf114_45, rp114_45, al137, iA137, it137, rf114_55, rp114_55, al138, iA138, it138, rf114_56, rp114_56, al139, iA139, it139, rf114_57, rp114_57, al140, iA140, it140, rf114_58, rp114_58, al141, iA141, it141, rf114_59, rp114_59, al142, iA142, it142, rf114_60, rp114_60, al143, iA143, it143, rf114_61, rp114_61, al144, iA144, it144, rf114_62, rp114_62, al145, iA145, it145, rf114_63, rp114_63, al146, iA146, it146, rf114_64, rp114_64, al147, iA147, it147, rf114_66, rp114_66, al148, iA148, it148, rf114_67, rp114_67, al149, iA149, it149, rf114_68, rp114_68, al150, iA150, it150, rf114_69, rp114_69, al151, iA151, it151, rf114_70, rp114_70, al152, iA152, it152, s108, bI_t a0, zi1, w, k, t1, z2, bI_True, bI_False, nI_1, Nat.reduceLeDiff, Nat.reduceEqDiff, nb0, nb1, nbI, eq_self, ex_pr, tl_s, tl_n, if_true, if_false, not_true_eq_false, not_false_eq_true, and_self, and_false, false_and, and_true, true_and]
    · have z2 : ¬ nI (TwP (VD D (2 ^ n - 1) sd hr) (dlt W n gb sd)).1 = 0 := by
        rw [← lt0, nI_eq (by omega) (by decide)]
        omega
      simp only [c164, x164_0, x164_1, x164_2, x164_3, x164_4, x164_7, x164_10, x164_13, x164_14, x164_15, x164_16, x164_19, x164_20, x164_22, x164_23, x164_26, x164_29, x164_30, x164_31, x164_32, x164_34, x164_35, x164_38, x164_41, x164_42, x164_43, x164_44, x164_47, x164_50, x164_51, x164_52, x164_53, x164_56, x164_59, x164_62, x164_65, x164_68, x164_69, x164_72, x164_73, x164_76, x164_79, x164_80, x164_83, x164_86, x164_89, x164_92, x164_93, x164_96, kp114, rf114_5, rp114_5, al115, iA115, it115, rf114_6, rp114_6, al116, iA116, it116, rf114_7, rp114_7, al117, iA117, it117, rf114_8, rp114_8, al118, iA118, it118, rf114_9, rp114_9, al119, iA119, it119, rf114_10, rp114_10, al120, iA120, it120, rf114_16, rp114_16, al121, iA121, it121, rf114_17, rp114_17, al122, iA122, it122, rf114_18, rp114_18, al123, iA123, it123, rf114_19, rp114_19, al124, iA124, it124, rf114_20, rp114_20, al125, iA125, it125, rf114_21, rp114_21, al126, iA126, it126, rf114_22, rp114_22, al127, iA127, it127, rf114_23, rp114_23, al128, iA128, it128, rf114_27, rp114_27, al129, iA129, it129, rf114_28, rp114_28, al130, iA130, it130, rf114_29, rp114_29, al131, iA131, it131, rf114_30, rp114_30, al132, iA132, it132, rf114_31, rp114_31, al133, iA133, it133, rf114_41, rp114_41, al134, iA134, it134, rf114_42, rp114_42, al135, iA135, it135, rf114_44, rp114_44, al136, iA136, it136, rf114_45, rp114_45, al137, iA137, it137, rf114_55, rp114_55, al138, iA138, it138, rf114_56, rp114_56, al139, iA139, it139, rf114_57, rp114_57, al140, iA140, it140, rf114_58, rp114_58, al141, iA141, it141, rf114_59, rp114_59, al142, iA142, it142, rf114_60, rp114_60, al143, iA143, it143, rf114_61, rp114_61, al144, iA144, it144, rf114_62, rp114_62, al145, iA145, it145, rf114_63, rp114_63, al146, iA146, it146, rf114_64, rp114_64, al147, iA147, it147, rf114_66, rp114_66, al148, iA148, it148, rf114_67, rp114_67, al149, iA149, it149, rf114_68, rp114_68, al150, iA150, it150, rf114_69, rp114_69, al151, iA151, it151, rf114_70, rp114_70, al152, iA152, it152, s108, bI_t a0, zi1, w, k, t1, z2, s1, bI_True, bI_False, nI_1, Nat.reduceLeDiff, Nat.reduceEqDiff, nb0, nb1, nbI, eq_self, ex_pr, tl_s, tl_n, if_true, if_false, not_true_eq_false, not_false_eq_true, and_self, and_false, false_and, and_true, true_and]
theorem op_two (X : XP f g h1 h2 n hr wn dk sd gb pc bc W D hc HS) (x0 : Int32) : OPI sc (d + 30) 83 164 [.int x0] f g h1 h2 := by
  by_cases a0 : ¬ x0 < 0 ∧ ¬ 1 < x0
  rotate_left
  · refine opi_q (v := -1002) X (qc0 ?_) fun f1 X1 => qc0 ?_
    · simp only [c83, x83_0, x83_1, x83_2, x83_5, x83_8, x83_11, x83_12, x83_13, x83_16, x83_17, x83_20, x83_21, x83_24, x83_27, x83_30, x83_31, x83_34, x83_35, x83_38, x83_41, s102, bI_f a0, bI_True, bI_False, nI_1, Nat.reduceLeDiff, Nat.reduceEqDiff, nb0, nb1, nbI, eq_self, ex_pr, tl_s, tl_n, if_true, if_false, not_true_eq_false, not_false_eq_true, and_self, and_false, false_and, and_true, true_and]
    · simp only [c164, x164_0, x164_1, x164_2, x164_3, x164_4, x164_7, x164_10, x164_13, x164_14, x164_15, x164_16, x164_19, x164_20, x164_22, x164_23, x164_26, x164_29, x164_30, x164_31, x164_32, x164_34, x164_35, x164_38, x164_41, x164_42, x164_43, x164_44, x164_47, x164_50, x164_51, x164_52, x164_53, x164_56, x164_59, x164_62, x164_65, x164_68, x164_69, x164_72, x164_73, x164_76, x164_79, x164_80, x164_83, x164_86, x164_89, x164_92, x164_93, x164_96, kp114, rf114_5, rp114_5, al115, iA115, it115, rf114_6, rp114_6, al116, iA116, it116, rf114_7, rp114_7, al117, iA117, it117, rf114_8, rp114_8, al118, iA118, it118, rf114_9, rp114_9, al119, iA119, it119, rf114_10, rp114_10, al120, iA120, it120, rf114_16, rp114_16, al121, iA121, it121, rf114_17, rp114_17, al122, iA122, it122, rf114_18, rp114_18, al123, iA123, it123, rf114_19, rp114_19, al124, iA124, it124, rf114_20, rp114_20, al125, iA125, it125, rf114_21, rp114_21, al126, iA126, it126, rf114_22, rp114_22, al127, iA127, it127, rf114_23, rp114_23, al128, iA128, it128, rf114_27, rp114_27, al129, iA129, it129, rf114_28, rp114_28, al130, iA130, it130, rf114_29, rp114_29, al131, iA131, it131, rf114_30, rp114_30, al132, iA132, it132, rf114_31, rp114_31, al133, iA133, it133, rf114_41, rp114_41, al134, iA134, it134, rf114_42, rp114_42, al135, iA135, it135, rf114_44, rp114_44, al136, iA136, it136, rf114_45, rp114_45, al137, iA137, it137, rf114_55, rp114_55, al138, iA138, it138, rf114_56, rp114_56, al139, iA139, it139, rf114_57, rp114_57, al140, iA140, it140, rf114_58, rp114_58, al141, iA141, it141, rf114_59, rp114_59, al142, iA142, it142, rf114_60, rp114_60, al143, iA143, it143, rf114_61, rp114_61, al144, iA144, it144, rf114_62, rp114_62, al145, iA145, it145, rf114_63, rp114_63, al146, iA146, it146, rf114_64, rp114_64, al147, iA147, it147, rf114_66, rp114_66, al148, iA148, it148, rf114_67, rp114_67, al149, iA149, it149, rf114_68, rp114_68, al150, iA150, it150, rf114_69, rp114_69, al151, iA151, it151, rf114_70, rp114_70, al152, iA152, it152, s108, bI_f a0, bI_True, bI_False, nI_1, Nat.reduceLeDiff, Nat.reduceEqDiff, nb0, nb1, nbI, eq_self, ex_pr, tl_s, tl_n, if_true, if_false, not_true_eq_false, not_false_eq_true, and_self, and_false, false_and, and_true, true_and]
  exact opi_q X (two_c X x0 a0) fun f1 X1 => two_m X1 x0 a0
end TM
