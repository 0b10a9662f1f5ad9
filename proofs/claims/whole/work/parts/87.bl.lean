/-! the best row of runs: the reference goes through all rows -/
def dbV (D : aD) (W : Nat → Nat) (pr gb n hr hs : Nat) : Nat → Nat → Nat → List Nat → Option aW → Option aW := Db (vE D pr hr hs) (vP D hr hs) (fun s => ga W pr s gb n 0)
/-- what one round of the reference's loop leaves -/
def LBo (f f' : Nat → Nat → Int32) (s k N : Nat) (st : Option aW) : Prop := Fx f f' ∧ f' 114 1 = nI s ∧ (∃ hx, hx ≤ 19999 ∧ f' 114 2 = nI hx) ∧ f' 114 4 = f 114 4 ∧ (∀ j, j < k → f' 131 j = f 131 j) ∧ (∀ j, j ≤ k → f' 133 j = f 133 j) ∧ BS f' N st
/-- a row's runs up to hour k, its last at pair q, worked off -/
def DSC (sc : aSc) (d : Nat) (g : Nat → Nat → Int64) (h1 h2 : Nat) (D : aD) (W : Nat → Nat) (gb n hr N aw pr m k : Nat) : Prop := ∀ (s w : Nat) (rw : List Nat) (st : Option aW) (f : Nat → Nat → Int32) (hx : Nat) (v4 : Int32), MY f D n s hx aw → GM f W gb n → rw.length = k + 1 → (∀ j, j < k + 1 → f 131 j = nI (nuO (rw.getD j 0))) → f 133 (k + 1) = nI w → w ≤ 6000 * (k + 1) → BS f N st → ∃ f' w4, LBo f f' s (k + 1) N (dbV D W pr gb n hr N m s w rw st) ∧ ∀ r, (Rn sc (d + 8) 154 187 [.ref (114 : Nat), .int (nI N), .int (nI hr), .int (nI k), .int v4] [] (cS f g h1 h2) r ↔ Rn sc (d + 8) 154 38 [.ref (114 : Nat), .int (nI N), .int (nI hr), .int (nI k), w4] [] (cS f' g h1 h2) r)
/-- all rows from a row's runs up to hour k - 1 on -/
def LAY (sc : aSc) (d : Nat) (g : Nat → Nat → Int64) (h1 h2 : Nat) (D : aD) (W : Nat → Nat) (gb n hr N aw pr m k : Nat) : Prop := ∀ (j t s w : Nat) (rw : List Nat) (st : Option aW) (f : Nat → Nat → Int32) (hx : Nat) (v4 : Value), t ≤ 22 → 22 - t < j → MY f D n (csT s t) hx aw → GM f W gb n → s < 2 ^ n → f 131 k = cdT t → (∀ q, t = q + 1 → q < 21 → o2 q < n) → rw.length = k → (∀ j, j < k → f 131 j = nI (nuO (rw.getD j 0))) → f 133 k = nI w → w ≤ 6000 * k → BS f N st → ∃ f' w4, LBo f f' s k N (lp (DbF (vE D pr hr N m s) (fun q st => dbV D W pr gb n hr N m (flq s q) (w + vP D hr N m s q) (rw ++ [q]) st)) (22 - t) t st) ∧ ∀ r, (Rn sc (d + 8) 154 38 [.ref (114 : Nat), .int (nI N), .int (nI hr), .int (nI k), v4] [] (cS f g h1 h2) r ↔ Rn sc (d + 8) 154 38 [.ref (114 : Nat), .int (nI N), .int (nI hr), .int (nI k + (-1)), w4] [] (cS f' g h1 h2) r)
section BL
variable {sc : aSc} {d : Nat} {r : aRes} {f : Nat → Nat → Int32} {g : Nat → Nat → Int64} {h1 h2 : Nat} {n hr wn dk sd gb pc bc : Nat} {W : Nat → Nat} {D : aD} {hc : Nat} {HS : Nat → aH} {σ : aS}
theorem dsc0 {N aw pr k : Nat} (A : PRA pr n aw) (hN : N ≤ 4) (hk : k + 1 = N) : DSC sc d g h1 h2 D W gb n hr N aw pr 0 k := by
  intro s w rw st f hx v4 C G hl hrw hw hw2 B
  subst hk
  obtain ⟨f', F, B', k1⟩ := @s152 sc f g h1 h2 n gb W D s hx aw pr (k + 1) w rw st A C G hN hl hrw hw (by omega) B
  have e1 : nI (k + 1) - 1 = nI k := by rw [← lt1, pk_sub (by omega)]; rfl
  refine ⟨f', .int v4, ⟨fun q j a b => ?_, ?_, ⟨hx, C.2.2.2.2.2.2.2, ?_⟩, ?_, fun j _ => ?_, fun j _ => ?_, B'⟩, fun r => ?_⟩
  · exact F q j (fun e => a (by unfold scq; omega)) (fun e => a (by unfold scq; omega))
  · rw [F _ _ (by omega) (by omega)]
    exact C.2.2.2.1
  · rw [F _ _ (by omega) (by omega)]
    exact C.2.2.2.2.1
  · rw [F _ _ (by omega) (by omega)]
  · rw [F _ _ (by omega) (by omega)]
  · rw [F _ _ (by omega) (by omega)]
  · simp only [x154_187, x154_188, x154_189, x154_190, x154_191, x154_194, x154_195, x154_196, x154_199, x154_212, kp114, rf114_5, rp114_5, al115, iA115, it115, rf114_6, rp114_6, al116, iA116, it116, rf114_7, rp114_7, al117, iA117, it117, rf114_8, rp114_8, al118, iA118, it118, rf114_9, rp114_9, al119, iA119, it119, rf114_10, rp114_10, al120, iA120, it120, rf114_16, rp114_16, al121, iA121, it121, rf114_17, rp114_17, al122, iA122, it122, rf114_18, rp114_18, al123, iA123, it123, rf114_19, rp114_19, al124, iA124, it124, rf114_20, rp114_20, al125, iA125, it125, rf114_21, rp114_21, al126, iA126, it126, rf114_22, rp114_22, al127, iA127, it127, rf114_23, rp114_23, al128, iA128, it128, rf114_27, rp114_27, al129, iA129, it129, rf114_28, rp114_28, al130, iA130, it130, rf114_29, rp114_29, al131, iA131, it131, rf114_30, rp114_30, al132, iA132, it132, rf114_31, rp114_31, al133, iA133, it133, rf114_41, rp114_41, al134, iA134, it134, rf114_42, rp114_42, al135, iA135, it135, rf114_44, rp114_44, al136, iA136, it136, rf114_45, rp114_45, al137, iA137, it137, rf114_55, rp114_55, al138, iA138, it138, rf114_56, rp114_56, al139, iA139, it139, rf114_57, rp114_57, al140, iA140, it140, rf114_58, rp114_58, al141, iA141, it141, rf114_59, rp114_59, al142, iA142, it142, rf114_60, rp114_60, al143, iA143, it143, rf114_61, rp114_61, al144, iA144, it144, rf114_62, rp114_62, al145, iA145, it145, rf114_63, rp114_63, al146, iA146, it146, rf114_64, rp114_64, al147, iA147, it147, rf114_66, rp114_66, al148, iA148, it148, rf114_67, rp114_67, al149, iA149, it149, rf114_68, rp114_68, al150, iA150, it150, rf114_69, rp114_69, al151, iA151, it151, rf114_70, rp114_70, al152, iA152, it152, e1, k1, bI_True, bI_False, nI_1, Nat.reduceLeDiff, Nat.reduceEqDiff, nb0, nb1, nbI, eq_self, ex_pr, tl_s, tl_n, if_true, if_false, not_true_eq_false, not_false_eq_true, and_self, and_false, false_and, and_true, true_and]
theorem Fx.my {f f' : Nat → Nat → Int32} {n s hx aw s' : Nat} {D : aD} (C : MY f D n s hx aw) (F : Fx f f') (e1 : f' 114 1 = nI s') (e2 : ∃ hx, hx ≤ 19999 ∧ f' 114 2 = nI hx) (e4 : f' 114 4 = f 114 4) (b : s' < 2 ^ n) : ∃ hx', MY f' D n s' hx' aw := by
  obtain ⟨hx', h9, e2⟩ := e2
  exact ⟨hx', C.fx F e1 e2 (by rw [e4]; exact C.2.2.2.2.2.1) b h9⟩
theorem LBo.tr {f f1 f2 : Nat → Nat → Int32} {s1 s2 k1 k N : Nat} {st1 st2 : Option aW} (a : LBo f f1 s1 k1 N st1) (b : LBo f1 f2 s2 k N st2) (h : k ≤ k1) : LBo f f2 s2 k N st2 := by
  obtain ⟨a1, a2, a3, a4, a5, a6, a7⟩ := a
  obtain ⟨b1, b2, b3, b4, b5, b6, b7⟩ := b
  exact ⟨a1.trans b1, b2, b3, b4.trans a4, fun j hj => (b5 j hj).trans (a5 j (by omega)), fun j hj => (b6 j hj).trans (a6 j (by omega)), b7⟩
theorem layS {N aw pr m k : Nat} (A : PRA pr n aw) (hN : N ≤ 4) (hr9 : hr ≤ 9999) (hk : m + 1 + k = N) (H : DSC sc d g h1 h2 D W gb n hr N aw pr m k) : LAY sc d g h1 h2 D W gb n hr N aw pr m k := by
  intro j
  induction j with
  | zero => exact fun t s w rw st f hx v4 _ h => absurd h (by omega)
  | succ j IH =>
    intro t s w rw st f hx v4 ht hj C G hs ek eq hl hrw hw hw2 B
    have n7 := C.2.1
    have x0 : (0 : Int32) < nI N := by
      rw [← lt0, nI_ltI (by decide) (by omega)]
      omega
    have x1 : ¬ nI k < 0 := nI_pos (by omega)
    have C1 := C.hour (hr' := hr + k) (by omega)
    have i1 : inb (nI k) 4 = true := inb_nI (by omega) (by decide)
    have i2 : (nI k).toNatClampNeg = k := cl_nI (by omega)
    have kb := fun d r => @s153 sc d r (u2 f 114 2 (nI (hr + k))) g h1 h2 s t k (by omega) ht (by rw [u2_nn (by omega)]; exact ek) C1.2.2.2.1
    have C2 : MY (u2 (u2 f 114 2 (nI (hr + k))) 114 1 (nI s)) D n s (hr + k) aw := C1.side hs
    obtain ⟨f2, ef2⟩ : ∃ f2, f2 = u2 (u2 f 114 2 (nI (hr + k))) 114 1 (nI s) := ⟨_, rfl⟩
    rw [← ef2] at C2 kb
    have E2 : ∀ q j, ¬ (q = 114 ∧ (j = 1 ∨ j = 2)) → f2 q j = f q j := fun q j hq => by rw [ef2, u2_nn (by omega), u2_nn (by omega)]
    have X2 : Fx f f2 := fun q j _ hq => E2 q j (by omega)
    have ek2 : f2 131 k = cdT t := by rw [E2 _ _ (by omega)]; exact ek
    by_cases t22 : t = 22
    · subst t22
      have k3 := fun d r => @s151e sc d r f2 g h1 h2
      refine ⟨u2 f2 131 k 100, v4, ⟨X2.trans (Fq.u (by unfold scq; omega)).fx, ?_, ⟨hr + k, by omega, ?_⟩, ?_, fun j hj' => ?_, fun j hj' => ?_, ?_⟩, fun r => ?_⟩
      · rw [u2_nn (by omega)]
        exact C2.2.2.2.1
      · rw [u2_nn (by omega)]
        exact C2.2.2.2.2.1
      · rw [u2_nn (by omega), E2 _ _ (by omega)]
      · rw [u2_nn (by omega), E2 _ _ (by omega)]
      · rw [u2_nn (by omega), E2 _ _ (by omega)]
      · exact B.fr (by rw [u2_nn (by omega), E2 _ _ (by omega)]) (by rw [u2_nn (by omega), E2 _ _ (by omega)]) (by funext j; rw [u2_nn (by omega), E2 _ _ (by omega)])
      · simp only [x154_38 (x1 := nI N) (a3 := .int (nI k)), x154_39, x154_42, x154_43, x154_46, x154_47, x154_48, x154_49, x154_50, x154_53, x154_54, x154_55, x154_58, x154_59, x154_62, x154_63, x154_64, x154_65, x154_68, x154_69, x154_70, x154_73, x154_74, x154_75, x154_78, x154_79, x154_80, x154_82, x154_85, x154_88, kp114, rf114_5, rp114_5, al115, iA115, it115, rf114_6, rp114_6, al116, iA116, it116, rf114_7, rp114_7, al117, iA117, it117, rf114_8, rp114_8, al118, iA118, it118, rf114_9, rp114_9, al119, iA119, it119, rf114_10, rp114_10, al120, iA120, it120, rf114_16, rp114_16, al121, iA121, it121, rf114_17, rp114_17, al122, iA122, it122, rf114_18, rp114_18, al123, iA123, it123, rf114_19, rp114_19, al124, iA124, it124, rf114_20, rp114_20, al125, iA125, it125, rf114_21, rp114_21, al126, iA126, it126, rf114_22, rp114_22, al127, iA127, it127, rf114_23, rp114_23, al128, iA128, it128, rf114_27, rp114_27, al129, iA129, it129, rf114_28, rp114_28, al130, iA130, it130, rf114_29, rp114_29, al131, iA131, it131, rf114_30, rp114_30, al132, iA132, it132, rf114_31, rp114_31, al133, iA133, it133, rf114_41, rp114_41, al134, iA134, it134, rf114_42, rp114_42, al135, iA135, it135, rf114_44, rp114_44, al136, iA136, it136, rf114_45, rp114_45, al137, iA137, it137, rf114_55, rp114_55, al138, iA138, it138, rf114_56, rp114_56, al139, iA139, it139, rf114_57, rp114_57, al140, iA140, it140, rf114_58, rp114_58, al141, iA141, it141, rf114_59, rp114_59, al142, iA142, it142, rf114_60, rp114_60, al143, iA143, it143, rf114_61, rp114_61, al144, iA144, it144, rf114_62, rp114_62, al145, iA145, it145, rf114_63, rp114_63, al146, iA146, it146, rf114_64, rp114_64, al147, iA147, it147, rf114_66, rp114_66, al148, iA148, it148, rf114_67, rp114_67, al149, iA149, it149, rf114_68, rp114_68, al150, iA150, it150, rf114_69, rp114_69, al151, iA151, it151, rf114_70, rp114_70, al152, iA152, it152, al131, iA131, it131, x0, x1, nI_add, kb, i1, i2, ek2, k3, u2_ss, bI_True, bI_False, nI_1, Nat.reduceLeDiff, Nat.reduceEqDiff, nb0, nb1, nbI, eq_self, ex_pr, tl_s, tl_n, if_true, if_false, not_true_eq_false, not_false_eq_true, and_self, and_false, false_and, and_true, true_and]
    · have t21 : t ≤ 21 := by omega
      obtain ⟨f3, F3, k3⟩ := @s151 sc d f2 g h1 h2 n D s (hr + k) aw pr t A C2 t21 (fun q e => eq q e (by omega))
      obtain ⟨p1, p2, p3, p4⟩ := @nxt_p (VD D pr s (hr + k)) (21 - t) t (by omega)
      obtain ⟨q, eqq⟩ : ∃ q, q = nxt (VD D pr s (hr + k)) t := ⟨_, rfl⟩
      rw [← eqq] at k3 p1 p2 p3 p4
      have vE1 : vE D pr hr N m s = VD D pr s (hr + k) := by
        unfold vE
        rw [show N - 1 - m = k by omega]
      have vP1 : vP D hr N m s q = PLL D s (hr + k) q := by
        unfold vP
        rw [show N - 1 - m = k by omega]
      have yv : q = 21 ∨ VD D pr s (hr + k) q = true := by
        by_cases e : q = 21
        · exact Or.inl e
        · exact Or.inr (p3 (by omega))
      have C3 := C2.sm F3
      obtain ⟨fo1, fo2⟩ := flq_ok A.1 n7 hs p2 yv
      have pl := PLL_le C.1.1 A.1 yv
      have z1 : nI k + 1 = nI (k + 1) := by rw [← lt1, nI_add]
      have nq := nuO_lt q (by omega)
      have n100 : ¬ nI (nuO q) = 100 := by
        rw [← lt100, nI_eq (by omega) (by decide)]
        omega
      have i3 : inb (nI k) 5 = true := inb_nI (by omega) (by decide)
      have i4 : inb (nI (k + 1)) 5 = true := inb_nI (by omega) (by decide)
      have i5 : (nI (k + 1)).toNatClampNeg = k + 1 := cl_nI (by omega)
      have E3 : ∀ a b, a ≠ 130 → f3 a b = f2 a b := fun a b h => by rw [F3 a h]
      obtain ⟨f4, ef4⟩ : ∃ f4, f4 = u2 f3 131 k (nI (nuO q)) := ⟨_, rfl⟩
      have F4 : Fq f3 f4 := by rw [ef4]; exact Fq.u (by unfold scq; omega)
      have C4 := C3.fq F4
      have E4 : ∀ a b, a ≠ 130 → ¬ (a = 131 ∧ b = k) → f4 a b = f2 a b := fun a b h h' => by rw [ef4, u2_nn h', E3 a b h]
      have e4k : f4 131 k = nI (nuO q) := by rw [ef4, u2_ss]
      have w4 : f4 133 k = nI w := by rw [E4 _ _ (by omega) (by omega), E2 _ _ (by omega)]; exact hw
      have go : ∃ f8 v4', (∀ a b, ¬ (a = 114 ∧ (b = 1 ∨ b = 2)) → a ≠ 130 → ¬ (a = 131 ∧ b = k) → ¬ (a = 133 ∧ b = k + 1) → f8 a b = f a b) ∧ MY f8 D n (flq s q) (hr + k) aw ∧ f8 131 k = nI (nuO q) ∧ f8 133 (k + 1) = nI (w + PLL D s (hr + k) q) ∧ ∀ r, (Rn sc (d + 8) 154 38 [.ref (114 : Nat), .int (nI N), .int (nI hr), .int (nI k), v4] [] (cS f g h1 h2) r ↔ Rn sc (d + 8) 154 187 [.ref (114 : Nat), .int (nI N), .int (nI hr), .int (nI k), .int v4'] [] (cS f8 g h1 h2) r) := by
        by_cases q21 : q = 21
        · have e99 : nI (nuO q) = 99 := by rw [q21]; rfl
          refine ⟨u2 f4 133 (k + 1) (nI (w + PLL D s (hr + k) q)), 0, fun a b x1 x2 x3 x4 => ?_, ?_, ?_, ?_, fun r => ?_⟩
          · rw [u2_nn x4, E4 a b x2 x3, E2 a b x1]
          · rw [q21, flq_21]
            exact C4.fq (Fq.u (by unfold scq; omega))
          · rw [u2_nn (by omega), e4k]
          · rw [u2_ss]
          · have pz : w + PLL D s (hr + k) q = w := by rw [q21]; rfl
            have e99 : (nI (nuO q) = 99) = True := eq_true e99
            rw [pz]
            have st1 : cS (u2 f3 131 k (nI (nuO q))) g h1 h2 = cS f4 g h1 h2 := by rw [ef4]
            simp only [x154_38 (x1 := nI N) (a3 := .int (nI k)), x154_39, x154_42, x154_43, x154_46, x154_47, x154_48, x154_49, x154_50, x154_53, x154_54, x154_55, x154_58, x154_59, x154_62, x154_63, x154_64, x154_65, x154_68, x154_69, x154_70, x154_73, x154_74, x154_75, x154_78, x154_79, x154_80, x154_82, x154_91, x154_92, x154_95, x154_96, x154_97, x154_99, x154_106, x154_107, x154_109, x154_110, x154_113, x154_114, x154_115, x154_116, x154_117, x154_120, x154_121, x154_122, x154_124, x154_157, x154_158, x154_159, x154_160, x154_162, kp114, rf114_5, rp114_5, al115, iA115, it115, rf114_6, rp114_6, al116, iA116, it116, rf114_7, rp114_7, al117, iA117, it117, rf114_8, rp114_8, al118, iA118, it118, rf114_9, rp114_9, al119, iA119, it119, rf114_10, rp114_10, al120, iA120, it120, rf114_16, rp114_16, al121, iA121, it121, rf114_17, rp114_17, al122, iA122, it122, rf114_18, rp114_18, al123, iA123, it123, rf114_19, rp114_19, al124, iA124, it124, rf114_20, rp114_20, al125, iA125, it125, rf114_21, rp114_21, al126, iA126, it126, rf114_22, rp114_22, al127, iA127, it127, rf114_23, rp114_23, al128, iA128, it128, rf114_27, rp114_27, al129, iA129, it129, rf114_28, rp114_28, al130, iA130, it130, rf114_29, rp114_29, al131, iA131, it131, rf114_30, rp114_30, al132, iA132, it132, rf114_31, rp114_31, al133, iA133, it133, rf114_41, rp114_41, al134, iA134, it134, rf114_42, rp114_42, al135, iA135, it135, rf114_44, rp114_44, al136, iA136, it136, rf114_45, rp114_45, al137, iA137, it137, rf114_55, rp114_55, al138, iA138, it138, rf114_56, rp114_56, al139, iA139, it139, rf114_57, rp114_57, al140, iA140, it140, rf114_58, rp114_58, al141, iA141, it141, rf114_59, rp114_59, al142, iA142, it142, rf114_60, rp114_60, al143, iA143, it143, rf114_61, rp114_61, al144, iA144, it144, rf114_62, rp114_62, al145, iA145, it145, rf114_63, rp114_63, al146, iA146, it146, rf114_64, rp114_64, al147, iA147, it147, rf114_66, rp114_66, al148, iA148, it148, rf114_67, rp114_67, al149, iA149, it149, rf114_68, rp114_68, al150, iA150, it150, rf114_69, rp114_69, al151, iA151, it151, rf114_70, rp114_70, al152, iA152, it152, al131, iA131, it131, al133, iA133, it133, x0, x1, nI_add, kb, i1, i2, ek2, k3, st1, e4k, n100, e99, z1, i3, i4, i5, w4, Int32.add_zero, bI_True, bI_False, nI_1, Nat.reduceLeDiff, Nat.reduceEqDiff, nb0, nb1, nbI, eq_self, ex_pr, tl_s, tl_n, if_true, if_false, not_true_eq_false, not_false_eq_true, and_self, and_false, false_and, and_true, true_and]
        · have yv' : VD D pr s (hr + k) q = true := p3 (by omega)
          obtain ⟨v1, v2, v3, v5⟩ := VD_p yv'
          have q1 := pr_lt A.1 v2
          have q2 := pr_lt A.1 v3
          obtain ⟨n1, n2, n3⟩ := nu_dm q v1
          have e99 : ¬ nI (nuO q) = 99 := by
            rw [show (99 : Int32) = nI 99 from rfl, nI_eq (by omega) (by decide)]
            omega
          have e3 : nI (nuO q) / 10 = nI (o1 q) := by
            rw [← lt10, nI_div (by omega) (by decide), n1]
          have e4 : nI (nuO q) % 10 = nI (o2 q) := by
            rw [← lt10, nI_rem (by omega) (by decide), n2]
          have e10 : ¬ (10 : Int32) = 0 := by decide
          have s7 := go_lt n7 hs
          obtain ⟨f5, F5, k5⟩ := s138 (sc := sc) (d := d + 3) (g := g) (h1 := h1) (h2 := h2) C4.1 q1 C4.2.2.2.1 C4.2.2.2.2.1 (by omega) (by omega)
          have C5 := C4.sm F5
          obtain ⟨f6, F6, k6⟩ := s138 (sc := sc) (d := d + 3) (g := g) (h1 := h1) (h2 := h2) C5.1 q2 C5.2.2.2.1 C5.2.2.2.2.1 (by omega) (by omega)
          have C6 := C5.sm F6
          have E6 : ∀ a b, a ≠ 130 → f6 a b = f4 a b := fun a b h => by rw [F6 a h, F5 a h]
          have r5 : f5 131 k = nI (nuO q) := by rw [F5 131 (by omega)]; exact e4k
          have r6 : f6 131 k = nI (nuO q) := by rw [E6 _ _ (by omega)]; exact e4k
          have pz : PLL D s (hr + k) q = PU D (o1 q) (bt s (o1 q)) (hr + k) + PU D (o2 q) (bt s (o2 q)) (hr + k) := if_neg q21
          obtain ⟨f7, ef7⟩ : ∃ f7, f7 = u2 f6 133 (k + 1) (nI (w + PLL D s (hr + k) q)) := ⟨_, rfl⟩
          have C7 : MY f7 D n s (hr + k) aw := by rw [ef7]; exact C6.fq (Fq.u (by unfold scq; omega))
          have o := o12 q v1
          have k7 := fun d r => s142 (sc := sc) (d := d) (r := r) (f := f7) (g := g) (h1 := h1) (h2 := h2) (a := o1 q) (b := o2 q) (sd := s) (by omega) (by omega) C7.2.2.2.1
          rw [← flq_p v1] at k7
          have r7 : f7 131 k = nI (nuO q) := by rw [ef7, u2_nn (by omega)]; exact r6
          refine ⟨u2 f7 114 1 (nI (flq s q)), 1, fun a b x1 x2 x3 x4 => ?_, C7.side fo1, ?_, ?_, fun r => ?_⟩
          · rw [u2_nn (by omega), ef7, u2_nn x4, E6 a b x2, E4 a b x2 x3, E2 a b x1]
          · rw [u2_nn (by omega), r7]
          · rw [u2_nn (by omega), ef7, u2_ss]
          · have st1 : cS (u2 f3 131 k (nI (nuO q))) g h1 h2 = cS f4 g h1 h2 := by rw [ef4]
            have st2 : cS (u2 f6 133 (k + 1) (nI (w + (PU D (o1 q) (bt s (o1 q)) (hr + k) + PU D (o2 q) (bt s (o2 q)) (hr + k))))) g h1 h2 = cS f7 g h1 h2 := by rw [ef7, pz]
            simp only [x154_38 (x1 := nI N) (a3 := .int (nI k)), x154_39, x154_42, x154_43, x154_46, x154_47, x154_48, x154_49, x154_50, x154_53, x154_54, x154_55, x154_58, x154_59, x154_62, x154_63, x154_64, x154_65, x154_68, x154_69, x154_70, x154_73, x154_74, x154_75, x154_78, x154_79, x154_80, x154_82, x154_91, x154_92, x154_95, x154_96, x154_97, x154_99, x154_102, x154_103, x154_107, x154_109, x154_110, x154_113, x154_114, x154_115, x154_116, x154_117, x154_120, x154_121, x154_122, x154_124, x154_127, x154_128, x154_129, x154_132, x154_133, x154_134, x154_136, x154_137, x154_140, x154_141, x154_142, x154_145, x154_146, x154_147, x154_149, x154_150, x154_153, x154_154, x154_158, x154_159, x154_160, x154_162, x154_165, x154_166, x154_167, x154_170, x154_171, x154_172, x154_174, x154_175, x154_176, x154_179, x154_180, x154_181, x154_183, x154_184, kp114, rf114_5, rp114_5, al115, iA115, it115, rf114_6, rp114_6, al116, iA116, it116, rf114_7, rp114_7, al117, iA117, it117, rf114_8, rp114_8, al118, iA118, it118, rf114_9, rp114_9, al119, iA119, it119, rf114_10, rp114_10, al120, iA120, it120, rf114_16, rp114_16, al121, iA121, it121, rf114_17, rp114_17, al122, iA122, it122, rf114_18, rp114_18, al123, iA123, it123, rf114_19, rp114_19, al124, iA124, it124, rf114_20, rp114_20, al125, iA125, it125, rf114_21, rp114_21, al126, iA126, it126, rf114_22, rp114_22, al127, iA127, it127, rf114_23, rp114_23, al128, iA128, it128, rf114_27, rp114_27, al129, iA129, it129, rf114_28, rp114_28, al130, iA130, it130, rf114_29, rp114_29, al131, iA131, it131, rf114_30, rp114_30, al132, iA132, it132, rf114_31, rp114_31, al133, iA133, it133, rf114_41, rp114_41, al134, iA134, it134, rf114_42, rp114_42, al135, iA135, it135, rf114_44, rp114_44, al136, iA136, it136, rf114_45, rp114_45, al137, iA137, it137, rf114_55, rp114_55, al138, iA138, it138, rf114_56, rp114_56, al139, iA139, it139, rf114_57, rp114_57, al140, iA140, it140, rf114_58, rp114_58, al141, iA141, it141, rf114_59, rp114_59, al142, iA142, it142, rf114_60, rp114_60, al143, iA143, it143, rf114_61, rp114_61, al144, iA144, it144, rf114_62, rp114_62, al145, iA145, it145, rf114_63, rp114_63, al146, iA146, it146, rf114_64, rp114_64, al147, iA147, it147, rf114_66, rp114_66, al148, iA148, it148, rf114_67, rp114_67, al149, iA149, it149, rf114_68, rp114_68, al150, iA150, it150, rf114_69, rp114_69, al151, iA151, it151, rf114_70, rp114_70, al152, iA152, it152, al131, iA131, it131, al133, iA133, it133, x0, x1, nI_add, kb, i1, i2, ek2, k3, st1, e4k, n100, e99, z1, i3, i4, i5, w4, zi1, e3, e4, e10, k5, r5, k6, st2, r7, k7, bI_True, bI_False, nI_1, Nat.reduceLeDiff, Nat.reduceEqDiff, nb0, nb1, nbI, eq_self, ex_pr, tl_s, tl_n, if_true, if_false, not_true_eq_false, not_false_eq_true, and_self, and_false, false_and, and_true, true_and]
      obtain ⟨f8, v8, E8, C8, r8, w8, k8⟩ := go
      have X8 : Fx f f8 := fun a b h h' => E8 a b (by omega) (fun e => h (by unfold scq; omega)) (fun e => h (by unfold scq; omega)) (fun e => h (by unfold scq; omega))
      have G8 := G.fx X8
      have B8 : BS f8 N st := B.fr (E8 _ _ (by omega) (by omega) (by omega) (by omega)) (E8 _ _ (by omega) (by omega) (by omega) (by omega)) (by funext j; exact E8 _ _ (by omega) (by omega) (by omega) (by omega))
      obtain ⟨f9, v9, O9, k9⟩ := H (flq s q) (w + PLL D s (hr + k) q) (rw ++ [q]) st f8 (hr + k) v8 C8 G8 (by rw [List.length_append, hl]; rfl) (fun j hj => by
        by_cases e : j = k
        · subst e
          rw [r8, List.getD_eq_getElem?_getD, List.getElem?_append_right (by omega), hl, Nat.sub_self]
          rfl
        · rw [E8 _ _ (by omega) (by omega) (by omega) (by omega), hrw j (by omega), List.getD_eq_getElem?_getD, List.getD_eq_getElem?_getD, List.getElem?_append_left (by omega)]) w8 (by rw [Nat.mul_succ]; omega) B8
      have O9' := O9
      obtain ⟨y1, y2, y3, y4, y5, y6, y7⟩ := O9
      obtain ⟨hx9, C9⟩ := Fx.my C8 y1 y2 y3 y4 fo1
      obtain ⟨fA, vA, OA, kA⟩ := IH (q + 1) s w rw (dbV D W pr gb n hr N m (flq s q) (w + PLL D s (hr + k) q) (rw ++ [q]) st) f9 hx9 v9 (by omega) (by omega) C9 (G8.fx y1) hs (by rw [y5 k (by omega)]; exact r8) (fun q' e h => by
        have : q' = q := by omega
        subst this
        exact pr_lt A.1 (VD_p (p3 h)).2.2.1) hl (fun j hj => by rw [y5 j (by omega), E8 _ _ (by omega) (by omega) (by omega) (by omega)]; exact hrw j hj) (by rw [y6 k (by omega), E8 _ _ (by omega) (by omega) (by omega) (by omega)]; exact hw) hw2 y7
      have st2 : lp (DbF (vE D pr hr N m s) (fun q st => dbV D W pr gb n hr N m (flq s q) (w + vP D hr N m s q) (rw ++ [q]) st)) (22 - t) t st = lp (DbF (vE D pr hr N m s) (fun q st => dbV D W pr gb n hr N m (flq s q) (w + vP D hr N m s q) (rw ++ [q]) st)) (22 - (q + 1)) (q + 1) (dbV D W pr gb n hr N m (flq s q) (w + PLL D s (hr + k) q) (rw ++ [q]) st) := by
        rw [show 22 - t = (q - t) + ((22 - (q + 1)) + 1) by omega, lp_add, show t + (q - t) = q by omega, lp_id (q - t) t st fun u a b st => by
          unfold DbF
          rw [if_neg]
          intro z
          rcases z with z | z
          · omega
          · rw [vE1, p4 u a (by omega)] at z
            cases z]
        show lp _ (22 - (q + 1)) (q + 1) (DbF (vE D pr hr N m s) (fun q st => dbV D W pr gb n hr N m (flq s q) (w + vP D hr N m s q) (rw ++ [q]) st) q st) = _
        have fe : DbF (vE D pr hr N m s) (fun q st => dbV D W pr gb n hr N m (flq s q) (w + vP D hr N m s q) (rw ++ [q]) st) q st = dbV D W pr gb n hr N m (flq s q) (w + PLL D s (hr + k) q) (rw ++ [q]) st := by
          unfold DbF
          rw [vE1, if_pos yv]
          dsimp only
          rw [vP1]
        rw [fe]
      rw [st2]
      refine ⟨fA, vA, ?_, fun r => (k8 r).trans ((k9 r).trans (kA r))⟩
      obtain ⟨a1, a2, a3, a4, a5, a6, a7⟩ := O9'.tr OA (by omega)
      exact ⟨X8.trans a1, a2, a3, a4.trans (E8 _ _ (by omega) (by omega) (by omega) (by omega)), fun j hj => (a5 j hj).trans (E8 _ _ (by omega) (by omega) (by omega) (by omega)), fun j hj => (a6 j hj).trans (E8 _ _ (by omega) (by omega) (by omega) (by omega)), a7⟩
theorem dscS {N aw pr m k : Nat} (A : PRA pr n aw) (hN : N ≤ 4) (hk : m + 1 + (k + 1) = N) (H : LAY sc d g h1 h2 D W gb n hr N aw pr m (k + 1)) : DSC sc d g h1 h2 D W gb n hr N aw pr (m + 1) k := by
  intro s w rw st f hx v4 C G hl hrw hw hw2 B
  have F1 : Fq f (u2 f 131 (k + 1) (-1)) := Fq.u (by unfold scq; omega)
  obtain ⟨f', w4, O, k1⟩ := H 200 0 s w rw st (u2 f 131 (k + 1) (-1)) hx (.int v4) (by omega) (by omega) (C.fq F1) (G.fq F1) C.2.2.2.2.2.2.1 u2_ss (fun q e => absurd e (by omega)) hl (fun j hj => by rw [u2_nn (by omega)]; exact hrw j hj) (by rw [u2_nn (by omega)]; exact hw) hw2 (B.fr (u2_nn (by omega)) (u2_nn (by omega)) (u2_n (by omega)))
  obtain ⟨o1, o2, o3, o4, o5, o6, o7⟩ := O
  have e1 : nI N - 1 = nI (N - 1) := by rw [← lt1, pk_sub (by omega)]
  have e2 := @nI_eq k (N - 1) (by omega) (by omega)
  have e3 : ¬ k = N - 1 := by omega
  have z1 : nI k + 1 = nI (k + 1) := by rw [← lt1, nI_add]
  have z2 : nI (k + 1) + (-1) = nI k := by
    rw [show (-1 : Int32) = iI (-1) from rfl, iI_N, iI_add, iI_N]
    congr 1
    omega
  have i1 : inb (nI (k + 1)) 4 = true := inb_nI (by omega) (by decide)
  have i2 : (nI (k + 1)).toNatClampNeg = k + 1 := cl_nI (by omega)
  rw [z2] at k1
  refine ⟨f', w4, ⟨F1.fx.trans o1, o2, o3, o4.trans (u2_nn (by omega)), fun j hj => (o5 j hj).trans (u2_nn (by omega)), fun j hj => (o6 j hj).trans (u2_nn (by omega)), o7⟩, fun r => ?_⟩
  rw [← k1 r]
  simp only [x154_187, x154_188, x154_189, x154_190, x154_191, x154_202, x154_205, x154_206, x154_209, x154_210, x154_211, x154_212, kp114, rf114_5, rp114_5, al115, iA115, it115, rf114_6, rp114_6, al116, iA116, it116, rf114_7, rp114_7, al117, iA117, it117, rf114_8, rp114_8, al118, iA118, it118, rf114_9, rp114_9, al119, iA119, it119, rf114_10, rp114_10, al120, iA120, it120, rf114_16, rp114_16, al121, iA121, it121, rf114_17, rp114_17, al122, iA122, it122, rf114_18, rp114_18, al123, iA123, it123, rf114_19, rp114_19, al124, iA124, it124, rf114_20, rp114_20, al125, iA125, it125, rf114_21, rp114_21, al126, iA126, it126, rf114_22, rp114_22, al127, iA127, it127, rf114_23, rp114_23, al128, iA128, it128, rf114_27, rp114_27, al129, iA129, it129, rf114_28, rp114_28, al130, iA130, it130, rf114_29, rp114_29, al131, iA131, it131, rf114_30, rp114_30, al132, iA132, it132, rf114_31, rp114_31, al133, iA133, it133, rf114_41, rp114_41, al134, iA134, it134, rf114_42, rp114_42, al135, iA135, it135, rf114_44, rp114_44, al136, iA136, it136, rf114_45, rp114_45, al137, iA137, it137, rf114_55, rp114_55, al138, iA138, it138, rf114_56, rp114_56, al139, iA139, it139, rf114_57, rp114_57, al140, iA140, it140, rf114_58, rp114_58, al141, iA141, it141, rf114_59, rp114_59, al142, iA142, it142, rf114_60, rp114_60, al143, iA143, it143, rf114_61, rp114_61, al144, iA144, it144, rf114_62, rp114_62, al145, iA145, it145, rf114_63, rp114_63, al146, iA146, it146, rf114_64, rp114_64, al147, iA147, it147, rf114_66, rp114_66, al148, iA148, it148, rf114_67, rp114_67, al149, iA149, it149, rf114_68, rp114_68, al150, iA150, it150, rf114_69, rp114_69, al151, iA151, it151, rf114_70, rp114_70, al152, iA152, it152, al131, iA131, it131, e1, e2, e3, z1, i1, i2, bI_True, bI_False, nI_1, Nat.reduceLeDiff, Nat.reduceEqDiff, nb0, nb1, nbI, eq_self, ex_pr, tl_s, tl_n, if_true, if_false, not_true_eq_false, not_false_eq_true, and_self, and_false, false_and, and_true, true_and]
theorem lay_all {N aw pr : Nat} (A : PRA pr n aw) (hN : N ≤ 4) (hr9 : hr ≤ 9999) : ∀ (m k : Nat), m + 1 + k = N → LAY sc d g h1 h2 D W gb n hr N aw pr m k
  | 0, k, h => layS A hN hr9 h (dsc0 A hN (by omega))
  | m + 1, k, h => layS A hN hr9 h (dscS A hN (by omega) (lay_all A hN hr9 m (k + 1) (by omega)))
/-- layBest -/
theorem s154 {N aw pr : Nat} (A : PRA pr n aw) (hN : N ≤ 4) (hr9 : hr ≤ 9999) (C : MY f D n sd hr aw) (G : GM f W gb n) : ∃ f', Fq f f' ∧ BS f' N (some (vb D W pr gb n hr N N sd)) ∧ ∀ r, Cl sc (d + 9) 154 [.ref (114 : Nat), .int (nI N)] (cS f g h1 h2) r ↔ r = (cS f' g h1 h2, none) := by
  have m1 := C.2.2.2.1
  have m2 := C.2.2.2.2.1
  have hs := C.2.2.2.2.2.2.1
  obtain ⟨f0, e0⟩ : ∃ f0, f0 = u2 (u2 f 114 32 (-1)) 133 0 0 := ⟨_, rfl⟩
  have F0 : Fq f f0 := by
    rw [e0]
    exact (Fq.u (by unfold scq; omega)).trans (Fq.u (by unfold scq; omega))
  have C0 := C.fq F0
  have G0 := G.fq F0
  have b0 : BS f0 N none := by
    show f0 114 32 = -1
    rw [e0, u2_nn (by omega), u2_ss]
  have w0 : f0 133 0 = nI 0 := by rw [e0, u2_ss]; rfl
  have st1 : cS (u2 (u2 f 114 32 (-1)) 133 0 0) g h1 h2 = cS f0 g h1 h2 := by rw [e0]
  have i0 : inb 0 5 = true := by decide
  have i1 : (0 : Int32).toNatClampNeg = 0 := by decide
  have i4 : inb 0 4 = true := by decide
  by_cases z : N = 0
  · subst z
    obtain ⟨f', F, B', k1⟩ := @s152 sc f0 g h1 h2 n gb W D sd hr aw pr 0 0 [] none A C0 G0 hN rfl (fun j h => absurd h (by omega)) w0 (by decide) b0
    have e1 : ¬ (0 : Int32) < 0 := by decide
    have m2' : f' 114 2 = nI hr := by
      rw [F _ _ (by omega) (by omega)]
      exact C0.2.2.2.2.1
    refine ⟨f', F0.trans fun q j a => F q j (fun e => a (by unfold scq; omega)) (fun e => a (by unfold scq; omega)), B', fun r => ?_⟩
    rw [lt0] at k1 ⊢
    simp only [c154, x154_0, x154_1, x154_2, x154_5, x154_6, x154_9, x154_10, x154_11, x154_12, x154_13, x154_16, x154_17, x154_18, x154_19, x154_20, x154_23, x154_24, x154_25, x154_28, x154_31, x154_32, x154_35, x154_36, x154_37, x154_38, x154_39, x154_42, x154_43, x154_46, x154_47, x154_48, x154_49, x154_50, x154_53, x154_54, x154_55, x154_58, x154_59, x154_62, x154_63, x154_64, x154_65, x154_68, x154_69, x154_70, x154_73, x154_74, x154_75, x154_78, x154_79, x154_80, x154_82, x154_85, x154_88, x154_91, x154_92, x154_95, x154_96, x154_97, x154_99, x154_102, x154_103, x154_106, x154_107, x154_109, x154_110, x154_113, x154_114, x154_115, x154_116, x154_117, x154_120, x154_121, x154_122, x154_124, x154_127, x154_128, x154_129, x154_132, x154_133, x154_134, x154_136, x154_137, x154_140, x154_141, x154_142, x154_145, x154_146, x154_147, x154_149, x154_150, x154_153, x154_154, x154_157, x154_158, x154_159, x154_160, x154_162, x154_165, x154_166, x154_167, x154_170, x154_171, x154_172, x154_174, x154_175, x154_176, x154_179, x154_180, x154_181, x154_183, x154_184, x154_187, x154_188, x154_189, x154_190, x154_191, x154_194, x154_195, x154_196, x154_199, x154_202, x154_205, x154_206, x154_209, x154_210, x154_211, x154_212, x154_215, x154_216, x154_217, x154_220, kp114, rf114_5, rp114_5, al115, iA115, it115, rf114_6, rp114_6, al116, iA116, it116, rf114_7, rp114_7, al117, iA117, it117, rf114_8, rp114_8, al118, iA118, it118, rf114_9, rp114_9, al119, iA119, it119, rf114_10, rp114_10, al120, iA120, it120, rf114_16, rp114_16, al121, iA121, it121, rf114_17, rp114_17, al122, iA122, it122, rf114_18, rp114_18, al123, iA123, it123, rf114_19, rp114_19, al124, iA124, it124, rf114_20, rp114_20, al125, iA125, it125, rf114_21, rp114_21, al126, iA126, it126, rf114_22, rp114_22, al127, iA127, it127, rf114_23, rp114_23, al128, iA128, it128, rf114_27, rp114_27, al129, iA129, it129, rf114_28, rp114_28, al130, iA130, it130, rf114_29, rp114_29, al131, iA131, it131, rf114_30, rp114_30, al132, iA132, it132, rf114_31, rp114_31, al133, iA133, it133, rf114_41, rp114_41, al134, iA134, it134, rf114_42, rp114_42, al135, iA135, it135, rf114_44, rp114_44, al136, iA136, it136, rf114_45, rp114_45, al137, iA137, it137, rf114_55, rp114_55, al138, iA138, it138, rf114_56, rp114_56, al139, iA139, it139, rf114_57, rp114_57, al140, iA140, it140, rf114_58, rp114_58, al141, iA141, it141, rf114_59, rp114_59, al142, iA142, it142, rf114_60, rp114_60, al143, iA143, it143, rf114_61, rp114_61, al144, iA144, it144, rf114_62, rp114_62, al145, iA145, it145, rf114_63, rp114_63, al146, iA146, it146, rf114_64, rp114_64, al147, iA147, it147, rf114_66, rp114_66, al148, iA148, it148, rf114_67, rp114_67, al149, iA149, it149, rf114_68, rp114_68, al150, iA150, it150, rf114_69, rp114_69, al151, iA151, it151, rf114_70, rp114_70, al152, iA152, it152, al133, iA133, it133, m2, i0, i1, st1, k1, e1, u2_id m2', u2_at, bI_True, bI_False, nI_1, Nat.reduceLeDiff, Nat.reduceEqDiff, nb0, nb1, nbI, eq_self, ex_pr, tl_s, tl_n, if_true, if_false, not_true_eq_false, not_false_eq_true, and_self, and_false, false_and, and_true, true_and]
  · obtain ⟨N', rfl⟩ : ∃ N', N = N' + 1 := ⟨N - 1, by omega⟩
    have L := @lay_all sc d g h1 h2 n hr gb W D (N' + 1) aw pr A hN hr9 N' 0 rfl
    have F1 : Fq f0 (u2 f0 131 0 (-1)) := Fq.u (by unfold scq; omega)
    obtain ⟨f', w4, O, k1⟩ := L 200 0 sd 0 [] none (u2 f0 131 0 (-1)) hr mk0 (by omega) (by omega) (C0.fq F1) (G0.fq F1) hs u2_ss (fun q e => absurd e (by omega)) rfl (fun j h => absurd h (by omega)) (by rw [u2_nn (by omega)]; exact w0) (by omega) (BS.fr (f := f0) b0 (u2_nn (by omega)) (u2_nn (by omega)) (u2_n (by omega)))
    obtain ⟨y1, y2, y3, y4, y5, y6, y7⟩ := O
    have vv : lp (DbF (vE D pr hr (N' + 1) N' sd) (fun q st => dbV D W pr gb n hr (N' + 1) N' (flq sd q) (0 + vP D hr (N' + 1) N' sd q) ([] ++ [q]) st)) (22 - 0) 0 none = some (vb D W pr gb n hr (N' + 1) (N' + 1) sd) := by
      have := @Db_V (vE D pr hr (N' + 1)) (vP D hr (N' + 1)) (fun s => ga W pr s gb n 0) (N' + 1) sd 0 [] none
      refine Eq.trans ?_ (this.trans ?_)
      · rfl
      · show some (shR 0 [] (vb D W pr gb n hr (N' + 1) (N' + 1) sd)) = _
        unfold shR
        rw [Nat.zero_add, List.nil_append]
    rw [vv] at y7
    have e1 : (0 : Int32) < nI (N' + 1) := by
      rw [← lt0, nI_ltI (by decide) (by omega)]
      omega
    have e2 : ¬ nI (N' + 1) = 0 := by
      rw [← lt0, nI_eq (by omega) (by decide)]
      omega
    have e3 : nI 0 + (-1) < 0 := by decide
    have FF : Fx f (u2 f' 114 2 (nI hr)) := F0.fx.trans (F1.fx.trans (y1.trans (Fx.u (by omega))))
    refine ⟨u2 f' 114 2 (nI hr), FF.fq ?_ ?_ ?_, BS.fr (f := f') y7 (u2_nn (by omega)) (u2_nn (by omega)) (u2_n (by omega)), fun r => ?_⟩
    · rw [u2_nn (by omega), y2, m1]
    · rw [u2_ss, m2]
    · rw [u2_nn (by omega), y4, u2_nn (by omega), F0 _ _ (by unfold scq; omega)]
    · have k1' : ∀ r, (Rn sc (d + 8) 154 38 [.ref (114 : Nat), .int (nI (N' + 1)), .int (nI hr), .int 0, mk0] [] (cS (u2 f0 131 0 (-1)) g h1 h2) r ↔ Rn sc (d + 8) 154 38 [.ref (114 : Nat), .int (nI (N' + 1)), .int (nI hr), .int (nI 0 + (-1)), w4] [] (cS f' g h1 h2) r) := k1
      simp only [c154, x154_0, x154_1, x154_2, x154_5, x154_6, x154_9, x154_10, x154_11, x154_12, x154_13, x154_16, x154_17, x154_18, x154_19, x154_20, x154_23, x154_24, x154_25, x154_28, x154_31, x154_32, x154_35, x154_36, x154_37, x154_46, x154_47, x154_48, x154_49, x154_50, x154_53, x154_54, x154_55, x154_58, x154_59, x154_62, x154_63, x154_64, x154_65, x154_68, x154_69, x154_70, x154_73, x154_74, x154_75, x154_78, x154_79, x154_80, x154_82, x154_85, x154_88, x154_91, x154_92, x154_95, x154_96, x154_97, x154_99, x154_102, x154_103, x154_106, x154_107, x154_109, x154_110, x154_113, x154_114, x154_115, x154_116, x154_117, x154_120, x154_121, x154_122, x154_124, x154_127, x154_128, x154_129, x154_132, x154_133, x154_134, x154_136, x154_137, x154_140, x154_141, x154_142, x154_145, x154_146, x154_147, x154_149, x154_150, x154_153, x154_154, x154_157, x154_158, x154_159, x154_160, x154_162, x154_165, x154_166, x154_167, x154_170, x154_171, x154_172, x154_174, x154_175, x154_176, x154_179, x154_180, x154_181, x154_183, x154_184, x154_187, x154_188, x154_189, x154_190, x154_191, x154_194, x154_195, x154_196, x154_199, x154_202, x154_205, x154_206, x154_209, x154_210, x154_211, x154_212, x154_215, x154_216, x154_217, x154_220, kp114, rf114_5, rp114_5, al115, iA115, it115, rf114_6, rp114_6, al116, iA116, it116, rf114_7, rp114_7, al117, iA117, it117, rf114_8, rp114_8, al118, iA118, it118, rf114_9, rp114_9, al119, iA119, it119, rf114_10, rp114_10, al120, iA120, it120, rf114_16, rp114_16, al121, iA121, it121, rf114_17, rp114_17, al122, iA122, it122, rf114_18, rp114_18, al123, iA123, it123, rf114_19, rp114_19, al124, iA124, it124, rf114_20, rp114_20, al125, iA125, it125, rf114_21, rp114_21, al126, iA126, it126, rf114_22, rp114_22, al127, iA127, it127, rf114_23, rp114_23, al128, iA128, it128, rf114_27, rp114_27, al129, iA129, it129, rf114_28, rp114_28, al130, iA130, it130, rf114_29, rp114_29, al131, iA131, it131, rf114_30, rp114_30, al132, iA132, it132, rf114_31, rp114_31, al133, iA133, it133, rf114_41, rp114_41, al134, iA134, it134, rf114_42, rp114_42, al135, iA135, it135, rf114_44, rp114_44, al136, iA136, it136, rf114_45, rp114_45, al137, iA137, it137, rf114_55, rp114_55, al138, iA138, it138, rf114_56, rp114_56, al139, iA139, it139, rf114_57, rp114_57, al140, iA140, it140, rf114_58, rp114_58, al141, iA141, it141, rf114_59, rp114_59, al142, iA142, it142, rf114_60, rp114_60, al143, iA143, it143, rf114_61, rp114_61, al144, iA144, it144, rf114_62, rp114_62, al145, iA145, it145, rf114_63, rp114_63, al146, iA146, it146, rf114_64, rp114_64, al147, iA147, it147, rf114_66, rp114_66, al148, iA148, it148, rf114_67, rp114_67, al149, iA149, it149, rf114_68, rp114_68, al150, iA150, it150, rf114_69, rp114_69, al151, iA151, it151, rf114_70, rp114_70, al152, iA152, it152, al131, iA131, it131, al133, iA133, it133, m2, i0, i1, i4, st1, e2, k1', u2_at, bI_True, bI_False, nI_1, Nat.reduceLeDiff, Nat.reduceEqDiff, nb0, nb1, nbI, eq_self, ex_pr, tl_s, tl_n, if_true, if_false, not_true_eq_false, not_false_eq_true, and_self, and_false, false_and, and_true, true_and]
      simp only [x154_38, x154_39, x154_42, x154_43, x154_215, x154_216, x154_217, x154_220, kp114, rf114_5, rp114_5, al115, iA115, it115, rf114_6, rp114_6, al116, iA116, it116, rf114_7, rp114_7, al117, iA117, it117, rf114_8, rp114_8, al118, iA118, it118, rf114_9, rp114_9, al119, iA119, it119, rf114_10, rp114_10, al120, iA120, it120, rf114_16, rp114_16, al121, iA121, it121, rf114_17, rp114_17, al122, iA122, it122, rf114_18, rp114_18, al123, iA123, it123, rf114_19, rp114_19, al124, iA124, it124, rf114_20, rp114_20, al125, iA125, it125, rf114_21, rp114_21, al126, iA126, it126, rf114_22, rp114_22, al127, iA127, it127, rf114_23, rp114_23, al128, iA128, it128, rf114_27, rp114_27, al129, iA129, it129, rf114_28, rp114_28, al130, iA130, it130, rf114_29, rp114_29, al131, iA131, it131, rf114_30, rp114_30, al132, iA132, it132, rf114_31, rp114_31, al133, iA133, it133, rf114_41, rp114_41, al134, iA134, it134, rf114_42, rp114_42, al135, iA135, it135, rf114_44, rp114_44, al136, iA136, it136, rf114_45, rp114_45, al137, iA137, it137, rf114_55, rp114_55, al138, iA138, it138, rf114_56, rp114_56, al139, iA139, it139, rf114_57, rp114_57, al140, iA140, it140, rf114_58, rp114_58, al141, iA141, it141, rf114_59, rp114_59, al142, iA142, it142, rf114_60, rp114_60, al143, iA143, it143, rf114_61, rp114_61, al144, iA144, it144, rf114_62, rp114_62, al145, iA145, it145, rf114_63, rp114_63, al146, iA146, it146, rf114_64, rp114_64, al147, iA147, it147, rf114_66, rp114_66, al148, iA148, it148, rf114_67, rp114_67, al149, iA149, it149, rf114_68, rp114_68, al150, iA150, it150, rf114_69, rp114_69, al151, iA151, it151, rf114_70, rp114_70, al152, iA152, it152, e1, e3, bI_True, bI_False, nI_1, Nat.reduceLeDiff, Nat.reduceEqDiff, nb0, nb1, nbI, eq_self, ex_pr, tl_s, tl_n, if_true, if_false, not_true_eq_false, not_false_eq_true, and_self, and_false, false_and, and_true, true_and]
end BL
