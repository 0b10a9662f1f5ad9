/-! rows of runs that go: the reference goes through all of them -/
def fcd (x : Nat) : Int32 := if x = 22 then -5 else nI (nuO x)
/-- what the reference has found so far -/
def RS (f : Nat → Nat → Int32) (n : Nat) (st : aQ) : Prop := f 114 34 = nI st.1 ∧ f 114 35 = fcd st.2.1 ∧ f 114 36 = nI st.2.2 ∧ st.2.2 < 2 ^ n
theorem RS.fr {f f' : Nat → Nat → Int32} {n : Nat} {st : aQ} (b : RS f n st) (a1 : f' 114 34 = f 114 34) (a2 : f' 114 35 = f 114 35) (a3 : f' 114 36 = f 114 36) : RS f' n st := ⟨a1.trans b.1, a2.trans b.2.1, a3.trans b.2.2.1, b.2.2.2⟩
def LRo (f f' : Nat → Nat → Int32) (s k n : Nat) (st : aQ) : Prop := Fx f f' ∧ f' 114 1 = nI s ∧ (∃ hx, hx ≤ 19999 ∧ f' 114 2 = nI hx) ∧ f' 114 4 = f 114 4 ∧ (∀ j, j < k → f' 131 j = f 131 j) ∧ RS f' n st
theorem LRo.tr {f f1 f2 : Nat → Nat → Int32} {s1 s2 k1 k n : Nat} {st1 st2 : aQ} (a : LRo f f1 s1 k1 n st1) (b : LRo f1 f2 s2 k n st2) (h : k ≤ k1) : LRo f f2 s2 k n st2 := by
  obtain ⟨a1, a2, a3, a4, a5, a6⟩ := a
  obtain ⟨b1, b2, b3, b4, b5, b6⟩ := b
  exact ⟨a1.trans b1, b2, b3, b4.trans a4, fun j hj => (b5 j hj).trans (a5 j (by omega)), b6⟩
def DSR (sc : aSc) (d : Nat) (g : Nat → Nat → Int64) (h1 h2 : Nat) (D : aD) (n hr N aw pr now told m k : Nat) : Prop := ∀ (s : Nat) (rw : List Nat) (st : aQ) (f : Nat → Nat → Int32) (hx : Nat), MY f D n s hx aw → rw.length = k + 1 → (∀ j, j < k + 1 → f 131 j = nI (nuO (rw.getD j 0)) ∧ rw.getD j 0 < 21) → st.1 + cwR (vE D pr hr N) told m s ≤ 10000 → RS f n st → ∃ f', LRo f f' s (k + 1) n (Drr (vE D pr hr N) now told m s (rw.getD 0 0) st) ∧ ∀ r, (Rn sc (d + 8) 158 185 [.ref (114 : Nat), .int (nI N), .int (nI told), .int (nI hr), .int (nI now), .int (nI k)] [] (cS f g h1 h2) r ↔ Rn sc (d + 8) 158 77 [.ref (114 : Nat), .int (nI N), .int (nI told), .int (nI hr), .int (nI now), .int (nI k)] [] (cS f' g h1 h2) r)
def LAR (sc : aSc) (d : Nat) (g : Nat → Nat → Int64) (h1 h2 : Nat) (D : aD) (n hr N aw pr now told m k : Nat) : Prop := ∀ (j t s : Nat) (rw : List Nat) (st : aQ) (f : Nat → Nat → Int32) (hx : Nat), t ≤ 21 → 21 - t < j → MY f D n (csT s t) hx aw → s < 2 ^ n → f 131 k = cdT t → (∀ q, t = q + 1 → o2 q < n) → rw.length = k → (∀ j, j < k → f 131 j = nI (nuO (rw.getD j 0)) ∧ rw.getD j 0 < 21) → st.1 + lp (cwF (vE D pr hr N m s) (fun q => cwR (vE D pr hr N) told m (flq s q))) (21 - t) t 0 ≤ 10000 → RS f n st → ∃ f', LRo f f' s k n (lp (RFb (vE D pr hr N m s) (fun q st => Drr (vE D pr hr N) now told m (flq s q) ((rw ++ [q]).getD 0 0) (rup now (flq s q) st))) (21 - t) t st) ∧ ∀ r, (Rn sc (d + 8) 158 77 [.ref (114 : Nat), .int (nI N), .int (nI told), .int (nI hr), .int (nI now), .int (nI k)] [] (cS f g h1 h2) r ↔ Rn sc (d + 8) 158 77 [.ref (114 : Nat), .int (nI N), .int (nI told), .int (nI hr), .int (nI now), .int (nI k + (-1))] [] (cS f' g h1 h2) r)
theorem fcd_lt {x : Nat} (h : x < 22) : fcd x = nI (nuO x) := if_neg (by omega)
section RM
variable {sc : aSc} {d : Nat} {r : aRes} {f : Nat → Nat → Int32} {g : Nat → Nat → Int64} {h1 h2 : Nat} {n hr wn dk sd gb pc bc : Nat} {W : Nat → Nat} {D : aD} {hc : Nat} {HS : Nat → aH} {σ : aS}
theorem dsr0 {N aw pr now told k : Nat} (hN : N ≤ 3) (hk : k + 1 = N) (ht : told < 128) : DSR sc d g h1 h2 D n hr N aw pr now told 0 k := by
  intro s rw st f hx C hl hrw hb R
  subst hk
  have n7 := C.2.1
  have m1 := C.2.2.2.1
  have sb7 := go_lt n7 C.2.2.2.2.2.2.1
  have e1 : nI (k + 1) - 1 = nI k := by rw [← lt1, pk_sub (by omega)]; rfl
  have e2 := @nI_eq s told (by omega) (by omega)
  obtain ⟨r1, r2, r3, r4⟩ := R
  have dr : Drr (vE D pr hr (k + 1)) now told 0 s (rw.getD 0 0) st = if s = told then (st.1 + 1, if st.1 = 0 then rw.getD 0 0 else st.2.1, st.2.2) else st := rfl
  have cw : cwR (vE D pr hr (k + 1)) told 0 s = if s = told then 1 else 0 := rfl
  rw [dr]
  rw [cw] at hb
  by_cases z : s = told
  · rw [if_pos z] at hb ⊢
    have q1 := hrw 0 (by omega)
    have z0 := @nI_eq st.1 0 (by omega) (by decide)
    rw [lt0] at z0
    have z1 : nI st.1 + 1 = nI (st.1 + 1) := by rw [← lt1, nI_add]
    have i0 : inb 0 4 = true := by decide
    have i00 : (0 : Int32).toNatClampNeg = 0 := by decide
    obtain ⟨fv, efv⟩ : ∃ fv, fv = fcd (if st.1 = 0 then rw.getD 0 0 else st.2.1) := ⟨_, rfl⟩
    refine ⟨u2 (u2 f 114 35 fv) 114 34 (nI (st.1 + 1)), ⟨fun q j a b => ?_, ?_, ⟨hx, C.2.2.2.2.2.2.2, ?_⟩, ?_, fun j _ => ?_, ?_, ?_, ?_, r4⟩, fun r => ?_⟩
    · rw [u2_nn (fun e => a (by unfold scq; omega)), u2_nn (fun e => a (by unfold scq; omega))]
    · rw [u2_nn (by omega), u2_nn (by omega), m1]
    · rw [u2_nn (by omega), u2_nn (by omega)]
      exact C.2.2.2.2.1
    · rw [u2_nn (by omega), u2_nn (by omega)]
    · rw [u2_nn (by omega), u2_nn (by omega)]
    · rw [u2_ss]
    · rw [u2_nn (by omega), u2_ss, efv]
    · rw [u2_nn (by omega), u2_nn (by omega)]
      exact r3
    · by_cases y : st.1 = 0
      · rw [if_pos y, fcd_lt (by omega), ← q1.1] at efv
        rw [efv]
        simp only [x158_185, x158_187, x158_188, x158_189, x158_190, x158_193, x158_194, x158_197, x158_198, x158_201, x158_202, x158_203, x158_206, x158_209, x158_210, x158_213, x158_214, x158_215, x158_222, x158_225, x158_226, x158_227, x158_230, x158_231, x158_232, x158_235, kp114, rf114_5, rp114_5, al115, iA115, it115, rf114_6, rp114_6, al116, iA116, it116, rf114_7, rp114_7, al117, iA117, it117, rf114_8, rp114_8, al118, iA118, it118, rf114_9, rp114_9, al119, iA119, it119, rf114_10, rp114_10, al120, iA120, it120, rf114_16, rp114_16, al121, iA121, it121, rf114_17, rp114_17, al122, iA122, it122, rf114_18, rp114_18, al123, iA123, it123, rf114_19, rp114_19, al124, iA124, it124, rf114_20, rp114_20, al125, iA125, it125, rf114_21, rp114_21, al126, iA126, it126, rf114_22, rp114_22, al127, iA127, it127, rf114_23, rp114_23, al128, iA128, it128, rf114_27, rp114_27, al129, iA129, it129, rf114_28, rp114_28, al130, iA130, it130, rf114_29, rp114_29, al131, iA131, it131, rf114_30, rp114_30, al132, iA132, it132, rf114_31, rp114_31, al133, iA133, it133, rf114_41, rp114_41, al134, iA134, it134, rf114_42, rp114_42, al135, iA135, it135, rf114_44, rp114_44, al136, iA136, it136, rf114_45, rp114_45, al137, iA137, it137, rf114_55, rp114_55, al138, iA138, it138, rf114_56, rp114_56, al139, iA139, it139, rf114_57, rp114_57, al140, iA140, it140, rf114_58, rp114_58, al141, iA141, it141, rf114_59, rp114_59, al142, iA142, it142, rf114_60, rp114_60, al143, iA143, it143, rf114_61, rp114_61, al144, iA144, it144, rf114_62, rp114_62, al145, iA145, it145, rf114_63, rp114_63, al146, iA146, it146, rf114_64, rp114_64, al147, iA147, it147, rf114_66, rp114_66, al148, iA148, it148, rf114_67, rp114_67, al149, iA149, it149, rf114_68, rp114_68, al150, iA150, it150, rf114_69, rp114_69, al151, iA151, it151, rf114_70, rp114_70, al152, iA152, it152, al131, iA131, it131, e1, m1, e2, eq_true z, r1, z0, eq_true y, i0, i00, z1, u2_at, bI_True, bI_False, nI_1, Nat.reduceLeDiff, Nat.reduceEqDiff, nb0, nb1, nbI, eq_self, ex_pr, tl_s, tl_n, if_true, if_false, not_true_eq_false, not_false_eq_true, and_self, and_false, false_and, and_true, true_and]
      · rw [if_neg y, ← r2] at efv
        rw [efv]
        simp only [x158_185, x158_187, x158_188, x158_189, x158_190, x158_193, x158_194, x158_197, x158_198, x158_201, x158_202, x158_203, x158_206, x158_218, x158_219, x158_222, x158_225, x158_226, x158_227, x158_230, x158_231, x158_232, x158_235, kp114, rf114_5, rp114_5, al115, iA115, it115, rf114_6, rp114_6, al116, iA116, it116, rf114_7, rp114_7, al117, iA117, it117, rf114_8, rp114_8, al118, iA118, it118, rf114_9, rp114_9, al119, iA119, it119, rf114_10, rp114_10, al120, iA120, it120, rf114_16, rp114_16, al121, iA121, it121, rf114_17, rp114_17, al122, iA122, it122, rf114_18, rp114_18, al123, iA123, it123, rf114_19, rp114_19, al124, iA124, it124, rf114_20, rp114_20, al125, iA125, it125, rf114_21, rp114_21, al126, iA126, it126, rf114_22, rp114_22, al127, iA127, it127, rf114_23, rp114_23, al128, iA128, it128, rf114_27, rp114_27, al129, iA129, it129, rf114_28, rp114_28, al130, iA130, it130, rf114_29, rp114_29, al131, iA131, it131, rf114_30, rp114_30, al132, iA132, it132, rf114_31, rp114_31, al133, iA133, it133, rf114_41, rp114_41, al134, iA134, it134, rf114_42, rp114_42, al135, iA135, it135, rf114_44, rp114_44, al136, iA136, it136, rf114_45, rp114_45, al137, iA137, it137, rf114_55, rp114_55, al138, iA138, it138, rf114_56, rp114_56, al139, iA139, it139, rf114_57, rp114_57, al140, iA140, it140, rf114_58, rp114_58, al141, iA141, it141, rf114_59, rp114_59, al142, iA142, it142, rf114_60, rp114_60, al143, iA143, it143, rf114_61, rp114_61, al144, iA144, it144, rf114_62, rp114_62, al145, iA145, it145, rf114_63, rp114_63, al146, iA146, it146, rf114_64, rp114_64, al147, iA147, it147, rf114_66, rp114_66, al148, iA148, it148, rf114_67, rp114_67, al149, iA149, it149, rf114_68, rp114_68, al150, iA150, it150, rf114_69, rp114_69, al151, iA151, it151, rf114_70, rp114_70, al152, iA152, it152, al131, iA131, it131, e1, m1, e2, eq_true z, r1, z0, eq_false y, z1, u2_at, bI_True, bI_False, nI_1, Nat.reduceLeDiff, Nat.reduceEqDiff, nb0, nb1, nbI, eq_self, ex_pr, tl_s, tl_n, if_true, if_false, not_true_eq_false, not_false_eq_true, and_self, and_false, false_and, and_true, true_and]
  · rw [if_neg z]
    refine ⟨f, ⟨Fx.refl, m1, ⟨hx, C.2.2.2.2.2.2.2, C.2.2.2.2.1⟩, rfl, fun _ _ => rfl, r1, r2, r3, r4⟩, fun r => ?_⟩
    simp only [x158_185, x158_187, x158_188, x158_189, x158_190, x158_193, x158_194, x158_197, x158_198, kp114, rf114_5, rp114_5, al115, iA115, it115, rf114_6, rp114_6, al116, iA116, it116, rf114_7, rp114_7, al117, iA117, it117, rf114_8, rp114_8, al118, iA118, it118, rf114_9, rp114_9, al119, iA119, it119, rf114_10, rp114_10, al120, iA120, it120, rf114_16, rp114_16, al121, iA121, it121, rf114_17, rp114_17, al122, iA122, it122, rf114_18, rp114_18, al123, iA123, it123, rf114_19, rp114_19, al124, iA124, it124, rf114_20, rp114_20, al125, iA125, it125, rf114_21, rp114_21, al126, iA126, it126, rf114_22, rp114_22, al127, iA127, it127, rf114_23, rp114_23, al128, iA128, it128, rf114_27, rp114_27, al129, iA129, it129, rf114_28, rp114_28, al130, iA130, it130, rf114_29, rp114_29, al131, iA131, it131, rf114_30, rp114_30, al132, iA132, it132, rf114_31, rp114_31, al133, iA133, it133, rf114_41, rp114_41, al134, iA134, it134, rf114_42, rp114_42, al135, iA135, it135, rf114_44, rp114_44, al136, iA136, it136, rf114_45, rp114_45, al137, iA137, it137, rf114_55, rp114_55, al138, iA138, it138, rf114_56, rp114_56, al139, iA139, it139, rf114_57, rp114_57, al140, iA140, it140, rf114_58, rp114_58, al141, iA141, it141, rf114_59, rp114_59, al142, iA142, it142, rf114_60, rp114_60, al143, iA143, it143, rf114_61, rp114_61, al144, iA144, it144, rf114_62, rp114_62, al145, iA145, it145, rf114_63, rp114_63, al146, iA146, it146, rf114_64, rp114_64, al147, iA147, it147, rf114_66, rp114_66, al148, iA148, it148, rf114_67, rp114_67, al149, iA149, it149, rf114_68, rp114_68, al150, iA150, it150, rf114_69, rp114_69, al151, iA151, it151, rf114_70, rp114_70, al152, iA152, it152, e1, m1, e2, eq_false z, bI_True, bI_False, nI_1, Nat.reduceLeDiff, Nat.reduceEqDiff, nb0, nb1, nbI, eq_self, ex_pr, tl_s, tl_n, if_true, if_false, not_true_eq_false, not_false_eq_true, and_self, and_false, false_and, and_true, true_and]
theorem larS {N aw pr now told m k : Nat} (A : PRA pr n aw) (hN : N ≤ 3) (hr9 : hr ≤ 9999) (hnow : now < 2 ^ n) (hk : m + 1 + k = N) (H : DSR sc d g h1 h2 D n hr N aw pr now told m k) : LAR sc d g h1 h2 D n hr N aw pr now told m k := by
  intro j
  induction j with
  | zero => exact fun t s rw st f hx _ h => absurd h (by omega)
  | succ j IH =>
    intro t s rw st f hx ht hj C hs ek eq hl hrw hb R
    have n7 := C.2.1
    have x0 : (0 : Int32) < nI N := by
      rw [← lt0, nI_ltI (by decide) (by omega)]
      omega
    have x1 : ¬ nI k < 0 := nI_pos (by omega)
    have C1 := C.hour (hr' := hr + k) (by omega)
    have i1 : inb (nI k) 4 = true := inb_nI (by omega) (by decide)
    have i2 : (nI k).toNatClampNeg = k := cl_nI (by omega)
    have kb := fun d r => @s153 sc d r (u2 f 114 2 (nI (hr + k))) g h1 h2 s t k (by omega) (by omega) (by rw [u2_nn (by omega)]; exact ek) C1.2.2.2.1
    have C2 : MY (u2 (u2 f 114 2 (nI (hr + k))) 114 1 (nI s)) D n s (hr + k) aw := C1.side hs
    obtain ⟨f2, ef2⟩ : ∃ f2, f2 = u2 (u2 f 114 2 (nI (hr + k))) 114 1 (nI s) := ⟨_, rfl⟩
    rw [← ef2] at C2 kb
    have E2 : ∀ q j, ¬ (q = 114 ∧ (j = 1 ∨ j = 2)) → f2 q j = f q j := fun q j hq => by rw [ef2, u2_nn (by omega), u2_nn (by omega)]
    have ek2 : f2 131 k = cdT t := by rw [E2 _ _ (by omega)]; exact ek
    obtain ⟨f3, F3, k3⟩ := @s151 sc d f2 g h1 h2 n D s (hr + k) aw pr t A C2 ht eq
    obtain ⟨p1, p2, p3, p4⟩ := @nxt_p (VD D pr s (hr + k)) (21 - t) t (by omega)
    obtain ⟨q, eqq⟩ : ∃ q, q = nxt (VD D pr s (hr + k)) t := ⟨_, rfl⟩
    rw [← eqq] at k3 p1 p2 p3 p4
    have vE1 : vE D pr hr N m s = VD D pr s (hr + k) := by
      unfold vE
      rw [show N - 1 - m = k by omega]
    have C3 := C2.sm F3
    have E3 : ∀ a b, a ≠ 130 → f3 a b = f2 a b := fun a b h => by rw [F3 a h]
    have nq := nuO_lt q (by omega)
    have idl : ∀ (u : Nat) (st : aQ), lp (RFb (vE D pr hr N m s) (fun q st => Drr (vE D pr hr N) now told m (flq s q) ((rw ++ [q]).getD 0 0) (rup now (flq s q) st))) (q - t) t st = st := fun _ st => lp_id (q - t) t st fun u a b st => by
      unfold RFb
      rw [if_neg]
      intro z
      rw [vE1, p4 u a (by omega)] at z
      cases z
    have idw : lp (cwF (vE D pr hr N m s) (fun q => cwR (vE D pr hr N) told m (flq s q))) (q - t) t 0 = 0 := lp_id (q - t) t 0 fun u a b st => by
      unfold cwF
      rw [if_neg]
      intro z
      rw [vE1, p4 u a (by omega)] at z
      cases z
    by_cases q21 : q = 21
    · have e99 : nI (nuO q) = 99 := by rw [q21]; rfl
      rw [e99] at k3
      have lt98 : (98 : Int32) < 99 := by decide
      have st1 : lp (RFb (vE D pr hr N m s) (fun q st => Drr (vE D pr hr N) now told m (flq s q) ((rw ++ [q]).getD 0 0) (rup now (flq s q) st))) (21 - t) t st = st := by
        rw [show 21 - t = q - t by omega]
        exact idl 0 st
      rw [st1]
      refine ⟨u2 (u2 f3 131 k 99) 131 k 99, ⟨fun a b x y => ?_, ?_, ⟨hr + k, by omega, ?_⟩, ?_, fun j hj' => ?_, ?_⟩, fun r => ?_⟩
      · rw [u2_nn (fun e => x (by unfold scq; omega)), u2_nn (fun e => x (by unfold scq; omega)), E3 _ _ (fun e => x (by unfold scq; omega)), E2 _ _ (by omega)]
      · rw [u2_nn (by omega), u2_nn (by omega)]
        exact C3.2.2.2.1
      · rw [u2_nn (by omega), u2_nn (by omega)]
        exact C3.2.2.2.2.1
      · rw [u2_nn (by omega), u2_nn (by omega), E3 _ _ (by omega), E2 _ _ (by omega)]
      · rw [u2_nn (by omega), u2_nn (by omega), E3 _ _ (by omega), E2 _ _ (by omega)]
      · exact R.fr (by rw [u2_nn (by omega), u2_nn (by omega), E3 _ _ (by omega), E2 _ _ (by omega)]) (by rw [u2_nn (by omega), u2_nn (by omega), E3 _ _ (by omega), E2 _ _ (by omega)]) (by rw [u2_nn (by omega), u2_nn (by omega), E3 _ _ (by omega), E2 _ _ (by omega)])
      · simp only [x158_77 (x1 := nI N) (a5 := .int (nI k)), x158_78, x158_81, x158_83, x158_86, x158_87, x158_88, x158_90, x158_91, x158_94, x158_95, x158_97, x158_100, x158_101, x158_104, x158_106, x158_107, x158_108, x158_111, x158_113, x158_114, x158_117, x158_118, x158_119, x158_122, x158_124, x158_125, x158_127, x158_130, x158_131, x158_134, x158_136, x158_138, x158_139, x158_142, kp114, rf114_5, rp114_5, al115, iA115, it115, rf114_6, rp114_6, al116, iA116, it116, rf114_7, rp114_7, al117, iA117, it117, rf114_8, rp114_8, al118, iA118, it118, rf114_9, rp114_9, al119, iA119, it119, rf114_10, rp114_10, al120, iA120, it120, rf114_16, rp114_16, al121, iA121, it121, rf114_17, rp114_17, al122, iA122, it122, rf114_18, rp114_18, al123, iA123, it123, rf114_19, rp114_19, al124, iA124, it124, rf114_20, rp114_20, al125, iA125, it125, rf114_21, rp114_21, al126, iA126, it126, rf114_22, rp114_22, al127, iA127, it127, rf114_23, rp114_23, al128, iA128, it128, rf114_27, rp114_27, al129, iA129, it129, rf114_28, rp114_28, al130, iA130, it130, rf114_29, rp114_29, al131, iA131, it131, rf114_30, rp114_30, al132, iA132, it132, rf114_31, rp114_31, al133, iA133, it133, rf114_41, rp114_41, al134, iA134, it134, rf114_42, rp114_42, al135, iA135, it135, rf114_44, rp114_44, al136, iA136, it136, rf114_45, rp114_45, al137, iA137, it137, rf114_55, rp114_55, al138, iA138, it138, rf114_56, rp114_56, al139, iA139, it139, rf114_57, rp114_57, al140, iA140, it140, rf114_58, rp114_58, al141, iA141, it141, rf114_59, rp114_59, al142, iA142, it142, rf114_60, rp114_60, al143, iA143, it143, rf114_61, rp114_61, al144, iA144, it144, rf114_62, rp114_62, al145, iA145, it145, rf114_63, rp114_63, al146, iA146, it146, rf114_64, rp114_64, al147, iA147, it147, rf114_66, rp114_66, al148, iA148, it148, rf114_67, rp114_67, al149, iA149, it149, rf114_68, rp114_68, al150, iA150, it150, rf114_69, rp114_69, al151, iA151, it151, rf114_70, rp114_70, al152, iA152, it152, al131, iA131, it131, x0, x1, nI_add, kb, i1, i2, ek2, k3, u2_ss, lt98, bI_True, bI_False, nI_1, Nat.reduceLeDiff, Nat.reduceEqDiff, nb0, nb1, nbI, eq_self, ex_pr, tl_s, tl_n, if_true, if_false, not_true_eq_false, not_false_eq_true, and_self, and_false, false_and, and_true, true_and]
    · have yv' : VD D pr s (hr + k) q = true := p3 (by omega)
      obtain ⟨v1, v2, v3, v5⟩ := VD_p yv'
      have q1 := pr_lt A.1 v2
      have q2 := pr_lt A.1 v3
      have o := o12 q v1
      obtain ⟨n1, n2, n3⟩ := nu_dm q v1
      obtain ⟨fo1, fo2⟩ := flq_ok A.1 n7 hs p2 (Or.inr yv')
      have lt98 : ¬ (98 : Int32) < nI (nuO q) := by
        rw [show (98 : Int32) = nI 98 from rfl, nI_ltI (by decide) (by omega)]
        omega
      have e3 : nI (nuO q) / 10 = nI (o1 q) := by
        rw [← lt10, nI_div (by omega) (by decide), n1]
      have e4 : nI (nuO q) % 10 = nI (o2 q) := by
        rw [← lt10, nI_rem (by omega) (by decide), n2]
      have e10 : ¬ (10 : Int32) = 0 := by decide
      obtain ⟨f4, ef4⟩ : ∃ f4, f4 = u2 f3 131 k (nI (nuO q)) := ⟨_, rfl⟩
      have F4 : Fq f3 f4 := by rw [ef4]; exact Fq.u (by unfold scq; omega)
      have C4 := C3.fq F4
      have E4 : ∀ a b, a ≠ 130 → ¬ (a = 131 ∧ b = k) → f4 a b = f2 a b := fun a b h h' => by rw [ef4, u2_nn h', E3 a b h]
      have e4k : f4 131 k = nI (nuO q) := by rw [ef4, u2_ss]
      have k7 := fun d r => s142 (sc := sc) (d := d) (r := r) (f := f4) (g := g) (h1 := h1) (h2 := h2) (a := o1 q) (b := o2 q) (sd := s) (by omega) (by omega) C4.2.2.2.1
      rw [← flq_p v1] at k7
      obtain ⟨r1, r2, r3, r4⟩ := R
      have r3' : f4 114 36 = nI st.2.2 := by rw [E4 _ _ (by omega) (by omega), E2 _ _ (by omega)]; exact r3
      obtain ⟨f8, ef8⟩ : ∃ f8, f8 = u2 (u2 f4 114 1 (nI (flq s q))) 114 36 (nI (st.2.2 ||| (flq s q ^^^ now))) := ⟨_, rfl⟩
      have C8 : MY f8 D n (flq s q) (hr + k) aw := by
        rw [ef8]
        exact (C4.side fo1).fq (Fq.u (by unfold scq; omega))
      have E8 : ∀ a b, ¬ (a = 114 ∧ (b = 1 ∨ b = 2 ∨ b = 36)) → a ≠ 130 → ¬ (a = 131 ∧ b = k) → f8 a b = f a b := fun a b x y z => by
        rw [ef8, u2_nn (by omega), u2_nn (by omega), E4 a b y z, E2 a b (by omega)]
      have r8 : f8 131 k = nI (nuO q) := by rw [ef8, u2_nn (by omega), u2_nn (by omega)]; exact e4k
      have X8 : Fx f f8 := fun a b h h' => E8 a b (fun e => h (by unfold scq; omega)) (fun e => h (by unfold scq; omega)) (fun e => h (by unfold scq; omega))
      have R8 : RS f8 n (rup now (flq s q) st) := by
        refine ⟨?_, ?_, ?_, ?_⟩
        · rw [E8 _ _ (by omega) (by omega) (by omega)]
          exact r1
        · rw [E8 _ _ (by omega) (by omega) (by omega)]
          exact r2
        · rw [ef8, u2_ss]
          rfl
        · exact Nat.or_lt_two_pow r4 (Nat.xor_lt_two_pow fo1 hnow)
      have k8 : ∀ r, (Rn sc (d + 8) 158 77 [.ref (114 : Nat), .int (nI N), .int (nI told), .int (nI hr), .int (nI now), .int (nI k)] [] (cS f g h1 h2) r ↔ Rn sc (d + 8) 158 185 [.ref (114 : Nat), .int (nI N), .int (nI told), .int (nI hr), .int (nI now), .int (nI k)] [] (cS f8 g h1 h2) r) := fun r => by
        have st1 : cS (u2 f3 131 k (nI (nuO q))) g h1 h2 = cS f4 g h1 h2 := by rw [ef4]
        have st2 : cS (u2 (u2 f4 114 1 (nI (flq s q))) 114 36 (nI (st.2.2 ||| (flq s q ^^^ now)))) g h1 h2 = cS f8 g h1 h2 := by rw [ef8]
        simp only [x158_77 (x1 := nI N) (a5 := .int (nI k)), x158_78, x158_81, x158_83, x158_86, x158_87, x158_88, x158_90, x158_91, x158_94, x158_95, x158_97, x158_100, x158_101, x158_104, x158_106, x158_107, x158_108, x158_111, x158_113, x158_114, x158_117, x158_118, x158_119, x158_122, x158_124, x158_125, x158_127, x158_145, x158_146, x158_147, x158_150, x158_152, x158_153, x158_155, x158_156, x158_157, x158_160, x158_162, x158_163, x158_165, x158_166, x158_169, x158_170, x158_171, x158_174, x158_175, x158_178, x158_180, x158_181, x158_182, kp114, rf114_5, rp114_5, al115, iA115, it115, rf114_6, rp114_6, al116, iA116, it116, rf114_7, rp114_7, al117, iA117, it117, rf114_8, rp114_8, al118, iA118, it118, rf114_9, rp114_9, al119, iA119, it119, rf114_10, rp114_10, al120, iA120, it120, rf114_16, rp114_16, al121, iA121, it121, rf114_17, rp114_17, al122, iA122, it122, rf114_18, rp114_18, al123, iA123, it123, rf114_19, rp114_19, al124, iA124, it124, rf114_20, rp114_20, al125, iA125, it125, rf114_21, rp114_21, al126, iA126, it126, rf114_22, rp114_22, al127, iA127, it127, rf114_23, rp114_23, al128, iA128, it128, rf114_27, rp114_27, al129, iA129, it129, rf114_28, rp114_28, al130, iA130, it130, rf114_29, rp114_29, al131, iA131, it131, rf114_30, rp114_30, al132, iA132, it132, rf114_31, rp114_31, al133, iA133, it133, rf114_41, rp114_41, al134, iA134, it134, rf114_42, rp114_42, al135, iA135, it135, rf114_44, rp114_44, al136, iA136, it136, rf114_45, rp114_45, al137, iA137, it137, rf114_55, rp114_55, al138, iA138, it138, rf114_56, rp114_56, al139, iA139, it139, rf114_57, rp114_57, al140, iA140, it140, rf114_58, rp114_58, al141, iA141, it141, rf114_59, rp114_59, al142, iA142, it142, rf114_60, rp114_60, al143, iA143, it143, rf114_61, rp114_61, al144, iA144, it144, rf114_62, rp114_62, al145, iA145, it145, rf114_63, rp114_63, al146, iA146, it146, rf114_64, rp114_64, al147, iA147, it147, rf114_66, rp114_66, al148, iA148, it148, rf114_67, rp114_67, al149, iA149, it149, rf114_68, rp114_68, al150, iA150, it150, rf114_69, rp114_69, al151, iA151, it151, rf114_70, rp114_70, al152, iA152, it152, al131, iA131, it131, x0, x1, nI_add, kb, i1, i2, ek2, k3, st1, e4k, lt98, e3, e4, e10, k7, u2_ss, u2_at, r3', nI_xor, nI_or, st2, bI_True, bI_False, nI_1, Nat.reduceLeDiff, Nat.reduceEqDiff, nb0, nb1, nbI, eq_self, ex_pr, tl_s, tl_n, if_true, if_false, not_true_eq_false, not_false_eq_true, and_self, and_false, false_and, and_true, true_and]
      have gd : ∀ j, j < k → (rw ++ [q]).getD j 0 = rw.getD j 0 := fun j hj => by
        rw [List.getD_eq_getElem?_getD, List.getD_eq_getElem?_getD, List.getElem?_append_left (by omega)]
      have gk : (rw ++ [q]).getD k 0 = q := by
        rw [List.getD_eq_getElem?_getD, List.getElem?_append_right (by omega), hl, Nat.sub_self]
        rfl
      have wst : lp (cwF (vE D pr hr N m s) (fun q => cwR (vE D pr hr N) told m (flq s q))) (21 - t) t 0 = cwR (vE D pr hr N) told m (flq s q) + lp (cwF (vE D pr hr N m s) (fun q => cwR (vE D pr hr N) told m (flq s q))) (21 - (q + 1)) (q + 1) 0 := by
        rw [show 21 - t = (q - t) + ((21 - (q + 1)) + 1) by omega, lp_add, show t + (q - t) = q by omega, idw]
        show lp _ (21 - (q + 1)) (q + 1) (cwF (vE D pr hr N m s) (fun q => cwR (vE D pr hr N) told m (flq s q)) q 0) = _
        rw [lp_cw]
        congr 1
        unfold cwF
        rw [vE1, if_pos yv', Nat.zero_add]
      rw [wst] at hb
      obtain ⟨f9, O9, k9⟩ := H (flq s q) (rw ++ [q]) (rup now (flq s q) st) f8 (hr + k) C8 (by rw [List.length_append, hl]; rfl) (fun j hj => by
        by_cases e : j = k
        · subst e
          rw [r8, gk]
          exact ⟨rfl, v1⟩
        · rw [E8 _ _ (by omega) (by omega) (by omega), gd j (by omega)]
          exact hrw j (by omega)) (by show st.1 + _ ≤ 10000; omega) R8
      have O9' := O9
      obtain ⟨y1, y2, y3, y4, y5, y6⟩ := O9
      obtain ⟨hx9, C9⟩ := Fx.my C8 y1 y2 y3 y4 fo1
      have ds := (@Drr_s (vE D pr hr N) now told 0 m (flq s q) ((rw ++ [q]).getD 0 0) (rup now (flq s q) st)).1
      obtain ⟨fA, OA, kA⟩ := IH (q + 1) s rw (Drr (vE D pr hr N) now told m (flq s q) ((rw ++ [q]).getD 0 0) (rup now (flq s q) st)) f9 hx9 (by omega) (by omega) C9 hs (by rw [y5 k (by omega)]; exact r8) (fun q' e => by
        have : q' = q := by omega
        rw [this]
        exact q2) hl (fun j hj => by rw [y5 j (by omega), E8 _ _ (by omega) (by omega) (by omega)]; exact hrw j hj) (by
        rw [ds]
        show st.1 + cwR (vE D pr hr N) told m (flq s q) + _ ≤ 10000
        omega) y6
      have st2 : lp (RFb (vE D pr hr N m s) (fun q st => Drr (vE D pr hr N) now told m (flq s q) ((rw ++ [q]).getD 0 0) (rup now (flq s q) st))) (21 - t) t st = lp (RFb (vE D pr hr N m s) (fun q st => Drr (vE D pr hr N) now told m (flq s q) ((rw ++ [q]).getD 0 0) (rup now (flq s q) st))) (21 - (q + 1)) (q + 1) (Drr (vE D pr hr N) now told m (flq s q) ((rw ++ [q]).getD 0 0) (rup now (flq s q) st)) := by
        rw [show 21 - t = (q - t) + ((21 - (q + 1)) + 1) by omega, lp_add, show t + (q - t) = q by omega, idl 0 st]
        show lp _ (21 - (q + 1)) (q + 1) (RFb (vE D pr hr N m s) (fun q st => Drr (vE D pr hr N) now told m (flq s q) ((rw ++ [q]).getD 0 0) (rup now (flq s q) st)) q st) = _
        congr 1
        unfold RFb
        rw [vE1, if_pos yv']
      rw [st2]
      refine ⟨fA, ?_, fun r => (k8 r).trans ((k9 r).trans (kA r))⟩
      obtain ⟨a1, a2, a3, a4, a5, a6⟩ := O9'.tr OA (by omega)
      exact ⟨X8.trans a1, a2, a3, a4.trans (E8 _ _ (by omega) (by omega) (by omega)), fun j hj => (a5 j hj).trans (E8 _ _ (by omega) (by omega) (by omega)), a6⟩
theorem dsrS {N aw pr now told m k : Nat} (hN : N ≤ 3) (hk : m + 1 + (k + 1) = N) (H : LAR sc d g h1 h2 D n hr N aw pr now told m (k + 1)) : DSR sc d g h1 h2 D n hr N aw pr now told (m + 1) k := by
  intro s rw st f hx C hl hrw hb R
  have F1 : Fq f (u2 f 131 (k + 1) (-1)) := Fq.u (by unfold scq; omega)
  obtain ⟨f', O, k1⟩ := H 200 0 s rw st (u2 f 131 (k + 1) (-1)) hx (by omega) (by omega) (C.fq F1) C.2.2.2.2.2.2.1 u2_ss (fun q e => absurd e (by omega)) hl (fun j hj => by rw [u2_nn (by omega)]; exact hrw j hj) hb (R.fr (u2_nn (by omega)) (u2_nn (by omega)) (u2_nn (by omega)))
  obtain ⟨o1, o2, o3, o4, o5, o6⟩ := O
  have e1 : nI N - 1 = nI (N - 1) := by rw [← lt1, pk_sub (by omega)]
  have e2 := @nI_eq k (N - 1) (by omega) (by omega)
  have e3 : ¬ k = N - 1 := by omega
  have z1 : nI k + 1 = nI (k + 1) := by rw [← lt1, nI_add]
  have z2 : nI (k + 1) + (-1) = nI k := by
    rw [show (-1 : Int32) = iI (-1) from rfl, iI_N, iI_add, iI_N]
    congr 1
    omega
  have i1 : inb (nI (k + 1)) 4 = true := inb_nI (by omega) (by decide)
  have i2 : (nI (k + 1)).toNatClampNeg = k + 1 := cl_nI (by omega)
  rw [z2] at k1
  have eqL : lp (RFb (vE D pr hr N m s) (fun q st => Drr (vE D pr hr N) now told m (flq s q) ((rw ++ [q]).getD 0 0) (rup now (flq s q) st))) (21 - 0) 0 st = Drr (vE D pr hr N) now told (m + 1) s (rw.getD 0 0) st := by
    show _ = lp (RFb (vE D pr hr N m s) (fun q st => Drr (vE D pr hr N) now told m (flq s q) (rw.getD 0 0) (rup now (flq s q) st))) 21 0 st
    refine lp_cong 21 0 st fun q _ _ st => ?_
    unfold RFb
    dsimp only
    rw [show (rw ++ [q]).getD 0 0 = rw.getD 0 0 by
      rw [List.getD_eq_getElem?_getD, List.getD_eq_getElem?_getD, List.getElem?_append_left (by omega)]]
  rw [eqL] at o6
  refine ⟨f', ⟨F1.fx.trans o1, o2, o3, o4.trans (u2_nn (by omega)), fun j hj => (o5 j hj).trans (u2_nn (by omega)), o6⟩, fun r => ?_⟩
  rw [← k1 r]
  simp only [x158_185, x158_187, x158_188, x158_189, x158_190, x158_238, x158_241, x158_242, x158_245, x158_247, x158_248, x158_249, kp114, rf114_5, rp114_5, al115, iA115, it115, rf114_6, rp114_6, al116, iA116, it116, rf114_7, rp114_7, al117, iA117, it117, rf114_8, rp114_8, al118, iA118, it118, rf114_9, rp114_9, al119, iA119, it119, rf114_10, rp114_10, al120, iA120, it120, rf114_16, rp114_16, al121, iA121, it121, rf114_17, rp114_17, al122, iA122, it122, rf114_18, rp114_18, al123, iA123, it123, rf114_19, rp114_19, al124, iA124, it124, rf114_20, rp114_20, al125, iA125, it125, rf114_21, rp114_21, al126, iA126, it126, rf114_22, rp114_22, al127, iA127, it127, rf114_23, rp114_23, al128, iA128, it128, rf114_27, rp114_27, al129, iA129, it129, rf114_28, rp114_28, al130, iA130, it130, rf114_29, rp114_29, al131, iA131, it131, rf114_30, rp114_30, al132, iA132, it132, rf114_31, rp114_31, al133, iA133, it133, rf114_41, rp114_41, al134, iA134, it134, rf114_42, rp114_42, al135, iA135, it135, rf114_44, rp114_44, al136, iA136, it136, rf114_45, rp114_45, al137, iA137, it137, rf114_55, rp114_55, al138, iA138, it138, rf114_56, rp114_56, al139, iA139, it139, rf114_57, rp114_57, al140, iA140, it140, rf114_58, rp114_58, al141, iA141, it141, rf114_59, rp114_59, al142, iA142, it142, rf114_60, rp114_60, al143, iA143, it143, rf114_61, rp114_61, al144, iA144, it144, rf114_62, rp114_62, al145, iA145, it145, rf114_63, rp114_63, al146, iA146, it146, rf114_64, rp114_64, al147, iA147, it147, rf114_66, rp114_66, al148, iA148, it148, rf114_67, rp114_67, al149, iA149, it149, rf114_68, rp114_68, al150, iA150, it150, rf114_69, rp114_69, al151, iA151, it151, rf114_70, rp114_70, al152, iA152, it152, al131, iA131, it131, e1, e2, e3, z1, i1, i2, bI_True, bI_False, nI_1, Nat.reduceLeDiff, Nat.reduceEqDiff, nb0, nb1, nbI, eq_self, ex_pr, tl_s, tl_n, if_true, if_false, not_true_eq_false, not_false_eq_true, and_self, and_false, false_and, and_true, true_and]
theorem lar_all {N aw pr now told : Nat} (A : PRA pr n aw) (hN : N ≤ 3) (hr9 : hr ≤ 9999) (hnow : now < 2 ^ n) (ht : told < 128) : ∀ (m k : Nat), m + 1 + k = N → LAR sc d g h1 h2 D n hr N aw pr now told m k
  | 0, k, h => larS A hN hr9 hnow h (dsr0 hN (by omega) ht)
  | m + 1, k, h => larS A hN hr9 hnow h (dsrS hN (by omega) (lar_all A hN hr9 hnow ht m (k + 1) (by omega)))
end RM
