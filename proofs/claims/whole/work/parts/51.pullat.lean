/-! pullAt and what stands on it -/
section PA
variable {sc : aSc} {d : Nat} {r : aRes} {f : Nat → Nat → Int32} {g : Nat → Nat → Int64} {o h2 : Nat} {σ : aS} {D : aD} {n : Nat}
theorem fct_b {s sd hr : Nat} (h : DOK D n) (hs : s < n) (hsd : sd < 2147483648) (hh : hr < 2147483648) : ∀ l, l < 6 → fct D s sd hr l < 2147483648 := by
  intro l hl
  obtain ⟨n7, b, -⟩ := h
  have q := b s hs
  rcases (show l = 0 ∨ l = 1 ∨ l = 2 ∨ l = 3 ∨ l = 4 ∨ l = 5 by omega) with rfl | rfl | rfl | rfl | rfl | rfl
  · show s < _; omega
  · show dK D s < _; omega
  · show dV D s < _; omega
  · exact hsd
  · show dL D s / 10 < _; omega
  · show hr % 12 < _; omega
theorem pl_e {s sd hr : Nat} : nI (dL D s) + (nI (sno 0 (fct D s sd hr) (dH D)) - nI (sno 1 (fct D s sd hr) (dH D))) = iI (pln D s sd hr) := by
  rw [nI_subI, iI_N, iI_add]
  rfl
theorem s16 {s sd hr : Nat} (C : CD f o D n) (hs : s < n) (hsd : sd < 2147483648) (hh : hr < 2147483648) : Cl sc (d + 4) 16 [.ref (56 : Nat), .int (nI s), .int (nI sd), .int (nI hr)] (cS f g o h2) r ↔ r = (cS (wr6 f (fct D s sd hr)) g o h2, some (.int (nI (PU D s sd hr)))) := by
  have C0 := C
  obtain ⟨DO, hb, c1, c2, c3⟩ := C
  have HL := hb.f
  have n7 : n ≤ 7 := DO.1
  have bnd := DO.2.1 s hs
  have pb := pln_le DO hs sd hr
  obtain ⟨k1, k2, k3⟩ := c1 s hs
  have e1 : inb (nI s) 7 = true := inb_nI (by omega) (by decide)
  have e2 : (nI s).toNatClampNeg = s := cl_nI (by omega)
  have e3 : nI (dL D s) / 10 = nI (dL D s / 10) := nI_div (b := 10) (by omega) (by decide)
  have e4 : nI hr % 12 = nI (hr % 12) := nI_rem (b := 12) hh (by decide)
  have n10 : ¬ (10 : Int32) = 0 := by decide
  have n12 : ¬ (12 : Int32) = 0 := by decide
  have v57 : ∀ k x, u2 f 66 k x 57 = f 57 := fun k x => u2_n (by decide)
  have i0 : inb 0 6 = true := by decide
  have i1 : inb 1 6 = true := by decide
  have i2 : inb 2 6 = true := by decide
  have i3 : inb 3 6 = true := by decide
  have i4 : inb 4 6 = true := by decide
  have i5 : inb 5 6 = true := by decide
  have t0 : (0 : Int32).toNatClampNeg = 0 := by decide
  have t1 : (1 : Int32).toNatClampNeg = 1 := by decide
  have t2 : (2 : Int32).toNatClampNeg = 2 := by decide
  have t3 : (3 : Int32).toNatClampNeg = 3 := by decide
  have t4 : (4 : Int32).toNatClampNeg = 4 := by decide
  have t5 : (5 : Int32).toNatClampNeg = 5 := by decide
  have w := @wr6_u f (fct D s sd hr)
  have w0 : fct D s sd hr 0 = s := rfl
  have w1 : fct D s sd hr 1 = dK D s := rfl
  have w2 : fct D s sd hr 2 = dV D s := rfl
  have w3 : fct D s sd hr 3 = sd := rfl
  have w4 : fct D s sd hr 4 = dL D s / 10 := rfl
  have w5 : fct D s sd hr 5 = hr % 12 := rfl
  rw [w0, w1, w2, w3, w4, w5] at w
  have a57 : u2 f 66 0 (nI s) 57 s = nI (dK D s) := by rw [u2_nn (by omega), k1]
  have a58 : u2 (u2 f 66 0 (nI s)) 66 1 (nI (dK D s)) 58 s = nI (dV D s) := by rw [u2_nn (by omega), u2_nn (by omega), k2]
  have a59 : u2 (u2 (u2 (u2 f 66 0 (nI s)) 66 1 (nI (dK D s))) 66 2 (nI (dV D s))) 66 3 (nI sd) 59 s = nI (dL D s) := by rw [u2_nn (by omega), u2_nn (by omega), u2_nn (by omega), u2_nn (by omega), k3]
  have b59 : wr6 f (fct D s sd hr) 59 s = nI (dL D s) := by rw [wr6_n (by decide), k3]
  have hf : ∀ l, l < 6 → wr6 f (fct D s sd hr) 66 l = nI (fct D s sd hr l) ∧ fct D s sd hr l < 2147483648 := fun l hl => ⟨by unfold wr6; rw [if_pos ⟨rfl, hl⟩], fct_b DO hs hsd hh l hl⟩
  have D28 := fun d r => @s28 sc d r (wr6 f (fct D s sd hr)) g o h2 o HL _ hf _ (C0.wr (fc := fct D s sd hr)).2.2.2.2 DO.2.2.2.1
  have D17 := fun d r => @s17 sc d r (wr6 f (fct D s sd hr)) g o h2 s hr (dK D s) (dV D s) (dR D (s * 4 + hr % 4)) (pln D s sd hr) (by omega) (by rw [wr6_n (by decide), k1]) (by rw [wr6_n (by decide), k2]) (by rw [wr6_n (by decide), c2 _ (by omega)]) bnd.1 bnd.2.1 pb hh
  have kb := @kf_le (dK D s) (dV D s) hr (dR D (s * 4 + hr % 4)) _ bnd.2.1 (DO.2.2.1 _ (by omega)) pb.1 pb.2
  have mx := max0' (a := kf (dK D s) (dV D s) (pln D s sd hr) hr (dR D (s * 4 + hr % 4))) (by omega) (by omega)
  simp only [c16, x16_0, x16_1, x16_4, x16_5, x16_6, x16_7, x16_8, x16_11, x16_12, x16_13, x16_16, x16_17, x16_18, x16_19, x16_20, x16_23, x16_24, x16_25, x16_28, x16_29, x16_30, x16_31, x16_32, x16_35, x16_36, x16_37, x16_38, x16_39, x16_42, x16_43, x16_44, x16_47, x16_48, x16_49, x16_51, x16_52, x16_53, x16_54, x16_57, x16_58, x16_59, x16_61, x16_62, x16_63, x16_64, x16_67, x16_68, x16_69, x16_70, x16_73, x16_74, x16_77, x16_80, x16_81, x16_83, x16_84, x16_85, x16_86, x16_88, x16_89, x16_92, x16_95, kp56, rf56_6, rp56_6, al57, iA57, it57, rf56_7, rp56_7, al58, iA58, it58, rf56_8, rp56_8, al59, iA59, it59, rf56_9, rp56_9, al60, iA60, it60, rf56_10, rp56_10, al61, iA61, it61, rf56_12, rp56_12, al62, iA62, it62, rf56_13, rp56_13, al63, iA63, it63, rf56_15, rp56_15, al64, iA64, it64, rf56_16, rp56_16, al65, iA65, it65, rf56_17, rp56_17, rf56_18, rp56_18, al66, iA66, it66, kp52, e1, e2, e3, e4, n10, n12, i0, i1, i2, i3, i4, i5, t0, t1, t2, t3, t4, t5, k1, k2, k3, a57, a58, a59, w, b59, HL.k, D28, D17, pl_e, s207, mx, bI_True, bI_False, nI_1, Nat.reduceLeDiff, Nat.reduceEqDiff, nb0, nb1, nbI, eq_self, ex_pr, tl_s, tl_n, if_true, if_false, not_true_eq_false, not_false_eq_true, and_self, and_false, false_and, and_true, true_and]
  rfl
end PA
