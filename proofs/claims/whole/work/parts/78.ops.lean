/-! tapes and acts, with all else -/
theorem XP.fr {f : Nat → Nat → Int32} {g : Nat → Nat → Int64} {h1 h2 : Nat} {n hr wn dk sd gb pc bc : Nat} {W : Nat → Nat} {D : aD} {hc : Nat} {HS : Nat → aH} {f' : Nat → Nat → Int32} {g' : Nat → Nat → Int64} (X : XP f g h1 h2 n hr wn dk sd gb pc bc W D hc HS) (R : ∀ q, (52 ≤ q ∧ q ≤ 101 ∧ q ≠ 66 ∧ q ≠ 77) ∨ (115 ≤ q ∧ q ≤ 120) ∨ (122 ≤ q ∧ q ≤ 127) ∨ q = 129 ∨ (134 ≤ q ∧ q ≤ 147) → f' q = f q) (R17 : f' 17 = f 17) (M : ∀ k, ¬ scq 114 k → k ≠ 65 → k ≠ 13 → f' 114 k = f 114 k) (T : TSim f' g') (A : ASim f') (Y : XTx f') : XP f' g' h1 h2 n hr wn dk sd gb pc bc W D hc HS := by
  refine ⟨X.d.fr (R 56 (by omega)) (fun j h1 h2 => R _ (by omega)) (fun k hk => ?_) (fun j h1 h2 => ?_), ?_, X.q.fr (fun q hq => R q (by omega)) (by rw [R17]) (M 11 (by unfold scq; omega) (by omega) (by omega)), X.i.fr (fun q hq => R q (by omega)) (by rw [R17]) (fun k h1 h2 => M k (by unfold scq; omega) (by omega) (by omega)), T, A, Y, ?_, ?_⟩
  · rcases (show k = 0 ∨ k = 1 ∨ k = 2 ∨ k = 3 ∨ k = 4 ∨ k = 5 ∨ k = 6 ∨ k = 7 by omega) with rfl | rfl | rfl | rfl | rfl | rfl | rfl | rfl
    · exact M 0 (by unfold scq; omega) (by omega) (by omega)
    · exact M 1 (by unfold scq; omega) (by omega) (by omega)
    · exact M 2 (by unfold scq; omega) (by omega) (by omega)
    · exact M 3 (by unfold scq; omega) (by omega) (by omega)
    · exact M 12 (by unfold scq; omega) (by omega) (by omega)
    · exact M 37 (by unfold scq; omega) (by omega) (by omega)
    · exact M 40 (by unfold scq; omega) (by omega) (by omega)
    · exact M 43 (by unfold scq; omega) (by omega) (by omega)
  · rcases (show j = 1 ∨ j = 2 ∨ j = 3 ∨ j = 4 ∨ j = 5 ∨ j = 6 ∨ j = 7 ∨ j = 8 ∨ j = 9 ∨ j = 10 by omega) with rfl | rfl | rfl | rfl | rfl | rfl | rfl | rfl | rfl | rfl
    · exact R 115 (by omega)
    · exact R 116 (by omega)
    · exact R 117 (by omega)
    · exact R 118 (by omega)
    · exact R 119 (by omega)
    · exact R 120 (by omega)
    · exact R 134 (by omega)
    · exact R 135 (by omega)
    · exact R 136 (by omega)
    · exact R 137 (by omega)
  · have e : nT f' 4 = nT f 4 := M 12 (by unfold scq; omega) (by omega) (by omega)
    rw [e]
    exact X.h
  · rw [M 4 (by unfold scq; omega) (by omega) (by omega)]
    exact X.w
  · intro k hk
    rw [R 129 (by omega)]
    exact X.l k hk
theorem tp_no {q : Nat} (h : ¬ ((102 ≤ q ∧ q ≤ 113) ∨ q = 149 ∨ q = 150)) : ¬ tpq q := by
  rintro (a | a | ⟨t, ht, a⟩) <;> omega
section OS
variable {sc : aSc} {d : Nat} {r : aRes} {f : Nat → Nat → Int32} {g : Nat → Nat → Int64} {h1 h2 : Nat} {n hr wn dk sd gb pc bc : Nat} {W : Nat → Nat} {D : aD} {hc : Nat} {HS : Nat → aH} {σ : aS}
theorem XP.te {f' : Nat → Nat → Int32} {g' : Nat → Nat → Int64} (X : XP f g h1 h2 n hr wn dk sd gb pc bc W D hc HS) (F : tfr f f') (T : TSim f' g') : XP f' g' h1 h2 n hr wn dk sd gb pc bc W D hc HS := by
  have e114 : f' 114 = f 114 := F _ (tp_no (by omega))
  refine X.fr (fun q hq => F q (tp_no (by omega))) (F _ (tp_no (by omega))) (fun k _ _ _ => by rw [e114]) T (X.a.fr ?_ (F _ (tp_no (by omega))) (F _ (tp_no (by omega))) (by rw [e114])) (X.x.fr ?_ (F _ (tp_no (by omega))) (F _ (tp_no (by omega))) (by rw [e114]))
  · rw [F 49 (tp_no (by omega))]
  · rw [F 18 (tp_no (by omega))]
theorem ac_no {q : Nat} (h : ¬ (q = 49 ∨ q = 50 ∨ q = 148)) : ¬ acq q := h
theorem XP.ac {f' : Nat → Nat → Int32} (X : XP f g h1 h2 n hr wn dk sd gb pc bc W D hc HS) (F : afr f f') (A : ASim f') : XP f' g h1 h2 n hr wn dk sd gb pc bc W D hc HS := by
  obtain ⟨F, G⟩ := F
  refine X.fr (fun q hq => F q (ac_no (by omega)) (by omega)) (F _ (ac_no (by omega)) (by omega)) (fun k _ h _ => G k h) (X.t.fr fun q hq => F q (ac_no (by omega)) (by omega)) A (X.x.fr ?_ (F _ (ac_no (by omega)) (by omega)) (F _ (ac_no (by omega)) (by omega)) (G 13 (by omega)))
  rw [F 18 (ac_no (by omega)) (by omega)]
theorem op_tapeX (X : XP f g h1 h2 n hr wn dk sd gb pc bc W D hc HS) (x0 x1 x2 : Int32) : OPI sc (d + 30) 98 190 [.int x0, .int x1, .int x2] f g h1 h2 := by
  obtain ⟨f1, g1, f', g', v, a, b, T, F⟩ := @op_tape sc (d + 25) f g h1 h2 X.t x0 x1 x2
  exact ⟨f1, g1, h1, h2, f', g', h1, h2, v, a, b, (X.te F T).xs⟩
theorem op_itemX (X : XP f g h1 h2 n hr wn dk sd gb pc bc W D hc HS) (x0 x1 : Int32) (z : Int64) : OPI sc (d + 30) 99 192 [.int x0, .int x1, .long z] f g h1 h2 := by
  obtain ⟨f1, g1, f', g', v, a, b, T, F⟩ := @op_item sc (d + 25) f g h1 h2 X.t x0 x1 z
  exact ⟨f1, g1, h1, h2, f', g', h1, h2, v, a, b, (X.te F T).xs⟩
theorem op_shiftX (X : XP f g h1 h2 n hr wn dk sd gb pc bc W D hc HS) (x0 x1 x2 x3 x4 : Int32) : OPI sc (d + 30) 101 194 [.int x0, .int x1, .int x2, .int x3, .int x4] f g h1 h2 := by
  obtain ⟨f1, g1, f', g', v, a, b, T, F⟩ := @op_shift sc (d + 25) f g h1 h2 X.t x0 x1 x2 x3 x4
  exact ⟨f1, g1, h1, h2, f', g', h1, h2, v, a, b, (X.te F T).xs⟩
theorem op_readX (X : XP f g h1 h2 n hr wn dk sd gb pc bc W D hc HS) (x0 x1 : Int32) : OPJ sc (d + 30) 100 193 [.int x0, .int x1] f g h1 h2 := by
  obtain ⟨v, a, b, z, rfl⟩ := @op_read sc (d + 25) f g h1 h2 X.t x0 x1
  exact ⟨f, g, h1, h2, f, g, h1, h2, z, a, b, X.xs⟩
theorem op_actX (X : XP f g h1 h2 n hr wn dk sd gb pc bc W D hc HS) (x0 x1 x2 : Int32) : OPI sc (d + 30) 94 185 [.int x0, .int x1, .int x2] f g h1 h2 := by
  obtain ⟨f1, f', v, a, b, A, F⟩ := @op_act sc (d + 10) f g h1 h2 n X.d.b0 X.d.c0 X.d.m0 (fun s hs => ⟨dK D s, (X.d.ok.2.1 s hs).1, (X.d.sl s hs).1, (X.d.sm s hs).1⟩) (fun s hs => by
    have e1 := (X.d.sl s hs).2.1
    have e2 := (X.d.sm s hs).2.1
    exact e1.trans e2.symm) x0 x1 x2
  exact ⟨f1, g, h1, h2, f', g, h1, h2, v, a, b, (X.ac F A).xs⟩
end OS
