/-! image, undo -/
theorem DSim.cp {f : Nat → Nat → Int32} {c : Nat} {T : Nat → Int32} {B : Nat → Nat → Int32} {n hr wn dk sd gb pc bc : Nat} {W : Nat → Nat} {D : aD} {f' : Nat → Nat → Int32} {c' : Nat} {T' : Nat → Int32} {B' : Nat → Nat → Int32} (H : DSim f c T B n hr wn dk sd gb pc bc W D) (h0 : ∀ k, k ≤ 5 ∨ k = 11 ∨ k = 14 → f' c' k = f c k) (a1 : ∀ k, k < 7 → f' (c' + 1) k = f (c + 1) k) (a2 : ∀ k, k < 7 → f' (c' + 2) k = f (c + 2) k) (a3 : ∀ k, k < 7 → f' (c' + 3) k = f (c + 3) k) (a4 : ∀ k, k < 7 → f' (c' + 4) k = f (c + 4) k) (a5 : ∀ k, k < 28 → f' (c' + 5) k = f (c + 5) k) (a6 : ∀ k, k < 12 → f' (c' + 6) k = f (c + 6) k) (a7 : ∀ k, k < 12 → f' (c' + 7) k = f (c + 7) k) (a8 : ∀ k, k < 12 → f' (c' + 8) k = f (c + 8) k) (a9 : ∀ k, k < 12 → f' (c' + 9) k = f (c + 9) k) (hT : ∀ k, k < 8 → T' k = T k) (g1 : ∀ k, k < 7 → B' 1 k = B 1 k) (g2 : ∀ k, k < 7 → B' 2 k = B 2 k) (g3 : ∀ k, k < 7 → B' 3 k = B 3 k) (g4 : ∀ k, k < 7 → B' 4 k = B 4 k) (g5 : ∀ k, k < 7 → B' 5 k = B 5 k) (g6 : ∀ k, k < 28 → B' 6 k = B 6 k) (g7 : ∀ k, k < 12 → B' 7 k = B 7 k) (g8 : ∀ k, k < 12 → B' 8 k = B 8 k) (g9 : ∀ k, k < 12 → B' 9 k = B 9 k) (g10 : ∀ k, k < 12 → B' 10 k = B 10 k) : DSim f' c' T' B' n hr wn dk sd gb pc bc W D := by
  have n7 := H.b0
  have p12 := H.b6
  have q12 := H.b7
  refine ⟨H.b0, H.b1, H.b2, H.b3, H.b4, H.b5, H.b6, H.b7, ?_, ?_, ?_, ?_, ?_, ?_, ?_, ?_, ?_, ?_, ?_, ?_, ?_, ?_, ?_, fun s hs => ?_, fun s hs => ?_, fun k hk => ?_, fun i hi => ?_, fun i hi => ?_, H.ok⟩
  · rw [h0 0 (by omega)]; exact H.c0
  · rw [h0 1 (by omega)]; exact H.c1
  · rw [h0 2 (by omega)]; exact H.c2
  · rw [h0 3 (by omega)]; exact H.c3
  · rw [h0 4 (by omega)]; exact H.c4
  · rw [h0 5 (by omega)]; exact H.c5
  · rw [h0 11 (by omega)]; exact H.c6
  · rw [h0 14 (by omega)]; exact H.c7
  · rw [hT 0 (by omega)]; exact H.m0
  · rw [hT 1 (by omega)]; exact H.m1
  · rw [hT 2 (by omega)]; exact H.m2
  · rw [hT 3 (by omega)]; exact H.m3
  · rw [hT 5 (by omega)]; exact H.m5
  · rw [hT 6 (by omega)]; exact H.m6
  · rw [hT 7 (by omega)]; exact H.m7
  · rw [a1 s (by omega), a2 s (by omega), a3 s (by omega), a4 s (by omega)]
    exact H.sl s hs
  · rw [g1 s (by omega), g2 s (by omega), g3 s (by omega), g4 s (by omega), g5 s (by omega)]
    exact H.sm s hs
  · rw [a5 k hk, g6 k hk]
    exact H.rw k hk
  · rw [a6 i (by omega), a7 i (by omega), g7 i (by omega), g8 i (by omega)]
    exact H.pl i hi
  · rw [a8 i (by omega), a9 i (by omega), g9 i (by omega), g10 i (by omega)]
    exact H.bk i hi
/-- cells of the image -/
def imc (q k : Nat) : Prop := (67 ≤ q ∧ q ≤ 76) ∨ (138 ≤ q ∧ q ≤ 147) ∨ (q = 17 ∧ k = 2) ∨ (q = 114 ∧ 46 ≤ k ∧ k ≤ 54)
def dyd (q k : Nat) : Prop := dyc q k ∨ (q = 114 ∧ k = 12)
theorem XP.re {f : Nat → Nat → Int32} {g : Nat → Nat → Int64} {h1 h2 : Nat} {n hr wn dk sd gb pc bc : Nat} {W : Nat → Nat} {D : aD} {hc : Nat} {HS : Nat → aH} {f' : Nat → Nat → Int32} {k1 k2 n' hr' wn' dk' sd' gb' pc' bc' : Nat} {W' : Nat → Nat} {D' : aD} (X : XP f g h1 h2 n hr wn dk sd gb pc bc W D hc HS) (F : ∀ q k, ¬ scq q k → ¬ imc q k → ¬ dyd q k → f' q k = f q k) (S : DSim f' 56 (nT f') (nB f') n' hr' wn' dk' sd' gb' pc' bc' W' D') (H : HSim k1 (nT f' 4) D' hc HS) (I : IMs f' k2 hc HS) : XP f' g k1 k2 n' hr' wn' dk' sd' gb' pc' bc' W' D' hc HS := by
  have R : ∀ q, (∀ k, ¬ scq q k) → (∀ k, ¬ imc q k) → (∀ k, ¬ dyd q k) → f' q = f q := fun q hq h2 h3 => funext fun k => F q k (hq k) (h2 k) (h3 k)
  have M : ∀ k, ¬ scq 114 k → ¬ imc 114 k → ¬ dyd 114 k → f' 114 k = f 114 k := fun k hk h2 h3 => F 114 k hk h2 h3
  refine ⟨S, H, X.q.fr (fun q hq => R q (fun k => by unfold scq; omega) (fun k => by unfold imc; omega) (fun k => by unfold dyd dyc; omega)) (F 17 5 (by unfold scq; omega) (by unfold imc; omega) (by unfold dyd dyc; omega)) (M 11 (by unfold scq; omega) (by unfold imc; omega) (by unfold dyd dyc; omega)), I, X.t.fr (fun q hq => R q (fun k => by unfold scq; omega) (fun k => by unfold imc; omega) (fun k => by unfold dyd dyc; omega)), X.a.fr (F 49 1 (by unfold scq; omega) (by unfold imc; omega) (by unfold dyd dyc; omega)) (R 50 (fun k => by unfold scq; omega) (fun k => by unfold imc; omega) (fun k => by unfold dyd dyc; omega)) (R 148 (fun k => by unfold scq; omega) (fun k => by unfold imc; omega) (fun k => by unfold dyd dyc; omega)) (M 65 (by unfold scq; omega) (by unfold imc; omega) (by unfold dyd dyc; omega)), X.x.fr (F 18 1 (by unfold scq; omega) (by unfold imc; omega) (by unfold dyd dyc; omega)) (R 19 (fun k => by unfold scq; omega) (fun k => by unfold imc; omega) (fun k => by unfold dyd dyc; omega)) (R 121 (fun k => by unfold scq; omega) (fun k => by unfold imc; omega) (fun k => by unfold dyd dyc; omega)) (M 13 (by unfold scq; omega) (by unfold imc; omega) (by unfold dyd dyc; omega)), ?_, ?_⟩
  · rw [M 4 (by unfold scq; omega) (by unfold imc; omega) (by unfold dyd dyc; omega)]
    exact X.w
  · intro k hk
    rw [R 129 (fun k => by unfold scq; omega) (fun k => by unfold imc; omega) (fun k => by unfold dyd dyc; omega)]
    exact X.l k hk
/-- what the copies leave -/
theorem dcI_o {f : Nat → Nat → Int32} {q : Nat} (h : ¬ (67 ≤ q ∧ q ≤ 76)) : dcI f q = f q := by
  funext k
  unfold dcI
  simp only [u2_at, cpA_at]
  repeat rw [if_neg (by omega)]
theorem dcU_o {f : Nat → Nat → Int32} {q : Nat} (h : ¬ (56 ≤ q ∧ q ≤ 65)) : dcU f q = f q := by
  funext k
  unfold dcU
  simp only [u2_at, cpA_at]
  repeat rw [if_neg (by omega)]
theorem imM_o {f : Nat → Nat → Int32} {q : Nat} (h : ¬ (138 ≤ q ∧ q ≤ 147)) : imM f q = imS f q := by
  unfold imM
  rw [mcS_o (sgI_n (by omega)), mcS_o (sgI_n (by omega)), mcS_o (sgI_n (by omega))]
theorem umM_o {f : Nat → Nat → Int32} {q : Nat} (h : ¬ ((115 ≤ q ∧ q ≤ 120) ∨ (134 ≤ q ∧ q ≤ 137))) : umM f q = umS f q := by
  unfold umM
  rw [mcS_o (sgU_n (by omega)), mcS_o (sgU_n (by omega)), mcS_o (sgU_n (by omega))]
theorem imM_a {f : Nat → Nat → Int32} {q k : Nat} (h : 138 ≤ q ∧ q ≤ 142) (hk : k < 7) : imM f q k = imS f (q - 23) k := by
  unfold imM
  rw [mcS_o (sgI_n (by omega)), mcS_o (sgI_n (by omega)), mcS_a hk]
  unfold sgI
  rw [if_pos h]
theorem imM_b {f : Nat → Nat → Int32} {k : Nat} (hk : k < 28) : imM f 143 k = imS f 120 k := by
  unfold imM
  rw [mcS_o (sgI_n (by omega)), mcS_a hk, show sgI 143 143 23 143 = 120 from rfl, mcS_o (sgI_n (by omega))]
theorem imM_c {f : Nat → Nat → Int32} {q k : Nat} (h : 144 ≤ q ∧ q ≤ 147) (hk : k < 12) : imM f q k = imS f (q - 10) k := by
  unfold imM
  rw [mcS_a hk]
  unfold sgI
  rw [if_pos h]
  show mcS (sgI 143 143 23) 28 [] (mcS (sgI 138 142 23) 7 [] (imS f)) (q - 10) k = _
  rw [mcS_o (sgI_n (by omega)), mcS_o (sgI_n (by omega))]
theorem umM_a {f : Nat → Nat → Int32} {q k : Nat} (h : 115 ≤ q ∧ q ≤ 119) (hk : k < 7) : umM f q k = umS f (q + 23) k := by
  unfold umM
  rw [mcS_o (sgU_n (by omega)), mcS_o (sgU_n (by omega)), mcS_a hk]
  unfold sgU
  rw [if_pos h]
theorem umM_b {f : Nat → Nat → Int32} {k : Nat} (hk : k < 28) : umM f 120 k = umS f 143 k := by
  unfold umM
  rw [mcS_o (sgU_n (by omega)), mcS_a hk, show sgU 120 120 23 120 = 143 from rfl, mcS_o (sgU_n (by omega))]
theorem umM_c {f : Nat → Nat → Int32} {q k : Nat} (h : 134 ≤ q ∧ q ≤ 137) (hk : k < 12) : umM f q k = umS f (q + 10) k := by
  unfold umM
  rw [mcS_a hk]
  unfold sgU
  rw [if_pos h]
  show mcS (sgU 120 120 23) 28 [] (mcS (sgU 115 119 23) 7 [] (umS f)) (q + 10) k = _
  rw [mcS_o (sgU_n (by omega)), mcS_o (sgU_n (by omega))]
theorem imS_o {f : Nat → Nat → Int32} {q : Nat} (h : q ≠ 114) : imS f q = f q := by
  funext k
  unfold imS
  simp only [u2_at]
  repeat rw [if_neg (by omega)]
theorem umS_o {f : Nat → Nat → Int32} {q : Nat} (h : q ≠ 114) : umS f q = f q := by
  funext k
  unfold umS
  simp only [u2_at]
  repeat rw [if_neg (by omega)]
section IN
variable {sc : aSc} {d : Nat} {r : aRes} {f : Nat → Nat → Int32} {g : Nat → Nat → Int64} {h1 h2 : Nat} {n hr wn dk sd gb pc bc : Nat} {W : Nat → Nat} {D : aD} {hc : Nat} {HS : Nat → aH} {σ : aS}
theorem op_image (X : XP f g h1 h2 n hr wn dk sd gb pc bc W D hc HS) : OPI sc (d + 30) 92 175 [] f g h1 h2 := by
  have n7 := X.d.b0
  have c0 : f 56 0 = nI n := X.d.c0
  have m0 : f 114 0 = nI n := X.d.m0
  have E : ∀ q, q ≠ 17 → ¬ (67 ≤ q ∧ q ≤ 76) → u2 (dcI f) 17 2 1 q = f q := fun q h h' => by rw [u2_n h, dcI_o h']
  have o17 : ∀ k, k ≠ 2 → u2 (dcI f) 17 2 1 17 k = f 17 k := fun k hk => by rw [u2_nn (by omega), dcI_o (by omega)]
  have V : ∀ q, q ≠ 17 → q ≠ 114 → ¬ (67 ≤ q ∧ q ≤ 76) → ¬ (138 ≤ q ∧ q ≤ 147) → imM (u2 (dcI f) 17 2 1) q = f q := fun q a1 a2 a3 a4 => by rw [imM_o a4, imS_o a2, E q a1 a3]
  have VM : ∀ k, ¬ (46 ≤ k ∧ k ≤ 54) → imM (u2 (dcI f) 17 2 1) 114 k = f 114 k := fun k hk => by
    rw [imM_o (by omega)]
    unfold imS
    simp only [u2_at]
    repeat rw [if_neg (by omega)]
    exact congrFun (dcI_o (by omega)) k
  have VI : ∀ q, 67 ≤ q → q ≤ 76 → imM (u2 (dcI f) 17 2 1) q = dcI f q := fun q a b => by rw [imM_o (by omega), imS_o (by omega), u2_n (by omega)]
  have FQ : ∀ q k, ¬ scq q k → ¬ imc q k → ¬ dyd q k → imM (u2 (dcI f) 17 2 1) q k = f q k := by
    intro q k _ h2 _
    unfold imc at h2
    by_cases e : q = 114
    · subst e
      exact VM k (by omega)
    · by_cases e2 : q = 17
      · subst e2
        rw [imM_o (by omega), imS_o (by omega)]
        exact o17 k (by omega)
      · rw [V q e2 e (by omega) (by omega)]
  have E2 : ∀ q, 115 ≤ q → imS (u2 (dcI f) 17 2 1) q = f q := fun q hq => by rw [imS_o (by omega), E q (by omega) (by omega)]
  have DI : DSim (imM (u2 (dcI f) 17 2 1)) 67 (iT (imM (u2 (dcI f) 17 2 1))) (iB (imM (u2 (dcI f) 17 2 1))) n hr wn dk sd gb pc bc W D := by
    refine X.d.cp ?_ ?_ ?_ ?_ ?_ ?_ ?_ ?_ ?_ ?_ ?_ ?_ ?_ ?_ ?_ ?_ ?_ ?_ ?_ ?_ ?_
    · intro k hk
      rw [VI 67 (by omega) (by omega)]
      unfold dcI
      rcases (show k = 0 ∨ k = 1 ∨ k = 2 ∨ k = 3 ∨ k = 4 ∨ k = 5 ∨ k = 11 ∨ k = 14 by omega) with rfl | rfl | rfl | rfl | rfl | rfl | rfl | rfl <;> simp only [u2_at, cpA_at, Nat.reduceEqDiff, eq_self, false_and, and_false, if_false, true_and, and_self, and_true, if_true]
    · intro k hk; rw [VI 68 (by omega) (by omega)]; unfold dcI; simp only [u2_at, cpA_at, Nat.reduceEqDiff, eq_self, false_and, and_false, if_false, true_and, and_self, and_true, if_true, hk]
    · intro k hk; rw [VI 69 (by omega) (by omega)]; unfold dcI; simp only [u2_at, cpA_at, Nat.reduceEqDiff, eq_self, false_and, and_false, if_false, true_and, and_self, and_true, if_true, hk]
    · intro k hk; rw [VI 70 (by omega) (by omega)]; unfold dcI; simp only [u2_at, cpA_at, Nat.reduceEqDiff, eq_self, false_and, and_false, if_false, true_and, and_self, and_true, if_true, hk]
    · intro k hk; rw [VI 71 (by omega) (by omega)]; unfold dcI; simp only [u2_at, cpA_at, Nat.reduceEqDiff, eq_self, false_and, and_false, if_false, true_and, and_self, and_true, if_true, hk]
    · intro k hk; rw [VI 72 (by omega) (by omega)]; unfold dcI; simp only [u2_at, cpA_at, Nat.reduceEqDiff, eq_self, false_and, and_false, if_false, true_and, and_self, and_true, if_true, hk]
    · intro k hk; rw [VI 73 (by omega) (by omega)]; unfold dcI; simp only [u2_at, cpA_at, Nat.reduceEqDiff, eq_self, false_and, and_false, if_false, true_and, and_self, and_true, if_true, hk]
    · intro k hk; rw [VI 74 (by omega) (by omega)]; unfold dcI; simp only [u2_at, cpA_at, Nat.reduceEqDiff, eq_self, false_and, and_false, if_false, true_and, and_self, and_true, if_true, hk]
    · intro k hk; rw [VI 75 (by omega) (by omega)]; unfold dcI; simp only [u2_at, cpA_at, Nat.reduceEqDiff, eq_self, false_and, and_false, if_false, true_and, and_self, and_true, if_true, hk]
    · intro k hk; rw [VI 76 (by omega) (by omega)]; unfold dcI; simp only [u2_at, cpA_at, Nat.reduceEqDiff, eq_self, false_and, and_false, if_false, true_and, and_self, and_true, if_true, hk]
    · intro k hk
      have e114 : dcI f 114 = f 114 := dcI_o (by omega)
      have I : ∀ j, imM (u2 (dcI f) 17 2 1) 114 j = imS (u2 (dcI f) 17 2 1) 114 j := fun j => by rw [imM_o (by omega)]
      rcases (show k = 0 ∨ k = 1 ∨ k = 2 ∨ k = 3 ∨ k = 4 ∨ k = 5 ∨ k = 6 ∨ k = 7 by omega) with rfl | rfl | rfl | rfl | rfl | rfl | rfl | rfl
      · show imM (u2 (dcI f) 17 2 1) 114 48 = f 114 0
        rw [I]; unfold imS; simp only [u2_at, cpA_at, Nat.reduceEqDiff, eq_self, false_and, and_false, if_false, true_and, and_self, and_true, if_true, e114]
      · show imM (u2 (dcI f) 17 2 1) 114 49 = f 114 1
        rw [I]; unfold imS; simp only [u2_at, cpA_at, Nat.reduceEqDiff, eq_self, false_and, and_false, if_false, true_and, and_self, and_true, if_true, e114]
      · show imM (u2 (dcI f) 17 2 1) 114 50 = f 114 2
        rw [I]; unfold imS; simp only [u2_at, cpA_at, Nat.reduceEqDiff, eq_self, false_and, and_false, if_false, true_and, and_self, and_true, if_true, e114]
      · show imM (u2 (dcI f) 17 2 1) 114 51 = f 114 3
        rw [I]; unfold imS; simp only [u2_at, cpA_at, Nat.reduceEqDiff, eq_self, false_and, and_false, if_false, true_and, and_self, and_true, if_true, e114]
      · show imM (u2 (dcI f) 17 2 1) 114 47 = f 114 12
        rw [I]; unfold imS; simp only [u2_at, cpA_at, Nat.reduceEqDiff, eq_self, false_and, and_false, if_false, true_and, and_self, and_true, if_true, e114]
      · show imM (u2 (dcI f) 17 2 1) 114 52 = f 114 37
        rw [I]; unfold imS; simp only [u2_at, cpA_at, Nat.reduceEqDiff, eq_self, false_and, and_false, if_false, true_and, and_self, and_true, if_true, e114]
      · show imM (u2 (dcI f) 17 2 1) 114 53 = f 114 40
        rw [I]; unfold imS; simp only [u2_at, cpA_at, Nat.reduceEqDiff, eq_self, false_and, and_false, if_false, true_and, and_self, and_true, if_true, e114]
      · show imM (u2 (dcI f) 17 2 1) 114 54 = f 114 43
        rw [I]; unfold imS; simp only [u2_at, cpA_at, Nat.reduceEqDiff, eq_self, false_and, and_false, if_false, true_and, and_self, and_true, if_true, e114]
    · intro k hk; show imM (u2 (dcI f) 17 2 1) 138 k = f 115 k; rw [imM_a (by omega) hk, E2 _ (by omega)]
    · intro k hk; show imM (u2 (dcI f) 17 2 1) 139 k = f 116 k; rw [imM_a (by omega) hk, E2 _ (by omega)]
    · intro k hk; show imM (u2 (dcI f) 17 2 1) 140 k = f 117 k; rw [imM_a (by omega) hk, E2 _ (by omega)]
    · intro k hk; show imM (u2 (dcI f) 17 2 1) 141 k = f 118 k; rw [imM_a (by omega) hk, E2 _ (by omega)]
    · intro k hk; show imM (u2 (dcI f) 17 2 1) 142 k = f 119 k; rw [imM_a (by omega) hk, E2 _ (by omega)]
    · intro k hk; show imM (u2 (dcI f) 17 2 1) 143 k = f 120 k; rw [imM_b hk, E2 _ (by omega)]
    · intro k hk; show imM (u2 (dcI f) 17 2 1) 144 k = f 134 k; rw [imM_c (by omega) hk, E2 _ (by omega)]
    · intro k hk; show imM (u2 (dcI f) 17 2 1) 145 k = f 135 k; rw [imM_c (by omega) hk, E2 _ (by omega)]
    · intro k hk; show imM (u2 (dcI f) 17 2 1) 146 k = f 136 k; rw [imM_c (by omega) hk, E2 _ (by omega)]
    · intro k hk; show imM (u2 (dcI f) 17 2 1) 147 k = f 137 k; rw [imM_c (by omega) hk, E2 _ (by omega)]
  have S0 : DSim (imM (u2 (dcI f) 17 2 1)) 56 (nT (imM (u2 (dcI f) 17 2 1))) (nB (imM (u2 (dcI f) 17 2 1))) n hr wn dk sd gb pc bc W D := by
    refine X.d.fr (V 56 (by omega) (by omega) (by omega) (by omega)) (fun j a b => V _ (by omega) (by omega) (by omega) (by omega)) (fun k hk => ?_) (fun j a b => ?_)
    · rcases (show k = 0 ∨ k = 1 ∨ k = 2 ∨ k = 3 ∨ k = 4 ∨ k = 5 ∨ k = 6 ∨ k = 7 by omega) with rfl | rfl | rfl | rfl | rfl | rfl | rfl | rfl
      · exact VM 0 (by omega)
      · exact VM 1 (by omega)
      · exact VM 2 (by omega)
      · exact VM 3 (by omega)
      · exact VM 12 (by omega)
      · exact VM 37 (by omega)
      · exact VM 40 (by omega)
      · exact VM 43 (by omega)
    · rcases (show j = 1 ∨ j = 2 ∨ j = 3 ∨ j = 4 ∨ j = 5 ∨ j = 6 ∨ j = 7 ∨ j = 8 ∨ j = 9 ∨ j = 10 by omega) with rfl | rfl | rfl | rfl | rfl | rfl | rfl | rfl | rfl | rfl
      · exact V 115 (by omega) (by omega) (by omega) (by omega)
      · exact V 116 (by omega) (by omega) (by omega) (by omega)
      · exact V 117 (by omega) (by omega) (by omega) (by omega)
      · exact V 118 (by omega) (by omega) (by omega) (by omega)
      · exact V 119 (by omega) (by omega) (by omega) (by omega)
      · exact V 120 (by omega) (by omega) (by omega) (by omega)
      · exact V 134 (by omega) (by omega) (by omega) (by omega)
      · exact V 135 (by omega) (by omega) (by omega) (by omega)
      · exact V 136 (by omega) (by omega) (by omega) (by omega)
      · exact V 137 (by omega) (by omega) (by omega) (by omega)
  have e4 : nT (imM (u2 (dcI f) 17 2 1)) 4 = nT f 4 := VM 12 (by omega)
  have i4 : iT (imM (u2 (dcI f) 17 2 1)) 4 = nT f 4 := by
    show imM (u2 (dcI f) 17 2 1) 114 47 = f 114 12
    have e114 : dcI f 114 = f 114 := dcI_o (by omega)
    rw [imM_o (by omega)]; unfold imS; simp only [u2_at, cpA_at, Nat.reduceEqDiff, eq_self, false_and, and_false, if_false, true_and, and_self, and_true, if_true, e114]
  have I0 : IMs (imM (u2 (dcI f) 17 2 1)) h1 hc HS := by
    refine Or.inr ⟨?_, ?_, n, hr, wn, dk, sd, gb, pc, bc, W, D, DI, by rw [i4]; exact X.h⟩
    · rw [imM_o (by omega), imS_o (by omega)]
      exact u2_ss
    · rw [imM_o (by omega)]; unfold imS; simp only [u2_at, cpA_at, Nat.reduceEqDiff, eq_self, false_and, and_false, if_false, true_and, and_self, and_true, if_true]
  have X9 := X.re FQ S0 (by rw [e4]; exact X.h) I0
  refine ⟨u2 (dcI f) 17 2 1, g, h1, h1, imM (u2 (dcI f) 17 2 1), g, h1, h1, nI n, ?_, ?_, X9.xs⟩
  · have e0 : dcI f 56 = f 56 := dcI_o (by omega)
    have e17 : dcI f 17 = f 17 := dcI_o (by omega)
    simp only [c92, x92_0, x92_1, x92_4, x92_5, x92_8, x92_11, x92_12, x92_13, x92_16, x92_17, x92_20, x92_23, kp17, rf17_0, rp17_0, rf17_1, rp17_1, rf17_3, rp17_3, rf17_4, rp17_4, al20, iA20, iG20, rf17_6, rp17_6, rf17_7, rp17_7, rf17_8, rp17_8, al51, iA51, iG51, kp56, rf56_6, rp56_6, al57, iA57, it57, rf56_7, rp56_7, al58, iA58, it58, rf56_8, rp56_8, al59, iA59, it59, rf56_9, rp56_9, al60, iA60, it60, rf56_10, rp56_10, al61, iA61, it61, rf56_12, rp56_12, al62, iA62, it62, rf56_13, rp56_13, al63, iA63, it63, rf56_15, rp56_15, al64, iA64, it64, rf56_16, rp56_16, al65, iA65, it65, rf56_17, rp56_17, rf56_18, rp56_18, al66, iA66, it66, kp67, s6i, u2_at, e0, c0, bI_True, bI_False, nI_1, Nat.reduceLeDiff, Nat.reduceEqDiff, nb0, nb1, nbI, eq_self, ex_pr, tl_s, tl_n, if_true, if_false, not_true_eq_false, not_false_eq_true, and_self, and_false, false_and, and_true, true_and]
  · have k := @s175 sc (d + 29) (cS (imM (u2 (dcI f) 17 2 1)) g h1 h1, some (.int (u2 (dcI f) 17 2 1 114 0))) (u2 (dcI f) 17 2 1) g h1 h1
    have e : u2 (dcI f) 17 2 1 114 0 = nI n := by rw [E 114 (by omega) (by omega)]; exact m0
    have q := k.mpr rfl
    rw [e] at q
    exact q
end IN
