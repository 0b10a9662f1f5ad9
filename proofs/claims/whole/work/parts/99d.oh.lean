/-! hill -/
section OH
variable {sc : aSc} {d : Nat} {r : aRes} {f : Nat → Nat → Int32} {g : Nat → Nat → Int64} {h1 h2 : Nat} {n hr wn dk sd gb pc bc : Nat} {W : Nat → Nat} {D : aD} {hc : Nat} {HS : Nat → aH} {σ : aS}
/-- cells that both may change as they read a text -/
def hlc (t q k : Nat) : Prop := (q = 18 ∧ (k = 1 ∨ k = 2)) ∨ q = 19 ∨ (78 + 4 * t ≤ q ∧ q ≤ 81 + 4 * t) ∨ (q = 122 ∧ k = t) ∨ ((q = 123 ∨ q = 124 ∨ q = 125 ∨ q = 126) ∧ 10 * t ≤ k) ∨ (q = 127 ∧ 100 * t ≤ k) ∨ q = 128 ∨ (q = 114 ∧ (k = 13 ∨ k = 14 ∨ k = 15 ∨ k = 24 ∨ k = 25 ∨ k = 26))
def Fh (t : Nat) (f f' : Nat → Nat → Int32) : Prop := ∀ q k, ¬ hlc t q k → f' q k = f q k
theorem Fh.tr {t : Nat} {f f1 f2 : Nat → Nat → Int32} (x : Fh t f f1) (y : Fh t f1 f2) : Fh t f f2 := fun q k h => (y q k h).trans (x q k h)
theorem FH.h {t : Nat} {f f' : Nat → Nat → Int32} (x : FH f f' t) : Fh t f f' := fun q k h => x q k (fun e => h (by unfold hlc; omega)) (fun e => h (by unfold hlc; omega))
theorem FG.h {t : Nat} {f f' : Nat → Nat → Int32} (x : FG f f' t) : Fh t f f' := fun q k h => x q k (fun e => h (by unfold hlc; omega)) (fun e => h (by unfold hlc; omega)) (fun e => h (by unfold hlc; omega)) (fun e => h (by unfold hlc; omega)) (fun e => h (by unfold hlc; omega))
theorem Fh.u {t : Nat} {f : Nat → Nat → Int32} {q k : Nat} {x : Int32} (h : hlc t q k) : Fh t f (u2 f q k x) := fun a b hq => u2_nn (fun e => hq (by rw [e.1, e.2]; exact h))
theorem Fh.row {t : Nat} {f f' : Nat → Nat → Int32} (x : Fh t f f') {q : Nat} (h : ∀ k, ¬ hlc t q k) : f' q = f q := funext fun k => x q k (h k)
/-- the hills told before stay -/
theorem Fh.hco {t T : Nat} {f f' : Nat → Nat → Int32} {H : aH} (x : Fh T f f') (ht : t < T) (hT : T < 6) (c : HCo f t H) : HCo f' t H := by
  obtain ⟨c1, c2, c3, c4, c5, c6⟩ := c
  have R : ∀ q, 78 + 4 * t ≤ q → q ≤ 81 + 4 * t → f' q = f q := fun q a b => x.row fun k => by unfold hlc; omega
  refine ⟨c1, c2, cfl_fr (R _ (by omega) (by omega)) (R _ (by omega) (by omega)) (R _ (by omega) (by omega)) (R _ (by omega) (by omega)) c3, by rw [R _ (by omega) (by omega)]; exact c4, by rw [R _ (by omega) (by omega)]; exact c5, ?_⟩
  exact mhl_lo ht (fun q k a b hk => x q k (by unfold hlc; omega)) (fun k hk => x 127 k (by unfold hlc; omega)) (fun k hk => x 122 k (by unfold hlc; omega)) H 0 c6
/-- all that stands, a text read, with no hill told -/
theorem XP.hf {f' : Nat → Nat → Int32} (X : XP f g h1 h2 n hr wn dk sd gb pc bc W D hc HS) (h6 : hc < 6) (F : Fh hc f f') (x1 : f' 18 1 = 0) (x2 : f' 114 13 = 0) : XP f' g h1 h2 n hr wn dk sd gb pc bc W D hc HS := by
  have R : ∀ q, (∀ k, ¬ hlc hc q k) → f' q = f q := fun q hq => F.row hq
  have M : ∀ k, ¬ hlc hc 114 k → f' 114 k = f 114 k := fun k hk => F 114 k hk
  have e12 : nT f' 4 = nT f 4 := M 12 (by unfold hlc; omega)
  refine ⟨?_, by rw [e12]; exact X.h, ?_, ?_, ?_, ?_, ⟨0, by omega, x1, x2, fun i hi => absurd hi (by omega)⟩, by rw [M 4 (by unfold hlc; omega)]; exact X.w, fun k hk => by rw [R 129 (fun k => by unfold hlc; omega)]; exact X.l k hk⟩
  · refine X.d.fr (R 56 (fun k => by unfold hlc; omega)) (fun j a b => R _ (fun k => by unfold hlc; omega)) (fun k hk => ?_) (fun j a b => ?_)
    · rcases (show k = 0 ∨ k = 1 ∨ k = 2 ∨ k = 3 ∨ k = 4 ∨ k = 5 ∨ k = 6 ∨ k = 7 by omega) with rfl | rfl | rfl | rfl | rfl | rfl | rfl | rfl
      · exact M 0 (by unfold hlc; omega)
      · exact M 1 (by unfold hlc; omega)
      · exact M 2 (by unfold hlc; omega)
      · exact M 3 (by unfold hlc; omega)
      · exact M 12 (by unfold hlc; omega)
      · exact M 37 (by unfold hlc; omega)
      · exact M 40 (by unfold hlc; omega)
      · exact M 43 (by unfold hlc; omega)
    · rcases (show j = 1 ∨ j = 2 ∨ j = 3 ∨ j = 4 ∨ j = 5 ∨ j = 6 ∨ j = 7 ∨ j = 8 ∨ j = 9 ∨ j = 10 by omega) with rfl | rfl | rfl | rfl | rfl | rfl | rfl | rfl | rfl | rfl
      · exact R 115 (fun k => by unfold hlc; omega)
      · exact R 116 (fun k => by unfold hlc; omega)
      · exact R 117 (fun k => by unfold hlc; omega)
      · exact R 118 (fun k => by unfold hlc; omega)
      · exact R 119 (fun k => by unfold hlc; omega)
      · exact R 120 (fun k => by unfold hlc; omega)
      · exact R 134 (fun k => by unfold hlc; omega)
      · exact R 135 (fun k => by unfold hlc; omega)
      · exact R 136 (fun k => by unfold hlc; omega)
      · exact R 137 (fun k => by unfold hlc; omega)
  · obtain ⟨q1, q2, q3, q4, q5, q6, q7⟩ := X.q
    have R52 : ∀ q, 52 ≤ q → q ≤ 55 → f' q = f q := fun q a b => R q (fun k => by unfold hlc; omega)
    exact ⟨q1, by rw [F 17 5 (by unfold hlc; omega)]; exact q2, by rw [M 11 (by unfold hlc; omega)]; exact q3, fun t ht => F.hco ht h6 (q4 t ht), cfl_fr (R52 _ (by omega) (by omega)) (R52 _ (by omega) (by omega)) (R52 _ (by omega) (by omega)) (R52 _ (by omega) (by omega)) q5, by rw [R52 52 (by omega) (by omega)]; exact q6, by rw [R52 52 (by omega) (by omega)]; exact q7⟩
  · exact X.i.fr (fun q hq => R q (fun k => by unfold hlc; omega)) (F 17 2 (by unfold hlc; omega)) (fun k a b => M k (by unfold hlc; omega))
  · exact X.t.fr (fun q hq => R q (fun k => by unfold hlc; omega))
  · exact X.a.fr (F 49 1 (by unfold hlc; omega)) (R 50 (fun k => by unfold hlc; omega)) (R 148 (fun k => by unfold hlc; omega)) (M 65 (by unfold hlc; omega))
/-- a hill told -/
theorem XP.ht {f' : Nat → Nat → Int32} {H : aH} (X : XP f g h1 h2 n hr wn dk sd gb pc bc W D hc HS) (h6 : hc < 6) (x5 : f' 17 5 = nI (hc + 1)) (x11 : f' 114 11 = nI (hc + 1)) (x12 : f' 114 12 = nI hc) (F : ∀ q k, ¬ (q = 17 ∧ k = 5) → ¬ (q = 114 ∧ (k = 11 ∨ k = 12)) → f' q k = f q k) (N : HCo f hc H) : XP f' g (78 + 4 * hc) h2 n hr wn dk sd gb pc bc W (D.1, D.2.1, D.2.2.1, D.2.2.2.1, H) (hc + 1) (fun t => if t = hc then H else HS t) := by
  have R : ∀ q, q ≠ 17 → q ≠ 114 → f' q = f q := fun q a b => funext fun k => F q k (by omega) (by omega)
  have M : ∀ k, k ≠ 11 → k ≠ 12 → f' 114 k = f 114 k := fun k a b => F 114 k (by omega) (by omega)
  obtain ⟨o1, o2, o3, o4, o5⟩ := X.d.ok
  have HF : ∀ t, t < hc + 1 → HCo f' t (if t = hc then H else HS t) := fun t ht => by
    have G : ∀ K, HCo f t K → HCo f' t K := fun K c => c.fr (fun q a b => R q (by omega) (by omega)) (fun q a => R q (by omega) (by omega))
    by_cases e : t = hc
    · rw [if_pos e]
      subst e
      exact G _ N
    · rw [if_neg e]
      exact G _ (X.q.2.2.2.1 t (by omega))
  refine ⟨?_, Or.inr ⟨hc, by omega, rfl, x12, (if_pos rfl).symm⟩, ?_, ?_, ?_, ?_, ?_, by rw [M 4 (by omega) (by omega)]; exact X.w, fun k hk => by rw [R 129 (by omega) (by omega)]; exact X.l k hk⟩
  · refine dsim_mk X.d.b0 X.d.b1 X.d.b2 X.d.b3 X.d.b4 X.d.b5 X.d.b6 X.d.b7 (by rw [R 56 (by omega) (by omega)]; exact X.d.c0) (by rw [R 56 (by omega) (by omega)]; exact X.d.c1) (by rw [R 56 (by omega) (by omega)]; exact X.d.c2) (by rw [R 56 (by omega) (by omega)]; exact X.d.c3) (by rw [R 56 (by omega) (by omega)]; exact X.d.c4) (by rw [R 56 (by omega) (by omega)]; exact X.d.c5) (by rw [R 56 (by omega) (by omega)]; exact X.d.c6) (by rw [R 56 (by omega) (by omega)]; exact X.d.c7) (by rw [M 0 (by omega) (by omega)]; exact X.d.m0) (by rw [M 1 (by omega) (by omega)]; exact X.d.m1) (by rw [M 2 (by omega) (by omega)]; exact X.d.m2) (by rw [M 3 (by omega) (by omega)]; exact X.d.m3) (by rw [M 37 (by omega) (by omega)]; exact X.d.m5) (by rw [M 40 (by omega) (by omega)]; exact X.d.m6) (by rw [M 43 (by omega) (by omega)]; exact X.d.m7) (fun s hs => ?_) (fun s hs => ?_) (fun k hk => ?_) (fun i hi => ?_) (fun i hi => ?_) ⟨o1, o2, o3, N.1, N.2.1⟩
    · rw [R 57 (by omega) (by omega), R 58 (by omega) (by omega), R 59 (by omega) (by omega), R 60 (by omega) (by omega)]
      exact X.d.sl s hs
    · rw [R 115 (by omega) (by omega), R 116 (by omega) (by omega), R 117 (by omega) (by omega), R 118 (by omega) (by omega), R 119 (by omega) (by omega)]
      exact X.d.sm s hs
    · rw [R 61 (by omega) (by omega), R 120 (by omega) (by omega)]
      exact X.d.rw k hk
    · rw [R 62 (by omega) (by omega), R 63 (by omega) (by omega), R 134 (by omega) (by omega), R 135 (by omega) (by omega)]
      exact X.d.pl i hi
    · rw [R 64 (by omega) (by omega), R 65 (by omega) (by omega), R 136 (by omega) (by omega), R 137 (by omega) (by omega)]
      exact X.d.bk i hi
  · obtain ⟨q1, q2, q3, q4, q5, q6, q7⟩ := X.q
    have R52 : ∀ q, 52 ≤ q → q ≤ 55 → f' q = f q := fun q a b => R q (by omega) (by omega)
    exact ⟨by omega, x5, x11, HF, cfl_fr (R52 _ (by omega) (by omega)) (R52 _ (by omega) (by omega)) (R52 _ (by omega) (by omega)) (R52 _ (by omega) (by omega)) q5, by rw [R52 52 (by omega) (by omega)]; exact q6, by rw [R52 52 (by omega) (by omega)]; exact q7⟩
  · have I := X.i.fr (f' := f') (fun q hq => R q (by omega) (by omega)) (F 17 2 (by omega) (by omega)) (fun k a b => M k (by omega) (by omega))
    rcases I with ⟨a, b⟩ | ⟨a, b, n', hr', wn', dk', sd', gb', pc', bc', W', D', J, HH⟩
    · exact Or.inl ⟨a, b⟩
    · refine Or.inr ⟨a, b, n', hr', wn', dk', sd', gb', pc', bc', W', D', J, ?_⟩
      rcases HH with z | ⟨t, z1, z2, z3, z4⟩
      · exact Or.inl z
      · exact Or.inr ⟨t, by omega, z2, z3, by show dH D' = if t = hc then H else HS t; rw [if_neg (by omega)]; exact z4⟩
  · exact X.t.fr (fun q hq => R q (by omega) (by omega))
  · exact X.a.fr (by rw [R 49 (by omega) (by omega)]) (R 50 (by omega) (by omega)) (R 148 (by omega) (by omega)) (M 65 (by omega) (by omega))
  · exact X.x.fr (by rw [R 18 (by omega) (by omega)]) (R 19 (by omega) (by omega)) (R 121 (by omega) (by omega)) (M 13 (by omega) (by omega))
theorem op_hill (X : XP f g h1 h2 n hr wn dk sd gb pc bc W D hc HS) : OPI sc (d + 30) 71 129 [] f g h1 h2 := by
  have q1 := X.q.1
  have q2 := X.q.2.1
  have q3 := X.q.2.2.1
  have e6 := @nI_ltI hc 6 (by omega) (by decide)
  have e6b := @nI_eq hc 6 (by omega) (by decide)
  have t6 : nI 6 = 6 := rfl
  rw [t6] at e6 e6b
  by_cases h6 : hc < 6
  rotate_left
  · have h6' : hc = 6 := by omega
    refine opi_q2 (v := -4) X (qc0 ?_) fun f1 F1 X1 => qc0 ?_
    · simp only [c71, x71_0, x71_1, x71_4, x71_6, x71_9, x71_11, x71_12, x71_13, x71_16, x71_17, x71_20, x71_21, x71_22, x71_23, x71_26, x71_27, x71_30, x71_31, x71_32, x71_35, x71_36, x71_39, x71_40, x71_41, x71_44, x71_46, x71_47, x71_48, x71_49, x71_50, x71_53, x71_54, x71_54b, x71_57, x71_58, x71_59, x71_62, x71_63, x71_64, x71_67, x71_68, x71_71, x71_72, x71_73, kp17, rf17_0, rp17_0, rf17_1, rp17_1, rf17_3, rp17_3, rf17_4, rp17_4, al20, iA20, iG20, rf17_6, rp17_6, rf17_7, rp17_7, rf17_8, rp17_8, al51, iA51, iG51, q2, e6, eq_false h6, bI_True, bI_False, nI_1, Nat.reduceLeDiff, Nat.reduceEqDiff, nb0, nb1, nbI, eq_self, ex_pr, tl_s, tl_n, if_true, if_false, not_true_eq_false, not_false_eq_true, and_self, and_false, false_and, and_true, true_and]
    · have q3' := X1.q.2.2.1
      simp only [c129, x129_0, x129_1, x129_4, x129_6, x129_9, x129_11, x129_12, x129_13, x129_14, x129_17, x129_20, x129_21, x129_22, x129_23, x129_26, x129_27, x129_30, x129_32, x129_33, x129_36, x129_37, x129_38, x129_39, x129_40, x129_43, x129_46, x129_47, x129_48, x129_51, x129_52, x129_53, x129_56, x129_57, x129_60, kp114, rf114_5, rp114_5, al115, iA115, it115, rf114_6, rp114_6, al116, iA116, it116, rf114_7, rp114_7, al117, iA117, it117, rf114_8, rp114_8, al118, iA118, it118, rf114_9, rp114_9, al119, iA119, it119, rf114_10, rp114_10, al120, iA120, it120, rf114_16, rp114_16, al121, iA121, it121, rf114_17, rp114_17, al122, iA122, it122, rf114_18, rp114_18, al123, iA123, it123, rf114_19, rp114_19, al124, iA124, it124, rf114_20, rp114_20, al125, iA125, it125, rf114_21, rp114_21, al126, iA126, it126, rf114_22, rp114_22, al127, iA127, it127, rf114_23, rp114_23, al128, iA128, it128, rf114_27, rp114_27, al129, iA129, it129, rf114_28, rp114_28, al130, iA130, it130, rf114_29, rp114_29, al131, iA131, it131, rf114_30, rp114_30, al132, iA132, it132, rf114_31, rp114_31, al133, iA133, it133, rf114_41, rp114_41, al134, iA134, it134, rf114_42, rp114_42, al135, iA135, it135, rf114_44, rp114_44, al136, iA136, it136, rf114_45, rp114_45, al137, iA137, it137, rf114_55, rp114_55, al138, iA138, it138, rf114_56, rp114_56, al139, iA139, it139, rf114_57, rp114_57, al140, iA140, it140, rf114_58, rp114_58, al141, iA141, it141, rf114_59, rp114_59, al142, iA142, it142, rf114_60, rp114_60, al143, iA143, it143, rf114_61, rp114_61, al144, iA144, it144, rf114_62, rp114_62, al145, iA145, it145, rf114_63, rp114_63, al146, iA146, it146, rf114_64, rp114_64, al147, iA147, it147, rf114_66, rp114_66, al148, iA148, it148, rf114_67, rp114_67, al149, iA149, it149, rf114_68, rp114_68, al150, iA150, it150, rf114_69, rp114_69, al151, iA151, it151, rf114_70, rp114_70, al152, iA152, it152, q3', e6b, eq_true h6', bI_True, bI_False, nI_1, Nat.reduceLeDiff, Nat.reduceEqDiff, nb0, nb1, nbI, eq_self, ex_pr, tl_s, tl_n, if_true, if_false, not_true_eq_false, not_false_eq_true, and_self, and_false, false_and, and_true, true_and]
  have h6n : ¬ hc = 6 := by omega
  obtain ⟨L, tl, x1, x2, x3⟩ := X.x
  -- the signs
  obtain ⟨C, eC⟩ : ∃ C : Nat → Int32, C = fun i => if i < L then f 19 i else -1 := ⟨_, rfl⟩
  have T : TXC C L := by
    refine ⟨tl, fun i hi => ?_, fun i hi => ?_⟩
    · obtain ⟨b, hb, e, -⟩ := x3 i hi
      exact ⟨b, hb, by rw [eC]; exact (if_pos hi).trans e⟩
    · rw [eC]
      exact if_neg (by omega)
  obtain ⟨u1, u2'⟩ := hl20 hc h6
  have i1 : inb (nI hc) 6 = true := inb_nI h6 (by decide)
  have i2 : (nI hc).toNatClampNeg = hc := cl_nI (by omega)
  have HL := hlf hc h6
  have z1 : nI hc + 1 = nI (hc + 1) := by rw [← lt1, nI_add]
  have y1 : (100 : Int32) * nI hc = nI (100 * hc) := nI_mul 100 hc
  have k24 := fun d r f => @s24 sc d r f g h1 h2 hc h6
  -- the class begins
  obtain ⟨fa, ea⟩ : ∃ fa, fa = u2 (u2 (u2 (u2 (u2 f 18 2 0) (78 + 4 * hc) 0 1) (78 + 4 * hc) 1 990) (78 + 4 * hc) 2 0) (78 + 4 * hc) 6 0 := ⟨_, rfl⟩
  have Fa : Fh hc f fa := by
    rw [ea]
    exact (((((Fh.u (by unfold hlc; omega)).tr (Fh.u (by unfold hlc; omega))).tr (Fh.u (by unfold hlc; omega))).tr (Fh.u (by unfold hlc; omega))).tr (Fh.u (by unfold hlc; omega)))
  have Ka : KT fa C L 0 := by
    refine ⟨⟨fun i hi => ?_, ?_⟩, ?_, Nat.zero_le _⟩
    · rw [ea, u2_nn (by omega), u2_nn (by omega), u2_nn (by omega), u2_nn (by omega), u2_nn (by omega), eC]
      exact (if_pos hi).symm
    · rw [ea, u2_nn (by omega), u2_nn (by omega), u2_nn (by omega), u2_nn (by omega), u2_nn (by omega)]
      exact x1
    · rw [ea, u2_nn (by omega), u2_nn (by omega), u2_nn (by omega), u2_nn (by omega), u2_ss]
      rfl
  have Ca : CHD fa hc [] := by
    refine ⟨⟨?_, ?_⟩, ?_, ?_⟩
    · rw [ea, u2_nn (by omega), u2_ss]
      rfl
    · rw [ea, u2_ss]
      rfl
    · rw [ea, u2_nn (by omega), u2_nn (by omega), u2_nn (by omega), u2_ss]
      rfl
    · rw [ea, u2_nn (by omega), u2_nn (by omega), u2_ss]
      rfl
  have sa : cS (u2 (u2 (u2 (u2 (u2 f 18 2 0) (78 + 4 * hc) 0 1) (78 + 4 * hc) 1 990) (78 + 4 * hc) 2 0) (78 + 4 * hc) 6 0) g h1 h2 = cS fa g h1 h2 := by rw [ea]
  -- the reference begins, behind the class
  have rbg : ∀ f1, f1 121 = f 121 → f1 114 13 = f 114 13 → f1 129 = f 129 → MHD (u2 (u2 f1 114 14 0) 114 24 (nI (100 * hc))) C L 0 hc [] := fun f1 a b c => by
    refine ⟨⟨fun i hi => ?_, ?_, ?_, Nat.zero_le _⟩, fun k hk => ?_, ?_, True.intro⟩
    · obtain ⟨v, hv, e1, e2⟩ := x3 i hi
      rw [u2_nn (by omega), u2_nn (by omega), a, e2, eC]
      exact ((if_pos hi).trans e1).symm
    · rw [u2_nn (by omega), u2_nn (by omega), b]
      exact x2
    · rw [u2_nn (by omega), u2_ss]
      rfl
    · rw [u2_nn (by omega), u2_nn (by omega), c]
      exact X.l k hk
    · rw [u2_ss]
      rfl
  have TX := fun h3 => tx_alt (sc := sc) (d := d + 18) (g := g) (h1 := h1) (h2 := h2) (h3 := h3) (by omega) h6 T 10 [] 0 rfl (by omega) (Nat.zero_le _) (Nat.zero_le _) (fun c hc => absurd hc (List.not_mem_nil))
  rcases TX h1 with ⟨H0, -, -, -, v4, -⟩ | ⟨p', w1, w2, w3⟩
  · rcases TX (78 + 4 * hc) with ⟨H, w1, w2, w3, w4, w5⟩ | ⟨p', wl, w2, -⟩
    · obtain ⟨fb, Fb, Cb, kb⟩ := w4 fa Ka Ca
      have kb' : ∀ r, (Rn sc (d + 28) 56 11 [.ref (18 : Nat), .ref (78 + 4 * hc), .int 1] [] (cS fa g h1 h2) r ↔ r = (cS fb g h1 h2, some (.int (-1)))) := kb
      have FB : Fh hc f fb := Fa.tr Fb.h
      have nb5 : fb 17 5 = nI hc := by rw [FB 17 5 (by unfold hlc; omega)]; exact q2
      obtain ⟨f1, e1⟩ : ∃ f1, f1 = u2 (u2 fb 18 1 0) 17 5 (nI (hc + 1)) := ⟨_, rfl⟩
      have s1 : cS (u2 (u2 fb 18 1 0) 17 5 (nI (hc + 1))) g (78 + 4 * hc) h2 = cS f1 g (78 + 4 * hc) h2 := by rw [e1]
      have n17 : f1 17 5 = nI (hc + 1) := by rw [e1, u2_ss]
      have R1 : ∀ q, q ≠ 17 → q ≠ 18 → f1 q = fb q := fun q a b => by rw [e1, u2_n a, u2_n b]
      have M2 := rbg f1 (by rw [R1 _ (by omega) (by omega)]; exact FB.row fun k => by unfold hlc; omega) (by rw [R1 _ (by omega) (by omega), Fb 114 13 (by omega) (by omega), ea, u2_nn (by omega), u2_nn (by omega), u2_nn (by omega), u2_nn (by omega), u2_nn (by omega)]) (by rw [R1 _ (by omega) (by omega)]; exact FB.row fun k => by unfold hlc; omega)
      obtain ⟨f2, e2⟩ : ∃ f2, f2 = u2 (u2 f1 114 14 0) 114 24 (nI (100 * hc)) := ⟨_, rfl⟩
      rw [← e2] at M2
      have s2 : cS (u2 (u2 f1 114 14 0) 114 24 (nI (100 * hc))) g (78 + 4 * hc) h2 = cS f2 g (78 + 4 * hc) h2 := by rw [e2]
      obtain ⟨f3, F3, m3, n122, k3⟩ := w5 f2 M2
      have k3' : ∀ r, (Rn sc (d + 28) 128 15 [.ref (114 : Nat), .int (nI hc), .int 0] [] (cS f2 g (78 + 4 * hc) h2) r ↔ r = (cS f3 g (78 + 4 * hc) h2, some (.int 1))) := k3
      have n11 : f1 114 11 = nI hc := by rw [R1 _ (by omega) (by omega), FB 114 11 (by unfold hlc; omega)]; exact q3
      have n11' : f3 114 11 = nI hc := by rw [F3 _ _ (by omega) (by omega) (by omega) (by omega) (by omega), e2, u2_nn (by omega), u2_nn (by omega)]; exact n11
      obtain ⟨f4, e4⟩ : ∃ f4, f4 = u2 (u2 (u2 f3 114 13 0) 114 12 (nI hc)) 114 11 (nI (hc + 1)) := ⟨_, rfl⟩
      obtain ⟨fB, eB⟩ : ∃ fB, fB = u2 (u2 (u2 f4 17 5 (nI hc)) 114 11 (f 114 11)) 114 12 (f 114 12) := ⟨_, rfl⟩
      -- rows as they come down
      have B4 : ∀ q k, ¬ (q = 17 ∧ k = 5) → ¬ (q = 114 ∧ (k = 11 ∨ k = 12)) → fB q k = f4 q k := fun q k a b => by rw [eB, u2_nn (by omega), u2_nn (by omega), u2_nn (by omega)]
      have B3 : ∀ q k, ¬ (q = 17 ∧ k = 5) → ¬ (q = 114 ∧ (k = 11 ∨ k = 12 ∨ k = 13)) → fB q k = f3 q k := fun q k a b => by rw [B4 q k a (by omega), e4, u2_nn (by omega), u2_nn (by omega), u2_nn (by omega)]
      have B1 : ∀ q k, ¬ (q = 17 ∧ k = 5) → ¬ hlc hc q k → ¬ (q = 114 ∧ (k = 11 ∨ k = 12)) → fB q k = f1 q k := fun q k a b c => by
        rw [B3 q k a (fun e => b (by unfold hlc; omega)), F3.h q k b, e2, u2_nn (fun e => b (by unfold hlc; omega)), u2_nn (fun e => b (by unfold hlc; omega))]
      have Ff : Fh hc f fB := fun q k h => by
        by_cases a : q = 17 ∧ k = 5
        · obtain ⟨rfl, rfl⟩ := a
          rw [eB, u2_nn (by omega), u2_nn (by omega), u2_ss, q2]
        by_cases b : q = 114 ∧ (k = 11 ∨ k = 12)
        · obtain ⟨rfl, rfl | rfl⟩ := b
          · rw [eB, u2_nn (by omega), u2_ss]
          · rw [eB, u2_ss]
        rw [B1 q k a h b, e1, u2_nn a, u2_nn (fun e => h (by unfold hlc; omega))]
        exact FB q k h
      have RB : ∀ q, 78 ≤ q → q ≤ 101 → fB q = fb q := fun q a b => funext fun k => by
        rw [B3 q k (by omega) (by omega), F3 _ _ (by omega) (by omega) (by omega) (by omega) (by omega), e2, u2_nn (by omega), u2_nn (by omega), R1 _ (by omega) (by omega)]
      have RM : ∀ q, 122 ≤ q → q ≤ 127 → fB q = f3 q := fun q a b => funext fun k => B3 q k (by omega) (by omega)
      have N : HCo fB hc H := by
        obtain ⟨y1, y2, y3⟩ := Cb
        refine ⟨w1, w2, cfl_fr (RB _ (by omega) (by omega)) (RB _ (by omega) (by omega)) (RB _ (by omega) (by omega)) (RB _ (by omega) (by omega)) y1, by rw [RB _ (by omega) (by omega)]; exact y2, by rw [RB _ (by omega) (by omega)]; exact y3, ?_⟩
        refine mhl_fr (f := f3) (fun q hq => RM q hq.1 hq.2) (mh2_m H 0 (100 * hc) m3 (by omega) (Nat.le_refl _) (by omega) (by rw [Nat.zero_add]; exact n122))
      have XB := X.hf h6 Ff (by rw [B3 _ _ (by omega) (by omega), F3 _ _ (by omega) (by omega) (by omega) (by omega) (by omega), e2, u2_nn (by omega), u2_nn (by omega), e1, u2_nn (by omega), u2_ss]) (by rw [B4 _ _ (by omega) (by omega), e4, u2_nn (by omega), u2_nn (by omega), u2_ss])
      have X4 := XB.ht (f' := f4) h6 (by rw [e4, u2_nn (by omega), u2_nn (by omega), u2_nn (by omega), F3 _ _ (by omega) (by omega) (by omega) (by omega) (by omega), e2, u2_nn (by omega), u2_nn (by omega), e1, u2_ss]) (by rw [e4, u2_ss]) (by rw [e4, u2_nn (by omega), u2_ss]) (fun q k a b => (B4 q k a b).symm) N
      refine ⟨f1, g, 78 + 4 * hc, h2, f4, g, 78 + 4 * hc, h2, nI hc, ?_, ?_, X4.xs⟩
      · simp only [c71, x71_0, x71_1, x71_4, x71_6, x71_9, x71_11, x71_12, x71_13, x71_16, x71_17, x71_20, x71_21, x71_22, x71_23, x71_26, x71_27, x71_30, x71_31, x71_32, x71_35, x71_36, x71_39, x71_40, x71_41, x71_44, x71_46, x71_47, x71_48, x71_49, x71_50, x71_53, x71_54, x71_54b, x71_57, x71_58, x71_59, x71_62, x71_63, x71_64, x71_67, x71_68, x71_71, x71_72, x71_73, c56, x56_0, x56_1, x56_2, x56_5, x56_6, x56_9, x56_10, x56_12, x56_14, x56_17, x56_18, x56_19, x56_22, x56_25, x56_26, x56_29, x56_30, x56_31, x56_34, x56_35, x56_38, x56_39, x56_40, x56_41, x56_43, x56_46, x56_47, x56_49, x56_52, x56_55, x56_56, x56_59, x56_60, x56_63, x56_66, x56_67, x56_70, kp17, rf17_0, rp17_0, rf17_1, rp17_1, rf17_3, rp17_3, rf17_4, rp17_4, al20, iA20, iG20, rf17_6, rp17_6, rf17_7, rp17_7, rf17_8, rp17_8, al51, iA51, iG51, kp18, rf18_0, rp18_0, al19, iA19, it19, al20, iA20, iG20, rf20_0, rp20_0, rf20_1, rp20_1, rf20_2, rp20_2, rf20_3, rp20_3, rf20_4, rp20_4, rf20_5, rp20_5, q2, e6, eq_true h6, i1, i2, u1, u2', HL.k, k24, sa, kb', nb5, u2_at, z1, s1, n17, pkm1, bI_True, bI_False, nI_1, Nat.reduceLeDiff, Nat.reduceEqDiff, nb0, nb1, nbI, eq_self, ex_pr, tl_s, tl_n, if_true, if_false, not_true_eq_false, not_false_eq_true, and_self, and_false, false_and, and_true, true_and]
      · simp only [c129, x129_0, x129_1, x129_4, x129_6, x129_9, x129_11, x129_12, x129_13, x129_14, x129_17, x129_20, x129_21, x129_22, x129_23, x129_26, x129_27, x129_30, x129_32, x129_33, x129_36, x129_37, x129_38, x129_39, x129_40, x129_43, x129_46, x129_47, x129_48, x129_51, x129_52, x129_53, x129_56, x129_57, x129_60, c128, x128_0, x128_1, x128_2, x128_5, x128_6, x128_8, x128_9, x128_10, x128_13, x128_14, x128_16, x128_18, x128_19, x128_20, x128_21, x128_22, x128_25, x128_28, x128_29, x128_30, x128_33, x128_34, x128_37, x128_38, x128_39, x128_40, x128_41, x128_44, x128_45, x128_48, x128_51, x128_52, x128_53, x128_54, x128_56, x128_59, x128_60, x128_62, x128_65, x128_68, x128_69, kp114, rf114_5, rp114_5, al115, iA115, it115, rf114_6, rp114_6, al116, iA116, it116, rf114_7, rp114_7, al117, iA117, it117, rf114_8, rp114_8, al118, iA118, it118, rf114_9, rp114_9, al119, iA119, it119, rf114_10, rp114_10, al120, iA120, it120, rf114_16, rp114_16, al121, iA121, it121, rf114_17, rp114_17, al122, iA122, it122, rf114_18, rp114_18, al123, iA123, it123, rf114_19, rp114_19, al124, iA124, it124, rf114_20, rp114_20, al125, iA125, it125, rf114_21, rp114_21, al126, iA126, it126, rf114_22, rp114_22, al127, iA127, it127, rf114_23, rp114_23, al128, iA128, it128, rf114_27, rp114_27, al129, iA129, it129, rf114_28, rp114_28, al130, iA130, it130, rf114_29, rp114_29, al131, iA131, it131, rf114_30, rp114_30, al132, iA132, it132, rf114_31, rp114_31, al133, iA133, it133, rf114_41, rp114_41, al134, iA134, it134, rf114_42, rp114_42, al135, iA135, it135, rf114_44, rp114_44, al136, iA136, it136, rf114_45, rp114_45, al137, iA137, it137, rf114_55, rp114_55, al138, iA138, it138, rf114_56, rp114_56, al139, iA139, it139, rf114_57, rp114_57, al140, iA140, it140, rf114_58, rp114_58, al141, iA141, it141, rf114_59, rp114_59, al142, iA142, it142, rf114_60, rp114_60, al143, iA143, it143, rf114_61, rp114_61, al144, iA144, it144, rf114_62, rp114_62, al145, iA145, it145, rf114_63, rp114_63, al146, iA146, it146, rf114_64, rp114_64, al147, iA147, it147, rf114_66, rp114_66, al148, iA148, it148, rf114_67, rp114_67, al149, iA149, it149, rf114_68, rp114_68, al150, iA150, it150, rf114_69, rp114_69, al151, iA151, it151, rf114_70, rp114_70, al152, iA152, it152, n11, e6b, eq_false h6n, y1, s2, k3', zi1, u2_at, n11', z1, e4, bI_True, bI_False, nI_1, Nat.reduceLeDiff, Nat.reduceEqDiff, nb0, nb1, nbI, eq_self, ex_pr, tl_s, tl_n, if_true, if_false, not_true_eq_false, not_false_eq_true, and_self, and_false, false_and, and_true, true_and]
    · -- the class can't end so and so
      obtain ⟨fb, -, -, kb⟩ := v4 fa Ka Ca
      obtain ⟨fc, -, kc⟩ := w2 fa Ka Ca
      have := (kc _).mp ((kb _).mpr rfl)
      injection this with _ h
      injection h with h
      injection h with h
      exact absurd h.symm (nm1 (by omega))
  · obtain ⟨fb, Fb, kb⟩ := w2 fa Ka Ca
    have kb' : ∀ r, (Rn sc (d + 28) 56 11 [.ref (18 : Nat), .ref (78 + 4 * hc), .int 1] [] (cS fa g h1 h2) r ↔ r = (cS fb g h1 h2, some (.int (nI p')))) := kb
    have FB : Fh hc f fb := Fa.tr Fb.h
    have np : ¬ nI p' = -1 := nm1 (by omega)
    obtain ⟨f1, e1⟩ : ∃ f1, f1 = u2 fb 18 1 0 := ⟨_, rfl⟩
    have s1 : cS (u2 fb 18 1 0) g h1 h2 = cS f1 g h1 h2 := by rw [e1]
    have R1 : ∀ q, q ≠ 18 → f1 q = fb q := fun q b => by rw [e1, u2_n b]
    have M2 := rbg f1 (by rw [R1 _ (by omega)]; exact FB.row fun k => by unfold hlc; omega) (by rw [R1 _ (by omega), Fb 114 13 (by omega) (by omega), ea, u2_nn (by omega), u2_nn (by omega), u2_nn (by omega), u2_nn (by omega), u2_nn (by omega)]) (by rw [R1 _ (by omega)]; exact FB.row fun k => by unfold hlc; omega)
    obtain ⟨f2, e2⟩ : ∃ f2, f2 = u2 (u2 f1 114 14 0) 114 24 (nI (100 * hc)) := ⟨_, rfl⟩
    rw [← e2] at M2
    have s2 : cS (u2 (u2 f1 114 14 0) 114 24 (nI (100 * hc))) g h1 h2 = cS f2 g h1 h2 := by rw [e2]
    obtain ⟨f3, F3, n14, k3⟩ := w3 f2 M2
    have k3' : ∀ r, (Rn sc (d + 28) 128 15 [.ref (114 : Nat), .int (nI hc), .int 0] [] (cS f2 g h1 h2) r ↔ r = (cS f3 g h1 h2, some (.int 0))) := k3
    have n11 : f1 114 11 = nI hc := by rw [R1 _ (by omega), FB 114 11 (by unfold hlc; omega)]; exact q3
    have Ff : Fh hc f (u2 f3 114 13 0) := fun q k h => by
      rw [u2_nn (fun e => h (by unfold hlc; omega)), F3.h q k h, e2, u2_nn (fun e => h (by unfold hlc; omega)), u2_nn (fun e => h (by unfold hlc; omega)), e1, u2_nn (fun e => h (by unfold hlc; omega))]
      exact FB q k h
    have XB := X.hf h6 Ff (by rw [u2_nn (by omega), F3 _ _ (by omega) (by omega) (by omega) (by omega) (by omega), e2, u2_nn (by omega), u2_nn (by omega), e1, u2_ss]) u2_ss
    refine ⟨f1, g, h1, h2, _, g, h1, h2, -10 - nI p', ?_, ?_, XB.xs⟩
    · simp only [c71, x71_0, x71_1, x71_4, x71_6, x71_9, x71_11, x71_12, x71_13, x71_16, x71_17, x71_20, x71_21, x71_22, x71_23, x71_26, x71_27, x71_30, x71_31, x71_32, x71_35, x71_36, x71_39, x71_40, x71_41, x71_44, x71_46, x71_47, x71_48, x71_49, x71_50, x71_53, x71_54, x71_54b, x71_57, x71_58, x71_59, x71_62, x71_63, x71_64, x71_67, x71_68, x71_71, x71_72, x71_73, c56, x56_0, x56_1, x56_2, x56_5, x56_6, x56_9, x56_10, x56_12, x56_14, x56_17, x56_18, x56_19, x56_22, x56_25, x56_26, x56_29, x56_30, x56_31, x56_34, x56_35, x56_38, x56_39, x56_40, x56_41, x56_43, x56_46, x56_47, x56_49, x56_52, x56_55, x56_56, x56_59, x56_60, x56_63, x56_66, x56_67, x56_70, kp17, rf17_0, rp17_0, rf17_1, rp17_1, rf17_3, rp17_3, rf17_4, rp17_4, al20, iA20, iG20, rf17_6, rp17_6, rf17_7, rp17_7, rf17_8, rp17_8, al51, iA51, iG51, kp18, rf18_0, rp18_0, al19, iA19, it19, al20, iA20, iG20, rf20_0, rp20_0, rf20_1, rp20_1, rf20_2, rp20_2, rf20_3, rp20_3, rf20_4, rp20_4, rf20_5, rp20_5, q2, e6, eq_true h6, i1, i2, u1, u2', HL.k, k24, sa, kb', np, s1, bI_True, bI_False, nI_1, Nat.reduceLeDiff, Nat.reduceEqDiff, nb0, nb1, nbI, eq_self, ex_pr, tl_s, tl_n, if_true, if_false, not_true_eq_false, not_false_eq_true, and_self, and_false, false_and, and_true, true_and]
    · simp only [c129, x129_0, x129_1, x129_4, x129_6, x129_9, x129_11, x129_12, x129_13, x129_14, x129_17, x129_20, x129_21, x129_22, x129_23, x129_26, x129_27, x129_30, x129_32, x129_33, x129_36, x129_37, x129_38, x129_39, x129_40, x129_43, x129_46, x129_47, x129_48, x129_51, x129_52, x129_53, x129_56, x129_57, x129_60, c128, x128_0, x128_1, x128_2, x128_5, x128_6, x128_8, x128_9, x128_10, x128_13, x128_14, x128_16, x128_18, x128_19, x128_20, x128_21, x128_22, x128_25, x128_28, x128_29, x128_30, x128_33, x128_34, x128_37, x128_38, x128_39, x128_40, x128_41, x128_44, x128_45, x128_48, x128_51, x128_52, x128_53, x128_54, x128_56, x128_59, x128_60, x128_62, x128_65, x128_68, x128_69, kp114, rf114_5, rp114_5, al115, iA115, it115, rf114_6, rp114_6, al116, iA116, it116, rf114_7, rp114_7, al117, iA117, it117, rf114_8, rp114_8, al118, iA118, it118, rf114_9, rp114_9, al119, iA119, it119, rf114_10, rp114_10, al120, iA120, it120, rf114_16, rp114_16, al121, iA121, it121, rf114_17, rp114_17, al122, iA122, it122, rf114_18, rp114_18, al123, iA123, it123, rf114_19, rp114_19, al124, iA124, it124, rf114_20, rp114_20, al125, iA125, it125, rf114_21, rp114_21, al126, iA126, it126, rf114_22, rp114_22, al127, iA127, it127, rf114_23, rp114_23, al128, iA128, it128, rf114_27, rp114_27, al129, iA129, it129, rf114_28, rp114_28, al130, iA130, it130, rf114_29, rp114_29, al131, iA131, it131, rf114_30, rp114_30, al132, iA132, it132, rf114_31, rp114_31, al133, iA133, it133, rf114_41, rp114_41, al134, iA134, it134, rf114_42, rp114_42, al135, iA135, it135, rf114_44, rp114_44, al136, iA136, it136, rf114_45, rp114_45, al137, iA137, it137, rf114_55, rp114_55, al138, iA138, it138, rf114_56, rp114_56, al139, iA139, it139, rf114_57, rp114_57, al140, iA140, it140, rf114_58, rp114_58, al141, iA141, it141, rf114_59, rp114_59, al142, iA142, it142, rf114_60, rp114_60, al143, iA143, it143, rf114_61, rp114_61, al144, iA144, it144, rf114_62, rp114_62, al145, iA145, it145, rf114_63, rp114_63, al146, iA146, it146, rf114_64, rp114_64, al147, iA147, it147, rf114_66, rp114_66, al148, iA148, it148, rf114_67, rp114_67, al149, iA149, it149, rf114_68, rp114_68, al150, iA150, it150, rf114_69, rp114_69, al151, iA151, it151, rf114_70, rp114_70, al152, iA152, it152, n11, e6b, eq_false h6n, y1, s2, k3', u2_at, n14, bI_True, bI_False, nI_1, Nat.reduceLeDiff, Nat.reduceEqDiff, nb0, nb1, nbI, eq_self, ex_pr, tl_s, tl_n, if_true, if_false, not_true_eq_false, not_false_eq_true, and_self, and_false, false_and, and_true, true_and]
end OH
