/-! a text whole; hill -/
def tot : aH → Nat
  | [] => 0
  | (w, _, ts) :: H => (if w ≤ 1 then ts.length else 0) + tot H
theorem tot_sn {w n : Nat} {ts : List Nat} : ∀ H : aH, tot (H ++ [(w, n, ts)]) = tot H + (if w ≤ 1 then ts.length else 0)
  | [] => by
    show (if w ≤ 1 then ts.length else 0) + 0 = 0 + _
    omega
  | (v, m, us) :: H => by
    show (if v ≤ 1 then us.length else 0) + tot (H ++ [(w, n, ts)]) = (if v ≤ 1 then us.length else 0) + tot H + _
    rw [tot_sn H]
    omega
theorem cnt_le : ∀ H : aH, cnt H ≤ H.length
  | [] => Nat.le_refl _
  | (w, n, ts) :: H => by
    have := cnt_le H
    show (if w ≤ 1 then 1 else 0) + cnt H ≤ H.length + 1
    split <;> omega
theorem lst_sn {v w n : Nat} {ts : List Nat} : ∀ (H : aH) (a : Nat), lst v (H ++ [(w, n, ts)]) a = if w = v then n else lst v H a
  | [], _ => rfl
  | (x, m, us) :: H, a => lst_sn H (if x = v then m else a)
theorem cfl_t {f : Nat → Nat → Int32} {o : Nat} : ∀ (H : aH) (i s : Nat), CFL f o i s H → f o 2 = nI (i + cnt H) ∧ f o 6 = nI (s + tot H)
  | [], _, _, c => c
  | (w, n, ts) :: H, i, s, c => by
    unfold CFL at c
    show f o 2 = nI (i + ((if w ≤ 1 then 1 else 0) + cnt H)) ∧ f o 6 = nI (s + ((if w ≤ 1 then ts.length else 0) + tot H))
    by_cases hw : w ≤ 1
    · rw [if_pos hw] at c ⊢
      rw [if_pos hw]
      have := cfl_t H _ _ c.2
      rw [Nat.add_assoc, Nat.add_assoc] at this
      exact this
    · rw [if_neg hw] at c ⊢
      rw [if_neg hw, Nat.zero_add, Nat.zero_add]
      exact cfl_t H _ _ c
theorem cfl_sn {f f' : Nat → Nat → Int32} {o w n : Nat} {ts : List Nat} : ∀ (H : aH) (i s : Nat), CFL f o i s H → (∀ k, k < i + cnt H → f' (o + 1) k = f (o + 1) k ∧ f' (o + 2) k = f (o + 2) k) → (∀ k, k < s + tot H → f' (o + 3) k = f (o + 3) k) → CFL f' o (i + cnt H) (s + tot H) [(w, n, ts)] → CFL f' o i s (H ++ [(w, n, ts)])
  | [], _, _, _, _, _, h => h
  | (v, m, us) :: H, i, s, c, h1, h2, h => by
    have c0 : cnt ((v, m, us) :: H) = (if v ≤ 1 then 1 else 0) + cnt H := rfl
    have t0 : tot ((v, m, us) :: H) = (if v ≤ 1 then us.length else 0) + tot H := rfl
    rw [c0] at h1 h
    rw [t0] at h2 h
    show (if v ≤ 1 then (f' (o + 1) i = amt v m ∧ f' (o + 2) i = nI (s + us.length) ∧ (∀ j, j < us.length → f' (o + 3) (s + j) = ckT (us.getD j 0)) ∧ s + us.length ≤ 100 ∧ i < 10) ∧ CFL f' o (i + 1) (s + us.length) (H ++ [(w, n, ts)]) else CFL f' o i s (H ++ [(w, n, ts)]))
    unfold CFL at c
    by_cases hv : v ≤ 1
    · rw [if_pos hv] at c h1 h2 h ⊢
      rw [if_pos hv] at h
      obtain ⟨⟨c1, c2, c3, c4, c5⟩, c6⟩ := c
      refine ⟨⟨(h1 i (by omega)).1.trans c1, (h1 i (by omega)).2.trans c2, fun j hj => (h2 _ (by omega)).trans (c3 j hj), c4, c5⟩, ?_⟩
      refine cfl_sn H (i + 1) (s + us.length) c6 (fun k hk => h1 k (by omega)) (fun k hk => h2 k (by omega)) ?_
      rw [Nat.add_assoc, Nat.add_assoc]
      exact h
    · rw [if_neg hv] at c h1 h2 h ⊢
      rw [if_neg hv] at h
      rw [Nat.zero_add] at h1 h2 h
      rw [Nat.zero_add] at h
      exact cfl_sn H i s c h1 h2 h
/-- the reference's clauses, one behind another -/
def MH2 (f : Nat → Nat → Int32) (t : Nat) : Nat → Nat → aH → Prop
  | _, _, [] => True
  | c, A, (w, n, ts) :: H => (f 123 (10 * t + c) = nI w ∧ f 124 (10 * t + c) = nI n ∧ (w ≤ 1 → f 125 (10 * t + c) = nI A ∧ f 126 (10 * t + c) = nI (A + ts.length) ∧ TK f A ts)) ∧ MH2 f t (c + 1) (A + (if w ≤ 1 then ts.length else 0)) H
theorem mh2_sn {f f' : Nat → Nat → Int32} {t w n : Nat} {ts : List Nat} : ∀ (H : aH) (c A : Nat), MH2 f t c A H → (∀ q k, 123 ≤ q → q ≤ 126 → k < 10 * t + c + H.length → f' q k = f q k) → (∀ k, k < A + tot H → f' 127 k = f 127 k) → MH2 f' t (c + H.length) (A + tot H) [(w, n, ts)] → MH2 f' t c A (H ++ [(w, n, ts)])
  | [], _, _, _, _, _, h => h
  | (v, m, us) :: H, c, A, M, h1, h2, h => by
    have t0 : tot ((v, m, us) :: H) = (if v ≤ 1 then us.length else 0) + tot H := rfl
    rw [t0] at h2 h
    rw [List.length_cons] at h1 h
    obtain ⟨⟨m1, m2, m3⟩, m4⟩ := M
    refine ⟨⟨(h1 _ _ (by omega) (by omega) (by omega)).trans m1, (h1 _ _ (by omega) (by omega) (by omega)).trans m2, fun hv => ?_⟩, ?_⟩
    · obtain ⟨n1, n2, n3⟩ := m3 hv
      rw [if_pos hv] at h2
      exact ⟨(h1 _ _ (by omega) (by omega) (by omega)).trans n1, (h1 _ _ (by omega) (by omega) (by omega)).trans n2, fun j hj => (h2 _ (by omega)).trans (n3 j hj)⟩
    · refine mh2_sn H (c + 1) _ m4 (fun q k a b hk => h1 q k a b (by omega)) (fun k hk => h2 k (by omega)) ?_
      rw [show c + 1 + H.length = c + (H.length + 1) by omega, Nat.add_assoc]
      exact h
theorem mh2_m {f : Nat → Nat → Int32} {t : Nat} : ∀ (H : aH) (c A : Nat), MH2 f t c A H → c + H.length ≤ 10 → 100 * t ≤ A → A + tot H ≤ 100 * t + 100 → f 122 t = nI (c + H.length) → MHL f t c H
  | [], _, _, _, _, _, _, h => h
  | (w, n, ts) :: H, c, A, M, h1, h2, h3, h4 => by
    obtain ⟨⟨m1, m2, m3⟩, m4⟩ := M
    rw [List.length_cons] at h1 h4
    have t0 : tot ((w, n, ts) :: H) = (if w ≤ 1 then ts.length else 0) + tot H := rfl
    rw [t0] at h3
    refine ⟨⟨m1, m2, by omega, fun hw => ?_⟩, mh2_m H (c + 1) _ m4 (by omega) (by omega) (by omega) (by rw [show c + 1 + H.length = c + (H.length + 1) by omega]; exact h4)⟩
    obtain ⟨n1, n2, n3⟩ := m3 hw
    rw [if_pos hw] at h3
    exact ⟨A, h2, by omega, n1, n2, n3⟩
theorem mh2_fr {f f' : Nat → Nat → Int32} {t : Nat} (h : ∀ q, 123 ≤ q → q ≤ 127 → f' q = f q) : ∀ (H : aH) (c A : Nat), MH2 f t c A H → MH2 f' t c A H
  | [], _, _, _ => True.intro
  | (w, n, ts) :: H, c, A, M => by
    obtain ⟨⟨m1, m2, m3⟩, m4⟩ := M
    refine ⟨⟨by rw [h _ (by omega) (by omega)]; exact m1, by rw [h _ (by omega) (by omega)]; exact m2, fun hw => ?_⟩, mh2_fr h H _ _ m4⟩
    obtain ⟨a1, a2, a3⟩ := m3 hw
    exact ⟨by rw [h _ (by omega) (by omega)]; exact a1, by rw [h _ (by omega) (by omega)]; exact a2, fun j hj => by rw [h _ (by omega) (by omega)]; exact a3 j hj⟩
theorem mhl_lo {f f' : Nat → Nat → Int32} {t T : Nat} (ht : t < T) (h1 : ∀ q k, 123 ≤ q → q ≤ 126 → k < 10 * T → f' q k = f q k) (h2 : ∀ k, k < 100 * T → f' 127 k = f 127 k) (h3 : ∀ k, k < T → f' 122 k = f 122 k) : ∀ (H : aH) (c : Nat), MHL f t c H → MHL f' t c H
  | [], c, m => (h3 t ht).trans m
  | (w, n, ts) :: H, c, m => by
    obtain ⟨⟨m1, m2, m3, m4⟩, m5⟩ := m
    refine ⟨⟨(h1 _ _ (by omega) (by omega) (by omega)).trans m1, (h1 _ _ (by omega) (by omega) (by omega)).trans m2, m3, fun hw => ?_⟩, mhl_lo ht h1 h2 h3 H (c + 1) m5⟩
    obtain ⟨a, a1, a2, a3, a4, a5⟩ := m4 hw
    exact ⟨a, a1, a2, (h1 _ _ (by omega) (by omega) (by omega)).trans a3, (h1 _ _ (by omega) (by omega) (by omega)).trans a4, fun j hj => (h2 _ (by omega)).trans (a5 j hj)⟩
def FH (f f' : Nat → Nat → Int32) (t : Nat) : Prop := ∀ q k, ¬ (q = 18 ∧ k = 2) → ¬ (78 + 4 * t ≤ q ∧ q ≤ 81 + 4 * t) → f' q k = f q k
theorem FH.tr {f f1 f2 : Nat → Nat → Int32} {t : Nat} (x : FH f f1 t) (y : FH f1 f2 t) : FH f f2 t := fun q k a1 a2 => (y q k a1 a2).trans (x q k a1 a2)
theorem FC.fh {f f' : Nat → Nat → Int32} {t i a : Nat} (x : FC f f' t i a) : FH f f' t := fun q k a1 a2 => x q k a1 (by omega) (by omega) (by omega) (by omega)
def FG (f f' : Nat → Nat → Int32) (t : Nat) : Prop := ∀ q k, ¬ (q = 122 ∧ k = t) → ¬ ((q = 123 ∨ q = 124 ∨ q = 125 ∨ q = 126) ∧ 10 * t ≤ k) → ¬ (q = 127 ∧ 100 * t ≤ k) → q ≠ 128 → ¬ (q = 114 ∧ (k = 14 ∨ k = 15 ∨ k = 24 ∨ k = 25 ∨ k = 26)) → f' q k = f q k
theorem FG.tr {f f1 f2 : Nat → Nat → Int32} {t : Nat} (x : FG f f1 t) (y : FG f1 f2 t) : FG f f2 t := fun q k a1 a2 a3 a4 a5 => (y q k a1 a2 a3 a4 a5).trans (x q k a1 a2 a3 a4 a5)
theorem FR.fg {f f' : Nat → Nat → Int32} {t A cc : Nat} (x : FR f f' A cc) (hA : 100 * t ≤ A) (hc : 10 * t ≤ cc) : FG f f' t := fun q k a1 a2 a3 a4 a5 => x q k (by omega) a4 (by omega) a5
theorem wfh_sn {H : aH} {w n : Nat} {ts : List Nat} (h : WFH H) (hw : w ≤ 3) (hn : n ≤ 99) (hf : w ≤ 1 → wf ts 0) : WFH (H ++ [(w, n, ts)]) := by
  intro c hc
  rcases List.mem_append.mp hc with y | y
  · exact h c y
  · rw [List.mem_singleton] at y
    subst y
    exact ⟨hw, hn, hf⟩
def CHD (f : Nat → Nat → Int32) (t : Nat) (H : aH) : Prop := CFL f (78 + 4 * t) 0 0 H ∧ f (78 + 4 * t) 0 = nI (ndH H) ∧ f (78 + 4 * t) 1 = nI (rpH H)
def TCO (sc : aSc) (d : Nat) (g : Nat → Nat → Int64) (h1 h2 : Nat) (C : Nat → Int32) (L t p : Nat) (H H' : aH) : Prop := ∀ f, KT f C L p → CHD f t H → ∃ f', FH f f' t ∧ CHD f' t H' ∧ ∀ r, (Rn sc (d + 10) 56 11 [.ref (18 : Nat), .ref (78 + 4 * t), .int (nI (H.length + 1))] [] (cS f g h1 h2) r ↔ r = (cS f' g h1 h2, some (.int (-1))))
def TCF (sc : aSc) (d : Nat) (g : Nat → Nat → Int64) (h1 h2 : Nat) (C : Nat → Int32) (L t p : Nat) (H : aH) (p' : Nat) : Prop := ∀ f, KT f C L p → CHD f t H → ∃ f', FH f f' t ∧ ∀ r, (Rn sc (d + 10) 56 11 [.ref (18 : Nat), .ref (78 + 4 * t), .int (nI (H.length + 1))] [] (cS f g h1 h2) r ↔ r = (cS f' g h1 h2, some (.int (nI p'))))
def MHD (f : Nat → Nat → Int32) (C : Nat → Int32) (L p t : Nat) (H : aH) : Prop := MTX f C L p ∧ LTs f ∧ f 114 24 = nI (100 * t + tot H) ∧ MH2 f t 0 (100 * t) H
def TRO (sc : aSc) (d : Nat) (g : Nat → Nat → Int64) (h1 h2 h3 : Nat) (C : Nat → Int32) (L t p : Nat) (H H' : aH) : Prop := ∀ f, MHD f C L p t H → ∃ f', FG f f' t ∧ MH2 f' t 0 (100 * t) H' ∧ f' 122 t = nI H'.length ∧ ∀ r, (Rn sc (d + 10) 128 15 [.ref (114 : Nat), .int (nI t), .int (nI H.length)] [] (cS f g h3 h2) r ↔ r = (cS f' g h3 h2, some (.int 1)))
def TRF (sc : aSc) (d : Nat) (g : Nat → Nat → Int64) (h1 h2 h3 : Nat) (C : Nat → Int32) (L t p : Nat) (H : aH) (p' : Nat) : Prop := ∀ f, MHD f C L p t H → ∃ f', FG f f' t ∧ f' 114 14 = nI p' ∧ ∀ r, (Rn sc (d + 10) 128 15 [.ref (114 : Nat), .int (nI t), .int (nI H.length)] [] (cS f g h3 h2) r ↔ r = (cS f' g h3 h2, some (.int 0)))
section TX
variable {sc : aSc} {d : Nat} {r : aRes} {f : Nat → Nat → Int32} {g : Nat → Nat → Int64} {h1 h2 h3 : Nat} {C : Nat → Int32} {L t : Nat}
theorem chd_sn {f f' : Nat → Nat → Int32} {t w n : Nat} {ts : List Nat} {H : aH} (c : CHD f t H) (F : FC f f' t (cnt H) (tot H)) (E : CEND f f' t (cnt H) (tot H) w n ts) (hl : cnt H < 10) (h1 : ¬ w ≤ 1 → ts = []) (hb : tot H + ts.length ≤ 100) : CHD f' t (H ++ [(w, n, ts)]) := by
  obtain ⟨c1, c2, c3⟩ := c
  obtain ⟨e0, e1, e2, e6, e5, ek⟩ := E
  refine ⟨?_, ?_, ?_⟩
  · refine cfl_sn H 0 0 c1 (fun k hk => ⟨F _ _ (by omega) (by omega) (by omega) (by omega) (by omega), F _ _ (by omega) (by omega) (by omega) (by omega) (by omega)⟩) (fun k hk => F _ _ (by omega) (by omega) (by omega) (by omega) (by omega)) ?_
    rw [Nat.zero_add, Nat.zero_add]
    unfold CFL
    by_cases hw : w ≤ 1
    · rw [if_pos hw] at e2 ⊢
      exact ⟨⟨(e5 hw).1, (e5 hw).2, ek, hb, hl⟩, e2, e6⟩
    · rw [if_neg hw] at e2 ⊢
      rw [h1 hw] at e6
      exact ⟨e2, e6⟩
  · unfold ndH
    rw [e0, lst_sn, c2]
    by_cases z : w = 2
    · rw [if_pos z, if_pos z]
    · rw [if_neg z, if_neg z]
      rfl
  · unfold rpH
    rw [e1, lst_sn, c3]
    by_cases z : w = 3
    · rw [if_pos z, if_pos z]
    · rw [if_neg z, if_neg z]
      rfl
theorem tx_alt (hd : 18 ≤ d) (ht : t < 6) (T : TXC C L) : ∀ (k : Nat) (H : aH) (p : Nat), H.length + k = 10 → 0 < k → p ≤ L → tot H ≤ p → WFH H → (∃ H', WFH H' ∧ H'.length ≤ 10 ∧ tot H' ≤ 100 ∧ TCO sc d g h1 h2 C L t p H H' ∧ TRO sc d g h1 h2 h3 C L t p H H') ∨ ∃ p', p' ≤ L ∧ TCF sc d g h1 h2 C L t p H p' ∧ TRF sc d g h1 h2 h3 C L t p H p'
  | 0, _, _, _, hk, _, _, _ => absurd hk (by omega)
  | k + 1, H, p, hl, _, hp, hT, W => by
    have tl := T.1
    have HL := hlf t ht
    have cl := cnt_le H
    have e10 : ¬ (10 : Int32) < nI (H.length + 1) := by
      rw [← lt10, nI_ltI (by decide) (by omega)]
      omega
    have e10b := @nI_eq (H.length + 1) 10 (by omega) (by decide)
    rw [lt10] at e10b
    have z1 : nI (H.length + 1) + 1 = nI (H.length + 1 + 1) := by rw [← lt1, nI_add]
    have z2 : nI H.length + 1 = nI (H.length + 1) := by rw [← lt1, nI_add]
    have y1 : (10 : Int32) * nI t = nI (10 * t) := nI_mul 10 t
    have i1 : inb (nI t) 6 = true := inb_nI ht (by decide)
    have i2 : (nI t).toNatClampNeg = t := cl_nI (by omega)
    -- what the class's hill says
    have ci : ∀ f, CHD f t H → f (78 + 4 * t) 2 = nI (cnt H) ∧ f (78 + 4 * t) 6 = nI (tot H) := fun f c => by
      have := cfl_t H 0 0 c.1
      rw [Nat.zero_add, Nat.zero_add] at this
      exact this
    rcases cl_alt (sc := sc) (d := d) (g := g) (h1 := h1) (h2 := h2) (h3 := h3) (cc := 10 * t + H.length) (a := tot H) (by omega) ht T hp hT with ⟨p', q1, q2, qc, qr⟩ | ⟨p', w, n, ts, ⟨q1, q2, q3, q4, q5, q6, q7⟩, qc, qr⟩
    · refine Or.inr ⟨p', q2, fun f K c => ?_, fun f M => ?_⟩
      · obtain ⟨n2, n6⟩ := ci f c
        obtain ⟨f1, F1, n18, k1⟩ := qc f (cnt H) K n2 (by omega) n6 hT
        have k1' := fun r => k1 (d + 10) r (by omega)
        refine ⟨f1, F1.fh, fun r => ?_⟩
        simp only [x56_11 (x2 := nI (H.length + 1)), x56_12, x56_14, x56_17, x56_18, x56_19, x56_22, x56_25, x56_26, x56_29, kp18, kp18, rf18_0, rp18_0, al19, iA19, it19, e10, k1', n18, bI_True, bI_False, nI_1, Nat.reduceLeDiff, Nat.reduceEqDiff, nb0, nb1, nbI, eq_self, ex_pr, tl_s, tl_n, if_true, if_false, not_true_eq_false, not_false_eq_true, and_self, and_false, false_and, and_true, true_and]
      · obtain ⟨M1, M2, M3, M4⟩ := M
        obtain ⟨f1, F1, n14, k1⟩ := qr f M1 M2 M3 hT
        refine ⟨f1, F1.fg (by omega) (by omega), n14, fun r => ?_⟩
        simp only [x128_15 (a2 := .int (nI H.length)), x128_16, x128_18, x128_19, x128_20, x128_21, x128_22, x128_25, x128_28, x128_29, kp114, rf114_5, rp114_5, al115, iA115, it115, rf114_6, rp114_6, al116, iA116, it116, rf114_7, rp114_7, al117, iA117, it117, rf114_8, rp114_8, al118, iA118, it118, rf114_9, rp114_9, al119, iA119, it119, rf114_10, rp114_10, al120, iA120, it120, rf114_16, rp114_16, al121, iA121, it121, rf114_17, rp114_17, al122, iA122, it122, rf114_18, rp114_18, al123, iA123, it123, rf114_19, rp114_19, al124, iA124, it124, rf114_20, rp114_20, al125, iA125, it125, rf114_21, rp114_21, al126, iA126, it126, rf114_22, rp114_22, al127, iA127, it127, rf114_23, rp114_23, al128, iA128, it128, rf114_27, rp114_27, al129, iA129, it129, rf114_28, rp114_28, al130, iA130, it130, rf114_29, rp114_29, al131, iA131, it131, rf114_30, rp114_30, al132, iA132, it132, rf114_31, rp114_31, al133, iA133, it133, rf114_41, rp114_41, al134, iA134, it134, rf114_42, rp114_42, al135, iA135, it135, rf114_44, rp114_44, al136, iA136, it136, rf114_45, rp114_45, al137, iA137, it137, rf114_55, rp114_55, al138, iA138, it138, rf114_56, rp114_56, al139, iA139, it139, rf114_57, rp114_57, al140, iA140, it140, rf114_58, rp114_58, al141, iA141, it141, rf114_59, rp114_59, al142, iA142, it142, rf114_60, rp114_60, al143, iA143, it143, rf114_61, rp114_61, al144, iA144, it144, rf114_62, rp114_62, al145, iA145, it145, rf114_63, rp114_63, al146, iA146, it146, rf114_64, rp114_64, al147, iA147, it147, rf114_66, rp114_66, al148, iA148, it148, rf114_67, rp114_67, al149, iA149, it149, rf114_68, rp114_68, al150, iA150, it150, rf114_69, rp114_69, al151, iA151, it151, rf114_70, rp114_70, al152, iA152, it152, y1, nI_add, k1, bI_True, bI_False, nI_1, Nat.reduceLeDiff, Nat.reduceEqDiff, nb0, nb1, nbI, eq_self, ex_pr, tl_s, tl_n, if_true, if_false, not_true_eq_false, not_false_eq_true, and_self, and_false, false_and, and_true, true_and]
    · have tn : tot (H ++ [(w, n, ts)]) = tot H + ts.length := by
        rw [tot_sn]
        by_cases hw : w ≤ 1
        · rw [if_pos hw]
        · rw [if_neg hw, q6 hw]
          rfl
      have lH : (H ++ [(w, n, ts)]).length = H.length + 1 := by rw [List.length_append]; rfl
      have W1 := wfh_sn W q3 q4 q5
      -- the class behind the clause
      have cb : ∀ f, KT f C L p → CHD f t H → ∃ f1, FH f f1 t ∧ KT f1 C L p' ∧ CHD f1 t (H ++ [(w, n, ts)]) ∧ ∀ r, (Rn sc (d + 10) 56 11 [.ref (18 : Nat), .ref (78 + 4 * t), .int (nI (H.length + 1))] [] (cS f g h1 h2) r ↔ Rn sc (d + 10) 56 34 [.ref (18 : Nat), .ref (78 + 4 * t), .int (nI (H.length + 1))] [.int (C p')] (cS f1 g h1 h2) r) := fun f K c => by
        obtain ⟨n2, n6⟩ := ci f c
        obtain ⟨f1, F1, K1, E1, k1⟩ := qc f (cnt H) K n2 (by omega) n6 hT
        have k1' := fun r => k1 (d + 10) r (by omega)
        have j3 := fun d r => @s211 sc d r f1 g h1 h2 C L p' T K1
        refine ⟨f1, F1.fh, K1, chd_sn c F1 E1 (by omega) q6 (by omega), fun r => ?_⟩
        simp only [x56_11 (x2 := nI (H.length + 1)), x56_12, x56_14, x56_17, x56_18, x56_19, x56_22, x56_30, x56_31, kp18, rf18_0, rp18_0, al19, iA19, it19, al19, iA19, it19, e10, k1', zi1, j3, bI_True, bI_False, nI_1, Nat.reduceLeDiff, Nat.reduceEqDiff, nb0, nb1, nbI, eq_self, ex_pr, tl_s, tl_n, if_true, if_false, not_true_eq_false, not_false_eq_true, and_self, and_false, false_and, and_true, true_and]
      -- the reference behind the clause
      have rb : ∀ f, MHD f C L p t H → ∃ f1, FG f f1 t ∧ MHD f1 C L p' t (H ++ [(w, n, ts)]) ∧ f1 122 t = nI (H.length + 1) ∧ ∀ r, (Rn sc (d + 10) 128 15 [.ref (114 : Nat), .int (nI t), .int (nI H.length)] [] (cS f g h3 h2) r ↔ if p' = L then r = (cS f1 g h3 h2, some (.int 1)) else Rn sc (d + 10) 128 53 [.ref (114 : Nat), .int (nI t), .int (nI (H.length + 1))] [] (cS f1 g h3 h2) r) := fun f M => by
        obtain ⟨M1, M2, M3, M4⟩ := M
        obtain ⟨f1, F1, K1, n24, n123, n124, n5, k1⟩ := qr f M1 M2 M3 hT
        have m13 := K1.2.1
        have m14 := K1.2.2.1
        have pe := @nI_eq p' L (by omega) (by omega)
        have FU : FG f1 (u2 f1 122 t (nI (H.length + 1))) t := fun q k a1 _ _ _ _ => u2_nn a1
        have U : ∀ q, q ≠ 122 → u2 f1 122 t (nI (H.length + 1)) q = f1 q := fun q hq => u2_n hq
        refine ⟨u2 f1 122 t (nI (H.length + 1)), (F1.fg (by omega) (by omega)).tr FU, ⟨K1.fr (U _ (by omega)) (by rw [U _ (by omega)]) (by rw [U _ (by omega)]; exact m14) q2, fun k hk => ?_, ?_, ?_⟩, u2_ss, fun r => ?_⟩
        · rw [U _ (by omega), F1 _ _ (by omega) (by omega) (by omega) (by omega)]
          exact M2 k hk
        · rw [U _ (by omega), tn, ← Nat.add_assoc]
          exact n24
        · refine mh2_sn H 0 (100 * t) M4 (fun q k a1 a2 hk => ?_) (fun k hk => ?_) ?_
          · rw [U _ (by omega), F1 _ _ (by omega) (by omega) (by omega) (by omega)]
          · rw [U _ (by omega), F1 _ _ (by omega) (by omega) (by omega) (by omega)]
          · rw [Nat.zero_add]
            refine ⟨⟨by rw [U _ (by omega)]; exact n123, by rw [U _ (by omega)]; exact n124, fun hw => ?_⟩, True.intro⟩
            obtain ⟨o1, o2, o3⟩ := n5 hw
            exact ⟨by rw [U _ (by omega)]; exact o1, by rw [U _ (by omega)]; exact o2, fun j hj => by rw [U _ (by omega)]; exact o3 j hj⟩
        · by_cases y : p' = L
          · rw [if_pos y]
            simp only [x128_15 (a2 := .int (nI H.length)), x128_16, x128_18, x128_19, x128_20, x128_21, x128_22, x128_25, x128_30, x128_33, x128_34, x128_37, x128_38, x128_39, x128_40, x128_41, x128_44, x128_45, x128_48, x128_51, x128_52, kp114, rf114_5, rp114_5, al115, iA115, it115, rf114_6, rp114_6, al116, iA116, it116, rf114_7, rp114_7, al117, iA117, it117, rf114_8, rp114_8, al118, iA118, it118, rf114_9, rp114_9, al119, iA119, it119, rf114_10, rp114_10, al120, iA120, it120, rf114_16, rp114_16, al121, iA121, it121, rf114_17, rp114_17, al122, iA122, it122, rf114_18, rp114_18, al123, iA123, it123, rf114_19, rp114_19, al124, iA124, it124, rf114_20, rp114_20, al125, iA125, it125, rf114_21, rp114_21, al126, iA126, it126, rf114_22, rp114_22, al127, iA127, it127, rf114_23, rp114_23, al128, iA128, it128, rf114_27, rp114_27, al129, iA129, it129, rf114_28, rp114_28, al130, iA130, it130, rf114_29, rp114_29, al131, iA131, it131, rf114_30, rp114_30, al132, iA132, it132, rf114_31, rp114_31, al133, iA133, it133, rf114_41, rp114_41, al134, iA134, it134, rf114_42, rp114_42, al135, iA135, it135, rf114_44, rp114_44, al136, iA136, it136, rf114_45, rp114_45, al137, iA137, it137, rf114_55, rp114_55, al138, iA138, it138, rf114_56, rp114_56, al139, iA139, it139, rf114_57, rp114_57, al140, iA140, it140, rf114_58, rp114_58, al141, iA141, it141, rf114_59, rp114_59, al142, iA142, it142, rf114_60, rp114_60, al143, iA143, it143, rf114_61, rp114_61, al144, iA144, it144, rf114_62, rp114_62, al145, iA145, it145, rf114_63, rp114_63, al146, iA146, it146, rf114_64, rp114_64, al147, iA147, it147, rf114_66, rp114_66, al148, iA148, it148, rf114_67, rp114_67, al149, iA149, it149, rf114_68, rp114_68, al150, iA150, it150, rf114_69, rp114_69, al151, iA151, it151, rf114_70, rp114_70, al152, iA152, it152, al122, iA122, it122, y1, nI_add, k1, zi1, z2, i1, i2, m13, m14, pe, eq_true y, u2_at, bI_True, bI_False, nI_1, Nat.reduceLeDiff, Nat.reduceEqDiff, nb0, nb1, nbI, eq_self, ex_pr, tl_s, tl_n, if_true, if_false, not_true_eq_false, not_false_eq_true, and_self, and_false, false_and, and_true, true_and]
          · rw [if_neg y]
            simp only [x128_15 (a2 := .int (nI H.length)), x128_16, x128_18, x128_19, x128_20, x128_21, x128_22, x128_25, x128_30, x128_33, x128_34, x128_37, x128_38, x128_39, x128_40, x128_41, x128_44, x128_45, x128_48, kp114, rf114_5, rp114_5, al115, iA115, it115, rf114_6, rp114_6, al116, iA116, it116, rf114_7, rp114_7, al117, iA117, it117, rf114_8, rp114_8, al118, iA118, it118, rf114_9, rp114_9, al119, iA119, it119, rf114_10, rp114_10, al120, iA120, it120, rf114_16, rp114_16, al121, iA121, it121, rf114_17, rp114_17, al122, iA122, it122, rf114_18, rp114_18, al123, iA123, it123, rf114_19, rp114_19, al124, iA124, it124, rf114_20, rp114_20, al125, iA125, it125, rf114_21, rp114_21, al126, iA126, it126, rf114_22, rp114_22, al127, iA127, it127, rf114_23, rp114_23, al128, iA128, it128, rf114_27, rp114_27, al129, iA129, it129, rf114_28, rp114_28, al130, iA130, it130, rf114_29, rp114_29, al131, iA131, it131, rf114_30, rp114_30, al132, iA132, it132, rf114_31, rp114_31, al133, iA133, it133, rf114_41, rp114_41, al134, iA134, it134, rf114_42, rp114_42, al135, iA135, it135, rf114_44, rp114_44, al136, iA136, it136, rf114_45, rp114_45, al137, iA137, it137, rf114_55, rp114_55, al138, iA138, it138, rf114_56, rp114_56, al139, iA139, it139, rf114_57, rp114_57, al140, iA140, it140, rf114_58, rp114_58, al141, iA141, it141, rf114_59, rp114_59, al142, iA142, it142, rf114_60, rp114_60, al143, iA143, it143, rf114_61, rp114_61, al144, iA144, it144, rf114_62, rp114_62, al145, iA145, it145, rf114_63, rp114_63, al146, iA146, it146, rf114_64, rp114_64, al147, iA147, it147, rf114_66, rp114_66, al148, iA148, it148, rf114_67, rp114_67, al149, iA149, it149, rf114_68, rp114_68, al150, iA150, it150, rf114_69, rp114_69, al151, iA151, it151, rf114_70, rp114_70, al152, iA152, it152, al122, iA122, it122, y1, nI_add, k1, zi1, z2, i1, i2, m13, m14, pe, eq_false y, u2_at, bI_True, bI_False, nI_1, Nat.reduceLeDiff, Nat.reduceEqDiff, nb0, nb1, nbI, eq_self, ex_pr, tl_s, tl_n, if_true, if_false, not_true_eq_false, not_false_eq_true, and_self, and_false, false_and, and_true, true_and]
      by_cases y : p' = L
      · have ce : C p' = -1 := T.2.2 p' (by omega)
        refine Or.inl ⟨H ++ [(w, n, ts)], W1, by rw [lH]; omega, by rw [tn]; omega, fun f K c => ?_, fun f M => ?_⟩
        · obtain ⟨f1, F1, K1, c1, k1⟩ := cb f K c
          refine ⟨f1, F1, c1, fun r => ?_⟩
          rw [k1, ce]
          simp only [x56_34, x56_35, x56_38, x56_39, bI_True, bI_False, nI_1, Nat.reduceLeDiff, Nat.reduceEqDiff, nb0, nb1, nbI, eq_self, ex_pr, tl_s, tl_n, if_true, if_false, not_true_eq_false, not_false_eq_true, and_self, and_false, false_and, and_true, true_and]
        · obtain ⟨f1, F1, M1, n122, k1⟩ := rb f M
          refine ⟨f1, F1, M1.2.2.2, by rw [lH]; exact n122, fun r => ?_⟩
          rw [k1, if_pos y]
      · obtain ⟨b, hb, cb'⟩ := T.2.1 p' (by omega)
        have ce : ¬ C p' = -1 := by rw [cb']; exact nm1 (by omega)
        have t59 : nI 59 = 59 := rfl
        by_cases e : H.length + 1 = 10
        · refine Or.inr ⟨p', q2, fun f K c => ?_, fun f M => ?_⟩
          · obtain ⟨f1, F1, K1, c1, k1⟩ := cb f K c
            have n18 := K1.2.1
            refine ⟨f1, F1, fun r => ?_⟩
            rw [k1]
            simp only [x56_34, x56_35, x56_40, x56_41, x56_43, x56_55, x56_56, x56_59, kp18, rf18_0, rp18_0, al19, iA19, it19, ce, e10b, eq_true e, n18, bI_True, bI_False, nI_1, Nat.reduceLeDiff, Nat.reduceEqDiff, nb0, nb1, nbI, eq_self, ex_pr, tl_s, tl_n, if_true, if_false, not_true_eq_false, not_false_eq_true, and_self, and_false, false_and, and_true, true_and]
          · obtain ⟨f1, F1, M1, n122, k1⟩ := rb f M
            refine ⟨f1, F1, M1.1.2.2.1, fun r => ?_⟩
            rw [k1, if_neg y]
            simp only [x128_53, x128_54, x128_56, x128_68, x128_69, e10b, eq_true e, bI_True, bI_False, nI_1, Nat.reduceLeDiff, Nat.reduceEqDiff, nb0, nb1, nbI, eq_self, ex_pr, tl_s, tl_n, if_true, if_false, not_true_eq_false, not_false_eq_true, and_self, and_false, false_and, and_true, true_and]
        · by_cases s : C p' = nI 59
          · have pl := T.lt s (by decide)
            rcases tx_alt hd ht T k (H ++ [(w, n, ts)]) (p' + 1) (by rw [lH]; omega) (by omega) (by omega) (by rw [tn]; omega) W1 with ⟨H', a1, a2, a3, a4, a5⟩ | ⟨p2, a1, a2, a3⟩
            · refine Or.inl ⟨H', a1, a2, a3, fun f K c => ?_, fun f M => ?_⟩
              · obtain ⟨f1, F1, K1, c1, k1⟩ := cb f K c
                have k2 := fun d r => @s62t sc d r f1 g h1 h2 C L p' 59 T K1 s
                obtain ⟨f3, F3, c3, k3⟩ := a4 (u2 f1 18 2 (nI (p' + 1))) (K1.mv (by omega)) (by
                  obtain ⟨x1, x2, x3⟩ := c1
                  refine ⟨?_, by rw [u2_nn (by omega)]; exact x2, by rw [u2_nn (by omega)]; exact x3⟩
                  exact cfl_fr (u2_n (by omega)) (u2_n (by omega)) (u2_n (by omega)) (u2_n (by omega)) x1)
                rw [t59] at k2
                refine ⟨f3, F1.tr (FH.tr (fun q k a1 _ => u2_nn a1) F3), c3, fun r => ?_⟩
                rw [k1, ← k3, lH]
                simp only [x56_34, x56_35, x56_40, x56_41, x56_43, x56_46, x56_47, x56_49, x56_52, x56_60, x56_63, kp18, rf18_0, rp18_0, al19, iA19, it19, ce, e10b, eq_false e, k2, zi1, z1, bI_True, bI_False, nI_1, Nat.reduceLeDiff, Nat.reduceEqDiff, nb0, nb1, nbI, eq_self, ex_pr, tl_s, tl_n, if_true, if_false, not_true_eq_false, not_false_eq_true, and_self, and_false, false_and, and_true, true_and]
              · obtain ⟨f1, F1, M1, n122, k1⟩ := rb f M
                obtain ⟨m1, m2, m3, m4⟩ := M1
                have k2 := fun d r => @s116t sc d r f1 g h3 h2 C L p' (nI 59) T m1 s
                obtain ⟨f3, F3, x1, x2, k3⟩ := a5 (u2 f1 114 14 (nI (p' + 1))) ⟨m1.mv (by omega), fun k hk => by rw [u2_nn (by omega)]; exact m2 k hk, by rw [u2_nn (by omega)]; exact m3, mh2_fr (fun q a b => u2_n (by omega)) _ _ _ m4⟩
                rw [t59] at k2
                refine ⟨f3, F1.tr (FG.tr (fun q k _ _ _ _ a5 => u2_nn (by omega)) F3), x1, x2, fun r => ?_⟩
                rw [k1, if_neg y, ← k3, lH]
                simp only [x128_53, x128_54, x128_56, x128_59, x128_60, x128_62, x128_65, kp114, rf114_5, rp114_5, al115, iA115, it115, rf114_6, rp114_6, al116, iA116, it116, rf114_7, rp114_7, al117, iA117, it117, rf114_8, rp114_8, al118, iA118, it118, rf114_9, rp114_9, al119, iA119, it119, rf114_10, rp114_10, al120, iA120, it120, rf114_16, rp114_16, al121, iA121, it121, rf114_17, rp114_17, al122, iA122, it122, rf114_18, rp114_18, al123, iA123, it123, rf114_19, rp114_19, al124, iA124, it124, rf114_20, rp114_20, al125, iA125, it125, rf114_21, rp114_21, al126, iA126, it126, rf114_22, rp114_22, al127, iA127, it127, rf114_23, rp114_23, al128, iA128, it128, rf114_27, rp114_27, al129, iA129, it129, rf114_28, rp114_28, al130, iA130, it130, rf114_29, rp114_29, al131, iA131, it131, rf114_30, rp114_30, al132, iA132, it132, rf114_31, rp114_31, al133, iA133, it133, rf114_41, rp114_41, al134, iA134, it134, rf114_42, rp114_42, al135, iA135, it135, rf114_44, rp114_44, al136, iA136, it136, rf114_45, rp114_45, al137, iA137, it137, rf114_55, rp114_55, al138, iA138, it138, rf114_56, rp114_56, al139, iA139, it139, rf114_57, rp114_57, al140, iA140, it140, rf114_58, rp114_58, al141, iA141, it141, rf114_59, rp114_59, al142, iA142, it142, rf114_60, rp114_60, al143, iA143, it143, rf114_61, rp114_61, al144, iA144, it144, rf114_62, rp114_62, al145, iA145, it145, rf114_63, rp114_63, al146, iA146, it146, rf114_64, rp114_64, al147, iA147, it147, rf114_66, rp114_66, al148, iA148, it148, rf114_67, rp114_67, al149, iA149, it149, rf114_68, rp114_68, al150, iA150, it150, rf114_69, rp114_69, al151, iA151, it151, rf114_70, rp114_70, al152, iA152, it152, e10b, eq_false e, k2, zi1, bI_True, bI_False, nI_1, Nat.reduceLeDiff, Nat.reduceEqDiff, nb0, nb1, nbI, eq_self, ex_pr, tl_s, tl_n, if_true, if_false, not_true_eq_false, not_false_eq_true, and_self, and_false, false_and, and_true, true_and]
            · refine Or.inr ⟨p2, a1, fun f K c => ?_, fun f M => ?_⟩
              · obtain ⟨f1, F1, K1, c1, k1⟩ := cb f K c
                have k2 := fun d r => @s62t sc d r f1 g h1 h2 C L p' 59 T K1 s
                obtain ⟨f3, F3, k3⟩ := a2 (u2 f1 18 2 (nI (p' + 1))) (K1.mv (by omega)) (by
                  obtain ⟨x1, x2, x3⟩ := c1
                  refine ⟨?_, by rw [u2_nn (by omega)]; exact x2, by rw [u2_nn (by omega)]; exact x3⟩
                  exact cfl_fr (u2_n (by omega)) (u2_n (by omega)) (u2_n (by omega)) (u2_n (by omega)) x1)
                rw [t59] at k2
                refine ⟨f3, F1.tr (FH.tr (fun q k a1 _ => u2_nn a1) F3), fun r => ?_⟩
                rw [k1, ← k3, lH]
                simp only [x56_34, x56_35, x56_40, x56_41, x56_43, x56_46, x56_47, x56_49, x56_52, x56_60, x56_63, kp18, rf18_0, rp18_0, al19, iA19, it19, ce, e10b, eq_false e, k2, zi1, z1, bI_True, bI_False, nI_1, Nat.reduceLeDiff, Nat.reduceEqDiff, nb0, nb1, nbI, eq_self, ex_pr, tl_s, tl_n, if_true, if_false, not_true_eq_false, not_false_eq_true, and_self, and_false, false_and, and_true, true_and]
              · obtain ⟨f1, F1, M1, n122, k1⟩ := rb f M
                obtain ⟨m1, m2, m3, m4⟩ := M1
                have k2 := fun d r => @s116t sc d r f1 g h3 h2 C L p' (nI 59) T m1 s
                obtain ⟨f3, F3, x1, k3⟩ := a3 (u2 f1 114 14 (nI (p' + 1))) ⟨m1.mv (by omega), fun k hk => by rw [u2_nn (by omega)]; exact m2 k hk, by rw [u2_nn (by omega)]; exact m3, mh2_fr (fun q a b => u2_n (by omega)) _ _ _ m4⟩
                rw [t59] at k2
                refine ⟨f3, F1.tr (FG.tr (fun q k _ _ _ _ a5 => u2_nn (by omega)) F3), x1, fun r => ?_⟩
                rw [k1, if_neg y, ← k3, lH]
                simp only [x128_53, x128_54, x128_56, x128_59, x128_60, x128_62, x128_65, kp114, rf114_5, rp114_5, al115, iA115, it115, rf114_6, rp114_6, al116, iA116, it116, rf114_7, rp114_7, al117, iA117, it117, rf114_8, rp114_8, al118, iA118, it118, rf114_9, rp114_9, al119, iA119, it119, rf114_10, rp114_10, al120, iA120, it120, rf114_16, rp114_16, al121, iA121, it121, rf114_17, rp114_17, al122, iA122, it122, rf114_18, rp114_18, al123, iA123, it123, rf114_19, rp114_19, al124, iA124, it124, rf114_20, rp114_20, al125, iA125, it125, rf114_21, rp114_21, al126, iA126, it126, rf114_22, rp114_22, al127, iA127, it127, rf114_23, rp114_23, al128, iA128, it128, rf114_27, rp114_27, al129, iA129, it129, rf114_28, rp114_28, al130, iA130, it130, rf114_29, rp114_29, al131, iA131, it131, rf114_30, rp114_30, al132, iA132, it132, rf114_31, rp114_31, al133, iA133, it133, rf114_41, rp114_41, al134, iA134, it134, rf114_42, rp114_42, al135, iA135, it135, rf114_44, rp114_44, al136, iA136, it136, rf114_45, rp114_45, al137, iA137, it137, rf114_55, rp114_55, al138, iA138, it138, rf114_56, rp114_56, al139, iA139, it139, rf114_57, rp114_57, al140, iA140, it140, rf114_58, rp114_58, al141, iA141, it141, rf114_59, rp114_59, al142, iA142, it142, rf114_60, rp114_60, al143, iA143, it143, rf114_61, rp114_61, al144, iA144, it144, rf114_62, rp114_62, al145, iA145, it145, rf114_63, rp114_63, al146, iA146, it146, rf114_64, rp114_64, al147, iA147, it147, rf114_66, rp114_66, al148, iA148, it148, rf114_67, rp114_67, al149, iA149, it149, rf114_68, rp114_68, al150, iA150, it150, rf114_69, rp114_69, al151, iA151, it151, rf114_70, rp114_70, al152, iA152, it152, e10b, eq_false e, k2, zi1, bI_True, bI_False, nI_1, Nat.reduceLeDiff, Nat.reduceEqDiff, nb0, nb1, nbI, eq_self, ex_pr, tl_s, tl_n, if_true, if_false, not_true_eq_false, not_false_eq_true, and_self, and_false, false_and, and_true, true_and]
          · refine Or.inr ⟨p', q2, fun f K c => ?_, fun f M => ?_⟩
            · obtain ⟨f1, F1, K1, c1, k1⟩ := cb f K c
              have k2 := fun d r => @s62f sc d r f1 g h1 h2 C L p' 59 T K1 s
              have n18 := K1.2.1
              rw [t59] at k2
              refine ⟨f1, F1, fun r => ?_⟩
              rw [k1]
              simp only [x56_34, x56_35, x56_40, x56_41, x56_43, x56_46, x56_47, x56_49, x56_52, x56_55, x56_56, x56_59, kp18, rf18_0, rp18_0, al19, iA19, it19, ce, e10b, eq_false e, k2, n18, bI_True, bI_False, nI_1, Nat.reduceLeDiff, Nat.reduceEqDiff, nb0, nb1, nbI, eq_self, ex_pr, tl_s, tl_n, if_true, if_false, not_true_eq_false, not_false_eq_true, and_self, and_false, false_and, and_true, true_and]
            · obtain ⟨f1, F1, M1, n122, k1⟩ := rb f M
              have k2 := fun d r => @s116f sc d r f1 g h3 h2 C L p' (nI 59) T M1.1 s
              rw [t59] at k2
              refine ⟨f1, F1, M1.1.2.2.1, fun r => ?_⟩
              rw [k1, if_neg y]
              simp only [x128_53, x128_54, x128_56, x128_59, x128_60, x128_62, x128_65, x128_68, x128_69, kp114, rf114_5, rp114_5, al115, iA115, it115, rf114_6, rp114_6, al116, iA116, it116, rf114_7, rp114_7, al117, iA117, it117, rf114_8, rp114_8, al118, iA118, it118, rf114_9, rp114_9, al119, iA119, it119, rf114_10, rp114_10, al120, iA120, it120, rf114_16, rp114_16, al121, iA121, it121, rf114_17, rp114_17, al122, iA122, it122, rf114_18, rp114_18, al123, iA123, it123, rf114_19, rp114_19, al124, iA124, it124, rf114_20, rp114_20, al125, iA125, it125, rf114_21, rp114_21, al126, iA126, it126, rf114_22, rp114_22, al127, iA127, it127, rf114_23, rp114_23, al128, iA128, it128, rf114_27, rp114_27, al129, iA129, it129, rf114_28, rp114_28, al130, iA130, it130, rf114_29, rp114_29, al131, iA131, it131, rf114_30, rp114_30, al132, iA132, it132, rf114_31, rp114_31, al133, iA133, it133, rf114_41, rp114_41, al134, iA134, it134, rf114_42, rp114_42, al135, iA135, it135, rf114_44, rp114_44, al136, iA136, it136, rf114_45, rp114_45, al137, iA137, it137, rf114_55, rp114_55, al138, iA138, it138, rf114_56, rp114_56, al139, iA139, it139, rf114_57, rp114_57, al140, iA140, it140, rf114_58, rp114_58, al141, iA141, it141, rf114_59, rp114_59, al142, iA142, it142, rf114_60, rp114_60, al143, iA143, it143, rf114_61, rp114_61, al144, iA144, it144, rf114_62, rp114_62, al145, iA145, it145, rf114_63, rp114_63, al146, iA146, it146, rf114_64, rp114_64, al147, iA147, it147, rf114_66, rp114_66, al148, iA148, it148, rf114_67, rp114_67, al149, iA149, it149, rf114_68, rp114_68, al150, iA150, it150, rf114_69, rp114_69, al151, iA151, it151, rf114_70, rp114_70, al152, iA152, it152, e10b, eq_false e, k2, bI_True, bI_False, nI_1, Nat.reduceLeDiff, Nat.reduceEqDiff, nb0, nb1, nbI, eq_self, ex_pr, tl_s, tl_n, if_true, if_false, not_true_eq_false, not_false_eq_true, and_self, and_false, false_and, and_true, true_and]
end TX
