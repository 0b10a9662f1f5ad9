/-! calls, bodies, methods: sound -/
theorem goodIn_good {ws ws2 : List Cond} (h : ∀ w ∈ ws, w ∈ wsG) (h2 : GoodIn wsG ws2) : GoodIn wsG (ws ++ ws2) := fun w hw => (List.mem_append.mp hw).elim (fun q => wsG_good (h w q)) (h2 w)
section CL
variable {p : Program} {l : Launch} {e : Env} {R : Room} {s : State} {m : MethodId} {args : Array Value} {below : List Frame} {meth : Method} {c : Code} {H : Heap} {locs : List Loc} {cells slots : Nat} {Q : State → Prop}
variable {D : va_G} {cF : FieldType → ClassId} {fa : Nat → Nat} {B : Nat} {fm : Value} {sc : Option (Nat × (Nat → Int32))} {mi : Nat} {ls : Array Slot}
theorem pc_blind {σ : aS} {as : List Value} : FrameBlind (PcA D cF fa B fm sc σ as) := fun a U g mk h => ⟨h.1, Bs.eqvm h.2.1 rfl, h.2.2⟩
theorem pc_pre {σ : aS} {as : List Value} (hB : Bs D cF fa B fm sc s s.heap) (hS : va_S (Bo B) s.heap H locs) (hR : Rel D cF fa B fm σ H) : ∀ U : State, U.heap = H → s.WarmedH U.vm → PcA D cF fa B fm sc σ as ((as.map (cv fa B fm)).toArray) U := fun U hU hW => ⟨rfl, by rw [hU]; exact Bs.moved hB hW hS.1 (fun q h1 h2 => hS.2.1 q h1 h2), by rw [hU]; exact hR⟩
theorem recv_ok {σ : aS} {b ci : Nat} (hB : Bs D cF fa B fm sc s s.heap) (hS : va_S (Bo B) s.heap H locs) (hR : Rel D cF fa B fm σ H) (hk : σ.1[b]? = some (.inl ci)) (hci : ci < 13) : ∃ cellB : Cell, H[rho fa B b]? = some cellB ∧ cellB.vm.isStatics = false ∧ s.vm.findClass (cN ci) = some cellB.cls := by
  rcases Nat.lt_or_ge b 17 with h17 | h17
  · have hkF := hR.1.1 b h17
    rw [hk] at hkF
    have hck := List.all_eq_true.mp (show (List.range 17).all (fun o => match fK[o]? with
      | some (.inl c9) => (decide (5 ≤ o) && decide (o < 11) && c9 == 8) || decide (13 ≤ c9)
      | _ => true) = true by decide +kernel) b (List.mem_range.mpr h17)
    rw [← hkF] at hck
    simp only [Bool.or_eq_true, Bool.and_eq_true, decide_eq_true_eq, beq_iff_eq] at hck
    rcases hck with h9 | h9
    · obtain ⟨⟨h5, h11⟩, rfl⟩ := h9
      obtain ⟨cell, q1, q2, q3, -⟩ := (hB.2.2.2.2.2.2.1 b h5 h11).1.kept hS.2.1
      exact ⟨cell, by rw [rho, if_pos h17]; exact q1, q2, q3⟩
    · omega
  · obtain ⟨h8, cell, q1, q2, q3, -⟩ := hR.2.2.2 b (.inl ci) h17 hk
    exact ⟨cell, q1, by rw [q3]; rfl, by rw [q2]; exact (clK hB.1 h8).2.1⟩
theorem cats_map (hf : fm.category = 1) (st : List Value) : ((st.map (cv fa B fm)).map fun v => v.category).sum = cats st := by
  rw [List.map_map]
  unfold cats
  congr 1
  exact List.map_congr_left (fun v _ => cat_cv hf v)
/-- behind a call -/
theorem call_back {pc : Nat} {st0 rest : List Value} {a : Array Value} {mc ms : Nat} {σ2 : aS} {v : Option Value} (hv : okv v) (hr : va_Run p l e R s m args below meth c H locs cells slots mc ms (F0 m pc ls st0) (rest.map (cv fa B fm)) (QcA D cF fa B fm σ2 v a) (Bo B)) (hS : va_S (Bo B) s.heap H locs) (kk : ∀ (H1 : Heap) (locs1 : List Loc), Rel D cF fa B fm σ2 H1 → va_S (Bo B) s.heap H1 locs1 → W p l e R s m args below meth c H1 locs1 (cells + mc) (slots + ms) Q (F0 m (pc + 3) ls ((v.toList ++ rest).map (cv fa B fm)))) : W p l e R s m args below meth c H locs cells slots Q (F0 m pc ls st0) := by
  rcases hv with rfl | ⟨x, rfl⟩ | ⟨x, rfl⟩
  · exact va_callv (a := a) hr hS (fun q _ h => h) (fun q h => h) (fun u t H1 locs1 ht hvm hw hB1 hz hk1 hS1 => kk H1 locs1 (by rw [← ht]; exact hB1) hS1)
  · refine va_calli (a := a) hr hS (fun q _ h => h) (fun q h => h) (fun r u t H1 locs1 ht hvm hw hB1 hz hk1 hS1 => ?_)
    subst hw
    exact kk H1 locs1 (by rw [← ht]; exact hB1) hS1
  · refine va_calll (a := a) hr hS (fun q _ h => h) (fun q h => h) (fun r u t H1 locs1 ht hvm hw hB1 hz hk1 hS1 => ?_)
    subst hw
    exact kk H1 locs1 (by rw [← ht]; exact hB1) hS1
theorem mO_lt {j : Nat} (h : j < 212) : mO j < 13 := List.all_eq_true.mp (show (List.range 212).all (fun j => decide (mO j < 13)) = true by decide +kernel) j (List.mem_range.mpr h) |> of_decide_eq_true
set_option maxHeartbeats 4000000 in
theorem call_ok {d pc j pc' mc ms : Nat} {L st as L' st' : List Value} {σ σ' σ2 : aS} {v : Option Value} (C : Cx D cF fa B fm sc p R s m args meth c mi) (S : St D cF fa B fm mi s σ H locs ls L) (h : stp sc mi pc L st σ = some (.inr (.inl (j, as, (pc', L', st', σ'))))) (hv : okv v)
    (hM : Met l (mY j) (mWs j) (rmD d mc ms) (PcA D cF fa B fm sc σ as) (QcA D cF fa B fm σ2 v) mc ms (Bo B)) (hRf : d + 3 ≤ R.frames) (hRl : 64 * d + 249 ≤ R.locals) (hcs : cells + mc ≤ R.cells ∧ slots + ms ≤ R.slots)
    (kk : ∀ (H1 : Heap) (locs1 : List Loc), Rel D cF fa B fm σ2 H1 → va_S (Bo B) s.heap H1 locs1 → W p l e R s m args below meth c H1 locs1 (cells + mc) (slots + ms) Q (F0 m pc' ls ((v.toList ++ st').map (cv fa B fm)))) : W p l e R s m args below meth c H locs cells slots Q (F0 m pc ls (st.map (cv fa B fm))) := by
  obtain ⟨hx, hb, hml, hown, hts, hrt, hlk, hin, hB, hfr, hlo⟩ := C
  obtain ⟨x, kd, hdc, hdec⟩ := call_is h
  obtain ⟨hl3, hj, hmk, rfl, rfl, rfl, hc8, hstk⟩ := doCall_is hdc
  obtain ⟨f1, f2, f3, f4, f5, f6, f7, f8, f9⟩ := mF hj
  have hroom : (rmD d mc ms).frames + 1 ≤ R.frames ∧ 8 + (mL j + 11) + (rmD d mc ms).locals ≤ R.locals := ⟨by show d + 2 + 1 ≤ _; omega, by show 8 + (mL j + 11) + (64 * d + 200) ≤ _; omega⟩
  have hf : fm.category = 1 := hB.2.2.2.1
  have hpre := pc_pre (as := as) hB S.2.1 S.1
  have hg := mWs_good hj
  have hw8 : 2 * (F0 m pc ls (st.map (cv fa B fm))).monitorRoom + ((st'.map (cv fa B fm)).map fun v => v.category).sum ≤ 8 := by
    rw [cats_map hf]
    show 2 * 0 + _ ≤ 8
    omega
  have hsz : ls.size = mL mi := S.2.2.2.1
  rcases hdec with ⟨rfl, hdec⟩ | ⟨rfl, hdec⟩ | ⟨hk23, hdec⟩
  · rcases hstk with ⟨h0, -⟩ | ⟨-, b, vs, rfl, hvs, rfl, hkb⟩
    · cases h0
    · have hGV : GoodIn wsG (wsV (cN (mO mi)) x (cN (mO j)) (mY j) (mWs j)) := by
        refine goodIn_good ?_ hg
        intro w hw
        simp only [List.mem_cons, List.not_mem_nil, or_false] at hw
        rcases hw with rfl | rfl | rfl | rfl
        · exact w_ml hl3
        · exact f4 (by rw [hmk]; decide)
        · exact f5 hmk
        · rw [← f2]; exact f1
      refine call_back hv (va_runV (As := vs.map (cv fa B fm)) (rest := st'.map (cv fa B fm)) ⟨hx, hb, hml, hown, hts⟩ hM (cwV (mN j) hts hGV rfl rfl rfl ⟨f2, f7⟩ hroom) ⟨pc_blind, recv_ok hB S.2.1 S.1 hkb (mO_lt hj), fun U hU hW => hpre U hU hW⟩ rfl (by rw [List.length_map]; exact hvs) hsz (by show (vs.reverse ++ Value.ref b :: st').map _ = _; rw [List.map_append, List.map_reverse]; rfl) hw8 hdec hcs) S.2.1 kk
  · rcases hstk with ⟨-, has, rfl⟩ | ⟨h0, -⟩
    · have hGS : GoodIn wsG (va_wsS (cN (mO mi)) x (mY j) (mWs j)) := by
        refine goodIn_good ?_ hg
        intro w hw
        simp only [List.mem_cons, List.not_mem_nil, or_false] at hw
        rcases hw with rfl | rfl | rfl
        · exact w_ml hl3
        · exact f3 hmk
        · exact f1
      refine call_back hv (va_runS (As := as.map (cv fa B fm)) (rest := st'.map (cv fa B fm)) ⟨hx, hb, hml, hown, hts⟩ hM (va_cwS (mN j) hts hGS rfl rfl rfl f7 hroom) ⟨pc_blind, fun U hU hW => hpre U hU hW⟩ rfl (by rw [List.length_map]; exact has) hsz (by rw [List.map_append, List.map_reverse]) hw8 hdec hcs) S.2.1 kk
    · exact absurd rfl h0
  · rcases hstk with ⟨h0, -⟩ | ⟨-, b, vs, rfl, hvs, rfl, hkb⟩
    · rcases hk23 with h2 | h2 <;> rw [h2] at h0 <;> cases h0
    · have hk2 : mK j = 2 := by rcases hk23 with rfl | rfl <;> exact hmk
      have hin2 := hts _ (f4 (by rw [hk2]; decide))
      have hini := hts _ f1
      obtain ⟨hnm, hrn⟩ := f6 hk2
      rcases hk23 with rfl | rfl
      · refine call_back hv (va_runI (As := vs.map (cv fa B fm)) (rest := st'.map (cv fa B fm)) ⟨hx, hb, hml, hown, hts⟩ hM (cwI (bytes := mC j) (maxL := mL j) (ws' := wsG) (mN j) hts hg (by rw [← hrn]; rfl) rfl rfl hini (hts _ (w_ml hl3)) hin2 hnm f7 hroom) ⟨pc_blind, fun U hU hW => hpre U hU hW⟩ rfl (by rw [List.length_map]; exact hvs) hsz (by show (vs.reverse ++ Value.ref b :: st').map _ = _; rw [List.map_append, List.map_reverse]; rfl) hw8 hdec hcs) S.2.1 kk
      · refine call_back hv (va_runIN (As := vs.map (cv fa B fm)) (rest := st'.map (cv fa B fm)) ⟨hx, hb, hml, hown, hts⟩ hM ⟨va_cnB (bytes := mC j) (maxL := mL j) (ret := none) (ws' := wsG) (mN j) hts hg (by rw [← hrn]; rfl) rfl rfl (hB.2.2.2.2.2.2.2.2.2.2.2.2.1 _ (lk3_mem hl3)) hini f7 hroom, hnm, hin2⟩ ⟨pc_blind, fun U hU hW => hpre U hU hW⟩ rfl (by rw [List.length_map]; exact hvs) hsz (by show (vs.reverse ++ Value.ref b :: st').map _ = _; rw [List.map_append, List.map_reverse]; rfl) hw8 hdec hcs) S.2.1 kk
/-- a body, to any end -/
theorem ex_ok {N d : Nat} (C : Cx D cF fa B fm sc p R s m args meth c mi) (hRf : d + 3 ≤ R.frames) (hRl : 64 * d + 249 ≤ R.locals)
    (hcb : ∀ j as σ σ' v, cl sc N d j as σ = some (σ', v) → j < 212 → Met l (mY j) (mWs j) (rmD d (σ'.1.length - σ.1.length) (nS σ' - nS σ)) (PcA D cF fa B fm sc σ as) (QcA D cF fa B fm σ' v) (σ'.1.length - σ.1.length) (nS σ' - nS σ) (Bo B)) : ∀ (n pc : Nat) (L st : List Value) (σ σ' : aS) (v : Option Value) (H : Heap) (locs : List Loc) (ls : Array Slot) (cells slots : Nat), ex (cl sc N d) sc mi n pc L st σ = some (σ', v) → St D cF fa B fm mi s σ H locs ls L → cells + σ'.1.length ≤ R.cells + σ.1.length → slots + nS σ' ≤ R.slots + nS σ →
      (∀ (pc1 : Nat) (L1 st1 : List Value) (H1 : Heap) (locs1 : List Loc) (ls1 : Array Slot) (cells1 slots1 : Nat), stp sc mi pc1 L1 st1 σ' = some (.inr (.inr v)) → Rel D cF fa B fm σ' H1 → va_S (Bo B) s.heap H1 locs1 → cells1 + σ.1.length = cells + σ'.1.length → slots1 + nS σ = slots + nS σ' → W p l e R s m args below meth c H1 locs1 cells1 slots1 Q (F0 m pc1 ls1 (st1.map (cv fa B fm)))) →
      W p l e R s m args below meth c H locs cells slots Q (F0 m pc ls (st.map (cv fa B fm)))
  | 0, _, _, _, _, _, _, _, _, _, _, _, h, _, _, _, _ => by cases h
  | n + 1, pc, L, st, σ, σ', v, H, locs, ls, cells, slots, h, S, hc, hs, hret => by
    unfold ex at h
    split at h
    · rename_i pc1 L1 st1 σ1 hst
      have h1 := stp_len hst
      have h2 := ex_len (fun j as σ σ' v h => cl_len d j as σ σ' v h) n _ _ _ _ _ _ h
      refine step_ok C S hst (by omega) (by omega) (fun H' locs' ls' cells' slots' S' e1 e2 => ?_)
      exact ex_ok C hRf hRl hcb n pc1 L1 st1 σ1 σ' v H' locs' ls' cells' slots' h S' (by omega) (by omega) (fun pc2 L2 st2 H2 locs2 ls2 cells2 slots2 g1 g2 g3 g4 g5 => hret pc2 L2 st2 H2 locs2 ls2 cells2 slots2 g1 g2 g3 (by omega) (by omega))
    · rename_i j as pc1 L1 st1 σ1 hst
      split at h
      · rename_i σ2 v2 hcl
        obtain ⟨x, kd, hdc, -⟩ := call_is hst
        obtain ⟨-, hj, -, -, rfl, rfl, -, -⟩ := doCall_is hdc
        have h1 := cl_len d j as _ σ2 v2 hcl
        have h2 := ex_len (fun j as σ σ' v h => cl_len d j as σ σ' v h) n _ _ _ _ _ _ h
        refine call_ok C S hst (cl_okv hcl) (hcb j as _ σ2 v2 hcl hj) hRf hRl ⟨by omega, by omega⟩ (fun H1 locs1 hR1 hS1 => ?_)
        exact ex_ok C hRf hRl hcb n pc1 _ _ σ2 σ' v H1 locs1 ls _ _ h ⟨hR1, hS1, S.2.2⟩ (by omega) (by omega) (fun pc2 L2 st2 H2 locs2 ls2 cells2 slots2 g1 g2 g3 g4 g5 => hret pc2 L2 st2 H2 locs2 ls2 cells2 slots2 g1 g2 g3 (by omega) (by omega))
      · cases h
    · rename_i hst
      cases h
      exact hret pc L st H locs ls cells slots hst S.1 S.2.1 rfl rfl
    · cases h
end CL
set_option maxHeartbeats 4000000 in
/-- A METHOD: what the abstract machine answers, the machine answers -/
theorem cl_ok {l : Launch} {D : va_G} {cF : FieldType → ClassId} {fa : Nat → Nat} {B : Nat} {fm : Value} {sc : Option (Nat × (Nat → Int32))} {N : Nat} : ∀ (d j : Nat) (as : List Value) (σ σ' : aS) (v : Option Value), cl sc N d j as σ = some (σ', v) → j < 212 → Met l (mY j) (mWs j) (rmD d (σ'.1.length - σ.1.length) (nS σ' - nS σ)) (PcA D cF fa B fm sc σ as) (QcA D cF fa B fm σ' v) (σ'.1.length - σ.1.length) (nS σ' - nS σ) (Bo B)
  | 0, _, _, _, _, _, h, _ => by cases h
  | d + 1, j, as, σ, σ', v, h, hj => by
    have hlen := cl_len (d + 1) j as σ σ' v h
    unfold cl at h
    split at h
    · rename_i ha
      obtain ⟨f1, f2, f3, f4, f5, f6, f7, f8, f9⟩ := mF hj
      refine va_MetF (cc := mC j) (maxL := mL j) (ret := mR j) (ws' := wsG) f8 rfl ?_
      intro p e s m args below meth c s₁ Bd hml hv
      obtain ⟨rfl, hB, hR⟩ := hv
      have hts := atoms_spec (ws := mWs j) Bd.pre
      have hts2 : ∀ w ∈ wsG, w.before ((as.map (cv fa B fm)).toArray) s = true := fun w hw => hts w (List.mem_cons_of_mem _ hw)
      have hown : s.vm.findClass (cN (mO j)) = some m.cls := by rw [← f2]; exact findClass_of_methodNamed Bd.named
      have hnm : meth.name = (mY j).name := (name_of_methodNamed Bd.named Bd.method).1
      rw [lg_entry_eq]
      have hC : Cx D cF fa B fm sc p (headSpec (mWs j) (rmD (d + 1) (σ'.1.length - σ.1.length) (nS σ' - nS σ))).room s m ((as.map (cv fa B fm)).toArray) meth c j := ⟨Bd.exec, Bd.bytes, hml, hown, hts2, Bd.returns, Bd.notSynchronized, fun hk => by rw [hnm]; exact (f6 hk).1, hB, by show 2 ≤ d + 1 + 2; omega, by show 100 ≤ 64 * (d + 1) + 200; omega⟩
      refine ex_ok (Q := MQ below (QcA D cF fa B fm σ' v) ((as.map (cv fa B fm)).toArray) s (σ'.1.length - σ.1.length) (nS σ' - nS σ) (Bo B)) hC (by show d + 3 ≤ d + 1 + 2; omega) (by show 64 * d + 249 ≤ 64 * (d + 1) + 200; omega) (fun j as σ σ' v h hj => cl_ok d j as σ σ' v h hj) N 0 (entL j as) [] σ σ' v s.heap [] _ 0 0 h ⟨hR, va_S.rf, RL_ent hB.2.2.2.1 ha⟩ (by show 0 + _ ≤ (σ'.1.length - σ.1.length) + _; omega) (by show 0 + _ ≤ (nS σ' - nS σ) + _; omega) ?_
      intro pc1 L1 st1 H1 locs1 ls1 cells1 slots1 hst hR1 hS1 hc1 hs1
      have ec : cells1 = σ'.1.length - σ.1.length := by omega
      have es : slots1 = nS σ' - nS σ := by omega
      subst ec es
      have hlk := Bd.notSynchronized
      rcases ret_is hst with ⟨x, ty, rfl, rfl, hr, hn, hdg⟩ | ⟨x, rfl, rfl, hr, hdg⟩ | ⟨rfl, rfl, hr, hdg⟩
      · exact W.zret (v := x) Bd.exec Bd.bytes (Bd.returns.trans hr) hn (fun t ht hW => ⟨⟨x, (), rfl, rfl, by show Rel D cF fa B fm σ' t.heap; rw [ht]; exact hR1⟩, hS1.F ht⟩) hS1.2.2 hdg
      · exact W.lret (v := x) Bd.exec Bd.bytes (Bd.returns.trans hr) (fun t ht hW => ⟨⟨x, (), rfl, rfl, by show Rel D cF fa B fm σ' t.heap; rw [ht]; exact hR1⟩, hS1.F ht⟩) hS1.2.2 hdg
      · exact W.vret Bd.exec Bd.bytes (Bd.returns.trans hr) (fun t ht hW => ⟨⟨(), rfl, trivial, by show Rel D cF fa B fm σ' t.heap; rw [ht]; exact hR1⟩, hS1.F ht⟩) hS1.2.2 hdg
    · cases h
