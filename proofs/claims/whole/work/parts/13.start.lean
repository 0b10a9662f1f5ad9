/-! the claim's start, out of a run of the abstract machine -/
def s0 : aS := (fK, fI, (fun _ _ => 0), fR)
theorem e212C : mC 212 = code := by rfl
theorem e212L : mL 212 = 4 := by rfl
theorem e212O : cN (mO 212) = R_law := by rfl
theorem e212R : mR 212 = ret := by rfl
theorem e212K : mK 212 = 1 := by rfl
/-- what the pure part owes: the law's body, run by the abstract machine, answers 1 within the room -/
def PureLaw : Prop := ∀ (L : Nat) (xs : Nat → Int32), L ≤ 3584 → ∃ (N n : Nat) (σ : aS), ex (cl (some (L, xs)) N 1000) (some (L, xs)) 212 n 0 (entL 212 [.ref 0]) [] s0 = some (σ, some (.int 1)) ∧ σ.1.length ≤ 600000 ∧ nS σ ≤ 7302250
set_option maxHeartbeats 4000000 in
theorem start_of (hpure : PureLaw) {p : Program} {e : Env} {s : State} {m : MethodId} {below : List Frame} {meth : Method} {c : Code} (l : Launch) {b L : Nat} {xs : Nat → Int32} (hL : L ≤ 3584) (C0 : lw_At p s m meth c b L xs) : W p l e room_1 s m #[Value.ref b] below meth c s.heap [] 0 0 (lw_Z below #[Value.ref b] s) (entryFrame m ([Value.ref b] : List Value).toArray 4) := by
  obtain ⟨hx, hb, hr, hml, hown, hts, hX, hbl, hlocks, hgv⟩ := C0
  obtain ⟨D, cF, fa, fm, hB, f0⟩ := base_of hts hX hbl hgv
  obtain ⟨N, n, σ, hrun, hlen, hsl⟩ := hpure L xs hL
  have hG : ∀ w ∈ wsG, w.before #[Value.ref b] s = true := fun w hw => hts w (List.mem_filter.mp hw).1
  have C : Cx D cF fa s.heap.size fm (some (L, xs)) p room_1 s m #[Value.ref b] meth c 212 := ⟨hx, hb.trans e212C.symm, hml.trans e212L.symm, by rw [e212O]; exact hown, hG, hr.trans e212R.symm, hlocks, (fun h => by rw [e212K] at h; cases h), hB, Nat.le_of_ble_eq_true rfl, Nat.le_of_ble_eq_true rfl⟩
  have hR : Rel D cF fa s.heap.size fm s0 s.heap := ⟨⟨fun _ _ => rfl, fun _ _ _ => rfl, fun _ _ => rfl⟩, Nat.le_refl _, rfl, fun o kd h17 hk => absurd ((List.getElem?_eq_some_iff.mp hk).1) (Nat.not_lt.mpr h17)⟩
  have hent : entryFrame m ([Value.ref b] : List Value).toArray 4 = F0 m 0 ((lg_sl ([Value.ref 0].map (cv fa s.heap.size fm)) ++ List.replicate (mL 212 - (lg_sl ([Value.ref 0].map (cv fa s.heap.size fm))).length) Slot.unset).toArray) [] := by
    rw [lg_entry_eq, e212L]
    have e1 : [Value.ref 0].map (cv fa s.heap.size fm) = [Value.ref b] := by
      show [Value.ref (rho fa s.heap.size 0)] = _
      rw [rho, if_pos (by omega), f0]
    rw [e1]
  rw [hent]
  have n0 : nS s0 ≤ nS σ := (ex_len (fun j as σ σ' v h => cl_len 1000 j as σ σ' v h) _ _ _ _ _ _ _ hrun).2
  have n1 : s0.1.length ≤ σ.1.length := (ex_len (fun j as σ σ' v h => cl_len 1000 j as σ σ' v h) _ _ _ _ _ _ _ hrun).1
  refine ex_ok (d := 1000) (Q := lw_Z below #[Value.ref b] s) C (Nat.le_of_ble_eq_true rfl) (Nat.le_of_ble_eq_true rfl) (fun j as σ σ' v h hj => cl_ok 1000 j as σ σ' v h hj) n 0 (entL 212 [.ref 0]) [] s0 σ (some (.int 1)) s.heap [] _ 0 0 hrun ⟨hR, va_S.rf, RL_ent hB.2.2.2.1 (by decide +kernel)⟩ (by show 0 + _ ≤ 600000 + s0.1.length; omega) (by show 0 + _ ≤ 7302250 + nS s0; omega) ?_
  intro pc1 L1 st1 H1 locs1 ls1 cells1 slots1 hst hR1 hS1 hc1 hs1
  rcases ret_is hst with ⟨x, ty, hv, rfl, hr9, hn9, hdg⟩ | ⟨x, hv, -⟩ | ⟨hv, -⟩
  · cases hv
    refine va_forget (fun q hq => hS1.2.2 q hq) ?_
    refine W.widen (k := 600000) (n := 7302250) (by omega) (by omega) ?_
    rw [e212C] at hdg
    exact lw_ret hx hb hr hlocks hdg
  · cases hv
  · cases hv
