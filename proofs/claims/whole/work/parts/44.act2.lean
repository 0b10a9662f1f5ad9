/-! act -/
theorem asim_of {f0' : Nat → Nat → Int32} {l : List Int32} (h0 : f0' 49 1 = nI 0) (hl : l.length ≤ 20) : ASim (bgs 114 65 148 (u2 (bgs 49 1 50 f0' 0 l) 114 65 (nI 0)) 0 l) := by
  refine ⟨l.length, hl, ?_, ?_, fun k hk => ?_⟩
  · rw [bgs_n (by omega) (by omega), u2_n (by omega), bgs_c _ _ _ h0, Nat.zero_add]
  · rw [bgs_c _ _ _ u2_ss, Nat.zero_add]
  · rw [bgs_n (by omega) (by omega), u2_n (by omega), bgs_K (by omega), bgs_K (by omega), if_pos (by omega), if_pos (by omega)]
