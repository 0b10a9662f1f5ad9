/-! one row a kind of instruction -/
theorem putv_int {σ : aS} {o k : Nat} {v : Int32} : putv σ o k .int (.int v) = some (pI σ o k v) := by
  unfold putv
  exact if_pos ⟨rfl, rfl, by decide, rfl⟩
theorem putv_one {σ : aS} {o k : Nat} : putv σ o k .boolean (.int 1) = some (pI σ o k 1) := by
  unfold putv
  exact if_pos ⟨by decide, by decide, by decide, rfl⟩
section GN
variable {sc : aSc} {d m pc : Nat} {L st L2 st2 : List Value} {σ : aS} {r : aRes} {f : Nat → Nat → Int32} {g : Nat → Nat → Int64} {h1 h2 : Nat}
theorem r_iconst {n : Int} {v : Int32} (hd : decode (mC m) pc = .ok (.iconst n, 1)) (hv : Int32.ofInt n = v) : Rn sc d m pc L st σ r ↔ Rn sc d m (pc + 1) L (.int v :: st) σ r := Rn_next (stp_of hd (by subst hv; rfl))
theorem r_bipush {n : Int} {v : Int32} (hd : decode (mC m) pc = .ok (.bipush n, 2)) (hv : (Int8.ofInt n).toInt32 = v) : Rn sc d m pc L st σ r ↔ Rn sc d m (pc + 2) L (.int v :: st) σ r := Rn_next (stp_of hd (by subst hv; rfl))
theorem r_sipush {n : Int} {v : Int32} (hd : decode (mC m) pc = .ok (.sipush n, 3)) (hv : (Int16.ofInt n).toInt32 = v) : Rn sc d m pc L st σ r ↔ Rn sc d m (pc + 3) L (.int v :: st) σ r := Rn_next (stp_of hd (by subst hv; rfl))
theorem r_lconst {n : Fin 2} {v : Int64} (hd : decode (mC m) pc = .ok (.lconst n, 1)) (hv : Int64.ofNat (n : Nat) = v) : Rn sc d m pc L st σ r ↔ Rn sc d m (pc + 1) L (.long v :: st) σ r := Rn_next (stp_of hd (by subst hv; rfl))
theorem r_ldc {x i : Nat} (hd : decode (mC m) pc = .ok (.ldc x, 2)) (hl : lk3 ldT (mO m) x = some i) : Rn sc d m pc L st σ r ↔ Rn sc d m (pc + 2) L (.ref (5 + i) :: st) σ r := Rn_next (stp_of hd (by simp only [stpI, if_pos, hl]; rfl))
theorem r_ldc_w {x : Nat} {v : Int32} (hd : decode (mC m) pc = .ok (.ldc_w x, 3)) (hl : lk3 lciT (mO m) x = some v) : Rn sc d m pc L st σ r ↔ Rn sc d m (pc + 3) L (.int v :: st) σ r := Rn_next (stp_of hd (by simp only [stpI, if_pos, hl]; rfl))
theorem r_ldc2_w {x : Nat} {v : Int64} (hd : decode (mC m) pc = .ok (.ldc2_w x, 3)) (hl : lk3 lclT (mO m) x = some v) : Rn sc d m pc L st σ r ↔ Rn sc d m (pc + 3) L (.long v :: st) σ r := Rn_next (stp_of hd (by simp only [stpI, if_pos, hl]; rfl))
theorem r_iload {k : Nat} {x : Int32} (hd : decode (mC m) pc = .ok (.iload k, 2)) (hl : L[k]? = some (.int x)) : Rn sc d m pc L st σ r ↔ Rn sc d m (pc + 2) L (.int x :: st) σ r := Rn_next (stp_of hd (by simp only [stpI, if_pos, hl]; rfl))
theorem r_iload_n {k : Fin 4} {x : Int32} (hd : decode (mC m) pc = .ok (.iload_n k, 1)) (hl : L[(k : Nat)]? = some (.int x)) : Rn sc d m pc L st σ r ↔ Rn sc d m (pc + 1) L (.int x :: st) σ r := Rn_next (stp_of hd (by simp only [stpI, if_pos, hl]; rfl))
theorem r_lload {k : Nat} {x : Int64} (hd : decode (mC m) pc = .ok (.lload k, 2)) (hl : L[k]? = some (.long x)) : Rn sc d m pc L st σ r ↔ Rn sc d m (pc + 2) L (.long x :: st) σ r := Rn_next (stp_of hd (by simp only [stpI, if_pos, hl]; rfl))
theorem r_lload_n {k : Fin 4} {x : Int64} (hd : decode (mC m) pc = .ok (.lload_n k, 1)) (hl : L[(k : Nat)]? = some (.long x)) : Rn sc d m pc L st σ r ↔ Rn sc d m (pc + 1) L (.long x :: st) σ r := Rn_next (stp_of hd (by simp only [stpI, if_pos, hl]; rfl))
theorem r_aload {k : Nat} {x : Nat} (hd : decode (mC m) pc = .ok (.aload k, 2)) (hl : L[k]? = some (.ref x)) : Rn sc d m pc L st σ r ↔ Rn sc d m (pc + 2) L (.ref x :: st) σ r := Rn_next (stp_of hd (by simp only [stpI, if_pos, hl]; rfl))
theorem r_aload_n {k : Fin 4} {x : Nat} (hd : decode (mC m) pc = .ok (.aload_n k, 1)) (hl : L[(k : Nat)]? = some (.ref x)) : Rn sc d m pc L st σ r ↔ Rn sc d m (pc + 1) L (.ref x :: st) σ r := Rn_next (stp_of hd (by simp only [stpI, if_pos, hl]; rfl))
theorem r_istore {k : Nat} {x : Int32} (hd : decode (mC m) pc = .ok (.istore k, 2)) (hk : k < L.length) (ho : okst L k = true) : Rn sc d m pc L (.int x :: st) σ r ↔ Rn sc d m (pc + 2) (L.set k (.int x)) st σ r := Rn_next (stp_of hd (by simp only [stpI]; rw [if_pos ⟨trivial, hk, ho⟩]; rfl))
theorem r_istore_n {k : Fin 4} {x : Int32} (hd : decode (mC m) pc = .ok (.istore_n k, 1)) (hk : (k : Nat) < L.length) (ho : okst L k = true) : Rn sc d m pc L (.int x :: st) σ r ↔ Rn sc d m (pc + 1) (L.set (k : Nat) (.int x)) st σ r := Rn_next (stp_of hd (by simp only [stpI]; rw [if_pos ⟨trivial, hk, ho⟩]; rfl))
theorem r_astore {k : Nat} {x : Nat} (hd : decode (mC m) pc = .ok (.astore k, 2)) (hk : k < L.length) (ho : okst L k = true) : Rn sc d m pc L (.ref x :: st) σ r ↔ Rn sc d m (pc + 2) (L.set k (.ref x)) st σ r := Rn_next (stp_of hd (by simp only [stpI]; rw [if_pos ⟨trivial, hk, ho⟩]; rfl))
theorem r_astore_n {k : Fin 4} {x : Nat} (hd : decode (mC m) pc = .ok (.astore_n k, 1)) (hk : (k : Nat) < L.length) (ho : okst L k = true) : Rn sc d m pc L (.ref x :: st) σ r ↔ Rn sc d m (pc + 1) (L.set (k : Nat) (.ref x)) st σ r := Rn_next (stp_of hd (by simp only [stpI]; rw [if_pos ⟨trivial, hk, ho⟩]; rfl))
theorem r_lstore {k : Nat} {x : Int64} (hd : decode (mC m) pc = .ok (.lstore k, 2)) (hk : k + 1 < L.length) (ho : okst L k = true) : Rn sc d m pc L (.long x :: st) σ r ↔ Rn sc d m (pc + 2) ((L.set k (.long x)).set (k + 1) mk0) st σ r := Rn_next (stp_of hd (by simp only [stpI]; rw [if_pos ⟨trivial, hk, ho⟩]; rfl))
theorem r_lstore_n {k : Fin 4} {x : Int64} (hd : decode (mC m) pc = .ok (.lstore_n k, 1)) (hk : (k : Nat) + 1 < L.length) (ho : okst L k = true) : Rn sc d m pc L (.long x :: st) σ r ↔ Rn sc d m (pc + 1) ((L.set (k : Nat) (.long x)).set ((k : Nat) + 1) mk0) st σ r := Rn_next (stp_of hd (by simp only [stpI]; rw [if_pos ⟨trivial, hk, ho⟩]; rfl))
theorem r_iinc {k : Nat} {n : Int} {x v : Int32} (hd : decode (mC m) pc = .ok (.iinc k n, 3)) (hk : k < L.length) (ho : okst L k = true) (hl : L[k]? = some (.int x)) (hv : Int32.ofInt n = v) : Rn sc d m pc L st σ r ↔ Rn sc d m (pc + 3) (L.set k (.int (x + v))) st σ r := Rn_next (stp_of hd (by subst hv; simp only [stpI]; rw [if_pos ⟨trivial, hk, ho⟩]; simp only [hl]; rfl))
theorem r_dup {v : Value} (hd : decode (mC m) pc = .ok (.dup, 1)) (hc : v.category = 1) : Rn sc d m pc L (v :: st) σ r ↔ Rn sc d m (pc + 1) L (v :: v :: st) σ r := Rn_next (stp_of hd (by simp only [stpI, if_pos, hc]; rfl))
theorem r_pop {v : Value} (hd : decode (mC m) pc = .ok (.pop, 1)) (hc : v.category = 1) : Rn sc d m pc L (v :: st) σ r ↔ Rn sc d m (pc + 1) L st σ r := Rn_next (stp_of hd (by simp only [stpI, if_pos, hc]; rfl))
theorem r_iadd {x y : Int32} (hd : decode (mC m) pc = .ok (.iadd, 1)) : Rn sc d m pc L (.int y :: .int x :: st) σ r ↔ Rn sc d m (pc + 1) L (.int (x + y) :: st) σ r := Rn_next (stp_of hd rfl)
theorem r_isub {x y : Int32} (hd : decode (mC m) pc = .ok (.isub, 1)) : Rn sc d m pc L (.int y :: .int x :: st) σ r ↔ Rn sc d m (pc + 1) L (.int (x - y) :: st) σ r := Rn_next (stp_of hd rfl)
theorem r_imul {x y : Int32} (hd : decode (mC m) pc = .ok (.imul, 1)) : Rn sc d m pc L (.int y :: .int x :: st) σ r ↔ Rn sc d m (pc + 1) L (.int (x * y) :: st) σ r := Rn_next (stp_of hd rfl)
theorem r_iand {x y : Int32} (hd : decode (mC m) pc = .ok (.iand, 1)) : Rn sc d m pc L (.int y :: .int x :: st) σ r ↔ Rn sc d m (pc + 1) L (.int (x &&& y) :: st) σ r := Rn_next (stp_of hd rfl)
theorem r_ior {x y : Int32} (hd : decode (mC m) pc = .ok (.ior, 1)) : Rn sc d m pc L (.int y :: .int x :: st) σ r ↔ Rn sc d m (pc + 1) L (.int (x ||| y) :: st) σ r := Rn_next (stp_of hd rfl)
theorem r_ixor {x y : Int32} (hd : decode (mC m) pc = .ok (.ixor, 1)) : Rn sc d m pc L (.int y :: .int x :: st) σ r ↔ Rn sc d m (pc + 1) L (.int (x ^^^ y) :: st) σ r := Rn_next (stp_of hd rfl)
theorem r_ishl {x y : Int32} (hd : decode (mC m) pc = .ok (.ishl, 1)) : Rn sc d m pc L (.int y :: .int x :: st) σ r ↔ Rn sc d m (pc + 1) L (.int (x <<< (y &&& 31)) :: st) σ r := Rn_next (stp_of hd rfl)
theorem r_ishr {x y : Int32} (hd : decode (mC m) pc = .ok (.ishr, 1)) : Rn sc d m pc L (.int y :: .int x :: st) σ r ↔ Rn sc d m (pc + 1) L (.int (x >>> (y &&& 31)) :: st) σ r := Rn_next (stp_of hd rfl)
theorem r_iushr {x y : Int32} (hd : decode (mC m) pc = .ok (.iushr, 1)) : Rn sc d m pc L (.int y :: .int x :: st) σ r ↔ Rn sc d m (pc + 1) L (.int (x.toUInt32 >>> (y.toUInt32 &&& Int32.toUInt32 31)).toInt32 :: st) σ r := Rn_next (stp_of hd rfl)
theorem r_idiv {x y : Int32} (hd : decode (mC m) pc = .ok (.idiv, 1)) (hy : ¬ y = 0) : Rn sc d m pc L (.int y :: .int x :: st) σ r ↔ Rn sc d m (pc + 1) L (.int (x / y) :: st) σ r := Rn_next (stp_of hd (by simp only [stpI, if_pos]; rw [if_neg hy]; rfl))
theorem r_irem {x y : Int32} (hd : decode (mC m) pc = .ok (.irem, 1)) (hy : ¬ y = 0) : Rn sc d m pc L (.int y :: .int x :: st) σ r ↔ Rn sc d m (pc + 1) L (.int (x % y) :: st) σ r := Rn_next (stp_of hd (by simp only [stpI, if_pos]; rw [if_neg hy]; rfl))
theorem r_ineg {x : Int32} (hd : decode (mC m) pc = .ok (.ineg, 1)) : Rn sc d m pc L (.int x :: st) σ r ↔ Rn sc d m (pc + 1) L (.int (-x) :: st) σ r := Rn_next (stp_of hd rfl)
theorem r_i2l {x : Int32} (hd : decode (mC m) pc = .ok (.i2l, 1)) : Rn sc d m pc L (.int x :: st) σ r ↔ Rn sc d m (pc + 1) L (.long x.toInt64 :: st) σ r := Rn_next (stp_of hd rfl)
theorem r_l2i {x : Int64} (hd : decode (mC m) pc = .ok (.l2i, 1)) : Rn sc d m pc L (.long x :: st) σ r ↔ Rn sc d m (pc + 1) L (.int x.toInt32 :: st) σ r := Rn_next (stp_of hd rfl)
theorem r_i2b {x : Int32} (hd : decode (mC m) pc = .ok (.i2b, 1)) : Rn sc d m pc L (.int x :: st) σ r ↔ Rn sc d m (pc + 1) L (.int x.toInt8.toInt32 :: st) σ r := Rn_next (stp_of hd rfl)
theorem r_i2s {x : Int32} (hd : decode (mC m) pc = .ok (.i2s, 1)) : Rn sc d m pc L (.int x :: st) σ r ↔ Rn sc d m (pc + 1) L (.int x.toInt16.toInt32 :: st) σ r := Rn_next (stp_of hd rfl)
theorem r_i2c {x : Int32} (hd : decode (mC m) pc = .ok (.i2c, 1)) : Rn sc d m pc L (.int x :: st) σ r ↔ Rn sc d m (pc + 1) L (.int (x.toUInt32 % 65536).toInt32 :: st) σ r := Rn_next (stp_of hd rfl)
theorem r_land {x y : Int64} (hd : decode (mC m) pc = .ok (.land, 1)) : Rn sc d m pc L (.long y :: .long x :: st) σ r ↔ Rn sc d m (pc + 1) L (.long (x &&& y) :: st) σ r := Rn_next (stp_of hd rfl)
theorem r_lor {x y : Int64} (hd : decode (mC m) pc = .ok (.lor, 1)) : Rn sc d m pc L (.long y :: .long x :: st) σ r ↔ Rn sc d m (pc + 1) L (.long (x ||| y) :: st) σ r := Rn_next (stp_of hd rfl)
theorem r_lxor {x y : Int64} (hd : decode (mC m) pc = .ok (.lxor, 1)) : Rn sc d m pc L (.long y :: .long x :: st) σ r ↔ Rn sc d m (pc + 1) L (.long (x ^^^ y) :: st) σ r := Rn_next (stp_of hd rfl)
theorem r_lshl {x : Int64} {y : Int32} (hd : decode (mC m) pc = .ok (.lshl, 1)) : Rn sc d m pc L (.int y :: .long x :: st) σ r ↔ Rn sc d m (pc + 1) L (.long (x <<< (y.toInt64 &&& 63)) :: st) σ r := Rn_next (stp_of hd rfl)
theorem r_lushr {x : Int64} {y : Int32} (hd : decode (mC m) pc = .ok (.lushr, 1)) : Rn sc d m pc L (.int y :: .long x :: st) σ r ↔ Rn sc d m (pc + 1) L (.long (x.toUInt64 >>> (y.toInt64.toUInt64 &&& Int64.toUInt64 63)).toInt64 :: st) σ r := Rn_next (stp_of hd rfl)
theorem r_lcmp {x y : Int64} (hd : decode (mC m) pc = .ok (.lcmp, 1)) : Rn sc d m pc L (.long y :: .long x :: st) σ r ↔ Rn sc d m (pc + 1) L (.int (lg_cmp x y) :: st) σ r := Rn_next (stp_of hd rfl)
theorem cj_if {off : Int} {t : Nat} {c : Prop} {i : Decidable c} (hs : stp sc m pc L st σ = cj pc off (@decide c i) L2 st2 σ) (ht : jt pc off = some t) : Rn sc d m pc L st σ r ↔ if c then Rn sc d m t L2 st2 σ r else Rn sc d m (pc + 3) L2 st2 σ r := by
  unfold cj at hs
  rw [ht] at hs
  simp only at hs
  by_cases h : c
  · rw [if_pos (decide_eq_true h)] at hs
    rw [if_pos h]
    exact Rn_next hs
  · rw [if_neg (fun q => h (of_decide_eq_true q))] at hs
    rw [if_neg h]
    exact Rn_next hs
theorem r_goto {off : Int} {t : Nat} (hd : decode (mC m) pc = .ok (.goto off, 3)) (ht : jt pc off = some t) : Rn sc d m pc L st σ r ↔ Rn sc d m t L st σ r := Rn_next (stp_of hd (by simp only [stpI, if_pos]; unfold gt0; rw [ht]; rfl))
theorem r_if_eq {x : Int32} {off : Int} {t : Nat} (hd : decode (mC m) pc = .ok (.ifCond .eq off, 3)) (ht : jt pc off = some t) : Rn sc d m pc L (.int x :: st) σ r ↔ if x = 0 then Rn sc d m t L st σ r else Rn sc d m (pc + 3) L st σ r := cj_if (stp_of hd rfl) ht
theorem r_if_lt {x : Int32} {off : Int} {t : Nat} (hd : decode (mC m) pc = .ok (.ifCond .lt off, 3)) (ht : jt pc off = some t) : Rn sc d m pc L (.int x :: st) σ r ↔ if x < 0 then Rn sc d m t L st σ r else Rn sc d m (pc + 3) L st σ r := cj_if (stp_of hd rfl) ht
theorem r_if_gt {x : Int32} {off : Int} {t : Nat} (hd : decode (mC m) pc = .ok (.ifCond .gt off, 3)) (ht : jt pc off = some t) : Rn sc d m pc L (.int x :: st) σ r ↔ if 0 < x then Rn sc d m t L st σ r else Rn sc d m (pc + 3) L st σ r := cj_if (stp_of hd rfl) ht
theorem r_icmp_eq {x y : Int32} {off : Int} {t : Nat} (hd : decode (mC m) pc = .ok (.if_icmp .eq off, 3)) (ht : jt pc off = some t) : Rn sc d m pc L (.int y :: .int x :: st) σ r ↔ if x = y then Rn sc d m t L st σ r else Rn sc d m (pc + 3) L st σ r := cj_if (stp_of hd rfl) ht
theorem r_icmp_lt {x y : Int32} {off : Int} {t : Nat} (hd : decode (mC m) pc = .ok (.if_icmp .lt off, 3)) (ht : jt pc off = some t) : Rn sc d m pc L (.int y :: .int x :: st) σ r ↔ if x < y then Rn sc d m t L st σ r else Rn sc d m (pc + 3) L st σ r := cj_if (stp_of hd rfl) ht
theorem r_icmp_gt {x y : Int32} {off : Int} {t : Nat} (hd : decode (mC m) pc = .ok (.if_icmp .gt off, 3)) (ht : jt pc off = some t) : Rn sc d m pc L (.int y :: .int x :: st) σ r ↔ if y < x then Rn sc d m t L st σ r else Rn sc d m (pc + 3) L st σ r := cj_if (stp_of hd rfl) ht
theorem ite_not' {c : Prop} [Decidable c] {A B : Prop} : (if ¬ c then A else B) ↔ (if c then B else A) := by
  by_cases h : c <;> simp [h]
theorem ite_le {x y : Int32} {A B : Prop} : (if y ≤ x then A else B) ↔ (if x < y then B else A) := by
  by_cases h : x < y
  · rw [if_pos h, if_neg (fun q => by rw [Int32.lt_iff_toInt_lt] at h; rw [Int32.le_iff_toInt_le] at q; omega)]
  · rw [if_neg h, if_pos (Int32.not_lt.mp h)]
theorem r_if_ne {x : Int32} {off : Int} {t : Nat} (hd : decode (mC m) pc = .ok (.ifCond .ne off, 3)) (ht : jt pc off = some t) : Rn sc d m pc L (.int x :: st) σ r ↔ if x = 0 then Rn sc d m (pc + 3) L st σ r else Rn sc d m t L st σ r := (cj_if (c := ¬ x = 0) (stp_of hd rfl) ht).trans ite_not'
theorem r_if_ge {x : Int32} {off : Int} {t : Nat} (hd : decode (mC m) pc = .ok (.ifCond .ge off, 3)) (ht : jt pc off = some t) : Rn sc d m pc L (.int x :: st) σ r ↔ if x < 0 then Rn sc d m (pc + 3) L st σ r else Rn sc d m t L st σ r := (cj_if (stp_of hd rfl) ht).trans ite_le
theorem r_if_le {x : Int32} {off : Int} {t : Nat} (hd : decode (mC m) pc = .ok (.ifCond .le off, 3)) (ht : jt pc off = some t) : Rn sc d m pc L (.int x :: st) σ r ↔ if 0 < x then Rn sc d m (pc + 3) L st σ r else Rn sc d m t L st σ r := (cj_if (stp_of hd rfl) ht).trans ite_le
theorem r_icmp_ne {x y : Int32} {off : Int} {t : Nat} (hd : decode (mC m) pc = .ok (.if_icmp .ne off, 3)) (ht : jt pc off = some t) : Rn sc d m pc L (.int y :: .int x :: st) σ r ↔ if x = y then Rn sc d m (pc + 3) L st σ r else Rn sc d m t L st σ r := (cj_if (c := ¬ x = y) (stp_of hd rfl) ht).trans ite_not'
theorem r_icmp_ge {x y : Int32} {off : Int} {t : Nat} (hd : decode (mC m) pc = .ok (.if_icmp .ge off, 3)) (ht : jt pc off = some t) : Rn sc d m pc L (.int y :: .int x :: st) σ r ↔ if x < y then Rn sc d m (pc + 3) L st σ r else Rn sc d m t L st σ r := (cj_if (stp_of hd rfl) ht).trans ite_le
theorem r_icmp_le {x y : Int32} {off : Int} {t : Nat} (hd : decode (mC m) pc = .ok (.if_icmp .le off, 3)) (ht : jt pc off = some t) : Rn sc d m pc L (.int y :: .int x :: st) σ r ↔ if y < x then Rn sc d m (pc + 3) L st σ r else Rn sc d m t L st σ r := (cj_if (stp_of hd rfl) ht).trans ite_le
theorem r_tsw {dflt lo hi : Int} {offs : Array Int} {len t : Nat} {x : Int32} (hd : decode (mC m) pc = .ok (.tableswitch dflt lo hi offs, len)) (ht : swt pc dflt lo hi offs x = some t) : Rn sc d m pc L (.int x :: st) σ r ↔ Rn sc d m t L st σ r := Rn_next (stp_of hd (by simp only [stpI, ht]; rfl))
theorem r_tswd {dflt lo hi : Int} {offs : Array Int} {len t : Nat} {x : Int32} (hd : decode (mC m) pc = .ok (.tableswitch dflt lo hi offs, len)) (hx : x.toInt < lo ∨ hi < x.toInt) (ht : jt pc dflt = some t) : Rn sc d m pc L (.int x :: st) σ r ↔ Rn sc d m t L st σ r := r_tsw hd (by unfold swt; rw [if_pos hx]; exact ht)
theorem r_lsw {dflt : Int} {ps : Array (Int × Int)} {len t : Nat} {x : Int32} (hd : decode (mC m) pc = .ok (.lookupswitch dflt ps, len)) (ht : lwt pc dflt ps x = some t) : Rn sc d m pc L (.int x :: st) σ r ↔ Rn sc d m t L st σ r := Rn_next (stp_of hd (by simp only [stpI, ht]; rfl))
theorem r_getstatic {x k : Nat} (hd : decode (mC m) pc = .ok (.getstatic x, 3)) (hl : lk3 stT (mO m) x = some k) : Rn sc d m pc L st σ r ↔ Rn sc d m (pc + 3) L (sVal k :: st) σ r := Rn_next (stp_of hd (by simp only [stpI, if_pos, hl]; rfl))
theorem r_getstaticN {x k : Nat} (hd : decode (mC m) pc = .ok (.getstatic x, 3)) (hl : lk3 stT (mO m) x = none) (hl2 : lk3 snT (mO m) x = some k) : Rn sc d m pc L st σ r ↔ Rn sc d m (pc + 3) L (sVal k :: st) σ r := Rn_next (stp_of hd (by simp only [stpI, if_pos, hl, hl2]; rfl))
theorem r_getI {x ci k o : Nat} (hd : decode (mC m) pc = .ok (.getfield x, 3)) (hl : lk3 flT (mO m) x = some (ci, k)) (hk : k < nfl ci) (ht : ∀ σ : aS, fvl σ o k (cty ci k) = .int (aI σ o k)) (h17 : 17 ≤ o) (hK : KK[o]? = some (.inl ci)) : Rn sc d m pc L (.ref o :: st) (cS f g h1 h2) r ↔ Rn sc d m (pc + 3) L (.int (f o k) :: st) (cS f g h1 h2) r := by
  have e : aI (cS f g h1 h2) o k = f o k := congrFun (canI_own h17) k
  refine Rn_next (stp_of hd ?_)
  simp only [stpI, if_pos, hl]
  rw [if_pos ⟨hK, hk⟩, ht, e]
  rfl
theorem r_getR {x ci k o q : Nat} (hd : decode (mC m) pc = .ok (.getfield x, 3)) (hl : lk3 flT (mO m) x = some (ci, k)) (hk : k < nfl ci) (ht : ∀ σ : aS, fvl σ o k (cty ci k) = va_rf (aR σ o k)) (hK : KK[o]? = some (.inl ci)) (hR : RR h1 h2 o k = some q) : Rn sc d m pc L (.ref o :: st) (cS f g h1 h2) r ↔ Rn sc d m (pc + 3) L (.ref q :: st) (cS f g h1 h2) r := by
  have e : aR (cS f g h1 h2) o k = some q := hR
  refine Rn_next (stp_of hd ?_)
  simp only [stpI, if_pos, hl]
  rw [if_pos ⟨hK, hk⟩, ht, e]
  rfl
/-- a string's two fields -/
theorem r_getS0 {x o : Nat} (hd : decode (mC m) pc = .ok (.getfield x, 3)) (hl : lk3 flT (mO m) x = some (8, 0)) (h5 : 5 ≤ o) (h11 : o < 11) (hK : KK[o]? = some (.inl 8)) : Rn sc d m pc L (.ref o :: st) (cS f g h1 h2) r ↔ Rn sc d m (pc + 3) L (.ref (o + 6) :: st) (cS f g h1 h2) r := by
  refine Rn_next (stp_of hd ?_)
  simp only [stpI, if_pos, hl]
  rw [if_pos ⟨hK, by decide⟩]
  have e : aR (cS f g h1 h2) o 0 = some (o + 6) := by
    have hc := List.all_eq_true.mp (show (List.range 11).all (fun o => decide (o < 5) || RT o 0 == some (o + 6)) = true by decide +kernel) o (List.mem_range.mpr h11)
    simp only [Bool.or_eq_true, decide_eq_true_eq, beq_iff_eq] at hc
    rcases hc with hc | hc
    · omega
    · exact hc
  show nx (pc + 3) L (va_rf (aR (cS f g h1 h2) o 0) :: st) _ = _
  rw [e]
  rfl
theorem r_getS1 {x o : Nat} (hd : decode (mC m) pc = .ok (.getfield x, 3)) (hl : lk3 flT (mO m) x = some (8, 1)) (h5 : 5 ≤ o) (h11 : o < 11) (hK : KK[o]? = some (.inl 8)) : Rn sc d m pc L (.ref o :: st) (cS f g h1 h2) r ↔ Rn sc d m (pc + 3) L (.int 0 :: st) (cS f g h1 h2) r := by
  refine Rn_next (stp_of hd ?_)
  simp only [stpI, if_pos, hl]
  rw [if_pos ⟨hK, by decide⟩]
  have e : aI (cS f g h1 h2) o 1 = 0 := by
    have hc := List.all_eq_true.mp (show (List.range 11).all (fun o => decide (o < 5) || fI o 1 == 0) = true by decide +kernel) o (List.mem_range.mpr h11)
    simp only [Bool.or_eq_true, decide_eq_true_eq, beq_iff_eq] at hc
    rcases hc with hc | hc
    · omega
    · exact (congrFun (canI_for (by omega)) 1).trans hc
  show nx (pc + 3) L (.int (aI (cS f g h1 h2) o 1) :: st) _ = _
  rw [e]
  rfl
theorem r_putI {x ci k o : Nat} {v : Int32} (hd : decode (mC m) pc = .ok (.putfield x, 3)) (hl : lk3 flT (mO m) x = some (ci, k)) (hk : k < nfl ci ∧ ci < 8 ∧ (fT ci k).2.2.2 = false ∧ cty ci k = .int) (h17 : 17 ≤ o) (hK : KK[o]? = some (.inl ci)) : Rn sc d m pc L (.int v :: .ref o :: st) (cS f g h1 h2) r ↔ Rn sc d m (pc + 3) L st (cS (u2 f o k v) g h1 h2) r := by
  refine Rn_next (stp_of hd ?_)
  simp only [stpI, if_pos, hl]
  rw [if_pos ⟨h17, hk.2.1, hK, hk.1, fun q => by rw [hk.2.2.1] at q; cases q⟩, hk.2.2.2, putv_int, cS_pI h17]
  rfl
theorem r_putZ {x ci k o : Nat} {v : Int32} (hd : decode (mC m) pc = .ok (.putfield x, 3)) (hl : lk3 flT (mO m) x = some (ci, k)) (hk : k < nfl ci ∧ ci < 8 ∧ (fT ci k).2.2.2 = false ∧ cty ci k = .boolean) (h17 : 17 ≤ o) (hK : KK[o]? = some (.inl ci)) (hv : v = 1) : Rn sc d m pc L (.int v :: .ref o :: st) (cS f g h1 h2) r ↔ Rn sc d m (pc + 3) L st (cS (u2 f o k v) g h1 h2) r := by
  subst hv
  refine Rn_next (stp_of hd ?_)
  simp only [stpI, if_pos, hl]
  rw [if_pos ⟨h17, hk.2.1, hK, hk.1, fun q => by rw [hk.2.2.1] at q; cases q⟩, hk.2.2.2, putv_one, cS_pI h17]
  rfl
theorem r_putH {x q : Nat} (hd : decode (mC m) pc = .ok (.putfield x, 3)) (hl : lk3 flT (mO m) x = some (1, 17)) : Rn sc d m pc L (.ref q :: .ref 56 :: st) (cS f g h1 h2) r ↔ Rn sc d m (pc + 3) L st (cS f g q h2) r := by
  refine Rn_next (stp_of hd ?_)
  simp only [stpI, if_pos, hl]
  rw [if_pos ⟨by decide, by decide, rfl, by decide, fun q => by cases q⟩]
  show nx (pc + 3) L st (KK, canI f, g, va_up (RR h1 h2) 56 (va_up (RR h1 h2 56) 17 (some q))) = _
  rw [RR_h1]
  rfl
theorem r_putH2 {x q : Nat} (hd : decode (mC m) pc = .ok (.putfield x, 3)) (hl : lk3 flT (mO m) x = some (1, 17)) : Rn sc d m pc L (.ref q :: .ref 67 :: st) (cS f g h1 h2) r ↔ Rn sc d m (pc + 3) L st (cS f g h1 q) r := by
  refine Rn_next (stp_of hd ?_)
  simp only [stpI, if_pos, hl]
  rw [if_pos ⟨by decide, by decide, rfl, by decide, fun q => by cases q⟩]
  show nx (pc + 3) L st (KK, canI f, g, va_up (RR h1 h2) 67 (va_up (RR h1 h2 67) 17 (some q))) = _
  rw [RR_h2]
  rfl
theorem r_alen {a n : Nat} {ty : FieldType} (hd : decode (mC m) pc = .ok (.arraylength, 1)) (ha : ¬ a = 0) (hK : KK[a]? = some (.inr (ty, n))) : Rn sc d m pc L (.ref a :: st) (cS f g h1 h2) r ↔ Rn sc d m (pc + 1) L (.int (nI n) :: st) (cS f g h1 h2) r := by
  refine Rn_next (stp_of hd ?_)
  have hK2 : (cS f g h1 h2).1[a]? = some (.inr (ty, n)) := hK
  simp only [stpI, if_pos]
  rw [if_neg ha, hK2]
  rfl
theorem r_iald {a n : Nat} {i : Int32} (hd : decode (mC m) pc = .ok (.iaload, 1)) (h17 : 17 ≤ a) (hK : KK[a]? = some (.inr (.int, n))) (hi : inb i n = true) : Rn sc d m pc L (.int i :: .ref a :: st) (cS f g h1 h2) r ↔ Rn sc d m (pc + 1) L (.int (f a i.toNatClampNeg) :: st) (cS f g h1 h2) r := by
  have e : aI (cS f g h1 h2) a = f a := canI_own h17
  refine Rn_next (stp_of hd ?_)
  have hv : arI sc (cS f g h1 h2) a = some (n, f a) := by
    unfold arI
    have hK2 : (cS f g h1 h2).1[a]? = some (.inr (.int, n)) := hK
    rw [if_neg (by omega), hK2, ← e]
  simp only [stpI, if_pos, hv]
  rw [if_pos hi]
  rfl
theorem r_iald0 {a n : Nat} {i : Int32} (hd : decode (mC m) pc = .ok (.iaload, 1)) (h0 : ¬ a = 0) (h17 : a < 17) (hK : KK[a]? = some (.inr (.int, n))) (hi : inb i n = true) : Rn sc d m pc L (.int i :: .ref a :: st) (cS f g h1 h2) r ↔ Rn sc d m (pc + 1) L (.int (fI a i.toNatClampNeg) :: st) (cS f g h1 h2) r := by
  have e : aI (cS f g h1 h2) a = fI a := canI_for h17
  refine Rn_next (stp_of hd ?_)
  have hv : arI sc (cS f g h1 h2) a = some (n, fI a) := by
    unfold arI
    have hK2 : (cS f g h1 h2).1[a]? = some (.inr (.int, n)) := hK
    rw [if_neg h0, hK2, ← e]
  simp only [stpI, if_pos, hv]
  rw [if_pos hi]
  rfl
theorem r_lald {a n : Nat} {i : Int32} (hd : decode (mC m) pc = .ok (.laload, 1)) (h17 : 17 ≤ a) (hK : KK[a]? = some (.inr (.long, n))) (hi : inb i n = true) : Rn sc d m pc L (.int i :: .ref a :: st) (cS f g h1 h2) r ↔ Rn sc d m (pc + 1) L (.long (g a i.toNatClampNeg) :: st) (cS f g h1 h2) r := by
  refine Rn_next (stp_of hd ?_)
  have hK2 : (cS f g h1 h2).1[a]? = some (.inr (.long, n)) := hK
  simp only [stpI, if_pos, hK2]
  rw [if_pos ⟨hi, h17⟩]
  rfl
theorem r_bald {a n : Nat} {i : Int32} (hd : decode (mC m) pc = .ok (.baload, 1)) (h17 : 17 ≤ a) (hK : KK[a]? = some (.inr (.byte, n))) (hi : inb i n = true) : Rn sc d m pc L (.int i :: .ref a :: st) (cS f g h1 h2) r ↔ Rn sc d m (pc + 1) L (.int (f a i.toNatClampNeg) :: st) (cS f g h1 h2) r := by
  have e : aI (cS f g h1 h2) a = f a := canI_own h17
  refine Rn_next (stp_of hd ?_)
  have hK2 : (cS f g h1 h2).1[a]? = some (.inr (.byte, n)) := hK
  simp only [stpI, if_pos, hK2]
  rw [if_pos ⟨hi, fun q => by subst q; exact absurd h17 (by decide)⟩, e]
  rfl
theorem r_bald0 {a n : Nat} {i : Int32} (hd : decode (mC m) pc = .ok (.baload, 1)) (h0 : ¬ a = 0) (h17 : a < 17) (hK : KK[a]? = some (.inr (.byte, n))) (hi : inb i n = true) : Rn sc d m pc L (.int i :: .ref a :: st) (cS f g h1 h2) r ↔ Rn sc d m (pc + 1) L (.int (fI a i.toNatClampNeg) :: st) (cS f g h1 h2) r := by
  have e : aI (cS f g h1 h2) a = fI a := canI_for h17
  refine Rn_next (stp_of hd ?_)
  have hK2 : (cS f g h1 h2).1[a]? = some (.inr (.byte, n)) := hK
  simp only [stpI, if_pos, hK2]
  rw [if_pos ⟨hi, h0⟩, e]
  rfl
theorem r_zald {a n : Nat} {i : Int32} (hd : decode (mC m) pc = .ok (.baload, 1)) (h17 : 17 ≤ a) (hK : KK[a]? = some (.inr (.boolean, n))) (hi : inb i n = true) : Rn sc d m pc L (.int i :: .ref a :: st) (cS f g h1 h2) r ↔ Rn sc d m (pc + 1) L (.int (f a i.toNatClampNeg) :: st) (cS f g h1 h2) r := by
  have e : aI (cS f g h1 h2) a = f a := canI_own h17
  refine Rn_next (stp_of hd ?_)
  have hK2 : (cS f g h1 h2).1[a]? = some (.inr (.boolean, n)) := hK
  simp only [stpI, if_pos, hK2]
  rw [if_pos ⟨hi, h17⟩, e]
  rfl
theorem r_aald {a n q : Nat} {i : Int32} {ty : FieldType} (hd : decode (mC m) pc = .ok (.aaload, 1)) (h17 : 17 ≤ a) (hK : KK[a]? = some (.inr (ty, n))) (ht : isRf ty = true) (hi : inb i n = true) (hR : RR h1 h2 a i.toNatClampNeg = some q) : Rn sc d m pc L (.int i :: .ref a :: st) (cS f g h1 h2) r ↔ Rn sc d m (pc + 1) L (.ref q :: st) (cS f g h1 h2) r := by
  refine Rn_next (stp_of hd ?_)
  have hK2 : (cS f g h1 h2).1[a]? = some (.inr (ty, n)) := hK
  have e : aR (cS f g h1 h2) a i.toNatClampNeg = some q := hR
  simp only [stpI, if_pos, hK2]
  rw [if_pos ⟨hi, h17, ht⟩, e]
  rfl
theorem r_iast {a n : Nat} {i x : Int32} (hd : decode (mC m) pc = .ok (.iastore, 1)) (h17 : 17 ≤ a) (hK : KK[a]? = some (.inr (.int, n))) (hi : inb i n = true) : Rn sc d m pc L (.int x :: .int i :: .ref a :: st) (cS f g h1 h2) r ↔ Rn sc d m (pc + 1) L st (cS (u2 f a i.toNatClampNeg x) g h1 h2) r := by
  refine Rn_next (stp_of hd ?_)
  have hK2 : (cS f g h1 h2).1[a]? = some (.inr (.int, n)) := hK
  simp only [stpI, if_pos, hK2]
  rw [if_pos ⟨hi, h17⟩, cS_pI h17]
  rfl
theorem r_bast {a n : Nat} {i x : Int32} (hd : decode (mC m) pc = .ok (.bastore, 1)) (h17 : 17 ≤ a) (hK : KK[a]? = some (.inr (.byte, n))) (hi : inb i n = true) : Rn sc d m pc L (.int x :: .int i :: .ref a :: st) (cS f g h1 h2) r ↔ Rn sc d m (pc + 1) L st (cS (u2 f a i.toNatClampNeg x.toInt8.toInt32) g h1 h2) r := by
  refine Rn_next (stp_of hd ?_)
  have hK2 : (cS f g h1 h2).1[a]? = some (.inr (.byte, n)) := hK
  simp only [stpI, if_pos, hK2]
  rw [if_pos ⟨hi, h17⟩, cS_pI h17]
  rfl
theorem r_zast {a n : Nat} {i x : Int32} (hd : decode (mC m) pc = .ok (.bastore, 1)) (h17 : 17 ≤ a) (hK : KK[a]? = some (.inr (.boolean, n))) (hi : inb i n = true) : Rn sc d m pc L (.int x :: .int i :: .ref a :: st) (cS f g h1 h2) r ↔ Rn sc d m (pc + 1) L st (cS (u2 f a i.toNatClampNeg (x &&& 1)) g h1 h2) r := by
  refine Rn_next (stp_of hd ?_)
  have hK2 : (cS f g h1 h2).1[a]? = some (.inr (.boolean, n)) := hK
  simp only [stpI, if_pos, hK2]
  rw [if_pos ⟨hi, h17⟩, cS_pI h17]
  rfl
theorem r_last {a n : Nat} {i : Int32} {x : Int64} (hd : decode (mC m) pc = .ok (.lastore, 1)) (h17 : 17 ≤ a) (hK : KK[a]? = some (.inr (.long, n))) (hi : inb i n = true) : Rn sc d m pc L (.long x :: .int i :: .ref a :: st) (cS f g h1 h2) r ↔ Rn sc d m (pc + 1) L st (cS f (u2 g a i.toNatClampNeg x) h1 h2) r := by
  refine Rn_next (stp_of hd ?_)
  have hK2 : (cS f g h1 h2).1[a]? = some (.inr (.long, n)) := hK
  simp only [stpI, if_pos, hK2]
  rw [if_pos ⟨hi, h17⟩, cS_pJ]
  rfl
theorem r_callV {x j o : Nat} {vs : List Value} {st2 : List Value} (hd : decode (mC m) pc = .ok (.invokevirtual x, 3)) (hl : lk3 mlT (mO m) x = some j) (hj : mK j = 0 ∧ j < 212 ∧ vs.length = mN j ∧ st = vs ++ .ref o :: st2) (hc : cats st2 ≤ 8) (hK : σ.1[o]? = some (.inl (mO j))) : Rn sc d m pc L st σ r ↔ ∃ (σ3 : aS) (v : Option Value), Cl sc d j (.ref o :: vs.reverse) σ (σ3, v) ∧ Rn sc d m (pc + 3) L (v.toList ++ st2) σ3 r := by
  refine Rn_call (stp_of hd ?_)
  obtain ⟨hj, hj2, hj3, rfl⟩ := hj
  simp only [stpI, if_pos]
  unfold doCall
  rw [if_neg (by decide : ¬ (0 : Nat) = 3), hl]
  simp only
  rw [if_pos ⟨by rw [if_neg (by decide : ¬ (0 : Nat) = 3)]; exact hj, hj2⟩, if_neg (by decide : ¬ (0 : Nat) = 1), ← hj3, List.drop_left, List.take_left]
  simp only
  rw [if_pos ⟨hc, hK⟩]
theorem r_callS {x j : Nat} {vs : List Value} {st2 : List Value} (hd : decode (mC m) pc = .ok (.invokestatic x, 3)) (ha : lk2 acT (mO m) x = false) (hl : lk3 mlT (mO m) x = some j) (hj : mK j = 1 ∧ j < 212 ∧ vs.length = mN j ∧ st = vs ++ st2) (hc : cats st2 ≤ 8) : Rn sc d m pc L st σ r ↔ ∃ (σ3 : aS) (v : Option Value), Cl sc d j vs.reverse σ (σ3, v) ∧ Rn sc d m (pc + 3) L (v.toList ++ st2) σ3 r := by
  refine Rn_call (stp_of hd ?_)
  obtain ⟨hj, hj2, hj3, rfl⟩ := hj
  simp only [stpI, if_pos]
  rw [if_neg (by rw [ha]; decide)]
  unfold doCall
  rw [if_neg (by decide : ¬ (1 : Nat) = 3), hl]
  simp only
  rw [if_pos ⟨by rw [if_neg (by decide : ¬ (1 : Nat) = 3)]; exact hj, hj2⟩, if_pos trivial, ← hj3, List.drop_left, List.take_left]
  rw [if_pos ⟨hc, rfl⟩]
theorem r_copyI {x a b n0 n1 : Nat} {sp dp n : Int32} (hd : decode (mC m) pc = .ok (.invokestatic x, 3)) (ha : lk2 acT (mO m) x = true) (ha17 : 17 ≤ a) (hb17 : 17 ≤ b) (hKa : KK[a]? = some (.inr (.int, n0))) (hKb : KK[b]? = some (.inr (.int, n1))) (hn : ¬ n < 0) (hdp : ¬ dp < 0) (hsp : ¬ sp < 0) (hc : cats st ≤ 8) (hb1 : sp.toNatClampNeg + n.toNatClampNeg ≤ n0) (hb2 : dp.toNatClampNeg + n.toNatClampNeg ≤ n1) : Rn sc d m pc L (.int n :: .int dp :: .ref b :: .int sp :: .ref a :: st) (cS f g h1 h2) r ↔ Rn sc d m (pc + 3) L st (cS (va_up f b (va_cpy (f a) (f b) sp.toNatClampNeg dp.toNatClampNeg n.toNatClampNeg)) g h1 h2) r := by
  refine Rn_next (stp_of hd ?_)
  have hK2 : (cS f g h1 h2).1[a]? = some (.inr (.int, n0)) := hKa
  have hK3 : (cS f g h1 h2).1[b]? = some (.inr (.int, n1)) := hKb
  have ea : aI (cS f g h1 h2) a = f a := canI_own ha17
  have eb : aI (cS f g h1 h2) b = f b := canI_own hb17
  simp only [stpI, if_pos]
  rw [if_pos ha, if_neg (by simp only [not_or]; exact ⟨hn, hdp, hsp, Nat.not_lt.mpr ha17, Nat.not_lt.mpr hb17, Nat.not_lt.mpr hc⟩), hK2, hK3]
  simp only
  rw [if_pos ⟨hb1, hb2⟩, cS_pIr hb17, ea, eb]
  rfl
theorem r_copyJ {x a b n0 n1 : Nat} {sp dp n : Int32} (hd : decode (mC m) pc = .ok (.invokestatic x, 3)) (ha : lk2 acT (mO m) x = true) (ha17 : 17 ≤ a) (hb17 : 17 ≤ b) (hKa : KK[a]? = some (.inr (.long, n0))) (hKb : KK[b]? = some (.inr (.long, n1))) (hn : ¬ n < 0) (hdp : ¬ dp < 0) (hsp : ¬ sp < 0) (hc : cats st ≤ 8) (hb1 : sp.toNatClampNeg + n.toNatClampNeg ≤ n0) (hb2 : dp.toNatClampNeg + n.toNatClampNeg ≤ n1) : Rn sc d m pc L (.int n :: .int dp :: .ref b :: .int sp :: .ref a :: st) (cS f g h1 h2) r ↔ Rn sc d m (pc + 3) L st (cS f (va_up g b (va_cpy (g a) (g b) sp.toNatClampNeg dp.toNatClampNeg n.toNatClampNeg)) h1 h2) r := by
  refine Rn_next (stp_of hd ?_)
  have hK2 : (cS f g h1 h2).1[a]? = some (.inr (.long, n0)) := hKa
  have hK3 : (cS f g h1 h2).1[b]? = some (.inr (.long, n1)) := hKb
  simp only [stpI, if_pos]
  rw [if_pos ha, if_neg (by simp only [not_or]; exact ⟨hn, hdp, hsp, Nat.not_lt.mpr ha17, Nat.not_lt.mpr hb17, Nat.not_lt.mpr hc⟩), hK2, hK3]
  simp only
  rw [if_pos ⟨hb1, hb2⟩]
  rfl
theorem r_iret {x : Int32} {ty : FieldType} (hd : decode (mC m) pc = .ok (.ireturn, 1)) (hr : mR m = some ty) (hn : narrow ty (.int x) = .int x) : Rn sc d m pc L [.int x] σ r ↔ r = (σ, some (.int x)) := Rn_ret (stp_of hd (by simp only [stpI, if_pos, hr]; rw [if_pos hn]))
theorem r_lret {x : Int64} (hd : decode (mC m) pc = .ok (.lreturn, 1)) (hr : mR m = some .long) : Rn sc d m pc L [.long x] σ r ↔ r = (σ, some (.long x)) := Rn_ret (stp_of hd (by simp only [stpI]; rw [if_pos ⟨trivial, hr⟩]))
theorem r_vret (hd : decode (mC m) pc = .ok (.return_, 1)) (hr : mR m = none) : Rn sc d m pc L [] σ r ↔ r = (σ, none) := Rn_ret (stp_of hd (by simp only [stpI]; rw [if_pos ⟨trivial, hr⟩]))
end GN
