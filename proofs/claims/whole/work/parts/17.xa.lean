/-! a row an instruction (written by wip/whole/mk16.py) -/
theorem d1_0 : decode (mC 1) 0 = .ok (.aload_n 0, 1) := by decide +kernel
theorem x1_0 {sc : aSc} {d : Nat} {r : aRes} {x0 : Nat} {a1 : Value} {a2 : Value} {a3 : Value} {a4 : Value} {a5 : Value} {st : List Value} {σ : aS} : Rn sc d 1 0 [.ref x0, a1, a2, a3, a4, a5] st σ r ↔ Rn sc d 1 1 [.ref x0, a1, a2, a3, a4, a5] (.ref x0 :: st) σ r := r_aload_n d1_0 rfl
theorem d1_1 : decode (mC 1) 1 = .ok (.iload_n 1, 1) := by decide +kernel
theorem x1_1 {sc : aSc} {d : Nat} {r : aRes} {a0 : Value} {x1 : Int32} {a2 : Value} {a3 : Value} {a4 : Value} {a5 : Value} {st : List Value} {σ : aS} : Rn sc d 1 1 [a0, .int x1, a2, a3, a4, a5] st σ r ↔ Rn sc d 1 2 [a0, .int x1, a2, a3, a4, a5] (.int x1 :: st) σ r := r_iload_n d1_1 rfl
theorem d1_2 : decode (mC 1) 2 = .ok (.putfield 13, 3) := by decide +kernel
theorem x1_2 {sc : aSc} {d : Nat} {r : aRes} {L : List Value} {st : List Value} {f : Nat → Nat → Int32} {g : Nat → Nat → Int64} {h1 h2 : Nat} {o : Nat} {v : Int32} (h17 : 17 ≤ o) (hK : KK[o]? = some (.inl 0)) : Rn sc d 1 2 L (.int v :: .ref o :: st) (cS f g h1 h2) r ↔ Rn sc d 1 5 L st (cS (u2 f o 2 v) g h1 h2) r := r_putI d1_2 (ci := 0) (k := 2) rfl (by decide) h17 hK
theorem d1_5 : decode (mC 1) 5 = .ok (.aload_n 0, 1) := by decide +kernel
theorem x1_5 {sc : aSc} {d : Nat} {r : aRes} {x0 : Nat} {a1 : Value} {a2 : Value} {a3 : Value} {a4 : Value} {a5 : Value} {st : List Value} {σ : aS} : Rn sc d 1 5 [.ref x0, a1, a2, a3, a4, a5] st σ r ↔ Rn sc d 1 6 [.ref x0, a1, a2, a3, a4, a5] (.ref x0 :: st) σ r := r_aload_n d1_5 rfl
theorem d1_6 : decode (mC 1) 6 = .ok (.iload_n 2, 1) := by decide +kernel
theorem x1_6 {sc : aSc} {d : Nat} {r : aRes} {a0 : Value} {a1 : Value} {x2 : Int32} {a3 : Value} {a4 : Value} {a5 : Value} {st : List Value} {σ : aS} : Rn sc d 1 6 [a0, a1, .int x2, a3, a4, a5] st σ r ↔ Rn sc d 1 7 [a0, a1, .int x2, a3, a4, a5] (.int x2 :: st) σ r := r_iload_n d1_6 rfl
theorem d1_7 : decode (mC 1) 7 = .ok (.putfield 17, 3) := by decide +kernel
theorem x1_7 {sc : aSc} {d : Nat} {r : aRes} {L : List Value} {st : List Value} {f : Nat → Nat → Int32} {g : Nat → Nat → Int64} {h1 h2 : Nat} {o : Nat} {v : Int32} (h17 : 17 ≤ o) (hK : KK[o]? = some (.inl 0)) : Rn sc d 1 7 L (.int v :: .ref o :: st) (cS f g h1 h2) r ↔ Rn sc d 1 10 L st (cS (u2 f o 3 v) g h1 h2) r := r_putI d1_7 (ci := 0) (k := 3) rfl (by decide) h17 hK
theorem d1_10 : decode (mC 1) 10 = .ok (.aload_n 0, 1) := by decide +kernel
theorem x1_10 {sc : aSc} {d : Nat} {r : aRes} {x0 : Nat} {a1 : Value} {a2 : Value} {a3 : Value} {a4 : Value} {a5 : Value} {st : List Value} {σ : aS} : Rn sc d 1 10 [.ref x0, a1, a2, a3, a4, a5] st σ r ↔ Rn sc d 1 11 [.ref x0, a1, a2, a3, a4, a5] (.ref x0 :: st) σ r := r_aload_n d1_10 rfl
theorem d1_11 : decode (mC 1) 11 = .ok (.iload_n 3, 1) := by decide +kernel
theorem x1_11 {sc : aSc} {d : Nat} {r : aRes} {a0 : Value} {a1 : Value} {a2 : Value} {x3 : Int32} {a4 : Value} {a5 : Value} {st : List Value} {σ : aS} : Rn sc d 1 11 [a0, a1, a2, .int x3, a4, a5] st σ r ↔ Rn sc d 1 12 [a0, a1, a2, .int x3, a4, a5] (.int x3 :: st) σ r := r_iload_n d1_11 rfl
theorem d1_12 : decode (mC 1) 12 = .ok (.putfield 20, 3) := by decide +kernel
theorem x1_12 {sc : aSc} {d : Nat} {r : aRes} {L : List Value} {st : List Value} {f : Nat → Nat → Int32} {g : Nat → Nat → Int64} {h1 h2 : Nat} {o : Nat} {v : Int32} (h17 : 17 ≤ o) (hK : KK[o]? = some (.inl 0)) : Rn sc d 1 12 L (.int v :: .ref o :: st) (cS f g h1 h2) r ↔ Rn sc d 1 15 L st (cS (u2 f o 4 v) g h1 h2) r := r_putI d1_12 (ci := 0) (k := 4) rfl (by decide) h17 hK
theorem d1_15 : decode (mC 1) 15 = .ok (.aload_n 0, 1) := by decide +kernel
theorem x1_15 {sc : aSc} {d : Nat} {r : aRes} {x0 : Nat} {a1 : Value} {a2 : Value} {a3 : Value} {a4 : Value} {a5 : Value} {st : List Value} {σ : aS} : Rn sc d 1 15 [.ref x0, a1, a2, a3, a4, a5] st σ r ↔ Rn sc d 1 16 [.ref x0, a1, a2, a3, a4, a5] (.ref x0 :: st) σ r := r_aload_n d1_15 rfl
theorem d1_16 : decode (mC 1) 16 = .ok (.iconst 0, 1) := by decide +kernel
theorem x1_16 {sc : aSc} {d : Nat} {r : aRes} {L : List Value} {st : List Value} {σ : aS} : Rn sc d 1 16 L st σ r ↔ Rn sc d 1 17 L (.int 0 :: st) σ r := r_iconst d1_16 (by decide)
theorem d1_17 : decode (mC 1) 17 = .ok (.putfield 23, 3) := by decide +kernel
theorem x1_17 {sc : aSc} {d : Nat} {r : aRes} {L : List Value} {st : List Value} {f : Nat → Nat → Int32} {g : Nat → Nat → Int64} {h1 h2 : Nat} {o : Nat} {v : Int32} (h17 : 17 ≤ o) (hK : KK[o]? = some (.inl 0)) : Rn sc d 1 17 L (.int v :: .ref o :: st) (cS f g h1 h2) r ↔ Rn sc d 1 20 L st (cS (u2 f o 1 v) g h1 h2) r := r_putI d1_17 (ci := 0) (k := 1) rfl (by decide) h17 hK
theorem d1_20 : decode (mC 1) 20 = .ok (.aload_n 0, 1) := by decide +kernel
theorem x1_20 {sc : aSc} {d : Nat} {r : aRes} {x0 : Nat} {a1 : Value} {a2 : Value} {a3 : Value} {a4 : Value} {a5 : Value} {st : List Value} {σ : aS} : Rn sc d 1 20 [.ref x0, a1, a2, a3, a4, a5] st σ r ↔ Rn sc d 1 21 [.ref x0, a1, a2, a3, a4, a5] (.ref x0 :: st) σ r := r_aload_n d1_20 rfl
theorem d1_21 : decode (mC 1) 21 = .ok (.iload 4, 2) := by decide +kernel
theorem x1_21 {sc : aSc} {d : Nat} {r : aRes} {a0 : Value} {a1 : Value} {a2 : Value} {a3 : Value} {x4 : Int32} {a5 : Value} {st : List Value} {σ : aS} : Rn sc d 1 21 [a0, a1, a2, a3, .int x4, a5] st σ r ↔ Rn sc d 1 23 [a0, a1, a2, a3, .int x4, a5] (.int x4 :: st) σ r := r_iload d1_21 rfl
theorem d1_23 : decode (mC 1) 23 = .ok (.aload_n 0, 1) := by decide +kernel
theorem x1_23 {sc : aSc} {d : Nat} {r : aRes} {x0 : Nat} {a1 : Value} {a2 : Value} {a3 : Value} {a4 : Value} {a5 : Value} {st : List Value} {σ : aS} : Rn sc d 1 23 [.ref x0, a1, a2, a3, a4, a5] st σ r ↔ Rn sc d 1 24 [.ref x0, a1, a2, a3, a4, a5] (.ref x0 :: st) σ r := r_aload_n d1_23 rfl
theorem d1_24 : decode (mC 1) 24 = .ok (.getfield 13, 3) := by decide +kernel
theorem x1_24 {sc : aSc} {d : Nat} {r : aRes} {L : List Value} {st : List Value} {f : Nat → Nat → Int32} {g : Nat → Nat → Int64} {h1 h2 : Nat} {o : Nat} (h17 : 17 ≤ o) (hK : KK[o]? = some (.inl 0)) : Rn sc d 1 24 L (.ref o :: st) (cS f g h1 h2) r ↔ Rn sc d 1 27 L (.int (f o 2) :: st) (cS f g h1 h2) r := r_getI d1_24 (ci := 0) (k := 2) rfl (by decide) (fun _ => rfl) h17 hK
theorem d1_27 : decode (mC 1) 27 = .ok (.iload 5, 2) := by decide +kernel
theorem x1_27 {sc : aSc} {d : Nat} {r : aRes} {a0 : Value} {a1 : Value} {a2 : Value} {a3 : Value} {a4 : Value} {x5 : Int32} {st : List Value} {σ : aS} : Rn sc d 1 27 [a0, a1, a2, a3, a4, .int x5] st σ r ↔ Rn sc d 1 29 [a0, a1, a2, a3, a4, .int x5] (.int x5 :: st) σ r := r_iload d1_27 rfl
theorem d1_29 : decode (mC 1) 29 = .ok (.iconst 0, 1) := by decide +kernel
theorem x1_29 {sc : aSc} {d : Nat} {r : aRes} {L : List Value} {st : List Value} {σ : aS} : Rn sc d 1 29 L st σ r ↔ Rn sc d 1 30 L (.int 0 :: st) σ r := r_iconst d1_29 (by decide)
theorem d1_30 : decode (mC 1) 30 = .ok (.invokevirtual 26, 3) := by decide +kernel
theorem x1_30 {sc : aSc} {d : Nat} {r : aRes} {L : List Value} {f : Nat → Nat → Int32} {g : Nat → Nat → Int64} {h1 h2 : Nat} {y0 : Int32} {y1 : Int32} {y2 : Int32} {y3 : Int32}  {o : Nat} (hK : KK[o]? = some (.inl 0)) : Rn sc d 1 30 L [.int y0, .int y1, .int y2, .int y3, .ref o] (cS f g h1 h2) r ↔ ∃ (σ3 : aS) (v : Option Value), Cl sc d 3 [.ref o, .int y3, .int y2, .int y1, .int y0] (cS f g h1 h2) (σ3, v) ∧ Rn sc d 1 33 L (v.toList ++ []) σ3 r := r_callV (vs := [.int y0, .int y1, .int y2, .int y3]) d1_30 (j := 3) rfl ⟨rfl, by decide, rfl, rfl⟩ (Nat.le_of_ble_eq_true rfl) hK
theorem d1_33 : decode (mC 1) 33 = .ok (.ireturn, 1) := by decide +kernel
theorem x1_33 {sc : aSc} {d : Nat} {r : aRes} {L : List Value} {σ : aS} {x : Int32} : Rn sc d 1 33 L [.int x] σ r ↔ r = (σ, some (.int x)) := r_iret d1_33 rfl rfl
theorem d2_0 : decode (mC 2) 0 = .ok (.aload_n 0, 1) := by decide +kernel
theorem x2_0 {sc : aSc} {d : Nat} {r : aRes} {x0 : Nat} {a1 : Value} {st : List Value} {σ : aS} : Rn sc d 2 0 [.ref x0, a1] st σ r ↔ Rn sc d 2 1 [.ref x0, a1] (.ref x0 :: st) σ r := r_aload_n d2_0 rfl
theorem d2_1 : decode (mC 2) 1 = .ok (.getfield 23, 3) := by decide +kernel
theorem x2_1 {sc : aSc} {d : Nat} {r : aRes} {L : List Value} {st : List Value} {f : Nat → Nat → Int32} {g : Nat → Nat → Int64} {h1 h2 : Nat} {o : Nat} (h17 : 17 ≤ o) (hK : KK[o]? = some (.inl 0)) : Rn sc d 2 1 L (.ref o :: st) (cS f g h1 h2) r ↔ Rn sc d 2 4 L (.int (f o 1) :: st) (cS f g h1 h2) r := r_getI d2_1 (ci := 0) (k := 1) rfl (by decide) (fun _ => rfl) h17 hK
theorem d2_4 : decode (mC 2) 4 = .ok (.bipush 20, 2) := by decide +kernel
theorem x2_4 {sc : aSc} {d : Nat} {r : aRes} {L : List Value} {st : List Value} {σ : aS} : Rn sc d 2 4 L st σ r ↔ Rn sc d 2 6 L (.int 20 :: st) σ r := r_bipush d2_4 (by decide)
theorem d2_6 : decode (mC 2) 6 = .ok (.if_icmp .ge 13, 3) := by decide +kernel
theorem x2_6 {sc : aSc} {d : Nat} {r : aRes} {L : List Value} {st : List Value} {σ : aS} {x y : Int32} : Rn sc d 2 6 L (.int y :: .int x :: st) σ r ↔ if x < y then Rn sc d 2 9 L st σ r else Rn sc d 2 19 L st σ r := r_icmp_ge d2_6 rfl
theorem d2_9 : decode (mC 2) 9 = .ok (.aload_n 0, 1) := by decide +kernel
theorem x2_9 {sc : aSc} {d : Nat} {r : aRes} {x0 : Nat} {a1 : Value} {st : List Value} {σ : aS} : Rn sc d 2 9 [.ref x0, a1] st σ r ↔ Rn sc d 2 10 [.ref x0, a1] (.ref x0 :: st) σ r := r_aload_n d2_9 rfl
theorem d2_10 : decode (mC 2) 10 = .ok (.getfield 9, 3) := by decide +kernel
theorem x2_10 {sc : aSc} {d : Nat} {r : aRes} {L : List Value} {st : List Value} {f : Nat → Nat → Int32} {g : Nat → Nat → Int64} {h1 h2 : Nat} {o : Nat} (hK : KK[o]? = some (.inl 0)) (hR : (RR h1 h2 o 0).isSome = true) : Rn sc d 2 10 L (.ref o :: st) (cS f g h1 h2) r ↔ Rn sc d 2 13 L (.ref (rf h1 h2 o 0) :: st) (cS f g h1 h2) r := r_getR2 d2_10 (ci := 0) (k := 0) rfl (by decide) (fun _ => rfl) hK hR
theorem d2_13 : decode (mC 2) 13 = .ok (.aload_n 0, 1) := by decide +kernel
theorem x2_13 {sc : aSc} {d : Nat} {r : aRes} {x0 : Nat} {a1 : Value} {st : List Value} {σ : aS} : Rn sc d 2 13 [.ref x0, a1] st σ r ↔ Rn sc d 2 14 [.ref x0, a1] (.ref x0 :: st) σ r := r_aload_n d2_13 rfl
theorem d2_14 : decode (mC 2) 14 = .ok (.getfield 23, 3) := by decide +kernel
theorem x2_14 {sc : aSc} {d : Nat} {r : aRes} {L : List Value} {st : List Value} {f : Nat → Nat → Int32} {g : Nat → Nat → Int64} {h1 h2 : Nat} {o : Nat} (h17 : 17 ≤ o) (hK : KK[o]? = some (.inl 0)) : Rn sc d 2 14 L (.ref o :: st) (cS f g h1 h2) r ↔ Rn sc d 2 17 L (.int (f o 1) :: st) (cS f g h1 h2) r := r_getI d2_14 (ci := 0) (k := 1) rfl (by decide) (fun _ => rfl) h17 hK
theorem d2_17 : decode (mC 2) 17 = .ok (.iload_n 1, 1) := by decide +kernel
theorem x2_17 {sc : aSc} {d : Nat} {r : aRes} {a0 : Value} {x1 : Int32} {st : List Value} {σ : aS} : Rn sc d 2 17 [a0, .int x1] st σ r ↔ Rn sc d 2 18 [a0, .int x1] (.int x1 :: st) σ r := r_iload_n d2_17 rfl
theorem d2_18 : decode (mC 2) 18 = .ok (.iastore, 1) := by decide +kernel
theorem x2_18 {sc : aSc} {d : Nat} {r : aRes} {L : List Value} {st : List Value} {f : Nat → Nat → Int32} {g : Nat → Nat → Int64} {h1 h2 : Nat} {a : Nat} {i : Int32} {x : Int32} (h17 : 17 ≤ a) (hA : isT9 .int a) (hi : inb i (aln a) = true) : Rn sc d 2 18 L (.int x :: .int i :: .ref a :: st) (cS f g h1 h2) r ↔ Rn sc d 2 19 L st (cS (u2 f a i.toNatClampNeg x) g h1 h2) r := r_iast d2_18 h17 hA hi
theorem d2_19 : decode (mC 2) 19 = .ok (.aload_n 0, 1) := by decide +kernel
theorem x2_19 {sc : aSc} {d : Nat} {r : aRes} {x0 : Nat} {a1 : Value} {st : List Value} {σ : aS} : Rn sc d 2 19 [.ref x0, a1] st σ r ↔ Rn sc d 2 20 [.ref x0, a1] (.ref x0 :: st) σ r := r_aload_n d2_19 rfl
theorem d2_20 : decode (mC 2) 20 = .ok (.dup, 1) := by decide +kernel
theorem x2_20 {sc : aSc} {d : Nat} {r : aRes} {L : List Value} {st : List Value} {σ : aS} {y : Nat} : Rn sc d 2 20 L (.ref y :: st) σ r ↔ Rn sc d 2 21 L (.ref y :: .ref y :: st) σ r := r_dup d2_20 rfl
theorem d2_21 : decode (mC 2) 21 = .ok (.getfield 23, 3) := by decide +kernel
theorem x2_21 {sc : aSc} {d : Nat} {r : aRes} {L : List Value} {st : List Value} {f : Nat → Nat → Int32} {g : Nat → Nat → Int64} {h1 h2 : Nat} {o : Nat} (h17 : 17 ≤ o) (hK : KK[o]? = some (.inl 0)) : Rn sc d 2 21 L (.ref o :: st) (cS f g h1 h2) r ↔ Rn sc d 2 24 L (.int (f o 1) :: st) (cS f g h1 h2) r := r_getI d2_21 (ci := 0) (k := 1) rfl (by decide) (fun _ => rfl) h17 hK
theorem d2_24 : decode (mC 2) 24 = .ok (.iconst 1, 1) := by decide +kernel
theorem x2_24 {sc : aSc} {d : Nat} {r : aRes} {L : List Value} {st : List Value} {σ : aS} : Rn sc d 2 24 L st σ r ↔ Rn sc d 2 25 L (.int 1 :: st) σ r := r_iconst d2_24 (by decide)
theorem d2_25 : decode (mC 2) 25 = .ok (.iadd, 1) := by decide +kernel
theorem x2_25 {sc : aSc} {d : Nat} {r : aRes} {L : List Value} {st : List Value} {σ : aS} {x y : Int32} : Rn sc d 2 25 L (.int y :: .int x :: st) σ r ↔ Rn sc d 2 26 L (.int (x + y) :: st) σ r := r_iadd d2_25
theorem d2_26 : decode (mC 2) 26 = .ok (.putfield 23, 3) := by decide +kernel
theorem x2_26 {sc : aSc} {d : Nat} {r : aRes} {L : List Value} {st : List Value} {f : Nat → Nat → Int32} {g : Nat → Nat → Int64} {h1 h2 : Nat} {o : Nat} {v : Int32} (h17 : 17 ≤ o) (hK : KK[o]? = some (.inl 0)) : Rn sc d 2 26 L (.int v :: .ref o :: st) (cS f g h1 h2) r ↔ Rn sc d 2 29 L st (cS (u2 f o 1 v) g h1 h2) r := r_putI d2_26 (ci := 0) (k := 1) rfl (by decide) h17 hK
theorem d2_29 : decode (mC 2) 29 = .ok (.return_, 1) := by decide +kernel
theorem x2_29 {sc : aSc} {d : Nat} {r : aRes} {L : List Value} {σ : aS} : Rn sc d 2 29 L [] σ r ↔ r = (σ, none) := r_vret d2_29 rfl
theorem d3_0 : decode (mC 3) 0 = .ok (.iload_n 2, 1) := by decide +kernel
theorem x3_0 {sc : aSc} {d : Nat} {r : aRes} {a0 : Value} {a1 : Value} {x2 : Int32} {a3 : Value} {a4 : Value} {a5 : Value} {a6 : Value} {st : List Value} {σ : aS} : Rn sc d 3 0 [a0, a1, .int x2, a3, a4, a5, a6] st σ r ↔ Rn sc d 3 1 [a0, a1, .int x2, a3, a4, a5, a6] (.int x2 :: st) σ r := r_iload_n d3_0 rfl
theorem d3_1 : decode (mC 3) 1 = .ok (.istore 5, 2) := by decide +kernel
theorem x3_1 {sc : aSc} {d : Nat} {r : aRes} {a0 : Value} {a1 : Value} {a2 : Value} {a3 : Value} {x4 : Int32} {a5 : Value} {a6 : Value} {st : List Value} {σ : aS} {y : Int32} : Rn sc d 3 1 [a0, a1, a2, a3, .int x4, a5, a6] (.int y :: st) σ r ↔ Rn sc d 3 3 [a0, a1, a2, a3, .int x4, .int y, a6] st σ r := r_istore d3_1 (Nat.le_of_ble_eq_true rfl) rfl
theorem d3_3 : decode (mC 3) 3 = .ok (.iconst 0, 1) := by decide +kernel
theorem x3_3 {sc : aSc} {d : Nat} {r : aRes} {L : List Value} {st : List Value} {σ : aS} : Rn sc d 3 3 L st σ r ↔ Rn sc d 3 4 L (.int 0 :: st) σ r := r_iconst d3_3 (by decide)
theorem d3_4 : decode (mC 3) 4 = .ok (.istore 6, 2) := by decide +kernel
theorem x3_4 {sc : aSc} {d : Nat} {r : aRes} {a0 : Value} {a1 : Value} {a2 : Value} {a3 : Value} {a4 : Value} {x5 : Int32} {a6 : Value} {st : List Value} {σ : aS} {y : Int32} : Rn sc d 3 4 [a0, a1, a2, a3, a4, .int x5, a6] (.int y :: st) σ r ↔ Rn sc d 3 6 [a0, a1, a2, a3, a4, .int x5, .int y] st σ r := r_istore d3_4 (Nat.le_of_ble_eq_true rfl) rfl
theorem d3_6 : decode (mC 3) 6 = .ok (.iload 6, 2) := by decide +kernel
theorem x3_6 {sc : aSc} {d : Nat} {r : aRes} {a0 : Value} {a1 : Value} {a2 : Value} {a3 : Value} {a4 : Value} {a5 : Value} {x6 : Int32} {st : List Value} {σ : aS} : Rn sc d 3 6 [a0, a1, a2, a3, a4, a5, .int x6] st σ r ↔ Rn sc d 3 8 [a0, a1, a2, a3, a4, a5, .int x6] (.int x6 :: st) σ r := r_iload d3_6 rfl
theorem d3_8 : decode (mC 3) 8 = .ok (.bipush 7, 2) := by decide +kernel
theorem x3_8 {sc : aSc} {d : Nat} {r : aRes} {L : List Value} {st : List Value} {σ : aS} : Rn sc d 3 8 L st σ r ↔ Rn sc d 3 10 L (.int 7 :: st) σ r := r_bipush d3_8 (by decide)
theorem d3_10 : decode (mC 3) 10 = .ok (.if_icmp .ge 36, 3) := by decide +kernel
theorem x3_10 {sc : aSc} {d : Nat} {r : aRes} {L : List Value} {st : List Value} {σ : aS} {x y : Int32} : Rn sc d 3 10 L (.int y :: .int x :: st) σ r ↔ if x < y then Rn sc d 3 13 L st σ r else Rn sc d 3 46 L st σ r := r_icmp_ge d3_10 rfl
theorem d3_13 : decode (mC 3) 13 = .ok (.iload 5, 2) := by decide +kernel
theorem x3_13 {sc : aSc} {d : Nat} {r : aRes} {a0 : Value} {a1 : Value} {a2 : Value} {a3 : Value} {a4 : Value} {x5 : Int32} {a6 : Value} {st : List Value} {σ : aS} : Rn sc d 3 13 [a0, a1, a2, a3, a4, .int x5, a6] st σ r ↔ Rn sc d 3 15 [a0, a1, a2, a3, a4, .int x5, a6] (.int x5 :: st) σ r := r_iload d3_13 rfl
theorem d3_15 : decode (mC 3) 15 = .ok (.ifCond .le 31, 3) := by decide +kernel
theorem x3_15 {sc : aSc} {d : Nat} {r : aRes} {L : List Value} {st : List Value} {σ : aS} {x : Int32} : Rn sc d 3 15 L (.int x :: st) σ r ↔ if 0 < x then Rn sc d 3 18 L st σ r else Rn sc d 3 46 L st σ r := r_if_le d3_15 rfl
theorem d3_18 : decode (mC 3) 18 = .ok (.getstatic 30, 3) := by decide +kernel
theorem x3_18 {sc : aSc} {d : Nat} {r : aRes} {L : List Value} {st : List Value} {σ : aS} : Rn sc d 3 18 L st σ r ↔ Rn sc d 3 21 L (.ref 4 :: st) σ r := r_getstatic d3_18 (k := 3) rfl
theorem d3_21 : decode (mC 3) 21 = .ok (.iload_n 1, 1) := by decide +kernel
theorem x3_21 {sc : aSc} {d : Nat} {r : aRes} {a0 : Value} {x1 : Int32} {a2 : Value} {a3 : Value} {a4 : Value} {a5 : Value} {a6 : Value} {st : List Value} {σ : aS} : Rn sc d 3 21 [a0, .int x1, a2, a3, a4, a5, a6] st σ r ↔ Rn sc d 3 22 [a0, .int x1, a2, a3, a4, a5, a6] (.int x1 :: st) σ r := r_iload_n d3_21 rfl
theorem d3_22 : decode (mC 3) 22 = .ok (.bipush 7, 2) := by decide +kernel
theorem x3_22 {sc : aSc} {d : Nat} {r : aRes} {L : List Value} {st : List Value} {σ : aS} : Rn sc d 3 22 L st σ r ↔ Rn sc d 3 24 L (.int 7 :: st) σ r := r_bipush d3_22 (by decide)
theorem d3_24 : decode (mC 3) 24 = .ok (.imul, 1) := by decide +kernel
theorem x3_24 {sc : aSc} {d : Nat} {r : aRes} {L : List Value} {st : List Value} {σ : aS} {x y : Int32} : Rn sc d 3 24 L (.int y :: .int x :: st) σ r ↔ Rn sc d 3 25 L (.int (x * y) :: st) σ r := r_imul d3_24
theorem d3_25 : decode (mC 3) 25 = .ok (.iload 5, 2) := by decide +kernel
theorem x3_25 {sc : aSc} {d : Nat} {r : aRes} {a0 : Value} {a1 : Value} {a2 : Value} {a3 : Value} {a4 : Value} {x5 : Int32} {a6 : Value} {st : List Value} {σ : aS} : Rn sc d 3 25 [a0, a1, a2, a3, a4, .int x5, a6] st σ r ↔ Rn sc d 3 27 [a0, a1, a2, a3, a4, .int x5, a6] (.int x5 :: st) σ r := r_iload d3_25 rfl
theorem d3_27 : decode (mC 3) 27 = .ok (.iadd, 1) := by decide +kernel
theorem x3_27 {sc : aSc} {d : Nat} {r : aRes} {L : List Value} {st : List Value} {σ : aS} {x y : Int32} : Rn sc d 3 27 L (.int y :: .int x :: st) σ r ↔ Rn sc d 3 28 L (.int (x + y) :: st) σ r := r_iadd d3_27
theorem d3_28 : decode (mC 3) 28 = .ok (.iaload, 1) := by decide +kernel
theorem x3_28 {sc : aSc} {d : Nat} {r : aRes} {L : List Value} {st : List Value} {f : Nat → Nat → Int32} {g : Nat → Nat → Int64} {h1 h2 : Nat} {a : Nat} {i : Int32} (h17 : 17 ≤ a) (hA : isT9 .int a) (hi : inb i (aln a) = true) : Rn sc d 3 28 L (.int i :: .ref a :: st) (cS f g h1 h2) r ↔ Rn sc d 3 29 L (.int (f a i.toNatClampNeg) :: st) (cS f g h1 h2) r := r_iald d3_28 h17 hA hi
theorem x3_28s {sc : aSc} {d : Nat} {r : aRes} {L : List Value} {st : List Value} {f : Nat → Nat → Int32} {g : Nat → Nat → Int64} {h1 h2 : Nat} {a : Nat} {i : Int32} (h0 : ¬ a = 0) (h17 : a < 17) (hA : isT9 .int a) (hi : inb i (aln a) = true) : Rn sc d 3 28 L (.int i :: .ref a :: st) (cS f g h1 h2) r ↔ Rn sc d 3 29 L (.int (fI a i.toNatClampNeg) :: st) (cS f g h1 h2) r := r_iald0 d3_28 h0 h17 hA hi
theorem d3_29 : decode (mC 3) 29 = .ok (.ifCond .ne 17, 3) := by decide +kernel
theorem x3_29 {sc : aSc} {d : Nat} {r : aRes} {L : List Value} {st : List Value} {σ : aS} {x : Int32} : Rn sc d 3 29 L (.int x :: st) σ r ↔ if x = 0 then Rn sc d 3 32 L st σ r else Rn sc d 3 46 L st σ r := r_if_ne d3_29 rfl
theorem d3_32 : decode (mC 3) 32 = .ok (.getstatic 33, 3) := by decide +kernel
theorem x3_32 {sc : aSc} {d : Nat} {r : aRes} {L : List Value} {st : List Value} {σ : aS} : Rn sc d 3 32 L st σ r ↔ Rn sc d 3 35 L (.ref 1 :: st) σ r := r_getstaticN d3_32 rfl (k := 0) rfl
theorem d3_35 : decode (mC 3) 35 = .ok (.iload 5, 2) := by decide +kernel
theorem x3_35 {sc : aSc} {d : Nat} {r : aRes} {a0 : Value} {a1 : Value} {a2 : Value} {a3 : Value} {a4 : Value} {x5 : Int32} {a6 : Value} {st : List Value} {σ : aS} : Rn sc d 3 35 [a0, a1, a2, a3, a4, .int x5, a6] st σ r ↔ Rn sc d 3 37 [a0, a1, a2, a3, a4, .int x5, a6] (.int x5 :: st) σ r := r_iload d3_35 rfl
theorem d3_37 : decode (mC 3) 37 = .ok (.iaload, 1) := by decide +kernel
theorem x3_37 {sc : aSc} {d : Nat} {r : aRes} {L : List Value} {st : List Value} {f : Nat → Nat → Int32} {g : Nat → Nat → Int64} {h1 h2 : Nat} {a : Nat} {i : Int32} (h17 : 17 ≤ a) (hA : isT9 .int a) (hi : inb i (aln a) = true) : Rn sc d 3 37 L (.int i :: .ref a :: st) (cS f g h1 h2) r ↔ Rn sc d 3 38 L (.int (f a i.toNatClampNeg) :: st) (cS f g h1 h2) r := r_iald d3_37 h17 hA hi
theorem x3_37s {sc : aSc} {d : Nat} {r : aRes} {L : List Value} {st : List Value} {f : Nat → Nat → Int32} {g : Nat → Nat → Int64} {h1 h2 : Nat} {a : Nat} {i : Int32} (h0 : ¬ a = 0) (h17 : a < 17) (hA : isT9 .int a) (hi : inb i (aln a) = true) : Rn sc d 3 37 L (.int i :: .ref a :: st) (cS f g h1 h2) r ↔ Rn sc d 3 38 L (.int (fI a i.toNatClampNeg) :: st) (cS f g h1 h2) r := r_iald0 d3_37 h0 h17 hA hi
theorem d3_38 : decode (mC 3) 38 = .ok (.istore 5, 2) := by decide +kernel
theorem x3_38 {sc : aSc} {d : Nat} {r : aRes} {a0 : Value} {a1 : Value} {a2 : Value} {a3 : Value} {x4 : Int32} {a5 : Value} {a6 : Value} {st : List Value} {σ : aS} {y : Int32} : Rn sc d 3 38 [a0, a1, a2, a3, .int x4, a5, a6] (.int y :: st) σ r ↔ Rn sc d 3 40 [a0, a1, a2, a3, .int x4, .int y, a6] st σ r := r_istore d3_38 (Nat.le_of_ble_eq_true rfl) rfl
theorem d3_40 : decode (mC 3) 40 = .ok (.iinc 6 1, 3) := by decide +kernel
theorem x3_40 {sc : aSc} {d : Nat} {r : aRes} {a0 : Value} {a1 : Value} {a2 : Value} {a3 : Value} {a4 : Value} {x5 : Int32} {x6 : Int32} {st : List Value} {σ : aS} : Rn sc d 3 40 [a0, a1, a2, a3, a4, .int x5, .int x6] st σ r ↔ Rn sc d 3 43 [a0, a1, a2, a3, a4, .int x5, .int (x6 + 1)] st σ r := r_iinc d3_40 (Nat.le_of_ble_eq_true rfl) rfl rfl (by decide)
theorem d3_43 : decode (mC 3) 43 = .ok (.goto (-37), 3) := by decide +kernel
theorem x3_43 {sc : aSc} {d : Nat} {r : aRes} {L : List Value} {st : List Value} {σ : aS} : Rn sc d 3 43 L st σ r ↔ Rn sc d 3 6 L st σ r := r_goto d3_43 rfl
theorem d3_46 : decode (mC 3) 46 = .ok (.iload 5, 2) := by decide +kernel
theorem x3_46 {sc : aSc} {d : Nat} {r : aRes} {a0 : Value} {a1 : Value} {a2 : Value} {a3 : Value} {a4 : Value} {x5 : Int32} {a6 : Value} {st : List Value} {σ : aS} : Rn sc d 3 46 [a0, a1, a2, a3, a4, .int x5, a6] st σ r ↔ Rn sc d 3 48 [a0, a1, a2, a3, a4, .int x5, a6] (.int x5 :: st) σ r := r_iload d3_46 rfl
theorem d3_48 : decode (mC 3) 48 = .ok (.ifCond .lt 10, 3) := by decide +kernel
theorem x3_48 {sc : aSc} {d : Nat} {r : aRes} {L : List Value} {st : List Value} {σ : aS} {x : Int32} : Rn sc d 3 48 L (.int x :: st) σ r ↔ if x < 0 then Rn sc d 3 58 L st σ r else Rn sc d 3 51 L st σ r := r_if_lt d3_48 rfl
theorem d3_51 : decode (mC 3) 51 = .ok (.iload 4, 2) := by decide +kernel
theorem x3_51 {sc : aSc} {d : Nat} {r : aRes} {a0 : Value} {a1 : Value} {a2 : Value} {a3 : Value} {x4 : Int32} {a5 : Value} {a6 : Value} {st : List Value} {σ : aS} : Rn sc d 3 51 [a0, a1, a2, a3, .int x4, a5, a6] st σ r ↔ Rn sc d 3 53 [a0, a1, a2, a3, .int x4, a5, a6] (.int x4 :: st) σ r := r_iload d3_51 rfl
theorem d3_53 : decode (mC 3) 53 = .ok (.bipush 12, 2) := by decide +kernel
theorem x3_53 {sc : aSc} {d : Nat} {r : aRes} {L : List Value} {st : List Value} {σ : aS} : Rn sc d 3 53 L st σ r ↔ Rn sc d 3 55 L (.int 12 :: st) σ r := r_bipush d3_53 (by decide)
theorem d3_55 : decode (mC 3) 55 = .ok (.if_icmp .lt 5, 3) := by decide +kernel
theorem x3_55 {sc : aSc} {d : Nat} {r : aRes} {L : List Value} {st : List Value} {σ : aS} {x y : Int32} : Rn sc d 3 55 L (.int y :: .int x :: st) σ r ↔ if x < y then Rn sc d 3 60 L st σ r else Rn sc d 3 58 L st σ r := r_icmp_lt d3_55 rfl
theorem d3_58 : decode (mC 3) 58 = .ok (.iconst 0, 1) := by decide +kernel
theorem x3_58 {sc : aSc} {d : Nat} {r : aRes} {L : List Value} {st : List Value} {σ : aS} : Rn sc d 3 58 L st σ r ↔ Rn sc d 3 59 L (.int 0 :: st) σ r := r_iconst d3_58 (by decide)
theorem d3_59 : decode (mC 3) 59 = .ok (.ireturn, 1) := by decide +kernel
theorem x3_59 {sc : aSc} {d : Nat} {r : aRes} {L : List Value} {σ : aS} {x : Int32} : Rn sc d 3 59 L [.int x] σ r ↔ r = (σ, some (.int x)) := r_iret d3_59 rfl rfl
theorem d3_60 : decode (mC 3) 60 = .ok (.getstatic 30, 3) := by decide +kernel
theorem x3_60 {sc : aSc} {d : Nat} {r : aRes} {L : List Value} {st : List Value} {σ : aS} : Rn sc d 3 60 L st σ r ↔ Rn sc d 3 63 L (.ref 4 :: st) σ r := r_getstatic d3_60 (k := 3) rfl
theorem d3_63 : decode (mC 3) 63 = .ok (.iload_n 1, 1) := by decide +kernel
theorem x3_63 {sc : aSc} {d : Nat} {r : aRes} {a0 : Value} {x1 : Int32} {a2 : Value} {a3 : Value} {a4 : Value} {a5 : Value} {a6 : Value} {st : List Value} {σ : aS} : Rn sc d 3 63 [a0, .int x1, a2, a3, a4, a5, a6] st σ r ↔ Rn sc d 3 64 [a0, .int x1, a2, a3, a4, a5, a6] (.int x1 :: st) σ r := r_iload_n d3_63 rfl
theorem d3_64 : decode (mC 3) 64 = .ok (.bipush 7, 2) := by decide +kernel
theorem x3_64 {sc : aSc} {d : Nat} {r : aRes} {L : List Value} {st : List Value} {σ : aS} : Rn sc d 3 64 L st σ r ↔ Rn sc d 3 66 L (.int 7 :: st) σ r := r_bipush d3_64 (by decide)
theorem d3_66 : decode (mC 3) 66 = .ok (.imul, 1) := by decide +kernel
theorem x3_66 {sc : aSc} {d : Nat} {r : aRes} {L : List Value} {st : List Value} {σ : aS} {x y : Int32} : Rn sc d 3 66 L (.int y :: .int x :: st) σ r ↔ Rn sc d 3 67 L (.int (x * y) :: st) σ r := r_imul d3_66
theorem d3_67 : decode (mC 3) 67 = .ok (.iload 5, 2) := by decide +kernel
theorem x3_67 {sc : aSc} {d : Nat} {r : aRes} {a0 : Value} {a1 : Value} {a2 : Value} {a3 : Value} {a4 : Value} {x5 : Int32} {a6 : Value} {st : List Value} {σ : aS} : Rn sc d 3 67 [a0, a1, a2, a3, a4, .int x5, a6] st σ r ↔ Rn sc d 3 69 [a0, a1, a2, a3, a4, .int x5, a6] (.int x5 :: st) σ r := r_iload d3_67 rfl
theorem d3_69 : decode (mC 3) 69 = .ok (.iadd, 1) := by decide +kernel
theorem x3_69 {sc : aSc} {d : Nat} {r : aRes} {L : List Value} {st : List Value} {σ : aS} {x y : Int32} : Rn sc d 3 69 L (.int y :: .int x :: st) σ r ↔ Rn sc d 3 70 L (.int (x + y) :: st) σ r := r_iadd d3_69
theorem d3_70 : decode (mC 3) 70 = .ok (.iaload, 1) := by decide +kernel
theorem x3_70 {sc : aSc} {d : Nat} {r : aRes} {L : List Value} {st : List Value} {f : Nat → Nat → Int32} {g : Nat → Nat → Int64} {h1 h2 : Nat} {a : Nat} {i : Int32} (h17 : 17 ≤ a) (hA : isT9 .int a) (hi : inb i (aln a) = true) : Rn sc d 3 70 L (.int i :: .ref a :: st) (cS f g h1 h2) r ↔ Rn sc d 3 71 L (.int (f a i.toNatClampNeg) :: st) (cS f g h1 h2) r := r_iald d3_70 h17 hA hi
theorem x3_70s {sc : aSc} {d : Nat} {r : aRes} {L : List Value} {st : List Value} {f : Nat → Nat → Int32} {g : Nat → Nat → Int64} {h1 h2 : Nat} {a : Nat} {i : Int32} (h0 : ¬ a = 0) (h17 : a < 17) (hA : isT9 .int a) (hi : inb i (aln a) = true) : Rn sc d 3 70 L (.int i :: .ref a :: st) (cS f g h1 h2) r ↔ Rn sc d 3 71 L (.int (fI a i.toNatClampNeg) :: st) (cS f g h1 h2) r := r_iald0 d3_70 h0 h17 hA hi
theorem d3_71 : decode (mC 3) 71 = .ok (.istore 6, 2) := by decide +kernel
theorem x3_71 {sc : aSc} {d : Nat} {r : aRes} {a0 : Value} {a1 : Value} {a2 : Value} {a3 : Value} {a4 : Value} {x5 : Int32} {a6 : Value} {st : List Value} {σ : aS} {y : Int32} : Rn sc d 3 71 [a0, a1, a2, a3, a4, .int x5, a6] (.int y :: st) σ r ↔ Rn sc d 3 73 [a0, a1, a2, a3, a4, .int x5, .int y] st σ r := r_istore d3_71 (Nat.le_of_ble_eq_true rfl) rfl
theorem d3_73 : decode (mC 3) 73 = .ok (.aload_n 0, 1) := by decide +kernel
theorem x3_73 {sc : aSc} {d : Nat} {r : aRes} {x0 : Nat} {a1 : Value} {a2 : Value} {a3 : Value} {a4 : Value} {a5 : Value} {a6 : Value} {st : List Value} {σ : aS} : Rn sc d 3 73 [.ref x0, a1, a2, a3, a4, a5, a6] st σ r ↔ Rn sc d 3 74 [.ref x0, a1, a2, a3, a4, a5, a6] (.ref x0 :: st) σ r := r_aload_n d3_73 rfl
theorem d3_74 : decode (mC 3) 74 = .ok (.iload 6, 2) := by decide +kernel
theorem x3_74 {sc : aSc} {d : Nat} {r : aRes} {a0 : Value} {a1 : Value} {a2 : Value} {a3 : Value} {a4 : Value} {a5 : Value} {x6 : Int32} {st : List Value} {σ : aS} : Rn sc d 3 74 [a0, a1, a2, a3, a4, a5, .int x6] st σ r ↔ Rn sc d 3 76 [a0, a1, a2, a3, a4, a5, .int x6] (.int x6 :: st) σ r := r_iload d3_74 rfl
theorem d3_76 : decode (mC 3) 76 = .ok (.invokevirtual 38, 3) := by decide +kernel
theorem x3_76 {sc : aSc} {d : Nat} {r : aRes} {L : List Value} {f : Nat → Nat → Int32} {g : Nat → Nat → Int64} {h1 h2 : Nat} {y0 : Int32}  {o : Nat} (hK : KK[o]? = some (.inl 0)) : Rn sc d 3 76 L [.int y0, .ref o] (cS f g h1 h2) r ↔ ∃ (σ3 : aS) (v : Option Value), Cl sc d 2 [.ref o, .int y0] (cS f g h1 h2) (σ3, v) ∧ Rn sc d 3 79 L (v.toList ++ []) σ3 r := r_callV (vs := [.int y0]) d3_76 (j := 2) rfl ⟨rfl, by decide, rfl, rfl⟩ (Nat.le_of_ble_eq_true rfl) hK
theorem d3_79 : decode (mC 3) 79 = .ok (.aload_n 0, 1) := by decide +kernel
theorem x3_79 {sc : aSc} {d : Nat} {r : aRes} {x0 : Nat} {a1 : Value} {a2 : Value} {a3 : Value} {a4 : Value} {a5 : Value} {a6 : Value} {st : List Value} {σ : aS} : Rn sc d 3 79 [.ref x0, a1, a2, a3, a4, a5, a6] st σ r ↔ Rn sc d 3 80 [.ref x0, a1, a2, a3, a4, a5, a6] (.ref x0 :: st) σ r := r_aload_n d3_79 rfl
theorem d3_80 : decode (mC 3) 80 = .ok (.iload 6, 2) := by decide +kernel
theorem x3_80 {sc : aSc} {d : Nat} {r : aRes} {a0 : Value} {a1 : Value} {a2 : Value} {a3 : Value} {a4 : Value} {a5 : Value} {x6 : Int32} {st : List Value} {σ : aS} : Rn sc d 3 80 [a0, a1, a2, a3, a4, a5, .int x6] st σ r ↔ Rn sc d 3 82 [a0, a1, a2, a3, a4, a5, .int x6] (.int x6 :: st) σ r := r_iload d3_80 rfl
theorem d3_82 : decode (mC 3) 82 = .ok (.getstatic 33, 3) := by decide +kernel
theorem x3_82 {sc : aSc} {d : Nat} {r : aRes} {L : List Value} {st : List Value} {σ : aS} : Rn sc d 3 82 L st σ r ↔ Rn sc d 3 85 L (.ref 1 :: st) σ r := r_getstaticN d3_82 rfl (k := 0) rfl
theorem d3_85 : decode (mC 3) 85 = .ok (.iload 5, 2) := by decide +kernel
theorem x3_85 {sc : aSc} {d : Nat} {r : aRes} {a0 : Value} {a1 : Value} {a2 : Value} {a3 : Value} {a4 : Value} {x5 : Int32} {a6 : Value} {st : List Value} {σ : aS} : Rn sc d 3 85 [a0, a1, a2, a3, a4, .int x5, a6] st σ r ↔ Rn sc d 3 87 [a0, a1, a2, a3, a4, .int x5, a6] (.int x5 :: st) σ r := r_iload d3_85 rfl
theorem d3_87 : decode (mC 3) 87 = .ok (.iaload, 1) := by decide +kernel
theorem x3_87 {sc : aSc} {d : Nat} {r : aRes} {L : List Value} {st : List Value} {f : Nat → Nat → Int32} {g : Nat → Nat → Int64} {h1 h2 : Nat} {a : Nat} {i : Int32} (h17 : 17 ≤ a) (hA : isT9 .int a) (hi : inb i (aln a) = true) : Rn sc d 3 87 L (.int i :: .ref a :: st) (cS f g h1 h2) r ↔ Rn sc d 3 88 L (.int (f a i.toNatClampNeg) :: st) (cS f g h1 h2) r := r_iald d3_87 h17 hA hi
theorem x3_87s {sc : aSc} {d : Nat} {r : aRes} {L : List Value} {st : List Value} {f : Nat → Nat → Int32} {g : Nat → Nat → Int64} {h1 h2 : Nat} {a : Nat} {i : Int32} (h0 : ¬ a = 0) (h17 : a < 17) (hA : isT9 .int a) (hi : inb i (aln a) = true) : Rn sc d 3 87 L (.int i :: .ref a :: st) (cS f g h1 h2) r ↔ Rn sc d 3 88 L (.int (fI a i.toNatClampNeg) :: st) (cS f g h1 h2) r := r_iald0 d3_87 h0 h17 hA hi
theorem d3_88 : decode (mC 3) 88 = .ok (.iload_n 3, 1) := by decide +kernel
theorem x3_88 {sc : aSc} {d : Nat} {r : aRes} {a0 : Value} {a1 : Value} {a2 : Value} {x3 : Int32} {a4 : Value} {a5 : Value} {a6 : Value} {st : List Value} {σ : aS} : Rn sc d 3 88 [a0, a1, a2, .int x3, a4, a5, a6] st σ r ↔ Rn sc d 3 89 [a0, a1, a2, .int x3, a4, a5, a6] (.int x3 :: st) σ r := r_iload_n d3_88 rfl
theorem d3_89 : decode (mC 3) 89 = .ok (.iload 4, 2) := by decide +kernel
theorem x3_89 {sc : aSc} {d : Nat} {r : aRes} {a0 : Value} {a1 : Value} {a2 : Value} {a3 : Value} {x4 : Int32} {a5 : Value} {a6 : Value} {st : List Value} {σ : aS} : Rn sc d 3 89 [a0, a1, a2, a3, .int x4, a5, a6] st σ r ↔ Rn sc d 3 91 [a0, a1, a2, a3, .int x4, a5, a6] (.int x4 :: st) σ r := r_iload d3_89 rfl
theorem d3_91 : decode (mC 3) 91 = .ok (.iconst 1, 1) := by decide +kernel
theorem x3_91 {sc : aSc} {d : Nat} {r : aRes} {L : List Value} {st : List Value} {σ : aS} : Rn sc d 3 91 L st σ r ↔ Rn sc d 3 92 L (.int 1 :: st) σ r := r_iconst d3_91 (by decide)
theorem d3_92 : decode (mC 3) 92 = .ok (.iadd, 1) := by decide +kernel
theorem x3_92 {sc : aSc} {d : Nat} {r : aRes} {L : List Value} {st : List Value} {σ : aS} {x y : Int32} : Rn sc d 3 92 L (.int y :: .int x :: st) σ r ↔ Rn sc d 3 93 L (.int (x + y) :: st) σ r := r_iadd d3_92
theorem d3_93 : decode (mC 3) 93 = .ok (.invokevirtual 42, 3) := by decide +kernel
theorem x3_93 {sc : aSc} {d : Nat} {r : aRes} {L : List Value} {f : Nat → Nat → Int32} {g : Nat → Nat → Int64} {h1 h2 : Nat} {y0 : Int32} {y1 : Int32} {y2 : Int32} {y3 : Int32}  {o : Nat} (hK : KK[o]? = some (.inl 0)) : Rn sc d 3 93 L [.int y0, .int y1, .int y2, .int y3, .ref o] (cS f g h1 h2) r ↔ ∃ (σ3 : aS) (v : Option Value), Cl sc d 4 [.ref o, .int y3, .int y2, .int y1, .int y0] (cS f g h1 h2) (σ3, v) ∧ Rn sc d 3 96 L (v.toList ++ []) σ3 r := r_callV (vs := [.int y0, .int y1, .int y2, .int y3]) d3_93 (j := 4) rfl ⟨rfl, by decide, rfl, rfl⟩ (Nat.le_of_ble_eq_true rfl) hK
theorem d3_96 : decode (mC 3) 96 = .ok (.ireturn, 1) := by decide +kernel
theorem x3_96 {sc : aSc} {d : Nat} {r : aRes} {L : List Value} {σ : aS} {x : Int32} : Rn sc d 3 96 L [.int x] σ r ↔ r = (σ, some (.int x)) := r_iret d3_96 rfl rfl
theorem d4_0 : decode (mC 4) 0 = .ok (.iload_n 1, 1) := by decide +kernel
theorem x4_0 {sc : aSc} {d : Nat} {r : aRes} {a0 : Value} {x1 : Int32} {a2 : Value} {a3 : Value} {a4 : Value} {st : List Value} {σ : aS} : Rn sc d 4 0 [a0, .int x1, a2, a3, a4] st σ r ↔ Rn sc d 4 1 [a0, .int x1, a2, a3, a4] (.int x1 :: st) σ r := r_iload_n d4_0 rfl
theorem d4_1 : decode (mC 4) 1 = .ok (.lookupswitch 260 #[(10, 99), (11, 106), (12, 124), (20, 139), (30, 152), (40, 164), (50, 187), (51, 198), (60, 210), (70, 225), (71, 245)], 99) := by decide +kernel
theorem x4_1 {sc : aSc} {d : Nat} {r : aRes} {L : List Value} {st : List Value} {σ : aS} {x : Int32} : Rn sc d 4 1 L (.int x :: st) σ r ↔ (if x = 10 then Rn sc d 4 100 L st σ r else (if x = 11 then Rn sc d 4 107 L st σ r else (if x = 12 then Rn sc d 4 125 L st σ r else (if x = 20 then Rn sc d 4 140 L st σ r else (if x = 30 then Rn sc d 4 153 L st σ r else (if x = 40 then Rn sc d 4 165 L st σ r else (if x = 50 then Rn sc d 4 188 L st σ r else (if x = 51 then Rn sc d 4 199 L st σ r else (if x = 60 then Rn sc d 4 211 L st σ r else (if x = 70 then Rn sc d 4 226 L st σ r else (if x = 71 then Rn sc d 4 246 L st σ r else Rn sc d 4 261 L st σ r))))))))))) := by
  by_cases c0 : x = 10
  · subst c0; simp only [if_pos]; exact r_lsw d4_1 (t := 100) rfl
  rw [if_neg c0]
  by_cases c1 : x = 11
  · subst c1; simp only [if_pos]; exact r_lsw d4_1 (t := 107) rfl
  rw [if_neg c1]
  by_cases c2 : x = 12
  · subst c2; simp only [if_pos]; exact r_lsw d4_1 (t := 125) rfl
  rw [if_neg c2]
  by_cases c3 : x = 20
  · subst c3; simp only [if_pos]; exact r_lsw d4_1 (t := 140) rfl
  rw [if_neg c3]
  by_cases c4 : x = 30
  · subst c4; simp only [if_pos]; exact r_lsw d4_1 (t := 153) rfl
  rw [if_neg c4]
  by_cases c5 : x = 40
  · subst c5; simp only [if_pos]; exact r_lsw d4_1 (t := 165) rfl
  rw [if_neg c5]
  by_cases c6 : x = 50
  · subst c6; simp only [if_pos]; exact r_lsw d4_1 (t := 188) rfl
  rw [if_neg c6]
  by_cases c7 : x = 51
  · subst c7; simp only [if_pos]; exact r_lsw d4_1 (t := 199) rfl
  rw [if_neg c7]
  by_cases c8 : x = 60
  · subst c8; simp only [if_pos]; exact r_lsw d4_1 (t := 211) rfl
  rw [if_neg c8]
  by_cases c9 : x = 70
  · subst c9; simp only [if_pos]; exact r_lsw d4_1 (t := 226) rfl
  rw [if_neg c9]
  by_cases c10 : x = 71
  · subst c10; simp only [if_pos]; exact r_lsw d4_1 (t := 246) rfl
  rw [if_neg c10]
  refine r_lsw d4_1 (t := 261) ?_
  have e0 : x.toInt ≠ 10 := fun z => c0 (Int32.toInt_inj.mp z)
  have e1 : x.toInt ≠ 11 := fun z => c1 (Int32.toInt_inj.mp z)
  have e2 : x.toInt ≠ 12 := fun z => c2 (Int32.toInt_inj.mp z)
  have e3 : x.toInt ≠ 20 := fun z => c3 (Int32.toInt_inj.mp z)
  have e4 : x.toInt ≠ 30 := fun z => c4 (Int32.toInt_inj.mp z)
  have e5 : x.toInt ≠ 40 := fun z => c5 (Int32.toInt_inj.mp z)
  have e6 : x.toInt ≠ 50 := fun z => c6 (Int32.toInt_inj.mp z)
  have e7 : x.toInt ≠ 51 := fun z => c7 (Int32.toInt_inj.mp z)
  have e8 : x.toInt ≠ 60 := fun z => c8 (Int32.toInt_inj.mp z)
  have e9 : x.toInt ≠ 70 := fun z => c9 (Int32.toInt_inj.mp z)
  have e10 : x.toInt ≠ 71 := fun z => c10 (Int32.toInt_inj.mp z)
  simp [lwt, Op.lookupswitch.offset, jt, e0, Ne.symm e0, e1, Ne.symm e1, e2, Ne.symm e2, e3, Ne.symm e3, e4, Ne.symm e4, e5, Ne.symm e5, e6, Ne.symm e6, e7, Ne.symm e7, e8, Ne.symm e8, e9, Ne.symm e9, e10, Ne.symm e10]
theorem d4_100 : decode (mC 4) 100 = .ok (.iload_n 3, 1) := by decide +kernel
theorem x4_100 {sc : aSc} {d : Nat} {r : aRes} {a0 : Value} {a1 : Value} {a2 : Value} {x3 : Int32} {a4 : Value} {st : List Value} {σ : aS} : Rn sc d 4 100 [a0, a1, a2, .int x3, a4] st σ r ↔ Rn sc d 4 101 [a0, a1, a2, .int x3, a4] (.int x3 :: st) σ r := r_iload_n d4_100 rfl
theorem d4_101 : decode (mC 4) 101 = .ok (.aload_n 0, 1) := by decide +kernel
theorem x4_101 {sc : aSc} {d : Nat} {r : aRes} {x0 : Nat} {a1 : Value} {a2 : Value} {a3 : Value} {a4 : Value} {st : List Value} {σ : aS} : Rn sc d 4 101 [.ref x0, a1, a2, a3, a4] st σ r ↔ Rn sc d 4 102 [.ref x0, a1, a2, a3, a4] (.ref x0 :: st) σ r := r_aload_n d4_101 rfl
theorem d4_102 : decode (mC 4) 102 = .ok (.getfield 17, 3) := by decide +kernel
theorem x4_102 {sc : aSc} {d : Nat} {r : aRes} {L : List Value} {st : List Value} {f : Nat → Nat → Int32} {g : Nat → Nat → Int64} {h1 h2 : Nat} {o : Nat} (h17 : 17 ≤ o) (hK : KK[o]? = some (.inl 0)) : Rn sc d 4 102 L (.ref o :: st) (cS f g h1 h2) r ↔ Rn sc d 4 105 L (.int (f o 3) :: st) (cS f g h1 h2) r := r_getI d4_102 (ci := 0) (k := 3) rfl (by decide) (fun _ => rfl) h17 hK
theorem d4_105 : decode (mC 4) 105 = .ok (.iadd, 1) := by decide +kernel
theorem x4_105 {sc : aSc} {d : Nat} {r : aRes} {L : List Value} {st : List Value} {σ : aS} {x y : Int32} : Rn sc d 4 105 L (.int y :: .int x :: st) σ r ↔ Rn sc d 4 106 L (.int (x + y) :: st) σ r := r_iadd d4_105
theorem d4_106 : decode (mC 4) 106 = .ok (.ireturn, 1) := by decide +kernel
theorem x4_106 {sc : aSc} {d : Nat} {r : aRes} {L : List Value} {σ : aS} {x : Int32} : Rn sc d 4 106 L [.int x] σ r ↔ r = (σ, some (.int x)) := r_iret d4_106 rfl rfl
theorem d4_107 : decode (mC 4) 107 = .ok (.aload_n 0, 1) := by decide +kernel
theorem x4_107 {sc : aSc} {d : Nat} {r : aRes} {x0 : Nat} {a1 : Value} {a2 : Value} {a3 : Value} {a4 : Value} {st : List Value} {σ : aS} : Rn sc d 4 107 [.ref x0, a1, a2, a3, a4] st σ r ↔ Rn sc d 4 108 [.ref x0, a1, a2, a3, a4] (.ref x0 :: st) σ r := r_aload_n d4_107 rfl
theorem d4_108 : decode (mC 4) 108 = .ok (.iconst 0, 1) := by decide +kernel
theorem x4_108 {sc : aSc} {d : Nat} {r : aRes} {L : List Value} {st : List Value} {σ : aS} : Rn sc d 4 108 L st σ r ↔ Rn sc d 4 109 L (.int 0 :: st) σ r := r_iconst d4_108 (by decide)
theorem d4_109 : decode (mC 4) 109 = .ok (.aload_n 0, 1) := by decide +kernel
theorem x4_109 {sc : aSc} {d : Nat} {r : aRes} {x0 : Nat} {a1 : Value} {a2 : Value} {a3 : Value} {a4 : Value} {st : List Value} {σ : aS} : Rn sc d 4 109 [.ref x0, a1, a2, a3, a4] st σ r ↔ Rn sc d 4 110 [.ref x0, a1, a2, a3, a4] (.ref x0 :: st) σ r := r_aload_n d4_109 rfl
theorem d4_110 : decode (mC 4) 110 = .ok (.getfield 13, 3) := by decide +kernel
theorem x4_110 {sc : aSc} {d : Nat} {r : aRes} {L : List Value} {st : List Value} {f : Nat → Nat → Int32} {g : Nat → Nat → Int64} {h1 h2 : Nat} {o : Nat} (h17 : 17 ≤ o) (hK : KK[o]? = some (.inl 0)) : Rn sc d 4 110 L (.ref o :: st) (cS f g h1 h2) r ↔ Rn sc d 4 113 L (.int (f o 2) :: st) (cS f g h1 h2) r := r_getI d4_110 (ci := 0) (k := 2) rfl (by decide) (fun _ => rfl) h17 hK
theorem d4_113 : decode (mC 4) 113 = .ok (.iload_n 3, 1) := by decide +kernel
theorem x4_113 {sc : aSc} {d : Nat} {r : aRes} {a0 : Value} {a1 : Value} {a2 : Value} {x3 : Int32} {a4 : Value} {st : List Value} {σ : aS} : Rn sc d 4 113 [a0, a1, a2, .int x3, a4] st σ r ↔ Rn sc d 4 114 [a0, a1, a2, .int x3, a4] (.int x3 :: st) σ r := r_iload_n d4_113 rfl
theorem d4_114 : decode (mC 4) 114 = .ok (.iload 4, 2) := by decide +kernel
theorem x4_114 {sc : aSc} {d : Nat} {r : aRes} {a0 : Value} {a1 : Value} {a2 : Value} {a3 : Value} {x4 : Int32} {st : List Value} {σ : aS} : Rn sc d 4 114 [a0, a1, a2, a3, .int x4] st σ r ↔ Rn sc d 4 116 [a0, a1, a2, a3, .int x4] (.int x4 :: st) σ r := r_iload d4_114 rfl
theorem d4_116 : decode (mC 4) 116 = .ok (.invokevirtual 26, 3) := by decide +kernel
theorem x4_116 {sc : aSc} {d : Nat} {r : aRes} {L : List Value} {f : Nat → Nat → Int32} {g : Nat → Nat → Int64} {h1 h2 : Nat} {y0 : Int32} {y1 : Int32} {y2 : Int32} {y3 : Int32}  {o : Nat} (hK : KK[o]? = some (.inl 0)) : Rn sc d 4 116 L [.int y0, .int y1, .int y2, .int y3, .ref o] (cS f g h1 h2) r ↔ ∃ (σ3 : aS) (v : Option Value), Cl sc d 3 [.ref o, .int y3, .int y2, .int y1, .int y0] (cS f g h1 h2) (σ3, v) ∧ Rn sc d 4 119 L (v.toList ++ []) σ3 r := r_callV (vs := [.int y0, .int y1, .int y2, .int y3]) d4_116 (j := 3) rfl ⟨rfl, by decide, rfl, rfl⟩ (Nat.le_of_ble_eq_true rfl) hK
theorem d4_119 : decode (mC 4) 119 = .ok (.aload_n 0, 1) := by decide +kernel
theorem x4_119 {sc : aSc} {d : Nat} {r : aRes} {x0 : Nat} {a1 : Value} {a2 : Value} {a3 : Value} {a4 : Value} {st : List Value} {σ : aS} : Rn sc d 4 119 [.ref x0, a1, a2, a3, a4] st σ r ↔ Rn sc d 4 120 [.ref x0, a1, a2, a3, a4] (.ref x0 :: st) σ r := r_aload_n d4_119 rfl
theorem d4_120 : decode (mC 4) 120 = .ok (.getfield 20, 3) := by decide +kernel
theorem x4_120 {sc : aSc} {d : Nat} {r : aRes} {L : List Value} {st : List Value} {f : Nat → Nat → Int32} {g : Nat → Nat → Int64} {h1 h2 : Nat} {o : Nat} (h17 : 17 ≤ o) (hK : KK[o]? = some (.inl 0)) : Rn sc d 4 120 L (.ref o :: st) (cS f g h1 h2) r ↔ Rn sc d 4 123 L (.int (f o 4) :: st) (cS f g h1 h2) r := r_getI d4_120 (ci := 0) (k := 4) rfl (by decide) (fun _ => rfl) h17 hK
theorem d4_123 : decode (mC 4) 123 = .ok (.isub, 1) := by decide +kernel
theorem x4_123 {sc : aSc} {d : Nat} {r : aRes} {L : List Value} {st : List Value} {σ : aS} {x y : Int32} : Rn sc d 4 123 L (.int y :: .int x :: st) σ r ↔ Rn sc d 4 124 L (.int (x - y) :: st) σ r := r_isub d4_123
theorem d4_124 : decode (mC 4) 124 = .ok (.ireturn, 1) := by decide +kernel
theorem x4_124 {sc : aSc} {d : Nat} {r : aRes} {L : List Value} {σ : aS} {x : Int32} : Rn sc d 4 124 L [.int x] σ r ↔ r = (σ, some (.int x)) := r_iret d4_124 rfl rfl
theorem d4_125 : decode (mC 4) 125 = .ok (.aload_n 0, 1) := by decide +kernel
theorem x4_125 {sc : aSc} {d : Nat} {r : aRes} {x0 : Nat} {a1 : Value} {a2 : Value} {a3 : Value} {a4 : Value} {st : List Value} {σ : aS} : Rn sc d 4 125 [.ref x0, a1, a2, a3, a4] st σ r ↔ Rn sc d 4 126 [.ref x0, a1, a2, a3, a4] (.ref x0 :: st) σ r := r_aload_n d4_125 rfl
theorem d4_126 : decode (mC 4) 126 = .ok (.iconst 1, 1) := by decide +kernel
theorem x4_126 {sc : aSc} {d : Nat} {r : aRes} {L : List Value} {st : List Value} {σ : aS} : Rn sc d 4 126 L st σ r ↔ Rn sc d 4 127 L (.int 1 :: st) σ r := r_iconst d4_126 (by decide)
theorem d4_127 : decode (mC 4) 127 = .ok (.aload_n 0, 1) := by decide +kernel
theorem x4_127 {sc : aSc} {d : Nat} {r : aRes} {x0 : Nat} {a1 : Value} {a2 : Value} {a3 : Value} {a4 : Value} {st : List Value} {σ : aS} : Rn sc d 4 127 [.ref x0, a1, a2, a3, a4] st σ r ↔ Rn sc d 4 128 [.ref x0, a1, a2, a3, a4] (.ref x0 :: st) σ r := r_aload_n d4_127 rfl
theorem d4_128 : decode (mC 4) 128 = .ok (.getfield 13, 3) := by decide +kernel
theorem x4_128 {sc : aSc} {d : Nat} {r : aRes} {L : List Value} {st : List Value} {f : Nat → Nat → Int32} {g : Nat → Nat → Int64} {h1 h2 : Nat} {o : Nat} (h17 : 17 ≤ o) (hK : KK[o]? = some (.inl 0)) : Rn sc d 4 128 L (.ref o :: st) (cS f g h1 h2) r ↔ Rn sc d 4 131 L (.int (f o 2) :: st) (cS f g h1 h2) r := r_getI d4_128 (ci := 0) (k := 2) rfl (by decide) (fun _ => rfl) h17 hK
theorem d4_131 : decode (mC 4) 131 = .ok (.iload_n 3, 1) := by decide +kernel
theorem x4_131 {sc : aSc} {d : Nat} {r : aRes} {a0 : Value} {a1 : Value} {a2 : Value} {x3 : Int32} {a4 : Value} {st : List Value} {σ : aS} : Rn sc d 4 131 [a0, a1, a2, .int x3, a4] st σ r ↔ Rn sc d 4 132 [a0, a1, a2, .int x3, a4] (.int x3 :: st) σ r := r_iload_n d4_131 rfl
theorem d4_132 : decode (mC 4) 132 = .ok (.iload 4, 2) := by decide +kernel
theorem x4_132 {sc : aSc} {d : Nat} {r : aRes} {a0 : Value} {a1 : Value} {a2 : Value} {a3 : Value} {x4 : Int32} {st : List Value} {σ : aS} : Rn sc d 4 132 [a0, a1, a2, a3, .int x4] st σ r ↔ Rn sc d 4 134 [a0, a1, a2, a3, .int x4] (.int x4 :: st) σ r := r_iload d4_132 rfl
theorem d4_134 : decode (mC 4) 134 = .ok (.invokevirtual 26, 3) := by decide +kernel
theorem x4_134 {sc : aSc} {d : Nat} {r : aRes} {L : List Value} {f : Nat → Nat → Int32} {g : Nat → Nat → Int64} {h1 h2 : Nat} {y0 : Int32} {y1 : Int32} {y2 : Int32} {y3 : Int32}  {o : Nat} (hK : KK[o]? = some (.inl 0)) : Rn sc d 4 134 L [.int y0, .int y1, .int y2, .int y3, .ref o] (cS f g h1 h2) r ↔ ∃ (σ3 : aS) (v : Option Value), Cl sc d 3 [.ref o, .int y3, .int y2, .int y1, .int y0] (cS f g h1 h2) (σ3, v) ∧ Rn sc d 4 137 L (v.toList ++ []) σ3 r := r_callV (vs := [.int y0, .int y1, .int y2, .int y3]) d4_134 (j := 3) rfl ⟨rfl, by decide, rfl, rfl⟩ (Nat.le_of_ble_eq_true rfl) hK
theorem d4_137 : decode (mC 4) 137 = .ok (.iconst 2, 1) := by decide +kernel
theorem x4_137 {sc : aSc} {d : Nat} {r : aRes} {L : List Value} {st : List Value} {σ : aS} : Rn sc d 4 137 L st σ r ↔ Rn sc d 4 138 L (.int 2 :: st) σ r := r_iconst d4_137 (by decide)
theorem d4_138 : decode (mC 4) 138 = .ok (.imul, 1) := by decide +kernel
theorem x4_138 {sc : aSc} {d : Nat} {r : aRes} {L : List Value} {st : List Value} {σ : aS} {x y : Int32} : Rn sc d 4 138 L (.int y :: .int x :: st) σ r ↔ Rn sc d 4 139 L (.int (x * y) :: st) σ r := r_imul d4_138
theorem d4_139 : decode (mC 4) 139 = .ok (.ireturn, 1) := by decide +kernel
theorem x4_139 {sc : aSc} {d : Nat} {r : aRes} {L : List Value} {σ : aS} {x : Int32} : Rn sc d 4 139 L [.int x] σ r ↔ r = (σ, some (.int x)) := r_iret d4_139 rfl rfl
theorem d4_140 : decode (mC 4) 140 = .ok (.aload_n 0, 1) := by decide +kernel
theorem x4_140 {sc : aSc} {d : Nat} {r : aRes} {x0 : Nat} {a1 : Value} {a2 : Value} {a3 : Value} {a4 : Value} {st : List Value} {σ : aS} : Rn sc d 4 140 [.ref x0, a1, a2, a3, a4] st σ r ↔ Rn sc d 4 141 [.ref x0, a1, a2, a3, a4] (.ref x0 :: st) σ r := r_aload_n d4_140 rfl
theorem d4_141 : decode (mC 4) 141 = .ok (.iconst 1, 1) := by decide +kernel
theorem x4_141 {sc : aSc} {d : Nat} {r : aRes} {L : List Value} {st : List Value} {σ : aS} : Rn sc d 4 141 L st σ r ↔ Rn sc d 4 142 L (.int 1 :: st) σ r := r_iconst d4_141 (by decide)
theorem d4_142 : decode (mC 4) 142 = .ok (.iload_n 2, 1) := by decide +kernel
theorem x4_142 {sc : aSc} {d : Nat} {r : aRes} {a0 : Value} {a1 : Value} {x2 : Int32} {a3 : Value} {a4 : Value} {st : List Value} {σ : aS} : Rn sc d 4 142 [a0, a1, .int x2, a3, a4] st σ r ↔ Rn sc d 4 143 [a0, a1, .int x2, a3, a4] (.int x2 :: st) σ r := r_iload_n d4_142 rfl
theorem d4_143 : decode (mC 4) 143 = .ok (.iload_n 3, 1) := by decide +kernel
theorem x4_143 {sc : aSc} {d : Nat} {r : aRes} {a0 : Value} {a1 : Value} {a2 : Value} {x3 : Int32} {a4 : Value} {st : List Value} {σ : aS} : Rn sc d 4 143 [a0, a1, a2, .int x3, a4] st σ r ↔ Rn sc d 4 144 [a0, a1, a2, .int x3, a4] (.int x3 :: st) σ r := r_iload_n d4_143 rfl
theorem d4_144 : decode (mC 4) 144 = .ok (.iload 4, 2) := by decide +kernel
theorem x4_144 {sc : aSc} {d : Nat} {r : aRes} {a0 : Value} {a1 : Value} {a2 : Value} {a3 : Value} {x4 : Int32} {st : List Value} {σ : aS} : Rn sc d 4 144 [a0, a1, a2, a3, .int x4] st σ r ↔ Rn sc d 4 146 [a0, a1, a2, a3, .int x4] (.int x4 :: st) σ r := r_iload d4_144 rfl
theorem d4_146 : decode (mC 4) 146 = .ok (.invokevirtual 26, 3) := by decide +kernel
theorem x4_146 {sc : aSc} {d : Nat} {r : aRes} {L : List Value} {f : Nat → Nat → Int32} {g : Nat → Nat → Int64} {h1 h2 : Nat} {y0 : Int32} {y1 : Int32} {y2 : Int32} {y3 : Int32}  {o : Nat} (hK : KK[o]? = some (.inl 0)) : Rn sc d 4 146 L [.int y0, .int y1, .int y2, .int y3, .ref o] (cS f g h1 h2) r ↔ ∃ (σ3 : aS) (v : Option Value), Cl sc d 3 [.ref o, .int y3, .int y2, .int y1, .int y0] (cS f g h1 h2) (σ3, v) ∧ Rn sc d 4 149 L (v.toList ++ []) σ3 r := r_callV (vs := [.int y0, .int y1, .int y2, .int y3]) d4_146 (j := 3) rfl ⟨rfl, by decide, rfl, rfl⟩ (Nat.le_of_ble_eq_true rfl) hK
theorem d4_149 : decode (mC 4) 149 = .ok (.bipush 6, 2) := by decide +kernel
theorem x4_149 {sc : aSc} {d : Nat} {r : aRes} {L : List Value} {st : List Value} {σ : aS} : Rn sc d 4 149 L st σ r ↔ Rn sc d 4 151 L (.int 6 :: st) σ r := r_bipush d4_149 (by decide)
theorem d4_151 : decode (mC 4) 151 = .ok (.ixor, 1) := by decide +kernel
theorem x4_151 {sc : aSc} {d : Nat} {r : aRes} {L : List Value} {st : List Value} {σ : aS} {x y : Int32} : Rn sc d 4 151 L (.int y :: .int x :: st) σ r ↔ Rn sc d 4 152 L (.int (x ^^^ y) :: st) σ r := r_ixor d4_151
theorem d4_152 : decode (mC 4) 152 = .ok (.ireturn, 1) := by decide +kernel
theorem x4_152 {sc : aSc} {d : Nat} {r : aRes} {L : List Value} {σ : aS} {x : Int32} : Rn sc d 4 152 L [.int x] σ r ↔ r = (σ, some (.int x)) := r_iret d4_152 rfl rfl
theorem d4_153 : decode (mC 4) 153 = .ok (.aload_n 0, 1) := by decide +kernel
theorem x4_153 {sc : aSc} {d : Nat} {r : aRes} {x0 : Nat} {a1 : Value} {a2 : Value} {a3 : Value} {a4 : Value} {st : List Value} {σ : aS} : Rn sc d 4 153 [.ref x0, a1, a2, a3, a4] st σ r ↔ Rn sc d 4 154 [.ref x0, a1, a2, a3, a4] (.ref x0 :: st) σ r := r_aload_n d4_153 rfl
theorem d4_154 : decode (mC 4) 154 = .ok (.iconst 0, 1) := by decide +kernel
theorem x4_154 {sc : aSc} {d : Nat} {r : aRes} {L : List Value} {st : List Value} {σ : aS} : Rn sc d 4 154 L st σ r ↔ Rn sc d 4 155 L (.int 0 :: st) σ r := r_iconst d4_154 (by decide)
theorem d4_155 : decode (mC 4) 155 = .ok (.iload_n 2, 1) := by decide +kernel
theorem x4_155 {sc : aSc} {d : Nat} {r : aRes} {a0 : Value} {a1 : Value} {x2 : Int32} {a3 : Value} {a4 : Value} {st : List Value} {σ : aS} : Rn sc d 4 155 [a0, a1, .int x2, a3, a4] st σ r ↔ Rn sc d 4 156 [a0, a1, .int x2, a3, a4] (.int x2 :: st) σ r := r_iload_n d4_155 rfl
theorem d4_156 : decode (mC 4) 156 = .ok (.iload_n 3, 1) := by decide +kernel
theorem x4_156 {sc : aSc} {d : Nat} {r : aRes} {a0 : Value} {a1 : Value} {a2 : Value} {x3 : Int32} {a4 : Value} {st : List Value} {σ : aS} : Rn sc d 4 156 [a0, a1, a2, .int x3, a4] st σ r ↔ Rn sc d 4 157 [a0, a1, a2, .int x3, a4] (.int x3 :: st) σ r := r_iload_n d4_156 rfl
theorem d4_157 : decode (mC 4) 157 = .ok (.iconst 3, 1) := by decide +kernel
theorem x4_157 {sc : aSc} {d : Nat} {r : aRes} {L : List Value} {st : List Value} {σ : aS} : Rn sc d 4 157 L st σ r ↔ Rn sc d 4 158 L (.int 3 :: st) σ r := r_iconst d4_157 (by decide)
theorem d4_158 : decode (mC 4) 158 = .ok (.imul, 1) := by decide +kernel
theorem x4_158 {sc : aSc} {d : Nat} {r : aRes} {L : List Value} {st : List Value} {σ : aS} {x y : Int32} : Rn sc d 4 158 L (.int y :: .int x :: st) σ r ↔ Rn sc d 4 159 L (.int (x * y) :: st) σ r := r_imul d4_158
theorem d4_159 : decode (mC 4) 159 = .ok (.iload 4, 2) := by decide +kernel
theorem x4_159 {sc : aSc} {d : Nat} {r : aRes} {a0 : Value} {a1 : Value} {a2 : Value} {a3 : Value} {x4 : Int32} {st : List Value} {σ : aS} : Rn sc d 4 159 [a0, a1, a2, a3, .int x4] st σ r ↔ Rn sc d 4 161 [a0, a1, a2, a3, .int x4] (.int x4 :: st) σ r := r_iload d4_159 rfl
theorem d4_161 : decode (mC 4) 161 = .ok (.invokevirtual 26, 3) := by decide +kernel
theorem x4_161 {sc : aSc} {d : Nat} {r : aRes} {L : List Value} {f : Nat → Nat → Int32} {g : Nat → Nat → Int64} {h1 h2 : Nat} {y0 : Int32} {y1 : Int32} {y2 : Int32} {y3 : Int32}  {o : Nat} (hK : KK[o]? = some (.inl 0)) : Rn sc d 4 161 L [.int y0, .int y1, .int y2, .int y3, .ref o] (cS f g h1 h2) r ↔ ∃ (σ3 : aS) (v : Option Value), Cl sc d 3 [.ref o, .int y3, .int y2, .int y1, .int y0] (cS f g h1 h2) (σ3, v) ∧ Rn sc d 4 164 L (v.toList ++ []) σ3 r := r_callV (vs := [.int y0, .int y1, .int y2, .int y3]) d4_161 (j := 3) rfl ⟨rfl, by decide, rfl, rfl⟩ (Nat.le_of_ble_eq_true rfl) hK
theorem d4_164 : decode (mC 4) 164 = .ok (.ireturn, 1) := by decide +kernel
theorem x4_164 {sc : aSc} {d : Nat} {r : aRes} {L : List Value} {σ : aS} {x : Int32} : Rn sc d 4 164 L [.int x] σ r ↔ r = (σ, some (.int x)) := r_iret d4_164 rfl rfl
theorem d4_165 : decode (mC 4) 165 = .ok (.aload_n 0, 1) := by decide +kernel
theorem x4_165 {sc : aSc} {d : Nat} {r : aRes} {x0 : Nat} {a1 : Value} {a2 : Value} {a3 : Value} {a4 : Value} {st : List Value} {σ : aS} : Rn sc d 4 165 [.ref x0, a1, a2, a3, a4] st σ r ↔ Rn sc d 4 166 [.ref x0, a1, a2, a3, a4] (.ref x0 :: st) σ r := r_aload_n d4_165 rfl
theorem d4_166 : decode (mC 4) 166 = .ok (.iconst 2, 1) := by decide +kernel
theorem x4_166 {sc : aSc} {d : Nat} {r : aRes} {L : List Value} {st : List Value} {σ : aS} : Rn sc d 4 166 L st σ r ↔ Rn sc d 4 167 L (.int 2 :: st) σ r := r_iconst d4_166 (by decide)
theorem d4_167 : decode (mC 4) 167 = .ok (.iload_n 2, 1) := by decide +kernel
theorem x4_167 {sc : aSc} {d : Nat} {r : aRes} {a0 : Value} {a1 : Value} {x2 : Int32} {a3 : Value} {a4 : Value} {st : List Value} {σ : aS} : Rn sc d 4 167 [a0, a1, .int x2, a3, a4] st σ r ↔ Rn sc d 4 168 [a0, a1, .int x2, a3, a4] (.int x2 :: st) σ r := r_iload_n d4_167 rfl
theorem d4_168 : decode (mC 4) 168 = .ok (.iload_n 3, 1) := by decide +kernel
theorem x4_168 {sc : aSc} {d : Nat} {r : aRes} {a0 : Value} {a1 : Value} {a2 : Value} {x3 : Int32} {a4 : Value} {st : List Value} {σ : aS} : Rn sc d 4 168 [a0, a1, a2, .int x3, a4] st σ r ↔ Rn sc d 4 169 [a0, a1, a2, .int x3, a4] (.int x3 :: st) σ r := r_iload_n d4_168 rfl
theorem d4_169 : decode (mC 4) 169 = .ok (.iload 4, 2) := by decide +kernel
theorem x4_169 {sc : aSc} {d : Nat} {r : aRes} {a0 : Value} {a1 : Value} {a2 : Value} {a3 : Value} {x4 : Int32} {st : List Value} {σ : aS} : Rn sc d 4 169 [a0, a1, a2, a3, .int x4] st σ r ↔ Rn sc d 4 171 [a0, a1, a2, a3, .int x4] (.int x4 :: st) σ r := r_iload d4_169 rfl
theorem d4_171 : decode (mC 4) 171 = .ok (.invokevirtual 26, 3) := by decide +kernel
theorem x4_171 {sc : aSc} {d : Nat} {r : aRes} {L : List Value} {f : Nat → Nat → Int32} {g : Nat → Nat → Int64} {h1 h2 : Nat} {y0 : Int32} {y1 : Int32} {y2 : Int32} {y3 : Int32}  {o : Nat} (hK : KK[o]? = some (.inl 0)) : Rn sc d 4 171 L [.int y0, .int y1, .int y2, .int y3, .ref o] (cS f g h1 h2) r ↔ ∃ (σ3 : aS) (v : Option Value), Cl sc d 3 [.ref o, .int y3, .int y2, .int y1, .int y0] (cS f g h1 h2) (σ3, v) ∧ Rn sc d 4 174 L (v.toList ++ []) σ3 r := r_callV (vs := [.int y0, .int y1, .int y2, .int y3]) d4_171 (j := 3) rfl ⟨rfl, by decide, rfl, rfl⟩ (Nat.le_of_ble_eq_true rfl) hK
theorem d4_174 : decode (mC 4) 174 = .ok (.aload_n 0, 1) := by decide +kernel
theorem x4_174 {sc : aSc} {d : Nat} {r : aRes} {x0 : Nat} {a1 : Value} {a2 : Value} {a3 : Value} {a4 : Value} {st : List Value} {σ : aS} : Rn sc d 4 174 [.ref x0, a1, a2, a3, a4] st σ r ↔ Rn sc d 4 175 [.ref x0, a1, a2, a3, a4] (.ref x0 :: st) σ r := r_aload_n d4_174 rfl
theorem d4_175 : decode (mC 4) 175 = .ok (.iconst 1, 1) := by decide +kernel
theorem x4_175 {sc : aSc} {d : Nat} {r : aRes} {L : List Value} {st : List Value} {σ : aS} : Rn sc d 4 175 L st σ r ↔ Rn sc d 4 176 L (.int 1 :: st) σ r := r_iconst d4_175 (by decide)
theorem d4_176 : decode (mC 4) 176 = .ok (.aload_n 0, 1) := by decide +kernel
theorem x4_176 {sc : aSc} {d : Nat} {r : aRes} {x0 : Nat} {a1 : Value} {a2 : Value} {a3 : Value} {a4 : Value} {st : List Value} {σ : aS} : Rn sc d 4 176 [.ref x0, a1, a2, a3, a4] st σ r ↔ Rn sc d 4 177 [.ref x0, a1, a2, a3, a4] (.ref x0 :: st) σ r := r_aload_n d4_176 rfl
theorem d4_177 : decode (mC 4) 177 = .ok (.getfield 13, 3) := by decide +kernel
theorem x4_177 {sc : aSc} {d : Nat} {r : aRes} {L : List Value} {st : List Value} {f : Nat → Nat → Int32} {g : Nat → Nat → Int64} {h1 h2 : Nat} {o : Nat} (h17 : 17 ≤ o) (hK : KK[o]? = some (.inl 0)) : Rn sc d 4 177 L (.ref o :: st) (cS f g h1 h2) r ↔ Rn sc d 4 180 L (.int (f o 2) :: st) (cS f g h1 h2) r := r_getI d4_177 (ci := 0) (k := 2) rfl (by decide) (fun _ => rfl) h17 hK
theorem d4_180 : decode (mC 4) 180 = .ok (.iconst 1, 1) := by decide +kernel
theorem x4_180 {sc : aSc} {d : Nat} {r : aRes} {L : List Value} {st : List Value} {σ : aS} : Rn sc d 4 180 L st σ r ↔ Rn sc d 4 181 L (.int 1 :: st) σ r := r_iconst d4_180 (by decide)
theorem d4_181 : decode (mC 4) 181 = .ok (.iload 4, 2) := by decide +kernel
theorem x4_181 {sc : aSc} {d : Nat} {r : aRes} {a0 : Value} {a1 : Value} {a2 : Value} {a3 : Value} {x4 : Int32} {st : List Value} {σ : aS} : Rn sc d 4 181 [a0, a1, a2, a3, .int x4] st σ r ↔ Rn sc d 4 183 [a0, a1, a2, a3, .int x4] (.int x4 :: st) σ r := r_iload d4_181 rfl
theorem d4_183 : decode (mC 4) 183 = .ok (.invokevirtual 26, 3) := by decide +kernel
theorem x4_183 {sc : aSc} {d : Nat} {r : aRes} {L : List Value} {f : Nat → Nat → Int32} {g : Nat → Nat → Int64} {h1 h2 : Nat} {y0 : Int32} {y1 : Int32} {y2 : Int32} {y3 : Int32} {z0 : Int32} {o : Nat} (hK : KK[o]? = some (.inl 0)) : Rn sc d 4 183 L [.int y0, .int y1, .int y2, .int y3, .ref o, .int z0] (cS f g h1 h2) r ↔ ∃ (σ3 : aS) (v : Option Value), Cl sc d 3 [.ref o, .int y3, .int y2, .int y1, .int y0] (cS f g h1 h2) (σ3, v) ∧ Rn sc d 4 186 L (v.toList ++ [.int z0]) σ3 r := r_callV (vs := [.int y0, .int y1, .int y2, .int y3]) d4_183 (j := 3) rfl ⟨rfl, by decide, rfl, rfl⟩ (Nat.le_of_ble_eq_true rfl) hK
theorem d4_186 : decode (mC 4) 186 = .ok (.iadd, 1) := by decide +kernel
theorem x4_186 {sc : aSc} {d : Nat} {r : aRes} {L : List Value} {st : List Value} {σ : aS} {x y : Int32} : Rn sc d 4 186 L (.int y :: .int x :: st) σ r ↔ Rn sc d 4 187 L (.int (x + y) :: st) σ r := r_iadd d4_186
theorem d4_187 : decode (mC 4) 187 = .ok (.ireturn, 1) := by decide +kernel
theorem x4_187 {sc : aSc} {d : Nat} {r : aRes} {L : List Value} {σ : aS} {x : Int32} : Rn sc d 4 187 L [.int x] σ r ↔ r = (σ, some (.int x)) := r_iret d4_187 rfl rfl
theorem d4_188 : decode (mC 4) 188 = .ok (.aload_n 0, 1) := by decide +kernel
theorem x4_188 {sc : aSc} {d : Nat} {r : aRes} {x0 : Nat} {a1 : Value} {a2 : Value} {a3 : Value} {a4 : Value} {st : List Value} {σ : aS} : Rn sc d 4 188 [.ref x0, a1, a2, a3, a4] st σ r ↔ Rn sc d 4 189 [.ref x0, a1, a2, a3, a4] (.ref x0 :: st) σ r := r_aload_n d4_188 rfl
theorem d4_189 : decode (mC 4) 189 = .ok (.iconst 0, 1) := by decide +kernel
theorem x4_189 {sc : aSc} {d : Nat} {r : aRes} {L : List Value} {st : List Value} {σ : aS} : Rn sc d 4 189 L st σ r ↔ Rn sc d 4 190 L (.int 0 :: st) σ r := r_iconst d4_189 (by decide)
theorem d4_190 : decode (mC 4) 190 = .ok (.iload_n 2, 1) := by decide +kernel
theorem x4_190 {sc : aSc} {d : Nat} {r : aRes} {a0 : Value} {a1 : Value} {x2 : Int32} {a3 : Value} {a4 : Value} {st : List Value} {σ : aS} : Rn sc d 4 190 [a0, a1, .int x2, a3, a4] st σ r ↔ Rn sc d 4 191 [a0, a1, .int x2, a3, a4] (.int x2 :: st) σ r := r_iload_n d4_190 rfl
theorem d4_191 : decode (mC 4) 191 = .ok (.iload_n 3, 1) := by decide +kernel
theorem x4_191 {sc : aSc} {d : Nat} {r : aRes} {a0 : Value} {a1 : Value} {a2 : Value} {x3 : Int32} {a4 : Value} {st : List Value} {σ : aS} : Rn sc d 4 191 [a0, a1, a2, .int x3, a4] st σ r ↔ Rn sc d 4 192 [a0, a1, a2, .int x3, a4] (.int x3 :: st) σ r := r_iload_n d4_191 rfl
theorem d4_192 : decode (mC 4) 192 = .ok (.iload 4, 2) := by decide +kernel
theorem x4_192 {sc : aSc} {d : Nat} {r : aRes} {a0 : Value} {a1 : Value} {a2 : Value} {a3 : Value} {x4 : Int32} {st : List Value} {σ : aS} : Rn sc d 4 192 [a0, a1, a2, a3, .int x4] st σ r ↔ Rn sc d 4 194 [a0, a1, a2, a3, .int x4] (.int x4 :: st) σ r := r_iload d4_192 rfl
theorem d4_194 : decode (mC 4) 194 = .ok (.invokevirtual 26, 3) := by decide +kernel
theorem x4_194 {sc : aSc} {d : Nat} {r : aRes} {L : List Value} {f : Nat → Nat → Int32} {g : Nat → Nat → Int64} {h1 h2 : Nat} {y0 : Int32} {y1 : Int32} {y2 : Int32} {y3 : Int32}  {o : Nat} (hK : KK[o]? = some (.inl 0)) : Rn sc d 4 194 L [.int y0, .int y1, .int y2, .int y3, .ref o] (cS f g h1 h2) r ↔ ∃ (σ3 : aS) (v : Option Value), Cl sc d 3 [.ref o, .int y3, .int y2, .int y1, .int y0] (cS f g h1 h2) (σ3, v) ∧ Rn sc d 4 197 L (v.toList ++ []) σ3 r := r_callV (vs := [.int y0, .int y1, .int y2, .int y3]) d4_194 (j := 3) rfl ⟨rfl, by decide, rfl, rfl⟩ (Nat.le_of_ble_eq_true rfl) hK
theorem d4_197 : decode (mC 4) 197 = .ok (.ineg, 1) := by decide +kernel
theorem x4_197 {sc : aSc} {d : Nat} {r : aRes} {L : List Value} {st : List Value} {σ : aS} {x : Int32} : Rn sc d 4 197 L (.int x :: st) σ r ↔ Rn sc d 4 198 L (.int (-x) :: st) σ r := r_ineg d4_197
theorem d4_198 : decode (mC 4) 198 = .ok (.ireturn, 1) := by decide +kernel
theorem x4_198 {sc : aSc} {d : Nat} {r : aRes} {L : List Value} {σ : aS} {x : Int32} : Rn sc d 4 198 L [.int x] σ r ↔ r = (σ, some (.int x)) := r_iret d4_198 rfl rfl
theorem d4_199 : decode (mC 4) 199 = .ok (.aload_n 0, 1) := by decide +kernel
theorem x4_199 {sc : aSc} {d : Nat} {r : aRes} {x0 : Nat} {a1 : Value} {a2 : Value} {a3 : Value} {a4 : Value} {st : List Value} {σ : aS} : Rn sc d 4 199 [.ref x0, a1, a2, a3, a4] st σ r ↔ Rn sc d 4 200 [.ref x0, a1, a2, a3, a4] (.ref x0 :: st) σ r := r_aload_n d4_199 rfl
theorem d4_200 : decode (mC 4) 200 = .ok (.iconst 1, 1) := by decide +kernel
theorem x4_200 {sc : aSc} {d : Nat} {r : aRes} {L : List Value} {st : List Value} {σ : aS} : Rn sc d 4 200 L st σ r ↔ Rn sc d 4 201 L (.int 1 :: st) σ r := r_iconst d4_200 (by decide)
theorem d4_201 : decode (mC 4) 201 = .ok (.iload_n 2, 1) := by decide +kernel
theorem x4_201 {sc : aSc} {d : Nat} {r : aRes} {a0 : Value} {a1 : Value} {x2 : Int32} {a3 : Value} {a4 : Value} {st : List Value} {σ : aS} : Rn sc d 4 201 [a0, a1, .int x2, a3, a4] st σ r ↔ Rn sc d 4 202 [a0, a1, .int x2, a3, a4] (.int x2 :: st) σ r := r_iload_n d4_201 rfl
theorem d4_202 : decode (mC 4) 202 = .ok (.iload_n 3, 1) := by decide +kernel
theorem x4_202 {sc : aSc} {d : Nat} {r : aRes} {a0 : Value} {a1 : Value} {a2 : Value} {x3 : Int32} {a4 : Value} {st : List Value} {σ : aS} : Rn sc d 4 202 [a0, a1, a2, .int x3, a4] st σ r ↔ Rn sc d 4 203 [a0, a1, a2, .int x3, a4] (.int x3 :: st) σ r := r_iload_n d4_202 rfl
theorem d4_203 : decode (mC 4) 203 = .ok (.iconst 1, 1) := by decide +kernel
theorem x4_203 {sc : aSc} {d : Nat} {r : aRes} {L : List Value} {st : List Value} {σ : aS} : Rn sc d 4 203 L st σ r ↔ Rn sc d 4 204 L (.int 1 :: st) σ r := r_iconst d4_203 (by decide)
theorem d4_204 : decode (mC 4) 204 = .ok (.iadd, 1) := by decide +kernel
theorem x4_204 {sc : aSc} {d : Nat} {r : aRes} {L : List Value} {st : List Value} {σ : aS} {x y : Int32} : Rn sc d 4 204 L (.int y :: .int x :: st) σ r ↔ Rn sc d 4 205 L (.int (x + y) :: st) σ r := r_iadd d4_204
theorem d4_205 : decode (mC 4) 205 = .ok (.iload 4, 2) := by decide +kernel
theorem x4_205 {sc : aSc} {d : Nat} {r : aRes} {a0 : Value} {a1 : Value} {a2 : Value} {a3 : Value} {x4 : Int32} {st : List Value} {σ : aS} : Rn sc d 4 205 [a0, a1, a2, a3, .int x4] st σ r ↔ Rn sc d 4 207 [a0, a1, a2, a3, .int x4] (.int x4 :: st) σ r := r_iload d4_205 rfl
theorem d4_207 : decode (mC 4) 207 = .ok (.invokevirtual 26, 3) := by decide +kernel
theorem x4_207 {sc : aSc} {d : Nat} {r : aRes} {L : List Value} {f : Nat → Nat → Int32} {g : Nat → Nat → Int64} {h1 h2 : Nat} {y0 : Int32} {y1 : Int32} {y2 : Int32} {y3 : Int32}  {o : Nat} (hK : KK[o]? = some (.inl 0)) : Rn sc d 4 207 L [.int y0, .int y1, .int y2, .int y3, .ref o] (cS f g h1 h2) r ↔ ∃ (σ3 : aS) (v : Option Value), Cl sc d 3 [.ref o, .int y3, .int y2, .int y1, .int y0] (cS f g h1 h2) (σ3, v) ∧ Rn sc d 4 210 L (v.toList ++ []) σ3 r := r_callV (vs := [.int y0, .int y1, .int y2, .int y3]) d4_207 (j := 3) rfl ⟨rfl, by decide, rfl, rfl⟩ (Nat.le_of_ble_eq_true rfl) hK
theorem d4_210 : decode (mC 4) 210 = .ok (.ireturn, 1) := by decide +kernel
theorem x4_210 {sc : aSc} {d : Nat} {r : aRes} {L : List Value} {σ : aS} {x : Int32} : Rn sc d 4 210 L [.int x] σ r ↔ r = (σ, some (.int x)) := r_iret d4_210 rfl rfl
theorem d4_211 : decode (mC 4) 211 = .ok (.aload_n 0, 1) := by decide +kernel
theorem x4_211 {sc : aSc} {d : Nat} {r : aRes} {x0 : Nat} {a1 : Value} {a2 : Value} {a3 : Value} {a4 : Value} {st : List Value} {σ : aS} : Rn sc d 4 211 [.ref x0, a1, a2, a3, a4] st σ r ↔ Rn sc d 4 212 [.ref x0, a1, a2, a3, a4] (.ref x0 :: st) σ r := r_aload_n d4_211 rfl
theorem d4_212 : decode (mC 4) 212 = .ok (.iconst 2, 1) := by decide +kernel
theorem x4_212 {sc : aSc} {d : Nat} {r : aRes} {L : List Value} {st : List Value} {σ : aS} : Rn sc d 4 212 L st σ r ↔ Rn sc d 4 213 L (.int 2 :: st) σ r := r_iconst d4_212 (by decide)
theorem d4_213 : decode (mC 4) 213 = .ok (.iload_n 2, 1) := by decide +kernel
theorem x4_213 {sc : aSc} {d : Nat} {r : aRes} {a0 : Value} {a1 : Value} {x2 : Int32} {a3 : Value} {a4 : Value} {st : List Value} {σ : aS} : Rn sc d 4 213 [a0, a1, .int x2, a3, a4] st σ r ↔ Rn sc d 4 214 [a0, a1, .int x2, a3, a4] (.int x2 :: st) σ r := r_iload_n d4_213 rfl
theorem d4_214 : decode (mC 4) 214 = .ok (.iload_n 3, 1) := by decide +kernel
theorem x4_214 {sc : aSc} {d : Nat} {r : aRes} {a0 : Value} {a1 : Value} {a2 : Value} {x3 : Int32} {a4 : Value} {st : List Value} {σ : aS} : Rn sc d 4 214 [a0, a1, a2, .int x3, a4] st σ r ↔ Rn sc d 4 215 [a0, a1, a2, .int x3, a4] (.int x3 :: st) σ r := r_iload_n d4_214 rfl
theorem d4_215 : decode (mC 4) 215 = .ok (.aload_n 0, 1) := by decide +kernel
theorem x4_215 {sc : aSc} {d : Nat} {r : aRes} {x0 : Nat} {a1 : Value} {a2 : Value} {a3 : Value} {a4 : Value} {st : List Value} {σ : aS} : Rn sc d 4 215 [.ref x0, a1, a2, a3, a4] st σ r ↔ Rn sc d 4 216 [.ref x0, a1, a2, a3, a4] (.ref x0 :: st) σ r := r_aload_n d4_215 rfl
theorem d4_216 : decode (mC 4) 216 = .ok (.getfield 17, 3) := by decide +kernel
theorem x4_216 {sc : aSc} {d : Nat} {r : aRes} {L : List Value} {st : List Value} {f : Nat → Nat → Int32} {g : Nat → Nat → Int64} {h1 h2 : Nat} {o : Nat} (h17 : 17 ≤ o) (hK : KK[o]? = some (.inl 0)) : Rn sc d 4 216 L (.ref o :: st) (cS f g h1 h2) r ↔ Rn sc d 4 219 L (.int (f o 3) :: st) (cS f g h1 h2) r := r_getI d4_216 (ci := 0) (k := 3) rfl (by decide) (fun _ => rfl) h17 hK
theorem d4_219 : decode (mC 4) 219 = .ok (.isub, 1) := by decide +kernel
theorem x4_219 {sc : aSc} {d : Nat} {r : aRes} {L : List Value} {st : List Value} {σ : aS} {x y : Int32} : Rn sc d 4 219 L (.int y :: .int x :: st) σ r ↔ Rn sc d 4 220 L (.int (x - y) :: st) σ r := r_isub d4_219
theorem d4_220 : decode (mC 4) 220 = .ok (.iload 4, 2) := by decide +kernel
theorem x4_220 {sc : aSc} {d : Nat} {r : aRes} {a0 : Value} {a1 : Value} {a2 : Value} {a3 : Value} {x4 : Int32} {st : List Value} {σ : aS} : Rn sc d 4 220 [a0, a1, a2, a3, .int x4] st σ r ↔ Rn sc d 4 222 [a0, a1, a2, a3, .int x4] (.int x4 :: st) σ r := r_iload d4_220 rfl
theorem d4_222 : decode (mC 4) 222 = .ok (.invokevirtual 26, 3) := by decide +kernel
theorem x4_222 {sc : aSc} {d : Nat} {r : aRes} {L : List Value} {f : Nat → Nat → Int32} {g : Nat → Nat → Int64} {h1 h2 : Nat} {y0 : Int32} {y1 : Int32} {y2 : Int32} {y3 : Int32}  {o : Nat} (hK : KK[o]? = some (.inl 0)) : Rn sc d 4 222 L [.int y0, .int y1, .int y2, .int y3, .ref o] (cS f g h1 h2) r ↔ ∃ (σ3 : aS) (v : Option Value), Cl sc d 3 [.ref o, .int y3, .int y2, .int y1, .int y0] (cS f g h1 h2) (σ3, v) ∧ Rn sc d 4 225 L (v.toList ++ []) σ3 r := r_callV (vs := [.int y0, .int y1, .int y2, .int y3]) d4_222 (j := 3) rfl ⟨rfl, by decide, rfl, rfl⟩ (Nat.le_of_ble_eq_true rfl) hK
theorem d4_225 : decode (mC 4) 225 = .ok (.ireturn, 1) := by decide +kernel
theorem x4_225 {sc : aSc} {d : Nat} {r : aRes} {L : List Value} {σ : aS} {x : Int32} : Rn sc d 4 225 L [.int x] σ r ↔ r = (σ, some (.int x)) := r_iret d4_225 rfl rfl
theorem d4_226 : decode (mC 4) 226 = .ok (.aload_n 0, 1) := by decide +kernel
theorem x4_226 {sc : aSc} {d : Nat} {r : aRes} {x0 : Nat} {a1 : Value} {a2 : Value} {a3 : Value} {a4 : Value} {st : List Value} {σ : aS} : Rn sc d 4 226 [.ref x0, a1, a2, a3, a4] st σ r ↔ Rn sc d 4 227 [.ref x0, a1, a2, a3, a4] (.ref x0 :: st) σ r := r_aload_n d4_226 rfl
theorem d4_227 : decode (mC 4) 227 = .ok (.iconst 1, 1) := by decide +kernel
theorem x4_227 {sc : aSc} {d : Nat} {r : aRes} {L : List Value} {st : List Value} {σ : aS} : Rn sc d 4 227 L st σ r ↔ Rn sc d 4 228 L (.int 1 :: st) σ r := r_iconst d4_227 (by decide)
theorem d4_228 : decode (mC 4) 228 = .ok (.iload_n 2, 1) := by decide +kernel
theorem x4_228 {sc : aSc} {d : Nat} {r : aRes} {a0 : Value} {a1 : Value} {x2 : Int32} {a3 : Value} {a4 : Value} {st : List Value} {σ : aS} : Rn sc d 4 228 [a0, a1, .int x2, a3, a4] st σ r ↔ Rn sc d 4 229 [a0, a1, .int x2, a3, a4] (.int x2 :: st) σ r := r_iload_n d4_228 rfl
theorem d4_229 : decode (mC 4) 229 = .ok (.iload_n 3, 1) := by decide +kernel
theorem x4_229 {sc : aSc} {d : Nat} {r : aRes} {a0 : Value} {a1 : Value} {a2 : Value} {x3 : Int32} {a4 : Value} {st : List Value} {σ : aS} : Rn sc d 4 229 [a0, a1, a2, .int x3, a4] st σ r ↔ Rn sc d 4 230 [a0, a1, a2, .int x3, a4] (.int x3 :: st) σ r := r_iload_n d4_229 rfl
theorem d4_230 : decode (mC 4) 230 = .ok (.iload 4, 2) := by decide +kernel
theorem x4_230 {sc : aSc} {d : Nat} {r : aRes} {a0 : Value} {a1 : Value} {a2 : Value} {a3 : Value} {x4 : Int32} {st : List Value} {σ : aS} : Rn sc d 4 230 [a0, a1, a2, a3, .int x4] st σ r ↔ Rn sc d 4 232 [a0, a1, a2, a3, .int x4] (.int x4 :: st) σ r := r_iload d4_230 rfl
theorem d4_232 : decode (mC 4) 232 = .ok (.invokevirtual 26, 3) := by decide +kernel
theorem x4_232 {sc : aSc} {d : Nat} {r : aRes} {L : List Value} {f : Nat → Nat → Int32} {g : Nat → Nat → Int64} {h1 h2 : Nat} {y0 : Int32} {y1 : Int32} {y2 : Int32} {y3 : Int32}  {o : Nat} (hK : KK[o]? = some (.inl 0)) : Rn sc d 4 232 L [.int y0, .int y1, .int y2, .int y3, .ref o] (cS f g h1 h2) r ↔ ∃ (σ3 : aS) (v : Option Value), Cl sc d 3 [.ref o, .int y3, .int y2, .int y1, .int y0] (cS f g h1 h2) (σ3, v) ∧ Rn sc d 4 235 L (v.toList ++ []) σ3 r := r_callV (vs := [.int y0, .int y1, .int y2, .int y3]) d4_232 (j := 3) rfl ⟨rfl, by decide, rfl, rfl⟩ (Nat.le_of_ble_eq_true rfl) hK
theorem d4_235 : decode (mC 4) 235 = .ok (.aload_n 0, 1) := by decide +kernel
theorem x4_235 {sc : aSc} {d : Nat} {r : aRes} {x0 : Nat} {a1 : Value} {a2 : Value} {a3 : Value} {a4 : Value} {st : List Value} {σ : aS} : Rn sc d 4 235 [.ref x0, a1, a2, a3, a4] st σ r ↔ Rn sc d 4 236 [.ref x0, a1, a2, a3, a4] (.ref x0 :: st) σ r := r_aload_n d4_235 rfl
theorem d4_236 : decode (mC 4) 236 = .ok (.iconst 0, 1) := by decide +kernel
theorem x4_236 {sc : aSc} {d : Nat} {r : aRes} {L : List Value} {st : List Value} {σ : aS} : Rn sc d 4 236 L st σ r ↔ Rn sc d 4 237 L (.int 0 :: st) σ r := r_iconst d4_236 (by decide)
theorem d4_237 : decode (mC 4) 237 = .ok (.iload_n 2, 1) := by decide +kernel
theorem x4_237 {sc : aSc} {d : Nat} {r : aRes} {a0 : Value} {a1 : Value} {x2 : Int32} {a3 : Value} {a4 : Value} {st : List Value} {σ : aS} : Rn sc d 4 237 [a0, a1, .int x2, a3, a4] st σ r ↔ Rn sc d 4 238 [a0, a1, .int x2, a3, a4] (.int x2 :: st) σ r := r_iload_n d4_237 rfl
theorem d4_238 : decode (mC 4) 238 = .ok (.iconst 2, 1) := by decide +kernel
theorem x4_238 {sc : aSc} {d : Nat} {r : aRes} {L : List Value} {st : List Value} {σ : aS} : Rn sc d 4 238 L st σ r ↔ Rn sc d 4 239 L (.int 2 :: st) σ r := r_iconst d4_238 (by decide)
theorem d4_239 : decode (mC 4) 239 = .ok (.iload 4, 2) := by decide +kernel
theorem x4_239 {sc : aSc} {d : Nat} {r : aRes} {a0 : Value} {a1 : Value} {a2 : Value} {a3 : Value} {x4 : Int32} {st : List Value} {σ : aS} : Rn sc d 4 239 [a0, a1, a2, a3, .int x4] st σ r ↔ Rn sc d 4 241 [a0, a1, a2, a3, .int x4] (.int x4 :: st) σ r := r_iload d4_239 rfl
theorem d4_241 : decode (mC 4) 241 = .ok (.invokevirtual 26, 3) := by decide +kernel
theorem x4_241 {sc : aSc} {d : Nat} {r : aRes} {L : List Value} {f : Nat → Nat → Int32} {g : Nat → Nat → Int64} {h1 h2 : Nat} {y0 : Int32} {y1 : Int32} {y2 : Int32} {y3 : Int32} {z0 : Int32} {o : Nat} (hK : KK[o]? = some (.inl 0)) : Rn sc d 4 241 L [.int y0, .int y1, .int y2, .int y3, .ref o, .int z0] (cS f g h1 h2) r ↔ ∃ (σ3 : aS) (v : Option Value), Cl sc d 3 [.ref o, .int y3, .int y2, .int y1, .int y0] (cS f g h1 h2) (σ3, v) ∧ Rn sc d 4 244 L (v.toList ++ [.int z0]) σ3 r := r_callV (vs := [.int y0, .int y1, .int y2, .int y3]) d4_241 (j := 3) rfl ⟨rfl, by decide, rfl, rfl⟩ (Nat.le_of_ble_eq_true rfl) hK
theorem d4_244 : decode (mC 4) 244 = .ok (.iadd, 1) := by decide +kernel
theorem x4_244 {sc : aSc} {d : Nat} {r : aRes} {L : List Value} {st : List Value} {σ : aS} {x y : Int32} : Rn sc d 4 244 L (.int y :: .int x :: st) σ r ↔ Rn sc d 4 245 L (.int (x + y) :: st) σ r := r_iadd d4_244
theorem d4_245 : decode (mC 4) 245 = .ok (.ireturn, 1) := by decide +kernel
theorem x4_245 {sc : aSc} {d : Nat} {r : aRes} {L : List Value} {σ : aS} {x : Int32} : Rn sc d 4 245 L [.int x] σ r ↔ r = (σ, some (.int x)) := r_iret d4_245 rfl rfl
theorem d4_246 : decode (mC 4) 246 = .ok (.aload_n 0, 1) := by decide +kernel
theorem x4_246 {sc : aSc} {d : Nat} {r : aRes} {x0 : Nat} {a1 : Value} {a2 : Value} {a3 : Value} {a4 : Value} {st : List Value} {σ : aS} : Rn sc d 4 246 [.ref x0, a1, a2, a3, a4] st σ r ↔ Rn sc d 4 247 [.ref x0, a1, a2, a3, a4] (.ref x0 :: st) σ r := r_aload_n d4_246 rfl
theorem d4_247 : decode (mC 4) 247 = .ok (.iconst 0, 1) := by decide +kernel
theorem x4_247 {sc : aSc} {d : Nat} {r : aRes} {L : List Value} {st : List Value} {σ : aS} : Rn sc d 4 247 L st σ r ↔ Rn sc d 4 248 L (.int 0 :: st) σ r := r_iconst d4_247 (by decide)
theorem d4_248 : decode (mC 4) 248 = .ok (.iload_n 2, 1) := by decide +kernel
theorem x4_248 {sc : aSc} {d : Nat} {r : aRes} {a0 : Value} {a1 : Value} {x2 : Int32} {a3 : Value} {a4 : Value} {st : List Value} {σ : aS} : Rn sc d 4 248 [a0, a1, .int x2, a3, a4] st σ r ↔ Rn sc d 4 249 [a0, a1, .int x2, a3, a4] (.int x2 :: st) σ r := r_iload_n d4_248 rfl
theorem d4_249 : decode (mC 4) 249 = .ok (.iload_n 3, 1) := by decide +kernel
theorem x4_249 {sc : aSc} {d : Nat} {r : aRes} {a0 : Value} {a1 : Value} {a2 : Value} {x3 : Int32} {a4 : Value} {st : List Value} {σ : aS} : Rn sc d 4 249 [a0, a1, a2, .int x3, a4] st σ r ↔ Rn sc d 4 250 [a0, a1, a2, .int x3, a4] (.int x3 :: st) σ r := r_iload_n d4_249 rfl
theorem d4_250 : decode (mC 4) 250 = .ok (.iload 4, 2) := by decide +kernel
theorem x4_250 {sc : aSc} {d : Nat} {r : aRes} {a0 : Value} {a1 : Value} {a2 : Value} {a3 : Value} {x4 : Int32} {st : List Value} {σ : aS} : Rn sc d 4 250 [a0, a1, a2, a3, .int x4] st σ r ↔ Rn sc d 4 252 [a0, a1, a2, a3, .int x4] (.int x4 :: st) σ r := r_iload d4_250 rfl
theorem d4_252 : decode (mC 4) 252 = .ok (.invokevirtual 26, 3) := by decide +kernel
theorem x4_252 {sc : aSc} {d : Nat} {r : aRes} {L : List Value} {f : Nat → Nat → Int32} {g : Nat → Nat → Int64} {h1 h2 : Nat} {y0 : Int32} {y1 : Int32} {y2 : Int32} {y3 : Int32}  {o : Nat} (hK : KK[o]? = some (.inl 0)) : Rn sc d 4 252 L [.int y0, .int y1, .int y2, .int y3, .ref o] (cS f g h1 h2) r ↔ ∃ (σ3 : aS) (v : Option Value), Cl sc d 3 [.ref o, .int y3, .int y2, .int y1, .int y0] (cS f g h1 h2) (σ3, v) ∧ Rn sc d 4 255 L (v.toList ++ []) σ3 r := r_callV (vs := [.int y0, .int y1, .int y2, .int y3]) d4_252 (j := 3) rfl ⟨rfl, by decide, rfl, rfl⟩ (Nat.le_of_ble_eq_true rfl) hK
theorem d4_255 : decode (mC 4) 255 = .ok (.aload_n 0, 1) := by decide +kernel
theorem x4_255 {sc : aSc} {d : Nat} {r : aRes} {x0 : Nat} {a1 : Value} {a2 : Value} {a3 : Value} {a4 : Value} {st : List Value} {σ : aS} : Rn sc d 4 255 [.ref x0, a1, a2, a3, a4] st σ r ↔ Rn sc d 4 256 [.ref x0, a1, a2, a3, a4] (.ref x0 :: st) σ r := r_aload_n d4_255 rfl
theorem d4_256 : decode (mC 4) 256 = .ok (.getfield 20, 3) := by decide +kernel
theorem x4_256 {sc : aSc} {d : Nat} {r : aRes} {L : List Value} {st : List Value} {f : Nat → Nat → Int32} {g : Nat → Nat → Int64} {h1 h2 : Nat} {o : Nat} (h17 : 17 ≤ o) (hK : KK[o]? = some (.inl 0)) : Rn sc d 4 256 L (.ref o :: st) (cS f g h1 h2) r ↔ Rn sc d 4 259 L (.int (f o 4) :: st) (cS f g h1 h2) r := r_getI d4_256 (ci := 0) (k := 4) rfl (by decide) (fun _ => rfl) h17 hK
theorem d4_259 : decode (mC 4) 259 = .ok (.ixor, 1) := by decide +kernel
theorem x4_259 {sc : aSc} {d : Nat} {r : aRes} {L : List Value} {st : List Value} {σ : aS} {x y : Int32} : Rn sc d 4 259 L (.int y :: .int x :: st) σ r ↔ Rn sc d 4 260 L (.int (x ^^^ y) :: st) σ r := r_ixor d4_259
theorem d4_260 : decode (mC 4) 260 = .ok (.ireturn, 1) := by decide +kernel
theorem x4_260 {sc : aSc} {d : Nat} {r : aRes} {L : List Value} {σ : aS} {x : Int32} : Rn sc d 4 260 L [.int x] σ r ↔ r = (σ, some (.int x)) := r_iret d4_260 rfl rfl
theorem d4_261 : decode (mC 4) 261 = .ok (.iconst 0, 1) := by decide +kernel
theorem x4_261 {sc : aSc} {d : Nat} {r : aRes} {L : List Value} {st : List Value} {σ : aS} : Rn sc d 4 261 L st σ r ↔ Rn sc d 4 262 L (.int 0 :: st) σ r := r_iconst d4_261 (by decide)
theorem d4_262 : decode (mC 4) 262 = .ok (.ireturn, 1) := by decide +kernel
theorem x4_262 {sc : aSc} {d : Nat} {r : aRes} {L : List Value} {σ : aS} {x : Int32} : Rn sc d 4 262 L [.int x] σ r ↔ r = (σ, some (.int x)) := r_iret d4_262 rfl rfl
theorem d6_0 : decode (mC 6) 0 = .ok (.aload_n 0, 1) := by decide +kernel
theorem x6_0 {sc : aSc} {d : Nat} {r : aRes} {x0 : Nat} {a1 : Value} {st : List Value} {σ : aS} : Rn sc d 6 0 [.ref x0, a1] st σ r ↔ Rn sc d 6 1 [.ref x0, a1] (.ref x0 :: st) σ r := r_aload_n d6_0 rfl
theorem d6_1 : decode (mC 6) 1 = .ok (.aload_n 1, 1) := by decide +kernel
theorem x6_1 {sc : aSc} {d : Nat} {r : aRes} {a0 : Value} {x1 : Nat} {st : List Value} {σ : aS} : Rn sc d 6 1 [a0, .ref x1] st σ r ↔ Rn sc d 6 2 [a0, .ref x1] (.ref x1 :: st) σ r := r_aload_n d6_1 rfl
theorem d6_2 : decode (mC 6) 2 = .ok (.getfield 48, 3) := by decide +kernel
theorem x6_2 {sc : aSc} {d : Nat} {r : aRes} {L : List Value} {st : List Value} {f : Nat → Nat → Int32} {g : Nat → Nat → Int64} {h1 h2 : Nat} {o : Nat} (h17 : 17 ≤ o) (hK : KK[o]? = some (.inl 1)) : Rn sc d 6 2 L (.ref o :: st) (cS f g h1 h2) r ↔ Rn sc d 6 5 L (.int (f o 0) :: st) (cS f g h1 h2) r := r_getI d6_2 (ci := 1) (k := 0) rfl (by decide) (fun _ => rfl) h17 hK
theorem d6_5 : decode (mC 6) 5 = .ok (.putfield 48, 3) := by decide +kernel
theorem x6_5 {sc : aSc} {d : Nat} {r : aRes} {L : List Value} {st : List Value} {f : Nat → Nat → Int32} {g : Nat → Nat → Int64} {h1 h2 : Nat} {o : Nat} {v : Int32} (h17 : 17 ≤ o) (hK : KK[o]? = some (.inl 1)) : Rn sc d 6 5 L (.int v :: .ref o :: st) (cS f g h1 h2) r ↔ Rn sc d 6 8 L st (cS (u2 f o 0 v) g h1 h2) r := r_putI d6_5 (ci := 1) (k := 0) rfl (by decide) h17 hK
theorem d6_8 : decode (mC 6) 8 = .ok (.aload_n 0, 1) := by decide +kernel
theorem x6_8 {sc : aSc} {d : Nat} {r : aRes} {x0 : Nat} {a1 : Value} {st : List Value} {σ : aS} : Rn sc d 6 8 [.ref x0, a1] st σ r ↔ Rn sc d 6 9 [.ref x0, a1] (.ref x0 :: st) σ r := r_aload_n d6_8 rfl
theorem d6_9 : decode (mC 6) 9 = .ok (.aload_n 1, 1) := by decide +kernel
theorem x6_9 {sc : aSc} {d : Nat} {r : aRes} {a0 : Value} {x1 : Nat} {st : List Value} {σ : aS} : Rn sc d 6 9 [a0, .ref x1] st σ r ↔ Rn sc d 6 10 [a0, .ref x1] (.ref x1 :: st) σ r := r_aload_n d6_9 rfl
theorem d6_10 : decode (mC 6) 10 = .ok (.getfield 52, 3) := by decide +kernel
theorem x6_10 {sc : aSc} {d : Nat} {r : aRes} {L : List Value} {st : List Value} {f : Nat → Nat → Int32} {g : Nat → Nat → Int64} {h1 h2 : Nat} {o : Nat} (h17 : 17 ≤ o) (hK : KK[o]? = some (.inl 1)) : Rn sc d 6 10 L (.ref o :: st) (cS f g h1 h2) r ↔ Rn sc d 6 13 L (.int (f o 1) :: st) (cS f g h1 h2) r := r_getI d6_10 (ci := 1) (k := 1) rfl (by decide) (fun _ => rfl) h17 hK
theorem d6_13 : decode (mC 6) 13 = .ok (.putfield 52, 3) := by decide +kernel
theorem x6_13 {sc : aSc} {d : Nat} {r : aRes} {L : List Value} {st : List Value} {f : Nat → Nat → Int32} {g : Nat → Nat → Int64} {h1 h2 : Nat} {o : Nat} {v : Int32} (h17 : 17 ≤ o) (hK : KK[o]? = some (.inl 1)) : Rn sc d 6 13 L (.int v :: .ref o :: st) (cS f g h1 h2) r ↔ Rn sc d 6 16 L st (cS (u2 f o 1 v) g h1 h2) r := r_putI d6_13 (ci := 1) (k := 1) rfl (by decide) h17 hK
theorem d6_16 : decode (mC 6) 16 = .ok (.aload_n 0, 1) := by decide +kernel
theorem x6_16 {sc : aSc} {d : Nat} {r : aRes} {x0 : Nat} {a1 : Value} {st : List Value} {σ : aS} : Rn sc d 6 16 [.ref x0, a1] st σ r ↔ Rn sc d 6 17 [.ref x0, a1] (.ref x0 :: st) σ r := r_aload_n d6_16 rfl
theorem d6_17 : decode (mC 6) 17 = .ok (.aload_n 1, 1) := by decide +kernel
theorem x6_17 {sc : aSc} {d : Nat} {r : aRes} {a0 : Value} {x1 : Nat} {st : List Value} {σ : aS} : Rn sc d 6 17 [a0, .ref x1] st σ r ↔ Rn sc d 6 18 [a0, .ref x1] (.ref x1 :: st) σ r := r_aload_n d6_17 rfl
theorem d6_18 : decode (mC 6) 18 = .ok (.getfield 55, 3) := by decide +kernel
theorem x6_18 {sc : aSc} {d : Nat} {r : aRes} {L : List Value} {st : List Value} {f : Nat → Nat → Int32} {g : Nat → Nat → Int64} {h1 h2 : Nat} {o : Nat} (h17 : 17 ≤ o) (hK : KK[o]? = some (.inl 1)) : Rn sc d 6 18 L (.ref o :: st) (cS f g h1 h2) r ↔ Rn sc d 6 21 L (.int (f o 2) :: st) (cS f g h1 h2) r := r_getI d6_18 (ci := 1) (k := 2) rfl (by decide) (fun _ => rfl) h17 hK
theorem d6_21 : decode (mC 6) 21 = .ok (.putfield 55, 3) := by decide +kernel
theorem x6_21 {sc : aSc} {d : Nat} {r : aRes} {L : List Value} {st : List Value} {f : Nat → Nat → Int32} {g : Nat → Nat → Int64} {h1 h2 : Nat} {o : Nat} {v : Int32} (h17 : 17 ≤ o) (hK : KK[o]? = some (.inl 1)) : Rn sc d 6 21 L (.int v :: .ref o :: st) (cS f g h1 h2) r ↔ Rn sc d 6 24 L st (cS (u2 f o 2 v) g h1 h2) r := r_putI d6_21 (ci := 1) (k := 2) rfl (by decide) h17 hK
theorem d6_24 : decode (mC 6) 24 = .ok (.aload_n 0, 1) := by decide +kernel
theorem x6_24 {sc : aSc} {d : Nat} {r : aRes} {x0 : Nat} {a1 : Value} {st : List Value} {σ : aS} : Rn sc d 6 24 [.ref x0, a1] st σ r ↔ Rn sc d 6 25 [.ref x0, a1] (.ref x0 :: st) σ r := r_aload_n d6_24 rfl
theorem d6_25 : decode (mC 6) 25 = .ok (.aload_n 1, 1) := by decide +kernel
theorem x6_25 {sc : aSc} {d : Nat} {r : aRes} {a0 : Value} {x1 : Nat} {st : List Value} {σ : aS} : Rn sc d 6 25 [a0, .ref x1] st σ r ↔ Rn sc d 6 26 [a0, .ref x1] (.ref x1 :: st) σ r := r_aload_n d6_25 rfl
theorem d6_26 : decode (mC 6) 26 = .ok (.getfield 58, 3) := by decide +kernel
theorem x6_26 {sc : aSc} {d : Nat} {r : aRes} {L : List Value} {st : List Value} {f : Nat → Nat → Int32} {g : Nat → Nat → Int64} {h1 h2 : Nat} {o : Nat} (h17 : 17 ≤ o) (hK : KK[o]? = some (.inl 1)) : Rn sc d 6 26 L (.ref o :: st) (cS f g h1 h2) r ↔ Rn sc d 6 29 L (.int (f o 3) :: st) (cS f g h1 h2) r := r_getI d6_26 (ci := 1) (k := 3) rfl (by decide) (fun _ => rfl) h17 hK
theorem d6_29 : decode (mC 6) 29 = .ok (.putfield 58, 3) := by decide +kernel
theorem x6_29 {sc : aSc} {d : Nat} {r : aRes} {L : List Value} {st : List Value} {f : Nat → Nat → Int32} {g : Nat → Nat → Int64} {h1 h2 : Nat} {o : Nat} {v : Int32} (h17 : 17 ≤ o) (hK : KK[o]? = some (.inl 1)) : Rn sc d 6 29 L (.int v :: .ref o :: st) (cS f g h1 h2) r ↔ Rn sc d 6 32 L st (cS (u2 f o 3 v) g h1 h2) r := r_putI d6_29 (ci := 1) (k := 3) rfl (by decide) h17 hK
theorem d6_32 : decode (mC 6) 32 = .ok (.aload_n 0, 1) := by decide +kernel
theorem x6_32 {sc : aSc} {d : Nat} {r : aRes} {x0 : Nat} {a1 : Value} {st : List Value} {σ : aS} : Rn sc d 6 32 [.ref x0, a1] st σ r ↔ Rn sc d 6 33 [.ref x0, a1] (.ref x0 :: st) σ r := r_aload_n d6_32 rfl
theorem d6_33 : decode (mC 6) 33 = .ok (.aload_n 1, 1) := by decide +kernel
theorem x6_33 {sc : aSc} {d : Nat} {r : aRes} {a0 : Value} {x1 : Nat} {st : List Value} {σ : aS} : Rn sc d 6 33 [a0, .ref x1] st σ r ↔ Rn sc d 6 34 [a0, .ref x1] (.ref x1 :: st) σ r := r_aload_n d6_33 rfl
theorem d6_34 : decode (mC 6) 34 = .ok (.getfield 61, 3) := by decide +kernel
theorem x6_34 {sc : aSc} {d : Nat} {r : aRes} {L : List Value} {st : List Value} {f : Nat → Nat → Int32} {g : Nat → Nat → Int64} {h1 h2 : Nat} {o : Nat} (h17 : 17 ≤ o) (hK : KK[o]? = some (.inl 1)) : Rn sc d 6 34 L (.ref o :: st) (cS f g h1 h2) r ↔ Rn sc d 6 37 L (.int (f o 4) :: st) (cS f g h1 h2) r := r_getI d6_34 (ci := 1) (k := 4) rfl (by decide) (fun _ => rfl) h17 hK
theorem d6_37 : decode (mC 6) 37 = .ok (.putfield 61, 3) := by decide +kernel
theorem x6_37 {sc : aSc} {d : Nat} {r : aRes} {L : List Value} {st : List Value} {f : Nat → Nat → Int32} {g : Nat → Nat → Int64} {h1 h2 : Nat} {o : Nat} {v : Int32} (h17 : 17 ≤ o) (hK : KK[o]? = some (.inl 1)) : Rn sc d 6 37 L (.int v :: .ref o :: st) (cS f g h1 h2) r ↔ Rn sc d 6 40 L st (cS (u2 f o 4 v) g h1 h2) r := r_putI d6_37 (ci := 1) (k := 4) rfl (by decide) h17 hK
theorem d6_40 : decode (mC 6) 40 = .ok (.aload_n 0, 1) := by decide +kernel
theorem x6_40 {sc : aSc} {d : Nat} {r : aRes} {x0 : Nat} {a1 : Value} {st : List Value} {σ : aS} : Rn sc d 6 40 [.ref x0, a1] st σ r ↔ Rn sc d 6 41 [.ref x0, a1] (.ref x0 :: st) σ r := r_aload_n d6_40 rfl
theorem d6_41 : decode (mC 6) 41 = .ok (.aload_n 1, 1) := by decide +kernel
theorem x6_41 {sc : aSc} {d : Nat} {r : aRes} {a0 : Value} {x1 : Nat} {st : List Value} {σ : aS} : Rn sc d 6 41 [a0, .ref x1] st σ r ↔ Rn sc d 6 42 [a0, .ref x1] (.ref x1 :: st) σ r := r_aload_n d6_41 rfl
theorem d6_42 : decode (mC 6) 42 = .ok (.getfield 64, 3) := by decide +kernel
theorem x6_42 {sc : aSc} {d : Nat} {r : aRes} {L : List Value} {st : List Value} {f : Nat → Nat → Int32} {g : Nat → Nat → Int64} {h1 h2 : Nat} {o : Nat} (h17 : 17 ≤ o) (hK : KK[o]? = some (.inl 1)) : Rn sc d 6 42 L (.ref o :: st) (cS f g h1 h2) r ↔ Rn sc d 6 45 L (.int (f o 5) :: st) (cS f g h1 h2) r := r_getI d6_42 (ci := 1) (k := 5) rfl (by decide) (fun _ => rfl) h17 hK
theorem d6_45 : decode (mC 6) 45 = .ok (.putfield 64, 3) := by decide +kernel
theorem x6_45 {sc : aSc} {d : Nat} {r : aRes} {L : List Value} {st : List Value} {f : Nat → Nat → Int32} {g : Nat → Nat → Int64} {h1 h2 : Nat} {o : Nat} {v : Int32} (h17 : 17 ≤ o) (hK : KK[o]? = some (.inl 1)) : Rn sc d 6 45 L (.int v :: .ref o :: st) (cS f g h1 h2) r ↔ Rn sc d 6 48 L st (cS (u2 f o 5 v) g h1 h2) r := r_putI d6_45 (ci := 1) (k := 5) rfl (by decide) h17 hK
theorem d6_48 : decode (mC 6) 48 = .ok (.aload_n 1, 1) := by decide +kernel
theorem x6_48 {sc : aSc} {d : Nat} {r : aRes} {a0 : Value} {x1 : Nat} {st : List Value} {σ : aS} : Rn sc d 6 48 [a0, .ref x1] st σ r ↔ Rn sc d 6 49 [a0, .ref x1] (.ref x1 :: st) σ r := r_aload_n d6_48 rfl
theorem d6_49 : decode (mC 6) 49 = .ok (.getfield 9, 3) := by decide +kernel
theorem x6_49 {sc : aSc} {d : Nat} {r : aRes} {L : List Value} {st : List Value} {f : Nat → Nat → Int32} {g : Nat → Nat → Int64} {h1 h2 : Nat} {o : Nat} (hK : KK[o]? = some (.inl 1)) (hR : (RR h1 h2 o 6).isSome = true) : Rn sc d 6 49 L (.ref o :: st) (cS f g h1 h2) r ↔ Rn sc d 6 52 L (.ref (rf h1 h2 o 6) :: st) (cS f g h1 h2) r := r_getR2 d6_49 (ci := 1) (k := 6) rfl (by decide) (fun _ => rfl) hK hR
theorem d6_52 : decode (mC 6) 52 = .ok (.iconst 0, 1) := by decide +kernel
theorem x6_52 {sc : aSc} {d : Nat} {r : aRes} {L : List Value} {st : List Value} {σ : aS} : Rn sc d 6 52 L st σ r ↔ Rn sc d 6 53 L (.int 0 :: st) σ r := r_iconst d6_52 (by decide)
theorem d6_53 : decode (mC 6) 53 = .ok (.aload_n 0, 1) := by decide +kernel
theorem x6_53 {sc : aSc} {d : Nat} {r : aRes} {x0 : Nat} {a1 : Value} {st : List Value} {σ : aS} : Rn sc d 6 53 [.ref x0, a1] st σ r ↔ Rn sc d 6 54 [.ref x0, a1] (.ref x0 :: st) σ r := r_aload_n d6_53 rfl
theorem d6_54 : decode (mC 6) 54 = .ok (.getfield 9, 3) := by decide +kernel
theorem x6_54 {sc : aSc} {d : Nat} {r : aRes} {L : List Value} {st : List Value} {f : Nat → Nat → Int32} {g : Nat → Nat → Int64} {h1 h2 : Nat} {o : Nat} (hK : KK[o]? = some (.inl 1)) (hR : (RR h1 h2 o 6).isSome = true) : Rn sc d 6 54 L (.ref o :: st) (cS f g h1 h2) r ↔ Rn sc d 6 57 L (.ref (rf h1 h2 o 6) :: st) (cS f g h1 h2) r := r_getR2 d6_54 (ci := 1) (k := 6) rfl (by decide) (fun _ => rfl) hK hR
theorem d6_57 : decode (mC 6) 57 = .ok (.iconst 0, 1) := by decide +kernel
theorem x6_57 {sc : aSc} {d : Nat} {r : aRes} {L : List Value} {st : List Value} {σ : aS} : Rn sc d 6 57 L st σ r ↔ Rn sc d 6 58 L (.int 0 :: st) σ r := r_iconst d6_57 (by decide)
theorem d6_58 : decode (mC 6) 58 = .ok (.aload_n 0, 1) := by decide +kernel
theorem x6_58 {sc : aSc} {d : Nat} {r : aRes} {x0 : Nat} {a1 : Value} {st : List Value} {σ : aS} : Rn sc d 6 58 [.ref x0, a1] st σ r ↔ Rn sc d 6 59 [.ref x0, a1] (.ref x0 :: st) σ r := r_aload_n d6_58 rfl
theorem d6_59 : decode (mC 6) 59 = .ok (.getfield 9, 3) := by decide +kernel
theorem x6_59 {sc : aSc} {d : Nat} {r : aRes} {L : List Value} {st : List Value} {f : Nat → Nat → Int32} {g : Nat → Nat → Int64} {h1 h2 : Nat} {o : Nat} (hK : KK[o]? = some (.inl 1)) (hR : (RR h1 h2 o 6).isSome = true) : Rn sc d 6 59 L (.ref o :: st) (cS f g h1 h2) r ↔ Rn sc d 6 62 L (.ref (rf h1 h2 o 6) :: st) (cS f g h1 h2) r := r_getR2 d6_59 (ci := 1) (k := 6) rfl (by decide) (fun _ => rfl) hK hR
theorem d6_62 : decode (mC 6) 62 = .ok (.arraylength, 1) := by decide +kernel
theorem x6_62 {sc : aSc} {d : Nat} {r : aRes} {L : List Value} {st : List Value} {f : Nat → Nat → Int32} {g : Nat → Nat → Int64} {h1 h2 : Nat} {a : Nat} (h0 : ¬ a = 0) (hA : isA a) : Rn sc d 6 62 L (.ref a :: st) (cS f g h1 h2) r ↔ Rn sc d 6 63 L (.int (nI (aln a)) :: st) (cS f g h1 h2) r := r_alen2 d6_62 h0 hA
theorem d6_63 : decode (mC 6) 63 = .ok (.invokestatic 67, 3) := by decide +kernel
theorem x6_63 {sc : aSc} {d : Nat} {r : aRes} {L : List Value} {f : Nat → Nat → Int32} {g : Nat → Nat → Int64} {h1 h2 : Nat} {a b : Nat} {sp dp n : Int32} (ha17 : 17 ≤ a) (hb17 : 17 ≤ b) (hA : isT9 .int a) (hB : isT9 .int b) (hn : ¬ n < 0) (hdp : ¬ dp < 0) (hsp : ¬ sp < 0) (hb1 : sp.toNatClampNeg + n.toNatClampNeg ≤ aln a) (hb2 : dp.toNatClampNeg + n.toNatClampNeg ≤ aln b) : Rn sc d 6 63 L [.int n, .int dp, .ref b, .int sp, .ref a] (cS f g h1 h2) r ↔ Rn sc d 6 66 L [] (cS (va_up f b (va_cpy (f a) (f b) sp.toNatClampNeg dp.toNatClampNeg n.toNatClampNeg)) g h1 h2) r := r_copyI d6_63 rfl ha17 hb17 hA hB hn hdp hsp (by decide) hb1 hb2
theorem x6_63j {sc : aSc} {d : Nat} {r : aRes} {L : List Value} {f : Nat → Nat → Int32} {g : Nat → Nat → Int64} {h1 h2 : Nat} {a b : Nat} {sp dp n : Int32} (ha17 : 17 ≤ a) (hb17 : 17 ≤ b) (hA : isT9 .long a) (hB : isT9 .long b) (hn : ¬ n < 0) (hdp : ¬ dp < 0) (hsp : ¬ sp < 0) (hb1 : sp.toNatClampNeg + n.toNatClampNeg ≤ aln a) (hb2 : dp.toNatClampNeg + n.toNatClampNeg ≤ aln b) : Rn sc d 6 63 L [.int n, .int dp, .ref b, .int sp, .ref a] (cS f g h1 h2) r ↔ Rn sc d 6 66 L [] (cS f (va_up g b (va_cpy (g a) (g b) sp.toNatClampNeg dp.toNatClampNeg n.toNatClampNeg)) h1 h2) r := r_copyJ d6_63 rfl ha17 hb17 hA hB hn hdp hsp (by decide) hb1 hb2
theorem d6_66 : decode (mC 6) 66 = .ok (.aload_n 1, 1) := by decide +kernel
theorem x6_66 {sc : aSc} {d : Nat} {r : aRes} {a0 : Value} {x1 : Nat} {st : List Value} {σ : aS} : Rn sc d 6 66 [a0, .ref x1] st σ r ↔ Rn sc d 6 67 [a0, .ref x1] (.ref x1 :: st) σ r := r_aload_n d6_66 rfl
theorem d6_67 : decode (mC 6) 67 = .ok (.getfield 15, 3) := by decide +kernel
theorem x6_67 {sc : aSc} {d : Nat} {r : aRes} {L : List Value} {st : List Value} {f : Nat → Nat → Int32} {g : Nat → Nat → Int64} {h1 h2 : Nat} {o : Nat} (hK : KK[o]? = some (.inl 1)) (hR : (RR h1 h2 o 7).isSome = true) : Rn sc d 6 67 L (.ref o :: st) (cS f g h1 h2) r ↔ Rn sc d 6 70 L (.ref (rf h1 h2 o 7) :: st) (cS f g h1 h2) r := r_getR2 d6_67 (ci := 1) (k := 7) rfl (by decide) (fun _ => rfl) hK hR
theorem d6_70 : decode (mC 6) 70 = .ok (.iconst 0, 1) := by decide +kernel
theorem x6_70 {sc : aSc} {d : Nat} {r : aRes} {L : List Value} {st : List Value} {σ : aS} : Rn sc d 6 70 L st σ r ↔ Rn sc d 6 71 L (.int 0 :: st) σ r := r_iconst d6_70 (by decide)
theorem d6_71 : decode (mC 6) 71 = .ok (.aload_n 0, 1) := by decide +kernel
theorem x6_71 {sc : aSc} {d : Nat} {r : aRes} {x0 : Nat} {a1 : Value} {st : List Value} {σ : aS} : Rn sc d 6 71 [.ref x0, a1] st σ r ↔ Rn sc d 6 72 [.ref x0, a1] (.ref x0 :: st) σ r := r_aload_n d6_71 rfl
theorem d6_72 : decode (mC 6) 72 = .ok (.getfield 15, 3) := by decide +kernel
theorem x6_72 {sc : aSc} {d : Nat} {r : aRes} {L : List Value} {st : List Value} {f : Nat → Nat → Int32} {g : Nat → Nat → Int64} {h1 h2 : Nat} {o : Nat} (hK : KK[o]? = some (.inl 1)) (hR : (RR h1 h2 o 7).isSome = true) : Rn sc d 6 72 L (.ref o :: st) (cS f g h1 h2) r ↔ Rn sc d 6 75 L (.ref (rf h1 h2 o 7) :: st) (cS f g h1 h2) r := r_getR2 d6_72 (ci := 1) (k := 7) rfl (by decide) (fun _ => rfl) hK hR
theorem d6_75 : decode (mC 6) 75 = .ok (.iconst 0, 1) := by decide +kernel
theorem x6_75 {sc : aSc} {d : Nat} {r : aRes} {L : List Value} {st : List Value} {σ : aS} : Rn sc d 6 75 L st σ r ↔ Rn sc d 6 76 L (.int 0 :: st) σ r := r_iconst d6_75 (by decide)
theorem d6_76 : decode (mC 6) 76 = .ok (.aload_n 0, 1) := by decide +kernel
theorem x6_76 {sc : aSc} {d : Nat} {r : aRes} {x0 : Nat} {a1 : Value} {st : List Value} {σ : aS} : Rn sc d 6 76 [.ref x0, a1] st σ r ↔ Rn sc d 6 77 [.ref x0, a1] (.ref x0 :: st) σ r := r_aload_n d6_76 rfl
theorem d6_77 : decode (mC 6) 77 = .ok (.getfield 15, 3) := by decide +kernel
theorem x6_77 {sc : aSc} {d : Nat} {r : aRes} {L : List Value} {st : List Value} {f : Nat → Nat → Int32} {g : Nat → Nat → Int64} {h1 h2 : Nat} {o : Nat} (hK : KK[o]? = some (.inl 1)) (hR : (RR h1 h2 o 7).isSome = true) : Rn sc d 6 77 L (.ref o :: st) (cS f g h1 h2) r ↔ Rn sc d 6 80 L (.ref (rf h1 h2 o 7) :: st) (cS f g h1 h2) r := r_getR2 d6_77 (ci := 1) (k := 7) rfl (by decide) (fun _ => rfl) hK hR
theorem d6_80 : decode (mC 6) 80 = .ok (.arraylength, 1) := by decide +kernel
theorem x6_80 {sc : aSc} {d : Nat} {r : aRes} {L : List Value} {st : List Value} {f : Nat → Nat → Int32} {g : Nat → Nat → Int64} {h1 h2 : Nat} {a : Nat} (h0 : ¬ a = 0) (hA : isA a) : Rn sc d 6 80 L (.ref a :: st) (cS f g h1 h2) r ↔ Rn sc d 6 81 L (.int (nI (aln a)) :: st) (cS f g h1 h2) r := r_alen2 d6_80 h0 hA
theorem d6_81 : decode (mC 6) 81 = .ok (.invokestatic 67, 3) := by decide +kernel
theorem x6_81 {sc : aSc} {d : Nat} {r : aRes} {L : List Value} {f : Nat → Nat → Int32} {g : Nat → Nat → Int64} {h1 h2 : Nat} {a b : Nat} {sp dp n : Int32} (ha17 : 17 ≤ a) (hb17 : 17 ≤ b) (hA : isT9 .int a) (hB : isT9 .int b) (hn : ¬ n < 0) (hdp : ¬ dp < 0) (hsp : ¬ sp < 0) (hb1 : sp.toNatClampNeg + n.toNatClampNeg ≤ aln a) (hb2 : dp.toNatClampNeg + n.toNatClampNeg ≤ aln b) : Rn sc d 6 81 L [.int n, .int dp, .ref b, .int sp, .ref a] (cS f g h1 h2) r ↔ Rn sc d 6 84 L [] (cS (va_up f b (va_cpy (f a) (f b) sp.toNatClampNeg dp.toNatClampNeg n.toNatClampNeg)) g h1 h2) r := r_copyI d6_81 rfl ha17 hb17 hA hB hn hdp hsp (by decide) hb1 hb2
theorem x6_81j {sc : aSc} {d : Nat} {r : aRes} {L : List Value} {f : Nat → Nat → Int32} {g : Nat → Nat → Int64} {h1 h2 : Nat} {a b : Nat} {sp dp n : Int32} (ha17 : 17 ≤ a) (hb17 : 17 ≤ b) (hA : isT9 .long a) (hB : isT9 .long b) (hn : ¬ n < 0) (hdp : ¬ dp < 0) (hsp : ¬ sp < 0) (hb1 : sp.toNatClampNeg + n.toNatClampNeg ≤ aln a) (hb2 : dp.toNatClampNeg + n.toNatClampNeg ≤ aln b) : Rn sc d 6 81 L [.int n, .int dp, .ref b, .int sp, .ref a] (cS f g h1 h2) r ↔ Rn sc d 6 84 L [] (cS f (va_up g b (va_cpy (g a) (g b) sp.toNatClampNeg dp.toNatClampNeg n.toNatClampNeg)) h1 h2) r := r_copyJ d6_81 rfl ha17 hb17 hA hB hn hdp hsp (by decide) hb1 hb2
theorem d6_84 : decode (mC 6) 84 = .ok (.aload_n 1, 1) := by decide +kernel
theorem x6_84 {sc : aSc} {d : Nat} {r : aRes} {a0 : Value} {x1 : Nat} {st : List Value} {σ : aS} : Rn sc d 6 84 [a0, .ref x1] st σ r ↔ Rn sc d 6 85 [a0, .ref x1] (.ref x1 :: st) σ r := r_aload_n d6_84 rfl
theorem d6_85 : decode (mC 6) 85 = .ok (.getfield 18, 3) := by decide +kernel
theorem x6_85 {sc : aSc} {d : Nat} {r : aRes} {L : List Value} {st : List Value} {f : Nat → Nat → Int32} {g : Nat → Nat → Int64} {h1 h2 : Nat} {o : Nat} (hK : KK[o]? = some (.inl 1)) (hR : (RR h1 h2 o 8).isSome = true) : Rn sc d 6 85 L (.ref o :: st) (cS f g h1 h2) r ↔ Rn sc d 6 88 L (.ref (rf h1 h2 o 8) :: st) (cS f g h1 h2) r := r_getR2 d6_85 (ci := 1) (k := 8) rfl (by decide) (fun _ => rfl) hK hR
theorem d6_88 : decode (mC 6) 88 = .ok (.iconst 0, 1) := by decide +kernel
theorem x6_88 {sc : aSc} {d : Nat} {r : aRes} {L : List Value} {st : List Value} {σ : aS} : Rn sc d 6 88 L st σ r ↔ Rn sc d 6 89 L (.int 0 :: st) σ r := r_iconst d6_88 (by decide)
theorem d6_89 : decode (mC 6) 89 = .ok (.aload_n 0, 1) := by decide +kernel
theorem x6_89 {sc : aSc} {d : Nat} {r : aRes} {x0 : Nat} {a1 : Value} {st : List Value} {σ : aS} : Rn sc d 6 89 [.ref x0, a1] st σ r ↔ Rn sc d 6 90 [.ref x0, a1] (.ref x0 :: st) σ r := r_aload_n d6_89 rfl
theorem d6_90 : decode (mC 6) 90 = .ok (.getfield 18, 3) := by decide +kernel
theorem x6_90 {sc : aSc} {d : Nat} {r : aRes} {L : List Value} {st : List Value} {f : Nat → Nat → Int32} {g : Nat → Nat → Int64} {h1 h2 : Nat} {o : Nat} (hK : KK[o]? = some (.inl 1)) (hR : (RR h1 h2 o 8).isSome = true) : Rn sc d 6 90 L (.ref o :: st) (cS f g h1 h2) r ↔ Rn sc d 6 93 L (.ref (rf h1 h2 o 8) :: st) (cS f g h1 h2) r := r_getR2 d6_90 (ci := 1) (k := 8) rfl (by decide) (fun _ => rfl) hK hR
theorem d6_93 : decode (mC 6) 93 = .ok (.iconst 0, 1) := by decide +kernel
theorem x6_93 {sc : aSc} {d : Nat} {r : aRes} {L : List Value} {st : List Value} {σ : aS} : Rn sc d 6 93 L st σ r ↔ Rn sc d 6 94 L (.int 0 :: st) σ r := r_iconst d6_93 (by decide)
theorem d6_94 : decode (mC 6) 94 = .ok (.aload_n 0, 1) := by decide +kernel
theorem x6_94 {sc : aSc} {d : Nat} {r : aRes} {x0 : Nat} {a1 : Value} {st : List Value} {σ : aS} : Rn sc d 6 94 [.ref x0, a1] st σ r ↔ Rn sc d 6 95 [.ref x0, a1] (.ref x0 :: st) σ r := r_aload_n d6_94 rfl
theorem d6_95 : decode (mC 6) 95 = .ok (.getfield 18, 3) := by decide +kernel
theorem x6_95 {sc : aSc} {d : Nat} {r : aRes} {L : List Value} {st : List Value} {f : Nat → Nat → Int32} {g : Nat → Nat → Int64} {h1 h2 : Nat} {o : Nat} (hK : KK[o]? = some (.inl 1)) (hR : (RR h1 h2 o 8).isSome = true) : Rn sc d 6 95 L (.ref o :: st) (cS f g h1 h2) r ↔ Rn sc d 6 98 L (.ref (rf h1 h2 o 8) :: st) (cS f g h1 h2) r := r_getR2 d6_95 (ci := 1) (k := 8) rfl (by decide) (fun _ => rfl) hK hR
theorem d6_98 : decode (mC 6) 98 = .ok (.arraylength, 1) := by decide +kernel
theorem x6_98 {sc : aSc} {d : Nat} {r : aRes} {L : List Value} {st : List Value} {f : Nat → Nat → Int32} {g : Nat → Nat → Int64} {h1 h2 : Nat} {a : Nat} (h0 : ¬ a = 0) (hA : isA a) : Rn sc d 6 98 L (.ref a :: st) (cS f g h1 h2) r ↔ Rn sc d 6 99 L (.int (nI (aln a)) :: st) (cS f g h1 h2) r := r_alen2 d6_98 h0 hA
theorem d6_99 : decode (mC 6) 99 = .ok (.invokestatic 67, 3) := by decide +kernel
theorem x6_99 {sc : aSc} {d : Nat} {r : aRes} {L : List Value} {f : Nat → Nat → Int32} {g : Nat → Nat → Int64} {h1 h2 : Nat} {a b : Nat} {sp dp n : Int32} (ha17 : 17 ≤ a) (hb17 : 17 ≤ b) (hA : isT9 .int a) (hB : isT9 .int b) (hn : ¬ n < 0) (hdp : ¬ dp < 0) (hsp : ¬ sp < 0) (hb1 : sp.toNatClampNeg + n.toNatClampNeg ≤ aln a) (hb2 : dp.toNatClampNeg + n.toNatClampNeg ≤ aln b) : Rn sc d 6 99 L [.int n, .int dp, .ref b, .int sp, .ref a] (cS f g h1 h2) r ↔ Rn sc d 6 102 L [] (cS (va_up f b (va_cpy (f a) (f b) sp.toNatClampNeg dp.toNatClampNeg n.toNatClampNeg)) g h1 h2) r := r_copyI d6_99 rfl ha17 hb17 hA hB hn hdp hsp (by decide) hb1 hb2
theorem x6_99j {sc : aSc} {d : Nat} {r : aRes} {L : List Value} {f : Nat → Nat → Int32} {g : Nat → Nat → Int64} {h1 h2 : Nat} {a b : Nat} {sp dp n : Int32} (ha17 : 17 ≤ a) (hb17 : 17 ≤ b) (hA : isT9 .long a) (hB : isT9 .long b) (hn : ¬ n < 0) (hdp : ¬ dp < 0) (hsp : ¬ sp < 0) (hb1 : sp.toNatClampNeg + n.toNatClampNeg ≤ aln a) (hb2 : dp.toNatClampNeg + n.toNatClampNeg ≤ aln b) : Rn sc d 6 99 L [.int n, .int dp, .ref b, .int sp, .ref a] (cS f g h1 h2) r ↔ Rn sc d 6 102 L [] (cS f (va_up g b (va_cpy (g a) (g b) sp.toNatClampNeg dp.toNatClampNeg n.toNatClampNeg)) h1 h2) r := r_copyJ d6_99 rfl ha17 hb17 hA hB hn hdp hsp (by decide) hb1 hb2
theorem d6_102 : decode (mC 6) 102 = .ok (.aload_n 1, 1) := by decide +kernel
theorem x6_102 {sc : aSc} {d : Nat} {r : aRes} {a0 : Value} {x1 : Nat} {st : List Value} {σ : aS} : Rn sc d 6 102 [a0, .ref x1] st σ r ↔ Rn sc d 6 103 [a0, .ref x1] (.ref x1 :: st) σ r := r_aload_n d6_102 rfl
theorem d6_103 : decode (mC 6) 103 = .ok (.getfield 21, 3) := by decide +kernel
theorem x6_103 {sc : aSc} {d : Nat} {r : aRes} {L : List Value} {st : List Value} {f : Nat → Nat → Int32} {g : Nat → Nat → Int64} {h1 h2 : Nat} {o : Nat} (hK : KK[o]? = some (.inl 1)) (hR : (RR h1 h2 o 9).isSome = true) : Rn sc d 6 103 L (.ref o :: st) (cS f g h1 h2) r ↔ Rn sc d 6 106 L (.ref (rf h1 h2 o 9) :: st) (cS f g h1 h2) r := r_getR2 d6_103 (ci := 1) (k := 9) rfl (by decide) (fun _ => rfl) hK hR
theorem d6_106 : decode (mC 6) 106 = .ok (.iconst 0, 1) := by decide +kernel
theorem x6_106 {sc : aSc} {d : Nat} {r : aRes} {L : List Value} {st : List Value} {σ : aS} : Rn sc d 6 106 L st σ r ↔ Rn sc d 6 107 L (.int 0 :: st) σ r := r_iconst d6_106 (by decide)
theorem d6_107 : decode (mC 6) 107 = .ok (.aload_n 0, 1) := by decide +kernel
theorem x6_107 {sc : aSc} {d : Nat} {r : aRes} {x0 : Nat} {a1 : Value} {st : List Value} {σ : aS} : Rn sc d 6 107 [.ref x0, a1] st σ r ↔ Rn sc d 6 108 [.ref x0, a1] (.ref x0 :: st) σ r := r_aload_n d6_107 rfl
theorem d6_108 : decode (mC 6) 108 = .ok (.getfield 21, 3) := by decide +kernel
theorem x6_108 {sc : aSc} {d : Nat} {r : aRes} {L : List Value} {st : List Value} {f : Nat → Nat → Int32} {g : Nat → Nat → Int64} {h1 h2 : Nat} {o : Nat} (hK : KK[o]? = some (.inl 1)) (hR : (RR h1 h2 o 9).isSome = true) : Rn sc d 6 108 L (.ref o :: st) (cS f g h1 h2) r ↔ Rn sc d 6 111 L (.ref (rf h1 h2 o 9) :: st) (cS f g h1 h2) r := r_getR2 d6_108 (ci := 1) (k := 9) rfl (by decide) (fun _ => rfl) hK hR
theorem d6_111 : decode (mC 6) 111 = .ok (.iconst 0, 1) := by decide +kernel
theorem x6_111 {sc : aSc} {d : Nat} {r : aRes} {L : List Value} {st : List Value} {σ : aS} : Rn sc d 6 111 L st σ r ↔ Rn sc d 6 112 L (.int 0 :: st) σ r := r_iconst d6_111 (by decide)
theorem d6_112 : decode (mC 6) 112 = .ok (.aload_n 0, 1) := by decide +kernel
theorem x6_112 {sc : aSc} {d : Nat} {r : aRes} {x0 : Nat} {a1 : Value} {st : List Value} {σ : aS} : Rn sc d 6 112 [.ref x0, a1] st σ r ↔ Rn sc d 6 113 [.ref x0, a1] (.ref x0 :: st) σ r := r_aload_n d6_112 rfl
theorem d6_113 : decode (mC 6) 113 = .ok (.getfield 21, 3) := by decide +kernel
theorem x6_113 {sc : aSc} {d : Nat} {r : aRes} {L : List Value} {st : List Value} {f : Nat → Nat → Int32} {g : Nat → Nat → Int64} {h1 h2 : Nat} {o : Nat} (hK : KK[o]? = some (.inl 1)) (hR : (RR h1 h2 o 9).isSome = true) : Rn sc d 6 113 L (.ref o :: st) (cS f g h1 h2) r ↔ Rn sc d 6 116 L (.ref (rf h1 h2 o 9) :: st) (cS f g h1 h2) r := r_getR2 d6_113 (ci := 1) (k := 9) rfl (by decide) (fun _ => rfl) hK hR
theorem d6_116 : decode (mC 6) 116 = .ok (.arraylength, 1) := by decide +kernel
theorem x6_116 {sc : aSc} {d : Nat} {r : aRes} {L : List Value} {st : List Value} {f : Nat → Nat → Int32} {g : Nat → Nat → Int64} {h1 h2 : Nat} {a : Nat} (h0 : ¬ a = 0) (hA : isA a) : Rn sc d 6 116 L (.ref a :: st) (cS f g h1 h2) r ↔ Rn sc d 6 117 L (.int (nI (aln a)) :: st) (cS f g h1 h2) r := r_alen2 d6_116 h0 hA
theorem d6_117 : decode (mC 6) 117 = .ok (.invokestatic 67, 3) := by decide +kernel
theorem x6_117 {sc : aSc} {d : Nat} {r : aRes} {L : List Value} {f : Nat → Nat → Int32} {g : Nat → Nat → Int64} {h1 h2 : Nat} {a b : Nat} {sp dp n : Int32} (ha17 : 17 ≤ a) (hb17 : 17 ≤ b) (hA : isT9 .int a) (hB : isT9 .int b) (hn : ¬ n < 0) (hdp : ¬ dp < 0) (hsp : ¬ sp < 0) (hb1 : sp.toNatClampNeg + n.toNatClampNeg ≤ aln a) (hb2 : dp.toNatClampNeg + n.toNatClampNeg ≤ aln b) : Rn sc d 6 117 L [.int n, .int dp, .ref b, .int sp, .ref a] (cS f g h1 h2) r ↔ Rn sc d 6 120 L [] (cS (va_up f b (va_cpy (f a) (f b) sp.toNatClampNeg dp.toNatClampNeg n.toNatClampNeg)) g h1 h2) r := r_copyI d6_117 rfl ha17 hb17 hA hB hn hdp hsp (by decide) hb1 hb2
theorem x6_117j {sc : aSc} {d : Nat} {r : aRes} {L : List Value} {f : Nat → Nat → Int32} {g : Nat → Nat → Int64} {h1 h2 : Nat} {a b : Nat} {sp dp n : Int32} (ha17 : 17 ≤ a) (hb17 : 17 ≤ b) (hA : isT9 .long a) (hB : isT9 .long b) (hn : ¬ n < 0) (hdp : ¬ dp < 0) (hsp : ¬ sp < 0) (hb1 : sp.toNatClampNeg + n.toNatClampNeg ≤ aln a) (hb2 : dp.toNatClampNeg + n.toNatClampNeg ≤ aln b) : Rn sc d 6 117 L [.int n, .int dp, .ref b, .int sp, .ref a] (cS f g h1 h2) r ↔ Rn sc d 6 120 L [] (cS f (va_up g b (va_cpy (g a) (g b) sp.toNatClampNeg dp.toNatClampNeg n.toNatClampNeg)) h1 h2) r := r_copyJ d6_117 rfl ha17 hb17 hA hB hn hdp hsp (by decide) hb1 hb2
theorem d6_120 : decode (mC 6) 120 = .ok (.aload_n 1, 1) := by decide +kernel
theorem x6_120 {sc : aSc} {d : Nat} {r : aRes} {a0 : Value} {x1 : Nat} {st : List Value} {σ : aS} : Rn sc d 6 120 [a0, .ref x1] st σ r ↔ Rn sc d 6 121 [a0, .ref x1] (.ref x1 :: st) σ r := r_aload_n d6_120 rfl
theorem d6_121 : decode (mC 6) 121 = .ok (.getfield 24, 3) := by decide +kernel
theorem x6_121 {sc : aSc} {d : Nat} {r : aRes} {L : List Value} {st : List Value} {f : Nat → Nat → Int32} {g : Nat → Nat → Int64} {h1 h2 : Nat} {o : Nat} (hK : KK[o]? = some (.inl 1)) (hR : (RR h1 h2 o 10).isSome = true) : Rn sc d 6 121 L (.ref o :: st) (cS f g h1 h2) r ↔ Rn sc d 6 124 L (.ref (rf h1 h2 o 10) :: st) (cS f g h1 h2) r := r_getR2 d6_121 (ci := 1) (k := 10) rfl (by decide) (fun _ => rfl) hK hR
theorem d6_124 : decode (mC 6) 124 = .ok (.iconst 0, 1) := by decide +kernel
theorem x6_124 {sc : aSc} {d : Nat} {r : aRes} {L : List Value} {st : List Value} {σ : aS} : Rn sc d 6 124 L st σ r ↔ Rn sc d 6 125 L (.int 0 :: st) σ r := r_iconst d6_124 (by decide)
theorem d6_125 : decode (mC 6) 125 = .ok (.aload_n 0, 1) := by decide +kernel
theorem x6_125 {sc : aSc} {d : Nat} {r : aRes} {x0 : Nat} {a1 : Value} {st : List Value} {σ : aS} : Rn sc d 6 125 [.ref x0, a1] st σ r ↔ Rn sc d 6 126 [.ref x0, a1] (.ref x0 :: st) σ r := r_aload_n d6_125 rfl
theorem d6_126 : decode (mC 6) 126 = .ok (.getfield 24, 3) := by decide +kernel
theorem x6_126 {sc : aSc} {d : Nat} {r : aRes} {L : List Value} {st : List Value} {f : Nat → Nat → Int32} {g : Nat → Nat → Int64} {h1 h2 : Nat} {o : Nat} (hK : KK[o]? = some (.inl 1)) (hR : (RR h1 h2 o 10).isSome = true) : Rn sc d 6 126 L (.ref o :: st) (cS f g h1 h2) r ↔ Rn sc d 6 129 L (.ref (rf h1 h2 o 10) :: st) (cS f g h1 h2) r := r_getR2 d6_126 (ci := 1) (k := 10) rfl (by decide) (fun _ => rfl) hK hR
theorem d6_129 : decode (mC 6) 129 = .ok (.iconst 0, 1) := by decide +kernel
theorem x6_129 {sc : aSc} {d : Nat} {r : aRes} {L : List Value} {st : List Value} {σ : aS} : Rn sc d 6 129 L st σ r ↔ Rn sc d 6 130 L (.int 0 :: st) σ r := r_iconst d6_129 (by decide)
theorem d6_130 : decode (mC 6) 130 = .ok (.aload_n 0, 1) := by decide +kernel
theorem x6_130 {sc : aSc} {d : Nat} {r : aRes} {x0 : Nat} {a1 : Value} {st : List Value} {σ : aS} : Rn sc d 6 130 [.ref x0, a1] st σ r ↔ Rn sc d 6 131 [.ref x0, a1] (.ref x0 :: st) σ r := r_aload_n d6_130 rfl
theorem d6_131 : decode (mC 6) 131 = .ok (.getfield 24, 3) := by decide +kernel
theorem x6_131 {sc : aSc} {d : Nat} {r : aRes} {L : List Value} {st : List Value} {f : Nat → Nat → Int32} {g : Nat → Nat → Int64} {h1 h2 : Nat} {o : Nat} (hK : KK[o]? = some (.inl 1)) (hR : (RR h1 h2 o 10).isSome = true) : Rn sc d 6 131 L (.ref o :: st) (cS f g h1 h2) r ↔ Rn sc d 6 134 L (.ref (rf h1 h2 o 10) :: st) (cS f g h1 h2) r := r_getR2 d6_131 (ci := 1) (k := 10) rfl (by decide) (fun _ => rfl) hK hR
theorem d6_134 : decode (mC 6) 134 = .ok (.arraylength, 1) := by decide +kernel
theorem x6_134 {sc : aSc} {d : Nat} {r : aRes} {L : List Value} {st : List Value} {f : Nat → Nat → Int32} {g : Nat → Nat → Int64} {h1 h2 : Nat} {a : Nat} (h0 : ¬ a = 0) (hA : isA a) : Rn sc d 6 134 L (.ref a :: st) (cS f g h1 h2) r ↔ Rn sc d 6 135 L (.int (nI (aln a)) :: st) (cS f g h1 h2) r := r_alen2 d6_134 h0 hA
theorem d6_135 : decode (mC 6) 135 = .ok (.invokestatic 67, 3) := by decide +kernel
theorem x6_135 {sc : aSc} {d : Nat} {r : aRes} {L : List Value} {f : Nat → Nat → Int32} {g : Nat → Nat → Int64} {h1 h2 : Nat} {a b : Nat} {sp dp n : Int32} (ha17 : 17 ≤ a) (hb17 : 17 ≤ b) (hA : isT9 .int a) (hB : isT9 .int b) (hn : ¬ n < 0) (hdp : ¬ dp < 0) (hsp : ¬ sp < 0) (hb1 : sp.toNatClampNeg + n.toNatClampNeg ≤ aln a) (hb2 : dp.toNatClampNeg + n.toNatClampNeg ≤ aln b) : Rn sc d 6 135 L [.int n, .int dp, .ref b, .int sp, .ref a] (cS f g h1 h2) r ↔ Rn sc d 6 138 L [] (cS (va_up f b (va_cpy (f a) (f b) sp.toNatClampNeg dp.toNatClampNeg n.toNatClampNeg)) g h1 h2) r := r_copyI d6_135 rfl ha17 hb17 hA hB hn hdp hsp (by decide) hb1 hb2
theorem x6_135j {sc : aSc} {d : Nat} {r : aRes} {L : List Value} {f : Nat → Nat → Int32} {g : Nat → Nat → Int64} {h1 h2 : Nat} {a b : Nat} {sp dp n : Int32} (ha17 : 17 ≤ a) (hb17 : 17 ≤ b) (hA : isT9 .long a) (hB : isT9 .long b) (hn : ¬ n < 0) (hdp : ¬ dp < 0) (hsp : ¬ sp < 0) (hb1 : sp.toNatClampNeg + n.toNatClampNeg ≤ aln a) (hb2 : dp.toNatClampNeg + n.toNatClampNeg ≤ aln b) : Rn sc d 6 135 L [.int n, .int dp, .ref b, .int sp, .ref a] (cS f g h1 h2) r ↔ Rn sc d 6 138 L [] (cS f (va_up g b (va_cpy (g a) (g b) sp.toNatClampNeg dp.toNatClampNeg n.toNatClampNeg)) h1 h2) r := r_copyJ d6_135 rfl ha17 hb17 hA hB hn hdp hsp (by decide) hb1 hb2
theorem d6_138 : decode (mC 6) 138 = .ok (.aload_n 0, 1) := by decide +kernel
theorem x6_138 {sc : aSc} {d : Nat} {r : aRes} {x0 : Nat} {a1 : Value} {st : List Value} {σ : aS} : Rn sc d 6 138 [.ref x0, a1] st σ r ↔ Rn sc d 6 139 [.ref x0, a1] (.ref x0 :: st) σ r := r_aload_n d6_138 rfl
theorem d6_139 : decode (mC 6) 139 = .ok (.aload_n 1, 1) := by decide +kernel
theorem x6_139 {sc : aSc} {d : Nat} {r : aRes} {a0 : Value} {x1 : Nat} {st : List Value} {σ : aS} : Rn sc d 6 139 [a0, .ref x1] st σ r ↔ Rn sc d 6 140 [a0, .ref x1] (.ref x1 :: st) σ r := r_aload_n d6_139 rfl
theorem d6_140 : decode (mC 6) 140 = .ok (.getfield 73, 3) := by decide +kernel
theorem x6_140 {sc : aSc} {d : Nat} {r : aRes} {L : List Value} {st : List Value} {f : Nat → Nat → Int32} {g : Nat → Nat → Int64} {h1 h2 : Nat} {o : Nat} (h17 : 17 ≤ o) (hK : KK[o]? = some (.inl 1)) : Rn sc d 6 140 L (.ref o :: st) (cS f g h1 h2) r ↔ Rn sc d 6 143 L (.int (f o 11) :: st) (cS f g h1 h2) r := r_getI d6_140 (ci := 1) (k := 11) rfl (by decide) (fun _ => rfl) h17 hK
theorem d6_143 : decode (mC 6) 143 = .ok (.putfield 73, 3) := by decide +kernel
theorem x6_143 {sc : aSc} {d : Nat} {r : aRes} {L : List Value} {st : List Value} {f : Nat → Nat → Int32} {g : Nat → Nat → Int64} {h1 h2 : Nat} {o : Nat} {v : Int32} (h17 : 17 ≤ o) (hK : KK[o]? = some (.inl 1)) : Rn sc d 6 143 L (.int v :: .ref o :: st) (cS f g h1 h2) r ↔ Rn sc d 6 146 L st (cS (u2 f o 11 v) g h1 h2) r := r_putI d6_143 (ci := 1) (k := 11) rfl (by decide) h17 hK
theorem d6_146 : decode (mC 6) 146 = .ok (.aload_n 1, 1) := by decide +kernel
theorem x6_146 {sc : aSc} {d : Nat} {r : aRes} {a0 : Value} {x1 : Nat} {st : List Value} {σ : aS} : Rn sc d 6 146 [a0, .ref x1] st σ r ↔ Rn sc d 6 147 [a0, .ref x1] (.ref x1 :: st) σ r := r_aload_n d6_146 rfl
theorem d6_147 : decode (mC 6) 147 = .ok (.getfield 27, 3) := by decide +kernel
theorem x6_147 {sc : aSc} {d : Nat} {r : aRes} {L : List Value} {st : List Value} {f : Nat → Nat → Int32} {g : Nat → Nat → Int64} {h1 h2 : Nat} {o : Nat} (hK : KK[o]? = some (.inl 1)) (hR : (RR h1 h2 o 12).isSome = true) : Rn sc d 6 147 L (.ref o :: st) (cS f g h1 h2) r ↔ Rn sc d 6 150 L (.ref (rf h1 h2 o 12) :: st) (cS f g h1 h2) r := r_getR2 d6_147 (ci := 1) (k := 12) rfl (by decide) (fun _ => rfl) hK hR
theorem d6_150 : decode (mC 6) 150 = .ok (.iconst 0, 1) := by decide +kernel
theorem x6_150 {sc : aSc} {d : Nat} {r : aRes} {L : List Value} {st : List Value} {σ : aS} : Rn sc d 6 150 L st σ r ↔ Rn sc d 6 151 L (.int 0 :: st) σ r := r_iconst d6_150 (by decide)
theorem d6_151 : decode (mC 6) 151 = .ok (.aload_n 0, 1) := by decide +kernel
theorem x6_151 {sc : aSc} {d : Nat} {r : aRes} {x0 : Nat} {a1 : Value} {st : List Value} {σ : aS} : Rn sc d 6 151 [.ref x0, a1] st σ r ↔ Rn sc d 6 152 [.ref x0, a1] (.ref x0 :: st) σ r := r_aload_n d6_151 rfl
theorem d6_152 : decode (mC 6) 152 = .ok (.getfield 27, 3) := by decide +kernel
theorem x6_152 {sc : aSc} {d : Nat} {r : aRes} {L : List Value} {st : List Value} {f : Nat → Nat → Int32} {g : Nat → Nat → Int64} {h1 h2 : Nat} {o : Nat} (hK : KK[o]? = some (.inl 1)) (hR : (RR h1 h2 o 12).isSome = true) : Rn sc d 6 152 L (.ref o :: st) (cS f g h1 h2) r ↔ Rn sc d 6 155 L (.ref (rf h1 h2 o 12) :: st) (cS f g h1 h2) r := r_getR2 d6_152 (ci := 1) (k := 12) rfl (by decide) (fun _ => rfl) hK hR
theorem d6_155 : decode (mC 6) 155 = .ok (.iconst 0, 1) := by decide +kernel
theorem x6_155 {sc : aSc} {d : Nat} {r : aRes} {L : List Value} {st : List Value} {σ : aS} : Rn sc d 6 155 L st σ r ↔ Rn sc d 6 156 L (.int 0 :: st) σ r := r_iconst d6_155 (by decide)
theorem d6_156 : decode (mC 6) 156 = .ok (.aload_n 0, 1) := by decide +kernel
theorem x6_156 {sc : aSc} {d : Nat} {r : aRes} {x0 : Nat} {a1 : Value} {st : List Value} {σ : aS} : Rn sc d 6 156 [.ref x0, a1] st σ r ↔ Rn sc d 6 157 [.ref x0, a1] (.ref x0 :: st) σ r := r_aload_n d6_156 rfl
theorem d6_157 : decode (mC 6) 157 = .ok (.getfield 27, 3) := by decide +kernel
theorem x6_157 {sc : aSc} {d : Nat} {r : aRes} {L : List Value} {st : List Value} {f : Nat → Nat → Int32} {g : Nat → Nat → Int64} {h1 h2 : Nat} {o : Nat} (hK : KK[o]? = some (.inl 1)) (hR : (RR h1 h2 o 12).isSome = true) : Rn sc d 6 157 L (.ref o :: st) (cS f g h1 h2) r ↔ Rn sc d 6 160 L (.ref (rf h1 h2 o 12) :: st) (cS f g h1 h2) r := r_getR2 d6_157 (ci := 1) (k := 12) rfl (by decide) (fun _ => rfl) hK hR
theorem d6_160 : decode (mC 6) 160 = .ok (.arraylength, 1) := by decide +kernel
theorem x6_160 {sc : aSc} {d : Nat} {r : aRes} {L : List Value} {st : List Value} {f : Nat → Nat → Int32} {g : Nat → Nat → Int64} {h1 h2 : Nat} {a : Nat} (h0 : ¬ a = 0) (hA : isA a) : Rn sc d 6 160 L (.ref a :: st) (cS f g h1 h2) r ↔ Rn sc d 6 161 L (.int (nI (aln a)) :: st) (cS f g h1 h2) r := r_alen2 d6_160 h0 hA
theorem d6_161 : decode (mC 6) 161 = .ok (.invokestatic 67, 3) := by decide +kernel
theorem x6_161 {sc : aSc} {d : Nat} {r : aRes} {L : List Value} {f : Nat → Nat → Int32} {g : Nat → Nat → Int64} {h1 h2 : Nat} {a b : Nat} {sp dp n : Int32} (ha17 : 17 ≤ a) (hb17 : 17 ≤ b) (hA : isT9 .int a) (hB : isT9 .int b) (hn : ¬ n < 0) (hdp : ¬ dp < 0) (hsp : ¬ sp < 0) (hb1 : sp.toNatClampNeg + n.toNatClampNeg ≤ aln a) (hb2 : dp.toNatClampNeg + n.toNatClampNeg ≤ aln b) : Rn sc d 6 161 L [.int n, .int dp, .ref b, .int sp, .ref a] (cS f g h1 h2) r ↔ Rn sc d 6 164 L [] (cS (va_up f b (va_cpy (f a) (f b) sp.toNatClampNeg dp.toNatClampNeg n.toNatClampNeg)) g h1 h2) r := r_copyI d6_161 rfl ha17 hb17 hA hB hn hdp hsp (by decide) hb1 hb2
theorem x6_161j {sc : aSc} {d : Nat} {r : aRes} {L : List Value} {f : Nat → Nat → Int32} {g : Nat → Nat → Int64} {h1 h2 : Nat} {a b : Nat} {sp dp n : Int32} (ha17 : 17 ≤ a) (hb17 : 17 ≤ b) (hA : isT9 .long a) (hB : isT9 .long b) (hn : ¬ n < 0) (hdp : ¬ dp < 0) (hsp : ¬ sp < 0) (hb1 : sp.toNatClampNeg + n.toNatClampNeg ≤ aln a) (hb2 : dp.toNatClampNeg + n.toNatClampNeg ≤ aln b) : Rn sc d 6 161 L [.int n, .int dp, .ref b, .int sp, .ref a] (cS f g h1 h2) r ↔ Rn sc d 6 164 L [] (cS f (va_up g b (va_cpy (g a) (g b) sp.toNatClampNeg dp.toNatClampNeg n.toNatClampNeg)) h1 h2) r := r_copyJ d6_161 rfl ha17 hb17 hA hB hn hdp hsp (by decide) hb1 hb2
theorem d6_164 : decode (mC 6) 164 = .ok (.aload_n 1, 1) := by decide +kernel
theorem x6_164 {sc : aSc} {d : Nat} {r : aRes} {a0 : Value} {x1 : Nat} {st : List Value} {σ : aS} : Rn sc d 6 164 [a0, .ref x1] st σ r ↔ Rn sc d 6 165 [a0, .ref x1] (.ref x1 :: st) σ r := r_aload_n d6_164 rfl
theorem d6_165 : decode (mC 6) 165 = .ok (.getfield 30, 3) := by decide +kernel
theorem x6_165 {sc : aSc} {d : Nat} {r : aRes} {L : List Value} {st : List Value} {f : Nat → Nat → Int32} {g : Nat → Nat → Int64} {h1 h2 : Nat} {o : Nat} (hK : KK[o]? = some (.inl 1)) (hR : (RR h1 h2 o 13).isSome = true) : Rn sc d 6 165 L (.ref o :: st) (cS f g h1 h2) r ↔ Rn sc d 6 168 L (.ref (rf h1 h2 o 13) :: st) (cS f g h1 h2) r := r_getR2 d6_165 (ci := 1) (k := 13) rfl (by decide) (fun _ => rfl) hK hR
theorem d6_168 : decode (mC 6) 168 = .ok (.iconst 0, 1) := by decide +kernel
theorem x6_168 {sc : aSc} {d : Nat} {r : aRes} {L : List Value} {st : List Value} {σ : aS} : Rn sc d 6 168 L st σ r ↔ Rn sc d 6 169 L (.int 0 :: st) σ r := r_iconst d6_168 (by decide)
theorem d6_169 : decode (mC 6) 169 = .ok (.aload_n 0, 1) := by decide +kernel
theorem x6_169 {sc : aSc} {d : Nat} {r : aRes} {x0 : Nat} {a1 : Value} {st : List Value} {σ : aS} : Rn sc d 6 169 [.ref x0, a1] st σ r ↔ Rn sc d 6 170 [.ref x0, a1] (.ref x0 :: st) σ r := r_aload_n d6_169 rfl
theorem d6_170 : decode (mC 6) 170 = .ok (.getfield 30, 3) := by decide +kernel
theorem x6_170 {sc : aSc} {d : Nat} {r : aRes} {L : List Value} {st : List Value} {f : Nat → Nat → Int32} {g : Nat → Nat → Int64} {h1 h2 : Nat} {o : Nat} (hK : KK[o]? = some (.inl 1)) (hR : (RR h1 h2 o 13).isSome = true) : Rn sc d 6 170 L (.ref o :: st) (cS f g h1 h2) r ↔ Rn sc d 6 173 L (.ref (rf h1 h2 o 13) :: st) (cS f g h1 h2) r := r_getR2 d6_170 (ci := 1) (k := 13) rfl (by decide) (fun _ => rfl) hK hR
theorem d6_173 : decode (mC 6) 173 = .ok (.iconst 0, 1) := by decide +kernel
theorem x6_173 {sc : aSc} {d : Nat} {r : aRes} {L : List Value} {st : List Value} {σ : aS} : Rn sc d 6 173 L st σ r ↔ Rn sc d 6 174 L (.int 0 :: st) σ r := r_iconst d6_173 (by decide)
theorem d6_174 : decode (mC 6) 174 = .ok (.aload_n 0, 1) := by decide +kernel
theorem x6_174 {sc : aSc} {d : Nat} {r : aRes} {x0 : Nat} {a1 : Value} {st : List Value} {σ : aS} : Rn sc d 6 174 [.ref x0, a1] st σ r ↔ Rn sc d 6 175 [.ref x0, a1] (.ref x0 :: st) σ r := r_aload_n d6_174 rfl
theorem d6_175 : decode (mC 6) 175 = .ok (.getfield 30, 3) := by decide +kernel
theorem x6_175 {sc : aSc} {d : Nat} {r : aRes} {L : List Value} {st : List Value} {f : Nat → Nat → Int32} {g : Nat → Nat → Int64} {h1 h2 : Nat} {o : Nat} (hK : KK[o]? = some (.inl 1)) (hR : (RR h1 h2 o 13).isSome = true) : Rn sc d 6 175 L (.ref o :: st) (cS f g h1 h2) r ↔ Rn sc d 6 178 L (.ref (rf h1 h2 o 13) :: st) (cS f g h1 h2) r := r_getR2 d6_175 (ci := 1) (k := 13) rfl (by decide) (fun _ => rfl) hK hR
theorem d6_178 : decode (mC 6) 178 = .ok (.arraylength, 1) := by decide +kernel
theorem x6_178 {sc : aSc} {d : Nat} {r : aRes} {L : List Value} {st : List Value} {f : Nat → Nat → Int32} {g : Nat → Nat → Int64} {h1 h2 : Nat} {a : Nat} (h0 : ¬ a = 0) (hA : isA a) : Rn sc d 6 178 L (.ref a :: st) (cS f g h1 h2) r ↔ Rn sc d 6 179 L (.int (nI (aln a)) :: st) (cS f g h1 h2) r := r_alen2 d6_178 h0 hA
theorem d6_179 : decode (mC 6) 179 = .ok (.invokestatic 67, 3) := by decide +kernel
theorem x6_179 {sc : aSc} {d : Nat} {r : aRes} {L : List Value} {f : Nat → Nat → Int32} {g : Nat → Nat → Int64} {h1 h2 : Nat} {a b : Nat} {sp dp n : Int32} (ha17 : 17 ≤ a) (hb17 : 17 ≤ b) (hA : isT9 .int a) (hB : isT9 .int b) (hn : ¬ n < 0) (hdp : ¬ dp < 0) (hsp : ¬ sp < 0) (hb1 : sp.toNatClampNeg + n.toNatClampNeg ≤ aln a) (hb2 : dp.toNatClampNeg + n.toNatClampNeg ≤ aln b) : Rn sc d 6 179 L [.int n, .int dp, .ref b, .int sp, .ref a] (cS f g h1 h2) r ↔ Rn sc d 6 182 L [] (cS (va_up f b (va_cpy (f a) (f b) sp.toNatClampNeg dp.toNatClampNeg n.toNatClampNeg)) g h1 h2) r := r_copyI d6_179 rfl ha17 hb17 hA hB hn hdp hsp (by decide) hb1 hb2
theorem x6_179j {sc : aSc} {d : Nat} {r : aRes} {L : List Value} {f : Nat → Nat → Int32} {g : Nat → Nat → Int64} {h1 h2 : Nat} {a b : Nat} {sp dp n : Int32} (ha17 : 17 ≤ a) (hb17 : 17 ≤ b) (hA : isT9 .long a) (hB : isT9 .long b) (hn : ¬ n < 0) (hdp : ¬ dp < 0) (hsp : ¬ sp < 0) (hb1 : sp.toNatClampNeg + n.toNatClampNeg ≤ aln a) (hb2 : dp.toNatClampNeg + n.toNatClampNeg ≤ aln b) : Rn sc d 6 179 L [.int n, .int dp, .ref b, .int sp, .ref a] (cS f g h1 h2) r ↔ Rn sc d 6 182 L [] (cS f (va_up g b (va_cpy (g a) (g b) sp.toNatClampNeg dp.toNatClampNeg n.toNatClampNeg)) h1 h2) r := r_copyJ d6_179 rfl ha17 hb17 hA hB hn hdp hsp (by decide) hb1 hb2
theorem d6_182 : decode (mC 6) 182 = .ok (.aload_n 0, 1) := by decide +kernel
theorem x6_182 {sc : aSc} {d : Nat} {r : aRes} {x0 : Nat} {a1 : Value} {st : List Value} {σ : aS} : Rn sc d 6 182 [.ref x0, a1] st σ r ↔ Rn sc d 6 183 [.ref x0, a1] (.ref x0 :: st) σ r := r_aload_n d6_182 rfl
theorem d6_183 : decode (mC 6) 183 = .ok (.aload_n 1, 1) := by decide +kernel
theorem x6_183 {sc : aSc} {d : Nat} {r : aRes} {a0 : Value} {x1 : Nat} {st : List Value} {σ : aS} : Rn sc d 6 183 [a0, .ref x1] st σ r ↔ Rn sc d 6 184 [a0, .ref x1] (.ref x1 :: st) σ r := r_aload_n d6_183 rfl
theorem d6_184 : decode (mC 6) 184 = .ok (.getfield 76, 3) := by decide +kernel
theorem x6_184 {sc : aSc} {d : Nat} {r : aRes} {L : List Value} {st : List Value} {f : Nat → Nat → Int32} {g : Nat → Nat → Int64} {h1 h2 : Nat} {o : Nat} (h17 : 17 ≤ o) (hK : KK[o]? = some (.inl 1)) : Rn sc d 6 184 L (.ref o :: st) (cS f g h1 h2) r ↔ Rn sc d 6 187 L (.int (f o 14) :: st) (cS f g h1 h2) r := r_getI d6_184 (ci := 1) (k := 14) rfl (by decide) (fun _ => rfl) h17 hK
theorem d6_187 : decode (mC 6) 187 = .ok (.putfield 76, 3) := by decide +kernel
theorem x6_187 {sc : aSc} {d : Nat} {r : aRes} {L : List Value} {st : List Value} {f : Nat → Nat → Int32} {g : Nat → Nat → Int64} {h1 h2 : Nat} {o : Nat} {v : Int32} (h17 : 17 ≤ o) (hK : KK[o]? = some (.inl 1)) : Rn sc d 6 187 L (.int v :: .ref o :: st) (cS f g h1 h2) r ↔ Rn sc d 6 190 L st (cS (u2 f o 14 v) g h1 h2) r := r_putI d6_187 (ci := 1) (k := 14) rfl (by decide) h17 hK
theorem d6_190 : decode (mC 6) 190 = .ok (.aload_n 1, 1) := by decide +kernel
theorem x6_190 {sc : aSc} {d : Nat} {r : aRes} {a0 : Value} {x1 : Nat} {st : List Value} {σ : aS} : Rn sc d 6 190 [a0, .ref x1] st σ r ↔ Rn sc d 6 191 [a0, .ref x1] (.ref x1 :: st) σ r := r_aload_n d6_190 rfl
theorem d6_191 : decode (mC 6) 191 = .ok (.getfield 33, 3) := by decide +kernel
theorem x6_191 {sc : aSc} {d : Nat} {r : aRes} {L : List Value} {st : List Value} {f : Nat → Nat → Int32} {g : Nat → Nat → Int64} {h1 h2 : Nat} {o : Nat} (hK : KK[o]? = some (.inl 1)) (hR : (RR h1 h2 o 15).isSome = true) : Rn sc d 6 191 L (.ref o :: st) (cS f g h1 h2) r ↔ Rn sc d 6 194 L (.ref (rf h1 h2 o 15) :: st) (cS f g h1 h2) r := r_getR2 d6_191 (ci := 1) (k := 15) rfl (by decide) (fun _ => rfl) hK hR
theorem d6_194 : decode (mC 6) 194 = .ok (.iconst 0, 1) := by decide +kernel
theorem x6_194 {sc : aSc} {d : Nat} {r : aRes} {L : List Value} {st : List Value} {σ : aS} : Rn sc d 6 194 L st σ r ↔ Rn sc d 6 195 L (.int 0 :: st) σ r := r_iconst d6_194 (by decide)
theorem d6_195 : decode (mC 6) 195 = .ok (.aload_n 0, 1) := by decide +kernel
theorem x6_195 {sc : aSc} {d : Nat} {r : aRes} {x0 : Nat} {a1 : Value} {st : List Value} {σ : aS} : Rn sc d 6 195 [.ref x0, a1] st σ r ↔ Rn sc d 6 196 [.ref x0, a1] (.ref x0 :: st) σ r := r_aload_n d6_195 rfl
theorem d6_196 : decode (mC 6) 196 = .ok (.getfield 33, 3) := by decide +kernel
theorem x6_196 {sc : aSc} {d : Nat} {r : aRes} {L : List Value} {st : List Value} {f : Nat → Nat → Int32} {g : Nat → Nat → Int64} {h1 h2 : Nat} {o : Nat} (hK : KK[o]? = some (.inl 1)) (hR : (RR h1 h2 o 15).isSome = true) : Rn sc d 6 196 L (.ref o :: st) (cS f g h1 h2) r ↔ Rn sc d 6 199 L (.ref (rf h1 h2 o 15) :: st) (cS f g h1 h2) r := r_getR2 d6_196 (ci := 1) (k := 15) rfl (by decide) (fun _ => rfl) hK hR
theorem d6_199 : decode (mC 6) 199 = .ok (.iconst 0, 1) := by decide +kernel
theorem x6_199 {sc : aSc} {d : Nat} {r : aRes} {L : List Value} {st : List Value} {σ : aS} : Rn sc d 6 199 L st σ r ↔ Rn sc d 6 200 L (.int 0 :: st) σ r := r_iconst d6_199 (by decide)
theorem d6_200 : decode (mC 6) 200 = .ok (.aload_n 0, 1) := by decide +kernel
theorem x6_200 {sc : aSc} {d : Nat} {r : aRes} {x0 : Nat} {a1 : Value} {st : List Value} {σ : aS} : Rn sc d 6 200 [.ref x0, a1] st σ r ↔ Rn sc d 6 201 [.ref x0, a1] (.ref x0 :: st) σ r := r_aload_n d6_200 rfl
theorem d6_201 : decode (mC 6) 201 = .ok (.getfield 33, 3) := by decide +kernel
theorem x6_201 {sc : aSc} {d : Nat} {r : aRes} {L : List Value} {st : List Value} {f : Nat → Nat → Int32} {g : Nat → Nat → Int64} {h1 h2 : Nat} {o : Nat} (hK : KK[o]? = some (.inl 1)) (hR : (RR h1 h2 o 15).isSome = true) : Rn sc d 6 201 L (.ref o :: st) (cS f g h1 h2) r ↔ Rn sc d 6 204 L (.ref (rf h1 h2 o 15) :: st) (cS f g h1 h2) r := r_getR2 d6_201 (ci := 1) (k := 15) rfl (by decide) (fun _ => rfl) hK hR
theorem d6_204 : decode (mC 6) 204 = .ok (.arraylength, 1) := by decide +kernel
theorem x6_204 {sc : aSc} {d : Nat} {r : aRes} {L : List Value} {st : List Value} {f : Nat → Nat → Int32} {g : Nat → Nat → Int64} {h1 h2 : Nat} {a : Nat} (h0 : ¬ a = 0) (hA : isA a) : Rn sc d 6 204 L (.ref a :: st) (cS f g h1 h2) r ↔ Rn sc d 6 205 L (.int (nI (aln a)) :: st) (cS f g h1 h2) r := r_alen2 d6_204 h0 hA
theorem d6_205 : decode (mC 6) 205 = .ok (.invokestatic 67, 3) := by decide +kernel
theorem x6_205 {sc : aSc} {d : Nat} {r : aRes} {L : List Value} {f : Nat → Nat → Int32} {g : Nat → Nat → Int64} {h1 h2 : Nat} {a b : Nat} {sp dp n : Int32} (ha17 : 17 ≤ a) (hb17 : 17 ≤ b) (hA : isT9 .int a) (hB : isT9 .int b) (hn : ¬ n < 0) (hdp : ¬ dp < 0) (hsp : ¬ sp < 0) (hb1 : sp.toNatClampNeg + n.toNatClampNeg ≤ aln a) (hb2 : dp.toNatClampNeg + n.toNatClampNeg ≤ aln b) : Rn sc d 6 205 L [.int n, .int dp, .ref b, .int sp, .ref a] (cS f g h1 h2) r ↔ Rn sc d 6 208 L [] (cS (va_up f b (va_cpy (f a) (f b) sp.toNatClampNeg dp.toNatClampNeg n.toNatClampNeg)) g h1 h2) r := r_copyI d6_205 rfl ha17 hb17 hA hB hn hdp hsp (by decide) hb1 hb2
theorem x6_205j {sc : aSc} {d : Nat} {r : aRes} {L : List Value} {f : Nat → Nat → Int32} {g : Nat → Nat → Int64} {h1 h2 : Nat} {a b : Nat} {sp dp n : Int32} (ha17 : 17 ≤ a) (hb17 : 17 ≤ b) (hA : isT9 .long a) (hB : isT9 .long b) (hn : ¬ n < 0) (hdp : ¬ dp < 0) (hsp : ¬ sp < 0) (hb1 : sp.toNatClampNeg + n.toNatClampNeg ≤ aln a) (hb2 : dp.toNatClampNeg + n.toNatClampNeg ≤ aln b) : Rn sc d 6 205 L [.int n, .int dp, .ref b, .int sp, .ref a] (cS f g h1 h2) r ↔ Rn sc d 6 208 L [] (cS f (va_up g b (va_cpy (g a) (g b) sp.toNatClampNeg dp.toNatClampNeg n.toNatClampNeg)) h1 h2) r := r_copyJ d6_205 rfl ha17 hb17 hA hB hn hdp hsp (by decide) hb1 hb2
theorem d6_208 : decode (mC 6) 208 = .ok (.aload_n 1, 1) := by decide +kernel
theorem x6_208 {sc : aSc} {d : Nat} {r : aRes} {a0 : Value} {x1 : Nat} {st : List Value} {σ : aS} : Rn sc d 6 208 [a0, .ref x1] st σ r ↔ Rn sc d 6 209 [a0, .ref x1] (.ref x1 :: st) σ r := r_aload_n d6_208 rfl
theorem d6_209 : decode (mC 6) 209 = .ok (.getfield 36, 3) := by decide +kernel
theorem x6_209 {sc : aSc} {d : Nat} {r : aRes} {L : List Value} {st : List Value} {f : Nat → Nat → Int32} {g : Nat → Nat → Int64} {h1 h2 : Nat} {o : Nat} (hK : KK[o]? = some (.inl 1)) (hR : (RR h1 h2 o 16).isSome = true) : Rn sc d 6 209 L (.ref o :: st) (cS f g h1 h2) r ↔ Rn sc d 6 212 L (.ref (rf h1 h2 o 16) :: st) (cS f g h1 h2) r := r_getR2 d6_209 (ci := 1) (k := 16) rfl (by decide) (fun _ => rfl) hK hR
theorem d6_212 : decode (mC 6) 212 = .ok (.iconst 0, 1) := by decide +kernel
theorem x6_212 {sc : aSc} {d : Nat} {r : aRes} {L : List Value} {st : List Value} {σ : aS} : Rn sc d 6 212 L st σ r ↔ Rn sc d 6 213 L (.int 0 :: st) σ r := r_iconst d6_212 (by decide)
theorem d6_213 : decode (mC 6) 213 = .ok (.aload_n 0, 1) := by decide +kernel
theorem x6_213 {sc : aSc} {d : Nat} {r : aRes} {x0 : Nat} {a1 : Value} {st : List Value} {σ : aS} : Rn sc d 6 213 [.ref x0, a1] st σ r ↔ Rn sc d 6 214 [.ref x0, a1] (.ref x0 :: st) σ r := r_aload_n d6_213 rfl
theorem d6_214 : decode (mC 6) 214 = .ok (.getfield 36, 3) := by decide +kernel
theorem x6_214 {sc : aSc} {d : Nat} {r : aRes} {L : List Value} {st : List Value} {f : Nat → Nat → Int32} {g : Nat → Nat → Int64} {h1 h2 : Nat} {o : Nat} (hK : KK[o]? = some (.inl 1)) (hR : (RR h1 h2 o 16).isSome = true) : Rn sc d 6 214 L (.ref o :: st) (cS f g h1 h2) r ↔ Rn sc d 6 217 L (.ref (rf h1 h2 o 16) :: st) (cS f g h1 h2) r := r_getR2 d6_214 (ci := 1) (k := 16) rfl (by decide) (fun _ => rfl) hK hR
theorem d6_217 : decode (mC 6) 217 = .ok (.iconst 0, 1) := by decide +kernel
theorem x6_217 {sc : aSc} {d : Nat} {r : aRes} {L : List Value} {st : List Value} {σ : aS} : Rn sc d 6 217 L st σ r ↔ Rn sc d 6 218 L (.int 0 :: st) σ r := r_iconst d6_217 (by decide)
theorem d6_218 : decode (mC 6) 218 = .ok (.aload_n 0, 1) := by decide +kernel
theorem x6_218 {sc : aSc} {d : Nat} {r : aRes} {x0 : Nat} {a1 : Value} {st : List Value} {σ : aS} : Rn sc d 6 218 [.ref x0, a1] st σ r ↔ Rn sc d 6 219 [.ref x0, a1] (.ref x0 :: st) σ r := r_aload_n d6_218 rfl
theorem d6_219 : decode (mC 6) 219 = .ok (.getfield 36, 3) := by decide +kernel
theorem x6_219 {sc : aSc} {d : Nat} {r : aRes} {L : List Value} {st : List Value} {f : Nat → Nat → Int32} {g : Nat → Nat → Int64} {h1 h2 : Nat} {o : Nat} (hK : KK[o]? = some (.inl 1)) (hR : (RR h1 h2 o 16).isSome = true) : Rn sc d 6 219 L (.ref o :: st) (cS f g h1 h2) r ↔ Rn sc d 6 222 L (.ref (rf h1 h2 o 16) :: st) (cS f g h1 h2) r := r_getR2 d6_219 (ci := 1) (k := 16) rfl (by decide) (fun _ => rfl) hK hR
theorem d6_222 : decode (mC 6) 222 = .ok (.arraylength, 1) := by decide +kernel
theorem x6_222 {sc : aSc} {d : Nat} {r : aRes} {L : List Value} {st : List Value} {f : Nat → Nat → Int32} {g : Nat → Nat → Int64} {h1 h2 : Nat} {a : Nat} (h0 : ¬ a = 0) (hA : isA a) : Rn sc d 6 222 L (.ref a :: st) (cS f g h1 h2) r ↔ Rn sc d 6 223 L (.int (nI (aln a)) :: st) (cS f g h1 h2) r := r_alen2 d6_222 h0 hA
theorem d6_223 : decode (mC 6) 223 = .ok (.invokestatic 67, 3) := by decide +kernel
theorem x6_223 {sc : aSc} {d : Nat} {r : aRes} {L : List Value} {f : Nat → Nat → Int32} {g : Nat → Nat → Int64} {h1 h2 : Nat} {a b : Nat} {sp dp n : Int32} (ha17 : 17 ≤ a) (hb17 : 17 ≤ b) (hA : isT9 .int a) (hB : isT9 .int b) (hn : ¬ n < 0) (hdp : ¬ dp < 0) (hsp : ¬ sp < 0) (hb1 : sp.toNatClampNeg + n.toNatClampNeg ≤ aln a) (hb2 : dp.toNatClampNeg + n.toNatClampNeg ≤ aln b) : Rn sc d 6 223 L [.int n, .int dp, .ref b, .int sp, .ref a] (cS f g h1 h2) r ↔ Rn sc d 6 226 L [] (cS (va_up f b (va_cpy (f a) (f b) sp.toNatClampNeg dp.toNatClampNeg n.toNatClampNeg)) g h1 h2) r := r_copyI d6_223 rfl ha17 hb17 hA hB hn hdp hsp (by decide) hb1 hb2
theorem x6_223j {sc : aSc} {d : Nat} {r : aRes} {L : List Value} {f : Nat → Nat → Int32} {g : Nat → Nat → Int64} {h1 h2 : Nat} {a b : Nat} {sp dp n : Int32} (ha17 : 17 ≤ a) (hb17 : 17 ≤ b) (hA : isT9 .long a) (hB : isT9 .long b) (hn : ¬ n < 0) (hdp : ¬ dp < 0) (hsp : ¬ sp < 0) (hb1 : sp.toNatClampNeg + n.toNatClampNeg ≤ aln a) (hb2 : dp.toNatClampNeg + n.toNatClampNeg ≤ aln b) : Rn sc d 6 223 L [.int n, .int dp, .ref b, .int sp, .ref a] (cS f g h1 h2) r ↔ Rn sc d 6 226 L [] (cS f (va_up g b (va_cpy (g a) (g b) sp.toNatClampNeg dp.toNatClampNeg n.toNatClampNeg)) h1 h2) r := r_copyJ d6_223 rfl ha17 hb17 hA hB hn hdp hsp (by decide) hb1 hb2
theorem d6_226 : decode (mC 6) 226 = .ok (.aload_n 0, 1) := by decide +kernel
theorem x6_226 {sc : aSc} {d : Nat} {r : aRes} {x0 : Nat} {a1 : Value} {st : List Value} {σ : aS} : Rn sc d 6 226 [.ref x0, a1] st σ r ↔ Rn sc d 6 227 [.ref x0, a1] (.ref x0 :: st) σ r := r_aload_n d6_226 rfl
theorem d6_227 : decode (mC 6) 227 = .ok (.aload_n 1, 1) := by decide +kernel
theorem x6_227 {sc : aSc} {d : Nat} {r : aRes} {a0 : Value} {x1 : Nat} {st : List Value} {σ : aS} : Rn sc d 6 227 [a0, .ref x1] st σ r ↔ Rn sc d 6 228 [a0, .ref x1] (.ref x1 :: st) σ r := r_aload_n d6_227 rfl
theorem d6_228 : decode (mC 6) 228 = .ok (.getfield 44, 3) := by decide +kernel
theorem x6_228 {sc : aSc} {d : Nat} {r : aRes} {L : List Value} {st : List Value} {f : Nat → Nat → Int32} {g : Nat → Nat → Int64} {h1 h2 : Nat} {o : Nat} (hK : KK[o]? = some (.inl 1)) (hR : (RR h1 h2 o 17).isSome = true) : Rn sc d 6 228 L (.ref o :: st) (cS f g h1 h2) r ↔ Rn sc d 6 231 L (.ref (rf h1 h2 o 17) :: st) (cS f g h1 h2) r := r_getR2 d6_228 (ci := 1) (k := 17) rfl (by decide) (fun _ => rfl) hK hR
theorem d6_231 : decode (mC 6) 231 = .ok (.putfield 44, 3) := by decide +kernel
theorem x6_231 {sc : aSc} {d : Nat} {r : aRes} {L : List Value} {st : List Value} {f : Nat → Nat → Int32} {g : Nat → Nat → Int64} {h1 h2 : Nat} {q : Nat} : Rn sc d 6 231 L (.ref q :: .ref 56 :: st) (cS f g h1 h2) r ↔ Rn sc d 6 234 L st (cS f g q h2) r := r_putH d6_231 rfl
theorem x6_231b {sc : aSc} {d : Nat} {r : aRes} {L : List Value} {st : List Value} {f : Nat → Nat → Int32} {g : Nat → Nat → Int64} {h1 h2 : Nat} {q : Nat} : Rn sc d 6 231 L (.ref q :: .ref 67 :: st) (cS f g h1 h2) r ↔ Rn sc d 6 234 L st (cS f g h1 q) r := r_putH2 d6_231 rfl
theorem d6_234 : decode (mC 6) 234 = .ok (.return_, 1) := by decide +kernel
theorem x6_234 {sc : aSc} {d : Nat} {r : aRes} {L : List Value} {σ : aS} : Rn sc d 6 234 L [] σ r ↔ r = (σ, none) := r_vret d6_234 rfl
theorem d7_0 : decode (mC 7) 0 = .ok (.iload_n 1, 1) := by decide +kernel
theorem x7_0 {sc : aSc} {d : Nat} {r : aRes} {a0 : Value} {x1 : Int32} {st : List Value} {σ : aS} : Rn sc d 7 0 [a0, .int x1] st σ r ↔ Rn sc d 7 1 [a0, .int x1] (.int x1 :: st) σ r := r_iload_n d7_0 rfl
theorem d7_1 : decode (mC 7) 1 = .ok (.ifCond .lt 15, 3) := by decide +kernel
theorem x7_1 {sc : aSc} {d : Nat} {r : aRes} {L : List Value} {st : List Value} {σ : aS} {x : Int32} : Rn sc d 7 1 L (.int x :: st) σ r ↔ if x < 0 then Rn sc d 7 16 L st σ r else Rn sc d 7 4 L st σ r := r_if_lt d7_1 rfl
theorem d7_4 : decode (mC 7) 4 = .ok (.iload_n 1, 1) := by decide +kernel
theorem x7_4 {sc : aSc} {d : Nat} {r : aRes} {a0 : Value} {x1 : Int32} {st : List Value} {σ : aS} : Rn sc d 7 4 [a0, .int x1] st σ r ↔ Rn sc d 7 5 [a0, .int x1] (.int x1 :: st) σ r := r_iload_n d7_4 rfl
theorem d7_5 : decode (mC 7) 5 = .ok (.aload_n 0, 1) := by decide +kernel
theorem x7_5 {sc : aSc} {d : Nat} {r : aRes} {x0 : Nat} {a1 : Value} {st : List Value} {σ : aS} : Rn sc d 7 5 [.ref x0, a1] st σ r ↔ Rn sc d 7 6 [.ref x0, a1] (.ref x0 :: st) σ r := r_aload_n d7_5 rfl
theorem d7_6 : decode (mC 7) 6 = .ok (.getfield 48, 3) := by decide +kernel
theorem x7_6 {sc : aSc} {d : Nat} {r : aRes} {L : List Value} {st : List Value} {f : Nat → Nat → Int32} {g : Nat → Nat → Int64} {h1 h2 : Nat} {o : Nat} (h17 : 17 ≤ o) (hK : KK[o]? = some (.inl 1)) : Rn sc d 7 6 L (.ref o :: st) (cS f g h1 h2) r ↔ Rn sc d 7 9 L (.int (f o 0) :: st) (cS f g h1 h2) r := r_getI d7_6 (ci := 1) (k := 0) rfl (by decide) (fun _ => rfl) h17 hK
theorem d7_9 : decode (mC 7) 9 = .ok (.if_icmp .ge 7, 3) := by decide +kernel
theorem x7_9 {sc : aSc} {d : Nat} {r : aRes} {L : List Value} {st : List Value} {σ : aS} {x y : Int32} : Rn sc d 7 9 L (.int y :: .int x :: st) σ r ↔ if x < y then Rn sc d 7 12 L st σ r else Rn sc d 7 16 L st σ r := r_icmp_ge d7_9 rfl
theorem d7_12 : decode (mC 7) 12 = .ok (.iconst 1, 1) := by decide +kernel
theorem x7_12 {sc : aSc} {d : Nat} {r : aRes} {L : List Value} {st : List Value} {σ : aS} : Rn sc d 7 12 L st σ r ↔ Rn sc d 7 13 L (.int 1 :: st) σ r := r_iconst d7_12 (by decide)
theorem d7_13 : decode (mC 7) 13 = .ok (.goto 4, 3) := by decide +kernel
theorem x7_13 {sc : aSc} {d : Nat} {r : aRes} {L : List Value} {st : List Value} {σ : aS} : Rn sc d 7 13 L st σ r ↔ Rn sc d 7 17 L st σ r := r_goto d7_13 rfl
theorem d7_16 : decode (mC 7) 16 = .ok (.iconst 0, 1) := by decide +kernel
theorem x7_16 {sc : aSc} {d : Nat} {r : aRes} {L : List Value} {st : List Value} {σ : aS} : Rn sc d 7 16 L st σ r ↔ Rn sc d 7 17 L (.int 0 :: st) σ r := r_iconst d7_16 (by decide)
theorem d7_17 : decode (mC 7) 17 = .ok (.ireturn, 1) := by decide +kernel
theorem x7_17 {sc : aSc} {d : Nat} {r : aRes} {L : List Value} {σ : aS} {x : Int32} (hn : x &&& 1 = x) : Rn sc d 7 17 L [.int x] σ r ↔ r = (σ, some (.int x)) := r_iret d7_17 rfl (congrArg Value.int hn)
theorem d8_0 : decode (mC 8) 0 = .ok (.iconst 1, 1) := by decide +kernel
theorem x8_0 {sc : aSc} {d : Nat} {r : aRes} {L : List Value} {st : List Value} {σ : aS} : Rn sc d 8 0 L st σ r ↔ Rn sc d 8 1 L (.int 1 :: st) σ r := r_iconst d8_0 (by decide)
theorem d8_1 : decode (mC 8) 1 = .ok (.aload_n 0, 1) := by decide +kernel
theorem x8_1 {sc : aSc} {d : Nat} {r : aRes} {x0 : Nat} {st : List Value} {σ : aS} : Rn sc d 8 1 [.ref x0] st σ r ↔ Rn sc d 8 2 [.ref x0] (.ref x0 :: st) σ r := r_aload_n d8_1 rfl
theorem d8_2 : decode (mC 8) 2 = .ok (.getfield 48, 3) := by decide +kernel
theorem x8_2 {sc : aSc} {d : Nat} {r : aRes} {L : List Value} {st : List Value} {f : Nat → Nat → Int32} {g : Nat → Nat → Int64} {h1 h2 : Nat} {o : Nat} (h17 : 17 ≤ o) (hK : KK[o]? = some (.inl 1)) : Rn sc d 8 2 L (.ref o :: st) (cS f g h1 h2) r ↔ Rn sc d 8 5 L (.int (f o 0) :: st) (cS f g h1 h2) r := r_getI d8_2 (ci := 1) (k := 0) rfl (by decide) (fun _ => rfl) h17 hK
theorem d8_5 : decode (mC 8) 5 = .ok (.ishl, 1) := by decide +kernel
theorem x8_5 {sc : aSc} {d : Nat} {r : aRes} {L : List Value} {st : List Value} {σ : aS} {x y : Int32} : Rn sc d 8 5 L (.int y :: .int x :: st) σ r ↔ Rn sc d 8 6 L (.int (x <<< (y &&& 31)) :: st) σ r := r_ishl d8_5
theorem d8_6 : decode (mC 8) 6 = .ok (.iconst 1, 1) := by decide +kernel
theorem x8_6 {sc : aSc} {d : Nat} {r : aRes} {L : List Value} {st : List Value} {σ : aS} : Rn sc d 8 6 L st σ r ↔ Rn sc d 8 7 L (.int 1 :: st) σ r := r_iconst d8_6 (by decide)
theorem d8_7 : decode (mC 8) 7 = .ok (.isub, 1) := by decide +kernel
theorem x8_7 {sc : aSc} {d : Nat} {r : aRes} {L : List Value} {st : List Value} {σ : aS} {x y : Int32} : Rn sc d 8 7 L (.int y :: .int x :: st) σ r ↔ Rn sc d 8 8 L (.int (x - y) :: st) σ r := r_isub d8_7
theorem d8_8 : decode (mC 8) 8 = .ok (.ireturn, 1) := by decide +kernel
theorem x8_8 {sc : aSc} {d : Nat} {r : aRes} {L : List Value} {σ : aS} {x : Int32} : Rn sc d 8 8 L [.int x] σ r ↔ r = (σ, some (.int x)) := r_iret d8_8 rfl rfl
theorem d9_0 : decode (mC 9) 0 = .ok (.aload_n 0, 1) := by decide +kernel
theorem x9_0 {sc : aSc} {d : Nat} {r : aRes} {x0 : Nat} {a1 : Value} {a2 : Value} {a3 : Value} {a4 : Value} {a5 : Value} {a6 : Value} {a7 : Value} {st : List Value} {σ : aS} : Rn sc d 9 0 [.ref x0, a1, a2, a3, a4, a5, a6, a7] st σ r ↔ Rn sc d 9 1 [.ref x0, a1, a2, a3, a4, a5, a6, a7] (.ref x0 :: st) σ r := r_aload_n d9_0 rfl
theorem d9_1 : decode (mC 9) 1 = .ok (.getfield 48, 3) := by decide +kernel
theorem x9_1 {sc : aSc} {d : Nat} {r : aRes} {L : List Value} {st : List Value} {f : Nat → Nat → Int32} {g : Nat → Nat → Int64} {h1 h2 : Nat} {o : Nat} (h17 : 17 ≤ o) (hK : KK[o]? = some (.inl 1)) : Rn sc d 9 1 L (.ref o :: st) (cS f g h1 h2) r ↔ Rn sc d 9 4 L (.int (f o 0) :: st) (cS f g h1 h2) r := r_getI d9_1 (ci := 1) (k := 0) rfl (by decide) (fun _ => rfl) h17 hK
theorem d9_4 : decode (mC 9) 4 = .ok (.istore 7, 2) := by decide +kernel
theorem x9_4 {sc : aSc} {d : Nat} {r : aRes} {a0 : Value} {a1 : Value} {a2 : Value} {a3 : Value} {a4 : Value} {a5 : Value} {x6 : Int32} {a7 : Value} {st : List Value} {σ : aS} {y : Int32} : Rn sc d 9 4 [a0, a1, a2, a3, a4, a5, .int x6, a7] (.int y :: st) σ r ↔ Rn sc d 9 6 [a0, a1, a2, a3, a4, a5, .int x6, .int y] st σ r := r_istore d9_4 (Nat.le_of_ble_eq_true rfl) rfl
theorem d9_6 : decode (mC 9) 6 = .ok (.aload_n 0, 1) := by decide +kernel
theorem x9_6 {sc : aSc} {d : Nat} {r : aRes} {x0 : Nat} {a1 : Value} {a2 : Value} {a3 : Value} {a4 : Value} {a5 : Value} {a6 : Value} {a7 : Value} {st : List Value} {σ : aS} : Rn sc d 9 6 [.ref x0, a1, a2, a3, a4, a5, a6, a7] st σ r ↔ Rn sc d 9 7 [.ref x0, a1, a2, a3, a4, a5, a6, a7] (.ref x0 :: st) σ r := r_aload_n d9_6 rfl
theorem d9_7 : decode (mC 9) 7 = .ok (.getfield 9, 3) := by decide +kernel
theorem x9_7 {sc : aSc} {d : Nat} {r : aRes} {L : List Value} {st : List Value} {f : Nat → Nat → Int32} {g : Nat → Nat → Int64} {h1 h2 : Nat} {o : Nat} (hK : KK[o]? = some (.inl 1)) (hR : (RR h1 h2 o 6).isSome = true) : Rn sc d 9 7 L (.ref o :: st) (cS f g h1 h2) r ↔ Rn sc d 9 10 L (.ref (rf h1 h2 o 6) :: st) (cS f g h1 h2) r := r_getR2 d9_7 (ci := 1) (k := 6) rfl (by decide) (fun _ => rfl) hK hR
theorem d9_10 : decode (mC 9) 10 = .ok (.iload 7, 2) := by decide +kernel
theorem x9_10 {sc : aSc} {d : Nat} {r : aRes} {a0 : Value} {a1 : Value} {a2 : Value} {a3 : Value} {a4 : Value} {a5 : Value} {a6 : Value} {x7 : Int32} {st : List Value} {σ : aS} : Rn sc d 9 10 [a0, a1, a2, a3, a4, a5, a6, .int x7] st σ r ↔ Rn sc d 9 12 [a0, a1, a2, a3, a4, a5, a6, .int x7] (.int x7 :: st) σ r := r_iload d9_10 rfl
theorem d9_12 : decode (mC 9) 12 = .ok (.iload_n 1, 1) := by decide +kernel
theorem x9_12 {sc : aSc} {d : Nat} {r : aRes} {a0 : Value} {x1 : Int32} {a2 : Value} {a3 : Value} {a4 : Value} {a5 : Value} {a6 : Value} {a7 : Value} {st : List Value} {σ : aS} : Rn sc d 9 12 [a0, .int x1, a2, a3, a4, a5, a6, a7] st σ r ↔ Rn sc d 9 13 [a0, .int x1, a2, a3, a4, a5, a6, a7] (.int x1 :: st) σ r := r_iload_n d9_12 rfl
theorem d9_13 : decode (mC 9) 13 = .ok (.iastore, 1) := by decide +kernel
theorem x9_13 {sc : aSc} {d : Nat} {r : aRes} {L : List Value} {st : List Value} {f : Nat → Nat → Int32} {g : Nat → Nat → Int64} {h1 h2 : Nat} {a : Nat} {i : Int32} {x : Int32} (h17 : 17 ≤ a) (hA : isT9 .int a) (hi : inb i (aln a) = true) : Rn sc d 9 13 L (.int x :: .int i :: .ref a :: st) (cS f g h1 h2) r ↔ Rn sc d 9 14 L st (cS (u2 f a i.toNatClampNeg x) g h1 h2) r := r_iast d9_13 h17 hA hi
theorem d9_14 : decode (mC 9) 14 = .ok (.aload_n 0, 1) := by decide +kernel
theorem x9_14 {sc : aSc} {d : Nat} {r : aRes} {x0 : Nat} {a1 : Value} {a2 : Value} {a3 : Value} {a4 : Value} {a5 : Value} {a6 : Value} {a7 : Value} {st : List Value} {σ : aS} : Rn sc d 9 14 [.ref x0, a1, a2, a3, a4, a5, a6, a7] st σ r ↔ Rn sc d 9 15 [.ref x0, a1, a2, a3, a4, a5, a6, a7] (.ref x0 :: st) σ r := r_aload_n d9_14 rfl
theorem d9_15 : decode (mC 9) 15 = .ok (.getfield 15, 3) := by decide +kernel
theorem x9_15 {sc : aSc} {d : Nat} {r : aRes} {L : List Value} {st : List Value} {f : Nat → Nat → Int32} {g : Nat → Nat → Int64} {h1 h2 : Nat} {o : Nat} (hK : KK[o]? = some (.inl 1)) (hR : (RR h1 h2 o 7).isSome = true) : Rn sc d 9 15 L (.ref o :: st) (cS f g h1 h2) r ↔ Rn sc d 9 18 L (.ref (rf h1 h2 o 7) :: st) (cS f g h1 h2) r := r_getR2 d9_15 (ci := 1) (k := 7) rfl (by decide) (fun _ => rfl) hK hR
theorem d9_18 : decode (mC 9) 18 = .ok (.iload 7, 2) := by decide +kernel
theorem x9_18 {sc : aSc} {d : Nat} {r : aRes} {a0 : Value} {a1 : Value} {a2 : Value} {a3 : Value} {a4 : Value} {a5 : Value} {a6 : Value} {x7 : Int32} {st : List Value} {σ : aS} : Rn sc d 9 18 [a0, a1, a2, a3, a4, a5, a6, .int x7] st σ r ↔ Rn sc d 9 20 [a0, a1, a2, a3, a4, a5, a6, .int x7] (.int x7 :: st) σ r := r_iload d9_18 rfl
theorem d9_20 : decode (mC 9) 20 = .ok (.iload_n 2, 1) := by decide +kernel
theorem x9_20 {sc : aSc} {d : Nat} {r : aRes} {a0 : Value} {a1 : Value} {x2 : Int32} {a3 : Value} {a4 : Value} {a5 : Value} {a6 : Value} {a7 : Value} {st : List Value} {σ : aS} : Rn sc d 9 20 [a0, a1, .int x2, a3, a4, a5, a6, a7] st σ r ↔ Rn sc d 9 21 [a0, a1, .int x2, a3, a4, a5, a6, a7] (.int x2 :: st) σ r := r_iload_n d9_20 rfl
theorem d9_21 : decode (mC 9) 21 = .ok (.iastore, 1) := by decide +kernel
theorem x9_21 {sc : aSc} {d : Nat} {r : aRes} {L : List Value} {st : List Value} {f : Nat → Nat → Int32} {g : Nat → Nat → Int64} {h1 h2 : Nat} {a : Nat} {i : Int32} {x : Int32} (h17 : 17 ≤ a) (hA : isT9 .int a) (hi : inb i (aln a) = true) : Rn sc d 9 21 L (.int x :: .int i :: .ref a :: st) (cS f g h1 h2) r ↔ Rn sc d 9 22 L st (cS (u2 f a i.toNatClampNeg x) g h1 h2) r := r_iast d9_21 h17 hA hi
theorem d9_22 : decode (mC 9) 22 = .ok (.aload_n 0, 1) := by decide +kernel
theorem x9_22 {sc : aSc} {d : Nat} {r : aRes} {x0 : Nat} {a1 : Value} {a2 : Value} {a3 : Value} {a4 : Value} {a5 : Value} {a6 : Value} {a7 : Value} {st : List Value} {σ : aS} : Rn sc d 9 22 [.ref x0, a1, a2, a3, a4, a5, a6, a7] st σ r ↔ Rn sc d 9 23 [.ref x0, a1, a2, a3, a4, a5, a6, a7] (.ref x0 :: st) σ r := r_aload_n d9_22 rfl
theorem d9_23 : decode (mC 9) 23 = .ok (.getfield 18, 3) := by decide +kernel
theorem x9_23 {sc : aSc} {d : Nat} {r : aRes} {L : List Value} {st : List Value} {f : Nat → Nat → Int32} {g : Nat → Nat → Int64} {h1 h2 : Nat} {o : Nat} (hK : KK[o]? = some (.inl 1)) (hR : (RR h1 h2 o 8).isSome = true) : Rn sc d 9 23 L (.ref o :: st) (cS f g h1 h2) r ↔ Rn sc d 9 26 L (.ref (rf h1 h2 o 8) :: st) (cS f g h1 h2) r := r_getR2 d9_23 (ci := 1) (k := 8) rfl (by decide) (fun _ => rfl) hK hR
theorem d9_26 : decode (mC 9) 26 = .ok (.iload 7, 2) := by decide +kernel
theorem x9_26 {sc : aSc} {d : Nat} {r : aRes} {a0 : Value} {a1 : Value} {a2 : Value} {a3 : Value} {a4 : Value} {a5 : Value} {a6 : Value} {x7 : Int32} {st : List Value} {σ : aS} : Rn sc d 9 26 [a0, a1, a2, a3, a4, a5, a6, .int x7] st σ r ↔ Rn sc d 9 28 [a0, a1, a2, a3, a4, a5, a6, .int x7] (.int x7 :: st) σ r := r_iload d9_26 rfl
theorem d9_28 : decode (mC 9) 28 = .ok (.iload_n 3, 1) := by decide +kernel
theorem x9_28 {sc : aSc} {d : Nat} {r : aRes} {a0 : Value} {a1 : Value} {a2 : Value} {x3 : Int32} {a4 : Value} {a5 : Value} {a6 : Value} {a7 : Value} {st : List Value} {σ : aS} : Rn sc d 9 28 [a0, a1, a2, .int x3, a4, a5, a6, a7] st σ r ↔ Rn sc d 9 29 [a0, a1, a2, .int x3, a4, a5, a6, a7] (.int x3 :: st) σ r := r_iload_n d9_28 rfl
theorem d9_29 : decode (mC 9) 29 = .ok (.iastore, 1) := by decide +kernel
theorem x9_29 {sc : aSc} {d : Nat} {r : aRes} {L : List Value} {st : List Value} {f : Nat → Nat → Int32} {g : Nat → Nat → Int64} {h1 h2 : Nat} {a : Nat} {i : Int32} {x : Int32} (h17 : 17 ≤ a) (hA : isT9 .int a) (hi : inb i (aln a) = true) : Rn sc d 9 29 L (.int x :: .int i :: .ref a :: st) (cS f g h1 h2) r ↔ Rn sc d 9 30 L st (cS (u2 f a i.toNatClampNeg x) g h1 h2) r := r_iast d9_29 h17 hA hi
theorem d9_30 : decode (mC 9) 30 = .ok (.aload_n 0, 1) := by decide +kernel
theorem x9_30 {sc : aSc} {d : Nat} {r : aRes} {x0 : Nat} {a1 : Value} {a2 : Value} {a3 : Value} {a4 : Value} {a5 : Value} {a6 : Value} {a7 : Value} {st : List Value} {σ : aS} : Rn sc d 9 30 [.ref x0, a1, a2, a3, a4, a5, a6, a7] st σ r ↔ Rn sc d 9 31 [.ref x0, a1, a2, a3, a4, a5, a6, a7] (.ref x0 :: st) σ r := r_aload_n d9_30 rfl
theorem d9_31 : decode (mC 9) 31 = .ok (.getfield 21, 3) := by decide +kernel
theorem x9_31 {sc : aSc} {d : Nat} {r : aRes} {L : List Value} {st : List Value} {f : Nat → Nat → Int32} {g : Nat → Nat → Int64} {h1 h2 : Nat} {o : Nat} (hK : KK[o]? = some (.inl 1)) (hR : (RR h1 h2 o 9).isSome = true) : Rn sc d 9 31 L (.ref o :: st) (cS f g h1 h2) r ↔ Rn sc d 9 34 L (.ref (rf h1 h2 o 9) :: st) (cS f g h1 h2) r := r_getR2 d9_31 (ci := 1) (k := 9) rfl (by decide) (fun _ => rfl) hK hR
theorem d9_34 : decode (mC 9) 34 = .ok (.iload 7, 2) := by decide +kernel
theorem x9_34 {sc : aSc} {d : Nat} {r : aRes} {a0 : Value} {a1 : Value} {a2 : Value} {a3 : Value} {a4 : Value} {a5 : Value} {a6 : Value} {x7 : Int32} {st : List Value} {σ : aS} : Rn sc d 9 34 [a0, a1, a2, a3, a4, a5, a6, .int x7] st σ r ↔ Rn sc d 9 36 [a0, a1, a2, a3, a4, a5, a6, .int x7] (.int x7 :: st) σ r := r_iload d9_34 rfl
theorem d9_36 : decode (mC 9) 36 = .ok (.iload 6, 2) := by decide +kernel
theorem x9_36 {sc : aSc} {d : Nat} {r : aRes} {a0 : Value} {a1 : Value} {a2 : Value} {a3 : Value} {a4 : Value} {a5 : Value} {x6 : Int32} {a7 : Value} {st : List Value} {σ : aS} : Rn sc d 9 36 [a0, a1, a2, a3, a4, a5, .int x6, a7] st σ r ↔ Rn sc d 9 38 [a0, a1, a2, a3, a4, a5, .int x6, a7] (.int x6 :: st) σ r := r_iload d9_36 rfl
theorem d9_38 : decode (mC 9) 38 = .ok (.iastore, 1) := by decide +kernel
theorem x9_38 {sc : aSc} {d : Nat} {r : aRes} {L : List Value} {st : List Value} {f : Nat → Nat → Int32} {g : Nat → Nat → Int64} {h1 h2 : Nat} {a : Nat} {i : Int32} {x : Int32} (h17 : 17 ≤ a) (hA : isT9 .int a) (hi : inb i (aln a) = true) : Rn sc d 9 38 L (.int x :: .int i :: .ref a :: st) (cS f g h1 h2) r ↔ Rn sc d 9 39 L st (cS (u2 f a i.toNatClampNeg x) g h1 h2) r := r_iast d9_38 h17 hA hi
theorem d9_39 : decode (mC 9) 39 = .ok (.aload_n 0, 1) := by decide +kernel
theorem x9_39 {sc : aSc} {d : Nat} {r : aRes} {x0 : Nat} {a1 : Value} {a2 : Value} {a3 : Value} {a4 : Value} {a5 : Value} {a6 : Value} {a7 : Value} {st : List Value} {σ : aS} : Rn sc d 9 39 [.ref x0, a1, a2, a3, a4, a5, a6, a7] st σ r ↔ Rn sc d 9 40 [.ref x0, a1, a2, a3, a4, a5, a6, a7] (.ref x0 :: st) σ r := r_aload_n d9_39 rfl
theorem d9_40 : decode (mC 9) 40 = .ok (.aload_n 0, 1) := by decide +kernel
theorem x9_40 {sc : aSc} {d : Nat} {r : aRes} {x0 : Nat} {a1 : Value} {a2 : Value} {a3 : Value} {a4 : Value} {a5 : Value} {a6 : Value} {a7 : Value} {st : List Value} {σ : aS} : Rn sc d 9 40 [.ref x0, a1, a2, a3, a4, a5, a6, a7] st σ r ↔ Rn sc d 9 41 [.ref x0, a1, a2, a3, a4, a5, a6, a7] (.ref x0 :: st) σ r := r_aload_n d9_40 rfl
theorem d9_41 : decode (mC 9) 41 = .ok (.getfield 61, 3) := by decide +kernel
theorem x9_41 {sc : aSc} {d : Nat} {r : aRes} {L : List Value} {st : List Value} {f : Nat → Nat → Int32} {g : Nat → Nat → Int64} {h1 h2 : Nat} {o : Nat} (h17 : 17 ≤ o) (hK : KK[o]? = some (.inl 1)) : Rn sc d 9 41 L (.ref o :: st) (cS f g h1 h2) r ↔ Rn sc d 9 44 L (.int (f o 4) :: st) (cS f g h1 h2) r := r_getI d9_41 (ci := 1) (k := 4) rfl (by decide) (fun _ => rfl) h17 hK
theorem d9_44 : decode (mC 9) 44 = .ok (.iload 7, 2) := by decide +kernel
theorem x9_44 {sc : aSc} {d : Nat} {r : aRes} {a0 : Value} {a1 : Value} {a2 : Value} {a3 : Value} {a4 : Value} {a5 : Value} {a6 : Value} {x7 : Int32} {st : List Value} {σ : aS} : Rn sc d 9 44 [a0, a1, a2, a3, a4, a5, a6, .int x7] st σ r ↔ Rn sc d 9 46 [a0, a1, a2, a3, a4, a5, a6, .int x7] (.int x7 :: st) σ r := r_iload d9_44 rfl
theorem d9_46 : decode (mC 9) 46 = .ok (.iload 4, 2) := by decide +kernel
theorem x9_46 {sc : aSc} {d : Nat} {r : aRes} {a0 : Value} {a1 : Value} {a2 : Value} {a3 : Value} {x4 : Int32} {a5 : Value} {a6 : Value} {a7 : Value} {st : List Value} {σ : aS} : Rn sc d 9 46 [a0, a1, a2, a3, .int x4, a5, a6, a7] st σ r ↔ Rn sc d 9 48 [a0, a1, a2, a3, .int x4, a5, a6, a7] (.int x4 :: st) σ r := r_iload d9_46 rfl
theorem d9_48 : decode (mC 9) 48 = .ok (.invokestatic 79, 3) := by decide +kernel
theorem x9_48 {sc : aSc} {d : Nat} {r : aRes} {L : List Value} {σ : aS} {y0 : Int32} {y1 : Int32} {y2 : Int32} {z0 : Nat} : Rn sc d 9 48 L [.int y0, .int y1, .int y2, .ref z0] σ r ↔ ∃ (σ3 : aS) (v : Option Value), Cl sc d 12 [.int y2, .int y1, .int y0] σ (σ3, v) ∧ Rn sc d 9 51 L (v.toList ++ [.ref z0]) σ3 r := r_callS (vs := [.int y0, .int y1, .int y2]) d9_48 rfl (j := 12) rfl ⟨rfl, by decide, rfl, rfl⟩ (Nat.le_of_ble_eq_true rfl)
theorem d9_51 : decode (mC 9) 51 = .ok (.putfield 61, 3) := by decide +kernel
theorem x9_51 {sc : aSc} {d : Nat} {r : aRes} {L : List Value} {st : List Value} {f : Nat → Nat → Int32} {g : Nat → Nat → Int64} {h1 h2 : Nat} {o : Nat} {v : Int32} (h17 : 17 ≤ o) (hK : KK[o]? = some (.inl 1)) : Rn sc d 9 51 L (.int v :: .ref o :: st) (cS f g h1 h2) r ↔ Rn sc d 9 54 L st (cS (u2 f o 4 v) g h1 h2) r := r_putI d9_51 (ci := 1) (k := 4) rfl (by decide) h17 hK
theorem d9_54 : decode (mC 9) 54 = .ok (.aload_n 0, 1) := by decide +kernel
theorem x9_54 {sc : aSc} {d : Nat} {r : aRes} {x0 : Nat} {a1 : Value} {a2 : Value} {a3 : Value} {a4 : Value} {a5 : Value} {a6 : Value} {a7 : Value} {st : List Value} {σ : aS} : Rn sc d 9 54 [.ref x0, a1, a2, a3, a4, a5, a6, a7] st σ r ↔ Rn sc d 9 55 [.ref x0, a1, a2, a3, a4, a5, a6, a7] (.ref x0 :: st) σ r := r_aload_n d9_54 rfl
theorem d9_55 : decode (mC 9) 55 = .ok (.aload_n 0, 1) := by decide +kernel
theorem x9_55 {sc : aSc} {d : Nat} {r : aRes} {x0 : Nat} {a1 : Value} {a2 : Value} {a3 : Value} {a4 : Value} {a5 : Value} {a6 : Value} {a7 : Value} {st : List Value} {σ : aS} : Rn sc d 9 55 [.ref x0, a1, a2, a3, a4, a5, a6, a7] st σ r ↔ Rn sc d 9 56 [.ref x0, a1, a2, a3, a4, a5, a6, a7] (.ref x0 :: st) σ r := r_aload_n d9_55 rfl
theorem d9_56 : decode (mC 9) 56 = .ok (.getfield 64, 3) := by decide +kernel
theorem x9_56 {sc : aSc} {d : Nat} {r : aRes} {L : List Value} {st : List Value} {f : Nat → Nat → Int32} {g : Nat → Nat → Int64} {h1 h2 : Nat} {o : Nat} (h17 : 17 ≤ o) (hK : KK[o]? = some (.inl 1)) : Rn sc d 9 56 L (.ref o :: st) (cS f g h1 h2) r ↔ Rn sc d 9 59 L (.int (f o 5) :: st) (cS f g h1 h2) r := r_getI d9_56 (ci := 1) (k := 5) rfl (by decide) (fun _ => rfl) h17 hK
theorem d9_59 : decode (mC 9) 59 = .ok (.iload 7, 2) := by decide +kernel
theorem x9_59 {sc : aSc} {d : Nat} {r : aRes} {a0 : Value} {a1 : Value} {a2 : Value} {a3 : Value} {a4 : Value} {a5 : Value} {a6 : Value} {x7 : Int32} {st : List Value} {σ : aS} : Rn sc d 9 59 [a0, a1, a2, a3, a4, a5, a6, .int x7] st σ r ↔ Rn sc d 9 61 [a0, a1, a2, a3, a4, a5, a6, .int x7] (.int x7 :: st) σ r := r_iload d9_59 rfl
theorem d9_61 : decode (mC 9) 61 = .ok (.iload 5, 2) := by decide +kernel
theorem x9_61 {sc : aSc} {d : Nat} {r : aRes} {a0 : Value} {a1 : Value} {a2 : Value} {a3 : Value} {a4 : Value} {x5 : Int32} {a6 : Value} {a7 : Value} {st : List Value} {σ : aS} : Rn sc d 9 61 [a0, a1, a2, a3, a4, .int x5, a6, a7] st σ r ↔ Rn sc d 9 63 [a0, a1, a2, a3, a4, .int x5, a6, a7] (.int x5 :: st) σ r := r_iload d9_61 rfl
theorem d9_63 : decode (mC 9) 63 = .ok (.invokestatic 79, 3) := by decide +kernel
theorem x9_63 {sc : aSc} {d : Nat} {r : aRes} {L : List Value} {σ : aS} {y0 : Int32} {y1 : Int32} {y2 : Int32} {z0 : Nat} : Rn sc d 9 63 L [.int y0, .int y1, .int y2, .ref z0] σ r ↔ ∃ (σ3 : aS) (v : Option Value), Cl sc d 12 [.int y2, .int y1, .int y0] σ (σ3, v) ∧ Rn sc d 9 66 L (v.toList ++ [.ref z0]) σ3 r := r_callS (vs := [.int y0, .int y1, .int y2]) d9_63 rfl (j := 12) rfl ⟨rfl, by decide, rfl, rfl⟩ (Nat.le_of_ble_eq_true rfl)
theorem d9_66 : decode (mC 9) 66 = .ok (.putfield 64, 3) := by decide +kernel
theorem x9_66 {sc : aSc} {d : Nat} {r : aRes} {L : List Value} {st : List Value} {f : Nat → Nat → Int32} {g : Nat → Nat → Int64} {h1 h2 : Nat} {o : Nat} {v : Int32} (h17 : 17 ≤ o) (hK : KK[o]? = some (.inl 1)) : Rn sc d 9 66 L (.int v :: .ref o :: st) (cS f g h1 h2) r ↔ Rn sc d 9 69 L st (cS (u2 f o 5 v) g h1 h2) r := r_putI d9_66 (ci := 1) (k := 5) rfl (by decide) h17 hK
theorem d9_69 : decode (mC 9) 69 = .ok (.aload_n 0, 1) := by decide +kernel
theorem x9_69 {sc : aSc} {d : Nat} {r : aRes} {x0 : Nat} {a1 : Value} {a2 : Value} {a3 : Value} {a4 : Value} {a5 : Value} {a6 : Value} {a7 : Value} {st : List Value} {σ : aS} : Rn sc d 9 69 [.ref x0, a1, a2, a3, a4, a5, a6, a7] st σ r ↔ Rn sc d 9 70 [.ref x0, a1, a2, a3, a4, a5, a6, a7] (.ref x0 :: st) σ r := r_aload_n d9_69 rfl
theorem d9_70 : decode (mC 9) 70 = .ok (.dup, 1) := by decide +kernel
theorem x9_70 {sc : aSc} {d : Nat} {r : aRes} {L : List Value} {st : List Value} {σ : aS} {y : Nat} : Rn sc d 9 70 L (.ref y :: st) σ r ↔ Rn sc d 9 71 L (.ref y :: .ref y :: st) σ r := r_dup d9_70 rfl
theorem d9_71 : decode (mC 9) 71 = .ok (.getfield 48, 3) := by decide +kernel
theorem x9_71 {sc : aSc} {d : Nat} {r : aRes} {L : List Value} {st : List Value} {f : Nat → Nat → Int32} {g : Nat → Nat → Int64} {h1 h2 : Nat} {o : Nat} (h17 : 17 ≤ o) (hK : KK[o]? = some (.inl 1)) : Rn sc d 9 71 L (.ref o :: st) (cS f g h1 h2) r ↔ Rn sc d 9 74 L (.int (f o 0) :: st) (cS f g h1 h2) r := r_getI d9_71 (ci := 1) (k := 0) rfl (by decide) (fun _ => rfl) h17 hK
theorem d9_74 : decode (mC 9) 74 = .ok (.iconst 1, 1) := by decide +kernel
theorem x9_74 {sc : aSc} {d : Nat} {r : aRes} {L : List Value} {st : List Value} {σ : aS} : Rn sc d 9 74 L st σ r ↔ Rn sc d 9 75 L (.int 1 :: st) σ r := r_iconst d9_74 (by decide)
theorem d9_75 : decode (mC 9) 75 = .ok (.iadd, 1) := by decide +kernel
theorem x9_75 {sc : aSc} {d : Nat} {r : aRes} {L : List Value} {st : List Value} {σ : aS} {x y : Int32} : Rn sc d 9 75 L (.int y :: .int x :: st) σ r ↔ Rn sc d 9 76 L (.int (x + y) :: st) σ r := r_iadd d9_75
theorem d9_76 : decode (mC 9) 76 = .ok (.putfield 48, 3) := by decide +kernel
theorem x9_76 {sc : aSc} {d : Nat} {r : aRes} {L : List Value} {st : List Value} {f : Nat → Nat → Int32} {g : Nat → Nat → Int64} {h1 h2 : Nat} {o : Nat} {v : Int32} (h17 : 17 ≤ o) (hK : KK[o]? = some (.inl 1)) : Rn sc d 9 76 L (.int v :: .ref o :: st) (cS f g h1 h2) r ↔ Rn sc d 9 79 L st (cS (u2 f o 0 v) g h1 h2) r := r_putI d9_76 (ci := 1) (k := 0) rfl (by decide) h17 hK
theorem d9_79 : decode (mC 9) 79 = .ok (.iload 7, 2) := by decide +kernel
theorem x9_79 {sc : aSc} {d : Nat} {r : aRes} {a0 : Value} {a1 : Value} {a2 : Value} {a3 : Value} {a4 : Value} {a5 : Value} {a6 : Value} {x7 : Int32} {st : List Value} {σ : aS} : Rn sc d 9 79 [a0, a1, a2, a3, a4, a5, a6, .int x7] st σ r ↔ Rn sc d 9 81 [a0, a1, a2, a3, a4, a5, a6, .int x7] (.int x7 :: st) σ r := r_iload d9_79 rfl
theorem d9_81 : decode (mC 9) 81 = .ok (.ireturn, 1) := by decide +kernel
theorem x9_81 {sc : aSc} {d : Nat} {r : aRes} {L : List Value} {σ : aS} {x : Int32} : Rn sc d 9 81 L [.int x] σ r ↔ r = (σ, some (.int x)) := r_iret d9_81 rfl rfl
theorem d10_0 : decode (mC 10) 0 = .ok (.aload_n 0, 1) := by decide +kernel
theorem x10_0 {sc : aSc} {d : Nat} {r : aRes} {x0 : Nat} {a1 : Value} {a2 : Value} {a3 : Value} {st : List Value} {σ : aS} : Rn sc d 10 0 [.ref x0, a1, a2, a3] st σ r ↔ Rn sc d 10 1 [.ref x0, a1, a2, a3] (.ref x0 :: st) σ r := r_aload_n d10_0 rfl
theorem d10_1 : decode (mC 10) 1 = .ok (.getfield 18, 3) := by decide +kernel
theorem x10_1 {sc : aSc} {d : Nat} {r : aRes} {L : List Value} {st : List Value} {f : Nat → Nat → Int32} {g : Nat → Nat → Int64} {h1 h2 : Nat} {o : Nat} (hK : KK[o]? = some (.inl 1)) (hR : (RR h1 h2 o 8).isSome = true) : Rn sc d 10 1 L (.ref o :: st) (cS f g h1 h2) r ↔ Rn sc d 10 4 L (.ref (rf h1 h2 o 8) :: st) (cS f g h1 h2) r := r_getR2 d10_1 (ci := 1) (k := 8) rfl (by decide) (fun _ => rfl) hK hR
theorem d10_4 : decode (mC 10) 4 = .ok (.iload_n 1, 1) := by decide +kernel
theorem x10_4 {sc : aSc} {d : Nat} {r : aRes} {a0 : Value} {x1 : Int32} {a2 : Value} {a3 : Value} {st : List Value} {σ : aS} : Rn sc d 10 4 [a0, .int x1, a2, a3] st σ r ↔ Rn sc d 10 5 [a0, .int x1, a2, a3] (.int x1 :: st) σ r := r_iload_n d10_4 rfl
theorem d10_5 : decode (mC 10) 5 = .ok (.iaload, 1) := by decide +kernel
theorem x10_5 {sc : aSc} {d : Nat} {r : aRes} {L : List Value} {st : List Value} {f : Nat → Nat → Int32} {g : Nat → Nat → Int64} {h1 h2 : Nat} {a : Nat} {i : Int32} (h17 : 17 ≤ a) (hA : isT9 .int a) (hi : inb i (aln a) = true) : Rn sc d 10 5 L (.int i :: .ref a :: st) (cS f g h1 h2) r ↔ Rn sc d 10 6 L (.int (f a i.toNatClampNeg) :: st) (cS f g h1 h2) r := r_iald d10_5 h17 hA hi
theorem d10_6 : decode (mC 10) 6 = .ok (.istore_n 3, 1) := by decide +kernel
theorem x10_6 {sc : aSc} {d : Nat} {r : aRes} {a0 : Value} {a1 : Value} {x2 : Int32} {a3 : Value} {st : List Value} {σ : aS} {y : Int32} : Rn sc d 10 6 [a0, a1, .int x2, a3] (.int y :: st) σ r ↔ Rn sc d 10 7 [a0, a1, .int x2, .int y] st σ r := r_istore_n d10_6 (Nat.le_of_ble_eq_true rfl) rfl
theorem d10_7 : decode (mC 10) 7 = .ok (.aload_n 0, 1) := by decide +kernel
theorem x10_7 {sc : aSc} {d : Nat} {r : aRes} {x0 : Nat} {a1 : Value} {a2 : Value} {a3 : Value} {st : List Value} {σ : aS} : Rn sc d 10 7 [.ref x0, a1, a2, a3] st σ r ↔ Rn sc d 10 8 [.ref x0, a1, a2, a3] (.ref x0 :: st) σ r := r_aload_n d10_7 rfl
theorem d10_8 : decode (mC 10) 8 = .ok (.getfield 18, 3) := by decide +kernel
theorem x10_8 {sc : aSc} {d : Nat} {r : aRes} {L : List Value} {st : List Value} {f : Nat → Nat → Int32} {g : Nat → Nat → Int64} {h1 h2 : Nat} {o : Nat} (hK : KK[o]? = some (.inl 1)) (hR : (RR h1 h2 o 8).isSome = true) : Rn sc d 10 8 L (.ref o :: st) (cS f g h1 h2) r ↔ Rn sc d 10 11 L (.ref (rf h1 h2 o 8) :: st) (cS f g h1 h2) r := r_getR2 d10_8 (ci := 1) (k := 8) rfl (by decide) (fun _ => rfl) hK hR
theorem d10_11 : decode (mC 10) 11 = .ok (.iload_n 1, 1) := by decide +kernel
theorem x10_11 {sc : aSc} {d : Nat} {r : aRes} {a0 : Value} {x1 : Int32} {a2 : Value} {a3 : Value} {st : List Value} {σ : aS} : Rn sc d 10 11 [a0, .int x1, a2, a3] st σ r ↔ Rn sc d 10 12 [a0, .int x1, a2, a3] (.int x1 :: st) σ r := r_iload_n d10_11 rfl
theorem d10_12 : decode (mC 10) 12 = .ok (.iload_n 2, 1) := by decide +kernel
theorem x10_12 {sc : aSc} {d : Nat} {r : aRes} {a0 : Value} {a1 : Value} {x2 : Int32} {a3 : Value} {st : List Value} {σ : aS} : Rn sc d 10 12 [a0, a1, .int x2, a3] st σ r ↔ Rn sc d 10 13 [a0, a1, .int x2, a3] (.int x2 :: st) σ r := r_iload_n d10_12 rfl
theorem d10_13 : decode (mC 10) 13 = .ok (.iastore, 1) := by decide +kernel
theorem x10_13 {sc : aSc} {d : Nat} {r : aRes} {L : List Value} {st : List Value} {f : Nat → Nat → Int32} {g : Nat → Nat → Int64} {h1 h2 : Nat} {a : Nat} {i : Int32} {x : Int32} (h17 : 17 ≤ a) (hA : isT9 .int a) (hi : inb i (aln a) = true) : Rn sc d 10 13 L (.int x :: .int i :: .ref a :: st) (cS f g h1 h2) r ↔ Rn sc d 10 14 L st (cS (u2 f a i.toNatClampNeg x) g h1 h2) r := r_iast d10_13 h17 hA hi
theorem d10_14 : decode (mC 10) 14 = .ok (.iload_n 3, 1) := by decide +kernel
theorem x10_14 {sc : aSc} {d : Nat} {r : aRes} {a0 : Value} {a1 : Value} {a2 : Value} {x3 : Int32} {st : List Value} {σ : aS} : Rn sc d 10 14 [a0, a1, a2, .int x3] st σ r ↔ Rn sc d 10 15 [a0, a1, a2, .int x3] (.int x3 :: st) σ r := r_iload_n d10_14 rfl
theorem d10_15 : decode (mC 10) 15 = .ok (.ireturn, 1) := by decide +kernel
theorem x10_15 {sc : aSc} {d : Nat} {r : aRes} {L : List Value} {σ : aS} {x : Int32} : Rn sc d 10 15 L [.int x] σ r ↔ r = (σ, some (.int x)) := r_iret d10_15 rfl rfl
theorem d11_0 : decode (mC 11) 0 = .ok (.aload_n 0, 1) := by decide +kernel
theorem x11_0 {sc : aSc} {d : Nat} {r : aRes} {x0 : Nat} {a1 : Value} {a2 : Value} {a3 : Value} {st : List Value} {σ : aS} : Rn sc d 11 0 [.ref x0, a1, a2, a3] st σ r ↔ Rn sc d 11 1 [.ref x0, a1, a2, a3] (.ref x0 :: st) σ r := r_aload_n d11_0 rfl
theorem d11_1 : decode (mC 11) 1 = .ok (.getfield 64, 3) := by decide +kernel
theorem x11_1 {sc : aSc} {d : Nat} {r : aRes} {L : List Value} {st : List Value} {f : Nat → Nat → Int32} {g : Nat → Nat → Int64} {h1 h2 : Nat} {o : Nat} (h17 : 17 ≤ o) (hK : KK[o]? = some (.inl 1)) : Rn sc d 11 1 L (.ref o :: st) (cS f g h1 h2) r ↔ Rn sc d 11 4 L (.int (f o 5) :: st) (cS f g h1 h2) r := r_getI d11_1 (ci := 1) (k := 5) rfl (by decide) (fun _ => rfl) h17 hK
theorem d11_4 : decode (mC 11) 4 = .ok (.iload_n 1, 1) := by decide +kernel
theorem x11_4 {sc : aSc} {d : Nat} {r : aRes} {a0 : Value} {x1 : Int32} {a2 : Value} {a3 : Value} {st : List Value} {σ : aS} : Rn sc d 11 4 [a0, .int x1, a2, a3] st σ r ↔ Rn sc d 11 5 [a0, .int x1, a2, a3] (.int x1 :: st) σ r := r_iload_n d11_4 rfl
theorem d11_5 : decode (mC 11) 5 = .ok (.ishr, 1) := by decide +kernel
theorem x11_5 {sc : aSc} {d : Nat} {r : aRes} {L : List Value} {st : List Value} {σ : aS} {x y : Int32} : Rn sc d 11 5 L (.int y :: .int x :: st) σ r ↔ Rn sc d 11 6 L (.int (x >>> (y &&& 31)) :: st) σ r := r_ishr d11_5
theorem d11_6 : decode (mC 11) 6 = .ok (.iconst 1, 1) := by decide +kernel
theorem x11_6 {sc : aSc} {d : Nat} {r : aRes} {L : List Value} {st : List Value} {σ : aS} : Rn sc d 11 6 L st σ r ↔ Rn sc d 11 7 L (.int 1 :: st) σ r := r_iconst d11_6 (by decide)
theorem d11_7 : decode (mC 11) 7 = .ok (.iand, 1) := by decide +kernel
theorem x11_7 {sc : aSc} {d : Nat} {r : aRes} {L : List Value} {st : List Value} {σ : aS} {x y : Int32} : Rn sc d 11 7 L (.int y :: .int x :: st) σ r ↔ Rn sc d 11 8 L (.int (x &&& y) :: st) σ r := r_iand d11_7
theorem d11_8 : decode (mC 11) 8 = .ok (.istore_n 3, 1) := by decide +kernel
theorem x11_8 {sc : aSc} {d : Nat} {r : aRes} {a0 : Value} {a1 : Value} {x2 : Int32} {a3 : Value} {st : List Value} {σ : aS} {y : Int32} : Rn sc d 11 8 [a0, a1, .int x2, a3] (.int y :: st) σ r ↔ Rn sc d 11 9 [a0, a1, .int x2, .int y] st σ r := r_istore_n d11_8 (Nat.le_of_ble_eq_true rfl) rfl
theorem d11_9 : decode (mC 11) 9 = .ok (.aload_n 0, 1) := by decide +kernel
theorem x11_9 {sc : aSc} {d : Nat} {r : aRes} {x0 : Nat} {a1 : Value} {a2 : Value} {a3 : Value} {st : List Value} {σ : aS} : Rn sc d 11 9 [.ref x0, a1, a2, a3] st σ r ↔ Rn sc d 11 10 [.ref x0, a1, a2, a3] (.ref x0 :: st) σ r := r_aload_n d11_9 rfl
theorem d11_10 : decode (mC 11) 10 = .ok (.aload_n 0, 1) := by decide +kernel
theorem x11_10 {sc : aSc} {d : Nat} {r : aRes} {x0 : Nat} {a1 : Value} {a2 : Value} {a3 : Value} {st : List Value} {σ : aS} : Rn sc d 11 10 [.ref x0, a1, a2, a3] st σ r ↔ Rn sc d 11 11 [.ref x0, a1, a2, a3] (.ref x0 :: st) σ r := r_aload_n d11_10 rfl
theorem d11_11 : decode (mC 11) 11 = .ok (.getfield 64, 3) := by decide +kernel
theorem x11_11 {sc : aSc} {d : Nat} {r : aRes} {L : List Value} {st : List Value} {f : Nat → Nat → Int32} {g : Nat → Nat → Int64} {h1 h2 : Nat} {o : Nat} (h17 : 17 ≤ o) (hK : KK[o]? = some (.inl 1)) : Rn sc d 11 11 L (.ref o :: st) (cS f g h1 h2) r ↔ Rn sc d 11 14 L (.int (f o 5) :: st) (cS f g h1 h2) r := r_getI d11_11 (ci := 1) (k := 5) rfl (by decide) (fun _ => rfl) h17 hK
theorem d11_14 : decode (mC 11) 14 = .ok (.iload_n 1, 1) := by decide +kernel
theorem x11_14 {sc : aSc} {d : Nat} {r : aRes} {a0 : Value} {x1 : Int32} {a2 : Value} {a3 : Value} {st : List Value} {σ : aS} : Rn sc d 11 14 [a0, .int x1, a2, a3] st σ r ↔ Rn sc d 11 15 [a0, .int x1, a2, a3] (.int x1 :: st) σ r := r_iload_n d11_14 rfl
theorem d11_15 : decode (mC 11) 15 = .ok (.iload_n 2, 1) := by decide +kernel
theorem x11_15 {sc : aSc} {d : Nat} {r : aRes} {a0 : Value} {a1 : Value} {x2 : Int32} {a3 : Value} {st : List Value} {σ : aS} : Rn sc d 11 15 [a0, a1, .int x2, a3] st σ r ↔ Rn sc d 11 16 [a0, a1, .int x2, a3] (.int x2 :: st) σ r := r_iload_n d11_15 rfl
theorem d11_16 : decode (mC 11) 16 = .ok (.invokestatic 79, 3) := by decide +kernel
theorem x11_16 {sc : aSc} {d : Nat} {r : aRes} {L : List Value} {σ : aS} {y0 : Int32} {y1 : Int32} {y2 : Int32} {z0 : Nat} : Rn sc d 11 16 L [.int y0, .int y1, .int y2, .ref z0] σ r ↔ ∃ (σ3 : aS) (v : Option Value), Cl sc d 12 [.int y2, .int y1, .int y0] σ (σ3, v) ∧ Rn sc d 11 19 L (v.toList ++ [.ref z0]) σ3 r := r_callS (vs := [.int y0, .int y1, .int y2]) d11_16 rfl (j := 12) rfl ⟨rfl, by decide, rfl, rfl⟩ (Nat.le_of_ble_eq_true rfl)
theorem d11_19 : decode (mC 11) 19 = .ok (.putfield 64, 3) := by decide +kernel
theorem x11_19 {sc : aSc} {d : Nat} {r : aRes} {L : List Value} {st : List Value} {f : Nat → Nat → Int32} {g : Nat → Nat → Int64} {h1 h2 : Nat} {o : Nat} {v : Int32} (h17 : 17 ≤ o) (hK : KK[o]? = some (.inl 1)) : Rn sc d 11 19 L (.int v :: .ref o :: st) (cS f g h1 h2) r ↔ Rn sc d 11 22 L st (cS (u2 f o 5 v) g h1 h2) r := r_putI d11_19 (ci := 1) (k := 5) rfl (by decide) h17 hK
theorem d11_22 : decode (mC 11) 22 = .ok (.iload_n 3, 1) := by decide +kernel
theorem x11_22 {sc : aSc} {d : Nat} {r : aRes} {a0 : Value} {a1 : Value} {a2 : Value} {x3 : Int32} {st : List Value} {σ : aS} : Rn sc d 11 22 [a0, a1, a2, .int x3] st σ r ↔ Rn sc d 11 23 [a0, a1, a2, .int x3] (.int x3 :: st) σ r := r_iload_n d11_22 rfl
theorem d11_23 : decode (mC 11) 23 = .ok (.ireturn, 1) := by decide +kernel
theorem x11_23 {sc : aSc} {d : Nat} {r : aRes} {L : List Value} {σ : aS} {x : Int32} : Rn sc d 11 23 L [.int x] σ r ↔ r = (σ, some (.int x)) := r_iret d11_23 rfl rfl
theorem d12_0 : decode (mC 12) 0 = .ok (.iload_n 0, 1) := by decide +kernel
theorem x12_0 {sc : aSc} {d : Nat} {r : aRes} {x0 : Int32} {a1 : Value} {a2 : Value} {st : List Value} {σ : aS} : Rn sc d 12 0 [.int x0, a1, a2] st σ r ↔ Rn sc d 12 1 [.int x0, a1, a2] (.int x0 :: st) σ r := r_iload_n d12_0 rfl
theorem d12_1 : decode (mC 12) 1 = .ok (.iconst 1, 1) := by decide +kernel
theorem x12_1 {sc : aSc} {d : Nat} {r : aRes} {L : List Value} {st : List Value} {σ : aS} : Rn sc d 12 1 L st σ r ↔ Rn sc d 12 2 L (.int 1 :: st) σ r := r_iconst d12_1 (by decide)
theorem d12_2 : decode (mC 12) 2 = .ok (.iload_n 1, 1) := by decide +kernel
theorem x12_2 {sc : aSc} {d : Nat} {r : aRes} {a0 : Value} {x1 : Int32} {a2 : Value} {st : List Value} {σ : aS} : Rn sc d 12 2 [a0, .int x1, a2] st σ r ↔ Rn sc d 12 3 [a0, .int x1, a2] (.int x1 :: st) σ r := r_iload_n d12_2 rfl
theorem d12_3 : decode (mC 12) 3 = .ok (.ishl, 1) := by decide +kernel
theorem x12_3 {sc : aSc} {d : Nat} {r : aRes} {L : List Value} {st : List Value} {σ : aS} {x y : Int32} : Rn sc d 12 3 L (.int y :: .int x :: st) σ r ↔ Rn sc d 12 4 L (.int (x <<< (y &&& 31)) :: st) σ r := r_ishl d12_3
theorem d12_4 : decode (mC 12) 4 = .ok (.iconst (-1), 1) := by decide +kernel
theorem x12_4 {sc : aSc} {d : Nat} {r : aRes} {L : List Value} {st : List Value} {σ : aS} : Rn sc d 12 4 L st σ r ↔ Rn sc d 12 5 L (.int (-1) :: st) σ r := r_iconst d12_4 (by decide)
theorem d12_5 : decode (mC 12) 5 = .ok (.ixor, 1) := by decide +kernel
theorem x12_5 {sc : aSc} {d : Nat} {r : aRes} {L : List Value} {st : List Value} {σ : aS} {x y : Int32} : Rn sc d 12 5 L (.int y :: .int x :: st) σ r ↔ Rn sc d 12 6 L (.int (x ^^^ y) :: st) σ r := r_ixor d12_5
theorem d12_6 : decode (mC 12) 6 = .ok (.iand, 1) := by decide +kernel
theorem x12_6 {sc : aSc} {d : Nat} {r : aRes} {L : List Value} {st : List Value} {σ : aS} {x y : Int32} : Rn sc d 12 6 L (.int y :: .int x :: st) σ r ↔ Rn sc d 12 7 L (.int (x &&& y) :: st) σ r := r_iand d12_6
theorem d12_7 : decode (mC 12) 7 = .ok (.iload_n 2, 1) := by decide +kernel
theorem x12_7 {sc : aSc} {d : Nat} {r : aRes} {a0 : Value} {a1 : Value} {x2 : Int32} {st : List Value} {σ : aS} : Rn sc d 12 7 [a0, a1, .int x2] st σ r ↔ Rn sc d 12 8 [a0, a1, .int x2] (.int x2 :: st) σ r := r_iload_n d12_7 rfl
theorem d12_8 : decode (mC 12) 8 = .ok (.iload_n 1, 1) := by decide +kernel
theorem x12_8 {sc : aSc} {d : Nat} {r : aRes} {a0 : Value} {x1 : Int32} {a2 : Value} {st : List Value} {σ : aS} : Rn sc d 12 8 [a0, .int x1, a2] st σ r ↔ Rn sc d 12 9 [a0, .int x1, a2] (.int x1 :: st) σ r := r_iload_n d12_8 rfl
theorem d12_9 : decode (mC 12) 9 = .ok (.ishl, 1) := by decide +kernel
theorem x12_9 {sc : aSc} {d : Nat} {r : aRes} {L : List Value} {st : List Value} {σ : aS} {x y : Int32} : Rn sc d 12 9 L (.int y :: .int x :: st) σ r ↔ Rn sc d 12 10 L (.int (x <<< (y &&& 31)) :: st) σ r := r_ishl d12_9
theorem d12_10 : decode (mC 12) 10 = .ok (.ior, 1) := by decide +kernel
theorem x12_10 {sc : aSc} {d : Nat} {r : aRes} {L : List Value} {st : List Value} {σ : aS} {x y : Int32} : Rn sc d 12 10 L (.int y :: .int x :: st) σ r ↔ Rn sc d 12 11 L (.int (x ||| y) :: st) σ r := r_ior d12_10
theorem d12_11 : decode (mC 12) 11 = .ok (.ireturn, 1) := by decide +kernel
theorem x12_11 {sc : aSc} {d : Nat} {r : aRes} {L : List Value} {σ : aS} {x : Int32} : Rn sc d 12 11 L [.int x] σ r ↔ r = (σ, some (.int x)) := r_iret d12_11 rfl rfl
theorem d13_0 : decode (mC 13) 0 = .ok (.aload_n 0, 1) := by decide +kernel
theorem x13_0 {sc : aSc} {d : Nat} {r : aRes} {x0 : Nat} {a1 : Value} {st : List Value} {σ : aS} : Rn sc d 13 0 [.ref x0, a1] st σ r ↔ Rn sc d 13 1 [.ref x0, a1] (.ref x0 :: st) σ r := r_aload_n d13_0 rfl
theorem d13_1 : decode (mC 13) 1 = .ok (.getfield 61, 3) := by decide +kernel
theorem x13_1 {sc : aSc} {d : Nat} {r : aRes} {L : List Value} {st : List Value} {f : Nat → Nat → Int32} {g : Nat → Nat → Int64} {h1 h2 : Nat} {o : Nat} (h17 : 17 ≤ o) (hK : KK[o]? = some (.inl 1)) : Rn sc d 13 1 L (.ref o :: st) (cS f g h1 h2) r ↔ Rn sc d 13 4 L (.int (f o 4) :: st) (cS f g h1 h2) r := r_getI d13_1 (ci := 1) (k := 4) rfl (by decide) (fun _ => rfl) h17 hK
theorem d13_4 : decode (mC 13) 4 = .ok (.iload_n 1, 1) := by decide +kernel
theorem x13_4 {sc : aSc} {d : Nat} {r : aRes} {a0 : Value} {x1 : Int32} {st : List Value} {σ : aS} : Rn sc d 13 4 [a0, .int x1] st σ r ↔ Rn sc d 13 5 [a0, .int x1] (.int x1 :: st) σ r := r_iload_n d13_4 rfl
theorem d13_5 : decode (mC 13) 5 = .ok (.ishr, 1) := by decide +kernel
theorem x13_5 {sc : aSc} {d : Nat} {r : aRes} {L : List Value} {st : List Value} {σ : aS} {x y : Int32} : Rn sc d 13 5 L (.int y :: .int x :: st) σ r ↔ Rn sc d 13 6 L (.int (x >>> (y &&& 31)) :: st) σ r := r_ishr d13_5
theorem d13_6 : decode (mC 13) 6 = .ok (.iconst 1, 1) := by decide +kernel
theorem x13_6 {sc : aSc} {d : Nat} {r : aRes} {L : List Value} {st : List Value} {σ : aS} : Rn sc d 13 6 L st σ r ↔ Rn sc d 13 7 L (.int 1 :: st) σ r := r_iconst d13_6 (by decide)
theorem d13_7 : decode (mC 13) 7 = .ok (.iand, 1) := by decide +kernel
theorem x13_7 {sc : aSc} {d : Nat} {r : aRes} {L : List Value} {st : List Value} {σ : aS} {x y : Int32} : Rn sc d 13 7 L (.int y :: .int x :: st) σ r ↔ Rn sc d 13 8 L (.int (x &&& y) :: st) σ r := r_iand d13_7
theorem d13_8 : decode (mC 13) 8 = .ok (.ireturn, 1) := by decide +kernel
theorem x13_8 {sc : aSc} {d : Nat} {r : aRes} {L : List Value} {σ : aS} {x : Int32} : Rn sc d 13 8 L [.int x] σ r ↔ r = (σ, some (.int x)) := r_iret d13_8 rfl rfl
theorem d14_0 : decode (mC 14) 0 = .ok (.iload_n 3, 1) := by decide +kernel
theorem x14_0 {sc : aSc} {d : Nat} {r : aRes} {a0 : Value} {a1 : Value} {a2 : Value} {x3 : Int32} {st : List Value} {σ : aS} : Rn sc d 14 0 [a0, a1, a2, .int x3] st σ r ↔ Rn sc d 14 1 [a0, a1, a2, .int x3] (.int x3 :: st) σ r := r_iload_n d14_0 rfl
theorem d14_1 : decode (mC 14) 1 = .ok (.iload_n 1, 1) := by decide +kernel
theorem x14_1 {sc : aSc} {d : Nat} {r : aRes} {a0 : Value} {x1 : Int32} {a2 : Value} {a3 : Value} {st : List Value} {σ : aS} : Rn sc d 14 1 [a0, .int x1, a2, a3] st σ r ↔ Rn sc d 14 2 [a0, .int x1, a2, a3] (.int x1 :: st) σ r := r_iload_n d14_1 rfl
theorem d14_2 : decode (mC 14) 2 = .ok (.ishr, 1) := by decide +kernel
theorem x14_2 {sc : aSc} {d : Nat} {r : aRes} {L : List Value} {st : List Value} {σ : aS} {x y : Int32} : Rn sc d 14 2 L (.int y :: .int x :: st) σ r ↔ Rn sc d 14 3 L (.int (x >>> (y &&& 31)) :: st) σ r := r_ishr d14_2
theorem d14_3 : decode (mC 14) 3 = .ok (.iconst 1, 1) := by decide +kernel
theorem x14_3 {sc : aSc} {d : Nat} {r : aRes} {L : List Value} {st : List Value} {σ : aS} : Rn sc d 14 3 L st σ r ↔ Rn sc d 14 4 L (.int 1 :: st) σ r := r_iconst d14_3 (by decide)
theorem d14_4 : decode (mC 14) 4 = .ok (.iand, 1) := by decide +kernel
theorem x14_4 {sc : aSc} {d : Nat} {r : aRes} {L : List Value} {st : List Value} {σ : aS} {x y : Int32} : Rn sc d 14 4 L (.int y :: .int x :: st) σ r ↔ Rn sc d 14 5 L (.int (x &&& y) :: st) σ r := r_iand d14_4
theorem d14_5 : decode (mC 14) 5 = .ok (.iload_n 3, 1) := by decide +kernel
theorem x14_5 {sc : aSc} {d : Nat} {r : aRes} {a0 : Value} {a1 : Value} {a2 : Value} {x3 : Int32} {st : List Value} {σ : aS} : Rn sc d 14 5 [a0, a1, a2, .int x3] st σ r ↔ Rn sc d 14 6 [a0, a1, a2, .int x3] (.int x3 :: st) σ r := r_iload_n d14_5 rfl
theorem d14_6 : decode (mC 14) 6 = .ok (.iload_n 2, 1) := by decide +kernel
theorem x14_6 {sc : aSc} {d : Nat} {r : aRes} {a0 : Value} {a1 : Value} {x2 : Int32} {a3 : Value} {st : List Value} {σ : aS} : Rn sc d 14 6 [a0, a1, .int x2, a3] st σ r ↔ Rn sc d 14 7 [a0, a1, .int x2, a3] (.int x2 :: st) σ r := r_iload_n d14_6 rfl
theorem d14_7 : decode (mC 14) 7 = .ok (.ishr, 1) := by decide +kernel
theorem x14_7 {sc : aSc} {d : Nat} {r : aRes} {L : List Value} {st : List Value} {σ : aS} {x y : Int32} : Rn sc d 14 7 L (.int y :: .int x :: st) σ r ↔ Rn sc d 14 8 L (.int (x >>> (y &&& 31)) :: st) σ r := r_ishr d14_7
theorem d14_8 : decode (mC 14) 8 = .ok (.iconst 1, 1) := by decide +kernel
theorem x14_8 {sc : aSc} {d : Nat} {r : aRes} {L : List Value} {st : List Value} {σ : aS} : Rn sc d 14 8 L st σ r ↔ Rn sc d 14 9 L (.int 1 :: st) σ r := r_iconst d14_8 (by decide)
theorem d14_9 : decode (mC 14) 9 = .ok (.iand, 1) := by decide +kernel
theorem x14_9 {sc : aSc} {d : Nat} {r : aRes} {L : List Value} {st : List Value} {σ : aS} {x y : Int32} : Rn sc d 14 9 L (.int y :: .int x :: st) σ r ↔ Rn sc d 14 10 L (.int (x &&& y) :: st) σ r := r_iand d14_9
theorem d14_10 : decode (mC 14) 10 = .ok (.if_icmp .eq 7, 3) := by decide +kernel
theorem x14_10 {sc : aSc} {d : Nat} {r : aRes} {L : List Value} {st : List Value} {σ : aS} {x y : Int32} : Rn sc d 14 10 L (.int y :: .int x :: st) σ r ↔ if x = y then Rn sc d 14 17 L st σ r else Rn sc d 14 13 L st σ r := r_icmp_eq d14_10 rfl
theorem d14_13 : decode (mC 14) 13 = .ok (.iconst 1, 1) := by decide +kernel
theorem x14_13 {sc : aSc} {d : Nat} {r : aRes} {L : List Value} {st : List Value} {σ : aS} : Rn sc d 14 13 L st σ r ↔ Rn sc d 14 14 L (.int 1 :: st) σ r := r_iconst d14_13 (by decide)
theorem d14_14 : decode (mC 14) 14 = .ok (.goto 4, 3) := by decide +kernel
theorem x14_14 {sc : aSc} {d : Nat} {r : aRes} {L : List Value} {st : List Value} {σ : aS} : Rn sc d 14 14 L st σ r ↔ Rn sc d 14 18 L st σ r := r_goto d14_14 rfl
theorem d14_17 : decode (mC 14) 17 = .ok (.iconst 0, 1) := by decide +kernel
theorem x14_17 {sc : aSc} {d : Nat} {r : aRes} {L : List Value} {st : List Value} {σ : aS} : Rn sc d 14 17 L st σ r ↔ Rn sc d 14 18 L (.int 0 :: st) σ r := r_iconst d14_17 (by decide)
theorem d14_18 : decode (mC 14) 18 = .ok (.ireturn, 1) := by decide +kernel
theorem x14_18 {sc : aSc} {d : Nat} {r : aRes} {L : List Value} {σ : aS} {x : Int32} (hn : x &&& 1 = x) : Rn sc d 14 18 L [.int x] σ r ↔ r = (σ, some (.int x)) := r_iret d14_18 rfl (congrArg Value.int hn)
theorem d15_0 : decode (mC 15) 0 = .ok (.aload_n 0, 1) := by decide +kernel
theorem x15_0 {sc : aSc} {d : Nat} {r : aRes} {x0 : Nat} {a1 : Value} {st : List Value} {σ : aS} : Rn sc d 15 0 [.ref x0, a1] st σ r ↔ Rn sc d 15 1 [.ref x0, a1] (.ref x0 :: st) σ r := r_aload_n d15_0 rfl
theorem d15_1 : decode (mC 15) 1 = .ok (.iload_n 1, 1) := by decide +kernel
theorem x15_1 {sc : aSc} {d : Nat} {r : aRes} {a0 : Value} {x1 : Int32} {st : List Value} {σ : aS} : Rn sc d 15 1 [a0, .int x1] st σ r ↔ Rn sc d 15 2 [a0, .int x1] (.int x1 :: st) σ r := r_iload_n d15_1 rfl
theorem d15_2 : decode (mC 15) 2 = .ok (.aload_n 0, 1) := by decide +kernel
theorem x15_2 {sc : aSc} {d : Nat} {r : aRes} {x0 : Nat} {a1 : Value} {st : List Value} {σ : aS} : Rn sc d 15 2 [.ref x0, a1] st σ r ↔ Rn sc d 15 3 [.ref x0, a1] (.ref x0 :: st) σ r := r_aload_n d15_2 rfl
theorem d15_3 : decode (mC 15) 3 = .ok (.iload_n 1, 1) := by decide +kernel
theorem x15_3 {sc : aSc} {d : Nat} {r : aRes} {a0 : Value} {x1 : Int32} {st : List Value} {σ : aS} : Rn sc d 15 3 [a0, .int x1] st σ r ↔ Rn sc d 15 4 [a0, .int x1] (.int x1 :: st) σ r := r_iload_n d15_3 rfl
theorem d15_4 : decode (mC 15) 4 = .ok (.invokevirtual 83, 3) := by decide +kernel
theorem x15_4 {sc : aSc} {d : Nat} {r : aRes} {L : List Value} {f : Nat → Nat → Int32} {g : Nat → Nat → Int64} {h1 h2 : Nat} {y0 : Int32} {z0 : Int32} {z1 : Nat} {o : Nat} (hK : KK[o]? = some (.inl 1)) : Rn sc d 15 4 L [.int y0, .ref o, .int z0, .ref z1] (cS f g h1 h2) r ↔ ∃ (σ3 : aS) (v : Option Value), Cl sc d 13 [.ref o, .int y0] (cS f g h1 h2) (σ3, v) ∧ Rn sc d 15 7 L (v.toList ++ [.int z0, .ref z1]) σ3 r := r_callV (vs := [.int y0]) d15_4 (j := 13) rfl ⟨rfl, by decide, rfl, rfl⟩ (Nat.le_of_ble_eq_true rfl) hK
theorem d15_7 : decode (mC 15) 7 = .ok (.aload_n 0, 1) := by decide +kernel
theorem x15_7 {sc : aSc} {d : Nat} {r : aRes} {x0 : Nat} {a1 : Value} {st : List Value} {σ : aS} : Rn sc d 15 7 [.ref x0, a1] st σ r ↔ Rn sc d 15 8 [.ref x0, a1] (.ref x0 :: st) σ r := r_aload_n d15_7 rfl
theorem d15_8 : decode (mC 15) 8 = .ok (.getfield 52, 3) := by decide +kernel
theorem x15_8 {sc : aSc} {d : Nat} {r : aRes} {L : List Value} {st : List Value} {f : Nat → Nat → Int32} {g : Nat → Nat → Int64} {h1 h2 : Nat} {o : Nat} (h17 : 17 ≤ o) (hK : KK[o]? = some (.inl 1)) : Rn sc d 15 8 L (.ref o :: st) (cS f g h1 h2) r ↔ Rn sc d 15 11 L (.int (f o 1) :: st) (cS f g h1 h2) r := r_getI d15_8 (ci := 1) (k := 1) rfl (by decide) (fun _ => rfl) h17 hK
theorem d15_11 : decode (mC 15) 11 = .ok (.invokevirtual 87, 3) := by decide +kernel
theorem x15_11 {sc : aSc} {d : Nat} {r : aRes} {L : List Value} {f : Nat → Nat → Int32} {g : Nat → Nat → Int64} {h1 h2 : Nat} {y0 : Int32} {y1 : Int32} {y2 : Int32}  {o : Nat} (hK : KK[o]? = some (.inl 1)) : Rn sc d 15 11 L [.int y0, .int y1, .int y2, .ref o] (cS f g h1 h2) r ↔ ∃ (σ3 : aS) (v : Option Value), Cl sc d 16 [.ref o, .int y2, .int y1, .int y0] (cS f g h1 h2) (σ3, v) ∧ Rn sc d 15 14 L (v.toList ++ []) σ3 r := r_callV (vs := [.int y0, .int y1, .int y2]) d15_11 (j := 16) rfl ⟨rfl, by decide, rfl, rfl⟩ (Nat.le_of_ble_eq_true rfl) hK
theorem d15_14 : decode (mC 15) 14 = .ok (.ireturn, 1) := by decide +kernel
theorem x15_14 {sc : aSc} {d : Nat} {r : aRes} {L : List Value} {σ : aS} {x : Int32} : Rn sc d 15 14 L [.int x] σ r ↔ r = (σ, some (.int x)) := r_iret d15_14 rfl rfl
theorem d16_0 : decode (mC 16) 0 = .ok (.aload_n 0, 1) := by decide +kernel
theorem x16_0 {sc : aSc} {d : Nat} {r : aRes} {x0 : Nat} {a1 : Value} {a2 : Value} {a3 : Value} {a4 : Value} {st : List Value} {σ : aS} : Rn sc d 16 0 [.ref x0, a1, a2, a3, a4] st σ r ↔ Rn sc d 16 1 [.ref x0, a1, a2, a3, a4] (.ref x0 :: st) σ r := r_aload_n d16_0 rfl
theorem d16_1 : decode (mC 16) 1 = .ok (.getfield 41, 3) := by decide +kernel
theorem x16_1 {sc : aSc} {d : Nat} {r : aRes} {L : List Value} {st : List Value} {f : Nat → Nat → Int32} {g : Nat → Nat → Int64} {h1 h2 : Nat} {o : Nat} (hK : KK[o]? = some (.inl 1)) (hR : (RR h1 h2 o 18).isSome = true) : Rn sc d 16 1 L (.ref o :: st) (cS f g h1 h2) r ↔ Rn sc d 16 4 L (.ref (rf h1 h2 o 18) :: st) (cS f g h1 h2) r := r_getR2 d16_1 (ci := 1) (k := 18) rfl (by decide) (fun _ => rfl) hK hR
theorem d16_4 : decode (mC 16) 4 = .ok (.iconst 0, 1) := by decide +kernel
theorem x16_4 {sc : aSc} {d : Nat} {r : aRes} {L : List Value} {st : List Value} {σ : aS} : Rn sc d 16 4 L st σ r ↔ Rn sc d 16 5 L (.int 0 :: st) σ r := r_iconst d16_4 (by decide)
theorem d16_5 : decode (mC 16) 5 = .ok (.iload_n 1, 1) := by decide +kernel
theorem x16_5 {sc : aSc} {d : Nat} {r : aRes} {a0 : Value} {x1 : Int32} {a2 : Value} {a3 : Value} {a4 : Value} {st : List Value} {σ : aS} : Rn sc d 16 5 [a0, .int x1, a2, a3, a4] st σ r ↔ Rn sc d 16 6 [a0, .int x1, a2, a3, a4] (.int x1 :: st) σ r := r_iload_n d16_5 rfl
theorem d16_6 : decode (mC 16) 6 = .ok (.iastore, 1) := by decide +kernel
theorem x16_6 {sc : aSc} {d : Nat} {r : aRes} {L : List Value} {st : List Value} {f : Nat → Nat → Int32} {g : Nat → Nat → Int64} {h1 h2 : Nat} {a : Nat} {i : Int32} {x : Int32} (h17 : 17 ≤ a) (hA : isT9 .int a) (hi : inb i (aln a) = true) : Rn sc d 16 6 L (.int x :: .int i :: .ref a :: st) (cS f g h1 h2) r ↔ Rn sc d 16 7 L st (cS (u2 f a i.toNatClampNeg x) g h1 h2) r := r_iast d16_6 h17 hA hi
theorem d16_7 : decode (mC 16) 7 = .ok (.aload_n 0, 1) := by decide +kernel
theorem x16_7 {sc : aSc} {d : Nat} {r : aRes} {x0 : Nat} {a1 : Value} {a2 : Value} {a3 : Value} {a4 : Value} {st : List Value} {σ : aS} : Rn sc d 16 7 [.ref x0, a1, a2, a3, a4] st σ r ↔ Rn sc d 16 8 [.ref x0, a1, a2, a3, a4] (.ref x0 :: st) σ r := r_aload_n d16_7 rfl
theorem d16_8 : decode (mC 16) 8 = .ok (.getfield 41, 3) := by decide +kernel
theorem x16_8 {sc : aSc} {d : Nat} {r : aRes} {L : List Value} {st : List Value} {f : Nat → Nat → Int32} {g : Nat → Nat → Int64} {h1 h2 : Nat} {o : Nat} (hK : KK[o]? = some (.inl 1)) (hR : (RR h1 h2 o 18).isSome = true) : Rn sc d 16 8 L (.ref o :: st) (cS f g h1 h2) r ↔ Rn sc d 16 11 L (.ref (rf h1 h2 o 18) :: st) (cS f g h1 h2) r := r_getR2 d16_8 (ci := 1) (k := 18) rfl (by decide) (fun _ => rfl) hK hR
theorem d16_11 : decode (mC 16) 11 = .ok (.iconst 1, 1) := by decide +kernel
theorem x16_11 {sc : aSc} {d : Nat} {r : aRes} {L : List Value} {st : List Value} {σ : aS} : Rn sc d 16 11 L st σ r ↔ Rn sc d 16 12 L (.int 1 :: st) σ r := r_iconst d16_11 (by decide)
theorem d16_12 : decode (mC 16) 12 = .ok (.aload_n 0, 1) := by decide +kernel
theorem x16_12 {sc : aSc} {d : Nat} {r : aRes} {x0 : Nat} {a1 : Value} {a2 : Value} {a3 : Value} {a4 : Value} {st : List Value} {σ : aS} : Rn sc d 16 12 [.ref x0, a1, a2, a3, a4] st σ r ↔ Rn sc d 16 13 [.ref x0, a1, a2, a3, a4] (.ref x0 :: st) σ r := r_aload_n d16_12 rfl
theorem d16_13 : decode (mC 16) 13 = .ok (.getfield 9, 3) := by decide +kernel
theorem x16_13 {sc : aSc} {d : Nat} {r : aRes} {L : List Value} {st : List Value} {f : Nat → Nat → Int32} {g : Nat → Nat → Int64} {h1 h2 : Nat} {o : Nat} (hK : KK[o]? = some (.inl 1)) (hR : (RR h1 h2 o 6).isSome = true) : Rn sc d 16 13 L (.ref o :: st) (cS f g h1 h2) r ↔ Rn sc d 16 16 L (.ref (rf h1 h2 o 6) :: st) (cS f g h1 h2) r := r_getR2 d16_13 (ci := 1) (k := 6) rfl (by decide) (fun _ => rfl) hK hR
theorem d16_16 : decode (mC 16) 16 = .ok (.iload_n 1, 1) := by decide +kernel
theorem x16_16 {sc : aSc} {d : Nat} {r : aRes} {a0 : Value} {x1 : Int32} {a2 : Value} {a3 : Value} {a4 : Value} {st : List Value} {σ : aS} : Rn sc d 16 16 [a0, .int x1, a2, a3, a4] st σ r ↔ Rn sc d 16 17 [a0, .int x1, a2, a3, a4] (.int x1 :: st) σ r := r_iload_n d16_16 rfl
theorem d16_17 : decode (mC 16) 17 = .ok (.iaload, 1) := by decide +kernel
theorem x16_17 {sc : aSc} {d : Nat} {r : aRes} {L : List Value} {st : List Value} {f : Nat → Nat → Int32} {g : Nat → Nat → Int64} {h1 h2 : Nat} {a : Nat} {i : Int32} (h17 : 17 ≤ a) (hA : isT9 .int a) (hi : inb i (aln a) = true) : Rn sc d 16 17 L (.int i :: .ref a :: st) (cS f g h1 h2) r ↔ Rn sc d 16 18 L (.int (f a i.toNatClampNeg) :: st) (cS f g h1 h2) r := r_iald d16_17 h17 hA hi
theorem d16_18 : decode (mC 16) 18 = .ok (.iastore, 1) := by decide +kernel
theorem x16_18 {sc : aSc} {d : Nat} {r : aRes} {L : List Value} {st : List Value} {f : Nat → Nat → Int32} {g : Nat → Nat → Int64} {h1 h2 : Nat} {a : Nat} {i : Int32} {x : Int32} (h17 : 17 ≤ a) (hA : isT9 .int a) (hi : inb i (aln a) = true) : Rn sc d 16 18 L (.int x :: .int i :: .ref a :: st) (cS f g h1 h2) r ↔ Rn sc d 16 19 L st (cS (u2 f a i.toNatClampNeg x) g h1 h2) r := r_iast d16_18 h17 hA hi
theorem d16_19 : decode (mC 16) 19 = .ok (.aload_n 0, 1) := by decide +kernel
theorem x16_19 {sc : aSc} {d : Nat} {r : aRes} {x0 : Nat} {a1 : Value} {a2 : Value} {a3 : Value} {a4 : Value} {st : List Value} {σ : aS} : Rn sc d 16 19 [.ref x0, a1, a2, a3, a4] st σ r ↔ Rn sc d 16 20 [.ref x0, a1, a2, a3, a4] (.ref x0 :: st) σ r := r_aload_n d16_19 rfl
theorem d16_20 : decode (mC 16) 20 = .ok (.getfield 41, 3) := by decide +kernel
theorem x16_20 {sc : aSc} {d : Nat} {r : aRes} {L : List Value} {st : List Value} {f : Nat → Nat → Int32} {g : Nat → Nat → Int64} {h1 h2 : Nat} {o : Nat} (hK : KK[o]? = some (.inl 1)) (hR : (RR h1 h2 o 18).isSome = true) : Rn sc d 16 20 L (.ref o :: st) (cS f g h1 h2) r ↔ Rn sc d 16 23 L (.ref (rf h1 h2 o 18) :: st) (cS f g h1 h2) r := r_getR2 d16_20 (ci := 1) (k := 18) rfl (by decide) (fun _ => rfl) hK hR
theorem d16_23 : decode (mC 16) 23 = .ok (.iconst 2, 1) := by decide +kernel
theorem x16_23 {sc : aSc} {d : Nat} {r : aRes} {L : List Value} {st : List Value} {σ : aS} : Rn sc d 16 23 L st σ r ↔ Rn sc d 16 24 L (.int 2 :: st) σ r := r_iconst d16_23 (by decide)
theorem d16_24 : decode (mC 16) 24 = .ok (.aload_n 0, 1) := by decide +kernel
theorem x16_24 {sc : aSc} {d : Nat} {r : aRes} {x0 : Nat} {a1 : Value} {a2 : Value} {a3 : Value} {a4 : Value} {st : List Value} {σ : aS} : Rn sc d 16 24 [.ref x0, a1, a2, a3, a4] st σ r ↔ Rn sc d 16 25 [.ref x0, a1, a2, a3, a4] (.ref x0 :: st) σ r := r_aload_n d16_24 rfl
theorem d16_25 : decode (mC 16) 25 = .ok (.getfield 15, 3) := by decide +kernel
theorem x16_25 {sc : aSc} {d : Nat} {r : aRes} {L : List Value} {st : List Value} {f : Nat → Nat → Int32} {g : Nat → Nat → Int64} {h1 h2 : Nat} {o : Nat} (hK : KK[o]? = some (.inl 1)) (hR : (RR h1 h2 o 7).isSome = true) : Rn sc d 16 25 L (.ref o :: st) (cS f g h1 h2) r ↔ Rn sc d 16 28 L (.ref (rf h1 h2 o 7) :: st) (cS f g h1 h2) r := r_getR2 d16_25 (ci := 1) (k := 7) rfl (by decide) (fun _ => rfl) hK hR
theorem d16_28 : decode (mC 16) 28 = .ok (.iload_n 1, 1) := by decide +kernel
theorem x16_28 {sc : aSc} {d : Nat} {r : aRes} {a0 : Value} {x1 : Int32} {a2 : Value} {a3 : Value} {a4 : Value} {st : List Value} {σ : aS} : Rn sc d 16 28 [a0, .int x1, a2, a3, a4] st σ r ↔ Rn sc d 16 29 [a0, .int x1, a2, a3, a4] (.int x1 :: st) σ r := r_iload_n d16_28 rfl
theorem d16_29 : decode (mC 16) 29 = .ok (.iaload, 1) := by decide +kernel
theorem x16_29 {sc : aSc} {d : Nat} {r : aRes} {L : List Value} {st : List Value} {f : Nat → Nat → Int32} {g : Nat → Nat → Int64} {h1 h2 : Nat} {a : Nat} {i : Int32} (h17 : 17 ≤ a) (hA : isT9 .int a) (hi : inb i (aln a) = true) : Rn sc d 16 29 L (.int i :: .ref a :: st) (cS f g h1 h2) r ↔ Rn sc d 16 30 L (.int (f a i.toNatClampNeg) :: st) (cS f g h1 h2) r := r_iald d16_29 h17 hA hi
theorem d16_30 : decode (mC 16) 30 = .ok (.iastore, 1) := by decide +kernel
theorem x16_30 {sc : aSc} {d : Nat} {r : aRes} {L : List Value} {st : List Value} {f : Nat → Nat → Int32} {g : Nat → Nat → Int64} {h1 h2 : Nat} {a : Nat} {i : Int32} {x : Int32} (h17 : 17 ≤ a) (hA : isT9 .int a) (hi : inb i (aln a) = true) : Rn sc d 16 30 L (.int x :: .int i :: .ref a :: st) (cS f g h1 h2) r ↔ Rn sc d 16 31 L st (cS (u2 f a i.toNatClampNeg x) g h1 h2) r := r_iast d16_30 h17 hA hi
theorem d16_31 : decode (mC 16) 31 = .ok (.aload_n 0, 1) := by decide +kernel
theorem x16_31 {sc : aSc} {d : Nat} {r : aRes} {x0 : Nat} {a1 : Value} {a2 : Value} {a3 : Value} {a4 : Value} {st : List Value} {σ : aS} : Rn sc d 16 31 [.ref x0, a1, a2, a3, a4] st σ r ↔ Rn sc d 16 32 [.ref x0, a1, a2, a3, a4] (.ref x0 :: st) σ r := r_aload_n d16_31 rfl
theorem d16_32 : decode (mC 16) 32 = .ok (.getfield 41, 3) := by decide +kernel
theorem x16_32 {sc : aSc} {d : Nat} {r : aRes} {L : List Value} {st : List Value} {f : Nat → Nat → Int32} {g : Nat → Nat → Int64} {h1 h2 : Nat} {o : Nat} (hK : KK[o]? = some (.inl 1)) (hR : (RR h1 h2 o 18).isSome = true) : Rn sc d 16 32 L (.ref o :: st) (cS f g h1 h2) r ↔ Rn sc d 16 35 L (.ref (rf h1 h2 o 18) :: st) (cS f g h1 h2) r := r_getR2 d16_32 (ci := 1) (k := 18) rfl (by decide) (fun _ => rfl) hK hR
theorem d16_35 : decode (mC 16) 35 = .ok (.iconst 3, 1) := by decide +kernel
theorem x16_35 {sc : aSc} {d : Nat} {r : aRes} {L : List Value} {st : List Value} {σ : aS} : Rn sc d 16 35 L st σ r ↔ Rn sc d 16 36 L (.int 3 :: st) σ r := r_iconst d16_35 (by decide)
theorem d16_36 : decode (mC 16) 36 = .ok (.iload_n 2, 1) := by decide +kernel
theorem x16_36 {sc : aSc} {d : Nat} {r : aRes} {a0 : Value} {a1 : Value} {x2 : Int32} {a3 : Value} {a4 : Value} {st : List Value} {σ : aS} : Rn sc d 16 36 [a0, a1, .int x2, a3, a4] st σ r ↔ Rn sc d 16 37 [a0, a1, .int x2, a3, a4] (.int x2 :: st) σ r := r_iload_n d16_36 rfl
theorem d16_37 : decode (mC 16) 37 = .ok (.iastore, 1) := by decide +kernel
theorem x16_37 {sc : aSc} {d : Nat} {r : aRes} {L : List Value} {st : List Value} {f : Nat → Nat → Int32} {g : Nat → Nat → Int64} {h1 h2 : Nat} {a : Nat} {i : Int32} {x : Int32} (h17 : 17 ≤ a) (hA : isT9 .int a) (hi : inb i (aln a) = true) : Rn sc d 16 37 L (.int x :: .int i :: .ref a :: st) (cS f g h1 h2) r ↔ Rn sc d 16 38 L st (cS (u2 f a i.toNatClampNeg x) g h1 h2) r := r_iast d16_37 h17 hA hi
theorem d16_38 : decode (mC 16) 38 = .ok (.aload_n 0, 1) := by decide +kernel
theorem x16_38 {sc : aSc} {d : Nat} {r : aRes} {x0 : Nat} {a1 : Value} {a2 : Value} {a3 : Value} {a4 : Value} {st : List Value} {σ : aS} : Rn sc d 16 38 [.ref x0, a1, a2, a3, a4] st σ r ↔ Rn sc d 16 39 [.ref x0, a1, a2, a3, a4] (.ref x0 :: st) σ r := r_aload_n d16_38 rfl
theorem d16_39 : decode (mC 16) 39 = .ok (.getfield 41, 3) := by decide +kernel
theorem x16_39 {sc : aSc} {d : Nat} {r : aRes} {L : List Value} {st : List Value} {f : Nat → Nat → Int32} {g : Nat → Nat → Int64} {h1 h2 : Nat} {o : Nat} (hK : KK[o]? = some (.inl 1)) (hR : (RR h1 h2 o 18).isSome = true) : Rn sc d 16 39 L (.ref o :: st) (cS f g h1 h2) r ↔ Rn sc d 16 42 L (.ref (rf h1 h2 o 18) :: st) (cS f g h1 h2) r := r_getR2 d16_39 (ci := 1) (k := 18) rfl (by decide) (fun _ => rfl) hK hR
theorem d16_42 : decode (mC 16) 42 = .ok (.iconst 4, 1) := by decide +kernel
theorem x16_42 {sc : aSc} {d : Nat} {r : aRes} {L : List Value} {st : List Value} {σ : aS} : Rn sc d 16 42 L st σ r ↔ Rn sc d 16 43 L (.int 4 :: st) σ r := r_iconst d16_42 (by decide)
theorem d16_43 : decode (mC 16) 43 = .ok (.aload_n 0, 1) := by decide +kernel
theorem x16_43 {sc : aSc} {d : Nat} {r : aRes} {x0 : Nat} {a1 : Value} {a2 : Value} {a3 : Value} {a4 : Value} {st : List Value} {σ : aS} : Rn sc d 16 43 [.ref x0, a1, a2, a3, a4] st σ r ↔ Rn sc d 16 44 [.ref x0, a1, a2, a3, a4] (.ref x0 :: st) σ r := r_aload_n d16_43 rfl
theorem d16_44 : decode (mC 16) 44 = .ok (.getfield 18, 3) := by decide +kernel
theorem x16_44 {sc : aSc} {d : Nat} {r : aRes} {L : List Value} {st : List Value} {f : Nat → Nat → Int32} {g : Nat → Nat → Int64} {h1 h2 : Nat} {o : Nat} (hK : KK[o]? = some (.inl 1)) (hR : (RR h1 h2 o 8).isSome = true) : Rn sc d 16 44 L (.ref o :: st) (cS f g h1 h2) r ↔ Rn sc d 16 47 L (.ref (rf h1 h2 o 8) :: st) (cS f g h1 h2) r := r_getR2 d16_44 (ci := 1) (k := 8) rfl (by decide) (fun _ => rfl) hK hR
theorem d16_47 : decode (mC 16) 47 = .ok (.iload_n 1, 1) := by decide +kernel
theorem x16_47 {sc : aSc} {d : Nat} {r : aRes} {a0 : Value} {x1 : Int32} {a2 : Value} {a3 : Value} {a4 : Value} {st : List Value} {σ : aS} : Rn sc d 16 47 [a0, .int x1, a2, a3, a4] st σ r ↔ Rn sc d 16 48 [a0, .int x1, a2, a3, a4] (.int x1 :: st) σ r := r_iload_n d16_47 rfl
theorem d16_48 : decode (mC 16) 48 = .ok (.iaload, 1) := by decide +kernel
theorem x16_48 {sc : aSc} {d : Nat} {r : aRes} {L : List Value} {st : List Value} {f : Nat → Nat → Int32} {g : Nat → Nat → Int64} {h1 h2 : Nat} {a : Nat} {i : Int32} (h17 : 17 ≤ a) (hA : isT9 .int a) (hi : inb i (aln a) = true) : Rn sc d 16 48 L (.int i :: .ref a :: st) (cS f g h1 h2) r ↔ Rn sc d 16 49 L (.int (f a i.toNatClampNeg) :: st) (cS f g h1 h2) r := r_iald d16_48 h17 hA hi
theorem d16_49 : decode (mC 16) 49 = .ok (.bipush 10, 2) := by decide +kernel
theorem x16_49 {sc : aSc} {d : Nat} {r : aRes} {L : List Value} {st : List Value} {σ : aS} : Rn sc d 16 49 L st σ r ↔ Rn sc d 16 51 L (.int 10 :: st) σ r := r_bipush d16_49 (by decide)
theorem d16_51 : decode (mC 16) 51 = .ok (.idiv, 1) := by decide +kernel
theorem x16_51 {sc : aSc} {d : Nat} {r : aRes} {L : List Value} {st : List Value} {σ : aS} {x y : Int32} (hy : ¬ y = 0) : Rn sc d 16 51 L (.int y :: .int x :: st) σ r ↔ Rn sc d 16 52 L (.int (x / y) :: st) σ r := r_idiv d16_51 hy
theorem d16_52 : decode (mC 16) 52 = .ok (.iastore, 1) := by decide +kernel
theorem x16_52 {sc : aSc} {d : Nat} {r : aRes} {L : List Value} {st : List Value} {f : Nat → Nat → Int32} {g : Nat → Nat → Int64} {h1 h2 : Nat} {a : Nat} {i : Int32} {x : Int32} (h17 : 17 ≤ a) (hA : isT9 .int a) (hi : inb i (aln a) = true) : Rn sc d 16 52 L (.int x :: .int i :: .ref a :: st) (cS f g h1 h2) r ↔ Rn sc d 16 53 L st (cS (u2 f a i.toNatClampNeg x) g h1 h2) r := r_iast d16_52 h17 hA hi
theorem d16_53 : decode (mC 16) 53 = .ok (.aload_n 0, 1) := by decide +kernel
theorem x16_53 {sc : aSc} {d : Nat} {r : aRes} {x0 : Nat} {a1 : Value} {a2 : Value} {a3 : Value} {a4 : Value} {st : List Value} {σ : aS} : Rn sc d 16 53 [.ref x0, a1, a2, a3, a4] st σ r ↔ Rn sc d 16 54 [.ref x0, a1, a2, a3, a4] (.ref x0 :: st) σ r := r_aload_n d16_53 rfl
theorem d16_54 : decode (mC 16) 54 = .ok (.getfield 41, 3) := by decide +kernel
theorem x16_54 {sc : aSc} {d : Nat} {r : aRes} {L : List Value} {st : List Value} {f : Nat → Nat → Int32} {g : Nat → Nat → Int64} {h1 h2 : Nat} {o : Nat} (hK : KK[o]? = some (.inl 1)) (hR : (RR h1 h2 o 18).isSome = true) : Rn sc d 16 54 L (.ref o :: st) (cS f g h1 h2) r ↔ Rn sc d 16 57 L (.ref (rf h1 h2 o 18) :: st) (cS f g h1 h2) r := r_getR2 d16_54 (ci := 1) (k := 18) rfl (by decide) (fun _ => rfl) hK hR
theorem d16_57 : decode (mC 16) 57 = .ok (.iconst 5, 1) := by decide +kernel
theorem x16_57 {sc : aSc} {d : Nat} {r : aRes} {L : List Value} {st : List Value} {σ : aS} : Rn sc d 16 57 L st σ r ↔ Rn sc d 16 58 L (.int 5 :: st) σ r := r_iconst d16_57 (by decide)
theorem d16_58 : decode (mC 16) 58 = .ok (.iload_n 3, 1) := by decide +kernel
theorem x16_58 {sc : aSc} {d : Nat} {r : aRes} {a0 : Value} {a1 : Value} {a2 : Value} {x3 : Int32} {a4 : Value} {st : List Value} {σ : aS} : Rn sc d 16 58 [a0, a1, a2, .int x3, a4] st σ r ↔ Rn sc d 16 59 [a0, a1, a2, .int x3, a4] (.int x3 :: st) σ r := r_iload_n d16_58 rfl
theorem d16_59 : decode (mC 16) 59 = .ok (.bipush 12, 2) := by decide +kernel
theorem x16_59 {sc : aSc} {d : Nat} {r : aRes} {L : List Value} {st : List Value} {σ : aS} : Rn sc d 16 59 L st σ r ↔ Rn sc d 16 61 L (.int 12 :: st) σ r := r_bipush d16_59 (by decide)
theorem d16_61 : decode (mC 16) 61 = .ok (.irem, 1) := by decide +kernel
theorem x16_61 {sc : aSc} {d : Nat} {r : aRes} {L : List Value} {st : List Value} {σ : aS} {x y : Int32} (hy : ¬ y = 0) : Rn sc d 16 61 L (.int y :: .int x :: st) σ r ↔ Rn sc d 16 62 L (.int (x % y) :: st) σ r := r_irem d16_61 hy
theorem d16_62 : decode (mC 16) 62 = .ok (.iastore, 1) := by decide +kernel
theorem x16_62 {sc : aSc} {d : Nat} {r : aRes} {L : List Value} {st : List Value} {f : Nat → Nat → Int32} {g : Nat → Nat → Int64} {h1 h2 : Nat} {a : Nat} {i : Int32} {x : Int32} (h17 : 17 ≤ a) (hA : isT9 .int a) (hi : inb i (aln a) = true) : Rn sc d 16 62 L (.int x :: .int i :: .ref a :: st) (cS f g h1 h2) r ↔ Rn sc d 16 63 L st (cS (u2 f a i.toNatClampNeg x) g h1 h2) r := r_iast d16_62 h17 hA hi
theorem d16_63 : decode (mC 16) 63 = .ok (.aload_n 0, 1) := by decide +kernel
theorem x16_63 {sc : aSc} {d : Nat} {r : aRes} {x0 : Nat} {a1 : Value} {a2 : Value} {a3 : Value} {a4 : Value} {st : List Value} {σ : aS} : Rn sc d 16 63 [.ref x0, a1, a2, a3, a4] st σ r ↔ Rn sc d 16 64 [.ref x0, a1, a2, a3, a4] (.ref x0 :: st) σ r := r_aload_n d16_63 rfl
theorem d16_64 : decode (mC 16) 64 = .ok (.getfield 18, 3) := by decide +kernel
theorem x16_64 {sc : aSc} {d : Nat} {r : aRes} {L : List Value} {st : List Value} {f : Nat → Nat → Int32} {g : Nat → Nat → Int64} {h1 h2 : Nat} {o : Nat} (hK : KK[o]? = some (.inl 1)) (hR : (RR h1 h2 o 8).isSome = true) : Rn sc d 16 64 L (.ref o :: st) (cS f g h1 h2) r ↔ Rn sc d 16 67 L (.ref (rf h1 h2 o 8) :: st) (cS f g h1 h2) r := r_getR2 d16_64 (ci := 1) (k := 8) rfl (by decide) (fun _ => rfl) hK hR
theorem d16_67 : decode (mC 16) 67 = .ok (.iload_n 1, 1) := by decide +kernel
theorem x16_67 {sc : aSc} {d : Nat} {r : aRes} {a0 : Value} {x1 : Int32} {a2 : Value} {a3 : Value} {a4 : Value} {st : List Value} {σ : aS} : Rn sc d 16 67 [a0, .int x1, a2, a3, a4] st σ r ↔ Rn sc d 16 68 [a0, .int x1, a2, a3, a4] (.int x1 :: st) σ r := r_iload_n d16_67 rfl
theorem d16_68 : decode (mC 16) 68 = .ok (.iaload, 1) := by decide +kernel
theorem x16_68 {sc : aSc} {d : Nat} {r : aRes} {L : List Value} {st : List Value} {f : Nat → Nat → Int32} {g : Nat → Nat → Int64} {h1 h2 : Nat} {a : Nat} {i : Int32} (h17 : 17 ≤ a) (hA : isT9 .int a) (hi : inb i (aln a) = true) : Rn sc d 16 68 L (.int i :: .ref a :: st) (cS f g h1 h2) r ↔ Rn sc d 16 69 L (.int (f a i.toNatClampNeg) :: st) (cS f g h1 h2) r := r_iald d16_68 h17 hA hi
theorem d16_69 : decode (mC 16) 69 = .ok (.aload_n 0, 1) := by decide +kernel
theorem x16_69 {sc : aSc} {d : Nat} {r : aRes} {x0 : Nat} {a1 : Value} {a2 : Value} {a3 : Value} {a4 : Value} {st : List Value} {σ : aS} : Rn sc d 16 69 [.ref x0, a1, a2, a3, a4] st σ r ↔ Rn sc d 16 70 [.ref x0, a1, a2, a3, a4] (.ref x0 :: st) σ r := r_aload_n d16_69 rfl
theorem d16_70 : decode (mC 16) 70 = .ok (.getfield 44, 3) := by decide +kernel
theorem x16_70 {sc : aSc} {d : Nat} {r : aRes} {L : List Value} {st : List Value} {f : Nat → Nat → Int32} {g : Nat → Nat → Int64} {h1 h2 : Nat} {o : Nat} (hK : KK[o]? = some (.inl 1)) (hR : (RR h1 h2 o 17).isSome = true) : Rn sc d 16 70 L (.ref o :: st) (cS f g h1 h2) r ↔ Rn sc d 16 73 L (.ref (rf h1 h2 o 17) :: st) (cS f g h1 h2) r := r_getR2 d16_70 (ci := 1) (k := 17) rfl (by decide) (fun _ => rfl) hK hR
theorem d16_73 : decode (mC 16) 73 = .ok (.aload_n 0, 1) := by decide +kernel
theorem x16_73 {sc : aSc} {d : Nat} {r : aRes} {x0 : Nat} {a1 : Value} {a2 : Value} {a3 : Value} {a4 : Value} {st : List Value} {σ : aS} : Rn sc d 16 73 [.ref x0, a1, a2, a3, a4] st σ r ↔ Rn sc d 16 74 [.ref x0, a1, a2, a3, a4] (.ref x0 :: st) σ r := r_aload_n d16_73 rfl
theorem d16_74 : decode (mC 16) 74 = .ok (.getfield 41, 3) := by decide +kernel
theorem x16_74 {sc : aSc} {d : Nat} {r : aRes} {L : List Value} {st : List Value} {f : Nat → Nat → Int32} {g : Nat → Nat → Int64} {h1 h2 : Nat} {o : Nat} (hK : KK[o]? = some (.inl 1)) (hR : (RR h1 h2 o 18).isSome = true) : Rn sc d 16 74 L (.ref o :: st) (cS f g h1 h2) r ↔ Rn sc d 16 77 L (.ref (rf h1 h2 o 18) :: st) (cS f g h1 h2) r := r_getR2 d16_74 (ci := 1) (k := 18) rfl (by decide) (fun _ => rfl) hK hR
theorem d16_77 : decode (mC 16) 77 = .ok (.invokevirtual 90, 3) := by decide +kernel
theorem x16_77 {sc : aSc} {d : Nat} {r : aRes} {L : List Value} {f : Nat → Nat → Int32} {g : Nat → Nat → Int64} {h1 h2 : Nat} {y0 : Nat} {z0 : Int32} {o : Nat} (hK : KK[o]? = some (.inl 2)) : Rn sc d 16 77 L [.ref y0, .ref o, .int z0] (cS f g h1 h2) r ↔ ∃ (σ3 : aS) (v : Option Value), Cl sc d 28 [.ref o, .ref y0] (cS f g h1 h2) (σ3, v) ∧ Rn sc d 16 80 L (v.toList ++ [.int z0]) σ3 r := r_callV (vs := [.ref y0]) d16_77 (j := 28) rfl ⟨rfl, by decide, rfl, rfl⟩ (Nat.le_of_ble_eq_true rfl) hK
theorem d16_80 : decode (mC 16) 80 = .ok (.iadd, 1) := by decide +kernel
theorem x16_80 {sc : aSc} {d : Nat} {r : aRes} {L : List Value} {st : List Value} {σ : aS} {x y : Int32} : Rn sc d 16 80 L (.int y :: .int x :: st) σ r ↔ Rn sc d 16 81 L (.int (x + y) :: st) σ r := r_iadd d16_80
theorem d16_81 : decode (mC 16) 81 = .ok (.istore 4, 2) := by decide +kernel
theorem x16_81 {sc : aSc} {d : Nat} {r : aRes} {a0 : Value} {a1 : Value} {a2 : Value} {x3 : Int32} {a4 : Value} {st : List Value} {σ : aS} {y : Int32} : Rn sc d 16 81 [a0, a1, a2, .int x3, a4] (.int y :: st) σ r ↔ Rn sc d 16 83 [a0, a1, a2, .int x3, .int y] st σ r := r_istore d16_81 (Nat.le_of_ble_eq_true rfl) rfl
theorem d16_83 : decode (mC 16) 83 = .ok (.iconst 0, 1) := by decide +kernel
theorem x16_83 {sc : aSc} {d : Nat} {r : aRes} {L : List Value} {st : List Value} {σ : aS} : Rn sc d 16 83 L st σ r ↔ Rn sc d 16 84 L (.int 0 :: st) σ r := r_iconst d16_83 (by decide)
theorem d16_84 : decode (mC 16) 84 = .ok (.aload_n 0, 1) := by decide +kernel
theorem x16_84 {sc : aSc} {d : Nat} {r : aRes} {x0 : Nat} {a1 : Value} {a2 : Value} {a3 : Value} {a4 : Value} {st : List Value} {σ : aS} : Rn sc d 16 84 [.ref x0, a1, a2, a3, a4] st σ r ↔ Rn sc d 16 85 [.ref x0, a1, a2, a3, a4] (.ref x0 :: st) σ r := r_aload_n d16_84 rfl
theorem d16_85 : decode (mC 16) 85 = .ok (.iload_n 1, 1) := by decide +kernel
theorem x16_85 {sc : aSc} {d : Nat} {r : aRes} {a0 : Value} {x1 : Int32} {a2 : Value} {a3 : Value} {a4 : Value} {st : List Value} {σ : aS} : Rn sc d 16 85 [a0, .int x1, a2, a3, a4] st σ r ↔ Rn sc d 16 86 [a0, .int x1, a2, a3, a4] (.int x1 :: st) σ r := r_iload_n d16_85 rfl
theorem d16_86 : decode (mC 16) 86 = .ok (.iload 4, 2) := by decide +kernel
theorem x16_86 {sc : aSc} {d : Nat} {r : aRes} {a0 : Value} {a1 : Value} {a2 : Value} {a3 : Value} {x4 : Int32} {st : List Value} {σ : aS} : Rn sc d 16 86 [a0, a1, a2, a3, .int x4] st σ r ↔ Rn sc d 16 88 [a0, a1, a2, a3, .int x4] (.int x4 :: st) σ r := r_iload d16_86 rfl
theorem d16_88 : decode (mC 16) 88 = .ok (.iload_n 3, 1) := by decide +kernel
theorem x16_88 {sc : aSc} {d : Nat} {r : aRes} {a0 : Value} {a1 : Value} {a2 : Value} {x3 : Int32} {a4 : Value} {st : List Value} {σ : aS} : Rn sc d 16 88 [a0, a1, a2, .int x3, a4] st σ r ↔ Rn sc d 16 89 [a0, a1, a2, .int x3, a4] (.int x3 :: st) σ r := r_iload_n d16_88 rfl
theorem d16_89 : decode (mC 16) 89 = .ok (.invokevirtual 94, 3) := by decide +kernel
theorem x16_89 {sc : aSc} {d : Nat} {r : aRes} {L : List Value} {f : Nat → Nat → Int32} {g : Nat → Nat → Int64} {h1 h2 : Nat} {y0 : Int32} {y1 : Int32} {y2 : Int32} {z0 : Int32} {o : Nat} (hK : KK[o]? = some (.inl 1)) : Rn sc d 16 89 L [.int y0, .int y1, .int y2, .ref o, .int z0] (cS f g h1 h2) r ↔ ∃ (σ3 : aS) (v : Option Value), Cl sc d 17 [.ref o, .int y2, .int y1, .int y0] (cS f g h1 h2) (σ3, v) ∧ Rn sc d 16 92 L (v.toList ++ [.int z0]) σ3 r := r_callV (vs := [.int y0, .int y1, .int y2]) d16_89 (j := 17) rfl ⟨rfl, by decide, rfl, rfl⟩ (Nat.le_of_ble_eq_true rfl) hK
theorem d16_92 : decode (mC 16) 92 = .ok (.invokestatic 97, 3) := by decide +kernel
theorem x16_92 {sc : aSc} {d : Nat} {r : aRes} {L : List Value} {σ : aS} {y0 : Int32} {y1 : Int32}  : Rn sc d 16 92 L [.int y0, .int y1] σ r ↔ ∃ (σ3 : aS) (v : Option Value), Cl sc d 207 [.int y1, .int y0] σ (σ3, v) ∧ Rn sc d 16 95 L (v.toList ++ []) σ3 r := r_callS (vs := [.int y0, .int y1]) d16_92 rfl (j := 207) rfl ⟨rfl, by decide, rfl, rfl⟩ (Nat.le_of_ble_eq_true rfl)
theorem d16_95 : decode (mC 16) 95 = .ok (.ireturn, 1) := by decide +kernel
theorem x16_95 {sc : aSc} {d : Nat} {r : aRes} {L : List Value} {σ : aS} {x : Int32} : Rn sc d 16 95 L [.int x] σ r ↔ r = (σ, some (.int x)) := r_iret d16_95 rfl rfl
theorem d17_0 : decode (mC 17) 0 = .ok (.aload_n 0, 1) := by decide +kernel
theorem x17_0 {sc : aSc} {d : Nat} {r : aRes} {x0 : Nat} {a1 : Value} {a2 : Value} {a3 : Value} {a4 : Value} {st : List Value} {σ : aS} : Rn sc d 17 0 [.ref x0, a1, a2, a3, a4] st σ r ↔ Rn sc d 17 1 [.ref x0, a1, a2, a3, a4] (.ref x0 :: st) σ r := r_aload_n d17_0 rfl
theorem d17_1 : decode (mC 17) 1 = .ok (.getfield 15, 3) := by decide +kernel
theorem x17_1 {sc : aSc} {d : Nat} {r : aRes} {L : List Value} {st : List Value} {f : Nat → Nat → Int32} {g : Nat → Nat → Int64} {h1 h2 : Nat} {o : Nat} (hK : KK[o]? = some (.inl 1)) (hR : (RR h1 h2 o 7).isSome = true) : Rn sc d 17 1 L (.ref o :: st) (cS f g h1 h2) r ↔ Rn sc d 17 4 L (.ref (rf h1 h2 o 7) :: st) (cS f g h1 h2) r := r_getR2 d17_1 (ci := 1) (k := 7) rfl (by decide) (fun _ => rfl) hK hR
theorem d17_4 : decode (mC 17) 4 = .ok (.iload_n 1, 1) := by decide +kernel
theorem x17_4 {sc : aSc} {d : Nat} {r : aRes} {a0 : Value} {x1 : Int32} {a2 : Value} {a3 : Value} {a4 : Value} {st : List Value} {σ : aS} : Rn sc d 17 4 [a0, .int x1, a2, a3, a4] st σ r ↔ Rn sc d 17 5 [a0, .int x1, a2, a3, a4] (.int x1 :: st) σ r := r_iload_n d17_4 rfl
theorem d17_5 : decode (mC 17) 5 = .ok (.iaload, 1) := by decide +kernel
theorem x17_5 {sc : aSc} {d : Nat} {r : aRes} {L : List Value} {st : List Value} {f : Nat → Nat → Int32} {g : Nat → Nat → Int64} {h1 h2 : Nat} {a : Nat} {i : Int32} (h17 : 17 ≤ a) (hA : isT9 .int a) (hi : inb i (aln a) = true) : Rn sc d 17 5 L (.int i :: .ref a :: st) (cS f g h1 h2) r ↔ Rn sc d 17 6 L (.int (f a i.toNatClampNeg) :: st) (cS f g h1 h2) r := r_iald d17_5 h17 hA hi
theorem d17_6 : decode (mC 17) 6 = .ok (.istore 4, 2) := by decide +kernel
theorem x17_6 {sc : aSc} {d : Nat} {r : aRes} {a0 : Value} {a1 : Value} {a2 : Value} {x3 : Int32} {a4 : Value} {st : List Value} {σ : aS} {y : Int32} : Rn sc d 17 6 [a0, a1, a2, .int x3, a4] (.int y :: st) σ r ↔ Rn sc d 17 8 [a0, a1, a2, .int x3, .int y] st σ r := r_istore d17_6 (Nat.le_of_ble_eq_true rfl) rfl
theorem d17_8 : decode (mC 17) 8 = .ok (.aload_n 0, 1) := by decide +kernel
theorem x17_8 {sc : aSc} {d : Nat} {r : aRes} {x0 : Nat} {a1 : Value} {a2 : Value} {a3 : Value} {a4 : Value} {st : List Value} {σ : aS} : Rn sc d 17 8 [.ref x0, a1, a2, a3, a4] st σ r ↔ Rn sc d 17 9 [.ref x0, a1, a2, a3, a4] (.ref x0 :: st) σ r := r_aload_n d17_8 rfl
theorem d17_9 : decode (mC 17) 9 = .ok (.getfield 9, 3) := by decide +kernel
theorem x17_9 {sc : aSc} {d : Nat} {r : aRes} {L : List Value} {st : List Value} {f : Nat → Nat → Int32} {g : Nat → Nat → Int64} {h1 h2 : Nat} {o : Nat} (hK : KK[o]? = some (.inl 1)) (hR : (RR h1 h2 o 6).isSome = true) : Rn sc d 17 9 L (.ref o :: st) (cS f g h1 h2) r ↔ Rn sc d 17 12 L (.ref (rf h1 h2 o 6) :: st) (cS f g h1 h2) r := r_getR2 d17_9 (ci := 1) (k := 6) rfl (by decide) (fun _ => rfl) hK hR
theorem d17_12 : decode (mC 17) 12 = .ok (.iload_n 1, 1) := by decide +kernel
theorem x17_12 {sc : aSc} {d : Nat} {r : aRes} {a0 : Value} {x1 : Int32} {a2 : Value} {a3 : Value} {a4 : Value} {st : List Value} {σ : aS} : Rn sc d 17 12 [a0, .int x1, a2, a3, a4] st σ r ↔ Rn sc d 17 13 [a0, .int x1, a2, a3, a4] (.int x1 :: st) σ r := r_iload_n d17_12 rfl
theorem d17_13 : decode (mC 17) 13 = .ok (.iaload, 1) := by decide +kernel
theorem x17_13 {sc : aSc} {d : Nat} {r : aRes} {L : List Value} {st : List Value} {f : Nat → Nat → Int32} {g : Nat → Nat → Int64} {h1 h2 : Nat} {a : Nat} {i : Int32} (h17 : 17 ≤ a) (hA : isT9 .int a) (hi : inb i (aln a) = true) : Rn sc d 17 13 L (.int i :: .ref a :: st) (cS f g h1 h2) r ↔ Rn sc d 17 14 L (.int (f a i.toNatClampNeg) :: st) (cS f g h1 h2) r := r_iald d17_13 h17 hA hi
theorem d17_14 : decode (mC 17) 14 = .ok (.tableswitch 107 1 6 #[38, 43, 47, 54, 72, 87], 38) := by decide +kernel
theorem x17_14 {sc : aSc} {d : Nat} {r : aRes} {L : List Value} {st : List Value} {σ : aS} {x : Int32} : Rn sc d 17 14 L (.int x :: st) σ r ↔ (if x = 1 then Rn sc d 17 52 L st σ r else (if x = 2 then Rn sc d 17 57 L st σ r else (if x = 3 then Rn sc d 17 61 L st σ r else (if x = 4 then Rn sc d 17 68 L st σ r else (if x = 5 then Rn sc d 17 86 L st σ r else (if x = 6 then Rn sc d 17 101 L st σ r else Rn sc d 17 121 L st σ r)))))) := by
  by_cases c0 : x = 1
  · subst c0; simp only [if_pos]; exact r_tsw d17_14 (t := 52) rfl
  rw [if_neg c0]
  by_cases c1 : x = 2
  · subst c1; simp only [if_pos]; exact r_tsw d17_14 (t := 57) rfl
  rw [if_neg c1]
  by_cases c2 : x = 3
  · subst c2; simp only [if_pos]; exact r_tsw d17_14 (t := 61) rfl
  rw [if_neg c2]
  by_cases c3 : x = 4
  · subst c3; simp only [if_pos]; exact r_tsw d17_14 (t := 68) rfl
  rw [if_neg c3]
  by_cases c4 : x = 5
  · subst c4; simp only [if_pos]; exact r_tsw d17_14 (t := 86) rfl
  rw [if_neg c4]
  by_cases c5 : x = 6
  · subst c5; simp only [if_pos]; exact r_tsw d17_14 (t := 101) rfl
  rw [if_neg c5]
  refine r_tswd d17_14 ?_ rfl
  have e0 : x.toInt ≠ 1 := fun z => c0 (Int32.toInt_inj.mp z)
  have e1 : x.toInt ≠ 2 := fun z => c1 (Int32.toInt_inj.mp z)
  have e2 : x.toInt ≠ 3 := fun z => c2 (Int32.toInt_inj.mp z)
  have e3 : x.toInt ≠ 4 := fun z => c3 (Int32.toInt_inj.mp z)
  have e4 : x.toInt ≠ 5 := fun z => c4 (Int32.toInt_inj.mp z)
  have e5 : x.toInt ≠ 6 := fun z => c5 (Int32.toInt_inj.mp z)
  omega
theorem d17_52 : decode (mC 17) 52 = .ok (.iload_n 2, 1) := by decide +kernel
theorem x17_52 {sc : aSc} {d : Nat} {r : aRes} {a0 : Value} {a1 : Value} {x2 : Int32} {a3 : Value} {a4 : Value} {st : List Value} {σ : aS} : Rn sc d 17 52 [a0, a1, .int x2, a3, a4] st σ r ↔ Rn sc d 17 53 [a0, a1, .int x2, a3, a4] (.int x2 :: st) σ r := r_iload_n d17_52 rfl
theorem d17_53 : decode (mC 17) 53 = .ok (.iload 4, 2) := by decide +kernel
theorem x17_53 {sc : aSc} {d : Nat} {r : aRes} {a0 : Value} {a1 : Value} {a2 : Value} {a3 : Value} {x4 : Int32} {st : List Value} {σ : aS} : Rn sc d 17 53 [a0, a1, a2, a3, .int x4] st σ r ↔ Rn sc d 17 55 [a0, a1, a2, a3, .int x4] (.int x4 :: st) σ r := r_iload d17_53 rfl
theorem d17_55 : decode (mC 17) 55 = .ok (.iadd, 1) := by decide +kernel
theorem x17_55 {sc : aSc} {d : Nat} {r : aRes} {L : List Value} {st : List Value} {σ : aS} {x y : Int32} : Rn sc d 17 55 L (.int y :: .int x :: st) σ r ↔ Rn sc d 17 56 L (.int (x + y) :: st) σ r := r_iadd d17_55
theorem d17_56 : decode (mC 17) 56 = .ok (.ireturn, 1) := by decide +kernel
theorem x17_56 {sc : aSc} {d : Nat} {r : aRes} {L : List Value} {σ : aS} {x : Int32} : Rn sc d 17 56 L [.int x] σ r ↔ r = (σ, some (.int x)) := r_iret d17_56 rfl rfl
theorem d17_57 : decode (mC 17) 57 = .ok (.iload_n 2, 1) := by decide +kernel
theorem x17_57 {sc : aSc} {d : Nat} {r : aRes} {a0 : Value} {a1 : Value} {x2 : Int32} {a3 : Value} {a4 : Value} {st : List Value} {σ : aS} : Rn sc d 17 57 [a0, a1, .int x2, a3, a4] st σ r ↔ Rn sc d 17 58 [a0, a1, .int x2, a3, a4] (.int x2 :: st) σ r := r_iload_n d17_57 rfl
theorem d17_58 : decode (mC 17) 58 = .ok (.iconst 2, 1) := by decide +kernel
theorem x17_58 {sc : aSc} {d : Nat} {r : aRes} {L : List Value} {st : List Value} {σ : aS} : Rn sc d 17 58 L st σ r ↔ Rn sc d 17 59 L (.int 2 :: st) σ r := r_iconst d17_58 (by decide)
theorem d17_59 : decode (mC 17) 59 = .ok (.idiv, 1) := by decide +kernel
theorem x17_59 {sc : aSc} {d : Nat} {r : aRes} {L : List Value} {st : List Value} {σ : aS} {x y : Int32} (hy : ¬ y = 0) : Rn sc d 17 59 L (.int y :: .int x :: st) σ r ↔ Rn sc d 17 60 L (.int (x / y) :: st) σ r := r_idiv d17_59 hy
theorem d17_60 : decode (mC 17) 60 = .ok (.ireturn, 1) := by decide +kernel
theorem x17_60 {sc : aSc} {d : Nat} {r : aRes} {L : List Value} {σ : aS} {x : Int32} : Rn sc d 17 60 L [.int x] σ r ↔ r = (σ, some (.int x)) := r_iret d17_60 rfl rfl
theorem d17_61 : decode (mC 17) 61 = .ok (.iload_n 2, 1) := by decide +kernel
theorem x17_61 {sc : aSc} {d : Nat} {r : aRes} {a0 : Value} {a1 : Value} {x2 : Int32} {a3 : Value} {a4 : Value} {st : List Value} {σ : aS} : Rn sc d 17 61 [a0, a1, .int x2, a3, a4] st σ r ↔ Rn sc d 17 62 [a0, a1, .int x2, a3, a4] (.int x2 :: st) σ r := r_iload_n d17_61 rfl
theorem d17_62 : decode (mC 17) 62 = .ok (.iconst 2, 1) := by decide +kernel
theorem x17_62 {sc : aSc} {d : Nat} {r : aRes} {L : List Value} {st : List Value} {σ : aS} : Rn sc d 17 62 L st σ r ↔ Rn sc d 17 63 L (.int 2 :: st) σ r := r_iconst d17_62 (by decide)
theorem d17_63 : decode (mC 17) 63 = .ok (.iload 4, 2) := by decide +kernel
theorem x17_63 {sc : aSc} {d : Nat} {r : aRes} {a0 : Value} {a1 : Value} {a2 : Value} {a3 : Value} {x4 : Int32} {st : List Value} {σ : aS} : Rn sc d 17 63 [a0, a1, a2, a3, .int x4] st σ r ↔ Rn sc d 17 65 [a0, a1, a2, a3, .int x4] (.int x4 :: st) σ r := r_iload d17_63 rfl
theorem d17_65 : decode (mC 17) 65 = .ok (.imul, 1) := by decide +kernel
theorem x17_65 {sc : aSc} {d : Nat} {r : aRes} {L : List Value} {st : List Value} {σ : aS} {x y : Int32} : Rn sc d 17 65 L (.int y :: .int x :: st) σ r ↔ Rn sc d 17 66 L (.int (x * y) :: st) σ r := r_imul d17_65
theorem d17_66 : decode (mC 17) 66 = .ok (.isub, 1) := by decide +kernel
theorem x17_66 {sc : aSc} {d : Nat} {r : aRes} {L : List Value} {st : List Value} {σ : aS} {x y : Int32} : Rn sc d 17 66 L (.int y :: .int x :: st) σ r ↔ Rn sc d 17 67 L (.int (x - y) :: st) σ r := r_isub d17_66
theorem d17_67 : decode (mC 17) 67 = .ok (.ireturn, 1) := by decide +kernel
theorem x17_67 {sc : aSc} {d : Nat} {r : aRes} {L : List Value} {σ : aS} {x : Int32} : Rn sc d 17 67 L [.int x] σ r ↔ r = (σ, some (.int x)) := r_iret d17_67 rfl rfl
theorem d17_68 : decode (mC 17) 68 = .ok (.iload_n 2, 1) := by decide +kernel
theorem x17_68 {sc : aSc} {d : Nat} {r : aRes} {a0 : Value} {a1 : Value} {x2 : Int32} {a3 : Value} {a4 : Value} {st : List Value} {σ : aS} : Rn sc d 17 68 [a0, a1, .int x2, a3, a4] st σ r ↔ Rn sc d 17 69 [a0, a1, .int x2, a3, a4] (.int x2 :: st) σ r := r_iload_n d17_68 rfl
theorem d17_69 : decode (mC 17) 69 = .ok (.iload 4, 2) := by decide +kernel
theorem x17_69 {sc : aSc} {d : Nat} {r : aRes} {a0 : Value} {a1 : Value} {a2 : Value} {a3 : Value} {x4 : Int32} {st : List Value} {σ : aS} : Rn sc d 17 69 [a0, a1, a2, a3, .int x4] st σ r ↔ Rn sc d 17 71 [a0, a1, a2, a3, .int x4] (.int x4 :: st) σ r := r_iload d17_69 rfl
theorem d17_71 : decode (mC 17) 71 = .ok (.iadd, 1) := by decide +kernel
theorem x17_71 {sc : aSc} {d : Nat} {r : aRes} {L : List Value} {st : List Value} {σ : aS} {x y : Int32} : Rn sc d 17 71 L (.int y :: .int x :: st) σ r ↔ Rn sc d 17 72 L (.int (x + y) :: st) σ r := r_iadd d17_71
theorem d17_72 : decode (mC 17) 72 = .ok (.iload_n 3, 1) := by decide +kernel
theorem x17_72 {sc : aSc} {d : Nat} {r : aRes} {a0 : Value} {a1 : Value} {a2 : Value} {x3 : Int32} {a4 : Value} {st : List Value} {σ : aS} : Rn sc d 17 72 [a0, a1, a2, .int x3, a4] st σ r ↔ Rn sc d 17 73 [a0, a1, a2, .int x3, a4] (.int x3 :: st) σ r := r_iload_n d17_72 rfl
theorem d17_73 : decode (mC 17) 73 = .ok (.iconst 2, 1) := by decide +kernel
theorem x17_73 {sc : aSc} {d : Nat} {r : aRes} {L : List Value} {st : List Value} {σ : aS} : Rn sc d 17 73 L st σ r ↔ Rn sc d 17 74 L (.int 2 :: st) σ r := r_iconst d17_73 (by decide)
theorem d17_74 : decode (mC 17) 74 = .ok (.irem, 1) := by decide +kernel
theorem x17_74 {sc : aSc} {d : Nat} {r : aRes} {L : List Value} {st : List Value} {σ : aS} {x y : Int32} (hy : ¬ y = 0) : Rn sc d 17 74 L (.int y :: .int x :: st) σ r ↔ Rn sc d 17 75 L (.int (x % y) :: st) σ r := r_irem d17_74 hy
theorem d17_75 : decode (mC 17) 75 = .ok (.iconst 1, 1) := by decide +kernel
theorem x17_75 {sc : aSc} {d : Nat} {r : aRes} {L : List Value} {st : List Value} {σ : aS} : Rn sc d 17 75 L st σ r ↔ Rn sc d 17 76 L (.int 1 :: st) σ r := r_iconst d17_75 (by decide)
theorem d17_76 : decode (mC 17) 76 = .ok (.if_icmp .ne 7, 3) := by decide +kernel
theorem x17_76 {sc : aSc} {d : Nat} {r : aRes} {L : List Value} {st : List Value} {σ : aS} {x y : Int32} : Rn sc d 17 76 L (.int y :: .int x :: st) σ r ↔ if x = y then Rn sc d 17 79 L st σ r else Rn sc d 17 83 L st σ r := r_icmp_ne d17_76 rfl
theorem d17_79 : decode (mC 17) 79 = .ok (.iconst 2, 1) := by decide +kernel
theorem x17_79 {sc : aSc} {d : Nat} {r : aRes} {L : List Value} {st : List Value} {σ : aS} : Rn sc d 17 79 L st σ r ↔ Rn sc d 17 80 L (.int 2 :: st) σ r := r_iconst d17_79 (by decide)
theorem d17_80 : decode (mC 17) 80 = .ok (.goto 4, 3) := by decide +kernel
theorem x17_80 {sc : aSc} {d : Nat} {r : aRes} {L : List Value} {st : List Value} {σ : aS} : Rn sc d 17 80 L st σ r ↔ Rn sc d 17 84 L st σ r := r_goto d17_80 rfl
theorem d17_83 : decode (mC 17) 83 = .ok (.iconst 1, 1) := by decide +kernel
theorem x17_83 {sc : aSc} {d : Nat} {r : aRes} {L : List Value} {st : List Value} {σ : aS} : Rn sc d 17 83 L st σ r ↔ Rn sc d 17 84 L (.int 1 :: st) σ r := r_iconst d17_83 (by decide)
theorem d17_84 : decode (mC 17) 84 = .ok (.imul, 1) := by decide +kernel
theorem x17_84 {sc : aSc} {d : Nat} {r : aRes} {L : List Value} {st : List Value} {σ : aS} {x y : Int32} : Rn sc d 17 84 L (.int y :: .int x :: st) σ r ↔ Rn sc d 17 85 L (.int (x * y) :: st) σ r := r_imul d17_84
theorem d17_85 : decode (mC 17) 85 = .ok (.ireturn, 1) := by decide +kernel
theorem x17_85 {sc : aSc} {d : Nat} {r : aRes} {L : List Value} {σ : aS} {x : Int32} : Rn sc d 17 85 L [.int x] σ r ↔ r = (σ, some (.int x)) := r_iret d17_85 rfl rfl
theorem d17_86 : decode (mC 17) 86 = .ok (.iload_n 3, 1) := by decide +kernel
theorem x17_86 {sc : aSc} {d : Nat} {r : aRes} {a0 : Value} {a1 : Value} {a2 : Value} {x3 : Int32} {a4 : Value} {st : List Value} {σ : aS} : Rn sc d 17 86 [a0, a1, a2, .int x3, a4] st σ r ↔ Rn sc d 17 87 [a0, a1, a2, .int x3, a4] (.int x3 :: st) σ r := r_iload_n d17_86 rfl
theorem d17_87 : decode (mC 17) 87 = .ok (.iconst 3, 1) := by decide +kernel
theorem x17_87 {sc : aSc} {d : Nat} {r : aRes} {L : List Value} {st : List Value} {σ : aS} : Rn sc d 17 87 L st σ r ↔ Rn sc d 17 88 L (.int 3 :: st) σ r := r_iconst d17_87 (by decide)
theorem d17_88 : decode (mC 17) 88 = .ok (.irem, 1) := by decide +kernel
theorem x17_88 {sc : aSc} {d : Nat} {r : aRes} {L : List Value} {st : List Value} {σ : aS} {x y : Int32} (hy : ¬ y = 0) : Rn sc d 17 88 L (.int y :: .int x :: st) σ r ↔ Rn sc d 17 89 L (.int (x % y) :: st) σ r := r_irem d17_88 hy
theorem d17_89 : decode (mC 17) 89 = .ok (.ifCond .ne 8, 3) := by decide +kernel
theorem x17_89 {sc : aSc} {d : Nat} {r : aRes} {L : List Value} {st : List Value} {σ : aS} {x : Int32} : Rn sc d 17 89 L (.int x :: st) σ r ↔ if x = 0 then Rn sc d 17 92 L st σ r else Rn sc d 17 97 L st σ r := r_if_ne d17_89 rfl
theorem d17_92 : decode (mC 17) 92 = .ok (.iload 4, 2) := by decide +kernel
theorem x17_92 {sc : aSc} {d : Nat} {r : aRes} {a0 : Value} {a1 : Value} {a2 : Value} {a3 : Value} {x4 : Int32} {st : List Value} {σ : aS} : Rn sc d 17 92 [a0, a1, a2, a3, .int x4] st σ r ↔ Rn sc d 17 94 [a0, a1, a2, a3, .int x4] (.int x4 :: st) σ r := r_iload d17_92 rfl
theorem d17_94 : decode (mC 17) 94 = .ok (.goto 6, 3) := by decide +kernel
theorem x17_94 {sc : aSc} {d : Nat} {r : aRes} {L : List Value} {st : List Value} {σ : aS} : Rn sc d 17 94 L st σ r ↔ Rn sc d 17 100 L st σ r := r_goto d17_94 rfl
theorem d17_97 : decode (mC 17) 97 = .ok (.iload_n 2, 1) := by decide +kernel
theorem x17_97 {sc : aSc} {d : Nat} {r : aRes} {a0 : Value} {a1 : Value} {x2 : Int32} {a3 : Value} {a4 : Value} {st : List Value} {σ : aS} : Rn sc d 17 97 [a0, a1, .int x2, a3, a4] st σ r ↔ Rn sc d 17 98 [a0, a1, .int x2, a3, a4] (.int x2 :: st) σ r := r_iload_n d17_97 rfl
theorem d17_98 : decode (mC 17) 98 = .ok (.iconst 2, 1) := by decide +kernel
theorem x17_98 {sc : aSc} {d : Nat} {r : aRes} {L : List Value} {st : List Value} {σ : aS} : Rn sc d 17 98 L st σ r ↔ Rn sc d 17 99 L (.int 2 :: st) σ r := r_iconst d17_98 (by decide)
theorem d17_99 : decode (mC 17) 99 = .ok (.idiv, 1) := by decide +kernel
theorem x17_99 {sc : aSc} {d : Nat} {r : aRes} {L : List Value} {st : List Value} {σ : aS} {x y : Int32} (hy : ¬ y = 0) : Rn sc d 17 99 L (.int y :: .int x :: st) σ r ↔ Rn sc d 17 100 L (.int (x / y) :: st) σ r := r_idiv d17_99 hy
theorem d17_100 : decode (mC 17) 100 = .ok (.ireturn, 1) := by decide +kernel
theorem x17_100 {sc : aSc} {d : Nat} {r : aRes} {L : List Value} {σ : aS} {x : Int32} : Rn sc d 17 100 L [.int x] σ r ↔ r = (σ, some (.int x)) := r_iret d17_100 rfl rfl
theorem d17_101 : decode (mC 17) 101 = .ok (.iload_n 2, 1) := by decide +kernel
theorem x17_101 {sc : aSc} {d : Nat} {r : aRes} {a0 : Value} {a1 : Value} {x2 : Int32} {a3 : Value} {a4 : Value} {st : List Value} {σ : aS} : Rn sc d 17 101 [a0, a1, .int x2, a3, a4] st σ r ↔ Rn sc d 17 102 [a0, a1, .int x2, a3, a4] (.int x2 :: st) σ r := r_iload_n d17_101 rfl
theorem d17_102 : decode (mC 17) 102 = .ok (.iconst 2, 1) := by decide +kernel
theorem x17_102 {sc : aSc} {d : Nat} {r : aRes} {L : List Value} {st : List Value} {σ : aS} : Rn sc d 17 102 L st σ r ↔ Rn sc d 17 103 L (.int 2 :: st) σ r := r_iconst d17_102 (by decide)
theorem d17_103 : decode (mC 17) 103 = .ok (.iload 4, 2) := by decide +kernel
theorem x17_103 {sc : aSc} {d : Nat} {r : aRes} {a0 : Value} {a1 : Value} {a2 : Value} {a3 : Value} {x4 : Int32} {st : List Value} {σ : aS} : Rn sc d 17 103 [a0, a1, a2, a3, .int x4] st σ r ↔ Rn sc d 17 105 [a0, a1, a2, a3, .int x4] (.int x4 :: st) σ r := r_iload d17_103 rfl
theorem d17_105 : decode (mC 17) 105 = .ok (.imul, 1) := by decide +kernel
theorem x17_105 {sc : aSc} {d : Nat} {r : aRes} {L : List Value} {st : List Value} {σ : aS} {x y : Int32} : Rn sc d 17 105 L (.int y :: .int x :: st) σ r ↔ Rn sc d 17 106 L (.int (x * y) :: st) σ r := r_imul d17_105
theorem d17_106 : decode (mC 17) 106 = .ok (.isub, 1) := by decide +kernel
theorem x17_106 {sc : aSc} {d : Nat} {r : aRes} {L : List Value} {st : List Value} {σ : aS} {x y : Int32} : Rn sc d 17 106 L (.int y :: .int x :: st) σ r ↔ Rn sc d 17 107 L (.int (x - y) :: st) σ r := r_isub d17_106
theorem d17_107 : decode (mC 17) 107 = .ok (.aload_n 0, 1) := by decide +kernel
theorem x17_107 {sc : aSc} {d : Nat} {r : aRes} {x0 : Nat} {a1 : Value} {a2 : Value} {a3 : Value} {a4 : Value} {st : List Value} {σ : aS} : Rn sc d 17 107 [.ref x0, a1, a2, a3, a4] st σ r ↔ Rn sc d 17 108 [.ref x0, a1, a2, a3, a4] (.ref x0 :: st) σ r := r_aload_n d17_107 rfl
theorem d17_108 : decode (mC 17) 108 = .ok (.getfield 24, 3) := by decide +kernel
theorem x17_108 {sc : aSc} {d : Nat} {r : aRes} {L : List Value} {st : List Value} {f : Nat → Nat → Int32} {g : Nat → Nat → Int64} {h1 h2 : Nat} {o : Nat} (hK : KK[o]? = some (.inl 1)) (hR : (RR h1 h2 o 10).isSome = true) : Rn sc d 17 108 L (.ref o :: st) (cS f g h1 h2) r ↔ Rn sc d 17 111 L (.ref (rf h1 h2 o 10) :: st) (cS f g h1 h2) r := r_getR2 d17_108 (ci := 1) (k := 10) rfl (by decide) (fun _ => rfl) hK hR
theorem d17_111 : decode (mC 17) 111 = .ok (.iload_n 1, 1) := by decide +kernel
theorem x17_111 {sc : aSc} {d : Nat} {r : aRes} {a0 : Value} {x1 : Int32} {a2 : Value} {a3 : Value} {a4 : Value} {st : List Value} {σ : aS} : Rn sc d 17 111 [a0, .int x1, a2, a3, a4] st σ r ↔ Rn sc d 17 112 [a0, .int x1, a2, a3, a4] (.int x1 :: st) σ r := r_iload_n d17_111 rfl
theorem d17_112 : decode (mC 17) 112 = .ok (.iconst 4, 1) := by decide +kernel
theorem x17_112 {sc : aSc} {d : Nat} {r : aRes} {L : List Value} {st : List Value} {σ : aS} : Rn sc d 17 112 L st σ r ↔ Rn sc d 17 113 L (.int 4 :: st) σ r := r_iconst d17_112 (by decide)
theorem d17_113 : decode (mC 17) 113 = .ok (.imul, 1) := by decide +kernel
theorem x17_113 {sc : aSc} {d : Nat} {r : aRes} {L : List Value} {st : List Value} {σ : aS} {x y : Int32} : Rn sc d 17 113 L (.int y :: .int x :: st) σ r ↔ Rn sc d 17 114 L (.int (x * y) :: st) σ r := r_imul d17_113
theorem d17_114 : decode (mC 17) 114 = .ok (.iload_n 3, 1) := by decide +kernel
theorem x17_114 {sc : aSc} {d : Nat} {r : aRes} {a0 : Value} {a1 : Value} {a2 : Value} {x3 : Int32} {a4 : Value} {st : List Value} {σ : aS} : Rn sc d 17 114 [a0, a1, a2, .int x3, a4] st σ r ↔ Rn sc d 17 115 [a0, a1, a2, .int x3, a4] (.int x3 :: st) σ r := r_iload_n d17_114 rfl
theorem d17_115 : decode (mC 17) 115 = .ok (.iconst 4, 1) := by decide +kernel
theorem x17_115 {sc : aSc} {d : Nat} {r : aRes} {L : List Value} {st : List Value} {σ : aS} : Rn sc d 17 115 L st σ r ↔ Rn sc d 17 116 L (.int 4 :: st) σ r := r_iconst d17_115 (by decide)
theorem d17_116 : decode (mC 17) 116 = .ok (.irem, 1) := by decide +kernel
theorem x17_116 {sc : aSc} {d : Nat} {r : aRes} {L : List Value} {st : List Value} {σ : aS} {x y : Int32} (hy : ¬ y = 0) : Rn sc d 17 116 L (.int y :: .int x :: st) σ r ↔ Rn sc d 17 117 L (.int (x % y) :: st) σ r := r_irem d17_116 hy
theorem d17_117 : decode (mC 17) 117 = .ok (.iadd, 1) := by decide +kernel
theorem x17_117 {sc : aSc} {d : Nat} {r : aRes} {L : List Value} {st : List Value} {σ : aS} {x y : Int32} : Rn sc d 17 117 L (.int y :: .int x :: st) σ r ↔ Rn sc d 17 118 L (.int (x + y) :: st) σ r := r_iadd d17_117
theorem d17_118 : decode (mC 17) 118 = .ok (.iaload, 1) := by decide +kernel
theorem x17_118 {sc : aSc} {d : Nat} {r : aRes} {L : List Value} {st : List Value} {f : Nat → Nat → Int32} {g : Nat → Nat → Int64} {h1 h2 : Nat} {a : Nat} {i : Int32} (h17 : 17 ≤ a) (hA : isT9 .int a) (hi : inb i (aln a) = true) : Rn sc d 17 118 L (.int i :: .ref a :: st) (cS f g h1 h2) r ↔ Rn sc d 17 119 L (.int (f a i.toNatClampNeg) :: st) (cS f g h1 h2) r := r_iald d17_118 h17 hA hi
theorem d17_119 : decode (mC 17) 119 = .ok (.iadd, 1) := by decide +kernel
theorem x17_119 {sc : aSc} {d : Nat} {r : aRes} {L : List Value} {st : List Value} {σ : aS} {x y : Int32} : Rn sc d 17 119 L (.int y :: .int x :: st) σ r ↔ Rn sc d 17 120 L (.int (x + y) :: st) σ r := r_iadd d17_119
theorem d17_120 : decode (mC 17) 120 = .ok (.ireturn, 1) := by decide +kernel
theorem x17_120 {sc : aSc} {d : Nat} {r : aRes} {L : List Value} {σ : aS} {x : Int32} : Rn sc d 17 120 L [.int x] σ r ↔ r = (σ, some (.int x)) := r_iret d17_120 rfl rfl
theorem d17_121 : decode (mC 17) 121 = .ok (.iload_n 2, 1) := by decide +kernel
theorem x17_121 {sc : aSc} {d : Nat} {r : aRes} {a0 : Value} {a1 : Value} {x2 : Int32} {a3 : Value} {a4 : Value} {st : List Value} {σ : aS} : Rn sc d 17 121 [a0, a1, .int x2, a3, a4] st σ r ↔ Rn sc d 17 122 [a0, a1, .int x2, a3, a4] (.int x2 :: st) σ r := r_iload_n d17_121 rfl
theorem d17_122 : decode (mC 17) 122 = .ok (.ireturn, 1) := by decide +kernel
theorem x17_122 {sc : aSc} {d : Nat} {r : aRes} {L : List Value} {σ : aS} {x : Int32} : Rn sc d 17 122 L [.int x] σ r ↔ r = (σ, some (.int x)) := r_iret d17_122 rfl rfl
theorem d18_0 : decode (mC 18) 0 = .ok (.aload_n 0, 1) := by decide +kernel
theorem x18_0 {sc : aSc} {d : Nat} {r : aRes} {x0 : Nat} {a1 : Value} {a2 : Value} {a3 : Value} {a4 : Value} {st : List Value} {σ : aS} : Rn sc d 18 0 [.ref x0, a1, a2, a3, a4] st σ r ↔ Rn sc d 18 1 [.ref x0, a1, a2, a3, a4] (.ref x0 :: st) σ r := r_aload_n d18_0 rfl
theorem d18_1 : decode (mC 18) 1 = .ok (.iload_n 1, 1) := by decide +kernel
theorem x18_1 {sc : aSc} {d : Nat} {r : aRes} {a0 : Value} {x1 : Int32} {a2 : Value} {a3 : Value} {a4 : Value} {st : List Value} {σ : aS} : Rn sc d 18 1 [a0, .int x1, a2, a3, a4] st σ r ↔ Rn sc d 18 2 [a0, .int x1, a2, a3, a4] (.int x1 :: st) σ r := r_iload_n d18_1 rfl
theorem d18_2 : decode (mC 18) 2 = .ok (.iload_n 3, 1) := by decide +kernel
theorem x18_2 {sc : aSc} {d : Nat} {r : aRes} {a0 : Value} {a1 : Value} {a2 : Value} {x3 : Int32} {a4 : Value} {st : List Value} {σ : aS} : Rn sc d 18 2 [a0, a1, a2, .int x3, a4] st σ r ↔ Rn sc d 18 3 [a0, a1, a2, .int x3, a4] (.int x3 :: st) σ r := r_iload_n d18_2 rfl
theorem d18_3 : decode (mC 18) 3 = .ok (.iload_n 1, 1) := by decide +kernel
theorem x18_3 {sc : aSc} {d : Nat} {r : aRes} {a0 : Value} {x1 : Int32} {a2 : Value} {a3 : Value} {a4 : Value} {st : List Value} {σ : aS} : Rn sc d 18 3 [a0, .int x1, a2, a3, a4] st σ r ↔ Rn sc d 18 4 [a0, .int x1, a2, a3, a4] (.int x1 :: st) σ r := r_iload_n d18_3 rfl
theorem d18_4 : decode (mC 18) 4 = .ok (.ishr, 1) := by decide +kernel
theorem x18_4 {sc : aSc} {d : Nat} {r : aRes} {L : List Value} {st : List Value} {σ : aS} {x y : Int32} : Rn sc d 18 4 L (.int y :: .int x :: st) σ r ↔ Rn sc d 18 5 L (.int (x >>> (y &&& 31)) :: st) σ r := r_ishr d18_4
theorem d18_5 : decode (mC 18) 5 = .ok (.iconst 1, 1) := by decide +kernel
theorem x18_5 {sc : aSc} {d : Nat} {r : aRes} {L : List Value} {st : List Value} {σ : aS} : Rn sc d 18 5 L st σ r ↔ Rn sc d 18 6 L (.int 1 :: st) σ r := r_iconst d18_5 (by decide)
theorem d18_6 : decode (mC 18) 6 = .ok (.iand, 1) := by decide +kernel
theorem x18_6 {sc : aSc} {d : Nat} {r : aRes} {L : List Value} {st : List Value} {σ : aS} {x y : Int32} : Rn sc d 18 6 L (.int y :: .int x :: st) σ r ↔ Rn sc d 18 7 L (.int (x &&& y) :: st) σ r := r_iand d18_6
theorem d18_7 : decode (mC 18) 7 = .ok (.iload 4, 2) := by decide +kernel
theorem x18_7 {sc : aSc} {d : Nat} {r : aRes} {a0 : Value} {a1 : Value} {a2 : Value} {a3 : Value} {x4 : Int32} {st : List Value} {σ : aS} : Rn sc d 18 7 [a0, a1, a2, a3, .int x4] st σ r ↔ Rn sc d 18 9 [a0, a1, a2, a3, .int x4] (.int x4 :: st) σ r := r_iload d18_7 rfl
theorem d18_9 : decode (mC 18) 9 = .ok (.invokevirtual 87, 3) := by decide +kernel
theorem x18_9 {sc : aSc} {d : Nat} {r : aRes} {L : List Value} {f : Nat → Nat → Int32} {g : Nat → Nat → Int64} {h1 h2 : Nat} {y0 : Int32} {y1 : Int32} {y2 : Int32}  {o : Nat} (hK : KK[o]? = some (.inl 1)) : Rn sc d 18 9 L [.int y0, .int y1, .int y2, .ref o] (cS f g h1 h2) r ↔ ∃ (σ3 : aS) (v : Option Value), Cl sc d 16 [.ref o, .int y2, .int y1, .int y0] (cS f g h1 h2) (σ3, v) ∧ Rn sc d 18 12 L (v.toList ++ []) σ3 r := r_callV (vs := [.int y0, .int y1, .int y2]) d18_9 (j := 16) rfl ⟨rfl, by decide, rfl, rfl⟩ (Nat.le_of_ble_eq_true rfl) hK
theorem d18_12 : decode (mC 18) 12 = .ok (.aload_n 0, 1) := by decide +kernel
theorem x18_12 {sc : aSc} {d : Nat} {r : aRes} {x0 : Nat} {a1 : Value} {a2 : Value} {a3 : Value} {a4 : Value} {st : List Value} {σ : aS} : Rn sc d 18 12 [.ref x0, a1, a2, a3, a4] st σ r ↔ Rn sc d 18 13 [.ref x0, a1, a2, a3, a4] (.ref x0 :: st) σ r := r_aload_n d18_12 rfl
theorem d18_13 : decode (mC 18) 13 = .ok (.iload_n 2, 1) := by decide +kernel
theorem x18_13 {sc : aSc} {d : Nat} {r : aRes} {a0 : Value} {a1 : Value} {x2 : Int32} {a3 : Value} {a4 : Value} {st : List Value} {σ : aS} : Rn sc d 18 13 [a0, a1, .int x2, a3, a4] st σ r ↔ Rn sc d 18 14 [a0, a1, .int x2, a3, a4] (.int x2 :: st) σ r := r_iload_n d18_13 rfl
theorem d18_14 : decode (mC 18) 14 = .ok (.iload_n 3, 1) := by decide +kernel
theorem x18_14 {sc : aSc} {d : Nat} {r : aRes} {a0 : Value} {a1 : Value} {a2 : Value} {x3 : Int32} {a4 : Value} {st : List Value} {σ : aS} : Rn sc d 18 14 [a0, a1, a2, .int x3, a4] st σ r ↔ Rn sc d 18 15 [a0, a1, a2, .int x3, a4] (.int x3 :: st) σ r := r_iload_n d18_14 rfl
theorem d18_15 : decode (mC 18) 15 = .ok (.iload_n 2, 1) := by decide +kernel
theorem x18_15 {sc : aSc} {d : Nat} {r : aRes} {a0 : Value} {a1 : Value} {x2 : Int32} {a3 : Value} {a4 : Value} {st : List Value} {σ : aS} : Rn sc d 18 15 [a0, a1, .int x2, a3, a4] st σ r ↔ Rn sc d 18 16 [a0, a1, .int x2, a3, a4] (.int x2 :: st) σ r := r_iload_n d18_15 rfl
theorem d18_16 : decode (mC 18) 16 = .ok (.ishr, 1) := by decide +kernel
theorem x18_16 {sc : aSc} {d : Nat} {r : aRes} {L : List Value} {st : List Value} {σ : aS} {x y : Int32} : Rn sc d 18 16 L (.int y :: .int x :: st) σ r ↔ Rn sc d 18 17 L (.int (x >>> (y &&& 31)) :: st) σ r := r_ishr d18_16
theorem d18_17 : decode (mC 18) 17 = .ok (.iconst 1, 1) := by decide +kernel
theorem x18_17 {sc : aSc} {d : Nat} {r : aRes} {L : List Value} {st : List Value} {σ : aS} : Rn sc d 18 17 L st σ r ↔ Rn sc d 18 18 L (.int 1 :: st) σ r := r_iconst d18_17 (by decide)
theorem d18_18 : decode (mC 18) 18 = .ok (.iand, 1) := by decide +kernel
theorem x18_18 {sc : aSc} {d : Nat} {r : aRes} {L : List Value} {st : List Value} {σ : aS} {x y : Int32} : Rn sc d 18 18 L (.int y :: .int x :: st) σ r ↔ Rn sc d 18 19 L (.int (x &&& y) :: st) σ r := r_iand d18_18
theorem d18_19 : decode (mC 18) 19 = .ok (.iload 4, 2) := by decide +kernel
theorem x18_19 {sc : aSc} {d : Nat} {r : aRes} {a0 : Value} {a1 : Value} {a2 : Value} {a3 : Value} {x4 : Int32} {st : List Value} {σ : aS} : Rn sc d 18 19 [a0, a1, a2, a3, .int x4] st σ r ↔ Rn sc d 18 21 [a0, a1, a2, a3, .int x4] (.int x4 :: st) σ r := r_iload d18_19 rfl
theorem d18_21 : decode (mC 18) 21 = .ok (.invokevirtual 87, 3) := by decide +kernel
theorem x18_21 {sc : aSc} {d : Nat} {r : aRes} {L : List Value} {f : Nat → Nat → Int32} {g : Nat → Nat → Int64} {h1 h2 : Nat} {y0 : Int32} {y1 : Int32} {y2 : Int32} {z0 : Int32} {o : Nat} (hK : KK[o]? = some (.inl 1)) : Rn sc d 18 21 L [.int y0, .int y1, .int y2, .ref o, .int z0] (cS f g h1 h2) r ↔ ∃ (σ3 : aS) (v : Option Value), Cl sc d 16 [.ref o, .int y2, .int y1, .int y0] (cS f g h1 h2) (σ3, v) ∧ Rn sc d 18 24 L (v.toList ++ [.int z0]) σ3 r := r_callV (vs := [.int y0, .int y1, .int y2]) d18_21 (j := 16) rfl ⟨rfl, by decide, rfl, rfl⟩ (Nat.le_of_ble_eq_true rfl) hK
theorem d18_24 : decode (mC 18) 24 = .ok (.iadd, 1) := by decide +kernel
theorem x18_24 {sc : aSc} {d : Nat} {r : aRes} {L : List Value} {st : List Value} {σ : aS} {x y : Int32} : Rn sc d 18 24 L (.int y :: .int x :: st) σ r ↔ Rn sc d 18 25 L (.int (x + y) :: st) σ r := r_iadd d18_24
theorem d18_25 : decode (mC 18) 25 = .ok (.ireturn, 1) := by decide +kernel
theorem x18_25 {sc : aSc} {d : Nat} {r : aRes} {L : List Value} {σ : aS} {x : Int32} : Rn sc d 18 25 L [.int x] σ r ↔ r = (σ, some (.int x)) := r_iret d18_25 rfl rfl
theorem d19_0 : decode (mC 19) 0 = .ok (.aload_n 0, 1) := by decide +kernel
theorem x19_0 {sc : aSc} {d : Nat} {r : aRes} {x0 : Nat} {a1 : Value} {a2 : Value} {a3 : Value} {a4 : Value} {st : List Value} {σ : aS} : Rn sc d 19 0 [.ref x0, a1, a2, a3, a4] st σ r ↔ Rn sc d 19 1 [.ref x0, a1, a2, a3, a4] (.ref x0 :: st) σ r := r_aload_n d19_0 rfl
theorem d19_1 : decode (mC 19) 1 = .ok (.iload_n 1, 1) := by decide +kernel
theorem x19_1 {sc : aSc} {d : Nat} {r : aRes} {a0 : Value} {x1 : Int32} {a2 : Value} {a3 : Value} {a4 : Value} {st : List Value} {σ : aS} : Rn sc d 19 1 [a0, .int x1, a2, a3, a4] st σ r ↔ Rn sc d 19 2 [a0, .int x1, a2, a3, a4] (.int x1 :: st) σ r := r_iload_n d19_1 rfl
theorem d19_2 : decode (mC 19) 2 = .ok (.iload_n 2, 1) := by decide +kernel
theorem x19_2 {sc : aSc} {d : Nat} {r : aRes} {a0 : Value} {a1 : Value} {x2 : Int32} {a3 : Value} {a4 : Value} {st : List Value} {σ : aS} : Rn sc d 19 2 [a0, a1, .int x2, a3, a4] st σ r ↔ Rn sc d 19 3 [a0, a1, .int x2, a3, a4] (.int x2 :: st) σ r := r_iload_n d19_2 rfl
theorem d19_3 : decode (mC 19) 3 = .ok (.iload_n 3, 1) := by decide +kernel
theorem x19_3 {sc : aSc} {d : Nat} {r : aRes} {a0 : Value} {a1 : Value} {a2 : Value} {x3 : Int32} {a4 : Value} {st : List Value} {σ : aS} : Rn sc d 19 3 [a0, a1, a2, .int x3, a4] st σ r ↔ Rn sc d 19 4 [a0, a1, a2, .int x3, a4] (.int x3 :: st) σ r := r_iload_n d19_3 rfl
theorem d19_4 : decode (mC 19) 4 = .ok (.invokevirtual 103, 3) := by decide +kernel
theorem x19_4 {sc : aSc} {d : Nat} {r : aRes} {L : List Value} {f : Nat → Nat → Int32} {g : Nat → Nat → Int64} {h1 h2 : Nat} {y0 : Int32} {y1 : Int32} {y2 : Int32}  {o : Nat} (hK : KK[o]? = some (.inl 1)) : Rn sc d 19 4 L [.int y0, .int y1, .int y2, .ref o] (cS f g h1 h2) r ↔ ∃ (σ3 : aS) (v : Option Value), Cl sc d 14 [.ref o, .int y2, .int y1, .int y0] (cS f g h1 h2) (σ3, v) ∧ Rn sc d 19 7 L (v.toList ++ []) σ3 r := r_callV (vs := [.int y0, .int y1, .int y2]) d19_4 (j := 14) rfl ⟨rfl, by decide, rfl, rfl⟩ (Nat.le_of_ble_eq_true rfl) hK
theorem d19_7 : decode (mC 19) 7 = .ok (.ifCond .eq 41, 3) := by decide +kernel
theorem x19_7 {sc : aSc} {d : Nat} {r : aRes} {L : List Value} {st : List Value} {σ : aS} {x : Int32} : Rn sc d 19 7 L (.int x :: st) σ r ↔ if x = 0 then Rn sc d 19 48 L st σ r else Rn sc d 19 10 L st σ r := r_if_eq d19_7 rfl
theorem d19_10 : decode (mC 19) 10 = .ok (.aload_n 0, 1) := by decide +kernel
theorem x19_10 {sc : aSc} {d : Nat} {r : aRes} {x0 : Nat} {a1 : Value} {a2 : Value} {a3 : Value} {a4 : Value} {st : List Value} {σ : aS} : Rn sc d 19 10 [.ref x0, a1, a2, a3, a4] st σ r ↔ Rn sc d 19 11 [.ref x0, a1, a2, a3, a4] (.ref x0 :: st) σ r := r_aload_n d19_10 rfl
theorem d19_11 : decode (mC 19) 11 = .ok (.getfield 44, 3) := by decide +kernel
theorem x19_11 {sc : aSc} {d : Nat} {r : aRes} {L : List Value} {st : List Value} {f : Nat → Nat → Int32} {g : Nat → Nat → Int64} {h1 h2 : Nat} {o : Nat} (hK : KK[o]? = some (.inl 1)) (hR : (RR h1 h2 o 17).isSome = true) : Rn sc d 19 11 L (.ref o :: st) (cS f g h1 h2) r ↔ Rn sc d 19 14 L (.ref (rf h1 h2 o 17) :: st) (cS f g h1 h2) r := r_getR2 d19_11 (ci := 1) (k := 17) rfl (by decide) (fun _ => rfl) hK hR
theorem d19_14 : decode (mC 19) 14 = .ok (.aload_n 0, 1) := by decide +kernel
theorem x19_14 {sc : aSc} {d : Nat} {r : aRes} {x0 : Nat} {a1 : Value} {a2 : Value} {a3 : Value} {a4 : Value} {st : List Value} {σ : aS} : Rn sc d 19 14 [.ref x0, a1, a2, a3, a4] st σ r ↔ Rn sc d 19 15 [.ref x0, a1, a2, a3, a4] (.ref x0 :: st) σ r := r_aload_n d19_14 rfl
theorem d19_15 : decode (mC 19) 15 = .ok (.iload_n 1, 1) := by decide +kernel
theorem x19_15 {sc : aSc} {d : Nat} {r : aRes} {a0 : Value} {x1 : Int32} {a2 : Value} {a3 : Value} {a4 : Value} {st : List Value} {σ : aS} : Rn sc d 19 15 [a0, .int x1, a2, a3, a4] st σ r ↔ Rn sc d 19 16 [a0, .int x1, a2, a3, a4] (.int x1 :: st) σ r := r_iload_n d19_15 rfl
theorem d19_16 : decode (mC 19) 16 = .ok (.iload_n 3, 1) := by decide +kernel
theorem x19_16 {sc : aSc} {d : Nat} {r : aRes} {a0 : Value} {a1 : Value} {a2 : Value} {x3 : Int32} {a4 : Value} {st : List Value} {σ : aS} : Rn sc d 19 16 [a0, a1, a2, .int x3, a4] st σ r ↔ Rn sc d 19 17 [a0, a1, a2, .int x3, a4] (.int x3 :: st) σ r := r_iload_n d19_16 rfl
theorem d19_17 : decode (mC 19) 17 = .ok (.iload_n 1, 1) := by decide +kernel
theorem x19_17 {sc : aSc} {d : Nat} {r : aRes} {a0 : Value} {x1 : Int32} {a2 : Value} {a3 : Value} {a4 : Value} {st : List Value} {σ : aS} : Rn sc d 19 17 [a0, .int x1, a2, a3, a4] st σ r ↔ Rn sc d 19 18 [a0, .int x1, a2, a3, a4] (.int x1 :: st) σ r := r_iload_n d19_17 rfl
theorem d19_18 : decode (mC 19) 18 = .ok (.ishr, 1) := by decide +kernel
theorem x19_18 {sc : aSc} {d : Nat} {r : aRes} {L : List Value} {st : List Value} {σ : aS} {x y : Int32} : Rn sc d 19 18 L (.int y :: .int x :: st) σ r ↔ Rn sc d 19 19 L (.int (x >>> (y &&& 31)) :: st) σ r := r_ishr d19_18
theorem d19_19 : decode (mC 19) 19 = .ok (.iconst 1, 1) := by decide +kernel
theorem x19_19 {sc : aSc} {d : Nat} {r : aRes} {L : List Value} {st : List Value} {σ : aS} : Rn sc d 19 19 L st σ r ↔ Rn sc d 19 20 L (.int 1 :: st) σ r := r_iconst d19_19 (by decide)
theorem d19_20 : decode (mC 19) 20 = .ok (.iand, 1) := by decide +kernel
theorem x19_20 {sc : aSc} {d : Nat} {r : aRes} {L : List Value} {st : List Value} {σ : aS} {x y : Int32} : Rn sc d 19 20 L (.int y :: .int x :: st) σ r ↔ Rn sc d 19 21 L (.int (x &&& y) :: st) σ r := r_iand d19_20
theorem d19_21 : decode (mC 19) 21 = .ok (.iload 4, 2) := by decide +kernel
theorem x19_21 {sc : aSc} {d : Nat} {r : aRes} {a0 : Value} {a1 : Value} {a2 : Value} {a3 : Value} {x4 : Int32} {st : List Value} {σ : aS} : Rn sc d 19 21 [a0, a1, a2, a3, .int x4] st σ r ↔ Rn sc d 19 23 [a0, a1, a2, a3, .int x4] (.int x4 :: st) σ r := r_iload d19_21 rfl
theorem d19_23 : decode (mC 19) 23 = .ok (.invokevirtual 87, 3) := by decide +kernel
theorem x19_23 {sc : aSc} {d : Nat} {r : aRes} {L : List Value} {f : Nat → Nat → Int32} {g : Nat → Nat → Int64} {h1 h2 : Nat} {y0 : Int32} {y1 : Int32} {y2 : Int32} {z0 : Nat} {o : Nat} (hK : KK[o]? = some (.inl 1)) : Rn sc d 19 23 L [.int y0, .int y1, .int y2, .ref o, .ref z0] (cS f g h1 h2) r ↔ ∃ (σ3 : aS) (v : Option Value), Cl sc d 16 [.ref o, .int y2, .int y1, .int y0] (cS f g h1 h2) (σ3, v) ∧ Rn sc d 19 26 L (v.toList ++ [.ref z0]) σ3 r := r_callV (vs := [.int y0, .int y1, .int y2]) d19_23 (j := 16) rfl ⟨rfl, by decide, rfl, rfl⟩ (Nat.le_of_ble_eq_true rfl) hK
theorem d19_26 : decode (mC 19) 26 = .ok (.aload_n 0, 1) := by decide +kernel
theorem x19_26 {sc : aSc} {d : Nat} {r : aRes} {x0 : Nat} {a1 : Value} {a2 : Value} {a3 : Value} {a4 : Value} {st : List Value} {σ : aS} : Rn sc d 19 26 [.ref x0, a1, a2, a3, a4] st σ r ↔ Rn sc d 19 27 [.ref x0, a1, a2, a3, a4] (.ref x0 :: st) σ r := r_aload_n d19_26 rfl
theorem d19_27 : decode (mC 19) 27 = .ok (.iload_n 2, 1) := by decide +kernel
theorem x19_27 {sc : aSc} {d : Nat} {r : aRes} {a0 : Value} {a1 : Value} {x2 : Int32} {a3 : Value} {a4 : Value} {st : List Value} {σ : aS} : Rn sc d 19 27 [a0, a1, .int x2, a3, a4] st σ r ↔ Rn sc d 19 28 [a0, a1, .int x2, a3, a4] (.int x2 :: st) σ r := r_iload_n d19_27 rfl
theorem d19_28 : decode (mC 19) 28 = .ok (.iload_n 3, 1) := by decide +kernel
theorem x19_28 {sc : aSc} {d : Nat} {r : aRes} {a0 : Value} {a1 : Value} {a2 : Value} {x3 : Int32} {a4 : Value} {st : List Value} {σ : aS} : Rn sc d 19 28 [a0, a1, a2, .int x3, a4] st σ r ↔ Rn sc d 19 29 [a0, a1, a2, .int x3, a4] (.int x3 :: st) σ r := r_iload_n d19_28 rfl
theorem d19_29 : decode (mC 19) 29 = .ok (.iload_n 2, 1) := by decide +kernel
theorem x19_29 {sc : aSc} {d : Nat} {r : aRes} {a0 : Value} {a1 : Value} {x2 : Int32} {a3 : Value} {a4 : Value} {st : List Value} {σ : aS} : Rn sc d 19 29 [a0, a1, .int x2, a3, a4] st σ r ↔ Rn sc d 19 30 [a0, a1, .int x2, a3, a4] (.int x2 :: st) σ r := r_iload_n d19_29 rfl
theorem d19_30 : decode (mC 19) 30 = .ok (.ishr, 1) := by decide +kernel
theorem x19_30 {sc : aSc} {d : Nat} {r : aRes} {L : List Value} {st : List Value} {σ : aS} {x y : Int32} : Rn sc d 19 30 L (.int y :: .int x :: st) σ r ↔ Rn sc d 19 31 L (.int (x >>> (y &&& 31)) :: st) σ r := r_ishr d19_30
theorem d19_31 : decode (mC 19) 31 = .ok (.iconst 1, 1) := by decide +kernel
theorem x19_31 {sc : aSc} {d : Nat} {r : aRes} {L : List Value} {st : List Value} {σ : aS} : Rn sc d 19 31 L st σ r ↔ Rn sc d 19 32 L (.int 1 :: st) σ r := r_iconst d19_31 (by decide)
theorem d19_32 : decode (mC 19) 32 = .ok (.iand, 1) := by decide +kernel
theorem x19_32 {sc : aSc} {d : Nat} {r : aRes} {L : List Value} {st : List Value} {σ : aS} {x y : Int32} : Rn sc d 19 32 L (.int y :: .int x :: st) σ r ↔ Rn sc d 19 33 L (.int (x &&& y) :: st) σ r := r_iand d19_32
theorem d19_33 : decode (mC 19) 33 = .ok (.iload 4, 2) := by decide +kernel
theorem x19_33 {sc : aSc} {d : Nat} {r : aRes} {a0 : Value} {a1 : Value} {a2 : Value} {a3 : Value} {x4 : Int32} {st : List Value} {σ : aS} : Rn sc d 19 33 [a0, a1, a2, a3, .int x4] st σ r ↔ Rn sc d 19 35 [a0, a1, a2, a3, .int x4] (.int x4 :: st) σ r := r_iload d19_33 rfl
theorem d19_35 : decode (mC 19) 35 = .ok (.invokevirtual 87, 3) := by decide +kernel
theorem x19_35 {sc : aSc} {d : Nat} {r : aRes} {L : List Value} {f : Nat → Nat → Int32} {g : Nat → Nat → Int64} {h1 h2 : Nat} {y0 : Int32} {y1 : Int32} {y2 : Int32} {z0 : Int32} {z1 : Nat} {o : Nat} (hK : KK[o]? = some (.inl 1)) : Rn sc d 19 35 L [.int y0, .int y1, .int y2, .ref o, .int z0, .ref z1] (cS f g h1 h2) r ↔ ∃ (σ3 : aS) (v : Option Value), Cl sc d 16 [.ref o, .int y2, .int y1, .int y0] (cS f g h1 h2) (σ3, v) ∧ Rn sc d 19 38 L (v.toList ++ [.int z0, .ref z1]) σ3 r := r_callV (vs := [.int y0, .int y1, .int y2]) d19_35 (j := 16) rfl ⟨rfl, by decide, rfl, rfl⟩ (Nat.le_of_ble_eq_true rfl) hK
theorem d19_38 : decode (mC 19) 38 = .ok (.invokevirtual 107, 3) := by decide +kernel
theorem x19_38 {sc : aSc} {d : Nat} {r : aRes} {L : List Value} {f : Nat → Nat → Int32} {g : Nat → Nat → Int64} {h1 h2 : Nat} {y0 : Int32} {y1 : Int32}  {o : Nat} (hK : KK[o]? = some (.inl 2)) : Rn sc d 19 38 L [.int y0, .int y1, .ref o] (cS f g h1 h2) r ↔ ∃ (σ3 : aS) (v : Option Value), Cl sc d 31 [.ref o, .int y1, .int y0] (cS f g h1 h2) (σ3, v) ∧ Rn sc d 19 41 L (v.toList ++ []) σ3 r := r_callV (vs := [.int y0, .int y1]) d19_38 (j := 31) rfl ⟨rfl, by decide, rfl, rfl⟩ (Nat.le_of_ble_eq_true rfl) hK
theorem d19_41 : decode (mC 19) 41 = .ok (.ifCond .eq 7, 3) := by decide +kernel
theorem x19_41 {sc : aSc} {d : Nat} {r : aRes} {L : List Value} {st : List Value} {σ : aS} {x : Int32} : Rn sc d 19 41 L (.int x :: st) σ r ↔ if x = 0 then Rn sc d 19 48 L st σ r else Rn sc d 19 44 L st σ r := r_if_eq d19_41 rfl
theorem d19_44 : decode (mC 19) 44 = .ok (.iconst 1, 1) := by decide +kernel
theorem x19_44 {sc : aSc} {d : Nat} {r : aRes} {L : List Value} {st : List Value} {σ : aS} : Rn sc d 19 44 L st σ r ↔ Rn sc d 19 45 L (.int 1 :: st) σ r := r_iconst d19_44 (by decide)
theorem d19_45 : decode (mC 19) 45 = .ok (.goto 4, 3) := by decide +kernel
theorem x19_45 {sc : aSc} {d : Nat} {r : aRes} {L : List Value} {st : List Value} {σ : aS} : Rn sc d 19 45 L st σ r ↔ Rn sc d 19 49 L st σ r := r_goto d19_45 rfl
theorem d19_48 : decode (mC 19) 48 = .ok (.iconst 0, 1) := by decide +kernel
theorem x19_48 {sc : aSc} {d : Nat} {r : aRes} {L : List Value} {st : List Value} {σ : aS} : Rn sc d 19 48 L st σ r ↔ Rn sc d 19 49 L (.int 0 :: st) σ r := r_iconst d19_48 (by decide)
theorem d19_49 : decode (mC 19) 49 = .ok (.ireturn, 1) := by decide +kernel
theorem x19_49 {sc : aSc} {d : Nat} {r : aRes} {L : List Value} {σ : aS} {x : Int32} (hn : x &&& 1 = x) : Rn sc d 19 49 L [.int x] σ r ↔ r = (σ, some (.int x)) := r_iret d19_49 rfl (congrArg Value.int hn)
theorem d20_0 : decode (mC 20) 0 = .ok (.aload_n 0, 1) := by decide +kernel
theorem x20_0 {sc : aSc} {d : Nat} {r : aRes} {x0 : Nat} {a1 : Value} {a2 : Value} {a3 : Value} {st : List Value} {σ : aS} : Rn sc d 20 0 [.ref x0, a1, a2, a3] st σ r ↔ Rn sc d 20 1 [.ref x0, a1, a2, a3] (.ref x0 :: st) σ r := r_aload_n d20_0 rfl
theorem d20_1 : decode (mC 20) 1 = .ok (.iload_n 1, 1) := by decide +kernel
theorem x20_1 {sc : aSc} {d : Nat} {r : aRes} {a0 : Value} {x1 : Int32} {a2 : Value} {a3 : Value} {st : List Value} {σ : aS} : Rn sc d 20 1 [a0, .int x1, a2, a3] st σ r ↔ Rn sc d 20 2 [a0, .int x1, a2, a3] (.int x1 :: st) σ r := r_iload_n d20_1 rfl
theorem d20_2 : decode (mC 20) 2 = .ok (.iload_n 2, 1) := by decide +kernel
theorem x20_2 {sc : aSc} {d : Nat} {r : aRes} {a0 : Value} {a1 : Value} {x2 : Int32} {a3 : Value} {st : List Value} {σ : aS} : Rn sc d 20 2 [a0, a1, .int x2, a3] st σ r ↔ Rn sc d 20 3 [a0, a1, .int x2, a3] (.int x2 :: st) σ r := r_iload_n d20_2 rfl
theorem d20_3 : decode (mC 20) 3 = .ok (.aload_n 0, 1) := by decide +kernel
theorem x20_3 {sc : aSc} {d : Nat} {r : aRes} {x0 : Nat} {a1 : Value} {a2 : Value} {a3 : Value} {st : List Value} {σ : aS} : Rn sc d 20 3 [.ref x0, a1, a2, a3] st σ r ↔ Rn sc d 20 4 [.ref x0, a1, a2, a3] (.ref x0 :: st) σ r := r_aload_n d20_3 rfl
theorem d20_4 : decode (mC 20) 4 = .ok (.getfield 61, 3) := by decide +kernel
theorem x20_4 {sc : aSc} {d : Nat} {r : aRes} {L : List Value} {st : List Value} {f : Nat → Nat → Int32} {g : Nat → Nat → Int64} {h1 h2 : Nat} {o : Nat} (h17 : 17 ≤ o) (hK : KK[o]? = some (.inl 1)) : Rn sc d 20 4 L (.ref o :: st) (cS f g h1 h2) r ↔ Rn sc d 20 7 L (.int (f o 4) :: st) (cS f g h1 h2) r := r_getI d20_4 (ci := 1) (k := 4) rfl (by decide) (fun _ => rfl) h17 hK
theorem d20_7 : decode (mC 20) 7 = .ok (.aload_n 0, 1) := by decide +kernel
theorem x20_7 {sc : aSc} {d : Nat} {r : aRes} {x0 : Nat} {a1 : Value} {a2 : Value} {a3 : Value} {st : List Value} {σ : aS} : Rn sc d 20 7 [.ref x0, a1, a2, a3] st σ r ↔ Rn sc d 20 8 [.ref x0, a1, a2, a3] (.ref x0 :: st) σ r := r_aload_n d20_7 rfl
theorem d20_8 : decode (mC 20) 8 = .ok (.getfield 52, 3) := by decide +kernel
theorem x20_8 {sc : aSc} {d : Nat} {r : aRes} {L : List Value} {st : List Value} {f : Nat → Nat → Int32} {g : Nat → Nat → Int64} {h1 h2 : Nat} {o : Nat} (h17 : 17 ≤ o) (hK : KK[o]? = some (.inl 1)) : Rn sc d 20 8 L (.ref o :: st) (cS f g h1 h2) r ↔ Rn sc d 20 11 L (.int (f o 1) :: st) (cS f g h1 h2) r := r_getI d20_8 (ci := 1) (k := 1) rfl (by decide) (fun _ => rfl) h17 hK
theorem d20_11 : decode (mC 20) 11 = .ok (.invokevirtual 111, 3) := by decide +kernel
theorem x20_11 {sc : aSc} {d : Nat} {r : aRes} {L : List Value} {f : Nat → Nat → Int32} {g : Nat → Nat → Int64} {h1 h2 : Nat} {y0 : Int32} {y1 : Int32} {y2 : Int32} {y3 : Int32}  {o : Nat} (hK : KK[o]? = some (.inl 1)) : Rn sc d 20 11 L [.int y0, .int y1, .int y2, .int y3, .ref o] (cS f g h1 h2) r ↔ ∃ (σ3 : aS) (v : Option Value), Cl sc d 19 [.ref o, .int y3, .int y2, .int y1, .int y0] (cS f g h1 h2) (σ3, v) ∧ Rn sc d 20 14 L (v.toList ++ []) σ3 r := r_callV (vs := [.int y0, .int y1, .int y2, .int y3]) d20_11 (j := 19) rfl ⟨rfl, by decide, rfl, rfl⟩ (Nat.le_of_ble_eq_true rfl) hK
theorem d20_14 : decode (mC 20) 14 = .ok (.istore_n 3, 1) := by decide +kernel
theorem x20_14 {sc : aSc} {d : Nat} {r : aRes} {a0 : Value} {a1 : Value} {x2 : Int32} {a3 : Value} {st : List Value} {σ : aS} {y : Int32} : Rn sc d 20 14 [a0, a1, .int x2, a3] (.int y :: st) σ r ↔ Rn sc d 20 15 [a0, a1, .int x2, .int y] st σ r := r_istore_n d20_14 (Nat.le_of_ble_eq_true rfl) rfl
theorem d20_15 : decode (mC 20) 15 = .ok (.iload_n 3, 1) := by decide +kernel
theorem x20_15 {sc : aSc} {d : Nat} {r : aRes} {a0 : Value} {a1 : Value} {a2 : Value} {x3 : Int32} {st : List Value} {σ : aS} : Rn sc d 20 15 [a0, a1, a2, .int x3] st σ r ↔ Rn sc d 20 16 [a0, a1, a2, .int x3] (.int x3 :: st) σ r := r_iload_n d20_15 rfl
theorem d20_16 : decode (mC 20) 16 = .ok (.ifCond .eq 48, 3) := by decide +kernel
theorem x20_16 {sc : aSc} {d : Nat} {r : aRes} {L : List Value} {st : List Value} {σ : aS} {x : Int32} : Rn sc d 20 16 L (.int x :: st) σ r ↔ if x = 0 then Rn sc d 20 64 L st σ r else Rn sc d 20 19 L st σ r := r_if_eq d20_16 rfl
theorem d20_19 : decode (mC 20) 19 = .ok (.aload_n 0, 1) := by decide +kernel
theorem x20_19 {sc : aSc} {d : Nat} {r : aRes} {x0 : Nat} {a1 : Value} {a2 : Value} {a3 : Value} {st : List Value} {σ : aS} : Rn sc d 20 19 [.ref x0, a1, a2, a3] st σ r ↔ Rn sc d 20 20 [.ref x0, a1, a2, a3] (.ref x0 :: st) σ r := r_aload_n d20_19 rfl
theorem d20_20 : decode (mC 20) 20 = .ok (.sipush 9999, 3) := by decide +kernel
theorem x20_20 {sc : aSc} {d : Nat} {r : aRes} {L : List Value} {st : List Value} {σ : aS} : Rn sc d 20 20 L st σ r ↔ Rn sc d 20 23 L (.int 9999 :: st) σ r := r_sipush d20_20 (by decide)
theorem d20_23 : decode (mC 20) 23 = .ok (.aload_n 0, 1) := by decide +kernel
theorem x20_23 {sc : aSc} {d : Nat} {r : aRes} {x0 : Nat} {a1 : Value} {a2 : Value} {a3 : Value} {st : List Value} {σ : aS} : Rn sc d 20 23 [.ref x0, a1, a2, a3] st σ r ↔ Rn sc d 20 24 [.ref x0, a1, a2, a3] (.ref x0 :: st) σ r := r_aload_n d20_23 rfl
theorem d20_24 : decode (mC 20) 24 = .ok (.getfield 55, 3) := by decide +kernel
theorem x20_24 {sc : aSc} {d : Nat} {r : aRes} {L : List Value} {st : List Value} {f : Nat → Nat → Int32} {g : Nat → Nat → Int64} {h1 h2 : Nat} {o : Nat} (h17 : 17 ≤ o) (hK : KK[o]? = some (.inl 1)) : Rn sc d 20 24 L (.ref o :: st) (cS f g h1 h2) r ↔ Rn sc d 20 27 L (.int (f o 2) :: st) (cS f g h1 h2) r := r_getI d20_24 (ci := 1) (k := 2) rfl (by decide) (fun _ => rfl) h17 hK
theorem d20_27 : decode (mC 20) 27 = .ok (.aload_n 0, 1) := by decide +kernel
theorem x20_27 {sc : aSc} {d : Nat} {r : aRes} {x0 : Nat} {a1 : Value} {a2 : Value} {a3 : Value} {st : List Value} {σ : aS} : Rn sc d 20 27 [.ref x0, a1, a2, a3] st σ r ↔ Rn sc d 20 28 [.ref x0, a1, a2, a3] (.ref x0 :: st) σ r := r_aload_n d20_27 rfl
theorem d20_28 : decode (mC 20) 28 = .ok (.iload_n 1, 1) := by decide +kernel
theorem x20_28 {sc : aSc} {d : Nat} {r : aRes} {a0 : Value} {x1 : Int32} {a2 : Value} {a3 : Value} {st : List Value} {σ : aS} : Rn sc d 20 28 [a0, .int x1, a2, a3] st σ r ↔ Rn sc d 20 29 [a0, .int x1, a2, a3] (.int x1 :: st) σ r := r_iload_n d20_28 rfl
theorem d20_29 : decode (mC 20) 29 = .ok (.iload_n 2, 1) := by decide +kernel
theorem x20_29 {sc : aSc} {d : Nat} {r : aRes} {a0 : Value} {a1 : Value} {x2 : Int32} {a3 : Value} {st : List Value} {σ : aS} : Rn sc d 20 29 [a0, a1, .int x2, a3] st σ r ↔ Rn sc d 20 30 [a0, a1, .int x2, a3] (.int x2 :: st) σ r := r_iload_n d20_29 rfl
theorem d20_30 : decode (mC 20) 30 = .ok (.aload_n 0, 1) := by decide +kernel
theorem x20_30 {sc : aSc} {d : Nat} {r : aRes} {x0 : Nat} {a1 : Value} {a2 : Value} {a3 : Value} {st : List Value} {σ : aS} : Rn sc d 20 30 [.ref x0, a1, a2, a3] st σ r ↔ Rn sc d 20 31 [.ref x0, a1, a2, a3] (.ref x0 :: st) σ r := r_aload_n d20_30 rfl
theorem d20_31 : decode (mC 20) 31 = .ok (.getfield 61, 3) := by decide +kernel
theorem x20_31 {sc : aSc} {d : Nat} {r : aRes} {L : List Value} {st : List Value} {f : Nat → Nat → Int32} {g : Nat → Nat → Int64} {h1 h2 : Nat} {o : Nat} (h17 : 17 ≤ o) (hK : KK[o]? = some (.inl 1)) : Rn sc d 20 31 L (.ref o :: st) (cS f g h1 h2) r ↔ Rn sc d 20 34 L (.int (f o 4) :: st) (cS f g h1 h2) r := r_getI d20_31 (ci := 1) (k := 4) rfl (by decide) (fun _ => rfl) h17 hK
theorem d20_34 : decode (mC 20) 34 = .ok (.aload_n 0, 1) := by decide +kernel
theorem x20_34 {sc : aSc} {d : Nat} {r : aRes} {x0 : Nat} {a1 : Value} {a2 : Value} {a3 : Value} {st : List Value} {σ : aS} : Rn sc d 20 34 [.ref x0, a1, a2, a3] st σ r ↔ Rn sc d 20 35 [.ref x0, a1, a2, a3] (.ref x0 :: st) σ r := r_aload_n d20_34 rfl
theorem d20_35 : decode (mC 20) 35 = .ok (.getfield 52, 3) := by decide +kernel
theorem x20_35 {sc : aSc} {d : Nat} {r : aRes} {L : List Value} {st : List Value} {f : Nat → Nat → Int32} {g : Nat → Nat → Int64} {h1 h2 : Nat} {o : Nat} (h17 : 17 ≤ o) (hK : KK[o]? = some (.inl 1)) : Rn sc d 20 35 L (.ref o :: st) (cS f g h1 h2) r ↔ Rn sc d 20 38 L (.int (f o 1) :: st) (cS f g h1 h2) r := r_getI d20_35 (ci := 1) (k := 1) rfl (by decide) (fun _ => rfl) h17 hK
theorem d20_38 : decode (mC 20) 38 = .ok (.invokevirtual 115, 3) := by decide +kernel
theorem x20_38 {sc : aSc} {d : Nat} {r : aRes} {L : List Value} {f : Nat → Nat → Int32} {g : Nat → Nat → Int64} {h1 h2 : Nat} {y0 : Int32} {y1 : Int32} {y2 : Int32} {y3 : Int32} {z0 : Int32} {z1 : Int32} {z2 : Nat} {o : Nat} (hK : KK[o]? = some (.inl 1)) : Rn sc d 20 38 L [.int y0, .int y1, .int y2, .int y3, .ref o, .int z0, .int z1, .ref z2] (cS f g h1 h2) r ↔ ∃ (σ3 : aS) (v : Option Value), Cl sc d 18 [.ref o, .int y3, .int y2, .int y1, .int y0] (cS f g h1 h2) (σ3, v) ∧ Rn sc d 20 41 L (v.toList ++ [.int z0, .int z1, .ref z2]) σ3 r := r_callV (vs := [.int y0, .int y1, .int y2, .int y3]) d20_38 (j := 18) rfl ⟨rfl, by decide, rfl, rfl⟩ (Nat.le_of_ble_eq_true rfl) hK
theorem d20_41 : decode (mC 20) 41 = .ok (.iadd, 1) := by decide +kernel
theorem x20_41 {sc : aSc} {d : Nat} {r : aRes} {L : List Value} {st : List Value} {σ : aS} {x y : Int32} : Rn sc d 20 41 L (.int y :: .int x :: st) σ r ↔ Rn sc d 20 42 L (.int (x + y) :: st) σ r := r_iadd d20_41
theorem d20_42 : decode (mC 20) 42 = .ok (.invokestatic 119, 3) := by decide +kernel
theorem x20_42 {sc : aSc} {d : Nat} {r : aRes} {L : List Value} {σ : aS} {y0 : Int32} {y1 : Int32} {z0 : Nat} : Rn sc d 20 42 L [.int y0, .int y1, .ref z0] σ r ↔ ∃ (σ3 : aS) (v : Option Value), Cl sc d 208 [.int y1, .int y0] σ (σ3, v) ∧ Rn sc d 20 45 L (v.toList ++ [.ref z0]) σ3 r := r_callS (vs := [.int y0, .int y1]) d20_42 rfl (j := 208) rfl ⟨rfl, by decide, rfl, rfl⟩ (Nat.le_of_ble_eq_true rfl)
theorem d20_45 : decode (mC 20) 45 = .ok (.putfield 55, 3) := by decide +kernel
theorem x20_45 {sc : aSc} {d : Nat} {r : aRes} {L : List Value} {st : List Value} {f : Nat → Nat → Int32} {g : Nat → Nat → Int64} {h1 h2 : Nat} {o : Nat} {v : Int32} (h17 : 17 ≤ o) (hK : KK[o]? = some (.inl 1)) : Rn sc d 20 45 L (.int v :: .ref o :: st) (cS f g h1 h2) r ↔ Rn sc d 20 48 L st (cS (u2 f o 2 v) g h1 h2) r := r_putI d20_45 (ci := 1) (k := 2) rfl (by decide) h17 hK
theorem d20_48 : decode (mC 20) 48 = .ok (.aload_n 0, 1) := by decide +kernel
theorem x20_48 {sc : aSc} {d : Nat} {r : aRes} {x0 : Nat} {a1 : Value} {a2 : Value} {a3 : Value} {st : List Value} {σ : aS} : Rn sc d 20 48 [.ref x0, a1, a2, a3] st σ r ↔ Rn sc d 20 49 [.ref x0, a1, a2, a3] (.ref x0 :: st) σ r := r_aload_n d20_48 rfl
theorem d20_49 : decode (mC 20) 49 = .ok (.dup, 1) := by decide +kernel
theorem x20_49 {sc : aSc} {d : Nat} {r : aRes} {L : List Value} {st : List Value} {σ : aS} {y : Nat} : Rn sc d 20 49 L (.ref y :: st) σ r ↔ Rn sc d 20 50 L (.ref y :: .ref y :: st) σ r := r_dup d20_49 rfl
theorem d20_50 : decode (mC 20) 50 = .ok (.getfield 61, 3) := by decide +kernel
theorem x20_50 {sc : aSc} {d : Nat} {r : aRes} {L : List Value} {st : List Value} {f : Nat → Nat → Int32} {g : Nat → Nat → Int64} {h1 h2 : Nat} {o : Nat} (h17 : 17 ≤ o) (hK : KK[o]? = some (.inl 1)) : Rn sc d 20 50 L (.ref o :: st) (cS f g h1 h2) r ↔ Rn sc d 20 53 L (.int (f o 4) :: st) (cS f g h1 h2) r := r_getI d20_50 (ci := 1) (k := 4) rfl (by decide) (fun _ => rfl) h17 hK
theorem d20_53 : decode (mC 20) 53 = .ok (.iconst 1, 1) := by decide +kernel
theorem x20_53 {sc : aSc} {d : Nat} {r : aRes} {L : List Value} {st : List Value} {σ : aS} : Rn sc d 20 53 L st σ r ↔ Rn sc d 20 54 L (.int 1 :: st) σ r := r_iconst d20_53 (by decide)
theorem d20_54 : decode (mC 20) 54 = .ok (.iload_n 1, 1) := by decide +kernel
theorem x20_54 {sc : aSc} {d : Nat} {r : aRes} {a0 : Value} {x1 : Int32} {a2 : Value} {a3 : Value} {st : List Value} {σ : aS} : Rn sc d 20 54 [a0, .int x1, a2, a3] st σ r ↔ Rn sc d 20 55 [a0, .int x1, a2, a3] (.int x1 :: st) σ r := r_iload_n d20_54 rfl
theorem d20_55 : decode (mC 20) 55 = .ok (.ishl, 1) := by decide +kernel
theorem x20_55 {sc : aSc} {d : Nat} {r : aRes} {L : List Value} {st : List Value} {σ : aS} {x y : Int32} : Rn sc d 20 55 L (.int y :: .int x :: st) σ r ↔ Rn sc d 20 56 L (.int (x <<< (y &&& 31)) :: st) σ r := r_ishl d20_55
theorem d20_56 : decode (mC 20) 56 = .ok (.iconst 1, 1) := by decide +kernel
theorem x20_56 {sc : aSc} {d : Nat} {r : aRes} {L : List Value} {st : List Value} {σ : aS} : Rn sc d 20 56 L st σ r ↔ Rn sc d 20 57 L (.int 1 :: st) σ r := r_iconst d20_56 (by decide)
theorem d20_57 : decode (mC 20) 57 = .ok (.iload_n 2, 1) := by decide +kernel
theorem x20_57 {sc : aSc} {d : Nat} {r : aRes} {a0 : Value} {a1 : Value} {x2 : Int32} {a3 : Value} {st : List Value} {σ : aS} : Rn sc d 20 57 [a0, a1, .int x2, a3] st σ r ↔ Rn sc d 20 58 [a0, a1, .int x2, a3] (.int x2 :: st) σ r := r_iload_n d20_57 rfl
theorem d20_58 : decode (mC 20) 58 = .ok (.ishl, 1) := by decide +kernel
theorem x20_58 {sc : aSc} {d : Nat} {r : aRes} {L : List Value} {st : List Value} {σ : aS} {x y : Int32} : Rn sc d 20 58 L (.int y :: .int x :: st) σ r ↔ Rn sc d 20 59 L (.int (x <<< (y &&& 31)) :: st) σ r := r_ishl d20_58
theorem d20_59 : decode (mC 20) 59 = .ok (.ior, 1) := by decide +kernel
theorem x20_59 {sc : aSc} {d : Nat} {r : aRes} {L : List Value} {st : List Value} {σ : aS} {x y : Int32} : Rn sc d 20 59 L (.int y :: .int x :: st) σ r ↔ Rn sc d 20 60 L (.int (x ||| y) :: st) σ r := r_ior d20_59
theorem d20_60 : decode (mC 20) 60 = .ok (.ixor, 1) := by decide +kernel
theorem x20_60 {sc : aSc} {d : Nat} {r : aRes} {L : List Value} {st : List Value} {σ : aS} {x y : Int32} : Rn sc d 20 60 L (.int y :: .int x :: st) σ r ↔ Rn sc d 20 61 L (.int (x ^^^ y) :: st) σ r := r_ixor d20_60
theorem d20_61 : decode (mC 20) 61 = .ok (.putfield 61, 3) := by decide +kernel
theorem x20_61 {sc : aSc} {d : Nat} {r : aRes} {L : List Value} {st : List Value} {f : Nat → Nat → Int32} {g : Nat → Nat → Int64} {h1 h2 : Nat} {o : Nat} {v : Int32} (h17 : 17 ≤ o) (hK : KK[o]? = some (.inl 1)) : Rn sc d 20 61 L (.int v :: .ref o :: st) (cS f g h1 h2) r ↔ Rn sc d 20 64 L st (cS (u2 f o 4 v) g h1 h2) r := r_putI d20_61 (ci := 1) (k := 4) rfl (by decide) h17 hK
theorem d20_64 : decode (mC 20) 64 = .ok (.aload_n 0, 1) := by decide +kernel
theorem x20_64 {sc : aSc} {d : Nat} {r : aRes} {x0 : Nat} {a1 : Value} {a2 : Value} {a3 : Value} {st : List Value} {σ : aS} : Rn sc d 20 64 [.ref x0, a1, a2, a3] st σ r ↔ Rn sc d 20 65 [.ref x0, a1, a2, a3] (.ref x0 :: st) σ r := r_aload_n d20_64 rfl
theorem d20_65 : decode (mC 20) 65 = .ok (.dup, 1) := by decide +kernel
theorem x20_65 {sc : aSc} {d : Nat} {r : aRes} {L : List Value} {st : List Value} {σ : aS} {y : Nat} : Rn sc d 20 65 L (.ref y :: st) σ r ↔ Rn sc d 20 66 L (.ref y :: .ref y :: st) σ r := r_dup d20_65 rfl
theorem d20_66 : decode (mC 20) 66 = .ok (.getfield 52, 3) := by decide +kernel
theorem x20_66 {sc : aSc} {d : Nat} {r : aRes} {L : List Value} {st : List Value} {f : Nat → Nat → Int32} {g : Nat → Nat → Int64} {h1 h2 : Nat} {o : Nat} (h17 : 17 ≤ o) (hK : KK[o]? = some (.inl 1)) : Rn sc d 20 66 L (.ref o :: st) (cS f g h1 h2) r ↔ Rn sc d 20 69 L (.int (f o 1) :: st) (cS f g h1 h2) r := r_getI d20_66 (ci := 1) (k := 1) rfl (by decide) (fun _ => rfl) h17 hK
theorem d20_69 : decode (mC 20) 69 = .ok (.iconst 1, 1) := by decide +kernel
theorem x20_69 {sc : aSc} {d : Nat} {r : aRes} {L : List Value} {st : List Value} {σ : aS} : Rn sc d 20 69 L st σ r ↔ Rn sc d 20 70 L (.int 1 :: st) σ r := r_iconst d20_69 (by decide)
theorem d20_70 : decode (mC 20) 70 = .ok (.iadd, 1) := by decide +kernel
theorem x20_70 {sc : aSc} {d : Nat} {r : aRes} {L : List Value} {st : List Value} {σ : aS} {x y : Int32} : Rn sc d 20 70 L (.int y :: .int x :: st) σ r ↔ Rn sc d 20 71 L (.int (x + y) :: st) σ r := r_iadd d20_70
theorem d20_71 : decode (mC 20) 71 = .ok (.putfield 52, 3) := by decide +kernel
theorem x20_71 {sc : aSc} {d : Nat} {r : aRes} {L : List Value} {st : List Value} {f : Nat → Nat → Int32} {g : Nat → Nat → Int64} {h1 h2 : Nat} {o : Nat} {v : Int32} (h17 : 17 ≤ o) (hK : KK[o]? = some (.inl 1)) : Rn sc d 20 71 L (.int v :: .ref o :: st) (cS f g h1 h2) r ↔ Rn sc d 20 74 L st (cS (u2 f o 1 v) g h1 h2) r := r_putI d20_71 (ci := 1) (k := 1) rfl (by decide) h17 hK
theorem d20_74 : decode (mC 20) 74 = .ok (.iload_n 3, 1) := by decide +kernel
theorem x20_74 {sc : aSc} {d : Nat} {r : aRes} {a0 : Value} {a1 : Value} {a2 : Value} {x3 : Int32} {st : List Value} {σ : aS} : Rn sc d 20 74 [a0, a1, a2, .int x3] st σ r ↔ Rn sc d 20 75 [a0, a1, a2, .int x3] (.int x3 :: st) σ r := r_iload_n d20_74 rfl
theorem d20_75 : decode (mC 20) 75 = .ok (.ireturn, 1) := by decide +kernel
theorem x20_75 {sc : aSc} {d : Nat} {r : aRes} {L : List Value} {σ : aS} {x : Int32} (hn : x &&& 1 = x) : Rn sc d 20 75 L [.int x] σ r ↔ r = (σ, some (.int x)) := r_iret d20_75 rfl (congrArg Value.int hn)
theorem d21_0 : decode (mC 21) 0 = .ok (.iconst 0, 1) := by decide +kernel
theorem x21_0 {sc : aSc} {d : Nat} {r : aRes} {L : List Value} {st : List Value} {σ : aS} : Rn sc d 21 0 L st σ r ↔ Rn sc d 21 1 L (.int 0 :: st) σ r := r_iconst d21_0 (by decide)
theorem d21_1 : decode (mC 21) 1 = .ok (.istore_n 2, 1) := by decide +kernel
theorem x21_1 {sc : aSc} {d : Nat} {r : aRes} {a0 : Value} {x1 : Int32} {a2 : Value} {a3 : Value} {a4 : Value} {st : List Value} {σ : aS} {y : Int32} : Rn sc d 21 1 [a0, .int x1, a2, a3, a4] (.int y :: st) σ r ↔ Rn sc d 21 2 [a0, .int x1, .int y, a3, a4] st σ r := r_istore_n d21_1 (Nat.le_of_ble_eq_true rfl) rfl
theorem d21_2 : decode (mC 21) 2 = .ok (.iconst 0, 1) := by decide +kernel
theorem x21_2 {sc : aSc} {d : Nat} {r : aRes} {L : List Value} {st : List Value} {σ : aS} : Rn sc d 21 2 L st σ r ↔ Rn sc d 21 3 L (.int 0 :: st) σ r := r_iconst d21_2 (by decide)
theorem d21_3 : decode (mC 21) 3 = .ok (.istore_n 3, 1) := by decide +kernel
theorem x21_3 {sc : aSc} {d : Nat} {r : aRes} {a0 : Value} {a1 : Value} {x2 : Int32} {a3 : Value} {a4 : Value} {st : List Value} {σ : aS} {y : Int32} : Rn sc d 21 3 [a0, a1, .int x2, a3, a4] (.int y :: st) σ r ↔ Rn sc d 21 4 [a0, a1, .int x2, .int y, a4] st σ r := r_istore_n d21_3 (Nat.le_of_ble_eq_true rfl) rfl
theorem d21_4 : decode (mC 21) 4 = .ok (.iload_n 3, 1) := by decide +kernel
theorem x21_4 {sc : aSc} {d : Nat} {r : aRes} {a0 : Value} {a1 : Value} {a2 : Value} {x3 : Int32} {a4 : Value} {st : List Value} {σ : aS} : Rn sc d 21 4 [a0, a1, a2, .int x3, a4] st σ r ↔ Rn sc d 21 5 [a0, a1, a2, .int x3, a4] (.int x3 :: st) σ r := r_iload_n d21_4 rfl
theorem d21_5 : decode (mC 21) 5 = .ok (.aload_n 0, 1) := by decide +kernel
theorem x21_5 {sc : aSc} {d : Nat} {r : aRes} {x0 : Nat} {a1 : Value} {a2 : Value} {a3 : Value} {a4 : Value} {st : List Value} {σ : aS} : Rn sc d 21 5 [.ref x0, a1, a2, a3, a4] st σ r ↔ Rn sc d 21 6 [.ref x0, a1, a2, a3, a4] (.ref x0 :: st) σ r := r_aload_n d21_5 rfl
theorem d21_6 : decode (mC 21) 6 = .ok (.getfield 48, 3) := by decide +kernel
theorem x21_6 {sc : aSc} {d : Nat} {r : aRes} {L : List Value} {st : List Value} {f : Nat → Nat → Int32} {g : Nat → Nat → Int64} {h1 h2 : Nat} {o : Nat} (h17 : 17 ≤ o) (hK : KK[o]? = some (.inl 1)) : Rn sc d 21 6 L (.ref o :: st) (cS f g h1 h2) r ↔ Rn sc d 21 9 L (.int (f o 0) :: st) (cS f g h1 h2) r := r_getI d21_6 (ci := 1) (k := 0) rfl (by decide) (fun _ => rfl) h17 hK
theorem d21_9 : decode (mC 21) 9 = .ok (.if_icmp .ge 55, 3) := by decide +kernel
theorem x21_9 {sc : aSc} {d : Nat} {r : aRes} {L : List Value} {st : List Value} {σ : aS} {x y : Int32} : Rn sc d 21 9 L (.int y :: .int x :: st) σ r ↔ if x < y then Rn sc d 21 12 L st σ r else Rn sc d 21 64 L st σ r := r_icmp_ge d21_9 rfl
theorem d21_12 : decode (mC 21) 12 = .ok (.iload_n 3, 1) := by decide +kernel
theorem x21_12 {sc : aSc} {d : Nat} {r : aRes} {a0 : Value} {a1 : Value} {a2 : Value} {x3 : Int32} {a4 : Value} {st : List Value} {σ : aS} : Rn sc d 21 12 [a0, a1, a2, .int x3, a4] st σ r ↔ Rn sc d 21 13 [a0, a1, a2, .int x3, a4] (.int x3 :: st) σ r := r_iload_n d21_12 rfl
theorem d21_13 : decode (mC 21) 13 = .ok (.iconst 1, 1) := by decide +kernel
theorem x21_13 {sc : aSc} {d : Nat} {r : aRes} {L : List Value} {st : List Value} {σ : aS} : Rn sc d 21 13 L st σ r ↔ Rn sc d 21 14 L (.int 1 :: st) σ r := r_iconst d21_13 (by decide)
theorem d21_14 : decode (mC 21) 14 = .ok (.iadd, 1) := by decide +kernel
theorem x21_14 {sc : aSc} {d : Nat} {r : aRes} {L : List Value} {st : List Value} {σ : aS} {x y : Int32} : Rn sc d 21 14 L (.int y :: .int x :: st) σ r ↔ Rn sc d 21 15 L (.int (x + y) :: st) σ r := r_iadd d21_14
theorem d21_15 : decode (mC 21) 15 = .ok (.istore 4, 2) := by decide +kernel
theorem x21_15 {sc : aSc} {d : Nat} {r : aRes} {a0 : Value} {a1 : Value} {a2 : Value} {x3 : Int32} {a4 : Value} {st : List Value} {σ : aS} {y : Int32} : Rn sc d 21 15 [a0, a1, a2, .int x3, a4] (.int y :: st) σ r ↔ Rn sc d 21 17 [a0, a1, a2, .int x3, .int y] st σ r := r_istore d21_15 (Nat.le_of_ble_eq_true rfl) rfl
theorem d21_17 : decode (mC 21) 17 = .ok (.iload 4, 2) := by decide +kernel
theorem x21_17 {sc : aSc} {d : Nat} {r : aRes} {a0 : Value} {a1 : Value} {a2 : Value} {a3 : Value} {x4 : Int32} {st : List Value} {σ : aS} : Rn sc d 21 17 [a0, a1, a2, a3, .int x4] st σ r ↔ Rn sc d 21 19 [a0, a1, a2, a3, .int x4] (.int x4 :: st) σ r := r_iload d21_17 rfl
theorem d21_19 : decode (mC 21) 19 = .ok (.aload_n 0, 1) := by decide +kernel
theorem x21_19 {sc : aSc} {d : Nat} {r : aRes} {x0 : Nat} {a1 : Value} {a2 : Value} {a3 : Value} {a4 : Value} {st : List Value} {σ : aS} : Rn sc d 21 19 [.ref x0, a1, a2, a3, a4] st σ r ↔ Rn sc d 21 20 [.ref x0, a1, a2, a3, a4] (.ref x0 :: st) σ r := r_aload_n d21_19 rfl
theorem d21_20 : decode (mC 21) 20 = .ok (.getfield 48, 3) := by decide +kernel
theorem x21_20 {sc : aSc} {d : Nat} {r : aRes} {L : List Value} {st : List Value} {f : Nat → Nat → Int32} {g : Nat → Nat → Int64} {h1 h2 : Nat} {o : Nat} (h17 : 17 ≤ o) (hK : KK[o]? = some (.inl 1)) : Rn sc d 21 20 L (.ref o :: st) (cS f g h1 h2) r ↔ Rn sc d 21 23 L (.int (f o 0) :: st) (cS f g h1 h2) r := r_getI d21_20 (ci := 1) (k := 0) rfl (by decide) (fun _ => rfl) h17 hK
theorem d21_23 : decode (mC 21) 23 = .ok (.if_icmp .ge 35, 3) := by decide +kernel
theorem x21_23 {sc : aSc} {d : Nat} {r : aRes} {L : List Value} {st : List Value} {σ : aS} {x y : Int32} : Rn sc d 21 23 L (.int y :: .int x :: st) σ r ↔ if x < y then Rn sc d 21 26 L st σ r else Rn sc d 21 58 L st σ r := r_icmp_ge d21_23 rfl
theorem d21_26 : decode (mC 21) 26 = .ok (.aload_n 0, 1) := by decide +kernel
theorem x21_26 {sc : aSc} {d : Nat} {r : aRes} {x0 : Nat} {a1 : Value} {a2 : Value} {a3 : Value} {a4 : Value} {st : List Value} {σ : aS} : Rn sc d 21 26 [.ref x0, a1, a2, a3, a4] st σ r ↔ Rn sc d 21 27 [.ref x0, a1, a2, a3, a4] (.ref x0 :: st) σ r := r_aload_n d21_26 rfl
theorem d21_27 : decode (mC 21) 27 = .ok (.iload_n 3, 1) := by decide +kernel
theorem x21_27 {sc : aSc} {d : Nat} {r : aRes} {a0 : Value} {a1 : Value} {a2 : Value} {x3 : Int32} {a4 : Value} {st : List Value} {σ : aS} : Rn sc d 21 27 [a0, a1, a2, .int x3, a4] st σ r ↔ Rn sc d 21 28 [a0, a1, a2, .int x3, a4] (.int x3 :: st) σ r := r_iload_n d21_27 rfl
theorem d21_28 : decode (mC 21) 28 = .ok (.iload 4, 2) := by decide +kernel
theorem x21_28 {sc : aSc} {d : Nat} {r : aRes} {a0 : Value} {a1 : Value} {a2 : Value} {a3 : Value} {x4 : Int32} {st : List Value} {σ : aS} : Rn sc d 21 28 [a0, a1, a2, a3, .int x4] st σ r ↔ Rn sc d 21 30 [a0, a1, a2, a3, .int x4] (.int x4 :: st) σ r := r_iload d21_28 rfl
theorem d21_30 : decode (mC 21) 30 = .ok (.aload_n 0, 1) := by decide +kernel
theorem x21_30 {sc : aSc} {d : Nat} {r : aRes} {x0 : Nat} {a1 : Value} {a2 : Value} {a3 : Value} {a4 : Value} {st : List Value} {σ : aS} : Rn sc d 21 30 [.ref x0, a1, a2, a3, a4] st σ r ↔ Rn sc d 21 31 [.ref x0, a1, a2, a3, a4] (.ref x0 :: st) σ r := r_aload_n d21_30 rfl
theorem d21_31 : decode (mC 21) 31 = .ok (.getfield 61, 3) := by decide +kernel
theorem x21_31 {sc : aSc} {d : Nat} {r : aRes} {L : List Value} {st : List Value} {f : Nat → Nat → Int32} {g : Nat → Nat → Int64} {h1 h2 : Nat} {o : Nat} (h17 : 17 ≤ o) (hK : KK[o]? = some (.inl 1)) : Rn sc d 21 31 L (.ref o :: st) (cS f g h1 h2) r ↔ Rn sc d 21 34 L (.int (f o 4) :: st) (cS f g h1 h2) r := r_getI d21_31 (ci := 1) (k := 4) rfl (by decide) (fun _ => rfl) h17 hK
theorem d21_34 : decode (mC 21) 34 = .ok (.iload_n 1, 1) := by decide +kernel
theorem x21_34 {sc : aSc} {d : Nat} {r : aRes} {a0 : Value} {x1 : Int32} {a2 : Value} {a3 : Value} {a4 : Value} {st : List Value} {σ : aS} : Rn sc d 21 34 [a0, .int x1, a2, a3, a4] st σ r ↔ Rn sc d 21 35 [a0, .int x1, a2, a3, a4] (.int x1 :: st) σ r := r_iload_n d21_34 rfl
theorem d21_35 : decode (mC 21) 35 = .ok (.invokevirtual 111, 3) := by decide +kernel
theorem x21_35 {sc : aSc} {d : Nat} {r : aRes} {L : List Value} {f : Nat → Nat → Int32} {g : Nat → Nat → Int64} {h1 h2 : Nat} {y0 : Int32} {y1 : Int32} {y2 : Int32} {y3 : Int32}  {o : Nat} (hK : KK[o]? = some (.inl 1)) : Rn sc d 21 35 L [.int y0, .int y1, .int y2, .int y3, .ref o] (cS f g h1 h2) r ↔ ∃ (σ3 : aS) (v : Option Value), Cl sc d 19 [.ref o, .int y3, .int y2, .int y1, .int y0] (cS f g h1 h2) (σ3, v) ∧ Rn sc d 21 38 L (v.toList ++ []) σ3 r := r_callV (vs := [.int y0, .int y1, .int y2, .int y3]) d21_35 (j := 19) rfl ⟨rfl, by decide, rfl, rfl⟩ (Nat.le_of_ble_eq_true rfl) hK
theorem d21_38 : decode (mC 21) 38 = .ok (.ifCond .eq 14, 3) := by decide +kernel
theorem x21_38 {sc : aSc} {d : Nat} {r : aRes} {L : List Value} {st : List Value} {σ : aS} {x : Int32} : Rn sc d 21 38 L (.int x :: st) σ r ↔ if x = 0 then Rn sc d 21 52 L st σ r else Rn sc d 21 41 L st σ r := r_if_eq d21_38 rfl
theorem d21_41 : decode (mC 21) 41 = .ok (.iload_n 2, 1) := by decide +kernel
theorem x21_41 {sc : aSc} {d : Nat} {r : aRes} {a0 : Value} {a1 : Value} {x2 : Int32} {a3 : Value} {a4 : Value} {st : List Value} {σ : aS} : Rn sc d 21 41 [a0, a1, .int x2, a3, a4] st σ r ↔ Rn sc d 21 42 [a0, a1, .int x2, a3, a4] (.int x2 :: st) σ r := r_iload_n d21_41 rfl
theorem d21_42 : decode (mC 21) 42 = .ok (.iconst 1, 1) := by decide +kernel
theorem x21_42 {sc : aSc} {d : Nat} {r : aRes} {L : List Value} {st : List Value} {σ : aS} : Rn sc d 21 42 L st σ r ↔ Rn sc d 21 43 L (.int 1 :: st) σ r := r_iconst d21_42 (by decide)
theorem d21_43 : decode (mC 21) 43 = .ok (.iload_n 3, 1) := by decide +kernel
theorem x21_43 {sc : aSc} {d : Nat} {r : aRes} {a0 : Value} {a1 : Value} {a2 : Value} {x3 : Int32} {a4 : Value} {st : List Value} {σ : aS} : Rn sc d 21 43 [a0, a1, a2, .int x3, a4] st σ r ↔ Rn sc d 21 44 [a0, a1, a2, .int x3, a4] (.int x3 :: st) σ r := r_iload_n d21_43 rfl
theorem d21_44 : decode (mC 21) 44 = .ok (.ishl, 1) := by decide +kernel
theorem x21_44 {sc : aSc} {d : Nat} {r : aRes} {L : List Value} {st : List Value} {σ : aS} {x y : Int32} : Rn sc d 21 44 L (.int y :: .int x :: st) σ r ↔ Rn sc d 21 45 L (.int (x <<< (y &&& 31)) :: st) σ r := r_ishl d21_44
theorem d21_45 : decode (mC 21) 45 = .ok (.iconst 1, 1) := by decide +kernel
theorem x21_45 {sc : aSc} {d : Nat} {r : aRes} {L : List Value} {st : List Value} {σ : aS} : Rn sc d 21 45 L st σ r ↔ Rn sc d 21 46 L (.int 1 :: st) σ r := r_iconst d21_45 (by decide)
theorem d21_46 : decode (mC 21) 46 = .ok (.iload 4, 2) := by decide +kernel
theorem x21_46 {sc : aSc} {d : Nat} {r : aRes} {a0 : Value} {a1 : Value} {a2 : Value} {a3 : Value} {x4 : Int32} {st : List Value} {σ : aS} : Rn sc d 21 46 [a0, a1, a2, a3, .int x4] st σ r ↔ Rn sc d 21 48 [a0, a1, a2, a3, .int x4] (.int x4 :: st) σ r := r_iload d21_46 rfl
theorem d21_48 : decode (mC 21) 48 = .ok (.ishl, 1) := by decide +kernel
theorem x21_48 {sc : aSc} {d : Nat} {r : aRes} {L : List Value} {st : List Value} {σ : aS} {x y : Int32} : Rn sc d 21 48 L (.int y :: .int x :: st) σ r ↔ Rn sc d 21 49 L (.int (x <<< (y &&& 31)) :: st) σ r := r_ishl d21_48
theorem d21_49 : decode (mC 21) 49 = .ok (.ior, 1) := by decide +kernel
theorem x21_49 {sc : aSc} {d : Nat} {r : aRes} {L : List Value} {st : List Value} {σ : aS} {x y : Int32} : Rn sc d 21 49 L (.int y :: .int x :: st) σ r ↔ Rn sc d 21 50 L (.int (x ||| y) :: st) σ r := r_ior d21_49
theorem d21_50 : decode (mC 21) 50 = .ok (.ior, 1) := by decide +kernel
theorem x21_50 {sc : aSc} {d : Nat} {r : aRes} {L : List Value} {st : List Value} {σ : aS} {x y : Int32} : Rn sc d 21 50 L (.int y :: .int x :: st) σ r ↔ Rn sc d 21 51 L (.int (x ||| y) :: st) σ r := r_ior d21_50
theorem d21_51 : decode (mC 21) 51 = .ok (.istore_n 2, 1) := by decide +kernel
theorem x21_51 {sc : aSc} {d : Nat} {r : aRes} {a0 : Value} {x1 : Int32} {a2 : Value} {a3 : Value} {a4 : Value} {st : List Value} {σ : aS} {y : Int32} : Rn sc d 21 51 [a0, .int x1, a2, a3, a4] (.int y :: st) σ r ↔ Rn sc d 21 52 [a0, .int x1, .int y, a3, a4] st σ r := r_istore_n d21_51 (Nat.le_of_ble_eq_true rfl) rfl
theorem d21_52 : decode (mC 21) 52 = .ok (.iinc 4 1, 3) := by decide +kernel
theorem x21_52 {sc : aSc} {d : Nat} {r : aRes} {a0 : Value} {a1 : Value} {a2 : Value} {x3 : Int32} {x4 : Int32} {st : List Value} {σ : aS} : Rn sc d 21 52 [a0, a1, a2, .int x3, .int x4] st σ r ↔ Rn sc d 21 55 [a0, a1, a2, .int x3, .int (x4 + 1)] st σ r := r_iinc d21_52 (Nat.le_of_ble_eq_true rfl) rfl rfl (by decide)
theorem d21_55 : decode (mC 21) 55 = .ok (.goto (-38), 3) := by decide +kernel
theorem x21_55 {sc : aSc} {d : Nat} {r : aRes} {L : List Value} {st : List Value} {σ : aS} : Rn sc d 21 55 L st σ r ↔ Rn sc d 21 17 L st σ r := r_goto d21_55 rfl
theorem d21_58 : decode (mC 21) 58 = .ok (.iinc 3 1, 3) := by decide +kernel
theorem x21_58 {sc : aSc} {d : Nat} {r : aRes} {a0 : Value} {a1 : Value} {x2 : Int32} {x3 : Int32} {a4 : Value} {st : List Value} {σ : aS} : Rn sc d 21 58 [a0, a1, .int x2, .int x3, a4] st σ r ↔ Rn sc d 21 61 [a0, a1, .int x2, .int (x3 + 1), a4] st σ r := r_iinc d21_58 (Nat.le_of_ble_eq_true rfl) rfl rfl (by decide)
theorem d21_61 : decode (mC 21) 61 = .ok (.goto (-57), 3) := by decide +kernel
theorem x21_61 {sc : aSc} {d : Nat} {r : aRes} {L : List Value} {st : List Value} {σ : aS} : Rn sc d 21 61 L st σ r ↔ Rn sc d 21 4 L st σ r := r_goto d21_61 rfl
theorem d21_64 : decode (mC 21) 64 = .ok (.iload_n 2, 1) := by decide +kernel
theorem x21_64 {sc : aSc} {d : Nat} {r : aRes} {a0 : Value} {a1 : Value} {x2 : Int32} {a3 : Value} {a4 : Value} {st : List Value} {σ : aS} : Rn sc d 21 64 [a0, a1, .int x2, a3, a4] st σ r ↔ Rn sc d 21 65 [a0, a1, .int x2, a3, a4] (.int x2 :: st) σ r := r_iload_n d21_64 rfl
theorem d21_65 : decode (mC 21) 65 = .ok (.ireturn, 1) := by decide +kernel
theorem x21_65 {sc : aSc} {d : Nat} {r : aRes} {L : List Value} {σ : aS} {x : Int32} : Rn sc d 21 65 L [.int x] σ r ↔ r = (σ, some (.int x)) := r_iret d21_65 rfl rfl
theorem d22_0 : decode (mC 22) 0 = .ok (.iload_n 2, 1) := by decide +kernel
theorem x22_0 {sc : aSc} {d : Nat} {r : aRes} {a0 : Value} {a1 : Value} {x2 : Int32} {a3 : Value} {a4 : Value} {a5 : Value} {st : List Value} {σ : aS} : Rn sc d 22 0 [a0, a1, .int x2, a3, a4, a5] st σ r ↔ Rn sc d 22 1 [a0, a1, .int x2, a3, a4, a5] (.int x2 :: st) σ r := r_iload_n d22_0 rfl
theorem d22_1 : decode (mC 22) 1 = .ok (.iload_n 1, 1) := by decide +kernel
theorem x22_1 {sc : aSc} {d : Nat} {r : aRes} {a0 : Value} {x1 : Int32} {a2 : Value} {a3 : Value} {a4 : Value} {a5 : Value} {st : List Value} {σ : aS} : Rn sc d 22 1 [a0, .int x1, a2, a3, a4, a5] st σ r ↔ Rn sc d 22 2 [a0, .int x1, a2, a3, a4, a5] (.int x1 :: st) σ r := r_iload_n d22_1 rfl
theorem d22_2 : decode (mC 22) 2 = .ok (.aload_n 0, 1) := by decide +kernel
theorem x22_2 {sc : aSc} {d : Nat} {r : aRes} {x0 : Nat} {a1 : Value} {a2 : Value} {a3 : Value} {a4 : Value} {a5 : Value} {st : List Value} {σ : aS} : Rn sc d 22 2 [.ref x0, a1, a2, a3, a4, a5] st σ r ↔ Rn sc d 22 3 [.ref x0, a1, a2, a3, a4, a5] (.ref x0 :: st) σ r := r_aload_n d22_2 rfl
theorem d22_3 : decode (mC 22) 3 = .ok (.getfield 64, 3) := by decide +kernel
theorem x22_3 {sc : aSc} {d : Nat} {r : aRes} {L : List Value} {st : List Value} {f : Nat → Nat → Int32} {g : Nat → Nat → Int64} {h1 h2 : Nat} {o : Nat} (h17 : 17 ≤ o) (hK : KK[o]? = some (.inl 1)) : Rn sc d 22 3 L (.ref o :: st) (cS f g h1 h2) r ↔ Rn sc d 22 6 L (.int (f o 5) :: st) (cS f g h1 h2) r := r_getI d22_3 (ci := 1) (k := 5) rfl (by decide) (fun _ => rfl) h17 hK
theorem d22_6 : decode (mC 22) 6 = .ok (.ixor, 1) := by decide +kernel
theorem x22_6 {sc : aSc} {d : Nat} {r : aRes} {L : List Value} {st : List Value} {σ : aS} {x y : Int32} : Rn sc d 22 6 L (.int y :: .int x :: st) σ r ↔ Rn sc d 22 7 L (.int (x ^^^ y) :: st) σ r := r_ixor d22_6
theorem d22_7 : decode (mC 22) 7 = .ok (.iconst (-1), 1) := by decide +kernel
theorem x22_7 {sc : aSc} {d : Nat} {r : aRes} {L : List Value} {st : List Value} {σ : aS} : Rn sc d 22 7 L st σ r ↔ Rn sc d 22 8 L (.int (-1) :: st) σ r := r_iconst d22_7 (by decide)
theorem d22_8 : decode (mC 22) 8 = .ok (.ixor, 1) := by decide +kernel
theorem x22_8 {sc : aSc} {d : Nat} {r : aRes} {L : List Value} {st : List Value} {σ : aS} {x y : Int32} : Rn sc d 22 8 L (.int y :: .int x :: st) σ r ↔ Rn sc d 22 9 L (.int (x ^^^ y) :: st) σ r := r_ixor d22_8
theorem d22_9 : decode (mC 22) 9 = .ok (.iand, 1) := by decide +kernel
theorem x22_9 {sc : aSc} {d : Nat} {r : aRes} {L : List Value} {st : List Value} {σ : aS} {x y : Int32} : Rn sc d 22 9 L (.int y :: .int x :: st) σ r ↔ Rn sc d 22 10 L (.int (x &&& y) :: st) σ r := r_iand d22_9
theorem d22_10 : decode (mC 22) 10 = .ok (.istore_n 3, 1) := by decide +kernel
theorem x22_10 {sc : aSc} {d : Nat} {r : aRes} {a0 : Value} {a1 : Value} {x2 : Int32} {a3 : Value} {a4 : Value} {a5 : Value} {st : List Value} {σ : aS} {y : Int32} : Rn sc d 22 10 [a0, a1, .int x2, a3, a4, a5] (.int y :: st) σ r ↔ Rn sc d 22 11 [a0, a1, .int x2, .int y, a4, a5] st σ r := r_istore_n d22_10 (Nat.le_of_ble_eq_true rfl) rfl
theorem d22_11 : decode (mC 22) 11 = .ok (.iconst 0, 1) := by decide +kernel
theorem x22_11 {sc : aSc} {d : Nat} {r : aRes} {L : List Value} {st : List Value} {σ : aS} : Rn sc d 22 11 L st σ r ↔ Rn sc d 22 12 L (.int 0 :: st) σ r := r_iconst d22_11 (by decide)
theorem d22_12 : decode (mC 22) 12 = .ok (.istore 4, 2) := by decide +kernel
theorem x22_12 {sc : aSc} {d : Nat} {r : aRes} {a0 : Value} {a1 : Value} {a2 : Value} {x3 : Int32} {a4 : Value} {a5 : Value} {st : List Value} {σ : aS} {y : Int32} : Rn sc d 22 12 [a0, a1, a2, .int x3, a4, a5] (.int y :: st) σ r ↔ Rn sc d 22 14 [a0, a1, a2, .int x3, .int y, a5] st σ r := r_istore d22_12 (Nat.le_of_ble_eq_true rfl) rfl
theorem d22_14 : decode (mC 22) 14 = .ok (.iconst 0, 1) := by decide +kernel
theorem x22_14 {sc : aSc} {d : Nat} {r : aRes} {L : List Value} {st : List Value} {σ : aS} : Rn sc d 22 14 L st σ r ↔ Rn sc d 22 15 L (.int 0 :: st) σ r := r_iconst d22_14 (by decide)
theorem d22_15 : decode (mC 22) 15 = .ok (.istore 5, 2) := by decide +kernel
theorem x22_15 {sc : aSc} {d : Nat} {r : aRes} {a0 : Value} {a1 : Value} {a2 : Value} {a3 : Value} {x4 : Int32} {a5 : Value} {st : List Value} {σ : aS} {y : Int32} : Rn sc d 22 15 [a0, a1, a2, a3, .int x4, a5] (.int y :: st) σ r ↔ Rn sc d 22 17 [a0, a1, a2, a3, .int x4, .int y] st σ r := r_istore d22_15 (Nat.le_of_ble_eq_true rfl) rfl
theorem d22_17 : decode (mC 22) 17 = .ok (.iload 5, 2) := by decide +kernel
theorem x22_17 {sc : aSc} {d : Nat} {r : aRes} {a0 : Value} {a1 : Value} {a2 : Value} {a3 : Value} {a4 : Value} {x5 : Int32} {st : List Value} {σ : aS} : Rn sc d 22 17 [a0, a1, a2, a3, a4, .int x5] st σ r ↔ Rn sc d 22 19 [a0, a1, a2, a3, a4, .int x5] (.int x5 :: st) σ r := r_iload d22_17 rfl
theorem d22_19 : decode (mC 22) 19 = .ok (.aload_n 0, 1) := by decide +kernel
theorem x22_19 {sc : aSc} {d : Nat} {r : aRes} {x0 : Nat} {a1 : Value} {a2 : Value} {a3 : Value} {a4 : Value} {a5 : Value} {st : List Value} {σ : aS} : Rn sc d 22 19 [.ref x0, a1, a2, a3, a4, a5] st σ r ↔ Rn sc d 22 20 [.ref x0, a1, a2, a3, a4, a5] (.ref x0 :: st) σ r := r_aload_n d22_19 rfl
theorem d22_20 : decode (mC 22) 20 = .ok (.getfield 48, 3) := by decide +kernel
theorem x22_20 {sc : aSc} {d : Nat} {r : aRes} {L : List Value} {st : List Value} {f : Nat → Nat → Int32} {g : Nat → Nat → Int64} {h1 h2 : Nat} {o : Nat} (h17 : 17 ≤ o) (hK : KK[o]? = some (.inl 1)) : Rn sc d 22 20 L (.ref o :: st) (cS f g h1 h2) r ↔ Rn sc d 22 23 L (.int (f o 0) :: st) (cS f g h1 h2) r := r_getI d22_20 (ci := 1) (k := 0) rfl (by decide) (fun _ => rfl) h17 hK
theorem d22_23 : decode (mC 22) 23 = .ok (.if_icmp .ge 31, 3) := by decide +kernel
theorem x22_23 {sc : aSc} {d : Nat} {r : aRes} {L : List Value} {st : List Value} {σ : aS} {x y : Int32} : Rn sc d 22 23 L (.int y :: .int x :: st) σ r ↔ if x < y then Rn sc d 22 26 L st σ r else Rn sc d 22 54 L st σ r := r_icmp_ge d22_23 rfl
theorem d22_26 : decode (mC 22) 26 = .ok (.iload_n 3, 1) := by decide +kernel
theorem x22_26 {sc : aSc} {d : Nat} {r : aRes} {a0 : Value} {a1 : Value} {a2 : Value} {x3 : Int32} {a4 : Value} {a5 : Value} {st : List Value} {σ : aS} : Rn sc d 22 26 [a0, a1, a2, .int x3, a4, a5] st σ r ↔ Rn sc d 22 27 [a0, a1, a2, .int x3, a4, a5] (.int x3 :: st) σ r := r_iload_n d22_26 rfl
theorem d22_27 : decode (mC 22) 27 = .ok (.iload 5, 2) := by decide +kernel
theorem x22_27 {sc : aSc} {d : Nat} {r : aRes} {a0 : Value} {a1 : Value} {a2 : Value} {a3 : Value} {a4 : Value} {x5 : Int32} {st : List Value} {σ : aS} : Rn sc d 22 27 [a0, a1, a2, a3, a4, .int x5] st σ r ↔ Rn sc d 22 29 [a0, a1, a2, a3, a4, .int x5] (.int x5 :: st) σ r := r_iload d22_27 rfl
theorem d22_29 : decode (mC 22) 29 = .ok (.ishr, 1) := by decide +kernel
theorem x22_29 {sc : aSc} {d : Nat} {r : aRes} {L : List Value} {st : List Value} {σ : aS} {x y : Int32} : Rn sc d 22 29 L (.int y :: .int x :: st) σ r ↔ Rn sc d 22 30 L (.int (x >>> (y &&& 31)) :: st) σ r := r_ishr d22_29
theorem d22_30 : decode (mC 22) 30 = .ok (.iconst 1, 1) := by decide +kernel
theorem x22_30 {sc : aSc} {d : Nat} {r : aRes} {L : List Value} {st : List Value} {σ : aS} : Rn sc d 22 30 L st σ r ↔ Rn sc d 22 31 L (.int 1 :: st) σ r := r_iconst d22_30 (by decide)
theorem d22_31 : decode (mC 22) 31 = .ok (.iand, 1) := by decide +kernel
theorem x22_31 {sc : aSc} {d : Nat} {r : aRes} {L : List Value} {st : List Value} {σ : aS} {x y : Int32} : Rn sc d 22 31 L (.int y :: .int x :: st) σ r ↔ Rn sc d 22 32 L (.int (x &&& y) :: st) σ r := r_iand d22_31
theorem d22_32 : decode (mC 22) 32 = .ok (.iconst 1, 1) := by decide +kernel
theorem x22_32 {sc : aSc} {d : Nat} {r : aRes} {L : List Value} {st : List Value} {σ : aS} : Rn sc d 22 32 L st σ r ↔ Rn sc d 22 33 L (.int 1 :: st) σ r := r_iconst d22_32 (by decide)
theorem d22_33 : decode (mC 22) 33 = .ok (.if_icmp .ne 15, 3) := by decide +kernel
theorem x22_33 {sc : aSc} {d : Nat} {r : aRes} {L : List Value} {st : List Value} {σ : aS} {x y : Int32} : Rn sc d 22 33 L (.int y :: .int x :: st) σ r ↔ if x = y then Rn sc d 22 36 L st σ r else Rn sc d 22 48 L st σ r := r_icmp_ne d22_33 rfl
theorem d22_36 : decode (mC 22) 36 = .ok (.iload 4, 2) := by decide +kernel
theorem x22_36 {sc : aSc} {d : Nat} {r : aRes} {a0 : Value} {a1 : Value} {a2 : Value} {a3 : Value} {x4 : Int32} {a5 : Value} {st : List Value} {σ : aS} : Rn sc d 22 36 [a0, a1, a2, a3, .int x4, a5] st σ r ↔ Rn sc d 22 38 [a0, a1, a2, a3, .int x4, a5] (.int x4 :: st) σ r := r_iload d22_36 rfl
theorem d22_38 : decode (mC 22) 38 = .ok (.aload_n 0, 1) := by decide +kernel
theorem x22_38 {sc : aSc} {d : Nat} {r : aRes} {x0 : Nat} {a1 : Value} {a2 : Value} {a3 : Value} {a4 : Value} {a5 : Value} {st : List Value} {σ : aS} : Rn sc d 22 38 [.ref x0, a1, a2, a3, a4, a5] st σ r ↔ Rn sc d 22 39 [.ref x0, a1, a2, a3, a4, a5] (.ref x0 :: st) σ r := r_aload_n d22_38 rfl
theorem d22_39 : decode (mC 22) 39 = .ok (.getfield 21, 3) := by decide +kernel
theorem x22_39 {sc : aSc} {d : Nat} {r : aRes} {L : List Value} {st : List Value} {f : Nat → Nat → Int32} {g : Nat → Nat → Int64} {h1 h2 : Nat} {o : Nat} (hK : KK[o]? = some (.inl 1)) (hR : (RR h1 h2 o 9).isSome = true) : Rn sc d 22 39 L (.ref o :: st) (cS f g h1 h2) r ↔ Rn sc d 22 42 L (.ref (rf h1 h2 o 9) :: st) (cS f g h1 h2) r := r_getR2 d22_39 (ci := 1) (k := 9) rfl (by decide) (fun _ => rfl) hK hR
theorem d22_42 : decode (mC 22) 42 = .ok (.iload 5, 2) := by decide +kernel
theorem x22_42 {sc : aSc} {d : Nat} {r : aRes} {a0 : Value} {a1 : Value} {a2 : Value} {a3 : Value} {a4 : Value} {x5 : Int32} {st : List Value} {σ : aS} : Rn sc d 22 42 [a0, a1, a2, a3, a4, .int x5] st σ r ↔ Rn sc d 22 44 [a0, a1, a2, a3, a4, .int x5] (.int x5 :: st) σ r := r_iload d22_42 rfl
theorem d22_44 : decode (mC 22) 44 = .ok (.iaload, 1) := by decide +kernel
theorem x22_44 {sc : aSc} {d : Nat} {r : aRes} {L : List Value} {st : List Value} {f : Nat → Nat → Int32} {g : Nat → Nat → Int64} {h1 h2 : Nat} {a : Nat} {i : Int32} (h17 : 17 ≤ a) (hA : isT9 .int a) (hi : inb i (aln a) = true) : Rn sc d 22 44 L (.int i :: .ref a :: st) (cS f g h1 h2) r ↔ Rn sc d 22 45 L (.int (f a i.toNatClampNeg) :: st) (cS f g h1 h2) r := r_iald d22_44 h17 hA hi
theorem d22_45 : decode (mC 22) 45 = .ok (.iadd, 1) := by decide +kernel
theorem x22_45 {sc : aSc} {d : Nat} {r : aRes} {L : List Value} {st : List Value} {σ : aS} {x y : Int32} : Rn sc d 22 45 L (.int y :: .int x :: st) σ r ↔ Rn sc d 22 46 L (.int (x + y) :: st) σ r := r_iadd d22_45
theorem d22_46 : decode (mC 22) 46 = .ok (.istore 4, 2) := by decide +kernel
theorem x22_46 {sc : aSc} {d : Nat} {r : aRes} {a0 : Value} {a1 : Value} {a2 : Value} {x3 : Int32} {a4 : Value} {a5 : Value} {st : List Value} {σ : aS} {y : Int32} : Rn sc d 22 46 [a0, a1, a2, .int x3, a4, a5] (.int y :: st) σ r ↔ Rn sc d 22 48 [a0, a1, a2, .int x3, .int y, a5] st σ r := r_istore d22_46 (Nat.le_of_ble_eq_true rfl) rfl
theorem d22_48 : decode (mC 22) 48 = .ok (.iinc 5 1, 3) := by decide +kernel
theorem x22_48 {sc : aSc} {d : Nat} {r : aRes} {a0 : Value} {a1 : Value} {a2 : Value} {a3 : Value} {x4 : Int32} {x5 : Int32} {st : List Value} {σ : aS} : Rn sc d 22 48 [a0, a1, a2, a3, .int x4, .int x5] st σ r ↔ Rn sc d 22 51 [a0, a1, a2, a3, .int x4, .int (x5 + 1)] st σ r := r_iinc d22_48 (Nat.le_of_ble_eq_true rfl) rfl rfl (by decide)
theorem d22_51 : decode (mC 22) 51 = .ok (.goto (-34), 3) := by decide +kernel
theorem x22_51 {sc : aSc} {d : Nat} {r : aRes} {L : List Value} {st : List Value} {σ : aS} : Rn sc d 22 51 L st σ r ↔ Rn sc d 22 17 L st σ r := r_goto d22_51 rfl
theorem d22_54 : decode (mC 22) 54 = .ok (.iload 4, 2) := by decide +kernel
theorem x22_54 {sc : aSc} {d : Nat} {r : aRes} {a0 : Value} {a1 : Value} {a2 : Value} {a3 : Value} {x4 : Int32} {a5 : Value} {st : List Value} {σ : aS} : Rn sc d 22 54 [a0, a1, a2, a3, .int x4, a5] st σ r ↔ Rn sc d 22 56 [a0, a1, a2, a3, .int x4, a5] (.int x4 :: st) σ r := r_iload d22_54 rfl
theorem d22_56 : decode (mC 22) 56 = .ok (.ireturn, 1) := by decide +kernel
theorem x22_56 {sc : aSc} {d : Nat} {r : aRes} {L : List Value} {σ : aS} {x : Int32} : Rn sc d 22 56 L [.int x] σ r ↔ r = (σ, some (.int x)) := r_iret d22_56 rfl rfl
theorem d24_0 : decode (mC 24) 0 = .ok (.aload_n 0, 1) := by decide +kernel
theorem x24_0 {sc : aSc} {d : Nat} {r : aRes} {x0 : Nat} {st : List Value} {σ : aS} : Rn sc d 24 0 [.ref x0] st σ r ↔ Rn sc d 24 1 [.ref x0] (.ref x0 :: st) σ r := r_aload_n d24_0 rfl
theorem d24_1 : decode (mC 24) 1 = .ok (.iconst 1, 1) := by decide +kernel
theorem x24_1 {sc : aSc} {d : Nat} {r : aRes} {L : List Value} {st : List Value} {σ : aS} : Rn sc d 24 1 L st σ r ↔ Rn sc d 24 2 L (.int 1 :: st) σ r := r_iconst d24_1 (by decide)
theorem d24_2 : decode (mC 24) 2 = .ok (.putfield 7, 3) := by decide +kernel
theorem x24_2 {sc : aSc} {d : Nat} {r : aRes} {L : List Value} {st : List Value} {f : Nat → Nat → Int32} {g : Nat → Nat → Int64} {h1 h2 : Nat} {o : Nat} {v : Int32} (h17 : 17 ≤ o) (hK : KK[o]? = some (.inl 2)) : Rn sc d 24 2 L (.int v :: .ref o :: st) (cS f g h1 h2) r ↔ Rn sc d 24 5 L st (cS (u2 f o 0 v) g h1 h2) r := r_putI d24_2 (ci := 2) (k := 0) rfl (by decide) h17 hK
theorem d24_5 : decode (mC 24) 5 = .ok (.aload_n 0, 1) := by decide +kernel
theorem x24_5 {sc : aSc} {d : Nat} {r : aRes} {x0 : Nat} {st : List Value} {σ : aS} : Rn sc d 24 5 [.ref x0] st σ r ↔ Rn sc d 24 6 [.ref x0] (.ref x0 :: st) σ r := r_aload_n d24_5 rfl
theorem d24_6 : decode (mC 24) 6 = .ok (.sipush 990, 3) := by decide +kernel
theorem x24_6 {sc : aSc} {d : Nat} {r : aRes} {L : List Value} {st : List Value} {σ : aS} : Rn sc d 24 6 L st σ r ↔ Rn sc d 24 9 L (.int 990 :: st) σ r := r_sipush d24_6 (by decide)
theorem d24_9 : decode (mC 24) 9 = .ok (.putfield 13, 3) := by decide +kernel
theorem x24_9 {sc : aSc} {d : Nat} {r : aRes} {L : List Value} {st : List Value} {f : Nat → Nat → Int32} {g : Nat → Nat → Int64} {h1 h2 : Nat} {o : Nat} {v : Int32} (h17 : 17 ≤ o) (hK : KK[o]? = some (.inl 2)) : Rn sc d 24 9 L (.int v :: .ref o :: st) (cS f g h1 h2) r ↔ Rn sc d 24 12 L st (cS (u2 f o 1 v) g h1 h2) r := r_putI d24_9 (ci := 2) (k := 1) rfl (by decide) h17 hK
theorem d24_12 : decode (mC 24) 12 = .ok (.aload_n 0, 1) := by decide +kernel
theorem x24_12 {sc : aSc} {d : Nat} {r : aRes} {x0 : Nat} {st : List Value} {σ : aS} : Rn sc d 24 12 [.ref x0] st σ r ↔ Rn sc d 24 13 [.ref x0] (.ref x0 :: st) σ r := r_aload_n d24_12 rfl
theorem d24_13 : decode (mC 24) 13 = .ok (.iconst 0, 1) := by decide +kernel
theorem x24_13 {sc : aSc} {d : Nat} {r : aRes} {L : List Value} {st : List Value} {σ : aS} : Rn sc d 24 13 L st σ r ↔ Rn sc d 24 14 L (.int 0 :: st) σ r := r_iconst d24_13 (by decide)
theorem d24_14 : decode (mC 24) 14 = .ok (.putfield 28, 3) := by decide +kernel
theorem x24_14 {sc : aSc} {d : Nat} {r : aRes} {L : List Value} {st : List Value} {f : Nat → Nat → Int32} {g : Nat → Nat → Int64} {h1 h2 : Nat} {o : Nat} {v : Int32} (h17 : 17 ≤ o) (hK : KK[o]? = some (.inl 2)) : Rn sc d 24 14 L (.int v :: .ref o :: st) (cS f g h1 h2) r ↔ Rn sc d 24 17 L st (cS (u2 f o 2 v) g h1 h2) r := r_putI d24_14 (ci := 2) (k := 2) rfl (by decide) h17 hK
theorem d24_17 : decode (mC 24) 17 = .ok (.aload_n 0, 1) := by decide +kernel
theorem x24_17 {sc : aSc} {d : Nat} {r : aRes} {x0 : Nat} {st : List Value} {σ : aS} : Rn sc d 24 17 [.ref x0] st σ r ↔ Rn sc d 24 18 [.ref x0] (.ref x0 :: st) σ r := r_aload_n d24_17 rfl
theorem d24_18 : decode (mC 24) 18 = .ok (.iconst 0, 1) := by decide +kernel
theorem x24_18 {sc : aSc} {d : Nat} {r : aRes} {L : List Value} {st : List Value} {σ : aS} : Rn sc d 24 18 L st σ r ↔ Rn sc d 24 19 L (.int 0 :: st) σ r := r_iconst d24_18 (by decide)
theorem d24_19 : decode (mC 24) 19 = .ok (.putfield 31, 3) := by decide +kernel
theorem x24_19 {sc : aSc} {d : Nat} {r : aRes} {L : List Value} {st : List Value} {f : Nat → Nat → Int32} {g : Nat → Nat → Int64} {h1 h2 : Nat} {o : Nat} {v : Int32} (h17 : 17 ≤ o) (hK : KK[o]? = some (.inl 2)) : Rn sc d 24 19 L (.int v :: .ref o :: st) (cS f g h1 h2) r ↔ Rn sc d 24 22 L st (cS (u2 f o 6 v) g h1 h2) r := r_putI d24_19 (ci := 2) (k := 6) rfl (by decide) h17 hK
theorem d24_22 : decode (mC 24) 22 = .ok (.return_, 1) := by decide +kernel
theorem x24_22 {sc : aSc} {d : Nat} {r : aRes} {L : List Value} {σ : aS} : Rn sc d 24 22 L [] σ r ↔ r = (σ, none) := r_vret d24_22 rfl
theorem d25_0 : decode (mC 25) 0 = .ok (.aload_n 0, 1) := by decide +kernel
theorem x25_0 {sc : aSc} {d : Nat} {r : aRes} {x0 : Nat} {a1 : Value} {st : List Value} {σ : aS} : Rn sc d 25 0 [.ref x0, a1] st σ r ↔ Rn sc d 25 1 [.ref x0, a1] (.ref x0 :: st) σ r := r_aload_n d25_0 rfl
theorem d25_1 : decode (mC 25) 1 = .ok (.getfield 31, 3) := by decide +kernel
theorem x25_1 {sc : aSc} {d : Nat} {r : aRes} {L : List Value} {st : List Value} {f : Nat → Nat → Int32} {g : Nat → Nat → Int64} {h1 h2 : Nat} {o : Nat} (h17 : 17 ≤ o) (hK : KK[o]? = some (.inl 2)) : Rn sc d 25 1 L (.ref o :: st) (cS f g h1 h2) r ↔ Rn sc d 25 4 L (.int (f o 6) :: st) (cS f g h1 h2) r := r_getI d25_1 (ci := 2) (k := 6) rfl (by decide) (fun _ => rfl) h17 hK
theorem d25_4 : decode (mC 25) 4 = .ok (.aload_n 0, 1) := by decide +kernel
theorem x25_4 {sc : aSc} {d : Nat} {r : aRes} {x0 : Nat} {a1 : Value} {st : List Value} {σ : aS} : Rn sc d 25 4 [.ref x0, a1] st σ r ↔ Rn sc d 25 5 [.ref x0, a1] (.ref x0 :: st) σ r := r_aload_n d25_4 rfl
theorem d25_5 : decode (mC 25) 5 = .ok (.getfield 25, 3) := by decide +kernel
theorem x25_5 {sc : aSc} {d : Nat} {r : aRes} {L : List Value} {st : List Value} {f : Nat → Nat → Int32} {g : Nat → Nat → Int64} {h1 h2 : Nat} {o : Nat} (hK : KK[o]? = some (.inl 2)) (hR : (RR h1 h2 o 5).isSome = true) : Rn sc d 25 5 L (.ref o :: st) (cS f g h1 h2) r ↔ Rn sc d 25 8 L (.ref (rf h1 h2 o 5) :: st) (cS f g h1 h2) r := r_getR2 d25_5 (ci := 2) (k := 5) rfl (by decide) (fun _ => rfl) hK hR
theorem d25_8 : decode (mC 25) 8 = .ok (.arraylength, 1) := by decide +kernel
theorem x25_8 {sc : aSc} {d : Nat} {r : aRes} {L : List Value} {st : List Value} {f : Nat → Nat → Int32} {g : Nat → Nat → Int64} {h1 h2 : Nat} {a : Nat} (h0 : ¬ a = 0) (hA : isA a) : Rn sc d 25 8 L (.ref a :: st) (cS f g h1 h2) r ↔ Rn sc d 25 9 L (.int (nI (aln a)) :: st) (cS f g h1 h2) r := r_alen2 d25_8 h0 hA
theorem d25_9 : decode (mC 25) 9 = .ok (.if_icmp .ge 23, 3) := by decide +kernel
theorem x25_9 {sc : aSc} {d : Nat} {r : aRes} {L : List Value} {st : List Value} {σ : aS} {x y : Int32} : Rn sc d 25 9 L (.int y :: .int x :: st) σ r ↔ if x < y then Rn sc d 25 12 L st σ r else Rn sc d 25 32 L st σ r := r_icmp_ge d25_9 rfl
theorem d25_12 : decode (mC 25) 12 = .ok (.aload_n 0, 1) := by decide +kernel
theorem x25_12 {sc : aSc} {d : Nat} {r : aRes} {x0 : Nat} {a1 : Value} {st : List Value} {σ : aS} : Rn sc d 25 12 [.ref x0, a1] st σ r ↔ Rn sc d 25 13 [.ref x0, a1] (.ref x0 :: st) σ r := r_aload_n d25_12 rfl
theorem d25_13 : decode (mC 25) 13 = .ok (.getfield 25, 3) := by decide +kernel
theorem x25_13 {sc : aSc} {d : Nat} {r : aRes} {L : List Value} {st : List Value} {f : Nat → Nat → Int32} {g : Nat → Nat → Int64} {h1 h2 : Nat} {o : Nat} (hK : KK[o]? = some (.inl 2)) (hR : (RR h1 h2 o 5).isSome = true) : Rn sc d 25 13 L (.ref o :: st) (cS f g h1 h2) r ↔ Rn sc d 25 16 L (.ref (rf h1 h2 o 5) :: st) (cS f g h1 h2) r := r_getR2 d25_13 (ci := 2) (k := 5) rfl (by decide) (fun _ => rfl) hK hR
theorem d25_16 : decode (mC 25) 16 = .ok (.aload_n 0, 1) := by decide +kernel
theorem x25_16 {sc : aSc} {d : Nat} {r : aRes} {x0 : Nat} {a1 : Value} {st : List Value} {σ : aS} : Rn sc d 25 16 [.ref x0, a1] st σ r ↔ Rn sc d 25 17 [.ref x0, a1] (.ref x0 :: st) σ r := r_aload_n d25_16 rfl
theorem d25_17 : decode (mC 25) 17 = .ok (.getfield 31, 3) := by decide +kernel
theorem x25_17 {sc : aSc} {d : Nat} {r : aRes} {L : List Value} {st : List Value} {f : Nat → Nat → Int32} {g : Nat → Nat → Int64} {h1 h2 : Nat} {o : Nat} (h17 : 17 ≤ o) (hK : KK[o]? = some (.inl 2)) : Rn sc d 25 17 L (.ref o :: st) (cS f g h1 h2) r ↔ Rn sc d 25 20 L (.int (f o 6) :: st) (cS f g h1 h2) r := r_getI d25_17 (ci := 2) (k := 6) rfl (by decide) (fun _ => rfl) h17 hK
theorem d25_20 : decode (mC 25) 20 = .ok (.iload_n 1, 1) := by decide +kernel
theorem x25_20 {sc : aSc} {d : Nat} {r : aRes} {a0 : Value} {x1 : Int32} {st : List Value} {σ : aS} : Rn sc d 25 20 [a0, .int x1] st σ r ↔ Rn sc d 25 21 [a0, .int x1] (.int x1 :: st) σ r := r_iload_n d25_20 rfl
theorem d25_21 : decode (mC 25) 21 = .ok (.iastore, 1) := by decide +kernel
theorem x25_21 {sc : aSc} {d : Nat} {r : aRes} {L : List Value} {st : List Value} {f : Nat → Nat → Int32} {g : Nat → Nat → Int64} {h1 h2 : Nat} {a : Nat} {i : Int32} {x : Int32} (h17 : 17 ≤ a) (hA : isT9 .int a) (hi : inb i (aln a) = true) : Rn sc d 25 21 L (.int x :: .int i :: .ref a :: st) (cS f g h1 h2) r ↔ Rn sc d 25 22 L st (cS (u2 f a i.toNatClampNeg x) g h1 h2) r := r_iast d25_21 h17 hA hi
theorem d25_22 : decode (mC 25) 22 = .ok (.aload_n 0, 1) := by decide +kernel
theorem x25_22 {sc : aSc} {d : Nat} {r : aRes} {x0 : Nat} {a1 : Value} {st : List Value} {σ : aS} : Rn sc d 25 22 [.ref x0, a1] st σ r ↔ Rn sc d 25 23 [.ref x0, a1] (.ref x0 :: st) σ r := r_aload_n d25_22 rfl
theorem d25_23 : decode (mC 25) 23 = .ok (.dup, 1) := by decide +kernel
theorem x25_23 {sc : aSc} {d : Nat} {r : aRes} {L : List Value} {st : List Value} {σ : aS} {y : Nat} : Rn sc d 25 23 L (.ref y :: st) σ r ↔ Rn sc d 25 24 L (.ref y :: .ref y :: st) σ r := r_dup d25_23 rfl
theorem d25_24 : decode (mC 25) 24 = .ok (.getfield 31, 3) := by decide +kernel
theorem x25_24 {sc : aSc} {d : Nat} {r : aRes} {L : List Value} {st : List Value} {f : Nat → Nat → Int32} {g : Nat → Nat → Int64} {h1 h2 : Nat} {o : Nat} (h17 : 17 ≤ o) (hK : KK[o]? = some (.inl 2)) : Rn sc d 25 24 L (.ref o :: st) (cS f g h1 h2) r ↔ Rn sc d 25 27 L (.int (f o 6) :: st) (cS f g h1 h2) r := r_getI d25_24 (ci := 2) (k := 6) rfl (by decide) (fun _ => rfl) h17 hK
theorem d25_27 : decode (mC 25) 27 = .ok (.iconst 1, 1) := by decide +kernel
theorem x25_27 {sc : aSc} {d : Nat} {r : aRes} {L : List Value} {st : List Value} {σ : aS} : Rn sc d 25 27 L st σ r ↔ Rn sc d 25 28 L (.int 1 :: st) σ r := r_iconst d25_27 (by decide)
theorem d25_28 : decode (mC 25) 28 = .ok (.iadd, 1) := by decide +kernel
theorem x25_28 {sc : aSc} {d : Nat} {r : aRes} {L : List Value} {st : List Value} {σ : aS} {x y : Int32} : Rn sc d 25 28 L (.int y :: .int x :: st) σ r ↔ Rn sc d 25 29 L (.int (x + y) :: st) σ r := r_iadd d25_28
theorem d25_29 : decode (mC 25) 29 = .ok (.putfield 31, 3) := by decide +kernel
theorem x25_29 {sc : aSc} {d : Nat} {r : aRes} {L : List Value} {st : List Value} {f : Nat → Nat → Int32} {g : Nat → Nat → Int64} {h1 h2 : Nat} {o : Nat} {v : Int32} (h17 : 17 ≤ o) (hK : KK[o]? = some (.inl 2)) : Rn sc d 25 29 L (.int v :: .ref o :: st) (cS f g h1 h2) r ↔ Rn sc d 25 32 L st (cS (u2 f o 6 v) g h1 h2) r := r_putI d25_29 (ci := 2) (k := 6) rfl (by decide) h17 hK
theorem d25_32 : decode (mC 25) 32 = .ok (.return_, 1) := by decide +kernel
theorem x25_32 {sc : aSc} {d : Nat} {r : aRes} {L : List Value} {σ : aS} : Rn sc d 25 32 L [] σ r ↔ r = (σ, none) := r_vret d25_32 rfl
theorem d26_0 : decode (mC 26) 0 = .ok (.aload_n 0, 1) := by decide +kernel
theorem x26_0 {sc : aSc} {d : Nat} {r : aRes} {x0 : Nat} {a1 : Value} {a2 : Value} {a3 : Value} {st : List Value} {σ : aS} : Rn sc d 26 0 [.ref x0, a1, a2, a3] st σ r ↔ Rn sc d 26 1 [.ref x0, a1, a2, a3] (.ref x0 :: st) σ r := r_aload_n d26_0 rfl
theorem d26_1 : decode (mC 26) 1 = .ok (.iload_n 1, 1) := by decide +kernel
theorem x26_1 {sc : aSc} {d : Nat} {r : aRes} {a0 : Value} {x1 : Int32} {a2 : Value} {a3 : Value} {st : List Value} {σ : aS} : Rn sc d 26 1 [a0, .int x1, a2, a3] st σ r ↔ Rn sc d 26 2 [a0, .int x1, a2, a3] (.int x1 :: st) σ r := r_iload_n d26_1 rfl
theorem d26_2 : decode (mC 26) 2 = .ok (.iconst 3, 1) := by decide +kernel
theorem x26_2 {sc : aSc} {d : Nat} {r : aRes} {L : List Value} {st : List Value} {σ : aS} : Rn sc d 26 2 L st σ r ↔ Rn sc d 26 3 L (.int 3 :: st) σ r := r_iconst d26_2 (by decide)
theorem d26_3 : decode (mC 26) 3 = .ok (.imul, 1) := by decide +kernel
theorem x26_3 {sc : aSc} {d : Nat} {r : aRes} {L : List Value} {st : List Value} {σ : aS} {x y : Int32} : Rn sc d 26 3 L (.int y :: .int x :: st) σ r ↔ Rn sc d 26 4 L (.int (x * y) :: st) σ r := r_imul d26_3
theorem d26_4 : decode (mC 26) 4 = .ok (.iload_n 2, 1) := by decide +kernel
theorem x26_4 {sc : aSc} {d : Nat} {r : aRes} {a0 : Value} {a1 : Value} {x2 : Int32} {a3 : Value} {st : List Value} {σ : aS} : Rn sc d 26 4 [a0, a1, .int x2, a3] st σ r ↔ Rn sc d 26 5 [a0, a1, .int x2, a3] (.int x2 :: st) σ r := r_iload_n d26_4 rfl
theorem d26_5 : decode (mC 26) 5 = .ok (.iadd, 1) := by decide +kernel
theorem x26_5 {sc : aSc} {d : Nat} {r : aRes} {L : List Value} {st : List Value} {σ : aS} {x y : Int32} : Rn sc d 26 5 L (.int y :: .int x :: st) σ r ↔ Rn sc d 26 6 L (.int (x + y) :: st) σ r := r_iadd d26_5
theorem d26_6 : decode (mC 26) 6 = .ok (.bipush 100, 2) := by decide +kernel
theorem x26_6 {sc : aSc} {d : Nat} {r : aRes} {L : List Value} {st : List Value} {σ : aS} : Rn sc d 26 6 L st σ r ↔ Rn sc d 26 8 L (.int 100 :: st) σ r := r_bipush d26_6 (by decide)
theorem d26_8 : decode (mC 26) 8 = .ok (.imul, 1) := by decide +kernel
theorem x26_8 {sc : aSc} {d : Nat} {r : aRes} {L : List Value} {st : List Value} {σ : aS} {x y : Int32} : Rn sc d 26 8 L (.int y :: .int x :: st) σ r ↔ Rn sc d 26 9 L (.int (x * y) :: st) σ r := r_imul d26_8
theorem d26_9 : decode (mC 26) 9 = .ok (.iload_n 3, 1) := by decide +kernel
theorem x26_9 {sc : aSc} {d : Nat} {r : aRes} {a0 : Value} {a1 : Value} {a2 : Value} {x3 : Int32} {st : List Value} {σ : aS} : Rn sc d 26 9 [a0, a1, a2, .int x3] st σ r ↔ Rn sc d 26 10 [a0, a1, a2, .int x3] (.int x3 :: st) σ r := r_iload_n d26_9 rfl
theorem d26_10 : decode (mC 26) 10 = .ok (.iadd, 1) := by decide +kernel
theorem x26_10 {sc : aSc} {d : Nat} {r : aRes} {L : List Value} {st : List Value} {σ : aS} {x y : Int32} : Rn sc d 26 10 L (.int y :: .int x :: st) σ r ↔ Rn sc d 26 11 L (.int (x + y) :: st) σ r := r_iadd d26_10
theorem d26_11 : decode (mC 26) 11 = .ok (.invokevirtual 34, 3) := by decide +kernel
theorem x26_11 {sc : aSc} {d : Nat} {r : aRes} {L : List Value} {f : Nat → Nat → Int32} {g : Nat → Nat → Int64} {h1 h2 : Nat} {y0 : Int32}  {o : Nat} (hK : KK[o]? = some (.inl 2)) : Rn sc d 26 11 L [.int y0, .ref o] (cS f g h1 h2) r ↔ ∃ (σ3 : aS) (v : Option Value), Cl sc d 25 [.ref o, .int y0] (cS f g h1 h2) (σ3, v) ∧ Rn sc d 26 14 L (v.toList ++ []) σ3 r := r_callV (vs := [.int y0]) d26_11 (j := 25) rfl ⟨rfl, by decide, rfl, rfl⟩ (Nat.le_of_ble_eq_true rfl) hK
theorem d26_14 : decode (mC 26) 14 = .ok (.return_, 1) := by decide +kernel
theorem x26_14 {sc : aSc} {d : Nat} {r : aRes} {L : List Value} {σ : aS} : Rn sc d 26 14 L [] σ r ↔ r = (σ, none) := r_vret d26_14 rfl
theorem d27_0 : decode (mC 27) 0 = .ok (.aload_n 0, 1) := by decide +kernel
theorem x27_0 {sc : aSc} {d : Nat} {r : aRes} {x0 : Nat} {a1 : Value} {st : List Value} {σ : aS} : Rn sc d 27 0 [.ref x0, a1] st σ r ↔ Rn sc d 27 1 [.ref x0, a1] (.ref x0 :: st) σ r := r_aload_n d27_0 rfl
theorem d27_1 : decode (mC 27) 1 = .ok (.getfield 28, 3) := by decide +kernel
theorem x27_1 {sc : aSc} {d : Nat} {r : aRes} {L : List Value} {st : List Value} {f : Nat → Nat → Int32} {g : Nat → Nat → Int64} {h1 h2 : Nat} {o : Nat} (h17 : 17 ≤ o) (hK : KK[o]? = some (.inl 2)) : Rn sc d 27 1 L (.ref o :: st) (cS f g h1 h2) r ↔ Rn sc d 27 4 L (.int (f o 2) :: st) (cS f g h1 h2) r := r_getI d27_1 (ci := 2) (k := 2) rfl (by decide) (fun _ => rfl) h17 hK
theorem d27_4 : decode (mC 27) 4 = .ok (.bipush 10, 2) := by decide +kernel
theorem x27_4 {sc : aSc} {d : Nat} {r : aRes} {L : List Value} {st : List Value} {σ : aS} : Rn sc d 27 4 L st σ r ↔ Rn sc d 27 6 L (.int 10 :: st) σ r := r_bipush d27_4 (by decide)
theorem d27_6 : decode (mC 27) 6 = .ok (.if_icmp .ge 36, 3) := by decide +kernel
theorem x27_6 {sc : aSc} {d : Nat} {r : aRes} {L : List Value} {st : List Value} {σ : aS} {x y : Int32} : Rn sc d 27 6 L (.int y :: .int x :: st) σ r ↔ if x < y then Rn sc d 27 9 L st σ r else Rn sc d 27 42 L st σ r := r_icmp_ge d27_6 rfl
theorem d27_9 : decode (mC 27) 9 = .ok (.aload_n 0, 1) := by decide +kernel
theorem x27_9 {sc : aSc} {d : Nat} {r : aRes} {x0 : Nat} {a1 : Value} {st : List Value} {σ : aS} : Rn sc d 27 9 [.ref x0, a1] st σ r ↔ Rn sc d 27 10 [.ref x0, a1] (.ref x0 :: st) σ r := r_aload_n d27_9 rfl
theorem d27_10 : decode (mC 27) 10 = .ok (.getfield 16, 3) := by decide +kernel
theorem x27_10 {sc : aSc} {d : Nat} {r : aRes} {L : List Value} {st : List Value} {f : Nat → Nat → Int32} {g : Nat → Nat → Int64} {h1 h2 : Nat} {o : Nat} (hK : KK[o]? = some (.inl 2)) (hR : (RR h1 h2 o 3).isSome = true) : Rn sc d 27 10 L (.ref o :: st) (cS f g h1 h2) r ↔ Rn sc d 27 13 L (.ref (rf h1 h2 o 3) :: st) (cS f g h1 h2) r := r_getR2 d27_10 (ci := 2) (k := 3) rfl (by decide) (fun _ => rfl) hK hR
theorem d27_13 : decode (mC 27) 13 = .ok (.aload_n 0, 1) := by decide +kernel
theorem x27_13 {sc : aSc} {d : Nat} {r : aRes} {x0 : Nat} {a1 : Value} {st : List Value} {σ : aS} : Rn sc d 27 13 [.ref x0, a1] st σ r ↔ Rn sc d 27 14 [.ref x0, a1] (.ref x0 :: st) σ r := r_aload_n d27_13 rfl
theorem d27_14 : decode (mC 27) 14 = .ok (.getfield 28, 3) := by decide +kernel
theorem x27_14 {sc : aSc} {d : Nat} {r : aRes} {L : List Value} {st : List Value} {f : Nat → Nat → Int32} {g : Nat → Nat → Int64} {h1 h2 : Nat} {o : Nat} (h17 : 17 ≤ o) (hK : KK[o]? = some (.inl 2)) : Rn sc d 27 14 L (.ref o :: st) (cS f g h1 h2) r ↔ Rn sc d 27 17 L (.int (f o 2) :: st) (cS f g h1 h2) r := r_getI d27_14 (ci := 2) (k := 2) rfl (by decide) (fun _ => rfl) h17 hK
theorem d27_17 : decode (mC 27) 17 = .ok (.iload_n 1, 1) := by decide +kernel
theorem x27_17 {sc : aSc} {d : Nat} {r : aRes} {a0 : Value} {x1 : Int32} {st : List Value} {σ : aS} : Rn sc d 27 17 [a0, .int x1] st σ r ↔ Rn sc d 27 18 [a0, .int x1] (.int x1 :: st) σ r := r_iload_n d27_17 rfl
theorem d27_18 : decode (mC 27) 18 = .ok (.iastore, 1) := by decide +kernel
theorem x27_18 {sc : aSc} {d : Nat} {r : aRes} {L : List Value} {st : List Value} {f : Nat → Nat → Int32} {g : Nat → Nat → Int64} {h1 h2 : Nat} {a : Nat} {i : Int32} {x : Int32} (h17 : 17 ≤ a) (hA : isT9 .int a) (hi : inb i (aln a) = true) : Rn sc d 27 18 L (.int x :: .int i :: .ref a :: st) (cS f g h1 h2) r ↔ Rn sc d 27 19 L st (cS (u2 f a i.toNatClampNeg x) g h1 h2) r := r_iast d27_18 h17 hA hi
theorem d27_19 : decode (mC 27) 19 = .ok (.aload_n 0, 1) := by decide +kernel
theorem x27_19 {sc : aSc} {d : Nat} {r : aRes} {x0 : Nat} {a1 : Value} {st : List Value} {σ : aS} : Rn sc d 27 19 [.ref x0, a1] st σ r ↔ Rn sc d 27 20 [.ref x0, a1] (.ref x0 :: st) σ r := r_aload_n d27_19 rfl
theorem d27_20 : decode (mC 27) 20 = .ok (.getfield 20, 3) := by decide +kernel
theorem x27_20 {sc : aSc} {d : Nat} {r : aRes} {L : List Value} {st : List Value} {f : Nat → Nat → Int32} {g : Nat → Nat → Int64} {h1 h2 : Nat} {o : Nat} (hK : KK[o]? = some (.inl 2)) (hR : (RR h1 h2 o 4).isSome = true) : Rn sc d 27 20 L (.ref o :: st) (cS f g h1 h2) r ↔ Rn sc d 27 23 L (.ref (rf h1 h2 o 4) :: st) (cS f g h1 h2) r := r_getR2 d27_20 (ci := 2) (k := 4) rfl (by decide) (fun _ => rfl) hK hR
theorem d27_23 : decode (mC 27) 23 = .ok (.aload_n 0, 1) := by decide +kernel
theorem x27_23 {sc : aSc} {d : Nat} {r : aRes} {x0 : Nat} {a1 : Value} {st : List Value} {σ : aS} : Rn sc d 27 23 [.ref x0, a1] st σ r ↔ Rn sc d 27 24 [.ref x0, a1] (.ref x0 :: st) σ r := r_aload_n d27_23 rfl
theorem d27_24 : decode (mC 27) 24 = .ok (.getfield 28, 3) := by decide +kernel
theorem x27_24 {sc : aSc} {d : Nat} {r : aRes} {L : List Value} {st : List Value} {f : Nat → Nat → Int32} {g : Nat → Nat → Int64} {h1 h2 : Nat} {o : Nat} (h17 : 17 ≤ o) (hK : KK[o]? = some (.inl 2)) : Rn sc d 27 24 L (.ref o :: st) (cS f g h1 h2) r ↔ Rn sc d 27 27 L (.int (f o 2) :: st) (cS f g h1 h2) r := r_getI d27_24 (ci := 2) (k := 2) rfl (by decide) (fun _ => rfl) h17 hK
theorem d27_27 : decode (mC 27) 27 = .ok (.aload_n 0, 1) := by decide +kernel
theorem x27_27 {sc : aSc} {d : Nat} {r : aRes} {x0 : Nat} {a1 : Value} {st : List Value} {σ : aS} : Rn sc d 27 27 [.ref x0, a1] st σ r ↔ Rn sc d 27 28 [.ref x0, a1] (.ref x0 :: st) σ r := r_aload_n d27_27 rfl
theorem d27_28 : decode (mC 27) 28 = .ok (.getfield 31, 3) := by decide +kernel
theorem x27_28 {sc : aSc} {d : Nat} {r : aRes} {L : List Value} {st : List Value} {f : Nat → Nat → Int32} {g : Nat → Nat → Int64} {h1 h2 : Nat} {o : Nat} (h17 : 17 ≤ o) (hK : KK[o]? = some (.inl 2)) : Rn sc d 27 28 L (.ref o :: st) (cS f g h1 h2) r ↔ Rn sc d 27 31 L (.int (f o 6) :: st) (cS f g h1 h2) r := r_getI d27_28 (ci := 2) (k := 6) rfl (by decide) (fun _ => rfl) h17 hK
theorem d27_31 : decode (mC 27) 31 = .ok (.iastore, 1) := by decide +kernel
theorem x27_31 {sc : aSc} {d : Nat} {r : aRes} {L : List Value} {st : List Value} {f : Nat → Nat → Int32} {g : Nat → Nat → Int64} {h1 h2 : Nat} {a : Nat} {i : Int32} {x : Int32} (h17 : 17 ≤ a) (hA : isT9 .int a) (hi : inb i (aln a) = true) : Rn sc d 27 31 L (.int x :: .int i :: .ref a :: st) (cS f g h1 h2) r ↔ Rn sc d 27 32 L st (cS (u2 f a i.toNatClampNeg x) g h1 h2) r := r_iast d27_31 h17 hA hi
theorem d27_32 : decode (mC 27) 32 = .ok (.aload_n 0, 1) := by decide +kernel
theorem x27_32 {sc : aSc} {d : Nat} {r : aRes} {x0 : Nat} {a1 : Value} {st : List Value} {σ : aS} : Rn sc d 27 32 [.ref x0, a1] st σ r ↔ Rn sc d 27 33 [.ref x0, a1] (.ref x0 :: st) σ r := r_aload_n d27_32 rfl
theorem d27_33 : decode (mC 27) 33 = .ok (.dup, 1) := by decide +kernel
theorem x27_33 {sc : aSc} {d : Nat} {r : aRes} {L : List Value} {st : List Value} {σ : aS} {y : Nat} : Rn sc d 27 33 L (.ref y :: st) σ r ↔ Rn sc d 27 34 L (.ref y :: .ref y :: st) σ r := r_dup d27_33 rfl
theorem d27_34 : decode (mC 27) 34 = .ok (.getfield 28, 3) := by decide +kernel
theorem x27_34 {sc : aSc} {d : Nat} {r : aRes} {L : List Value} {st : List Value} {f : Nat → Nat → Int32} {g : Nat → Nat → Int64} {h1 h2 : Nat} {o : Nat} (h17 : 17 ≤ o) (hK : KK[o]? = some (.inl 2)) : Rn sc d 27 34 L (.ref o :: st) (cS f g h1 h2) r ↔ Rn sc d 27 37 L (.int (f o 2) :: st) (cS f g h1 h2) r := r_getI d27_34 (ci := 2) (k := 2) rfl (by decide) (fun _ => rfl) h17 hK
theorem d27_37 : decode (mC 27) 37 = .ok (.iconst 1, 1) := by decide +kernel
theorem x27_37 {sc : aSc} {d : Nat} {r : aRes} {L : List Value} {st : List Value} {σ : aS} : Rn sc d 27 37 L st σ r ↔ Rn sc d 27 38 L (.int 1 :: st) σ r := r_iconst d27_37 (by decide)
theorem d27_38 : decode (mC 27) 38 = .ok (.iadd, 1) := by decide +kernel
theorem x27_38 {sc : aSc} {d : Nat} {r : aRes} {L : List Value} {st : List Value} {σ : aS} {x y : Int32} : Rn sc d 27 38 L (.int y :: .int x :: st) σ r ↔ Rn sc d 27 39 L (.int (x + y) :: st) σ r := r_iadd d27_38
theorem d27_39 : decode (mC 27) 39 = .ok (.putfield 28, 3) := by decide +kernel
theorem x27_39 {sc : aSc} {d : Nat} {r : aRes} {L : List Value} {st : List Value} {f : Nat → Nat → Int32} {g : Nat → Nat → Int64} {h1 h2 : Nat} {o : Nat} {v : Int32} (h17 : 17 ≤ o) (hK : KK[o]? = some (.inl 2)) : Rn sc d 27 39 L (.int v :: .ref o :: st) (cS f g h1 h2) r ↔ Rn sc d 27 42 L st (cS (u2 f o 2 v) g h1 h2) r := r_putI d27_39 (ci := 2) (k := 2) rfl (by decide) h17 hK
theorem d27_42 : decode (mC 27) 42 = .ok (.return_, 1) := by decide +kernel
theorem x27_42 {sc : aSc} {d : Nat} {r : aRes} {L : List Value} {σ : aS} : Rn sc d 27 42 L [] σ r ↔ r = (σ, none) := r_vret d27_42 rfl
theorem d28_0 : decode (mC 28) 0 = .ok (.iconst 0, 1) := by decide +kernel
theorem x28_0 {sc : aSc} {d : Nat} {r : aRes} {L : List Value} {st : List Value} {σ : aS} : Rn sc d 28 0 L st σ r ↔ Rn sc d 28 1 L (.int 0 :: st) σ r := r_iconst d28_0 (by decide)
theorem d28_1 : decode (mC 28) 1 = .ok (.istore_n 2, 1) := by decide +kernel
theorem x28_1 {sc : aSc} {d : Nat} {r : aRes} {a0 : Value} {x1 : Nat} {a2 : Value} {a3 : Value} {a4 : Value} {st : List Value} {σ : aS} {y : Int32} : Rn sc d 28 1 [a0, .ref x1, a2, a3, a4] (.int y :: st) σ r ↔ Rn sc d 28 2 [a0, .ref x1, .int y, a3, a4] st σ r := r_istore_n d28_1 (Nat.le_of_ble_eq_true rfl) rfl
theorem d28_2 : decode (mC 28) 2 = .ok (.iconst 0, 1) := by decide +kernel
theorem x28_2 {sc : aSc} {d : Nat} {r : aRes} {L : List Value} {st : List Value} {σ : aS} : Rn sc d 28 2 L st σ r ↔ Rn sc d 28 3 L (.int 0 :: st) σ r := r_iconst d28_2 (by decide)
theorem d28_3 : decode (mC 28) 3 = .ok (.istore_n 3, 1) := by decide +kernel
theorem x28_3 {sc : aSc} {d : Nat} {r : aRes} {a0 : Value} {a1 : Value} {x2 : Int32} {a3 : Value} {a4 : Value} {st : List Value} {σ : aS} {y : Int32} : Rn sc d 28 3 [a0, a1, .int x2, a3, a4] (.int y :: st) σ r ↔ Rn sc d 28 4 [a0, a1, .int x2, .int y, a4] st σ r := r_istore_n d28_3 (Nat.le_of_ble_eq_true rfl) rfl
theorem d28_4 : decode (mC 28) 4 = .ok (.iconst 0, 1) := by decide +kernel
theorem x28_4 {sc : aSc} {d : Nat} {r : aRes} {L : List Value} {st : List Value} {σ : aS} : Rn sc d 28 4 L st σ r ↔ Rn sc d 28 5 L (.int 0 :: st) σ r := r_iconst d28_4 (by decide)
theorem d28_5 : decode (mC 28) 5 = .ok (.istore 4, 2) := by decide +kernel
theorem x28_5 {sc : aSc} {d : Nat} {r : aRes} {a0 : Value} {a1 : Value} {a2 : Value} {x3 : Int32} {a4 : Value} {st : List Value} {σ : aS} {y : Int32} : Rn sc d 28 5 [a0, a1, a2, .int x3, a4] (.int y :: st) σ r ↔ Rn sc d 28 7 [a0, a1, a2, .int x3, .int y] st σ r := r_istore d28_5 (Nat.le_of_ble_eq_true rfl) rfl
theorem d28_7 : decode (mC 28) 7 = .ok (.iload 4, 2) := by decide +kernel
theorem x28_7 {sc : aSc} {d : Nat} {r : aRes} {a0 : Value} {a1 : Value} {a2 : Value} {a3 : Value} {x4 : Int32} {st : List Value} {σ : aS} : Rn sc d 28 7 [a0, a1, a2, a3, .int x4] st σ r ↔ Rn sc d 28 9 [a0, a1, a2, a3, .int x4] (.int x4 :: st) σ r := r_iload d28_7 rfl
theorem d28_9 : decode (mC 28) 9 = .ok (.aload_n 0, 1) := by decide +kernel
theorem x28_9 {sc : aSc} {d : Nat} {r : aRes} {x0 : Nat} {a1 : Value} {a2 : Value} {a3 : Value} {a4 : Value} {st : List Value} {σ : aS} : Rn sc d 28 9 [.ref x0, a1, a2, a3, a4] st σ r ↔ Rn sc d 28 10 [.ref x0, a1, a2, a3, a4] (.ref x0 :: st) σ r := r_aload_n d28_9 rfl
theorem d28_10 : decode (mC 28) 10 = .ok (.getfield 28, 3) := by decide +kernel
theorem x28_10 {sc : aSc} {d : Nat} {r : aRes} {L : List Value} {st : List Value} {f : Nat → Nat → Int32} {g : Nat → Nat → Int64} {h1 h2 : Nat} {o : Nat} (h17 : 17 ≤ o) (hK : KK[o]? = some (.inl 2)) : Rn sc d 28 10 L (.ref o :: st) (cS f g h1 h2) r ↔ Rn sc d 28 13 L (.int (f o 2) :: st) (cS f g h1 h2) r := r_getI d28_10 (ci := 2) (k := 2) rfl (by decide) (fun _ => rfl) h17 hK
theorem d28_13 : decode (mC 28) 13 = .ok (.if_icmp .ge 43, 3) := by decide +kernel
theorem x28_13 {sc : aSc} {d : Nat} {r : aRes} {L : List Value} {st : List Value} {σ : aS} {x y : Int32} : Rn sc d 28 13 L (.int y :: .int x :: st) σ r ↔ if x < y then Rn sc d 28 16 L st σ r else Rn sc d 28 56 L st σ r := r_icmp_ge d28_13 rfl
theorem d28_16 : decode (mC 28) 16 = .ok (.aload_n 0, 1) := by decide +kernel
theorem x28_16 {sc : aSc} {d : Nat} {r : aRes} {x0 : Nat} {a1 : Value} {a2 : Value} {a3 : Value} {a4 : Value} {st : List Value} {σ : aS} : Rn sc d 28 16 [.ref x0, a1, a2, a3, a4] st σ r ↔ Rn sc d 28 17 [.ref x0, a1, a2, a3, a4] (.ref x0 :: st) σ r := r_aload_n d28_16 rfl
theorem d28_17 : decode (mC 28) 17 = .ok (.iload_n 3, 1) := by decide +kernel
theorem x28_17 {sc : aSc} {d : Nat} {r : aRes} {a0 : Value} {a1 : Value} {a2 : Value} {x3 : Int32} {a4 : Value} {st : List Value} {σ : aS} : Rn sc d 28 17 [a0, a1, a2, .int x3, a4] st σ r ↔ Rn sc d 28 18 [a0, a1, a2, .int x3, a4] (.int x3 :: st) σ r := r_iload_n d28_17 rfl
theorem d28_18 : decode (mC 28) 18 = .ok (.aload_n 0, 1) := by decide +kernel
theorem x28_18 {sc : aSc} {d : Nat} {r : aRes} {x0 : Nat} {a1 : Value} {a2 : Value} {a3 : Value} {a4 : Value} {st : List Value} {σ : aS} : Rn sc d 28 18 [.ref x0, a1, a2, a3, a4] st σ r ↔ Rn sc d 28 19 [.ref x0, a1, a2, a3, a4] (.ref x0 :: st) σ r := r_aload_n d28_18 rfl
theorem d28_19 : decode (mC 28) 19 = .ok (.getfield 20, 3) := by decide +kernel
theorem x28_19 {sc : aSc} {d : Nat} {r : aRes} {L : List Value} {st : List Value} {f : Nat → Nat → Int32} {g : Nat → Nat → Int64} {h1 h2 : Nat} {o : Nat} (hK : KK[o]? = some (.inl 2)) (hR : (RR h1 h2 o 4).isSome = true) : Rn sc d 28 19 L (.ref o :: st) (cS f g h1 h2) r ↔ Rn sc d 28 22 L (.ref (rf h1 h2 o 4) :: st) (cS f g h1 h2) r := r_getR2 d28_19 (ci := 2) (k := 4) rfl (by decide) (fun _ => rfl) hK hR
theorem d28_22 : decode (mC 28) 22 = .ok (.iload 4, 2) := by decide +kernel
theorem x28_22 {sc : aSc} {d : Nat} {r : aRes} {a0 : Value} {a1 : Value} {a2 : Value} {a3 : Value} {x4 : Int32} {st : List Value} {σ : aS} : Rn sc d 28 22 [a0, a1, a2, a3, .int x4] st σ r ↔ Rn sc d 28 24 [a0, a1, a2, a3, .int x4] (.int x4 :: st) σ r := r_iload d28_22 rfl
theorem d28_24 : decode (mC 28) 24 = .ok (.iaload, 1) := by decide +kernel
theorem x28_24 {sc : aSc} {d : Nat} {r : aRes} {L : List Value} {st : List Value} {f : Nat → Nat → Int32} {g : Nat → Nat → Int64} {h1 h2 : Nat} {a : Nat} {i : Int32} (h17 : 17 ≤ a) (hA : isT9 .int a) (hi : inb i (aln a) = true) : Rn sc d 28 24 L (.int i :: .ref a :: st) (cS f g h1 h2) r ↔ Rn sc d 28 25 L (.int (f a i.toNatClampNeg) :: st) (cS f g h1 h2) r := r_iald d28_24 h17 hA hi
theorem d28_25 : decode (mC 28) 25 = .ok (.aload_n 1, 1) := by decide +kernel
theorem x28_25 {sc : aSc} {d : Nat} {r : aRes} {a0 : Value} {x1 : Nat} {a2 : Value} {a3 : Value} {a4 : Value} {st : List Value} {σ : aS} : Rn sc d 28 25 [a0, .ref x1, a2, a3, a4] st σ r ↔ Rn sc d 28 26 [a0, .ref x1, a2, a3, a4] (.ref x1 :: st) σ r := r_aload_n d28_25 rfl
theorem d28_26 : decode (mC 28) 26 = .ok (.invokevirtual 38, 3) := by decide +kernel
theorem x28_26 {sc : aSc} {d : Nat} {r : aRes} {L : List Value} {f : Nat → Nat → Int32} {g : Nat → Nat → Int64} {h1 h2 : Nat} {y0 : Nat} {y1 : Int32} {y2 : Int32}  {o : Nat} (hK : KK[o]? = some (.inl 2)) : Rn sc d 28 26 L [.ref y0, .int y1, .int y2, .ref o] (cS f g h1 h2) r ↔ ∃ (σ3 : aS) (v : Option Value), Cl sc d 29 [.ref o, .int y2, .int y1, .ref y0] (cS f g h1 h2) (σ3, v) ∧ Rn sc d 28 29 L (v.toList ++ []) σ3 r := r_callV (vs := [.ref y0, .int y1, .int y2]) d28_26 (j := 29) rfl ⟨rfl, by decide, rfl, rfl⟩ (Nat.le_of_ble_eq_true rfl) hK
theorem d28_29 : decode (mC 28) 29 = .ok (.ifCond .eq 13, 3) := by decide +kernel
theorem x28_29 {sc : aSc} {d : Nat} {r : aRes} {L : List Value} {st : List Value} {σ : aS} {x : Int32} : Rn sc d 28 29 L (.int x :: st) σ r ↔ if x = 0 then Rn sc d 28 42 L st σ r else Rn sc d 28 32 L st σ r := r_if_eq d28_29 rfl
theorem d28_32 : decode (mC 28) 32 = .ok (.iload_n 2, 1) := by decide +kernel
theorem x28_32 {sc : aSc} {d : Nat} {r : aRes} {a0 : Value} {a1 : Value} {x2 : Int32} {a3 : Value} {a4 : Value} {st : List Value} {σ : aS} : Rn sc d 28 32 [a0, a1, .int x2, a3, a4] st σ r ↔ Rn sc d 28 33 [a0, a1, .int x2, a3, a4] (.int x2 :: st) σ r := r_iload_n d28_32 rfl
theorem d28_33 : decode (mC 28) 33 = .ok (.aload_n 0, 1) := by decide +kernel
theorem x28_33 {sc : aSc} {d : Nat} {r : aRes} {x0 : Nat} {a1 : Value} {a2 : Value} {a3 : Value} {a4 : Value} {st : List Value} {σ : aS} : Rn sc d 28 33 [.ref x0, a1, a2, a3, a4] st σ r ↔ Rn sc d 28 34 [.ref x0, a1, a2, a3, a4] (.ref x0 :: st) σ r := r_aload_n d28_33 rfl
theorem d28_34 : decode (mC 28) 34 = .ok (.getfield 16, 3) := by decide +kernel
theorem x28_34 {sc : aSc} {d : Nat} {r : aRes} {L : List Value} {st : List Value} {f : Nat → Nat → Int32} {g : Nat → Nat → Int64} {h1 h2 : Nat} {o : Nat} (hK : KK[o]? = some (.inl 2)) (hR : (RR h1 h2 o 3).isSome = true) : Rn sc d 28 34 L (.ref o :: st) (cS f g h1 h2) r ↔ Rn sc d 28 37 L (.ref (rf h1 h2 o 3) :: st) (cS f g h1 h2) r := r_getR2 d28_34 (ci := 2) (k := 3) rfl (by decide) (fun _ => rfl) hK hR
theorem d28_37 : decode (mC 28) 37 = .ok (.iload 4, 2) := by decide +kernel
theorem x28_37 {sc : aSc} {d : Nat} {r : aRes} {a0 : Value} {a1 : Value} {a2 : Value} {a3 : Value} {x4 : Int32} {st : List Value} {σ : aS} : Rn sc d 28 37 [a0, a1, a2, a3, .int x4] st σ r ↔ Rn sc d 28 39 [a0, a1, a2, a3, .int x4] (.int x4 :: st) σ r := r_iload d28_37 rfl
theorem d28_39 : decode (mC 28) 39 = .ok (.iaload, 1) := by decide +kernel
theorem x28_39 {sc : aSc} {d : Nat} {r : aRes} {L : List Value} {st : List Value} {f : Nat → Nat → Int32} {g : Nat → Nat → Int64} {h1 h2 : Nat} {a : Nat} {i : Int32} (h17 : 17 ≤ a) (hA : isT9 .int a) (hi : inb i (aln a) = true) : Rn sc d 28 39 L (.int i :: .ref a :: st) (cS f g h1 h2) r ↔ Rn sc d 28 40 L (.int (f a i.toNatClampNeg) :: st) (cS f g h1 h2) r := r_iald d28_39 h17 hA hi
theorem d28_40 : decode (mC 28) 40 = .ok (.iadd, 1) := by decide +kernel
theorem x28_40 {sc : aSc} {d : Nat} {r : aRes} {L : List Value} {st : List Value} {σ : aS} {x y : Int32} : Rn sc d 28 40 L (.int y :: .int x :: st) σ r ↔ Rn sc d 28 41 L (.int (x + y) :: st) σ r := r_iadd d28_40
theorem d28_41 : decode (mC 28) 41 = .ok (.istore_n 2, 1) := by decide +kernel
theorem x28_41 {sc : aSc} {d : Nat} {r : aRes} {a0 : Value} {x1 : Nat} {a2 : Value} {a3 : Value} {a4 : Value} {st : List Value} {σ : aS} {y : Int32} : Rn sc d 28 41 [a0, .ref x1, a2, a3, a4] (.int y :: st) σ r ↔ Rn sc d 28 42 [a0, .ref x1, .int y, a3, a4] st σ r := r_istore_n d28_41 (Nat.le_of_ble_eq_true rfl) rfl
theorem d28_42 : decode (mC 28) 42 = .ok (.aload_n 0, 1) := by decide +kernel
theorem x28_42 {sc : aSc} {d : Nat} {r : aRes} {x0 : Nat} {a1 : Value} {a2 : Value} {a3 : Value} {a4 : Value} {st : List Value} {σ : aS} : Rn sc d 28 42 [.ref x0, a1, a2, a3, a4] st σ r ↔ Rn sc d 28 43 [.ref x0, a1, a2, a3, a4] (.ref x0 :: st) σ r := r_aload_n d28_42 rfl
theorem d28_43 : decode (mC 28) 43 = .ok (.getfield 20, 3) := by decide +kernel
theorem x28_43 {sc : aSc} {d : Nat} {r : aRes} {L : List Value} {st : List Value} {f : Nat → Nat → Int32} {g : Nat → Nat → Int64} {h1 h2 : Nat} {o : Nat} (hK : KK[o]? = some (.inl 2)) (hR : (RR h1 h2 o 4).isSome = true) : Rn sc d 28 43 L (.ref o :: st) (cS f g h1 h2) r ↔ Rn sc d 28 46 L (.ref (rf h1 h2 o 4) :: st) (cS f g h1 h2) r := r_getR2 d28_43 (ci := 2) (k := 4) rfl (by decide) (fun _ => rfl) hK hR
theorem d28_46 : decode (mC 28) 46 = .ok (.iload 4, 2) := by decide +kernel
theorem x28_46 {sc : aSc} {d : Nat} {r : aRes} {a0 : Value} {a1 : Value} {a2 : Value} {a3 : Value} {x4 : Int32} {st : List Value} {σ : aS} : Rn sc d 28 46 [a0, a1, a2, a3, .int x4] st σ r ↔ Rn sc d 28 48 [a0, a1, a2, a3, .int x4] (.int x4 :: st) σ r := r_iload d28_46 rfl
theorem d28_48 : decode (mC 28) 48 = .ok (.iaload, 1) := by decide +kernel
theorem x28_48 {sc : aSc} {d : Nat} {r : aRes} {L : List Value} {st : List Value} {f : Nat → Nat → Int32} {g : Nat → Nat → Int64} {h1 h2 : Nat} {a : Nat} {i : Int32} (h17 : 17 ≤ a) (hA : isT9 .int a) (hi : inb i (aln a) = true) : Rn sc d 28 48 L (.int i :: .ref a :: st) (cS f g h1 h2) r ↔ Rn sc d 28 49 L (.int (f a i.toNatClampNeg) :: st) (cS f g h1 h2) r := r_iald d28_48 h17 hA hi
theorem d28_49 : decode (mC 28) 49 = .ok (.istore_n 3, 1) := by decide +kernel
theorem x28_49 {sc : aSc} {d : Nat} {r : aRes} {a0 : Value} {a1 : Value} {x2 : Int32} {a3 : Value} {a4 : Value} {st : List Value} {σ : aS} {y : Int32} : Rn sc d 28 49 [a0, a1, .int x2, a3, a4] (.int y :: st) σ r ↔ Rn sc d 28 50 [a0, a1, .int x2, .int y, a4] st σ r := r_istore_n d28_49 (Nat.le_of_ble_eq_true rfl) rfl
theorem d28_50 : decode (mC 28) 50 = .ok (.iinc 4 1, 3) := by decide +kernel
theorem x28_50 {sc : aSc} {d : Nat} {r : aRes} {a0 : Value} {a1 : Value} {a2 : Value} {x3 : Int32} {x4 : Int32} {st : List Value} {σ : aS} : Rn sc d 28 50 [a0, a1, a2, .int x3, .int x4] st σ r ↔ Rn sc d 28 53 [a0, a1, a2, .int x3, .int (x4 + 1)] st σ r := r_iinc d28_50 (Nat.le_of_ble_eq_true rfl) rfl rfl (by decide)
theorem d28_53 : decode (mC 28) 53 = .ok (.goto (-46), 3) := by decide +kernel
theorem x28_53 {sc : aSc} {d : Nat} {r : aRes} {L : List Value} {st : List Value} {σ : aS} : Rn sc d 28 53 L st σ r ↔ Rn sc d 28 7 L st σ r := r_goto d28_53 rfl
theorem d28_56 : decode (mC 28) 56 = .ok (.iload_n 2, 1) := by decide +kernel
theorem x28_56 {sc : aSc} {d : Nat} {r : aRes} {a0 : Value} {a1 : Value} {x2 : Int32} {a3 : Value} {a4 : Value} {st : List Value} {σ : aS} : Rn sc d 28 56 [a0, a1, .int x2, a3, a4] st σ r ↔ Rn sc d 28 57 [a0, a1, .int x2, a3, a4] (.int x2 :: st) σ r := r_iload_n d28_56 rfl
theorem d28_57 : decode (mC 28) 57 = .ok (.ireturn, 1) := by decide +kernel
theorem x28_57 {sc : aSc} {d : Nat} {r : aRes} {L : List Value} {σ : aS} {x : Int32} : Rn sc d 28 57 L [.int x] σ r ↔ r = (σ, some (.int x)) := r_iret d28_57 rfl rfl
theorem d29_0 : decode (mC 29) 0 = .ok (.lconst 0, 1) := by decide +kernel
theorem x29_0 {sc : aSc} {d : Nat} {r : aRes} {L : List Value} {st : List Value} {σ : aS} : Rn sc d 29 0 L st σ r ↔ Rn sc d 29 1 L (.long 0 :: st) σ r := r_lconst d29_0 (by decide)
theorem d29_1 : decode (mC 29) 1 = .ok (.lstore 4, 2) := by decide +kernel
theorem x29_1 {sc : aSc} {d : Nat} {r : aRes} {a0 : Value} {a1 : Value} {a2 : Value} {x3 : Nat} {a4 : Value} {a5 : Value} {a6 : Value} {a7 : Value} {st : List Value} {σ : aS} {y : Int64} : Rn sc d 29 1 [a0, a1, a2, .ref x3, a4, a5, a6, a7] (.long y :: st) σ r ↔ Rn sc d 29 3 [a0, a1, a2, .ref x3, .long y, mk0, a6, a7] st σ r := r_lstore d29_1 (Nat.le_of_ble_eq_true rfl) rfl
theorem d29_3 : decode (mC 29) 3 = .ok (.iload_n 1, 1) := by decide +kernel
theorem x29_3 {sc : aSc} {d : Nat} {r : aRes} {a0 : Value} {x1 : Int32} {a2 : Value} {a3 : Value} {a4 : Value} {a5 : Value} {a6 : Value} {a7 : Value} {st : List Value} {σ : aS} : Rn sc d 29 3 [a0, .int x1, a2, a3, a4, a5, a6, a7] st σ r ↔ Rn sc d 29 4 [a0, .int x1, a2, a3, a4, a5, a6, a7] (.int x1 :: st) σ r := r_iload_n d29_3 rfl
theorem d29_4 : decode (mC 29) 4 = .ok (.istore 6, 2) := by decide +kernel
theorem x29_4 {sc : aSc} {d : Nat} {r : aRes} {a0 : Value} {a1 : Value} {a2 : Value} {a3 : Value} {a4 : Value} {a6 : Value} {a7 : Value} {st : List Value} {σ : aS} {y : Int32} : Rn sc d 29 4 [a0, a1, a2, a3, a4, mk0, a6, a7] (.int y :: st) σ r ↔ Rn sc d 29 6 [a0, a1, a2, a3, a4, mk0, .int y, a7] st σ r := r_istore d29_4 (Nat.le_of_ble_eq_true rfl) rfl
theorem d29_6 : decode (mC 29) 6 = .ok (.iload 6, 2) := by decide +kernel
theorem x29_6 {sc : aSc} {d : Nat} {r : aRes} {a0 : Value} {a1 : Value} {a2 : Value} {a3 : Value} {a4 : Value} {a5 : Value} {x6 : Int32} {a7 : Value} {st : List Value} {σ : aS} : Rn sc d 29 6 [a0, a1, a2, a3, a4, a5, .int x6, a7] st σ r ↔ Rn sc d 29 8 [a0, a1, a2, a3, a4, a5, .int x6, a7] (.int x6 :: st) σ r := r_iload d29_6 rfl
theorem d29_8 : decode (mC 29) 8 = .ok (.iload_n 2, 1) := by decide +kernel
theorem x29_8 {sc : aSc} {d : Nat} {r : aRes} {a0 : Value} {a1 : Value} {x2 : Int32} {a3 : Value} {a4 : Value} {a5 : Value} {a6 : Value} {a7 : Value} {st : List Value} {σ : aS} : Rn sc d 29 8 [a0, a1, .int x2, a3, a4, a5, a6, a7] st σ r ↔ Rn sc d 29 9 [a0, a1, .int x2, a3, a4, a5, a6, a7] (.int x2 :: st) σ r := r_iload_n d29_8 rfl
theorem d29_9 : decode (mC 29) 9 = .ok (.if_icmp .ge 99, 3) := by decide +kernel
theorem x29_9 {sc : aSc} {d : Nat} {r : aRes} {L : List Value} {st : List Value} {σ : aS} {x y : Int32} : Rn sc d 29 9 L (.int y :: .int x :: st) σ r ↔ if x < y then Rn sc d 29 12 L st σ r else Rn sc d 29 108 L st σ r := r_icmp_ge d29_9 rfl
theorem d29_12 : decode (mC 29) 12 = .ok (.aload_n 0, 1) := by decide +kernel
theorem x29_12 {sc : aSc} {d : Nat} {r : aRes} {x0 : Nat} {a1 : Value} {a2 : Value} {a3 : Value} {a4 : Value} {a5 : Value} {a6 : Value} {a7 : Value} {st : List Value} {σ : aS} : Rn sc d 29 12 [.ref x0, a1, a2, a3, a4, a5, a6, a7] st σ r ↔ Rn sc d 29 13 [.ref x0, a1, a2, a3, a4, a5, a6, a7] (.ref x0 :: st) σ r := r_aload_n d29_12 rfl
theorem d29_13 : decode (mC 29) 13 = .ok (.getfield 25, 3) := by decide +kernel
theorem x29_13 {sc : aSc} {d : Nat} {r : aRes} {L : List Value} {st : List Value} {f : Nat → Nat → Int32} {g : Nat → Nat → Int64} {h1 h2 : Nat} {o : Nat} (hK : KK[o]? = some (.inl 2)) (hR : (RR h1 h2 o 5).isSome = true) : Rn sc d 29 13 L (.ref o :: st) (cS f g h1 h2) r ↔ Rn sc d 29 16 L (.ref (rf h1 h2 o 5) :: st) (cS f g h1 h2) r := r_getR2 d29_13 (ci := 2) (k := 5) rfl (by decide) (fun _ => rfl) hK hR
theorem d29_16 : decode (mC 29) 16 = .ok (.iload 6, 2) := by decide +kernel
theorem x29_16 {sc : aSc} {d : Nat} {r : aRes} {a0 : Value} {a1 : Value} {a2 : Value} {a3 : Value} {a4 : Value} {a5 : Value} {x6 : Int32} {a7 : Value} {st : List Value} {σ : aS} : Rn sc d 29 16 [a0, a1, a2, a3, a4, a5, .int x6, a7] st σ r ↔ Rn sc d 29 18 [a0, a1, a2, a3, a4, a5, .int x6, a7] (.int x6 :: st) σ r := r_iload d29_16 rfl
theorem d29_18 : decode (mC 29) 18 = .ok (.iaload, 1) := by decide +kernel
theorem x29_18 {sc : aSc} {d : Nat} {r : aRes} {L : List Value} {st : List Value} {f : Nat → Nat → Int32} {g : Nat → Nat → Int64} {h1 h2 : Nat} {a : Nat} {i : Int32} (h17 : 17 ≤ a) (hA : isT9 .int a) (hi : inb i (aln a) = true) : Rn sc d 29 18 L (.int i :: .ref a :: st) (cS f g h1 h2) r ↔ Rn sc d 29 19 L (.int (f a i.toNatClampNeg) :: st) (cS f g h1 h2) r := r_iald d29_18 h17 hA hi
theorem d29_19 : decode (mC 29) 19 = .ok (.istore 7, 2) := by decide +kernel
theorem x29_19 {sc : aSc} {d : Nat} {r : aRes} {a0 : Value} {a1 : Value} {a2 : Value} {a3 : Value} {a4 : Value} {a5 : Value} {x6 : Int32} {a7 : Value} {st : List Value} {σ : aS} {y : Int32} : Rn sc d 29 19 [a0, a1, a2, a3, a4, a5, .int x6, a7] (.int y :: st) σ r ↔ Rn sc d 29 21 [a0, a1, a2, a3, a4, a5, .int x6, .int y] st σ r := r_istore d29_19 (Nat.le_of_ble_eq_true rfl) rfl
theorem d29_21 : decode (mC 29) 21 = .ok (.iload 7, 2) := by decide +kernel
theorem x29_21 {sc : aSc} {d : Nat} {r : aRes} {a0 : Value} {a1 : Value} {a2 : Value} {a3 : Value} {a4 : Value} {a5 : Value} {a6 : Value} {x7 : Int32} {st : List Value} {σ : aS} : Rn sc d 29 21 [a0, a1, a2, a3, a4, a5, a6, .int x7] st σ r ↔ Rn sc d 29 23 [a0, a1, a2, a3, a4, a5, a6, .int x7] (.int x7 :: st) σ r := r_iload d29_21 rfl
theorem d29_23 : decode (mC 29) 23 = .ok (.iconst (-1), 1) := by decide +kernel
theorem x29_23 {sc : aSc} {d : Nat} {r : aRes} {L : List Value} {st : List Value} {σ : aS} : Rn sc d 29 23 L st σ r ↔ Rn sc d 29 24 L (.int (-1) :: st) σ r := r_iconst d29_23 (by decide)
theorem d29_24 : decode (mC 29) 24 = .ok (.if_icmp .ne 12, 3) := by decide +kernel
theorem x29_24 {sc : aSc} {d : Nat} {r : aRes} {L : List Value} {st : List Value} {σ : aS} {x y : Int32} : Rn sc d 29 24 L (.int y :: .int x :: st) σ r ↔ if x = y then Rn sc d 29 27 L st σ r else Rn sc d 29 36 L st σ r := r_icmp_ne d29_24 rfl
theorem d29_27 : decode (mC 29) 27 = .ok (.lload 4, 2) := by decide +kernel
theorem x29_27 {sc : aSc} {d : Nat} {r : aRes} {a0 : Value} {a1 : Value} {a2 : Value} {a3 : Value} {x4 : Int64} {a5 : Value} {a6 : Value} {a7 : Value} {st : List Value} {σ : aS} : Rn sc d 29 27 [a0, a1, a2, a3, .long x4, a5, a6, a7] st σ r ↔ Rn sc d 29 29 [a0, a1, a2, a3, .long x4, a5, a6, a7] (.long x4 :: st) σ r := r_lload d29_27 rfl
theorem d29_29 : decode (mC 29) 29 = .ok (.lconst 1, 1) := by decide +kernel
theorem x29_29 {sc : aSc} {d : Nat} {r : aRes} {L : List Value} {st : List Value} {σ : aS} : Rn sc d 29 29 L st σ r ↔ Rn sc d 29 30 L (.long 1 :: st) σ r := r_lconst d29_29 (by decide)
theorem d29_30 : decode (mC 29) 30 = .ok (.lxor, 1) := by decide +kernel
theorem x29_30 {sc : aSc} {d : Nat} {r : aRes} {L : List Value} {st : List Value} {σ : aS} {x y : Int64} : Rn sc d 29 30 L (.long y :: .long x :: st) σ r ↔ Rn sc d 29 31 L (.long (x ^^^ y) :: st) σ r := r_lxor d29_30
theorem d29_31 : decode (mC 29) 31 = .ok (.lstore 4, 2) := by decide +kernel
theorem x29_31 {sc : aSc} {d : Nat} {r : aRes} {a0 : Value} {a1 : Value} {a2 : Value} {x3 : Nat} {a4 : Value} {a5 : Value} {a6 : Value} {a7 : Value} {st : List Value} {σ : aS} {y : Int64} : Rn sc d 29 31 [a0, a1, a2, .ref x3, a4, a5, a6, a7] (.long y :: st) σ r ↔ Rn sc d 29 33 [a0, a1, a2, .ref x3, .long y, mk0, a6, a7] st σ r := r_lstore d29_31 (Nat.le_of_ble_eq_true rfl) rfl
theorem d29_33 : decode (mC 29) 33 = .ok (.goto 69, 3) := by decide +kernel
theorem x29_33 {sc : aSc} {d : Nat} {r : aRes} {L : List Value} {st : List Value} {σ : aS} : Rn sc d 29 33 L st σ r ↔ Rn sc d 29 102 L st σ r := r_goto d29_33 rfl
theorem d29_36 : decode (mC 29) 36 = .ok (.iload 7, 2) := by decide +kernel
theorem x29_36 {sc : aSc} {d : Nat} {r : aRes} {a0 : Value} {a1 : Value} {a2 : Value} {a3 : Value} {a4 : Value} {a5 : Value} {a6 : Value} {x7 : Int32} {st : List Value} {σ : aS} : Rn sc d 29 36 [a0, a1, a2, a3, a4, a5, a6, .int x7] st σ r ↔ Rn sc d 29 38 [a0, a1, a2, a3, a4, a5, a6, .int x7] (.int x7 :: st) σ r := r_iload d29_36 rfl
theorem d29_38 : decode (mC 29) 38 = .ok (.bipush (-2), 2) := by decide +kernel
theorem x29_38 {sc : aSc} {d : Nat} {r : aRes} {L : List Value} {st : List Value} {σ : aS} : Rn sc d 29 38 L st σ r ↔ Rn sc d 29 40 L (.int (-2) :: st) σ r := r_bipush d29_38 (by decide)
theorem d29_40 : decode (mC 29) 40 = .ok (.if_icmp .ne 19, 3) := by decide +kernel
theorem x29_40 {sc : aSc} {d : Nat} {r : aRes} {L : List Value} {st : List Value} {σ : aS} {x y : Int32} : Rn sc d 29 40 L (.int y :: .int x :: st) σ r ↔ if x = y then Rn sc d 29 43 L st σ r else Rn sc d 29 59 L st σ r := r_icmp_ne d29_40 rfl
theorem d29_43 : decode (mC 29) 43 = .ok (.lload 4, 2) := by decide +kernel
theorem x29_43 {sc : aSc} {d : Nat} {r : aRes} {a0 : Value} {a1 : Value} {a2 : Value} {a3 : Value} {x4 : Int64} {a5 : Value} {a6 : Value} {a7 : Value} {st : List Value} {σ : aS} : Rn sc d 29 43 [a0, a1, a2, a3, .long x4, a5, a6, a7] st σ r ↔ Rn sc d 29 45 [a0, a1, a2, a3, .long x4, a5, a6, a7] (.long x4 :: st) σ r := r_lload d29_43 rfl
theorem d29_45 : decode (mC 29) 45 = .ok (.iconst 1, 1) := by decide +kernel
theorem x29_45 {sc : aSc} {d : Nat} {r : aRes} {L : List Value} {st : List Value} {σ : aS} : Rn sc d 29 45 L st σ r ↔ Rn sc d 29 46 L (.int 1 :: st) σ r := r_iconst d29_45 (by decide)
theorem d29_46 : decode (mC 29) 46 = .ok (.lushr, 1) := by decide +kernel
theorem x29_46 {sc : aSc} {d : Nat} {r : aRes} {L : List Value} {st : List Value} {σ : aS} {x : Int64} {y : Int32} : Rn sc d 29 46 L (.int y :: .long x :: st) σ r ↔ Rn sc d 29 47 L (.long ((x.toUInt64 >>> (y.toInt64.toUInt64 &&& Int64.toUInt64 63)).toInt64) :: st) σ r := r_lushr d29_46
theorem d29_47 : decode (mC 29) 47 = .ok (.lload 4, 2) := by decide +kernel
theorem x29_47 {sc : aSc} {d : Nat} {r : aRes} {a0 : Value} {a1 : Value} {a2 : Value} {a3 : Value} {x4 : Int64} {a5 : Value} {a6 : Value} {a7 : Value} {st : List Value} {σ : aS} : Rn sc d 29 47 [a0, a1, a2, a3, .long x4, a5, a6, a7] st σ r ↔ Rn sc d 29 49 [a0, a1, a2, a3, .long x4, a5, a6, a7] (.long x4 :: st) σ r := r_lload d29_47 rfl
theorem d29_49 : decode (mC 29) 49 = .ok (.ldc2_w 42, 3) := by decide +kernel
theorem x29_49 {sc : aSc} {d : Nat} {r : aRes} {L : List Value} {st : List Value} {σ : aS} : Rn sc d 29 49 L st σ r ↔ Rn sc d 29 52 L (.long (-2) :: st) σ r := r_ldc2_w d29_49 rfl
theorem d29_52 : decode (mC 29) 52 = .ok (.lor, 1) := by decide +kernel
theorem x29_52 {sc : aSc} {d : Nat} {r : aRes} {L : List Value} {st : List Value} {σ : aS} {x y : Int64} : Rn sc d 29 52 L (.long y :: .long x :: st) σ r ↔ Rn sc d 29 53 L (.long (x ||| y) :: st) σ r := r_lor d29_52
theorem d29_53 : decode (mC 29) 53 = .ok (.land, 1) := by decide +kernel
theorem x29_53 {sc : aSc} {d : Nat} {r : aRes} {L : List Value} {st : List Value} {σ : aS} {x y : Int64} : Rn sc d 29 53 L (.long y :: .long x :: st) σ r ↔ Rn sc d 29 54 L (.long (x &&& y) :: st) σ r := r_land d29_53
theorem d29_54 : decode (mC 29) 54 = .ok (.lstore 4, 2) := by decide +kernel
theorem x29_54 {sc : aSc} {d : Nat} {r : aRes} {a0 : Value} {a1 : Value} {a2 : Value} {x3 : Nat} {a4 : Value} {a5 : Value} {a6 : Value} {a7 : Value} {st : List Value} {σ : aS} {y : Int64} : Rn sc d 29 54 [a0, a1, a2, .ref x3, a4, a5, a6, a7] (.long y :: st) σ r ↔ Rn sc d 29 56 [a0, a1, a2, .ref x3, .long y, mk0, a6, a7] st σ r := r_lstore d29_54 (Nat.le_of_ble_eq_true rfl) rfl
theorem d29_56 : decode (mC 29) 56 = .ok (.goto 46, 3) := by decide +kernel
theorem x29_56 {sc : aSc} {d : Nat} {r : aRes} {L : List Value} {st : List Value} {σ : aS} : Rn sc d 29 56 L st σ r ↔ Rn sc d 29 102 L st σ r := r_goto d29_56 rfl
theorem d29_59 : decode (mC 29) 59 = .ok (.iload 7, 2) := by decide +kernel
theorem x29_59 {sc : aSc} {d : Nat} {r : aRes} {a0 : Value} {a1 : Value} {a2 : Value} {a3 : Value} {a4 : Value} {a5 : Value} {a6 : Value} {x7 : Int32} {st : List Value} {σ : aS} : Rn sc d 29 59 [a0, a1, a2, a3, a4, a5, a6, .int x7] st σ r ↔ Rn sc d 29 61 [a0, a1, a2, a3, a4, a5, a6, .int x7] (.int x7 :: st) σ r := r_iload d29_59 rfl
theorem d29_61 : decode (mC 29) 61 = .ok (.bipush (-3), 2) := by decide +kernel
theorem x29_61 {sc : aSc} {d : Nat} {r : aRes} {L : List Value} {st : List Value} {σ : aS} : Rn sc d 29 61 L st σ r ↔ Rn sc d 29 63 L (.int (-3) :: st) σ r := r_bipush d29_61 (by decide)
theorem d29_63 : decode (mC 29) 63 = .ok (.if_icmp .ne 17, 3) := by decide +kernel
theorem x29_63 {sc : aSc} {d : Nat} {r : aRes} {L : List Value} {st : List Value} {σ : aS} {x y : Int32} : Rn sc d 29 63 L (.int y :: .int x :: st) σ r ↔ if x = y then Rn sc d 29 66 L st σ r else Rn sc d 29 80 L st σ r := r_icmp_ne d29_63 rfl
theorem d29_66 : decode (mC 29) 66 = .ok (.lload 4, 2) := by decide +kernel
theorem x29_66 {sc : aSc} {d : Nat} {r : aRes} {a0 : Value} {a1 : Value} {a2 : Value} {a3 : Value} {x4 : Int64} {a5 : Value} {a6 : Value} {a7 : Value} {st : List Value} {σ : aS} : Rn sc d 29 66 [a0, a1, a2, a3, .long x4, a5, a6, a7] st σ r ↔ Rn sc d 29 68 [a0, a1, a2, a3, .long x4, a5, a6, a7] (.long x4 :: st) σ r := r_lload d29_66 rfl
theorem d29_68 : decode (mC 29) 68 = .ok (.iconst 1, 1) := by decide +kernel
theorem x29_68 {sc : aSc} {d : Nat} {r : aRes} {L : List Value} {st : List Value} {σ : aS} : Rn sc d 29 68 L st σ r ↔ Rn sc d 29 69 L (.int 1 :: st) σ r := r_iconst d29_68 (by decide)
theorem d29_69 : decode (mC 29) 69 = .ok (.lushr, 1) := by decide +kernel
theorem x29_69 {sc : aSc} {d : Nat} {r : aRes} {L : List Value} {st : List Value} {σ : aS} {x : Int64} {y : Int32} : Rn sc d 29 69 L (.int y :: .long x :: st) σ r ↔ Rn sc d 29 70 L (.long ((x.toUInt64 >>> (y.toInt64.toUInt64 &&& Int64.toUInt64 63)).toInt64) :: st) σ r := r_lushr d29_69
theorem d29_70 : decode (mC 29) 70 = .ok (.lload 4, 2) := by decide +kernel
theorem x29_70 {sc : aSc} {d : Nat} {r : aRes} {a0 : Value} {a1 : Value} {a2 : Value} {a3 : Value} {x4 : Int64} {a5 : Value} {a6 : Value} {a7 : Value} {st : List Value} {σ : aS} : Rn sc d 29 70 [a0, a1, a2, a3, .long x4, a5, a6, a7] st σ r ↔ Rn sc d 29 72 [a0, a1, a2, a3, .long x4, a5, a6, a7] (.long x4 :: st) σ r := r_lload d29_70 rfl
theorem d29_72 : decode (mC 29) 72 = .ok (.lconst 1, 1) := by decide +kernel
theorem x29_72 {sc : aSc} {d : Nat} {r : aRes} {L : List Value} {st : List Value} {σ : aS} : Rn sc d 29 72 L st σ r ↔ Rn sc d 29 73 L (.long 1 :: st) σ r := r_lconst d29_72 (by decide)
theorem d29_73 : decode (mC 29) 73 = .ok (.land, 1) := by decide +kernel
theorem x29_73 {sc : aSc} {d : Nat} {r : aRes} {L : List Value} {st : List Value} {σ : aS} {x y : Int64} : Rn sc d 29 73 L (.long y :: .long x :: st) σ r ↔ Rn sc d 29 74 L (.long (x &&& y) :: st) σ r := r_land d29_73
theorem d29_74 : decode (mC 29) 74 = .ok (.lor, 1) := by decide +kernel
theorem x29_74 {sc : aSc} {d : Nat} {r : aRes} {L : List Value} {st : List Value} {σ : aS} {x y : Int64} : Rn sc d 29 74 L (.long y :: .long x :: st) σ r ↔ Rn sc d 29 75 L (.long (x ||| y) :: st) σ r := r_lor d29_74
theorem d29_75 : decode (mC 29) 75 = .ok (.lstore 4, 2) := by decide +kernel
theorem x29_75 {sc : aSc} {d : Nat} {r : aRes} {a0 : Value} {a1 : Value} {a2 : Value} {x3 : Nat} {a4 : Value} {a5 : Value} {a6 : Value} {a7 : Value} {st : List Value} {σ : aS} {y : Int64} : Rn sc d 29 75 [a0, a1, a2, .ref x3, a4, a5, a6, a7] (.long y :: st) σ r ↔ Rn sc d 29 77 [a0, a1, a2, .ref x3, .long y, mk0, a6, a7] st σ r := r_lstore d29_75 (Nat.le_of_ble_eq_true rfl) rfl
theorem d29_77 : decode (mC 29) 77 = .ok (.goto 25, 3) := by decide +kernel
theorem x29_77 {sc : aSc} {d : Nat} {r : aRes} {L : List Value} {st : List Value} {σ : aS} : Rn sc d 29 77 L st σ r ↔ Rn sc d 29 102 L st σ r := r_goto d29_77 rfl
theorem d29_80 : decode (mC 29) 80 = .ok (.lload 4, 2) := by decide +kernel
theorem x29_80 {sc : aSc} {d : Nat} {r : aRes} {a0 : Value} {a1 : Value} {a2 : Value} {a3 : Value} {x4 : Int64} {a5 : Value} {a6 : Value} {a7 : Value} {st : List Value} {σ : aS} : Rn sc d 29 80 [a0, a1, a2, a3, .long x4, a5, a6, a7] st σ r ↔ Rn sc d 29 82 [a0, a1, a2, a3, .long x4, a5, a6, a7] (.long x4 :: st) σ r := r_lload d29_80 rfl
theorem d29_82 : decode (mC 29) 82 = .ok (.iconst 1, 1) := by decide +kernel
theorem x29_82 {sc : aSc} {d : Nat} {r : aRes} {L : List Value} {st : List Value} {σ : aS} : Rn sc d 29 82 L st σ r ↔ Rn sc d 29 83 L (.int 1 :: st) σ r := r_iconst d29_82 (by decide)
theorem d29_83 : decode (mC 29) 83 = .ok (.lshl, 1) := by decide +kernel
theorem x29_83 {sc : aSc} {d : Nat} {r : aRes} {L : List Value} {st : List Value} {σ : aS} {x : Int64} {y : Int32} : Rn sc d 29 83 L (.int y :: .long x :: st) σ r ↔ Rn sc d 29 84 L (.long (x <<< (y.toInt64 &&& 63)) :: st) σ r := r_lshl d29_83
theorem d29_84 : decode (mC 29) 84 = .ok (.iload 7, 2) := by decide +kernel
theorem x29_84 {sc : aSc} {d : Nat} {r : aRes} {a0 : Value} {a1 : Value} {a2 : Value} {a3 : Value} {a4 : Value} {a5 : Value} {a6 : Value} {x7 : Int32} {st : List Value} {σ : aS} : Rn sc d 29 84 [a0, a1, a2, a3, a4, a5, a6, .int x7] st σ r ↔ Rn sc d 29 86 [a0, a1, a2, a3, a4, a5, a6, .int x7] (.int x7 :: st) σ r := r_iload d29_84 rfl
theorem d29_86 : decode (mC 29) 86 = .ok (.aload_n 3, 1) := by decide +kernel
theorem x29_86 {sc : aSc} {d : Nat} {r : aRes} {a0 : Value} {a1 : Value} {a2 : Value} {x3 : Nat} {a4 : Value} {a5 : Value} {a6 : Value} {a7 : Value} {st : List Value} {σ : aS} : Rn sc d 29 86 [a0, a1, a2, .ref x3, a4, a5, a6, a7] st σ r ↔ Rn sc d 29 87 [a0, a1, a2, .ref x3, a4, a5, a6, a7] (.ref x3 :: st) σ r := r_aload_n d29_86 rfl
theorem d29_87 : decode (mC 29) 87 = .ok (.invokestatic 44, 3) := by decide +kernel
theorem x29_87 {sc : aSc} {d : Nat} {r : aRes} {L : List Value} {σ : aS} {y0 : Nat} {y1 : Int32} {z0 : Int64} : Rn sc d 29 87 L [.ref y0, .int y1, .long z0] σ r ↔ ∃ (σ3 : aS) (v : Option Value), Cl sc d 30 [.int y1, .ref y0] σ (σ3, v) ∧ Rn sc d 29 90 L (v.toList ++ [.long z0]) σ3 r := r_callS (vs := [.ref y0, .int y1]) d29_87 rfl (j := 30) rfl ⟨rfl, by decide, rfl, rfl⟩ (Nat.le_of_ble_eq_true rfl)
theorem d29_90 : decode (mC 29) 90 = .ok (.ifCond .eq 7, 3) := by decide +kernel
theorem x29_90 {sc : aSc} {d : Nat} {r : aRes} {L : List Value} {st : List Value} {σ : aS} {x : Int32} : Rn sc d 29 90 L (.int x :: st) σ r ↔ if x = 0 then Rn sc d 29 97 L st σ r else Rn sc d 29 93 L st σ r := r_if_eq d29_90 rfl
theorem d29_93 : decode (mC 29) 93 = .ok (.iconst 1, 1) := by decide +kernel
theorem x29_93 {sc : aSc} {d : Nat} {r : aRes} {L : List Value} {st : List Value} {σ : aS} : Rn sc d 29 93 L st σ r ↔ Rn sc d 29 94 L (.int 1 :: st) σ r := r_iconst d29_93 (by decide)
theorem d29_94 : decode (mC 29) 94 = .ok (.goto 4, 3) := by decide +kernel
theorem x29_94 {sc : aSc} {d : Nat} {r : aRes} {L : List Value} {st : List Value} {σ : aS} : Rn sc d 29 94 L st σ r ↔ Rn sc d 29 98 L st σ r := r_goto d29_94 rfl
theorem d29_97 : decode (mC 29) 97 = .ok (.iconst 0, 1) := by decide +kernel
theorem x29_97 {sc : aSc} {d : Nat} {r : aRes} {L : List Value} {st : List Value} {σ : aS} : Rn sc d 29 97 L st σ r ↔ Rn sc d 29 98 L (.int 0 :: st) σ r := r_iconst d29_97 (by decide)
theorem d29_98 : decode (mC 29) 98 = .ok (.i2l, 1) := by decide +kernel
theorem x29_98 {sc : aSc} {d : Nat} {r : aRes} {L : List Value} {st : List Value} {σ : aS} {x : Int32} : Rn sc d 29 98 L (.int x :: st) σ r ↔ Rn sc d 29 99 L (.long x.toInt64 :: st) σ r := r_i2l d29_98
theorem d29_99 : decode (mC 29) 99 = .ok (.lor, 1) := by decide +kernel
theorem x29_99 {sc : aSc} {d : Nat} {r : aRes} {L : List Value} {st : List Value} {σ : aS} {x y : Int64} : Rn sc d 29 99 L (.long y :: .long x :: st) σ r ↔ Rn sc d 29 100 L (.long (x ||| y) :: st) σ r := r_lor d29_99
theorem d29_100 : decode (mC 29) 100 = .ok (.lstore 4, 2) := by decide +kernel
theorem x29_100 {sc : aSc} {d : Nat} {r : aRes} {a0 : Value} {a1 : Value} {a2 : Value} {x3 : Nat} {a4 : Value} {a5 : Value} {a6 : Value} {a7 : Value} {st : List Value} {σ : aS} {y : Int64} : Rn sc d 29 100 [a0, a1, a2, .ref x3, a4, a5, a6, a7] (.long y :: st) σ r ↔ Rn sc d 29 102 [a0, a1, a2, .ref x3, .long y, mk0, a6, a7] st σ r := r_lstore d29_100 (Nat.le_of_ble_eq_true rfl) rfl
theorem d29_102 : decode (mC 29) 102 = .ok (.iinc 6 1, 3) := by decide +kernel
theorem x29_102 {sc : aSc} {d : Nat} {r : aRes} {a0 : Value} {a1 : Value} {a2 : Value} {a3 : Value} {a4 : Value} {x6 : Int32} {a7 : Value} {st : List Value} {σ : aS} : Rn sc d 29 102 [a0, a1, a2, a3, a4, mk0, .int x6, a7] st σ r ↔ Rn sc d 29 105 [a0, a1, a2, a3, a4, mk0, .int (x6 + 1), a7] st σ r := r_iinc d29_102 (Nat.le_of_ble_eq_true rfl) rfl rfl (by decide)
theorem d29_105 : decode (mC 29) 105 = .ok (.goto (-99), 3) := by decide +kernel
theorem x29_105 {sc : aSc} {d : Nat} {r : aRes} {L : List Value} {st : List Value} {σ : aS} : Rn sc d 29 105 L st σ r ↔ Rn sc d 29 6 L st σ r := r_goto d29_105 rfl
theorem d29_108 : decode (mC 29) 108 = .ok (.lload 4, 2) := by decide +kernel
theorem x29_108 {sc : aSc} {d : Nat} {r : aRes} {a0 : Value} {a1 : Value} {a2 : Value} {a3 : Value} {x4 : Int64} {a5 : Value} {a6 : Value} {a7 : Value} {st : List Value} {σ : aS} : Rn sc d 29 108 [a0, a1, a2, a3, .long x4, a5, a6, a7] st σ r ↔ Rn sc d 29 110 [a0, a1, a2, a3, .long x4, a5, a6, a7] (.long x4 :: st) σ r := r_lload d29_108 rfl
theorem d29_110 : decode (mC 29) 110 = .ok (.lconst 1, 1) := by decide +kernel
theorem x29_110 {sc : aSc} {d : Nat} {r : aRes} {L : List Value} {st : List Value} {σ : aS} : Rn sc d 29 110 L st σ r ↔ Rn sc d 29 111 L (.long 1 :: st) σ r := r_lconst d29_110 (by decide)
theorem d29_111 : decode (mC 29) 111 = .ok (.land, 1) := by decide +kernel
theorem x29_111 {sc : aSc} {d : Nat} {r : aRes} {L : List Value} {st : List Value} {σ : aS} {x y : Int64} : Rn sc d 29 111 L (.long y :: .long x :: st) σ r ↔ Rn sc d 29 112 L (.long (x &&& y) :: st) σ r := r_land d29_111
theorem d29_112 : decode (mC 29) 112 = .ok (.lconst 1, 1) := by decide +kernel
theorem x29_112 {sc : aSc} {d : Nat} {r : aRes} {L : List Value} {st : List Value} {σ : aS} : Rn sc d 29 112 L st σ r ↔ Rn sc d 29 113 L (.long 1 :: st) σ r := r_lconst d29_112 (by decide)
theorem d29_113 : decode (mC 29) 113 = .ok (.lcmp, 1) := by decide +kernel
theorem x29_113 {sc : aSc} {d : Nat} {r : aRes} {L : List Value} {st : List Value} {σ : aS} {x y : Int64} : Rn sc d 29 113 L (.long y :: .long x :: st) σ r ↔ Rn sc d 29 114 L (.int (lg_cmp x y) :: st) σ r := r_lcmp d29_113
theorem d29_114 : decode (mC 29) 114 = .ok (.ifCond .ne 7, 3) := by decide +kernel
theorem x29_114 {sc : aSc} {d : Nat} {r : aRes} {L : List Value} {st : List Value} {σ : aS} {x : Int32} : Rn sc d 29 114 L (.int x :: st) σ r ↔ if x = 0 then Rn sc d 29 117 L st σ r else Rn sc d 29 121 L st σ r := r_if_ne d29_114 rfl
theorem d29_117 : decode (mC 29) 117 = .ok (.iconst 1, 1) := by decide +kernel
theorem x29_117 {sc : aSc} {d : Nat} {r : aRes} {L : List Value} {st : List Value} {σ : aS} : Rn sc d 29 117 L st σ r ↔ Rn sc d 29 118 L (.int 1 :: st) σ r := r_iconst d29_117 (by decide)
theorem d29_118 : decode (mC 29) 118 = .ok (.goto 4, 3) := by decide +kernel
theorem x29_118 {sc : aSc} {d : Nat} {r : aRes} {L : List Value} {st : List Value} {σ : aS} : Rn sc d 29 118 L st σ r ↔ Rn sc d 29 122 L st σ r := r_goto d29_118 rfl
theorem d29_121 : decode (mC 29) 121 = .ok (.iconst 0, 1) := by decide +kernel
theorem x29_121 {sc : aSc} {d : Nat} {r : aRes} {L : List Value} {st : List Value} {σ : aS} : Rn sc d 29 121 L st σ r ↔ Rn sc d 29 122 L (.int 0 :: st) σ r := r_iconst d29_121 (by decide)
theorem d29_122 : decode (mC 29) 122 = .ok (.ireturn, 1) := by decide +kernel
theorem x29_122 {sc : aSc} {d : Nat} {r : aRes} {L : List Value} {σ : aS} {x : Int32} (hn : x &&& 1 = x) : Rn sc d 29 122 L [.int x] σ r ↔ r = (σ, some (.int x)) := r_iret d29_122 rfl (congrArg Value.int hn)
theorem d30_0 : decode (mC 30) 0 = .ok (.iload_n 0, 1) := by decide +kernel
theorem x30_0 {sc : aSc} {d : Nat} {r : aRes} {x0 : Int32} {a1 : Value} {a2 : Value} {a3 : Value} {st : List Value} {σ : aS} : Rn sc d 30 0 [.int x0, a1, a2, a3] st σ r ↔ Rn sc d 30 1 [.int x0, a1, a2, a3] (.int x0 :: st) σ r := r_iload_n d30_0 rfl
theorem d30_1 : decode (mC 30) 1 = .ok (.bipush 100, 2) := by decide +kernel
theorem x30_1 {sc : aSc} {d : Nat} {r : aRes} {L : List Value} {st : List Value} {σ : aS} : Rn sc d 30 1 L st σ r ↔ Rn sc d 30 3 L (.int 100 :: st) σ r := r_bipush d30_1 (by decide)
theorem d30_3 : decode (mC 30) 3 = .ok (.irem, 1) := by decide +kernel
theorem x30_3 {sc : aSc} {d : Nat} {r : aRes} {L : List Value} {st : List Value} {σ : aS} {x y : Int32} (hy : ¬ y = 0) : Rn sc d 30 3 L (.int y :: .int x :: st) σ r ↔ Rn sc d 30 4 L (.int (x % y) :: st) σ r := r_irem d30_3 hy
theorem d30_4 : decode (mC 30) 4 = .ok (.istore_n 2, 1) := by decide +kernel
theorem x30_4 {sc : aSc} {d : Nat} {r : aRes} {a0 : Value} {x1 : Nat} {a2 : Value} {a3 : Value} {st : List Value} {σ : aS} {y : Int32} : Rn sc d 30 4 [a0, .ref x1, a2, a3] (.int y :: st) σ r ↔ Rn sc d 30 5 [a0, .ref x1, .int y, a3] st σ r := r_istore_n d30_4 (Nat.le_of_ble_eq_true rfl) rfl
theorem d30_5 : decode (mC 30) 5 = .ok (.aload_n 1, 1) := by decide +kernel
theorem x30_5 {sc : aSc} {d : Nat} {r : aRes} {a0 : Value} {x1 : Nat} {a2 : Value} {a3 : Value} {st : List Value} {σ : aS} : Rn sc d 30 5 [a0, .ref x1, a2, a3] st σ r ↔ Rn sc d 30 6 [a0, .ref x1, a2, a3] (.ref x1 :: st) σ r := r_aload_n d30_5 rfl
theorem d30_6 : decode (mC 30) 6 = .ok (.iload_n 0, 1) := by decide +kernel
theorem x30_6 {sc : aSc} {d : Nat} {r : aRes} {x0 : Int32} {a1 : Value} {a2 : Value} {a3 : Value} {st : List Value} {σ : aS} : Rn sc d 30 6 [.int x0, a1, a2, a3] st σ r ↔ Rn sc d 30 7 [.int x0, a1, a2, a3] (.int x0 :: st) σ r := r_iload_n d30_6 rfl
theorem d30_7 : decode (mC 30) 7 = .ok (.sipush 300, 3) := by decide +kernel
theorem x30_7 {sc : aSc} {d : Nat} {r : aRes} {L : List Value} {st : List Value} {σ : aS} : Rn sc d 30 7 L st σ r ↔ Rn sc d 30 10 L (.int 300 :: st) σ r := r_sipush d30_7 (by decide)
theorem d30_10 : decode (mC 30) 10 = .ok (.idiv, 1) := by decide +kernel
theorem x30_10 {sc : aSc} {d : Nat} {r : aRes} {L : List Value} {st : List Value} {σ : aS} {x y : Int32} (hy : ¬ y = 0) : Rn sc d 30 10 L (.int y :: .int x :: st) σ r ↔ Rn sc d 30 11 L (.int (x / y) :: st) σ r := r_idiv d30_10 hy
theorem d30_11 : decode (mC 30) 11 = .ok (.iaload, 1) := by decide +kernel
theorem x30_11 {sc : aSc} {d : Nat} {r : aRes} {L : List Value} {st : List Value} {f : Nat → Nat → Int32} {g : Nat → Nat → Int64} {h1 h2 : Nat} {a : Nat} {i : Int32} (h17 : 17 ≤ a) (hA : isT9 .int a) (hi : inb i (aln a) = true) : Rn sc d 30 11 L (.int i :: .ref a :: st) (cS f g h1 h2) r ↔ Rn sc d 30 12 L (.int (f a i.toNatClampNeg) :: st) (cS f g h1 h2) r := r_iald d30_11 h17 hA hi
theorem d30_12 : decode (mC 30) 12 = .ok (.istore_n 3, 1) := by decide +kernel
theorem x30_12 {sc : aSc} {d : Nat} {r : aRes} {a0 : Value} {a1 : Value} {x2 : Int32} {a3 : Value} {st : List Value} {σ : aS} {y : Int32} : Rn sc d 30 12 [a0, a1, .int x2, a3] (.int y :: st) σ r ↔ Rn sc d 30 13 [a0, a1, .int x2, .int y] st σ r := r_istore_n d30_12 (Nat.le_of_ble_eq_true rfl) rfl
theorem d30_13 : decode (mC 30) 13 = .ok (.iload_n 0, 1) := by decide +kernel
theorem x30_13 {sc : aSc} {d : Nat} {r : aRes} {x0 : Int32} {a1 : Value} {a2 : Value} {a3 : Value} {st : List Value} {σ : aS} : Rn sc d 30 13 [.int x0, a1, a2, a3] st σ r ↔ Rn sc d 30 14 [.int x0, a1, a2, a3] (.int x0 :: st) σ r := r_iload_n d30_13 rfl
theorem d30_14 : decode (mC 30) 14 = .ok (.bipush 100, 2) := by decide +kernel
theorem x30_14 {sc : aSc} {d : Nat} {r : aRes} {L : List Value} {st : List Value} {σ : aS} : Rn sc d 30 14 L st σ r ↔ Rn sc d 30 16 L (.int 100 :: st) σ r := r_bipush d30_14 (by decide)
theorem d30_16 : decode (mC 30) 16 = .ok (.idiv, 1) := by decide +kernel
theorem x30_16 {sc : aSc} {d : Nat} {r : aRes} {L : List Value} {st : List Value} {σ : aS} {x y : Int32} (hy : ¬ y = 0) : Rn sc d 30 16 L (.int y :: .int x :: st) σ r ↔ Rn sc d 30 17 L (.int (x / y) :: st) σ r := r_idiv d30_16 hy
theorem d30_17 : decode (mC 30) 17 = .ok (.iconst 3, 1) := by decide +kernel
theorem x30_17 {sc : aSc} {d : Nat} {r : aRes} {L : List Value} {st : List Value} {σ : aS} : Rn sc d 30 17 L st σ r ↔ Rn sc d 30 18 L (.int 3 :: st) σ r := r_iconst d30_17 (by decide)
theorem d30_18 : decode (mC 30) 18 = .ok (.irem, 1) := by decide +kernel
theorem x30_18 {sc : aSc} {d : Nat} {r : aRes} {L : List Value} {st : List Value} {σ : aS} {x y : Int32} (hy : ¬ y = 0) : Rn sc d 30 18 L (.int y :: .int x :: st) σ r ↔ Rn sc d 30 19 L (.int (x % y) :: st) σ r := r_irem d30_18 hy
theorem d30_19 : decode (mC 30) 19 = .ok (.lookupswitch 47 #[(0, 25), (1, 36)], 25) := by decide +kernel
theorem x30_19 {sc : aSc} {d : Nat} {r : aRes} {L : List Value} {st : List Value} {σ : aS} {x : Int32} : Rn sc d 30 19 L (.int x :: st) σ r ↔ (if x = 0 then Rn sc d 30 44 L st σ r else (if x = 1 then Rn sc d 30 55 L st σ r else Rn sc d 30 66 L st σ r)) := by
  by_cases c0 : x = 0
  · subst c0; simp only [if_pos]; exact r_lsw d30_19 (t := 44) rfl
  rw [if_neg c0]
  by_cases c1 : x = 1
  · subst c1; simp only [if_pos]; exact r_lsw d30_19 (t := 55) rfl
  rw [if_neg c1]
  refine r_lsw d30_19 (t := 66) ?_
  have e0 : x.toInt ≠ 0 := fun z => c0 (Int32.toInt_inj.mp z)
  have e1 : x.toInt ≠ 1 := fun z => c1 (Int32.toInt_inj.mp z)
  simp [lwt, Op.lookupswitch.offset, jt, e0, Ne.symm e0, e1, Ne.symm e1]
theorem d30_44 : decode (mC 30) 44 = .ok (.iload_n 3, 1) := by decide +kernel
theorem x30_44 {sc : aSc} {d : Nat} {r : aRes} {a0 : Value} {a1 : Value} {a2 : Value} {x3 : Int32} {st : List Value} {σ : aS} : Rn sc d 30 44 [a0, a1, a2, .int x3] st σ r ↔ Rn sc d 30 45 [a0, a1, a2, .int x3] (.int x3 :: st) σ r := r_iload_n d30_44 rfl
theorem d30_45 : decode (mC 30) 45 = .ok (.iload_n 2, 1) := by decide +kernel
theorem x30_45 {sc : aSc} {d : Nat} {r : aRes} {a0 : Value} {a1 : Value} {x2 : Int32} {a3 : Value} {st : List Value} {σ : aS} : Rn sc d 30 45 [a0, a1, .int x2, a3] st σ r ↔ Rn sc d 30 46 [a0, a1, .int x2, a3] (.int x2 :: st) σ r := r_iload_n d30_45 rfl
theorem d30_46 : decode (mC 30) 46 = .ok (.if_icmp .ge 7, 3) := by decide +kernel
theorem x30_46 {sc : aSc} {d : Nat} {r : aRes} {L : List Value} {st : List Value} {σ : aS} {x y : Int32} : Rn sc d 30 46 L (.int y :: .int x :: st) σ r ↔ if x < y then Rn sc d 30 49 L st σ r else Rn sc d 30 53 L st σ r := r_icmp_ge d30_46 rfl
theorem d30_49 : decode (mC 30) 49 = .ok (.iconst 1, 1) := by decide +kernel
theorem x30_49 {sc : aSc} {d : Nat} {r : aRes} {L : List Value} {st : List Value} {σ : aS} : Rn sc d 30 49 L st σ r ↔ Rn sc d 30 50 L (.int 1 :: st) σ r := r_iconst d30_49 (by decide)
theorem d30_50 : decode (mC 30) 50 = .ok (.goto 4, 3) := by decide +kernel
theorem x30_50 {sc : aSc} {d : Nat} {r : aRes} {L : List Value} {st : List Value} {σ : aS} : Rn sc d 30 50 L st σ r ↔ Rn sc d 30 54 L st σ r := r_goto d30_50 rfl
theorem d30_53 : decode (mC 30) 53 = .ok (.iconst 0, 1) := by decide +kernel
theorem x30_53 {sc : aSc} {d : Nat} {r : aRes} {L : List Value} {st : List Value} {σ : aS} : Rn sc d 30 53 L st σ r ↔ Rn sc d 30 54 L (.int 0 :: st) σ r := r_iconst d30_53 (by decide)
theorem d30_54 : decode (mC 30) 54 = .ok (.ireturn, 1) := by decide +kernel
theorem x30_54 {sc : aSc} {d : Nat} {r : aRes} {L : List Value} {σ : aS} {x : Int32} (hn : x &&& 1 = x) : Rn sc d 30 54 L [.int x] σ r ↔ r = (σ, some (.int x)) := r_iret d30_54 rfl (congrArg Value.int hn)
theorem d30_55 : decode (mC 30) 55 = .ok (.iload_n 3, 1) := by decide +kernel
theorem x30_55 {sc : aSc} {d : Nat} {r : aRes} {a0 : Value} {a1 : Value} {a2 : Value} {x3 : Int32} {st : List Value} {σ : aS} : Rn sc d 30 55 [a0, a1, a2, .int x3] st σ r ↔ Rn sc d 30 56 [a0, a1, a2, .int x3] (.int x3 :: st) σ r := r_iload_n d30_55 rfl
theorem d30_56 : decode (mC 30) 56 = .ok (.iload_n 2, 1) := by decide +kernel
theorem x30_56 {sc : aSc} {d : Nat} {r : aRes} {a0 : Value} {a1 : Value} {x2 : Int32} {a3 : Value} {st : List Value} {σ : aS} : Rn sc d 30 56 [a0, a1, .int x2, a3] st σ r ↔ Rn sc d 30 57 [a0, a1, .int x2, a3] (.int x2 :: st) σ r := r_iload_n d30_56 rfl
theorem d30_57 : decode (mC 30) 57 = .ok (.if_icmp .ne 7, 3) := by decide +kernel
theorem x30_57 {sc : aSc} {d : Nat} {r : aRes} {L : List Value} {st : List Value} {σ : aS} {x y : Int32} : Rn sc d 30 57 L (.int y :: .int x :: st) σ r ↔ if x = y then Rn sc d 30 60 L st σ r else Rn sc d 30 64 L st σ r := r_icmp_ne d30_57 rfl
theorem d30_60 : decode (mC 30) 60 = .ok (.iconst 1, 1) := by decide +kernel
theorem x30_60 {sc : aSc} {d : Nat} {r : aRes} {L : List Value} {st : List Value} {σ : aS} : Rn sc d 30 60 L st σ r ↔ Rn sc d 30 61 L (.int 1 :: st) σ r := r_iconst d30_60 (by decide)
theorem d30_61 : decode (mC 30) 61 = .ok (.goto 4, 3) := by decide +kernel
theorem x30_61 {sc : aSc} {d : Nat} {r : aRes} {L : List Value} {st : List Value} {σ : aS} : Rn sc d 30 61 L st σ r ↔ Rn sc d 30 65 L st σ r := r_goto d30_61 rfl
theorem d30_64 : decode (mC 30) 64 = .ok (.iconst 0, 1) := by decide +kernel
theorem x30_64 {sc : aSc} {d : Nat} {r : aRes} {L : List Value} {st : List Value} {σ : aS} : Rn sc d 30 64 L st σ r ↔ Rn sc d 30 65 L (.int 0 :: st) σ r := r_iconst d30_64 (by decide)
theorem d30_65 : decode (mC 30) 65 = .ok (.ireturn, 1) := by decide +kernel
theorem x30_65 {sc : aSc} {d : Nat} {r : aRes} {L : List Value} {σ : aS} {x : Int32} (hn : x &&& 1 = x) : Rn sc d 30 65 L [.int x] σ r ↔ r = (σ, some (.int x)) := r_iret d30_65 rfl (congrArg Value.int hn)
theorem d30_66 : decode (mC 30) 66 = .ok (.iload_n 3, 1) := by decide +kernel
theorem x30_66 {sc : aSc} {d : Nat} {r : aRes} {a0 : Value} {a1 : Value} {a2 : Value} {x3 : Int32} {st : List Value} {σ : aS} : Rn sc d 30 66 [a0, a1, a2, .int x3] st σ r ↔ Rn sc d 30 67 [a0, a1, a2, .int x3] (.int x3 :: st) σ r := r_iload_n d30_66 rfl
theorem d30_67 : decode (mC 30) 67 = .ok (.iload_n 2, 1) := by decide +kernel
theorem x30_67 {sc : aSc} {d : Nat} {r : aRes} {a0 : Value} {a1 : Value} {x2 : Int32} {a3 : Value} {st : List Value} {σ : aS} : Rn sc d 30 67 [a0, a1, .int x2, a3] st σ r ↔ Rn sc d 30 68 [a0, a1, .int x2, a3] (.int x2 :: st) σ r := r_iload_n d30_67 rfl
theorem d30_68 : decode (mC 30) 68 = .ok (.if_icmp .le 7, 3) := by decide +kernel
theorem x30_68 {sc : aSc} {d : Nat} {r : aRes} {L : List Value} {st : List Value} {σ : aS} {x y : Int32} : Rn sc d 30 68 L (.int y :: .int x :: st) σ r ↔ if y < x then Rn sc d 30 71 L st σ r else Rn sc d 30 75 L st σ r := r_icmp_le d30_68 rfl
theorem d30_71 : decode (mC 30) 71 = .ok (.iconst 1, 1) := by decide +kernel
theorem x30_71 {sc : aSc} {d : Nat} {r : aRes} {L : List Value} {st : List Value} {σ : aS} : Rn sc d 30 71 L st σ r ↔ Rn sc d 30 72 L (.int 1 :: st) σ r := r_iconst d30_71 (by decide)
theorem d30_72 : decode (mC 30) 72 = .ok (.goto 4, 3) := by decide +kernel
theorem x30_72 {sc : aSc} {d : Nat} {r : aRes} {L : List Value} {st : List Value} {σ : aS} : Rn sc d 30 72 L st σ r ↔ Rn sc d 30 76 L st σ r := r_goto d30_72 rfl
theorem d30_75 : decode (mC 30) 75 = .ok (.iconst 0, 1) := by decide +kernel
theorem x30_75 {sc : aSc} {d : Nat} {r : aRes} {L : List Value} {st : List Value} {σ : aS} : Rn sc d 30 75 L st σ r ↔ Rn sc d 30 76 L (.int 0 :: st) σ r := r_iconst d30_75 (by decide)
theorem d30_76 : decode (mC 30) 76 = .ok (.ireturn, 1) := by decide +kernel
theorem x30_76 {sc : aSc} {d : Nat} {r : aRes} {L : List Value} {σ : aS} {x : Int32} (hn : x &&& 1 = x) : Rn sc d 30 76 L [.int x] σ r ↔ r = (σ, some (.int x)) := r_iret d30_76 rfl (congrArg Value.int hn)
theorem d31_0 : decode (mC 31) 0 = .ok (.iload_n 1, 1) := by decide +kernel
theorem x31_0 {sc : aSc} {d : Nat} {r : aRes} {a0 : Value} {x1 : Int32} {a2 : Value} {st : List Value} {σ : aS} : Rn sc d 31 0 [a0, .int x1, a2] st σ r ↔ Rn sc d 31 1 [a0, .int x1, a2] (.int x1 :: st) σ r := r_iload_n d31_0 rfl
theorem d31_1 : decode (mC 31) 1 = .ok (.iload_n 2, 1) := by decide +kernel
theorem x31_1 {sc : aSc} {d : Nat} {r : aRes} {a0 : Value} {a1 : Value} {x2 : Int32} {st : List Value} {σ : aS} : Rn sc d 31 1 [a0, a1, .int x2] st σ r ↔ Rn sc d 31 2 [a0, a1, .int x2] (.int x2 :: st) σ r := r_iload_n d31_1 rfl
theorem d31_2 : decode (mC 31) 2 = .ok (.isub, 1) := by decide +kernel
theorem x31_2 {sc : aSc} {d : Nat} {r : aRes} {L : List Value} {st : List Value} {σ : aS} {x y : Int32} : Rn sc d 31 2 L (.int y :: .int x :: st) σ r ↔ Rn sc d 31 3 L (.int (x - y) :: st) σ r := r_isub d31_2
theorem d31_3 : decode (mC 31) 3 = .ok (.invokestatic 48, 3) := by decide +kernel
theorem x31_3 {sc : aSc} {d : Nat} {r : aRes} {L : List Value} {σ : aS} {y0 : Int32}  : Rn sc d 31 3 L [.int y0] σ r ↔ ∃ (σ3 : aS) (v : Option Value), Cl sc d 209 [.int y0] σ (σ3, v) ∧ Rn sc d 31 6 L (v.toList ++ []) σ3 r := r_callS (vs := [.int y0]) d31_3 rfl (j := 209) rfl ⟨rfl, by decide, rfl, rfl⟩ (Nat.le_of_ble_eq_true rfl)
theorem d31_6 : decode (mC 31) 6 = .ok (.aload_n 0, 1) := by decide +kernel
theorem x31_6 {sc : aSc} {d : Nat} {r : aRes} {x0 : Nat} {a1 : Value} {a2 : Value} {st : List Value} {σ : aS} : Rn sc d 31 6 [.ref x0, a1, a2] st σ r ↔ Rn sc d 31 7 [.ref x0, a1, a2] (.ref x0 :: st) σ r := r_aload_n d31_6 rfl
theorem d31_7 : decode (mC 31) 7 = .ok (.getfield 7, 3) := by decide +kernel
theorem x31_7 {sc : aSc} {d : Nat} {r : aRes} {L : List Value} {st : List Value} {f : Nat → Nat → Int32} {g : Nat → Nat → Int64} {h1 h2 : Nat} {o : Nat} (h17 : 17 ≤ o) (hK : KK[o]? = some (.inl 2)) : Rn sc d 31 7 L (.ref o :: st) (cS f g h1 h2) r ↔ Rn sc d 31 10 L (.int (f o 0) :: st) (cS f g h1 h2) r := r_getI d31_7 (ci := 2) (k := 0) rfl (by decide) (fun _ => rfl) h17 hK
theorem d31_10 : decode (mC 31) 10 = .ok (.if_icmp .lt 17, 3) := by decide +kernel
theorem x31_10 {sc : aSc} {d : Nat} {r : aRes} {L : List Value} {st : List Value} {σ : aS} {x y : Int32} : Rn sc d 31 10 L (.int y :: .int x :: st) σ r ↔ if x < y then Rn sc d 31 27 L st σ r else Rn sc d 31 13 L st σ r := r_icmp_lt d31_10 rfl
theorem d31_13 : decode (mC 31) 13 = .ok (.iload_n 1, 1) := by decide +kernel
theorem x31_13 {sc : aSc} {d : Nat} {r : aRes} {a0 : Value} {x1 : Int32} {a2 : Value} {st : List Value} {σ : aS} : Rn sc d 31 13 [a0, .int x1, a2] st σ r ↔ Rn sc d 31 14 [a0, .int x1, a2] (.int x1 :: st) σ r := r_iload_n d31_13 rfl
theorem d31_14 : decode (mC 31) 14 = .ok (.iload_n 2, 1) := by decide +kernel
theorem x31_14 {sc : aSc} {d : Nat} {r : aRes} {a0 : Value} {a1 : Value} {x2 : Int32} {st : List Value} {σ : aS} : Rn sc d 31 14 [a0, a1, .int x2] st σ r ↔ Rn sc d 31 15 [a0, a1, .int x2] (.int x2 :: st) σ r := r_iload_n d31_14 rfl
theorem d31_15 : decode (mC 31) 15 = .ok (.iadd, 1) := by decide +kernel
theorem x31_15 {sc : aSc} {d : Nat} {r : aRes} {L : List Value} {st : List Value} {σ : aS} {x y : Int32} : Rn sc d 31 15 L (.int y :: .int x :: st) σ r ↔ Rn sc d 31 16 L (.int (x + y) :: st) σ r := r_iadd d31_15
theorem d31_16 : decode (mC 31) 16 = .ok (.aload_n 0, 1) := by decide +kernel
theorem x31_16 {sc : aSc} {d : Nat} {r : aRes} {x0 : Nat} {a1 : Value} {a2 : Value} {st : List Value} {σ : aS} : Rn sc d 31 16 [.ref x0, a1, a2] st σ r ↔ Rn sc d 31 17 [.ref x0, a1, a2] (.ref x0 :: st) σ r := r_aload_n d31_16 rfl
theorem d31_17 : decode (mC 31) 17 = .ok (.getfield 13, 3) := by decide +kernel
theorem x31_17 {sc : aSc} {d : Nat} {r : aRes} {L : List Value} {st : List Value} {f : Nat → Nat → Int32} {g : Nat → Nat → Int64} {h1 h2 : Nat} {o : Nat} (h17 : 17 ≤ o) (hK : KK[o]? = some (.inl 2)) : Rn sc d 31 17 L (.ref o :: st) (cS f g h1 h2) r ↔ Rn sc d 31 20 L (.int (f o 1) :: st) (cS f g h1 h2) r := r_getI d31_17 (ci := 2) (k := 1) rfl (by decide) (fun _ => rfl) h17 hK
theorem d31_20 : decode (mC 31) 20 = .ok (.if_icmp .gt 7, 3) := by decide +kernel
theorem x31_20 {sc : aSc} {d : Nat} {r : aRes} {L : List Value} {st : List Value} {σ : aS} {x y : Int32} : Rn sc d 31 20 L (.int y :: .int x :: st) σ r ↔ if y < x then Rn sc d 31 27 L st σ r else Rn sc d 31 23 L st σ r := r_icmp_gt d31_20 rfl
theorem d31_23 : decode (mC 31) 23 = .ok (.iconst 1, 1) := by decide +kernel
theorem x31_23 {sc : aSc} {d : Nat} {r : aRes} {L : List Value} {st : List Value} {σ : aS} : Rn sc d 31 23 L st σ r ↔ Rn sc d 31 24 L (.int 1 :: st) σ r := r_iconst d31_23 (by decide)
theorem d31_24 : decode (mC 31) 24 = .ok (.goto 4, 3) := by decide +kernel
theorem x31_24 {sc : aSc} {d : Nat} {r : aRes} {L : List Value} {st : List Value} {σ : aS} : Rn sc d 31 24 L st σ r ↔ Rn sc d 31 28 L st σ r := r_goto d31_24 rfl
theorem d31_27 : decode (mC 31) 27 = .ok (.iconst 0, 1) := by decide +kernel
theorem x31_27 {sc : aSc} {d : Nat} {r : aRes} {L : List Value} {st : List Value} {σ : aS} : Rn sc d 31 27 L st σ r ↔ Rn sc d 31 28 L (.int 0 :: st) σ r := r_iconst d31_27 (by decide)
theorem d31_28 : decode (mC 31) 28 = .ok (.ireturn, 1) := by decide +kernel
theorem x31_28 {sc : aSc} {d : Nat} {r : aRes} {L : List Value} {σ : aS} {x : Int32} (hn : x &&& 1 = x) : Rn sc d 31 28 L [.int x] σ r ↔ r = (σ, some (.int x)) := r_iret d31_28 rfl (congrArg Value.int hn)
