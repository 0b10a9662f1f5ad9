/-! a row an instruction (written by wip/whole/mk16.py) -/
theorem d33_0 : decode (mC 33) 0 = .ok (.aload_n 0, 1) := by decide +kernel
theorem x33_0 {sc : aSc} {d : Nat} {r : aRes} {x0 : Nat} {a1 : Value} {a2 : Value} {a3 : Value} {a4 : Value} {a5 : Value} {st : List Value} {σ : aS} : Rn sc d 33 0 [.ref x0, a1, a2, a3, a4, a5] st σ r ↔ Rn sc d 33 1 [.ref x0, a1, a2, a3, a4, a5] (.ref x0 :: st) σ r := r_aload_n d33_0 rfl
theorem d33_1 : decode (mC 33) 1 = .ok (.iload_n 3, 1) := by decide +kernel
theorem x33_1 {sc : aSc} {d : Nat} {r : aRes} {a0 : Value} {a1 : Value} {a2 : Value} {x3 : Int32} {a4 : Value} {a5 : Value} {st : List Value} {σ : aS} : Rn sc d 33 1 [a0, a1, a2, .int x3, a4, a5] st σ r ↔ Rn sc d 33 2 [a0, a1, a2, .int x3, a4, a5] (.int x3 :: st) σ r := r_iload_n d33_1 rfl
theorem d33_2 : decode (mC 33) 2 = .ok (.putfield 28, 3) := by decide +kernel
theorem x33_2 {sc : aSc} {d : Nat} {r : aRes} {L : List Value} {st : List Value} {f : Nat → Nat → Int32} {g : Nat → Nat → Int64} {h1 h2 : Nat} {o : Nat} {v : Int32} (h17 : 17 ≤ o) (hK : KK[o]? = some (.inl 3)) : Rn sc d 33 2 L (.int v :: .ref o :: st) (cS f g h1 h2) r ↔ Rn sc d 33 5 L st (cS (u2 f o 5 v) g h1 h2) r := r_putI d33_2 (ci := 3) (k := 5) rfl (by decide) h17 hK
theorem d33_5 : decode (mC 33) 5 = .ok (.iconst 0, 1) := by decide +kernel
theorem x33_5 {sc : aSc} {d : Nat} {r : aRes} {L : List Value} {st : List Value} {σ : aS} : Rn sc d 33 5 L st σ r ↔ Rn sc d 33 6 L (.int 0 :: st) σ r := r_iconst d33_5 (by decide)
theorem d33_6 : decode (mC 33) 6 = .ok (.istore 4, 2) := by decide +kernel
theorem x33_6 {sc : aSc} {d : Nat} {r : aRes} {a0 : Value} {a1 : Value} {a2 : Value} {x3 : Int32} {a4 : Value} {a5 : Value} {st : List Value} {σ : aS} {y : Int32} : Rn sc d 33 6 [a0, a1, a2, .int x3, a4, a5] (.int y :: st) σ r ↔ Rn sc d 33 8 [a0, a1, a2, .int x3, .int y, a5] st σ r := r_istore d33_6 (Nat.le_of_ble_eq_true rfl) rfl
theorem d33_8 : decode (mC 33) 8 = .ok (.iload 4, 2) := by decide +kernel
theorem x33_8 {sc : aSc} {d : Nat} {r : aRes} {a0 : Value} {a1 : Value} {a2 : Value} {a3 : Value} {x4 : Int32} {a5 : Value} {st : List Value} {σ : aS} : Rn sc d 33 8 [a0, a1, a2, a3, .int x4, a5] st σ r ↔ Rn sc d 33 10 [a0, a1, a2, a3, .int x4, a5] (.int x4 :: st) σ r := r_iload d33_8 rfl
theorem d33_10 : decode (mC 33) 10 = .ok (.iload_n 2, 1) := by decide +kernel
theorem x33_10 {sc : aSc} {d : Nat} {r : aRes} {a0 : Value} {a1 : Value} {x2 : Int32} {a3 : Value} {a4 : Value} {a5 : Value} {st : List Value} {σ : aS} : Rn sc d 33 10 [a0, a1, .int x2, a3, a4, a5] st σ r ↔ Rn sc d 33 11 [a0, a1, .int x2, a3, a4, a5] (.int x2 :: st) σ r := r_iload_n d33_10 rfl
theorem d33_11 : decode (mC 33) 11 = .ok (.if_icmp .ge 78, 3) := by decide +kernel
theorem x33_11 {sc : aSc} {d : Nat} {r : aRes} {L : List Value} {st : List Value} {σ : aS} {x y : Int32} : Rn sc d 33 11 L (.int y :: .int x :: st) σ r ↔ if x < y then Rn sc d 33 14 L st σ r else Rn sc d 33 89 L st σ r := r_icmp_ge d33_11 rfl
theorem d33_14 : decode (mC 33) 14 = .ok (.iconst 0, 1) := by decide +kernel
theorem x33_14 {sc : aSc} {d : Nat} {r : aRes} {L : List Value} {st : List Value} {σ : aS} : Rn sc d 33 14 L st σ r ↔ Rn sc d 33 15 L (.int 0 :: st) σ r := r_iconst d33_14 (by decide)
theorem d33_15 : decode (mC 33) 15 = .ok (.istore 5, 2) := by decide +kernel
theorem x33_15 {sc : aSc} {d : Nat} {r : aRes} {a0 : Value} {a1 : Value} {a2 : Value} {a3 : Value} {x4 : Int32} {a5 : Value} {st : List Value} {σ : aS} {y : Int32} : Rn sc d 33 15 [a0, a1, a2, a3, .int x4, a5] (.int y :: st) σ r ↔ Rn sc d 33 17 [a0, a1, a2, a3, .int x4, .int y] st σ r := r_istore d33_15 (Nat.le_of_ble_eq_true rfl) rfl
theorem d33_17 : decode (mC 33) 17 = .ok (.iload 5, 2) := by decide +kernel
theorem x33_17 {sc : aSc} {d : Nat} {r : aRes} {a0 : Value} {a1 : Value} {a2 : Value} {a3 : Value} {a4 : Value} {x5 : Int32} {st : List Value} {σ : aS} : Rn sc d 33 17 [a0, a1, a2, a3, a4, .int x5] st σ r ↔ Rn sc d 33 19 [a0, a1, a2, a3, a4, .int x5] (.int x5 :: st) σ r := r_iload d33_17 rfl
theorem d33_19 : decode (mC 33) 19 = .ok (.aload_n 1, 1) := by decide +kernel
theorem x33_19 {sc : aSc} {d : Nat} {r : aRes} {a0 : Value} {x1 : Nat} {a2 : Value} {a3 : Value} {a4 : Value} {a5 : Value} {st : List Value} {σ : aS} : Rn sc d 33 19 [a0, .ref x1, a2, a3, a4, a5] st σ r ↔ Rn sc d 33 20 [a0, .ref x1, a2, a3, a4, a5] (.ref x1 :: st) σ r := r_aload_n d33_19 rfl
theorem d33_20 : decode (mC 33) 20 = .ok (.getfield 32, 3) := by decide +kernel
theorem x33_20 {sc : aSc} {d : Nat} {r : aRes} {L : List Value} {st : List Value} {f : Nat → Nat → Int32} {g : Nat → Nat → Int64} {h1 h2 : Nat} {o : Nat} (h17 : 17 ≤ o) (hK : KK[o]? = some (.inl 1)) : Rn sc d 33 20 L (.ref o :: st) (cS f g h1 h2) r ↔ Rn sc d 33 23 L (.int (f o 0) :: st) (cS f g h1 h2) r := r_getI d33_20 (ci := 1) (k := 0) rfl (by decide) (fun _ => rfl) h17 hK
theorem d33_23 : decode (mC 33) 23 = .ok (.if_icmp .ge 60, 3) := by decide +kernel
theorem x33_23 {sc : aSc} {d : Nat} {r : aRes} {L : List Value} {st : List Value} {σ : aS} {x y : Int32} : Rn sc d 33 23 L (.int y :: .int x :: st) σ r ↔ if x < y then Rn sc d 33 26 L st σ r else Rn sc d 33 83 L st σ r := r_icmp_ge d33_23 rfl
theorem d33_26 : decode (mC 33) 26 = .ok (.aload_n 0, 1) := by decide +kernel
theorem x33_26 {sc : aSc} {d : Nat} {r : aRes} {x0 : Nat} {a1 : Value} {a2 : Value} {a3 : Value} {a4 : Value} {a5 : Value} {st : List Value} {σ : aS} : Rn sc d 33 26 [.ref x0, a1, a2, a3, a4, a5] st σ r ↔ Rn sc d 33 27 [.ref x0, a1, a2, a3, a4, a5] (.ref x0 :: st) σ r := r_aload_n d33_26 rfl
theorem d33_27 : decode (mC 33) 27 = .ok (.getfield 25, 3) := by decide +kernel
theorem x33_27 {sc : aSc} {d : Nat} {r : aRes} {L : List Value} {st : List Value} {f : Nat → Nat → Int32} {g : Nat → Nat → Int64} {h1 h2 : Nat} {o : Nat} (hK : KK[o]? = some (.inl 3)) (hR : (RR h1 h2 o 4).isSome = true) : Rn sc d 33 27 L (.ref o :: st) (cS f g h1 h2) r ↔ Rn sc d 33 30 L (.ref (rf h1 h2 o 4) :: st) (cS f g h1 h2) r := r_getR2 d33_27 (ci := 3) (k := 4) rfl (by decide) (fun _ => rfl) hK hR
theorem d33_30 : decode (mC 33) 30 = .ok (.iload 4, 2) := by decide +kernel
theorem x33_30 {sc : aSc} {d : Nat} {r : aRes} {a0 : Value} {a1 : Value} {a2 : Value} {a3 : Value} {x4 : Int32} {a5 : Value} {st : List Value} {σ : aS} : Rn sc d 33 30 [a0, a1, a2, a3, .int x4, a5] st σ r ↔ Rn sc d 33 32 [a0, a1, a2, a3, .int x4, a5] (.int x4 :: st) σ r := r_iload d33_30 rfl
theorem d33_32 : decode (mC 33) 32 = .ok (.aaload, 1) := by decide +kernel
theorem x33_32 {sc : aSc} {d : Nat} {r : aRes} {L : List Value} {st : List Value} {f : Nat → Nat → Int32} {g : Nat → Nat → Int64} {h1 h2 : Nat} {a : Nat} {i : Int32} (h17 : 17 ≤ a) (hA : isG a) (hi : inb i (aln a) = true) (hR : (RR h1 h2 a i.toNatClampNeg).isSome = true) : Rn sc d 33 32 L (.int i :: .ref a :: st) (cS f g h1 h2) r ↔ Rn sc d 33 33 L (.ref (rf h1 h2 a i.toNatClampNeg) :: st) (cS f g h1 h2) r := r_aald2 d33_32 h17 hA hi hR
theorem d33_33 : decode (mC 33) 33 = .ok (.iload 5, 2) := by decide +kernel
theorem x33_33 {sc : aSc} {d : Nat} {r : aRes} {a0 : Value} {a1 : Value} {a2 : Value} {a3 : Value} {a4 : Value} {x5 : Int32} {st : List Value} {σ : aS} : Rn sc d 33 33 [a0, a1, a2, a3, a4, .int x5] st σ r ↔ Rn sc d 33 35 [a0, a1, a2, a3, a4, .int x5] (.int x5 :: st) σ r := r_iload d33_33 rfl
theorem d33_35 : decode (mC 33) 35 = .ok (.aload_n 1, 1) := by decide +kernel
theorem x33_35 {sc : aSc} {d : Nat} {r : aRes} {a0 : Value} {x1 : Nat} {a2 : Value} {a3 : Value} {a4 : Value} {a5 : Value} {st : List Value} {σ : aS} : Rn sc d 33 35 [a0, .ref x1, a2, a3, a4, a5] st σ r ↔ Rn sc d 33 36 [a0, .ref x1, a2, a3, a4, a5] (.ref x1 :: st) σ r := r_aload_n d33_35 rfl
theorem d33_36 : decode (mC 33) 36 = .ok (.iload 5, 2) := by decide +kernel
theorem x33_36 {sc : aSc} {d : Nat} {r : aRes} {a0 : Value} {a1 : Value} {a2 : Value} {a3 : Value} {a4 : Value} {x5 : Int32} {st : List Value} {σ : aS} : Rn sc d 33 36 [a0, a1, a2, a3, a4, .int x5] st σ r ↔ Rn sc d 33 38 [a0, a1, a2, a3, a4, .int x5] (.int x5 :: st) σ r := r_iload d33_36 rfl
theorem d33_38 : decode (mC 33) 38 = .ok (.iconst 0, 1) := by decide +kernel
theorem x33_38 {sc : aSc} {d : Nat} {r : aRes} {L : List Value} {st : List Value} {σ : aS} : Rn sc d 33 38 L st σ r ↔ Rn sc d 33 39 L (.int 0 :: st) σ r := r_iconst d33_38 (by decide)
theorem d33_39 : decode (mC 33) 39 = .ok (.aload_n 1, 1) := by decide +kernel
theorem x33_39 {sc : aSc} {d : Nat} {r : aRes} {a0 : Value} {x1 : Nat} {a2 : Value} {a3 : Value} {a4 : Value} {a5 : Value} {st : List Value} {σ : aS} : Rn sc d 33 39 [a0, .ref x1, a2, a3, a4, a5] st σ r ↔ Rn sc d 33 40 [a0, .ref x1, a2, a3, a4, a5] (.ref x1 :: st) σ r := r_aload_n d33_39 rfl
theorem d33_40 : decode (mC 33) 40 = .ok (.getfield 37, 3) := by decide +kernel
theorem x33_40 {sc : aSc} {d : Nat} {r : aRes} {L : List Value} {st : List Value} {f : Nat → Nat → Int32} {g : Nat → Nat → Int64} {h1 h2 : Nat} {o : Nat} (h17 : 17 ≤ o) (hK : KK[o]? = some (.inl 1)) : Rn sc d 33 40 L (.ref o :: st) (cS f g h1 h2) r ↔ Rn sc d 33 43 L (.int (f o 1) :: st) (cS f g h1 h2) r := r_getI d33_40 (ci := 1) (k := 1) rfl (by decide) (fun _ => rfl) h17 hK
theorem d33_43 : decode (mC 33) 43 = .ok (.iload 4, 2) := by decide +kernel
theorem x33_43 {sc : aSc} {d : Nat} {r : aRes} {a0 : Value} {a1 : Value} {a2 : Value} {a3 : Value} {x4 : Int32} {a5 : Value} {st : List Value} {σ : aS} : Rn sc d 33 43 [a0, a1, a2, a3, .int x4, a5] st σ r ↔ Rn sc d 33 45 [a0, a1, a2, a3, .int x4, a5] (.int x4 :: st) σ r := r_iload d33_43 rfl
theorem d33_45 : decode (mC 33) 45 = .ok (.iadd, 1) := by decide +kernel
theorem x33_45 {sc : aSc} {d : Nat} {r : aRes} {L : List Value} {st : List Value} {σ : aS} {x y : Int32} : Rn sc d 33 45 L (.int y :: .int x :: st) σ r ↔ Rn sc d 33 46 L (.int (x + y) :: st) σ r := r_iadd d33_45
theorem d33_46 : decode (mC 33) 46 = .ok (.invokevirtual 40, 3) := by decide +kernel
theorem x33_46 {sc : aSc} {d : Nat} {r : aRes} {L : List Value} {f : Nat → Nat → Int32} {g : Nat → Nat → Int64} {h1 h2 : Nat} {y0 : Int32} {y1 : Int32} {y2 : Int32} {z0 : Int32} {z1 : Nat} {o : Nat} (hK : KK[o]? = some (.inl 1)) : Rn sc d 33 46 L [.int y0, .int y1, .int y2, .ref o, .int z0, .ref z1] (cS f g h1 h2) r ↔ ∃ (σ3 : aS) (v : Option Value), Cl sc d 16 [.ref o, .int y2, .int y1, .int y0] (cS f g h1 h2) (σ3, v) ∧ Rn sc d 33 49 L (v.toList ++ [.int z0, .ref z1]) σ3 r := r_callV (vs := [.int y0, .int y1, .int y2]) d33_46 (j := 16) rfl ⟨rfl, by decide, rfl, rfl⟩ (Nat.le_of_ble_eq_true rfl) hK
theorem d33_49 : decode (mC 33) 49 = .ok (.iastore, 1) := by decide +kernel
theorem x33_49 {sc : aSc} {d : Nat} {r : aRes} {L : List Value} {st : List Value} {f : Nat → Nat → Int32} {g : Nat → Nat → Int64} {h1 h2 : Nat} {a : Nat} {i : Int32} {x : Int32} (h17 : 17 ≤ a) (hA : isT9 .int a) (hi : inb i (aln a) = true) : Rn sc d 33 49 L (.int x :: .int i :: .ref a :: st) (cS f g h1 h2) r ↔ Rn sc d 33 50 L st (cS (u2 f a i.toNatClampNeg x) g h1 h2) r := r_iast d33_49 h17 hA hi
theorem d33_50 : decode (mC 33) 50 = .ok (.aload_n 0, 1) := by decide +kernel
theorem x33_50 {sc : aSc} {d : Nat} {r : aRes} {x0 : Nat} {a1 : Value} {a2 : Value} {a3 : Value} {a4 : Value} {a5 : Value} {st : List Value} {σ : aS} : Rn sc d 33 50 [.ref x0, a1, a2, a3, a4, a5] st σ r ↔ Rn sc d 33 51 [.ref x0, a1, a2, a3, a4, a5] (.ref x0 :: st) σ r := r_aload_n d33_50 rfl
theorem d33_51 : decode (mC 33) 51 = .ok (.getfield 25, 3) := by decide +kernel
theorem x33_51 {sc : aSc} {d : Nat} {r : aRes} {L : List Value} {st : List Value} {f : Nat → Nat → Int32} {g : Nat → Nat → Int64} {h1 h2 : Nat} {o : Nat} (hK : KK[o]? = some (.inl 3)) (hR : (RR h1 h2 o 4).isSome = true) : Rn sc d 33 51 L (.ref o :: st) (cS f g h1 h2) r ↔ Rn sc d 33 54 L (.ref (rf h1 h2 o 4) :: st) (cS f g h1 h2) r := r_getR2 d33_51 (ci := 3) (k := 4) rfl (by decide) (fun _ => rfl) hK hR
theorem d33_54 : decode (mC 33) 54 = .ok (.iload 4, 2) := by decide +kernel
theorem x33_54 {sc : aSc} {d : Nat} {r : aRes} {a0 : Value} {a1 : Value} {a2 : Value} {a3 : Value} {x4 : Int32} {a5 : Value} {st : List Value} {σ : aS} : Rn sc d 33 54 [a0, a1, a2, a3, .int x4, a5] st σ r ↔ Rn sc d 33 56 [a0, a1, a2, a3, .int x4, a5] (.int x4 :: st) σ r := r_iload d33_54 rfl
theorem d33_56 : decode (mC 33) 56 = .ok (.aaload, 1) := by decide +kernel
theorem x33_56 {sc : aSc} {d : Nat} {r : aRes} {L : List Value} {st : List Value} {f : Nat → Nat → Int32} {g : Nat → Nat → Int64} {h1 h2 : Nat} {a : Nat} {i : Int32} (h17 : 17 ≤ a) (hA : isG a) (hi : inb i (aln a) = true) (hR : (RR h1 h2 a i.toNatClampNeg).isSome = true) : Rn sc d 33 56 L (.int i :: .ref a :: st) (cS f g h1 h2) r ↔ Rn sc d 33 57 L (.ref (rf h1 h2 a i.toNatClampNeg) :: st) (cS f g h1 h2) r := r_aald2 d33_56 h17 hA hi hR
theorem d33_57 : decode (mC 33) 57 = .ok (.bipush 7, 2) := by decide +kernel
theorem x33_57 {sc : aSc} {d : Nat} {r : aRes} {L : List Value} {st : List Value} {σ : aS} : Rn sc d 33 57 L st σ r ↔ Rn sc d 33 59 L (.int 7 :: st) σ r := r_bipush d33_57 (by decide)
theorem d33_59 : decode (mC 33) 59 = .ok (.iload 5, 2) := by decide +kernel
theorem x33_59 {sc : aSc} {d : Nat} {r : aRes} {a0 : Value} {a1 : Value} {a2 : Value} {a3 : Value} {a4 : Value} {x5 : Int32} {st : List Value} {σ : aS} : Rn sc d 33 59 [a0, a1, a2, a3, a4, .int x5] st σ r ↔ Rn sc d 33 61 [a0, a1, a2, a3, a4, .int x5] (.int x5 :: st) σ r := r_iload d33_59 rfl
theorem d33_61 : decode (mC 33) 61 = .ok (.iadd, 1) := by decide +kernel
theorem x33_61 {sc : aSc} {d : Nat} {r : aRes} {L : List Value} {st : List Value} {σ : aS} {x y : Int32} : Rn sc d 33 61 L (.int y :: .int x :: st) σ r ↔ Rn sc d 33 62 L (.int (x + y) :: st) σ r := r_iadd d33_61
theorem d33_62 : decode (mC 33) 62 = .ok (.aload_n 1, 1) := by decide +kernel
theorem x33_62 {sc : aSc} {d : Nat} {r : aRes} {a0 : Value} {x1 : Nat} {a2 : Value} {a3 : Value} {a4 : Value} {a5 : Value} {st : List Value} {σ : aS} : Rn sc d 33 62 [a0, .ref x1, a2, a3, a4, a5] st σ r ↔ Rn sc d 33 63 [a0, .ref x1, a2, a3, a4, a5] (.ref x1 :: st) σ r := r_aload_n d33_62 rfl
theorem d33_63 : decode (mC 33) 63 = .ok (.iload 5, 2) := by decide +kernel
theorem x33_63 {sc : aSc} {d : Nat} {r : aRes} {a0 : Value} {a1 : Value} {a2 : Value} {a3 : Value} {a4 : Value} {x5 : Int32} {st : List Value} {σ : aS} : Rn sc d 33 63 [a0, a1, a2, a3, a4, .int x5] st σ r ↔ Rn sc d 33 65 [a0, a1, a2, a3, a4, .int x5] (.int x5 :: st) σ r := r_iload d33_63 rfl
theorem d33_65 : decode (mC 33) 65 = .ok (.iconst 1, 1) := by decide +kernel
theorem x33_65 {sc : aSc} {d : Nat} {r : aRes} {L : List Value} {st : List Value} {σ : aS} : Rn sc d 33 65 L st σ r ↔ Rn sc d 33 66 L (.int 1 :: st) σ r := r_iconst d33_65 (by decide)
theorem d33_66 : decode (mC 33) 66 = .ok (.aload_n 1, 1) := by decide +kernel
theorem x33_66 {sc : aSc} {d : Nat} {r : aRes} {a0 : Value} {x1 : Nat} {a2 : Value} {a3 : Value} {a4 : Value} {a5 : Value} {st : List Value} {σ : aS} : Rn sc d 33 66 [a0, .ref x1, a2, a3, a4, a5] st σ r ↔ Rn sc d 33 67 [a0, .ref x1, a2, a3, a4, a5] (.ref x1 :: st) σ r := r_aload_n d33_66 rfl
theorem d33_67 : decode (mC 33) 67 = .ok (.getfield 37, 3) := by decide +kernel
theorem x33_67 {sc : aSc} {d : Nat} {r : aRes} {L : List Value} {st : List Value} {f : Nat → Nat → Int32} {g : Nat → Nat → Int64} {h1 h2 : Nat} {o : Nat} (h17 : 17 ≤ o) (hK : KK[o]? = some (.inl 1)) : Rn sc d 33 67 L (.ref o :: st) (cS f g h1 h2) r ↔ Rn sc d 33 70 L (.int (f o 1) :: st) (cS f g h1 h2) r := r_getI d33_67 (ci := 1) (k := 1) rfl (by decide) (fun _ => rfl) h17 hK
theorem d33_70 : decode (mC 33) 70 = .ok (.iload 4, 2) := by decide +kernel
theorem x33_70 {sc : aSc} {d : Nat} {r : aRes} {a0 : Value} {a1 : Value} {a2 : Value} {a3 : Value} {x4 : Int32} {a5 : Value} {st : List Value} {σ : aS} : Rn sc d 33 70 [a0, a1, a2, a3, .int x4, a5] st σ r ↔ Rn sc d 33 72 [a0, a1, a2, a3, .int x4, a5] (.int x4 :: st) σ r := r_iload d33_70 rfl
theorem d33_72 : decode (mC 33) 72 = .ok (.iadd, 1) := by decide +kernel
theorem x33_72 {sc : aSc} {d : Nat} {r : aRes} {L : List Value} {st : List Value} {σ : aS} {x y : Int32} : Rn sc d 33 72 L (.int y :: .int x :: st) σ r ↔ Rn sc d 33 73 L (.int (x + y) :: st) σ r := r_iadd d33_72
theorem d33_73 : decode (mC 33) 73 = .ok (.invokevirtual 40, 3) := by decide +kernel
theorem x33_73 {sc : aSc} {d : Nat} {r : aRes} {L : List Value} {f : Nat → Nat → Int32} {g : Nat → Nat → Int64} {h1 h2 : Nat} {y0 : Int32} {y1 : Int32} {y2 : Int32} {z0 : Int32} {z1 : Nat} {o : Nat} (hK : KK[o]? = some (.inl 1)) : Rn sc d 33 73 L [.int y0, .int y1, .int y2, .ref o, .int z0, .ref z1] (cS f g h1 h2) r ↔ ∃ (σ3 : aS) (v : Option Value), Cl sc d 16 [.ref o, .int y2, .int y1, .int y0] (cS f g h1 h2) (σ3, v) ∧ Rn sc d 33 76 L (v.toList ++ [.int z0, .ref z1]) σ3 r := r_callV (vs := [.int y0, .int y1, .int y2]) d33_73 (j := 16) rfl ⟨rfl, by decide, rfl, rfl⟩ (Nat.le_of_ble_eq_true rfl) hK
theorem d33_76 : decode (mC 33) 76 = .ok (.iastore, 1) := by decide +kernel
theorem x33_76 {sc : aSc} {d : Nat} {r : aRes} {L : List Value} {st : List Value} {f : Nat → Nat → Int32} {g : Nat → Nat → Int64} {h1 h2 : Nat} {a : Nat} {i : Int32} {x : Int32} (h17 : 17 ≤ a) (hA : isT9 .int a) (hi : inb i (aln a) = true) : Rn sc d 33 76 L (.int x :: .int i :: .ref a :: st) (cS f g h1 h2) r ↔ Rn sc d 33 77 L st (cS (u2 f a i.toNatClampNeg x) g h1 h2) r := r_iast d33_76 h17 hA hi
theorem d33_77 : decode (mC 33) 77 = .ok (.iinc 5 1, 3) := by decide +kernel
theorem x33_77 {sc : aSc} {d : Nat} {r : aRes} {a0 : Value} {a1 : Value} {a2 : Value} {a3 : Value} {x4 : Int32} {x5 : Int32} {st : List Value} {σ : aS} : Rn sc d 33 77 [a0, a1, a2, a3, .int x4, .int x5] st σ r ↔ Rn sc d 33 80 [a0, a1, a2, a3, .int x4, .int (x5 + 1)] st σ r := r_iinc d33_77 (Nat.le_of_ble_eq_true rfl) rfl rfl (by decide)
theorem d33_80 : decode (mC 33) 80 = .ok (.goto (-63), 3) := by decide +kernel
theorem x33_80 {sc : aSc} {d : Nat} {r : aRes} {L : List Value} {st : List Value} {σ : aS} : Rn sc d 33 80 L st σ r ↔ Rn sc d 33 17 L st σ r := r_goto d33_80 rfl
theorem d33_83 : decode (mC 33) 83 = .ok (.iinc 4 1, 3) := by decide +kernel
theorem x33_83 {sc : aSc} {d : Nat} {r : aRes} {a0 : Value} {a1 : Value} {a2 : Value} {x3 : Int32} {x4 : Int32} {a5 : Value} {st : List Value} {σ : aS} : Rn sc d 33 83 [a0, a1, a2, .int x3, .int x4, a5] st σ r ↔ Rn sc d 33 86 [a0, a1, a2, .int x3, .int (x4 + 1), a5] st σ r := r_iinc d33_83 (Nat.le_of_ble_eq_true rfl) rfl rfl (by decide)
theorem d33_86 : decode (mC 33) 86 = .ok (.goto (-78), 3) := by decide +kernel
theorem x33_86 {sc : aSc} {d : Nat} {r : aRes} {L : List Value} {st : List Value} {σ : aS} : Rn sc d 33 86 L st σ r ↔ Rn sc d 33 8 L st σ r := r_goto d33_86 rfl
theorem d33_89 : decode (mC 33) 89 = .ok (.return_, 1) := by decide +kernel
theorem x33_89 {sc : aSc} {d : Nat} {r : aRes} {L : List Value} {σ : aS} : Rn sc d 33 89 L [] σ r ↔ r = (σ, none) := r_vret d33_89 rfl
theorem d34_0 : decode (mC 34) 0 = .ok (.iload_n 0, 1) := by decide +kernel
theorem x34_0 {sc : aSc} {d : Nat} {r : aRes} {x0 : Int32} {st : List Value} {σ : aS} : Rn sc d 34 0 [.int x0] st σ r ↔ Rn sc d 34 1 [.int x0] (.int x0 :: st) σ r := r_iload_n d34_0 rfl
theorem d34_1 : decode (mC 34) 1 = .ok (.bipush 21, 2) := by decide +kernel
theorem x34_1 {sc : aSc} {d : Nat} {r : aRes} {L : List Value} {st : List Value} {σ : aS} : Rn sc d 34 1 L st σ r ↔ Rn sc d 34 3 L (.int 21 :: st) σ r := r_bipush d34_1 (by decide)
theorem d34_3 : decode (mC 34) 3 = .ok (.if_icmp .ne 7, 3) := by decide +kernel
theorem x34_3 {sc : aSc} {d : Nat} {r : aRes} {L : List Value} {st : List Value} {σ : aS} {x y : Int32} : Rn sc d 34 3 L (.int y :: .int x :: st) σ r ↔ if x = y then Rn sc d 34 6 L st σ r else Rn sc d 34 10 L st σ r := r_icmp_ne d34_3 rfl
theorem d34_6 : decode (mC 34) 6 = .ok (.iconst 0, 1) := by decide +kernel
theorem x34_6 {sc : aSc} {d : Nat} {r : aRes} {L : List Value} {st : List Value} {σ : aS} : Rn sc d 34 6 L st σ r ↔ Rn sc d 34 7 L (.int 0 :: st) σ r := r_iconst d34_6 (by decide)
theorem d34_7 : decode (mC 34) 7 = .ok (.goto 18, 3) := by decide +kernel
theorem x34_7 {sc : aSc} {d : Nat} {r : aRes} {L : List Value} {st : List Value} {σ : aS} : Rn sc d 34 7 L st σ r ↔ Rn sc d 34 25 L st σ r := r_goto d34_7 rfl
theorem d34_10 : decode (mC 34) 10 = .ok (.iconst 1, 1) := by decide +kernel
theorem x34_10 {sc : aSc} {d : Nat} {r : aRes} {L : List Value} {st : List Value} {σ : aS} : Rn sc d 34 10 L st σ r ↔ Rn sc d 34 11 L (.int 1 :: st) σ r := r_iconst d34_10 (by decide)
theorem d34_11 : decode (mC 34) 11 = .ok (.getstatic 44, 3) := by decide +kernel
theorem x34_11 {sc : aSc} {d : Nat} {r : aRes} {L : List Value} {st : List Value} {σ : aS} : Rn sc d 34 11 L st σ r ↔ Rn sc d 34 14 L (.ref 2 :: st) σ r := r_getstatic d34_11 (k := 1) rfl
theorem d34_14 : decode (mC 34) 14 = .ok (.iload_n 0, 1) := by decide +kernel
theorem x34_14 {sc : aSc} {d : Nat} {r : aRes} {x0 : Int32} {st : List Value} {σ : aS} : Rn sc d 34 14 [.int x0] st σ r ↔ Rn sc d 34 15 [.int x0] (.int x0 :: st) σ r := r_iload_n d34_14 rfl
theorem d34_15 : decode (mC 34) 15 = .ok (.iaload, 1) := by decide +kernel
theorem x34_15 {sc : aSc} {d : Nat} {r : aRes} {L : List Value} {st : List Value} {f : Nat → Nat → Int32} {g : Nat → Nat → Int64} {h1 h2 : Nat} {a : Nat} {i : Int32} (h17 : 17 ≤ a) (hA : isT9 .int a) (hi : inb i (aln a) = true) : Rn sc d 34 15 L (.int i :: .ref a :: st) (cS f g h1 h2) r ↔ Rn sc d 34 16 L (.int (f a i.toNatClampNeg) :: st) (cS f g h1 h2) r := r_iald d34_15 h17 hA hi
theorem x34_15s {sc : aSc} {d : Nat} {r : aRes} {L : List Value} {st : List Value} {f : Nat → Nat → Int32} {g : Nat → Nat → Int64} {h1 h2 : Nat} {a : Nat} {i : Int32} (h0 : ¬ a = 0) (h17 : a < 17) (hA : isT9 .int a) (hi : inb i (aln a) = true) : Rn sc d 34 15 L (.int i :: .ref a :: st) (cS f g h1 h2) r ↔ Rn sc d 34 16 L (.int (fI a i.toNatClampNeg) :: st) (cS f g h1 h2) r := r_iald0 d34_15 h0 h17 hA hi
theorem d34_16 : decode (mC 34) 16 = .ok (.ishl, 1) := by decide +kernel
theorem x34_16 {sc : aSc} {d : Nat} {r : aRes} {L : List Value} {st : List Value} {σ : aS} {x y : Int32} : Rn sc d 34 16 L (.int y :: .int x :: st) σ r ↔ Rn sc d 34 17 L (.int (x <<< (y &&& 31)) :: st) σ r := r_ishl d34_16
theorem d34_17 : decode (mC 34) 17 = .ok (.iconst 1, 1) := by decide +kernel
theorem x34_17 {sc : aSc} {d : Nat} {r : aRes} {L : List Value} {st : List Value} {σ : aS} : Rn sc d 34 17 L st σ r ↔ Rn sc d 34 18 L (.int 1 :: st) σ r := r_iconst d34_17 (by decide)
theorem d34_18 : decode (mC 34) 18 = .ok (.getstatic 48, 3) := by decide +kernel
theorem x34_18 {sc : aSc} {d : Nat} {r : aRes} {L : List Value} {st : List Value} {σ : aS} : Rn sc d 34 18 L st σ r ↔ Rn sc d 34 21 L (.ref 3 :: st) σ r := r_getstatic d34_18 (k := 2) rfl
theorem d34_21 : decode (mC 34) 21 = .ok (.iload_n 0, 1) := by decide +kernel
theorem x34_21 {sc : aSc} {d : Nat} {r : aRes} {x0 : Int32} {st : List Value} {σ : aS} : Rn sc d 34 21 [.int x0] st σ r ↔ Rn sc d 34 22 [.int x0] (.int x0 :: st) σ r := r_iload_n d34_21 rfl
theorem d34_22 : decode (mC 34) 22 = .ok (.iaload, 1) := by decide +kernel
theorem x34_22 {sc : aSc} {d : Nat} {r : aRes} {L : List Value} {st : List Value} {f : Nat → Nat → Int32} {g : Nat → Nat → Int64} {h1 h2 : Nat} {a : Nat} {i : Int32} (h17 : 17 ≤ a) (hA : isT9 .int a) (hi : inb i (aln a) = true) : Rn sc d 34 22 L (.int i :: .ref a :: st) (cS f g h1 h2) r ↔ Rn sc d 34 23 L (.int (f a i.toNatClampNeg) :: st) (cS f g h1 h2) r := r_iald d34_22 h17 hA hi
theorem x34_22s {sc : aSc} {d : Nat} {r : aRes} {L : List Value} {st : List Value} {f : Nat → Nat → Int32} {g : Nat → Nat → Int64} {h1 h2 : Nat} {a : Nat} {i : Int32} (h0 : ¬ a = 0) (h17 : a < 17) (hA : isT9 .int a) (hi : inb i (aln a) = true) : Rn sc d 34 22 L (.int i :: .ref a :: st) (cS f g h1 h2) r ↔ Rn sc d 34 23 L (.int (fI a i.toNatClampNeg) :: st) (cS f g h1 h2) r := r_iald0 d34_22 h0 h17 hA hi
theorem d34_23 : decode (mC 34) 23 = .ok (.ishl, 1) := by decide +kernel
theorem x34_23 {sc : aSc} {d : Nat} {r : aRes} {L : List Value} {st : List Value} {σ : aS} {x y : Int32} : Rn sc d 34 23 L (.int y :: .int x :: st) σ r ↔ Rn sc d 34 24 L (.int (x <<< (y &&& 31)) :: st) σ r := r_ishl d34_23
theorem d34_24 : decode (mC 34) 24 = .ok (.ior, 1) := by decide +kernel
theorem x34_24 {sc : aSc} {d : Nat} {r : aRes} {L : List Value} {st : List Value} {σ : aS} {x y : Int32} : Rn sc d 34 24 L (.int y :: .int x :: st) σ r ↔ Rn sc d 34 25 L (.int (x ||| y) :: st) σ r := r_ior d34_24
theorem d34_25 : decode (mC 34) 25 = .ok (.ireturn, 1) := by decide +kernel
theorem x34_25 {sc : aSc} {d : Nat} {r : aRes} {L : List Value} {σ : aS} {x : Int32} : Rn sc d 34 25 L [.int x] σ r ↔ r = (σ, some (.int x)) := r_iret d34_25 rfl rfl
theorem d35_0 : decode (mC 35) 0 = .ok (.iload_n 0, 1) := by decide +kernel
theorem x35_0 {sc : aSc} {d : Nat} {r : aRes} {x0 : Int32} {st : List Value} {σ : aS} : Rn sc d 35 0 [.int x0] st σ r ↔ Rn sc d 35 1 [.int x0] (.int x0 :: st) σ r := r_iload_n d35_0 rfl
theorem d35_1 : decode (mC 35) 1 = .ok (.bipush 21, 2) := by decide +kernel
theorem x35_1 {sc : aSc} {d : Nat} {r : aRes} {L : List Value} {st : List Value} {σ : aS} : Rn sc d 35 1 L st σ r ↔ Rn sc d 35 3 L (.int 21 :: st) σ r := r_bipush d35_1 (by decide)
theorem d35_3 : decode (mC 35) 3 = .ok (.if_icmp .ne 8, 3) := by decide +kernel
theorem x35_3 {sc : aSc} {d : Nat} {r : aRes} {L : List Value} {st : List Value} {σ : aS} {x y : Int32} : Rn sc d 35 3 L (.int y :: .int x :: st) σ r ↔ if x = y then Rn sc d 35 6 L st σ r else Rn sc d 35 11 L st σ r := r_icmp_ne d35_3 rfl
theorem d35_6 : decode (mC 35) 6 = .ok (.bipush 99, 2) := by decide +kernel
theorem x35_6 {sc : aSc} {d : Nat} {r : aRes} {L : List Value} {st : List Value} {σ : aS} : Rn sc d 35 6 L st σ r ↔ Rn sc d 35 8 L (.int 99 :: st) σ r := r_bipush d35_6 (by decide)
theorem d35_8 : decode (mC 35) 8 = .ok (.goto 17, 3) := by decide +kernel
theorem x35_8 {sc : aSc} {d : Nat} {r : aRes} {L : List Value} {st : List Value} {σ : aS} : Rn sc d 35 8 L st σ r ↔ Rn sc d 35 25 L st σ r := r_goto d35_8 rfl
theorem d35_11 : decode (mC 35) 11 = .ok (.bipush 10, 2) := by decide +kernel
theorem x35_11 {sc : aSc} {d : Nat} {r : aRes} {L : List Value} {st : List Value} {σ : aS} : Rn sc d 35 11 L st σ r ↔ Rn sc d 35 13 L (.int 10 :: st) σ r := r_bipush d35_11 (by decide)
theorem d35_13 : decode (mC 35) 13 = .ok (.getstatic 44, 3) := by decide +kernel
theorem x35_13 {sc : aSc} {d : Nat} {r : aRes} {L : List Value} {st : List Value} {σ : aS} : Rn sc d 35 13 L st σ r ↔ Rn sc d 35 16 L (.ref 2 :: st) σ r := r_getstatic d35_13 (k := 1) rfl
theorem d35_16 : decode (mC 35) 16 = .ok (.iload_n 0, 1) := by decide +kernel
theorem x35_16 {sc : aSc} {d : Nat} {r : aRes} {x0 : Int32} {st : List Value} {σ : aS} : Rn sc d 35 16 [.int x0] st σ r ↔ Rn sc d 35 17 [.int x0] (.int x0 :: st) σ r := r_iload_n d35_16 rfl
theorem d35_17 : decode (mC 35) 17 = .ok (.iaload, 1) := by decide +kernel
theorem x35_17 {sc : aSc} {d : Nat} {r : aRes} {L : List Value} {st : List Value} {f : Nat → Nat → Int32} {g : Nat → Nat → Int64} {h1 h2 : Nat} {a : Nat} {i : Int32} (h17 : 17 ≤ a) (hA : isT9 .int a) (hi : inb i (aln a) = true) : Rn sc d 35 17 L (.int i :: .ref a :: st) (cS f g h1 h2) r ↔ Rn sc d 35 18 L (.int (f a i.toNatClampNeg) :: st) (cS f g h1 h2) r := r_iald d35_17 h17 hA hi
theorem x35_17s {sc : aSc} {d : Nat} {r : aRes} {L : List Value} {st : List Value} {f : Nat → Nat → Int32} {g : Nat → Nat → Int64} {h1 h2 : Nat} {a : Nat} {i : Int32} (h0 : ¬ a = 0) (h17 : a < 17) (hA : isT9 .int a) (hi : inb i (aln a) = true) : Rn sc d 35 17 L (.int i :: .ref a :: st) (cS f g h1 h2) r ↔ Rn sc d 35 18 L (.int (fI a i.toNatClampNeg) :: st) (cS f g h1 h2) r := r_iald0 d35_17 h0 h17 hA hi
theorem d35_18 : decode (mC 35) 18 = .ok (.imul, 1) := by decide +kernel
theorem x35_18 {sc : aSc} {d : Nat} {r : aRes} {L : List Value} {st : List Value} {σ : aS} {x y : Int32} : Rn sc d 35 18 L (.int y :: .int x :: st) σ r ↔ Rn sc d 35 19 L (.int (x * y) :: st) σ r := r_imul d35_18
theorem d35_19 : decode (mC 35) 19 = .ok (.getstatic 48, 3) := by decide +kernel
theorem x35_19 {sc : aSc} {d : Nat} {r : aRes} {L : List Value} {st : List Value} {σ : aS} : Rn sc d 35 19 L st σ r ↔ Rn sc d 35 22 L (.ref 3 :: st) σ r := r_getstatic d35_19 (k := 2) rfl
theorem d35_22 : decode (mC 35) 22 = .ok (.iload_n 0, 1) := by decide +kernel
theorem x35_22 {sc : aSc} {d : Nat} {r : aRes} {x0 : Int32} {st : List Value} {σ : aS} : Rn sc d 35 22 [.int x0] st σ r ↔ Rn sc d 35 23 [.int x0] (.int x0 :: st) σ r := r_iload_n d35_22 rfl
theorem d35_23 : decode (mC 35) 23 = .ok (.iaload, 1) := by decide +kernel
theorem x35_23 {sc : aSc} {d : Nat} {r : aRes} {L : List Value} {st : List Value} {f : Nat → Nat → Int32} {g : Nat → Nat → Int64} {h1 h2 : Nat} {a : Nat} {i : Int32} (h17 : 17 ≤ a) (hA : isT9 .int a) (hi : inb i (aln a) = true) : Rn sc d 35 23 L (.int i :: .ref a :: st) (cS f g h1 h2) r ↔ Rn sc d 35 24 L (.int (f a i.toNatClampNeg) :: st) (cS f g h1 h2) r := r_iald d35_23 h17 hA hi
theorem x35_23s {sc : aSc} {d : Nat} {r : aRes} {L : List Value} {st : List Value} {f : Nat → Nat → Int32} {g : Nat → Nat → Int64} {h1 h2 : Nat} {a : Nat} {i : Int32} (h0 : ¬ a = 0) (h17 : a < 17) (hA : isT9 .int a) (hi : inb i (aln a) = true) : Rn sc d 35 23 L (.int i :: .ref a :: st) (cS f g h1 h2) r ↔ Rn sc d 35 24 L (.int (fI a i.toNatClampNeg) :: st) (cS f g h1 h2) r := r_iald0 d35_23 h0 h17 hA hi
theorem d35_24 : decode (mC 35) 24 = .ok (.iadd, 1) := by decide +kernel
theorem x35_24 {sc : aSc} {d : Nat} {r : aRes} {L : List Value} {st : List Value} {σ : aS} {x y : Int32} : Rn sc d 35 24 L (.int y :: .int x :: st) σ r ↔ Rn sc d 35 25 L (.int (x + y) :: st) σ r := r_iadd d35_24
theorem d35_25 : decode (mC 35) 25 = .ok (.ireturn, 1) := by decide +kernel
theorem x35_25 {sc : aSc} {d : Nat} {r : aRes} {L : List Value} {σ : aS} {x : Int32} : Rn sc d 35 25 L [.int x] σ r ↔ r = (σ, some (.int x)) := r_iret d35_25 rfl rfl
theorem d36_0 : decode (mC 36) 0 = .ok (.aload_n 0, 1) := by decide +kernel
theorem x36_0 {sc : aSc} {d : Nat} {r : aRes} {x0 : Nat} {a1 : Value} {a2 : Value} {a3 : Value} {st : List Value} {σ : aS} : Rn sc d 36 0 [.ref x0, a1, a2, a3] st σ r ↔ Rn sc d 36 1 [.ref x0, a1, a2, a3] (.ref x0 :: st) σ r := r_aload_n d36_0 rfl
theorem d36_1 : decode (mC 36) 1 = .ok (.getfield 25, 3) := by decide +kernel
theorem x36_1 {sc : aSc} {d : Nat} {r : aRes} {L : List Value} {st : List Value} {f : Nat → Nat → Int32} {g : Nat → Nat → Int64} {h1 h2 : Nat} {o : Nat} (hK : KK[o]? = some (.inl 3)) (hR : (RR h1 h2 o 4).isSome = true) : Rn sc d 36 1 L (.ref o :: st) (cS f g h1 h2) r ↔ Rn sc d 36 4 L (.ref (rf h1 h2 o 4) :: st) (cS f g h1 h2) r := r_getR2 d36_1 (ci := 3) (k := 4) rfl (by decide) (fun _ => rfl) hK hR
theorem d36_4 : decode (mC 36) 4 = .ok (.iload_n 1, 1) := by decide +kernel
theorem x36_4 {sc : aSc} {d : Nat} {r : aRes} {a0 : Value} {x1 : Int32} {a2 : Value} {a3 : Value} {st : List Value} {σ : aS} : Rn sc d 36 4 [a0, .int x1, a2, a3] st σ r ↔ Rn sc d 36 5 [a0, .int x1, a2, a3] (.int x1 :: st) σ r := r_iload_n d36_4 rfl
theorem d36_5 : decode (mC 36) 5 = .ok (.aaload, 1) := by decide +kernel
theorem x36_5 {sc : aSc} {d : Nat} {r : aRes} {L : List Value} {st : List Value} {f : Nat → Nat → Int32} {g : Nat → Nat → Int64} {h1 h2 : Nat} {a : Nat} {i : Int32} (h17 : 17 ≤ a) (hA : isG a) (hi : inb i (aln a) = true) (hR : (RR h1 h2 a i.toNatClampNeg).isSome = true) : Rn sc d 36 5 L (.int i :: .ref a :: st) (cS f g h1 h2) r ↔ Rn sc d 36 6 L (.ref (rf h1 h2 a i.toNatClampNeg) :: st) (cS f g h1 h2) r := r_aald2 d36_5 h17 hA hi hR
theorem d36_6 : decode (mC 36) 6 = .ok (.iload_n 3, 1) := by decide +kernel
theorem x36_6 {sc : aSc} {d : Nat} {r : aRes} {a0 : Value} {a1 : Value} {a2 : Value} {x3 : Int32} {st : List Value} {σ : aS} : Rn sc d 36 6 [a0, a1, a2, .int x3] st σ r ↔ Rn sc d 36 7 [a0, a1, a2, .int x3] (.int x3 :: st) σ r := r_iload_n d36_6 rfl
theorem d36_7 : decode (mC 36) 7 = .ok (.iload_n 2, 1) := by decide +kernel
theorem x36_7 {sc : aSc} {d : Nat} {r : aRes} {a0 : Value} {a1 : Value} {x2 : Int32} {a3 : Value} {st : List Value} {σ : aS} : Rn sc d 36 7 [a0, a1, .int x2, a3] st σ r ↔ Rn sc d 36 8 [a0, a1, .int x2, a3] (.int x2 :: st) σ r := r_iload_n d36_7 rfl
theorem d36_8 : decode (mC 36) 8 = .ok (.ishr, 1) := by decide +kernel
theorem x36_8 {sc : aSc} {d : Nat} {r : aRes} {L : List Value} {st : List Value} {σ : aS} {x y : Int32} : Rn sc d 36 8 L (.int y :: .int x :: st) σ r ↔ Rn sc d 36 9 L (.int (x >>> (y &&& 31)) :: st) σ r := r_ishr d36_8
theorem d36_9 : decode (mC 36) 9 = .ok (.iconst 1, 1) := by decide +kernel
theorem x36_9 {sc : aSc} {d : Nat} {r : aRes} {L : List Value} {st : List Value} {σ : aS} : Rn sc d 36 9 L st σ r ↔ Rn sc d 36 10 L (.int 1 :: st) σ r := r_iconst d36_9 (by decide)
theorem d36_10 : decode (mC 36) 10 = .ok (.iand, 1) := by decide +kernel
theorem x36_10 {sc : aSc} {d : Nat} {r : aRes} {L : List Value} {st : List Value} {σ : aS} {x y : Int32} : Rn sc d 36 10 L (.int y :: .int x :: st) σ r ↔ Rn sc d 36 11 L (.int (x &&& y) :: st) σ r := r_iand d36_10
theorem d36_11 : decode (mC 36) 11 = .ok (.bipush 7, 2) := by decide +kernel
theorem x36_11 {sc : aSc} {d : Nat} {r : aRes} {L : List Value} {st : List Value} {σ : aS} : Rn sc d 36 11 L st σ r ↔ Rn sc d 36 13 L (.int 7 :: st) σ r := r_bipush d36_11 (by decide)
theorem d36_13 : decode (mC 36) 13 = .ok (.imul, 1) := by decide +kernel
theorem x36_13 {sc : aSc} {d : Nat} {r : aRes} {L : List Value} {st : List Value} {σ : aS} {x y : Int32} : Rn sc d 36 13 L (.int y :: .int x :: st) σ r ↔ Rn sc d 36 14 L (.int (x * y) :: st) σ r := r_imul d36_13
theorem d36_14 : decode (mC 36) 14 = .ok (.iload_n 2, 1) := by decide +kernel
theorem x36_14 {sc : aSc} {d : Nat} {r : aRes} {a0 : Value} {a1 : Value} {x2 : Int32} {a3 : Value} {st : List Value} {σ : aS} : Rn sc d 36 14 [a0, a1, .int x2, a3] st σ r ↔ Rn sc d 36 15 [a0, a1, .int x2, a3] (.int x2 :: st) σ r := r_iload_n d36_14 rfl
theorem d36_15 : decode (mC 36) 15 = .ok (.iadd, 1) := by decide +kernel
theorem x36_15 {sc : aSc} {d : Nat} {r : aRes} {L : List Value} {st : List Value} {σ : aS} {x y : Int32} : Rn sc d 36 15 L (.int y :: .int x :: st) σ r ↔ Rn sc d 36 16 L (.int (x + y) :: st) σ r := r_iadd d36_15
theorem d36_16 : decode (mC 36) 16 = .ok (.iaload, 1) := by decide +kernel
theorem x36_16 {sc : aSc} {d : Nat} {r : aRes} {L : List Value} {st : List Value} {f : Nat → Nat → Int32} {g : Nat → Nat → Int64} {h1 h2 : Nat} {a : Nat} {i : Int32} (h17 : 17 ≤ a) (hA : isT9 .int a) (hi : inb i (aln a) = true) : Rn sc d 36 16 L (.int i :: .ref a :: st) (cS f g h1 h2) r ↔ Rn sc d 36 17 L (.int (f a i.toNatClampNeg) :: st) (cS f g h1 h2) r := r_iald d36_16 h17 hA hi
theorem x36_16s {sc : aSc} {d : Nat} {r : aRes} {L : List Value} {st : List Value} {f : Nat → Nat → Int32} {g : Nat → Nat → Int64} {h1 h2 : Nat} {a : Nat} {i : Int32} (h0 : ¬ a = 0) (h17 : a < 17) (hA : isT9 .int a) (hi : inb i (aln a) = true) : Rn sc d 36 16 L (.int i :: .ref a :: st) (cS f g h1 h2) r ↔ Rn sc d 36 17 L (.int (fI a i.toNatClampNeg) :: st) (cS f g h1 h2) r := r_iald0 d36_16 h0 h17 hA hi
theorem d36_17 : decode (mC 36) 17 = .ok (.ireturn, 1) := by decide +kernel
theorem x36_17 {sc : aSc} {d : Nat} {r : aRes} {L : List Value} {σ : aS} {x : Int32} : Rn sc d 36 17 L [.int x] σ r ↔ r = (σ, some (.int x)) := r_iret d36_17 rfl rfl
theorem d37_0 : decode (mC 37) 0 = .ok (.iload_n 3, 1) := by decide +kernel
theorem x37_0 {sc : aSc} {d : Nat} {r : aRes} {a0 : Value} {a1 : Value} {a2 : Value} {x3 : Int32} {st : List Value} {σ : aS} : Rn sc d 37 0 [a0, a1, a2, .int x3] st σ r ↔ Rn sc d 37 1 [a0, a1, a2, .int x3] (.int x3 :: st) σ r := r_iload_n d37_0 rfl
theorem d37_1 : decode (mC 37) 1 = .ok (.bipush 21, 2) := by decide +kernel
theorem x37_1 {sc : aSc} {d : Nat} {r : aRes} {L : List Value} {st : List Value} {σ : aS} : Rn sc d 37 1 L st σ r ↔ Rn sc d 37 3 L (.int 21 :: st) σ r := r_bipush d37_1 (by decide)
theorem d37_3 : decode (mC 37) 3 = .ok (.if_icmp .ne 7, 3) := by decide +kernel
theorem x37_3 {sc : aSc} {d : Nat} {r : aRes} {L : List Value} {st : List Value} {σ : aS} {x y : Int32} : Rn sc d 37 3 L (.int y :: .int x :: st) σ r ↔ if x = y then Rn sc d 37 6 L st σ r else Rn sc d 37 10 L st σ r := r_icmp_ne d37_3 rfl
theorem d37_6 : decode (mC 37) 6 = .ok (.iconst 0, 1) := by decide +kernel
theorem x37_6 {sc : aSc} {d : Nat} {r : aRes} {L : List Value} {st : List Value} {σ : aS} : Rn sc d 37 6 L st σ r ↔ Rn sc d 37 7 L (.int 0 :: st) σ r := r_iconst d37_6 (by decide)
theorem d37_7 : decode (mC 37) 7 = .ok (.goto 26, 3) := by decide +kernel
theorem x37_7 {sc : aSc} {d : Nat} {r : aRes} {L : List Value} {st : List Value} {σ : aS} : Rn sc d 37 7 L st σ r ↔ Rn sc d 37 33 L st σ r := r_goto d37_7 rfl
theorem d37_10 : decode (mC 37) 10 = .ok (.aload_n 0, 1) := by decide +kernel
theorem x37_10 {sc : aSc} {d : Nat} {r : aRes} {x0 : Nat} {a1 : Value} {a2 : Value} {a3 : Value} {st : List Value} {σ : aS} : Rn sc d 37 10 [.ref x0, a1, a2, a3] st σ r ↔ Rn sc d 37 11 [.ref x0, a1, a2, a3] (.ref x0 :: st) σ r := r_aload_n d37_10 rfl
theorem d37_11 : decode (mC 37) 11 = .ok (.iload_n 1, 1) := by decide +kernel
theorem x37_11 {sc : aSc} {d : Nat} {r : aRes} {a0 : Value} {x1 : Int32} {a2 : Value} {a3 : Value} {st : List Value} {σ : aS} : Rn sc d 37 11 [a0, .int x1, a2, a3] st σ r ↔ Rn sc d 37 12 [a0, .int x1, a2, a3] (.int x1 :: st) σ r := r_iload_n d37_11 rfl
theorem d37_12 : decode (mC 37) 12 = .ok (.getstatic 44, 3) := by decide +kernel
theorem x37_12 {sc : aSc} {d : Nat} {r : aRes} {L : List Value} {st : List Value} {σ : aS} : Rn sc d 37 12 L st σ r ↔ Rn sc d 37 15 L (.ref 2 :: st) σ r := r_getstatic d37_12 (k := 1) rfl
theorem d37_15 : decode (mC 37) 15 = .ok (.iload_n 3, 1) := by decide +kernel
theorem x37_15 {sc : aSc} {d : Nat} {r : aRes} {a0 : Value} {a1 : Value} {a2 : Value} {x3 : Int32} {st : List Value} {σ : aS} : Rn sc d 37 15 [a0, a1, a2, .int x3] st σ r ↔ Rn sc d 37 16 [a0, a1, a2, .int x3] (.int x3 :: st) σ r := r_iload_n d37_15 rfl
theorem d37_16 : decode (mC 37) 16 = .ok (.iaload, 1) := by decide +kernel
theorem x37_16 {sc : aSc} {d : Nat} {r : aRes} {L : List Value} {st : List Value} {f : Nat → Nat → Int32} {g : Nat → Nat → Int64} {h1 h2 : Nat} {a : Nat} {i : Int32} (h17 : 17 ≤ a) (hA : isT9 .int a) (hi : inb i (aln a) = true) : Rn sc d 37 16 L (.int i :: .ref a :: st) (cS f g h1 h2) r ↔ Rn sc d 37 17 L (.int (f a i.toNatClampNeg) :: st) (cS f g h1 h2) r := r_iald d37_16 h17 hA hi
theorem x37_16s {sc : aSc} {d : Nat} {r : aRes} {L : List Value} {st : List Value} {f : Nat → Nat → Int32} {g : Nat → Nat → Int64} {h1 h2 : Nat} {a : Nat} {i : Int32} (h0 : ¬ a = 0) (h17 : a < 17) (hA : isT9 .int a) (hi : inb i (aln a) = true) : Rn sc d 37 16 L (.int i :: .ref a :: st) (cS f g h1 h2) r ↔ Rn sc d 37 17 L (.int (fI a i.toNatClampNeg) :: st) (cS f g h1 h2) r := r_iald0 d37_16 h0 h17 hA hi
theorem d37_17 : decode (mC 37) 17 = .ok (.iload_n 2, 1) := by decide +kernel
theorem x37_17 {sc : aSc} {d : Nat} {r : aRes} {a0 : Value} {a1 : Value} {x2 : Int32} {a3 : Value} {st : List Value} {σ : aS} : Rn sc d 37 17 [a0, a1, .int x2, a3] st σ r ↔ Rn sc d 37 18 [a0, a1, .int x2, a3] (.int x2 :: st) σ r := r_iload_n d37_17 rfl
theorem d37_18 : decode (mC 37) 18 = .ok (.invokevirtual 51, 3) := by decide +kernel
theorem x37_18 {sc : aSc} {d : Nat} {r : aRes} {L : List Value} {f : Nat → Nat → Int32} {g : Nat → Nat → Int64} {h1 h2 : Nat} {y0 : Int32} {y1 : Int32} {y2 : Int32}  {o : Nat} (hK : KK[o]? = some (.inl 3)) : Rn sc d 37 18 L [.int y0, .int y1, .int y2, .ref o] (cS f g h1 h2) r ↔ ∃ (σ3 : aS) (v : Option Value), Cl sc d 36 [.ref o, .int y2, .int y1, .int y0] (cS f g h1 h2) (σ3, v) ∧ Rn sc d 37 21 L (v.toList ++ []) σ3 r := r_callV (vs := [.int y0, .int y1, .int y2]) d37_18 (j := 36) rfl ⟨rfl, by decide, rfl, rfl⟩ (Nat.le_of_ble_eq_true rfl) hK
theorem d37_21 : decode (mC 37) 21 = .ok (.aload_n 0, 1) := by decide +kernel
theorem x37_21 {sc : aSc} {d : Nat} {r : aRes} {x0 : Nat} {a1 : Value} {a2 : Value} {a3 : Value} {st : List Value} {σ : aS} : Rn sc d 37 21 [.ref x0, a1, a2, a3] st σ r ↔ Rn sc d 37 22 [.ref x0, a1, a2, a3] (.ref x0 :: st) σ r := r_aload_n d37_21 rfl
theorem d37_22 : decode (mC 37) 22 = .ok (.iload_n 1, 1) := by decide +kernel
theorem x37_22 {sc : aSc} {d : Nat} {r : aRes} {a0 : Value} {x1 : Int32} {a2 : Value} {a3 : Value} {st : List Value} {σ : aS} : Rn sc d 37 22 [a0, .int x1, a2, a3] st σ r ↔ Rn sc d 37 23 [a0, .int x1, a2, a3] (.int x1 :: st) σ r := r_iload_n d37_22 rfl
theorem d37_23 : decode (mC 37) 23 = .ok (.getstatic 48, 3) := by decide +kernel
theorem x37_23 {sc : aSc} {d : Nat} {r : aRes} {L : List Value} {st : List Value} {σ : aS} : Rn sc d 37 23 L st σ r ↔ Rn sc d 37 26 L (.ref 3 :: st) σ r := r_getstatic d37_23 (k := 2) rfl
theorem d37_26 : decode (mC 37) 26 = .ok (.iload_n 3, 1) := by decide +kernel
theorem x37_26 {sc : aSc} {d : Nat} {r : aRes} {a0 : Value} {a1 : Value} {a2 : Value} {x3 : Int32} {st : List Value} {σ : aS} : Rn sc d 37 26 [a0, a1, a2, .int x3] st σ r ↔ Rn sc d 37 27 [a0, a1, a2, .int x3] (.int x3 :: st) σ r := r_iload_n d37_26 rfl
theorem d37_27 : decode (mC 37) 27 = .ok (.iaload, 1) := by decide +kernel
theorem x37_27 {sc : aSc} {d : Nat} {r : aRes} {L : List Value} {st : List Value} {f : Nat → Nat → Int32} {g : Nat → Nat → Int64} {h1 h2 : Nat} {a : Nat} {i : Int32} (h17 : 17 ≤ a) (hA : isT9 .int a) (hi : inb i (aln a) = true) : Rn sc d 37 27 L (.int i :: .ref a :: st) (cS f g h1 h2) r ↔ Rn sc d 37 28 L (.int (f a i.toNatClampNeg) :: st) (cS f g h1 h2) r := r_iald d37_27 h17 hA hi
theorem x37_27s {sc : aSc} {d : Nat} {r : aRes} {L : List Value} {st : List Value} {f : Nat → Nat → Int32} {g : Nat → Nat → Int64} {h1 h2 : Nat} {a : Nat} {i : Int32} (h0 : ¬ a = 0) (h17 : a < 17) (hA : isT9 .int a) (hi : inb i (aln a) = true) : Rn sc d 37 27 L (.int i :: .ref a :: st) (cS f g h1 h2) r ↔ Rn sc d 37 28 L (.int (fI a i.toNatClampNeg) :: st) (cS f g h1 h2) r := r_iald0 d37_27 h0 h17 hA hi
theorem d37_28 : decode (mC 37) 28 = .ok (.iload_n 2, 1) := by decide +kernel
theorem x37_28 {sc : aSc} {d : Nat} {r : aRes} {a0 : Value} {a1 : Value} {x2 : Int32} {a3 : Value} {st : List Value} {σ : aS} : Rn sc d 37 28 [a0, a1, .int x2, a3] st σ r ↔ Rn sc d 37 29 [a0, a1, .int x2, a3] (.int x2 :: st) σ r := r_iload_n d37_28 rfl
theorem d37_29 : decode (mC 37) 29 = .ok (.invokevirtual 51, 3) := by decide +kernel
theorem x37_29 {sc : aSc} {d : Nat} {r : aRes} {L : List Value} {f : Nat → Nat → Int32} {g : Nat → Nat → Int64} {h1 h2 : Nat} {y0 : Int32} {y1 : Int32} {y2 : Int32} {z0 : Int32} {o : Nat} (hK : KK[o]? = some (.inl 3)) : Rn sc d 37 29 L [.int y0, .int y1, .int y2, .ref o, .int z0] (cS f g h1 h2) r ↔ ∃ (σ3 : aS) (v : Option Value), Cl sc d 36 [.ref o, .int y2, .int y1, .int y0] (cS f g h1 h2) (σ3, v) ∧ Rn sc d 37 32 L (v.toList ++ [.int z0]) σ3 r := r_callV (vs := [.int y0, .int y1, .int y2]) d37_29 (j := 36) rfl ⟨rfl, by decide, rfl, rfl⟩ (Nat.le_of_ble_eq_true rfl) hK
theorem d37_32 : decode (mC 37) 32 = .ok (.iadd, 1) := by decide +kernel
theorem x37_32 {sc : aSc} {d : Nat} {r : aRes} {L : List Value} {st : List Value} {σ : aS} {x y : Int32} : Rn sc d 37 32 L (.int y :: .int x :: st) σ r ↔ Rn sc d 37 33 L (.int (x + y) :: st) σ r := r_iadd d37_32
theorem d37_33 : decode (mC 37) 33 = .ok (.ireturn, 1) := by decide +kernel
theorem x37_33 {sc : aSc} {d : Nat} {r : aRes} {L : List Value} {σ : aS} {x : Int32} : Rn sc d 37 33 L [.int x] σ r ↔ r = (σ, some (.int x)) := r_iret d37_33 rfl rfl
theorem d38_0 : decode (mC 38) 0 = .ok (.iload 4, 2) := by decide +kernel
theorem x38_0 {sc : aSc} {d : Nat} {r : aRes} {a0 : Value} {a1 : Value} {a2 : Value} {a3 : Value} {x4 : Int32} {a5 : Value} {st : List Value} {σ : aS} : Rn sc d 38 0 [a0, a1, a2, a3, .int x4, a5] st σ r ↔ Rn sc d 38 2 [a0, a1, a2, a3, .int x4, a5] (.int x4 :: st) σ r := r_iload d38_0 rfl
theorem d38_2 : decode (mC 38) 2 = .ok (.invokestatic 54, 3) := by decide +kernel
theorem x38_2 {sc : aSc} {d : Nat} {r : aRes} {L : List Value} {σ : aS} {y0 : Int32}  : Rn sc d 38 2 L [.int y0] σ r ↔ ∃ (σ3 : aS) (v : Option Value), Cl sc d 34 [.int y0] σ (σ3, v) ∧ Rn sc d 38 5 L (v.toList ++ []) σ3 r := r_callS (vs := [.int y0]) d38_2 rfl (j := 34) rfl ⟨rfl, by decide, rfl, rfl⟩ (Nat.le_of_ble_eq_true rfl)
theorem d38_5 : decode (mC 38) 5 = .ok (.istore 5, 2) := by decide +kernel
theorem x38_5 {sc : aSc} {d : Nat} {r : aRes} {a0 : Value} {a1 : Value} {a2 : Value} {a3 : Value} {x4 : Int32} {a5 : Value} {st : List Value} {σ : aS} {y : Int32} : Rn sc d 38 5 [a0, a1, a2, a3, .int x4, a5] (.int y :: st) σ r ↔ Rn sc d 38 7 [a0, a1, a2, a3, .int x4, .int y] st σ r := r_istore d38_5 (Nat.le_of_ble_eq_true rfl) rfl
theorem d38_7 : decode (mC 38) 7 = .ok (.iload 5, 2) := by decide +kernel
theorem x38_7 {sc : aSc} {d : Nat} {r : aRes} {a0 : Value} {a1 : Value} {a2 : Value} {a3 : Value} {a4 : Value} {x5 : Int32} {st : List Value} {σ : aS} : Rn sc d 38 7 [a0, a1, a2, a3, a4, .int x5] st σ r ↔ Rn sc d 38 9 [a0, a1, a2, a3, a4, .int x5] (.int x5 :: st) σ r := r_iload d38_7 rfl
theorem d38_9 : decode (mC 38) 9 = .ok (.aload_n 0, 1) := by decide +kernel
theorem x38_9 {sc : aSc} {d : Nat} {r : aRes} {x0 : Nat} {a1 : Value} {a2 : Value} {a3 : Value} {a4 : Value} {a5 : Value} {st : List Value} {σ : aS} : Rn sc d 38 9 [.ref x0, a1, a2, a3, a4, a5] st σ r ↔ Rn sc d 38 10 [.ref x0, a1, a2, a3, a4, a5] (.ref x0 :: st) σ r := r_aload_n d38_9 rfl
theorem d38_10 : decode (mC 38) 10 = .ok (.getfield 28, 3) := by decide +kernel
theorem x38_10 {sc : aSc} {d : Nat} {r : aRes} {L : List Value} {st : List Value} {f : Nat → Nat → Int32} {g : Nat → Nat → Int64} {h1 h2 : Nat} {o : Nat} (h17 : 17 ≤ o) (hK : KK[o]? = some (.inl 3)) : Rn sc d 38 10 L (.ref o :: st) (cS f g h1 h2) r ↔ Rn sc d 38 13 L (.int (f o 5) :: st) (cS f g h1 h2) r := r_getI d38_10 (ci := 3) (k := 5) rfl (by decide) (fun _ => rfl) h17 hK
theorem d38_13 : decode (mC 38) 13 = .ok (.iconst (-1), 1) := by decide +kernel
theorem x38_13 {sc : aSc} {d : Nat} {r : aRes} {L : List Value} {st : List Value} {σ : aS} : Rn sc d 38 13 L st σ r ↔ Rn sc d 38 14 L (.int (-1) :: st) σ r := r_iconst d38_13 (by decide)
theorem d38_14 : decode (mC 38) 14 = .ok (.ixor, 1) := by decide +kernel
theorem x38_14 {sc : aSc} {d : Nat} {r : aRes} {L : List Value} {st : List Value} {σ : aS} {x y : Int32} : Rn sc d 38 14 L (.int y :: .int x :: st) σ r ↔ Rn sc d 38 15 L (.int (x ^^^ y) :: st) σ r := r_ixor d38_14
theorem d38_15 : decode (mC 38) 15 = .ok (.iand, 1) := by decide +kernel
theorem x38_15 {sc : aSc} {d : Nat} {r : aRes} {L : List Value} {st : List Value} {σ : aS} {x y : Int32} : Rn sc d 38 15 L (.int y :: .int x :: st) σ r ↔ Rn sc d 38 16 L (.int (x &&& y) :: st) σ r := r_iand d38_15
theorem d38_16 : decode (mC 38) 16 = .ok (.ifCond .ne 52, 3) := by decide +kernel
theorem x38_16 {sc : aSc} {d : Nat} {r : aRes} {L : List Value} {st : List Value} {σ : aS} {x : Int32} : Rn sc d 38 16 L (.int x :: st) σ r ↔ if x = 0 then Rn sc d 38 19 L st σ r else Rn sc d 38 68 L st σ r := r_if_ne d38_16 rfl
theorem d38_19 : decode (mC 38) 19 = .ok (.iload 5, 2) := by decide +kernel
theorem x38_19 {sc : aSc} {d : Nat} {r : aRes} {a0 : Value} {a1 : Value} {a2 : Value} {a3 : Value} {a4 : Value} {x5 : Int32} {st : List Value} {σ : aS} : Rn sc d 38 19 [a0, a1, a2, a3, a4, .int x5] st σ r ↔ Rn sc d 38 21 [a0, a1, a2, a3, a4, .int x5] (.int x5 :: st) σ r := r_iload d38_19 rfl
theorem d38_21 : decode (mC 38) 21 = .ok (.iload_n 3, 1) := by decide +kernel
theorem x38_21 {sc : aSc} {d : Nat} {r : aRes} {a0 : Value} {a1 : Value} {a2 : Value} {x3 : Int32} {a4 : Value} {a5 : Value} {st : List Value} {σ : aS} : Rn sc d 38 21 [a0, a1, a2, .int x3, a4, a5] st σ r ↔ Rn sc d 38 22 [a0, a1, a2, .int x3, a4, a5] (.int x3 :: st) σ r := r_iload_n d38_21 rfl
theorem d38_22 : decode (mC 38) 22 = .ok (.iand, 1) := by decide +kernel
theorem x38_22 {sc : aSc} {d : Nat} {r : aRes} {L : List Value} {st : List Value} {σ : aS} {x y : Int32} : Rn sc d 38 22 L (.int y :: .int x :: st) σ r ↔ Rn sc d 38 23 L (.int (x &&& y) :: st) σ r := r_iand d38_22
theorem d38_23 : decode (mC 38) 23 = .ok (.invokestatic 58, 3) := by decide +kernel
theorem x38_23 {sc : aSc} {d : Nat} {r : aRes} {L : List Value} {σ : aS} {y0 : Int32}  : Rn sc d 38 23 L [.int y0] σ r ↔ ∃ (σ3 : aS) (v : Option Value), Cl sc d 210 [.int y0] σ (σ3, v) ∧ Rn sc d 38 26 L (v.toList ++ []) σ3 r := r_callS (vs := [.int y0]) d38_23 rfl (j := 210) rfl ⟨rfl, by decide, rfl, rfl⟩ (Nat.le_of_ble_eq_true rfl)
theorem d38_26 : decode (mC 38) 26 = .ok (.iconst 1, 1) := by decide +kernel
theorem x38_26 {sc : aSc} {d : Nat} {r : aRes} {L : List Value} {st : List Value} {σ : aS} : Rn sc d 38 26 L st σ r ↔ Rn sc d 38 27 L (.int 1 :: st) σ r := r_iconst d38_26 (by decide)
theorem d38_27 : decode (mC 38) 27 = .ok (.if_icmp .ne 41, 3) := by decide +kernel
theorem x38_27 {sc : aSc} {d : Nat} {r : aRes} {L : List Value} {st : List Value} {σ : aS} {x y : Int32} : Rn sc d 38 27 L (.int y :: .int x :: st) σ r ↔ if x = y then Rn sc d 38 30 L st σ r else Rn sc d 38 68 L st σ r := r_icmp_ne d38_27 rfl
theorem d38_30 : decode (mC 38) 30 = .ok (.aload_n 1, 1) := by decide +kernel
theorem x38_30 {sc : aSc} {d : Nat} {r : aRes} {a0 : Value} {x1 : Nat} {a2 : Value} {a3 : Value} {a4 : Value} {a5 : Value} {st : List Value} {σ : aS} : Rn sc d 38 30 [a0, .ref x1, a2, a3, a4, a5] st σ r ↔ Rn sc d 38 31 [a0, .ref x1, a2, a3, a4, a5] (.ref x1 :: st) σ r := r_aload_n d38_30 rfl
theorem d38_31 : decode (mC 38) 31 = .ok (.getfield 63, 3) := by decide +kernel
theorem x38_31 {sc : aSc} {d : Nat} {r : aRes} {L : List Value} {st : List Value} {f : Nat → Nat → Int32} {g : Nat → Nat → Int64} {h1 h2 : Nat} {o : Nat} (hK : KK[o]? = some (.inl 1)) (hR : (RR h1 h2 o 17).isSome = true) : Rn sc d 38 31 L (.ref o :: st) (cS f g h1 h2) r ↔ Rn sc d 38 34 L (.ref (rf h1 h2 o 17) :: st) (cS f g h1 h2) r := r_getR2 d38_31 (ci := 1) (k := 17) rfl (by decide) (fun _ => rfl) hK hR
theorem d38_34 : decode (mC 38) 34 = .ok (.aload_n 0, 1) := by decide +kernel
theorem x38_34 {sc : aSc} {d : Nat} {r : aRes} {x0 : Nat} {a1 : Value} {a2 : Value} {a3 : Value} {a4 : Value} {a5 : Value} {st : List Value} {σ : aS} : Rn sc d 38 34 [.ref x0, a1, a2, a3, a4, a5] st σ r ↔ Rn sc d 38 35 [.ref x0, a1, a2, a3, a4, a5] (.ref x0 :: st) σ r := r_aload_n d38_34 rfl
theorem d38_35 : decode (mC 38) 35 = .ok (.iload_n 2, 1) := by decide +kernel
theorem x38_35 {sc : aSc} {d : Nat} {r : aRes} {a0 : Value} {a1 : Value} {x2 : Int32} {a3 : Value} {a4 : Value} {a5 : Value} {st : List Value} {σ : aS} : Rn sc d 38 35 [a0, a1, .int x2, a3, a4, a5] st σ r ↔ Rn sc d 38 36 [a0, a1, .int x2, a3, a4, a5] (.int x2 :: st) σ r := r_iload_n d38_35 rfl
theorem d38_36 : decode (mC 38) 36 = .ok (.getstatic 44, 3) := by decide +kernel
theorem x38_36 {sc : aSc} {d : Nat} {r : aRes} {L : List Value} {st : List Value} {σ : aS} : Rn sc d 38 36 L st σ r ↔ Rn sc d 38 39 L (.ref 2 :: st) σ r := r_getstatic d38_36 (k := 1) rfl
theorem d38_39 : decode (mC 38) 39 = .ok (.iload 4, 2) := by decide +kernel
theorem x38_39 {sc : aSc} {d : Nat} {r : aRes} {a0 : Value} {a1 : Value} {a2 : Value} {a3 : Value} {x4 : Int32} {a5 : Value} {st : List Value} {σ : aS} : Rn sc d 38 39 [a0, a1, a2, a3, .int x4, a5] st σ r ↔ Rn sc d 38 41 [a0, a1, a2, a3, .int x4, a5] (.int x4 :: st) σ r := r_iload d38_39 rfl
theorem d38_41 : decode (mC 38) 41 = .ok (.iaload, 1) := by decide +kernel
theorem x38_41 {sc : aSc} {d : Nat} {r : aRes} {L : List Value} {st : List Value} {f : Nat → Nat → Int32} {g : Nat → Nat → Int64} {h1 h2 : Nat} {a : Nat} {i : Int32} (h17 : 17 ≤ a) (hA : isT9 .int a) (hi : inb i (aln a) = true) : Rn sc d 38 41 L (.int i :: .ref a :: st) (cS f g h1 h2) r ↔ Rn sc d 38 42 L (.int (f a i.toNatClampNeg) :: st) (cS f g h1 h2) r := r_iald d38_41 h17 hA hi
theorem x38_41s {sc : aSc} {d : Nat} {r : aRes} {L : List Value} {st : List Value} {f : Nat → Nat → Int32} {g : Nat → Nat → Int64} {h1 h2 : Nat} {a : Nat} {i : Int32} (h0 : ¬ a = 0) (h17 : a < 17) (hA : isT9 .int a) (hi : inb i (aln a) = true) : Rn sc d 38 41 L (.int i :: .ref a :: st) (cS f g h1 h2) r ↔ Rn sc d 38 42 L (.int (fI a i.toNatClampNeg) :: st) (cS f g h1 h2) r := r_iald0 d38_41 h0 h17 hA hi
theorem d38_42 : decode (mC 38) 42 = .ok (.iload_n 3, 1) := by decide +kernel
theorem x38_42 {sc : aSc} {d : Nat} {r : aRes} {a0 : Value} {a1 : Value} {a2 : Value} {x3 : Int32} {a4 : Value} {a5 : Value} {st : List Value} {σ : aS} : Rn sc d 38 42 [a0, a1, a2, .int x3, a4, a5] st σ r ↔ Rn sc d 38 43 [a0, a1, a2, .int x3, a4, a5] (.int x3 :: st) σ r := r_iload_n d38_42 rfl
theorem d38_43 : decode (mC 38) 43 = .ok (.invokevirtual 51, 3) := by decide +kernel
theorem x38_43 {sc : aSc} {d : Nat} {r : aRes} {L : List Value} {f : Nat → Nat → Int32} {g : Nat → Nat → Int64} {h1 h2 : Nat} {y0 : Int32} {y1 : Int32} {y2 : Int32} {z0 : Nat} {o : Nat} (hK : KK[o]? = some (.inl 3)) : Rn sc d 38 43 L [.int y0, .int y1, .int y2, .ref o, .ref z0] (cS f g h1 h2) r ↔ ∃ (σ3 : aS) (v : Option Value), Cl sc d 36 [.ref o, .int y2, .int y1, .int y0] (cS f g h1 h2) (σ3, v) ∧ Rn sc d 38 46 L (v.toList ++ [.ref z0]) σ3 r := r_callV (vs := [.int y0, .int y1, .int y2]) d38_43 (j := 36) rfl ⟨rfl, by decide, rfl, rfl⟩ (Nat.le_of_ble_eq_true rfl) hK
theorem d38_46 : decode (mC 38) 46 = .ok (.aload_n 0, 1) := by decide +kernel
theorem x38_46 {sc : aSc} {d : Nat} {r : aRes} {x0 : Nat} {a1 : Value} {a2 : Value} {a3 : Value} {a4 : Value} {a5 : Value} {st : List Value} {σ : aS} : Rn sc d 38 46 [.ref x0, a1, a2, a3, a4, a5] st σ r ↔ Rn sc d 38 47 [.ref x0, a1, a2, a3, a4, a5] (.ref x0 :: st) σ r := r_aload_n d38_46 rfl
theorem d38_47 : decode (mC 38) 47 = .ok (.iload_n 2, 1) := by decide +kernel
theorem x38_47 {sc : aSc} {d : Nat} {r : aRes} {a0 : Value} {a1 : Value} {x2 : Int32} {a3 : Value} {a4 : Value} {a5 : Value} {st : List Value} {σ : aS} : Rn sc d 38 47 [a0, a1, .int x2, a3, a4, a5] st σ r ↔ Rn sc d 38 48 [a0, a1, .int x2, a3, a4, a5] (.int x2 :: st) σ r := r_iload_n d38_47 rfl
theorem d38_48 : decode (mC 38) 48 = .ok (.getstatic 48, 3) := by decide +kernel
theorem x38_48 {sc : aSc} {d : Nat} {r : aRes} {L : List Value} {st : List Value} {σ : aS} : Rn sc d 38 48 L st σ r ↔ Rn sc d 38 51 L (.ref 3 :: st) σ r := r_getstatic d38_48 (k := 2) rfl
theorem d38_51 : decode (mC 38) 51 = .ok (.iload 4, 2) := by decide +kernel
theorem x38_51 {sc : aSc} {d : Nat} {r : aRes} {a0 : Value} {a1 : Value} {a2 : Value} {a3 : Value} {x4 : Int32} {a5 : Value} {st : List Value} {σ : aS} : Rn sc d 38 51 [a0, a1, a2, a3, .int x4, a5] st σ r ↔ Rn sc d 38 53 [a0, a1, a2, a3, .int x4, a5] (.int x4 :: st) σ r := r_iload d38_51 rfl
theorem d38_53 : decode (mC 38) 53 = .ok (.iaload, 1) := by decide +kernel
theorem x38_53 {sc : aSc} {d : Nat} {r : aRes} {L : List Value} {st : List Value} {f : Nat → Nat → Int32} {g : Nat → Nat → Int64} {h1 h2 : Nat} {a : Nat} {i : Int32} (h17 : 17 ≤ a) (hA : isT9 .int a) (hi : inb i (aln a) = true) : Rn sc d 38 53 L (.int i :: .ref a :: st) (cS f g h1 h2) r ↔ Rn sc d 38 54 L (.int (f a i.toNatClampNeg) :: st) (cS f g h1 h2) r := r_iald d38_53 h17 hA hi
theorem x38_53s {sc : aSc} {d : Nat} {r : aRes} {L : List Value} {st : List Value} {f : Nat → Nat → Int32} {g : Nat → Nat → Int64} {h1 h2 : Nat} {a : Nat} {i : Int32} (h0 : ¬ a = 0) (h17 : a < 17) (hA : isT9 .int a) (hi : inb i (aln a) = true) : Rn sc d 38 53 L (.int i :: .ref a :: st) (cS f g h1 h2) r ↔ Rn sc d 38 54 L (.int (fI a i.toNatClampNeg) :: st) (cS f g h1 h2) r := r_iald0 d38_53 h0 h17 hA hi
theorem d38_54 : decode (mC 38) 54 = .ok (.iload_n 3, 1) := by decide +kernel
theorem x38_54 {sc : aSc} {d : Nat} {r : aRes} {a0 : Value} {a1 : Value} {a2 : Value} {x3 : Int32} {a4 : Value} {a5 : Value} {st : List Value} {σ : aS} : Rn sc d 38 54 [a0, a1, a2, .int x3, a4, a5] st σ r ↔ Rn sc d 38 55 [a0, a1, a2, .int x3, a4, a5] (.int x3 :: st) σ r := r_iload_n d38_54 rfl
theorem d38_55 : decode (mC 38) 55 = .ok (.invokevirtual 51, 3) := by decide +kernel
theorem x38_55 {sc : aSc} {d : Nat} {r : aRes} {L : List Value} {f : Nat → Nat → Int32} {g : Nat → Nat → Int64} {h1 h2 : Nat} {y0 : Int32} {y1 : Int32} {y2 : Int32} {z0 : Int32} {z1 : Nat} {o : Nat} (hK : KK[o]? = some (.inl 3)) : Rn sc d 38 55 L [.int y0, .int y1, .int y2, .ref o, .int z0, .ref z1] (cS f g h1 h2) r ↔ ∃ (σ3 : aS) (v : Option Value), Cl sc d 36 [.ref o, .int y2, .int y1, .int y0] (cS f g h1 h2) (σ3, v) ∧ Rn sc d 38 58 L (v.toList ++ [.int z0, .ref z1]) σ3 r := r_callV (vs := [.int y0, .int y1, .int y2]) d38_55 (j := 36) rfl ⟨rfl, by decide, rfl, rfl⟩ (Nat.le_of_ble_eq_true rfl) hK
theorem d38_58 : decode (mC 38) 58 = .ok (.invokevirtual 67, 3) := by decide +kernel
theorem x38_58 {sc : aSc} {d : Nat} {r : aRes} {L : List Value} {f : Nat → Nat → Int32} {g : Nat → Nat → Int64} {h1 h2 : Nat} {y0 : Int32} {y1 : Int32}  {o : Nat} (hK : KK[o]? = some (.inl 2)) : Rn sc d 38 58 L [.int y0, .int y1, .ref o] (cS f g h1 h2) r ↔ ∃ (σ3 : aS) (v : Option Value), Cl sc d 31 [.ref o, .int y1, .int y0] (cS f g h1 h2) (σ3, v) ∧ Rn sc d 38 61 L (v.toList ++ []) σ3 r := r_callV (vs := [.int y0, .int y1]) d38_58 (j := 31) rfl ⟨rfl, by decide, rfl, rfl⟩ (Nat.le_of_ble_eq_true rfl) hK
theorem d38_61 : decode (mC 38) 61 = .ok (.ifCond .eq 7, 3) := by decide +kernel
theorem x38_61 {sc : aSc} {d : Nat} {r : aRes} {L : List Value} {st : List Value} {σ : aS} {x : Int32} : Rn sc d 38 61 L (.int x :: st) σ r ↔ if x = 0 then Rn sc d 38 68 L st σ r else Rn sc d 38 64 L st σ r := r_if_eq d38_61 rfl
theorem d38_64 : decode (mC 38) 64 = .ok (.iconst 1, 1) := by decide +kernel
theorem x38_64 {sc : aSc} {d : Nat} {r : aRes} {L : List Value} {st : List Value} {σ : aS} : Rn sc d 38 64 L st σ r ↔ Rn sc d 38 65 L (.int 1 :: st) σ r := r_iconst d38_64 (by decide)
theorem d38_65 : decode (mC 38) 65 = .ok (.goto 4, 3) := by decide +kernel
theorem x38_65 {sc : aSc} {d : Nat} {r : aRes} {L : List Value} {st : List Value} {σ : aS} : Rn sc d 38 65 L st σ r ↔ Rn sc d 38 69 L st σ r := r_goto d38_65 rfl
theorem d38_68 : decode (mC 38) 68 = .ok (.iconst 0, 1) := by decide +kernel
theorem x38_68 {sc : aSc} {d : Nat} {r : aRes} {L : List Value} {st : List Value} {σ : aS} : Rn sc d 38 68 L st σ r ↔ Rn sc d 38 69 L (.int 0 :: st) σ r := r_iconst d38_68 (by decide)
theorem d38_69 : decode (mC 38) 69 = .ok (.ireturn, 1) := by decide +kernel
theorem x38_69 {sc : aSc} {d : Nat} {r : aRes} {L : List Value} {σ : aS} {x : Int32} (hn : x &&& 1 = x) : Rn sc d 38 69 L [.int x] σ r ↔ r = (σ, some (.int x)) := r_iret d38_69 rfl (congrArg Value.int hn)
theorem d39_0 : decode (mC 39) 0 = .ok (.iload_n 1, 1) := by decide +kernel
theorem x39_0 {sc : aSc} {d : Nat} {r : aRes} {a0 : Value} {x1 : Int32} {st : List Value} {σ : aS} : Rn sc d 39 0 [a0, .int x1] st σ r ↔ Rn sc d 39 1 [a0, .int x1] (.int x1 :: st) σ r := r_iload_n d39_0 rfl
theorem d39_1 : decode (mC 39) 1 = .ok (.invokestatic 58, 3) := by decide +kernel
theorem x39_1 {sc : aSc} {d : Nat} {r : aRes} {L : List Value} {σ : aS} {y0 : Int32}  : Rn sc d 39 1 L [.int y0] σ r ↔ ∃ (σ3 : aS) (v : Option Value), Cl sc d 210 [.int y0] σ (σ3, v) ∧ Rn sc d 39 4 L (v.toList ++ []) σ3 r := r_callS (vs := [.int y0]) d39_1 rfl (j := 210) rfl ⟨rfl, by decide, rfl, rfl⟩ (Nat.le_of_ble_eq_true rfl)
theorem d39_4 : decode (mC 39) 4 = .ok (.aload_n 0, 1) := by decide +kernel
theorem x39_4 {sc : aSc} {d : Nat} {r : aRes} {x0 : Nat} {a1 : Value} {st : List Value} {σ : aS} : Rn sc d 39 4 [.ref x0, a1] st σ r ↔ Rn sc d 39 5 [.ref x0, a1] (.ref x0 :: st) σ r := r_aload_n d39_4 rfl
theorem d39_5 : decode (mC 39) 5 = .ok (.getfield 73, 3) := by decide +kernel
theorem x39_5 {sc : aSc} {d : Nat} {r : aRes} {L : List Value} {st : List Value} {f : Nat → Nat → Int32} {g : Nat → Nat → Int64} {h1 h2 : Nat} {o : Nat} (h17 : 17 ≤ o) (hK : KK[o]? = some (.inl 1)) : Rn sc d 39 5 L (.ref o :: st) (cS f g h1 h2) r ↔ Rn sc d 39 8 L (.int (f o 4) :: st) (cS f g h1 h2) r := r_getI d39_5 (ci := 1) (k := 4) rfl (by decide) (fun _ => rfl) h17 hK
theorem d39_8 : decode (mC 39) 8 = .ok (.invokestatic 58, 3) := by decide +kernel
theorem x39_8 {sc : aSc} {d : Nat} {r : aRes} {L : List Value} {σ : aS} {y0 : Int32} {z0 : Int32} : Rn sc d 39 8 L [.int y0, .int z0] σ r ↔ ∃ (σ3 : aS) (v : Option Value), Cl sc d 210 [.int y0] σ (σ3, v) ∧ Rn sc d 39 11 L (v.toList ++ [.int z0]) σ3 r := r_callS (vs := [.int y0]) d39_8 rfl (j := 210) rfl ⟨rfl, by decide, rfl, rfl⟩ (Nat.le_of_ble_eq_true rfl)
theorem d39_11 : decode (mC 39) 11 = .ok (.if_icmp .ne 7, 3) := by decide +kernel
theorem x39_11 {sc : aSc} {d : Nat} {r : aRes} {L : List Value} {st : List Value} {σ : aS} {x y : Int32} : Rn sc d 39 11 L (.int y :: .int x :: st) σ r ↔ if x = y then Rn sc d 39 14 L st σ r else Rn sc d 39 18 L st σ r := r_icmp_ne d39_11 rfl
theorem d39_14 : decode (mC 39) 14 = .ok (.iconst 1, 1) := by decide +kernel
theorem x39_14 {sc : aSc} {d : Nat} {r : aRes} {L : List Value} {st : List Value} {σ : aS} : Rn sc d 39 14 L st σ r ↔ Rn sc d 39 15 L (.int 1 :: st) σ r := r_iconst d39_14 (by decide)
theorem d39_15 : decode (mC 39) 15 = .ok (.goto 4, 3) := by decide +kernel
theorem x39_15 {sc : aSc} {d : Nat} {r : aRes} {L : List Value} {st : List Value} {σ : aS} : Rn sc d 39 15 L st σ r ↔ Rn sc d 39 19 L st σ r := r_goto d39_15 rfl
theorem d39_18 : decode (mC 39) 18 = .ok (.iconst 0, 1) := by decide +kernel
theorem x39_18 {sc : aSc} {d : Nat} {r : aRes} {L : List Value} {st : List Value} {σ : aS} : Rn sc d 39 18 L st σ r ↔ Rn sc d 39 19 L (.int 0 :: st) σ r := r_iconst d39_18 (by decide)
theorem d39_19 : decode (mC 39) 19 = .ok (.ireturn, 1) := by decide +kernel
theorem x39_19 {sc : aSc} {d : Nat} {r : aRes} {L : List Value} {σ : aS} {x : Int32} (hn : x &&& 1 = x) : Rn sc d 39 19 L [.int x] σ r ↔ r = (σ, some (.int x)) := r_iret d39_19 rfl (congrArg Value.int hn)
theorem d40_0 : decode (mC 40) 0 = .ok (.aload_n 0, 1) := by decide +kernel
theorem x40_0 {sc : aSc} {d : Nat} {r : aRes} {x0 : Nat} {a1 : Value} {a2 : Value} {a3 : Value} {a4 : Value} {a5 : Value} {st : List Value} {σ : aS} : Rn sc d 40 0 [.ref x0, a1, a2, a3, a4, a5] st σ r ↔ Rn sc d 40 1 [.ref x0, a1, a2, a3, a4, a5] (.ref x0 :: st) σ r := r_aload_n d40_0 rfl
theorem d40_1 : decode (mC 40) 1 = .ok (.aload_n 1, 1) := by decide +kernel
theorem x40_1 {sc : aSc} {d : Nat} {r : aRes} {a0 : Value} {x1 : Nat} {a2 : Value} {a3 : Value} {a4 : Value} {a5 : Value} {st : List Value} {σ : aS} : Rn sc d 40 1 [a0, .ref x1, a2, a3, a4, a5] st σ r ↔ Rn sc d 40 2 [a0, .ref x1, a2, a3, a4, a5] (.ref x1 :: st) σ r := r_aload_n d40_1 rfl
theorem d40_2 : decode (mC 40) 2 = .ok (.iload_n 2, 1) := by decide +kernel
theorem x40_2 {sc : aSc} {d : Nat} {r : aRes} {a0 : Value} {a1 : Value} {x2 : Int32} {a3 : Value} {a4 : Value} {a5 : Value} {st : List Value} {σ : aS} : Rn sc d 40 2 [a0, a1, .int x2, a3, a4, a5] st σ r ↔ Rn sc d 40 3 [a0, a1, .int x2, a3, a4, a5] (.int x2 :: st) σ r := r_iload_n d40_2 rfl
theorem d40_3 : decode (mC 40) 3 = .ok (.iload_n 3, 1) := by decide +kernel
theorem x40_3 {sc : aSc} {d : Nat} {r : aRes} {a0 : Value} {a1 : Value} {a2 : Value} {x3 : Int32} {a4 : Value} {a5 : Value} {st : List Value} {σ : aS} : Rn sc d 40 3 [a0, a1, a2, .int x3, a4, a5] st σ r ↔ Rn sc d 40 4 [a0, a1, a2, .int x3, a4, a5] (.int x3 :: st) σ r := r_iload_n d40_3 rfl
theorem d40_4 : decode (mC 40) 4 = .ok (.invokevirtual 76, 3) := by decide +kernel
theorem x40_4 {sc : aSc} {d : Nat} {r : aRes} {L : List Value} {f : Nat → Nat → Int32} {g : Nat → Nat → Int64} {h1 h2 : Nat} {y0 : Int32} {y1 : Int32} {y2 : Nat}  {o : Nat} (hK : KK[o]? = some (.inl 3)) : Rn sc d 40 4 L [.int y0, .int y1, .ref y2, .ref o] (cS f g h1 h2) r ↔ ∃ (σ3 : aS) (v : Option Value), Cl sc d 33 [.ref o, .ref y2, .int y1, .int y0] (cS f g h1 h2) (σ3, v) ∧ Rn sc d 40 7 L (v.toList ++ []) σ3 r := r_callV (vs := [.int y0, .int y1, .ref y2]) d40_4 (j := 33) rfl ⟨rfl, by decide, rfl, rfl⟩ (Nat.le_of_ble_eq_true rfl) hK
theorem d40_7 : decode (mC 40) 7 = .ok (.iload_n 2, 1) := by decide +kernel
theorem x40_7 {sc : aSc} {d : Nat} {r : aRes} {a0 : Value} {a1 : Value} {x2 : Int32} {a3 : Value} {a4 : Value} {a5 : Value} {st : List Value} {σ : aS} : Rn sc d 40 7 [a0, a1, .int x2, a3, a4, a5] st σ r ↔ Rn sc d 40 8 [a0, a1, .int x2, a3, a4, a5] (.int x2 :: st) σ r := r_iload_n d40_7 rfl
theorem d40_8 : decode (mC 40) 8 = .ok (.istore 4, 2) := by decide +kernel
theorem x40_8 {sc : aSc} {d : Nat} {r : aRes} {a0 : Value} {a1 : Value} {a2 : Value} {x3 : Int32} {a4 : Value} {a5 : Value} {st : List Value} {σ : aS} {y : Int32} : Rn sc d 40 8 [a0, a1, a2, .int x3, a4, a5] (.int y :: st) σ r ↔ Rn sc d 40 10 [a0, a1, a2, .int x3, .int y, a5] st σ r := r_istore d40_8 (Nat.le_of_ble_eq_true rfl) rfl
theorem d40_10 : decode (mC 40) 10 = .ok (.iload 4, 2) := by decide +kernel
theorem x40_10 {sc : aSc} {d : Nat} {r : aRes} {a0 : Value} {a1 : Value} {a2 : Value} {a3 : Value} {x4 : Int32} {a5 : Value} {st : List Value} {σ : aS} : Rn sc d 40 10 [a0, a1, a2, a3, .int x4, a5] st σ r ↔ Rn sc d 40 12 [a0, a1, a2, a3, .int x4, a5] (.int x4 :: st) σ r := r_iload d40_10 rfl
theorem d40_12 : decode (mC 40) 12 = .ok (.ifCond .lt 85, 3) := by decide +kernel
theorem x40_12 {sc : aSc} {d : Nat} {r : aRes} {L : List Value} {st : List Value} {σ : aS} {x : Int32} : Rn sc d 40 12 L (.int x :: st) σ r ↔ if x < 0 then Rn sc d 40 97 L st σ r else Rn sc d 40 15 L st σ r := r_if_lt d40_12 rfl
theorem d40_15 : decode (mC 40) 15 = .ok (.iconst 0, 1) := by decide +kernel
theorem x40_15 {sc : aSc} {d : Nat} {r : aRes} {L : List Value} {st : List Value} {σ : aS} : Rn sc d 40 15 L st σ r ↔ Rn sc d 40 16 L (.int 0 :: st) σ r := r_iconst d40_15 (by decide)
theorem d40_16 : decode (mC 40) 16 = .ok (.istore 5, 2) := by decide +kernel
theorem x40_16 {sc : aSc} {d : Nat} {r : aRes} {a0 : Value} {a1 : Value} {a2 : Value} {a3 : Value} {x4 : Int32} {a5 : Value} {st : List Value} {σ : aS} {y : Int32} : Rn sc d 40 16 [a0, a1, a2, a3, .int x4, a5] (.int y :: st) σ r ↔ Rn sc d 40 18 [a0, a1, a2, a3, .int x4, .int y] st σ r := r_istore d40_16 (Nat.le_of_ble_eq_true rfl) rfl
theorem d40_18 : decode (mC 40) 18 = .ok (.iload 5, 2) := by decide +kernel
theorem x40_18 {sc : aSc} {d : Nat} {r : aRes} {a0 : Value} {a1 : Value} {a2 : Value} {a3 : Value} {a4 : Value} {x5 : Int32} {st : List Value} {σ : aS} : Rn sc d 40 18 [a0, a1, a2, a3, a4, .int x5] st σ r ↔ Rn sc d 40 20 [a0, a1, a2, a3, a4, .int x5] (.int x5 :: st) σ r := r_iload d40_18 rfl
theorem d40_20 : decode (mC 40) 20 = .ok (.aload_n 1, 1) := by decide +kernel
theorem x40_20 {sc : aSc} {d : Nat} {r : aRes} {a0 : Value} {x1 : Nat} {a2 : Value} {a3 : Value} {a4 : Value} {a5 : Value} {st : List Value} {σ : aS} : Rn sc d 40 20 [a0, .ref x1, a2, a3, a4, a5] st σ r ↔ Rn sc d 40 21 [a0, .ref x1, a2, a3, a4, a5] (.ref x1 :: st) σ r := r_aload_n d40_20 rfl
theorem d40_21 : decode (mC 40) 21 = .ok (.invokevirtual 80, 3) := by decide +kernel
theorem x40_21 {sc : aSc} {d : Nat} {r : aRes} {L : List Value} {f : Nat → Nat → Int32} {g : Nat → Nat → Int64} {h1 h2 : Nat}  {z0 : Int32} {o : Nat} (hK : KK[o]? = some (.inl 1)) : Rn sc d 40 21 L [.ref o, .int z0] (cS f g h1 h2) r ↔ ∃ (σ3 : aS) (v : Option Value), Cl sc d 8 [.ref o] (cS f g h1 h2) (σ3, v) ∧ Rn sc d 40 24 L (v.toList ++ [.int z0]) σ3 r := r_callV (vs := []) d40_21 (j := 8) rfl ⟨rfl, by decide, rfl, rfl⟩ (Nat.le_of_ble_eq_true rfl) hK
theorem d40_24 : decode (mC 40) 24 = .ok (.if_icmp .gt 67, 3) := by decide +kernel
theorem x40_24 {sc : aSc} {d : Nat} {r : aRes} {L : List Value} {st : List Value} {σ : aS} {x y : Int32} : Rn sc d 40 24 L (.int y :: .int x :: st) σ r ↔ if y < x then Rn sc d 40 91 L st σ r else Rn sc d 40 27 L st σ r := r_icmp_gt d40_24 rfl
theorem d40_27 : decode (mC 40) 27 = .ok (.aload_n 1, 1) := by decide +kernel
theorem x40_27 {sc : aSc} {d : Nat} {r : aRes} {a0 : Value} {x1 : Nat} {a2 : Value} {a3 : Value} {a4 : Value} {a5 : Value} {st : List Value} {σ : aS} : Rn sc d 40 27 [a0, .ref x1, a2, a3, a4, a5] st σ r ↔ Rn sc d 40 28 [a0, .ref x1, a2, a3, a4, a5] (.ref x1 :: st) σ r := r_aload_n d40_27 rfl
theorem d40_28 : decode (mC 40) 28 = .ok (.iload 5, 2) := by decide +kernel
theorem x40_28 {sc : aSc} {d : Nat} {r : aRes} {a0 : Value} {a1 : Value} {a2 : Value} {a3 : Value} {a4 : Value} {x5 : Int32} {st : List Value} {σ : aS} : Rn sc d 40 28 [a0, a1, a2, a3, a4, .int x5] st σ r ↔ Rn sc d 40 30 [a0, a1, a2, a3, a4, .int x5] (.int x5 :: st) σ r := r_iload d40_28 rfl
theorem d40_30 : decode (mC 40) 30 = .ok (.invokestatic 84, 3) := by decide +kernel
theorem x40_30 {sc : aSc} {d : Nat} {r : aRes} {L : List Value} {σ : aS} {y0 : Int32} {y1 : Nat}  : Rn sc d 40 30 L [.int y0, .ref y1] σ r ↔ ∃ (σ3 : aS) (v : Option Value), Cl sc d 39 [.ref y1, .int y0] σ (σ3, v) ∧ Rn sc d 40 33 L (v.toList ++ []) σ3 r := r_callS (vs := [.int y0, .ref y1]) d40_30 rfl (j := 39) rfl ⟨rfl, by decide, rfl, rfl⟩ (Nat.le_of_ble_eq_true rfl)
theorem d40_33 : decode (mC 40) 33 = .ok (.ifCond .ne 6, 3) := by decide +kernel
theorem x40_33 {sc : aSc} {d : Nat} {r : aRes} {L : List Value} {st : List Value} {σ : aS} {x : Int32} : Rn sc d 40 33 L (.int x :: st) σ r ↔ if x = 0 then Rn sc d 40 36 L st σ r else Rn sc d 40 39 L st σ r := r_if_ne d40_33 rfl
theorem d40_36 : decode (mC 40) 36 = .ok (.goto 49, 3) := by decide +kernel
theorem x40_36 {sc : aSc} {d : Nat} {r : aRes} {L : List Value} {st : List Value} {σ : aS} : Rn sc d 40 36 L st σ r ↔ Rn sc d 40 85 L st σ r := r_goto d40_36 rfl
theorem d40_39 : decode (mC 40) 39 = .ok (.iload 4, 2) := by decide +kernel
theorem x40_39 {sc : aSc} {d : Nat} {r : aRes} {a0 : Value} {a1 : Value} {a2 : Value} {a3 : Value} {x4 : Int32} {a5 : Value} {st : List Value} {σ : aS} : Rn sc d 40 39 [a0, a1, a2, a3, .int x4, a5] st σ r ↔ Rn sc d 40 41 [a0, a1, a2, a3, .int x4, a5] (.int x4 :: st) σ r := r_iload d40_39 rfl
theorem d40_41 : decode (mC 40) 41 = .ok (.iload_n 2, 1) := by decide +kernel
theorem x40_41 {sc : aSc} {d : Nat} {r : aRes} {a0 : Value} {a1 : Value} {x2 : Int32} {a3 : Value} {a4 : Value} {a5 : Value} {st : List Value} {σ : aS} : Rn sc d 40 41 [a0, a1, .int x2, a3, a4, a5] st σ r ↔ Rn sc d 40 42 [a0, a1, .int x2, a3, a4, a5] (.int x2 :: st) σ r := r_iload_n d40_41 rfl
theorem d40_42 : decode (mC 40) 42 = .ok (.if_icmp .ne 34, 3) := by decide +kernel
theorem x40_42 {sc : aSc} {d : Nat} {r : aRes} {L : List Value} {st : List Value} {σ : aS} {x y : Int32} : Rn sc d 40 42 L (.int y :: .int x :: st) σ r ↔ if x = y then Rn sc d 40 45 L st σ r else Rn sc d 40 76 L st σ r := r_icmp_ne d40_42 rfl
theorem d40_45 : decode (mC 40) 45 = .ok (.aload_n 0, 1) := by decide +kernel
theorem x40_45 {sc : aSc} {d : Nat} {r : aRes} {x0 : Nat} {a1 : Value} {a2 : Value} {a3 : Value} {a4 : Value} {a5 : Value} {st : List Value} {σ : aS} : Rn sc d 40 45 [.ref x0, a1, a2, a3, a4, a5] st σ r ↔ Rn sc d 40 46 [.ref x0, a1, a2, a3, a4, a5] (.ref x0 :: st) σ r := r_aload_n d40_45 rfl
theorem d40_46 : decode (mC 40) 46 = .ok (.getfield 13, 3) := by decide +kernel
theorem x40_46 {sc : aSc} {d : Nat} {r : aRes} {L : List Value} {st : List Value} {f : Nat → Nat → Int32} {g : Nat → Nat → Int64} {h1 h2 : Nat} {o : Nat} (hK : KK[o]? = some (.inl 3)) (hR : (RR h1 h2 o 0).isSome = true) : Rn sc d 40 46 L (.ref o :: st) (cS f g h1 h2) r ↔ Rn sc d 40 49 L (.ref (rf h1 h2 o 0) :: st) (cS f g h1 h2) r := r_getR2 d40_46 (ci := 3) (k := 0) rfl (by decide) (fun _ => rfl) hK hR
theorem d40_49 : decode (mC 40) 49 = .ok (.iload 4, 2) := by decide +kernel
theorem x40_49 {sc : aSc} {d : Nat} {r : aRes} {a0 : Value} {a1 : Value} {a2 : Value} {a3 : Value} {x4 : Int32} {a5 : Value} {st : List Value} {σ : aS} : Rn sc d 40 49 [a0, a1, a2, a3, .int x4, a5] st σ r ↔ Rn sc d 40 51 [a0, a1, a2, a3, .int x4, a5] (.int x4 :: st) σ r := r_iload d40_49 rfl
theorem d40_51 : decode (mC 40) 51 = .ok (.aaload, 1) := by decide +kernel
theorem x40_51 {sc : aSc} {d : Nat} {r : aRes} {L : List Value} {st : List Value} {f : Nat → Nat → Int32} {g : Nat → Nat → Int64} {h1 h2 : Nat} {a : Nat} {i : Int32} (h17 : 17 ≤ a) (hA : isG a) (hi : inb i (aln a) = true) (hR : (RR h1 h2 a i.toNatClampNeg).isSome = true) : Rn sc d 40 51 L (.int i :: .ref a :: st) (cS f g h1 h2) r ↔ Rn sc d 40 52 L (.ref (rf h1 h2 a i.toNatClampNeg) :: st) (cS f g h1 h2) r := r_aald2 d40_51 h17 hA hi hR
theorem d40_52 : decode (mC 40) 52 = .ok (.iload 5, 2) := by decide +kernel
theorem x40_52 {sc : aSc} {d : Nat} {r : aRes} {a0 : Value} {a1 : Value} {a2 : Value} {a3 : Value} {a4 : Value} {x5 : Int32} {st : List Value} {σ : aS} : Rn sc d 40 52 [a0, a1, a2, a3, a4, .int x5] st σ r ↔ Rn sc d 40 54 [a0, a1, a2, a3, a4, .int x5] (.int x5 :: st) σ r := r_iload d40_52 rfl
theorem d40_54 : decode (mC 40) 54 = .ok (.aload_n 1, 1) := by decide +kernel
theorem x40_54 {sc : aSc} {d : Nat} {r : aRes} {a0 : Value} {x1 : Nat} {a2 : Value} {a3 : Value} {a4 : Value} {a5 : Value} {st : List Value} {σ : aS} : Rn sc d 40 54 [a0, .ref x1, a2, a3, a4, a5] st σ r ↔ Rn sc d 40 55 [a0, .ref x1, a2, a3, a4, a5] (.ref x1 :: st) σ r := r_aload_n d40_54 rfl
theorem d40_55 : decode (mC 40) 55 = .ok (.iload 5, 2) := by decide +kernel
theorem x40_55 {sc : aSc} {d : Nat} {r : aRes} {a0 : Value} {a1 : Value} {a2 : Value} {a3 : Value} {a4 : Value} {x5 : Int32} {st : List Value} {σ : aS} : Rn sc d 40 55 [a0, a1, a2, a3, a4, .int x5] st σ r ↔ Rn sc d 40 57 [a0, a1, a2, a3, a4, .int x5] (.int x5 :: st) σ r := r_iload d40_55 rfl
theorem d40_57 : decode (mC 40) 57 = .ok (.iload_n 3, 1) := by decide +kernel
theorem x40_57 {sc : aSc} {d : Nat} {r : aRes} {a0 : Value} {a1 : Value} {a2 : Value} {x3 : Int32} {a4 : Value} {a5 : Value} {st : List Value} {σ : aS} : Rn sc d 40 57 [a0, a1, a2, .int x3, a4, a5] st σ r ↔ Rn sc d 40 58 [a0, a1, a2, .int x3, a4, a5] (.int x3 :: st) σ r := r_iload_n d40_57 rfl
theorem d40_58 : decode (mC 40) 58 = .ok (.invokevirtual 88, 3) := by decide +kernel
theorem x40_58 {sc : aSc} {d : Nat} {r : aRes} {L : List Value} {f : Nat → Nat → Int32} {g : Nat → Nat → Int64} {h1 h2 : Nat} {y0 : Int32} {y1 : Int32} {z0 : Int32} {z1 : Nat} {o : Nat} (hK : KK[o]? = some (.inl 1)) : Rn sc d 40 58 L [.int y0, .int y1, .ref o, .int z0, .ref z1] (cS f g h1 h2) r ↔ ∃ (σ3 : aS) (v : Option Value), Cl sc d 22 [.ref o, .int y1, .int y0] (cS f g h1 h2) (σ3, v) ∧ Rn sc d 40 61 L (v.toList ++ [.int z0, .ref z1]) σ3 r := r_callV (vs := [.int y0, .int y1]) d40_58 (j := 22) rfl ⟨rfl, by decide, rfl, rfl⟩ (Nat.le_of_ble_eq_true rfl) hK
theorem d40_61 : decode (mC 40) 61 = .ok (.iastore, 1) := by decide +kernel
theorem x40_61 {sc : aSc} {d : Nat} {r : aRes} {L : List Value} {st : List Value} {f : Nat → Nat → Int32} {g : Nat → Nat → Int64} {h1 h2 : Nat} {a : Nat} {i : Int32} {x : Int32} (h17 : 17 ≤ a) (hA : isT9 .int a) (hi : inb i (aln a) = true) : Rn sc d 40 61 L (.int x :: .int i :: .ref a :: st) (cS f g h1 h2) r ↔ Rn sc d 40 62 L st (cS (u2 f a i.toNatClampNeg x) g h1 h2) r := r_iast d40_61 h17 hA hi
theorem d40_62 : decode (mC 40) 62 = .ok (.aload_n 0, 1) := by decide +kernel
theorem x40_62 {sc : aSc} {d : Nat} {r : aRes} {x0 : Nat} {a1 : Value} {a2 : Value} {a3 : Value} {a4 : Value} {a5 : Value} {st : List Value} {σ : aS} : Rn sc d 40 62 [.ref x0, a1, a2, a3, a4, a5] st σ r ↔ Rn sc d 40 63 [.ref x0, a1, a2, a3, a4, a5] (.ref x0 :: st) σ r := r_aload_n d40_62 rfl
theorem d40_63 : decode (mC 40) 63 = .ok (.getfield 16, 3) := by decide +kernel
theorem x40_63 {sc : aSc} {d : Nat} {r : aRes} {L : List Value} {st : List Value} {f : Nat → Nat → Int32} {g : Nat → Nat → Int64} {h1 h2 : Nat} {o : Nat} (hK : KK[o]? = some (.inl 3)) (hR : (RR h1 h2 o 1).isSome = true) : Rn sc d 40 63 L (.ref o :: st) (cS f g h1 h2) r ↔ Rn sc d 40 66 L (.ref (rf h1 h2 o 1) :: st) (cS f g h1 h2) r := r_getR2 d40_63 (ci := 3) (k := 1) rfl (by decide) (fun _ => rfl) hK hR
theorem d40_66 : decode (mC 40) 66 = .ok (.iload 4, 2) := by decide +kernel
theorem x40_66 {sc : aSc} {d : Nat} {r : aRes} {a0 : Value} {a1 : Value} {a2 : Value} {a3 : Value} {x4 : Int32} {a5 : Value} {st : List Value} {σ : aS} : Rn sc d 40 66 [a0, a1, a2, a3, .int x4, a5] st σ r ↔ Rn sc d 40 68 [a0, a1, a2, a3, .int x4, a5] (.int x4 :: st) σ r := r_iload d40_66 rfl
theorem d40_68 : decode (mC 40) 68 = .ok (.aaload, 1) := by decide +kernel
theorem x40_68 {sc : aSc} {d : Nat} {r : aRes} {L : List Value} {st : List Value} {f : Nat → Nat → Int32} {g : Nat → Nat → Int64} {h1 h2 : Nat} {a : Nat} {i : Int32} (h17 : 17 ≤ a) (hA : isG a) (hi : inb i (aln a) = true) (hR : (RR h1 h2 a i.toNatClampNeg).isSome = true) : Rn sc d 40 68 L (.int i :: .ref a :: st) (cS f g h1 h2) r ↔ Rn sc d 40 69 L (.ref (rf h1 h2 a i.toNatClampNeg) :: st) (cS f g h1 h2) r := r_aald2 d40_68 h17 hA hi hR
theorem d40_69 : decode (mC 40) 69 = .ok (.iload 5, 2) := by decide +kernel
theorem x40_69 {sc : aSc} {d : Nat} {r : aRes} {a0 : Value} {a1 : Value} {a2 : Value} {a3 : Value} {a4 : Value} {x5 : Int32} {st : List Value} {σ : aS} : Rn sc d 40 69 [a0, a1, a2, a3, a4, .int x5] st σ r ↔ Rn sc d 40 71 [a0, a1, a2, a3, a4, .int x5] (.int x5 :: st) σ r := r_iload d40_69 rfl
theorem d40_71 : decode (mC 40) 71 = .ok (.iconst 0, 1) := by decide +kernel
theorem x40_71 {sc : aSc} {d : Nat} {r : aRes} {L : List Value} {st : List Value} {σ : aS} : Rn sc d 40 71 L st σ r ↔ Rn sc d 40 72 L (.int 0 :: st) σ r := r_iconst d40_71 (by decide)
theorem d40_72 : decode (mC 40) 72 = .ok (.iastore, 1) := by decide +kernel
theorem x40_72 {sc : aSc} {d : Nat} {r : aRes} {L : List Value} {st : List Value} {f : Nat → Nat → Int32} {g : Nat → Nat → Int64} {h1 h2 : Nat} {a : Nat} {i : Int32} {x : Int32} (h17 : 17 ≤ a) (hA : isT9 .int a) (hi : inb i (aln a) = true) : Rn sc d 40 72 L (.int x :: .int i :: .ref a :: st) (cS f g h1 h2) r ↔ Rn sc d 40 73 L st (cS (u2 f a i.toNatClampNeg x) g h1 h2) r := r_iast d40_72 h17 hA hi
theorem d40_73 : decode (mC 40) 73 = .ok (.goto 12, 3) := by decide +kernel
theorem x40_73 {sc : aSc} {d : Nat} {r : aRes} {L : List Value} {st : List Value} {σ : aS} : Rn sc d 40 73 L st σ r ↔ Rn sc d 40 85 L st σ r := r_goto d40_73 rfl
theorem d40_76 : decode (mC 40) 76 = .ok (.aload_n 0, 1) := by decide +kernel
theorem x40_76 {sc : aSc} {d : Nat} {r : aRes} {x0 : Nat} {a1 : Value} {a2 : Value} {a3 : Value} {a4 : Value} {a5 : Value} {st : List Value} {σ : aS} : Rn sc d 40 76 [.ref x0, a1, a2, a3, a4, a5] st σ r ↔ Rn sc d 40 77 [.ref x0, a1, a2, a3, a4, a5] (.ref x0 :: st) σ r := r_aload_n d40_76 rfl
theorem d40_77 : decode (mC 40) 77 = .ok (.aload_n 1, 1) := by decide +kernel
theorem x40_77 {sc : aSc} {d : Nat} {r : aRes} {a0 : Value} {x1 : Nat} {a2 : Value} {a3 : Value} {a4 : Value} {a5 : Value} {st : List Value} {σ : aS} : Rn sc d 40 77 [a0, .ref x1, a2, a3, a4, a5] st σ r ↔ Rn sc d 40 78 [a0, .ref x1, a2, a3, a4, a5] (.ref x1 :: st) σ r := r_aload_n d40_77 rfl
theorem d40_78 : decode (mC 40) 78 = .ok (.iload 4, 2) := by decide +kernel
theorem x40_78 {sc : aSc} {d : Nat} {r : aRes} {a0 : Value} {a1 : Value} {a2 : Value} {a3 : Value} {x4 : Int32} {a5 : Value} {st : List Value} {σ : aS} : Rn sc d 40 78 [a0, a1, a2, a3, .int x4, a5] st σ r ↔ Rn sc d 40 80 [a0, a1, a2, a3, .int x4, a5] (.int x4 :: st) σ r := r_iload d40_78 rfl
theorem d40_80 : decode (mC 40) 80 = .ok (.iload 5, 2) := by decide +kernel
theorem x40_80 {sc : aSc} {d : Nat} {r : aRes} {a0 : Value} {a1 : Value} {a2 : Value} {a3 : Value} {a4 : Value} {x5 : Int32} {st : List Value} {σ : aS} : Rn sc d 40 80 [a0, a1, a2, a3, a4, .int x5] st σ r ↔ Rn sc d 40 82 [a0, a1, a2, a3, a4, .int x5] (.int x5 :: st) σ r := r_iload d40_80 rfl
theorem d40_82 : decode (mC 40) 82 = .ok (.invokevirtual 92, 3) := by decide +kernel
theorem x40_82 {sc : aSc} {d : Nat} {r : aRes} {L : List Value} {f : Nat → Nat → Int32} {g : Nat → Nat → Int64} {h1 h2 : Nat} {y0 : Int32} {y1 : Int32} {y2 : Nat}  {o : Nat} (hK : KK[o]? = some (.inl 3)) : Rn sc d 40 82 L [.int y0, .int y1, .ref y2, .ref o] (cS f g h1 h2) r ↔ ∃ (σ3 : aS) (v : Option Value), Cl sc d 41 [.ref o, .ref y2, .int y1, .int y0] (cS f g h1 h2) (σ3, v) ∧ Rn sc d 40 85 L (v.toList ++ []) σ3 r := r_callV (vs := [.int y0, .int y1, .ref y2]) d40_82 (j := 41) rfl ⟨rfl, by decide, rfl, rfl⟩ (Nat.le_of_ble_eq_true rfl) hK
theorem d40_85 : decode (mC 40) 85 = .ok (.iinc 5 1, 3) := by decide +kernel
theorem x40_85 {sc : aSc} {d : Nat} {r : aRes} {a0 : Value} {a1 : Value} {a2 : Value} {a3 : Value} {x4 : Int32} {x5 : Int32} {st : List Value} {σ : aS} : Rn sc d 40 85 [a0, a1, a2, a3, .int x4, .int x5] st σ r ↔ Rn sc d 40 88 [a0, a1, a2, a3, .int x4, .int (x5 + 1)] st σ r := r_iinc d40_85 (Nat.le_of_ble_eq_true rfl) rfl rfl (by decide)
theorem d40_88 : decode (mC 40) 88 = .ok (.goto (-70), 3) := by decide +kernel
theorem x40_88 {sc : aSc} {d : Nat} {r : aRes} {L : List Value} {st : List Value} {σ : aS} : Rn sc d 40 88 L st σ r ↔ Rn sc d 40 18 L st σ r := r_goto d40_88 rfl
theorem d40_91 : decode (mC 40) 91 = .ok (.iinc 4 (-1), 3) := by decide +kernel
theorem x40_91 {sc : aSc} {d : Nat} {r : aRes} {a0 : Value} {a1 : Value} {a2 : Value} {x3 : Int32} {x4 : Int32} {a5 : Value} {st : List Value} {σ : aS} : Rn sc d 40 91 [a0, a1, a2, .int x3, .int x4, a5] st σ r ↔ Rn sc d 40 94 [a0, a1, a2, .int x3, .int (x4 + (-1)), a5] st σ r := r_iinc d40_91 (Nat.le_of_ble_eq_true rfl) rfl rfl (by decide)
theorem d40_94 : decode (mC 40) 94 = .ok (.goto (-84), 3) := by decide +kernel
theorem x40_94 {sc : aSc} {d : Nat} {r : aRes} {L : List Value} {st : List Value} {σ : aS} : Rn sc d 40 94 L st σ r ↔ Rn sc d 40 10 L st σ r := r_goto d40_94 rfl
theorem d40_97 : decode (mC 40) 97 = .ok (.return_, 1) := by decide +kernel
theorem x40_97 {sc : aSc} {d : Nat} {r : aRes} {L : List Value} {σ : aS} : Rn sc d 40 97 L [] σ r ↔ r = (σ, none) := r_vret d40_97 rfl
theorem d41_0 : decode (mC 41) 0 = .ok (.iconst (-1), 1) := by decide +kernel
theorem x41_0 {sc : aSc} {d : Nat} {r : aRes} {L : List Value} {st : List Value} {σ : aS} : Rn sc d 41 0 L st σ r ↔ Rn sc d 41 1 L (.int (-1) :: st) σ r := r_iconst d41_0 (by decide)
theorem d41_1 : decode (mC 41) 1 = .ok (.istore 4, 2) := by decide +kernel
theorem x41_1 {sc : aSc} {d : Nat} {r : aRes} {a0 : Value} {a1 : Value} {a2 : Value} {x3 : Int32} {a4 : Value} {a5 : Value} {a6 : Value} {a7 : Value} {a8 : Value} {a9 : Value} {a10 : Value} {st : List Value} {σ : aS} {y : Int32} : Rn sc d 41 1 [a0, a1, a2, .int x3, a4, a5, a6, a7, a8, a9, a10] (.int y :: st) σ r ↔ Rn sc d 41 3 [a0, a1, a2, .int x3, .int y, a5, a6, a7, a8, a9, a10] st σ r := r_istore d41_1 (Nat.le_of_ble_eq_true rfl) rfl
theorem d41_3 : decode (mC 41) 3 = .ok (.iconst 0, 1) := by decide +kernel
theorem x41_3 {sc : aSc} {d : Nat} {r : aRes} {L : List Value} {st : List Value} {σ : aS} : Rn sc d 41 3 L st σ r ↔ Rn sc d 41 4 L (.int 0 :: st) σ r := r_iconst d41_3 (by decide)
theorem d41_4 : decode (mC 41) 4 = .ok (.istore 5, 2) := by decide +kernel
theorem x41_4 {sc : aSc} {d : Nat} {r : aRes} {a0 : Value} {a1 : Value} {a2 : Value} {a3 : Value} {x4 : Int32} {a5 : Value} {a6 : Value} {a7 : Value} {a8 : Value} {a9 : Value} {a10 : Value} {st : List Value} {σ : aS} {y : Int32} : Rn sc d 41 4 [a0, a1, a2, a3, .int x4, a5, a6, a7, a8, a9, a10] (.int y :: st) σ r ↔ Rn sc d 41 6 [a0, a1, a2, a3, .int x4, .int y, a6, a7, a8, a9, a10] st σ r := r_istore d41_4 (Nat.le_of_ble_eq_true rfl) rfl
theorem d41_6 : decode (mC 41) 6 = .ok (.bipush 21, 2) := by decide +kernel
theorem x41_6 {sc : aSc} {d : Nat} {r : aRes} {L : List Value} {st : List Value} {σ : aS} : Rn sc d 41 6 L st σ r ↔ Rn sc d 41 8 L (.int 21 :: st) σ r := r_bipush d41_6 (by decide)
theorem d41_8 : decode (mC 41) 8 = .ok (.istore 6, 2) := by decide +kernel
theorem x41_8 {sc : aSc} {d : Nat} {r : aRes} {a0 : Value} {a1 : Value} {a2 : Value} {a3 : Value} {a4 : Value} {x5 : Int32} {a6 : Value} {a7 : Value} {a8 : Value} {a9 : Value} {a10 : Value} {st : List Value} {σ : aS} {y : Int32} : Rn sc d 41 8 [a0, a1, a2, a3, a4, .int x5, a6, a7, a8, a9, a10] (.int y :: st) σ r ↔ Rn sc d 41 10 [a0, a1, a2, a3, a4, .int x5, .int y, a7, a8, a9, a10] st σ r := r_istore d41_8 (Nat.le_of_ble_eq_true rfl) rfl
theorem d41_10 : decode (mC 41) 10 = .ok (.iconst 0, 1) := by decide +kernel
theorem x41_10 {sc : aSc} {d : Nat} {r : aRes} {L : List Value} {st : List Value} {σ : aS} : Rn sc d 41 10 L st σ r ↔ Rn sc d 41 11 L (.int 0 :: st) σ r := r_iconst d41_10 (by decide)
theorem d41_11 : decode (mC 41) 11 = .ok (.istore 7, 2) := by decide +kernel
theorem x41_11 {sc : aSc} {d : Nat} {r : aRes} {a0 : Value} {a1 : Value} {a2 : Value} {a3 : Value} {a4 : Value} {a5 : Value} {x6 : Int32} {a7 : Value} {a8 : Value} {a9 : Value} {a10 : Value} {st : List Value} {σ : aS} {y : Int32} : Rn sc d 41 11 [a0, a1, a2, a3, a4, a5, .int x6, a7, a8, a9, a10] (.int y :: st) σ r ↔ Rn sc d 41 13 [a0, a1, a2, a3, a4, a5, .int x6, .int y, a8, a9, a10] st σ r := r_istore d41_11 (Nat.le_of_ble_eq_true rfl) rfl
theorem d41_13 : decode (mC 41) 13 = .ok (.iload 7, 2) := by decide +kernel
theorem x41_13 {sc : aSc} {d : Nat} {r : aRes} {a0 : Value} {a1 : Value} {a2 : Value} {a3 : Value} {a4 : Value} {a5 : Value} {a6 : Value} {x7 : Int32} {a8 : Value} {a9 : Value} {a10 : Value} {st : List Value} {σ : aS} : Rn sc d 41 13 [a0, a1, a2, a3, a4, a5, a6, .int x7, a8, a9, a10] st σ r ↔ Rn sc d 41 15 [a0, a1, a2, a3, a4, a5, a6, .int x7, a8, a9, a10] (.int x7 :: st) σ r := r_iload d41_13 rfl
theorem d41_15 : decode (mC 41) 15 = .ok (.bipush 21, 2) := by decide +kernel
theorem x41_15 {sc : aSc} {d : Nat} {r : aRes} {L : List Value} {st : List Value} {σ : aS} : Rn sc d 41 15 L st σ r ↔ Rn sc d 41 17 L (.int 21 :: st) σ r := r_bipush d41_15 (by decide)
theorem d41_17 : decode (mC 41) 17 = .ok (.if_icmp .gt 108, 3) := by decide +kernel
theorem x41_17 {sc : aSc} {d : Nat} {r : aRes} {L : List Value} {st : List Value} {σ : aS} {x y : Int32} : Rn sc d 41 17 L (.int y :: .int x :: st) σ r ↔ if y < x then Rn sc d 41 125 L st σ r else Rn sc d 41 20 L st σ r := r_icmp_gt d41_17 rfl
theorem d41_20 : decode (mC 41) 20 = .ok (.iload 7, 2) := by decide +kernel
theorem x41_20 {sc : aSc} {d : Nat} {r : aRes} {a0 : Value} {a1 : Value} {a2 : Value} {a3 : Value} {a4 : Value} {a5 : Value} {a6 : Value} {x7 : Int32} {a8 : Value} {a9 : Value} {a10 : Value} {st : List Value} {σ : aS} : Rn sc d 41 20 [a0, a1, a2, a3, a4, a5, a6, .int x7, a8, a9, a10] st σ r ↔ Rn sc d 41 22 [a0, a1, a2, a3, a4, a5, a6, .int x7, a8, a9, a10] (.int x7 :: st) σ r := r_iload d41_20 rfl
theorem d41_22 : decode (mC 41) 22 = .ok (.bipush 21, 2) := by decide +kernel
theorem x41_22 {sc : aSc} {d : Nat} {r : aRes} {L : List Value} {st : List Value} {σ : aS} : Rn sc d 41 22 L st σ r ↔ Rn sc d 41 24 L (.int 21 :: st) σ r := r_bipush d41_22 (by decide)
theorem d41_24 : decode (mC 41) 24 = .ok (.if_icmp .eq 18, 3) := by decide +kernel
theorem x41_24 {sc : aSc} {d : Nat} {r : aRes} {L : List Value} {st : List Value} {σ : aS} {x y : Int32} : Rn sc d 41 24 L (.int y :: .int x :: st) σ r ↔ if x = y then Rn sc d 41 42 L st σ r else Rn sc d 41 27 L st σ r := r_icmp_eq d41_24 rfl
theorem d41_27 : decode (mC 41) 27 = .ok (.aload_n 0, 1) := by decide +kernel
theorem x41_27 {sc : aSc} {d : Nat} {r : aRes} {x0 : Nat} {a1 : Value} {a2 : Value} {a3 : Value} {a4 : Value} {a5 : Value} {a6 : Value} {a7 : Value} {a8 : Value} {a9 : Value} {a10 : Value} {st : List Value} {σ : aS} : Rn sc d 41 27 [.ref x0, a1, a2, a3, a4, a5, a6, a7, a8, a9, a10] st σ r ↔ Rn sc d 41 28 [.ref x0, a1, a2, a3, a4, a5, a6, a7, a8, a9, a10] (.ref x0 :: st) σ r := r_aload_n d41_27 rfl
theorem d41_28 : decode (mC 41) 28 = .ok (.aload_n 1, 1) := by decide +kernel
theorem x41_28 {sc : aSc} {d : Nat} {r : aRes} {a0 : Value} {x1 : Nat} {a2 : Value} {a3 : Value} {a4 : Value} {a5 : Value} {a6 : Value} {a7 : Value} {a8 : Value} {a9 : Value} {a10 : Value} {st : List Value} {σ : aS} : Rn sc d 41 28 [a0, .ref x1, a2, a3, a4, a5, a6, a7, a8, a9, a10] st σ r ↔ Rn sc d 41 29 [a0, .ref x1, a2, a3, a4, a5, a6, a7, a8, a9, a10] (.ref x1 :: st) σ r := r_aload_n d41_28 rfl
theorem d41_29 : decode (mC 41) 29 = .ok (.iload_n 2, 1) := by decide +kernel
theorem x41_29 {sc : aSc} {d : Nat} {r : aRes} {a0 : Value} {a1 : Value} {x2 : Int32} {a3 : Value} {a4 : Value} {a5 : Value} {a6 : Value} {a7 : Value} {a8 : Value} {a9 : Value} {a10 : Value} {st : List Value} {σ : aS} : Rn sc d 41 29 [a0, a1, .int x2, a3, a4, a5, a6, a7, a8, a9, a10] st σ r ↔ Rn sc d 41 30 [a0, a1, .int x2, a3, a4, a5, a6, a7, a8, a9, a10] (.int x2 :: st) σ r := r_iload_n d41_29 rfl
theorem d41_30 : decode (mC 41) 30 = .ok (.iload_n 3, 1) := by decide +kernel
theorem x41_30 {sc : aSc} {d : Nat} {r : aRes} {a0 : Value} {a1 : Value} {a2 : Value} {x3 : Int32} {a4 : Value} {a5 : Value} {a6 : Value} {a7 : Value} {a8 : Value} {a9 : Value} {a10 : Value} {st : List Value} {σ : aS} : Rn sc d 41 30 [a0, a1, a2, .int x3, a4, a5, a6, a7, a8, a9, a10] st σ r ↔ Rn sc d 41 31 [a0, a1, a2, .int x3, a4, a5, a6, a7, a8, a9, a10] (.int x3 :: st) σ r := r_iload_n d41_30 rfl
theorem d41_31 : decode (mC 41) 31 = .ok (.iload 7, 2) := by decide +kernel
theorem x41_31 {sc : aSc} {d : Nat} {r : aRes} {a0 : Value} {a1 : Value} {a2 : Value} {a3 : Value} {a4 : Value} {a5 : Value} {a6 : Value} {x7 : Int32} {a8 : Value} {a9 : Value} {a10 : Value} {st : List Value} {σ : aS} : Rn sc d 41 31 [a0, a1, a2, a3, a4, a5, a6, .int x7, a8, a9, a10] st σ r ↔ Rn sc d 41 33 [a0, a1, a2, a3, a4, a5, a6, .int x7, a8, a9, a10] (.int x7 :: st) σ r := r_iload d41_31 rfl
theorem d41_33 : decode (mC 41) 33 = .ok (.invokevirtual 95, 3) := by decide +kernel
theorem x41_33 {sc : aSc} {d : Nat} {r : aRes} {L : List Value} {f : Nat → Nat → Int32} {g : Nat → Nat → Int64} {h1 h2 : Nat} {y0 : Int32} {y1 : Int32} {y2 : Int32} {y3 : Nat}  {o : Nat} (hK : KK[o]? = some (.inl 3)) : Rn sc d 41 33 L [.int y0, .int y1, .int y2, .ref y3, .ref o] (cS f g h1 h2) r ↔ ∃ (σ3 : aS) (v : Option Value), Cl sc d 38 [.ref o, .ref y3, .int y2, .int y1, .int y0] (cS f g h1 h2) (σ3, v) ∧ Rn sc d 41 36 L (v.toList ++ []) σ3 r := r_callV (vs := [.int y0, .int y1, .int y2, .ref y3]) d41_33 (j := 38) rfl ⟨rfl, by decide, rfl, rfl⟩ (Nat.le_of_ble_eq_true rfl) hK
theorem d41_36 : decode (mC 41) 36 = .ok (.ifCond .ne 6, 3) := by decide +kernel
theorem x41_36 {sc : aSc} {d : Nat} {r : aRes} {L : List Value} {st : List Value} {σ : aS} {x : Int32} : Rn sc d 41 36 L (.int x :: st) σ r ↔ if x = 0 then Rn sc d 41 39 L st σ r else Rn sc d 41 42 L st σ r := r_if_ne d41_36 rfl
theorem d41_39 : decode (mC 41) 39 = .ok (.goto 80, 3) := by decide +kernel
theorem x41_39 {sc : aSc} {d : Nat} {r : aRes} {L : List Value} {st : List Value} {σ : aS} : Rn sc d 41 39 L st σ r ↔ Rn sc d 41 119 L st σ r := r_goto d41_39 rfl
theorem d41_42 : decode (mC 41) 42 = .ok (.iload_n 3, 1) := by decide +kernel
theorem x41_42 {sc : aSc} {d : Nat} {r : aRes} {a0 : Value} {a1 : Value} {a2 : Value} {x3 : Int32} {a4 : Value} {a5 : Value} {a6 : Value} {a7 : Value} {a8 : Value} {a9 : Value} {a10 : Value} {st : List Value} {σ : aS} : Rn sc d 41 42 [a0, a1, a2, .int x3, a4, a5, a6, a7, a8, a9, a10] st σ r ↔ Rn sc d 41 43 [a0, a1, a2, .int x3, a4, a5, a6, a7, a8, a9, a10] (.int x3 :: st) σ r := r_iload_n d41_42 rfl
theorem d41_43 : decode (mC 41) 43 = .ok (.iload 7, 2) := by decide +kernel
theorem x41_43 {sc : aSc} {d : Nat} {r : aRes} {a0 : Value} {a1 : Value} {a2 : Value} {a3 : Value} {a4 : Value} {a5 : Value} {a6 : Value} {x7 : Int32} {a8 : Value} {a9 : Value} {a10 : Value} {st : List Value} {σ : aS} : Rn sc d 41 43 [a0, a1, a2, a3, a4, a5, a6, .int x7, a8, a9, a10] st σ r ↔ Rn sc d 41 45 [a0, a1, a2, a3, a4, a5, a6, .int x7, a8, a9, a10] (.int x7 :: st) σ r := r_iload d41_43 rfl
theorem d41_45 : decode (mC 41) 45 = .ok (.invokestatic 54, 3) := by decide +kernel
theorem x41_45 {sc : aSc} {d : Nat} {r : aRes} {L : List Value} {σ : aS} {y0 : Int32} {z0 : Int32} : Rn sc d 41 45 L [.int y0, .int z0] σ r ↔ ∃ (σ3 : aS) (v : Option Value), Cl sc d 34 [.int y0] σ (σ3, v) ∧ Rn sc d 41 48 L (v.toList ++ [.int z0]) σ3 r := r_callS (vs := [.int y0]) d41_45 rfl (j := 34) rfl ⟨rfl, by decide, rfl, rfl⟩ (Nat.le_of_ble_eq_true rfl)
theorem d41_48 : decode (mC 41) 48 = .ok (.ixor, 1) := by decide +kernel
theorem x41_48 {sc : aSc} {d : Nat} {r : aRes} {L : List Value} {st : List Value} {σ : aS} {x y : Int32} : Rn sc d 41 48 L (.int y :: .int x :: st) σ r ↔ Rn sc d 41 49 L (.int (x ^^^ y) :: st) σ r := r_ixor d41_48
theorem d41_49 : decode (mC 41) 49 = .ok (.istore 8, 2) := by decide +kernel
theorem x41_49 {sc : aSc} {d : Nat} {r : aRes} {a0 : Value} {a1 : Value} {a2 : Value} {a3 : Value} {a4 : Value} {a5 : Value} {a6 : Value} {x7 : Int32} {a8 : Value} {a9 : Value} {a10 : Value} {st : List Value} {σ : aS} {y : Int32} : Rn sc d 41 49 [a0, a1, a2, a3, a4, a5, a6, .int x7, a8, a9, a10] (.int y :: st) σ r ↔ Rn sc d 41 51 [a0, a1, a2, a3, a4, a5, a6, .int x7, .int y, a9, a10] st σ r := r_istore d41_49 (Nat.le_of_ble_eq_true rfl) rfl
theorem d41_51 : decode (mC 41) 51 = .ok (.aload_n 0, 1) := by decide +kernel
theorem x41_51 {sc : aSc} {d : Nat} {r : aRes} {x0 : Nat} {a1 : Value} {a2 : Value} {a3 : Value} {a4 : Value} {a5 : Value} {a6 : Value} {a7 : Value} {a8 : Value} {a9 : Value} {a10 : Value} {st : List Value} {σ : aS} : Rn sc d 41 51 [.ref x0, a1, a2, a3, a4, a5, a6, a7, a8, a9, a10] st σ r ↔ Rn sc d 41 52 [.ref x0, a1, a2, a3, a4, a5, a6, a7, a8, a9, a10] (.ref x0 :: st) σ r := r_aload_n d41_51 rfl
theorem d41_52 : decode (mC 41) 52 = .ok (.getfield 13, 3) := by decide +kernel
theorem x41_52 {sc : aSc} {d : Nat} {r : aRes} {L : List Value} {st : List Value} {f : Nat → Nat → Int32} {g : Nat → Nat → Int64} {h1 h2 : Nat} {o : Nat} (hK : KK[o]? = some (.inl 3)) (hR : (RR h1 h2 o 0).isSome = true) : Rn sc d 41 52 L (.ref o :: st) (cS f g h1 h2) r ↔ Rn sc d 41 55 L (.ref (rf h1 h2 o 0) :: st) (cS f g h1 h2) r := r_getR2 d41_52 (ci := 3) (k := 0) rfl (by decide) (fun _ => rfl) hK hR
theorem d41_55 : decode (mC 41) 55 = .ok (.iload_n 2, 1) := by decide +kernel
theorem x41_55 {sc : aSc} {d : Nat} {r : aRes} {a0 : Value} {a1 : Value} {x2 : Int32} {a3 : Value} {a4 : Value} {a5 : Value} {a6 : Value} {a7 : Value} {a8 : Value} {a9 : Value} {a10 : Value} {st : List Value} {σ : aS} : Rn sc d 41 55 [a0, a1, .int x2, a3, a4, a5, a6, a7, a8, a9, a10] st σ r ↔ Rn sc d 41 56 [a0, a1, .int x2, a3, a4, a5, a6, a7, a8, a9, a10] (.int x2 :: st) σ r := r_iload_n d41_55 rfl
theorem d41_56 : decode (mC 41) 56 = .ok (.iconst 1, 1) := by decide +kernel
theorem x41_56 {sc : aSc} {d : Nat} {r : aRes} {L : List Value} {st : List Value} {σ : aS} : Rn sc d 41 56 L st σ r ↔ Rn sc d 41 57 L (.int 1 :: st) σ r := r_iconst d41_56 (by decide)
theorem d41_57 : decode (mC 41) 57 = .ok (.iadd, 1) := by decide +kernel
theorem x41_57 {sc : aSc} {d : Nat} {r : aRes} {L : List Value} {st : List Value} {σ : aS} {x y : Int32} : Rn sc d 41 57 L (.int y :: .int x :: st) σ r ↔ Rn sc d 41 58 L (.int (x + y) :: st) σ r := r_iadd d41_57
theorem d41_58 : decode (mC 41) 58 = .ok (.aaload, 1) := by decide +kernel
theorem x41_58 {sc : aSc} {d : Nat} {r : aRes} {L : List Value} {st : List Value} {f : Nat → Nat → Int32} {g : Nat → Nat → Int64} {h1 h2 : Nat} {a : Nat} {i : Int32} (h17 : 17 ≤ a) (hA : isG a) (hi : inb i (aln a) = true) (hR : (RR h1 h2 a i.toNatClampNeg).isSome = true) : Rn sc d 41 58 L (.int i :: .ref a :: st) (cS f g h1 h2) r ↔ Rn sc d 41 59 L (.ref (rf h1 h2 a i.toNatClampNeg) :: st) (cS f g h1 h2) r := r_aald2 d41_58 h17 hA hi hR
theorem d41_59 : decode (mC 41) 59 = .ok (.iload 8, 2) := by decide +kernel
theorem x41_59 {sc : aSc} {d : Nat} {r : aRes} {a0 : Value} {a1 : Value} {a2 : Value} {a3 : Value} {a4 : Value} {a5 : Value} {a6 : Value} {a7 : Value} {x8 : Int32} {a9 : Value} {a10 : Value} {st : List Value} {σ : aS} : Rn sc d 41 59 [a0, a1, a2, a3, a4, a5, a6, a7, .int x8, a9, a10] st σ r ↔ Rn sc d 41 61 [a0, a1, a2, a3, a4, a5, a6, a7, .int x8, a9, a10] (.int x8 :: st) σ r := r_iload d41_59 rfl
theorem d41_61 : decode (mC 41) 61 = .ok (.iaload, 1) := by decide +kernel
theorem x41_61 {sc : aSc} {d : Nat} {r : aRes} {L : List Value} {st : List Value} {f : Nat → Nat → Int32} {g : Nat → Nat → Int64} {h1 h2 : Nat} {a : Nat} {i : Int32} (h17 : 17 ≤ a) (hA : isT9 .int a) (hi : inb i (aln a) = true) : Rn sc d 41 61 L (.int i :: .ref a :: st) (cS f g h1 h2) r ↔ Rn sc d 41 62 L (.int (f a i.toNatClampNeg) :: st) (cS f g h1 h2) r := r_iald d41_61 h17 hA hi
theorem d41_62 : decode (mC 41) 62 = .ok (.istore 9, 2) := by decide +kernel
theorem x41_62 {sc : aSc} {d : Nat} {r : aRes} {a0 : Value} {a1 : Value} {a2 : Value} {a3 : Value} {a4 : Value} {a5 : Value} {a6 : Value} {a7 : Value} {x8 : Int32} {a9 : Value} {a10 : Value} {st : List Value} {σ : aS} {y : Int32} : Rn sc d 41 62 [a0, a1, a2, a3, a4, a5, a6, a7, .int x8, a9, a10] (.int y :: st) σ r ↔ Rn sc d 41 64 [a0, a1, a2, a3, a4, a5, a6, a7, .int x8, .int y, a10] st σ r := r_istore d41_62 (Nat.le_of_ble_eq_true rfl) rfl
theorem d41_64 : decode (mC 41) 64 = .ok (.aload_n 0, 1) := by decide +kernel
theorem x41_64 {sc : aSc} {d : Nat} {r : aRes} {x0 : Nat} {a1 : Value} {a2 : Value} {a3 : Value} {a4 : Value} {a5 : Value} {a6 : Value} {a7 : Value} {a8 : Value} {a9 : Value} {a10 : Value} {st : List Value} {σ : aS} : Rn sc d 41 64 [.ref x0, a1, a2, a3, a4, a5, a6, a7, a8, a9, a10] st σ r ↔ Rn sc d 41 65 [.ref x0, a1, a2, a3, a4, a5, a6, a7, a8, a9, a10] (.ref x0 :: st) σ r := r_aload_n d41_64 rfl
theorem d41_65 : decode (mC 41) 65 = .ok (.getfield 16, 3) := by decide +kernel
theorem x41_65 {sc : aSc} {d : Nat} {r : aRes} {L : List Value} {st : List Value} {f : Nat → Nat → Int32} {g : Nat → Nat → Int64} {h1 h2 : Nat} {o : Nat} (hK : KK[o]? = some (.inl 3)) (hR : (RR h1 h2 o 1).isSome = true) : Rn sc d 41 65 L (.ref o :: st) (cS f g h1 h2) r ↔ Rn sc d 41 68 L (.ref (rf h1 h2 o 1) :: st) (cS f g h1 h2) r := r_getR2 d41_65 (ci := 3) (k := 1) rfl (by decide) (fun _ => rfl) hK hR
theorem d41_68 : decode (mC 41) 68 = .ok (.iload_n 2, 1) := by decide +kernel
theorem x41_68 {sc : aSc} {d : Nat} {r : aRes} {a0 : Value} {a1 : Value} {x2 : Int32} {a3 : Value} {a4 : Value} {a5 : Value} {a6 : Value} {a7 : Value} {a8 : Value} {a9 : Value} {a10 : Value} {st : List Value} {σ : aS} : Rn sc d 41 68 [a0, a1, .int x2, a3, a4, a5, a6, a7, a8, a9, a10] st σ r ↔ Rn sc d 41 69 [a0, a1, .int x2, a3, a4, a5, a6, a7, a8, a9, a10] (.int x2 :: st) σ r := r_iload_n d41_68 rfl
theorem d41_69 : decode (mC 41) 69 = .ok (.iconst 1, 1) := by decide +kernel
theorem x41_69 {sc : aSc} {d : Nat} {r : aRes} {L : List Value} {st : List Value} {σ : aS} : Rn sc d 41 69 L st σ r ↔ Rn sc d 41 70 L (.int 1 :: st) σ r := r_iconst d41_69 (by decide)
theorem d41_70 : decode (mC 41) 70 = .ok (.iadd, 1) := by decide +kernel
theorem x41_70 {sc : aSc} {d : Nat} {r : aRes} {L : List Value} {st : List Value} {σ : aS} {x y : Int32} : Rn sc d 41 70 L (.int y :: .int x :: st) σ r ↔ Rn sc d 41 71 L (.int (x + y) :: st) σ r := r_iadd d41_70
theorem d41_71 : decode (mC 41) 71 = .ok (.aaload, 1) := by decide +kernel
theorem x41_71 {sc : aSc} {d : Nat} {r : aRes} {L : List Value} {st : List Value} {f : Nat → Nat → Int32} {g : Nat → Nat → Int64} {h1 h2 : Nat} {a : Nat} {i : Int32} (h17 : 17 ≤ a) (hA : isG a) (hi : inb i (aln a) = true) (hR : (RR h1 h2 a i.toNatClampNeg).isSome = true) : Rn sc d 41 71 L (.int i :: .ref a :: st) (cS f g h1 h2) r ↔ Rn sc d 41 72 L (.ref (rf h1 h2 a i.toNatClampNeg) :: st) (cS f g h1 h2) r := r_aald2 d41_71 h17 hA hi hR
theorem d41_72 : decode (mC 41) 72 = .ok (.iload 8, 2) := by decide +kernel
theorem x41_72 {sc : aSc} {d : Nat} {r : aRes} {a0 : Value} {a1 : Value} {a2 : Value} {a3 : Value} {a4 : Value} {a5 : Value} {a6 : Value} {a7 : Value} {x8 : Int32} {a9 : Value} {a10 : Value} {st : List Value} {σ : aS} : Rn sc d 41 72 [a0, a1, a2, a3, a4, a5, a6, a7, .int x8, a9, a10] st σ r ↔ Rn sc d 41 74 [a0, a1, a2, a3, a4, a5, a6, a7, .int x8, a9, a10] (.int x8 :: st) σ r := r_iload d41_72 rfl
theorem d41_74 : decode (mC 41) 74 = .ok (.iaload, 1) := by decide +kernel
theorem x41_74 {sc : aSc} {d : Nat} {r : aRes} {L : List Value} {st : List Value} {f : Nat → Nat → Int32} {g : Nat → Nat → Int64} {h1 h2 : Nat} {a : Nat} {i : Int32} (h17 : 17 ≤ a) (hA : isT9 .int a) (hi : inb i (aln a) = true) : Rn sc d 41 74 L (.int i :: .ref a :: st) (cS f g h1 h2) r ↔ Rn sc d 41 75 L (.int (f a i.toNatClampNeg) :: st) (cS f g h1 h2) r := r_iald d41_74 h17 hA hi
theorem d41_75 : decode (mC 41) 75 = .ok (.aload_n 0, 1) := by decide +kernel
theorem x41_75 {sc : aSc} {d : Nat} {r : aRes} {x0 : Nat} {a1 : Value} {a2 : Value} {a3 : Value} {a4 : Value} {a5 : Value} {a6 : Value} {a7 : Value} {a8 : Value} {a9 : Value} {a10 : Value} {st : List Value} {σ : aS} : Rn sc d 41 75 [.ref x0, a1, a2, a3, a4, a5, a6, a7, a8, a9, a10] st σ r ↔ Rn sc d 41 76 [.ref x0, a1, a2, a3, a4, a5, a6, a7, a8, a9, a10] (.ref x0 :: st) σ r := r_aload_n d41_75 rfl
theorem d41_76 : decode (mC 41) 76 = .ok (.iload_n 2, 1) := by decide +kernel
theorem x41_76 {sc : aSc} {d : Nat} {r : aRes} {a0 : Value} {a1 : Value} {x2 : Int32} {a3 : Value} {a4 : Value} {a5 : Value} {a6 : Value} {a7 : Value} {a8 : Value} {a9 : Value} {a10 : Value} {st : List Value} {σ : aS} : Rn sc d 41 76 [a0, a1, .int x2, a3, a4, a5, a6, a7, a8, a9, a10] st σ r ↔ Rn sc d 41 77 [a0, a1, .int x2, a3, a4, a5, a6, a7, a8, a9, a10] (.int x2 :: st) σ r := r_iload_n d41_76 rfl
theorem d41_77 : decode (mC 41) 77 = .ok (.iload_n 3, 1) := by decide +kernel
theorem x41_77 {sc : aSc} {d : Nat} {r : aRes} {a0 : Value} {a1 : Value} {a2 : Value} {x3 : Int32} {a4 : Value} {a5 : Value} {a6 : Value} {a7 : Value} {a8 : Value} {a9 : Value} {a10 : Value} {st : List Value} {σ : aS} : Rn sc d 41 77 [a0, a1, a2, .int x3, a4, a5, a6, a7, a8, a9, a10] st σ r ↔ Rn sc d 41 78 [a0, a1, a2, .int x3, a4, a5, a6, a7, a8, a9, a10] (.int x3 :: st) σ r := r_iload_n d41_77 rfl
theorem d41_78 : decode (mC 41) 78 = .ok (.iload 7, 2) := by decide +kernel
theorem x41_78 {sc : aSc} {d : Nat} {r : aRes} {a0 : Value} {a1 : Value} {a2 : Value} {a3 : Value} {a4 : Value} {a5 : Value} {a6 : Value} {x7 : Int32} {a8 : Value} {a9 : Value} {a10 : Value} {st : List Value} {σ : aS} : Rn sc d 41 78 [a0, a1, a2, a3, a4, a5, a6, .int x7, a8, a9, a10] st σ r ↔ Rn sc d 41 80 [a0, a1, a2, a3, a4, a5, a6, .int x7, a8, a9, a10] (.int x7 :: st) σ r := r_iload d41_78 rfl
theorem d41_80 : decode (mC 41) 80 = .ok (.invokevirtual 99, 3) := by decide +kernel
theorem x41_80 {sc : aSc} {d : Nat} {r : aRes} {L : List Value} {f : Nat → Nat → Int32} {g : Nat → Nat → Int64} {h1 h2 : Nat} {y0 : Int32} {y1 : Int32} {y2 : Int32} {z0 : Int32} {o : Nat} (hK : KK[o]? = some (.inl 3)) : Rn sc d 41 80 L [.int y0, .int y1, .int y2, .ref o, .int z0] (cS f g h1 h2) r ↔ ∃ (σ3 : aS) (v : Option Value), Cl sc d 37 [.ref o, .int y2, .int y1, .int y0] (cS f g h1 h2) (σ3, v) ∧ Rn sc d 41 83 L (v.toList ++ [.int z0]) σ3 r := r_callV (vs := [.int y0, .int y1, .int y2]) d41_80 (j := 37) rfl ⟨rfl, by decide, rfl, rfl⟩ (Nat.le_of_ble_eq_true rfl) hK
theorem d41_83 : decode (mC 41) 83 = .ok (.iadd, 1) := by decide +kernel
theorem x41_83 {sc : aSc} {d : Nat} {r : aRes} {L : List Value} {st : List Value} {σ : aS} {x y : Int32} : Rn sc d 41 83 L (.int y :: .int x :: st) σ r ↔ Rn sc d 41 84 L (.int (x + y) :: st) σ r := r_iadd d41_83
theorem d41_84 : decode (mC 41) 84 = .ok (.istore 10, 2) := by decide +kernel
theorem x41_84 {sc : aSc} {d : Nat} {r : aRes} {a0 : Value} {a1 : Value} {a2 : Value} {a3 : Value} {a4 : Value} {a5 : Value} {a6 : Value} {a7 : Value} {a8 : Value} {x9 : Int32} {a10 : Value} {st : List Value} {σ : aS} {y : Int32} : Rn sc d 41 84 [a0, a1, a2, a3, a4, a5, a6, a7, a8, .int x9, a10] (.int y :: st) σ r ↔ Rn sc d 41 86 [a0, a1, a2, a3, a4, a5, a6, a7, a8, .int x9, .int y] st σ r := r_istore d41_84 (Nat.le_of_ble_eq_true rfl) rfl
theorem d41_86 : decode (mC 41) 86 = .ok (.iload 9, 2) := by decide +kernel
theorem x41_86 {sc : aSc} {d : Nat} {r : aRes} {a0 : Value} {a1 : Value} {a2 : Value} {a3 : Value} {a4 : Value} {a5 : Value} {a6 : Value} {a7 : Value} {a8 : Value} {x9 : Int32} {a10 : Value} {st : List Value} {σ : aS} : Rn sc d 41 86 [a0, a1, a2, a3, a4, a5, a6, a7, a8, .int x9, a10] st σ r ↔ Rn sc d 41 88 [a0, a1, a2, a3, a4, a5, a6, a7, a8, .int x9, a10] (.int x9 :: st) σ r := r_iload d41_86 rfl
theorem d41_88 : decode (mC 41) 88 = .ok (.iload 4, 2) := by decide +kernel
theorem x41_88 {sc : aSc} {d : Nat} {r : aRes} {a0 : Value} {a1 : Value} {a2 : Value} {a3 : Value} {x4 : Int32} {a5 : Value} {a6 : Value} {a7 : Value} {a8 : Value} {a9 : Value} {a10 : Value} {st : List Value} {σ : aS} : Rn sc d 41 88 [a0, a1, a2, a3, .int x4, a5, a6, a7, a8, a9, a10] st σ r ↔ Rn sc d 41 90 [a0, a1, a2, a3, .int x4, a5, a6, a7, a8, a9, a10] (.int x4 :: st) σ r := r_iload d41_88 rfl
theorem d41_90 : decode (mC 41) 90 = .ok (.if_icmp .gt 17, 3) := by decide +kernel
theorem x41_90 {sc : aSc} {d : Nat} {r : aRes} {L : List Value} {st : List Value} {σ : aS} {x y : Int32} : Rn sc d 41 90 L (.int y :: .int x :: st) σ r ↔ if y < x then Rn sc d 41 107 L st σ r else Rn sc d 41 93 L st σ r := r_icmp_gt d41_90 rfl
theorem d41_93 : decode (mC 41) 93 = .ok (.iload 9, 2) := by decide +kernel
theorem x41_93 {sc : aSc} {d : Nat} {r : aRes} {a0 : Value} {a1 : Value} {a2 : Value} {a3 : Value} {a4 : Value} {a5 : Value} {a6 : Value} {a7 : Value} {a8 : Value} {x9 : Int32} {a10 : Value} {st : List Value} {σ : aS} : Rn sc d 41 93 [a0, a1, a2, a3, a4, a5, a6, a7, a8, .int x9, a10] st σ r ↔ Rn sc d 41 95 [a0, a1, a2, a3, a4, a5, a6, a7, a8, .int x9, a10] (.int x9 :: st) σ r := r_iload d41_93 rfl
theorem d41_95 : decode (mC 41) 95 = .ok (.iload 4, 2) := by decide +kernel
theorem x41_95 {sc : aSc} {d : Nat} {r : aRes} {a0 : Value} {a1 : Value} {a2 : Value} {a3 : Value} {x4 : Int32} {a5 : Value} {a6 : Value} {a7 : Value} {a8 : Value} {a9 : Value} {a10 : Value} {st : List Value} {σ : aS} : Rn sc d 41 95 [a0, a1, a2, a3, .int x4, a5, a6, a7, a8, a9, a10] st σ r ↔ Rn sc d 41 97 [a0, a1, a2, a3, .int x4, a5, a6, a7, a8, a9, a10] (.int x4 :: st) σ r := r_iload d41_95 rfl
theorem d41_97 : decode (mC 41) 97 = .ok (.if_icmp .ne 22, 3) := by decide +kernel
theorem x41_97 {sc : aSc} {d : Nat} {r : aRes} {L : List Value} {st : List Value} {σ : aS} {x y : Int32} : Rn sc d 41 97 L (.int y :: .int x :: st) σ r ↔ if x = y then Rn sc d 41 100 L st σ r else Rn sc d 41 119 L st σ r := r_icmp_ne d41_97 rfl
theorem d41_100 : decode (mC 41) 100 = .ok (.iload 10, 2) := by decide +kernel
theorem x41_100 {sc : aSc} {d : Nat} {r : aRes} {a0 : Value} {a1 : Value} {a2 : Value} {a3 : Value} {a4 : Value} {a5 : Value} {a6 : Value} {a7 : Value} {a8 : Value} {a9 : Value} {x10 : Int32} {st : List Value} {σ : aS} : Rn sc d 41 100 [a0, a1, a2, a3, a4, a5, a6, a7, a8, a9, .int x10] st σ r ↔ Rn sc d 41 102 [a0, a1, a2, a3, a4, a5, a6, a7, a8, a9, .int x10] (.int x10 :: st) σ r := r_iload d41_100 rfl
theorem d41_102 : decode (mC 41) 102 = .ok (.iload 5, 2) := by decide +kernel
theorem x41_102 {sc : aSc} {d : Nat} {r : aRes} {a0 : Value} {a1 : Value} {a2 : Value} {a3 : Value} {a4 : Value} {x5 : Int32} {a6 : Value} {a7 : Value} {a8 : Value} {a9 : Value} {a10 : Value} {st : List Value} {σ : aS} : Rn sc d 41 102 [a0, a1, a2, a3, a4, .int x5, a6, a7, a8, a9, a10] st σ r ↔ Rn sc d 41 104 [a0, a1, a2, a3, a4, .int x5, a6, a7, a8, a9, a10] (.int x5 :: st) σ r := r_iload d41_102 rfl
theorem d41_104 : decode (mC 41) 104 = .ok (.if_icmp .ge 15, 3) := by decide +kernel
theorem x41_104 {sc : aSc} {d : Nat} {r : aRes} {L : List Value} {st : List Value} {σ : aS} {x y : Int32} : Rn sc d 41 104 L (.int y :: .int x :: st) σ r ↔ if x < y then Rn sc d 41 107 L st σ r else Rn sc d 41 119 L st σ r := r_icmp_ge d41_104 rfl
theorem d41_107 : decode (mC 41) 107 = .ok (.iload 9, 2) := by decide +kernel
theorem x41_107 {sc : aSc} {d : Nat} {r : aRes} {a0 : Value} {a1 : Value} {a2 : Value} {a3 : Value} {a4 : Value} {a5 : Value} {a6 : Value} {a7 : Value} {a8 : Value} {x9 : Int32} {a10 : Value} {st : List Value} {σ : aS} : Rn sc d 41 107 [a0, a1, a2, a3, a4, a5, a6, a7, a8, .int x9, a10] st σ r ↔ Rn sc d 41 109 [a0, a1, a2, a3, a4, a5, a6, a7, a8, .int x9, a10] (.int x9 :: st) σ r := r_iload d41_107 rfl
theorem d41_109 : decode (mC 41) 109 = .ok (.istore 4, 2) := by decide +kernel
theorem x41_109 {sc : aSc} {d : Nat} {r : aRes} {a0 : Value} {a1 : Value} {a2 : Value} {x3 : Int32} {a4 : Value} {a5 : Value} {a6 : Value} {a7 : Value} {a8 : Value} {a9 : Value} {a10 : Value} {st : List Value} {σ : aS} {y : Int32} : Rn sc d 41 109 [a0, a1, a2, .int x3, a4, a5, a6, a7, a8, a9, a10] (.int y :: st) σ r ↔ Rn sc d 41 111 [a0, a1, a2, .int x3, .int y, a5, a6, a7, a8, a9, a10] st σ r := r_istore d41_109 (Nat.le_of_ble_eq_true rfl) rfl
theorem d41_111 : decode (mC 41) 111 = .ok (.iload 10, 2) := by decide +kernel
theorem x41_111 {sc : aSc} {d : Nat} {r : aRes} {a0 : Value} {a1 : Value} {a2 : Value} {a3 : Value} {a4 : Value} {a5 : Value} {a6 : Value} {a7 : Value} {a8 : Value} {a9 : Value} {x10 : Int32} {st : List Value} {σ : aS} : Rn sc d 41 111 [a0, a1, a2, a3, a4, a5, a6, a7, a8, a9, .int x10] st σ r ↔ Rn sc d 41 113 [a0, a1, a2, a3, a4, a5, a6, a7, a8, a9, .int x10] (.int x10 :: st) σ r := r_iload d41_111 rfl
theorem d41_113 : decode (mC 41) 113 = .ok (.istore 5, 2) := by decide +kernel
theorem x41_113 {sc : aSc} {d : Nat} {r : aRes} {a0 : Value} {a1 : Value} {a2 : Value} {a3 : Value} {x4 : Int32} {a5 : Value} {a6 : Value} {a7 : Value} {a8 : Value} {a9 : Value} {a10 : Value} {st : List Value} {σ : aS} {y : Int32} : Rn sc d 41 113 [a0, a1, a2, a3, .int x4, a5, a6, a7, a8, a9, a10] (.int y :: st) σ r ↔ Rn sc d 41 115 [a0, a1, a2, a3, .int x4, .int y, a6, a7, a8, a9, a10] st σ r := r_istore d41_113 (Nat.le_of_ble_eq_true rfl) rfl
theorem d41_115 : decode (mC 41) 115 = .ok (.iload 7, 2) := by decide +kernel
theorem x41_115 {sc : aSc} {d : Nat} {r : aRes} {a0 : Value} {a1 : Value} {a2 : Value} {a3 : Value} {a4 : Value} {a5 : Value} {a6 : Value} {x7 : Int32} {a8 : Value} {a9 : Value} {a10 : Value} {st : List Value} {σ : aS} : Rn sc d 41 115 [a0, a1, a2, a3, a4, a5, a6, .int x7, a8, a9, a10] st σ r ↔ Rn sc d 41 117 [a0, a1, a2, a3, a4, a5, a6, .int x7, a8, a9, a10] (.int x7 :: st) σ r := r_iload d41_115 rfl
theorem d41_117 : decode (mC 41) 117 = .ok (.istore 6, 2) := by decide +kernel
theorem x41_117 {sc : aSc} {d : Nat} {r : aRes} {a0 : Value} {a1 : Value} {a2 : Value} {a3 : Value} {a4 : Value} {x5 : Int32} {a6 : Value} {a7 : Value} {a8 : Value} {a9 : Value} {a10 : Value} {st : List Value} {σ : aS} {y : Int32} : Rn sc d 41 117 [a0, a1, a2, a3, a4, .int x5, a6, a7, a8, a9, a10] (.int y :: st) σ r ↔ Rn sc d 41 119 [a0, a1, a2, a3, a4, .int x5, .int y, a7, a8, a9, a10] st σ r := r_istore d41_117 (Nat.le_of_ble_eq_true rfl) rfl
theorem d41_119 : decode (mC 41) 119 = .ok (.iinc 7 1, 3) := by decide +kernel
theorem x41_119 {sc : aSc} {d : Nat} {r : aRes} {a0 : Value} {a1 : Value} {a2 : Value} {a3 : Value} {a4 : Value} {a5 : Value} {x6 : Int32} {x7 : Int32} {a8 : Value} {a9 : Value} {a10 : Value} {st : List Value} {σ : aS} : Rn sc d 41 119 [a0, a1, a2, a3, a4, a5, .int x6, .int x7, a8, a9, a10] st σ r ↔ Rn sc d 41 122 [a0, a1, a2, a3, a4, a5, .int x6, .int (x7 + 1), a8, a9, a10] st σ r := r_iinc d41_119 (Nat.le_of_ble_eq_true rfl) rfl rfl (by decide)
theorem d41_122 : decode (mC 41) 122 = .ok (.goto (-109), 3) := by decide +kernel
theorem x41_122 {sc : aSc} {d : Nat} {r : aRes} {L : List Value} {st : List Value} {σ : aS} : Rn sc d 41 122 L st σ r ↔ Rn sc d 41 13 L st σ r := r_goto d41_122 rfl
theorem d41_125 : decode (mC 41) 125 = .ok (.aload_n 0, 1) := by decide +kernel
theorem x41_125 {sc : aSc} {d : Nat} {r : aRes} {x0 : Nat} {a1 : Value} {a2 : Value} {a3 : Value} {a4 : Value} {a5 : Value} {a6 : Value} {a7 : Value} {a8 : Value} {a9 : Value} {a10 : Value} {st : List Value} {σ : aS} : Rn sc d 41 125 [.ref x0, a1, a2, a3, a4, a5, a6, a7, a8, a9, a10] st σ r ↔ Rn sc d 41 126 [.ref x0, a1, a2, a3, a4, a5, a6, a7, a8, a9, a10] (.ref x0 :: st) σ r := r_aload_n d41_125 rfl
theorem d41_126 : decode (mC 41) 126 = .ok (.getfield 13, 3) := by decide +kernel
theorem x41_126 {sc : aSc} {d : Nat} {r : aRes} {L : List Value} {st : List Value} {f : Nat → Nat → Int32} {g : Nat → Nat → Int64} {h1 h2 : Nat} {o : Nat} (hK : KK[o]? = some (.inl 3)) (hR : (RR h1 h2 o 0).isSome = true) : Rn sc d 41 126 L (.ref o :: st) (cS f g h1 h2) r ↔ Rn sc d 41 129 L (.ref (rf h1 h2 o 0) :: st) (cS f g h1 h2) r := r_getR2 d41_126 (ci := 3) (k := 0) rfl (by decide) (fun _ => rfl) hK hR
theorem d41_129 : decode (mC 41) 129 = .ok (.iload_n 2, 1) := by decide +kernel
theorem x41_129 {sc : aSc} {d : Nat} {r : aRes} {a0 : Value} {a1 : Value} {x2 : Int32} {a3 : Value} {a4 : Value} {a5 : Value} {a6 : Value} {a7 : Value} {a8 : Value} {a9 : Value} {a10 : Value} {st : List Value} {σ : aS} : Rn sc d 41 129 [a0, a1, .int x2, a3, a4, a5, a6, a7, a8, a9, a10] st σ r ↔ Rn sc d 41 130 [a0, a1, .int x2, a3, a4, a5, a6, a7, a8, a9, a10] (.int x2 :: st) σ r := r_iload_n d41_129 rfl
theorem d41_130 : decode (mC 41) 130 = .ok (.aaload, 1) := by decide +kernel
theorem x41_130 {sc : aSc} {d : Nat} {r : aRes} {L : List Value} {st : List Value} {f : Nat → Nat → Int32} {g : Nat → Nat → Int64} {h1 h2 : Nat} {a : Nat} {i : Int32} (h17 : 17 ≤ a) (hA : isG a) (hi : inb i (aln a) = true) (hR : (RR h1 h2 a i.toNatClampNeg).isSome = true) : Rn sc d 41 130 L (.int i :: .ref a :: st) (cS f g h1 h2) r ↔ Rn sc d 41 131 L (.ref (rf h1 h2 a i.toNatClampNeg) :: st) (cS f g h1 h2) r := r_aald2 d41_130 h17 hA hi hR
theorem d41_131 : decode (mC 41) 131 = .ok (.iload_n 3, 1) := by decide +kernel
theorem x41_131 {sc : aSc} {d : Nat} {r : aRes} {a0 : Value} {a1 : Value} {a2 : Value} {x3 : Int32} {a4 : Value} {a5 : Value} {a6 : Value} {a7 : Value} {a8 : Value} {a9 : Value} {a10 : Value} {st : List Value} {σ : aS} : Rn sc d 41 131 [a0, a1, a2, .int x3, a4, a5, a6, a7, a8, a9, a10] st σ r ↔ Rn sc d 41 132 [a0, a1, a2, .int x3, a4, a5, a6, a7, a8, a9, a10] (.int x3 :: st) σ r := r_iload_n d41_131 rfl
theorem d41_132 : decode (mC 41) 132 = .ok (.iload 4, 2) := by decide +kernel
theorem x41_132 {sc : aSc} {d : Nat} {r : aRes} {a0 : Value} {a1 : Value} {a2 : Value} {a3 : Value} {x4 : Int32} {a5 : Value} {a6 : Value} {a7 : Value} {a8 : Value} {a9 : Value} {a10 : Value} {st : List Value} {σ : aS} : Rn sc d 41 132 [a0, a1, a2, a3, .int x4, a5, a6, a7, a8, a9, a10] st σ r ↔ Rn sc d 41 134 [a0, a1, a2, a3, .int x4, a5, a6, a7, a8, a9, a10] (.int x4 :: st) σ r := r_iload d41_132 rfl
theorem d41_134 : decode (mC 41) 134 = .ok (.iastore, 1) := by decide +kernel
theorem x41_134 {sc : aSc} {d : Nat} {r : aRes} {L : List Value} {st : List Value} {f : Nat → Nat → Int32} {g : Nat → Nat → Int64} {h1 h2 : Nat} {a : Nat} {i : Int32} {x : Int32} (h17 : 17 ≤ a) (hA : isT9 .int a) (hi : inb i (aln a) = true) : Rn sc d 41 134 L (.int x :: .int i :: .ref a :: st) (cS f g h1 h2) r ↔ Rn sc d 41 135 L st (cS (u2 f a i.toNatClampNeg x) g h1 h2) r := r_iast d41_134 h17 hA hi
theorem d41_135 : decode (mC 41) 135 = .ok (.aload_n 0, 1) := by decide +kernel
theorem x41_135 {sc : aSc} {d : Nat} {r : aRes} {x0 : Nat} {a1 : Value} {a2 : Value} {a3 : Value} {a4 : Value} {a5 : Value} {a6 : Value} {a7 : Value} {a8 : Value} {a9 : Value} {a10 : Value} {st : List Value} {σ : aS} : Rn sc d 41 135 [.ref x0, a1, a2, a3, a4, a5, a6, a7, a8, a9, a10] st σ r ↔ Rn sc d 41 136 [.ref x0, a1, a2, a3, a4, a5, a6, a7, a8, a9, a10] (.ref x0 :: st) σ r := r_aload_n d41_135 rfl
theorem d41_136 : decode (mC 41) 136 = .ok (.getfield 16, 3) := by decide +kernel
theorem x41_136 {sc : aSc} {d : Nat} {r : aRes} {L : List Value} {st : List Value} {f : Nat → Nat → Int32} {g : Nat → Nat → Int64} {h1 h2 : Nat} {o : Nat} (hK : KK[o]? = some (.inl 3)) (hR : (RR h1 h2 o 1).isSome = true) : Rn sc d 41 136 L (.ref o :: st) (cS f g h1 h2) r ↔ Rn sc d 41 139 L (.ref (rf h1 h2 o 1) :: st) (cS f g h1 h2) r := r_getR2 d41_136 (ci := 3) (k := 1) rfl (by decide) (fun _ => rfl) hK hR
theorem d41_139 : decode (mC 41) 139 = .ok (.iload_n 2, 1) := by decide +kernel
theorem x41_139 {sc : aSc} {d : Nat} {r : aRes} {a0 : Value} {a1 : Value} {x2 : Int32} {a3 : Value} {a4 : Value} {a5 : Value} {a6 : Value} {a7 : Value} {a8 : Value} {a9 : Value} {a10 : Value} {st : List Value} {σ : aS} : Rn sc d 41 139 [a0, a1, .int x2, a3, a4, a5, a6, a7, a8, a9, a10] st σ r ↔ Rn sc d 41 140 [a0, a1, .int x2, a3, a4, a5, a6, a7, a8, a9, a10] (.int x2 :: st) σ r := r_iload_n d41_139 rfl
theorem d41_140 : decode (mC 41) 140 = .ok (.aaload, 1) := by decide +kernel
theorem x41_140 {sc : aSc} {d : Nat} {r : aRes} {L : List Value} {st : List Value} {f : Nat → Nat → Int32} {g : Nat → Nat → Int64} {h1 h2 : Nat} {a : Nat} {i : Int32} (h17 : 17 ≤ a) (hA : isG a) (hi : inb i (aln a) = true) (hR : (RR h1 h2 a i.toNatClampNeg).isSome = true) : Rn sc d 41 140 L (.int i :: .ref a :: st) (cS f g h1 h2) r ↔ Rn sc d 41 141 L (.ref (rf h1 h2 a i.toNatClampNeg) :: st) (cS f g h1 h2) r := r_aald2 d41_140 h17 hA hi hR
theorem d41_141 : decode (mC 41) 141 = .ok (.iload_n 3, 1) := by decide +kernel
theorem x41_141 {sc : aSc} {d : Nat} {r : aRes} {a0 : Value} {a1 : Value} {a2 : Value} {x3 : Int32} {a4 : Value} {a5 : Value} {a6 : Value} {a7 : Value} {a8 : Value} {a9 : Value} {a10 : Value} {st : List Value} {σ : aS} : Rn sc d 41 141 [a0, a1, a2, .int x3, a4, a5, a6, a7, a8, a9, a10] st σ r ↔ Rn sc d 41 142 [a0, a1, a2, .int x3, a4, a5, a6, a7, a8, a9, a10] (.int x3 :: st) σ r := r_iload_n d41_141 rfl
theorem d41_142 : decode (mC 41) 142 = .ok (.iload 5, 2) := by decide +kernel
theorem x41_142 {sc : aSc} {d : Nat} {r : aRes} {a0 : Value} {a1 : Value} {a2 : Value} {a3 : Value} {a4 : Value} {x5 : Int32} {a6 : Value} {a7 : Value} {a8 : Value} {a9 : Value} {a10 : Value} {st : List Value} {σ : aS} : Rn sc d 41 142 [a0, a1, a2, a3, a4, .int x5, a6, a7, a8, a9, a10] st σ r ↔ Rn sc d 41 144 [a0, a1, a2, a3, a4, .int x5, a6, a7, a8, a9, a10] (.int x5 :: st) σ r := r_iload d41_142 rfl
theorem d41_144 : decode (mC 41) 144 = .ok (.iastore, 1) := by decide +kernel
theorem x41_144 {sc : aSc} {d : Nat} {r : aRes} {L : List Value} {st : List Value} {f : Nat → Nat → Int32} {g : Nat → Nat → Int64} {h1 h2 : Nat} {a : Nat} {i : Int32} {x : Int32} (h17 : 17 ≤ a) (hA : isT9 .int a) (hi : inb i (aln a) = true) : Rn sc d 41 144 L (.int x :: .int i :: .ref a :: st) (cS f g h1 h2) r ↔ Rn sc d 41 145 L st (cS (u2 f a i.toNatClampNeg x) g h1 h2) r := r_iast d41_144 h17 hA hi
theorem d41_145 : decode (mC 41) 145 = .ok (.aload_n 0, 1) := by decide +kernel
theorem x41_145 {sc : aSc} {d : Nat} {r : aRes} {x0 : Nat} {a1 : Value} {a2 : Value} {a3 : Value} {a4 : Value} {a5 : Value} {a6 : Value} {a7 : Value} {a8 : Value} {a9 : Value} {a10 : Value} {st : List Value} {σ : aS} : Rn sc d 41 145 [.ref x0, a1, a2, a3, a4, a5, a6, a7, a8, a9, a10] st σ r ↔ Rn sc d 41 146 [.ref x0, a1, a2, a3, a4, a5, a6, a7, a8, a9, a10] (.ref x0 :: st) σ r := r_aload_n d41_145 rfl
theorem d41_146 : decode (mC 41) 146 = .ok (.getfield 22, 3) := by decide +kernel
theorem x41_146 {sc : aSc} {d : Nat} {r : aRes} {L : List Value} {st : List Value} {f : Nat → Nat → Int32} {g : Nat → Nat → Int64} {h1 h2 : Nat} {o : Nat} (hK : KK[o]? = some (.inl 3)) (hR : (RR h1 h2 o 3).isSome = true) : Rn sc d 41 146 L (.ref o :: st) (cS f g h1 h2) r ↔ Rn sc d 41 149 L (.ref (rf h1 h2 o 3) :: st) (cS f g h1 h2) r := r_getR2 d41_146 (ci := 3) (k := 3) rfl (by decide) (fun _ => rfl) hK hR
theorem d41_149 : decode (mC 41) 149 = .ok (.iload_n 2, 1) := by decide +kernel
theorem x41_149 {sc : aSc} {d : Nat} {r : aRes} {a0 : Value} {a1 : Value} {x2 : Int32} {a3 : Value} {a4 : Value} {a5 : Value} {a6 : Value} {a7 : Value} {a8 : Value} {a9 : Value} {a10 : Value} {st : List Value} {σ : aS} : Rn sc d 41 149 [a0, a1, .int x2, a3, a4, a5, a6, a7, a8, a9, a10] st σ r ↔ Rn sc d 41 150 [a0, a1, .int x2, a3, a4, a5, a6, a7, a8, a9, a10] (.int x2 :: st) σ r := r_iload_n d41_149 rfl
theorem d41_150 : decode (mC 41) 150 = .ok (.aaload, 1) := by decide +kernel
theorem x41_150 {sc : aSc} {d : Nat} {r : aRes} {L : List Value} {st : List Value} {f : Nat → Nat → Int32} {g : Nat → Nat → Int64} {h1 h2 : Nat} {a : Nat} {i : Int32} (h17 : 17 ≤ a) (hA : isG a) (hi : inb i (aln a) = true) (hR : (RR h1 h2 a i.toNatClampNeg).isSome = true) : Rn sc d 41 150 L (.int i :: .ref a :: st) (cS f g h1 h2) r ↔ Rn sc d 41 151 L (.ref (rf h1 h2 a i.toNatClampNeg) :: st) (cS f g h1 h2) r := r_aald2 d41_150 h17 hA hi hR
theorem d41_151 : decode (mC 41) 151 = .ok (.iload_n 3, 1) := by decide +kernel
theorem x41_151 {sc : aSc} {d : Nat} {r : aRes} {a0 : Value} {a1 : Value} {a2 : Value} {x3 : Int32} {a4 : Value} {a5 : Value} {a6 : Value} {a7 : Value} {a8 : Value} {a9 : Value} {a10 : Value} {st : List Value} {σ : aS} : Rn sc d 41 151 [a0, a1, a2, .int x3, a4, a5, a6, a7, a8, a9, a10] st σ r ↔ Rn sc d 41 152 [a0, a1, a2, .int x3, a4, a5, a6, a7, a8, a9, a10] (.int x3 :: st) σ r := r_iload_n d41_151 rfl
theorem d41_152 : decode (mC 41) 152 = .ok (.iload 6, 2) := by decide +kernel
theorem x41_152 {sc : aSc} {d : Nat} {r : aRes} {a0 : Value} {a1 : Value} {a2 : Value} {a3 : Value} {a4 : Value} {a5 : Value} {x6 : Int32} {a7 : Value} {a8 : Value} {a9 : Value} {a10 : Value} {st : List Value} {σ : aS} : Rn sc d 41 152 [a0, a1, a2, a3, a4, a5, .int x6, a7, a8, a9, a10] st σ r ↔ Rn sc d 41 154 [a0, a1, a2, a3, a4, a5, .int x6, a7, a8, a9, a10] (.int x6 :: st) σ r := r_iload d41_152 rfl
theorem d41_154 : decode (mC 41) 154 = .ok (.iastore, 1) := by decide +kernel
theorem x41_154 {sc : aSc} {d : Nat} {r : aRes} {L : List Value} {st : List Value} {f : Nat → Nat → Int32} {g : Nat → Nat → Int64} {h1 h2 : Nat} {a : Nat} {i : Int32} {x : Int32} (h17 : 17 ≤ a) (hA : isT9 .int a) (hi : inb i (aln a) = true) : Rn sc d 41 154 L (.int x :: .int i :: .ref a :: st) (cS f g h1 h2) r ↔ Rn sc d 41 155 L st (cS (u2 f a i.toNatClampNeg x) g h1 h2) r := r_iast d41_154 h17 hA hi
theorem d41_155 : decode (mC 41) 155 = .ok (.return_, 1) := by decide +kernel
theorem x41_155 {sc : aSc} {d : Nat} {r : aRes} {L : List Value} {σ : aS} : Rn sc d 41 155 L [] σ r ↔ r = (σ, none) := r_vret d41_155 rfl
theorem d42_0 : decode (mC 42) 0 = .ok (.iload_n 1, 1) := by decide +kernel
theorem x42_0 {sc : aSc} {d : Nat} {r : aRes} {a0 : Value} {x1 : Int32} {a2 : Value} {a3 : Value} {a4 : Value} {st : List Value} {σ : aS} : Rn sc d 42 0 [a0, .int x1, a2, a3, a4] st σ r ↔ Rn sc d 42 1 [a0, .int x1, a2, a3, a4] (.int x1 :: st) σ r := r_iload_n d42_0 rfl
theorem d42_1 : decode (mC 42) 1 = .ok (.istore_n 3, 1) := by decide +kernel
theorem x42_1 {sc : aSc} {d : Nat} {r : aRes} {a0 : Value} {a1 : Value} {x2 : Int32} {a3 : Value} {a4 : Value} {st : List Value} {σ : aS} {y : Int32} : Rn sc d 42 1 [a0, a1, .int x2, a3, a4] (.int y :: st) σ r ↔ Rn sc d 42 2 [a0, a1, .int x2, .int y, a4] st σ r := r_istore_n d42_1 (Nat.le_of_ble_eq_true rfl) rfl
theorem d42_2 : decode (mC 42) 2 = .ok (.iconst 0, 1) := by decide +kernel
theorem x42_2 {sc : aSc} {d : Nat} {r : aRes} {L : List Value} {st : List Value} {σ : aS} : Rn sc d 42 2 L st σ r ↔ Rn sc d 42 3 L (.int 0 :: st) σ r := r_iconst d42_2 (by decide)
theorem d42_3 : decode (mC 42) 3 = .ok (.istore 4, 2) := by decide +kernel
theorem x42_3 {sc : aSc} {d : Nat} {r : aRes} {a0 : Value} {a1 : Value} {a2 : Value} {x3 : Int32} {a4 : Value} {st : List Value} {σ : aS} {y : Int32} : Rn sc d 42 3 [a0, a1, a2, .int x3, a4] (.int y :: st) σ r ↔ Rn sc d 42 5 [a0, a1, a2, .int x3, .int y] st σ r := r_istore d42_3 (Nat.le_of_ble_eq_true rfl) rfl
theorem d42_5 : decode (mC 42) 5 = .ok (.iload 4, 2) := by decide +kernel
theorem x42_5 {sc : aSc} {d : Nat} {r : aRes} {a0 : Value} {a1 : Value} {a2 : Value} {a3 : Value} {x4 : Int32} {st : List Value} {σ : aS} : Rn sc d 42 5 [a0, a1, a2, a3, .int x4] st σ r ↔ Rn sc d 42 7 [a0, a1, a2, a3, .int x4] (.int x4 :: st) σ r := r_iload d42_5 rfl
theorem d42_7 : decode (mC 42) 7 = .ok (.iload_n 2, 1) := by decide +kernel
theorem x42_7 {sc : aSc} {d : Nat} {r : aRes} {a0 : Value} {a1 : Value} {x2 : Int32} {a3 : Value} {a4 : Value} {st : List Value} {σ : aS} : Rn sc d 42 7 [a0, a1, .int x2, a3, a4] st σ r ↔ Rn sc d 42 8 [a0, a1, .int x2, a3, a4] (.int x2 :: st) σ r := r_iload_n d42_7 rfl
theorem d42_8 : decode (mC 42) 8 = .ok (.if_icmp .ge 24, 3) := by decide +kernel
theorem x42_8 {sc : aSc} {d : Nat} {r : aRes} {L : List Value} {st : List Value} {σ : aS} {x y : Int32} : Rn sc d 42 8 L (.int y :: .int x :: st) σ r ↔ if x < y then Rn sc d 42 11 L st σ r else Rn sc d 42 32 L st σ r := r_icmp_ge d42_8 rfl
theorem d42_11 : decode (mC 42) 11 = .ok (.iload_n 3, 1) := by decide +kernel
theorem x42_11 {sc : aSc} {d : Nat} {r : aRes} {a0 : Value} {a1 : Value} {a2 : Value} {x3 : Int32} {a4 : Value} {st : List Value} {σ : aS} : Rn sc d 42 11 [a0, a1, a2, .int x3, a4] st σ r ↔ Rn sc d 42 12 [a0, a1, a2, .int x3, a4] (.int x3 :: st) σ r := r_iload_n d42_11 rfl
theorem d42_12 : decode (mC 42) 12 = .ok (.aload_n 0, 1) := by decide +kernel
theorem x42_12 {sc : aSc} {d : Nat} {r : aRes} {x0 : Nat} {a1 : Value} {a2 : Value} {a3 : Value} {a4 : Value} {st : List Value} {σ : aS} : Rn sc d 42 12 [.ref x0, a1, a2, a3, a4] st σ r ↔ Rn sc d 42 13 [.ref x0, a1, a2, a3, a4] (.ref x0 :: st) σ r := r_aload_n d42_12 rfl
theorem d42_13 : decode (mC 42) 13 = .ok (.getfield 22, 3) := by decide +kernel
theorem x42_13 {sc : aSc} {d : Nat} {r : aRes} {L : List Value} {st : List Value} {f : Nat → Nat → Int32} {g : Nat → Nat → Int64} {h1 h2 : Nat} {o : Nat} (hK : KK[o]? = some (.inl 3)) (hR : (RR h1 h2 o 3).isSome = true) : Rn sc d 42 13 L (.ref o :: st) (cS f g h1 h2) r ↔ Rn sc d 42 16 L (.ref (rf h1 h2 o 3) :: st) (cS f g h1 h2) r := r_getR2 d42_13 (ci := 3) (k := 3) rfl (by decide) (fun _ => rfl) hK hR
theorem d42_16 : decode (mC 42) 16 = .ok (.iload 4, 2) := by decide +kernel
theorem x42_16 {sc : aSc} {d : Nat} {r : aRes} {a0 : Value} {a1 : Value} {a2 : Value} {a3 : Value} {x4 : Int32} {st : List Value} {σ : aS} : Rn sc d 42 16 [a0, a1, a2, a3, .int x4] st σ r ↔ Rn sc d 42 18 [a0, a1, a2, a3, .int x4] (.int x4 :: st) σ r := r_iload d42_16 rfl
theorem d42_18 : decode (mC 42) 18 = .ok (.aaload, 1) := by decide +kernel
theorem x42_18 {sc : aSc} {d : Nat} {r : aRes} {L : List Value} {st : List Value} {f : Nat → Nat → Int32} {g : Nat → Nat → Int64} {h1 h2 : Nat} {a : Nat} {i : Int32} (h17 : 17 ≤ a) (hA : isG a) (hi : inb i (aln a) = true) (hR : (RR h1 h2 a i.toNatClampNeg).isSome = true) : Rn sc d 42 18 L (.int i :: .ref a :: st) (cS f g h1 h2) r ↔ Rn sc d 42 19 L (.ref (rf h1 h2 a i.toNatClampNeg) :: st) (cS f g h1 h2) r := r_aald2 d42_18 h17 hA hi hR
theorem d42_19 : decode (mC 42) 19 = .ok (.iload_n 3, 1) := by decide +kernel
theorem x42_19 {sc : aSc} {d : Nat} {r : aRes} {a0 : Value} {a1 : Value} {a2 : Value} {x3 : Int32} {a4 : Value} {st : List Value} {σ : aS} : Rn sc d 42 19 [a0, a1, a2, .int x3, a4] st σ r ↔ Rn sc d 42 20 [a0, a1, a2, .int x3, a4] (.int x3 :: st) σ r := r_iload_n d42_19 rfl
theorem d42_20 : decode (mC 42) 20 = .ok (.iaload, 1) := by decide +kernel
theorem x42_20 {sc : aSc} {d : Nat} {r : aRes} {L : List Value} {st : List Value} {f : Nat → Nat → Int32} {g : Nat → Nat → Int64} {h1 h2 : Nat} {a : Nat} {i : Int32} (h17 : 17 ≤ a) (hA : isT9 .int a) (hi : inb i (aln a) = true) : Rn sc d 42 20 L (.int i :: .ref a :: st) (cS f g h1 h2) r ↔ Rn sc d 42 21 L (.int (f a i.toNatClampNeg) :: st) (cS f g h1 h2) r := r_iald d42_20 h17 hA hi
theorem x42_20s {sc : aSc} {d : Nat} {r : aRes} {L : List Value} {st : List Value} {f : Nat → Nat → Int32} {g : Nat → Nat → Int64} {h1 h2 : Nat} {a : Nat} {i : Int32} (h0 : ¬ a = 0) (h17 : a < 17) (hA : isT9 .int a) (hi : inb i (aln a) = true) : Rn sc d 42 20 L (.int i :: .ref a :: st) (cS f g h1 h2) r ↔ Rn sc d 42 21 L (.int (fI a i.toNatClampNeg) :: st) (cS f g h1 h2) r := r_iald0 d42_20 h0 h17 hA hi
theorem d42_21 : decode (mC 42) 21 = .ok (.invokestatic 54, 3) := by decide +kernel
theorem x42_21 {sc : aSc} {d : Nat} {r : aRes} {L : List Value} {σ : aS} {y0 : Int32} {z0 : Int32} : Rn sc d 42 21 L [.int y0, .int z0] σ r ↔ ∃ (σ3 : aS) (v : Option Value), Cl sc d 34 [.int y0] σ (σ3, v) ∧ Rn sc d 42 24 L (v.toList ++ [.int z0]) σ3 r := r_callS (vs := [.int y0]) d42_21 rfl (j := 34) rfl ⟨rfl, by decide, rfl, rfl⟩ (Nat.le_of_ble_eq_true rfl)
theorem d42_24 : decode (mC 42) 24 = .ok (.ixor, 1) := by decide +kernel
theorem x42_24 {sc : aSc} {d : Nat} {r : aRes} {L : List Value} {st : List Value} {σ : aS} {x y : Int32} : Rn sc d 42 24 L (.int y :: .int x :: st) σ r ↔ Rn sc d 42 25 L (.int (x ^^^ y) :: st) σ r := r_ixor d42_24
theorem d42_25 : decode (mC 42) 25 = .ok (.istore_n 3, 1) := by decide +kernel
theorem x42_25 {sc : aSc} {d : Nat} {r : aRes} {a0 : Value} {a1 : Value} {x2 : Int32} {a3 : Value} {a4 : Value} {st : List Value} {σ : aS} {y : Int32} : Rn sc d 42 25 [a0, a1, .int x2, a3, a4] (.int y :: st) σ r ↔ Rn sc d 42 26 [a0, a1, .int x2, .int y, a4] st σ r := r_istore_n d42_25 (Nat.le_of_ble_eq_true rfl) rfl
theorem d42_26 : decode (mC 42) 26 = .ok (.iinc 4 1, 3) := by decide +kernel
theorem x42_26 {sc : aSc} {d : Nat} {r : aRes} {a0 : Value} {a1 : Value} {a2 : Value} {x3 : Int32} {x4 : Int32} {st : List Value} {σ : aS} : Rn sc d 42 26 [a0, a1, a2, .int x3, .int x4] st σ r ↔ Rn sc d 42 29 [a0, a1, a2, .int x3, .int (x4 + 1)] st σ r := r_iinc d42_26 (Nat.le_of_ble_eq_true rfl) rfl rfl (by decide)
theorem d42_29 : decode (mC 42) 29 = .ok (.goto (-24), 3) := by decide +kernel
theorem x42_29 {sc : aSc} {d : Nat} {r : aRes} {L : List Value} {st : List Value} {σ : aS} : Rn sc d 42 29 L st σ r ↔ Rn sc d 42 5 L st σ r := r_goto d42_29 rfl
theorem d42_32 : decode (mC 42) 32 = .ok (.aload_n 0, 1) := by decide +kernel
theorem x42_32 {sc : aSc} {d : Nat} {r : aRes} {x0 : Nat} {a1 : Value} {a2 : Value} {a3 : Value} {a4 : Value} {st : List Value} {σ : aS} : Rn sc d 42 32 [.ref x0, a1, a2, a3, a4] st σ r ↔ Rn sc d 42 33 [.ref x0, a1, a2, a3, a4] (.ref x0 :: st) σ r := r_aload_n d42_32 rfl
theorem d42_33 : decode (mC 42) 33 = .ok (.getfield 22, 3) := by decide +kernel
theorem x42_33 {sc : aSc} {d : Nat} {r : aRes} {L : List Value} {st : List Value} {f : Nat → Nat → Int32} {g : Nat → Nat → Int64} {h1 h2 : Nat} {o : Nat} (hK : KK[o]? = some (.inl 3)) (hR : (RR h1 h2 o 3).isSome = true) : Rn sc d 42 33 L (.ref o :: st) (cS f g h1 h2) r ↔ Rn sc d 42 36 L (.ref (rf h1 h2 o 3) :: st) (cS f g h1 h2) r := r_getR2 d42_33 (ci := 3) (k := 3) rfl (by decide) (fun _ => rfl) hK hR
theorem d42_36 : decode (mC 42) 36 = .ok (.iload_n 2, 1) := by decide +kernel
theorem x42_36 {sc : aSc} {d : Nat} {r : aRes} {a0 : Value} {a1 : Value} {x2 : Int32} {a3 : Value} {a4 : Value} {st : List Value} {σ : aS} : Rn sc d 42 36 [a0, a1, .int x2, a3, a4] st σ r ↔ Rn sc d 42 37 [a0, a1, .int x2, a3, a4] (.int x2 :: st) σ r := r_iload_n d42_36 rfl
theorem d42_37 : decode (mC 42) 37 = .ok (.aaload, 1) := by decide +kernel
theorem x42_37 {sc : aSc} {d : Nat} {r : aRes} {L : List Value} {st : List Value} {f : Nat → Nat → Int32} {g : Nat → Nat → Int64} {h1 h2 : Nat} {a : Nat} {i : Int32} (h17 : 17 ≤ a) (hA : isG a) (hi : inb i (aln a) = true) (hR : (RR h1 h2 a i.toNatClampNeg).isSome = true) : Rn sc d 42 37 L (.int i :: .ref a :: st) (cS f g h1 h2) r ↔ Rn sc d 42 38 L (.ref (rf h1 h2 a i.toNatClampNeg) :: st) (cS f g h1 h2) r := r_aald2 d42_37 h17 hA hi hR
theorem d42_38 : decode (mC 42) 38 = .ok (.iload_n 3, 1) := by decide +kernel
theorem x42_38 {sc : aSc} {d : Nat} {r : aRes} {a0 : Value} {a1 : Value} {a2 : Value} {x3 : Int32} {a4 : Value} {st : List Value} {σ : aS} : Rn sc d 42 38 [a0, a1, a2, .int x3, a4] st σ r ↔ Rn sc d 42 39 [a0, a1, a2, .int x3, a4] (.int x3 :: st) σ r := r_iload_n d42_38 rfl
theorem d42_39 : decode (mC 42) 39 = .ok (.iaload, 1) := by decide +kernel
theorem x42_39 {sc : aSc} {d : Nat} {r : aRes} {L : List Value} {st : List Value} {f : Nat → Nat → Int32} {g : Nat → Nat → Int64} {h1 h2 : Nat} {a : Nat} {i : Int32} (h17 : 17 ≤ a) (hA : isT9 .int a) (hi : inb i (aln a) = true) : Rn sc d 42 39 L (.int i :: .ref a :: st) (cS f g h1 h2) r ↔ Rn sc d 42 40 L (.int (f a i.toNatClampNeg) :: st) (cS f g h1 h2) r := r_iald d42_39 h17 hA hi
theorem x42_39s {sc : aSc} {d : Nat} {r : aRes} {L : List Value} {st : List Value} {f : Nat → Nat → Int32} {g : Nat → Nat → Int64} {h1 h2 : Nat} {a : Nat} {i : Int32} (h0 : ¬ a = 0) (h17 : a < 17) (hA : isT9 .int a) (hi : inb i (aln a) = true) : Rn sc d 42 39 L (.int i :: .ref a :: st) (cS f g h1 h2) r ↔ Rn sc d 42 40 L (.int (fI a i.toNatClampNeg) :: st) (cS f g h1 h2) r := r_iald0 d42_39 h0 h17 hA hi
theorem d42_40 : decode (mC 42) 40 = .ok (.invokestatic 102, 3) := by decide +kernel
theorem x42_40 {sc : aSc} {d : Nat} {r : aRes} {L : List Value} {σ : aS} {y0 : Int32}  : Rn sc d 42 40 L [.int y0] σ r ↔ ∃ (σ3 : aS) (v : Option Value), Cl sc d 35 [.int y0] σ (σ3, v) ∧ Rn sc d 42 43 L (v.toList ++ []) σ3 r := r_callS (vs := [.int y0]) d42_40 rfl (j := 35) rfl ⟨rfl, by decide, rfl, rfl⟩ (Nat.le_of_ble_eq_true rfl)
theorem d42_43 : decode (mC 42) 43 = .ok (.ireturn, 1) := by decide +kernel
theorem x42_43 {sc : aSc} {d : Nat} {r : aRes} {L : List Value} {σ : aS} {x : Int32} : Rn sc d 42 43 L [.int x] σ r ↔ r = (σ, some (.int x)) := r_iret d42_43 rfl rfl
theorem d43_0 : decode (mC 43) 0 = .ok (.aload_n 0, 1) := by decide +kernel
theorem x43_0 {sc : aSc} {d : Nat} {r : aRes} {x0 : Nat} {a1 : Value} {a2 : Value} {a3 : Value} {a4 : Value} {a5 : Value} {a6 : Value} {st : List Value} {σ : aS} : Rn sc d 43 0 [.ref x0, a1, a2, a3, a4, a5, a6] st σ r ↔ Rn sc d 43 1 [.ref x0, a1, a2, a3, a4, a5, a6] (.ref x0 :: st) σ r := r_aload_n d43_0 rfl
theorem d43_1 : decode (mC 43) 1 = .ok (.aload_n 1, 1) := by decide +kernel
theorem x43_1 {sc : aSc} {d : Nat} {r : aRes} {a0 : Value} {x1 : Nat} {a2 : Value} {a3 : Value} {a4 : Value} {a5 : Value} {a6 : Value} {st : List Value} {σ : aS} : Rn sc d 43 1 [a0, .ref x1, a2, a3, a4, a5, a6] st σ r ↔ Rn sc d 43 2 [a0, .ref x1, a2, a3, a4, a5, a6] (.ref x1 :: st) σ r := r_aload_n d43_1 rfl
theorem d43_2 : decode (mC 43) 2 = .ok (.iload_n 3, 1) := by decide +kernel
theorem x43_2 {sc : aSc} {d : Nat} {r : aRes} {a0 : Value} {a1 : Value} {a2 : Value} {x3 : Int32} {a4 : Value} {a5 : Value} {a6 : Value} {st : List Value} {σ : aS} : Rn sc d 43 2 [a0, a1, a2, .int x3, a4, a5, a6] st σ r ↔ Rn sc d 43 3 [a0, a1, a2, .int x3, a4, a5, a6] (.int x3 :: st) σ r := r_iload_n d43_2 rfl
theorem d43_3 : decode (mC 43) 3 = .ok (.aload_n 1, 1) := by decide +kernel
theorem x43_3 {sc : aSc} {d : Nat} {r : aRes} {a0 : Value} {x1 : Nat} {a2 : Value} {a3 : Value} {a4 : Value} {a5 : Value} {a6 : Value} {st : List Value} {σ : aS} : Rn sc d 43 3 [a0, .ref x1, a2, a3, a4, a5, a6] st σ r ↔ Rn sc d 43 4 [a0, .ref x1, a2, a3, a4, a5, a6] (.ref x1 :: st) σ r := r_aload_n d43_3 rfl
theorem d43_4 : decode (mC 43) 4 = .ok (.invokevirtual 80, 3) := by decide +kernel
theorem x43_4 {sc : aSc} {d : Nat} {r : aRes} {L : List Value} {f : Nat → Nat → Int32} {g : Nat → Nat → Int64} {h1 h2 : Nat}  {z0 : Int32} {z1 : Nat} {z2 : Nat} {o : Nat} (hK : KK[o]? = some (.inl 1)) : Rn sc d 43 4 L [.ref o, .int z0, .ref z1, .ref z2] (cS f g h1 h2) r ↔ ∃ (σ3 : aS) (v : Option Value), Cl sc d 8 [.ref o] (cS f g h1 h2) (σ3, v) ∧ Rn sc d 43 7 L (v.toList ++ [.int z0, .ref z1, .ref z2]) σ3 r := r_callV (vs := []) d43_4 (j := 8) rfl ⟨rfl, by decide, rfl, rfl⟩ (Nat.le_of_ble_eq_true rfl) hK
theorem d43_7 : decode (mC 43) 7 = .ok (.invokevirtual 76, 3) := by decide +kernel
theorem x43_7 {sc : aSc} {d : Nat} {r : aRes} {L : List Value} {f : Nat → Nat → Int32} {g : Nat → Nat → Int64} {h1 h2 : Nat} {y0 : Int32} {y1 : Int32} {y2 : Nat}  {o : Nat} (hK : KK[o]? = some (.inl 3)) : Rn sc d 43 7 L [.int y0, .int y1, .ref y2, .ref o] (cS f g h1 h2) r ↔ ∃ (σ3 : aS) (v : Option Value), Cl sc d 33 [.ref o, .ref y2, .int y1, .int y0] (cS f g h1 h2) (σ3, v) ∧ Rn sc d 43 10 L (v.toList ++ []) σ3 r := r_callV (vs := [.int y0, .int y1, .ref y2]) d43_7 (j := 33) rfl ⟨rfl, by decide, rfl, rfl⟩ (Nat.le_of_ble_eq_true rfl) hK
theorem d43_10 : decode (mC 43) 10 = .ok (.iload_n 3, 1) := by decide +kernel
theorem x43_10 {sc : aSc} {d : Nat} {r : aRes} {a0 : Value} {a1 : Value} {a2 : Value} {x3 : Int32} {a4 : Value} {a5 : Value} {a6 : Value} {st : List Value} {σ : aS} : Rn sc d 43 10 [a0, a1, a2, .int x3, a4, a5, a6] st σ r ↔ Rn sc d 43 11 [a0, a1, a2, .int x3, a4, a5, a6] (.int x3 :: st) σ r := r_iload_n d43_10 rfl
theorem d43_11 : decode (mC 43) 11 = .ok (.istore 4, 2) := by decide +kernel
theorem x43_11 {sc : aSc} {d : Nat} {r : aRes} {a0 : Value} {a1 : Value} {a2 : Value} {x3 : Int32} {a4 : Value} {a5 : Value} {a6 : Value} {st : List Value} {σ : aS} {y : Int32} : Rn sc d 43 11 [a0, a1, a2, .int x3, a4, a5, a6] (.int y :: st) σ r ↔ Rn sc d 43 13 [a0, a1, a2, .int x3, .int y, a5, a6] st σ r := r_istore d43_11 (Nat.le_of_ble_eq_true rfl) rfl
theorem d43_13 : decode (mC 43) 13 = .ok (.iload 4, 2) := by decide +kernel
theorem x43_13 {sc : aSc} {d : Nat} {r : aRes} {a0 : Value} {a1 : Value} {a2 : Value} {a3 : Value} {x4 : Int32} {a5 : Value} {a6 : Value} {st : List Value} {σ : aS} : Rn sc d 43 13 [a0, a1, a2, a3, .int x4, a5, a6] st σ r ↔ Rn sc d 43 15 [a0, a1, a2, a3, .int x4, a5, a6] (.int x4 :: st) σ r := r_iload d43_13 rfl
theorem d43_15 : decode (mC 43) 15 = .ok (.ifCond .lt 86, 3) := by decide +kernel
theorem x43_15 {sc : aSc} {d : Nat} {r : aRes} {L : List Value} {st : List Value} {σ : aS} {x : Int32} : Rn sc d 43 15 L (.int x :: st) σ r ↔ if x < 0 then Rn sc d 43 101 L st σ r else Rn sc d 43 18 L st σ r := r_if_lt d43_15 rfl
theorem d43_18 : decode (mC 43) 18 = .ok (.iconst 0, 1) := by decide +kernel
theorem x43_18 {sc : aSc} {d : Nat} {r : aRes} {L : List Value} {st : List Value} {σ : aS} : Rn sc d 43 18 L st σ r ↔ Rn sc d 43 19 L (.int 0 :: st) σ r := r_iconst d43_18 (by decide)
theorem d43_19 : decode (mC 43) 19 = .ok (.istore 5, 2) := by decide +kernel
theorem x43_19 {sc : aSc} {d : Nat} {r : aRes} {a0 : Value} {a1 : Value} {a2 : Value} {a3 : Value} {x4 : Int32} {a5 : Value} {a6 : Value} {st : List Value} {σ : aS} {y : Int32} : Rn sc d 43 19 [a0, a1, a2, a3, .int x4, a5, a6] (.int y :: st) σ r ↔ Rn sc d 43 21 [a0, a1, a2, a3, .int x4, .int y, a6] st σ r := r_istore d43_19 (Nat.le_of_ble_eq_true rfl) rfl
theorem d43_21 : decode (mC 43) 21 = .ok (.iload 5, 2) := by decide +kernel
theorem x43_21 {sc : aSc} {d : Nat} {r : aRes} {a0 : Value} {a1 : Value} {a2 : Value} {a3 : Value} {a4 : Value} {x5 : Int32} {a6 : Value} {st : List Value} {σ : aS} : Rn sc d 43 21 [a0, a1, a2, a3, a4, .int x5, a6] st σ r ↔ Rn sc d 43 23 [a0, a1, a2, a3, a4, .int x5, a6] (.int x5 :: st) σ r := r_iload d43_21 rfl
theorem d43_23 : decode (mC 43) 23 = .ok (.aload_n 1, 1) := by decide +kernel
theorem x43_23 {sc : aSc} {d : Nat} {r : aRes} {a0 : Value} {x1 : Nat} {a2 : Value} {a3 : Value} {a4 : Value} {a5 : Value} {a6 : Value} {st : List Value} {σ : aS} : Rn sc d 43 23 [a0, .ref x1, a2, a3, a4, a5, a6] st σ r ↔ Rn sc d 43 24 [a0, .ref x1, a2, a3, a4, a5, a6] (.ref x1 :: st) σ r := r_aload_n d43_23 rfl
theorem d43_24 : decode (mC 43) 24 = .ok (.invokevirtual 80, 3) := by decide +kernel
theorem x43_24 {sc : aSc} {d : Nat} {r : aRes} {L : List Value} {f : Nat → Nat → Int32} {g : Nat → Nat → Int64} {h1 h2 : Nat}  {z0 : Int32} {o : Nat} (hK : KK[o]? = some (.inl 1)) : Rn sc d 43 24 L [.ref o, .int z0] (cS f g h1 h2) r ↔ ∃ (σ3 : aS) (v : Option Value), Cl sc d 8 [.ref o] (cS f g h1 h2) (σ3, v) ∧ Rn sc d 43 27 L (v.toList ++ [.int z0]) σ3 r := r_callV (vs := []) d43_24 (j := 8) rfl ⟨rfl, by decide, rfl, rfl⟩ (Nat.le_of_ble_eq_true rfl) hK
theorem d43_27 : decode (mC 43) 27 = .ok (.if_icmp .gt 68, 3) := by decide +kernel
theorem x43_27 {sc : aSc} {d : Nat} {r : aRes} {L : List Value} {st : List Value} {σ : aS} {x y : Int32} : Rn sc d 43 27 L (.int y :: .int x :: st) σ r ↔ if y < x then Rn sc d 43 95 L st σ r else Rn sc d 43 30 L st σ r := r_icmp_gt d43_27 rfl
theorem d43_30 : decode (mC 43) 30 = .ok (.iload 5, 2) := by decide +kernel
theorem x43_30 {sc : aSc} {d : Nat} {r : aRes} {a0 : Value} {a1 : Value} {a2 : Value} {a3 : Value} {a4 : Value} {x5 : Int32} {a6 : Value} {st : List Value} {σ : aS} : Rn sc d 43 30 [a0, a1, a2, a3, a4, .int x5, a6] st σ r ↔ Rn sc d 43 32 [a0, a1, a2, a3, a4, .int x5, a6] (.int x5 :: st) σ r := r_iload d43_30 rfl
theorem d43_32 : decode (mC 43) 32 = .ok (.iload_n 2, 1) := by decide +kernel
theorem x43_32 {sc : aSc} {d : Nat} {r : aRes} {a0 : Value} {a1 : Value} {x2 : Int32} {a3 : Value} {a4 : Value} {a5 : Value} {a6 : Value} {st : List Value} {σ : aS} : Rn sc d 43 32 [a0, a1, .int x2, a3, a4, a5, a6] st σ r ↔ Rn sc d 43 33 [a0, a1, .int x2, a3, a4, a5, a6] (.int x2 :: st) σ r := r_iload_n d43_32 rfl
theorem d43_33 : decode (mC 43) 33 = .ok (.ishr, 1) := by decide +kernel
theorem x43_33 {sc : aSc} {d : Nat} {r : aRes} {L : List Value} {st : List Value} {σ : aS} {x y : Int32} : Rn sc d 43 33 L (.int y :: .int x :: st) σ r ↔ Rn sc d 43 34 L (.int (x >>> (y &&& 31)) :: st) σ r := r_ishr d43_33
theorem d43_34 : decode (mC 43) 34 = .ok (.iconst 1, 1) := by decide +kernel
theorem x43_34 {sc : aSc} {d : Nat} {r : aRes} {L : List Value} {st : List Value} {σ : aS} : Rn sc d 43 34 L st σ r ↔ Rn sc d 43 35 L (.int 1 :: st) σ r := r_iconst d43_34 (by decide)
theorem d43_35 : decode (mC 43) 35 = .ok (.iand, 1) := by decide +kernel
theorem x43_35 {sc : aSc} {d : Nat} {r : aRes} {L : List Value} {st : List Value} {σ : aS} {x y : Int32} : Rn sc d 43 35 L (.int y :: .int x :: st) σ r ↔ Rn sc d 43 36 L (.int (x &&& y) :: st) σ r := r_iand d43_35
theorem d43_36 : decode (mC 43) 36 = .ok (.aload_n 1, 1) := by decide +kernel
theorem x43_36 {sc : aSc} {d : Nat} {r : aRes} {a0 : Value} {x1 : Nat} {a2 : Value} {a3 : Value} {a4 : Value} {a5 : Value} {a6 : Value} {st : List Value} {σ : aS} : Rn sc d 43 36 [a0, .ref x1, a2, a3, a4, a5, a6] st σ r ↔ Rn sc d 43 37 [a0, .ref x1, a2, a3, a4, a5, a6] (.ref x1 :: st) σ r := r_aload_n d43_36 rfl
theorem d43_37 : decode (mC 43) 37 = .ok (.iload_n 2, 1) := by decide +kernel
theorem x43_37 {sc : aSc} {d : Nat} {r : aRes} {a0 : Value} {a1 : Value} {x2 : Int32} {a3 : Value} {a4 : Value} {a5 : Value} {a6 : Value} {st : List Value} {σ : aS} : Rn sc d 43 37 [a0, a1, .int x2, a3, a4, a5, a6] st σ r ↔ Rn sc d 43 38 [a0, a1, .int x2, a3, a4, a5, a6] (.int x2 :: st) σ r := r_iload_n d43_37 rfl
theorem d43_38 : decode (mC 43) 38 = .ok (.invokevirtual 105, 3) := by decide +kernel
theorem x43_38 {sc : aSc} {d : Nat} {r : aRes} {L : List Value} {f : Nat → Nat → Int32} {g : Nat → Nat → Int64} {h1 h2 : Nat} {y0 : Int32} {z0 : Int32} {o : Nat} (hK : KK[o]? = some (.inl 1)) : Rn sc d 43 38 L [.int y0, .ref o, .int z0] (cS f g h1 h2) r ↔ ∃ (σ3 : aS) (v : Option Value), Cl sc d 13 [.ref o, .int y0] (cS f g h1 h2) (σ3, v) ∧ Rn sc d 43 41 L (v.toList ++ [.int z0]) σ3 r := r_callV (vs := [.int y0]) d43_38 (j := 13) rfl ⟨rfl, by decide, rfl, rfl⟩ (Nat.le_of_ble_eq_true rfl) hK
theorem d43_41 : decode (mC 43) 41 = .ok (.if_icmp .eq 7, 3) := by decide +kernel
theorem x43_41 {sc : aSc} {d : Nat} {r : aRes} {L : List Value} {st : List Value} {σ : aS} {x y : Int32} : Rn sc d 43 41 L (.int y :: .int x :: st) σ r ↔ if x = y then Rn sc d 43 48 L st σ r else Rn sc d 43 44 L st σ r := r_icmp_eq d43_41 rfl
theorem d43_44 : decode (mC 43) 44 = .ok (.iconst 1, 1) := by decide +kernel
theorem x43_44 {sc : aSc} {d : Nat} {r : aRes} {L : List Value} {st : List Value} {σ : aS} : Rn sc d 43 44 L st σ r ↔ Rn sc d 43 45 L (.int 1 :: st) σ r := r_iconst d43_44 (by decide)
theorem d43_45 : decode (mC 43) 45 = .ok (.goto 4, 3) := by decide +kernel
theorem x43_45 {sc : aSc} {d : Nat} {r : aRes} {L : List Value} {st : List Value} {σ : aS} : Rn sc d 43 45 L st σ r ↔ Rn sc d 43 49 L st σ r := r_goto d43_45 rfl
theorem d43_48 : decode (mC 43) 48 = .ok (.iconst 0, 1) := by decide +kernel
theorem x43_48 {sc : aSc} {d : Nat} {r : aRes} {L : List Value} {st : List Value} {σ : aS} : Rn sc d 43 48 L st σ r ↔ Rn sc d 43 49 L (.int 0 :: st) σ r := r_iconst d43_48 (by decide)
theorem d43_49 : decode (mC 43) 49 = .ok (.istore 6, 2) := by decide +kernel
theorem x43_49 {sc : aSc} {d : Nat} {r : aRes} {a0 : Value} {a1 : Value} {a2 : Value} {a3 : Value} {a4 : Value} {x5 : Int32} {a6 : Value} {st : List Value} {σ : aS} {y : Int32} : Rn sc d 43 49 [a0, a1, a2, a3, a4, .int x5, a6] (.int y :: st) σ r ↔ Rn sc d 43 51 [a0, a1, a2, a3, a4, .int x5, .int y] st σ r := r_istore d43_49 (Nat.le_of_ble_eq_true rfl) rfl
theorem d43_51 : decode (mC 43) 51 = .ok (.aload_n 0, 1) := by decide +kernel
theorem x43_51 {sc : aSc} {d : Nat} {r : aRes} {x0 : Nat} {a1 : Value} {a2 : Value} {a3 : Value} {a4 : Value} {a5 : Value} {a6 : Value} {st : List Value} {σ : aS} : Rn sc d 43 51 [.ref x0, a1, a2, a3, a4, a5, a6] st σ r ↔ Rn sc d 43 52 [.ref x0, a1, a2, a3, a4, a5, a6] (.ref x0 :: st) σ r := r_aload_n d43_51 rfl
theorem d43_52 : decode (mC 43) 52 = .ok (.getfield 19, 3) := by decide +kernel
theorem x43_52 {sc : aSc} {d : Nat} {r : aRes} {L : List Value} {st : List Value} {f : Nat → Nat → Int32} {g : Nat → Nat → Int64} {h1 h2 : Nat} {o : Nat} (hK : KK[o]? = some (.inl 3)) (hR : (RR h1 h2 o 2).isSome = true) : Rn sc d 43 52 L (.ref o :: st) (cS f g h1 h2) r ↔ Rn sc d 43 55 L (.ref (rf h1 h2 o 2) :: st) (cS f g h1 h2) r := r_getR2 d43_52 (ci := 3) (k := 2) rfl (by decide) (fun _ => rfl) hK hR
theorem d43_55 : decode (mC 43) 55 = .ok (.iload 4, 2) := by decide +kernel
theorem x43_55 {sc : aSc} {d : Nat} {r : aRes} {a0 : Value} {a1 : Value} {a2 : Value} {a3 : Value} {x4 : Int32} {a5 : Value} {a6 : Value} {st : List Value} {σ : aS} : Rn sc d 43 55 [a0, a1, a2, a3, .int x4, a5, a6] st σ r ↔ Rn sc d 43 57 [a0, a1, a2, a3, .int x4, a5, a6] (.int x4 :: st) σ r := r_iload d43_55 rfl
theorem d43_57 : decode (mC 43) 57 = .ok (.aaload, 1) := by decide +kernel
theorem x43_57 {sc : aSc} {d : Nat} {r : aRes} {L : List Value} {st : List Value} {f : Nat → Nat → Int32} {g : Nat → Nat → Int64} {h1 h2 : Nat} {a : Nat} {i : Int32} (h17 : 17 ≤ a) (hA : isG a) (hi : inb i (aln a) = true) (hR : (RR h1 h2 a i.toNatClampNeg).isSome = true) : Rn sc d 43 57 L (.int i :: .ref a :: st) (cS f g h1 h2) r ↔ Rn sc d 43 58 L (.ref (rf h1 h2 a i.toNatClampNeg) :: st) (cS f g h1 h2) r := r_aald2 d43_57 h17 hA hi hR
theorem d43_58 : decode (mC 43) 58 = .ok (.iload 5, 2) := by decide +kernel
theorem x43_58 {sc : aSc} {d : Nat} {r : aRes} {a0 : Value} {a1 : Value} {a2 : Value} {a3 : Value} {a4 : Value} {x5 : Int32} {a6 : Value} {st : List Value} {σ : aS} : Rn sc d 43 58 [a0, a1, a2, a3, a4, .int x5, a6] st σ r ↔ Rn sc d 43 60 [a0, a1, a2, a3, a4, .int x5, a6] (.int x5 :: st) σ r := r_iload d43_58 rfl
theorem d43_60 : decode (mC 43) 60 = .ok (.iload 6, 2) := by decide +kernel
theorem x43_60 {sc : aSc} {d : Nat} {r : aRes} {a0 : Value} {a1 : Value} {a2 : Value} {a3 : Value} {a4 : Value} {a5 : Value} {x6 : Int32} {st : List Value} {σ : aS} : Rn sc d 43 60 [a0, a1, a2, a3, a4, a5, .int x6] st σ r ↔ Rn sc d 43 62 [a0, a1, a2, a3, a4, a5, .int x6] (.int x6 :: st) σ r := r_iload d43_60 rfl
theorem d43_62 : decode (mC 43) 62 = .ok (.ifCond .ne 21, 3) := by decide +kernel
theorem x43_62 {sc : aSc} {d : Nat} {r : aRes} {L : List Value} {st : List Value} {σ : aS} {x : Int32} : Rn sc d 43 62 L (.int x :: st) σ r ↔ if x = 0 then Rn sc d 43 65 L st σ r else Rn sc d 43 83 L st σ r := r_if_ne d43_62 rfl
theorem d43_65 : decode (mC 43) 65 = .ok (.iload 4, 2) := by decide +kernel
theorem x43_65 {sc : aSc} {d : Nat} {r : aRes} {a0 : Value} {a1 : Value} {a2 : Value} {a3 : Value} {x4 : Int32} {a5 : Value} {a6 : Value} {st : List Value} {σ : aS} : Rn sc d 43 65 [a0, a1, a2, a3, .int x4, a5, a6] st σ r ↔ Rn sc d 43 67 [a0, a1, a2, a3, .int x4, a5, a6] (.int x4 :: st) σ r := r_iload d43_65 rfl
theorem d43_67 : decode (mC 43) 67 = .ok (.iload_n 3, 1) := by decide +kernel
theorem x43_67 {sc : aSc} {d : Nat} {r : aRes} {a0 : Value} {a1 : Value} {a2 : Value} {x3 : Int32} {a4 : Value} {a5 : Value} {a6 : Value} {st : List Value} {σ : aS} : Rn sc d 43 67 [a0, a1, a2, .int x3, a4, a5, a6] st σ r ↔ Rn sc d 43 68 [a0, a1, a2, .int x3, a4, a5, a6] (.int x3 :: st) σ r := r_iload_n d43_67 rfl
theorem d43_68 : decode (mC 43) 68 = .ok (.if_icmp .ge 19, 3) := by decide +kernel
theorem x43_68 {sc : aSc} {d : Nat} {r : aRes} {L : List Value} {st : List Value} {σ : aS} {x y : Int32} : Rn sc d 43 68 L (.int y :: .int x :: st) σ r ↔ if x < y then Rn sc d 43 71 L st σ r else Rn sc d 43 87 L st σ r := r_icmp_ge d43_68 rfl
theorem d43_71 : decode (mC 43) 71 = .ok (.aload_n 0, 1) := by decide +kernel
theorem x43_71 {sc : aSc} {d : Nat} {r : aRes} {x0 : Nat} {a1 : Value} {a2 : Value} {a3 : Value} {a4 : Value} {a5 : Value} {a6 : Value} {st : List Value} {σ : aS} : Rn sc d 43 71 [.ref x0, a1, a2, a3, a4, a5, a6] st σ r ↔ Rn sc d 43 72 [.ref x0, a1, a2, a3, a4, a5, a6] (.ref x0 :: st) σ r := r_aload_n d43_71 rfl
theorem d43_72 : decode (mC 43) 72 = .ok (.aload_n 1, 1) := by decide +kernel
theorem x43_72 {sc : aSc} {d : Nat} {r : aRes} {a0 : Value} {x1 : Nat} {a2 : Value} {a3 : Value} {a4 : Value} {a5 : Value} {a6 : Value} {st : List Value} {σ : aS} : Rn sc d 43 72 [a0, .ref x1, a2, a3, a4, a5, a6] st σ r ↔ Rn sc d 43 73 [a0, .ref x1, a2, a3, a4, a5, a6] (.ref x1 :: st) σ r := r_aload_n d43_72 rfl
theorem d43_73 : decode (mC 43) 73 = .ok (.iload 4, 2) := by decide +kernel
theorem x43_73 {sc : aSc} {d : Nat} {r : aRes} {a0 : Value} {a1 : Value} {a2 : Value} {a3 : Value} {x4 : Int32} {a5 : Value} {a6 : Value} {st : List Value} {σ : aS} : Rn sc d 43 73 [a0, a1, a2, a3, .int x4, a5, a6] st σ r ↔ Rn sc d 43 75 [a0, a1, a2, a3, .int x4, a5, a6] (.int x4 :: st) σ r := r_iload d43_73 rfl
theorem d43_75 : decode (mC 43) 75 = .ok (.iload 5, 2) := by decide +kernel
theorem x43_75 {sc : aSc} {d : Nat} {r : aRes} {a0 : Value} {a1 : Value} {a2 : Value} {a3 : Value} {a4 : Value} {x5 : Int32} {a6 : Value} {st : List Value} {σ : aS} : Rn sc d 43 75 [a0, a1, a2, a3, a4, .int x5, a6] st σ r ↔ Rn sc d 43 77 [a0, a1, a2, a3, a4, .int x5, a6] (.int x5 :: st) σ r := r_iload d43_75 rfl
theorem d43_77 : decode (mC 43) 77 = .ok (.invokevirtual 108, 3) := by decide +kernel
theorem x43_77 {sc : aSc} {d : Nat} {r : aRes} {L : List Value} {f : Nat → Nat → Int32} {g : Nat → Nat → Int64} {h1 h2 : Nat} {y0 : Int32} {y1 : Int32} {y2 : Nat} {z0 : Int32} {z1 : Nat} {o : Nat} (hK : KK[o]? = some (.inl 3)) : Rn sc d 43 77 L [.int y0, .int y1, .ref y2, .ref o, .int z0, .ref z1] (cS f g h1 h2) r ↔ ∃ (σ3 : aS) (v : Option Value), Cl sc d 45 [.ref o, .ref y2, .int y1, .int y0] (cS f g h1 h2) (σ3, v) ∧ Rn sc d 43 80 L (v.toList ++ [.int z0, .ref z1]) σ3 r := r_callV (vs := [.int y0, .int y1, .ref y2]) d43_77 (j := 45) rfl ⟨rfl, by decide, rfl, rfl⟩ (Nat.le_of_ble_eq_true rfl) hK
theorem d43_80 : decode (mC 43) 80 = .ok (.ifCond .le 7, 3) := by decide +kernel
theorem x43_80 {sc : aSc} {d : Nat} {r : aRes} {L : List Value} {st : List Value} {σ : aS} {x : Int32} : Rn sc d 43 80 L (.int x :: st) σ r ↔ if 0 < x then Rn sc d 43 83 L st σ r else Rn sc d 43 87 L st σ r := r_if_le d43_80 rfl
theorem d43_83 : decode (mC 43) 83 = .ok (.iconst 1, 1) := by decide +kernel
theorem x43_83 {sc : aSc} {d : Nat} {r : aRes} {L : List Value} {st : List Value} {σ : aS} : Rn sc d 43 83 L st σ r ↔ Rn sc d 43 84 L (.int 1 :: st) σ r := r_iconst d43_83 (by decide)
theorem d43_84 : decode (mC 43) 84 = .ok (.goto 4, 3) := by decide +kernel
theorem x43_84 {sc : aSc} {d : Nat} {r : aRes} {L : List Value} {st : List Value} {σ : aS} : Rn sc d 43 84 L st σ r ↔ Rn sc d 43 88 L st σ r := r_goto d43_84 rfl
theorem d43_87 : decode (mC 43) 87 = .ok (.iconst 0, 1) := by decide +kernel
theorem x43_87 {sc : aSc} {d : Nat} {r : aRes} {L : List Value} {st : List Value} {σ : aS} : Rn sc d 43 87 L st σ r ↔ Rn sc d 43 88 L (.int 0 :: st) σ r := r_iconst d43_87 (by decide)
theorem d43_88 : decode (mC 43) 88 = .ok (.iastore, 1) := by decide +kernel
theorem x43_88 {sc : aSc} {d : Nat} {r : aRes} {L : List Value} {st : List Value} {f : Nat → Nat → Int32} {g : Nat → Nat → Int64} {h1 h2 : Nat} {a : Nat} {i : Int32} {x : Int32} (h17 : 17 ≤ a) (hA : isT9 .int a) (hi : inb i (aln a) = true) : Rn sc d 43 88 L (.int x :: .int i :: .ref a :: st) (cS f g h1 h2) r ↔ Rn sc d 43 89 L st (cS (u2 f a i.toNatClampNeg x) g h1 h2) r := r_iast d43_88 h17 hA hi
theorem d43_89 : decode (mC 43) 89 = .ok (.iinc 5 1, 3) := by decide +kernel
theorem x43_89 {sc : aSc} {d : Nat} {r : aRes} {a0 : Value} {a1 : Value} {a2 : Value} {a3 : Value} {x4 : Int32} {x5 : Int32} {a6 : Value} {st : List Value} {σ : aS} : Rn sc d 43 89 [a0, a1, a2, a3, .int x4, .int x5, a6] st σ r ↔ Rn sc d 43 92 [a0, a1, a2, a3, .int x4, .int (x5 + 1), a6] st σ r := r_iinc d43_89 (Nat.le_of_ble_eq_true rfl) rfl rfl (by decide)
theorem d43_92 : decode (mC 43) 92 = .ok (.goto (-71), 3) := by decide +kernel
theorem x43_92 {sc : aSc} {d : Nat} {r : aRes} {L : List Value} {st : List Value} {σ : aS} : Rn sc d 43 92 L st σ r ↔ Rn sc d 43 21 L st σ r := r_goto d43_92 rfl
theorem d43_95 : decode (mC 43) 95 = .ok (.iinc 4 (-1), 3) := by decide +kernel
theorem x43_95 {sc : aSc} {d : Nat} {r : aRes} {a0 : Value} {a1 : Value} {a2 : Value} {x3 : Int32} {x4 : Int32} {a5 : Value} {a6 : Value} {st : List Value} {σ : aS} : Rn sc d 43 95 [a0, a1, a2, .int x3, .int x4, a5, a6] st σ r ↔ Rn sc d 43 98 [a0, a1, a2, .int x3, .int (x4 + (-1)), a5, a6] st σ r := r_iinc d43_95 (Nat.le_of_ble_eq_true rfl) rfl rfl (by decide)
theorem d43_98 : decode (mC 43) 98 = .ok (.goto (-85), 3) := by decide +kernel
theorem x43_98 {sc : aSc} {d : Nat} {r : aRes} {L : List Value} {st : List Value} {σ : aS} : Rn sc d 43 98 L st σ r ↔ Rn sc d 43 13 L st σ r := r_goto d43_98 rfl
theorem d43_101 : decode (mC 43) 101 = .ok (.aload_n 0, 1) := by decide +kernel
theorem x43_101 {sc : aSc} {d : Nat} {r : aRes} {x0 : Nat} {a1 : Value} {a2 : Value} {a3 : Value} {a4 : Value} {a5 : Value} {a6 : Value} {st : List Value} {σ : aS} : Rn sc d 43 101 [.ref x0, a1, a2, a3, a4, a5, a6] st σ r ↔ Rn sc d 43 102 [.ref x0, a1, a2, a3, a4, a5, a6] (.ref x0 :: st) σ r := r_aload_n d43_101 rfl
theorem d43_102 : decode (mC 43) 102 = .ok (.getfield 19, 3) := by decide +kernel
theorem x43_102 {sc : aSc} {d : Nat} {r : aRes} {L : List Value} {st : List Value} {f : Nat → Nat → Int32} {g : Nat → Nat → Int64} {h1 h2 : Nat} {o : Nat} (hK : KK[o]? = some (.inl 3)) (hR : (RR h1 h2 o 2).isSome = true) : Rn sc d 43 102 L (.ref o :: st) (cS f g h1 h2) r ↔ Rn sc d 43 105 L (.ref (rf h1 h2 o 2) :: st) (cS f g h1 h2) r := r_getR2 d43_102 (ci := 3) (k := 2) rfl (by decide) (fun _ => rfl) hK hR
theorem d43_105 : decode (mC 43) 105 = .ok (.iconst 0, 1) := by decide +kernel
theorem x43_105 {sc : aSc} {d : Nat} {r : aRes} {L : List Value} {st : List Value} {σ : aS} : Rn sc d 43 105 L st σ r ↔ Rn sc d 43 106 L (.int 0 :: st) σ r := r_iconst d43_105 (by decide)
theorem d43_106 : decode (mC 43) 106 = .ok (.aaload, 1) := by decide +kernel
theorem x43_106 {sc : aSc} {d : Nat} {r : aRes} {L : List Value} {st : List Value} {f : Nat → Nat → Int32} {g : Nat → Nat → Int64} {h1 h2 : Nat} {a : Nat} {i : Int32} (h17 : 17 ≤ a) (hA : isG a) (hi : inb i (aln a) = true) (hR : (RR h1 h2 a i.toNatClampNeg).isSome = true) : Rn sc d 43 106 L (.int i :: .ref a :: st) (cS f g h1 h2) r ↔ Rn sc d 43 107 L (.ref (rf h1 h2 a i.toNatClampNeg) :: st) (cS f g h1 h2) r := r_aald2 d43_106 h17 hA hi hR
theorem d43_107 : decode (mC 43) 107 = .ok (.aload_n 1, 1) := by decide +kernel
theorem x43_107 {sc : aSc} {d : Nat} {r : aRes} {a0 : Value} {x1 : Nat} {a2 : Value} {a3 : Value} {a4 : Value} {a5 : Value} {a6 : Value} {st : List Value} {σ : aS} : Rn sc d 43 107 [a0, .ref x1, a2, a3, a4, a5, a6] st σ r ↔ Rn sc d 43 108 [a0, .ref x1, a2, a3, a4, a5, a6] (.ref x1 :: st) σ r := r_aload_n d43_107 rfl
theorem d43_108 : decode (mC 43) 108 = .ok (.getfield 73, 3) := by decide +kernel
theorem x43_108 {sc : aSc} {d : Nat} {r : aRes} {L : List Value} {st : List Value} {f : Nat → Nat → Int32} {g : Nat → Nat → Int64} {h1 h2 : Nat} {o : Nat} (h17 : 17 ≤ o) (hK : KK[o]? = some (.inl 1)) : Rn sc d 43 108 L (.ref o :: st) (cS f g h1 h2) r ↔ Rn sc d 43 111 L (.int (f o 4) :: st) (cS f g h1 h2) r := r_getI d43_108 (ci := 1) (k := 4) rfl (by decide) (fun _ => rfl) h17 hK
theorem d43_111 : decode (mC 43) 111 = .ok (.iaload, 1) := by decide +kernel
theorem x43_111 {sc : aSc} {d : Nat} {r : aRes} {L : List Value} {st : List Value} {f : Nat → Nat → Int32} {g : Nat → Nat → Int64} {h1 h2 : Nat} {a : Nat} {i : Int32} (h17 : 17 ≤ a) (hA : isT9 .int a) (hi : inb i (aln a) = true) : Rn sc d 43 111 L (.int i :: .ref a :: st) (cS f g h1 h2) r ↔ Rn sc d 43 112 L (.int (f a i.toNatClampNeg) :: st) (cS f g h1 h2) r := r_iald d43_111 h17 hA hi
theorem d43_112 : decode (mC 43) 112 = .ok (.ifCond .le 7, 3) := by decide +kernel
theorem x43_112 {sc : aSc} {d : Nat} {r : aRes} {L : List Value} {st : List Value} {σ : aS} {x : Int32} : Rn sc d 43 112 L (.int x :: st) σ r ↔ if 0 < x then Rn sc d 43 115 L st σ r else Rn sc d 43 119 L st σ r := r_if_le d43_112 rfl
theorem d43_115 : decode (mC 43) 115 = .ok (.iconst 1, 1) := by decide +kernel
theorem x43_115 {sc : aSc} {d : Nat} {r : aRes} {L : List Value} {st : List Value} {σ : aS} : Rn sc d 43 115 L st σ r ↔ Rn sc d 43 116 L (.int 1 :: st) σ r := r_iconst d43_115 (by decide)
theorem d43_116 : decode (mC 43) 116 = .ok (.goto 4, 3) := by decide +kernel
theorem x43_116 {sc : aSc} {d : Nat} {r : aRes} {L : List Value} {st : List Value} {σ : aS} : Rn sc d 43 116 L st σ r ↔ Rn sc d 43 120 L st σ r := r_goto d43_116 rfl
theorem d43_119 : decode (mC 43) 119 = .ok (.iconst 0, 1) := by decide +kernel
theorem x43_119 {sc : aSc} {d : Nat} {r : aRes} {L : List Value} {st : List Value} {σ : aS} : Rn sc d 43 119 L st σ r ↔ Rn sc d 43 120 L (.int 0 :: st) σ r := r_iconst d43_119 (by decide)
theorem d43_120 : decode (mC 43) 120 = .ok (.ireturn, 1) := by decide +kernel
theorem x43_120 {sc : aSc} {d : Nat} {r : aRes} {L : List Value} {σ : aS} {x : Int32} (hn : x &&& 1 = x) : Rn sc d 43 120 L [.int x] σ r ↔ r = (σ, some (.int x)) := r_iret d43_120 rfl (congrArg Value.int hn)
theorem d44_0 : decode (mC 44) 0 = .ok (.aload_n 0, 1) := by decide +kernel
theorem x44_0 {sc : aSc} {d : Nat} {r : aRes} {x0 : Nat} {a1 : Value} {a2 : Value} {a3 : Value} {a4 : Value} {st : List Value} {σ : aS} : Rn sc d 44 0 [.ref x0, a1, a2, a3, a4] st σ r ↔ Rn sc d 44 1 [.ref x0, a1, a2, a3, a4] (.ref x0 :: st) σ r := r_aload_n d44_0 rfl
theorem d44_1 : decode (mC 44) 1 = .ok (.aload_n 1, 1) := by decide +kernel
theorem x44_1 {sc : aSc} {d : Nat} {r : aRes} {a0 : Value} {x1 : Nat} {a2 : Value} {a3 : Value} {a4 : Value} {st : List Value} {σ : aS} : Rn sc d 44 1 [a0, .ref x1, a2, a3, a4] st σ r ↔ Rn sc d 44 2 [a0, .ref x1, a2, a3, a4] (.ref x1 :: st) σ r := r_aload_n d44_1 rfl
theorem d44_2 : decode (mC 44) 2 = .ok (.iload_n 2, 1) := by decide +kernel
theorem x44_2 {sc : aSc} {d : Nat} {r : aRes} {a0 : Value} {a1 : Value} {x2 : Int32} {a3 : Value} {a4 : Value} {st : List Value} {σ : aS} : Rn sc d 44 2 [a0, a1, .int x2, a3, a4] st σ r ↔ Rn sc d 44 3 [a0, a1, .int x2, a3, a4] (.int x2 :: st) σ r := r_iload_n d44_2 rfl
theorem d44_3 : decode (mC 44) 3 = .ok (.aload_n 1, 1) := by decide +kernel
theorem x44_3 {sc : aSc} {d : Nat} {r : aRes} {a0 : Value} {x1 : Nat} {a2 : Value} {a3 : Value} {a4 : Value} {st : List Value} {σ : aS} : Rn sc d 44 3 [a0, .ref x1, a2, a3, a4] st σ r ↔ Rn sc d 44 4 [a0, .ref x1, a2, a3, a4] (.ref x1 :: st) σ r := r_aload_n d44_3 rfl
theorem d44_4 : decode (mC 44) 4 = .ok (.invokevirtual 80, 3) := by decide +kernel
theorem x44_4 {sc : aSc} {d : Nat} {r : aRes} {L : List Value} {f : Nat → Nat → Int32} {g : Nat → Nat → Int64} {h1 h2 : Nat}  {z0 : Int32} {z1 : Nat} {z2 : Nat} {o : Nat} (hK : KK[o]? = some (.inl 1)) : Rn sc d 44 4 L [.ref o, .int z0, .ref z1, .ref z2] (cS f g h1 h2) r ↔ ∃ (σ3 : aS) (v : Option Value), Cl sc d 8 [.ref o] (cS f g h1 h2) (σ3, v) ∧ Rn sc d 44 7 L (v.toList ++ [.int z0, .ref z1, .ref z2]) σ3 r := r_callV (vs := []) d44_4 (j := 8) rfl ⟨rfl, by decide, rfl, rfl⟩ (Nat.le_of_ble_eq_true rfl) hK
theorem d44_7 : decode (mC 44) 7 = .ok (.invokevirtual 76, 3) := by decide +kernel
theorem x44_7 {sc : aSc} {d : Nat} {r : aRes} {L : List Value} {f : Nat → Nat → Int32} {g : Nat → Nat → Int64} {h1 h2 : Nat} {y0 : Int32} {y1 : Int32} {y2 : Nat}  {o : Nat} (hK : KK[o]? = some (.inl 3)) : Rn sc d 44 7 L [.int y0, .int y1, .ref y2, .ref o] (cS f g h1 h2) r ↔ ∃ (σ3 : aS) (v : Option Value), Cl sc d 33 [.ref o, .ref y2, .int y1, .int y0] (cS f g h1 h2) (σ3, v) ∧ Rn sc d 44 10 L (v.toList ++ []) σ3 r := r_callV (vs := [.int y0, .int y1, .ref y2]) d44_7 (j := 33) rfl ⟨rfl, by decide, rfl, rfl⟩ (Nat.le_of_ble_eq_true rfl) hK
theorem d44_10 : decode (mC 44) 10 = .ok (.iload_n 2, 1) := by decide +kernel
theorem x44_10 {sc : aSc} {d : Nat} {r : aRes} {a0 : Value} {a1 : Value} {x2 : Int32} {a3 : Value} {a4 : Value} {st : List Value} {σ : aS} : Rn sc d 44 10 [a0, a1, .int x2, a3, a4] st σ r ↔ Rn sc d 44 11 [a0, a1, .int x2, a3, a4] (.int x2 :: st) σ r := r_iload_n d44_10 rfl
theorem d44_11 : decode (mC 44) 11 = .ok (.istore_n 3, 1) := by decide +kernel
theorem x44_11 {sc : aSc} {d : Nat} {r : aRes} {a0 : Value} {a1 : Value} {x2 : Int32} {a3 : Value} {a4 : Value} {st : List Value} {σ : aS} {y : Int32} : Rn sc d 44 11 [a0, a1, .int x2, a3, a4] (.int y :: st) σ r ↔ Rn sc d 44 12 [a0, a1, .int x2, .int y, a4] st σ r := r_istore_n d44_11 (Nat.le_of_ble_eq_true rfl) rfl
theorem d44_12 : decode (mC 44) 12 = .ok (.iload_n 3, 1) := by decide +kernel
theorem x44_12 {sc : aSc} {d : Nat} {r : aRes} {a0 : Value} {a1 : Value} {a2 : Value} {x3 : Int32} {a4 : Value} {st : List Value} {σ : aS} : Rn sc d 44 12 [a0, a1, a2, .int x3, a4] st σ r ↔ Rn sc d 44 13 [a0, a1, a2, .int x3, a4] (.int x3 :: st) σ r := r_iload_n d44_12 rfl
theorem d44_13 : decode (mC 44) 13 = .ok (.ifCond .lt 66, 3) := by decide +kernel
theorem x44_13 {sc : aSc} {d : Nat} {r : aRes} {L : List Value} {st : List Value} {σ : aS} {x : Int32} : Rn sc d 44 13 L (.int x :: st) σ r ↔ if x < 0 then Rn sc d 44 79 L st σ r else Rn sc d 44 16 L st σ r := r_if_lt d44_13 rfl
theorem d44_16 : decode (mC 44) 16 = .ok (.iconst 0, 1) := by decide +kernel
theorem x44_16 {sc : aSc} {d : Nat} {r : aRes} {L : List Value} {st : List Value} {σ : aS} : Rn sc d 44 16 L st σ r ↔ Rn sc d 44 17 L (.int 0 :: st) σ r := r_iconst d44_16 (by decide)
theorem d44_17 : decode (mC 44) 17 = .ok (.istore 4, 2) := by decide +kernel
theorem x44_17 {sc : aSc} {d : Nat} {r : aRes} {a0 : Value} {a1 : Value} {a2 : Value} {x3 : Int32} {a4 : Value} {st : List Value} {σ : aS} {y : Int32} : Rn sc d 44 17 [a0, a1, a2, .int x3, a4] (.int y :: st) σ r ↔ Rn sc d 44 19 [a0, a1, a2, .int x3, .int y] st σ r := r_istore d44_17 (Nat.le_of_ble_eq_true rfl) rfl
theorem d44_19 : decode (mC 44) 19 = .ok (.iload 4, 2) := by decide +kernel
theorem x44_19 {sc : aSc} {d : Nat} {r : aRes} {a0 : Value} {a1 : Value} {a2 : Value} {a3 : Value} {x4 : Int32} {st : List Value} {σ : aS} : Rn sc d 44 19 [a0, a1, a2, a3, .int x4] st σ r ↔ Rn sc d 44 21 [a0, a1, a2, a3, .int x4] (.int x4 :: st) σ r := r_iload d44_19 rfl
theorem d44_21 : decode (mC 44) 21 = .ok (.aload_n 1, 1) := by decide +kernel
theorem x44_21 {sc : aSc} {d : Nat} {r : aRes} {a0 : Value} {x1 : Nat} {a2 : Value} {a3 : Value} {a4 : Value} {st : List Value} {σ : aS} : Rn sc d 44 21 [a0, .ref x1, a2, a3, a4] st σ r ↔ Rn sc d 44 22 [a0, .ref x1, a2, a3, a4] (.ref x1 :: st) σ r := r_aload_n d44_21 rfl
theorem d44_22 : decode (mC 44) 22 = .ok (.invokevirtual 80, 3) := by decide +kernel
theorem x44_22 {sc : aSc} {d : Nat} {r : aRes} {L : List Value} {f : Nat → Nat → Int32} {g : Nat → Nat → Int64} {h1 h2 : Nat}  {z0 : Int32} {o : Nat} (hK : KK[o]? = some (.inl 1)) : Rn sc d 44 22 L [.ref o, .int z0] (cS f g h1 h2) r ↔ ∃ (σ3 : aS) (v : Option Value), Cl sc d 8 [.ref o] (cS f g h1 h2) (σ3, v) ∧ Rn sc d 44 25 L (v.toList ++ [.int z0]) σ3 r := r_callV (vs := []) d44_22 (j := 8) rfl ⟨rfl, by decide, rfl, rfl⟩ (Nat.le_of_ble_eq_true rfl) hK
theorem d44_25 : decode (mC 44) 25 = .ok (.if_icmp .gt 48, 3) := by decide +kernel
theorem x44_25 {sc : aSc} {d : Nat} {r : aRes} {L : List Value} {st : List Value} {σ : aS} {x y : Int32} : Rn sc d 44 25 L (.int y :: .int x :: st) σ r ↔ if y < x then Rn sc d 44 73 L st σ r else Rn sc d 44 28 L st σ r := r_icmp_gt d44_25 rfl
theorem d44_28 : decode (mC 44) 28 = .ok (.aload_n 0, 1) := by decide +kernel
theorem x44_28 {sc : aSc} {d : Nat} {r : aRes} {x0 : Nat} {a1 : Value} {a2 : Value} {a3 : Value} {a4 : Value} {st : List Value} {σ : aS} : Rn sc d 44 28 [.ref x0, a1, a2, a3, a4] st σ r ↔ Rn sc d 44 29 [.ref x0, a1, a2, a3, a4] (.ref x0 :: st) σ r := r_aload_n d44_28 rfl
theorem d44_29 : decode (mC 44) 29 = .ok (.getfield 19, 3) := by decide +kernel
theorem x44_29 {sc : aSc} {d : Nat} {r : aRes} {L : List Value} {st : List Value} {f : Nat → Nat → Int32} {g : Nat → Nat → Int64} {h1 h2 : Nat} {o : Nat} (hK : KK[o]? = some (.inl 3)) (hR : (RR h1 h2 o 2).isSome = true) : Rn sc d 44 29 L (.ref o :: st) (cS f g h1 h2) r ↔ Rn sc d 44 32 L (.ref (rf h1 h2 o 2) :: st) (cS f g h1 h2) r := r_getR2 d44_29 (ci := 3) (k := 2) rfl (by decide) (fun _ => rfl) hK hR
theorem d44_32 : decode (mC 44) 32 = .ok (.iload_n 3, 1) := by decide +kernel
theorem x44_32 {sc : aSc} {d : Nat} {r : aRes} {a0 : Value} {a1 : Value} {a2 : Value} {x3 : Int32} {a4 : Value} {st : List Value} {σ : aS} : Rn sc d 44 32 [a0, a1, a2, .int x3, a4] st σ r ↔ Rn sc d 44 33 [a0, a1, a2, .int x3, a4] (.int x3 :: st) σ r := r_iload_n d44_32 rfl
theorem d44_33 : decode (mC 44) 33 = .ok (.aaload, 1) := by decide +kernel
theorem x44_33 {sc : aSc} {d : Nat} {r : aRes} {L : List Value} {st : List Value} {f : Nat → Nat → Int32} {g : Nat → Nat → Int64} {h1 h2 : Nat} {a : Nat} {i : Int32} (h17 : 17 ≤ a) (hA : isG a) (hi : inb i (aln a) = true) (hR : (RR h1 h2 a i.toNatClampNeg).isSome = true) : Rn sc d 44 33 L (.int i :: .ref a :: st) (cS f g h1 h2) r ↔ Rn sc d 44 34 L (.ref (rf h1 h2 a i.toNatClampNeg) :: st) (cS f g h1 h2) r := r_aald2 d44_33 h17 hA hi hR
theorem d44_34 : decode (mC 44) 34 = .ok (.iload 4, 2) := by decide +kernel
theorem x44_34 {sc : aSc} {d : Nat} {r : aRes} {a0 : Value} {a1 : Value} {a2 : Value} {a3 : Value} {x4 : Int32} {st : List Value} {σ : aS} : Rn sc d 44 34 [a0, a1, a2, a3, .int x4] st σ r ↔ Rn sc d 44 36 [a0, a1, a2, a3, .int x4] (.int x4 :: st) σ r := r_iload d44_34 rfl
theorem d44_36 : decode (mC 44) 36 = .ok (.iload_n 3, 1) := by decide +kernel
theorem x44_36 {sc : aSc} {d : Nat} {r : aRes} {a0 : Value} {a1 : Value} {a2 : Value} {x3 : Int32} {a4 : Value} {st : List Value} {σ : aS} : Rn sc d 44 36 [a0, a1, a2, .int x3, a4] st σ r ↔ Rn sc d 44 37 [a0, a1, a2, .int x3, a4] (.int x3 :: st) σ r := r_iload_n d44_36 rfl
theorem d44_37 : decode (mC 44) 37 = .ok (.iload_n 2, 1) := by decide +kernel
theorem x44_37 {sc : aSc} {d : Nat} {r : aRes} {a0 : Value} {a1 : Value} {x2 : Int32} {a3 : Value} {a4 : Value} {st : List Value} {σ : aS} : Rn sc d 44 37 [a0, a1, .int x2, a3, a4] st σ r ↔ Rn sc d 44 38 [a0, a1, .int x2, a3, a4] (.int x2 :: st) σ r := r_iload_n d44_37 rfl
theorem d44_38 : decode (mC 44) 38 = .ok (.if_icmp .ge 14, 3) := by decide +kernel
theorem x44_38 {sc : aSc} {d : Nat} {r : aRes} {L : List Value} {st : List Value} {σ : aS} {x y : Int32} : Rn sc d 44 38 L (.int y :: .int x :: st) σ r ↔ if x < y then Rn sc d 44 41 L st σ r else Rn sc d 44 52 L st σ r := r_icmp_ge d44_38 rfl
theorem d44_41 : decode (mC 44) 41 = .ok (.aload_n 0, 1) := by decide +kernel
theorem x44_41 {sc : aSc} {d : Nat} {r : aRes} {x0 : Nat} {a1 : Value} {a2 : Value} {a3 : Value} {a4 : Value} {st : List Value} {σ : aS} : Rn sc d 44 41 [.ref x0, a1, a2, a3, a4] st σ r ↔ Rn sc d 44 42 [.ref x0, a1, a2, a3, a4] (.ref x0 :: st) σ r := r_aload_n d44_41 rfl
theorem d44_42 : decode (mC 44) 42 = .ok (.aload_n 1, 1) := by decide +kernel
theorem x44_42 {sc : aSc} {d : Nat} {r : aRes} {a0 : Value} {x1 : Nat} {a2 : Value} {a3 : Value} {a4 : Value} {st : List Value} {σ : aS} : Rn sc d 44 42 [a0, .ref x1, a2, a3, a4] st σ r ↔ Rn sc d 44 43 [a0, .ref x1, a2, a3, a4] (.ref x1 :: st) σ r := r_aload_n d44_42 rfl
theorem d44_43 : decode (mC 44) 43 = .ok (.iload_n 3, 1) := by decide +kernel
theorem x44_43 {sc : aSc} {d : Nat} {r : aRes} {a0 : Value} {a1 : Value} {a2 : Value} {x3 : Int32} {a4 : Value} {st : List Value} {σ : aS} : Rn sc d 44 43 [a0, a1, a2, .int x3, a4] st σ r ↔ Rn sc d 44 44 [a0, a1, a2, .int x3, a4] (.int x3 :: st) σ r := r_iload_n d44_43 rfl
theorem d44_44 : decode (mC 44) 44 = .ok (.iload 4, 2) := by decide +kernel
theorem x44_44 {sc : aSc} {d : Nat} {r : aRes} {a0 : Value} {a1 : Value} {a2 : Value} {a3 : Value} {x4 : Int32} {st : List Value} {σ : aS} : Rn sc d 44 44 [a0, a1, a2, a3, .int x4] st σ r ↔ Rn sc d 44 46 [a0, a1, a2, a3, .int x4] (.int x4 :: st) σ r := r_iload d44_44 rfl
theorem d44_46 : decode (mC 44) 46 = .ok (.invokevirtual 108, 3) := by decide +kernel
theorem x44_46 {sc : aSc} {d : Nat} {r : aRes} {L : List Value} {f : Nat → Nat → Int32} {g : Nat → Nat → Int64} {h1 h2 : Nat} {y0 : Int32} {y1 : Int32} {y2 : Nat} {z0 : Int32} {z1 : Nat} {o : Nat} (hK : KK[o]? = some (.inl 3)) : Rn sc d 44 46 L [.int y0, .int y1, .ref y2, .ref o, .int z0, .ref z1] (cS f g h1 h2) r ↔ ∃ (σ3 : aS) (v : Option Value), Cl sc d 45 [.ref o, .ref y2, .int y1, .int y0] (cS f g h1 h2) (σ3, v) ∧ Rn sc d 44 49 L (v.toList ++ [.int z0, .ref z1]) σ3 r := r_callV (vs := [.int y0, .int y1, .ref y2]) d44_46 (j := 45) rfl ⟨rfl, by decide, rfl, rfl⟩ (Nat.le_of_ble_eq_true rfl) hK
theorem d44_49 : decode (mC 44) 49 = .ok (.goto 17, 3) := by decide +kernel
theorem x44_49 {sc : aSc} {d : Nat} {r : aRes} {L : List Value} {st : List Value} {σ : aS} : Rn sc d 44 49 L st σ r ↔ Rn sc d 44 66 L st σ r := r_goto d44_49 rfl
theorem d44_52 : decode (mC 44) 52 = .ok (.iload 4, 2) := by decide +kernel
theorem x44_52 {sc : aSc} {d : Nat} {r : aRes} {a0 : Value} {a1 : Value} {a2 : Value} {a3 : Value} {x4 : Int32} {st : List Value} {σ : aS} : Rn sc d 44 52 [a0, a1, a2, a3, .int x4] st σ r ↔ Rn sc d 44 54 [a0, a1, a2, a3, .int x4] (.int x4 :: st) σ r := r_iload d44_52 rfl
theorem d44_54 : decode (mC 44) 54 = .ok (.aload_n 1, 1) := by decide +kernel
theorem x44_54 {sc : aSc} {d : Nat} {r : aRes} {a0 : Value} {x1 : Nat} {a2 : Value} {a3 : Value} {a4 : Value} {st : List Value} {σ : aS} : Rn sc d 44 54 [a0, .ref x1, a2, a3, a4] st σ r ↔ Rn sc d 44 55 [a0, .ref x1, a2, a3, a4] (.ref x1 :: st) σ r := r_aload_n d44_54 rfl
theorem d44_55 : decode (mC 44) 55 = .ok (.getfield 112, 3) := by decide +kernel
theorem x44_55 {sc : aSc} {d : Nat} {r : aRes} {L : List Value} {st : List Value} {f : Nat → Nat → Int32} {g : Nat → Nat → Int64} {h1 h2 : Nat} {o : Nat} (h17 : 17 ≤ o) (hK : KK[o]? = some (.inl 1)) : Rn sc d 44 55 L (.ref o :: st) (cS f g h1 h2) r ↔ Rn sc d 44 58 L (.int (f o 3) :: st) (cS f g h1 h2) r := r_getI d44_55 (ci := 1) (k := 3) rfl (by decide) (fun _ => rfl) h17 hK
theorem d44_58 : decode (mC 44) 58 = .ok (.if_icmp .ne 7, 3) := by decide +kernel
theorem x44_58 {sc : aSc} {d : Nat} {r : aRes} {L : List Value} {st : List Value} {σ : aS} {x y : Int32} : Rn sc d 44 58 L (.int y :: .int x :: st) σ r ↔ if x = y then Rn sc d 44 61 L st σ r else Rn sc d 44 65 L st σ r := r_icmp_ne d44_58 rfl
theorem d44_61 : decode (mC 44) 61 = .ok (.iconst 1, 1) := by decide +kernel
theorem x44_61 {sc : aSc} {d : Nat} {r : aRes} {L : List Value} {st : List Value} {σ : aS} : Rn sc d 44 61 L st σ r ↔ Rn sc d 44 62 L (.int 1 :: st) σ r := r_iconst d44_61 (by decide)
theorem d44_62 : decode (mC 44) 62 = .ok (.goto 4, 3) := by decide +kernel
theorem x44_62 {sc : aSc} {d : Nat} {r : aRes} {L : List Value} {st : List Value} {σ : aS} : Rn sc d 44 62 L st σ r ↔ Rn sc d 44 66 L st σ r := r_goto d44_62 rfl
theorem d44_65 : decode (mC 44) 65 = .ok (.iconst 0, 1) := by decide +kernel
theorem x44_65 {sc : aSc} {d : Nat} {r : aRes} {L : List Value} {st : List Value} {σ : aS} : Rn sc d 44 65 L st σ r ↔ Rn sc d 44 66 L (.int 0 :: st) σ r := r_iconst d44_65 (by decide)
theorem d44_66 : decode (mC 44) 66 = .ok (.iastore, 1) := by decide +kernel
theorem x44_66 {sc : aSc} {d : Nat} {r : aRes} {L : List Value} {st : List Value} {f : Nat → Nat → Int32} {g : Nat → Nat → Int64} {h1 h2 : Nat} {a : Nat} {i : Int32} {x : Int32} (h17 : 17 ≤ a) (hA : isT9 .int a) (hi : inb i (aln a) = true) : Rn sc d 44 66 L (.int x :: .int i :: .ref a :: st) (cS f g h1 h2) r ↔ Rn sc d 44 67 L st (cS (u2 f a i.toNatClampNeg x) g h1 h2) r := r_iast d44_66 h17 hA hi
theorem d44_67 : decode (mC 44) 67 = .ok (.iinc 4 1, 3) := by decide +kernel
theorem x44_67 {sc : aSc} {d : Nat} {r : aRes} {a0 : Value} {a1 : Value} {a2 : Value} {x3 : Int32} {x4 : Int32} {st : List Value} {σ : aS} : Rn sc d 44 67 [a0, a1, a2, .int x3, .int x4] st σ r ↔ Rn sc d 44 70 [a0, a1, a2, .int x3, .int (x4 + 1)] st σ r := r_iinc d44_67 (Nat.le_of_ble_eq_true rfl) rfl rfl (by decide)
theorem d44_70 : decode (mC 44) 70 = .ok (.goto (-51), 3) := by decide +kernel
theorem x44_70 {sc : aSc} {d : Nat} {r : aRes} {L : List Value} {st : List Value} {σ : aS} : Rn sc d 44 70 L st σ r ↔ Rn sc d 44 19 L st σ r := r_goto d44_70 rfl
theorem d44_73 : decode (mC 44) 73 = .ok (.iinc 3 (-1), 3) := by decide +kernel
theorem x44_73 {sc : aSc} {d : Nat} {r : aRes} {a0 : Value} {a1 : Value} {x2 : Int32} {x3 : Int32} {a4 : Value} {st : List Value} {σ : aS} : Rn sc d 44 73 [a0, a1, .int x2, .int x3, a4] st σ r ↔ Rn sc d 44 76 [a0, a1, .int x2, .int (x3 + (-1)), a4] st σ r := r_iinc d44_73 (Nat.le_of_ble_eq_true rfl) rfl rfl (by decide)
theorem d44_76 : decode (mC 44) 76 = .ok (.goto (-64), 3) := by decide +kernel
theorem x44_76 {sc : aSc} {d : Nat} {r : aRes} {L : List Value} {st : List Value} {σ : aS} : Rn sc d 44 76 L st σ r ↔ Rn sc d 44 12 L st σ r := r_goto d44_76 rfl
theorem d44_79 : decode (mC 44) 79 = .ok (.return_, 1) := by decide +kernel
theorem x44_79 {sc : aSc} {d : Nat} {r : aRes} {L : List Value} {σ : aS} : Rn sc d 44 79 L [] σ r ↔ r = (σ, none) := r_vret d44_79 rfl
theorem d45_0 : decode (mC 45) 0 = .ok (.aload_n 1, 1) := by decide +kernel
theorem x45_0 {sc : aSc} {d : Nat} {r : aRes} {a0 : Value} {x1 : Nat} {a2 : Value} {a3 : Value} {a4 : Value} {a5 : Value} {st : List Value} {σ : aS} : Rn sc d 45 0 [a0, .ref x1, a2, a3, a4, a5] st σ r ↔ Rn sc d 45 1 [a0, .ref x1, a2, a3, a4, a5] (.ref x1 :: st) σ r := r_aload_n d45_0 rfl
theorem d45_1 : decode (mC 45) 1 = .ok (.iload_n 3, 1) := by decide +kernel
theorem x45_1 {sc : aSc} {d : Nat} {r : aRes} {a0 : Value} {a1 : Value} {a2 : Value} {x3 : Int32} {a4 : Value} {a5 : Value} {st : List Value} {σ : aS} : Rn sc d 45 1 [a0, a1, a2, .int x3, a4, a5] st σ r ↔ Rn sc d 45 2 [a0, a1, a2, .int x3, a4, a5] (.int x3 :: st) σ r := r_iload_n d45_1 rfl
theorem d45_2 : decode (mC 45) 2 = .ok (.invokestatic 84, 3) := by decide +kernel
theorem x45_2 {sc : aSc} {d : Nat} {r : aRes} {L : List Value} {σ : aS} {y0 : Int32} {y1 : Nat}  : Rn sc d 45 2 L [.int y0, .ref y1] σ r ↔ ∃ (σ3 : aS) (v : Option Value), Cl sc d 39 [.ref y1, .int y0] σ (σ3, v) ∧ Rn sc d 45 5 L (v.toList ++ []) σ3 r := r_callS (vs := [.int y0, .ref y1]) d45_2 rfl (j := 39) rfl ⟨rfl, by decide, rfl, rfl⟩ (Nat.le_of_ble_eq_true rfl)
theorem d45_5 : decode (mC 45) 5 = .ok (.ifCond .ne 5, 3) := by decide +kernel
theorem x45_5 {sc : aSc} {d : Nat} {r : aRes} {L : List Value} {st : List Value} {σ : aS} {x : Int32} : Rn sc d 45 5 L (.int x :: st) σ r ↔ if x = 0 then Rn sc d 45 8 L st σ r else Rn sc d 45 10 L st σ r := r_if_ne d45_5 rfl
theorem d45_8 : decode (mC 45) 8 = .ok (.iconst 0, 1) := by decide +kernel
theorem x45_8 {sc : aSc} {d : Nat} {r : aRes} {L : List Value} {st : List Value} {σ : aS} : Rn sc d 45 8 L st σ r ↔ Rn sc d 45 9 L (.int 0 :: st) σ r := r_iconst d45_8 (by decide)
theorem d45_9 : decode (mC 45) 9 = .ok (.ireturn, 1) := by decide +kernel
theorem x45_9 {sc : aSc} {d : Nat} {r : aRes} {L : List Value} {σ : aS} {x : Int32} : Rn sc d 45 9 L [.int x] σ r ↔ r = (σ, some (.int x)) := r_iret d45_9 rfl rfl
theorem d45_10 : decode (mC 45) 10 = .ok (.iconst 0, 1) := by decide +kernel
theorem x45_10 {sc : aSc} {d : Nat} {r : aRes} {L : List Value} {st : List Value} {σ : aS} : Rn sc d 45 10 L st σ r ↔ Rn sc d 45 11 L (.int 0 :: st) σ r := r_iconst d45_10 (by decide)
theorem d45_11 : decode (mC 45) 11 = .ok (.istore 4, 2) := by decide +kernel
theorem x45_11 {sc : aSc} {d : Nat} {r : aRes} {a0 : Value} {a1 : Value} {a2 : Value} {x3 : Int32} {a4 : Value} {a5 : Value} {st : List Value} {σ : aS} {y : Int32} : Rn sc d 45 11 [a0, a1, a2, .int x3, a4, a5] (.int y :: st) σ r ↔ Rn sc d 45 13 [a0, a1, a2, .int x3, .int y, a5] st σ r := r_istore d45_11 (Nat.le_of_ble_eq_true rfl) rfl
theorem d45_13 : decode (mC 45) 13 = .ok (.iconst 0, 1) := by decide +kernel
theorem x45_13 {sc : aSc} {d : Nat} {r : aRes} {L : List Value} {st : List Value} {σ : aS} : Rn sc d 45 13 L st σ r ↔ Rn sc d 45 14 L (.int 0 :: st) σ r := r_iconst d45_13 (by decide)
theorem d45_14 : decode (mC 45) 14 = .ok (.istore 5, 2) := by decide +kernel
theorem x45_14 {sc : aSc} {d : Nat} {r : aRes} {a0 : Value} {a1 : Value} {a2 : Value} {a3 : Value} {x4 : Int32} {a5 : Value} {st : List Value} {σ : aS} {y : Int32} : Rn sc d 45 14 [a0, a1, a2, a3, .int x4, a5] (.int y :: st) σ r ↔ Rn sc d 45 16 [a0, a1, a2, a3, .int x4, .int y] st σ r := r_istore d45_14 (Nat.le_of_ble_eq_true rfl) rfl
theorem d45_16 : decode (mC 45) 16 = .ok (.iload 5, 2) := by decide +kernel
theorem x45_16 {sc : aSc} {d : Nat} {r : aRes} {a0 : Value} {a1 : Value} {a2 : Value} {a3 : Value} {a4 : Value} {x5 : Int32} {st : List Value} {σ : aS} : Rn sc d 45 16 [a0, a1, a2, a3, a4, .int x5] st σ r ↔ Rn sc d 45 18 [a0, a1, a2, a3, a4, .int x5] (.int x5 :: st) σ r := r_iload d45_16 rfl
theorem d45_18 : decode (mC 45) 18 = .ok (.bipush 21, 2) := by decide +kernel
theorem x45_18 {sc : aSc} {d : Nat} {r : aRes} {L : List Value} {st : List Value} {σ : aS} : Rn sc d 45 18 L st σ r ↔ Rn sc d 45 20 L (.int 21 :: st) σ r := r_bipush d45_18 (by decide)
theorem d45_20 : decode (mC 45) 20 = .ok (.if_icmp .ge 42, 3) := by decide +kernel
theorem x45_20 {sc : aSc} {d : Nat} {r : aRes} {L : List Value} {st : List Value} {σ : aS} {x y : Int32} : Rn sc d 45 20 L (.int y :: .int x :: st) σ r ↔ if x < y then Rn sc d 45 23 L st σ r else Rn sc d 45 62 L st σ r := r_icmp_ge d45_20 rfl
theorem d45_23 : decode (mC 45) 23 = .ok (.aload_n 0, 1) := by decide +kernel
theorem x45_23 {sc : aSc} {d : Nat} {r : aRes} {x0 : Nat} {a1 : Value} {a2 : Value} {a3 : Value} {a4 : Value} {a5 : Value} {st : List Value} {σ : aS} : Rn sc d 45 23 [.ref x0, a1, a2, a3, a4, a5] st σ r ↔ Rn sc d 45 24 [.ref x0, a1, a2, a3, a4, a5] (.ref x0 :: st) σ r := r_aload_n d45_23 rfl
theorem d45_24 : decode (mC 45) 24 = .ok (.aload_n 1, 1) := by decide +kernel
theorem x45_24 {sc : aSc} {d : Nat} {r : aRes} {a0 : Value} {x1 : Nat} {a2 : Value} {a3 : Value} {a4 : Value} {a5 : Value} {st : List Value} {σ : aS} : Rn sc d 45 24 [a0, .ref x1, a2, a3, a4, a5] st σ r ↔ Rn sc d 45 25 [a0, .ref x1, a2, a3, a4, a5] (.ref x1 :: st) σ r := r_aload_n d45_24 rfl
theorem d45_25 : decode (mC 45) 25 = .ok (.iload_n 2, 1) := by decide +kernel
theorem x45_25 {sc : aSc} {d : Nat} {r : aRes} {a0 : Value} {a1 : Value} {x2 : Int32} {a3 : Value} {a4 : Value} {a5 : Value} {st : List Value} {σ : aS} : Rn sc d 45 25 [a0, a1, .int x2, a3, a4, a5] st σ r ↔ Rn sc d 45 26 [a0, a1, .int x2, a3, a4, a5] (.int x2 :: st) σ r := r_iload_n d45_25 rfl
theorem d45_26 : decode (mC 45) 26 = .ok (.iload_n 3, 1) := by decide +kernel
theorem x45_26 {sc : aSc} {d : Nat} {r : aRes} {a0 : Value} {a1 : Value} {a2 : Value} {x3 : Int32} {a4 : Value} {a5 : Value} {st : List Value} {σ : aS} : Rn sc d 45 26 [a0, a1, a2, .int x3, a4, a5] st σ r ↔ Rn sc d 45 27 [a0, a1, a2, .int x3, a4, a5] (.int x3 :: st) σ r := r_iload_n d45_26 rfl
theorem d45_27 : decode (mC 45) 27 = .ok (.iload 5, 2) := by decide +kernel
theorem x45_27 {sc : aSc} {d : Nat} {r : aRes} {a0 : Value} {a1 : Value} {a2 : Value} {a3 : Value} {a4 : Value} {x5 : Int32} {st : List Value} {σ : aS} : Rn sc d 45 27 [a0, a1, a2, a3, a4, .int x5] st σ r ↔ Rn sc d 45 29 [a0, a1, a2, a3, a4, .int x5] (.int x5 :: st) σ r := r_iload d45_27 rfl
theorem d45_29 : decode (mC 45) 29 = .ok (.invokevirtual 95, 3) := by decide +kernel
theorem x45_29 {sc : aSc} {d : Nat} {r : aRes} {L : List Value} {f : Nat → Nat → Int32} {g : Nat → Nat → Int64} {h1 h2 : Nat} {y0 : Int32} {y1 : Int32} {y2 : Int32} {y3 : Nat}  {o : Nat} (hK : KK[o]? = some (.inl 3)) : Rn sc d 45 29 L [.int y0, .int y1, .int y2, .ref y3, .ref o] (cS f g h1 h2) r ↔ ∃ (σ3 : aS) (v : Option Value), Cl sc d 38 [.ref o, .ref y3, .int y2, .int y1, .int y0] (cS f g h1 h2) (σ3, v) ∧ Rn sc d 45 32 L (v.toList ++ []) σ3 r := r_callV (vs := [.int y0, .int y1, .int y2, .ref y3]) d45_29 (j := 38) rfl ⟨rfl, by decide, rfl, rfl⟩ (Nat.le_of_ble_eq_true rfl) hK
theorem d45_32 : decode (mC 45) 32 = .ok (.ifCond .eq 24, 3) := by decide +kernel
theorem x45_32 {sc : aSc} {d : Nat} {r : aRes} {L : List Value} {st : List Value} {σ : aS} {x : Int32} : Rn sc d 45 32 L (.int x :: st) σ r ↔ if x = 0 then Rn sc d 45 56 L st σ r else Rn sc d 45 35 L st σ r := r_if_eq d45_32 rfl
theorem d45_35 : decode (mC 45) 35 = .ok (.iload 4, 2) := by decide +kernel
theorem x45_35 {sc : aSc} {d : Nat} {r : aRes} {a0 : Value} {a1 : Value} {a2 : Value} {a3 : Value} {x4 : Int32} {a5 : Value} {st : List Value} {σ : aS} : Rn sc d 45 35 [a0, a1, a2, a3, .int x4, a5] st σ r ↔ Rn sc d 45 37 [a0, a1, a2, a3, .int x4, a5] (.int x4 :: st) σ r := r_iload d45_35 rfl
theorem d45_37 : decode (mC 45) 37 = .ok (.aload_n 0, 1) := by decide +kernel
theorem x45_37 {sc : aSc} {d : Nat} {r : aRes} {x0 : Nat} {a1 : Value} {a2 : Value} {a3 : Value} {a4 : Value} {a5 : Value} {st : List Value} {σ : aS} : Rn sc d 45 37 [.ref x0, a1, a2, a3, a4, a5] st σ r ↔ Rn sc d 45 38 [.ref x0, a1, a2, a3, a4, a5] (.ref x0 :: st) σ r := r_aload_n d45_37 rfl
theorem d45_38 : decode (mC 45) 38 = .ok (.getfield 19, 3) := by decide +kernel
theorem x45_38 {sc : aSc} {d : Nat} {r : aRes} {L : List Value} {st : List Value} {f : Nat → Nat → Int32} {g : Nat → Nat → Int64} {h1 h2 : Nat} {o : Nat} (hK : KK[o]? = some (.inl 3)) (hR : (RR h1 h2 o 2).isSome = true) : Rn sc d 45 38 L (.ref o :: st) (cS f g h1 h2) r ↔ Rn sc d 45 41 L (.ref (rf h1 h2 o 2) :: st) (cS f g h1 h2) r := r_getR2 d45_38 (ci := 3) (k := 2) rfl (by decide) (fun _ => rfl) hK hR
theorem d45_41 : decode (mC 45) 41 = .ok (.iload_n 2, 1) := by decide +kernel
theorem x45_41 {sc : aSc} {d : Nat} {r : aRes} {a0 : Value} {a1 : Value} {x2 : Int32} {a3 : Value} {a4 : Value} {a5 : Value} {st : List Value} {σ : aS} : Rn sc d 45 41 [a0, a1, .int x2, a3, a4, a5] st σ r ↔ Rn sc d 45 42 [a0, a1, .int x2, a3, a4, a5] (.int x2 :: st) σ r := r_iload_n d45_41 rfl
theorem d45_42 : decode (mC 45) 42 = .ok (.iconst 1, 1) := by decide +kernel
theorem x45_42 {sc : aSc} {d : Nat} {r : aRes} {L : List Value} {st : List Value} {σ : aS} : Rn sc d 45 42 L st σ r ↔ Rn sc d 45 43 L (.int 1 :: st) σ r := r_iconst d45_42 (by decide)
theorem d45_43 : decode (mC 45) 43 = .ok (.iadd, 1) := by decide +kernel
theorem x45_43 {sc : aSc} {d : Nat} {r : aRes} {L : List Value} {st : List Value} {σ : aS} {x y : Int32} : Rn sc d 45 43 L (.int y :: .int x :: st) σ r ↔ Rn sc d 45 44 L (.int (x + y) :: st) σ r := r_iadd d45_43
theorem d45_44 : decode (mC 45) 44 = .ok (.aaload, 1) := by decide +kernel
theorem x45_44 {sc : aSc} {d : Nat} {r : aRes} {L : List Value} {st : List Value} {f : Nat → Nat → Int32} {g : Nat → Nat → Int64} {h1 h2 : Nat} {a : Nat} {i : Int32} (h17 : 17 ≤ a) (hA : isG a) (hi : inb i (aln a) = true) (hR : (RR h1 h2 a i.toNatClampNeg).isSome = true) : Rn sc d 45 44 L (.int i :: .ref a :: st) (cS f g h1 h2) r ↔ Rn sc d 45 45 L (.ref (rf h1 h2 a i.toNatClampNeg) :: st) (cS f g h1 h2) r := r_aald2 d45_44 h17 hA hi hR
theorem d45_45 : decode (mC 45) 45 = .ok (.iload_n 3, 1) := by decide +kernel
theorem x45_45 {sc : aSc} {d : Nat} {r : aRes} {a0 : Value} {a1 : Value} {a2 : Value} {x3 : Int32} {a4 : Value} {a5 : Value} {st : List Value} {σ : aS} : Rn sc d 45 45 [a0, a1, a2, .int x3, a4, a5] st σ r ↔ Rn sc d 45 46 [a0, a1, a2, .int x3, a4, a5] (.int x3 :: st) σ r := r_iload_n d45_45 rfl
theorem d45_46 : decode (mC 45) 46 = .ok (.iload 5, 2) := by decide +kernel
theorem x45_46 {sc : aSc} {d : Nat} {r : aRes} {a0 : Value} {a1 : Value} {a2 : Value} {a3 : Value} {a4 : Value} {x5 : Int32} {st : List Value} {σ : aS} : Rn sc d 45 46 [a0, a1, a2, a3, a4, .int x5] st σ r ↔ Rn sc d 45 48 [a0, a1, a2, a3, a4, .int x5] (.int x5 :: st) σ r := r_iload d45_46 rfl
theorem d45_48 : decode (mC 45) 48 = .ok (.invokestatic 54, 3) := by decide +kernel
theorem x45_48 {sc : aSc} {d : Nat} {r : aRes} {L : List Value} {σ : aS} {y0 : Int32} {z0 : Int32} {z1 : Nat} {z2 : Int32} : Rn sc d 45 48 L [.int y0, .int z0, .ref z1, .int z2] σ r ↔ ∃ (σ3 : aS) (v : Option Value), Cl sc d 34 [.int y0] σ (σ3, v) ∧ Rn sc d 45 51 L (v.toList ++ [.int z0, .ref z1, .int z2]) σ3 r := r_callS (vs := [.int y0]) d45_48 rfl (j := 34) rfl ⟨rfl, by decide, rfl, rfl⟩ (Nat.le_of_ble_eq_true rfl)
theorem d45_51 : decode (mC 45) 51 = .ok (.ixor, 1) := by decide +kernel
theorem x45_51 {sc : aSc} {d : Nat} {r : aRes} {L : List Value} {st : List Value} {σ : aS} {x y : Int32} : Rn sc d 45 51 L (.int y :: .int x :: st) σ r ↔ Rn sc d 45 52 L (.int (x ^^^ y) :: st) σ r := r_ixor d45_51
theorem d45_52 : decode (mC 45) 52 = .ok (.iaload, 1) := by decide +kernel
theorem x45_52 {sc : aSc} {d : Nat} {r : aRes} {L : List Value} {st : List Value} {f : Nat → Nat → Int32} {g : Nat → Nat → Int64} {h1 h2 : Nat} {a : Nat} {i : Int32} (h17 : 17 ≤ a) (hA : isT9 .int a) (hi : inb i (aln a) = true) : Rn sc d 45 52 L (.int i :: .ref a :: st) (cS f g h1 h2) r ↔ Rn sc d 45 53 L (.int (f a i.toNatClampNeg) :: st) (cS f g h1 h2) r := r_iald d45_52 h17 hA hi
theorem d45_53 : decode (mC 45) 53 = .ok (.iadd, 1) := by decide +kernel
theorem x45_53 {sc : aSc} {d : Nat} {r : aRes} {L : List Value} {st : List Value} {σ : aS} {x y : Int32} : Rn sc d 45 53 L (.int y :: .int x :: st) σ r ↔ Rn sc d 45 54 L (.int (x + y) :: st) σ r := r_iadd d45_53
theorem d45_54 : decode (mC 45) 54 = .ok (.istore 4, 2) := by decide +kernel
theorem x45_54 {sc : aSc} {d : Nat} {r : aRes} {a0 : Value} {a1 : Value} {a2 : Value} {x3 : Int32} {a4 : Value} {a5 : Value} {st : List Value} {σ : aS} {y : Int32} : Rn sc d 45 54 [a0, a1, a2, .int x3, a4, a5] (.int y :: st) σ r ↔ Rn sc d 45 56 [a0, a1, a2, .int x3, .int y, a5] st σ r := r_istore d45_54 (Nat.le_of_ble_eq_true rfl) rfl
theorem d45_56 : decode (mC 45) 56 = .ok (.iinc 5 1, 3) := by decide +kernel
theorem x45_56 {sc : aSc} {d : Nat} {r : aRes} {a0 : Value} {a1 : Value} {a2 : Value} {a3 : Value} {x4 : Int32} {x5 : Int32} {st : List Value} {σ : aS} : Rn sc d 45 56 [a0, a1, a2, a3, .int x4, .int x5] st σ r ↔ Rn sc d 45 59 [a0, a1, a2, a3, .int x4, .int (x5 + 1)] st σ r := r_iinc d45_56 (Nat.le_of_ble_eq_true rfl) rfl rfl (by decide)
theorem d45_59 : decode (mC 45) 59 = .ok (.goto (-43), 3) := by decide +kernel
theorem x45_59 {sc : aSc} {d : Nat} {r : aRes} {L : List Value} {st : List Value} {σ : aS} : Rn sc d 45 59 L st σ r ↔ Rn sc d 45 16 L st σ r := r_goto d45_59 rfl
theorem d45_62 : decode (mC 45) 62 = .ok (.iload 4, 2) := by decide +kernel
theorem x45_62 {sc : aSc} {d : Nat} {r : aRes} {a0 : Value} {a1 : Value} {a2 : Value} {a3 : Value} {x4 : Int32} {a5 : Value} {st : List Value} {σ : aS} : Rn sc d 45 62 [a0, a1, a2, a3, .int x4, a5] st σ r ↔ Rn sc d 45 64 [a0, a1, a2, a3, .int x4, a5] (.int x4 :: st) σ r := r_iload d45_62 rfl
theorem d45_64 : decode (mC 45) 64 = .ok (.ireturn, 1) := by decide +kernel
theorem x45_64 {sc : aSc} {d : Nat} {r : aRes} {L : List Value} {σ : aS} {x : Int32} : Rn sc d 45 64 L [.int x] σ r ↔ r = (σ, some (.int x)) := r_iret d45_64 rfl rfl
theorem d46_0 : decode (mC 46) 0 = .ok (.aload_n 0, 1) := by decide +kernel
theorem x46_0 {sc : aSc} {d : Nat} {r : aRes} {x0 : Nat} {a1 : Value} {a2 : Value} {a3 : Value} {st : List Value} {σ : aS} : Rn sc d 46 0 [.ref x0, a1, a2, a3] st σ r ↔ Rn sc d 46 1 [.ref x0, a1, a2, a3] (.ref x0 :: st) σ r := r_aload_n d46_0 rfl
theorem d46_1 : decode (mC 46) 1 = .ok (.getfield 19, 3) := by decide +kernel
theorem x46_1 {sc : aSc} {d : Nat} {r : aRes} {L : List Value} {st : List Value} {f : Nat → Nat → Int32} {g : Nat → Nat → Int64} {h1 h2 : Nat} {o : Nat} (hK : KK[o]? = some (.inl 3)) (hR : (RR h1 h2 o 2).isSome = true) : Rn sc d 46 1 L (.ref o :: st) (cS f g h1 h2) r ↔ Rn sc d 46 4 L (.ref (rf h1 h2 o 2) :: st) (cS f g h1 h2) r := r_getR2 d46_1 (ci := 3) (k := 2) rfl (by decide) (fun _ => rfl) hK hR
theorem d46_4 : decode (mC 46) 4 = .ok (.iconst 0, 1) := by decide +kernel
theorem x46_4 {sc : aSc} {d : Nat} {r : aRes} {L : List Value} {st : List Value} {σ : aS} : Rn sc d 46 4 L st σ r ↔ Rn sc d 46 5 L (.int 0 :: st) σ r := r_iconst d46_4 (by decide)
theorem d46_5 : decode (mC 46) 5 = .ok (.aaload, 1) := by decide +kernel
theorem x46_5 {sc : aSc} {d : Nat} {r : aRes} {L : List Value} {st : List Value} {f : Nat → Nat → Int32} {g : Nat → Nat → Int64} {h1 h2 : Nat} {a : Nat} {i : Int32} (h17 : 17 ≤ a) (hA : isG a) (hi : inb i (aln a) = true) (hR : (RR h1 h2 a i.toNatClampNeg).isSome = true) : Rn sc d 46 5 L (.int i :: .ref a :: st) (cS f g h1 h2) r ↔ Rn sc d 46 6 L (.ref (rf h1 h2 a i.toNatClampNeg) :: st) (cS f g h1 h2) r := r_aald2 d46_5 h17 hA hi hR
theorem d46_6 : decode (mC 46) 6 = .ok (.aload_n 1, 1) := by decide +kernel
theorem x46_6 {sc : aSc} {d : Nat} {r : aRes} {a0 : Value} {x1 : Nat} {a2 : Value} {a3 : Value} {st : List Value} {σ : aS} : Rn sc d 46 6 [a0, .ref x1, a2, a3] st σ r ↔ Rn sc d 46 7 [a0, .ref x1, a2, a3] (.ref x1 :: st) σ r := r_aload_n d46_6 rfl
theorem d46_7 : decode (mC 46) 7 = .ok (.getfield 73, 3) := by decide +kernel
theorem x46_7 {sc : aSc} {d : Nat} {r : aRes} {L : List Value} {st : List Value} {f : Nat → Nat → Int32} {g : Nat → Nat → Int64} {h1 h2 : Nat} {o : Nat} (h17 : 17 ≤ o) (hK : KK[o]? = some (.inl 1)) : Rn sc d 46 7 L (.ref o :: st) (cS f g h1 h2) r ↔ Rn sc d 46 10 L (.int (f o 4) :: st) (cS f g h1 h2) r := r_getI d46_7 (ci := 1) (k := 4) rfl (by decide) (fun _ => rfl) h17 hK
theorem d46_10 : decode (mC 46) 10 = .ok (.iaload, 1) := by decide +kernel
theorem x46_10 {sc : aSc} {d : Nat} {r : aRes} {L : List Value} {st : List Value} {f : Nat → Nat → Int32} {g : Nat → Nat → Int64} {h1 h2 : Nat} {a : Nat} {i : Int32} (h17 : 17 ≤ a) (hA : isT9 .int a) (hi : inb i (aln a) = true) : Rn sc d 46 10 L (.int i :: .ref a :: st) (cS f g h1 h2) r ↔ Rn sc d 46 11 L (.int (f a i.toNatClampNeg) :: st) (cS f g h1 h2) r := r_iald d46_10 h17 hA hi
theorem x46_10s {sc : aSc} {d : Nat} {r : aRes} {L : List Value} {st : List Value} {f : Nat → Nat → Int32} {g : Nat → Nat → Int64} {h1 h2 : Nat} {a : Nat} {i : Int32} (h0 : ¬ a = 0) (h17 : a < 17) (hA : isT9 .int a) (hi : inb i (aln a) = true) : Rn sc d 46 10 L (.int i :: .ref a :: st) (cS f g h1 h2) r ↔ Rn sc d 46 11 L (.int (fI a i.toNatClampNeg) :: st) (cS f g h1 h2) r := r_iald0 d46_10 h0 h17 hA hi
theorem d46_11 : decode (mC 46) 11 = .ok (.ifCond .ne 6, 3) := by decide +kernel
theorem x46_11 {sc : aSc} {d : Nat} {r : aRes} {L : List Value} {st : List Value} {σ : aS} {x : Int32} : Rn sc d 46 11 L (.int x :: st) σ r ↔ if x = 0 then Rn sc d 46 14 L st σ r else Rn sc d 46 17 L st σ r := r_if_ne d46_11 rfl
theorem d46_14 : decode (mC 46) 14 = .ok (.bipush (-5), 2) := by decide +kernel
theorem x46_14 {sc : aSc} {d : Nat} {r : aRes} {L : List Value} {st : List Value} {σ : aS} : Rn sc d 46 14 L st σ r ↔ Rn sc d 46 16 L (.int (-5) :: st) σ r := r_bipush d46_14 (by decide)
theorem d46_16 : decode (mC 46) 16 = .ok (.ireturn, 1) := by decide +kernel
theorem x46_16 {sc : aSc} {d : Nat} {r : aRes} {L : List Value} {σ : aS} {x : Int32} : Rn sc d 46 16 L [.int x] σ r ↔ r = (σ, some (.int x)) := r_iret d46_16 rfl rfl
theorem d46_17 : decode (mC 46) 17 = .ok (.iconst 0, 1) := by decide +kernel
theorem x46_17 {sc : aSc} {d : Nat} {r : aRes} {L : List Value} {st : List Value} {σ : aS} : Rn sc d 46 17 L st σ r ↔ Rn sc d 46 18 L (.int 0 :: st) σ r := r_iconst d46_17 (by decide)
theorem d46_18 : decode (mC 46) 18 = .ok (.istore_n 3, 1) := by decide +kernel
theorem x46_18 {sc : aSc} {d : Nat} {r : aRes} {a0 : Value} {a1 : Value} {x2 : Int32} {a3 : Value} {st : List Value} {σ : aS} {y : Int32} : Rn sc d 46 18 [a0, a1, .int x2, a3] (.int y :: st) σ r ↔ Rn sc d 46 19 [a0, a1, .int x2, .int y] st σ r := r_istore_n d46_18 (Nat.le_of_ble_eq_true rfl) rfl
theorem d46_19 : decode (mC 46) 19 = .ok (.iload_n 2, 1) := by decide +kernel
theorem x46_19 {sc : aSc} {d : Nat} {r : aRes} {a0 : Value} {a1 : Value} {x2 : Int32} {a3 : Value} {st : List Value} {σ : aS} : Rn sc d 46 19 [a0, a1, .int x2, a3] st σ r ↔ Rn sc d 46 20 [a0, a1, .int x2, a3] (.int x2 :: st) σ r := r_iload_n d46_19 rfl
theorem d46_20 : decode (mC 46) 20 = .ok (.ifCond .le 53, 3) := by decide +kernel
theorem x46_20 {sc : aSc} {d : Nat} {r : aRes} {L : List Value} {st : List Value} {σ : aS} {x : Int32} : Rn sc d 46 20 L (.int x :: st) σ r ↔ if 0 < x then Rn sc d 46 23 L st σ r else Rn sc d 46 73 L st σ r := r_if_le d46_20 rfl
theorem d46_23 : decode (mC 46) 23 = .ok (.iload_n 3, 1) := by decide +kernel
theorem x46_23 {sc : aSc} {d : Nat} {r : aRes} {a0 : Value} {a1 : Value} {a2 : Value} {x3 : Int32} {st : List Value} {σ : aS} : Rn sc d 46 23 [a0, a1, a2, .int x3] st σ r ↔ Rn sc d 46 24 [a0, a1, a2, .int x3] (.int x3 :: st) σ r := r_iload_n d46_23 rfl
theorem d46_24 : decode (mC 46) 24 = .ok (.bipush 21, 2) := by decide +kernel
theorem x46_24 {sc : aSc} {d : Nat} {r : aRes} {L : List Value} {st : List Value} {σ : aS} : Rn sc d 46 24 L st σ r ↔ Rn sc d 46 26 L (.int 21 :: st) σ r := r_bipush d46_24 (by decide)
theorem d46_26 : decode (mC 46) 26 = .ok (.if_icmp .ge 47, 3) := by decide +kernel
theorem x46_26 {sc : aSc} {d : Nat} {r : aRes} {L : List Value} {st : List Value} {σ : aS} {x y : Int32} : Rn sc d 46 26 L (.int y :: .int x :: st) σ r ↔ if x < y then Rn sc d 46 29 L st σ r else Rn sc d 46 73 L st σ r := r_icmp_ge d46_26 rfl
theorem d46_29 : decode (mC 46) 29 = .ok (.aload_n 0, 1) := by decide +kernel
theorem x46_29 {sc : aSc} {d : Nat} {r : aRes} {x0 : Nat} {a1 : Value} {a2 : Value} {a3 : Value} {st : List Value} {σ : aS} : Rn sc d 46 29 [.ref x0, a1, a2, a3] st σ r ↔ Rn sc d 46 30 [.ref x0, a1, a2, a3] (.ref x0 :: st) σ r := r_aload_n d46_29 rfl
theorem d46_30 : decode (mC 46) 30 = .ok (.aload_n 1, 1) := by decide +kernel
theorem x46_30 {sc : aSc} {d : Nat} {r : aRes} {a0 : Value} {x1 : Nat} {a2 : Value} {a3 : Value} {st : List Value} {σ : aS} : Rn sc d 46 30 [a0, .ref x1, a2, a3] st σ r ↔ Rn sc d 46 31 [a0, .ref x1, a2, a3] (.ref x1 :: st) σ r := r_aload_n d46_30 rfl
theorem d46_31 : decode (mC 46) 31 = .ok (.iconst 0, 1) := by decide +kernel
theorem x46_31 {sc : aSc} {d : Nat} {r : aRes} {L : List Value} {st : List Value} {σ : aS} : Rn sc d 46 31 L st σ r ↔ Rn sc d 46 32 L (.int 0 :: st) σ r := r_iconst d46_31 (by decide)
theorem d46_32 : decode (mC 46) 32 = .ok (.aload_n 1, 1) := by decide +kernel
theorem x46_32 {sc : aSc} {d : Nat} {r : aRes} {a0 : Value} {x1 : Nat} {a2 : Value} {a3 : Value} {st : List Value} {σ : aS} : Rn sc d 46 32 [a0, .ref x1, a2, a3] st σ r ↔ Rn sc d 46 33 [a0, .ref x1, a2, a3] (.ref x1 :: st) σ r := r_aload_n d46_32 rfl
theorem d46_33 : decode (mC 46) 33 = .ok (.getfield 73, 3) := by decide +kernel
theorem x46_33 {sc : aSc} {d : Nat} {r : aRes} {L : List Value} {st : List Value} {f : Nat → Nat → Int32} {g : Nat → Nat → Int64} {h1 h2 : Nat} {o : Nat} (h17 : 17 ≤ o) (hK : KK[o]? = some (.inl 1)) : Rn sc d 46 33 L (.ref o :: st) (cS f g h1 h2) r ↔ Rn sc d 46 36 L (.int (f o 4) :: st) (cS f g h1 h2) r := r_getI d46_33 (ci := 1) (k := 4) rfl (by decide) (fun _ => rfl) h17 hK
theorem d46_36 : decode (mC 46) 36 = .ok (.iload_n 3, 1) := by decide +kernel
theorem x46_36 {sc : aSc} {d : Nat} {r : aRes} {a0 : Value} {a1 : Value} {a2 : Value} {x3 : Int32} {st : List Value} {σ : aS} : Rn sc d 46 36 [a0, a1, a2, .int x3] st σ r ↔ Rn sc d 46 37 [a0, a1, a2, .int x3] (.int x3 :: st) σ r := r_iload_n d46_36 rfl
theorem d46_37 : decode (mC 46) 37 = .ok (.invokevirtual 95, 3) := by decide +kernel
theorem x46_37 {sc : aSc} {d : Nat} {r : aRes} {L : List Value} {f : Nat → Nat → Int32} {g : Nat → Nat → Int64} {h1 h2 : Nat} {y0 : Int32} {y1 : Int32} {y2 : Int32} {y3 : Nat}  {o : Nat} (hK : KK[o]? = some (.inl 3)) : Rn sc d 46 37 L [.int y0, .int y1, .int y2, .ref y3, .ref o] (cS f g h1 h2) r ↔ ∃ (σ3 : aS) (v : Option Value), Cl sc d 38 [.ref o, .ref y3, .int y2, .int y1, .int y0] (cS f g h1 h2) (σ3, v) ∧ Rn sc d 46 40 L (v.toList ++ []) σ3 r := r_callV (vs := [.int y0, .int y1, .int y2, .ref y3]) d46_37 (j := 38) rfl ⟨rfl, by decide, rfl, rfl⟩ (Nat.le_of_ble_eq_true rfl) hK
theorem d46_40 : decode (mC 46) 40 = .ok (.ifCond .eq 27, 3) := by decide +kernel
theorem x46_40 {sc : aSc} {d : Nat} {r : aRes} {L : List Value} {st : List Value} {σ : aS} {x : Int32} : Rn sc d 46 40 L (.int x :: st) σ r ↔ if x = 0 then Rn sc d 46 67 L st σ r else Rn sc d 46 43 L st σ r := r_if_eq d46_40 rfl
theorem d46_43 : decode (mC 46) 43 = .ok (.aload_n 0, 1) := by decide +kernel
theorem x46_43 {sc : aSc} {d : Nat} {r : aRes} {x0 : Nat} {a1 : Value} {a2 : Value} {a3 : Value} {st : List Value} {σ : aS} : Rn sc d 46 43 [.ref x0, a1, a2, a3] st σ r ↔ Rn sc d 46 44 [.ref x0, a1, a2, a3] (.ref x0 :: st) σ r := r_aload_n d46_43 rfl
theorem d46_44 : decode (mC 46) 44 = .ok (.getfield 19, 3) := by decide +kernel
theorem x46_44 {sc : aSc} {d : Nat} {r : aRes} {L : List Value} {st : List Value} {f : Nat → Nat → Int32} {g : Nat → Nat → Int64} {h1 h2 : Nat} {o : Nat} (hK : KK[o]? = some (.inl 3)) (hR : (RR h1 h2 o 2).isSome = true) : Rn sc d 46 44 L (.ref o :: st) (cS f g h1 h2) r ↔ Rn sc d 46 47 L (.ref (rf h1 h2 o 2) :: st) (cS f g h1 h2) r := r_getR2 d46_44 (ci := 3) (k := 2) rfl (by decide) (fun _ => rfl) hK hR
theorem d46_47 : decode (mC 46) 47 = .ok (.iconst 1, 1) := by decide +kernel
theorem x46_47 {sc : aSc} {d : Nat} {r : aRes} {L : List Value} {st : List Value} {σ : aS} : Rn sc d 46 47 L st σ r ↔ Rn sc d 46 48 L (.int 1 :: st) σ r := r_iconst d46_47 (by decide)
theorem d46_48 : decode (mC 46) 48 = .ok (.aaload, 1) := by decide +kernel
theorem x46_48 {sc : aSc} {d : Nat} {r : aRes} {L : List Value} {st : List Value} {f : Nat → Nat → Int32} {g : Nat → Nat → Int64} {h1 h2 : Nat} {a : Nat} {i : Int32} (h17 : 17 ≤ a) (hA : isG a) (hi : inb i (aln a) = true) (hR : (RR h1 h2 a i.toNatClampNeg).isSome = true) : Rn sc d 46 48 L (.int i :: .ref a :: st) (cS f g h1 h2) r ↔ Rn sc d 46 49 L (.ref (rf h1 h2 a i.toNatClampNeg) :: st) (cS f g h1 h2) r := r_aald2 d46_48 h17 hA hi hR
theorem d46_49 : decode (mC 46) 49 = .ok (.aload_n 1, 1) := by decide +kernel
theorem x46_49 {sc : aSc} {d : Nat} {r : aRes} {a0 : Value} {x1 : Nat} {a2 : Value} {a3 : Value} {st : List Value} {σ : aS} : Rn sc d 46 49 [a0, .ref x1, a2, a3] st σ r ↔ Rn sc d 46 50 [a0, .ref x1, a2, a3] (.ref x1 :: st) σ r := r_aload_n d46_49 rfl
theorem d46_50 : decode (mC 46) 50 = .ok (.getfield 73, 3) := by decide +kernel
theorem x46_50 {sc : aSc} {d : Nat} {r : aRes} {L : List Value} {st : List Value} {f : Nat → Nat → Int32} {g : Nat → Nat → Int64} {h1 h2 : Nat} {o : Nat} (h17 : 17 ≤ o) (hK : KK[o]? = some (.inl 1)) : Rn sc d 46 50 L (.ref o :: st) (cS f g h1 h2) r ↔ Rn sc d 46 53 L (.int (f o 4) :: st) (cS f g h1 h2) r := r_getI d46_50 (ci := 1) (k := 4) rfl (by decide) (fun _ => rfl) h17 hK
theorem d46_53 : decode (mC 46) 53 = .ok (.iload_n 3, 1) := by decide +kernel
theorem x46_53 {sc : aSc} {d : Nat} {r : aRes} {a0 : Value} {a1 : Value} {a2 : Value} {x3 : Int32} {st : List Value} {σ : aS} : Rn sc d 46 53 [a0, a1, a2, .int x3] st σ r ↔ Rn sc d 46 54 [a0, a1, a2, .int x3] (.int x3 :: st) σ r := r_iload_n d46_53 rfl
theorem d46_54 : decode (mC 46) 54 = .ok (.invokestatic 54, 3) := by decide +kernel
theorem x46_54 {sc : aSc} {d : Nat} {r : aRes} {L : List Value} {σ : aS} {y0 : Int32} {z0 : Int32} {z1 : Nat} : Rn sc d 46 54 L [.int y0, .int z0, .ref z1] σ r ↔ ∃ (σ3 : aS) (v : Option Value), Cl sc d 34 [.int y0] σ (σ3, v) ∧ Rn sc d 46 57 L (v.toList ++ [.int z0, .ref z1]) σ3 r := r_callS (vs := [.int y0]) d46_54 rfl (j := 34) rfl ⟨rfl, by decide, rfl, rfl⟩ (Nat.le_of_ble_eq_true rfl)
theorem d46_57 : decode (mC 46) 57 = .ok (.ixor, 1) := by decide +kernel
theorem x46_57 {sc : aSc} {d : Nat} {r : aRes} {L : List Value} {st : List Value} {σ : aS} {x y : Int32} : Rn sc d 46 57 L (.int y :: .int x :: st) σ r ↔ Rn sc d 46 58 L (.int (x ^^^ y) :: st) σ r := r_ixor d46_57
theorem d46_58 : decode (mC 46) 58 = .ok (.iaload, 1) := by decide +kernel
theorem x46_58 {sc : aSc} {d : Nat} {r : aRes} {L : List Value} {st : List Value} {f : Nat → Nat → Int32} {g : Nat → Nat → Int64} {h1 h2 : Nat} {a : Nat} {i : Int32} (h17 : 17 ≤ a) (hA : isT9 .int a) (hi : inb i (aln a) = true) : Rn sc d 46 58 L (.int i :: .ref a :: st) (cS f g h1 h2) r ↔ Rn sc d 46 59 L (.int (f a i.toNatClampNeg) :: st) (cS f g h1 h2) r := r_iald d46_58 h17 hA hi
theorem x46_58s {sc : aSc} {d : Nat} {r : aRes} {L : List Value} {st : List Value} {f : Nat → Nat → Int32} {g : Nat → Nat → Int64} {h1 h2 : Nat} {a : Nat} {i : Int32} (h0 : ¬ a = 0) (h17 : a < 17) (hA : isT9 .int a) (hi : inb i (aln a) = true) : Rn sc d 46 58 L (.int i :: .ref a :: st) (cS f g h1 h2) r ↔ Rn sc d 46 59 L (.int (fI a i.toNatClampNeg) :: st) (cS f g h1 h2) r := r_iald0 d46_58 h0 h17 hA hi
theorem d46_59 : decode (mC 46) 59 = .ok (.ifCond .le 8, 3) := by decide +kernel
theorem x46_59 {sc : aSc} {d : Nat} {r : aRes} {L : List Value} {st : List Value} {σ : aS} {x : Int32} : Rn sc d 46 59 L (.int x :: st) σ r ↔ if 0 < x then Rn sc d 46 62 L st σ r else Rn sc d 46 67 L st σ r := r_if_le d46_59 rfl
theorem d46_62 : decode (mC 46) 62 = .ok (.iload_n 3, 1) := by decide +kernel
theorem x46_62 {sc : aSc} {d : Nat} {r : aRes} {a0 : Value} {a1 : Value} {a2 : Value} {x3 : Int32} {st : List Value} {σ : aS} : Rn sc d 46 62 [a0, a1, a2, .int x3] st σ r ↔ Rn sc d 46 63 [a0, a1, a2, .int x3] (.int x3 :: st) σ r := r_iload_n d46_62 rfl
theorem d46_63 : decode (mC 46) 63 = .ok (.invokestatic 102, 3) := by decide +kernel
theorem x46_63 {sc : aSc} {d : Nat} {r : aRes} {L : List Value} {σ : aS} {y0 : Int32}  : Rn sc d 46 63 L [.int y0] σ r ↔ ∃ (σ3 : aS) (v : Option Value), Cl sc d 35 [.int y0] σ (σ3, v) ∧ Rn sc d 46 66 L (v.toList ++ []) σ3 r := r_callS (vs := [.int y0]) d46_63 rfl (j := 35) rfl ⟨rfl, by decide, rfl, rfl⟩ (Nat.le_of_ble_eq_true rfl)
theorem d46_66 : decode (mC 46) 66 = .ok (.ireturn, 1) := by decide +kernel
theorem x46_66 {sc : aSc} {d : Nat} {r : aRes} {L : List Value} {σ : aS} {x : Int32} : Rn sc d 46 66 L [.int x] σ r ↔ r = (σ, some (.int x)) := r_iret d46_66 rfl rfl
theorem d46_67 : decode (mC 46) 67 = .ok (.iinc 3 1, 3) := by decide +kernel
theorem x46_67 {sc : aSc} {d : Nat} {r : aRes} {a0 : Value} {a1 : Value} {x2 : Int32} {x3 : Int32} {st : List Value} {σ : aS} : Rn sc d 46 67 [a0, a1, .int x2, .int x3] st σ r ↔ Rn sc d 46 70 [a0, a1, .int x2, .int (x3 + 1)] st σ r := r_iinc d46_67 (Nat.le_of_ble_eq_true rfl) rfl rfl (by decide)
theorem d46_70 : decode (mC 46) 70 = .ok (.goto (-51), 3) := by decide +kernel
theorem x46_70 {sc : aSc} {d : Nat} {r : aRes} {L : List Value} {st : List Value} {σ : aS} : Rn sc d 46 70 L st σ r ↔ Rn sc d 46 19 L st σ r := r_goto d46_70 rfl
theorem d46_73 : decode (mC 46) 73 = .ok (.bipush 99, 2) := by decide +kernel
theorem x46_73 {sc : aSc} {d : Nat} {r : aRes} {L : List Value} {st : List Value} {σ : aS} : Rn sc d 46 73 L st σ r ↔ Rn sc d 46 75 L (.int 99 :: st) σ r := r_bipush d46_73 (by decide)
theorem d46_75 : decode (mC 46) 75 = .ok (.ireturn, 1) := by decide +kernel
theorem x46_75 {sc : aSc} {d : Nat} {r : aRes} {L : List Value} {σ : aS} {x : Int32} : Rn sc d 46 75 L [.int x] σ r ↔ r = (σ, some (.int x)) := r_iret d46_75 rfl rfl
theorem d47_0 : decode (mC 47) 0 = .ok (.aload_n 0, 1) := by decide +kernel
theorem x47_0 {sc : aSc} {d : Nat} {r : aRes} {x0 : Nat} {a1 : Value} {a2 : Value} {a3 : Value} {a4 : Value} {st : List Value} {σ : aS} : Rn sc d 47 0 [.ref x0, a1, a2, a3, a4] st σ r ↔ Rn sc d 47 1 [.ref x0, a1, a2, a3, a4] (.ref x0 :: st) σ r := r_aload_n d47_0 rfl
theorem d47_1 : decode (mC 47) 1 = .ok (.aload_n 1, 1) := by decide +kernel
theorem x47_1 {sc : aSc} {d : Nat} {r : aRes} {a0 : Value} {x1 : Nat} {a2 : Value} {a3 : Value} {a4 : Value} {st : List Value} {σ : aS} : Rn sc d 47 1 [a0, .ref x1, a2, a3, a4] st σ r ↔ Rn sc d 47 2 [a0, .ref x1, a2, a3, a4] (.ref x1 :: st) σ r := r_aload_n d47_1 rfl
theorem d47_2 : decode (mC 47) 2 = .ok (.iconst 1, 1) := by decide +kernel
theorem x47_2 {sc : aSc} {d : Nat} {r : aRes} {L : List Value} {st : List Value} {σ : aS} : Rn sc d 47 2 L st σ r ↔ Rn sc d 47 3 L (.int 1 :: st) σ r := r_iconst d47_2 (by decide)
theorem d47_3 : decode (mC 47) 3 = .ok (.aload_n 1, 1) := by decide +kernel
theorem x47_3 {sc : aSc} {d : Nat} {r : aRes} {a0 : Value} {x1 : Nat} {a2 : Value} {a3 : Value} {a4 : Value} {st : List Value} {σ : aS} : Rn sc d 47 3 [a0, .ref x1, a2, a3, a4] st σ r ↔ Rn sc d 47 4 [a0, .ref x1, a2, a3, a4] (.ref x1 :: st) σ r := r_aload_n d47_3 rfl
theorem d47_4 : decode (mC 47) 4 = .ok (.invokevirtual 80, 3) := by decide +kernel
theorem x47_4 {sc : aSc} {d : Nat} {r : aRes} {L : List Value} {f : Nat → Nat → Int32} {g : Nat → Nat → Int64} {h1 h2 : Nat}  {z0 : Int32} {z1 : Nat} {z2 : Nat} {o : Nat} (hK : KK[o]? = some (.inl 1)) : Rn sc d 47 4 L [.ref o, .int z0, .ref z1, .ref z2] (cS f g h1 h2) r ↔ ∃ (σ3 : aS) (v : Option Value), Cl sc d 8 [.ref o] (cS f g h1 h2) (σ3, v) ∧ Rn sc d 47 7 L (v.toList ++ [.int z0, .ref z1, .ref z2]) σ3 r := r_callV (vs := []) d47_4 (j := 8) rfl ⟨rfl, by decide, rfl, rfl⟩ (Nat.le_of_ble_eq_true rfl) hK
theorem d47_7 : decode (mC 47) 7 = .ok (.invokevirtual 76, 3) := by decide +kernel
theorem x47_7 {sc : aSc} {d : Nat} {r : aRes} {L : List Value} {f : Nat → Nat → Int32} {g : Nat → Nat → Int64} {h1 h2 : Nat} {y0 : Int32} {y1 : Int32} {y2 : Nat}  {o : Nat} (hK : KK[o]? = some (.inl 3)) : Rn sc d 47 7 L [.int y0, .int y1, .ref y2, .ref o] (cS f g h1 h2) r ↔ ∃ (σ3 : aS) (v : Option Value), Cl sc d 33 [.ref o, .ref y2, .int y1, .int y0] (cS f g h1 h2) (σ3, v) ∧ Rn sc d 47 10 L (v.toList ++ []) σ3 r := r_callV (vs := [.int y0, .int y1, .ref y2]) d47_7 (j := 33) rfl ⟨rfl, by decide, rfl, rfl⟩ (Nat.le_of_ble_eq_true rfl) hK
theorem d47_10 : decode (mC 47) 10 = .ok (.iconst 0, 1) := by decide +kernel
theorem x47_10 {sc : aSc} {d : Nat} {r : aRes} {L : List Value} {st : List Value} {σ : aS} : Rn sc d 47 10 L st σ r ↔ Rn sc d 47 11 L (.int 0 :: st) σ r := r_iconst d47_10 (by decide)
theorem d47_11 : decode (mC 47) 11 = .ok (.istore_n 2, 1) := by decide +kernel
theorem x47_11 {sc : aSc} {d : Nat} {r : aRes} {a0 : Value} {x1 : Nat} {a2 : Value} {a3 : Value} {a4 : Value} {st : List Value} {σ : aS} {y : Int32} : Rn sc d 47 11 [a0, .ref x1, a2, a3, a4] (.int y :: st) σ r ↔ Rn sc d 47 12 [a0, .ref x1, .int y, a3, a4] st σ r := r_istore_n d47_11 (Nat.le_of_ble_eq_true rfl) rfl
theorem d47_12 : decode (mC 47) 12 = .ok (.iconst 0, 1) := by decide +kernel
theorem x47_12 {sc : aSc} {d : Nat} {r : aRes} {L : List Value} {st : List Value} {σ : aS} : Rn sc d 47 12 L st σ r ↔ Rn sc d 47 13 L (.int 0 :: st) σ r := r_iconst d47_12 (by decide)
theorem d47_13 : decode (mC 47) 13 = .ok (.istore_n 3, 1) := by decide +kernel
theorem x47_13 {sc : aSc} {d : Nat} {r : aRes} {a0 : Value} {a1 : Value} {x2 : Int32} {a3 : Value} {a4 : Value} {st : List Value} {σ : aS} {y : Int32} : Rn sc d 47 13 [a0, a1, .int x2, a3, a4] (.int y :: st) σ r ↔ Rn sc d 47 14 [a0, a1, .int x2, .int y, a4] st σ r := r_istore_n d47_13 (Nat.le_of_ble_eq_true rfl) rfl
theorem d47_14 : decode (mC 47) 14 = .ok (.iload_n 3, 1) := by decide +kernel
theorem x47_14 {sc : aSc} {d : Nat} {r : aRes} {a0 : Value} {a1 : Value} {a2 : Value} {x3 : Int32} {a4 : Value} {st : List Value} {σ : aS} : Rn sc d 47 14 [a0, a1, a2, .int x3, a4] st σ r ↔ Rn sc d 47 15 [a0, a1, a2, .int x3, a4] (.int x3 :: st) σ r := r_iload_n d47_14 rfl
theorem d47_15 : decode (mC 47) 15 = .ok (.bipush 21, 2) := by decide +kernel
theorem x47_15 {sc : aSc} {d : Nat} {r : aRes} {L : List Value} {st : List Value} {σ : aS} : Rn sc d 47 15 L st σ r ↔ Rn sc d 47 17 L (.int 21 :: st) σ r := r_bipush d47_15 (by decide)
theorem d47_17 : decode (mC 47) 17 = .ok (.if_icmp .ge 46, 3) := by decide +kernel
theorem x47_17 {sc : aSc} {d : Nat} {r : aRes} {L : List Value} {st : List Value} {σ : aS} {x y : Int32} : Rn sc d 47 17 L (.int y :: .int x :: st) σ r ↔ if x < y then Rn sc d 47 20 L st σ r else Rn sc d 47 63 L st σ r := r_icmp_ge d47_17 rfl
theorem d47_20 : decode (mC 47) 20 = .ok (.iload_n 3, 1) := by decide +kernel
theorem x47_20 {sc : aSc} {d : Nat} {r : aRes} {a0 : Value} {a1 : Value} {a2 : Value} {x3 : Int32} {a4 : Value} {st : List Value} {σ : aS} : Rn sc d 47 20 [a0, a1, a2, .int x3, a4] st σ r ↔ Rn sc d 47 21 [a0, a1, a2, .int x3, a4] (.int x3 :: st) σ r := r_iload_n d47_20 rfl
theorem d47_21 : decode (mC 47) 21 = .ok (.iconst 1, 1) := by decide +kernel
theorem x47_21 {sc : aSc} {d : Nat} {r : aRes} {L : List Value} {st : List Value} {σ : aS} : Rn sc d 47 21 L st σ r ↔ Rn sc d 47 22 L (.int 1 :: st) σ r := r_iconst d47_21 (by decide)
theorem d47_22 : decode (mC 47) 22 = .ok (.iadd, 1) := by decide +kernel
theorem x47_22 {sc : aSc} {d : Nat} {r : aRes} {L : List Value} {st : List Value} {σ : aS} {x y : Int32} : Rn sc d 47 22 L (.int y :: .int x :: st) σ r ↔ Rn sc d 47 23 L (.int (x + y) :: st) σ r := r_iadd d47_22
theorem d47_23 : decode (mC 47) 23 = .ok (.istore 4, 2) := by decide +kernel
theorem x47_23 {sc : aSc} {d : Nat} {r : aRes} {a0 : Value} {a1 : Value} {a2 : Value} {x3 : Int32} {a4 : Value} {st : List Value} {σ : aS} {y : Int32} : Rn sc d 47 23 [a0, a1, a2, .int x3, a4] (.int y :: st) σ r ↔ Rn sc d 47 25 [a0, a1, a2, .int x3, .int y] st σ r := r_istore d47_23 (Nat.le_of_ble_eq_true rfl) rfl
theorem d47_25 : decode (mC 47) 25 = .ok (.iload 4, 2) := by decide +kernel
theorem x47_25 {sc : aSc} {d : Nat} {r : aRes} {a0 : Value} {a1 : Value} {a2 : Value} {a3 : Value} {x4 : Int32} {st : List Value} {σ : aS} : Rn sc d 47 25 [a0, a1, a2, a3, .int x4] st σ r ↔ Rn sc d 47 27 [a0, a1, a2, a3, .int x4] (.int x4 :: st) σ r := r_iload d47_25 rfl
theorem d47_27 : decode (mC 47) 27 = .ok (.bipush 21, 2) := by decide +kernel
theorem x47_27 {sc : aSc} {d : Nat} {r : aRes} {L : List Value} {st : List Value} {σ : aS} : Rn sc d 47 27 L st σ r ↔ Rn sc d 47 29 L (.int 21 :: st) σ r := r_bipush d47_27 (by decide)
theorem d47_29 : decode (mC 47) 29 = .ok (.if_icmp .ge 28, 3) := by decide +kernel
theorem x47_29 {sc : aSc} {d : Nat} {r : aRes} {L : List Value} {st : List Value} {σ : aS} {x y : Int32} : Rn sc d 47 29 L (.int y :: .int x :: st) σ r ↔ if x < y then Rn sc d 47 32 L st σ r else Rn sc d 47 57 L st σ r := r_icmp_ge d47_29 rfl
theorem d47_32 : decode (mC 47) 32 = .ok (.iload_n 2, 1) := by decide +kernel
theorem x47_32 {sc : aSc} {d : Nat} {r : aRes} {a0 : Value} {a1 : Value} {x2 : Int32} {a3 : Value} {a4 : Value} {st : List Value} {σ : aS} : Rn sc d 47 32 [a0, a1, .int x2, a3, a4] st σ r ↔ Rn sc d 47 33 [a0, a1, .int x2, a3, a4] (.int x2 :: st) σ r := r_iload_n d47_32 rfl
theorem d47_33 : decode (mC 47) 33 = .ok (.aload_n 0, 1) := by decide +kernel
theorem x47_33 {sc : aSc} {d : Nat} {r : aRes} {x0 : Nat} {a1 : Value} {a2 : Value} {a3 : Value} {a4 : Value} {st : List Value} {σ : aS} : Rn sc d 47 33 [.ref x0, a1, a2, a3, a4] st σ r ↔ Rn sc d 47 34 [.ref x0, a1, a2, a3, a4] (.ref x0 :: st) σ r := r_aload_n d47_33 rfl
theorem d47_34 : decode (mC 47) 34 = .ok (.aload_n 1, 1) := by decide +kernel
theorem x47_34 {sc : aSc} {d : Nat} {r : aRes} {a0 : Value} {x1 : Nat} {a2 : Value} {a3 : Value} {a4 : Value} {st : List Value} {σ : aS} : Rn sc d 47 34 [a0, .ref x1, a2, a3, a4] st σ r ↔ Rn sc d 47 35 [a0, .ref x1, a2, a3, a4] (.ref x1 :: st) σ r := r_aload_n d47_34 rfl
theorem d47_35 : decode (mC 47) 35 = .ok (.iload_n 3, 1) := by decide +kernel
theorem x47_35 {sc : aSc} {d : Nat} {r : aRes} {a0 : Value} {a1 : Value} {a2 : Value} {x3 : Int32} {a4 : Value} {st : List Value} {σ : aS} : Rn sc d 47 35 [a0, a1, a2, .int x3, a4] st σ r ↔ Rn sc d 47 36 [a0, a1, a2, .int x3, a4] (.int x3 :: st) σ r := r_iload_n d47_35 rfl
theorem d47_36 : decode (mC 47) 36 = .ok (.iload 4, 2) := by decide +kernel
theorem x47_36 {sc : aSc} {d : Nat} {r : aRes} {a0 : Value} {a1 : Value} {a2 : Value} {a3 : Value} {x4 : Int32} {st : List Value} {σ : aS} : Rn sc d 47 36 [a0, a1, a2, a3, .int x4] st σ r ↔ Rn sc d 47 38 [a0, a1, a2, a3, .int x4] (.int x4 :: st) σ r := r_iload d47_36 rfl
theorem d47_38 : decode (mC 47) 38 = .ok (.invokevirtual 115, 3) := by decide +kernel
theorem x47_38 {sc : aSc} {d : Nat} {r : aRes} {L : List Value} {f : Nat → Nat → Int32} {g : Nat → Nat → Int64} {h1 h2 : Nat} {y0 : Int32} {y1 : Int32} {y2 : Nat} {z0 : Int32} {o : Nat} (hK : KK[o]? = some (.inl 3)) : Rn sc d 47 38 L [.int y0, .int y1, .ref y2, .ref o, .int z0] (cS f g h1 h2) r ↔ ∃ (σ3 : aS) (v : Option Value), Cl sc d 49 [.ref o, .ref y2, .int y1, .int y0] (cS f g h1 h2) (σ3, v) ∧ Rn sc d 47 41 L (v.toList ++ [.int z0]) σ3 r := r_callV (vs := [.int y0, .int y1, .ref y2]) d47_38 (j := 49) rfl ⟨rfl, by decide, rfl, rfl⟩ (Nat.le_of_ble_eq_true rfl) hK
theorem d47_41 : decode (mC 47) 41 = .ok (.ifCond .eq 7, 3) := by decide +kernel
theorem x47_41 {sc : aSc} {d : Nat} {r : aRes} {L : List Value} {st : List Value} {σ : aS} {x : Int32} : Rn sc d 47 41 L (.int x :: st) σ r ↔ if x = 0 then Rn sc d 47 48 L st σ r else Rn sc d 47 44 L st σ r := r_if_eq d47_41 rfl
theorem d47_44 : decode (mC 47) 44 = .ok (.iconst 1, 1) := by decide +kernel
theorem x47_44 {sc : aSc} {d : Nat} {r : aRes} {L : List Value} {st : List Value} {σ : aS} : Rn sc d 47 44 L st σ r ↔ Rn sc d 47 45 L (.int 1 :: st) σ r := r_iconst d47_44 (by decide)
theorem d47_45 : decode (mC 47) 45 = .ok (.goto 4, 3) := by decide +kernel
theorem x47_45 {sc : aSc} {d : Nat} {r : aRes} {L : List Value} {st : List Value} {σ : aS} : Rn sc d 47 45 L st σ r ↔ Rn sc d 47 49 L st σ r := r_goto d47_45 rfl
theorem d47_48 : decode (mC 47) 48 = .ok (.iconst 0, 1) := by decide +kernel
theorem x47_48 {sc : aSc} {d : Nat} {r : aRes} {L : List Value} {st : List Value} {σ : aS} : Rn sc d 47 48 L st σ r ↔ Rn sc d 47 49 L (.int 0 :: st) σ r := r_iconst d47_48 (by decide)
theorem d47_49 : decode (mC 47) 49 = .ok (.iadd, 1) := by decide +kernel
theorem x47_49 {sc : aSc} {d : Nat} {r : aRes} {L : List Value} {st : List Value} {σ : aS} {x y : Int32} : Rn sc d 47 49 L (.int y :: .int x :: st) σ r ↔ Rn sc d 47 50 L (.int (x + y) :: st) σ r := r_iadd d47_49
theorem d47_50 : decode (mC 47) 50 = .ok (.istore_n 2, 1) := by decide +kernel
theorem x47_50 {sc : aSc} {d : Nat} {r : aRes} {a0 : Value} {x1 : Nat} {a2 : Value} {a3 : Value} {a4 : Value} {st : List Value} {σ : aS} {y : Int32} : Rn sc d 47 50 [a0, .ref x1, a2, a3, a4] (.int y :: st) σ r ↔ Rn sc d 47 51 [a0, .ref x1, .int y, a3, a4] st σ r := r_istore_n d47_50 (Nat.le_of_ble_eq_true rfl) rfl
theorem d47_51 : decode (mC 47) 51 = .ok (.iinc 4 1, 3) := by decide +kernel
theorem x47_51 {sc : aSc} {d : Nat} {r : aRes} {a0 : Value} {a1 : Value} {a2 : Value} {x3 : Int32} {x4 : Int32} {st : List Value} {σ : aS} : Rn sc d 47 51 [a0, a1, a2, .int x3, .int x4] st σ r ↔ Rn sc d 47 54 [a0, a1, a2, .int x3, .int (x4 + 1)] st σ r := r_iinc d47_51 (Nat.le_of_ble_eq_true rfl) rfl rfl (by decide)
theorem d47_54 : decode (mC 47) 54 = .ok (.goto (-29), 3) := by decide +kernel
theorem x47_54 {sc : aSc} {d : Nat} {r : aRes} {L : List Value} {st : List Value} {σ : aS} : Rn sc d 47 54 L st σ r ↔ Rn sc d 47 25 L st σ r := r_goto d47_54 rfl
theorem d47_57 : decode (mC 47) 57 = .ok (.iinc 3 1, 3) := by decide +kernel
theorem x47_57 {sc : aSc} {d : Nat} {r : aRes} {a0 : Value} {a1 : Value} {x2 : Int32} {x3 : Int32} {a4 : Value} {st : List Value} {σ : aS} : Rn sc d 47 57 [a0, a1, .int x2, .int x3, a4] st σ r ↔ Rn sc d 47 60 [a0, a1, .int x2, .int (x3 + 1), a4] st σ r := r_iinc d47_57 (Nat.le_of_ble_eq_true rfl) rfl rfl (by decide)
theorem d47_60 : decode (mC 47) 60 = .ok (.goto (-46), 3) := by decide +kernel
theorem x47_60 {sc : aSc} {d : Nat} {r : aRes} {L : List Value} {st : List Value} {σ : aS} : Rn sc d 47 60 L st σ r ↔ Rn sc d 47 14 L st σ r := r_goto d47_60 rfl
theorem d47_63 : decode (mC 47) 63 = .ok (.iload_n 2, 1) := by decide +kernel
theorem x47_63 {sc : aSc} {d : Nat} {r : aRes} {a0 : Value} {a1 : Value} {x2 : Int32} {a3 : Value} {a4 : Value} {st : List Value} {σ : aS} : Rn sc d 47 63 [a0, a1, .int x2, a3, a4] st σ r ↔ Rn sc d 47 64 [a0, a1, .int x2, a3, a4] (.int x2 :: st) σ r := r_iload_n d47_63 rfl
theorem d47_64 : decode (mC 47) 64 = .ok (.ireturn, 1) := by decide +kernel
theorem x47_64 {sc : aSc} {d : Nat} {r : aRes} {L : List Value} {σ : aS} {x : Int32} : Rn sc d 47 64 L [.int x] σ r ↔ r = (σ, some (.int x)) := r_iret d47_64 rfl rfl
theorem d48_0 : decode (mC 48) 0 = .ok (.aload_n 0, 1) := by decide +kernel
theorem x48_0 {sc : aSc} {d : Nat} {r : aRes} {x0 : Nat} {a1 : Value} {a2 : Value} {a3 : Value} {a4 : Value} {a5 : Value} {a6 : Value} {st : List Value} {σ : aS} : Rn sc d 48 0 [.ref x0, a1, a2, a3, a4, a5, a6] st σ r ↔ Rn sc d 48 1 [.ref x0, a1, a2, a3, a4, a5, a6] (.ref x0 :: st) σ r := r_aload_n d48_0 rfl
theorem d48_1 : decode (mC 48) 1 = .ok (.aload_n 1, 1) := by decide +kernel
theorem x48_1 {sc : aSc} {d : Nat} {r : aRes} {a0 : Value} {x1 : Nat} {a2 : Value} {a3 : Value} {a4 : Value} {a5 : Value} {a6 : Value} {st : List Value} {σ : aS} : Rn sc d 48 1 [a0, .ref x1, a2, a3, a4, a5, a6] st σ r ↔ Rn sc d 48 2 [a0, .ref x1, a2, a3, a4, a5, a6] (.ref x1 :: st) σ r := r_aload_n d48_1 rfl
theorem d48_2 : decode (mC 48) 2 = .ok (.iconst 1, 1) := by decide +kernel
theorem x48_2 {sc : aSc} {d : Nat} {r : aRes} {L : List Value} {st : List Value} {σ : aS} : Rn sc d 48 2 L st σ r ↔ Rn sc d 48 3 L (.int 1 :: st) σ r := r_iconst d48_2 (by decide)
theorem d48_3 : decode (mC 48) 3 = .ok (.aload_n 1, 1) := by decide +kernel
theorem x48_3 {sc : aSc} {d : Nat} {r : aRes} {a0 : Value} {x1 : Nat} {a2 : Value} {a3 : Value} {a4 : Value} {a5 : Value} {a6 : Value} {st : List Value} {σ : aS} : Rn sc d 48 3 [a0, .ref x1, a2, a3, a4, a5, a6] st σ r ↔ Rn sc d 48 4 [a0, .ref x1, a2, a3, a4, a5, a6] (.ref x1 :: st) σ r := r_aload_n d48_3 rfl
theorem d48_4 : decode (mC 48) 4 = .ok (.invokevirtual 80, 3) := by decide +kernel
theorem x48_4 {sc : aSc} {d : Nat} {r : aRes} {L : List Value} {f : Nat → Nat → Int32} {g : Nat → Nat → Int64} {h1 h2 : Nat}  {z0 : Int32} {z1 : Nat} {z2 : Nat} {o : Nat} (hK : KK[o]? = some (.inl 1)) : Rn sc d 48 4 L [.ref o, .int z0, .ref z1, .ref z2] (cS f g h1 h2) r ↔ ∃ (σ3 : aS) (v : Option Value), Cl sc d 8 [.ref o] (cS f g h1 h2) (σ3, v) ∧ Rn sc d 48 7 L (v.toList ++ [.int z0, .ref z1, .ref z2]) σ3 r := r_callV (vs := []) d48_4 (j := 8) rfl ⟨rfl, by decide, rfl, rfl⟩ (Nat.le_of_ble_eq_true rfl) hK
theorem d48_7 : decode (mC 48) 7 = .ok (.invokevirtual 76, 3) := by decide +kernel
theorem x48_7 {sc : aSc} {d : Nat} {r : aRes} {L : List Value} {f : Nat → Nat → Int32} {g : Nat → Nat → Int64} {h1 h2 : Nat} {y0 : Int32} {y1 : Int32} {y2 : Nat}  {o : Nat} (hK : KK[o]? = some (.inl 3)) : Rn sc d 48 7 L [.int y0, .int y1, .ref y2, .ref o] (cS f g h1 h2) r ↔ ∃ (σ3 : aS) (v : Option Value), Cl sc d 33 [.ref o, .ref y2, .int y1, .int y0] (cS f g h1 h2) (σ3, v) ∧ Rn sc d 48 10 L (v.toList ++ []) σ3 r := r_callV (vs := [.int y0, .int y1, .ref y2]) d48_7 (j := 33) rfl ⟨rfl, by decide, rfl, rfl⟩ (Nat.le_of_ble_eq_true rfl) hK
theorem d48_10 : decode (mC 48) 10 = .ok (.aload_n 1, 1) := by decide +kernel
theorem x48_10 {sc : aSc} {d : Nat} {r : aRes} {a0 : Value} {x1 : Nat} {a2 : Value} {a3 : Value} {a4 : Value} {a5 : Value} {a6 : Value} {st : List Value} {σ : aS} : Rn sc d 48 10 [a0, .ref x1, a2, a3, a4, a5, a6] st σ r ↔ Rn sc d 48 11 [a0, .ref x1, a2, a3, a4, a5, a6] (.ref x1 :: st) σ r := r_aload_n d48_10 rfl
theorem d48_11 : decode (mC 48) 11 = .ok (.aload_n 1, 1) := by decide +kernel
theorem x48_11 {sc : aSc} {d : Nat} {r : aRes} {a0 : Value} {x1 : Nat} {a2 : Value} {a3 : Value} {a4 : Value} {a5 : Value} {a6 : Value} {st : List Value} {σ : aS} : Rn sc d 48 11 [a0, .ref x1, a2, a3, a4, a5, a6] st σ r ↔ Rn sc d 48 12 [a0, .ref x1, a2, a3, a4, a5, a6] (.ref x1 :: st) σ r := r_aload_n d48_11 rfl
theorem d48_12 : decode (mC 48) 12 = .ok (.getfield 73, 3) := by decide +kernel
theorem x48_12 {sc : aSc} {d : Nat} {r : aRes} {L : List Value} {st : List Value} {f : Nat → Nat → Int32} {g : Nat → Nat → Int64} {h1 h2 : Nat} {o : Nat} (h17 : 17 ≤ o) (hK : KK[o]? = some (.inl 1)) : Rn sc d 48 12 L (.ref o :: st) (cS f g h1 h2) r ↔ Rn sc d 48 15 L (.int (f o 4) :: st) (cS f g h1 h2) r := r_getI d48_12 (ci := 1) (k := 4) rfl (by decide) (fun _ => rfl) h17 hK
theorem d48_15 : decode (mC 48) 15 = .ok (.aload_n 0, 1) := by decide +kernel
theorem x48_15 {sc : aSc} {d : Nat} {r : aRes} {x0 : Nat} {a1 : Value} {a2 : Value} {a3 : Value} {a4 : Value} {a5 : Value} {a6 : Value} {st : List Value} {σ : aS} : Rn sc d 48 15 [.ref x0, a1, a2, a3, a4, a5, a6] st σ r ↔ Rn sc d 48 16 [.ref x0, a1, a2, a3, a4, a5, a6] (.ref x0 :: st) σ r := r_aload_n d48_15 rfl
theorem d48_16 : decode (mC 48) 16 = .ok (.getfield 28, 3) := by decide +kernel
theorem x48_16 {sc : aSc} {d : Nat} {r : aRes} {L : List Value} {st : List Value} {f : Nat → Nat → Int32} {g : Nat → Nat → Int64} {h1 h2 : Nat} {o : Nat} (h17 : 17 ≤ o) (hK : KK[o]? = some (.inl 3)) : Rn sc d 48 16 L (.ref o :: st) (cS f g h1 h2) r ↔ Rn sc d 48 19 L (.int (f o 5) :: st) (cS f g h1 h2) r := r_getI d48_16 (ci := 3) (k := 5) rfl (by decide) (fun _ => rfl) h17 hK
theorem d48_19 : decode (mC 48) 19 = .ok (.invokevirtual 88, 3) := by decide +kernel
theorem x48_19 {sc : aSc} {d : Nat} {r : aRes} {L : List Value} {f : Nat → Nat → Int32} {g : Nat → Nat → Int64} {h1 h2 : Nat} {y0 : Int32} {y1 : Int32}  {o : Nat} (hK : KK[o]? = some (.inl 1)) : Rn sc d 48 19 L [.int y0, .int y1, .ref o] (cS f g h1 h2) r ↔ ∃ (σ3 : aS) (v : Option Value), Cl sc d 22 [.ref o, .int y1, .int y0] (cS f g h1 h2) (σ3, v) ∧ Rn sc d 48 22 L (v.toList ++ []) σ3 r := r_callV (vs := [.int y0, .int y1]) d48_19 (j := 22) rfl ⟨rfl, by decide, rfl, rfl⟩ (Nat.le_of_ble_eq_true rfl) hK
theorem d48_22 : decode (mC 48) 22 = .ok (.istore_n 2, 1) := by decide +kernel
theorem x48_22 {sc : aSc} {d : Nat} {r : aRes} {a0 : Value} {x1 : Nat} {a2 : Value} {a3 : Value} {a4 : Value} {a5 : Value} {a6 : Value} {st : List Value} {σ : aS} {y : Int32} : Rn sc d 48 22 [a0, .ref x1, a2, a3, a4, a5, a6] (.int y :: st) σ r ↔ Rn sc d 48 23 [a0, .ref x1, .int y, a3, a4, a5, a6] st σ r := r_istore_n d48_22 (Nat.le_of_ble_eq_true rfl) rfl
theorem d48_23 : decode (mC 48) 23 = .ok (.sipush (-1001), 3) := by decide +kernel
theorem x48_23 {sc : aSc} {d : Nat} {r : aRes} {L : List Value} {st : List Value} {σ : aS} : Rn sc d 48 23 L st σ r ↔ Rn sc d 48 26 L (.int (-1001) :: st) σ r := r_sipush d48_23 (by decide)
theorem d48_26 : decode (mC 48) 26 = .ok (.istore_n 3, 1) := by decide +kernel
theorem x48_26 {sc : aSc} {d : Nat} {r : aRes} {a0 : Value} {a1 : Value} {x2 : Int32} {a3 : Value} {a4 : Value} {a5 : Value} {a6 : Value} {st : List Value} {σ : aS} {y : Int32} : Rn sc d 48 26 [a0, a1, .int x2, a3, a4, a5, a6] (.int y :: st) σ r ↔ Rn sc d 48 27 [a0, a1, .int x2, .int y, a4, a5, a6] st σ r := r_istore_n d48_26 (Nat.le_of_ble_eq_true rfl) rfl
theorem d48_27 : decode (mC 48) 27 = .ok (.iconst 0, 1) := by decide +kernel
theorem x48_27 {sc : aSc} {d : Nat} {r : aRes} {L : List Value} {st : List Value} {σ : aS} : Rn sc d 48 27 L st σ r ↔ Rn sc d 48 28 L (.int 0 :: st) σ r := r_iconst d48_27 (by decide)
theorem d48_28 : decode (mC 48) 28 = .ok (.istore 4, 2) := by decide +kernel
theorem x48_28 {sc : aSc} {d : Nat} {r : aRes} {a0 : Value} {a1 : Value} {a2 : Value} {x3 : Int32} {a4 : Value} {a5 : Value} {a6 : Value} {st : List Value} {σ : aS} {y : Int32} : Rn sc d 48 28 [a0, a1, a2, .int x3, a4, a5, a6] (.int y :: st) σ r ↔ Rn sc d 48 30 [a0, a1, a2, .int x3, .int y, a5, a6] st σ r := r_istore d48_28 (Nat.le_of_ble_eq_true rfl) rfl
theorem d48_30 : decode (mC 48) 30 = .ok (.iload 4, 2) := by decide +kernel
theorem x48_30 {sc : aSc} {d : Nat} {r : aRes} {a0 : Value} {a1 : Value} {a2 : Value} {a3 : Value} {x4 : Int32} {a5 : Value} {a6 : Value} {st : List Value} {σ : aS} : Rn sc d 48 30 [a0, a1, a2, a3, .int x4, a5, a6] st σ r ↔ Rn sc d 48 32 [a0, a1, a2, a3, .int x4, a5, a6] (.int x4 :: st) σ r := r_iload d48_30 rfl
theorem d48_32 : decode (mC 48) 32 = .ok (.bipush 21, 2) := by decide +kernel
theorem x48_32 {sc : aSc} {d : Nat} {r : aRes} {L : List Value} {st : List Value} {σ : aS} : Rn sc d 48 32 L st σ r ↔ Rn sc d 48 34 L (.int 21 :: st) σ r := r_bipush d48_32 (by decide)
theorem d48_34 : decode (mC 48) 34 = .ok (.if_icmp .ge 75, 3) := by decide +kernel
theorem x48_34 {sc : aSc} {d : Nat} {r : aRes} {L : List Value} {st : List Value} {σ : aS} {x y : Int32} : Rn sc d 48 34 L (.int y :: .int x :: st) σ r ↔ if x < y then Rn sc d 48 37 L st σ r else Rn sc d 48 109 L st σ r := r_icmp_ge d48_34 rfl
theorem d48_37 : decode (mC 48) 37 = .ok (.iload 4, 2) := by decide +kernel
theorem x48_37 {sc : aSc} {d : Nat} {r : aRes} {a0 : Value} {a1 : Value} {a2 : Value} {a3 : Value} {x4 : Int32} {a5 : Value} {a6 : Value} {st : List Value} {σ : aS} : Rn sc d 48 37 [a0, a1, a2, a3, .int x4, a5, a6] st σ r ↔ Rn sc d 48 39 [a0, a1, a2, a3, .int x4, a5, a6] (.int x4 :: st) σ r := r_iload d48_37 rfl
theorem d48_39 : decode (mC 48) 39 = .ok (.iconst 1, 1) := by decide +kernel
theorem x48_39 {sc : aSc} {d : Nat} {r : aRes} {L : List Value} {st : List Value} {σ : aS} : Rn sc d 48 39 L st σ r ↔ Rn sc d 48 40 L (.int 1 :: st) σ r := r_iconst d48_39 (by decide)
theorem d48_40 : decode (mC 48) 40 = .ok (.iadd, 1) := by decide +kernel
theorem x48_40 {sc : aSc} {d : Nat} {r : aRes} {L : List Value} {st : List Value} {σ : aS} {x y : Int32} : Rn sc d 48 40 L (.int y :: .int x :: st) σ r ↔ Rn sc d 48 41 L (.int (x + y) :: st) σ r := r_iadd d48_40
theorem d48_41 : decode (mC 48) 41 = .ok (.istore 5, 2) := by decide +kernel
theorem x48_41 {sc : aSc} {d : Nat} {r : aRes} {a0 : Value} {a1 : Value} {a2 : Value} {a3 : Value} {x4 : Int32} {a5 : Value} {a6 : Value} {st : List Value} {σ : aS} {y : Int32} : Rn sc d 48 41 [a0, a1, a2, a3, .int x4, a5, a6] (.int y :: st) σ r ↔ Rn sc d 48 43 [a0, a1, a2, a3, .int x4, .int y, a6] st σ r := r_istore d48_41 (Nat.le_of_ble_eq_true rfl) rfl
theorem d48_43 : decode (mC 48) 43 = .ok (.iload 5, 2) := by decide +kernel
theorem x48_43 {sc : aSc} {d : Nat} {r : aRes} {a0 : Value} {a1 : Value} {a2 : Value} {a3 : Value} {a4 : Value} {x5 : Int32} {a6 : Value} {st : List Value} {σ : aS} : Rn sc d 48 43 [a0, a1, a2, a3, a4, .int x5, a6] st σ r ↔ Rn sc d 48 45 [a0, a1, a2, a3, a4, .int x5, a6] (.int x5 :: st) σ r := r_iload d48_43 rfl
theorem d48_45 : decode (mC 48) 45 = .ok (.bipush 21, 2) := by decide +kernel
theorem x48_45 {sc : aSc} {d : Nat} {r : aRes} {L : List Value} {st : List Value} {σ : aS} : Rn sc d 48 45 L st σ r ↔ Rn sc d 48 47 L (.int 21 :: st) σ r := r_bipush d48_45 (by decide)
theorem d48_47 : decode (mC 48) 47 = .ok (.if_icmp .ge 56, 3) := by decide +kernel
theorem x48_47 {sc : aSc} {d : Nat} {r : aRes} {L : List Value} {st : List Value} {σ : aS} {x y : Int32} : Rn sc d 48 47 L (.int y :: .int x :: st) σ r ↔ if x < y then Rn sc d 48 50 L st σ r else Rn sc d 48 103 L st σ r := r_icmp_ge d48_47 rfl
theorem d48_50 : decode (mC 48) 50 = .ok (.aload_n 0, 1) := by decide +kernel
theorem x48_50 {sc : aSc} {d : Nat} {r : aRes} {x0 : Nat} {a1 : Value} {a2 : Value} {a3 : Value} {a4 : Value} {a5 : Value} {a6 : Value} {st : List Value} {σ : aS} : Rn sc d 48 50 [.ref x0, a1, a2, a3, a4, a5, a6] st σ r ↔ Rn sc d 48 51 [.ref x0, a1, a2, a3, a4, a5, a6] (.ref x0 :: st) σ r := r_aload_n d48_50 rfl
theorem d48_51 : decode (mC 48) 51 = .ok (.aload_n 1, 1) := by decide +kernel
theorem x48_51 {sc : aSc} {d : Nat} {r : aRes} {a0 : Value} {x1 : Nat} {a2 : Value} {a3 : Value} {a4 : Value} {a5 : Value} {a6 : Value} {st : List Value} {σ : aS} : Rn sc d 48 51 [a0, .ref x1, a2, a3, a4, a5, a6] st σ r ↔ Rn sc d 48 52 [a0, .ref x1, a2, a3, a4, a5, a6] (.ref x1 :: st) σ r := r_aload_n d48_51 rfl
theorem d48_52 : decode (mC 48) 52 = .ok (.iload 4, 2) := by decide +kernel
theorem x48_52 {sc : aSc} {d : Nat} {r : aRes} {a0 : Value} {a1 : Value} {a2 : Value} {a3 : Value} {x4 : Int32} {a5 : Value} {a6 : Value} {st : List Value} {σ : aS} : Rn sc d 48 52 [a0, a1, a2, a3, .int x4, a5, a6] st σ r ↔ Rn sc d 48 54 [a0, a1, a2, a3, .int x4, a5, a6] (.int x4 :: st) σ r := r_iload d48_52 rfl
theorem d48_54 : decode (mC 48) 54 = .ok (.iload 5, 2) := by decide +kernel
theorem x48_54 {sc : aSc} {d : Nat} {r : aRes} {a0 : Value} {a1 : Value} {a2 : Value} {a3 : Value} {a4 : Value} {x5 : Int32} {a6 : Value} {st : List Value} {σ : aS} : Rn sc d 48 54 [a0, a1, a2, a3, a4, .int x5, a6] st σ r ↔ Rn sc d 48 56 [a0, a1, a2, a3, a4, .int x5, a6] (.int x5 :: st) σ r := r_iload d48_54 rfl
theorem d48_56 : decode (mC 48) 56 = .ok (.invokevirtual 115, 3) := by decide +kernel
theorem x48_56 {sc : aSc} {d : Nat} {r : aRes} {L : List Value} {f : Nat → Nat → Int32} {g : Nat → Nat → Int64} {h1 h2 : Nat} {y0 : Int32} {y1 : Int32} {y2 : Nat}  {o : Nat} (hK : KK[o]? = some (.inl 3)) : Rn sc d 48 56 L [.int y0, .int y1, .ref y2, .ref o] (cS f g h1 h2) r ↔ ∃ (σ3 : aS) (v : Option Value), Cl sc d 49 [.ref o, .ref y2, .int y1, .int y0] (cS f g h1 h2) (σ3, v) ∧ Rn sc d 48 59 L (v.toList ++ []) σ3 r := r_callV (vs := [.int y0, .int y1, .ref y2]) d48_56 (j := 49) rfl ⟨rfl, by decide, rfl, rfl⟩ (Nat.le_of_ble_eq_true rfl) hK
theorem d48_59 : decode (mC 48) 59 = .ok (.ifCond .eq 38, 3) := by decide +kernel
theorem x48_59 {sc : aSc} {d : Nat} {r : aRes} {L : List Value} {st : List Value} {σ : aS} {x : Int32} : Rn sc d 48 59 L (.int x :: st) σ r ↔ if x = 0 then Rn sc d 48 97 L st σ r else Rn sc d 48 62 L st σ r := r_if_eq d48_59 rfl
theorem d48_62 : decode (mC 48) 62 = .ok (.aload_n 1, 1) := by decide +kernel
theorem x48_62 {sc : aSc} {d : Nat} {r : aRes} {a0 : Value} {x1 : Nat} {a2 : Value} {a3 : Value} {a4 : Value} {a5 : Value} {a6 : Value} {st : List Value} {σ : aS} : Rn sc d 48 62 [a0, .ref x1, a2, a3, a4, a5, a6] st σ r ↔ Rn sc d 48 63 [a0, .ref x1, a2, a3, a4, a5, a6] (.ref x1 :: st) σ r := r_aload_n d48_62 rfl
theorem d48_63 : decode (mC 48) 63 = .ok (.getfield 73, 3) := by decide +kernel
theorem x48_63 {sc : aSc} {d : Nat} {r : aRes} {L : List Value} {st : List Value} {f : Nat → Nat → Int32} {g : Nat → Nat → Int64} {h1 h2 : Nat} {o : Nat} (h17 : 17 ≤ o) (hK : KK[o]? = some (.inl 1)) : Rn sc d 48 63 L (.ref o :: st) (cS f g h1 h2) r ↔ Rn sc d 48 66 L (.int (f o 4) :: st) (cS f g h1 h2) r := r_getI d48_63 (ci := 1) (k := 4) rfl (by decide) (fun _ => rfl) h17 hK
theorem d48_66 : decode (mC 48) 66 = .ok (.iload 4, 2) := by decide +kernel
theorem x48_66 {sc : aSc} {d : Nat} {r : aRes} {a0 : Value} {a1 : Value} {a2 : Value} {a3 : Value} {x4 : Int32} {a5 : Value} {a6 : Value} {st : List Value} {σ : aS} : Rn sc d 48 66 [a0, a1, a2, a3, .int x4, a5, a6] st σ r ↔ Rn sc d 48 68 [a0, a1, a2, a3, .int x4, a5, a6] (.int x4 :: st) σ r := r_iload d48_66 rfl
theorem d48_68 : decode (mC 48) 68 = .ok (.invokestatic 54, 3) := by decide +kernel
theorem x48_68 {sc : aSc} {d : Nat} {r : aRes} {L : List Value} {σ : aS} {y0 : Int32} {z0 : Int32} : Rn sc d 48 68 L [.int y0, .int z0] σ r ↔ ∃ (σ3 : aS) (v : Option Value), Cl sc d 34 [.int y0] σ (σ3, v) ∧ Rn sc d 48 71 L (v.toList ++ [.int z0]) σ3 r := r_callS (vs := [.int y0]) d48_68 rfl (j := 34) rfl ⟨rfl, by decide, rfl, rfl⟩ (Nat.le_of_ble_eq_true rfl)
theorem d48_71 : decode (mC 48) 71 = .ok (.ixor, 1) := by decide +kernel
theorem x48_71 {sc : aSc} {d : Nat} {r : aRes} {L : List Value} {st : List Value} {σ : aS} {x y : Int32} : Rn sc d 48 71 L (.int y :: .int x :: st) σ r ↔ Rn sc d 48 72 L (.int (x ^^^ y) :: st) σ r := r_ixor d48_71
theorem d48_72 : decode (mC 48) 72 = .ok (.iload 5, 2) := by decide +kernel
theorem x48_72 {sc : aSc} {d : Nat} {r : aRes} {a0 : Value} {a1 : Value} {a2 : Value} {a3 : Value} {a4 : Value} {x5 : Int32} {a6 : Value} {st : List Value} {σ : aS} : Rn sc d 48 72 [a0, a1, a2, a3, a4, .int x5, a6] st σ r ↔ Rn sc d 48 74 [a0, a1, a2, a3, a4, .int x5, a6] (.int x5 :: st) σ r := r_iload d48_72 rfl
theorem d48_74 : decode (mC 48) 74 = .ok (.invokestatic 54, 3) := by decide +kernel
theorem x48_74 {sc : aSc} {d : Nat} {r : aRes} {L : List Value} {σ : aS} {y0 : Int32} {z0 : Int32} : Rn sc d 48 74 L [.int y0, .int z0] σ r ↔ ∃ (σ3 : aS) (v : Option Value), Cl sc d 34 [.int y0] σ (σ3, v) ∧ Rn sc d 48 77 L (v.toList ++ [.int z0]) σ3 r := r_callS (vs := [.int y0]) d48_74 rfl (j := 34) rfl ⟨rfl, by decide, rfl, rfl⟩ (Nat.le_of_ble_eq_true rfl)
theorem d48_77 : decode (mC 48) 77 = .ok (.ixor, 1) := by decide +kernel
theorem x48_77 {sc : aSc} {d : Nat} {r : aRes} {L : List Value} {st : List Value} {σ : aS} {x y : Int32} : Rn sc d 48 77 L (.int y :: .int x :: st) σ r ↔ Rn sc d 48 78 L (.int (x ^^^ y) :: st) σ r := r_ixor d48_77
theorem d48_78 : decode (mC 48) 78 = .ok (.istore 6, 2) := by decide +kernel
theorem x48_78 {sc : aSc} {d : Nat} {r : aRes} {a0 : Value} {a1 : Value} {a2 : Value} {a3 : Value} {a4 : Value} {x5 : Int32} {a6 : Value} {st : List Value} {σ : aS} {y : Int32} : Rn sc d 48 78 [a0, a1, a2, a3, a4, .int x5, a6] (.int y :: st) σ r ↔ Rn sc d 48 80 [a0, a1, a2, a3, a4, .int x5, .int y] st σ r := r_istore d48_78 (Nat.le_of_ble_eq_true rfl) rfl
theorem d48_80 : decode (mC 48) 80 = .ok (.iload_n 3, 1) := by decide +kernel
theorem x48_80 {sc : aSc} {d : Nat} {r : aRes} {a0 : Value} {a1 : Value} {a2 : Value} {x3 : Int32} {a4 : Value} {a5 : Value} {a6 : Value} {st : List Value} {σ : aS} : Rn sc d 48 80 [a0, a1, a2, .int x3, a4, a5, a6] st σ r ↔ Rn sc d 48 81 [a0, a1, a2, .int x3, a4, a5, a6] (.int x3 :: st) σ r := r_iload_n d48_80 rfl
theorem d48_81 : decode (mC 48) 81 = .ok (.aload_n 1, 1) := by decide +kernel
theorem x48_81 {sc : aSc} {d : Nat} {r : aRes} {a0 : Value} {x1 : Nat} {a2 : Value} {a3 : Value} {a4 : Value} {a5 : Value} {a6 : Value} {st : List Value} {σ : aS} : Rn sc d 48 81 [a0, .ref x1, a2, a3, a4, a5, a6] st σ r ↔ Rn sc d 48 82 [a0, .ref x1, a2, a3, a4, a5, a6] (.ref x1 :: st) σ r := r_aload_n d48_81 rfl
theorem d48_82 : decode (mC 48) 82 = .ok (.iload 6, 2) := by decide +kernel
theorem x48_82 {sc : aSc} {d : Nat} {r : aRes} {a0 : Value} {a1 : Value} {a2 : Value} {a3 : Value} {a4 : Value} {a5 : Value} {x6 : Int32} {st : List Value} {σ : aS} : Rn sc d 48 82 [a0, a1, a2, a3, a4, a5, .int x6] st σ r ↔ Rn sc d 48 84 [a0, a1, a2, a3, a4, a5, .int x6] (.int x6 :: st) σ r := r_iload d48_82 rfl
theorem d48_84 : decode (mC 48) 84 = .ok (.aload_n 0, 1) := by decide +kernel
theorem x48_84 {sc : aSc} {d : Nat} {r : aRes} {x0 : Nat} {a1 : Value} {a2 : Value} {a3 : Value} {a4 : Value} {a5 : Value} {a6 : Value} {st : List Value} {σ : aS} : Rn sc d 48 84 [.ref x0, a1, a2, a3, a4, a5, a6] st σ r ↔ Rn sc d 48 85 [.ref x0, a1, a2, a3, a4, a5, a6] (.ref x0 :: st) σ r := r_aload_n d48_84 rfl
theorem d48_85 : decode (mC 48) 85 = .ok (.getfield 28, 3) := by decide +kernel
theorem x48_85 {sc : aSc} {d : Nat} {r : aRes} {L : List Value} {st : List Value} {f : Nat → Nat → Int32} {g : Nat → Nat → Int64} {h1 h2 : Nat} {o : Nat} (h17 : 17 ≤ o) (hK : KK[o]? = some (.inl 3)) : Rn sc d 48 85 L (.ref o :: st) (cS f g h1 h2) r ↔ Rn sc d 48 88 L (.int (f o 5) :: st) (cS f g h1 h2) r := r_getI d48_85 (ci := 3) (k := 5) rfl (by decide) (fun _ => rfl) h17 hK
theorem d48_88 : decode (mC 48) 88 = .ok (.invokevirtual 88, 3) := by decide +kernel
theorem x48_88 {sc : aSc} {d : Nat} {r : aRes} {L : List Value} {f : Nat → Nat → Int32} {g : Nat → Nat → Int64} {h1 h2 : Nat} {y0 : Int32} {y1 : Int32} {z0 : Int32} {o : Nat} (hK : KK[o]? = some (.inl 1)) : Rn sc d 48 88 L [.int y0, .int y1, .ref o, .int z0] (cS f g h1 h2) r ↔ ∃ (σ3 : aS) (v : Option Value), Cl sc d 22 [.ref o, .int y1, .int y0] (cS f g h1 h2) (σ3, v) ∧ Rn sc d 48 91 L (v.toList ++ [.int z0]) σ3 r := r_callV (vs := [.int y0, .int y1]) d48_88 (j := 22) rfl ⟨rfl, by decide, rfl, rfl⟩ (Nat.le_of_ble_eq_true rfl) hK
theorem d48_91 : decode (mC 48) 91 = .ok (.iload_n 2, 1) := by decide +kernel
theorem x48_91 {sc : aSc} {d : Nat} {r : aRes} {a0 : Value} {a1 : Value} {x2 : Int32} {a3 : Value} {a4 : Value} {a5 : Value} {a6 : Value} {st : List Value} {σ : aS} : Rn sc d 48 91 [a0, a1, .int x2, a3, a4, a5, a6] st σ r ↔ Rn sc d 48 92 [a0, a1, .int x2, a3, a4, a5, a6] (.int x2 :: st) σ r := r_iload_n d48_91 rfl
theorem d48_92 : decode (mC 48) 92 = .ok (.isub, 1) := by decide +kernel
theorem x48_92 {sc : aSc} {d : Nat} {r : aRes} {L : List Value} {st : List Value} {σ : aS} {x y : Int32} : Rn sc d 48 92 L (.int y :: .int x :: st) σ r ↔ Rn sc d 48 93 L (.int (x - y) :: st) σ r := r_isub d48_92
theorem d48_93 : decode (mC 48) 93 = .ok (.invokestatic 119, 3) := by decide +kernel
theorem x48_93 {sc : aSc} {d : Nat} {r : aRes} {L : List Value} {σ : aS} {y0 : Int32} {y1 : Int32}  : Rn sc d 48 93 L [.int y0, .int y1] σ r ↔ ∃ (σ3 : aS) (v : Option Value), Cl sc d 207 [.int y1, .int y0] σ (σ3, v) ∧ Rn sc d 48 96 L (v.toList ++ []) σ3 r := r_callS (vs := [.int y0, .int y1]) d48_93 rfl (j := 207) rfl ⟨rfl, by decide, rfl, rfl⟩ (Nat.le_of_ble_eq_true rfl)
theorem d48_96 : decode (mC 48) 96 = .ok (.istore_n 3, 1) := by decide +kernel
theorem x48_96 {sc : aSc} {d : Nat} {r : aRes} {a0 : Value} {a1 : Value} {x2 : Int32} {a3 : Value} {a4 : Value} {a5 : Value} {a6 : Value} {st : List Value} {σ : aS} {y : Int32} : Rn sc d 48 96 [a0, a1, .int x2, a3, a4, a5, a6] (.int y :: st) σ r ↔ Rn sc d 48 97 [a0, a1, .int x2, .int y, a4, a5, a6] st σ r := r_istore_n d48_96 (Nat.le_of_ble_eq_true rfl) rfl
theorem d48_97 : decode (mC 48) 97 = .ok (.iinc 5 1, 3) := by decide +kernel
theorem x48_97 {sc : aSc} {d : Nat} {r : aRes} {a0 : Value} {a1 : Value} {a2 : Value} {a3 : Value} {x4 : Int32} {x5 : Int32} {a6 : Value} {st : List Value} {σ : aS} : Rn sc d 48 97 [a0, a1, a2, a3, .int x4, .int x5, a6] st σ r ↔ Rn sc d 48 100 [a0, a1, a2, a3, .int x4, .int (x5 + 1), a6] st σ r := r_iinc d48_97 (Nat.le_of_ble_eq_true rfl) rfl rfl (by decide)
theorem d48_100 : decode (mC 48) 100 = .ok (.goto (-57), 3) := by decide +kernel
theorem x48_100 {sc : aSc} {d : Nat} {r : aRes} {L : List Value} {st : List Value} {σ : aS} : Rn sc d 48 100 L st σ r ↔ Rn sc d 48 43 L st σ r := r_goto d48_100 rfl
theorem d48_103 : decode (mC 48) 103 = .ok (.iinc 4 1, 3) := by decide +kernel
theorem x48_103 {sc : aSc} {d : Nat} {r : aRes} {a0 : Value} {a1 : Value} {a2 : Value} {x3 : Int32} {x4 : Int32} {a5 : Value} {a6 : Value} {st : List Value} {σ : aS} : Rn sc d 48 103 [a0, a1, a2, .int x3, .int x4, a5, a6] st σ r ↔ Rn sc d 48 106 [a0, a1, a2, .int x3, .int (x4 + 1), a5, a6] st σ r := r_iinc d48_103 (Nat.le_of_ble_eq_true rfl) rfl rfl (by decide)
theorem d48_106 : decode (mC 48) 106 = .ok (.goto (-76), 3) := by decide +kernel
theorem x48_106 {sc : aSc} {d : Nat} {r : aRes} {L : List Value} {st : List Value} {σ : aS} : Rn sc d 48 106 L st σ r ↔ Rn sc d 48 30 L st σ r := r_goto d48_106 rfl
theorem d48_109 : decode (mC 48) 109 = .ok (.iload_n 3, 1) := by decide +kernel
theorem x48_109 {sc : aSc} {d : Nat} {r : aRes} {a0 : Value} {a1 : Value} {a2 : Value} {x3 : Int32} {a4 : Value} {a5 : Value} {a6 : Value} {st : List Value} {σ : aS} : Rn sc d 48 109 [a0, a1, a2, .int x3, a4, a5, a6] st σ r ↔ Rn sc d 48 110 [a0, a1, a2, .int x3, a4, a5, a6] (.int x3 :: st) σ r := r_iload_n d48_109 rfl
theorem d48_110 : decode (mC 48) 110 = .ok (.ireturn, 1) := by decide +kernel
theorem x48_110 {sc : aSc} {d : Nat} {r : aRes} {L : List Value} {σ : aS} {x : Int32} : Rn sc d 48 110 L [.int x] σ r ↔ r = (σ, some (.int x)) := r_iret d48_110 rfl rfl
theorem d49_0 : decode (mC 49) 0 = .ok (.iload_n 2, 1) := by decide +kernel
theorem x49_0 {sc : aSc} {d : Nat} {r : aRes} {a0 : Value} {a1 : Value} {x2 : Int32} {a3 : Value} {st : List Value} {σ : aS} : Rn sc d 49 0 [a0, a1, .int x2, a3] st σ r ↔ Rn sc d 49 1 [a0, a1, .int x2, a3] (.int x2 :: st) σ r := r_iload_n d49_0 rfl
theorem d49_1 : decode (mC 49) 1 = .ok (.invokestatic 54, 3) := by decide +kernel
theorem x49_1 {sc : aSc} {d : Nat} {r : aRes} {L : List Value} {σ : aS} {y0 : Int32}  : Rn sc d 49 1 L [.int y0] σ r ↔ ∃ (σ3 : aS) (v : Option Value), Cl sc d 34 [.int y0] σ (σ3, v) ∧ Rn sc d 49 4 L (v.toList ++ []) σ3 r := r_callS (vs := [.int y0]) d49_1 rfl (j := 34) rfl ⟨rfl, by decide, rfl, rfl⟩ (Nat.le_of_ble_eq_true rfl)
theorem d49_4 : decode (mC 49) 4 = .ok (.iload_n 3, 1) := by decide +kernel
theorem x49_4 {sc : aSc} {d : Nat} {r : aRes} {a0 : Value} {a1 : Value} {a2 : Value} {x3 : Int32} {st : List Value} {σ : aS} : Rn sc d 49 4 [a0, a1, a2, .int x3] st σ r ↔ Rn sc d 49 5 [a0, a1, a2, .int x3] (.int x3 :: st) σ r := r_iload_n d49_4 rfl
theorem d49_5 : decode (mC 49) 5 = .ok (.invokestatic 54, 3) := by decide +kernel
theorem x49_5 {sc : aSc} {d : Nat} {r : aRes} {L : List Value} {σ : aS} {y0 : Int32} {z0 : Int32} : Rn sc d 49 5 L [.int y0, .int z0] σ r ↔ ∃ (σ3 : aS) (v : Option Value), Cl sc d 34 [.int y0] σ (σ3, v) ∧ Rn sc d 49 8 L (v.toList ++ [.int z0]) σ3 r := r_callS (vs := [.int y0]) d49_5 rfl (j := 34) rfl ⟨rfl, by decide, rfl, rfl⟩ (Nat.le_of_ble_eq_true rfl)
theorem d49_8 : decode (mC 49) 8 = .ok (.iand, 1) := by decide +kernel
theorem x49_8 {sc : aSc} {d : Nat} {r : aRes} {L : List Value} {st : List Value} {σ : aS} {x y : Int32} : Rn sc d 49 8 L (.int y :: .int x :: st) σ r ↔ Rn sc d 49 9 L (.int (x &&& y) :: st) σ r := r_iand d49_8
theorem d49_9 : decode (mC 49) 9 = .ok (.ifCond .ne 35, 3) := by decide +kernel
theorem x49_9 {sc : aSc} {d : Nat} {r : aRes} {L : List Value} {st : List Value} {σ : aS} {x : Int32} : Rn sc d 49 9 L (.int x :: st) σ r ↔ if x = 0 then Rn sc d 49 12 L st σ r else Rn sc d 49 44 L st σ r := r_if_ne d49_9 rfl
theorem d49_12 : decode (mC 49) 12 = .ok (.aload_n 0, 1) := by decide +kernel
theorem x49_12 {sc : aSc} {d : Nat} {r : aRes} {x0 : Nat} {a1 : Value} {a2 : Value} {a3 : Value} {st : List Value} {σ : aS} : Rn sc d 49 12 [.ref x0, a1, a2, a3] st σ r ↔ Rn sc d 49 13 [.ref x0, a1, a2, a3] (.ref x0 :: st) σ r := r_aload_n d49_12 rfl
theorem d49_13 : decode (mC 49) 13 = .ok (.aload_n 1, 1) := by decide +kernel
theorem x49_13 {sc : aSc} {d : Nat} {r : aRes} {a0 : Value} {x1 : Nat} {a2 : Value} {a3 : Value} {st : List Value} {σ : aS} : Rn sc d 49 13 [a0, .ref x1, a2, a3] st σ r ↔ Rn sc d 49 14 [a0, .ref x1, a2, a3] (.ref x1 :: st) σ r := r_aload_n d49_13 rfl
theorem d49_14 : decode (mC 49) 14 = .ok (.iconst 0, 1) := by decide +kernel
theorem x49_14 {sc : aSc} {d : Nat} {r : aRes} {L : List Value} {st : List Value} {σ : aS} : Rn sc d 49 14 L st σ r ↔ Rn sc d 49 15 L (.int 0 :: st) σ r := r_iconst d49_14 (by decide)
theorem d49_15 : decode (mC 49) 15 = .ok (.aload_n 1, 1) := by decide +kernel
theorem x49_15 {sc : aSc} {d : Nat} {r : aRes} {a0 : Value} {x1 : Nat} {a2 : Value} {a3 : Value} {st : List Value} {σ : aS} : Rn sc d 49 15 [a0, .ref x1, a2, a3] st σ r ↔ Rn sc d 49 16 [a0, .ref x1, a2, a3] (.ref x1 :: st) σ r := r_aload_n d49_15 rfl
theorem d49_16 : decode (mC 49) 16 = .ok (.getfield 73, 3) := by decide +kernel
theorem x49_16 {sc : aSc} {d : Nat} {r : aRes} {L : List Value} {st : List Value} {f : Nat → Nat → Int32} {g : Nat → Nat → Int64} {h1 h2 : Nat} {o : Nat} (h17 : 17 ≤ o) (hK : KK[o]? = some (.inl 1)) : Rn sc d 49 16 L (.ref o :: st) (cS f g h1 h2) r ↔ Rn sc d 49 19 L (.int (f o 4) :: st) (cS f g h1 h2) r := r_getI d49_16 (ci := 1) (k := 4) rfl (by decide) (fun _ => rfl) h17 hK
theorem d49_19 : decode (mC 49) 19 = .ok (.iload_n 2, 1) := by decide +kernel
theorem x49_19 {sc : aSc} {d : Nat} {r : aRes} {a0 : Value} {a1 : Value} {x2 : Int32} {a3 : Value} {st : List Value} {σ : aS} : Rn sc d 49 19 [a0, a1, .int x2, a3] st σ r ↔ Rn sc d 49 20 [a0, a1, .int x2, a3] (.int x2 :: st) σ r := r_iload_n d49_19 rfl
theorem d49_20 : decode (mC 49) 20 = .ok (.invokevirtual 95, 3) := by decide +kernel
theorem x49_20 {sc : aSc} {d : Nat} {r : aRes} {L : List Value} {f : Nat → Nat → Int32} {g : Nat → Nat → Int64} {h1 h2 : Nat} {y0 : Int32} {y1 : Int32} {y2 : Int32} {y3 : Nat}  {o : Nat} (hK : KK[o]? = some (.inl 3)) : Rn sc d 49 20 L [.int y0, .int y1, .int y2, .ref y3, .ref o] (cS f g h1 h2) r ↔ ∃ (σ3 : aS) (v : Option Value), Cl sc d 38 [.ref o, .ref y3, .int y2, .int y1, .int y0] (cS f g h1 h2) (σ3, v) ∧ Rn sc d 49 23 L (v.toList ++ []) σ3 r := r_callV (vs := [.int y0, .int y1, .int y2, .ref y3]) d49_20 (j := 38) rfl ⟨rfl, by decide, rfl, rfl⟩ (Nat.le_of_ble_eq_true rfl) hK
theorem d49_23 : decode (mC 49) 23 = .ok (.ifCond .eq 21, 3) := by decide +kernel
theorem x49_23 {sc : aSc} {d : Nat} {r : aRes} {L : List Value} {st : List Value} {σ : aS} {x : Int32} : Rn sc d 49 23 L (.int x :: st) σ r ↔ if x = 0 then Rn sc d 49 44 L st σ r else Rn sc d 49 26 L st σ r := r_if_eq d49_23 rfl
theorem d49_26 : decode (mC 49) 26 = .ok (.aload_n 0, 1) := by decide +kernel
theorem x49_26 {sc : aSc} {d : Nat} {r : aRes} {x0 : Nat} {a1 : Value} {a2 : Value} {a3 : Value} {st : List Value} {σ : aS} : Rn sc d 49 26 [.ref x0, a1, a2, a3] st σ r ↔ Rn sc d 49 27 [.ref x0, a1, a2, a3] (.ref x0 :: st) σ r := r_aload_n d49_26 rfl
theorem d49_27 : decode (mC 49) 27 = .ok (.aload_n 1, 1) := by decide +kernel
theorem x49_27 {sc : aSc} {d : Nat} {r : aRes} {a0 : Value} {x1 : Nat} {a2 : Value} {a3 : Value} {st : List Value} {σ : aS} : Rn sc d 49 27 [a0, .ref x1, a2, a3] st σ r ↔ Rn sc d 49 28 [a0, .ref x1, a2, a3] (.ref x1 :: st) σ r := r_aload_n d49_27 rfl
theorem d49_28 : decode (mC 49) 28 = .ok (.iconst 0, 1) := by decide +kernel
theorem x49_28 {sc : aSc} {d : Nat} {r : aRes} {L : List Value} {st : List Value} {σ : aS} : Rn sc d 49 28 L st σ r ↔ Rn sc d 49 29 L (.int 0 :: st) σ r := r_iconst d49_28 (by decide)
theorem d49_29 : decode (mC 49) 29 = .ok (.aload_n 1, 1) := by decide +kernel
theorem x49_29 {sc : aSc} {d : Nat} {r : aRes} {a0 : Value} {x1 : Nat} {a2 : Value} {a3 : Value} {st : List Value} {σ : aS} : Rn sc d 49 29 [a0, .ref x1, a2, a3] st σ r ↔ Rn sc d 49 30 [a0, .ref x1, a2, a3] (.ref x1 :: st) σ r := r_aload_n d49_29 rfl
theorem d49_30 : decode (mC 49) 30 = .ok (.getfield 73, 3) := by decide +kernel
theorem x49_30 {sc : aSc} {d : Nat} {r : aRes} {L : List Value} {st : List Value} {f : Nat → Nat → Int32} {g : Nat → Nat → Int64} {h1 h2 : Nat} {o : Nat} (h17 : 17 ≤ o) (hK : KK[o]? = some (.inl 1)) : Rn sc d 49 30 L (.ref o :: st) (cS f g h1 h2) r ↔ Rn sc d 49 33 L (.int (f o 4) :: st) (cS f g h1 h2) r := r_getI d49_30 (ci := 1) (k := 4) rfl (by decide) (fun _ => rfl) h17 hK
theorem d49_33 : decode (mC 49) 33 = .ok (.iload_n 3, 1) := by decide +kernel
theorem x49_33 {sc : aSc} {d : Nat} {r : aRes} {a0 : Value} {a1 : Value} {a2 : Value} {x3 : Int32} {st : List Value} {σ : aS} : Rn sc d 49 33 [a0, a1, a2, .int x3] st σ r ↔ Rn sc d 49 34 [a0, a1, a2, .int x3] (.int x3 :: st) σ r := r_iload_n d49_33 rfl
theorem d49_34 : decode (mC 49) 34 = .ok (.invokevirtual 95, 3) := by decide +kernel
theorem x49_34 {sc : aSc} {d : Nat} {r : aRes} {L : List Value} {f : Nat → Nat → Int32} {g : Nat → Nat → Int64} {h1 h2 : Nat} {y0 : Int32} {y1 : Int32} {y2 : Int32} {y3 : Nat}  {o : Nat} (hK : KK[o]? = some (.inl 3)) : Rn sc d 49 34 L [.int y0, .int y1, .int y2, .ref y3, .ref o] (cS f g h1 h2) r ↔ ∃ (σ3 : aS) (v : Option Value), Cl sc d 38 [.ref o, .ref y3, .int y2, .int y1, .int y0] (cS f g h1 h2) (σ3, v) ∧ Rn sc d 49 37 L (v.toList ++ []) σ3 r := r_callV (vs := [.int y0, .int y1, .int y2, .ref y3]) d49_34 (j := 38) rfl ⟨rfl, by decide, rfl, rfl⟩ (Nat.le_of_ble_eq_true rfl) hK
theorem d49_37 : decode (mC 49) 37 = .ok (.ifCond .eq 7, 3) := by decide +kernel
theorem x49_37 {sc : aSc} {d : Nat} {r : aRes} {L : List Value} {st : List Value} {σ : aS} {x : Int32} : Rn sc d 49 37 L (.int x :: st) σ r ↔ if x = 0 then Rn sc d 49 44 L st σ r else Rn sc d 49 40 L st σ r := r_if_eq d49_37 rfl
theorem d49_40 : decode (mC 49) 40 = .ok (.iconst 1, 1) := by decide +kernel
theorem x49_40 {sc : aSc} {d : Nat} {r : aRes} {L : List Value} {st : List Value} {σ : aS} : Rn sc d 49 40 L st σ r ↔ Rn sc d 49 41 L (.int 1 :: st) σ r := r_iconst d49_40 (by decide)
theorem d49_41 : decode (mC 49) 41 = .ok (.goto 4, 3) := by decide +kernel
theorem x49_41 {sc : aSc} {d : Nat} {r : aRes} {L : List Value} {st : List Value} {σ : aS} : Rn sc d 49 41 L st σ r ↔ Rn sc d 49 45 L st σ r := r_goto d49_41 rfl
theorem d49_44 : decode (mC 49) 44 = .ok (.iconst 0, 1) := by decide +kernel
theorem x49_44 {sc : aSc} {d : Nat} {r : aRes} {L : List Value} {st : List Value} {σ : aS} : Rn sc d 49 44 L st σ r ↔ Rn sc d 49 45 L (.int 0 :: st) σ r := r_iconst d49_44 (by decide)
theorem d49_45 : decode (mC 49) 45 = .ok (.ireturn, 1) := by decide +kernel
theorem x49_45 {sc : aSc} {d : Nat} {r : aRes} {L : List Value} {σ : aS} {x : Int32} (hn : x &&& 1 = x) : Rn sc d 49 45 L [.int x] σ r ↔ r = (σ, some (.int x)) := r_iret d49_45 rfl (congrArg Value.int hn)
theorem d51_0 : decode (mC 51) 0 = .ok (.aload_n 0, 1) := by decide +kernel
theorem x51_0 {sc : aSc} {d : Nat} {r : aRes} {x0 : Nat} {st : List Value} {σ : aS} : Rn sc d 51 0 [.ref x0] st σ r ↔ Rn sc d 51 1 [.ref x0] (.ref x0 :: st) σ r := r_aload_n d51_0 rfl
theorem d51_1 : decode (mC 51) 1 = .ok (.getfield 9, 3) := by decide +kernel
theorem x51_1 {sc : aSc} {d : Nat} {r : aRes} {L : List Value} {st : List Value} {f : Nat → Nat → Int32} {g : Nat → Nat → Int64} {h1 h2 : Nat} {o : Nat} (h17 : 17 ≤ o) (hK : KK[o]? = some (.inl 4)) : Rn sc d 51 1 L (.ref o :: st) (cS f g h1 h2) r ↔ Rn sc d 51 4 L (.int (f o 0) :: st) (cS f g h1 h2) r := r_getI d51_1 (ci := 4) (k := 0) rfl (by decide) (fun _ => rfl) h17 hK
theorem d51_4 : decode (mC 51) 4 = .ok (.iconst (-1), 1) := by decide +kernel
theorem x51_4 {sc : aSc} {d : Nat} {r : aRes} {L : List Value} {st : List Value} {σ : aS} : Rn sc d 51 4 L st σ r ↔ Rn sc d 51 5 L (.int (-1) :: st) σ r := r_iconst d51_4 (by decide)
theorem d51_5 : decode (mC 51) 5 = .ok (.if_icmp .ne 7, 3) := by decide +kernel
theorem x51_5 {sc : aSc} {d : Nat} {r : aRes} {L : List Value} {st : List Value} {σ : aS} {x y : Int32} : Rn sc d 51 5 L (.int y :: .int x :: st) σ r ↔ if x = y then Rn sc d 51 8 L st σ r else Rn sc d 51 12 L st σ r := r_icmp_ne d51_5 rfl
theorem d51_8 : decode (mC 51) 8 = .ok (.iconst 1, 1) := by decide +kernel
theorem x51_8 {sc : aSc} {d : Nat} {r : aRes} {L : List Value} {st : List Value} {σ : aS} : Rn sc d 51 8 L st σ r ↔ Rn sc d 51 9 L (.int 1 :: st) σ r := r_iconst d51_8 (by decide)
theorem d51_9 : decode (mC 51) 9 = .ok (.goto 4, 3) := by decide +kernel
theorem x51_9 {sc : aSc} {d : Nat} {r : aRes} {L : List Value} {st : List Value} {σ : aS} : Rn sc d 51 9 L st σ r ↔ Rn sc d 51 13 L st σ r := r_goto d51_9 rfl
theorem d51_12 : decode (mC 51) 12 = .ok (.iconst 0, 1) := by decide +kernel
theorem x51_12 {sc : aSc} {d : Nat} {r : aRes} {L : List Value} {st : List Value} {σ : aS} : Rn sc d 51 12 L st σ r ↔ Rn sc d 51 13 L (.int 0 :: st) σ r := r_iconst d51_12 (by decide)
theorem d51_13 : decode (mC 51) 13 = .ok (.ireturn, 1) := by decide +kernel
theorem x51_13 {sc : aSc} {d : Nat} {r : aRes} {L : List Value} {σ : aS} {x : Int32} (hn : x &&& 1 = x) : Rn sc d 51 13 L [.int x] σ r ↔ r = (σ, some (.int x)) := r_iret d51_13 rfl (congrArg Value.int hn)
theorem d52_0 : decode (mC 52) 0 = .ok (.aload_n 0, 1) := by decide +kernel
theorem x52_0 {sc : aSc} {d : Nat} {r : aRes} {x0 : Nat} {a1 : Value} {a2 : Value} {a3 : Value} {st : List Value} {σ : aS} : Rn sc d 52 0 [.ref x0, a1, a2, a3] st σ r ↔ Rn sc d 52 1 [.ref x0, a1, a2, a3] (.ref x0 :: st) σ r := r_aload_n d52_0 rfl
theorem d52_1 : decode (mC 52) 1 = .ok (.iload_n 1, 1) := by decide +kernel
theorem x52_1 {sc : aSc} {d : Nat} {r : aRes} {a0 : Value} {x1 : Int32} {a2 : Value} {a3 : Value} {st : List Value} {σ : aS} : Rn sc d 52 1 [a0, .int x1, a2, a3] st σ r ↔ Rn sc d 52 2 [a0, .int x1, a2, a3] (.int x1 :: st) σ r := r_iload_n d52_1 rfl
theorem d52_2 : decode (mC 52) 2 = .ok (.putfield 9, 3) := by decide +kernel
theorem x52_2 {sc : aSc} {d : Nat} {r : aRes} {L : List Value} {st : List Value} {f : Nat → Nat → Int32} {g : Nat → Nat → Int64} {h1 h2 : Nat} {o : Nat} {v : Int32} (h17 : 17 ≤ o) (hK : KK[o]? = some (.inl 4)) : Rn sc d 52 2 L (.int v :: .ref o :: st) (cS f g h1 h2) r ↔ Rn sc d 52 5 L st (cS (u2 f o 0 v) g h1 h2) r := r_putI d52_2 (ci := 4) (k := 0) rfl (by decide) h17 hK
theorem d52_5 : decode (mC 52) 5 = .ok (.aload_n 0, 1) := by decide +kernel
theorem x52_5 {sc : aSc} {d : Nat} {r : aRes} {x0 : Nat} {a1 : Value} {a2 : Value} {a3 : Value} {st : List Value} {σ : aS} : Rn sc d 52 5 [.ref x0, a1, a2, a3] st σ r ↔ Rn sc d 52 6 [.ref x0, a1, a2, a3] (.ref x0 :: st) σ r := r_aload_n d52_5 rfl
theorem d52_6 : decode (mC 52) 6 = .ok (.iload_n 2, 1) := by decide +kernel
theorem x52_6 {sc : aSc} {d : Nat} {r : aRes} {a0 : Value} {a1 : Value} {x2 : Int32} {a3 : Value} {st : List Value} {σ : aS} : Rn sc d 52 6 [a0, a1, .int x2, a3] st σ r ↔ Rn sc d 52 7 [a0, a1, .int x2, a3] (.int x2 :: st) σ r := r_iload_n d52_6 rfl
theorem d52_7 : decode (mC 52) 7 = .ok (.putfield 17, 3) := by decide +kernel
theorem x52_7 {sc : aSc} {d : Nat} {r : aRes} {L : List Value} {st : List Value} {f : Nat → Nat → Int32} {g : Nat → Nat → Int64} {h1 h2 : Nat} {o : Nat} {v : Int32} (h17 : 17 ≤ o) (hK : KK[o]? = some (.inl 4)) : Rn sc d 52 7 L (.int v :: .ref o :: st) (cS f g h1 h2) r ↔ Rn sc d 52 10 L st (cS (u2 f o 1 v) g h1 h2) r := r_putI d52_7 (ci := 4) (k := 1) rfl (by decide) h17 hK
theorem d52_10 : decode (mC 52) 10 = .ok (.iconst 0, 1) := by decide +kernel
theorem x52_10 {sc : aSc} {d : Nat} {r : aRes} {L : List Value} {st : List Value} {σ : aS} : Rn sc d 52 10 L st σ r ↔ Rn sc d 52 11 L (.int 0 :: st) σ r := r_iconst d52_10 (by decide)
theorem d52_11 : decode (mC 52) 11 = .ok (.istore_n 3, 1) := by decide +kernel
theorem x52_11 {sc : aSc} {d : Nat} {r : aRes} {a0 : Value} {a1 : Value} {x2 : Int32} {a3 : Value} {st : List Value} {σ : aS} {y : Int32} : Rn sc d 52 11 [a0, a1, .int x2, a3] (.int y :: st) σ r ↔ Rn sc d 52 12 [a0, a1, .int x2, .int y] st σ r := r_istore_n d52_11 (Nat.le_of_ble_eq_true rfl) rfl
theorem d52_12 : decode (mC 52) 12 = .ok (.iload_n 3, 1) := by decide +kernel
theorem x52_12 {sc : aSc} {d : Nat} {r : aRes} {a0 : Value} {a1 : Value} {a2 : Value} {x3 : Int32} {st : List Value} {σ : aS} : Rn sc d 52 12 [a0, a1, a2, .int x3] st σ r ↔ Rn sc d 52 13 [a0, a1, a2, .int x3] (.int x3 :: st) σ r := r_iload_n d52_12 rfl
theorem d52_13 : decode (mC 52) 13 = .ok (.bipush 60, 2) := by decide +kernel
theorem x52_13 {sc : aSc} {d : Nat} {r : aRes} {L : List Value} {st : List Value} {σ : aS} : Rn sc d 52 13 L st σ r ↔ Rn sc d 52 15 L (.int 60 :: st) σ r := r_bipush d52_13 (by decide)
theorem d52_15 : decode (mC 52) 15 = .ok (.if_icmp .ge 16, 3) := by decide +kernel
theorem x52_15 {sc : aSc} {d : Nat} {r : aRes} {L : List Value} {st : List Value} {σ : aS} {x y : Int32} : Rn sc d 52 15 L (.int y :: .int x :: st) σ r ↔ if x < y then Rn sc d 52 18 L st σ r else Rn sc d 52 31 L st σ r := r_icmp_ge d52_15 rfl
theorem d52_18 : decode (mC 52) 18 = .ok (.aload_n 0, 1) := by decide +kernel
theorem x52_18 {sc : aSc} {d : Nat} {r : aRes} {x0 : Nat} {a1 : Value} {a2 : Value} {a3 : Value} {st : List Value} {σ : aS} : Rn sc d 52 18 [.ref x0, a1, a2, a3] st σ r ↔ Rn sc d 52 19 [.ref x0, a1, a2, a3] (.ref x0 :: st) σ r := r_aload_n d52_18 rfl
theorem d52_19 : decode (mC 52) 19 = .ok (.getfield 13, 3) := by decide +kernel
theorem x52_19 {sc : aSc} {d : Nat} {r : aRes} {L : List Value} {st : List Value} {f : Nat → Nat → Int32} {g : Nat → Nat → Int64} {h1 h2 : Nat} {o : Nat} (hK : KK[o]? = some (.inl 4)) (hR : (RR h1 h2 o 2).isSome = true) : Rn sc d 52 19 L (.ref o :: st) (cS f g h1 h2) r ↔ Rn sc d 52 22 L (.ref (rf h1 h2 o 2) :: st) (cS f g h1 h2) r := r_getR2 d52_19 (ci := 4) (k := 2) rfl (by decide) (fun _ => rfl) hK hR
theorem d52_22 : decode (mC 52) 22 = .ok (.iload_n 3, 1) := by decide +kernel
theorem x52_22 {sc : aSc} {d : Nat} {r : aRes} {a0 : Value} {a1 : Value} {a2 : Value} {x3 : Int32} {st : List Value} {σ : aS} : Rn sc d 52 22 [a0, a1, a2, .int x3] st σ r ↔ Rn sc d 52 23 [a0, a1, a2, .int x3] (.int x3 :: st) σ r := r_iload_n d52_22 rfl
theorem d52_23 : decode (mC 52) 23 = .ok (.lconst 0, 1) := by decide +kernel
theorem x52_23 {sc : aSc} {d : Nat} {r : aRes} {L : List Value} {st : List Value} {σ : aS} : Rn sc d 52 23 L st σ r ↔ Rn sc d 52 24 L (.long 0 :: st) σ r := r_lconst d52_23 (by decide)
theorem d52_24 : decode (mC 52) 24 = .ok (.lastore, 1) := by decide +kernel
theorem x52_24 {sc : aSc} {d : Nat} {r : aRes} {L : List Value} {st : List Value} {f : Nat → Nat → Int32} {g : Nat → Nat → Int64} {h1 h2 : Nat} {a : Nat} {i : Int32} {x : Int64} (h17 : 17 ≤ a) (hA : isT9 .long a) (hi : inb i (aln a) = true) : Rn sc d 52 24 L (.long x :: .int i :: .ref a :: st) (cS f g h1 h2) r ↔ Rn sc d 52 25 L st (cS f (u2 g a i.toNatClampNeg x) h1 h2) r := r_last d52_24 h17 hA hi
theorem d52_25 : decode (mC 52) 25 = .ok (.iinc 3 1, 3) := by decide +kernel
theorem x52_25 {sc : aSc} {d : Nat} {r : aRes} {a0 : Value} {a1 : Value} {x2 : Int32} {x3 : Int32} {st : List Value} {σ : aS} : Rn sc d 52 25 [a0, a1, .int x2, .int x3] st σ r ↔ Rn sc d 52 28 [a0, a1, .int x2, .int (x3 + 1)] st σ r := r_iinc d52_25 (Nat.le_of_ble_eq_true rfl) rfl rfl (by decide)
theorem d52_28 : decode (mC 52) 28 = .ok (.goto (-16), 3) := by decide +kernel
theorem x52_28 {sc : aSc} {d : Nat} {r : aRes} {L : List Value} {st : List Value} {σ : aS} : Rn sc d 52 28 L st σ r ↔ Rn sc d 52 12 L st σ r := r_goto d52_28 rfl
theorem d52_31 : decode (mC 52) 31 = .ok (.return_, 1) := by decide +kernel
theorem x52_31 {sc : aSc} {d : Nat} {r : aRes} {L : List Value} {σ : aS} : Rn sc d 52 31 L [] σ r ↔ r = (σ, none) := r_vret d52_31 rfl
theorem d53_0 : decode (mC 53) 0 = .ok (.aload_n 0, 1) := by decide +kernel
theorem x53_0 {sc : aSc} {d : Nat} {r : aRes} {x0 : Nat} {a1 : Value} {a2 : Value} {st : List Value} {σ : aS} : Rn sc d 53 0 [.ref x0, a1, a2] st σ r ↔ Rn sc d 53 1 [.ref x0, a1, a2] (.ref x0 :: st) σ r := r_aload_n d53_0 rfl
theorem d53_1 : decode (mC 53) 1 = .ok (.getfield 9, 3) := by decide +kernel
theorem x53_1 {sc : aSc} {d : Nat} {r : aRes} {L : List Value} {st : List Value} {f : Nat → Nat → Int32} {g : Nat → Nat → Int64} {h1 h2 : Nat} {o : Nat} (h17 : 17 ≤ o) (hK : KK[o]? = some (.inl 4)) : Rn sc d 53 1 L (.ref o :: st) (cS f g h1 h2) r ↔ Rn sc d 53 4 L (.int (f o 0) :: st) (cS f g h1 h2) r := r_getI d53_1 (ci := 4) (k := 0) rfl (by decide) (fun _ => rfl) h17 hK
theorem d53_4 : decode (mC 53) 4 = .ok (.tableswitch 62 0 4 #[36, 41, 46, 62, 50], 36) := by decide +kernel
theorem x53_4 {sc : aSc} {d : Nat} {r : aRes} {L : List Value} {st : List Value} {σ : aS} {x : Int32} : Rn sc d 53 4 L (.int x :: st) σ r ↔ (if x = 0 then Rn sc d 53 40 L st σ r else (if x = 1 then Rn sc d 53 45 L st σ r else (if x = 2 then Rn sc d 53 50 L st σ r else (if x = 3 then Rn sc d 53 66 L st σ r else (if x = 4 then Rn sc d 53 54 L st σ r else Rn sc d 53 66 L st σ r))))) := by
  by_cases c0 : x = 0
  · subst c0; simp only [if_pos]; exact r_tsw d53_4 (t := 40) rfl
  rw [if_neg c0]
  by_cases c1 : x = 1
  · subst c1; simp only [if_pos]; exact r_tsw d53_4 (t := 45) rfl
  rw [if_neg c1]
  by_cases c2 : x = 2
  · subst c2; simp only [if_pos]; exact r_tsw d53_4 (t := 50) rfl
  rw [if_neg c2]
  by_cases c3 : x = 3
  · subst c3; simp only [if_pos]; exact r_tsw d53_4 (t := 66) rfl
  rw [if_neg c3]
  by_cases c4 : x = 4
  · subst c4; simp only [if_pos]; exact r_tsw d53_4 (t := 54) rfl
  rw [if_neg c4]
  refine r_tswd d53_4 ?_ rfl
  have e0 : x.toInt ≠ 0 := fun z => c0 (Int32.toInt_inj.mp z)
  have e1 : x.toInt ≠ 1 := fun z => c1 (Int32.toInt_inj.mp z)
  have e2 : x.toInt ≠ 2 := fun z => c2 (Int32.toInt_inj.mp z)
  have e3 : x.toInt ≠ 3 := fun z => c3 (Int32.toInt_inj.mp z)
  have e4 : x.toInt ≠ 4 := fun z => c4 (Int32.toInt_inj.mp z)
  omega
theorem d53_40 : decode (mC 53) 40 = .ok (.lload_n 1, 1) := by decide +kernel
theorem x53_40 {sc : aSc} {d : Nat} {r : aRes} {a0 : Value} {x1 : Int64} {a2 : Value} {st : List Value} {σ : aS} : Rn sc d 53 40 [a0, .long x1, a2] st σ r ↔ Rn sc d 53 41 [a0, .long x1, a2] (.long x1 :: st) σ r := r_lload_n d53_40 rfl
theorem d53_41 : decode (mC 53) 41 = .ok (.l2i, 1) := by decide +kernel
theorem x53_41 {sc : aSc} {d : Nat} {r : aRes} {L : List Value} {st : List Value} {σ : aS} {x : Int64} : Rn sc d 53 41 L (.long x :: st) σ r ↔ Rn sc d 53 42 L (.int x.toInt32 :: st) σ r := r_l2i d53_41
theorem d53_42 : decode (mC 53) 42 = .ok (.i2b, 1) := by decide +kernel
theorem x53_42 {sc : aSc} {d : Nat} {r : aRes} {L : List Value} {st : List Value} {σ : aS} {x : Int32} : Rn sc d 53 42 L (.int x :: st) σ r ↔ Rn sc d 53 43 L (.int x.toInt8.toInt32 :: st) σ r := r_i2b d53_42
theorem d53_43 : decode (mC 53) 43 = .ok (.i2l, 1) := by decide +kernel
theorem x53_43 {sc : aSc} {d : Nat} {r : aRes} {L : List Value} {st : List Value} {σ : aS} {x : Int32} : Rn sc d 53 43 L (.int x :: st) σ r ↔ Rn sc d 53 44 L (.long x.toInt64 :: st) σ r := r_i2l d53_43
theorem d53_44 : decode (mC 53) 44 = .ok (.lreturn, 1) := by decide +kernel
theorem x53_44 {sc : aSc} {d : Nat} {r : aRes} {L : List Value} {σ : aS} {x : Int64} : Rn sc d 53 44 L [.long x] σ r ↔ r = (σ, some (.long x)) := r_lret d53_44 rfl
theorem d53_45 : decode (mC 53) 45 = .ok (.lload_n 1, 1) := by decide +kernel
theorem x53_45 {sc : aSc} {d : Nat} {r : aRes} {a0 : Value} {x1 : Int64} {a2 : Value} {st : List Value} {σ : aS} : Rn sc d 53 45 [a0, .long x1, a2] st σ r ↔ Rn sc d 53 46 [a0, .long x1, a2] (.long x1 :: st) σ r := r_lload_n d53_45 rfl
theorem d53_46 : decode (mC 53) 46 = .ok (.l2i, 1) := by decide +kernel
theorem x53_46 {sc : aSc} {d : Nat} {r : aRes} {L : List Value} {st : List Value} {σ : aS} {x : Int64} : Rn sc d 53 46 L (.long x :: st) σ r ↔ Rn sc d 53 47 L (.int x.toInt32 :: st) σ r := r_l2i d53_46
theorem d53_47 : decode (mC 53) 47 = .ok (.i2s, 1) := by decide +kernel
theorem x53_47 {sc : aSc} {d : Nat} {r : aRes} {L : List Value} {st : List Value} {σ : aS} {x : Int32} : Rn sc d 53 47 L (.int x :: st) σ r ↔ Rn sc d 53 48 L (.int x.toInt16.toInt32 :: st) σ r := r_i2s d53_47
theorem d53_48 : decode (mC 53) 48 = .ok (.i2l, 1) := by decide +kernel
theorem x53_48 {sc : aSc} {d : Nat} {r : aRes} {L : List Value} {st : List Value} {σ : aS} {x : Int32} : Rn sc d 53 48 L (.int x :: st) σ r ↔ Rn sc d 53 49 L (.long x.toInt64 :: st) σ r := r_i2l d53_48
theorem d53_49 : decode (mC 53) 49 = .ok (.lreturn, 1) := by decide +kernel
theorem x53_49 {sc : aSc} {d : Nat} {r : aRes} {L : List Value} {σ : aS} {x : Int64} : Rn sc d 53 49 L [.long x] σ r ↔ r = (σ, some (.long x)) := r_lret d53_49 rfl
theorem d53_50 : decode (mC 53) 50 = .ok (.lload_n 1, 1) := by decide +kernel
theorem x53_50 {sc : aSc} {d : Nat} {r : aRes} {a0 : Value} {x1 : Int64} {a2 : Value} {st : List Value} {σ : aS} : Rn sc d 53 50 [a0, .long x1, a2] st σ r ↔ Rn sc d 53 51 [a0, .long x1, a2] (.long x1 :: st) σ r := r_lload_n d53_50 rfl
theorem d53_51 : decode (mC 53) 51 = .ok (.l2i, 1) := by decide +kernel
theorem x53_51 {sc : aSc} {d : Nat} {r : aRes} {L : List Value} {st : List Value} {σ : aS} {x : Int64} : Rn sc d 53 51 L (.long x :: st) σ r ↔ Rn sc d 53 52 L (.int x.toInt32 :: st) σ r := r_l2i d53_51
theorem d53_52 : decode (mC 53) 52 = .ok (.i2l, 1) := by decide +kernel
theorem x53_52 {sc : aSc} {d : Nat} {r : aRes} {L : List Value} {st : List Value} {σ : aS} {x : Int32} : Rn sc d 53 52 L (.int x :: st) σ r ↔ Rn sc d 53 53 L (.long x.toInt64 :: st) σ r := r_i2l d53_52
theorem d53_53 : decode (mC 53) 53 = .ok (.lreturn, 1) := by decide +kernel
theorem x53_53 {sc : aSc} {d : Nat} {r : aRes} {L : List Value} {σ : aS} {x : Int64} : Rn sc d 53 53 L [.long x] σ r ↔ r = (σ, some (.long x)) := r_lret d53_53 rfl
theorem d53_54 : decode (mC 53) 54 = .ok (.lload_n 1, 1) := by decide +kernel
theorem x53_54 {sc : aSc} {d : Nat} {r : aRes} {a0 : Value} {x1 : Int64} {a2 : Value} {st : List Value} {σ : aS} : Rn sc d 53 54 [a0, .long x1, a2] st σ r ↔ Rn sc d 53 55 [a0, .long x1, a2] (.long x1 :: st) σ r := r_lload_n d53_54 rfl
theorem d53_55 : decode (mC 53) 55 = .ok (.lconst 0, 1) := by decide +kernel
theorem x53_55 {sc : aSc} {d : Nat} {r : aRes} {L : List Value} {st : List Value} {σ : aS} : Rn sc d 53 55 L st σ r ↔ Rn sc d 53 56 L (.long 0 :: st) σ r := r_lconst d53_55 (by decide)
theorem d53_56 : decode (mC 53) 56 = .ok (.lcmp, 1) := by decide +kernel
theorem x53_56 {sc : aSc} {d : Nat} {r : aRes} {L : List Value} {st : List Value} {σ : aS} {x y : Int64} : Rn sc d 53 56 L (.long y :: .long x :: st) σ r ↔ Rn sc d 53 57 L (.int (lg_cmp x y) :: st) σ r := r_lcmp d53_56
theorem d53_57 : decode (mC 53) 57 = .ok (.ifCond .eq 7, 3) := by decide +kernel
theorem x53_57 {sc : aSc} {d : Nat} {r : aRes} {L : List Value} {st : List Value} {σ : aS} {x : Int32} : Rn sc d 53 57 L (.int x :: st) σ r ↔ if x = 0 then Rn sc d 53 64 L st σ r else Rn sc d 53 60 L st σ r := r_if_eq d53_57 rfl
theorem d53_60 : decode (mC 53) 60 = .ok (.lconst 1, 1) := by decide +kernel
theorem x53_60 {sc : aSc} {d : Nat} {r : aRes} {L : List Value} {st : List Value} {σ : aS} : Rn sc d 53 60 L st σ r ↔ Rn sc d 53 61 L (.long 1 :: st) σ r := r_lconst d53_60 (by decide)
theorem d53_61 : decode (mC 53) 61 = .ok (.goto 4, 3) := by decide +kernel
theorem x53_61 {sc : aSc} {d : Nat} {r : aRes} {L : List Value} {st : List Value} {σ : aS} : Rn sc d 53 61 L st σ r ↔ Rn sc d 53 65 L st σ r := r_goto d53_61 rfl
theorem d53_64 : decode (mC 53) 64 = .ok (.lconst 0, 1) := by decide +kernel
theorem x53_64 {sc : aSc} {d : Nat} {r : aRes} {L : List Value} {st : List Value} {σ : aS} : Rn sc d 53 64 L st σ r ↔ Rn sc d 53 65 L (.long 0 :: st) σ r := r_lconst d53_64 (by decide)
theorem d53_65 : decode (mC 53) 65 = .ok (.lreturn, 1) := by decide +kernel
theorem x53_65 {sc : aSc} {d : Nat} {r : aRes} {L : List Value} {σ : aS} {x : Int64} : Rn sc d 53 65 L [.long x] σ r ↔ r = (σ, some (.long x)) := r_lret d53_65 rfl
theorem d53_66 : decode (mC 53) 66 = .ok (.lload_n 1, 1) := by decide +kernel
theorem x53_66 {sc : aSc} {d : Nat} {r : aRes} {a0 : Value} {x1 : Int64} {a2 : Value} {st : List Value} {σ : aS} : Rn sc d 53 66 [a0, .long x1, a2] st σ r ↔ Rn sc d 53 67 [a0, .long x1, a2] (.long x1 :: st) σ r := r_lload_n d53_66 rfl
theorem d53_67 : decode (mC 53) 67 = .ok (.lreturn, 1) := by decide +kernel
theorem x53_67 {sc : aSc} {d : Nat} {r : aRes} {L : List Value} {σ : aS} {x : Int64} : Rn sc d 53 67 L [.long x] σ r ↔ r = (σ, some (.long x)) := r_lret d53_67 rfl
theorem d55_0 : decode (mC 55) 0 = .ok (.aload_n 0, 1) := by decide +kernel
theorem x55_0 {sc : aSc} {d : Nat} {r : aRes} {x0 : Nat} {a1 : Value} {st : List Value} {σ : aS} : Rn sc d 55 0 [.ref x0, a1] st σ r ↔ Rn sc d 55 1 [.ref x0, a1] (.ref x0 :: st) σ r := r_aload_n d55_0 rfl
theorem d55_1 : decode (mC 55) 1 = .ok (.getfield 13, 3) := by decide +kernel
theorem x55_1 {sc : aSc} {d : Nat} {r : aRes} {L : List Value} {st : List Value} {f : Nat → Nat → Int32} {g : Nat → Nat → Int64} {h1 h2 : Nat} {o : Nat} (h17 : 17 ≤ o) (hK : KK[o]? = some (.inl 5)) : Rn sc d 55 1 L (.ref o :: st) (cS f g h1 h2) r ↔ Rn sc d 55 4 L (.int (f o 1) :: st) (cS f g h1 h2) r := r_getI d55_1 (ci := 5) (k := 1) rfl (by decide) (fun _ => rfl) h17 hK
theorem d55_4 : decode (mC 55) 4 = .ok (.bipush 100, 2) := by decide +kernel
theorem x55_4 {sc : aSc} {d : Nat} {r : aRes} {L : List Value} {st : List Value} {σ : aS} : Rn sc d 55 4 L st σ r ↔ Rn sc d 55 6 L (.int 100 :: st) σ r := r_bipush d55_4 (by decide)
theorem d55_6 : decode (mC 55) 6 = .ok (.if_icmp .lt 5, 3) := by decide +kernel
theorem x55_6 {sc : aSc} {d : Nat} {r : aRes} {L : List Value} {st : List Value} {σ : aS} {x y : Int32} : Rn sc d 55 6 L (.int y :: .int x :: st) σ r ↔ if x < y then Rn sc d 55 11 L st σ r else Rn sc d 55 9 L st σ r := r_icmp_lt d55_6 rfl
theorem d55_9 : decode (mC 55) 9 = .ok (.iconst 0, 1) := by decide +kernel
theorem x55_9 {sc : aSc} {d : Nat} {r : aRes} {L : List Value} {st : List Value} {σ : aS} : Rn sc d 55 9 L st σ r ↔ Rn sc d 55 10 L (.int 0 :: st) σ r := r_iconst d55_9 (by decide)
theorem d55_10 : decode (mC 55) 10 = .ok (.ireturn, 1) := by decide +kernel
theorem x55_10 {sc : aSc} {d : Nat} {r : aRes} {L : List Value} {σ : aS} {x : Int32} (hn : x &&& 1 = x) : Rn sc d 55 10 L [.int x] σ r ↔ r = (σ, some (.int x)) := r_iret d55_10 rfl (congrArg Value.int hn)
theorem d55_11 : decode (mC 55) 11 = .ok (.aload_n 0, 1) := by decide +kernel
theorem x55_11 {sc : aSc} {d : Nat} {r : aRes} {x0 : Nat} {a1 : Value} {st : List Value} {σ : aS} : Rn sc d 55 11 [.ref x0, a1] st σ r ↔ Rn sc d 55 12 [.ref x0, a1] (.ref x0 :: st) σ r := r_aload_n d55_11 rfl
theorem d55_12 : decode (mC 55) 12 = .ok (.getfield 9, 3) := by decide +kernel
theorem x55_12 {sc : aSc} {d : Nat} {r : aRes} {L : List Value} {st : List Value} {f : Nat → Nat → Int32} {g : Nat → Nat → Int64} {h1 h2 : Nat} {o : Nat} (hK : KK[o]? = some (.inl 5)) (hR : (RR h1 h2 o 0).isSome = true) : Rn sc d 55 12 L (.ref o :: st) (cS f g h1 h2) r ↔ Rn sc d 55 15 L (.ref (rf h1 h2 o 0) :: st) (cS f g h1 h2) r := r_getR2 d55_12 (ci := 5) (k := 0) rfl (by decide) (fun _ => rfl) hK hR
theorem d55_15 : decode (mC 55) 15 = .ok (.aload_n 0, 1) := by decide +kernel
theorem x55_15 {sc : aSc} {d : Nat} {r : aRes} {x0 : Nat} {a1 : Value} {st : List Value} {σ : aS} : Rn sc d 55 15 [.ref x0, a1] st σ r ↔ Rn sc d 55 16 [.ref x0, a1] (.ref x0 :: st) σ r := r_aload_n d55_15 rfl
theorem d55_16 : decode (mC 55) 16 = .ok (.getfield 13, 3) := by decide +kernel
theorem x55_16 {sc : aSc} {d : Nat} {r : aRes} {L : List Value} {st : List Value} {f : Nat → Nat → Int32} {g : Nat → Nat → Int64} {h1 h2 : Nat} {o : Nat} (h17 : 17 ≤ o) (hK : KK[o]? = some (.inl 5)) : Rn sc d 55 16 L (.ref o :: st) (cS f g h1 h2) r ↔ Rn sc d 55 19 L (.int (f o 1) :: st) (cS f g h1 h2) r := r_getI d55_16 (ci := 5) (k := 1) rfl (by decide) (fun _ => rfl) h17 hK
theorem d55_19 : decode (mC 55) 19 = .ok (.iload_n 1, 1) := by decide +kernel
theorem x55_19 {sc : aSc} {d : Nat} {r : aRes} {a0 : Value} {x1 : Int32} {st : List Value} {σ : aS} : Rn sc d 55 19 [a0, .int x1] st σ r ↔ Rn sc d 55 20 [a0, .int x1] (.int x1 :: st) σ r := r_iload_n d55_19 rfl
theorem d55_20 : decode (mC 55) 20 = .ok (.i2b, 1) := by decide +kernel
theorem x55_20 {sc : aSc} {d : Nat} {r : aRes} {L : List Value} {st : List Value} {σ : aS} {x : Int32} : Rn sc d 55 20 L (.int x :: st) σ r ↔ Rn sc d 55 21 L (.int x.toInt8.toInt32 :: st) σ r := r_i2b d55_20
theorem d55_21 : decode (mC 55) 21 = .ok (.bastore, 1) := by decide +kernel
theorem x55_21 {sc : aSc} {d : Nat} {r : aRes} {L : List Value} {st : List Value} {f : Nat → Nat → Int32} {g : Nat → Nat → Int64} {h1 h2 : Nat} {a : Nat} {i x : Int32} (h17 : 17 ≤ a) (hA : isT9 .byte a) (hi : inb i (aln a) = true) : Rn sc d 55 21 L (.int x :: .int i :: .ref a :: st) (cS f g h1 h2) r ↔ Rn sc d 55 22 L st (cS (u2 f a i.toNatClampNeg x.toInt8.toInt32) g h1 h2) r := r_bast d55_21 h17 hA hi
theorem d55_22 : decode (mC 55) 22 = .ok (.aload_n 0, 1) := by decide +kernel
theorem x55_22 {sc : aSc} {d : Nat} {r : aRes} {x0 : Nat} {a1 : Value} {st : List Value} {σ : aS} : Rn sc d 55 22 [.ref x0, a1] st σ r ↔ Rn sc d 55 23 [.ref x0, a1] (.ref x0 :: st) σ r := r_aload_n d55_22 rfl
theorem d55_23 : decode (mC 55) 23 = .ok (.dup, 1) := by decide +kernel
theorem x55_23 {sc : aSc} {d : Nat} {r : aRes} {L : List Value} {st : List Value} {σ : aS} {y : Nat} : Rn sc d 55 23 L (.ref y :: st) σ r ↔ Rn sc d 55 24 L (.ref y :: .ref y :: st) σ r := r_dup d55_23 rfl
theorem d55_24 : decode (mC 55) 24 = .ok (.getfield 13, 3) := by decide +kernel
theorem x55_24 {sc : aSc} {d : Nat} {r : aRes} {L : List Value} {st : List Value} {f : Nat → Nat → Int32} {g : Nat → Nat → Int64} {h1 h2 : Nat} {o : Nat} (h17 : 17 ≤ o) (hK : KK[o]? = some (.inl 5)) : Rn sc d 55 24 L (.ref o :: st) (cS f g h1 h2) r ↔ Rn sc d 55 27 L (.int (f o 1) :: st) (cS f g h1 h2) r := r_getI d55_24 (ci := 5) (k := 1) rfl (by decide) (fun _ => rfl) h17 hK
theorem d55_27 : decode (mC 55) 27 = .ok (.iconst 1, 1) := by decide +kernel
theorem x55_27 {sc : aSc} {d : Nat} {r : aRes} {L : List Value} {st : List Value} {σ : aS} : Rn sc d 55 27 L st σ r ↔ Rn sc d 55 28 L (.int 1 :: st) σ r := r_iconst d55_27 (by decide)
theorem d55_28 : decode (mC 55) 28 = .ok (.iadd, 1) := by decide +kernel
theorem x55_28 {sc : aSc} {d : Nat} {r : aRes} {L : List Value} {st : List Value} {σ : aS} {x y : Int32} : Rn sc d 55 28 L (.int y :: .int x :: st) σ r ↔ Rn sc d 55 29 L (.int (x + y) :: st) σ r := r_iadd d55_28
theorem d55_29 : decode (mC 55) 29 = .ok (.putfield 13, 3) := by decide +kernel
theorem x55_29 {sc : aSc} {d : Nat} {r : aRes} {L : List Value} {st : List Value} {f : Nat → Nat → Int32} {g : Nat → Nat → Int64} {h1 h2 : Nat} {o : Nat} {v : Int32} (h17 : 17 ≤ o) (hK : KK[o]? = some (.inl 5)) : Rn sc d 55 29 L (.int v :: .ref o :: st) (cS f g h1 h2) r ↔ Rn sc d 55 32 L st (cS (u2 f o 1 v) g h1 h2) r := r_putI d55_29 (ci := 5) (k := 1) rfl (by decide) h17 hK
theorem d55_32 : decode (mC 55) 32 = .ok (.iconst 1, 1) := by decide +kernel
theorem x55_32 {sc : aSc} {d : Nat} {r : aRes} {L : List Value} {st : List Value} {σ : aS} : Rn sc d 55 32 L st σ r ↔ Rn sc d 55 33 L (.int 1 :: st) σ r := r_iconst d55_32 (by decide)
theorem d55_33 : decode (mC 55) 33 = .ok (.ireturn, 1) := by decide +kernel
theorem x55_33 {sc : aSc} {d : Nat} {r : aRes} {L : List Value} {σ : aS} {x : Int32} (hn : x &&& 1 = x) : Rn sc d 55 33 L [.int x] σ r ↔ r = (σ, some (.int x)) := r_iret d55_33 rfl (congrArg Value.int hn)
theorem d56_0 : decode (mC 56) 0 = .ok (.aload_n 0, 1) := by decide +kernel
theorem x56_0 {sc : aSc} {d : Nat} {r : aRes} {x0 : Nat} {a1 : Value} {a2 : Value} {st : List Value} {σ : aS} : Rn sc d 56 0 [.ref x0, a1, a2] st σ r ↔ Rn sc d 56 1 [.ref x0, a1, a2] (.ref x0 :: st) σ r := r_aload_n d56_0 rfl
theorem d56_1 : decode (mC 56) 1 = .ok (.iconst 0, 1) := by decide +kernel
theorem x56_1 {sc : aSc} {d : Nat} {r : aRes} {L : List Value} {st : List Value} {σ : aS} : Rn sc d 56 1 L st σ r ↔ Rn sc d 56 2 L (.int 0 :: st) σ r := r_iconst d56_1 (by decide)
theorem d56_2 : decode (mC 56) 2 = .ok (.putfield 17, 3) := by decide +kernel
theorem x56_2 {sc : aSc} {d : Nat} {r : aRes} {L : List Value} {st : List Value} {f : Nat → Nat → Int32} {g : Nat → Nat → Int64} {h1 h2 : Nat} {o : Nat} {v : Int32} (h17 : 17 ≤ o) (hK : KK[o]? = some (.inl 5)) : Rn sc d 56 2 L (.int v :: .ref o :: st) (cS f g h1 h2) r ↔ Rn sc d 56 5 L st (cS (u2 f o 2 v) g h1 h2) r := r_putI d56_2 (ci := 5) (k := 2) rfl (by decide) h17 hK
theorem d56_5 : decode (mC 56) 5 = .ok (.aload_n 1, 1) := by decide +kernel
theorem x56_5 {sc : aSc} {d : Nat} {r : aRes} {a0 : Value} {x1 : Nat} {a2 : Value} {st : List Value} {σ : aS} : Rn sc d 56 5 [a0, .ref x1, a2] st σ r ↔ Rn sc d 56 6 [a0, .ref x1, a2] (.ref x1 :: st) σ r := r_aload_n d56_5 rfl
theorem d56_6 : decode (mC 56) 6 = .ok (.invokevirtual 20, 3) := by decide +kernel
theorem x56_6 {sc : aSc} {d : Nat} {r : aRes} {L : List Value} {f : Nat → Nat → Int32} {g : Nat → Nat → Int64} {h1 h2 : Nat}   {o : Nat} (hK : KK[o]? = some (.inl 2)) : Rn sc d 56 6 L [.ref o] (cS f g h1 h2) r ↔ ∃ (σ3 : aS) (v : Option Value), Cl sc d 24 [.ref o] (cS f g h1 h2) (σ3, v) ∧ Rn sc d 56 9 L (v.toList ++ []) σ3 r := r_callV (vs := []) d56_6 (j := 24) rfl ⟨rfl, by decide, rfl, rfl⟩ (Nat.le_of_ble_eq_true rfl) hK
theorem d56_9 : decode (mC 56) 9 = .ok (.iconst 1, 1) := by decide +kernel
theorem x56_9 {sc : aSc} {d : Nat} {r : aRes} {L : List Value} {st : List Value} {σ : aS} : Rn sc d 56 9 L st σ r ↔ Rn sc d 56 10 L (.int 1 :: st) σ r := r_iconst d56_9 (by decide)
theorem d56_10 : decode (mC 56) 10 = .ok (.istore_n 2, 1) := by decide +kernel
theorem x56_10 {sc : aSc} {d : Nat} {r : aRes} {a0 : Value} {x1 : Nat} {a2 : Value} {st : List Value} {σ : aS} {y : Int32} : Rn sc d 56 10 [a0, .ref x1, a2] (.int y :: st) σ r ↔ Rn sc d 56 11 [a0, .ref x1, .int y] st σ r := r_istore_n d56_10 (Nat.le_of_ble_eq_true rfl) rfl
theorem d56_11 : decode (mC 56) 11 = .ok (.iload_n 2, 1) := by decide +kernel
theorem x56_11 {sc : aSc} {d : Nat} {r : aRes} {a0 : Value} {a1 : Value} {x2 : Int32} {st : List Value} {σ : aS} : Rn sc d 56 11 [a0, a1, .int x2] st σ r ↔ Rn sc d 56 12 [a0, a1, .int x2] (.int x2 :: st) σ r := r_iload_n d56_11 rfl
theorem d56_12 : decode (mC 56) 12 = .ok (.bipush 10, 2) := by decide +kernel
theorem x56_12 {sc : aSc} {d : Nat} {r : aRes} {L : List Value} {st : List Value} {σ : aS} : Rn sc d 56 12 L st σ r ↔ Rn sc d 56 14 L (.int 10 :: st) σ r := r_bipush d56_12 (by decide)
theorem d56_14 : decode (mC 56) 14 = .ok (.if_icmp .gt 52, 3) := by decide +kernel
theorem x56_14 {sc : aSc} {d : Nat} {r : aRes} {L : List Value} {st : List Value} {σ : aS} {x y : Int32} : Rn sc d 56 14 L (.int y :: .int x :: st) σ r ↔ if y < x then Rn sc d 56 66 L st σ r else Rn sc d 56 17 L st σ r := r_icmp_gt d56_14 rfl
theorem d56_17 : decode (mC 56) 17 = .ok (.aload_n 0, 1) := by decide +kernel
theorem x56_17 {sc : aSc} {d : Nat} {r : aRes} {x0 : Nat} {a1 : Value} {a2 : Value} {st : List Value} {σ : aS} : Rn sc d 56 17 [.ref x0, a1, a2] st σ r ↔ Rn sc d 56 18 [.ref x0, a1, a2] (.ref x0 :: st) σ r := r_aload_n d56_17 rfl
theorem d56_18 : decode (mC 56) 18 = .ok (.aload_n 1, 1) := by decide +kernel
theorem x56_18 {sc : aSc} {d : Nat} {r : aRes} {a0 : Value} {x1 : Nat} {a2 : Value} {st : List Value} {σ : aS} : Rn sc d 56 18 [a0, .ref x1, a2] st σ r ↔ Rn sc d 56 19 [a0, .ref x1, a2] (.ref x1 :: st) σ r := r_aload_n d56_18 rfl
theorem d56_19 : decode (mC 56) 19 = .ok (.invokevirtual 25, 3) := by decide +kernel
theorem x56_19 {sc : aSc} {d : Nat} {r : aRes} {L : List Value} {f : Nat → Nat → Int32} {g : Nat → Nat → Int64} {h1 h2 : Nat} {y0 : Nat}  {o : Nat} (hK : KK[o]? = some (.inl 5)) : Rn sc d 56 19 L [.ref y0, .ref o] (cS f g h1 h2) r ↔ ∃ (σ3 : aS) (v : Option Value), Cl sc d 57 [.ref o, .ref y0] (cS f g h1 h2) (σ3, v) ∧ Rn sc d 56 22 L (v.toList ++ []) σ3 r := r_callV (vs := [.ref y0]) d56_19 (j := 57) rfl ⟨rfl, by decide, rfl, rfl⟩ (Nat.le_of_ble_eq_true rfl) hK
theorem d56_22 : decode (mC 56) 22 = .ok (.ifCond .ne 8, 3) := by decide +kernel
theorem x56_22 {sc : aSc} {d : Nat} {r : aRes} {L : List Value} {st : List Value} {σ : aS} {x : Int32} : Rn sc d 56 22 L (.int x :: st) σ r ↔ if x = 0 then Rn sc d 56 25 L st σ r else Rn sc d 56 30 L st σ r := r_if_ne d56_22 rfl
theorem d56_25 : decode (mC 56) 25 = .ok (.aload_n 0, 1) := by decide +kernel
theorem x56_25 {sc : aSc} {d : Nat} {r : aRes} {x0 : Nat} {a1 : Value} {a2 : Value} {st : List Value} {σ : aS} : Rn sc d 56 25 [.ref x0, a1, a2] st σ r ↔ Rn sc d 56 26 [.ref x0, a1, a2] (.ref x0 :: st) σ r := r_aload_n d56_25 rfl
theorem d56_26 : decode (mC 56) 26 = .ok (.getfield 17, 3) := by decide +kernel
theorem x56_26 {sc : aSc} {d : Nat} {r : aRes} {L : List Value} {st : List Value} {f : Nat → Nat → Int32} {g : Nat → Nat → Int64} {h1 h2 : Nat} {o : Nat} (h17 : 17 ≤ o) (hK : KK[o]? = some (.inl 5)) : Rn sc d 56 26 L (.ref o :: st) (cS f g h1 h2) r ↔ Rn sc d 56 29 L (.int (f o 2) :: st) (cS f g h1 h2) r := r_getI d56_26 (ci := 5) (k := 2) rfl (by decide) (fun _ => rfl) h17 hK
theorem d56_29 : decode (mC 56) 29 = .ok (.ireturn, 1) := by decide +kernel
theorem x56_29 {sc : aSc} {d : Nat} {r : aRes} {L : List Value} {σ : aS} {x : Int32} : Rn sc d 56 29 L [.int x] σ r ↔ r = (σ, some (.int x)) := r_iret d56_29 rfl rfl
theorem d56_30 : decode (mC 56) 30 = .ok (.aload_n 0, 1) := by decide +kernel
theorem x56_30 {sc : aSc} {d : Nat} {r : aRes} {x0 : Nat} {a1 : Value} {a2 : Value} {st : List Value} {σ : aS} : Rn sc d 56 30 [.ref x0, a1, a2] st σ r ↔ Rn sc d 56 31 [.ref x0, a1, a2] (.ref x0 :: st) σ r := r_aload_n d56_30 rfl
theorem d56_31 : decode (mC 56) 31 = .ok (.invokevirtual 29, 3) := by decide +kernel
theorem x56_31 {sc : aSc} {d : Nat} {r : aRes} {L : List Value} {f : Nat → Nat → Int32} {g : Nat → Nat → Int64} {h1 h2 : Nat}   {o : Nat} (hK : KK[o]? = some (.inl 5)) : Rn sc d 56 31 L [.ref o] (cS f g h1 h2) r ↔ ∃ (σ3 : aS) (v : Option Value), Cl sc d 211 [.ref o] (cS f g h1 h2) (σ3, v) ∧ Rn sc d 56 34 L (v.toList ++ []) σ3 r := r_callV (vs := []) d56_31 (j := 211) rfl ⟨rfl, by decide, rfl, rfl⟩ (Nat.le_of_ble_eq_true rfl) hK
theorem d56_34 : decode (mC 56) 34 = .ok (.iconst (-1), 1) := by decide +kernel
theorem x56_34 {sc : aSc} {d : Nat} {r : aRes} {L : List Value} {st : List Value} {σ : aS} : Rn sc d 56 34 L st σ r ↔ Rn sc d 56 35 L (.int (-1) :: st) σ r := r_iconst d56_34 (by decide)
theorem d56_35 : decode (mC 56) 35 = .ok (.if_icmp .ne 5, 3) := by decide +kernel
theorem x56_35 {sc : aSc} {d : Nat} {r : aRes} {L : List Value} {st : List Value} {σ : aS} {x y : Int32} : Rn sc d 56 35 L (.int y :: .int x :: st) σ r ↔ if x = y then Rn sc d 56 38 L st σ r else Rn sc d 56 40 L st σ r := r_icmp_ne d56_35 rfl
theorem d56_38 : decode (mC 56) 38 = .ok (.iconst (-1), 1) := by decide +kernel
theorem x56_38 {sc : aSc} {d : Nat} {r : aRes} {L : List Value} {st : List Value} {σ : aS} : Rn sc d 56 38 L st σ r ↔ Rn sc d 56 39 L (.int (-1) :: st) σ r := r_iconst d56_38 (by decide)
theorem d56_39 : decode (mC 56) 39 = .ok (.ireturn, 1) := by decide +kernel
theorem x56_39 {sc : aSc} {d : Nat} {r : aRes} {L : List Value} {σ : aS} {x : Int32} : Rn sc d 56 39 L [.int x] σ r ↔ r = (σ, some (.int x)) := r_iret d56_39 rfl rfl
theorem d56_40 : decode (mC 56) 40 = .ok (.iload_n 2, 1) := by decide +kernel
theorem x56_40 {sc : aSc} {d : Nat} {r : aRes} {a0 : Value} {a1 : Value} {x2 : Int32} {st : List Value} {σ : aS} : Rn sc d 56 40 [a0, a1, .int x2] st σ r ↔ Rn sc d 56 41 [a0, a1, .int x2] (.int x2 :: st) σ r := r_iload_n d56_40 rfl
theorem d56_41 : decode (mC 56) 41 = .ok (.bipush 10, 2) := by decide +kernel
theorem x56_41 {sc : aSc} {d : Nat} {r : aRes} {L : List Value} {st : List Value} {σ : aS} : Rn sc d 56 41 L st σ r ↔ Rn sc d 56 43 L (.int 10 :: st) σ r := r_bipush d56_41 (by decide)
theorem d56_43 : decode (mC 56) 43 = .ok (.if_icmp .eq 12, 3) := by decide +kernel
theorem x56_43 {sc : aSc} {d : Nat} {r : aRes} {L : List Value} {st : List Value} {σ : aS} {x y : Int32} : Rn sc d 56 43 L (.int y :: .int x :: st) σ r ↔ if x = y then Rn sc d 56 55 L st σ r else Rn sc d 56 46 L st σ r := r_icmp_eq d56_43 rfl
theorem d56_46 : decode (mC 56) 46 = .ok (.aload_n 0, 1) := by decide +kernel
theorem x56_46 {sc : aSc} {d : Nat} {r : aRes} {x0 : Nat} {a1 : Value} {a2 : Value} {st : List Value} {σ : aS} : Rn sc d 56 46 [.ref x0, a1, a2] st σ r ↔ Rn sc d 56 47 [.ref x0, a1, a2] (.ref x0 :: st) σ r := r_aload_n d56_46 rfl
theorem d56_47 : decode (mC 56) 47 = .ok (.bipush 59, 2) := by decide +kernel
theorem x56_47 {sc : aSc} {d : Nat} {r : aRes} {L : List Value} {st : List Value} {σ : aS} : Rn sc d 56 47 L st σ r ↔ Rn sc d 56 49 L (.int 59 :: st) σ r := r_bipush d56_47 (by decide)
theorem d56_49 : decode (mC 56) 49 = .ok (.invokevirtual 33, 3) := by decide +kernel
theorem x56_49 {sc : aSc} {d : Nat} {r : aRes} {L : List Value} {f : Nat → Nat → Int32} {g : Nat → Nat → Int64} {h1 h2 : Nat} {y0 : Int32}  {o : Nat} (hK : KK[o]? = some (.inl 5)) : Rn sc d 56 49 L [.int y0, .ref o] (cS f g h1 h2) r ↔ ∃ (σ3 : aS) (v : Option Value), Cl sc d 62 [.ref o, .int y0] (cS f g h1 h2) (σ3, v) ∧ Rn sc d 56 52 L (v.toList ++ []) σ3 r := r_callV (vs := [.int y0]) d56_49 (j := 62) rfl ⟨rfl, by decide, rfl, rfl⟩ (Nat.le_of_ble_eq_true rfl) hK
theorem d56_52 : decode (mC 56) 52 = .ok (.ifCond .ne 8, 3) := by decide +kernel
theorem x56_52 {sc : aSc} {d : Nat} {r : aRes} {L : List Value} {st : List Value} {σ : aS} {x : Int32} : Rn sc d 56 52 L (.int x :: st) σ r ↔ if x = 0 then Rn sc d 56 55 L st σ r else Rn sc d 56 60 L st σ r := r_if_ne d56_52 rfl
theorem d56_55 : decode (mC 56) 55 = .ok (.aload_n 0, 1) := by decide +kernel
theorem x56_55 {sc : aSc} {d : Nat} {r : aRes} {x0 : Nat} {a1 : Value} {a2 : Value} {st : List Value} {σ : aS} : Rn sc d 56 55 [.ref x0, a1, a2] st σ r ↔ Rn sc d 56 56 [.ref x0, a1, a2] (.ref x0 :: st) σ r := r_aload_n d56_55 rfl
theorem d56_56 : decode (mC 56) 56 = .ok (.getfield 17, 3) := by decide +kernel
theorem x56_56 {sc : aSc} {d : Nat} {r : aRes} {L : List Value} {st : List Value} {f : Nat → Nat → Int32} {g : Nat → Nat → Int64} {h1 h2 : Nat} {o : Nat} (h17 : 17 ≤ o) (hK : KK[o]? = some (.inl 5)) : Rn sc d 56 56 L (.ref o :: st) (cS f g h1 h2) r ↔ Rn sc d 56 59 L (.int (f o 2) :: st) (cS f g h1 h2) r := r_getI d56_56 (ci := 5) (k := 2) rfl (by decide) (fun _ => rfl) h17 hK
theorem d56_59 : decode (mC 56) 59 = .ok (.ireturn, 1) := by decide +kernel
theorem x56_59 {sc : aSc} {d : Nat} {r : aRes} {L : List Value} {σ : aS} {x : Int32} : Rn sc d 56 59 L [.int x] σ r ↔ r = (σ, some (.int x)) := r_iret d56_59 rfl rfl
theorem d56_60 : decode (mC 56) 60 = .ok (.iinc 2 1, 3) := by decide +kernel
theorem x56_60 {sc : aSc} {d : Nat} {r : aRes} {a0 : Value} {x1 : Nat} {x2 : Int32} {st : List Value} {σ : aS} : Rn sc d 56 60 [a0, .ref x1, .int x2] st σ r ↔ Rn sc d 56 63 [a0, .ref x1, .int (x2 + 1)] st σ r := r_iinc d56_60 (Nat.le_of_ble_eq_true rfl) rfl rfl (by decide)
theorem d56_63 : decode (mC 56) 63 = .ok (.goto (-52), 3) := by decide +kernel
theorem x56_63 {sc : aSc} {d : Nat} {r : aRes} {L : List Value} {st : List Value} {σ : aS} : Rn sc d 56 63 L st σ r ↔ Rn sc d 56 11 L st σ r := r_goto d56_63 rfl
theorem d56_66 : decode (mC 56) 66 = .ok (.aload_n 0, 1) := by decide +kernel
theorem x56_66 {sc : aSc} {d : Nat} {r : aRes} {x0 : Nat} {a1 : Value} {a2 : Value} {st : List Value} {σ : aS} : Rn sc d 56 66 [.ref x0, a1, a2] st σ r ↔ Rn sc d 56 67 [.ref x0, a1, a2] (.ref x0 :: st) σ r := r_aload_n d56_66 rfl
theorem d56_67 : decode (mC 56) 67 = .ok (.getfield 17, 3) := by decide +kernel
theorem x56_67 {sc : aSc} {d : Nat} {r : aRes} {L : List Value} {st : List Value} {f : Nat → Nat → Int32} {g : Nat → Nat → Int64} {h1 h2 : Nat} {o : Nat} (h17 : 17 ≤ o) (hK : KK[o]? = some (.inl 5)) : Rn sc d 56 67 L (.ref o :: st) (cS f g h1 h2) r ↔ Rn sc d 56 70 L (.int (f o 2) :: st) (cS f g h1 h2) r := r_getI d56_67 (ci := 5) (k := 2) rfl (by decide) (fun _ => rfl) h17 hK
theorem d56_70 : decode (mC 56) 70 = .ok (.ireturn, 1) := by decide +kernel
theorem x56_70 {sc : aSc} {d : Nat} {r : aRes} {L : List Value} {σ : aS} {x : Int32} : Rn sc d 56 70 L [.int x] σ r ↔ r = (σ, some (.int x)) := r_iret d56_70 rfl rfl
theorem d57_0 : decode (mC 57) 0 = .ok (.aload_n 0, 1) := by decide +kernel
theorem x57_0 {sc : aSc} {d : Nat} {r : aRes} {x0 : Nat} {a1 : Value} {a2 : Value} {a3 : Value} {a4 : Value} {a5 : Value} {st : List Value} {σ : aS} : Rn sc d 57 0 [.ref x0, a1, a2, a3, a4, a5] st σ r ↔ Rn sc d 57 1 [.ref x0, a1, a2, a3, a4, a5] (.ref x0 :: st) σ r := r_aload_n d57_0 rfl
theorem d57_1 : decode (mC 57) 1 = .ok (.bipush 115, 2) := by decide +kernel
theorem x57_1 {sc : aSc} {d : Nat} {r : aRes} {L : List Value} {st : List Value} {σ : aS} : Rn sc d 57 1 L st σ r ↔ Rn sc d 57 3 L (.int 115 :: st) σ r := r_bipush d57_1 (by decide)
theorem d57_3 : decode (mC 57) 3 = .ok (.invokevirtual 33, 3) := by decide +kernel
theorem x57_3 {sc : aSc} {d : Nat} {r : aRes} {L : List Value} {f : Nat → Nat → Int32} {g : Nat → Nat → Int64} {h1 h2 : Nat} {y0 : Int32}  {o : Nat} (hK : KK[o]? = some (.inl 5)) : Rn sc d 57 3 L [.int y0, .ref o] (cS f g h1 h2) r ↔ ∃ (σ3 : aS) (v : Option Value), Cl sc d 62 [.ref o, .int y0] (cS f g h1 h2) (σ3, v) ∧ Rn sc d 57 6 L (v.toList ++ []) σ3 r := r_callV (vs := [.int y0]) d57_3 (j := 62) rfl ⟨rfl, by decide, rfl, rfl⟩ (Nat.le_of_ble_eq_true rfl) hK
theorem d57_6 : decode (mC 57) 6 = .ok (.istore_n 2, 1) := by decide +kernel
theorem x57_6 {sc : aSc} {d : Nat} {r : aRes} {a0 : Value} {x1 : Nat} {a2 : Value} {a3 : Value} {a4 : Value} {a5 : Value} {st : List Value} {σ : aS} {y : Int32} : Rn sc d 57 6 [a0, .ref x1, a2, a3, a4, a5] (.int y :: st) σ r ↔ Rn sc d 57 7 [a0, .ref x1, .int y, a3, a4, a5] st σ r := r_istore_n d57_6 (Nat.le_of_ble_eq_true rfl) rfl
theorem d57_7 : decode (mC 57) 7 = .ok (.iload_n 2, 1) := by decide +kernel
theorem x57_7 {sc : aSc} {d : Nat} {r : aRes} {a0 : Value} {a1 : Value} {x2 : Int32} {a3 : Value} {a4 : Value} {a5 : Value} {st : List Value} {σ : aS} : Rn sc d 57 7 [a0, a1, .int x2, a3, a4, a5] st σ r ↔ Rn sc d 57 8 [a0, a1, .int x2, a3, a4, a5] (.int x2 :: st) σ r := r_iload_n d57_7 rfl
theorem d57_8 : decode (mC 57) 8 = .ok (.ifCond .eq 16, 3) := by decide +kernel
theorem x57_8 {sc : aSc} {d : Nat} {r : aRes} {L : List Value} {st : List Value} {σ : aS} {x : Int32} : Rn sc d 57 8 L (.int x :: st) σ r ↔ if x = 0 then Rn sc d 57 24 L st σ r else Rn sc d 57 11 L st σ r := r_if_eq d57_8 rfl
theorem d57_11 : decode (mC 57) 11 = .ok (.aload_n 0, 1) := by decide +kernel
theorem x57_11 {sc : aSc} {d : Nat} {r : aRes} {x0 : Nat} {a1 : Value} {a2 : Value} {a3 : Value} {a4 : Value} {a5 : Value} {st : List Value} {σ : aS} : Rn sc d 57 11 [.ref x0, a1, a2, a3, a4, a5] st σ r ↔ Rn sc d 57 12 [.ref x0, a1, a2, a3, a4, a5] (.ref x0 :: st) σ r := r_aload_n d57_11 rfl
theorem d57_12 : decode (mC 57) 12 = .ok (.invokevirtual 29, 3) := by decide +kernel
theorem x57_12 {sc : aSc} {d : Nat} {r : aRes} {L : List Value} {f : Nat → Nat → Int32} {g : Nat → Nat → Int64} {h1 h2 : Nat}   {o : Nat} (hK : KK[o]? = some (.inl 5)) : Rn sc d 57 12 L [.ref o] (cS f g h1 h2) r ↔ ∃ (σ3 : aS) (v : Option Value), Cl sc d 211 [.ref o] (cS f g h1 h2) (σ3, v) ∧ Rn sc d 57 15 L (v.toList ++ []) σ3 r := r_callV (vs := []) d57_12 (j := 211) rfl ⟨rfl, by decide, rfl, rfl⟩ (Nat.le_of_ble_eq_true rfl) hK
theorem d57_15 : decode (mC 57) 15 = .ok (.bipush 108, 2) := by decide +kernel
theorem x57_15 {sc : aSc} {d : Nat} {r : aRes} {L : List Value} {st : List Value} {σ : aS} : Rn sc d 57 15 L st σ r ↔ Rn sc d 57 17 L (.int 108 :: st) σ r := r_bipush d57_15 (by decide)
theorem d57_17 : decode (mC 57) 17 = .ok (.if_icmp .ne 7, 3) := by decide +kernel
theorem x57_17 {sc : aSc} {d : Nat} {r : aRes} {L : List Value} {st : List Value} {σ : aS} {x y : Int32} : Rn sc d 57 17 L (.int y :: .int x :: st) σ r ↔ if x = y then Rn sc d 57 20 L st σ r else Rn sc d 57 24 L st σ r := r_icmp_ne d57_17 rfl
theorem d57_20 : decode (mC 57) 20 = .ok (.iconst 1, 1) := by decide +kernel
theorem x57_20 {sc : aSc} {d : Nat} {r : aRes} {L : List Value} {st : List Value} {σ : aS} : Rn sc d 57 20 L st σ r ↔ Rn sc d 57 21 L (.int 1 :: st) σ r := r_iconst d57_20 (by decide)
theorem d57_21 : decode (mC 57) 21 = .ok (.goto 4, 3) := by decide +kernel
theorem x57_21 {sc : aSc} {d : Nat} {r : aRes} {L : List Value} {st : List Value} {σ : aS} : Rn sc d 57 21 L st σ r ↔ Rn sc d 57 25 L st σ r := r_goto d57_21 rfl
theorem d57_24 : decode (mC 57) 24 = .ok (.iconst 0, 1) := by decide +kernel
theorem x57_24 {sc : aSc} {d : Nat} {r : aRes} {L : List Value} {st : List Value} {σ : aS} : Rn sc d 57 24 L st σ r ↔ Rn sc d 57 25 L (.int 0 :: st) σ r := r_iconst d57_24 (by decide)
theorem d57_25 : decode (mC 57) 25 = .ok (.istore_n 3, 1) := by decide +kernel
theorem x57_25 {sc : aSc} {d : Nat} {r : aRes} {a0 : Value} {a1 : Value} {x2 : Int32} {a3 : Value} {a4 : Value} {a5 : Value} {st : List Value} {σ : aS} {y : Int32} : Rn sc d 57 25 [a0, a1, .int x2, a3, a4, a5] (.int y :: st) σ r ↔ Rn sc d 57 26 [a0, a1, .int x2, .int y, a4, a5] st σ r := r_istore_n d57_25 (Nat.le_of_ble_eq_true rfl) rfl
theorem d57_26 : decode (mC 57) 26 = .ok (.iload_n 2, 1) := by decide +kernel
theorem x57_26 {sc : aSc} {d : Nat} {r : aRes} {a0 : Value} {a1 : Value} {x2 : Int32} {a3 : Value} {a4 : Value} {a5 : Value} {st : List Value} {σ : aS} : Rn sc d 57 26 [a0, a1, .int x2, a3, a4, a5] st σ r ↔ Rn sc d 57 27 [a0, a1, .int x2, a3, a4, a5] (.int x2 :: st) σ r := r_iload_n d57_26 rfl
theorem d57_27 : decode (mC 57) 27 = .ok (.ifCond .ne 16, 3) := by decide +kernel
theorem x57_27 {sc : aSc} {d : Nat} {r : aRes} {L : List Value} {st : List Value} {σ : aS} {x : Int32} : Rn sc d 57 27 L (.int x :: st) σ r ↔ if x = 0 then Rn sc d 57 30 L st σ r else Rn sc d 57 43 L st σ r := r_if_ne d57_27 rfl
theorem d57_30 : decode (mC 57) 30 = .ok (.aload_n 0, 1) := by decide +kernel
theorem x57_30 {sc : aSc} {d : Nat} {r : aRes} {x0 : Nat} {a1 : Value} {a2 : Value} {a3 : Value} {a4 : Value} {a5 : Value} {st : List Value} {σ : aS} : Rn sc d 57 30 [.ref x0, a1, a2, a3, a4, a5] st σ r ↔ Rn sc d 57 31 [.ref x0, a1, a2, a3, a4, a5] (.ref x0 :: st) σ r := r_aload_n d57_30 rfl
theorem d57_31 : decode (mC 57) 31 = .ok (.invokevirtual 29, 3) := by decide +kernel
theorem x57_31 {sc : aSc} {d : Nat} {r : aRes} {L : List Value} {f : Nat → Nat → Int32} {g : Nat → Nat → Int64} {h1 h2 : Nat}   {o : Nat} (hK : KK[o]? = some (.inl 5)) : Rn sc d 57 31 L [.ref o] (cS f g h1 h2) r ↔ ∃ (σ3 : aS) (v : Option Value), Cl sc d 211 [.ref o] (cS f g h1 h2) (σ3, v) ∧ Rn sc d 57 34 L (v.toList ++ []) σ3 r := r_callV (vs := []) d57_31 (j := 211) rfl ⟨rfl, by decide, rfl, rfl⟩ (Nat.le_of_ble_eq_true rfl) hK
theorem d57_34 : decode (mC 57) 34 = .ok (.bipush 114, 2) := by decide +kernel
theorem x57_34 {sc : aSc} {d : Nat} {r : aRes} {L : List Value} {st : List Value} {σ : aS} : Rn sc d 57 34 L st σ r ↔ Rn sc d 57 36 L (.int 114 :: st) σ r := r_bipush d57_34 (by decide)
theorem d57_36 : decode (mC 57) 36 = .ok (.if_icmp .ne 7, 3) := by decide +kernel
theorem x57_36 {sc : aSc} {d : Nat} {r : aRes} {L : List Value} {st : List Value} {σ : aS} {x y : Int32} : Rn sc d 57 36 L (.int y :: .int x :: st) σ r ↔ if x = y then Rn sc d 57 39 L st σ r else Rn sc d 57 43 L st σ r := r_icmp_ne d57_36 rfl
theorem d57_39 : decode (mC 57) 39 = .ok (.iconst 1, 1) := by decide +kernel
theorem x57_39 {sc : aSc} {d : Nat} {r : aRes} {L : List Value} {st : List Value} {σ : aS} : Rn sc d 57 39 L st σ r ↔ Rn sc d 57 40 L (.int 1 :: st) σ r := r_iconst d57_39 (by decide)
theorem d57_40 : decode (mC 57) 40 = .ok (.goto 4, 3) := by decide +kernel
theorem x57_40 {sc : aSc} {d : Nat} {r : aRes} {L : List Value} {st : List Value} {σ : aS} : Rn sc d 57 40 L st σ r ↔ Rn sc d 57 44 L st σ r := r_goto d57_40 rfl
theorem d57_43 : decode (mC 57) 43 = .ok (.iconst 0, 1) := by decide +kernel
theorem x57_43 {sc : aSc} {d : Nat} {r : aRes} {L : List Value} {st : List Value} {σ : aS} : Rn sc d 57 43 L st σ r ↔ Rn sc d 57 44 L (.int 0 :: st) σ r := r_iconst d57_43 (by decide)
theorem d57_44 : decode (mC 57) 44 = .ok (.istore 4, 2) := by decide +kernel
theorem x57_44 {sc : aSc} {d : Nat} {r : aRes} {a0 : Value} {a1 : Value} {a2 : Value} {x3 : Int32} {a4 : Value} {a5 : Value} {st : List Value} {σ : aS} {y : Int32} : Rn sc d 57 44 [a0, a1, a2, .int x3, a4, a5] (.int y :: st) σ r ↔ Rn sc d 57 46 [a0, a1, a2, .int x3, .int y, a5] st σ r := r_istore d57_44 (Nat.le_of_ble_eq_true rfl) rfl
theorem d57_46 : decode (mC 57) 46 = .ok (.aload_n 0, 1) := by decide +kernel
theorem x57_46 {sc : aSc} {d : Nat} {r : aRes} {x0 : Nat} {a1 : Value} {a2 : Value} {a3 : Value} {a4 : Value} {a5 : Value} {st : List Value} {σ : aS} : Rn sc d 57 46 [.ref x0, a1, a2, a3, a4, a5] st σ r ↔ Rn sc d 57 47 [.ref x0, a1, a2, a3, a4, a5] (.ref x0 :: st) σ r := r_aload_n d57_46 rfl
theorem d57_47 : decode (mC 57) 47 = .ok (.iload_n 3, 1) := by decide +kernel
theorem x57_47 {sc : aSc} {d : Nat} {r : aRes} {a0 : Value} {a1 : Value} {a2 : Value} {x3 : Int32} {a4 : Value} {a5 : Value} {st : List Value} {σ : aS} : Rn sc d 57 47 [a0, a1, a2, .int x3, a4, a5] st σ r ↔ Rn sc d 57 48 [a0, a1, a2, .int x3, a4, a5] (.int x3 :: st) σ r := r_iload_n d57_47 rfl
theorem d57_48 : decode (mC 57) 48 = .ok (.ifCond .eq 8, 3) := by decide +kernel
theorem x57_48 {sc : aSc} {d : Nat} {r : aRes} {L : List Value} {st : List Value} {σ : aS} {x : Int32} : Rn sc d 57 48 L (.int x :: st) σ r ↔ if x = 0 then Rn sc d 57 56 L st σ r else Rn sc d 57 51 L st σ r := r_if_eq d57_48 rfl
theorem d57_51 : decode (mC 57) 51 = .ok (.ldc 37, 2) := by decide +kernel
theorem x57_51 {sc : aSc} {d : Nat} {r : aRes} {L : List Value} {st : List Value} {σ : aS} : Rn sc d 57 51 L st σ r ↔ Rn sc d 57 53 L (.ref 5 :: st) σ r := r_ldc d57_51 (i := 0) rfl
theorem d57_53 : decode (mC 57) 53 = .ok (.goto 24, 3) := by decide +kernel
theorem x57_53 {sc : aSc} {d : Nat} {r : aRes} {L : List Value} {st : List Value} {σ : aS} : Rn sc d 57 53 L st σ r ↔ Rn sc d 57 77 L st σ r := r_goto d57_53 rfl
theorem d57_56 : decode (mC 57) 56 = .ok (.iload_n 2, 1) := by decide +kernel
theorem x57_56 {sc : aSc} {d : Nat} {r : aRes} {a0 : Value} {a1 : Value} {x2 : Int32} {a3 : Value} {a4 : Value} {a5 : Value} {st : List Value} {σ : aS} : Rn sc d 57 56 [a0, a1, .int x2, a3, a4, a5] st σ r ↔ Rn sc d 57 57 [a0, a1, .int x2, a3, a4, a5] (.int x2 :: st) σ r := r_iload_n d57_56 rfl
theorem d57_57 : decode (mC 57) 57 = .ok (.ifCond .eq 8, 3) := by decide +kernel
theorem x57_57 {sc : aSc} {d : Nat} {r : aRes} {L : List Value} {st : List Value} {σ : aS} {x : Int32} : Rn sc d 57 57 L (.int x :: st) σ r ↔ if x = 0 then Rn sc d 57 65 L st σ r else Rn sc d 57 60 L st σ r := r_if_eq d57_57 rfl
theorem d57_60 : decode (mC 57) 60 = .ok (.ldc 39, 2) := by decide +kernel
theorem x57_60 {sc : aSc} {d : Nat} {r : aRes} {L : List Value} {st : List Value} {σ : aS} : Rn sc d 57 60 L st σ r ↔ Rn sc d 57 62 L (.ref 6 :: st) σ r := r_ldc d57_60 (i := 1) rfl
theorem d57_62 : decode (mC 57) 62 = .ok (.goto 15, 3) := by decide +kernel
theorem x57_62 {sc : aSc} {d : Nat} {r : aRes} {L : List Value} {st : List Value} {σ : aS} : Rn sc d 57 62 L st σ r ↔ Rn sc d 57 77 L st σ r := r_goto d57_62 rfl
theorem d57_65 : decode (mC 57) 65 = .ok (.iload 4, 2) := by decide +kernel
theorem x57_65 {sc : aSc} {d : Nat} {r : aRes} {a0 : Value} {a1 : Value} {a2 : Value} {a3 : Value} {x4 : Int32} {a5 : Value} {st : List Value} {σ : aS} : Rn sc d 57 65 [a0, a1, a2, a3, .int x4, a5] st σ r ↔ Rn sc d 57 67 [a0, a1, a2, a3, .int x4, a5] (.int x4 :: st) σ r := r_iload d57_65 rfl
theorem d57_67 : decode (mC 57) 67 = .ok (.ifCond .eq 8, 3) := by decide +kernel
theorem x57_67 {sc : aSc} {d : Nat} {r : aRes} {L : List Value} {st : List Value} {σ : aS} {x : Int32} : Rn sc d 57 67 L (.int x :: st) σ r ↔ if x = 0 then Rn sc d 57 75 L st σ r else Rn sc d 57 70 L st σ r := r_if_eq d57_67 rfl
theorem d57_70 : decode (mC 57) 70 = .ok (.ldc 41, 2) := by decide +kernel
theorem x57_70 {sc : aSc} {d : Nat} {r : aRes} {L : List Value} {st : List Value} {σ : aS} : Rn sc d 57 70 L st σ r ↔ Rn sc d 57 72 L (.ref 7 :: st) σ r := r_ldc d57_70 (i := 2) rfl
theorem d57_72 : decode (mC 57) 72 = .ok (.goto 5, 3) := by decide +kernel
theorem x57_72 {sc : aSc} {d : Nat} {r : aRes} {L : List Value} {st : List Value} {σ : aS} : Rn sc d 57 72 L st σ r ↔ Rn sc d 57 77 L st σ r := r_goto d57_72 rfl
theorem d57_75 : decode (mC 57) 75 = .ok (.ldc 43, 2) := by decide +kernel
theorem x57_75 {sc : aSc} {d : Nat} {r : aRes} {L : List Value} {st : List Value} {σ : aS} : Rn sc d 57 75 L st σ r ↔ Rn sc d 57 77 L (.ref 8 :: st) σ r := r_ldc d57_75 (i := 3) rfl
theorem d57_77 : decode (mC 57) 77 = .ok (.invokevirtual 45, 3) := by decide +kernel
theorem x57_77 {sc : aSc} {d : Nat} {r : aRes} {L : List Value} {f : Nat → Nat → Int32} {g : Nat → Nat → Int64} {h1 h2 : Nat} {y0 : Nat}  {o : Nat} (hK : KK[o]? = some (.inl 5)) : Rn sc d 57 77 L [.ref y0, .ref o] (cS f g h1 h2) r ↔ ∃ (σ3 : aS) (v : Option Value), Cl sc d 63 [.ref o, .ref y0] (cS f g h1 h2) (σ3, v) ∧ Rn sc d 57 80 L (v.toList ++ []) σ3 r := r_callV (vs := [.ref y0]) d57_77 (j := 63) rfl ⟨rfl, by decide, rfl, rfl⟩ (Nat.le_of_ble_eq_true rfl) hK
theorem d57_80 : decode (mC 57) 80 = .ok (.ifCond .ne 5, 3) := by decide +kernel
theorem x57_80 {sc : aSc} {d : Nat} {r : aRes} {L : List Value} {st : List Value} {σ : aS} {x : Int32} : Rn sc d 57 80 L (.int x :: st) σ r ↔ if x = 0 then Rn sc d 57 83 L st σ r else Rn sc d 57 85 L st σ r := r_if_ne d57_80 rfl
theorem d57_83 : decode (mC 57) 83 = .ok (.iconst 0, 1) := by decide +kernel
theorem x57_83 {sc : aSc} {d : Nat} {r : aRes} {L : List Value} {st : List Value} {σ : aS} : Rn sc d 57 83 L st σ r ↔ Rn sc d 57 84 L (.int 0 :: st) σ r := r_iconst d57_83 (by decide)
theorem d57_84 : decode (mC 57) 84 = .ok (.ireturn, 1) := by decide +kernel
theorem x57_84 {sc : aSc} {d : Nat} {r : aRes} {L : List Value} {σ : aS} {x : Int32} (hn : x &&& 1 = x) : Rn sc d 57 84 L [.int x] σ r ↔ r = (σ, some (.int x)) := r_iret d57_84 rfl (congrArg Value.int hn)
theorem d57_85 : decode (mC 57) 85 = .ok (.aload_n 0, 1) := by decide +kernel
theorem x57_85 {sc : aSc} {d : Nat} {r : aRes} {x0 : Nat} {a1 : Value} {a2 : Value} {a3 : Value} {a4 : Value} {a5 : Value} {st : List Value} {σ : aS} : Rn sc d 57 85 [.ref x0, a1, a2, a3, a4, a5] st σ r ↔ Rn sc d 57 86 [.ref x0, a1, a2, a3, a4, a5] (.ref x0 :: st) σ r := r_aload_n d57_85 rfl
theorem d57_86 : decode (mC 57) 86 = .ok (.invokevirtual 49, 3) := by decide +kernel
theorem x57_86 {sc : aSc} {d : Nat} {r : aRes} {L : List Value} {f : Nat → Nat → Int32} {g : Nat → Nat → Int64} {h1 h2 : Nat}   {o : Nat} (hK : KK[o]? = some (.inl 5)) : Rn sc d 57 86 L [.ref o] (cS f g h1 h2) r ↔ ∃ (σ3 : aS) (v : Option Value), Cl sc d 61 [.ref o] (cS f g h1 h2) (σ3, v) ∧ Rn sc d 57 89 L (v.toList ++ []) σ3 r := r_callV (vs := []) d57_86 (j := 61) rfl ⟨rfl, by decide, rfl, rfl⟩ (Nat.le_of_ble_eq_true rfl) hK
theorem d57_89 : decode (mC 57) 89 = .ok (.istore 5, 2) := by decide +kernel
theorem x57_89 {sc : aSc} {d : Nat} {r : aRes} {a0 : Value} {a1 : Value} {a2 : Value} {a3 : Value} {x4 : Int32} {a5 : Value} {st : List Value} {σ : aS} {y : Int32} : Rn sc d 57 89 [a0, a1, a2, a3, .int x4, a5] (.int y :: st) σ r ↔ Rn sc d 57 91 [a0, a1, a2, a3, .int x4, .int y] st σ r := r_istore d57_89 (Nat.le_of_ble_eq_true rfl) rfl
theorem d57_91 : decode (mC 57) 91 = .ok (.iload 5, 2) := by decide +kernel
theorem x57_91 {sc : aSc} {d : Nat} {r : aRes} {a0 : Value} {a1 : Value} {a2 : Value} {a3 : Value} {a4 : Value} {x5 : Int32} {st : List Value} {σ : aS} : Rn sc d 57 91 [a0, a1, a2, a3, a4, .int x5] st σ r ↔ Rn sc d 57 93 [a0, a1, a2, a3, a4, .int x5] (.int x5 :: st) σ r := r_iload d57_91 rfl
theorem d57_93 : decode (mC 57) 93 = .ok (.iconst (-1), 1) := by decide +kernel
theorem x57_93 {sc : aSc} {d : Nat} {r : aRes} {L : List Value} {st : List Value} {σ : aS} : Rn sc d 57 93 L st σ r ↔ Rn sc d 57 94 L (.int (-1) :: st) σ r := r_iconst d57_93 (by decide)
theorem d57_94 : decode (mC 57) 94 = .ok (.if_icmp .ne 5, 3) := by decide +kernel
theorem x57_94 {sc : aSc} {d : Nat} {r : aRes} {L : List Value} {st : List Value} {σ : aS} {x y : Int32} : Rn sc d 57 94 L (.int y :: .int x :: st) σ r ↔ if x = y then Rn sc d 57 97 L st σ r else Rn sc d 57 99 L st σ r := r_icmp_ne d57_94 rfl
theorem d57_97 : decode (mC 57) 97 = .ok (.iconst 0, 1) := by decide +kernel
theorem x57_97 {sc : aSc} {d : Nat} {r : aRes} {L : List Value} {st : List Value} {σ : aS} : Rn sc d 57 97 L st σ r ↔ Rn sc d 57 98 L (.int 0 :: st) σ r := r_iconst d57_97 (by decide)
theorem d57_98 : decode (mC 57) 98 = .ok (.ireturn, 1) := by decide +kernel
theorem x57_98 {sc : aSc} {d : Nat} {r : aRes} {L : List Value} {σ : aS} {x : Int32} (hn : x &&& 1 = x) : Rn sc d 57 98 L [.int x] σ r ↔ r = (σ, some (.int x)) := r_iret d57_98 rfl (congrArg Value.int hn)
theorem d57_99 : decode (mC 57) 99 = .ok (.iload_n 2, 1) := by decide +kernel
theorem x57_99 {sc : aSc} {d : Nat} {r : aRes} {a0 : Value} {a1 : Value} {x2 : Int32} {a3 : Value} {a4 : Value} {a5 : Value} {st : List Value} {σ : aS} : Rn sc d 57 99 [a0, a1, .int x2, a3, a4, a5] st σ r ↔ Rn sc d 57 100 [a0, a1, .int x2, a3, a4, a5] (.int x2 :: st) σ r := r_iload_n d57_99 rfl
theorem d57_100 : decode (mC 57) 100 = .ok (.ifCond .eq 42, 3) := by decide +kernel
theorem x57_100 {sc : aSc} {d : Nat} {r : aRes} {L : List Value} {st : List Value} {σ : aS} {x : Int32} : Rn sc d 57 100 L (.int x :: st) σ r ↔ if x = 0 then Rn sc d 57 142 L st σ r else Rn sc d 57 103 L st σ r := r_if_eq d57_100 rfl
theorem d57_103 : decode (mC 57) 103 = .ok (.aload_n 0, 1) := by decide +kernel
theorem x57_103 {sc : aSc} {d : Nat} {r : aRes} {x0 : Nat} {a1 : Value} {a2 : Value} {a3 : Value} {a4 : Value} {a5 : Value} {st : List Value} {σ : aS} : Rn sc d 57 103 [.ref x0, a1, a2, a3, a4, a5] st σ r ↔ Rn sc d 57 104 [.ref x0, a1, a2, a3, a4, a5] (.ref x0 :: st) σ r := r_aload_n d57_103 rfl
theorem d57_104 : decode (mC 57) 104 = .ok (.bipush 32, 2) := by decide +kernel
theorem x57_104 {sc : aSc} {d : Nat} {r : aRes} {L : List Value} {st : List Value} {σ : aS} : Rn sc d 57 104 L st σ r ↔ Rn sc d 57 106 L (.int 32 :: st) σ r := r_bipush d57_104 (by decide)
theorem d57_106 : decode (mC 57) 106 = .ok (.invokevirtual 33, 3) := by decide +kernel
theorem x57_106 {sc : aSc} {d : Nat} {r : aRes} {L : List Value} {f : Nat → Nat → Int32} {g : Nat → Nat → Int64} {h1 h2 : Nat} {y0 : Int32}  {o : Nat} (hK : KK[o]? = some (.inl 5)) : Rn sc d 57 106 L [.int y0, .ref o] (cS f g h1 h2) r ↔ ∃ (σ3 : aS) (v : Option Value), Cl sc d 62 [.ref o, .int y0] (cS f g h1 h2) (σ3, v) ∧ Rn sc d 57 109 L (v.toList ++ []) σ3 r := r_callV (vs := [.int y0]) d57_106 (j := 62) rfl ⟨rfl, by decide, rfl, rfl⟩ (Nat.le_of_ble_eq_true rfl) hK
theorem d57_109 : decode (mC 57) 109 = .ok (.ifCond .eq 12, 3) := by decide +kernel
theorem x57_109 {sc : aSc} {d : Nat} {r : aRes} {L : List Value} {st : List Value} {σ : aS} {x : Int32} : Rn sc d 57 109 L (.int x :: st) σ r ↔ if x = 0 then Rn sc d 57 121 L st σ r else Rn sc d 57 112 L st σ r := r_if_eq d57_109 rfl
theorem d57_112 : decode (mC 57) 112 = .ok (.aload_n 0, 1) := by decide +kernel
theorem x57_112 {sc : aSc} {d : Nat} {r : aRes} {x0 : Nat} {a1 : Value} {a2 : Value} {a3 : Value} {a4 : Value} {a5 : Value} {st : List Value} {σ : aS} : Rn sc d 57 112 [.ref x0, a1, a2, a3, a4, a5] st σ r ↔ Rn sc d 57 113 [.ref x0, a1, a2, a3, a4, a5] (.ref x0 :: st) σ r := r_aload_n d57_112 rfl
theorem d57_113 : decode (mC 57) 113 = .ok (.aload_n 1, 1) := by decide +kernel
theorem x57_113 {sc : aSc} {d : Nat} {r : aRes} {a0 : Value} {x1 : Nat} {a2 : Value} {a3 : Value} {a4 : Value} {a5 : Value} {st : List Value} {σ : aS} : Rn sc d 57 113 [a0, .ref x1, a2, a3, a4, a5] st σ r ↔ Rn sc d 57 114 [a0, .ref x1, a2, a3, a4, a5] (.ref x1 :: st) σ r := r_aload_n d57_113 rfl
theorem d57_114 : decode (mC 57) 114 = .ok (.iconst 0, 1) := by decide +kernel
theorem x57_114 {sc : aSc} {d : Nat} {r : aRes} {L : List Value} {st : List Value} {σ : aS} : Rn sc d 57 114 L st σ r ↔ Rn sc d 57 115 L (.int 0 :: st) σ r := r_iconst d57_114 (by decide)
theorem d57_115 : decode (mC 57) 115 = .ok (.invokevirtual 52, 3) := by decide +kernel
theorem x57_115 {sc : aSc} {d : Nat} {r : aRes} {L : List Value} {f : Nat → Nat → Int32} {g : Nat → Nat → Int64} {h1 h2 : Nat} {y0 : Int32} {y1 : Nat}  {o : Nat} (hK : KK[o]? = some (.inl 5)) : Rn sc d 57 115 L [.int y0, .ref y1, .ref o] (cS f g h1 h2) r ↔ ∃ (σ3 : aS) (v : Option Value), Cl sc d 58 [.ref o, .ref y1, .int y0] (cS f g h1 h2) (σ3, v) ∧ Rn sc d 57 118 L (v.toList ++ []) σ3 r := r_callV (vs := [.int y0, .ref y1]) d57_115 (j := 58) rfl ⟨rfl, by decide, rfl, rfl⟩ (Nat.le_of_ble_eq_true rfl) hK
theorem d57_118 : decode (mC 57) 118 = .ok (.ifCond .ne 5, 3) := by decide +kernel
theorem x57_118 {sc : aSc} {d : Nat} {r : aRes} {L : List Value} {st : List Value} {σ : aS} {x : Int32} : Rn sc d 57 118 L (.int x :: st) σ r ↔ if x = 0 then Rn sc d 57 121 L st σ r else Rn sc d 57 123 L st σ r := r_if_ne d57_118 rfl
theorem d57_121 : decode (mC 57) 121 = .ok (.iconst 0, 1) := by decide +kernel
theorem x57_121 {sc : aSc} {d : Nat} {r : aRes} {L : List Value} {st : List Value} {σ : aS} : Rn sc d 57 121 L st σ r ↔ Rn sc d 57 122 L (.int 0 :: st) σ r := r_iconst d57_121 (by decide)
theorem d57_122 : decode (mC 57) 122 = .ok (.ireturn, 1) := by decide +kernel
theorem x57_122 {sc : aSc} {d : Nat} {r : aRes} {L : List Value} {σ : aS} {x : Int32} (hn : x &&& 1 = x) : Rn sc d 57 122 L [.int x] σ r ↔ r = (σ, some (.int x)) := r_iret d57_122 rfl (congrArg Value.int hn)
theorem d57_123 : decode (mC 57) 123 = .ok (.aload_n 1, 1) := by decide +kernel
theorem x57_123 {sc : aSc} {d : Nat} {r : aRes} {a0 : Value} {x1 : Nat} {a2 : Value} {a3 : Value} {a4 : Value} {a5 : Value} {st : List Value} {σ : aS} : Rn sc d 57 123 [a0, .ref x1, a2, a3, a4, a5] st σ r ↔ Rn sc d 57 124 [a0, .ref x1, a2, a3, a4, a5] (.ref x1 :: st) σ r := r_aload_n d57_123 rfl
theorem d57_124 : decode (mC 57) 124 = .ok (.iload_n 3, 1) := by decide +kernel
theorem x57_124 {sc : aSc} {d : Nat} {r : aRes} {a0 : Value} {a1 : Value} {a2 : Value} {x3 : Int32} {a4 : Value} {a5 : Value} {st : List Value} {σ : aS} : Rn sc d 57 124 [a0, a1, a2, .int x3, a4, a5] st σ r ↔ Rn sc d 57 125 [a0, a1, a2, .int x3, a4, a5] (.int x3 :: st) σ r := r_iload_n d57_124 rfl
theorem d57_125 : decode (mC 57) 125 = .ok (.ifCond .eq 9, 3) := by decide +kernel
theorem x57_125 {sc : aSc} {d : Nat} {r : aRes} {L : List Value} {st : List Value} {σ : aS} {x : Int32} : Rn sc d 57 125 L (.int x :: st) σ r ↔ if x = 0 then Rn sc d 57 134 L st σ r else Rn sc d 57 128 L st σ r := r_if_eq d57_125 rfl
theorem d57_128 : decode (mC 57) 128 = .ok (.iload 5, 2) := by decide +kernel
theorem x57_128 {sc : aSc} {d : Nat} {r : aRes} {a0 : Value} {a1 : Value} {a2 : Value} {a3 : Value} {a4 : Value} {x5 : Int32} {st : List Value} {σ : aS} : Rn sc d 57 128 [a0, a1, a2, a3, a4, .int x5] st σ r ↔ Rn sc d 57 130 [a0, a1, a2, a3, a4, .int x5] (.int x5 :: st) σ r := r_iload d57_128 rfl
theorem d57_130 : decode (mC 57) 130 = .ok (.ineg, 1) := by decide +kernel
theorem x57_130 {sc : aSc} {d : Nat} {r : aRes} {L : List Value} {st : List Value} {σ : aS} {x : Int32} : Rn sc d 57 130 L (.int x :: st) σ r ↔ Rn sc d 57 131 L (.int (-x) :: st) σ r := r_ineg d57_130
theorem d57_131 : decode (mC 57) 131 = .ok (.goto 5, 3) := by decide +kernel
theorem x57_131 {sc : aSc} {d : Nat} {r : aRes} {L : List Value} {st : List Value} {σ : aS} : Rn sc d 57 131 L st σ r ↔ Rn sc d 57 136 L st σ r := r_goto d57_131 rfl
theorem d57_134 : decode (mC 57) 134 = .ok (.iload 5, 2) := by decide +kernel
theorem x57_134 {sc : aSc} {d : Nat} {r : aRes} {a0 : Value} {a1 : Value} {a2 : Value} {a3 : Value} {a4 : Value} {x5 : Int32} {st : List Value} {σ : aS} : Rn sc d 57 134 [a0, a1, a2, a3, a4, .int x5] st σ r ↔ Rn sc d 57 136 [a0, a1, a2, a3, a4, .int x5] (.int x5 :: st) σ r := r_iload d57_134 rfl
theorem d57_136 : decode (mC 57) 136 = .ok (.invokevirtual 56, 3) := by decide +kernel
theorem x57_136 {sc : aSc} {d : Nat} {r : aRes} {L : List Value} {f : Nat → Nat → Int32} {g : Nat → Nat → Int64} {h1 h2 : Nat} {y0 : Int32}  {o : Nat} (hK : KK[o]? = some (.inl 2)) : Rn sc d 57 136 L [.int y0, .ref o] (cS f g h1 h2) r ↔ ∃ (σ3 : aS) (v : Option Value), Cl sc d 27 [.ref o, .int y0] (cS f g h1 h2) (σ3, v) ∧ Rn sc d 57 139 L (v.toList ++ []) σ3 r := r_callV (vs := [.int y0]) d57_136 (j := 27) rfl ⟨rfl, by decide, rfl, rfl⟩ (Nat.le_of_ble_eq_true rfl) hK
theorem d57_139 : decode (mC 57) 139 = .ok (.goto 26, 3) := by decide +kernel
theorem x57_139 {sc : aSc} {d : Nat} {r : aRes} {L : List Value} {st : List Value} {σ : aS} : Rn sc d 57 139 L st σ r ↔ Rn sc d 57 165 L st σ r := r_goto d57_139 rfl
theorem d57_142 : decode (mC 57) 142 = .ok (.iload 4, 2) := by decide +kernel
theorem x57_142 {sc : aSc} {d : Nat} {r : aRes} {a0 : Value} {a1 : Value} {a2 : Value} {a3 : Value} {x4 : Int32} {a5 : Value} {st : List Value} {σ : aS} : Rn sc d 57 142 [a0, a1, a2, a3, .int x4, a5] st σ r ↔ Rn sc d 57 144 [a0, a1, a2, a3, .int x4, a5] (.int x4 :: st) σ r := r_iload d57_142 rfl
theorem d57_144 : decode (mC 57) 144 = .ok (.ifCond .eq 15, 3) := by decide +kernel
theorem x57_144 {sc : aSc} {d : Nat} {r : aRes} {L : List Value} {st : List Value} {σ : aS} {x : Int32} : Rn sc d 57 144 L (.int x :: st) σ r ↔ if x = 0 then Rn sc d 57 159 L st σ r else Rn sc d 57 147 L st σ r := r_if_eq d57_144 rfl
theorem d57_147 : decode (mC 57) 147 = .ok (.aload_n 1, 1) := by decide +kernel
theorem x57_147 {sc : aSc} {d : Nat} {r : aRes} {a0 : Value} {x1 : Nat} {a2 : Value} {a3 : Value} {a4 : Value} {a5 : Value} {st : List Value} {σ : aS} : Rn sc d 57 147 [a0, .ref x1, a2, a3, a4, a5] st σ r ↔ Rn sc d 57 148 [a0, .ref x1, a2, a3, a4, a5] (.ref x1 :: st) σ r := r_aload_n d57_147 rfl
theorem d57_148 : decode (mC 57) 148 = .ok (.bipush 10, 2) := by decide +kernel
theorem x57_148 {sc : aSc} {d : Nat} {r : aRes} {L : List Value} {st : List Value} {σ : aS} : Rn sc d 57 148 L st σ r ↔ Rn sc d 57 150 L (.int 10 :: st) σ r := r_bipush d57_148 (by decide)
theorem d57_150 : decode (mC 57) 150 = .ok (.iload 5, 2) := by decide +kernel
theorem x57_150 {sc : aSc} {d : Nat} {r : aRes} {a0 : Value} {a1 : Value} {a2 : Value} {a3 : Value} {a4 : Value} {x5 : Int32} {st : List Value} {σ : aS} : Rn sc d 57 150 [a0, a1, a2, a3, a4, .int x5] st σ r ↔ Rn sc d 57 152 [a0, a1, a2, a3, a4, .int x5] (.int x5 :: st) σ r := r_iload d57_150 rfl
theorem d57_152 : decode (mC 57) 152 = .ok (.imul, 1) := by decide +kernel
theorem x57_152 {sc : aSc} {d : Nat} {r : aRes} {L : List Value} {st : List Value} {σ : aS} {x y : Int32} : Rn sc d 57 152 L (.int y :: .int x :: st) σ r ↔ Rn sc d 57 153 L (.int (x * y) :: st) σ r := r_imul d57_152
theorem d57_153 : decode (mC 57) 153 = .ok (.putfield 60, 3) := by decide +kernel
theorem x57_153 {sc : aSc} {d : Nat} {r : aRes} {L : List Value} {st : List Value} {f : Nat → Nat → Int32} {g : Nat → Nat → Int64} {h1 h2 : Nat} {o : Nat} {v : Int32} (h17 : 17 ≤ o) (hK : KK[o]? = some (.inl 2)) : Rn sc d 57 153 L (.int v :: .ref o :: st) (cS f g h1 h2) r ↔ Rn sc d 57 156 L st (cS (u2 f o 1 v) g h1 h2) r := r_putI d57_153 (ci := 2) (k := 1) rfl (by decide) h17 hK
theorem d57_156 : decode (mC 57) 156 = .ok (.goto 9, 3) := by decide +kernel
theorem x57_156 {sc : aSc} {d : Nat} {r : aRes} {L : List Value} {st : List Value} {σ : aS} : Rn sc d 57 156 L st σ r ↔ Rn sc d 57 165 L st σ r := r_goto d57_156 rfl
theorem d57_159 : decode (mC 57) 159 = .ok (.aload_n 1, 1) := by decide +kernel
theorem x57_159 {sc : aSc} {d : Nat} {r : aRes} {a0 : Value} {x1 : Nat} {a2 : Value} {a3 : Value} {a4 : Value} {a5 : Value} {st : List Value} {σ : aS} : Rn sc d 57 159 [a0, .ref x1, a2, a3, a4, a5] st σ r ↔ Rn sc d 57 160 [a0, .ref x1, a2, a3, a4, a5] (.ref x1 :: st) σ r := r_aload_n d57_159 rfl
theorem d57_160 : decode (mC 57) 160 = .ok (.iload 5, 2) := by decide +kernel
theorem x57_160 {sc : aSc} {d : Nat} {r : aRes} {a0 : Value} {a1 : Value} {a2 : Value} {a3 : Value} {a4 : Value} {x5 : Int32} {st : List Value} {σ : aS} : Rn sc d 57 160 [a0, a1, a2, a3, a4, .int x5] st σ r ↔ Rn sc d 57 162 [a0, a1, a2, a3, a4, .int x5] (.int x5 :: st) σ r := r_iload d57_160 rfl
theorem d57_162 : decode (mC 57) 162 = .ok (.putfield 63, 3) := by decide +kernel
theorem x57_162 {sc : aSc} {d : Nat} {r : aRes} {L : List Value} {st : List Value} {f : Nat → Nat → Int32} {g : Nat → Nat → Int64} {h1 h2 : Nat} {o : Nat} {v : Int32} (h17 : 17 ≤ o) (hK : KK[o]? = some (.inl 2)) : Rn sc d 57 162 L (.int v :: .ref o :: st) (cS f g h1 h2) r ↔ Rn sc d 57 165 L st (cS (u2 f o 0 v) g h1 h2) r := r_putI d57_162 (ci := 2) (k := 0) rfl (by decide) h17 hK
theorem d57_165 : decode (mC 57) 165 = .ok (.iconst 1, 1) := by decide +kernel
theorem x57_165 {sc : aSc} {d : Nat} {r : aRes} {L : List Value} {st : List Value} {σ : aS} : Rn sc d 57 165 L st σ r ↔ Rn sc d 57 166 L (.int 1 :: st) σ r := r_iconst d57_165 (by decide)
theorem d57_166 : decode (mC 57) 166 = .ok (.ireturn, 1) := by decide +kernel
theorem x57_166 {sc : aSc} {d : Nat} {r : aRes} {L : List Value} {σ : aS} {x : Int32} (hn : x &&& 1 = x) : Rn sc d 57 166 L [.int x] σ r ↔ r = (σ, some (.int x)) := r_iret d57_166 rfl (congrArg Value.int hn)
theorem d58_0 : decode (mC 58) 0 = .ok (.aload_n 0, 1) := by decide +kernel
theorem x58_0 {sc : aSc} {d : Nat} {r : aRes} {x0 : Nat} {a1 : Value} {a2 : Value} {a3 : Value} {st : List Value} {σ : aS} : Rn sc d 58 0 [.ref x0, a1, a2, a3] st σ r ↔ Rn sc d 58 1 [.ref x0, a1, a2, a3] (.ref x0 :: st) σ r := r_aload_n d58_0 rfl
theorem d58_1 : decode (mC 58) 1 = .ok (.aload_n 1, 1) := by decide +kernel
theorem x58_1 {sc : aSc} {d : Nat} {r : aRes} {a0 : Value} {x1 : Nat} {a2 : Value} {a3 : Value} {st : List Value} {σ : aS} : Rn sc d 58 1 [a0, .ref x1, a2, a3] st σ r ↔ Rn sc d 58 2 [a0, .ref x1, a2, a3] (.ref x1 :: st) σ r := r_aload_n d58_1 rfl
theorem d58_2 : decode (mC 58) 2 = .ok (.iload_n 2, 1) := by decide +kernel
theorem x58_2 {sc : aSc} {d : Nat} {r : aRes} {a0 : Value} {a1 : Value} {x2 : Int32} {a3 : Value} {st : List Value} {σ : aS} : Rn sc d 58 2 [a0, a1, .int x2, a3] st σ r ↔ Rn sc d 58 3 [a0, a1, .int x2, a3] (.int x2 :: st) σ r := r_iload_n d58_2 rfl
theorem d58_3 : decode (mC 58) 3 = .ok (.invokevirtual 66, 3) := by decide +kernel
theorem x58_3 {sc : aSc} {d : Nat} {r : aRes} {L : List Value} {f : Nat → Nat → Int32} {g : Nat → Nat → Int64} {h1 h2 : Nat} {y0 : Int32} {y1 : Nat}  {o : Nat} (hK : KK[o]? = some (.inl 5)) : Rn sc d 58 3 L [.int y0, .ref y1, .ref o] (cS f g h1 h2) r ↔ ∃ (σ3 : aS) (v : Option Value), Cl sc d 59 [.ref o, .ref y1, .int y0] (cS f g h1 h2) (σ3, v) ∧ Rn sc d 58 6 L (v.toList ++ []) σ3 r := r_callV (vs := [.int y0, .ref y1]) d58_3 (j := 59) rfl ⟨rfl, by decide, rfl, rfl⟩ (Nat.le_of_ble_eq_true rfl) hK
theorem d58_6 : decode (mC 58) 6 = .ok (.ifCond .ne 5, 3) := by decide +kernel
theorem x58_6 {sc : aSc} {d : Nat} {r : aRes} {L : List Value} {st : List Value} {σ : aS} {x : Int32} : Rn sc d 58 6 L (.int x :: st) σ r ↔ if x = 0 then Rn sc d 58 9 L st σ r else Rn sc d 58 11 L st σ r := r_if_ne d58_6 rfl
theorem d58_9 : decode (mC 58) 9 = .ok (.iconst 0, 1) := by decide +kernel
theorem x58_9 {sc : aSc} {d : Nat} {r : aRes} {L : List Value} {st : List Value} {σ : aS} : Rn sc d 58 9 L st σ r ↔ Rn sc d 58 10 L (.int 0 :: st) σ r := r_iconst d58_9 (by decide)
theorem d58_10 : decode (mC 58) 10 = .ok (.ireturn, 1) := by decide +kernel
theorem x58_10 {sc : aSc} {d : Nat} {r : aRes} {L : List Value} {σ : aS} {x : Int32} (hn : x &&& 1 = x) : Rn sc d 58 10 L [.int x] σ r ↔ r = (σ, some (.int x)) := r_iret d58_10 rfl (congrArg Value.int hn)
theorem d58_11 : decode (mC 58) 11 = .ok (.iconst 0, 1) := by decide +kernel
theorem x58_11 {sc : aSc} {d : Nat} {r : aRes} {L : List Value} {st : List Value} {σ : aS} : Rn sc d 58 11 L st σ r ↔ Rn sc d 58 12 L (.int 0 :: st) σ r := r_iconst d58_11 (by decide)
theorem d58_12 : decode (mC 58) 12 = .ok (.istore_n 3, 1) := by decide +kernel
theorem x58_12 {sc : aSc} {d : Nat} {r : aRes} {a0 : Value} {a1 : Value} {x2 : Int32} {a3 : Value} {st : List Value} {σ : aS} {y : Int32} : Rn sc d 58 12 [a0, a1, .int x2, a3] (.int y :: st) σ r ↔ Rn sc d 58 13 [a0, a1, .int x2, .int y] st σ r := r_istore_n d58_12 (Nat.le_of_ble_eq_true rfl) rfl
theorem d58_13 : decode (mC 58) 13 = .ok (.iload_n 3, 1) := by decide +kernel
theorem x58_13 {sc : aSc} {d : Nat} {r : aRes} {a0 : Value} {a1 : Value} {a2 : Value} {x3 : Int32} {st : List Value} {σ : aS} : Rn sc d 58 13 [a0, a1, a2, .int x3] st σ r ↔ Rn sc d 58 14 [a0, a1, a2, .int x3] (.int x3 :: st) σ r := r_iload_n d58_13 rfl
theorem d58_14 : decode (mC 58) 14 = .ok (.bipush 100, 2) := by decide +kernel
theorem x58_14 {sc : aSc} {d : Nat} {r : aRes} {L : List Value} {st : List Value} {σ : aS} : Rn sc d 58 14 L st σ r ↔ Rn sc d 58 16 L (.int 100 :: st) σ r := r_bipush d58_14 (by decide)
theorem d58_16 : decode (mC 58) 16 = .ok (.if_icmp .ge 35, 3) := by decide +kernel
theorem x58_16 {sc : aSc} {d : Nat} {r : aRes} {L : List Value} {st : List Value} {σ : aS} {x y : Int32} : Rn sc d 58 16 L (.int y :: .int x :: st) σ r ↔ if x < y then Rn sc d 58 19 L st σ r else Rn sc d 58 51 L st σ r := r_icmp_ge d58_16 rfl
theorem d58_19 : decode (mC 58) 19 = .ok (.aload_n 0, 1) := by decide +kernel
theorem x58_19 {sc : aSc} {d : Nat} {r : aRes} {x0 : Nat} {a1 : Value} {a2 : Value} {a3 : Value} {st : List Value} {σ : aS} : Rn sc d 58 19 [.ref x0, a1, a2, a3] st σ r ↔ Rn sc d 58 20 [.ref x0, a1, a2, a3] (.ref x0 :: st) σ r := r_aload_n d58_19 rfl
theorem d58_20 : decode (mC 58) 20 = .ok (.bipush 124, 2) := by decide +kernel
theorem x58_20 {sc : aSc} {d : Nat} {r : aRes} {L : List Value} {st : List Value} {σ : aS} : Rn sc d 58 20 L st σ r ↔ Rn sc d 58 22 L (.int 124 :: st) σ r := r_bipush d58_20 (by decide)
theorem d58_22 : decode (mC 58) 22 = .ok (.invokevirtual 33, 3) := by decide +kernel
theorem x58_22 {sc : aSc} {d : Nat} {r : aRes} {L : List Value} {f : Nat → Nat → Int32} {g : Nat → Nat → Int64} {h1 h2 : Nat} {y0 : Int32}  {o : Nat} (hK : KK[o]? = some (.inl 5)) : Rn sc d 58 22 L [.int y0, .ref o] (cS f g h1 h2) r ↔ ∃ (σ3 : aS) (v : Option Value), Cl sc d 62 [.ref o, .int y0] (cS f g h1 h2) (σ3, v) ∧ Rn sc d 58 25 L (v.toList ++ []) σ3 r := r_callV (vs := [.int y0]) d58_22 (j := 62) rfl ⟨rfl, by decide, rfl, rfl⟩ (Nat.le_of_ble_eq_true rfl) hK
theorem d58_25 : decode (mC 58) 25 = .ok (.ifCond .eq 26, 3) := by decide +kernel
theorem x58_25 {sc : aSc} {d : Nat} {r : aRes} {L : List Value} {st : List Value} {σ : aS} {x : Int32} : Rn sc d 58 25 L (.int x :: st) σ r ↔ if x = 0 then Rn sc d 58 51 L st σ r else Rn sc d 58 28 L st σ r := r_if_eq d58_25 rfl
theorem d58_28 : decode (mC 58) 28 = .ok (.aload_n 0, 1) := by decide +kernel
theorem x58_28 {sc : aSc} {d : Nat} {r : aRes} {x0 : Nat} {a1 : Value} {a2 : Value} {a3 : Value} {st : List Value} {σ : aS} : Rn sc d 58 28 [.ref x0, a1, a2, a3] st σ r ↔ Rn sc d 58 29 [.ref x0, a1, a2, a3] (.ref x0 :: st) σ r := r_aload_n d58_28 rfl
theorem d58_29 : decode (mC 58) 29 = .ok (.aload_n 1, 1) := by decide +kernel
theorem x58_29 {sc : aSc} {d : Nat} {r : aRes} {a0 : Value} {x1 : Nat} {a2 : Value} {a3 : Value} {st : List Value} {σ : aS} : Rn sc d 58 29 [a0, .ref x1, a2, a3] st σ r ↔ Rn sc d 58 30 [a0, .ref x1, a2, a3] (.ref x1 :: st) σ r := r_aload_n d58_29 rfl
theorem d58_30 : decode (mC 58) 30 = .ok (.iload_n 2, 1) := by decide +kernel
theorem x58_30 {sc : aSc} {d : Nat} {r : aRes} {a0 : Value} {a1 : Value} {x2 : Int32} {a3 : Value} {st : List Value} {σ : aS} : Rn sc d 58 30 [a0, a1, .int x2, a3] st σ r ↔ Rn sc d 58 31 [a0, a1, .int x2, a3] (.int x2 :: st) σ r := r_iload_n d58_30 rfl
theorem d58_31 : decode (mC 58) 31 = .ok (.invokevirtual 66, 3) := by decide +kernel
theorem x58_31 {sc : aSc} {d : Nat} {r : aRes} {L : List Value} {f : Nat → Nat → Int32} {g : Nat → Nat → Int64} {h1 h2 : Nat} {y0 : Int32} {y1 : Nat}  {o : Nat} (hK : KK[o]? = some (.inl 5)) : Rn sc d 58 31 L [.int y0, .ref y1, .ref o] (cS f g h1 h2) r ↔ ∃ (σ3 : aS) (v : Option Value), Cl sc d 59 [.ref o, .ref y1, .int y0] (cS f g h1 h2) (σ3, v) ∧ Rn sc d 58 34 L (v.toList ++ []) σ3 r := r_callV (vs := [.int y0, .ref y1]) d58_31 (j := 59) rfl ⟨rfl, by decide, rfl, rfl⟩ (Nat.le_of_ble_eq_true rfl) hK
theorem d58_34 : decode (mC 58) 34 = .ok (.ifCond .ne 5, 3) := by decide +kernel
theorem x58_34 {sc : aSc} {d : Nat} {r : aRes} {L : List Value} {st : List Value} {σ : aS} {x : Int32} : Rn sc d 58 34 L (.int x :: st) σ r ↔ if x = 0 then Rn sc d 58 37 L st σ r else Rn sc d 58 39 L st σ r := r_if_ne d58_34 rfl
theorem d58_37 : decode (mC 58) 37 = .ok (.iconst 0, 1) := by decide +kernel
theorem x58_37 {sc : aSc} {d : Nat} {r : aRes} {L : List Value} {st : List Value} {σ : aS} : Rn sc d 58 37 L st σ r ↔ Rn sc d 58 38 L (.int 0 :: st) σ r := r_iconst d58_37 (by decide)
theorem d58_38 : decode (mC 58) 38 = .ok (.ireturn, 1) := by decide +kernel
theorem x58_38 {sc : aSc} {d : Nat} {r : aRes} {L : List Value} {σ : aS} {x : Int32} (hn : x &&& 1 = x) : Rn sc d 58 38 L [.int x] σ r ↔ r = (σ, some (.int x)) := r_iret d58_38 rfl (congrArg Value.int hn)
theorem d58_39 : decode (mC 58) 39 = .ok (.aload_n 1, 1) := by decide +kernel
theorem x58_39 {sc : aSc} {d : Nat} {r : aRes} {a0 : Value} {x1 : Nat} {a2 : Value} {a3 : Value} {st : List Value} {σ : aS} : Rn sc d 58 39 [a0, .ref x1, a2, a3] st σ r ↔ Rn sc d 58 40 [a0, .ref x1, a2, a3] (.ref x1 :: st) σ r := r_aload_n d58_39 rfl
theorem d58_40 : decode (mC 58) 40 = .ok (.bipush (-3), 2) := by decide +kernel
theorem x58_40 {sc : aSc} {d : Nat} {r : aRes} {L : List Value} {st : List Value} {σ : aS} : Rn sc d 58 40 L st σ r ↔ Rn sc d 58 42 L (.int (-3) :: st) σ r := r_bipush d58_40 (by decide)
theorem d58_42 : decode (mC 58) 42 = .ok (.invokevirtual 69, 3) := by decide +kernel
theorem x58_42 {sc : aSc} {d : Nat} {r : aRes} {L : List Value} {f : Nat → Nat → Int32} {g : Nat → Nat → Int64} {h1 h2 : Nat} {y0 : Int32}  {o : Nat} (hK : KK[o]? = some (.inl 2)) : Rn sc d 58 42 L [.int y0, .ref o] (cS f g h1 h2) r ↔ ∃ (σ3 : aS) (v : Option Value), Cl sc d 25 [.ref o, .int y0] (cS f g h1 h2) (σ3, v) ∧ Rn sc d 58 45 L (v.toList ++ []) σ3 r := r_callV (vs := [.int y0]) d58_42 (j := 25) rfl ⟨rfl, by decide, rfl, rfl⟩ (Nat.le_of_ble_eq_true rfl) hK
theorem d58_45 : decode (mC 58) 45 = .ok (.iinc 3 1, 3) := by decide +kernel
theorem x58_45 {sc : aSc} {d : Nat} {r : aRes} {a0 : Value} {a1 : Value} {x2 : Int32} {x3 : Int32} {st : List Value} {σ : aS} : Rn sc d 58 45 [a0, a1, .int x2, .int x3] st σ r ↔ Rn sc d 58 48 [a0, a1, .int x2, .int (x3 + 1)] st σ r := r_iinc d58_45 (Nat.le_of_ble_eq_true rfl) rfl rfl (by decide)
theorem d58_48 : decode (mC 58) 48 = .ok (.goto (-35), 3) := by decide +kernel
theorem x58_48 {sc : aSc} {d : Nat} {r : aRes} {L : List Value} {st : List Value} {σ : aS} : Rn sc d 58 48 L st σ r ↔ Rn sc d 58 13 L st σ r := r_goto d58_48 rfl
theorem d58_51 : decode (mC 58) 51 = .ok (.iconst 1, 1) := by decide +kernel
theorem x58_51 {sc : aSc} {d : Nat} {r : aRes} {L : List Value} {st : List Value} {σ : aS} : Rn sc d 58 51 L st σ r ↔ Rn sc d 58 52 L (.int 1 :: st) σ r := r_iconst d58_51 (by decide)
theorem d58_52 : decode (mC 58) 52 = .ok (.ireturn, 1) := by decide +kernel
theorem x58_52 {sc : aSc} {d : Nat} {r : aRes} {L : List Value} {σ : aS} {x : Int32} (hn : x &&& 1 = x) : Rn sc d 58 52 L [.int x] σ r ↔ r = (σ, some (.int x)) := r_iret d58_52 rfl (congrArg Value.int hn)
theorem d59_0 : decode (mC 59) 0 = .ok (.aload_n 0, 1) := by decide +kernel
theorem x59_0 {sc : aSc} {d : Nat} {r : aRes} {x0 : Nat} {a1 : Value} {a2 : Value} {a3 : Value} {st : List Value} {σ : aS} : Rn sc d 59 0 [.ref x0, a1, a2, a3] st σ r ↔ Rn sc d 59 1 [.ref x0, a1, a2, a3] (.ref x0 :: st) σ r := r_aload_n d59_0 rfl
theorem d59_1 : decode (mC 59) 1 = .ok (.aload_n 1, 1) := by decide +kernel
theorem x59_1 {sc : aSc} {d : Nat} {r : aRes} {a0 : Value} {x1 : Nat} {a2 : Value} {a3 : Value} {st : List Value} {σ : aS} : Rn sc d 59 1 [a0, .ref x1, a2, a3] st σ r ↔ Rn sc d 59 2 [a0, .ref x1, a2, a3] (.ref x1 :: st) σ r := r_aload_n d59_1 rfl
theorem d59_2 : decode (mC 59) 2 = .ok (.iload_n 2, 1) := by decide +kernel
theorem x59_2 {sc : aSc} {d : Nat} {r : aRes} {a0 : Value} {a1 : Value} {x2 : Int32} {a3 : Value} {st : List Value} {σ : aS} : Rn sc d 59 2 [a0, a1, .int x2, a3] st σ r ↔ Rn sc d 59 3 [a0, a1, .int x2, a3] (.int x2 :: st) σ r := r_iload_n d59_2 rfl
theorem d59_3 : decode (mC 59) 3 = .ok (.invokevirtual 72, 3) := by decide +kernel
theorem x59_3 {sc : aSc} {d : Nat} {r : aRes} {L : List Value} {f : Nat → Nat → Int32} {g : Nat → Nat → Int64} {h1 h2 : Nat} {y0 : Int32} {y1 : Nat}  {o : Nat} (hK : KK[o]? = some (.inl 5)) : Rn sc d 59 3 L [.int y0, .ref y1, .ref o] (cS f g h1 h2) r ↔ ∃ (σ3 : aS) (v : Option Value), Cl sc d 60 [.ref o, .ref y1, .int y0] (cS f g h1 h2) (σ3, v) ∧ Rn sc d 59 6 L (v.toList ++ []) σ3 r := r_callV (vs := [.int y0, .ref y1]) d59_3 (j := 60) rfl ⟨rfl, by decide, rfl, rfl⟩ (Nat.le_of_ble_eq_true rfl) hK
theorem d59_6 : decode (mC 59) 6 = .ok (.ifCond .ne 5, 3) := by decide +kernel
theorem x59_6 {sc : aSc} {d : Nat} {r : aRes} {L : List Value} {st : List Value} {σ : aS} {x : Int32} : Rn sc d 59 6 L (.int x :: st) σ r ↔ if x = 0 then Rn sc d 59 9 L st σ r else Rn sc d 59 11 L st σ r := r_if_ne d59_6 rfl
theorem d59_9 : decode (mC 59) 9 = .ok (.iconst 0, 1) := by decide +kernel
theorem x59_9 {sc : aSc} {d : Nat} {r : aRes} {L : List Value} {st : List Value} {σ : aS} : Rn sc d 59 9 L st σ r ↔ Rn sc d 59 10 L (.int 0 :: st) σ r := r_iconst d59_9 (by decide)
theorem d59_10 : decode (mC 59) 10 = .ok (.ireturn, 1) := by decide +kernel
theorem x59_10 {sc : aSc} {d : Nat} {r : aRes} {L : List Value} {σ : aS} {x : Int32} (hn : x &&& 1 = x) : Rn sc d 59 10 L [.int x] σ r ↔ r = (σ, some (.int x)) := r_iret d59_10 rfl (congrArg Value.int hn)
theorem d59_11 : decode (mC 59) 11 = .ok (.iconst 0, 1) := by decide +kernel
theorem x59_11 {sc : aSc} {d : Nat} {r : aRes} {L : List Value} {st : List Value} {σ : aS} : Rn sc d 59 11 L st σ r ↔ Rn sc d 59 12 L (.int 0 :: st) σ r := r_iconst d59_11 (by decide)
theorem d59_12 : decode (mC 59) 12 = .ok (.istore_n 3, 1) := by decide +kernel
theorem x59_12 {sc : aSc} {d : Nat} {r : aRes} {a0 : Value} {a1 : Value} {x2 : Int32} {a3 : Value} {st : List Value} {σ : aS} {y : Int32} : Rn sc d 59 12 [a0, a1, .int x2, a3] (.int y :: st) σ r ↔ Rn sc d 59 13 [a0, a1, .int x2, .int y] st σ r := r_istore_n d59_12 (Nat.le_of_ble_eq_true rfl) rfl
theorem d59_13 : decode (mC 59) 13 = .ok (.iload_n 3, 1) := by decide +kernel
theorem x59_13 {sc : aSc} {d : Nat} {r : aRes} {a0 : Value} {a1 : Value} {a2 : Value} {x3 : Int32} {st : List Value} {σ : aS} : Rn sc d 59 13 [a0, a1, a2, .int x3] st σ r ↔ Rn sc d 59 14 [a0, a1, a2, .int x3] (.int x3 :: st) σ r := r_iload_n d59_13 rfl
theorem d59_14 : decode (mC 59) 14 = .ok (.bipush 100, 2) := by decide +kernel
theorem x59_14 {sc : aSc} {d : Nat} {r : aRes} {L : List Value} {st : List Value} {σ : aS} : Rn sc d 59 14 L st σ r ↔ Rn sc d 59 16 L (.int 100 :: st) σ r := r_bipush d59_14 (by decide)
theorem d59_16 : decode (mC 59) 16 = .ok (.if_icmp .ge 35, 3) := by decide +kernel
theorem x59_16 {sc : aSc} {d : Nat} {r : aRes} {L : List Value} {st : List Value} {σ : aS} {x y : Int32} : Rn sc d 59 16 L (.int y :: .int x :: st) σ r ↔ if x < y then Rn sc d 59 19 L st σ r else Rn sc d 59 51 L st σ r := r_icmp_ge d59_16 rfl
theorem d59_19 : decode (mC 59) 19 = .ok (.aload_n 0, 1) := by decide +kernel
theorem x59_19 {sc : aSc} {d : Nat} {r : aRes} {x0 : Nat} {a1 : Value} {a2 : Value} {a3 : Value} {st : List Value} {σ : aS} : Rn sc d 59 19 [.ref x0, a1, a2, a3] st σ r ↔ Rn sc d 59 20 [.ref x0, a1, a2, a3] (.ref x0 :: st) σ r := r_aload_n d59_19 rfl
theorem d59_20 : decode (mC 59) 20 = .ok (.bipush 38, 2) := by decide +kernel
theorem x59_20 {sc : aSc} {d : Nat} {r : aRes} {L : List Value} {st : List Value} {σ : aS} : Rn sc d 59 20 L st σ r ↔ Rn sc d 59 22 L (.int 38 :: st) σ r := r_bipush d59_20 (by decide)
theorem d59_22 : decode (mC 59) 22 = .ok (.invokevirtual 33, 3) := by decide +kernel
theorem x59_22 {sc : aSc} {d : Nat} {r : aRes} {L : List Value} {f : Nat → Nat → Int32} {g : Nat → Nat → Int64} {h1 h2 : Nat} {y0 : Int32}  {o : Nat} (hK : KK[o]? = some (.inl 5)) : Rn sc d 59 22 L [.int y0, .ref o] (cS f g h1 h2) r ↔ ∃ (σ3 : aS) (v : Option Value), Cl sc d 62 [.ref o, .int y0] (cS f g h1 h2) (σ3, v) ∧ Rn sc d 59 25 L (v.toList ++ []) σ3 r := r_callV (vs := [.int y0]) d59_22 (j := 62) rfl ⟨rfl, by decide, rfl, rfl⟩ (Nat.le_of_ble_eq_true rfl) hK
theorem d59_25 : decode (mC 59) 25 = .ok (.ifCond .eq 26, 3) := by decide +kernel
theorem x59_25 {sc : aSc} {d : Nat} {r : aRes} {L : List Value} {st : List Value} {σ : aS} {x : Int32} : Rn sc d 59 25 L (.int x :: st) σ r ↔ if x = 0 then Rn sc d 59 51 L st σ r else Rn sc d 59 28 L st σ r := r_if_eq d59_25 rfl
theorem d59_28 : decode (mC 59) 28 = .ok (.aload_n 0, 1) := by decide +kernel
theorem x59_28 {sc : aSc} {d : Nat} {r : aRes} {x0 : Nat} {a1 : Value} {a2 : Value} {a3 : Value} {st : List Value} {σ : aS} : Rn sc d 59 28 [.ref x0, a1, a2, a3] st σ r ↔ Rn sc d 59 29 [.ref x0, a1, a2, a3] (.ref x0 :: st) σ r := r_aload_n d59_28 rfl
theorem d59_29 : decode (mC 59) 29 = .ok (.aload_n 1, 1) := by decide +kernel
theorem x59_29 {sc : aSc} {d : Nat} {r : aRes} {a0 : Value} {x1 : Nat} {a2 : Value} {a3 : Value} {st : List Value} {σ : aS} : Rn sc d 59 29 [a0, .ref x1, a2, a3] st σ r ↔ Rn sc d 59 30 [a0, .ref x1, a2, a3] (.ref x1 :: st) σ r := r_aload_n d59_29 rfl
theorem d59_30 : decode (mC 59) 30 = .ok (.iload_n 2, 1) := by decide +kernel
theorem x59_30 {sc : aSc} {d : Nat} {r : aRes} {a0 : Value} {a1 : Value} {x2 : Int32} {a3 : Value} {st : List Value} {σ : aS} : Rn sc d 59 30 [a0, a1, .int x2, a3] st σ r ↔ Rn sc d 59 31 [a0, a1, .int x2, a3] (.int x2 :: st) σ r := r_iload_n d59_30 rfl
theorem d59_31 : decode (mC 59) 31 = .ok (.invokevirtual 72, 3) := by decide +kernel
theorem x59_31 {sc : aSc} {d : Nat} {r : aRes} {L : List Value} {f : Nat → Nat → Int32} {g : Nat → Nat → Int64} {h1 h2 : Nat} {y0 : Int32} {y1 : Nat}  {o : Nat} (hK : KK[o]? = some (.inl 5)) : Rn sc d 59 31 L [.int y0, .ref y1, .ref o] (cS f g h1 h2) r ↔ ∃ (σ3 : aS) (v : Option Value), Cl sc d 60 [.ref o, .ref y1, .int y0] (cS f g h1 h2) (σ3, v) ∧ Rn sc d 59 34 L (v.toList ++ []) σ3 r := r_callV (vs := [.int y0, .ref y1]) d59_31 (j := 60) rfl ⟨rfl, by decide, rfl, rfl⟩ (Nat.le_of_ble_eq_true rfl) hK
theorem d59_34 : decode (mC 59) 34 = .ok (.ifCond .ne 5, 3) := by decide +kernel
theorem x59_34 {sc : aSc} {d : Nat} {r : aRes} {L : List Value} {st : List Value} {σ : aS} {x : Int32} : Rn sc d 59 34 L (.int x :: st) σ r ↔ if x = 0 then Rn sc d 59 37 L st σ r else Rn sc d 59 39 L st σ r := r_if_ne d59_34 rfl
theorem d59_37 : decode (mC 59) 37 = .ok (.iconst 0, 1) := by decide +kernel
theorem x59_37 {sc : aSc} {d : Nat} {r : aRes} {L : List Value} {st : List Value} {σ : aS} : Rn sc d 59 37 L st σ r ↔ Rn sc d 59 38 L (.int 0 :: st) σ r := r_iconst d59_37 (by decide)
theorem d59_38 : decode (mC 59) 38 = .ok (.ireturn, 1) := by decide +kernel
theorem x59_38 {sc : aSc} {d : Nat} {r : aRes} {L : List Value} {σ : aS} {x : Int32} (hn : x &&& 1 = x) : Rn sc d 59 38 L [.int x] σ r ↔ r = (σ, some (.int x)) := r_iret d59_38 rfl (congrArg Value.int hn)
theorem d59_39 : decode (mC 59) 39 = .ok (.aload_n 1, 1) := by decide +kernel
theorem x59_39 {sc : aSc} {d : Nat} {r : aRes} {a0 : Value} {x1 : Nat} {a2 : Value} {a3 : Value} {st : List Value} {σ : aS} : Rn sc d 59 39 [a0, .ref x1, a2, a3] st σ r ↔ Rn sc d 59 40 [a0, .ref x1, a2, a3] (.ref x1 :: st) σ r := r_aload_n d59_39 rfl
theorem d59_40 : decode (mC 59) 40 = .ok (.bipush (-2), 2) := by decide +kernel
theorem x59_40 {sc : aSc} {d : Nat} {r : aRes} {L : List Value} {st : List Value} {σ : aS} : Rn sc d 59 40 L st σ r ↔ Rn sc d 59 42 L (.int (-2) :: st) σ r := r_bipush d59_40 (by decide)
theorem d59_42 : decode (mC 59) 42 = .ok (.invokevirtual 69, 3) := by decide +kernel
theorem x59_42 {sc : aSc} {d : Nat} {r : aRes} {L : List Value} {f : Nat → Nat → Int32} {g : Nat → Nat → Int64} {h1 h2 : Nat} {y0 : Int32}  {o : Nat} (hK : KK[o]? = some (.inl 2)) : Rn sc d 59 42 L [.int y0, .ref o] (cS f g h1 h2) r ↔ ∃ (σ3 : aS) (v : Option Value), Cl sc d 25 [.ref o, .int y0] (cS f g h1 h2) (σ3, v) ∧ Rn sc d 59 45 L (v.toList ++ []) σ3 r := r_callV (vs := [.int y0]) d59_42 (j := 25) rfl ⟨rfl, by decide, rfl, rfl⟩ (Nat.le_of_ble_eq_true rfl) hK
theorem d59_45 : decode (mC 59) 45 = .ok (.iinc 3 1, 3) := by decide +kernel
theorem x59_45 {sc : aSc} {d : Nat} {r : aRes} {a0 : Value} {a1 : Value} {x2 : Int32} {x3 : Int32} {st : List Value} {σ : aS} : Rn sc d 59 45 [a0, a1, .int x2, .int x3] st σ r ↔ Rn sc d 59 48 [a0, a1, .int x2, .int (x3 + 1)] st σ r := r_iinc d59_45 (Nat.le_of_ble_eq_true rfl) rfl rfl (by decide)
theorem d59_48 : decode (mC 59) 48 = .ok (.goto (-35), 3) := by decide +kernel
theorem x59_48 {sc : aSc} {d : Nat} {r : aRes} {L : List Value} {st : List Value} {σ : aS} : Rn sc d 59 48 L st σ r ↔ Rn sc d 59 13 L st σ r := r_goto d59_48 rfl
theorem d59_51 : decode (mC 59) 51 = .ok (.iconst 1, 1) := by decide +kernel
theorem x59_51 {sc : aSc} {d : Nat} {r : aRes} {L : List Value} {st : List Value} {σ : aS} : Rn sc d 59 51 L st σ r ↔ Rn sc d 59 52 L (.int 1 :: st) σ r := r_iconst d59_51 (by decide)
theorem d59_52 : decode (mC 59) 52 = .ok (.ireturn, 1) := by decide +kernel
theorem x59_52 {sc : aSc} {d : Nat} {r : aRes} {L : List Value} {σ : aS} {x : Int32} (hn : x &&& 1 = x) : Rn sc d 59 52 L [.int x] σ r ↔ r = (σ, some (.int x)) := r_iret d59_52 rfl (congrArg Value.int hn)
theorem d60_0 : decode (mC 60) 0 = .ok (.iload_n 2, 1) := by decide +kernel
theorem x60_0 {sc : aSc} {d : Nat} {r : aRes} {a0 : Value} {a1 : Value} {x2 : Int32} {a3 : Value} {a4 : Value} {a5 : Value} {st : List Value} {σ : aS} : Rn sc d 60 0 [a0, a1, .int x2, a3, a4, a5] st σ r ↔ Rn sc d 60 1 [a0, a1, .int x2, a3, a4, a5] (.int x2 :: st) σ r := r_iload_n d60_0 rfl
theorem d60_1 : decode (mC 60) 1 = .ok (.iconst 4, 1) := by decide +kernel
theorem x60_1 {sc : aSc} {d : Nat} {r : aRes} {L : List Value} {st : List Value} {σ : aS} : Rn sc d 60 1 L st σ r ↔ Rn sc d 60 2 L (.int 4 :: st) σ r := r_iconst d60_1 (by decide)
theorem d60_2 : decode (mC 60) 2 = .ok (.if_icmp .ge 32, 3) := by decide +kernel
theorem x60_2 {sc : aSc} {d : Nat} {r : aRes} {L : List Value} {st : List Value} {σ : aS} {x y : Int32} : Rn sc d 60 2 L (.int y :: .int x :: st) σ r ↔ if x < y then Rn sc d 60 5 L st σ r else Rn sc d 60 34 L st σ r := r_icmp_ge d60_2 rfl
theorem d60_5 : decode (mC 60) 5 = .ok (.aload_n 0, 1) := by decide +kernel
theorem x60_5 {sc : aSc} {d : Nat} {r : aRes} {x0 : Nat} {a1 : Value} {a2 : Value} {a3 : Value} {a4 : Value} {a5 : Value} {st : List Value} {σ : aS} : Rn sc d 60 5 [.ref x0, a1, a2, a3, a4, a5] st σ r ↔ Rn sc d 60 6 [.ref x0, a1, a2, a3, a4, a5] (.ref x0 :: st) σ r := r_aload_n d60_5 rfl
theorem d60_6 : decode (mC 60) 6 = .ok (.bipush 33, 2) := by decide +kernel
theorem x60_6 {sc : aSc} {d : Nat} {r : aRes} {L : List Value} {st : List Value} {σ : aS} : Rn sc d 60 6 L st σ r ↔ Rn sc d 60 8 L (.int 33 :: st) σ r := r_bipush d60_6 (by decide)
theorem d60_8 : decode (mC 60) 8 = .ok (.invokevirtual 33, 3) := by decide +kernel
theorem x60_8 {sc : aSc} {d : Nat} {r : aRes} {L : List Value} {f : Nat → Nat → Int32} {g : Nat → Nat → Int64} {h1 h2 : Nat} {y0 : Int32}  {o : Nat} (hK : KK[o]? = some (.inl 5)) : Rn sc d 60 8 L [.int y0, .ref o] (cS f g h1 h2) r ↔ ∃ (σ3 : aS) (v : Option Value), Cl sc d 62 [.ref o, .int y0] (cS f g h1 h2) (σ3, v) ∧ Rn sc d 60 11 L (v.toList ++ []) σ3 r := r_callV (vs := [.int y0]) d60_8 (j := 62) rfl ⟨rfl, by decide, rfl, rfl⟩ (Nat.le_of_ble_eq_true rfl) hK
theorem d60_11 : decode (mC 60) 11 = .ok (.ifCond .eq 23, 3) := by decide +kernel
theorem x60_11 {sc : aSc} {d : Nat} {r : aRes} {L : List Value} {st : List Value} {σ : aS} {x : Int32} : Rn sc d 60 11 L (.int x :: st) σ r ↔ if x = 0 then Rn sc d 60 34 L st σ r else Rn sc d 60 14 L st σ r := r_if_eq d60_11 rfl
theorem d60_14 : decode (mC 60) 14 = .ok (.aload_n 0, 1) := by decide +kernel
theorem x60_14 {sc : aSc} {d : Nat} {r : aRes} {x0 : Nat} {a1 : Value} {a2 : Value} {a3 : Value} {a4 : Value} {a5 : Value} {st : List Value} {σ : aS} : Rn sc d 60 14 [.ref x0, a1, a2, a3, a4, a5] st σ r ↔ Rn sc d 60 15 [.ref x0, a1, a2, a3, a4, a5] (.ref x0 :: st) σ r := r_aload_n d60_14 rfl
theorem d60_15 : decode (mC 60) 15 = .ok (.aload_n 1, 1) := by decide +kernel
theorem x60_15 {sc : aSc} {d : Nat} {r : aRes} {a0 : Value} {x1 : Nat} {a2 : Value} {a3 : Value} {a4 : Value} {a5 : Value} {st : List Value} {σ : aS} : Rn sc d 60 15 [a0, .ref x1, a2, a3, a4, a5] st σ r ↔ Rn sc d 60 16 [a0, .ref x1, a2, a3, a4, a5] (.ref x1 :: st) σ r := r_aload_n d60_15 rfl
theorem d60_16 : decode (mC 60) 16 = .ok (.iload_n 2, 1) := by decide +kernel
theorem x60_16 {sc : aSc} {d : Nat} {r : aRes} {a0 : Value} {a1 : Value} {x2 : Int32} {a3 : Value} {a4 : Value} {a5 : Value} {st : List Value} {σ : aS} : Rn sc d 60 16 [a0, a1, .int x2, a3, a4, a5] st σ r ↔ Rn sc d 60 17 [a0, a1, .int x2, a3, a4, a5] (.int x2 :: st) σ r := r_iload_n d60_16 rfl
theorem d60_17 : decode (mC 60) 17 = .ok (.iconst 1, 1) := by decide +kernel
theorem x60_17 {sc : aSc} {d : Nat} {r : aRes} {L : List Value} {st : List Value} {σ : aS} : Rn sc d 60 17 L st σ r ↔ Rn sc d 60 18 L (.int 1 :: st) σ r := r_iconst d60_17 (by decide)
theorem d60_18 : decode (mC 60) 18 = .ok (.iadd, 1) := by decide +kernel
theorem x60_18 {sc : aSc} {d : Nat} {r : aRes} {L : List Value} {st : List Value} {σ : aS} {x y : Int32} : Rn sc d 60 18 L (.int y :: .int x :: st) σ r ↔ Rn sc d 60 19 L (.int (x + y) :: st) σ r := r_iadd d60_18
theorem d60_19 : decode (mC 60) 19 = .ok (.invokevirtual 72, 3) := by decide +kernel
theorem x60_19 {sc : aSc} {d : Nat} {r : aRes} {L : List Value} {f : Nat → Nat → Int32} {g : Nat → Nat → Int64} {h1 h2 : Nat} {y0 : Int32} {y1 : Nat}  {o : Nat} (hK : KK[o]? = some (.inl 5)) : Rn sc d 60 19 L [.int y0, .ref y1, .ref o] (cS f g h1 h2) r ↔ ∃ (σ3 : aS) (v : Option Value), Cl sc d 60 [.ref o, .ref y1, .int y0] (cS f g h1 h2) (σ3, v) ∧ Rn sc d 60 22 L (v.toList ++ []) σ3 r := r_callV (vs := [.int y0, .ref y1]) d60_19 (j := 60) rfl ⟨rfl, by decide, rfl, rfl⟩ (Nat.le_of_ble_eq_true rfl) hK
theorem d60_22 : decode (mC 60) 22 = .ok (.ifCond .ne 5, 3) := by decide +kernel
theorem x60_22 {sc : aSc} {d : Nat} {r : aRes} {L : List Value} {st : List Value} {σ : aS} {x : Int32} : Rn sc d 60 22 L (.int x :: st) σ r ↔ if x = 0 then Rn sc d 60 25 L st σ r else Rn sc d 60 27 L st σ r := r_if_ne d60_22 rfl
theorem d60_25 : decode (mC 60) 25 = .ok (.iconst 0, 1) := by decide +kernel
theorem x60_25 {sc : aSc} {d : Nat} {r : aRes} {L : List Value} {st : List Value} {σ : aS} : Rn sc d 60 25 L st σ r ↔ Rn sc d 60 26 L (.int 0 :: st) σ r := r_iconst d60_25 (by decide)
theorem d60_26 : decode (mC 60) 26 = .ok (.ireturn, 1) := by decide +kernel
theorem x60_26 {sc : aSc} {d : Nat} {r : aRes} {L : List Value} {σ : aS} {x : Int32} (hn : x &&& 1 = x) : Rn sc d 60 26 L [.int x] σ r ↔ r = (σ, some (.int x)) := r_iret d60_26 rfl (congrArg Value.int hn)
theorem d60_27 : decode (mC 60) 27 = .ok (.aload_n 1, 1) := by decide +kernel
theorem x60_27 {sc : aSc} {d : Nat} {r : aRes} {a0 : Value} {x1 : Nat} {a2 : Value} {a3 : Value} {a4 : Value} {a5 : Value} {st : List Value} {σ : aS} : Rn sc d 60 27 [a0, .ref x1, a2, a3, a4, a5] st σ r ↔ Rn sc d 60 28 [a0, .ref x1, a2, a3, a4, a5] (.ref x1 :: st) σ r := r_aload_n d60_27 rfl
theorem d60_28 : decode (mC 60) 28 = .ok (.iconst (-1), 1) := by decide +kernel
theorem x60_28 {sc : aSc} {d : Nat} {r : aRes} {L : List Value} {st : List Value} {σ : aS} : Rn sc d 60 28 L st σ r ↔ Rn sc d 60 29 L (.int (-1) :: st) σ r := r_iconst d60_28 (by decide)
theorem d60_29 : decode (mC 60) 29 = .ok (.invokevirtual 69, 3) := by decide +kernel
theorem x60_29 {sc : aSc} {d : Nat} {r : aRes} {L : List Value} {f : Nat → Nat → Int32} {g : Nat → Nat → Int64} {h1 h2 : Nat} {y0 : Int32}  {o : Nat} (hK : KK[o]? = some (.inl 2)) : Rn sc d 60 29 L [.int y0, .ref o] (cS f g h1 h2) r ↔ ∃ (σ3 : aS) (v : Option Value), Cl sc d 25 [.ref o, .int y0] (cS f g h1 h2) (σ3, v) ∧ Rn sc d 60 32 L (v.toList ++ []) σ3 r := r_callV (vs := [.int y0]) d60_29 (j := 25) rfl ⟨rfl, by decide, rfl, rfl⟩ (Nat.le_of_ble_eq_true rfl) hK
theorem d60_32 : decode (mC 60) 32 = .ok (.iconst 1, 1) := by decide +kernel
theorem x60_32 {sc : aSc} {d : Nat} {r : aRes} {L : List Value} {st : List Value} {σ : aS} : Rn sc d 60 32 L st σ r ↔ Rn sc d 60 33 L (.int 1 :: st) σ r := r_iconst d60_32 (by decide)
theorem d60_33 : decode (mC 60) 33 = .ok (.ireturn, 1) := by decide +kernel
theorem x60_33 {sc : aSc} {d : Nat} {r : aRes} {L : List Value} {σ : aS} {x : Int32} (hn : x &&& 1 = x) : Rn sc d 60 33 L [.int x] σ r ↔ r = (σ, some (.int x)) := r_iret d60_33 rfl (congrArg Value.int hn)
theorem d60_34 : decode (mC 60) 34 = .ok (.iload_n 2, 1) := by decide +kernel
theorem x60_34 {sc : aSc} {d : Nat} {r : aRes} {a0 : Value} {a1 : Value} {x2 : Int32} {a3 : Value} {a4 : Value} {a5 : Value} {st : List Value} {σ : aS} : Rn sc d 60 34 [a0, a1, .int x2, a3, a4, a5] st σ r ↔ Rn sc d 60 35 [a0, a1, .int x2, a3, a4, a5] (.int x2 :: st) σ r := r_iload_n d60_34 rfl
theorem d60_35 : decode (mC 60) 35 = .ok (.iconst 4, 1) := by decide +kernel
theorem x60_35 {sc : aSc} {d : Nat} {r : aRes} {L : List Value} {st : List Value} {σ : aS} : Rn sc d 60 35 L st σ r ↔ Rn sc d 60 36 L (.int 4 :: st) σ r := r_iconst d60_35 (by decide)
theorem d60_36 : decode (mC 60) 36 = .ok (.if_icmp .ge 38, 3) := by decide +kernel
theorem x60_36 {sc : aSc} {d : Nat} {r : aRes} {L : List Value} {st : List Value} {σ : aS} {x y : Int32} : Rn sc d 60 36 L (.int y :: .int x :: st) σ r ↔ if x < y then Rn sc d 60 39 L st σ r else Rn sc d 60 74 L st σ r := r_icmp_ge d60_36 rfl
theorem d60_39 : decode (mC 60) 39 = .ok (.aload_n 0, 1) := by decide +kernel
theorem x60_39 {sc : aSc} {d : Nat} {r : aRes} {x0 : Nat} {a1 : Value} {a2 : Value} {a3 : Value} {a4 : Value} {a5 : Value} {st : List Value} {σ : aS} : Rn sc d 60 39 [.ref x0, a1, a2, a3, a4, a5] st σ r ↔ Rn sc d 60 40 [.ref x0, a1, a2, a3, a4, a5] (.ref x0 :: st) σ r := r_aload_n d60_39 rfl
theorem d60_40 : decode (mC 60) 40 = .ok (.bipush 40, 2) := by decide +kernel
theorem x60_40 {sc : aSc} {d : Nat} {r : aRes} {L : List Value} {st : List Value} {σ : aS} : Rn sc d 60 40 L st σ r ↔ Rn sc d 60 42 L (.int 40 :: st) σ r := r_bipush d60_40 (by decide)
theorem d60_42 : decode (mC 60) 42 = .ok (.invokevirtual 33, 3) := by decide +kernel
theorem x60_42 {sc : aSc} {d : Nat} {r : aRes} {L : List Value} {f : Nat → Nat → Int32} {g : Nat → Nat → Int64} {h1 h2 : Nat} {y0 : Int32}  {o : Nat} (hK : KK[o]? = some (.inl 5)) : Rn sc d 60 42 L [.int y0, .ref o] (cS f g h1 h2) r ↔ ∃ (σ3 : aS) (v : Option Value), Cl sc d 62 [.ref o, .int y0] (cS f g h1 h2) (σ3, v) ∧ Rn sc d 60 45 L (v.toList ++ []) σ3 r := r_callV (vs := [.int y0]) d60_42 (j := 62) rfl ⟨rfl, by decide, rfl, rfl⟩ (Nat.le_of_ble_eq_true rfl) hK
theorem d60_45 : decode (mC 60) 45 = .ok (.ifCond .eq 29, 3) := by decide +kernel
theorem x60_45 {sc : aSc} {d : Nat} {r : aRes} {L : List Value} {st : List Value} {σ : aS} {x : Int32} : Rn sc d 60 45 L (.int x :: st) σ r ↔ if x = 0 then Rn sc d 60 74 L st σ r else Rn sc d 60 48 L st σ r := r_if_eq d60_45 rfl
theorem d60_48 : decode (mC 60) 48 = .ok (.aload_n 0, 1) := by decide +kernel
theorem x60_48 {sc : aSc} {d : Nat} {r : aRes} {x0 : Nat} {a1 : Value} {a2 : Value} {a3 : Value} {a4 : Value} {a5 : Value} {st : List Value} {σ : aS} : Rn sc d 60 48 [.ref x0, a1, a2, a3, a4, a5] st σ r ↔ Rn sc d 60 49 [.ref x0, a1, a2, a3, a4, a5] (.ref x0 :: st) σ r := r_aload_n d60_48 rfl
theorem d60_49 : decode (mC 60) 49 = .ok (.aload_n 1, 1) := by decide +kernel
theorem x60_49 {sc : aSc} {d : Nat} {r : aRes} {a0 : Value} {x1 : Nat} {a2 : Value} {a3 : Value} {a4 : Value} {a5 : Value} {st : List Value} {σ : aS} : Rn sc d 60 49 [a0, .ref x1, a2, a3, a4, a5] st σ r ↔ Rn sc d 60 50 [a0, .ref x1, a2, a3, a4, a5] (.ref x1 :: st) σ r := r_aload_n d60_49 rfl
theorem d60_50 : decode (mC 60) 50 = .ok (.iload_n 2, 1) := by decide +kernel
theorem x60_50 {sc : aSc} {d : Nat} {r : aRes} {a0 : Value} {a1 : Value} {x2 : Int32} {a3 : Value} {a4 : Value} {a5 : Value} {st : List Value} {σ : aS} : Rn sc d 60 50 [a0, a1, .int x2, a3, a4, a5] st σ r ↔ Rn sc d 60 51 [a0, a1, .int x2, a3, a4, a5] (.int x2 :: st) σ r := r_iload_n d60_50 rfl
theorem d60_51 : decode (mC 60) 51 = .ok (.iconst 1, 1) := by decide +kernel
theorem x60_51 {sc : aSc} {d : Nat} {r : aRes} {L : List Value} {st : List Value} {σ : aS} : Rn sc d 60 51 L st σ r ↔ Rn sc d 60 52 L (.int 1 :: st) σ r := r_iconst d60_51 (by decide)
theorem d60_52 : decode (mC 60) 52 = .ok (.iadd, 1) := by decide +kernel
theorem x60_52 {sc : aSc} {d : Nat} {r : aRes} {L : List Value} {st : List Value} {σ : aS} {x y : Int32} : Rn sc d 60 52 L (.int y :: .int x :: st) σ r ↔ Rn sc d 60 53 L (.int (x + y) :: st) σ r := r_iadd d60_52
theorem d60_53 : decode (mC 60) 53 = .ok (.invokevirtual 52, 3) := by decide +kernel
theorem x60_53 {sc : aSc} {d : Nat} {r : aRes} {L : List Value} {f : Nat → Nat → Int32} {g : Nat → Nat → Int64} {h1 h2 : Nat} {y0 : Int32} {y1 : Nat}  {o : Nat} (hK : KK[o]? = some (.inl 5)) : Rn sc d 60 53 L [.int y0, .ref y1, .ref o] (cS f g h1 h2) r ↔ ∃ (σ3 : aS) (v : Option Value), Cl sc d 58 [.ref o, .ref y1, .int y0] (cS f g h1 h2) (σ3, v) ∧ Rn sc d 60 56 L (v.toList ++ []) σ3 r := r_callV (vs := [.int y0, .ref y1]) d60_53 (j := 58) rfl ⟨rfl, by decide, rfl, rfl⟩ (Nat.le_of_ble_eq_true rfl) hK
theorem d60_56 : decode (mC 60) 56 = .ok (.ifCond .eq 16, 3) := by decide +kernel
theorem x60_56 {sc : aSc} {d : Nat} {r : aRes} {L : List Value} {st : List Value} {σ : aS} {x : Int32} : Rn sc d 60 56 L (.int x :: st) σ r ↔ if x = 0 then Rn sc d 60 72 L st σ r else Rn sc d 60 59 L st σ r := r_if_eq d60_56 rfl
theorem d60_59 : decode (mC 60) 59 = .ok (.aload_n 0, 1) := by decide +kernel
theorem x60_59 {sc : aSc} {d : Nat} {r : aRes} {x0 : Nat} {a1 : Value} {a2 : Value} {a3 : Value} {a4 : Value} {a5 : Value} {st : List Value} {σ : aS} : Rn sc d 60 59 [.ref x0, a1, a2, a3, a4, a5] st σ r ↔ Rn sc d 60 60 [.ref x0, a1, a2, a3, a4, a5] (.ref x0 :: st) σ r := r_aload_n d60_59 rfl
theorem d60_60 : decode (mC 60) 60 = .ok (.bipush 41, 2) := by decide +kernel
theorem x60_60 {sc : aSc} {d : Nat} {r : aRes} {L : List Value} {st : List Value} {σ : aS} : Rn sc d 60 60 L st σ r ↔ Rn sc d 60 62 L (.int 41 :: st) σ r := r_bipush d60_60 (by decide)
theorem d60_62 : decode (mC 60) 62 = .ok (.invokevirtual 33, 3) := by decide +kernel
theorem x60_62 {sc : aSc} {d : Nat} {r : aRes} {L : List Value} {f : Nat → Nat → Int32} {g : Nat → Nat → Int64} {h1 h2 : Nat} {y0 : Int32}  {o : Nat} (hK : KK[o]? = some (.inl 5)) : Rn sc d 60 62 L [.int y0, .ref o] (cS f g h1 h2) r ↔ ∃ (σ3 : aS) (v : Option Value), Cl sc d 62 [.ref o, .int y0] (cS f g h1 h2) (σ3, v) ∧ Rn sc d 60 65 L (v.toList ++ []) σ3 r := r_callV (vs := [.int y0]) d60_62 (j := 62) rfl ⟨rfl, by decide, rfl, rfl⟩ (Nat.le_of_ble_eq_true rfl) hK
theorem d60_65 : decode (mC 60) 65 = .ok (.ifCond .eq 7, 3) := by decide +kernel
theorem x60_65 {sc : aSc} {d : Nat} {r : aRes} {L : List Value} {st : List Value} {σ : aS} {x : Int32} : Rn sc d 60 65 L (.int x :: st) σ r ↔ if x = 0 then Rn sc d 60 72 L st σ r else Rn sc d 60 68 L st σ r := r_if_eq d60_65 rfl
theorem d60_68 : decode (mC 60) 68 = .ok (.iconst 1, 1) := by decide +kernel
theorem x60_68 {sc : aSc} {d : Nat} {r : aRes} {L : List Value} {st : List Value} {σ : aS} : Rn sc d 60 68 L st σ r ↔ Rn sc d 60 69 L (.int 1 :: st) σ r := r_iconst d60_68 (by decide)
theorem d60_69 : decode (mC 60) 69 = .ok (.goto 4, 3) := by decide +kernel
theorem x60_69 {sc : aSc} {d : Nat} {r : aRes} {L : List Value} {st : List Value} {σ : aS} : Rn sc d 60 69 L st σ r ↔ Rn sc d 60 73 L st σ r := r_goto d60_69 rfl
theorem d60_72 : decode (mC 60) 72 = .ok (.iconst 0, 1) := by decide +kernel
theorem x60_72 {sc : aSc} {d : Nat} {r : aRes} {L : List Value} {st : List Value} {σ : aS} : Rn sc d 60 72 L st σ r ↔ Rn sc d 60 73 L (.int 0 :: st) σ r := r_iconst d60_72 (by decide)
theorem d60_73 : decode (mC 60) 73 = .ok (.ireturn, 1) := by decide +kernel
theorem x60_73 {sc : aSc} {d : Nat} {r : aRes} {L : List Value} {σ : aS} {x : Int32} (hn : x &&& 1 = x) : Rn sc d 60 73 L [.int x] σ r ↔ r = (σ, some (.int x)) := r_iret d60_73 rfl (congrArg Value.int hn)
theorem d60_74 : decode (mC 60) 74 = .ok (.aload_n 0, 1) := by decide +kernel
theorem x60_74 {sc : aSc} {d : Nat} {r : aRes} {x0 : Nat} {a1 : Value} {a2 : Value} {a3 : Value} {a4 : Value} {a5 : Value} {st : List Value} {σ : aS} : Rn sc d 60 74 [.ref x0, a1, a2, a3, a4, a5] st σ r ↔ Rn sc d 60 75 [.ref x0, a1, a2, a3, a4, a5] (.ref x0 :: st) σ r := r_aload_n d60_74 rfl
theorem d60_75 : decode (mC 60) 75 = .ok (.ldc 75, 2) := by decide +kernel
theorem x60_75 {sc : aSc} {d : Nat} {r : aRes} {L : List Value} {st : List Value} {σ : aS} : Rn sc d 60 75 L st σ r ↔ Rn sc d 60 77 L (.ref 9 :: st) σ r := r_ldc d60_75 (i := 4) rfl
theorem d60_77 : decode (mC 60) 77 = .ok (.invokevirtual 77, 3) := by decide +kernel
theorem x60_77 {sc : aSc} {d : Nat} {r : aRes} {L : List Value} {f : Nat → Nat → Int32} {g : Nat → Nat → Int64} {h1 h2 : Nat} {y0 : Nat}  {o : Nat} (hK : KK[o]? = some (.inl 5)) : Rn sc d 60 77 L [.ref y0, .ref o] (cS f g h1 h2) r ↔ ∃ (σ3 : aS) (v : Option Value), Cl sc d 64 [.ref o, .ref y0] (cS f g h1 h2) (σ3, v) ∧ Rn sc d 60 80 L (v.toList ++ []) σ3 r := r_callV (vs := [.ref y0]) d60_77 (j := 64) rfl ⟨rfl, by decide, rfl, rfl⟩ (Nat.le_of_ble_eq_true rfl) hK
theorem d60_80 : decode (mC 60) 80 = .ok (.istore_n 3, 1) := by decide +kernel
theorem x60_80 {sc : aSc} {d : Nat} {r : aRes} {a0 : Value} {a1 : Value} {x2 : Int32} {a3 : Value} {a4 : Value} {a5 : Value} {st : List Value} {σ : aS} {y : Int32} : Rn sc d 60 80 [a0, a1, .int x2, a3, a4, a5] (.int y :: st) σ r ↔ Rn sc d 60 81 [a0, a1, .int x2, .int y, a4, a5] st σ r := r_istore_n d60_80 (Nat.le_of_ble_eq_true rfl) rfl
theorem d60_81 : decode (mC 60) 81 = .ok (.iload_n 3, 1) := by decide +kernel
theorem x60_81 {sc : aSc} {d : Nat} {r : aRes} {a0 : Value} {a1 : Value} {a2 : Value} {x3 : Int32} {a4 : Value} {a5 : Value} {st : List Value} {σ : aS} : Rn sc d 60 81 [a0, a1, a2, .int x3, a4, a5] st σ r ↔ Rn sc d 60 82 [a0, a1, a2, .int x3, a4, a5] (.int x3 :: st) σ r := r_iload_n d60_81 rfl
theorem d60_82 : decode (mC 60) 82 = .ok (.ifCond .ge 7, 3) := by decide +kernel
theorem x60_82 {sc : aSc} {d : Nat} {r : aRes} {L : List Value} {st : List Value} {σ : aS} {x : Int32} : Rn sc d 60 82 L (.int x :: st) σ r ↔ if x < 0 then Rn sc d 60 85 L st σ r else Rn sc d 60 89 L st σ r := r_if_ge d60_82 rfl
theorem d60_85 : decode (mC 60) 85 = .ok (.iconst (-1), 1) := by decide +kernel
theorem x60_85 {sc : aSc} {d : Nat} {r : aRes} {L : List Value} {st : List Value} {σ : aS} : Rn sc d 60 85 L st σ r ↔ Rn sc d 60 86 L (.int (-1) :: st) σ r := r_iconst d60_85 (by decide)
theorem d60_86 : decode (mC 60) 86 = .ok (.goto 9, 3) := by decide +kernel
theorem x60_86 {sc : aSc} {d : Nat} {r : aRes} {L : List Value} {st : List Value} {σ : aS} : Rn sc d 60 86 L st σ r ↔ Rn sc d 60 95 L st σ r := r_goto d60_86 rfl
theorem d60_89 : decode (mC 60) 89 = .ok (.aload_n 0, 1) := by decide +kernel
theorem x60_89 {sc : aSc} {d : Nat} {r : aRes} {x0 : Nat} {a1 : Value} {a2 : Value} {a3 : Value} {a4 : Value} {a5 : Value} {st : List Value} {σ : aS} : Rn sc d 60 89 [.ref x0, a1, a2, a3, a4, a5] st σ r ↔ Rn sc d 60 90 [.ref x0, a1, a2, a3, a4, a5] (.ref x0 :: st) σ r := r_aload_n d60_89 rfl
theorem d60_90 : decode (mC 60) 90 = .ok (.ldc 81, 2) := by decide +kernel
theorem x60_90 {sc : aSc} {d : Nat} {r : aRes} {L : List Value} {st : List Value} {σ : aS} : Rn sc d 60 90 L st σ r ↔ Rn sc d 60 92 L (.ref 10 :: st) σ r := r_ldc d60_90 (i := 5) rfl
theorem d60_92 : decode (mC 60) 92 = .ok (.invokevirtual 77, 3) := by decide +kernel
theorem x60_92 {sc : aSc} {d : Nat} {r : aRes} {L : List Value} {f : Nat → Nat → Int32} {g : Nat → Nat → Int64} {h1 h2 : Nat} {y0 : Nat}  {o : Nat} (hK : KK[o]? = some (.inl 5)) : Rn sc d 60 92 L [.ref y0, .ref o] (cS f g h1 h2) r ↔ ∃ (σ3 : aS) (v : Option Value), Cl sc d 64 [.ref o, .ref y0] (cS f g h1 h2) (σ3, v) ∧ Rn sc d 60 95 L (v.toList ++ []) σ3 r := r_callV (vs := [.ref y0]) d60_92 (j := 64) rfl ⟨rfl, by decide, rfl, rfl⟩ (Nat.le_of_ble_eq_true rfl) hK
theorem d60_95 : decode (mC 60) 95 = .ok (.istore 4, 2) := by decide +kernel
theorem x60_95 {sc : aSc} {d : Nat} {r : aRes} {a0 : Value} {a1 : Value} {a2 : Value} {x3 : Int32} {a4 : Value} {a5 : Value} {st : List Value} {σ : aS} {y : Int32} : Rn sc d 60 95 [a0, a1, a2, .int x3, a4, a5] (.int y :: st) σ r ↔ Rn sc d 60 97 [a0, a1, a2, .int x3, .int y, a5] st σ r := r_istore d60_95 (Nat.le_of_ble_eq_true rfl) rfl
theorem d60_97 : decode (mC 60) 97 = .ok (.iload 4, 2) := by decide +kernel
theorem x60_97 {sc : aSc} {d : Nat} {r : aRes} {a0 : Value} {a1 : Value} {a2 : Value} {a3 : Value} {x4 : Int32} {a5 : Value} {st : List Value} {σ : aS} : Rn sc d 60 97 [a0, a1, a2, a3, .int x4, a5] st σ r ↔ Rn sc d 60 99 [a0, a1, a2, a3, .int x4, a5] (.int x4 :: st) σ r := r_iload d60_97 rfl
theorem d60_99 : decode (mC 60) 99 = .ok (.ifCond .ge 7, 3) := by decide +kernel
theorem x60_99 {sc : aSc} {d : Nat} {r : aRes} {L : List Value} {st : List Value} {σ : aS} {x : Int32} : Rn sc d 60 99 L (.int x :: st) σ r ↔ if x < 0 then Rn sc d 60 102 L st σ r else Rn sc d 60 106 L st σ r := r_if_ge d60_99 rfl
theorem d60_102 : decode (mC 60) 102 = .ok (.iconst (-1), 1) := by decide +kernel
theorem x60_102 {sc : aSc} {d : Nat} {r : aRes} {L : List Value} {st : List Value} {σ : aS} : Rn sc d 60 102 L st σ r ↔ Rn sc d 60 103 L (.int (-1) :: st) σ r := r_iconst d60_102 (by decide)
theorem d60_103 : decode (mC 60) 103 = .ok (.goto 7, 3) := by decide +kernel
theorem x60_103 {sc : aSc} {d : Nat} {r : aRes} {L : List Value} {st : List Value} {σ : aS} : Rn sc d 60 103 L st σ r ↔ Rn sc d 60 110 L st σ r := r_goto d60_103 rfl
theorem d60_106 : decode (mC 60) 106 = .ok (.aload_n 0, 1) := by decide +kernel
theorem x60_106 {sc : aSc} {d : Nat} {r : aRes} {x0 : Nat} {a1 : Value} {a2 : Value} {a3 : Value} {a4 : Value} {a5 : Value} {st : List Value} {σ : aS} : Rn sc d 60 106 [.ref x0, a1, a2, a3, a4, a5] st σ r ↔ Rn sc d 60 107 [.ref x0, a1, a2, a3, a4, a5] (.ref x0 :: st) σ r := r_aload_n d60_106 rfl
theorem d60_107 : decode (mC 60) 107 = .ok (.invokevirtual 49, 3) := by decide +kernel
theorem x60_107 {sc : aSc} {d : Nat} {r : aRes} {L : List Value} {f : Nat → Nat → Int32} {g : Nat → Nat → Int64} {h1 h2 : Nat}   {o : Nat} (hK : KK[o]? = some (.inl 5)) : Rn sc d 60 107 L [.ref o] (cS f g h1 h2) r ↔ ∃ (σ3 : aS) (v : Option Value), Cl sc d 61 [.ref o] (cS f g h1 h2) (σ3, v) ∧ Rn sc d 60 110 L (v.toList ++ []) σ3 r := r_callV (vs := []) d60_107 (j := 61) rfl ⟨rfl, by decide, rfl, rfl⟩ (Nat.le_of_ble_eq_true rfl) hK
theorem d60_110 : decode (mC 60) 110 = .ok (.istore 5, 2) := by decide +kernel
theorem x60_110 {sc : aSc} {d : Nat} {r : aRes} {a0 : Value} {a1 : Value} {a2 : Value} {a3 : Value} {x4 : Int32} {a5 : Value} {st : List Value} {σ : aS} {y : Int32} : Rn sc d 60 110 [a0, a1, a2, a3, .int x4, a5] (.int y :: st) σ r ↔ Rn sc d 60 112 [a0, a1, a2, a3, .int x4, .int y] st σ r := r_istore d60_110 (Nat.le_of_ble_eq_true rfl) rfl
theorem d60_112 : decode (mC 60) 112 = .ok (.iload 5, 2) := by decide +kernel
theorem x60_112 {sc : aSc} {d : Nat} {r : aRes} {a0 : Value} {a1 : Value} {a2 : Value} {a3 : Value} {a4 : Value} {x5 : Int32} {st : List Value} {σ : aS} : Rn sc d 60 112 [a0, a1, a2, a3, a4, .int x5] st σ r ↔ Rn sc d 60 114 [a0, a1, a2, a3, a4, .int x5] (.int x5 :: st) σ r := r_iload d60_112 rfl
theorem d60_114 : decode (mC 60) 114 = .ok (.iconst (-1), 1) := by decide +kernel
theorem x60_114 {sc : aSc} {d : Nat} {r : aRes} {L : List Value} {st : List Value} {σ : aS} : Rn sc d 60 114 L st σ r ↔ Rn sc d 60 115 L (.int (-1) :: st) σ r := r_iconst d60_114 (by decide)
theorem d60_115 : decode (mC 60) 115 = .ok (.if_icmp .ne 5, 3) := by decide +kernel
theorem x60_115 {sc : aSc} {d : Nat} {r : aRes} {L : List Value} {st : List Value} {σ : aS} {x y : Int32} : Rn sc d 60 115 L (.int y :: .int x :: st) σ r ↔ if x = y then Rn sc d 60 118 L st σ r else Rn sc d 60 120 L st σ r := r_icmp_ne d60_115 rfl
theorem d60_118 : decode (mC 60) 118 = .ok (.iconst 0, 1) := by decide +kernel
theorem x60_118 {sc : aSc} {d : Nat} {r : aRes} {L : List Value} {st : List Value} {σ : aS} : Rn sc d 60 118 L st σ r ↔ Rn sc d 60 119 L (.int 0 :: st) σ r := r_iconst d60_118 (by decide)
theorem d60_119 : decode (mC 60) 119 = .ok (.ireturn, 1) := by decide +kernel
theorem x60_119 {sc : aSc} {d : Nat} {r : aRes} {L : List Value} {σ : aS} {x : Int32} (hn : x &&& 1 = x) : Rn sc d 60 119 L [.int x] σ r ↔ r = (σ, some (.int x)) := r_iret d60_119 rfl (congrArg Value.int hn)
theorem d60_120 : decode (mC 60) 120 = .ok (.aload_n 1, 1) := by decide +kernel
theorem x60_120 {sc : aSc} {d : Nat} {r : aRes} {a0 : Value} {x1 : Nat} {a2 : Value} {a3 : Value} {a4 : Value} {a5 : Value} {st : List Value} {σ : aS} : Rn sc d 60 120 [a0, .ref x1, a2, a3, a4, a5] st σ r ↔ Rn sc d 60 121 [a0, .ref x1, a2, a3, a4, a5] (.ref x1 :: st) σ r := r_aload_n d60_120 rfl
theorem d60_121 : decode (mC 60) 121 = .ok (.iload_n 3, 1) := by decide +kernel
theorem x60_121 {sc : aSc} {d : Nat} {r : aRes} {a0 : Value} {a1 : Value} {a2 : Value} {x3 : Int32} {a4 : Value} {a5 : Value} {st : List Value} {σ : aS} : Rn sc d 60 121 [a0, a1, a2, .int x3, a4, a5] st σ r ↔ Rn sc d 60 122 [a0, a1, a2, .int x3, a4, a5] (.int x3 :: st) σ r := r_iload_n d60_121 rfl
theorem d60_122 : decode (mC 60) 122 = .ok (.iload 4, 2) := by decide +kernel
theorem x60_122 {sc : aSc} {d : Nat} {r : aRes} {a0 : Value} {a1 : Value} {a2 : Value} {a3 : Value} {x4 : Int32} {a5 : Value} {st : List Value} {σ : aS} : Rn sc d 60 122 [a0, a1, a2, a3, .int x4, a5] st σ r ↔ Rn sc d 60 124 [a0, a1, a2, a3, .int x4, a5] (.int x4 :: st) σ r := r_iload d60_122 rfl
theorem d60_124 : decode (mC 60) 124 = .ok (.iload 5, 2) := by decide +kernel
theorem x60_124 {sc : aSc} {d : Nat} {r : aRes} {a0 : Value} {a1 : Value} {a2 : Value} {a3 : Value} {a4 : Value} {x5 : Int32} {st : List Value} {σ : aS} : Rn sc d 60 124 [a0, a1, a2, a3, a4, .int x5] st σ r ↔ Rn sc d 60 126 [a0, a1, a2, a3, a4, .int x5] (.int x5 :: st) σ r := r_iload d60_124 rfl
theorem d60_126 : decode (mC 60) 126 = .ok (.invokevirtual 83, 3) := by decide +kernel
theorem x60_126 {sc : aSc} {d : Nat} {r : aRes} {L : List Value} {f : Nat → Nat → Int32} {g : Nat → Nat → Int64} {h1 h2 : Nat} {y0 : Int32} {y1 : Int32} {y2 : Int32}  {o : Nat} (hK : KK[o]? = some (.inl 2)) : Rn sc d 60 126 L [.int y0, .int y1, .int y2, .ref o] (cS f g h1 h2) r ↔ ∃ (σ3 : aS) (v : Option Value), Cl sc d 26 [.ref o, .int y2, .int y1, .int y0] (cS f g h1 h2) (σ3, v) ∧ Rn sc d 60 129 L (v.toList ++ []) σ3 r := r_callV (vs := [.int y0, .int y1, .int y2]) d60_126 (j := 26) rfl ⟨rfl, by decide, rfl, rfl⟩ (Nat.le_of_ble_eq_true rfl) hK
theorem d60_129 : decode (mC 60) 129 = .ok (.iconst 1, 1) := by decide +kernel
theorem x60_129 {sc : aSc} {d : Nat} {r : aRes} {L : List Value} {st : List Value} {σ : aS} : Rn sc d 60 129 L st σ r ↔ Rn sc d 60 130 L (.int 1 :: st) σ r := r_iconst d60_129 (by decide)
theorem d60_130 : decode (mC 60) 130 = .ok (.ireturn, 1) := by decide +kernel
theorem x60_130 {sc : aSc} {d : Nat} {r : aRes} {L : List Value} {σ : aS} {x : Int32} (hn : x &&& 1 = x) : Rn sc d 60 130 L [.int x] σ r ↔ r = (σ, some (.int x)) := r_iret d60_130 rfl (congrArg Value.int hn)
theorem d61_0 : decode (mC 61) 0 = .ok (.iconst (-1), 1) := by decide +kernel
theorem x61_0 {sc : aSc} {d : Nat} {r : aRes} {L : List Value} {st : List Value} {σ : aS} : Rn sc d 61 0 L st σ r ↔ Rn sc d 61 1 L (.int (-1) :: st) σ r := r_iconst d61_0 (by decide)
theorem d61_1 : decode (mC 61) 1 = .ok (.istore_n 1, 1) := by decide +kernel
theorem x61_1 {sc : aSc} {d : Nat} {r : aRes} {x0 : Nat} {a1 : Value} {a2 : Value} {st : List Value} {σ : aS} {y : Int32} : Rn sc d 61 1 [.ref x0, a1, a2] (.int y :: st) σ r ↔ Rn sc d 61 2 [.ref x0, .int y, a2] st σ r := r_istore_n d61_1 (Nat.le_of_ble_eq_true rfl) rfl
theorem d61_2 : decode (mC 61) 2 = .ok (.iconst 0, 1) := by decide +kernel
theorem x61_2 {sc : aSc} {d : Nat} {r : aRes} {L : List Value} {st : List Value} {σ : aS} : Rn sc d 61 2 L st σ r ↔ Rn sc d 61 3 L (.int 0 :: st) σ r := r_iconst d61_2 (by decide)
theorem d61_3 : decode (mC 61) 3 = .ok (.istore_n 2, 1) := by decide +kernel
theorem x61_3 {sc : aSc} {d : Nat} {r : aRes} {a0 : Value} {x1 : Int32} {a2 : Value} {st : List Value} {σ : aS} {y : Int32} : Rn sc d 61 3 [a0, .int x1, a2] (.int y :: st) σ r ↔ Rn sc d 61 4 [a0, .int x1, .int y] st σ r := r_istore_n d61_3 (Nat.le_of_ble_eq_true rfl) rfl
theorem d61_4 : decode (mC 61) 4 = .ok (.iload_n 2, 1) := by decide +kernel
theorem x61_4 {sc : aSc} {d : Nat} {r : aRes} {a0 : Value} {a1 : Value} {x2 : Int32} {st : List Value} {σ : aS} : Rn sc d 61 4 [a0, a1, .int x2] st σ r ↔ Rn sc d 61 5 [a0, a1, .int x2] (.int x2 :: st) σ r := r_iload_n d61_4 rfl
theorem d61_5 : decode (mC 61) 5 = .ok (.iconst 2, 1) := by decide +kernel
theorem x61_5 {sc : aSc} {d : Nat} {r : aRes} {L : List Value} {st : List Value} {σ : aS} : Rn sc d 61 5 L st σ r ↔ Rn sc d 61 6 L (.int 2 :: st) σ r := r_iconst d61_5 (by decide)
theorem d61_6 : decode (mC 61) 6 = .ok (.if_icmp .ge 54, 3) := by decide +kernel
theorem x61_6 {sc : aSc} {d : Nat} {r : aRes} {L : List Value} {st : List Value} {σ : aS} {x y : Int32} : Rn sc d 61 6 L (.int y :: .int x :: st) σ r ↔ if x < y then Rn sc d 61 9 L st σ r else Rn sc d 61 60 L st σ r := r_icmp_ge d61_6 rfl
theorem d61_9 : decode (mC 61) 9 = .ok (.aload_n 0, 1) := by decide +kernel
theorem x61_9 {sc : aSc} {d : Nat} {r : aRes} {x0 : Nat} {a1 : Value} {a2 : Value} {st : List Value} {σ : aS} : Rn sc d 61 9 [.ref x0, a1, a2] st σ r ↔ Rn sc d 61 10 [.ref x0, a1, a2] (.ref x0 :: st) σ r := r_aload_n d61_9 rfl
theorem d61_10 : decode (mC 61) 10 = .ok (.invokevirtual 29, 3) := by decide +kernel
theorem x61_10 {sc : aSc} {d : Nat} {r : aRes} {L : List Value} {f : Nat → Nat → Int32} {g : Nat → Nat → Int64} {h1 h2 : Nat}   {o : Nat} (hK : KK[o]? = some (.inl 5)) : Rn sc d 61 10 L [.ref o] (cS f g h1 h2) r ↔ ∃ (σ3 : aS) (v : Option Value), Cl sc d 211 [.ref o] (cS f g h1 h2) (σ3, v) ∧ Rn sc d 61 13 L (v.toList ++ []) σ3 r := r_callV (vs := []) d61_10 (j := 211) rfl ⟨rfl, by decide, rfl, rfl⟩ (Nat.le_of_ble_eq_true rfl) hK
theorem d61_13 : decode (mC 61) 13 = .ok (.bipush 48, 2) := by decide +kernel
theorem x61_13 {sc : aSc} {d : Nat} {r : aRes} {L : List Value} {st : List Value} {σ : aS} : Rn sc d 61 13 L st σ r ↔ Rn sc d 61 15 L (.int 48 :: st) σ r := r_bipush d61_13 (by decide)
theorem d61_15 : decode (mC 61) 15 = .ok (.if_icmp .lt 45, 3) := by decide +kernel
theorem x61_15 {sc : aSc} {d : Nat} {r : aRes} {L : List Value} {st : List Value} {σ : aS} {x y : Int32} : Rn sc d 61 15 L (.int y :: .int x :: st) σ r ↔ if x < y then Rn sc d 61 60 L st σ r else Rn sc d 61 18 L st σ r := r_icmp_lt d61_15 rfl
theorem d61_18 : decode (mC 61) 18 = .ok (.aload_n 0, 1) := by decide +kernel
theorem x61_18 {sc : aSc} {d : Nat} {r : aRes} {x0 : Nat} {a1 : Value} {a2 : Value} {st : List Value} {σ : aS} : Rn sc d 61 18 [.ref x0, a1, a2] st σ r ↔ Rn sc d 61 19 [.ref x0, a1, a2] (.ref x0 :: st) σ r := r_aload_n d61_18 rfl
theorem d61_19 : decode (mC 61) 19 = .ok (.invokevirtual 29, 3) := by decide +kernel
theorem x61_19 {sc : aSc} {d : Nat} {r : aRes} {L : List Value} {f : Nat → Nat → Int32} {g : Nat → Nat → Int64} {h1 h2 : Nat}   {o : Nat} (hK : KK[o]? = some (.inl 5)) : Rn sc d 61 19 L [.ref o] (cS f g h1 h2) r ↔ ∃ (σ3 : aS) (v : Option Value), Cl sc d 211 [.ref o] (cS f g h1 h2) (σ3, v) ∧ Rn sc d 61 22 L (v.toList ++ []) σ3 r := r_callV (vs := []) d61_19 (j := 211) rfl ⟨rfl, by decide, rfl, rfl⟩ (Nat.le_of_ble_eq_true rfl) hK
theorem d61_22 : decode (mC 61) 22 = .ok (.bipush 57, 2) := by decide +kernel
theorem x61_22 {sc : aSc} {d : Nat} {r : aRes} {L : List Value} {st : List Value} {σ : aS} : Rn sc d 61 22 L st σ r ↔ Rn sc d 61 24 L (.int 57 :: st) σ r := r_bipush d61_22 (by decide)
theorem d61_24 : decode (mC 61) 24 = .ok (.if_icmp .gt 36, 3) := by decide +kernel
theorem x61_24 {sc : aSc} {d : Nat} {r : aRes} {L : List Value} {st : List Value} {σ : aS} {x y : Int32} : Rn sc d 61 24 L (.int y :: .int x :: st) σ r ↔ if y < x then Rn sc d 61 60 L st σ r else Rn sc d 61 27 L st σ r := r_icmp_gt d61_24 rfl
theorem d61_27 : decode (mC 61) 27 = .ok (.iconst 0, 1) := by decide +kernel
theorem x61_27 {sc : aSc} {d : Nat} {r : aRes} {L : List Value} {st : List Value} {σ : aS} : Rn sc d 61 27 L st σ r ↔ Rn sc d 61 28 L (.int 0 :: st) σ r := r_iconst d61_27 (by decide)
theorem d61_28 : decode (mC 61) 28 = .ok (.iload_n 1, 1) := by decide +kernel
theorem x61_28 {sc : aSc} {d : Nat} {r : aRes} {a0 : Value} {x1 : Int32} {a2 : Value} {st : List Value} {σ : aS} : Rn sc d 61 28 [a0, .int x1, a2] st σ r ↔ Rn sc d 61 29 [a0, .int x1, a2] (.int x1 :: st) σ r := r_iload_n d61_28 rfl
theorem d61_29 : decode (mC 61) 29 = .ok (.invokestatic 87, 3) := by decide +kernel
theorem x61_29 {sc : aSc} {d : Nat} {r : aRes} {L : List Value} {σ : aS} {y0 : Int32} {y1 : Int32}  : Rn sc d 61 29 L [.int y0, .int y1] σ r ↔ ∃ (σ3 : aS) (v : Option Value), Cl sc d 207 [.int y1, .int y0] σ (σ3, v) ∧ Rn sc d 61 32 L (v.toList ++ []) σ3 r := r_callS (vs := [.int y0, .int y1]) d61_29 rfl (j := 207) rfl ⟨rfl, by decide, rfl, rfl⟩ (Nat.le_of_ble_eq_true rfl)
theorem d61_32 : decode (mC 61) 32 = .ok (.bipush 10, 2) := by decide +kernel
theorem x61_32 {sc : aSc} {d : Nat} {r : aRes} {L : List Value} {st : List Value} {σ : aS} : Rn sc d 61 32 L st σ r ↔ Rn sc d 61 34 L (.int 10 :: st) σ r := r_bipush d61_32 (by decide)
theorem d61_34 : decode (mC 61) 34 = .ok (.imul, 1) := by decide +kernel
theorem x61_34 {sc : aSc} {d : Nat} {r : aRes} {L : List Value} {st : List Value} {σ : aS} {x y : Int32} : Rn sc d 61 34 L (.int y :: .int x :: st) σ r ↔ Rn sc d 61 35 L (.int (x * y) :: st) σ r := r_imul d61_34
theorem d61_35 : decode (mC 61) 35 = .ok (.aload_n 0, 1) := by decide +kernel
theorem x61_35 {sc : aSc} {d : Nat} {r : aRes} {x0 : Nat} {a1 : Value} {a2 : Value} {st : List Value} {σ : aS} : Rn sc d 61 35 [.ref x0, a1, a2] st σ r ↔ Rn sc d 61 36 [.ref x0, a1, a2] (.ref x0 :: st) σ r := r_aload_n d61_35 rfl
theorem d61_36 : decode (mC 61) 36 = .ok (.invokevirtual 29, 3) := by decide +kernel
theorem x61_36 {sc : aSc} {d : Nat} {r : aRes} {L : List Value} {f : Nat → Nat → Int32} {g : Nat → Nat → Int64} {h1 h2 : Nat}  {z0 : Int32} {o : Nat} (hK : KK[o]? = some (.inl 5)) : Rn sc d 61 36 L [.ref o, .int z0] (cS f g h1 h2) r ↔ ∃ (σ3 : aS) (v : Option Value), Cl sc d 211 [.ref o] (cS f g h1 h2) (σ3, v) ∧ Rn sc d 61 39 L (v.toList ++ [.int z0]) σ3 r := r_callV (vs := []) d61_36 (j := 211) rfl ⟨rfl, by decide, rfl, rfl⟩ (Nat.le_of_ble_eq_true rfl) hK
theorem d61_39 : decode (mC 61) 39 = .ok (.iadd, 1) := by decide +kernel
theorem x61_39 {sc : aSc} {d : Nat} {r : aRes} {L : List Value} {st : List Value} {σ : aS} {x y : Int32} : Rn sc d 61 39 L (.int y :: .int x :: st) σ r ↔ Rn sc d 61 40 L (.int (x + y) :: st) σ r := r_iadd d61_39
theorem d61_40 : decode (mC 61) 40 = .ok (.bipush 48, 2) := by decide +kernel
theorem x61_40 {sc : aSc} {d : Nat} {r : aRes} {L : List Value} {st : List Value} {σ : aS} : Rn sc d 61 40 L st σ r ↔ Rn sc d 61 42 L (.int 48 :: st) σ r := r_bipush d61_40 (by decide)
theorem d61_42 : decode (mC 61) 42 = .ok (.isub, 1) := by decide +kernel
theorem x61_42 {sc : aSc} {d : Nat} {r : aRes} {L : List Value} {st : List Value} {σ : aS} {x y : Int32} : Rn sc d 61 42 L (.int y :: .int x :: st) σ r ↔ Rn sc d 61 43 L (.int (x - y) :: st) σ r := r_isub d61_42
theorem d61_43 : decode (mC 61) 43 = .ok (.istore_n 1, 1) := by decide +kernel
theorem x61_43 {sc : aSc} {d : Nat} {r : aRes} {x0 : Nat} {a1 : Value} {a2 : Value} {st : List Value} {σ : aS} {y : Int32} : Rn sc d 61 43 [.ref x0, a1, a2] (.int y :: st) σ r ↔ Rn sc d 61 44 [.ref x0, .int y, a2] st σ r := r_istore_n d61_43 (Nat.le_of_ble_eq_true rfl) rfl
theorem d61_44 : decode (mC 61) 44 = .ok (.aload_n 0, 1) := by decide +kernel
theorem x61_44 {sc : aSc} {d : Nat} {r : aRes} {x0 : Nat} {a1 : Value} {a2 : Value} {st : List Value} {σ : aS} : Rn sc d 61 44 [.ref x0, a1, a2] st σ r ↔ Rn sc d 61 45 [.ref x0, a1, a2] (.ref x0 :: st) σ r := r_aload_n d61_44 rfl
theorem d61_45 : decode (mC 61) 45 = .ok (.dup, 1) := by decide +kernel
theorem x61_45 {sc : aSc} {d : Nat} {r : aRes} {L : List Value} {st : List Value} {σ : aS} {y : Nat} : Rn sc d 61 45 L (.ref y :: st) σ r ↔ Rn sc d 61 46 L (.ref y :: .ref y :: st) σ r := r_dup d61_45 rfl
theorem d61_46 : decode (mC 61) 46 = .ok (.getfield 17, 3) := by decide +kernel
theorem x61_46 {sc : aSc} {d : Nat} {r : aRes} {L : List Value} {st : List Value} {f : Nat → Nat → Int32} {g : Nat → Nat → Int64} {h1 h2 : Nat} {o : Nat} (h17 : 17 ≤ o) (hK : KK[o]? = some (.inl 5)) : Rn sc d 61 46 L (.ref o :: st) (cS f g h1 h2) r ↔ Rn sc d 61 49 L (.int (f o 2) :: st) (cS f g h1 h2) r := r_getI d61_46 (ci := 5) (k := 2) rfl (by decide) (fun _ => rfl) h17 hK
theorem d61_49 : decode (mC 61) 49 = .ok (.iconst 1, 1) := by decide +kernel
theorem x61_49 {sc : aSc} {d : Nat} {r : aRes} {L : List Value} {st : List Value} {σ : aS} : Rn sc d 61 49 L st σ r ↔ Rn sc d 61 50 L (.int 1 :: st) σ r := r_iconst d61_49 (by decide)
theorem d61_50 : decode (mC 61) 50 = .ok (.iadd, 1) := by decide +kernel
theorem x61_50 {sc : aSc} {d : Nat} {r : aRes} {L : List Value} {st : List Value} {σ : aS} {x y : Int32} : Rn sc d 61 50 L (.int y :: .int x :: st) σ r ↔ Rn sc d 61 51 L (.int (x + y) :: st) σ r := r_iadd d61_50
theorem d61_51 : decode (mC 61) 51 = .ok (.putfield 17, 3) := by decide +kernel
theorem x61_51 {sc : aSc} {d : Nat} {r : aRes} {L : List Value} {st : List Value} {f : Nat → Nat → Int32} {g : Nat → Nat → Int64} {h1 h2 : Nat} {o : Nat} {v : Int32} (h17 : 17 ≤ o) (hK : KK[o]? = some (.inl 5)) : Rn sc d 61 51 L (.int v :: .ref o :: st) (cS f g h1 h2) r ↔ Rn sc d 61 54 L st (cS (u2 f o 2 v) g h1 h2) r := r_putI d61_51 (ci := 5) (k := 2) rfl (by decide) h17 hK
theorem d61_54 : decode (mC 61) 54 = .ok (.iinc 2 1, 3) := by decide +kernel
theorem x61_54 {sc : aSc} {d : Nat} {r : aRes} {a0 : Value} {x1 : Int32} {x2 : Int32} {st : List Value} {σ : aS} : Rn sc d 61 54 [a0, .int x1, .int x2] st σ r ↔ Rn sc d 61 57 [a0, .int x1, .int (x2 + 1)] st σ r := r_iinc d61_54 (Nat.le_of_ble_eq_true rfl) rfl rfl (by decide)
theorem d61_57 : decode (mC 61) 57 = .ok (.goto (-53), 3) := by decide +kernel
theorem x61_57 {sc : aSc} {d : Nat} {r : aRes} {L : List Value} {st : List Value} {σ : aS} : Rn sc d 61 57 L st σ r ↔ Rn sc d 61 4 L st σ r := r_goto d61_57 rfl
theorem d61_60 : decode (mC 61) 60 = .ok (.iload_n 1, 1) := by decide +kernel
theorem x61_60 {sc : aSc} {d : Nat} {r : aRes} {a0 : Value} {x1 : Int32} {a2 : Value} {st : List Value} {σ : aS} : Rn sc d 61 60 [a0, .int x1, a2] st σ r ↔ Rn sc d 61 61 [a0, .int x1, a2] (.int x1 :: st) σ r := r_iload_n d61_60 rfl
theorem d61_61 : decode (mC 61) 61 = .ok (.ireturn, 1) := by decide +kernel
theorem x61_61 {sc : aSc} {d : Nat} {r : aRes} {L : List Value} {σ : aS} {x : Int32} : Rn sc d 61 61 L [.int x] σ r ↔ r = (σ, some (.int x)) := r_iret d61_61 rfl rfl
theorem d62_0 : decode (mC 62) 0 = .ok (.aload_n 0, 1) := by decide +kernel
theorem x62_0 {sc : aSc} {d : Nat} {r : aRes} {x0 : Nat} {a1 : Value} {st : List Value} {σ : aS} : Rn sc d 62 0 [.ref x0, a1] st σ r ↔ Rn sc d 62 1 [.ref x0, a1] (.ref x0 :: st) σ r := r_aload_n d62_0 rfl
theorem d62_1 : decode (mC 62) 1 = .ok (.invokevirtual 29, 3) := by decide +kernel
theorem x62_1 {sc : aSc} {d : Nat} {r : aRes} {L : List Value} {f : Nat → Nat → Int32} {g : Nat → Nat → Int64} {h1 h2 : Nat}   {o : Nat} (hK : KK[o]? = some (.inl 5)) : Rn sc d 62 1 L [.ref o] (cS f g h1 h2) r ↔ ∃ (σ3 : aS) (v : Option Value), Cl sc d 211 [.ref o] (cS f g h1 h2) (σ3, v) ∧ Rn sc d 62 4 L (v.toList ++ []) σ3 r := r_callV (vs := []) d62_1 (j := 211) rfl ⟨rfl, by decide, rfl, rfl⟩ (Nat.le_of_ble_eq_true rfl) hK
theorem d62_4 : decode (mC 62) 4 = .ok (.iload_n 1, 1) := by decide +kernel
theorem x62_4 {sc : aSc} {d : Nat} {r : aRes} {a0 : Value} {x1 : Int32} {st : List Value} {σ : aS} : Rn sc d 62 4 [a0, .int x1] st σ r ↔ Rn sc d 62 5 [a0, .int x1] (.int x1 :: st) σ r := r_iload_n d62_4 rfl
theorem d62_5 : decode (mC 62) 5 = .ok (.if_icmp .eq 5, 3) := by decide +kernel
theorem x62_5 {sc : aSc} {d : Nat} {r : aRes} {L : List Value} {st : List Value} {σ : aS} {x y : Int32} : Rn sc d 62 5 L (.int y :: .int x :: st) σ r ↔ if x = y then Rn sc d 62 10 L st σ r else Rn sc d 62 8 L st σ r := r_icmp_eq d62_5 rfl
theorem d62_8 : decode (mC 62) 8 = .ok (.iconst 0, 1) := by decide +kernel
theorem x62_8 {sc : aSc} {d : Nat} {r : aRes} {L : List Value} {st : List Value} {σ : aS} : Rn sc d 62 8 L st σ r ↔ Rn sc d 62 9 L (.int 0 :: st) σ r := r_iconst d62_8 (by decide)
theorem d62_9 : decode (mC 62) 9 = .ok (.ireturn, 1) := by decide +kernel
theorem x62_9 {sc : aSc} {d : Nat} {r : aRes} {L : List Value} {σ : aS} {x : Int32} (hn : x &&& 1 = x) : Rn sc d 62 9 L [.int x] σ r ↔ r = (σ, some (.int x)) := r_iret d62_9 rfl (congrArg Value.int hn)
theorem d62_10 : decode (mC 62) 10 = .ok (.aload_n 0, 1) := by decide +kernel
theorem x62_10 {sc : aSc} {d : Nat} {r : aRes} {x0 : Nat} {a1 : Value} {st : List Value} {σ : aS} : Rn sc d 62 10 [.ref x0, a1] st σ r ↔ Rn sc d 62 11 [.ref x0, a1] (.ref x0 :: st) σ r := r_aload_n d62_10 rfl
theorem d62_11 : decode (mC 62) 11 = .ok (.dup, 1) := by decide +kernel
theorem x62_11 {sc : aSc} {d : Nat} {r : aRes} {L : List Value} {st : List Value} {σ : aS} {y : Nat} : Rn sc d 62 11 L (.ref y :: st) σ r ↔ Rn sc d 62 12 L (.ref y :: .ref y :: st) σ r := r_dup d62_11 rfl
theorem d62_12 : decode (mC 62) 12 = .ok (.getfield 17, 3) := by decide +kernel
theorem x62_12 {sc : aSc} {d : Nat} {r : aRes} {L : List Value} {st : List Value} {f : Nat → Nat → Int32} {g : Nat → Nat → Int64} {h1 h2 : Nat} {o : Nat} (h17 : 17 ≤ o) (hK : KK[o]? = some (.inl 5)) : Rn sc d 62 12 L (.ref o :: st) (cS f g h1 h2) r ↔ Rn sc d 62 15 L (.int (f o 2) :: st) (cS f g h1 h2) r := r_getI d62_12 (ci := 5) (k := 2) rfl (by decide) (fun _ => rfl) h17 hK
theorem d62_15 : decode (mC 62) 15 = .ok (.iconst 1, 1) := by decide +kernel
theorem x62_15 {sc : aSc} {d : Nat} {r : aRes} {L : List Value} {st : List Value} {σ : aS} : Rn sc d 62 15 L st σ r ↔ Rn sc d 62 16 L (.int 1 :: st) σ r := r_iconst d62_15 (by decide)
theorem d62_16 : decode (mC 62) 16 = .ok (.iadd, 1) := by decide +kernel
theorem x62_16 {sc : aSc} {d : Nat} {r : aRes} {L : List Value} {st : List Value} {σ : aS} {x y : Int32} : Rn sc d 62 16 L (.int y :: .int x :: st) σ r ↔ Rn sc d 62 17 L (.int (x + y) :: st) σ r := r_iadd d62_16
theorem d62_17 : decode (mC 62) 17 = .ok (.putfield 17, 3) := by decide +kernel
theorem x62_17 {sc : aSc} {d : Nat} {r : aRes} {L : List Value} {st : List Value} {f : Nat → Nat → Int32} {g : Nat → Nat → Int64} {h1 h2 : Nat} {o : Nat} {v : Int32} (h17 : 17 ≤ o) (hK : KK[o]? = some (.inl 5)) : Rn sc d 62 17 L (.int v :: .ref o :: st) (cS f g h1 h2) r ↔ Rn sc d 62 20 L st (cS (u2 f o 2 v) g h1 h2) r := r_putI d62_17 (ci := 5) (k := 2) rfl (by decide) h17 hK
theorem d62_20 : decode (mC 62) 20 = .ok (.iconst 1, 1) := by decide +kernel
theorem x62_20 {sc : aSc} {d : Nat} {r : aRes} {L : List Value} {st : List Value} {σ : aS} : Rn sc d 62 20 L st σ r ↔ Rn sc d 62 21 L (.int 1 :: st) σ r := r_iconst d62_20 (by decide)
theorem d62_21 : decode (mC 62) 21 = .ok (.ireturn, 1) := by decide +kernel
theorem x62_21 {sc : aSc} {d : Nat} {r : aRes} {L : List Value} {σ : aS} {x : Int32} (hn : x &&& 1 = x) : Rn sc d 62 21 L [.int x] σ r ↔ r = (σ, some (.int x)) := r_iret d62_21 rfl (congrArg Value.int hn)
theorem d63_0 : decode (mC 63) 0 = .ok (.iconst 0, 1) := by decide +kernel
theorem x63_0 {sc : aSc} {d : Nat} {r : aRes} {L : List Value} {st : List Value} {σ : aS} : Rn sc d 63 0 L st σ r ↔ Rn sc d 63 1 L (.int 0 :: st) σ r := r_iconst d63_0 (by decide)
theorem d63_1 : decode (mC 63) 1 = .ok (.istore_n 2, 1) := by decide +kernel
theorem x63_1 {sc : aSc} {d : Nat} {r : aRes} {a0 : Value} {x1 : Nat} {a2 : Value} {st : List Value} {σ : aS} {y : Int32} : Rn sc d 63 1 [a0, .ref x1, a2] (.int y :: st) σ r ↔ Rn sc d 63 2 [a0, .ref x1, .int y] st σ r := r_istore_n d63_1 (Nat.le_of_ble_eq_true rfl) rfl
theorem d63_2 : decode (mC 63) 2 = .ok (.iload_n 2, 1) := by decide +kernel
theorem x63_2 {sc : aSc} {d : Nat} {r : aRes} {a0 : Value} {a1 : Value} {x2 : Int32} {st : List Value} {σ : aS} : Rn sc d 63 2 [a0, a1, .int x2] st σ r ↔ Rn sc d 63 3 [a0, a1, .int x2] (.int x2 :: st) σ r := r_iload_n d63_2 rfl
theorem d63_3 : decode (mC 63) 3 = .ok (.aload_n 1, 1) := by decide +kernel
theorem x63_3 {sc : aSc} {d : Nat} {r : aRes} {a0 : Value} {x1 : Nat} {a2 : Value} {st : List Value} {σ : aS} : Rn sc d 63 3 [a0, .ref x1, a2] st σ r ↔ Rn sc d 63 4 [a0, .ref x1, a2] (.ref x1 :: st) σ r := r_aload_n d63_3 rfl
theorem d63_4 : decode (mC 63) 4 = .ok (.invokevirtual 93, 3) := by decide +kernel
theorem x63_4 {sc : aSc} {d : Nat} {r : aRes} {L : List Value} {f : Nat → Nat → Int32} {g : Nat → Nat → Int64} {h1 h2 : Nat}  {z0 : Int32} {o : Nat} (hK : KK[o]? = some (.inl 8)) : Rn sc d 63 4 L [.ref o, .int z0] (cS f g h1 h2) r ↔ ∃ (σ3 : aS) (v : Option Value), Cl sc d 195 [.ref o] (cS f g h1 h2) (σ3, v) ∧ Rn sc d 63 7 L (v.toList ++ [.int z0]) σ3 r := r_callV (vs := []) d63_4 (j := 195) rfl ⟨rfl, by decide, rfl, rfl⟩ (Nat.le_of_ble_eq_true rfl) hK
theorem d63_7 : decode (mC 63) 7 = .ok (.if_icmp .ge 33, 3) := by decide +kernel
theorem x63_7 {sc : aSc} {d : Nat} {r : aRes} {L : List Value} {st : List Value} {σ : aS} {x y : Int32} : Rn sc d 63 7 L (.int y :: .int x :: st) σ r ↔ if x < y then Rn sc d 63 10 L st σ r else Rn sc d 63 40 L st σ r := r_icmp_ge d63_7 rfl
theorem d63_10 : decode (mC 63) 10 = .ok (.aload_n 0, 1) := by decide +kernel
theorem x63_10 {sc : aSc} {d : Nat} {r : aRes} {x0 : Nat} {a1 : Value} {a2 : Value} {st : List Value} {σ : aS} : Rn sc d 63 10 [.ref x0, a1, a2] st σ r ↔ Rn sc d 63 11 [.ref x0, a1, a2] (.ref x0 :: st) σ r := r_aload_n d63_10 rfl
theorem d63_11 : decode (mC 63) 11 = .ok (.invokevirtual 29, 3) := by decide +kernel
theorem x63_11 {sc : aSc} {d : Nat} {r : aRes} {L : List Value} {f : Nat → Nat → Int32} {g : Nat → Nat → Int64} {h1 h2 : Nat}   {o : Nat} (hK : KK[o]? = some (.inl 5)) : Rn sc d 63 11 L [.ref o] (cS f g h1 h2) r ↔ ∃ (σ3 : aS) (v : Option Value), Cl sc d 211 [.ref o] (cS f g h1 h2) (σ3, v) ∧ Rn sc d 63 14 L (v.toList ++ []) σ3 r := r_callV (vs := []) d63_11 (j := 211) rfl ⟨rfl, by decide, rfl, rfl⟩ (Nat.le_of_ble_eq_true rfl) hK
theorem d63_14 : decode (mC 63) 14 = .ok (.aload_n 1, 1) := by decide +kernel
theorem x63_14 {sc : aSc} {d : Nat} {r : aRes} {a0 : Value} {x1 : Nat} {a2 : Value} {st : List Value} {σ : aS} : Rn sc d 63 14 [a0, .ref x1, a2] st σ r ↔ Rn sc d 63 15 [a0, .ref x1, a2] (.ref x1 :: st) σ r := r_aload_n d63_14 rfl
theorem d63_15 : decode (mC 63) 15 = .ok (.iload_n 2, 1) := by decide +kernel
theorem x63_15 {sc : aSc} {d : Nat} {r : aRes} {a0 : Value} {a1 : Value} {x2 : Int32} {st : List Value} {σ : aS} : Rn sc d 63 15 [a0, a1, .int x2] st σ r ↔ Rn sc d 63 16 [a0, a1, .int x2] (.int x2 :: st) σ r := r_iload_n d63_15 rfl
theorem d63_16 : decode (mC 63) 16 = .ok (.invokevirtual 97, 3) := by decide +kernel
theorem x63_16 {sc : aSc} {d : Nat} {r : aRes} {L : List Value} {f : Nat → Nat → Int32} {g : Nat → Nat → Int64} {h1 h2 : Nat} {y0 : Int32} {z0 : Int32} {o : Nat} (hK : KK[o]? = some (.inl 8)) : Rn sc d 63 16 L [.int y0, .ref o, .int z0] (cS f g h1 h2) r ↔ ∃ (σ3 : aS) (v : Option Value), Cl sc d 196 [.ref o, .int y0] (cS f g h1 h2) (σ3, v) ∧ Rn sc d 63 19 L (v.toList ++ [.int z0]) σ3 r := r_callV (vs := [.int y0]) d63_16 (j := 196) rfl ⟨rfl, by decide, rfl, rfl⟩ (Nat.le_of_ble_eq_true rfl) hK
theorem d63_19 : decode (mC 63) 19 = .ok (.if_icmp .eq 5, 3) := by decide +kernel
theorem x63_19 {sc : aSc} {d : Nat} {r : aRes} {L : List Value} {st : List Value} {σ : aS} {x y : Int32} : Rn sc d 63 19 L (.int y :: .int x :: st) σ r ↔ if x = y then Rn sc d 63 24 L st σ r else Rn sc d 63 22 L st σ r := r_icmp_eq d63_19 rfl
theorem d63_22 : decode (mC 63) 22 = .ok (.iconst 0, 1) := by decide +kernel
theorem x63_22 {sc : aSc} {d : Nat} {r : aRes} {L : List Value} {st : List Value} {σ : aS} : Rn sc d 63 22 L st σ r ↔ Rn sc d 63 23 L (.int 0 :: st) σ r := r_iconst d63_22 (by decide)
theorem d63_23 : decode (mC 63) 23 = .ok (.ireturn, 1) := by decide +kernel
theorem x63_23 {sc : aSc} {d : Nat} {r : aRes} {L : List Value} {σ : aS} {x : Int32} (hn : x &&& 1 = x) : Rn sc d 63 23 L [.int x] σ r ↔ r = (σ, some (.int x)) := r_iret d63_23 rfl (congrArg Value.int hn)
theorem d63_24 : decode (mC 63) 24 = .ok (.aload_n 0, 1) := by decide +kernel
theorem x63_24 {sc : aSc} {d : Nat} {r : aRes} {x0 : Nat} {a1 : Value} {a2 : Value} {st : List Value} {σ : aS} : Rn sc d 63 24 [.ref x0, a1, a2] st σ r ↔ Rn sc d 63 25 [.ref x0, a1, a2] (.ref x0 :: st) σ r := r_aload_n d63_24 rfl
theorem d63_25 : decode (mC 63) 25 = .ok (.dup, 1) := by decide +kernel
theorem x63_25 {sc : aSc} {d : Nat} {r : aRes} {L : List Value} {st : List Value} {σ : aS} {y : Nat} : Rn sc d 63 25 L (.ref y :: st) σ r ↔ Rn sc d 63 26 L (.ref y :: .ref y :: st) σ r := r_dup d63_25 rfl
theorem d63_26 : decode (mC 63) 26 = .ok (.getfield 17, 3) := by decide +kernel
theorem x63_26 {sc : aSc} {d : Nat} {r : aRes} {L : List Value} {st : List Value} {f : Nat → Nat → Int32} {g : Nat → Nat → Int64} {h1 h2 : Nat} {o : Nat} (h17 : 17 ≤ o) (hK : KK[o]? = some (.inl 5)) : Rn sc d 63 26 L (.ref o :: st) (cS f g h1 h2) r ↔ Rn sc d 63 29 L (.int (f o 2) :: st) (cS f g h1 h2) r := r_getI d63_26 (ci := 5) (k := 2) rfl (by decide) (fun _ => rfl) h17 hK
theorem d63_29 : decode (mC 63) 29 = .ok (.iconst 1, 1) := by decide +kernel
theorem x63_29 {sc : aSc} {d : Nat} {r : aRes} {L : List Value} {st : List Value} {σ : aS} : Rn sc d 63 29 L st σ r ↔ Rn sc d 63 30 L (.int 1 :: st) σ r := r_iconst d63_29 (by decide)
theorem d63_30 : decode (mC 63) 30 = .ok (.iadd, 1) := by decide +kernel
theorem x63_30 {sc : aSc} {d : Nat} {r : aRes} {L : List Value} {st : List Value} {σ : aS} {x y : Int32} : Rn sc d 63 30 L (.int y :: .int x :: st) σ r ↔ Rn sc d 63 31 L (.int (x + y) :: st) σ r := r_iadd d63_30
theorem d63_31 : decode (mC 63) 31 = .ok (.putfield 17, 3) := by decide +kernel
theorem x63_31 {sc : aSc} {d : Nat} {r : aRes} {L : List Value} {st : List Value} {f : Nat → Nat → Int32} {g : Nat → Nat → Int64} {h1 h2 : Nat} {o : Nat} {v : Int32} (h17 : 17 ≤ o) (hK : KK[o]? = some (.inl 5)) : Rn sc d 63 31 L (.int v :: .ref o :: st) (cS f g h1 h2) r ↔ Rn sc d 63 34 L st (cS (u2 f o 2 v) g h1 h2) r := r_putI d63_31 (ci := 5) (k := 2) rfl (by decide) h17 hK
theorem d63_34 : decode (mC 63) 34 = .ok (.iinc 2 1, 3) := by decide +kernel
theorem x63_34 {sc : aSc} {d : Nat} {r : aRes} {a0 : Value} {x1 : Nat} {x2 : Int32} {st : List Value} {σ : aS} : Rn sc d 63 34 [a0, .ref x1, .int x2] st σ r ↔ Rn sc d 63 37 [a0, .ref x1, .int (x2 + 1)] st σ r := r_iinc d63_34 (Nat.le_of_ble_eq_true rfl) rfl rfl (by decide)
theorem d63_37 : decode (mC 63) 37 = .ok (.goto (-35), 3) := by decide +kernel
theorem x63_37 {sc : aSc} {d : Nat} {r : aRes} {L : List Value} {st : List Value} {σ : aS} : Rn sc d 63 37 L st σ r ↔ Rn sc d 63 2 L st σ r := r_goto d63_37 rfl
theorem d63_40 : decode (mC 63) 40 = .ok (.iconst 1, 1) := by decide +kernel
theorem x63_40 {sc : aSc} {d : Nat} {r : aRes} {L : List Value} {st : List Value} {σ : aS} : Rn sc d 63 40 L st σ r ↔ Rn sc d 63 41 L (.int 1 :: st) σ r := r_iconst d63_40 (by decide)
theorem d63_41 : decode (mC 63) 41 = .ok (.ireturn, 1) := by decide +kernel
theorem x63_41 {sc : aSc} {d : Nat} {r : aRes} {L : List Value} {σ : aS} {x : Int32} (hn : x &&& 1 = x) : Rn sc d 63 41 L [.int x] σ r ↔ r = (σ, some (.int x)) := r_iret d63_41 rfl (congrArg Value.int hn)
theorem d64_0 : decode (mC 64) 0 = .ok (.aload_n 0, 1) := by decide +kernel
theorem x64_0 {sc : aSc} {d : Nat} {r : aRes} {x0 : Nat} {a1 : Value} {a2 : Value} {st : List Value} {σ : aS} : Rn sc d 64 0 [.ref x0, a1, a2] st σ r ↔ Rn sc d 64 1 [.ref x0, a1, a2] (.ref x0 :: st) σ r := r_aload_n d64_0 rfl
theorem d64_1 : decode (mC 64) 1 = .ok (.invokevirtual 29, 3) := by decide +kernel
theorem x64_1 {sc : aSc} {d : Nat} {r : aRes} {L : List Value} {f : Nat → Nat → Int32} {g : Nat → Nat → Int64} {h1 h2 : Nat}   {o : Nat} (hK : KK[o]? = some (.inl 5)) : Rn sc d 64 1 L [.ref o] (cS f g h1 h2) r ↔ ∃ (σ3 : aS) (v : Option Value), Cl sc d 211 [.ref o] (cS f g h1 h2) (σ3, v) ∧ Rn sc d 64 4 L (v.toList ++ []) σ3 r := r_callV (vs := []) d64_1 (j := 211) rfl ⟨rfl, by decide, rfl, rfl⟩ (Nat.le_of_ble_eq_true rfl) hK
theorem d64_4 : decode (mC 64) 4 = .ok (.iconst (-1), 1) := by decide +kernel
theorem x64_4 {sc : aSc} {d : Nat} {r : aRes} {L : List Value} {st : List Value} {σ : aS} : Rn sc d 64 4 L st σ r ↔ Rn sc d 64 5 L (.int (-1) :: st) σ r := r_iconst d64_4 (by decide)
theorem d64_5 : decode (mC 64) 5 = .ok (.if_icmp .ne 7, 3) := by decide +kernel
theorem x64_5 {sc : aSc} {d : Nat} {r : aRes} {L : List Value} {st : List Value} {σ : aS} {x y : Int32} : Rn sc d 64 5 L (.int y :: .int x :: st) σ r ↔ if x = y then Rn sc d 64 8 L st σ r else Rn sc d 64 12 L st σ r := r_icmp_ne d64_5 rfl
theorem d64_8 : decode (mC 64) 8 = .ok (.iconst (-1), 1) := by decide +kernel
theorem x64_8 {sc : aSc} {d : Nat} {r : aRes} {L : List Value} {st : List Value} {σ : aS} : Rn sc d 64 8 L st σ r ↔ Rn sc d 64 9 L (.int (-1) :: st) σ r := r_iconst d64_8 (by decide)
theorem d64_9 : decode (mC 64) 9 = .ok (.goto 12, 3) := by decide +kernel
theorem x64_9 {sc : aSc} {d : Nat} {r : aRes} {L : List Value} {st : List Value} {σ : aS} : Rn sc d 64 9 L st σ r ↔ Rn sc d 64 21 L st σ r := r_goto d64_9 rfl
theorem d64_12 : decode (mC 64) 12 = .ok (.aload_n 1, 1) := by decide +kernel
theorem x64_12 {sc : aSc} {d : Nat} {r : aRes} {a0 : Value} {x1 : Nat} {a2 : Value} {st : List Value} {σ : aS} : Rn sc d 64 12 [a0, .ref x1, a2] st σ r ↔ Rn sc d 64 13 [a0, .ref x1, a2] (.ref x1 :: st) σ r := r_aload_n d64_12 rfl
theorem d64_13 : decode (mC 64) 13 = .ok (.aload_n 0, 1) := by decide +kernel
theorem x64_13 {sc : aSc} {d : Nat} {r : aRes} {x0 : Nat} {a1 : Value} {a2 : Value} {st : List Value} {σ : aS} : Rn sc d 64 13 [.ref x0, a1, a2] st σ r ↔ Rn sc d 64 14 [.ref x0, a1, a2] (.ref x0 :: st) σ r := r_aload_n d64_13 rfl
theorem d64_14 : decode (mC 64) 14 = .ok (.invokevirtual 29, 3) := by decide +kernel
theorem x64_14 {sc : aSc} {d : Nat} {r : aRes} {L : List Value} {f : Nat → Nat → Int32} {g : Nat → Nat → Int64} {h1 h2 : Nat}  {z0 : Nat} {o : Nat} (hK : KK[o]? = some (.inl 5)) : Rn sc d 64 14 L [.ref o, .ref z0] (cS f g h1 h2) r ↔ ∃ (σ3 : aS) (v : Option Value), Cl sc d 211 [.ref o] (cS f g h1 h2) (σ3, v) ∧ Rn sc d 64 17 L (v.toList ++ [.ref z0]) σ3 r := r_callV (vs := []) d64_14 (j := 211) rfl ⟨rfl, by decide, rfl, rfl⟩ (Nat.le_of_ble_eq_true rfl) hK
theorem d64_17 : decode (mC 64) 17 = .ok (.i2c, 1) := by decide +kernel
theorem x64_17 {sc : aSc} {d : Nat} {r : aRes} {L : List Value} {st : List Value} {σ : aS} {x : Int32} : Rn sc d 64 17 L (.int x :: st) σ r ↔ Rn sc d 64 18 L (.int (x.toUInt32 % 65536).toInt32 :: st) σ r := r_i2c d64_17
theorem d64_18 : decode (mC 64) 18 = .ok (.invokevirtual 101, 3) := by decide +kernel
theorem x64_18 {sc : aSc} {d : Nat} {r : aRes} {L : List Value} {f : Nat → Nat → Int32} {g : Nat → Nat → Int64} {h1 h2 : Nat} {y0 : Int32}  {o : Nat} (hK : KK[o]? = some (.inl 8)) : Rn sc d 64 18 L [.int y0, .ref o] (cS f g h1 h2) r ↔ ∃ (σ3 : aS) (v : Option Value), Cl sc d 197 [.ref o, .int y0] (cS f g h1 h2) (σ3, v) ∧ Rn sc d 64 21 L (v.toList ++ []) σ3 r := r_callV (vs := [.int y0]) d64_18 (j := 197) rfl ⟨rfl, by decide, rfl, rfl⟩ (Nat.le_of_ble_eq_true rfl) hK
theorem d64_21 : decode (mC 64) 21 = .ok (.istore_n 2, 1) := by decide +kernel
theorem x64_21 {sc : aSc} {d : Nat} {r : aRes} {a0 : Value} {x1 : Nat} {a2 : Value} {st : List Value} {σ : aS} {y : Int32} : Rn sc d 64 21 [a0, .ref x1, a2] (.int y :: st) σ r ↔ Rn sc d 64 22 [a0, .ref x1, .int y] st σ r := r_istore_n d64_21 (Nat.le_of_ble_eq_true rfl) rfl
theorem d64_22 : decode (mC 64) 22 = .ok (.iload_n 2, 1) := by decide +kernel
theorem x64_22 {sc : aSc} {d : Nat} {r : aRes} {a0 : Value} {a1 : Value} {x2 : Int32} {st : List Value} {σ : aS} : Rn sc d 64 22 [a0, a1, .int x2] st σ r ↔ Rn sc d 64 23 [a0, a1, .int x2] (.int x2 :: st) σ r := r_iload_n d64_22 rfl
theorem d64_23 : decode (mC 64) 23 = .ok (.ifCond .lt 13, 3) := by decide +kernel
theorem x64_23 {sc : aSc} {d : Nat} {r : aRes} {L : List Value} {st : List Value} {σ : aS} {x : Int32} : Rn sc d 64 23 L (.int x :: st) σ r ↔ if x < 0 then Rn sc d 64 36 L st σ r else Rn sc d 64 26 L st σ r := r_if_lt d64_23 rfl
theorem d64_26 : decode (mC 64) 26 = .ok (.aload_n 0, 1) := by decide +kernel
theorem x64_26 {sc : aSc} {d : Nat} {r : aRes} {x0 : Nat} {a1 : Value} {a2 : Value} {st : List Value} {σ : aS} : Rn sc d 64 26 [.ref x0, a1, a2] st σ r ↔ Rn sc d 64 27 [.ref x0, a1, a2] (.ref x0 :: st) σ r := r_aload_n d64_26 rfl
theorem d64_27 : decode (mC 64) 27 = .ok (.dup, 1) := by decide +kernel
theorem x64_27 {sc : aSc} {d : Nat} {r : aRes} {L : List Value} {st : List Value} {σ : aS} {y : Nat} : Rn sc d 64 27 L (.ref y :: st) σ r ↔ Rn sc d 64 28 L (.ref y :: .ref y :: st) σ r := r_dup d64_27 rfl
theorem d64_28 : decode (mC 64) 28 = .ok (.getfield 17, 3) := by decide +kernel
theorem x64_28 {sc : aSc} {d : Nat} {r : aRes} {L : List Value} {st : List Value} {f : Nat → Nat → Int32} {g : Nat → Nat → Int64} {h1 h2 : Nat} {o : Nat} (h17 : 17 ≤ o) (hK : KK[o]? = some (.inl 5)) : Rn sc d 64 28 L (.ref o :: st) (cS f g h1 h2) r ↔ Rn sc d 64 31 L (.int (f o 2) :: st) (cS f g h1 h2) r := r_getI d64_28 (ci := 5) (k := 2) rfl (by decide) (fun _ => rfl) h17 hK
theorem d64_31 : decode (mC 64) 31 = .ok (.iconst 1, 1) := by decide +kernel
theorem x64_31 {sc : aSc} {d : Nat} {r : aRes} {L : List Value} {st : List Value} {σ : aS} : Rn sc d 64 31 L st σ r ↔ Rn sc d 64 32 L (.int 1 :: st) σ r := r_iconst d64_31 (by decide)
theorem d64_32 : decode (mC 64) 32 = .ok (.iadd, 1) := by decide +kernel
theorem x64_32 {sc : aSc} {d : Nat} {r : aRes} {L : List Value} {st : List Value} {σ : aS} {x y : Int32} : Rn sc d 64 32 L (.int y :: .int x :: st) σ r ↔ Rn sc d 64 33 L (.int (x + y) :: st) σ r := r_iadd d64_32
theorem d64_33 : decode (mC 64) 33 = .ok (.putfield 17, 3) := by decide +kernel
theorem x64_33 {sc : aSc} {d : Nat} {r : aRes} {L : List Value} {st : List Value} {f : Nat → Nat → Int32} {g : Nat → Nat → Int64} {h1 h2 : Nat} {o : Nat} {v : Int32} (h17 : 17 ≤ o) (hK : KK[o]? = some (.inl 5)) : Rn sc d 64 33 L (.int v :: .ref o :: st) (cS f g h1 h2) r ↔ Rn sc d 64 36 L st (cS (u2 f o 2 v) g h1 h2) r := r_putI d64_33 (ci := 5) (k := 2) rfl (by decide) h17 hK
theorem d64_36 : decode (mC 64) 36 = .ok (.iload_n 2, 1) := by decide +kernel
theorem x64_36 {sc : aSc} {d : Nat} {r : aRes} {a0 : Value} {a1 : Value} {x2 : Int32} {st : List Value} {σ : aS} : Rn sc d 64 36 [a0, a1, .int x2] st σ r ↔ Rn sc d 64 37 [a0, a1, .int x2] (.int x2 :: st) σ r := r_iload_n d64_36 rfl
theorem d64_37 : decode (mC 64) 37 = .ok (.ireturn, 1) := by decide +kernel
theorem x64_37 {sc : aSc} {d : Nat} {r : aRes} {L : List Value} {σ : aS} {x : Int32} : Rn sc d 64 37 L [.int x] σ r ↔ r = (σ, some (.int x)) := r_iret d64_37 rfl rfl
theorem d211_0 : decode (mC 211) 0 = .ok (.aload_n 0, 1) := by decide +kernel
theorem x211_0 {sc : aSc} {d : Nat} {r : aRes} {x0 : Nat} {st : List Value} {σ : aS} : Rn sc d 211 0 [.ref x0] st σ r ↔ Rn sc d 211 1 [.ref x0] (.ref x0 :: st) σ r := r_aload_n d211_0 rfl
theorem d211_1 : decode (mC 211) 1 = .ok (.getfield 17, 3) := by decide +kernel
theorem x211_1 {sc : aSc} {d : Nat} {r : aRes} {L : List Value} {st : List Value} {f : Nat → Nat → Int32} {g : Nat → Nat → Int64} {h1 h2 : Nat} {o : Nat} (h17 : 17 ≤ o) (hK : KK[o]? = some (.inl 5)) : Rn sc d 211 1 L (.ref o :: st) (cS f g h1 h2) r ↔ Rn sc d 211 4 L (.int (f o 2) :: st) (cS f g h1 h2) r := r_getI d211_1 (ci := 5) (k := 2) rfl (by decide) (fun _ => rfl) h17 hK
theorem d211_4 : decode (mC 211) 4 = .ok (.aload_n 0, 1) := by decide +kernel
theorem x211_4 {sc : aSc} {d : Nat} {r : aRes} {x0 : Nat} {st : List Value} {σ : aS} : Rn sc d 211 4 [.ref x0] st σ r ↔ Rn sc d 211 5 [.ref x0] (.ref x0 :: st) σ r := r_aload_n d211_4 rfl
theorem d211_5 : decode (mC 211) 5 = .ok (.getfield 13, 3) := by decide +kernel
theorem x211_5 {sc : aSc} {d : Nat} {r : aRes} {L : List Value} {st : List Value} {f : Nat → Nat → Int32} {g : Nat → Nat → Int64} {h1 h2 : Nat} {o : Nat} (h17 : 17 ≤ o) (hK : KK[o]? = some (.inl 5)) : Rn sc d 211 5 L (.ref o :: st) (cS f g h1 h2) r ↔ Rn sc d 211 8 L (.int (f o 1) :: st) (cS f g h1 h2) r := r_getI d211_5 (ci := 5) (k := 1) rfl (by decide) (fun _ => rfl) h17 hK
theorem d211_8 : decode (mC 211) 8 = .ok (.if_icmp .ge 15, 3) := by decide +kernel
theorem x211_8 {sc : aSc} {d : Nat} {r : aRes} {L : List Value} {st : List Value} {σ : aS} {x y : Int32} : Rn sc d 211 8 L (.int y :: .int x :: st) σ r ↔ if x < y then Rn sc d 211 11 L st σ r else Rn sc d 211 23 L st σ r := r_icmp_ge d211_8 rfl
theorem d211_11 : decode (mC 211) 11 = .ok (.aload_n 0, 1) := by decide +kernel
theorem x211_11 {sc : aSc} {d : Nat} {r : aRes} {x0 : Nat} {st : List Value} {σ : aS} : Rn sc d 211 11 [.ref x0] st σ r ↔ Rn sc d 211 12 [.ref x0] (.ref x0 :: st) σ r := r_aload_n d211_11 rfl
theorem d211_12 : decode (mC 211) 12 = .ok (.getfield 9, 3) := by decide +kernel
theorem x211_12 {sc : aSc} {d : Nat} {r : aRes} {L : List Value} {st : List Value} {f : Nat → Nat → Int32} {g : Nat → Nat → Int64} {h1 h2 : Nat} {o : Nat} (hK : KK[o]? = some (.inl 5)) (hR : (RR h1 h2 o 0).isSome = true) : Rn sc d 211 12 L (.ref o :: st) (cS f g h1 h2) r ↔ Rn sc d 211 15 L (.ref (rf h1 h2 o 0) :: st) (cS f g h1 h2) r := r_getR2 d211_12 (ci := 5) (k := 0) rfl (by decide) (fun _ => rfl) hK hR
theorem d211_15 : decode (mC 211) 15 = .ok (.aload_n 0, 1) := by decide +kernel
theorem x211_15 {sc : aSc} {d : Nat} {r : aRes} {x0 : Nat} {st : List Value} {σ : aS} : Rn sc d 211 15 [.ref x0] st σ r ↔ Rn sc d 211 16 [.ref x0] (.ref x0 :: st) σ r := r_aload_n d211_15 rfl
theorem d211_16 : decode (mC 211) 16 = .ok (.getfield 17, 3) := by decide +kernel
theorem x211_16 {sc : aSc} {d : Nat} {r : aRes} {L : List Value} {st : List Value} {f : Nat → Nat → Int32} {g : Nat → Nat → Int64} {h1 h2 : Nat} {o : Nat} (h17 : 17 ≤ o) (hK : KK[o]? = some (.inl 5)) : Rn sc d 211 16 L (.ref o :: st) (cS f g h1 h2) r ↔ Rn sc d 211 19 L (.int (f o 2) :: st) (cS f g h1 h2) r := r_getI d211_16 (ci := 5) (k := 2) rfl (by decide) (fun _ => rfl) h17 hK
theorem d211_19 : decode (mC 211) 19 = .ok (.baload, 1) := by decide +kernel
theorem x211_19 {sc : aSc} {d : Nat} {r : aRes} {L : List Value} {st : List Value} {f : Nat → Nat → Int32} {g : Nat → Nat → Int64} {h1 h2 : Nat} {a : Nat} {i : Int32} (h17 : 17 ≤ a) (hA : isT9 .byte a) (hi : inb i (aln a) = true) : Rn sc d 211 19 L (.int i :: .ref a :: st) (cS f g h1 h2) r ↔ Rn sc d 211 20 L (.int (f a i.toNatClampNeg) :: st) (cS f g h1 h2) r := r_bald d211_19 h17 hA hi
theorem d211_20 : decode (mC 211) 20 = .ok (.goto 4, 3) := by decide +kernel
theorem x211_20 {sc : aSc} {d : Nat} {r : aRes} {L : List Value} {st : List Value} {σ : aS} : Rn sc d 211 20 L st σ r ↔ Rn sc d 211 24 L st σ r := r_goto d211_20 rfl
theorem d211_23 : decode (mC 211) 23 = .ok (.iconst (-1), 1) := by decide +kernel
theorem x211_23 {sc : aSc} {d : Nat} {r : aRes} {L : List Value} {st : List Value} {σ : aS} : Rn sc d 211 23 L st σ r ↔ Rn sc d 211 24 L (.int (-1) :: st) σ r := r_iconst d211_23 (by decide)
theorem d211_24 : decode (mC 211) 24 = .ok (.ireturn, 1) := by decide +kernel
theorem x211_24 {sc : aSc} {d : Nat} {r : aRes} {L : List Value} {σ : aS} {x : Int32} : Rn sc d 211 24 L [.int x] σ r ↔ r = (σ, some (.int x)) := r_iret d211_24 rfl rfl
