/-! a row an instruction (written by wip/whole/mk16.py) -/
theorem d108_0 : decode (mC 108) 0 = .ok (.iload_n 1, 1) := by decide +kernel
theorem x108_0 {sc : aSc} {d : Nat} {r : aRes} {a0 : Value} {x1 : Int32} {a2 : Value} {a3 : Value} {st : List Value} {σ : aS} : Rn sc d 108 0 [a0, .int x1, a2, a3] st σ r ↔ Rn sc d 108 1 [a0, .int x1, a2, a3] (.int x1 :: st) σ r := r_iload_n d108_0 rfl
theorem d108_1 : decode (mC 108) 1 = .ok (.iload_n 2, 1) := by decide +kernel
theorem x108_1 {sc : aSc} {d : Nat} {r : aRes} {a0 : Value} {a1 : Value} {x2 : Int32} {a3 : Value} {st : List Value} {σ : aS} : Rn sc d 108 1 [a0, a1, .int x2, a3] st σ r ↔ Rn sc d 108 2 [a0, a1, .int x2, a3] (.int x2 :: st) σ r := r_iload_n d108_1 rfl
theorem d108_2 : decode (mC 108) 2 = .ok (.if_icmp .lt 12, 3) := by decide +kernel
theorem x108_2 {sc : aSc} {d : Nat} {r : aRes} {L : List Value} {st : List Value} {σ : aS} {x y : Int32} : Rn sc d 108 2 L (.int y :: .int x :: st) σ r ↔ if x < y then Rn sc d 108 14 L st σ r else Rn sc d 108 5 L st σ r := r_icmp_lt d108_2 rfl
theorem d108_5 : decode (mC 108) 5 = .ok (.iload_n 1, 1) := by decide +kernel
theorem x108_5 {sc : aSc} {d : Nat} {r : aRes} {a0 : Value} {x1 : Int32} {a2 : Value} {a3 : Value} {st : List Value} {σ : aS} : Rn sc d 108 5 [a0, .int x1, a2, a3] st σ r ↔ Rn sc d 108 6 [a0, .int x1, a2, a3] (.int x1 :: st) σ r := r_iload_n d108_5 rfl
theorem d108_6 : decode (mC 108) 6 = .ok (.iload_n 3, 1) := by decide +kernel
theorem x108_6 {sc : aSc} {d : Nat} {r : aRes} {a0 : Value} {a1 : Value} {a2 : Value} {x3 : Int32} {st : List Value} {σ : aS} : Rn sc d 108 6 [a0, a1, a2, .int x3] st σ r ↔ Rn sc d 108 7 [a0, a1, a2, .int x3] (.int x3 :: st) σ r := r_iload_n d108_6 rfl
theorem d108_7 : decode (mC 108) 7 = .ok (.if_icmp .gt 7, 3) := by decide +kernel
theorem x108_7 {sc : aSc} {d : Nat} {r : aRes} {L : List Value} {st : List Value} {σ : aS} {x y : Int32} : Rn sc d 108 7 L (.int y :: .int x :: st) σ r ↔ if y < x then Rn sc d 108 14 L st σ r else Rn sc d 108 10 L st σ r := r_icmp_gt d108_7 rfl
theorem d108_10 : decode (mC 108) 10 = .ok (.iconst 1, 1) := by decide +kernel
theorem x108_10 {sc : aSc} {d : Nat} {r : aRes} {L : List Value} {st : List Value} {σ : aS} : Rn sc d 108 10 L st σ r ↔ Rn sc d 108 11 L (.int 1 :: st) σ r := r_iconst d108_10 (by decide)
theorem d108_11 : decode (mC 108) 11 = .ok (.goto 4, 3) := by decide +kernel
theorem x108_11 {sc : aSc} {d : Nat} {r : aRes} {L : List Value} {st : List Value} {σ : aS} : Rn sc d 108 11 L st σ r ↔ Rn sc d 108 15 L st σ r := r_goto d108_11 rfl
theorem d108_14 : decode (mC 108) 14 = .ok (.iconst 0, 1) := by decide +kernel
theorem x108_14 {sc : aSc} {d : Nat} {r : aRes} {L : List Value} {st : List Value} {σ : aS} : Rn sc d 108 14 L st σ r ↔ Rn sc d 108 15 L (.int 0 :: st) σ r := r_iconst d108_14 (by decide)
theorem d108_15 : decode (mC 108) 15 = .ok (.ireturn, 1) := by decide +kernel
theorem x108_15 {sc : aSc} {d : Nat} {r : aRes} {L : List Value} {σ : aS} {x : Int32} (hn : x &&& 1 = x) : Rn sc d 108 15 L [.int x] σ r ↔ r = (σ, some (.int x)) := r_iret d108_15 rfl (congrArg Value.int hn)
theorem d109_0 : decode (mC 109) 0 = .ok (.aload_n 0, 1) := by decide +kernel
theorem x109_0 {sc : aSc} {d : Nat} {r : aRes} {x0 : Nat} {a1 : Value} {st : List Value} {σ : aS} : Rn sc d 109 0 [.ref x0, a1] st σ r ↔ Rn sc d 109 1 [.ref x0, a1] (.ref x0 :: st) σ r := r_aload_n d109_0 rfl
theorem d109_1 : decode (mC 109) 1 = .ok (.iload_n 1, 1) := by decide +kernel
theorem x109_1 {sc : aSc} {d : Nat} {r : aRes} {a0 : Value} {x1 : Int32} {st : List Value} {σ : aS} : Rn sc d 109 1 [a0, .int x1] st σ r ↔ Rn sc d 109 2 [a0, .int x1] (.int x1 :: st) σ r := r_iload_n d109_1 rfl
theorem d109_2 : decode (mC 109) 2 = .ok (.iconst 0, 1) := by decide +kernel
theorem x109_2 {sc : aSc} {d : Nat} {r : aRes} {L : List Value} {st : List Value} {σ : aS} : Rn sc d 109 2 L st σ r ↔ Rn sc d 109 3 L (.int 0 :: st) σ r := r_iconst d109_2 (by decide)
theorem d109_3 : decode (mC 109) 3 = .ok (.aload_n 0, 1) := by decide +kernel
theorem x109_3 {sc : aSc} {d : Nat} {r : aRes} {x0 : Nat} {a1 : Value} {st : List Value} {σ : aS} : Rn sc d 109 3 [.ref x0, a1] st σ r ↔ Rn sc d 109 4 [.ref x0, a1] (.ref x0 :: st) σ r := r_aload_n d109_3 rfl
theorem d109_4 : decode (mC 109) 4 = .ok (.getfield 7, 3) := by decide +kernel
theorem x109_4 {sc : aSc} {d : Nat} {r : aRes} {L : List Value} {st : List Value} {f : Nat → Nat → Int32} {g : Nat → Nat → Int64} {h1 h2 : Nat} {o : Nat} (h17 : 17 ≤ o) (hK : KK[o]? = some (.inl 7)) : Rn sc d 109 4 L (.ref o :: st) (cS f g h1 h2) r ↔ Rn sc d 109 7 L (.int (f o 0) :: st) (cS f g h1 h2) r := r_getI d109_4 (ci := 7) (k := 0) rfl (by decide) (fun _ => rfl) h17 hK
theorem d109_7 : decode (mC 109) 7 = .ok (.iconst 1, 1) := by decide +kernel
theorem x109_7 {sc : aSc} {d : Nat} {r : aRes} {L : List Value} {st : List Value} {σ : aS} : Rn sc d 109 7 L st σ r ↔ Rn sc d 109 8 L (.int 1 :: st) σ r := r_iconst d109_7 (by decide)
theorem d109_8 : decode (mC 109) 8 = .ok (.isub, 1) := by decide +kernel
theorem x109_8 {sc : aSc} {d : Nat} {r : aRes} {L : List Value} {st : List Value} {σ : aS} {x y : Int32} : Rn sc d 109 8 L (.int y :: .int x :: st) σ r ↔ Rn sc d 109 9 L (.int (x - y) :: st) σ r := r_isub d109_8
theorem d109_9 : decode (mC 109) 9 = .ok (.invokevirtual 227, 3) := by decide +kernel
theorem x109_9 {sc : aSc} {d : Nat} {r : aRes} {L : List Value} {f : Nat → Nat → Int32} {g : Nat → Nat → Int64} {h1 h2 : Nat} {y0 : Int32} {y1 : Int32} {y2 : Int32}  {o : Nat} (hK : KK[o]? = some (.inl 7)) : Rn sc d 109 9 L [.int y0, .int y1, .int y2, .ref o] (cS f g h1 h2) r ↔ ∃ (σ3 : aS) (v : Option Value), Cl sc d 108 [.ref o, .int y2, .int y1, .int y0] (cS f g h1 h2) (σ3, v) ∧ Rn sc d 109 12 L (v.toList ++ []) σ3 r := r_callV (vs := [.int y0, .int y1, .int y2]) d109_9 (j := 108) rfl ⟨rfl, by decide, rfl, rfl⟩ (Nat.le_of_ble_eq_true rfl) hK
theorem d109_12 : decode (mC 109) 12 = .ok (.ireturn, 1) := by decide +kernel
theorem x109_12 {sc : aSc} {d : Nat} {r : aRes} {L : List Value} {σ : aS} {x : Int32} (hn : x &&& 1 = x) : Rn sc d 109 12 L [.int x] σ r ↔ r = (σ, some (.int x)) := r_iret d109_12 rfl (congrArg Value.int hn)
theorem d110_0 : decode (mC 110) 0 = .ok (.aload_n 0, 1) := by decide +kernel
theorem x110_0 {sc : aSc} {d : Nat} {r : aRes} {x0 : Nat} {a1 : Value} {a2 : Value} {a3 : Value} {a4 : Value} {a5 : Value} {a6 : Value} {a7 : Value} {st : List Value} {σ : aS} : Rn sc d 110 0 [.ref x0, a1, a2, a3, a4, a5, a6, a7] st σ r ↔ Rn sc d 110 1 [.ref x0, a1, a2, a3, a4, a5, a6, a7] (.ref x0 :: st) σ r := r_aload_n d110_0 rfl
theorem d110_1 : decode (mC 110) 1 = .ok (.iload_n 1, 1) := by decide +kernel
theorem x110_1 {sc : aSc} {d : Nat} {r : aRes} {a0 : Value} {x1 : Int32} {a2 : Value} {a3 : Value} {a4 : Value} {a5 : Value} {a6 : Value} {a7 : Value} {st : List Value} {σ : aS} : Rn sc d 110 1 [a0, .int x1, a2, a3, a4, a5, a6, a7] st σ r ↔ Rn sc d 110 2 [a0, .int x1, a2, a3, a4, a5, a6, a7] (.int x1 :: st) σ r := r_iload_n d110_1 rfl
theorem d110_2 : decode (mC 110) 2 = .ok (.iconst 0, 1) := by decide +kernel
theorem x110_2 {sc : aSc} {d : Nat} {r : aRes} {L : List Value} {st : List Value} {σ : aS} : Rn sc d 110 2 L st σ r ↔ Rn sc d 110 3 L (.int 0 :: st) σ r := r_iconst d110_2 (by decide)
theorem d110_3 : decode (mC 110) 3 = .ok (.bipush 6, 2) := by decide +kernel
theorem x110_3 {sc : aSc} {d : Nat} {r : aRes} {L : List Value} {st : List Value} {σ : aS} : Rn sc d 110 3 L st σ r ↔ Rn sc d 110 5 L (.int 6 :: st) σ r := r_bipush d110_3 (by decide)
theorem d110_5 : decode (mC 110) 5 = .ok (.invokevirtual 227, 3) := by decide +kernel
theorem x110_5 {sc : aSc} {d : Nat} {r : aRes} {L : List Value} {f : Nat → Nat → Int32} {g : Nat → Nat → Int64} {h1 h2 : Nat} {y0 : Int32} {y1 : Int32} {y2 : Int32}  {o : Nat} (hK : KK[o]? = some (.inl 7)) : Rn sc d 110 5 L [.int y0, .int y1, .int y2, .ref o] (cS f g h1 h2) r ↔ ∃ (σ3 : aS) (v : Option Value), Cl sc d 108 [.ref o, .int y2, .int y1, .int y0] (cS f g h1 h2) (σ3, v) ∧ Rn sc d 110 8 L (v.toList ++ []) σ3 r := r_callV (vs := [.int y0, .int y1, .int y2]) d110_5 (j := 108) rfl ⟨rfl, by decide, rfl, rfl⟩ (Nat.le_of_ble_eq_true rfl) hK
theorem d110_8 : decode (mC 110) 8 = .ok (.ifCond .ne 5, 3) := by decide +kernel
theorem x110_8 {sc : aSc} {d : Nat} {r : aRes} {L : List Value} {st : List Value} {σ : aS} {x : Int32} : Rn sc d 110 8 L (.int x :: st) σ r ↔ if x = 0 then Rn sc d 110 11 L st σ r else Rn sc d 110 13 L st σ r := r_if_ne d110_8 rfl
theorem d110_11 : decode (mC 110) 11 = .ok (.iconst (-1), 1) := by decide +kernel
theorem x110_11 {sc : aSc} {d : Nat} {r : aRes} {L : List Value} {st : List Value} {σ : aS} : Rn sc d 110 11 L st σ r ↔ Rn sc d 110 12 L (.int (-1) :: st) σ r := r_iconst d110_11 (by decide)
theorem d110_12 : decode (mC 110) 12 = .ok (.ireturn, 1) := by decide +kernel
theorem x110_12 {sc : aSc} {d : Nat} {r : aRes} {L : List Value} {σ : aS} {x : Int32} : Rn sc d 110 12 L [.int x] σ r ↔ r = (σ, some (.int x)) := r_iret d110_12 rfl rfl
theorem d110_13 : decode (mC 110) 13 = .ok (.aload_n 0, 1) := by decide +kernel
theorem x110_13 {sc : aSc} {d : Nat} {r : aRes} {x0 : Nat} {a1 : Value} {a2 : Value} {a3 : Value} {a4 : Value} {a5 : Value} {a6 : Value} {a7 : Value} {st : List Value} {σ : aS} : Rn sc d 110 13 [.ref x0, a1, a2, a3, a4, a5, a6, a7] st σ r ↔ Rn sc d 110 14 [.ref x0, a1, a2, a3, a4, a5, a6, a7] (.ref x0 :: st) σ r := r_aload_n d110_13 rfl
theorem d110_14 : decode (mC 110) 14 = .ok (.iload_n 2, 1) := by decide +kernel
theorem x110_14 {sc : aSc} {d : Nat} {r : aRes} {a0 : Value} {a1 : Value} {x2 : Int32} {a3 : Value} {a4 : Value} {a5 : Value} {a6 : Value} {a7 : Value} {st : List Value} {σ : aS} : Rn sc d 110 14 [a0, a1, .int x2, a3, a4, a5, a6, a7] st σ r ↔ Rn sc d 110 15 [a0, a1, .int x2, a3, a4, a5, a6, a7] (.int x2 :: st) σ r := r_iload_n d110_14 rfl
theorem d110_15 : decode (mC 110) 15 = .ok (.iconst 0, 1) := by decide +kernel
theorem x110_15 {sc : aSc} {d : Nat} {r : aRes} {L : List Value} {st : List Value} {σ : aS} : Rn sc d 110 15 L st σ r ↔ Rn sc d 110 16 L (.int 0 :: st) σ r := r_iconst d110_15 (by decide)
theorem d110_16 : decode (mC 110) 16 = .ok (.bipush 9, 2) := by decide +kernel
theorem x110_16 {sc : aSc} {d : Nat} {r : aRes} {L : List Value} {st : List Value} {σ : aS} : Rn sc d 110 16 L st σ r ↔ Rn sc d 110 18 L (.int 9 :: st) σ r := r_bipush d110_16 (by decide)
theorem d110_18 : decode (mC 110) 18 = .ok (.invokevirtual 227, 3) := by decide +kernel
theorem x110_18 {sc : aSc} {d : Nat} {r : aRes} {L : List Value} {f : Nat → Nat → Int32} {g : Nat → Nat → Int64} {h1 h2 : Nat} {y0 : Int32} {y1 : Int32} {y2 : Int32}  {o : Nat} (hK : KK[o]? = some (.inl 7)) : Rn sc d 110 18 L [.int y0, .int y1, .int y2, .ref o] (cS f g h1 h2) r ↔ ∃ (σ3 : aS) (v : Option Value), Cl sc d 108 [.ref o, .int y2, .int y1, .int y0] (cS f g h1 h2) (σ3, v) ∧ Rn sc d 110 21 L (v.toList ++ []) σ3 r := r_callV (vs := [.int y0, .int y1, .int y2]) d110_18 (j := 108) rfl ⟨rfl, by decide, rfl, rfl⟩ (Nat.le_of_ble_eq_true rfl) hK
theorem d110_21 : decode (mC 110) 21 = .ok (.ifCond .eq 48, 3) := by decide +kernel
theorem x110_21 {sc : aSc} {d : Nat} {r : aRes} {L : List Value} {st : List Value} {σ : aS} {x : Int32} : Rn sc d 110 21 L (.int x :: st) σ r ↔ if x = 0 then Rn sc d 110 69 L st σ r else Rn sc d 110 24 L st σ r := r_if_eq d110_21 rfl
theorem d110_24 : decode (mC 110) 24 = .ok (.aload_n 0, 1) := by decide +kernel
theorem x110_24 {sc : aSc} {d : Nat} {r : aRes} {x0 : Nat} {a1 : Value} {a2 : Value} {a3 : Value} {a4 : Value} {a5 : Value} {a6 : Value} {a7 : Value} {st : List Value} {σ : aS} : Rn sc d 110 24 [.ref x0, a1, a2, a3, a4, a5, a6, a7] st σ r ↔ Rn sc d 110 25 [.ref x0, a1, a2, a3, a4, a5, a6, a7] (.ref x0 :: st) σ r := r_aload_n d110_24 rfl
theorem d110_25 : decode (mC 110) 25 = .ok (.iload_n 3, 1) := by decide +kernel
theorem x110_25 {sc : aSc} {d : Nat} {r : aRes} {a0 : Value} {a1 : Value} {a2 : Value} {x3 : Int32} {a4 : Value} {a5 : Value} {a6 : Value} {a7 : Value} {st : List Value} {σ : aS} : Rn sc d 110 25 [a0, a1, a2, .int x3, a4, a5, a6, a7] st σ r ↔ Rn sc d 110 26 [a0, a1, a2, .int x3, a4, a5, a6, a7] (.int x3 :: st) σ r := r_iload_n d110_25 rfl
theorem d110_26 : decode (mC 110) 26 = .ok (.iconst 0, 1) := by decide +kernel
theorem x110_26 {sc : aSc} {d : Nat} {r : aRes} {L : List Value} {st : List Value} {σ : aS} : Rn sc d 110 26 L st σ r ↔ Rn sc d 110 27 L (.int 0 :: st) σ r := r_iconst d110_26 (by decide)
theorem d110_27 : decode (mC 110) 27 = .ok (.bipush 99, 2) := by decide +kernel
theorem x110_27 {sc : aSc} {d : Nat} {r : aRes} {L : List Value} {st : List Value} {σ : aS} : Rn sc d 110 27 L st σ r ↔ Rn sc d 110 29 L (.int 99 :: st) σ r := r_bipush d110_27 (by decide)
theorem d110_29 : decode (mC 110) 29 = .ok (.invokevirtual 227, 3) := by decide +kernel
theorem x110_29 {sc : aSc} {d : Nat} {r : aRes} {L : List Value} {f : Nat → Nat → Int32} {g : Nat → Nat → Int64} {h1 h2 : Nat} {y0 : Int32} {y1 : Int32} {y2 : Int32}  {o : Nat} (hK : KK[o]? = some (.inl 7)) : Rn sc d 110 29 L [.int y0, .int y1, .int y2, .ref o] (cS f g h1 h2) r ↔ ∃ (σ3 : aS) (v : Option Value), Cl sc d 108 [.ref o, .int y2, .int y1, .int y0] (cS f g h1 h2) (σ3, v) ∧ Rn sc d 110 32 L (v.toList ++ []) σ3 r := r_callV (vs := [.int y0, .int y1, .int y2]) d110_29 (j := 108) rfl ⟨rfl, by decide, rfl, rfl⟩ (Nat.le_of_ble_eq_true rfl) hK
theorem d110_32 : decode (mC 110) 32 = .ok (.ifCond .eq 37, 3) := by decide +kernel
theorem x110_32 {sc : aSc} {d : Nat} {r : aRes} {L : List Value} {st : List Value} {σ : aS} {x : Int32} : Rn sc d 110 32 L (.int x :: st) σ r ↔ if x = 0 then Rn sc d 110 69 L st σ r else Rn sc d 110 35 L st σ r := r_if_eq d110_32 rfl
theorem d110_35 : decode (mC 110) 35 = .ok (.aload_n 0, 1) := by decide +kernel
theorem x110_35 {sc : aSc} {d : Nat} {r : aRes} {x0 : Nat} {a1 : Value} {a2 : Value} {a3 : Value} {a4 : Value} {a5 : Value} {a6 : Value} {a7 : Value} {st : List Value} {σ : aS} : Rn sc d 110 35 [.ref x0, a1, a2, a3, a4, a5, a6, a7] st σ r ↔ Rn sc d 110 36 [.ref x0, a1, a2, a3, a4, a5, a6, a7] (.ref x0 :: st) σ r := r_aload_n d110_35 rfl
theorem d110_36 : decode (mC 110) 36 = .ok (.iload 4, 2) := by decide +kernel
theorem x110_36 {sc : aSc} {d : Nat} {r : aRes} {a0 : Value} {a1 : Value} {a2 : Value} {a3 : Value} {x4 : Int32} {a5 : Value} {a6 : Value} {a7 : Value} {st : List Value} {σ : aS} : Rn sc d 110 36 [a0, a1, a2, a3, .int x4, a5, a6, a7] st σ r ↔ Rn sc d 110 38 [a0, a1, a2, a3, .int x4, a5, a6, a7] (.int x4 :: st) σ r := r_iload d110_36 rfl
theorem d110_38 : decode (mC 110) 38 = .ok (.iconst 0, 1) := by decide +kernel
theorem x110_38 {sc : aSc} {d : Nat} {r : aRes} {L : List Value} {st : List Value} {σ : aS} : Rn sc d 110 38 L st σ r ↔ Rn sc d 110 39 L (.int 0 :: st) σ r := r_iconst d110_38 (by decide)
theorem d110_39 : decode (mC 110) 39 = .ok (.iconst 1, 1) := by decide +kernel
theorem x110_39 {sc : aSc} {d : Nat} {r : aRes} {L : List Value} {st : List Value} {σ : aS} : Rn sc d 110 39 L st σ r ↔ Rn sc d 110 40 L (.int 1 :: st) σ r := r_iconst d110_39 (by decide)
theorem d110_40 : decode (mC 110) 40 = .ok (.invokevirtual 227, 3) := by decide +kernel
theorem x110_40 {sc : aSc} {d : Nat} {r : aRes} {L : List Value} {f : Nat → Nat → Int32} {g : Nat → Nat → Int64} {h1 h2 : Nat} {y0 : Int32} {y1 : Int32} {y2 : Int32}  {o : Nat} (hK : KK[o]? = some (.inl 7)) : Rn sc d 110 40 L [.int y0, .int y1, .int y2, .ref o] (cS f g h1 h2) r ↔ ∃ (σ3 : aS) (v : Option Value), Cl sc d 108 [.ref o, .int y2, .int y1, .int y0] (cS f g h1 h2) (σ3, v) ∧ Rn sc d 110 43 L (v.toList ++ []) σ3 r := r_callV (vs := [.int y0, .int y1, .int y2]) d110_40 (j := 108) rfl ⟨rfl, by decide, rfl, rfl⟩ (Nat.le_of_ble_eq_true rfl) hK
theorem d110_43 : decode (mC 110) 43 = .ok (.ifCond .eq 26, 3) := by decide +kernel
theorem x110_43 {sc : aSc} {d : Nat} {r : aRes} {L : List Value} {st : List Value} {σ : aS} {x : Int32} : Rn sc d 110 43 L (.int x :: st) σ r ↔ if x = 0 then Rn sc d 110 69 L st σ r else Rn sc d 110 46 L st σ r := r_if_eq d110_43 rfl
theorem d110_46 : decode (mC 110) 46 = .ok (.aload_n 0, 1) := by decide +kernel
theorem x110_46 {sc : aSc} {d : Nat} {r : aRes} {x0 : Nat} {a1 : Value} {a2 : Value} {a3 : Value} {a4 : Value} {a5 : Value} {a6 : Value} {a7 : Value} {st : List Value} {σ : aS} : Rn sc d 110 46 [.ref x0, a1, a2, a3, a4, a5, a6, a7] st σ r ↔ Rn sc d 110 47 [.ref x0, a1, a2, a3, a4, a5, a6, a7] (.ref x0 :: st) σ r := r_aload_n d110_46 rfl
theorem d110_47 : decode (mC 110) 47 = .ok (.iload 5, 2) := by decide +kernel
theorem x110_47 {sc : aSc} {d : Nat} {r : aRes} {a0 : Value} {a1 : Value} {a2 : Value} {a3 : Value} {a4 : Value} {x5 : Int32} {a6 : Value} {a7 : Value} {st : List Value} {σ : aS} : Rn sc d 110 47 [a0, a1, a2, a3, a4, .int x5, a6, a7] st σ r ↔ Rn sc d 110 49 [a0, a1, a2, a3, a4, .int x5, a6, a7] (.int x5 :: st) σ r := r_iload d110_47 rfl
theorem d110_49 : decode (mC 110) 49 = .ok (.iconst 0, 1) := by decide +kernel
theorem x110_49 {sc : aSc} {d : Nat} {r : aRes} {L : List Value} {st : List Value} {σ : aS} : Rn sc d 110 49 L st σ r ↔ Rn sc d 110 50 L (.int 0 :: st) σ r := r_iconst d110_49 (by decide)
theorem d110_50 : decode (mC 110) 50 = .ok (.iconst 1, 1) := by decide +kernel
theorem x110_50 {sc : aSc} {d : Nat} {r : aRes} {L : List Value} {st : List Value} {σ : aS} : Rn sc d 110 50 L st σ r ↔ Rn sc d 110 51 L (.int 1 :: st) σ r := r_iconst d110_50 (by decide)
theorem d110_51 : decode (mC 110) 51 = .ok (.invokevirtual 227, 3) := by decide +kernel
theorem x110_51 {sc : aSc} {d : Nat} {r : aRes} {L : List Value} {f : Nat → Nat → Int32} {g : Nat → Nat → Int64} {h1 h2 : Nat} {y0 : Int32} {y1 : Int32} {y2 : Int32}  {o : Nat} (hK : KK[o]? = some (.inl 7)) : Rn sc d 110 51 L [.int y0, .int y1, .int y2, .ref o] (cS f g h1 h2) r ↔ ∃ (σ3 : aS) (v : Option Value), Cl sc d 108 [.ref o, .int y2, .int y1, .int y0] (cS f g h1 h2) (σ3, v) ∧ Rn sc d 110 54 L (v.toList ++ []) σ3 r := r_callV (vs := [.int y0, .int y1, .int y2]) d110_51 (j := 108) rfl ⟨rfl, by decide, rfl, rfl⟩ (Nat.le_of_ble_eq_true rfl) hK
theorem d110_54 : decode (mC 110) 54 = .ok (.ifCond .eq 15, 3) := by decide +kernel
theorem x110_54 {sc : aSc} {d : Nat} {r : aRes} {L : List Value} {st : List Value} {σ : aS} {x : Int32} : Rn sc d 110 54 L (.int x :: st) σ r ↔ if x = 0 then Rn sc d 110 69 L st σ r else Rn sc d 110 57 L st σ r := r_if_eq d110_54 rfl
theorem d110_57 : decode (mC 110) 57 = .ok (.aload_n 0, 1) := by decide +kernel
theorem x110_57 {sc : aSc} {d : Nat} {r : aRes} {x0 : Nat} {a1 : Value} {a2 : Value} {a3 : Value} {a4 : Value} {a5 : Value} {a6 : Value} {a7 : Value} {st : List Value} {σ : aS} : Rn sc d 110 57 [.ref x0, a1, a2, a3, a4, a5, a6, a7] st σ r ↔ Rn sc d 110 58 [.ref x0, a1, a2, a3, a4, a5, a6, a7] (.ref x0 :: st) σ r := r_aload_n d110_57 rfl
theorem d110_58 : decode (mC 110) 58 = .ok (.iload 6, 2) := by decide +kernel
theorem x110_58 {sc : aSc} {d : Nat} {r : aRes} {a0 : Value} {a1 : Value} {a2 : Value} {a3 : Value} {a4 : Value} {a5 : Value} {x6 : Int32} {a7 : Value} {st : List Value} {σ : aS} : Rn sc d 110 58 [a0, a1, a2, a3, a4, a5, .int x6, a7] st σ r ↔ Rn sc d 110 60 [a0, a1, a2, a3, a4, a5, .int x6, a7] (.int x6 :: st) σ r := r_iload d110_58 rfl
theorem d110_60 : decode (mC 110) 60 = .ok (.iconst 0, 1) := by decide +kernel
theorem x110_60 {sc : aSc} {d : Nat} {r : aRes} {L : List Value} {st : List Value} {σ : aS} : Rn sc d 110 60 L st σ r ↔ Rn sc d 110 61 L (.int 0 :: st) σ r := r_iconst d110_60 (by decide)
theorem d110_61 : decode (mC 110) 61 = .ok (.bipush 99, 2) := by decide +kernel
theorem x110_61 {sc : aSc} {d : Nat} {r : aRes} {L : List Value} {st : List Value} {σ : aS} : Rn sc d 110 61 L st σ r ↔ Rn sc d 110 63 L (.int 99 :: st) σ r := r_bipush d110_61 (by decide)
theorem d110_63 : decode (mC 110) 63 = .ok (.invokevirtual 227, 3) := by decide +kernel
theorem x110_63 {sc : aSc} {d : Nat} {r : aRes} {L : List Value} {f : Nat → Nat → Int32} {g : Nat → Nat → Int64} {h1 h2 : Nat} {y0 : Int32} {y1 : Int32} {y2 : Int32}  {o : Nat} (hK : KK[o]? = some (.inl 7)) : Rn sc d 110 63 L [.int y0, .int y1, .int y2, .ref o] (cS f g h1 h2) r ↔ ∃ (σ3 : aS) (v : Option Value), Cl sc d 108 [.ref o, .int y2, .int y1, .int y0] (cS f g h1 h2) (σ3, v) ∧ Rn sc d 110 66 L (v.toList ++ []) σ3 r := r_callV (vs := [.int y0, .int y1, .int y2]) d110_63 (j := 108) rfl ⟨rfl, by decide, rfl, rfl⟩ (Nat.le_of_ble_eq_true rfl) hK
theorem d110_66 : decode (mC 110) 66 = .ok (.ifCond .ne 6, 3) := by decide +kernel
theorem x110_66 {sc : aSc} {d : Nat} {r : aRes} {L : List Value} {st : List Value} {σ : aS} {x : Int32} : Rn sc d 110 66 L (.int x :: st) σ r ↔ if x = 0 then Rn sc d 110 69 L st σ r else Rn sc d 110 72 L st σ r := r_if_ne d110_66 rfl
theorem d110_69 : decode (mC 110) 69 = .ok (.bipush (-2), 2) := by decide +kernel
theorem x110_69 {sc : aSc} {d : Nat} {r : aRes} {L : List Value} {st : List Value} {σ : aS} : Rn sc d 110 69 L st σ r ↔ Rn sc d 110 71 L (.int (-2) :: st) σ r := r_bipush d110_69 (by decide)
theorem d110_71 : decode (mC 110) 71 = .ok (.ireturn, 1) := by decide +kernel
theorem x110_71 {sc : aSc} {d : Nat} {r : aRes} {L : List Value} {σ : aS} {x : Int32} : Rn sc d 110 71 L [.int x] σ r ↔ r = (σ, some (.int x)) := r_iret d110_71 rfl rfl
theorem d110_72 : decode (mC 110) 72 = .ok (.aload_n 0, 1) := by decide +kernel
theorem x110_72 {sc : aSc} {d : Nat} {r : aRes} {x0 : Nat} {a1 : Value} {a2 : Value} {a3 : Value} {a4 : Value} {a5 : Value} {a6 : Value} {a7 : Value} {st : List Value} {σ : aS} : Rn sc d 110 72 [.ref x0, a1, a2, a3, a4, a5, a6, a7] st σ r ↔ Rn sc d 110 73 [.ref x0, a1, a2, a3, a4, a5, a6, a7] (.ref x0 :: st) σ r := r_aload_n d110_72 rfl
theorem d110_73 : decode (mC 110) 73 = .ok (.getfield 7, 3) := by decide +kernel
theorem x110_73 {sc : aSc} {d : Nat} {r : aRes} {L : List Value} {st : List Value} {f : Nat → Nat → Int32} {g : Nat → Nat → Int64} {h1 h2 : Nat} {o : Nat} (h17 : 17 ≤ o) (hK : KK[o]? = some (.inl 7)) : Rn sc d 110 73 L (.ref o :: st) (cS f g h1 h2) r ↔ Rn sc d 110 76 L (.int (f o 0) :: st) (cS f g h1 h2) r := r_getI d110_73 (ci := 7) (k := 0) rfl (by decide) (fun _ => rfl) h17 hK
theorem d110_76 : decode (mC 110) 76 = .ok (.bipush 7, 2) := by decide +kernel
theorem x110_76 {sc : aSc} {d : Nat} {r : aRes} {L : List Value} {st : List Value} {σ : aS} : Rn sc d 110 76 L st σ r ↔ Rn sc d 110 78 L (.int 7 :: st) σ r := r_bipush d110_76 (by decide)
theorem d110_78 : decode (mC 110) 78 = .ok (.if_icmp .ne 6, 3) := by decide +kernel
theorem x110_78 {sc : aSc} {d : Nat} {r : aRes} {L : List Value} {st : List Value} {σ : aS} {x y : Int32} : Rn sc d 110 78 L (.int y :: .int x :: st) σ r ↔ if x = y then Rn sc d 110 81 L st σ r else Rn sc d 110 84 L st σ r := r_icmp_ne d110_78 rfl
theorem d110_81 : decode (mC 110) 81 = .ok (.bipush (-4), 2) := by decide +kernel
theorem x110_81 {sc : aSc} {d : Nat} {r : aRes} {L : List Value} {st : List Value} {σ : aS} : Rn sc d 110 81 L st σ r ↔ Rn sc d 110 83 L (.int (-4) :: st) σ r := r_bipush d110_81 (by decide)
theorem d110_83 : decode (mC 110) 83 = .ok (.ireturn, 1) := by decide +kernel
theorem x110_83 {sc : aSc} {d : Nat} {r : aRes} {L : List Value} {σ : aS} {x : Int32} : Rn sc d 110 83 L [.int x] σ r ↔ r = (σ, some (.int x)) := r_iret d110_83 rfl rfl
theorem d110_84 : decode (mC 110) 84 = .ok (.aload_n 0, 1) := by decide +kernel
theorem x110_84 {sc : aSc} {d : Nat} {r : aRes} {x0 : Nat} {a1 : Value} {a2 : Value} {a3 : Value} {a4 : Value} {a5 : Value} {a6 : Value} {a7 : Value} {st : List Value} {σ : aS} : Rn sc d 110 84 [.ref x0, a1, a2, a3, a4, a5, a6, a7] st σ r ↔ Rn sc d 110 85 [.ref x0, a1, a2, a3, a4, a5, a6, a7] (.ref x0 :: st) σ r := r_aload_n d110_84 rfl
theorem d110_85 : decode (mC 110) 85 = .ok (.getfield 25, 3) := by decide +kernel
theorem x110_85 {sc : aSc} {d : Nat} {r : aRes} {L : List Value} {st : List Value} {f : Nat → Nat → Int32} {g : Nat → Nat → Int64} {h1 h2 : Nat} {o : Nat} (hK : KK[o]? = some (.inl 7)) (hR : (RR h1 h2 o 5).isSome = true) : Rn sc d 110 85 L (.ref o :: st) (cS f g h1 h2) r ↔ Rn sc d 110 88 L (.ref (rf h1 h2 o 5) :: st) (cS f g h1 h2) r := r_getR2 d110_85 (ci := 7) (k := 5) rfl (by decide) (fun _ => rfl) hK hR
theorem d110_88 : decode (mC 110) 88 = .ok (.aload_n 0, 1) := by decide +kernel
theorem x110_88 {sc : aSc} {d : Nat} {r : aRes} {x0 : Nat} {a1 : Value} {a2 : Value} {a3 : Value} {a4 : Value} {a5 : Value} {a6 : Value} {a7 : Value} {st : List Value} {σ : aS} : Rn sc d 110 88 [.ref x0, a1, a2, a3, a4, a5, a6, a7] st σ r ↔ Rn sc d 110 89 [.ref x0, a1, a2, a3, a4, a5, a6, a7] (.ref x0 :: st) σ r := r_aload_n d110_88 rfl
theorem d110_89 : decode (mC 110) 89 = .ok (.getfield 7, 3) := by decide +kernel
theorem x110_89 {sc : aSc} {d : Nat} {r : aRes} {L : List Value} {st : List Value} {f : Nat → Nat → Int32} {g : Nat → Nat → Int64} {h1 h2 : Nat} {o : Nat} (h17 : 17 ≤ o) (hK : KK[o]? = some (.inl 7)) : Rn sc d 110 89 L (.ref o :: st) (cS f g h1 h2) r ↔ Rn sc d 110 92 L (.int (f o 0) :: st) (cS f g h1 h2) r := r_getI d110_89 (ci := 7) (k := 0) rfl (by decide) (fun _ => rfl) h17 hK
theorem d110_92 : decode (mC 110) 92 = .ok (.iload_n 1, 1) := by decide +kernel
theorem x110_92 {sc : aSc} {d : Nat} {r : aRes} {a0 : Value} {x1 : Int32} {a2 : Value} {a3 : Value} {a4 : Value} {a5 : Value} {a6 : Value} {a7 : Value} {st : List Value} {σ : aS} : Rn sc d 110 92 [a0, .int x1, a2, a3, a4, a5, a6, a7] st σ r ↔ Rn sc d 110 93 [a0, .int x1, a2, a3, a4, a5, a6, a7] (.int x1 :: st) σ r := r_iload_n d110_92 rfl
theorem d110_93 : decode (mC 110) 93 = .ok (.iastore, 1) := by decide +kernel
theorem x110_93 {sc : aSc} {d : Nat} {r : aRes} {L : List Value} {st : List Value} {f : Nat → Nat → Int32} {g : Nat → Nat → Int64} {h1 h2 : Nat} {a : Nat} {i : Int32} {x : Int32} (h17 : 17 ≤ a) (hA : isT9 .int a) (hi : inb i (aln a) = true) : Rn sc d 110 93 L (.int x :: .int i :: .ref a :: st) (cS f g h1 h2) r ↔ Rn sc d 110 94 L st (cS (u2 f a i.toNatClampNeg x) g h1 h2) r := r_iast d110_93 h17 hA hi
theorem d110_94 : decode (mC 110) 94 = .ok (.aload_n 0, 1) := by decide +kernel
theorem x110_94 {sc : aSc} {d : Nat} {r : aRes} {x0 : Nat} {a1 : Value} {a2 : Value} {a3 : Value} {a4 : Value} {a5 : Value} {a6 : Value} {a7 : Value} {st : List Value} {σ : aS} : Rn sc d 110 94 [.ref x0, a1, a2, a3, a4, a5, a6, a7] st σ r ↔ Rn sc d 110 95 [.ref x0, a1, a2, a3, a4, a5, a6, a7] (.ref x0 :: st) σ r := r_aload_n d110_94 rfl
theorem d110_95 : decode (mC 110) 95 = .ok (.getfield 29, 3) := by decide +kernel
theorem x110_95 {sc : aSc} {d : Nat} {r : aRes} {L : List Value} {st : List Value} {f : Nat → Nat → Int32} {g : Nat → Nat → Int64} {h1 h2 : Nat} {o : Nat} (hK : KK[o]? = some (.inl 7)) (hR : (RR h1 h2 o 6).isSome = true) : Rn sc d 110 95 L (.ref o :: st) (cS f g h1 h2) r ↔ Rn sc d 110 98 L (.ref (rf h1 h2 o 6) :: st) (cS f g h1 h2) r := r_getR2 d110_95 (ci := 7) (k := 6) rfl (by decide) (fun _ => rfl) hK hR
theorem d110_98 : decode (mC 110) 98 = .ok (.aload_n 0, 1) := by decide +kernel
theorem x110_98 {sc : aSc} {d : Nat} {r : aRes} {x0 : Nat} {a1 : Value} {a2 : Value} {a3 : Value} {a4 : Value} {a5 : Value} {a6 : Value} {a7 : Value} {st : List Value} {σ : aS} : Rn sc d 110 98 [.ref x0, a1, a2, a3, a4, a5, a6, a7] st σ r ↔ Rn sc d 110 99 [.ref x0, a1, a2, a3, a4, a5, a6, a7] (.ref x0 :: st) σ r := r_aload_n d110_98 rfl
theorem d110_99 : decode (mC 110) 99 = .ok (.getfield 7, 3) := by decide +kernel
theorem x110_99 {sc : aSc} {d : Nat} {r : aRes} {L : List Value} {st : List Value} {f : Nat → Nat → Int32} {g : Nat → Nat → Int64} {h1 h2 : Nat} {o : Nat} (h17 : 17 ≤ o) (hK : KK[o]? = some (.inl 7)) : Rn sc d 110 99 L (.ref o :: st) (cS f g h1 h2) r ↔ Rn sc d 110 102 L (.int (f o 0) :: st) (cS f g h1 h2) r := r_getI d110_99 (ci := 7) (k := 0) rfl (by decide) (fun _ => rfl) h17 hK
theorem d110_102 : decode (mC 110) 102 = .ok (.iload_n 2, 1) := by decide +kernel
theorem x110_102 {sc : aSc} {d : Nat} {r : aRes} {a0 : Value} {a1 : Value} {x2 : Int32} {a3 : Value} {a4 : Value} {a5 : Value} {a6 : Value} {a7 : Value} {st : List Value} {σ : aS} : Rn sc d 110 102 [a0, a1, .int x2, a3, a4, a5, a6, a7] st σ r ↔ Rn sc d 110 103 [a0, a1, .int x2, a3, a4, a5, a6, a7] (.int x2 :: st) σ r := r_iload_n d110_102 rfl
theorem d110_103 : decode (mC 110) 103 = .ok (.iastore, 1) := by decide +kernel
theorem x110_103 {sc : aSc} {d : Nat} {r : aRes} {L : List Value} {st : List Value} {f : Nat → Nat → Int32} {g : Nat → Nat → Int64} {h1 h2 : Nat} {a : Nat} {i : Int32} {x : Int32} (h17 : 17 ≤ a) (hA : isT9 .int a) (hi : inb i (aln a) = true) : Rn sc d 110 103 L (.int x :: .int i :: .ref a :: st) (cS f g h1 h2) r ↔ Rn sc d 110 104 L st (cS (u2 f a i.toNatClampNeg x) g h1 h2) r := r_iast d110_103 h17 hA hi
theorem d110_104 : decode (mC 110) 104 = .ok (.aload_n 0, 1) := by decide +kernel
theorem x110_104 {sc : aSc} {d : Nat} {r : aRes} {x0 : Nat} {a1 : Value} {a2 : Value} {a3 : Value} {a4 : Value} {a5 : Value} {a6 : Value} {a7 : Value} {st : List Value} {σ : aS} : Rn sc d 110 104 [.ref x0, a1, a2, a3, a4, a5, a6, a7] st σ r ↔ Rn sc d 110 105 [.ref x0, a1, a2, a3, a4, a5, a6, a7] (.ref x0 :: st) σ r := r_aload_n d110_104 rfl
theorem d110_105 : decode (mC 110) 105 = .ok (.getfield 32, 3) := by decide +kernel
theorem x110_105 {sc : aSc} {d : Nat} {r : aRes} {L : List Value} {st : List Value} {f : Nat → Nat → Int32} {g : Nat → Nat → Int64} {h1 h2 : Nat} {o : Nat} (hK : KK[o]? = some (.inl 7)) (hR : (RR h1 h2 o 7).isSome = true) : Rn sc d 110 105 L (.ref o :: st) (cS f g h1 h2) r ↔ Rn sc d 110 108 L (.ref (rf h1 h2 o 7) :: st) (cS f g h1 h2) r := r_getR2 d110_105 (ci := 7) (k := 7) rfl (by decide) (fun _ => rfl) hK hR
theorem d110_108 : decode (mC 110) 108 = .ok (.aload_n 0, 1) := by decide +kernel
theorem x110_108 {sc : aSc} {d : Nat} {r : aRes} {x0 : Nat} {a1 : Value} {a2 : Value} {a3 : Value} {a4 : Value} {a5 : Value} {a6 : Value} {a7 : Value} {st : List Value} {σ : aS} : Rn sc d 110 108 [.ref x0, a1, a2, a3, a4, a5, a6, a7] st σ r ↔ Rn sc d 110 109 [.ref x0, a1, a2, a3, a4, a5, a6, a7] (.ref x0 :: st) σ r := r_aload_n d110_108 rfl
theorem d110_109 : decode (mC 110) 109 = .ok (.getfield 7, 3) := by decide +kernel
theorem x110_109 {sc : aSc} {d : Nat} {r : aRes} {L : List Value} {st : List Value} {f : Nat → Nat → Int32} {g : Nat → Nat → Int64} {h1 h2 : Nat} {o : Nat} (h17 : 17 ≤ o) (hK : KK[o]? = some (.inl 7)) : Rn sc d 110 109 L (.ref o :: st) (cS f g h1 h2) r ↔ Rn sc d 110 112 L (.int (f o 0) :: st) (cS f g h1 h2) r := r_getI d110_109 (ci := 7) (k := 0) rfl (by decide) (fun _ => rfl) h17 hK
theorem d110_112 : decode (mC 110) 112 = .ok (.iload_n 3, 1) := by decide +kernel
theorem x110_112 {sc : aSc} {d : Nat} {r : aRes} {a0 : Value} {a1 : Value} {a2 : Value} {x3 : Int32} {a4 : Value} {a5 : Value} {a6 : Value} {a7 : Value} {st : List Value} {σ : aS} : Rn sc d 110 112 [a0, a1, a2, .int x3, a4, a5, a6, a7] st σ r ↔ Rn sc d 110 113 [a0, a1, a2, .int x3, a4, a5, a6, a7] (.int x3 :: st) σ r := r_iload_n d110_112 rfl
theorem d110_113 : decode (mC 110) 113 = .ok (.iastore, 1) := by decide +kernel
theorem x110_113 {sc : aSc} {d : Nat} {r : aRes} {L : List Value} {st : List Value} {f : Nat → Nat → Int32} {g : Nat → Nat → Int64} {h1 h2 : Nat} {a : Nat} {i : Int32} {x : Int32} (h17 : 17 ≤ a) (hA : isT9 .int a) (hi : inb i (aln a) = true) : Rn sc d 110 113 L (.int x :: .int i :: .ref a :: st) (cS f g h1 h2) r ↔ Rn sc d 110 114 L st (cS (u2 f a i.toNatClampNeg x) g h1 h2) r := r_iast d110_113 h17 hA hi
theorem d110_114 : decode (mC 110) 114 = .ok (.aload_n 0, 1) := by decide +kernel
theorem x110_114 {sc : aSc} {d : Nat} {r : aRes} {x0 : Nat} {a1 : Value} {a2 : Value} {a3 : Value} {a4 : Value} {a5 : Value} {a6 : Value} {a7 : Value} {st : List Value} {σ : aS} : Rn sc d 110 114 [.ref x0, a1, a2, a3, a4, a5, a6, a7] st σ r ↔ Rn sc d 110 115 [.ref x0, a1, a2, a3, a4, a5, a6, a7] (.ref x0 :: st) σ r := r_aload_n d110_114 rfl
theorem d110_115 : decode (mC 110) 115 = .ok (.getfield 35, 3) := by decide +kernel
theorem x110_115 {sc : aSc} {d : Nat} {r : aRes} {L : List Value} {st : List Value} {f : Nat → Nat → Int32} {g : Nat → Nat → Int64} {h1 h2 : Nat} {o : Nat} (hK : KK[o]? = some (.inl 7)) (hR : (RR h1 h2 o 8).isSome = true) : Rn sc d 110 115 L (.ref o :: st) (cS f g h1 h2) r ↔ Rn sc d 110 118 L (.ref (rf h1 h2 o 8) :: st) (cS f g h1 h2) r := r_getR2 d110_115 (ci := 7) (k := 8) rfl (by decide) (fun _ => rfl) hK hR
theorem d110_118 : decode (mC 110) 118 = .ok (.aload_n 0, 1) := by decide +kernel
theorem x110_118 {sc : aSc} {d : Nat} {r : aRes} {x0 : Nat} {a1 : Value} {a2 : Value} {a3 : Value} {a4 : Value} {a5 : Value} {a6 : Value} {a7 : Value} {st : List Value} {σ : aS} : Rn sc d 110 118 [.ref x0, a1, a2, a3, a4, a5, a6, a7] st σ r ↔ Rn sc d 110 119 [.ref x0, a1, a2, a3, a4, a5, a6, a7] (.ref x0 :: st) σ r := r_aload_n d110_118 rfl
theorem d110_119 : decode (mC 110) 119 = .ok (.getfield 7, 3) := by decide +kernel
theorem x110_119 {sc : aSc} {d : Nat} {r : aRes} {L : List Value} {st : List Value} {f : Nat → Nat → Int32} {g : Nat → Nat → Int64} {h1 h2 : Nat} {o : Nat} (h17 : 17 ≤ o) (hK : KK[o]? = some (.inl 7)) : Rn sc d 110 119 L (.ref o :: st) (cS f g h1 h2) r ↔ Rn sc d 110 122 L (.int (f o 0) :: st) (cS f g h1 h2) r := r_getI d110_119 (ci := 7) (k := 0) rfl (by decide) (fun _ => rfl) h17 hK
theorem d110_122 : decode (mC 110) 122 = .ok (.iload 5, 2) := by decide +kernel
theorem x110_122 {sc : aSc} {d : Nat} {r : aRes} {a0 : Value} {a1 : Value} {a2 : Value} {a3 : Value} {a4 : Value} {x5 : Int32} {a6 : Value} {a7 : Value} {st : List Value} {σ : aS} : Rn sc d 110 122 [a0, a1, a2, a3, a4, .int x5, a6, a7] st σ r ↔ Rn sc d 110 124 [a0, a1, a2, a3, a4, .int x5, a6, a7] (.int x5 :: st) σ r := r_iload d110_122 rfl
theorem d110_124 : decode (mC 110) 124 = .ok (.iastore, 1) := by decide +kernel
theorem x110_124 {sc : aSc} {d : Nat} {r : aRes} {L : List Value} {st : List Value} {f : Nat → Nat → Int32} {g : Nat → Nat → Int64} {h1 h2 : Nat} {a : Nat} {i : Int32} {x : Int32} (h17 : 17 ≤ a) (hA : isT9 .int a) (hi : inb i (aln a) = true) : Rn sc d 110 124 L (.int x :: .int i :: .ref a :: st) (cS f g h1 h2) r ↔ Rn sc d 110 125 L st (cS (u2 f a i.toNatClampNeg x) g h1 h2) r := r_iast d110_124 h17 hA hi
theorem d110_125 : decode (mC 110) 125 = .ok (.aload_n 0, 1) := by decide +kernel
theorem x110_125 {sc : aSc} {d : Nat} {r : aRes} {x0 : Nat} {a1 : Value} {a2 : Value} {a3 : Value} {a4 : Value} {a5 : Value} {a6 : Value} {a7 : Value} {st : List Value} {σ : aS} : Rn sc d 110 125 [.ref x0, a1, a2, a3, a4, a5, a6, a7] st σ r ↔ Rn sc d 110 126 [.ref x0, a1, a2, a3, a4, a5, a6, a7] (.ref x0 :: st) σ r := r_aload_n d110_125 rfl
theorem d110_126 : decode (mC 110) 126 = .ok (.getfield 38, 3) := by decide +kernel
theorem x110_126 {sc : aSc} {d : Nat} {r : aRes} {L : List Value} {st : List Value} {f : Nat → Nat → Int32} {g : Nat → Nat → Int64} {h1 h2 : Nat} {o : Nat} (hK : KK[o]? = some (.inl 7)) (hR : (RR h1 h2 o 9).isSome = true) : Rn sc d 110 126 L (.ref o :: st) (cS f g h1 h2) r ↔ Rn sc d 110 129 L (.ref (rf h1 h2 o 9) :: st) (cS f g h1 h2) r := r_getR2 d110_126 (ci := 7) (k := 9) rfl (by decide) (fun _ => rfl) hK hR
theorem d110_129 : decode (mC 110) 129 = .ok (.aload_n 0, 1) := by decide +kernel
theorem x110_129 {sc : aSc} {d : Nat} {r : aRes} {x0 : Nat} {a1 : Value} {a2 : Value} {a3 : Value} {a4 : Value} {a5 : Value} {a6 : Value} {a7 : Value} {st : List Value} {σ : aS} : Rn sc d 110 129 [.ref x0, a1, a2, a3, a4, a5, a6, a7] st σ r ↔ Rn sc d 110 130 [.ref x0, a1, a2, a3, a4, a5, a6, a7] (.ref x0 :: st) σ r := r_aload_n d110_129 rfl
theorem d110_130 : decode (mC 110) 130 = .ok (.getfield 7, 3) := by decide +kernel
theorem x110_130 {sc : aSc} {d : Nat} {r : aRes} {L : List Value} {st : List Value} {f : Nat → Nat → Int32} {g : Nat → Nat → Int64} {h1 h2 : Nat} {o : Nat} (h17 : 17 ≤ o) (hK : KK[o]? = some (.inl 7)) : Rn sc d 110 130 L (.ref o :: st) (cS f g h1 h2) r ↔ Rn sc d 110 133 L (.int (f o 0) :: st) (cS f g h1 h2) r := r_getI d110_130 (ci := 7) (k := 0) rfl (by decide) (fun _ => rfl) h17 hK
theorem d110_133 : decode (mC 110) 133 = .ok (.iload 6, 2) := by decide +kernel
theorem x110_133 {sc : aSc} {d : Nat} {r : aRes} {a0 : Value} {a1 : Value} {a2 : Value} {a3 : Value} {a4 : Value} {a5 : Value} {x6 : Int32} {a7 : Value} {st : List Value} {σ : aS} : Rn sc d 110 133 [a0, a1, a2, a3, a4, a5, .int x6, a7] st σ r ↔ Rn sc d 110 135 [a0, a1, a2, a3, a4, a5, .int x6, a7] (.int x6 :: st) σ r := r_iload d110_133 rfl
theorem d110_135 : decode (mC 110) 135 = .ok (.iastore, 1) := by decide +kernel
theorem x110_135 {sc : aSc} {d : Nat} {r : aRes} {L : List Value} {st : List Value} {f : Nat → Nat → Int32} {g : Nat → Nat → Int64} {h1 h2 : Nat} {a : Nat} {i : Int32} {x : Int32} (h17 : 17 ≤ a) (hA : isT9 .int a) (hi : inb i (aln a) = true) : Rn sc d 110 135 L (.int x :: .int i :: .ref a :: st) (cS f g h1 h2) r ↔ Rn sc d 110 136 L st (cS (u2 f a i.toNatClampNeg x) g h1 h2) r := r_iast d110_135 h17 hA hi
theorem d110_136 : decode (mC 110) 136 = .ok (.iconst 0, 1) := by decide +kernel
theorem x110_136 {sc : aSc} {d : Nat} {r : aRes} {L : List Value} {st : List Value} {σ : aS} : Rn sc d 110 136 L st σ r ↔ Rn sc d 110 137 L (.int 0 :: st) σ r := r_iconst d110_136 (by decide)
theorem d110_137 : decode (mC 110) 137 = .ok (.istore 7, 2) := by decide +kernel
theorem x110_137 {sc : aSc} {d : Nat} {r : aRes} {a0 : Value} {a1 : Value} {a2 : Value} {a3 : Value} {a4 : Value} {a5 : Value} {x6 : Int32} {a7 : Value} {st : List Value} {σ : aS} {y : Int32} : Rn sc d 110 137 [a0, a1, a2, a3, a4, a5, .int x6, a7] (.int y :: st) σ r ↔ Rn sc d 110 139 [a0, a1, a2, a3, a4, a5, .int x6, .int y] st σ r := r_istore d110_137 (Nat.le_of_ble_eq_true rfl) rfl
theorem d110_139 : decode (mC 110) 139 = .ok (.iload 7, 2) := by decide +kernel
theorem x110_139 {sc : aSc} {d : Nat} {r : aRes} {a0 : Value} {a1 : Value} {a2 : Value} {a3 : Value} {a4 : Value} {a5 : Value} {a6 : Value} {x7 : Int32} {st : List Value} {σ : aS} : Rn sc d 110 139 [a0, a1, a2, a3, a4, a5, a6, .int x7] st σ r ↔ Rn sc d 110 141 [a0, a1, a2, a3, a4, a5, a6, .int x7] (.int x7 :: st) σ r := r_iload d110_139 rfl
theorem d110_141 : decode (mC 110) 141 = .ok (.iconst 4, 1) := by decide +kernel
theorem x110_141 {sc : aSc} {d : Nat} {r : aRes} {L : List Value} {st : List Value} {σ : aS} : Rn sc d 110 141 L st σ r ↔ Rn sc d 110 142 L (.int 4 :: st) σ r := r_iconst d110_141 (by decide)
theorem d110_142 : decode (mC 110) 142 = .ok (.if_icmp .ge 24, 3) := by decide +kernel
theorem x110_142 {sc : aSc} {d : Nat} {r : aRes} {L : List Value} {st : List Value} {σ : aS} {x y : Int32} : Rn sc d 110 142 L (.int y :: .int x :: st) σ r ↔ if x < y then Rn sc d 110 145 L st σ r else Rn sc d 110 166 L st σ r := r_icmp_ge d110_142 rfl
theorem d110_145 : decode (mC 110) 145 = .ok (.aload_n 0, 1) := by decide +kernel
theorem x110_145 {sc : aSc} {d : Nat} {r : aRes} {x0 : Nat} {a1 : Value} {a2 : Value} {a3 : Value} {a4 : Value} {a5 : Value} {a6 : Value} {a7 : Value} {st : List Value} {σ : aS} : Rn sc d 110 145 [.ref x0, a1, a2, a3, a4, a5, a6, a7] st σ r ↔ Rn sc d 110 146 [.ref x0, a1, a2, a3, a4, a5, a6, a7] (.ref x0 :: st) σ r := r_aload_n d110_145 rfl
theorem d110_146 : decode (mC 110) 146 = .ok (.getfield 41, 3) := by decide +kernel
theorem x110_146 {sc : aSc} {d : Nat} {r : aRes} {L : List Value} {st : List Value} {f : Nat → Nat → Int32} {g : Nat → Nat → Int64} {h1 h2 : Nat} {o : Nat} (hK : KK[o]? = some (.inl 7)) (hR : (RR h1 h2 o 10).isSome = true) : Rn sc d 110 146 L (.ref o :: st) (cS f g h1 h2) r ↔ Rn sc d 110 149 L (.ref (rf h1 h2 o 10) :: st) (cS f g h1 h2) r := r_getR2 d110_146 (ci := 7) (k := 10) rfl (by decide) (fun _ => rfl) hK hR
theorem d110_149 : decode (mC 110) 149 = .ok (.iconst 4, 1) := by decide +kernel
theorem x110_149 {sc : aSc} {d : Nat} {r : aRes} {L : List Value} {st : List Value} {σ : aS} : Rn sc d 110 149 L st σ r ↔ Rn sc d 110 150 L (.int 4 :: st) σ r := r_iconst d110_149 (by decide)
theorem d110_150 : decode (mC 110) 150 = .ok (.aload_n 0, 1) := by decide +kernel
theorem x110_150 {sc : aSc} {d : Nat} {r : aRes} {x0 : Nat} {a1 : Value} {a2 : Value} {a3 : Value} {a4 : Value} {a5 : Value} {a6 : Value} {a7 : Value} {st : List Value} {σ : aS} : Rn sc d 110 150 [.ref x0, a1, a2, a3, a4, a5, a6, a7] st σ r ↔ Rn sc d 110 151 [.ref x0, a1, a2, a3, a4, a5, a6, a7] (.ref x0 :: st) σ r := r_aload_n d110_150 rfl
theorem d110_151 : decode (mC 110) 151 = .ok (.getfield 7, 3) := by decide +kernel
theorem x110_151 {sc : aSc} {d : Nat} {r : aRes} {L : List Value} {st : List Value} {f : Nat → Nat → Int32} {g : Nat → Nat → Int64} {h1 h2 : Nat} {o : Nat} (h17 : 17 ≤ o) (hK : KK[o]? = some (.inl 7)) : Rn sc d 110 151 L (.ref o :: st) (cS f g h1 h2) r ↔ Rn sc d 110 154 L (.int (f o 0) :: st) (cS f g h1 h2) r := r_getI d110_151 (ci := 7) (k := 0) rfl (by decide) (fun _ => rfl) h17 hK
theorem d110_154 : decode (mC 110) 154 = .ok (.imul, 1) := by decide +kernel
theorem x110_154 {sc : aSc} {d : Nat} {r : aRes} {L : List Value} {st : List Value} {σ : aS} {x y : Int32} : Rn sc d 110 154 L (.int y :: .int x :: st) σ r ↔ Rn sc d 110 155 L (.int (x * y) :: st) σ r := r_imul d110_154
theorem d110_155 : decode (mC 110) 155 = .ok (.iload 7, 2) := by decide +kernel
theorem x110_155 {sc : aSc} {d : Nat} {r : aRes} {a0 : Value} {a1 : Value} {a2 : Value} {a3 : Value} {a4 : Value} {a5 : Value} {a6 : Value} {x7 : Int32} {st : List Value} {σ : aS} : Rn sc d 110 155 [a0, a1, a2, a3, a4, a5, a6, .int x7] st σ r ↔ Rn sc d 110 157 [a0, a1, a2, a3, a4, a5, a6, .int x7] (.int x7 :: st) σ r := r_iload d110_155 rfl
theorem d110_157 : decode (mC 110) 157 = .ok (.iadd, 1) := by decide +kernel
theorem x110_157 {sc : aSc} {d : Nat} {r : aRes} {L : List Value} {st : List Value} {σ : aS} {x y : Int32} : Rn sc d 110 157 L (.int y :: .int x :: st) σ r ↔ Rn sc d 110 158 L (.int (x + y) :: st) σ r := r_iadd d110_157
theorem d110_158 : decode (mC 110) 158 = .ok (.iconst 0, 1) := by decide +kernel
theorem x110_158 {sc : aSc} {d : Nat} {r : aRes} {L : List Value} {st : List Value} {σ : aS} : Rn sc d 110 158 L st σ r ↔ Rn sc d 110 159 L (.int 0 :: st) σ r := r_iconst d110_158 (by decide)
theorem d110_159 : decode (mC 110) 159 = .ok (.iastore, 1) := by decide +kernel
theorem x110_159 {sc : aSc} {d : Nat} {r : aRes} {L : List Value} {st : List Value} {f : Nat → Nat → Int32} {g : Nat → Nat → Int64} {h1 h2 : Nat} {a : Nat} {i : Int32} {x : Int32} (h17 : 17 ≤ a) (hA : isT9 .int a) (hi : inb i (aln a) = true) : Rn sc d 110 159 L (.int x :: .int i :: .ref a :: st) (cS f g h1 h2) r ↔ Rn sc d 110 160 L st (cS (u2 f a i.toNatClampNeg x) g h1 h2) r := r_iast d110_159 h17 hA hi
theorem d110_160 : decode (mC 110) 160 = .ok (.iinc 7 1, 3) := by decide +kernel
theorem x110_160 {sc : aSc} {d : Nat} {r : aRes} {a0 : Value} {a1 : Value} {a2 : Value} {a3 : Value} {a4 : Value} {a5 : Value} {x6 : Int32} {x7 : Int32} {st : List Value} {σ : aS} : Rn sc d 110 160 [a0, a1, a2, a3, a4, a5, .int x6, .int x7] st σ r ↔ Rn sc d 110 163 [a0, a1, a2, a3, a4, a5, .int x6, .int (x7 + 1)] st σ r := r_iinc d110_160 (Nat.le_of_ble_eq_true rfl) rfl rfl (by decide)
theorem d110_163 : decode (mC 110) 163 = .ok (.goto (-24), 3) := by decide +kernel
theorem x110_163 {sc : aSc} {d : Nat} {r : aRes} {L : List Value} {st : List Value} {σ : aS} : Rn sc d 110 163 L st σ r ↔ Rn sc d 110 139 L st σ r := r_goto d110_163 rfl
theorem d110_166 : decode (mC 110) 166 = .ok (.aload_n 0, 1) := by decide +kernel
theorem x110_166 {sc : aSc} {d : Nat} {r : aRes} {x0 : Nat} {a1 : Value} {a2 : Value} {a3 : Value} {a4 : Value} {a5 : Value} {a6 : Value} {a7 : Value} {st : List Value} {σ : aS} : Rn sc d 110 166 [.ref x0, a1, a2, a3, a4, a5, a6, a7] st σ r ↔ Rn sc d 110 167 [.ref x0, a1, a2, a3, a4, a5, a6, a7] (.ref x0 :: st) σ r := r_aload_n d110_166 rfl
theorem d110_167 : decode (mC 110) 167 = .ok (.aload_n 0, 1) := by decide +kernel
theorem x110_167 {sc : aSc} {d : Nat} {r : aRes} {x0 : Nat} {a1 : Value} {a2 : Value} {a3 : Value} {a4 : Value} {a5 : Value} {a6 : Value} {a7 : Value} {st : List Value} {σ : aS} : Rn sc d 110 167 [.ref x0, a1, a2, a3, a4, a5, a6, a7] st σ r ↔ Rn sc d 110 168 [.ref x0, a1, a2, a3, a4, a5, a6, a7] (.ref x0 :: st) σ r := r_aload_n d110_167 rfl
theorem d110_168 : decode (mC 110) 168 = .ok (.getfield 13, 3) := by decide +kernel
theorem x110_168 {sc : aSc} {d : Nat} {r : aRes} {L : List Value} {st : List Value} {f : Nat → Nat → Int32} {g : Nat → Nat → Int64} {h1 h2 : Nat} {o : Nat} (h17 : 17 ≤ o) (hK : KK[o]? = some (.inl 7)) : Rn sc d 110 168 L (.ref o :: st) (cS f g h1 h2) r ↔ Rn sc d 110 171 L (.int (f o 1) :: st) (cS f g h1 h2) r := r_getI d110_168 (ci := 7) (k := 1) rfl (by decide) (fun _ => rfl) h17 hK
theorem d110_171 : decode (mC 110) 171 = .ok (.iconst 1, 1) := by decide +kernel
theorem x110_171 {sc : aSc} {d : Nat} {r : aRes} {L : List Value} {st : List Value} {σ : aS} : Rn sc d 110 171 L st σ r ↔ Rn sc d 110 172 L (.int 1 :: st) σ r := r_iconst d110_171 (by decide)
theorem d110_172 : decode (mC 110) 172 = .ok (.aload_n 0, 1) := by decide +kernel
theorem x110_172 {sc : aSc} {d : Nat} {r : aRes} {x0 : Nat} {a1 : Value} {a2 : Value} {a3 : Value} {a4 : Value} {a5 : Value} {a6 : Value} {a7 : Value} {st : List Value} {σ : aS} : Rn sc d 110 172 [.ref x0, a1, a2, a3, a4, a5, a6, a7] st σ r ↔ Rn sc d 110 173 [.ref x0, a1, a2, a3, a4, a5, a6, a7] (.ref x0 :: st) σ r := r_aload_n d110_172 rfl
theorem d110_173 : decode (mC 110) 173 = .ok (.getfield 7, 3) := by decide +kernel
theorem x110_173 {sc : aSc} {d : Nat} {r : aRes} {L : List Value} {st : List Value} {f : Nat → Nat → Int32} {g : Nat → Nat → Int64} {h1 h2 : Nat} {o : Nat} (h17 : 17 ≤ o) (hK : KK[o]? = some (.inl 7)) : Rn sc d 110 173 L (.ref o :: st) (cS f g h1 h2) r ↔ Rn sc d 110 176 L (.int (f o 0) :: st) (cS f g h1 h2) r := r_getI d110_173 (ci := 7) (k := 0) rfl (by decide) (fun _ => rfl) h17 hK
theorem d110_176 : decode (mC 110) 176 = .ok (.ishl, 1) := by decide +kernel
theorem x110_176 {sc : aSc} {d : Nat} {r : aRes} {L : List Value} {st : List Value} {σ : aS} {x y : Int32} : Rn sc d 110 176 L (.int y :: .int x :: st) σ r ↔ Rn sc d 110 177 L (.int (x <<< (y &&& 31)) :: st) σ r := r_ishl d110_176
theorem d110_177 : decode (mC 110) 177 = .ok (.iconst (-1), 1) := by decide +kernel
theorem x110_177 {sc : aSc} {d : Nat} {r : aRes} {L : List Value} {st : List Value} {σ : aS} : Rn sc d 110 177 L st σ r ↔ Rn sc d 110 178 L (.int (-1) :: st) σ r := r_iconst d110_177 (by decide)
theorem d110_178 : decode (mC 110) 178 = .ok (.ixor, 1) := by decide +kernel
theorem x110_178 {sc : aSc} {d : Nat} {r : aRes} {L : List Value} {st : List Value} {σ : aS} {x y : Int32} : Rn sc d 110 178 L (.int y :: .int x :: st) σ r ↔ Rn sc d 110 179 L (.int (x ^^^ y) :: st) σ r := r_ixor d110_178
theorem d110_179 : decode (mC 110) 179 = .ok (.iand, 1) := by decide +kernel
theorem x110_179 {sc : aSc} {d : Nat} {r : aRes} {L : List Value} {st : List Value} {σ : aS} {x y : Int32} : Rn sc d 110 179 L (.int y :: .int x :: st) σ r ↔ Rn sc d 110 180 L (.int (x &&& y) :: st) σ r := r_iand d110_179
theorem d110_180 : decode (mC 110) 180 = .ok (.iload 4, 2) := by decide +kernel
theorem x110_180 {sc : aSc} {d : Nat} {r : aRes} {a0 : Value} {a1 : Value} {a2 : Value} {a3 : Value} {x4 : Int32} {a5 : Value} {a6 : Value} {a7 : Value} {st : List Value} {σ : aS} : Rn sc d 110 180 [a0, a1, a2, a3, .int x4, a5, a6, a7] st σ r ↔ Rn sc d 110 182 [a0, a1, a2, a3, .int x4, a5, a6, a7] (.int x4 :: st) σ r := r_iload d110_180 rfl
theorem d110_182 : decode (mC 110) 182 = .ok (.aload_n 0, 1) := by decide +kernel
theorem x110_182 {sc : aSc} {d : Nat} {r : aRes} {x0 : Nat} {a1 : Value} {a2 : Value} {a3 : Value} {a4 : Value} {a5 : Value} {a6 : Value} {a7 : Value} {st : List Value} {σ : aS} : Rn sc d 110 182 [.ref x0, a1, a2, a3, a4, a5, a6, a7] st σ r ↔ Rn sc d 110 183 [.ref x0, a1, a2, a3, a4, a5, a6, a7] (.ref x0 :: st) σ r := r_aload_n d110_182 rfl
theorem d110_183 : decode (mC 110) 183 = .ok (.getfield 7, 3) := by decide +kernel
theorem x110_183 {sc : aSc} {d : Nat} {r : aRes} {L : List Value} {st : List Value} {f : Nat → Nat → Int32} {g : Nat → Nat → Int64} {h1 h2 : Nat} {o : Nat} (h17 : 17 ≤ o) (hK : KK[o]? = some (.inl 7)) : Rn sc d 110 183 L (.ref o :: st) (cS f g h1 h2) r ↔ Rn sc d 110 186 L (.int (f o 0) :: st) (cS f g h1 h2) r := r_getI d110_183 (ci := 7) (k := 0) rfl (by decide) (fun _ => rfl) h17 hK
theorem d110_186 : decode (mC 110) 186 = .ok (.ishl, 1) := by decide +kernel
theorem x110_186 {sc : aSc} {d : Nat} {r : aRes} {L : List Value} {st : List Value} {σ : aS} {x y : Int32} : Rn sc d 110 186 L (.int y :: .int x :: st) σ r ↔ Rn sc d 110 187 L (.int (x <<< (y &&& 31)) :: st) σ r := r_ishl d110_186
theorem d110_187 : decode (mC 110) 187 = .ok (.ior, 1) := by decide +kernel
theorem x110_187 {sc : aSc} {d : Nat} {r : aRes} {L : List Value} {st : List Value} {σ : aS} {x y : Int32} : Rn sc d 110 187 L (.int y :: .int x :: st) σ r ↔ Rn sc d 110 188 L (.int (x ||| y) :: st) σ r := r_ior d110_187
theorem d110_188 : decode (mC 110) 188 = .ok (.putfield 13, 3) := by decide +kernel
theorem x110_188 {sc : aSc} {d : Nat} {r : aRes} {L : List Value} {st : List Value} {f : Nat → Nat → Int32} {g : Nat → Nat → Int64} {h1 h2 : Nat} {o : Nat} {v : Int32} (h17 : 17 ≤ o) (hK : KK[o]? = some (.inl 7)) : Rn sc d 110 188 L (.int v :: .ref o :: st) (cS f g h1 h2) r ↔ Rn sc d 110 191 L st (cS (u2 f o 1 v) g h1 h2) r := r_putI d110_188 (ci := 7) (k := 1) rfl (by decide) h17 hK
theorem d110_191 : decode (mC 110) 191 = .ok (.aload_n 0, 1) := by decide +kernel
theorem x110_191 {sc : aSc} {d : Nat} {r : aRes} {x0 : Nat} {a1 : Value} {a2 : Value} {a3 : Value} {a4 : Value} {a5 : Value} {a6 : Value} {a7 : Value} {st : List Value} {σ : aS} : Rn sc d 110 191 [.ref x0, a1, a2, a3, a4, a5, a6, a7] st σ r ↔ Rn sc d 110 192 [.ref x0, a1, a2, a3, a4, a5, a6, a7] (.ref x0 :: st) σ r := r_aload_n d110_191 rfl
theorem d110_192 : decode (mC 110) 192 = .ok (.dup, 1) := by decide +kernel
theorem x110_192 {sc : aSc} {d : Nat} {r : aRes} {L : List Value} {st : List Value} {σ : aS} {y : Nat} : Rn sc d 110 192 L (.ref y :: st) σ r ↔ Rn sc d 110 193 L (.ref y :: .ref y :: st) σ r := r_dup d110_192 rfl
theorem d110_193 : decode (mC 110) 193 = .ok (.getfield 7, 3) := by decide +kernel
theorem x110_193 {sc : aSc} {d : Nat} {r : aRes} {L : List Value} {st : List Value} {f : Nat → Nat → Int32} {g : Nat → Nat → Int64} {h1 h2 : Nat} {o : Nat} (h17 : 17 ≤ o) (hK : KK[o]? = some (.inl 7)) : Rn sc d 110 193 L (.ref o :: st) (cS f g h1 h2) r ↔ Rn sc d 110 196 L (.int (f o 0) :: st) (cS f g h1 h2) r := r_getI d110_193 (ci := 7) (k := 0) rfl (by decide) (fun _ => rfl) h17 hK
theorem d110_196 : decode (mC 110) 196 = .ok (.iconst 1, 1) := by decide +kernel
theorem x110_196 {sc : aSc} {d : Nat} {r : aRes} {L : List Value} {st : List Value} {σ : aS} : Rn sc d 110 196 L st σ r ↔ Rn sc d 110 197 L (.int 1 :: st) σ r := r_iconst d110_196 (by decide)
theorem d110_197 : decode (mC 110) 197 = .ok (.iadd, 1) := by decide +kernel
theorem x110_197 {sc : aSc} {d : Nat} {r : aRes} {L : List Value} {st : List Value} {σ : aS} {x y : Int32} : Rn sc d 110 197 L (.int y :: .int x :: st) σ r ↔ Rn sc d 110 198 L (.int (x + y) :: st) σ r := r_iadd d110_197
theorem d110_198 : decode (mC 110) 198 = .ok (.putfield 7, 3) := by decide +kernel
theorem x110_198 {sc : aSc} {d : Nat} {r : aRes} {L : List Value} {st : List Value} {f : Nat → Nat → Int32} {g : Nat → Nat → Int64} {h1 h2 : Nat} {o : Nat} {v : Int32} (h17 : 17 ≤ o) (hK : KK[o]? = some (.inl 7)) : Rn sc d 110 198 L (.int v :: .ref o :: st) (cS f g h1 h2) r ↔ Rn sc d 110 201 L st (cS (u2 f o 0 v) g h1 h2) r := r_putI d110_198 (ci := 7) (k := 0) rfl (by decide) h17 hK
theorem d110_201 : decode (mC 110) 201 = .ok (.aload_n 0, 1) := by decide +kernel
theorem x110_201 {sc : aSc} {d : Nat} {r : aRes} {x0 : Nat} {a1 : Value} {a2 : Value} {a3 : Value} {a4 : Value} {a5 : Value} {a6 : Value} {a7 : Value} {st : List Value} {σ : aS} : Rn sc d 110 201 [.ref x0, a1, a2, a3, a4, a5, a6, a7] st σ r ↔ Rn sc d 110 202 [.ref x0, a1, a2, a3, a4, a5, a6, a7] (.ref x0 :: st) σ r := r_aload_n d110_201 rfl
theorem d110_202 : decode (mC 110) 202 = .ok (.getfield 7, 3) := by decide +kernel
theorem x110_202 {sc : aSc} {d : Nat} {r : aRes} {L : List Value} {st : List Value} {f : Nat → Nat → Int32} {g : Nat → Nat → Int64} {h1 h2 : Nat} {o : Nat} (h17 : 17 ≤ o) (hK : KK[o]? = some (.inl 7)) : Rn sc d 110 202 L (.ref o :: st) (cS f g h1 h2) r ↔ Rn sc d 110 205 L (.int (f o 0) :: st) (cS f g h1 h2) r := r_getI d110_202 (ci := 7) (k := 0) rfl (by decide) (fun _ => rfl) h17 hK
theorem d110_205 : decode (mC 110) 205 = .ok (.iconst 1, 1) := by decide +kernel
theorem x110_205 {sc : aSc} {d : Nat} {r : aRes} {L : List Value} {st : List Value} {σ : aS} : Rn sc d 110 205 L st σ r ↔ Rn sc d 110 206 L (.int 1 :: st) σ r := r_iconst d110_205 (by decide)
theorem d110_206 : decode (mC 110) 206 = .ok (.isub, 1) := by decide +kernel
theorem x110_206 {sc : aSc} {d : Nat} {r : aRes} {L : List Value} {st : List Value} {σ : aS} {x y : Int32} : Rn sc d 110 206 L (.int y :: .int x :: st) σ r ↔ Rn sc d 110 207 L (.int (x - y) :: st) σ r := r_isub d110_206
theorem d110_207 : decode (mC 110) 207 = .ok (.ireturn, 1) := by decide +kernel
theorem x110_207 {sc : aSc} {d : Nat} {r : aRes} {L : List Value} {σ : aS} {x : Int32} : Rn sc d 110 207 L [.int x] σ r ↔ r = (σ, some (.int x)) := r_iret d110_207 rfl rfl
theorem d111_0 : decode (mC 111) 0 = .ok (.aload_n 0, 1) := by decide +kernel
theorem x111_0 {sc : aSc} {d : Nat} {r : aRes} {x0 : Nat} {a1 : Value} {a2 : Value} {a3 : Value} {a4 : Value} {st : List Value} {σ : aS} : Rn sc d 111 0 [.ref x0, a1, a2, a3, a4] st σ r ↔ Rn sc d 111 1 [.ref x0, a1, a2, a3, a4] (.ref x0 :: st) σ r := r_aload_n d111_0 rfl
theorem d111_1 : decode (mC 111) 1 = .ok (.iload_n 1, 1) := by decide +kernel
theorem x111_1 {sc : aSc} {d : Nat} {r : aRes} {a0 : Value} {x1 : Int32} {a2 : Value} {a3 : Value} {a4 : Value} {st : List Value} {σ : aS} : Rn sc d 111 1 [a0, .int x1, a2, a3, a4] st σ r ↔ Rn sc d 111 2 [a0, .int x1, a2, a3, a4] (.int x1 :: st) σ r := r_iload_n d111_1 rfl
theorem d111_2 : decode (mC 111) 2 = .ok (.invokevirtual 231, 3) := by decide +kernel
theorem x111_2 {sc : aSc} {d : Nat} {r : aRes} {L : List Value} {f : Nat → Nat → Int32} {g : Nat → Nat → Int64} {h1 h2 : Nat} {y0 : Int32}  {o : Nat} (hK : KK[o]? = some (.inl 7)) : Rn sc d 111 2 L [.int y0, .ref o] (cS f g h1 h2) r ↔ ∃ (σ3 : aS) (v : Option Value), Cl sc d 109 [.ref o, .int y0] (cS f g h1 h2) (σ3, v) ∧ Rn sc d 111 5 L (v.toList ++ []) σ3 r := r_callV (vs := [.int y0]) d111_2 (j := 109) rfl ⟨rfl, by decide, rfl, rfl⟩ (Nat.le_of_ble_eq_true rfl) hK
theorem d111_5 : decode (mC 111) 5 = .ok (.ifCond .eq 13, 3) := by decide +kernel
theorem x111_5 {sc : aSc} {d : Nat} {r : aRes} {L : List Value} {st : List Value} {σ : aS} {x : Int32} : Rn sc d 111 5 L (.int x :: st) σ r ↔ if x = 0 then Rn sc d 111 18 L st σ r else Rn sc d 111 8 L st σ r := r_if_eq d111_5 rfl
theorem d111_8 : decode (mC 111) 8 = .ok (.aload_n 0, 1) := by decide +kernel
theorem x111_8 {sc : aSc} {d : Nat} {r : aRes} {x0 : Nat} {a1 : Value} {a2 : Value} {a3 : Value} {a4 : Value} {st : List Value} {σ : aS} : Rn sc d 111 8 [.ref x0, a1, a2, a3, a4] st σ r ↔ Rn sc d 111 9 [.ref x0, a1, a2, a3, a4] (.ref x0 :: st) σ r := r_aload_n d111_8 rfl
theorem d111_9 : decode (mC 111) 9 = .ok (.iload_n 2, 1) := by decide +kernel
theorem x111_9 {sc : aSc} {d : Nat} {r : aRes} {a0 : Value} {a1 : Value} {x2 : Int32} {a3 : Value} {a4 : Value} {st : List Value} {σ : aS} : Rn sc d 111 9 [a0, a1, .int x2, a3, a4] st σ r ↔ Rn sc d 111 10 [a0, a1, .int x2, a3, a4] (.int x2 :: st) σ r := r_iload_n d111_9 rfl
theorem d111_10 : decode (mC 111) 10 = .ok (.iconst 0, 1) := by decide +kernel
theorem x111_10 {sc : aSc} {d : Nat} {r : aRes} {L : List Value} {st : List Value} {σ : aS} : Rn sc d 111 10 L st σ r ↔ Rn sc d 111 11 L (.int 0 :: st) σ r := r_iconst d111_10 (by decide)
theorem d111_11 : decode (mC 111) 11 = .ok (.iconst 1, 1) := by decide +kernel
theorem x111_11 {sc : aSc} {d : Nat} {r : aRes} {L : List Value} {st : List Value} {σ : aS} : Rn sc d 111 11 L st σ r ↔ Rn sc d 111 12 L (.int 1 :: st) σ r := r_iconst d111_11 (by decide)
theorem d111_12 : decode (mC 111) 12 = .ok (.invokevirtual 227, 3) := by decide +kernel
theorem x111_12 {sc : aSc} {d : Nat} {r : aRes} {L : List Value} {f : Nat → Nat → Int32} {g : Nat → Nat → Int64} {h1 h2 : Nat} {y0 : Int32} {y1 : Int32} {y2 : Int32}  {o : Nat} (hK : KK[o]? = some (.inl 7)) : Rn sc d 111 12 L [.int y0, .int y1, .int y2, .ref o] (cS f g h1 h2) r ↔ ∃ (σ3 : aS) (v : Option Value), Cl sc d 108 [.ref o, .int y2, .int y1, .int y0] (cS f g h1 h2) (σ3, v) ∧ Rn sc d 111 15 L (v.toList ++ []) σ3 r := r_callV (vs := [.int y0, .int y1, .int y2]) d111_12 (j := 108) rfl ⟨rfl, by decide, rfl, rfl⟩ (Nat.le_of_ble_eq_true rfl) hK
theorem d111_15 : decode (mC 111) 15 = .ok (.ifCond .ne 5, 3) := by decide +kernel
theorem x111_15 {sc : aSc} {d : Nat} {r : aRes} {L : List Value} {st : List Value} {σ : aS} {x : Int32} : Rn sc d 111 15 L (.int x :: st) σ r ↔ if x = 0 then Rn sc d 111 18 L st σ r else Rn sc d 111 20 L st σ r := r_if_ne d111_15 rfl
theorem d111_18 : decode (mC 111) 18 = .ok (.iconst (-1), 1) := by decide +kernel
theorem x111_18 {sc : aSc} {d : Nat} {r : aRes} {L : List Value} {st : List Value} {σ : aS} : Rn sc d 111 18 L st σ r ↔ Rn sc d 111 19 L (.int (-1) :: st) σ r := r_iconst d111_18 (by decide)
theorem d111_19 : decode (mC 111) 19 = .ok (.ireturn, 1) := by decide +kernel
theorem x111_19 {sc : aSc} {d : Nat} {r : aRes} {L : List Value} {σ : aS} {x : Int32} : Rn sc d 111 19 L [.int x] σ r ↔ r = (σ, some (.int x)) := r_iret d111_19 rfl rfl
theorem d111_20 : decode (mC 111) 20 = .ok (.aload_n 0, 1) := by decide +kernel
theorem x111_20 {sc : aSc} {d : Nat} {r : aRes} {x0 : Nat} {a1 : Value} {a2 : Value} {a3 : Value} {a4 : Value} {st : List Value} {σ : aS} : Rn sc d 111 20 [.ref x0, a1, a2, a3, a4] st σ r ↔ Rn sc d 111 21 [.ref x0, a1, a2, a3, a4] (.ref x0 :: st) σ r := r_aload_n d111_20 rfl
theorem d111_21 : decode (mC 111) 21 = .ok (.iload_n 3, 1) := by decide +kernel
theorem x111_21 {sc : aSc} {d : Nat} {r : aRes} {a0 : Value} {a1 : Value} {a2 : Value} {x3 : Int32} {a4 : Value} {st : List Value} {σ : aS} : Rn sc d 111 21 [a0, a1, a2, .int x3, a4] st σ r ↔ Rn sc d 111 22 [a0, a1, a2, .int x3, a4] (.int x3 :: st) σ r := r_iload_n d111_21 rfl
theorem d111_22 : decode (mC 111) 22 = .ok (.iconst 0, 1) := by decide +kernel
theorem x111_22 {sc : aSc} {d : Nat} {r : aRes} {L : List Value} {st : List Value} {σ : aS} : Rn sc d 111 22 L st σ r ↔ Rn sc d 111 23 L (.int 0 :: st) σ r := r_iconst d111_22 (by decide)
theorem d111_23 : decode (mC 111) 23 = .ok (.iload_n 2, 1) := by decide +kernel
theorem x111_23 {sc : aSc} {d : Nat} {r : aRes} {a0 : Value} {a1 : Value} {x2 : Int32} {a3 : Value} {a4 : Value} {st : List Value} {σ : aS} : Rn sc d 111 23 [a0, a1, .int x2, a3, a4] st σ r ↔ Rn sc d 111 24 [a0, a1, .int x2, a3, a4] (.int x2 :: st) σ r := r_iload_n d111_23 rfl
theorem d111_24 : decode (mC 111) 24 = .ok (.ifCond .ne 8, 3) := by decide +kernel
theorem x111_24 {sc : aSc} {d : Nat} {r : aRes} {L : List Value} {st : List Value} {σ : aS} {x : Int32} : Rn sc d 111 24 L (.int x :: st) σ r ↔ if x = 0 then Rn sc d 111 27 L st σ r else Rn sc d 111 32 L st σ r := r_if_ne d111_24 rfl
theorem d111_27 : decode (mC 111) 27 = .ok (.bipush 99, 2) := by decide +kernel
theorem x111_27 {sc : aSc} {d : Nat} {r : aRes} {L : List Value} {st : List Value} {σ : aS} : Rn sc d 111 27 L st σ r ↔ Rn sc d 111 29 L (.int 99 :: st) σ r := r_bipush d111_27 (by decide)
theorem d111_29 : decode (mC 111) 29 = .ok (.goto 4, 3) := by decide +kernel
theorem x111_29 {sc : aSc} {d : Nat} {r : aRes} {L : List Value} {st : List Value} {σ : aS} : Rn sc d 111 29 L st σ r ↔ Rn sc d 111 33 L st σ r := r_goto d111_29 rfl
theorem d111_32 : decode (mC 111) 32 = .ok (.iconst 1, 1) := by decide +kernel
theorem x111_32 {sc : aSc} {d : Nat} {r : aRes} {L : List Value} {st : List Value} {σ : aS} : Rn sc d 111 32 L st σ r ↔ Rn sc d 111 33 L (.int 1 :: st) σ r := r_iconst d111_32 (by decide)
theorem d111_33 : decode (mC 111) 33 = .ok (.invokevirtual 227, 3) := by decide +kernel
theorem x111_33 {sc : aSc} {d : Nat} {r : aRes} {L : List Value} {f : Nat → Nat → Int32} {g : Nat → Nat → Int64} {h1 h2 : Nat} {y0 : Int32} {y1 : Int32} {y2 : Int32}  {o : Nat} (hK : KK[o]? = some (.inl 7)) : Rn sc d 111 33 L [.int y0, .int y1, .int y2, .ref o] (cS f g h1 h2) r ↔ ∃ (σ3 : aS) (v : Option Value), Cl sc d 108 [.ref o, .int y2, .int y1, .int y0] (cS f g h1 h2) (σ3, v) ∧ Rn sc d 111 36 L (v.toList ++ []) σ3 r := r_callV (vs := [.int y0, .int y1, .int y2]) d111_33 (j := 108) rfl ⟨rfl, by decide, rfl, rfl⟩ (Nat.le_of_ble_eq_true rfl) hK
theorem d111_36 : decode (mC 111) 36 = .ok (.ifCond .ne 6, 3) := by decide +kernel
theorem x111_36 {sc : aSc} {d : Nat} {r : aRes} {L : List Value} {st : List Value} {σ : aS} {x : Int32} : Rn sc d 111 36 L (.int x :: st) σ r ↔ if x = 0 then Rn sc d 111 39 L st σ r else Rn sc d 111 42 L st σ r := r_if_ne d111_36 rfl
theorem d111_39 : decode (mC 111) 39 = .ok (.bipush (-2), 2) := by decide +kernel
theorem x111_39 {sc : aSc} {d : Nat} {r : aRes} {L : List Value} {st : List Value} {σ : aS} : Rn sc d 111 39 L st σ r ↔ Rn sc d 111 41 L (.int (-2) :: st) σ r := r_bipush d111_39 (by decide)
theorem d111_41 : decode (mC 111) 41 = .ok (.ireturn, 1) := by decide +kernel
theorem x111_41 {sc : aSc} {d : Nat} {r : aRes} {L : List Value} {σ : aS} {x : Int32} : Rn sc d 111 41 L [.int x] σ r ↔ r = (σ, some (.int x)) := r_iret d111_41 rfl rfl
theorem d111_42 : decode (mC 111) 42 = .ok (.iload_n 2, 1) := by decide +kernel
theorem x111_42 {sc : aSc} {d : Nat} {r : aRes} {a0 : Value} {a1 : Value} {x2 : Int32} {a3 : Value} {a4 : Value} {st : List Value} {σ : aS} : Rn sc d 111 42 [a0, a1, .int x2, a3, a4] st σ r ↔ Rn sc d 111 43 [a0, a1, .int x2, a3, a4] (.int x2 :: st) σ r := r_iload_n d111_42 rfl
theorem d111_43 : decode (mC 111) 43 = .ok (.ifCond .ne 12, 3) := by decide +kernel
theorem x111_43 {sc : aSc} {d : Nat} {r : aRes} {L : List Value} {st : List Value} {σ : aS} {x : Int32} : Rn sc d 111 43 L (.int x :: st) σ r ↔ if x = 0 then Rn sc d 111 46 L st σ r else Rn sc d 111 55 L st σ r := r_if_ne d111_43 rfl
theorem d111_46 : decode (mC 111) 46 = .ok (.aload_n 0, 1) := by decide +kernel
theorem x111_46 {sc : aSc} {d : Nat} {r : aRes} {x0 : Nat} {a1 : Value} {a2 : Value} {a3 : Value} {a4 : Value} {st : List Value} {σ : aS} : Rn sc d 111 46 [.ref x0, a1, a2, a3, a4] st σ r ↔ Rn sc d 111 47 [.ref x0, a1, a2, a3, a4] (.ref x0 :: st) σ r := r_aload_n d111_46 rfl
theorem d111_47 : decode (mC 111) 47 = .ok (.getfield 32, 3) := by decide +kernel
theorem x111_47 {sc : aSc} {d : Nat} {r : aRes} {L : List Value} {st : List Value} {f : Nat → Nat → Int32} {g : Nat → Nat → Int64} {h1 h2 : Nat} {o : Nat} (hK : KK[o]? = some (.inl 7)) (hR : (RR h1 h2 o 7).isSome = true) : Rn sc d 111 47 L (.ref o :: st) (cS f g h1 h2) r ↔ Rn sc d 111 50 L (.ref (rf h1 h2 o 7) :: st) (cS f g h1 h2) r := r_getR2 d111_47 (ci := 7) (k := 7) rfl (by decide) (fun _ => rfl) hK hR
theorem d111_50 : decode (mC 111) 50 = .ok (.iload_n 1, 1) := by decide +kernel
theorem x111_50 {sc : aSc} {d : Nat} {r : aRes} {a0 : Value} {x1 : Int32} {a2 : Value} {a3 : Value} {a4 : Value} {st : List Value} {σ : aS} : Rn sc d 111 50 [a0, .int x1, a2, a3, a4] st σ r ↔ Rn sc d 111 51 [a0, .int x1, a2, a3, a4] (.int x1 :: st) σ r := r_iload_n d111_50 rfl
theorem d111_51 : decode (mC 111) 51 = .ok (.iaload, 1) := by decide +kernel
theorem x111_51 {sc : aSc} {d : Nat} {r : aRes} {L : List Value} {st : List Value} {f : Nat → Nat → Int32} {g : Nat → Nat → Int64} {h1 h2 : Nat} {a : Nat} {i : Int32} (h17 : 17 ≤ a) (hA : isT9 .int a) (hi : inb i (aln a) = true) : Rn sc d 111 51 L (.int i :: .ref a :: st) (cS f g h1 h2) r ↔ Rn sc d 111 52 L (.int (f a i.toNatClampNeg) :: st) (cS f g h1 h2) r := r_iald d111_51 h17 hA hi
theorem d111_52 : decode (mC 111) 52 = .ok (.goto 9, 3) := by decide +kernel
theorem x111_52 {sc : aSc} {d : Nat} {r : aRes} {L : List Value} {st : List Value} {σ : aS} : Rn sc d 111 52 L st σ r ↔ Rn sc d 111 61 L st σ r := r_goto d111_52 rfl
theorem d111_55 : decode (mC 111) 55 = .ok (.aload_n 0, 1) := by decide +kernel
theorem x111_55 {sc : aSc} {d : Nat} {r : aRes} {x0 : Nat} {a1 : Value} {a2 : Value} {a3 : Value} {a4 : Value} {st : List Value} {σ : aS} : Rn sc d 111 55 [.ref x0, a1, a2, a3, a4] st σ r ↔ Rn sc d 111 56 [.ref x0, a1, a2, a3, a4] (.ref x0 :: st) σ r := r_aload_n d111_55 rfl
theorem d111_56 : decode (mC 111) 56 = .ok (.getfield 35, 3) := by decide +kernel
theorem x111_56 {sc : aSc} {d : Nat} {r : aRes} {L : List Value} {st : List Value} {f : Nat → Nat → Int32} {g : Nat → Nat → Int64} {h1 h2 : Nat} {o : Nat} (hK : KK[o]? = some (.inl 7)) (hR : (RR h1 h2 o 8).isSome = true) : Rn sc d 111 56 L (.ref o :: st) (cS f g h1 h2) r ↔ Rn sc d 111 59 L (.ref (rf h1 h2 o 8) :: st) (cS f g h1 h2) r := r_getR2 d111_56 (ci := 7) (k := 8) rfl (by decide) (fun _ => rfl) hK hR
theorem d111_59 : decode (mC 111) 59 = .ok (.iload_n 1, 1) := by decide +kernel
theorem x111_59 {sc : aSc} {d : Nat} {r : aRes} {a0 : Value} {x1 : Int32} {a2 : Value} {a3 : Value} {a4 : Value} {st : List Value} {σ : aS} : Rn sc d 111 59 [a0, .int x1, a2, a3, a4] st σ r ↔ Rn sc d 111 60 [a0, .int x1, a2, a3, a4] (.int x1 :: st) σ r := r_iload_n d111_59 rfl
theorem d111_60 : decode (mC 111) 60 = .ok (.iaload, 1) := by decide +kernel
theorem x111_60 {sc : aSc} {d : Nat} {r : aRes} {L : List Value} {st : List Value} {f : Nat → Nat → Int32} {g : Nat → Nat → Int64} {h1 h2 : Nat} {a : Nat} {i : Int32} (h17 : 17 ≤ a) (hA : isT9 .int a) (hi : inb i (aln a) = true) : Rn sc d 111 60 L (.int i :: .ref a :: st) (cS f g h1 h2) r ↔ Rn sc d 111 61 L (.int (f a i.toNatClampNeg) :: st) (cS f g h1 h2) r := r_iald d111_60 h17 hA hi
theorem d111_61 : decode (mC 111) 61 = .ok (.istore 4, 2) := by decide +kernel
theorem x111_61 {sc : aSc} {d : Nat} {r : aRes} {a0 : Value} {a1 : Value} {a2 : Value} {x3 : Int32} {a4 : Value} {st : List Value} {σ : aS} {y : Int32} : Rn sc d 111 61 [a0, a1, a2, .int x3, a4] (.int y :: st) σ r ↔ Rn sc d 111 63 [a0, a1, a2, .int x3, .int y] st σ r := r_istore d111_61 (Nat.le_of_ble_eq_true rfl) rfl
theorem d111_63 : decode (mC 111) 63 = .ok (.iload_n 2, 1) := by decide +kernel
theorem x111_63 {sc : aSc} {d : Nat} {r : aRes} {a0 : Value} {a1 : Value} {x2 : Int32} {a3 : Value} {a4 : Value} {st : List Value} {σ : aS} : Rn sc d 111 63 [a0, a1, .int x2, a3, a4] st σ r ↔ Rn sc d 111 64 [a0, a1, .int x2, a3, a4] (.int x2 :: st) σ r := r_iload_n d111_63 rfl
theorem d111_64 : decode (mC 111) 64 = .ok (.ifCond .ne 13, 3) := by decide +kernel
theorem x111_64 {sc : aSc} {d : Nat} {r : aRes} {L : List Value} {st : List Value} {σ : aS} {x : Int32} : Rn sc d 111 64 L (.int x :: st) σ r ↔ if x = 0 then Rn sc d 111 67 L st σ r else Rn sc d 111 77 L st σ r := r_if_ne d111_64 rfl
theorem d111_67 : decode (mC 111) 67 = .ok (.aload_n 0, 1) := by decide +kernel
theorem x111_67 {sc : aSc} {d : Nat} {r : aRes} {x0 : Nat} {a1 : Value} {a2 : Value} {a3 : Value} {a4 : Value} {st : List Value} {σ : aS} : Rn sc d 111 67 [.ref x0, a1, a2, a3, a4] st σ r ↔ Rn sc d 111 68 [.ref x0, a1, a2, a3, a4] (.ref x0 :: st) σ r := r_aload_n d111_67 rfl
theorem d111_68 : decode (mC 111) 68 = .ok (.getfield 32, 3) := by decide +kernel
theorem x111_68 {sc : aSc} {d : Nat} {r : aRes} {L : List Value} {st : List Value} {f : Nat → Nat → Int32} {g : Nat → Nat → Int64} {h1 h2 : Nat} {o : Nat} (hK : KK[o]? = some (.inl 7)) (hR : (RR h1 h2 o 7).isSome = true) : Rn sc d 111 68 L (.ref o :: st) (cS f g h1 h2) r ↔ Rn sc d 111 71 L (.ref (rf h1 h2 o 7) :: st) (cS f g h1 h2) r := r_getR2 d111_68 (ci := 7) (k := 7) rfl (by decide) (fun _ => rfl) hK hR
theorem d111_71 : decode (mC 111) 71 = .ok (.iload_n 1, 1) := by decide +kernel
theorem x111_71 {sc : aSc} {d : Nat} {r : aRes} {a0 : Value} {x1 : Int32} {a2 : Value} {a3 : Value} {a4 : Value} {st : List Value} {σ : aS} : Rn sc d 111 71 [a0, .int x1, a2, a3, a4] st σ r ↔ Rn sc d 111 72 [a0, .int x1, a2, a3, a4] (.int x1 :: st) σ r := r_iload_n d111_71 rfl
theorem d111_72 : decode (mC 111) 72 = .ok (.iload_n 3, 1) := by decide +kernel
theorem x111_72 {sc : aSc} {d : Nat} {r : aRes} {a0 : Value} {a1 : Value} {a2 : Value} {x3 : Int32} {a4 : Value} {st : List Value} {σ : aS} : Rn sc d 111 72 [a0, a1, a2, .int x3, a4] st σ r ↔ Rn sc d 111 73 [a0, a1, a2, .int x3, a4] (.int x3 :: st) σ r := r_iload_n d111_72 rfl
theorem d111_73 : decode (mC 111) 73 = .ok (.iastore, 1) := by decide +kernel
theorem x111_73 {sc : aSc} {d : Nat} {r : aRes} {L : List Value} {st : List Value} {f : Nat → Nat → Int32} {g : Nat → Nat → Int64} {h1 h2 : Nat} {a : Nat} {i : Int32} {x : Int32} (h17 : 17 ≤ a) (hA : isT9 .int a) (hi : inb i (aln a) = true) : Rn sc d 111 73 L (.int x :: .int i :: .ref a :: st) (cS f g h1 h2) r ↔ Rn sc d 111 74 L st (cS (u2 f a i.toNatClampNeg x) g h1 h2) r := r_iast d111_73 h17 hA hi
theorem d111_74 : decode (mC 111) 74 = .ok (.goto 10, 3) := by decide +kernel
theorem x111_74 {sc : aSc} {d : Nat} {r : aRes} {L : List Value} {st : List Value} {σ : aS} : Rn sc d 111 74 L st σ r ↔ Rn sc d 111 84 L st σ r := r_goto d111_74 rfl
theorem d111_77 : decode (mC 111) 77 = .ok (.aload_n 0, 1) := by decide +kernel
theorem x111_77 {sc : aSc} {d : Nat} {r : aRes} {x0 : Nat} {a1 : Value} {a2 : Value} {a3 : Value} {a4 : Value} {st : List Value} {σ : aS} : Rn sc d 111 77 [.ref x0, a1, a2, a3, a4] st σ r ↔ Rn sc d 111 78 [.ref x0, a1, a2, a3, a4] (.ref x0 :: st) σ r := r_aload_n d111_77 rfl
theorem d111_78 : decode (mC 111) 78 = .ok (.getfield 35, 3) := by decide +kernel
theorem x111_78 {sc : aSc} {d : Nat} {r : aRes} {L : List Value} {st : List Value} {f : Nat → Nat → Int32} {g : Nat → Nat → Int64} {h1 h2 : Nat} {o : Nat} (hK : KK[o]? = some (.inl 7)) (hR : (RR h1 h2 o 8).isSome = true) : Rn sc d 111 78 L (.ref o :: st) (cS f g h1 h2) r ↔ Rn sc d 111 81 L (.ref (rf h1 h2 o 8) :: st) (cS f g h1 h2) r := r_getR2 d111_78 (ci := 7) (k := 8) rfl (by decide) (fun _ => rfl) hK hR
theorem d111_81 : decode (mC 111) 81 = .ok (.iload_n 1, 1) := by decide +kernel
theorem x111_81 {sc : aSc} {d : Nat} {r : aRes} {a0 : Value} {x1 : Int32} {a2 : Value} {a3 : Value} {a4 : Value} {st : List Value} {σ : aS} : Rn sc d 111 81 [a0, .int x1, a2, a3, a4] st σ r ↔ Rn sc d 111 82 [a0, .int x1, a2, a3, a4] (.int x1 :: st) σ r := r_iload_n d111_81 rfl
theorem d111_82 : decode (mC 111) 82 = .ok (.iload_n 3, 1) := by decide +kernel
theorem x111_82 {sc : aSc} {d : Nat} {r : aRes} {a0 : Value} {a1 : Value} {a2 : Value} {x3 : Int32} {a4 : Value} {st : List Value} {σ : aS} : Rn sc d 111 82 [a0, a1, a2, .int x3, a4] st σ r ↔ Rn sc d 111 83 [a0, a1, a2, .int x3, a4] (.int x3 :: st) σ r := r_iload_n d111_82 rfl
theorem d111_83 : decode (mC 111) 83 = .ok (.iastore, 1) := by decide +kernel
theorem x111_83 {sc : aSc} {d : Nat} {r : aRes} {L : List Value} {st : List Value} {f : Nat → Nat → Int32} {g : Nat → Nat → Int64} {h1 h2 : Nat} {a : Nat} {i : Int32} {x : Int32} (h17 : 17 ≤ a) (hA : isT9 .int a) (hi : inb i (aln a) = true) : Rn sc d 111 83 L (.int x :: .int i :: .ref a :: st) (cS f g h1 h2) r ↔ Rn sc d 111 84 L st (cS (u2 f a i.toNatClampNeg x) g h1 h2) r := r_iast d111_83 h17 hA hi
theorem d111_84 : decode (mC 111) 84 = .ok (.iload 4, 2) := by decide +kernel
theorem x111_84 {sc : aSc} {d : Nat} {r : aRes} {a0 : Value} {a1 : Value} {a2 : Value} {a3 : Value} {x4 : Int32} {st : List Value} {σ : aS} : Rn sc d 111 84 [a0, a1, a2, a3, .int x4] st σ r ↔ Rn sc d 111 86 [a0, a1, a2, a3, .int x4] (.int x4 :: st) σ r := r_iload d111_84 rfl
theorem d111_86 : decode (mC 111) 86 = .ok (.ireturn, 1) := by decide +kernel
theorem x111_86 {sc : aSc} {d : Nat} {r : aRes} {L : List Value} {σ : aS} {x : Int32} : Rn sc d 111 86 L [.int x] σ r ↔ r = (σ, some (.int x)) := r_iret d111_86 rfl rfl
theorem d112_0 : decode (mC 112) 0 = .ok (.aload_n 0, 1) := by decide +kernel
theorem x112_0 {sc : aSc} {d : Nat} {r : aRes} {x0 : Nat} {a1 : Value} {a2 : Value} {a3 : Value} {a4 : Value} {st : List Value} {σ : aS} : Rn sc d 112 0 [.ref x0, a1, a2, a3, a4] st σ r ↔ Rn sc d 112 1 [.ref x0, a1, a2, a3, a4] (.ref x0 :: st) σ r := r_aload_n d112_0 rfl
theorem d112_1 : decode (mC 112) 1 = .ok (.iload_n 1, 1) := by decide +kernel
theorem x112_1 {sc : aSc} {d : Nat} {r : aRes} {a0 : Value} {x1 : Int32} {a2 : Value} {a3 : Value} {a4 : Value} {st : List Value} {σ : aS} : Rn sc d 112 1 [a0, .int x1, a2, a3, a4] st σ r ↔ Rn sc d 112 2 [a0, .int x1, a2, a3, a4] (.int x1 :: st) σ r := r_iload_n d112_1 rfl
theorem d112_2 : decode (mC 112) 2 = .ok (.invokevirtual 231, 3) := by decide +kernel
theorem x112_2 {sc : aSc} {d : Nat} {r : aRes} {L : List Value} {f : Nat → Nat → Int32} {g : Nat → Nat → Int64} {h1 h2 : Nat} {y0 : Int32}  {o : Nat} (hK : KK[o]? = some (.inl 7)) : Rn sc d 112 2 L [.int y0, .ref o] (cS f g h1 h2) r ↔ ∃ (σ3 : aS) (v : Option Value), Cl sc d 109 [.ref o, .int y0] (cS f g h1 h2) (σ3, v) ∧ Rn sc d 112 5 L (v.toList ++ []) σ3 r := r_callV (vs := [.int y0]) d112_2 (j := 109) rfl ⟨rfl, by decide, rfl, rfl⟩ (Nat.le_of_ble_eq_true rfl) hK
theorem d112_5 : decode (mC 112) 5 = .ok (.ifCond .eq 13, 3) := by decide +kernel
theorem x112_5 {sc : aSc} {d : Nat} {r : aRes} {L : List Value} {st : List Value} {σ : aS} {x : Int32} : Rn sc d 112 5 L (.int x :: st) σ r ↔ if x = 0 then Rn sc d 112 18 L st σ r else Rn sc d 112 8 L st σ r := r_if_eq d112_5 rfl
theorem d112_8 : decode (mC 112) 8 = .ok (.aload_n 0, 1) := by decide +kernel
theorem x112_8 {sc : aSc} {d : Nat} {r : aRes} {x0 : Nat} {a1 : Value} {a2 : Value} {a3 : Value} {a4 : Value} {st : List Value} {σ : aS} : Rn sc d 112 8 [.ref x0, a1, a2, a3, a4] st σ r ↔ Rn sc d 112 9 [.ref x0, a1, a2, a3, a4] (.ref x0 :: st) σ r := r_aload_n d112_8 rfl
theorem d112_9 : decode (mC 112) 9 = .ok (.iload_n 2, 1) := by decide +kernel
theorem x112_9 {sc : aSc} {d : Nat} {r : aRes} {a0 : Value} {a1 : Value} {x2 : Int32} {a3 : Value} {a4 : Value} {st : List Value} {σ : aS} : Rn sc d 112 9 [a0, a1, .int x2, a3, a4] st σ r ↔ Rn sc d 112 10 [a0, a1, .int x2, a3, a4] (.int x2 :: st) σ r := r_iload_n d112_9 rfl
theorem d112_10 : decode (mC 112) 10 = .ok (.iconst 0, 1) := by decide +kernel
theorem x112_10 {sc : aSc} {d : Nat} {r : aRes} {L : List Value} {st : List Value} {σ : aS} : Rn sc d 112 10 L st σ r ↔ Rn sc d 112 11 L (.int 0 :: st) σ r := r_iconst d112_10 (by decide)
theorem d112_11 : decode (mC 112) 11 = .ok (.iconst 3, 1) := by decide +kernel
theorem x112_11 {sc : aSc} {d : Nat} {r : aRes} {L : List Value} {st : List Value} {σ : aS} : Rn sc d 112 11 L st σ r ↔ Rn sc d 112 12 L (.int 3 :: st) σ r := r_iconst d112_11 (by decide)
theorem d112_12 : decode (mC 112) 12 = .ok (.invokevirtual 227, 3) := by decide +kernel
theorem x112_12 {sc : aSc} {d : Nat} {r : aRes} {L : List Value} {f : Nat → Nat → Int32} {g : Nat → Nat → Int64} {h1 h2 : Nat} {y0 : Int32} {y1 : Int32} {y2 : Int32}  {o : Nat} (hK : KK[o]? = some (.inl 7)) : Rn sc d 112 12 L [.int y0, .int y1, .int y2, .ref o] (cS f g h1 h2) r ↔ ∃ (σ3 : aS) (v : Option Value), Cl sc d 108 [.ref o, .int y2, .int y1, .int y0] (cS f g h1 h2) (σ3, v) ∧ Rn sc d 112 15 L (v.toList ++ []) σ3 r := r_callV (vs := [.int y0, .int y1, .int y2]) d112_12 (j := 108) rfl ⟨rfl, by decide, rfl, rfl⟩ (Nat.le_of_ble_eq_true rfl) hK
theorem d112_15 : decode (mC 112) 15 = .ok (.ifCond .ne 5, 3) := by decide +kernel
theorem x112_15 {sc : aSc} {d : Nat} {r : aRes} {L : List Value} {st : List Value} {σ : aS} {x : Int32} : Rn sc d 112 15 L (.int x :: st) σ r ↔ if x = 0 then Rn sc d 112 18 L st σ r else Rn sc d 112 20 L st σ r := r_if_ne d112_15 rfl
theorem d112_18 : decode (mC 112) 18 = .ok (.iconst (-1), 1) := by decide +kernel
theorem x112_18 {sc : aSc} {d : Nat} {r : aRes} {L : List Value} {st : List Value} {σ : aS} : Rn sc d 112 18 L st σ r ↔ Rn sc d 112 19 L (.int (-1) :: st) σ r := r_iconst d112_18 (by decide)
theorem d112_19 : decode (mC 112) 19 = .ok (.ireturn, 1) := by decide +kernel
theorem x112_19 {sc : aSc} {d : Nat} {r : aRes} {L : List Value} {σ : aS} {x : Int32} : Rn sc d 112 19 L [.int x] σ r ↔ r = (σ, some (.int x)) := r_iret d112_19 rfl rfl
theorem d112_20 : decode (mC 112) 20 = .ok (.aload_n 0, 1) := by decide +kernel
theorem x112_20 {sc : aSc} {d : Nat} {r : aRes} {x0 : Nat} {a1 : Value} {a2 : Value} {a3 : Value} {a4 : Value} {st : List Value} {σ : aS} : Rn sc d 112 20 [.ref x0, a1, a2, a3, a4] st σ r ↔ Rn sc d 112 21 [.ref x0, a1, a2, a3, a4] (.ref x0 :: st) σ r := r_aload_n d112_20 rfl
theorem d112_21 : decode (mC 112) 21 = .ok (.iload_n 3, 1) := by decide +kernel
theorem x112_21 {sc : aSc} {d : Nat} {r : aRes} {a0 : Value} {a1 : Value} {a2 : Value} {x3 : Int32} {a4 : Value} {st : List Value} {σ : aS} : Rn sc d 112 21 [a0, a1, a2, .int x3, a4] st σ r ↔ Rn sc d 112 22 [a0, a1, a2, .int x3, a4] (.int x3 :: st) σ r := r_iload_n d112_21 rfl
theorem d112_22 : decode (mC 112) 22 = .ok (.iconst 0, 1) := by decide +kernel
theorem x112_22 {sc : aSc} {d : Nat} {r : aRes} {L : List Value} {st : List Value} {σ : aS} : Rn sc d 112 22 L st σ r ↔ Rn sc d 112 23 L (.int 0 :: st) σ r := r_iconst d112_22 (by decide)
theorem d112_23 : decode (mC 112) 23 = .ok (.bipush 9, 2) := by decide +kernel
theorem x112_23 {sc : aSc} {d : Nat} {r : aRes} {L : List Value} {st : List Value} {σ : aS} : Rn sc d 112 23 L st σ r ↔ Rn sc d 112 25 L (.int 9 :: st) σ r := r_bipush d112_23 (by decide)
theorem d112_25 : decode (mC 112) 25 = .ok (.invokevirtual 227, 3) := by decide +kernel
theorem x112_25 {sc : aSc} {d : Nat} {r : aRes} {L : List Value} {f : Nat → Nat → Int32} {g : Nat → Nat → Int64} {h1 h2 : Nat} {y0 : Int32} {y1 : Int32} {y2 : Int32}  {o : Nat} (hK : KK[o]? = some (.inl 7)) : Rn sc d 112 25 L [.int y0, .int y1, .int y2, .ref o] (cS f g h1 h2) r ↔ ∃ (σ3 : aS) (v : Option Value), Cl sc d 108 [.ref o, .int y2, .int y1, .int y0] (cS f g h1 h2) (σ3, v) ∧ Rn sc d 112 28 L (v.toList ++ []) σ3 r := r_callV (vs := [.int y0, .int y1, .int y2]) d112_25 (j := 108) rfl ⟨rfl, by decide, rfl, rfl⟩ (Nat.le_of_ble_eq_true rfl) hK
theorem d112_28 : decode (mC 112) 28 = .ok (.ifCond .ne 6, 3) := by decide +kernel
theorem x112_28 {sc : aSc} {d : Nat} {r : aRes} {L : List Value} {st : List Value} {σ : aS} {x : Int32} : Rn sc d 112 28 L (.int x :: st) σ r ↔ if x = 0 then Rn sc d 112 31 L st σ r else Rn sc d 112 34 L st σ r := r_if_ne d112_28 rfl
theorem d112_31 : decode (mC 112) 31 = .ok (.bipush (-2), 2) := by decide +kernel
theorem x112_31 {sc : aSc} {d : Nat} {r : aRes} {L : List Value} {st : List Value} {σ : aS} : Rn sc d 112 31 L st σ r ↔ Rn sc d 112 33 L (.int (-2) :: st) σ r := r_bipush d112_31 (by decide)
theorem d112_33 : decode (mC 112) 33 = .ok (.ireturn, 1) := by decide +kernel
theorem x112_33 {sc : aSc} {d : Nat} {r : aRes} {L : List Value} {σ : aS} {x : Int32} : Rn sc d 112 33 L [.int x] σ r ↔ r = (σ, some (.int x)) := r_iret d112_33 rfl rfl
theorem d112_34 : decode (mC 112) 34 = .ok (.aload_n 0, 1) := by decide +kernel
theorem x112_34 {sc : aSc} {d : Nat} {r : aRes} {x0 : Nat} {a1 : Value} {a2 : Value} {a3 : Value} {a4 : Value} {st : List Value} {σ : aS} : Rn sc d 112 34 [.ref x0, a1, a2, a3, a4] st σ r ↔ Rn sc d 112 35 [.ref x0, a1, a2, a3, a4] (.ref x0 :: st) σ r := r_aload_n d112_34 rfl
theorem d112_35 : decode (mC 112) 35 = .ok (.getfield 25, 3) := by decide +kernel
theorem x112_35 {sc : aSc} {d : Nat} {r : aRes} {L : List Value} {st : List Value} {f : Nat → Nat → Int32} {g : Nat → Nat → Int64} {h1 h2 : Nat} {o : Nat} (hK : KK[o]? = some (.inl 7)) (hR : (RR h1 h2 o 5).isSome = true) : Rn sc d 112 35 L (.ref o :: st) (cS f g h1 h2) r ↔ Rn sc d 112 38 L (.ref (rf h1 h2 o 5) :: st) (cS f g h1 h2) r := r_getR2 d112_35 (ci := 7) (k := 5) rfl (by decide) (fun _ => rfl) hK hR
theorem d112_38 : decode (mC 112) 38 = .ok (.iload_n 1, 1) := by decide +kernel
theorem x112_38 {sc : aSc} {d : Nat} {r : aRes} {a0 : Value} {x1 : Int32} {a2 : Value} {a3 : Value} {a4 : Value} {st : List Value} {σ : aS} : Rn sc d 112 38 [a0, .int x1, a2, a3, a4] st σ r ↔ Rn sc d 112 39 [a0, .int x1, a2, a3, a4] (.int x1 :: st) σ r := r_iload_n d112_38 rfl
theorem d112_39 : decode (mC 112) 39 = .ok (.iaload, 1) := by decide +kernel
theorem x112_39 {sc : aSc} {d : Nat} {r : aRes} {L : List Value} {st : List Value} {f : Nat → Nat → Int32} {g : Nat → Nat → Int64} {h1 h2 : Nat} {a : Nat} {i : Int32} (h17 : 17 ≤ a) (hA : isT9 .int a) (hi : inb i (aln a) = true) : Rn sc d 112 39 L (.int i :: .ref a :: st) (cS f g h1 h2) r ↔ Rn sc d 112 40 L (.int (f a i.toNatClampNeg) :: st) (cS f g h1 h2) r := r_iald d112_39 h17 hA hi
theorem d112_40 : decode (mC 112) 40 = .ok (.bipush 6, 2) := by decide +kernel
theorem x112_40 {sc : aSc} {d : Nat} {r : aRes} {L : List Value} {st : List Value} {σ : aS} : Rn sc d 112 40 L st σ r ↔ Rn sc d 112 42 L (.int 6 :: st) σ r := r_bipush d112_40 (by decide)
theorem d112_42 : decode (mC 112) 42 = .ok (.if_icmp .eq 6, 3) := by decide +kernel
theorem x112_42 {sc : aSc} {d : Nat} {r : aRes} {L : List Value} {st : List Value} {σ : aS} {x y : Int32} : Rn sc d 112 42 L (.int y :: .int x :: st) σ r ↔ if x = y then Rn sc d 112 48 L st σ r else Rn sc d 112 45 L st σ r := r_icmp_eq d112_42 rfl
theorem d112_45 : decode (mC 112) 45 = .ok (.bipush (-3), 2) := by decide +kernel
theorem x112_45 {sc : aSc} {d : Nat} {r : aRes} {L : List Value} {st : List Value} {σ : aS} : Rn sc d 112 45 L st σ r ↔ Rn sc d 112 47 L (.int (-3) :: st) σ r := r_bipush d112_45 (by decide)
theorem d112_47 : decode (mC 112) 47 = .ok (.ireturn, 1) := by decide +kernel
theorem x112_47 {sc : aSc} {d : Nat} {r : aRes} {L : List Value} {σ : aS} {x : Int32} : Rn sc d 112 47 L [.int x] σ r ↔ r = (σ, some (.int x)) := r_iret d112_47 rfl rfl
theorem d112_48 : decode (mC 112) 48 = .ok (.aload_n 0, 1) := by decide +kernel
theorem x112_48 {sc : aSc} {d : Nat} {r : aRes} {x0 : Nat} {a1 : Value} {a2 : Value} {a3 : Value} {a4 : Value} {st : List Value} {σ : aS} : Rn sc d 112 48 [.ref x0, a1, a2, a3, a4] st σ r ↔ Rn sc d 112 49 [.ref x0, a1, a2, a3, a4] (.ref x0 :: st) σ r := r_aload_n d112_48 rfl
theorem d112_49 : decode (mC 112) 49 = .ok (.getfield 41, 3) := by decide +kernel
theorem x112_49 {sc : aSc} {d : Nat} {r : aRes} {L : List Value} {st : List Value} {f : Nat → Nat → Int32} {g : Nat → Nat → Int64} {h1 h2 : Nat} {o : Nat} (hK : KK[o]? = some (.inl 7)) (hR : (RR h1 h2 o 10).isSome = true) : Rn sc d 112 49 L (.ref o :: st) (cS f g h1 h2) r ↔ Rn sc d 112 52 L (.ref (rf h1 h2 o 10) :: st) (cS f g h1 h2) r := r_getR2 d112_49 (ci := 7) (k := 10) rfl (by decide) (fun _ => rfl) hK hR
theorem d112_52 : decode (mC 112) 52 = .ok (.iconst 4, 1) := by decide +kernel
theorem x112_52 {sc : aSc} {d : Nat} {r : aRes} {L : List Value} {st : List Value} {σ : aS} : Rn sc d 112 52 L st σ r ↔ Rn sc d 112 53 L (.int 4 :: st) σ r := r_iconst d112_52 (by decide)
theorem d112_53 : decode (mC 112) 53 = .ok (.iload_n 1, 1) := by decide +kernel
theorem x112_53 {sc : aSc} {d : Nat} {r : aRes} {a0 : Value} {x1 : Int32} {a2 : Value} {a3 : Value} {a4 : Value} {st : List Value} {σ : aS} : Rn sc d 112 53 [a0, .int x1, a2, a3, a4] st σ r ↔ Rn sc d 112 54 [a0, .int x1, a2, a3, a4] (.int x1 :: st) σ r := r_iload_n d112_53 rfl
theorem d112_54 : decode (mC 112) 54 = .ok (.imul, 1) := by decide +kernel
theorem x112_54 {sc : aSc} {d : Nat} {r : aRes} {L : List Value} {st : List Value} {σ : aS} {x y : Int32} : Rn sc d 112 54 L (.int y :: .int x :: st) σ r ↔ Rn sc d 112 55 L (.int (x * y) :: st) σ r := r_imul d112_54
theorem d112_55 : decode (mC 112) 55 = .ok (.iload_n 2, 1) := by decide +kernel
theorem x112_55 {sc : aSc} {d : Nat} {r : aRes} {a0 : Value} {a1 : Value} {x2 : Int32} {a3 : Value} {a4 : Value} {st : List Value} {σ : aS} : Rn sc d 112 55 [a0, a1, .int x2, a3, a4] st σ r ↔ Rn sc d 112 56 [a0, a1, .int x2, a3, a4] (.int x2 :: st) σ r := r_iload_n d112_55 rfl
theorem d112_56 : decode (mC 112) 56 = .ok (.iadd, 1) := by decide +kernel
theorem x112_56 {sc : aSc} {d : Nat} {r : aRes} {L : List Value} {st : List Value} {σ : aS} {x y : Int32} : Rn sc d 112 56 L (.int y :: .int x :: st) σ r ↔ Rn sc d 112 57 L (.int (x + y) :: st) σ r := r_iadd d112_56
theorem d112_57 : decode (mC 112) 57 = .ok (.iaload, 1) := by decide +kernel
theorem x112_57 {sc : aSc} {d : Nat} {r : aRes} {L : List Value} {st : List Value} {f : Nat → Nat → Int32} {g : Nat → Nat → Int64} {h1 h2 : Nat} {a : Nat} {i : Int32} (h17 : 17 ≤ a) (hA : isT9 .int a) (hi : inb i (aln a) = true) : Rn sc d 112 57 L (.int i :: .ref a :: st) (cS f g h1 h2) r ↔ Rn sc d 112 58 L (.int (f a i.toNatClampNeg) :: st) (cS f g h1 h2) r := r_iald d112_57 h17 hA hi
theorem d112_58 : decode (mC 112) 58 = .ok (.istore 4, 2) := by decide +kernel
theorem x112_58 {sc : aSc} {d : Nat} {r : aRes} {a0 : Value} {a1 : Value} {a2 : Value} {x3 : Int32} {a4 : Value} {st : List Value} {σ : aS} {y : Int32} : Rn sc d 112 58 [a0, a1, a2, .int x3, a4] (.int y :: st) σ r ↔ Rn sc d 112 60 [a0, a1, a2, .int x3, .int y] st σ r := r_istore d112_58 (Nat.le_of_ble_eq_true rfl) rfl
theorem d112_60 : decode (mC 112) 60 = .ok (.aload_n 0, 1) := by decide +kernel
theorem x112_60 {sc : aSc} {d : Nat} {r : aRes} {x0 : Nat} {a1 : Value} {a2 : Value} {a3 : Value} {a4 : Value} {st : List Value} {σ : aS} : Rn sc d 112 60 [.ref x0, a1, a2, a3, a4] st σ r ↔ Rn sc d 112 61 [.ref x0, a1, a2, a3, a4] (.ref x0 :: st) σ r := r_aload_n d112_60 rfl
theorem d112_61 : decode (mC 112) 61 = .ok (.getfield 41, 3) := by decide +kernel
theorem x112_61 {sc : aSc} {d : Nat} {r : aRes} {L : List Value} {st : List Value} {f : Nat → Nat → Int32} {g : Nat → Nat → Int64} {h1 h2 : Nat} {o : Nat} (hK : KK[o]? = some (.inl 7)) (hR : (RR h1 h2 o 10).isSome = true) : Rn sc d 112 61 L (.ref o :: st) (cS f g h1 h2) r ↔ Rn sc d 112 64 L (.ref (rf h1 h2 o 10) :: st) (cS f g h1 h2) r := r_getR2 d112_61 (ci := 7) (k := 10) rfl (by decide) (fun _ => rfl) hK hR
theorem d112_64 : decode (mC 112) 64 = .ok (.iconst 4, 1) := by decide +kernel
theorem x112_64 {sc : aSc} {d : Nat} {r : aRes} {L : List Value} {st : List Value} {σ : aS} : Rn sc d 112 64 L st σ r ↔ Rn sc d 112 65 L (.int 4 :: st) σ r := r_iconst d112_64 (by decide)
theorem d112_65 : decode (mC 112) 65 = .ok (.iload_n 1, 1) := by decide +kernel
theorem x112_65 {sc : aSc} {d : Nat} {r : aRes} {a0 : Value} {x1 : Int32} {a2 : Value} {a3 : Value} {a4 : Value} {st : List Value} {σ : aS} : Rn sc d 112 65 [a0, .int x1, a2, a3, a4] st σ r ↔ Rn sc d 112 66 [a0, .int x1, a2, a3, a4] (.int x1 :: st) σ r := r_iload_n d112_65 rfl
theorem d112_66 : decode (mC 112) 66 = .ok (.imul, 1) := by decide +kernel
theorem x112_66 {sc : aSc} {d : Nat} {r : aRes} {L : List Value} {st : List Value} {σ : aS} {x y : Int32} : Rn sc d 112 66 L (.int y :: .int x :: st) σ r ↔ Rn sc d 112 67 L (.int (x * y) :: st) σ r := r_imul d112_66
theorem d112_67 : decode (mC 112) 67 = .ok (.iload_n 2, 1) := by decide +kernel
theorem x112_67 {sc : aSc} {d : Nat} {r : aRes} {a0 : Value} {a1 : Value} {x2 : Int32} {a3 : Value} {a4 : Value} {st : List Value} {σ : aS} : Rn sc d 112 67 [a0, a1, .int x2, a3, a4] st σ r ↔ Rn sc d 112 68 [a0, a1, .int x2, a3, a4] (.int x2 :: st) σ r := r_iload_n d112_67 rfl
theorem d112_68 : decode (mC 112) 68 = .ok (.iadd, 1) := by decide +kernel
theorem x112_68 {sc : aSc} {d : Nat} {r : aRes} {L : List Value} {st : List Value} {σ : aS} {x y : Int32} : Rn sc d 112 68 L (.int y :: .int x :: st) σ r ↔ Rn sc d 112 69 L (.int (x + y) :: st) σ r := r_iadd d112_68
theorem d112_69 : decode (mC 112) 69 = .ok (.iload_n 3, 1) := by decide +kernel
theorem x112_69 {sc : aSc} {d : Nat} {r : aRes} {a0 : Value} {a1 : Value} {a2 : Value} {x3 : Int32} {a4 : Value} {st : List Value} {σ : aS} : Rn sc d 112 69 [a0, a1, a2, .int x3, a4] st σ r ↔ Rn sc d 112 70 [a0, a1, a2, .int x3, a4] (.int x3 :: st) σ r := r_iload_n d112_69 rfl
theorem d112_70 : decode (mC 112) 70 = .ok (.iastore, 1) := by decide +kernel
theorem x112_70 {sc : aSc} {d : Nat} {r : aRes} {L : List Value} {st : List Value} {f : Nat → Nat → Int32} {g : Nat → Nat → Int64} {h1 h2 : Nat} {a : Nat} {i : Int32} {x : Int32} (h17 : 17 ≤ a) (hA : isT9 .int a) (hi : inb i (aln a) = true) : Rn sc d 112 70 L (.int x :: .int i :: .ref a :: st) (cS f g h1 h2) r ↔ Rn sc d 112 71 L st (cS (u2 f a i.toNatClampNeg x) g h1 h2) r := r_iast d112_70 h17 hA hi
theorem d112_71 : decode (mC 112) 71 = .ok (.iload 4, 2) := by decide +kernel
theorem x112_71 {sc : aSc} {d : Nat} {r : aRes} {a0 : Value} {a1 : Value} {a2 : Value} {a3 : Value} {x4 : Int32} {st : List Value} {σ : aS} : Rn sc d 112 71 [a0, a1, a2, a3, .int x4] st σ r ↔ Rn sc d 112 73 [a0, a1, a2, a3, .int x4] (.int x4 :: st) σ r := r_iload d112_71 rfl
theorem d112_73 : decode (mC 112) 73 = .ok (.ireturn, 1) := by decide +kernel
theorem x112_73 {sc : aSc} {d : Nat} {r : aRes} {L : List Value} {σ : aS} {x : Int32} : Rn sc d 112 73 L [.int x] σ r ↔ r = (σ, some (.int x)) := r_iret d112_73 rfl rfl
theorem d113_0 : decode (mC 113) 0 = .ok (.aload_n 0, 1) := by decide +kernel
theorem x113_0 {sc : aSc} {d : Nat} {r : aRes} {x0 : Nat} {a1 : Value} {st : List Value} {σ : aS} : Rn sc d 113 0 [.ref x0, a1] st σ r ↔ Rn sc d 113 1 [.ref x0, a1] (.ref x0 :: st) σ r := r_aload_n d113_0 rfl
theorem d113_1 : decode (mC 113) 1 = .ok (.iload_n 1, 1) := by decide +kernel
theorem x113_1 {sc : aSc} {d : Nat} {r : aRes} {a0 : Value} {x1 : Int32} {st : List Value} {σ : aS} : Rn sc d 113 1 [a0, .int x1] st σ r ↔ Rn sc d 113 2 [a0, .int x1] (.int x1 :: st) σ r := r_iload_n d113_1 rfl
theorem d113_2 : decode (mC 113) 2 = .ok (.iconst 0, 1) := by decide +kernel
theorem x113_2 {sc : aSc} {d : Nat} {r : aRes} {L : List Value} {st : List Value} {σ : aS} : Rn sc d 113 2 L st σ r ↔ Rn sc d 113 3 L (.int 0 :: st) σ r := r_iconst d113_2 (by decide)
theorem d113_3 : decode (mC 113) 3 = .ok (.bipush 127, 2) := by decide +kernel
theorem x113_3 {sc : aSc} {d : Nat} {r : aRes} {L : List Value} {st : List Value} {σ : aS} : Rn sc d 113 3 L st σ r ↔ Rn sc d 113 5 L (.int 127 :: st) σ r := r_bipush d113_3 (by decide)
theorem d113_5 : decode (mC 113) 5 = .ok (.invokevirtual 227, 3) := by decide +kernel
theorem x113_5 {sc : aSc} {d : Nat} {r : aRes} {L : List Value} {f : Nat → Nat → Int32} {g : Nat → Nat → Int64} {h1 h2 : Nat} {y0 : Int32} {y1 : Int32} {y2 : Int32}  {o : Nat} (hK : KK[o]? = some (.inl 7)) : Rn sc d 113 5 L [.int y0, .int y1, .int y2, .ref o] (cS f g h1 h2) r ↔ ∃ (σ3 : aS) (v : Option Value), Cl sc d 108 [.ref o, .int y2, .int y1, .int y0] (cS f g h1 h2) (σ3, v) ∧ Rn sc d 113 8 L (v.toList ++ []) σ3 r := r_callV (vs := [.int y0, .int y1, .int y2]) d113_5 (j := 108) rfl ⟨rfl, by decide, rfl, rfl⟩ (Nat.le_of_ble_eq_true rfl) hK
theorem d113_8 : decode (mC 113) 8 = .ok (.ifCond .ne 6, 3) := by decide +kernel
theorem x113_8 {sc : aSc} {d : Nat} {r : aRes} {L : List Value} {st : List Value} {σ : aS} {x : Int32} : Rn sc d 113 8 L (.int x :: st) σ r ↔ if x = 0 then Rn sc d 113 11 L st σ r else Rn sc d 113 14 L st σ r := r_if_ne d113_8 rfl
theorem d113_11 : decode (mC 113) 11 = .ok (.bipush (-2), 2) := by decide +kernel
theorem x113_11 {sc : aSc} {d : Nat} {r : aRes} {L : List Value} {st : List Value} {σ : aS} : Rn sc d 113 11 L st σ r ↔ Rn sc d 113 13 L (.int (-2) :: st) σ r := r_bipush d113_11 (by decide)
theorem d113_13 : decode (mC 113) 13 = .ok (.ireturn, 1) := by decide +kernel
theorem x113_13 {sc : aSc} {d : Nat} {r : aRes} {L : List Value} {σ : aS} {x : Int32} : Rn sc d 113 13 L [.int x] σ r ↔ r = (σ, some (.int x)) := r_iret d113_13 rfl rfl
theorem d113_14 : decode (mC 113) 14 = .ok (.aload_n 0, 1) := by decide +kernel
theorem x113_14 {sc : aSc} {d : Nat} {r : aRes} {x0 : Nat} {a1 : Value} {st : List Value} {σ : aS} : Rn sc d 113 14 [.ref x0, a1] st σ r ↔ Rn sc d 113 15 [.ref x0, a1] (.ref x0 :: st) σ r := r_aload_n d113_14 rfl
theorem d113_15 : decode (mC 113) 15 = .ok (.getfield 50, 3) := by decide +kernel
theorem x113_15 {sc : aSc} {d : Nat} {r : aRes} {L : List Value} {st : List Value} {f : Nat → Nat → Int32} {g : Nat → Nat → Int64} {h1 h2 : Nat} {o : Nat} (h17 : 17 ≤ o) (hK : KK[o]? = some (.inl 7)) : Rn sc d 113 15 L (.ref o :: st) (cS f g h1 h2) r ↔ Rn sc d 113 18 L (.int (f o 13) :: st) (cS f g h1 h2) r := r_getI d113_15 (ci := 7) (k := 13) rfl (by decide) (fun _ => rfl) h17 hK
theorem d113_18 : decode (mC 113) 18 = .ok (.bipush 100, 2) := by decide +kernel
theorem x113_18 {sc : aSc} {d : Nat} {r : aRes} {L : List Value} {st : List Value} {σ : aS} : Rn sc d 113 18 L st σ r ↔ Rn sc d 113 20 L (.int 100 :: st) σ r := r_bipush d113_18 (by decide)
theorem d113_20 : decode (mC 113) 20 = .ok (.if_icmp .ne 6, 3) := by decide +kernel
theorem x113_20 {sc : aSc} {d : Nat} {r : aRes} {L : List Value} {st : List Value} {σ : aS} {x y : Int32} : Rn sc d 113 20 L (.int y :: .int x :: st) σ r ↔ if x = y then Rn sc d 113 23 L st σ r else Rn sc d 113 26 L st σ r := r_icmp_ne d113_20 rfl
theorem d113_23 : decode (mC 113) 23 = .ok (.bipush (-4), 2) := by decide +kernel
theorem x113_23 {sc : aSc} {d : Nat} {r : aRes} {L : List Value} {st : List Value} {σ : aS} : Rn sc d 113 23 L st σ r ↔ Rn sc d 113 25 L (.int (-4) :: st) σ r := r_bipush d113_23 (by decide)
theorem d113_25 : decode (mC 113) 25 = .ok (.ireturn, 1) := by decide +kernel
theorem x113_25 {sc : aSc} {d : Nat} {r : aRes} {L : List Value} {σ : aS} {x : Int32} : Rn sc d 113 25 L [.int x] σ r ↔ r = (σ, some (.int x)) := r_iret d113_25 rfl rfl
theorem d113_26 : decode (mC 113) 26 = .ok (.aload_n 0, 1) := by decide +kernel
theorem x113_26 {sc : aSc} {d : Nat} {r : aRes} {x0 : Nat} {a1 : Value} {st : List Value} {σ : aS} : Rn sc d 113 26 [.ref x0, a1] st σ r ↔ Rn sc d 113 27 [.ref x0, a1] (.ref x0 :: st) σ r := r_aload_n d113_26 rfl
theorem d113_27 : decode (mC 113) 27 = .ok (.getfield 59, 3) := by decide +kernel
theorem x113_27 {sc : aSc} {d : Nat} {r : aRes} {L : List Value} {st : List Value} {f : Nat → Nat → Int32} {g : Nat → Nat → Int64} {h1 h2 : Nat} {o : Nat} (hK : KK[o]? = some (.inl 7)) (hR : (RR h1 h2 o 16).isSome = true) : Rn sc d 113 27 L (.ref o :: st) (cS f g h1 h2) r ↔ Rn sc d 113 30 L (.ref (rf h1 h2 o 16) :: st) (cS f g h1 h2) r := r_getR2 d113_27 (ci := 7) (k := 16) rfl (by decide) (fun _ => rfl) hK hR
theorem d113_30 : decode (mC 113) 30 = .ok (.aload_n 0, 1) := by decide +kernel
theorem x113_30 {sc : aSc} {d : Nat} {r : aRes} {x0 : Nat} {a1 : Value} {st : List Value} {σ : aS} : Rn sc d 113 30 [.ref x0, a1] st σ r ↔ Rn sc d 113 31 [.ref x0, a1] (.ref x0 :: st) σ r := r_aload_n d113_30 rfl
theorem d113_31 : decode (mC 113) 31 = .ok (.getfield 50, 3) := by decide +kernel
theorem x113_31 {sc : aSc} {d : Nat} {r : aRes} {L : List Value} {st : List Value} {f : Nat → Nat → Int32} {g : Nat → Nat → Int64} {h1 h2 : Nat} {o : Nat} (h17 : 17 ≤ o) (hK : KK[o]? = some (.inl 7)) : Rn sc d 113 31 L (.ref o :: st) (cS f g h1 h2) r ↔ Rn sc d 113 34 L (.int (f o 13) :: st) (cS f g h1 h2) r := r_getI d113_31 (ci := 7) (k := 13) rfl (by decide) (fun _ => rfl) h17 hK
theorem d113_34 : decode (mC 113) 34 = .ok (.iload_n 1, 1) := by decide +kernel
theorem x113_34 {sc : aSc} {d : Nat} {r : aRes} {a0 : Value} {x1 : Int32} {st : List Value} {σ : aS} : Rn sc d 113 34 [a0, .int x1] st σ r ↔ Rn sc d 113 35 [a0, .int x1] (.int x1 :: st) σ r := r_iload_n d113_34 rfl
theorem d113_35 : decode (mC 113) 35 = .ok (.iastore, 1) := by decide +kernel
theorem x113_35 {sc : aSc} {d : Nat} {r : aRes} {L : List Value} {st : List Value} {f : Nat → Nat → Int32} {g : Nat → Nat → Int64} {h1 h2 : Nat} {a : Nat} {i : Int32} {x : Int32} (h17 : 17 ≤ a) (hA : isT9 .int a) (hi : inb i (aln a) = true) : Rn sc d 113 35 L (.int x :: .int i :: .ref a :: st) (cS f g h1 h2) r ↔ Rn sc d 113 36 L st (cS (u2 f a i.toNatClampNeg x) g h1 h2) r := r_iast d113_35 h17 hA hi
theorem d113_36 : decode (mC 113) 36 = .ok (.aload_n 0, 1) := by decide +kernel
theorem x113_36 {sc : aSc} {d : Nat} {r : aRes} {x0 : Nat} {a1 : Value} {st : List Value} {σ : aS} : Rn sc d 113 36 [.ref x0, a1] st σ r ↔ Rn sc d 113 37 [.ref x0, a1] (.ref x0 :: st) σ r := r_aload_n d113_36 rfl
theorem d113_37 : decode (mC 113) 37 = .ok (.dup, 1) := by decide +kernel
theorem x113_37 {sc : aSc} {d : Nat} {r : aRes} {L : List Value} {st : List Value} {σ : aS} {y : Nat} : Rn sc d 113 37 L (.ref y :: st) σ r ↔ Rn sc d 113 38 L (.ref y :: .ref y :: st) σ r := r_dup d113_37 rfl
theorem d113_38 : decode (mC 113) 38 = .ok (.getfield 50, 3) := by decide +kernel
theorem x113_38 {sc : aSc} {d : Nat} {r : aRes} {L : List Value} {st : List Value} {f : Nat → Nat → Int32} {g : Nat → Nat → Int64} {h1 h2 : Nat} {o : Nat} (h17 : 17 ≤ o) (hK : KK[o]? = some (.inl 7)) : Rn sc d 113 38 L (.ref o :: st) (cS f g h1 h2) r ↔ Rn sc d 113 41 L (.int (f o 13) :: st) (cS f g h1 h2) r := r_getI d113_38 (ci := 7) (k := 13) rfl (by decide) (fun _ => rfl) h17 hK
theorem d113_41 : decode (mC 113) 41 = .ok (.iconst 1, 1) := by decide +kernel
theorem x113_41 {sc : aSc} {d : Nat} {r : aRes} {L : List Value} {st : List Value} {σ : aS} : Rn sc d 113 41 L st σ r ↔ Rn sc d 113 42 L (.int 1 :: st) σ r := r_iconst d113_41 (by decide)
theorem d113_42 : decode (mC 113) 42 = .ok (.iadd, 1) := by decide +kernel
theorem x113_42 {sc : aSc} {d : Nat} {r : aRes} {L : List Value} {st : List Value} {σ : aS} {x y : Int32} : Rn sc d 113 42 L (.int y :: .int x :: st) σ r ↔ Rn sc d 113 43 L (.int (x + y) :: st) σ r := r_iadd d113_42
theorem d113_43 : decode (mC 113) 43 = .ok (.putfield 50, 3) := by decide +kernel
theorem x113_43 {sc : aSc} {d : Nat} {r : aRes} {L : List Value} {st : List Value} {f : Nat → Nat → Int32} {g : Nat → Nat → Int64} {h1 h2 : Nat} {o : Nat} {v : Int32} (h17 : 17 ≤ o) (hK : KK[o]? = some (.inl 7)) : Rn sc d 113 43 L (.int v :: .ref o :: st) (cS f g h1 h2) r ↔ Rn sc d 113 46 L st (cS (u2 f o 13 v) g h1 h2) r := r_putI d113_43 (ci := 7) (k := 13) rfl (by decide) h17 hK
theorem d113_46 : decode (mC 113) 46 = .ok (.aload_n 0, 1) := by decide +kernel
theorem x113_46 {sc : aSc} {d : Nat} {r : aRes} {x0 : Nat} {a1 : Value} {st : List Value} {σ : aS} : Rn sc d 113 46 [.ref x0, a1] st σ r ↔ Rn sc d 113 47 [.ref x0, a1] (.ref x0 :: st) σ r := r_aload_n d113_46 rfl
theorem d113_47 : decode (mC 113) 47 = .ok (.getfield 50, 3) := by decide +kernel
theorem x113_47 {sc : aSc} {d : Nat} {r : aRes} {L : List Value} {st : List Value} {f : Nat → Nat → Int32} {g : Nat → Nat → Int64} {h1 h2 : Nat} {o : Nat} (h17 : 17 ≤ o) (hK : KK[o]? = some (.inl 7)) : Rn sc d 113 47 L (.ref o :: st) (cS f g h1 h2) r ↔ Rn sc d 113 50 L (.int (f o 13) :: st) (cS f g h1 h2) r := r_getI d113_47 (ci := 7) (k := 13) rfl (by decide) (fun _ => rfl) h17 hK
theorem d113_50 : decode (mC 113) 50 = .ok (.ireturn, 1) := by decide +kernel
theorem x113_50 {sc : aSc} {d : Nat} {r : aRes} {L : List Value} {σ : aS} {x : Int32} : Rn sc d 113 50 L [.int x] σ r ↔ r = (σ, some (.int x)) := r_iret d113_50 rfl rfl
theorem d114_0 : decode (mC 114) 0 = .ok (.aload_n 0, 1) := by decide +kernel
theorem x114_0 {sc : aSc} {d : Nat} {r : aRes} {x0 : Nat} {st : List Value} {σ : aS} : Rn sc d 114 0 [.ref x0] st σ r ↔ Rn sc d 114 1 [.ref x0] (.ref x0 :: st) σ r := r_aload_n d114_0 rfl
theorem d114_1 : decode (mC 114) 1 = .ok (.getfield 53, 3) := by decide +kernel
theorem x114_1 {sc : aSc} {d : Nat} {r : aRes} {L : List Value} {st : List Value} {f : Nat → Nat → Int32} {g : Nat → Nat → Int64} {h1 h2 : Nat} {o : Nat} (h17 : 17 ≤ o) (hK : KK[o]? = some (.inl 7)) : Rn sc d 114 1 L (.ref o :: st) (cS f g h1 h2) r ↔ Rn sc d 114 4 L (.int (f o 14) :: st) (cS f g h1 h2) r := r_getI d114_1 (ci := 7) (k := 14) rfl (by decide) (fun _ => rfl) h17 hK
theorem d114_4 : decode (mC 114) 4 = .ok (.aload_n 0, 1) := by decide +kernel
theorem x114_4 {sc : aSc} {d : Nat} {r : aRes} {x0 : Nat} {st : List Value} {σ : aS} : Rn sc d 114 4 [.ref x0] st σ r ↔ Rn sc d 114 5 [.ref x0] (.ref x0 :: st) σ r := r_aload_n d114_4 rfl
theorem d114_5 : decode (mC 114) 5 = .ok (.getfield 50, 3) := by decide +kernel
theorem x114_5 {sc : aSc} {d : Nat} {r : aRes} {L : List Value} {st : List Value} {f : Nat → Nat → Int32} {g : Nat → Nat → Int64} {h1 h2 : Nat} {o : Nat} (h17 : 17 ≤ o) (hK : KK[o]? = some (.inl 7)) : Rn sc d 114 5 L (.ref o :: st) (cS f g h1 h2) r ↔ Rn sc d 114 8 L (.int (f o 13) :: st) (cS f g h1 h2) r := r_getI d114_5 (ci := 7) (k := 13) rfl (by decide) (fun _ => rfl) h17 hK
theorem d114_8 : decode (mC 114) 8 = .ok (.if_icmp .ge 15, 3) := by decide +kernel
theorem x114_8 {sc : aSc} {d : Nat} {r : aRes} {L : List Value} {st : List Value} {σ : aS} {x y : Int32} : Rn sc d 114 8 L (.int y :: .int x :: st) σ r ↔ if x < y then Rn sc d 114 11 L st σ r else Rn sc d 114 23 L st σ r := r_icmp_ge d114_8 rfl
theorem d114_11 : decode (mC 114) 11 = .ok (.aload_n 0, 1) := by decide +kernel
theorem x114_11 {sc : aSc} {d : Nat} {r : aRes} {x0 : Nat} {st : List Value} {σ : aS} : Rn sc d 114 11 [.ref x0] st σ r ↔ Rn sc d 114 12 [.ref x0] (.ref x0 :: st) σ r := r_aload_n d114_11 rfl
theorem d114_12 : decode (mC 114) 12 = .ok (.getfield 59, 3) := by decide +kernel
theorem x114_12 {sc : aSc} {d : Nat} {r : aRes} {L : List Value} {st : List Value} {f : Nat → Nat → Int32} {g : Nat → Nat → Int64} {h1 h2 : Nat} {o : Nat} (hK : KK[o]? = some (.inl 7)) (hR : (RR h1 h2 o 16).isSome = true) : Rn sc d 114 12 L (.ref o :: st) (cS f g h1 h2) r ↔ Rn sc d 114 15 L (.ref (rf h1 h2 o 16) :: st) (cS f g h1 h2) r := r_getR2 d114_12 (ci := 7) (k := 16) rfl (by decide) (fun _ => rfl) hK hR
theorem d114_15 : decode (mC 114) 15 = .ok (.aload_n 0, 1) := by decide +kernel
theorem x114_15 {sc : aSc} {d : Nat} {r : aRes} {x0 : Nat} {st : List Value} {σ : aS} : Rn sc d 114 15 [.ref x0] st σ r ↔ Rn sc d 114 16 [.ref x0] (.ref x0 :: st) σ r := r_aload_n d114_15 rfl
theorem d114_16 : decode (mC 114) 16 = .ok (.getfield 53, 3) := by decide +kernel
theorem x114_16 {sc : aSc} {d : Nat} {r : aRes} {L : List Value} {st : List Value} {f : Nat → Nat → Int32} {g : Nat → Nat → Int64} {h1 h2 : Nat} {o : Nat} (h17 : 17 ≤ o) (hK : KK[o]? = some (.inl 7)) : Rn sc d 114 16 L (.ref o :: st) (cS f g h1 h2) r ↔ Rn sc d 114 19 L (.int (f o 14) :: st) (cS f g h1 h2) r := r_getI d114_16 (ci := 7) (k := 14) rfl (by decide) (fun _ => rfl) h17 hK
theorem d114_19 : decode (mC 114) 19 = .ok (.iaload, 1) := by decide +kernel
theorem x114_19 {sc : aSc} {d : Nat} {r : aRes} {L : List Value} {st : List Value} {f : Nat → Nat → Int32} {g : Nat → Nat → Int64} {h1 h2 : Nat} {a : Nat} {i : Int32} (h17 : 17 ≤ a) (hA : isT9 .int a) (hi : inb i (aln a) = true) : Rn sc d 114 19 L (.int i :: .ref a :: st) (cS f g h1 h2) r ↔ Rn sc d 114 20 L (.int (f a i.toNatClampNeg) :: st) (cS f g h1 h2) r := r_iald d114_19 h17 hA hi
theorem d114_20 : decode (mC 114) 20 = .ok (.goto 4, 3) := by decide +kernel
theorem x114_20 {sc : aSc} {d : Nat} {r : aRes} {L : List Value} {st : List Value} {σ : aS} : Rn sc d 114 20 L st σ r ↔ Rn sc d 114 24 L st σ r := r_goto d114_20 rfl
theorem d114_23 : decode (mC 114) 23 = .ok (.iconst (-1), 1) := by decide +kernel
theorem x114_23 {sc : aSc} {d : Nat} {r : aRes} {L : List Value} {st : List Value} {σ : aS} : Rn sc d 114 23 L st σ r ↔ Rn sc d 114 24 L (.int (-1) :: st) σ r := r_iconst d114_23 (by decide)
theorem d114_24 : decode (mC 114) 24 = .ok (.ireturn, 1) := by decide +kernel
theorem x114_24 {sc : aSc} {d : Nat} {r : aRes} {L : List Value} {σ : aS} {x : Int32} : Rn sc d 114 24 L [.int x] σ r ↔ r = (σ, some (.int x)) := r_iret d114_24 rfl rfl
theorem d115_0 : decode (mC 115) 0 = .ok (.aload_n 0, 1) := by decide +kernel
theorem x115_0 {sc : aSc} {d : Nat} {r : aRes} {x0 : Nat} {st : List Value} {σ : aS} : Rn sc d 115 0 [.ref x0] st σ r ↔ Rn sc d 115 1 [.ref x0] (.ref x0 :: st) σ r := r_aload_n d115_0 rfl
theorem d115_1 : decode (mC 115) 1 = .ok (.getfield 53, 3) := by decide +kernel
theorem x115_1 {sc : aSc} {d : Nat} {r : aRes} {L : List Value} {st : List Value} {f : Nat → Nat → Int32} {g : Nat → Nat → Int64} {h1 h2 : Nat} {o : Nat} (h17 : 17 ≤ o) (hK : KK[o]? = some (.inl 7)) : Rn sc d 115 1 L (.ref o :: st) (cS f g h1 h2) r ↔ Rn sc d 115 4 L (.int (f o 14) :: st) (cS f g h1 h2) r := r_getI d115_1 (ci := 7) (k := 14) rfl (by decide) (fun _ => rfl) h17 hK
theorem d115_4 : decode (mC 115) 4 = .ok (.iconst 1, 1) := by decide +kernel
theorem x115_4 {sc : aSc} {d : Nat} {r : aRes} {L : List Value} {st : List Value} {σ : aS} : Rn sc d 115 4 L st σ r ↔ Rn sc d 115 5 L (.int 1 :: st) σ r := r_iconst d115_4 (by decide)
theorem d115_5 : decode (mC 115) 5 = .ok (.iadd, 1) := by decide +kernel
theorem x115_5 {sc : aSc} {d : Nat} {r : aRes} {L : List Value} {st : List Value} {σ : aS} {x y : Int32} : Rn sc d 115 5 L (.int y :: .int x :: st) σ r ↔ Rn sc d 115 6 L (.int (x + y) :: st) σ r := r_iadd d115_5
theorem d115_6 : decode (mC 115) 6 = .ok (.aload_n 0, 1) := by decide +kernel
theorem x115_6 {sc : aSc} {d : Nat} {r : aRes} {x0 : Nat} {st : List Value} {σ : aS} : Rn sc d 115 6 [.ref x0] st σ r ↔ Rn sc d 115 7 [.ref x0] (.ref x0 :: st) σ r := r_aload_n d115_6 rfl
theorem d115_7 : decode (mC 115) 7 = .ok (.getfield 50, 3) := by decide +kernel
theorem x115_7 {sc : aSc} {d : Nat} {r : aRes} {L : List Value} {st : List Value} {f : Nat → Nat → Int32} {g : Nat → Nat → Int64} {h1 h2 : Nat} {o : Nat} (h17 : 17 ≤ o) (hK : KK[o]? = some (.inl 7)) : Rn sc d 115 7 L (.ref o :: st) (cS f g h1 h2) r ↔ Rn sc d 115 10 L (.int (f o 13) :: st) (cS f g h1 h2) r := r_getI d115_7 (ci := 7) (k := 13) rfl (by decide) (fun _ => rfl) h17 hK
theorem d115_10 : decode (mC 115) 10 = .ok (.if_icmp .ge 17, 3) := by decide +kernel
theorem x115_10 {sc : aSc} {d : Nat} {r : aRes} {L : List Value} {st : List Value} {σ : aS} {x y : Int32} : Rn sc d 115 10 L (.int y :: .int x :: st) σ r ↔ if x < y then Rn sc d 115 13 L st σ r else Rn sc d 115 27 L st σ r := r_icmp_ge d115_10 rfl
theorem d115_13 : decode (mC 115) 13 = .ok (.aload_n 0, 1) := by decide +kernel
theorem x115_13 {sc : aSc} {d : Nat} {r : aRes} {x0 : Nat} {st : List Value} {σ : aS} : Rn sc d 115 13 [.ref x0] st σ r ↔ Rn sc d 115 14 [.ref x0] (.ref x0 :: st) σ r := r_aload_n d115_13 rfl
theorem d115_14 : decode (mC 115) 14 = .ok (.getfield 59, 3) := by decide +kernel
theorem x115_14 {sc : aSc} {d : Nat} {r : aRes} {L : List Value} {st : List Value} {f : Nat → Nat → Int32} {g : Nat → Nat → Int64} {h1 h2 : Nat} {o : Nat} (hK : KK[o]? = some (.inl 7)) (hR : (RR h1 h2 o 16).isSome = true) : Rn sc d 115 14 L (.ref o :: st) (cS f g h1 h2) r ↔ Rn sc d 115 17 L (.ref (rf h1 h2 o 16) :: st) (cS f g h1 h2) r := r_getR2 d115_14 (ci := 7) (k := 16) rfl (by decide) (fun _ => rfl) hK hR
theorem d115_17 : decode (mC 115) 17 = .ok (.aload_n 0, 1) := by decide +kernel
theorem x115_17 {sc : aSc} {d : Nat} {r : aRes} {x0 : Nat} {st : List Value} {σ : aS} : Rn sc d 115 17 [.ref x0] st σ r ↔ Rn sc d 115 18 [.ref x0] (.ref x0 :: st) σ r := r_aload_n d115_17 rfl
theorem d115_18 : decode (mC 115) 18 = .ok (.getfield 53, 3) := by decide +kernel
theorem x115_18 {sc : aSc} {d : Nat} {r : aRes} {L : List Value} {st : List Value} {f : Nat → Nat → Int32} {g : Nat → Nat → Int64} {h1 h2 : Nat} {o : Nat} (h17 : 17 ≤ o) (hK : KK[o]? = some (.inl 7)) : Rn sc d 115 18 L (.ref o :: st) (cS f g h1 h2) r ↔ Rn sc d 115 21 L (.int (f o 14) :: st) (cS f g h1 h2) r := r_getI d115_18 (ci := 7) (k := 14) rfl (by decide) (fun _ => rfl) h17 hK
theorem d115_21 : decode (mC 115) 21 = .ok (.iconst 1, 1) := by decide +kernel
theorem x115_21 {sc : aSc} {d : Nat} {r : aRes} {L : List Value} {st : List Value} {σ : aS} : Rn sc d 115 21 L st σ r ↔ Rn sc d 115 22 L (.int 1 :: st) σ r := r_iconst d115_21 (by decide)
theorem d115_22 : decode (mC 115) 22 = .ok (.iadd, 1) := by decide +kernel
theorem x115_22 {sc : aSc} {d : Nat} {r : aRes} {L : List Value} {st : List Value} {σ : aS} {x y : Int32} : Rn sc d 115 22 L (.int y :: .int x :: st) σ r ↔ Rn sc d 115 23 L (.int (x + y) :: st) σ r := r_iadd d115_22
theorem d115_23 : decode (mC 115) 23 = .ok (.iaload, 1) := by decide +kernel
theorem x115_23 {sc : aSc} {d : Nat} {r : aRes} {L : List Value} {st : List Value} {f : Nat → Nat → Int32} {g : Nat → Nat → Int64} {h1 h2 : Nat} {a : Nat} {i : Int32} (h17 : 17 ≤ a) (hA : isT9 .int a) (hi : inb i (aln a) = true) : Rn sc d 115 23 L (.int i :: .ref a :: st) (cS f g h1 h2) r ↔ Rn sc d 115 24 L (.int (f a i.toNatClampNeg) :: st) (cS f g h1 h2) r := r_iald d115_23 h17 hA hi
theorem d115_24 : decode (mC 115) 24 = .ok (.goto 4, 3) := by decide +kernel
theorem x115_24 {sc : aSc} {d : Nat} {r : aRes} {L : List Value} {st : List Value} {σ : aS} : Rn sc d 115 24 L st σ r ↔ Rn sc d 115 28 L st σ r := r_goto d115_24 rfl
theorem d115_27 : decode (mC 115) 27 = .ok (.iconst (-1), 1) := by decide +kernel
theorem x115_27 {sc : aSc} {d : Nat} {r : aRes} {L : List Value} {st : List Value} {σ : aS} : Rn sc d 115 27 L st σ r ↔ Rn sc d 115 28 L (.int (-1) :: st) σ r := r_iconst d115_27 (by decide)
theorem d115_28 : decode (mC 115) 28 = .ok (.ireturn, 1) := by decide +kernel
theorem x115_28 {sc : aSc} {d : Nat} {r : aRes} {L : List Value} {σ : aS} {x : Int32} : Rn sc d 115 28 L [.int x] σ r ↔ r = (σ, some (.int x)) := r_iret d115_28 rfl rfl
theorem d116_0 : decode (mC 116) 0 = .ok (.aload_n 0, 1) := by decide +kernel
theorem x116_0 {sc : aSc} {d : Nat} {r : aRes} {x0 : Nat} {a1 : Value} {st : List Value} {σ : aS} : Rn sc d 116 0 [.ref x0, a1] st σ r ↔ Rn sc d 116 1 [.ref x0, a1] (.ref x0 :: st) σ r := r_aload_n d116_0 rfl
theorem d116_1 : decode (mC 116) 1 = .ok (.invokevirtual 235, 3) := by decide +kernel
theorem x116_1 {sc : aSc} {d : Nat} {r : aRes} {L : List Value} {f : Nat → Nat → Int32} {g : Nat → Nat → Int64} {h1 h2 : Nat}   {o : Nat} (hK : KK[o]? = some (.inl 7)) : Rn sc d 116 1 L [.ref o] (cS f g h1 h2) r ↔ ∃ (σ3 : aS) (v : Option Value), Cl sc d 114 [.ref o] (cS f g h1 h2) (σ3, v) ∧ Rn sc d 116 4 L (v.toList ++ []) σ3 r := r_callV (vs := []) d116_1 (j := 114) rfl ⟨rfl, by decide, rfl, rfl⟩ (Nat.le_of_ble_eq_true rfl) hK
theorem d116_4 : decode (mC 116) 4 = .ok (.iload_n 1, 1) := by decide +kernel
theorem x116_4 {sc : aSc} {d : Nat} {r : aRes} {a0 : Value} {x1 : Int32} {st : List Value} {σ : aS} : Rn sc d 116 4 [a0, .int x1] st σ r ↔ Rn sc d 116 5 [a0, .int x1] (.int x1 :: st) σ r := r_iload_n d116_4 rfl
theorem d116_5 : decode (mC 116) 5 = .ok (.if_icmp .eq 5, 3) := by decide +kernel
theorem x116_5 {sc : aSc} {d : Nat} {r : aRes} {L : List Value} {st : List Value} {σ : aS} {x y : Int32} : Rn sc d 116 5 L (.int y :: .int x :: st) σ r ↔ if x = y then Rn sc d 116 10 L st σ r else Rn sc d 116 8 L st σ r := r_icmp_eq d116_5 rfl
theorem d116_8 : decode (mC 116) 8 = .ok (.iconst 0, 1) := by decide +kernel
theorem x116_8 {sc : aSc} {d : Nat} {r : aRes} {L : List Value} {st : List Value} {σ : aS} : Rn sc d 116 8 L st σ r ↔ Rn sc d 116 9 L (.int 0 :: st) σ r := r_iconst d116_8 (by decide)
theorem d116_9 : decode (mC 116) 9 = .ok (.ireturn, 1) := by decide +kernel
theorem x116_9 {sc : aSc} {d : Nat} {r : aRes} {L : List Value} {σ : aS} {x : Int32} (hn : x &&& 1 = x) : Rn sc d 116 9 L [.int x] σ r ↔ r = (σ, some (.int x)) := r_iret d116_9 rfl (congrArg Value.int hn)
theorem d116_10 : decode (mC 116) 10 = .ok (.aload_n 0, 1) := by decide +kernel
theorem x116_10 {sc : aSc} {d : Nat} {r : aRes} {x0 : Nat} {a1 : Value} {st : List Value} {σ : aS} : Rn sc d 116 10 [.ref x0, a1] st σ r ↔ Rn sc d 116 11 [.ref x0, a1] (.ref x0 :: st) σ r := r_aload_n d116_10 rfl
theorem d116_11 : decode (mC 116) 11 = .ok (.dup, 1) := by decide +kernel
theorem x116_11 {sc : aSc} {d : Nat} {r : aRes} {L : List Value} {st : List Value} {σ : aS} {y : Nat} : Rn sc d 116 11 L (.ref y :: st) σ r ↔ Rn sc d 116 12 L (.ref y :: .ref y :: st) σ r := r_dup d116_11 rfl
theorem d116_12 : decode (mC 116) 12 = .ok (.getfield 53, 3) := by decide +kernel
theorem x116_12 {sc : aSc} {d : Nat} {r : aRes} {L : List Value} {st : List Value} {f : Nat → Nat → Int32} {g : Nat → Nat → Int64} {h1 h2 : Nat} {o : Nat} (h17 : 17 ≤ o) (hK : KK[o]? = some (.inl 7)) : Rn sc d 116 12 L (.ref o :: st) (cS f g h1 h2) r ↔ Rn sc d 116 15 L (.int (f o 14) :: st) (cS f g h1 h2) r := r_getI d116_12 (ci := 7) (k := 14) rfl (by decide) (fun _ => rfl) h17 hK
theorem d116_15 : decode (mC 116) 15 = .ok (.iconst 1, 1) := by decide +kernel
theorem x116_15 {sc : aSc} {d : Nat} {r : aRes} {L : List Value} {st : List Value} {σ : aS} : Rn sc d 116 15 L st σ r ↔ Rn sc d 116 16 L (.int 1 :: st) σ r := r_iconst d116_15 (by decide)
theorem d116_16 : decode (mC 116) 16 = .ok (.iadd, 1) := by decide +kernel
theorem x116_16 {sc : aSc} {d : Nat} {r : aRes} {L : List Value} {st : List Value} {σ : aS} {x y : Int32} : Rn sc d 116 16 L (.int y :: .int x :: st) σ r ↔ Rn sc d 116 17 L (.int (x + y) :: st) σ r := r_iadd d116_16
theorem d116_17 : decode (mC 116) 17 = .ok (.putfield 53, 3) := by decide +kernel
theorem x116_17 {sc : aSc} {d : Nat} {r : aRes} {L : List Value} {st : List Value} {f : Nat → Nat → Int32} {g : Nat → Nat → Int64} {h1 h2 : Nat} {o : Nat} {v : Int32} (h17 : 17 ≤ o) (hK : KK[o]? = some (.inl 7)) : Rn sc d 116 17 L (.int v :: .ref o :: st) (cS f g h1 h2) r ↔ Rn sc d 116 20 L st (cS (u2 f o 14 v) g h1 h2) r := r_putI d116_17 (ci := 7) (k := 14) rfl (by decide) h17 hK
theorem d116_20 : decode (mC 116) 20 = .ok (.iconst 1, 1) := by decide +kernel
theorem x116_20 {sc : aSc} {d : Nat} {r : aRes} {L : List Value} {st : List Value} {σ : aS} : Rn sc d 116 20 L st σ r ↔ Rn sc d 116 21 L (.int 1 :: st) σ r := r_iconst d116_20 (by decide)
theorem d116_21 : decode (mC 116) 21 = .ok (.ireturn, 1) := by decide +kernel
theorem x116_21 {sc : aSc} {d : Nat} {r : aRes} {L : List Value} {σ : aS} {x : Int32} (hn : x &&& 1 = x) : Rn sc d 116 21 L [.int x] σ r ↔ r = (σ, some (.int x)) := r_iret d116_21 rfl (congrArg Value.int hn)
theorem d117_0 : decode (mC 117) 0 = .ok (.iconst 0, 1) := by decide +kernel
theorem x117_0 {sc : aSc} {d : Nat} {r : aRes} {L : List Value} {st : List Value} {σ : aS} : Rn sc d 117 0 L st σ r ↔ Rn sc d 117 1 L (.int 0 :: st) σ r := r_iconst d117_0 (by decide)
theorem d117_1 : decode (mC 117) 1 = .ok (.istore_n 3, 1) := by decide +kernel
theorem x117_1 {sc : aSc} {d : Nat} {r : aRes} {a0 : Value} {a1 : Value} {x2 : Int32} {a3 : Value} {st : List Value} {σ : aS} {y : Int32} : Rn sc d 117 1 [a0, a1, .int x2, a3] (.int y :: st) σ r ↔ Rn sc d 117 2 [a0, a1, .int x2, .int y] st σ r := r_istore_n d117_1 (Nat.le_of_ble_eq_true rfl) rfl
theorem d117_2 : decode (mC 117) 2 = .ok (.iload_n 3, 1) := by decide +kernel
theorem x117_2 {sc : aSc} {d : Nat} {r : aRes} {a0 : Value} {a1 : Value} {a2 : Value} {x3 : Int32} {st : List Value} {σ : aS} : Rn sc d 117 2 [a0, a1, a2, .int x3] st σ r ↔ Rn sc d 117 3 [a0, a1, a2, .int x3] (.int x3 :: st) σ r := r_iload_n d117_2 rfl
theorem d117_3 : decode (mC 117) 3 = .ok (.iload_n 2, 1) := by decide +kernel
theorem x117_3 {sc : aSc} {d : Nat} {r : aRes} {a0 : Value} {a1 : Value} {x2 : Int32} {a3 : Value} {st : List Value} {σ : aS} : Rn sc d 117 3 [a0, a1, .int x2, a3] st σ r ↔ Rn sc d 117 4 [a0, a1, .int x2, a3] (.int x2 :: st) σ r := r_iload_n d117_3 rfl
theorem d117_4 : decode (mC 117) 4 = .ok (.if_icmp .ge 26, 3) := by decide +kernel
theorem x117_4 {sc : aSc} {d : Nat} {r : aRes} {L : List Value} {st : List Value} {σ : aS} {x y : Int32} : Rn sc d 117 4 L (.int y :: .int x :: st) σ r ↔ if x < y then Rn sc d 117 7 L st σ r else Rn sc d 117 30 L st σ r := r_icmp_ge d117_4 rfl
theorem d117_7 : decode (mC 117) 7 = .ok (.aload_n 0, 1) := by decide +kernel
theorem x117_7 {sc : aSc} {d : Nat} {r : aRes} {x0 : Nat} {a1 : Value} {a2 : Value} {a3 : Value} {st : List Value} {σ : aS} : Rn sc d 117 7 [.ref x0, a1, a2, a3] st σ r ↔ Rn sc d 117 8 [.ref x0, a1, a2, a3] (.ref x0 :: st) σ r := r_aload_n d117_7 rfl
theorem d117_8 : decode (mC 117) 8 = .ok (.aload_n 0, 1) := by decide +kernel
theorem x117_8 {sc : aSc} {d : Nat} {r : aRes} {x0 : Nat} {a1 : Value} {a2 : Value} {a3 : Value} {st : List Value} {σ : aS} : Rn sc d 117 8 [.ref x0, a1, a2, a3] st σ r ↔ Rn sc d 117 9 [.ref x0, a1, a2, a3] (.ref x0 :: st) σ r := r_aload_n d117_8 rfl
theorem d117_9 : decode (mC 117) 9 = .ok (.getfield 92, 3) := by decide +kernel
theorem x117_9 {sc : aSc} {d : Nat} {r : aRes} {L : List Value} {st : List Value} {f : Nat → Nat → Int32} {g : Nat → Nat → Int64} {h1 h2 : Nat} {o : Nat} (hK : KK[o]? = some (.inl 7)) (hR : (RR h1 h2 o 27).isSome = true) : Rn sc d 117 9 L (.ref o :: st) (cS f g h1 h2) r ↔ Rn sc d 117 12 L (.ref (rf h1 h2 o 27) :: st) (cS f g h1 h2) r := r_getR2 d117_9 (ci := 7) (k := 27) rfl (by decide) (fun _ => rfl) hK hR
theorem d117_12 : decode (mC 117) 12 = .ok (.iload_n 1, 1) := by decide +kernel
theorem x117_12 {sc : aSc} {d : Nat} {r : aRes} {a0 : Value} {x1 : Int32} {a2 : Value} {a3 : Value} {st : List Value} {σ : aS} : Rn sc d 117 12 [a0, .int x1, a2, a3] st σ r ↔ Rn sc d 117 13 [a0, .int x1, a2, a3] (.int x1 :: st) σ r := r_iload_n d117_12 rfl
theorem d117_13 : decode (mC 117) 13 = .ok (.iload_n 3, 1) := by decide +kernel
theorem x117_13 {sc : aSc} {d : Nat} {r : aRes} {a0 : Value} {a1 : Value} {a2 : Value} {x3 : Int32} {st : List Value} {σ : aS} : Rn sc d 117 13 [a0, a1, a2, .int x3] st σ r ↔ Rn sc d 117 14 [a0, a1, a2, .int x3] (.int x3 :: st) σ r := r_iload_n d117_13 rfl
theorem d117_14 : decode (mC 117) 14 = .ok (.iadd, 1) := by decide +kernel
theorem x117_14 {sc : aSc} {d : Nat} {r : aRes} {L : List Value} {st : List Value} {σ : aS} {x y : Int32} : Rn sc d 117 14 L (.int y :: .int x :: st) σ r ↔ Rn sc d 117 15 L (.int (x + y) :: st) σ r := r_iadd d117_14
theorem d117_15 : decode (mC 117) 15 = .ok (.iaload, 1) := by decide +kernel
theorem x117_15 {sc : aSc} {d : Nat} {r : aRes} {L : List Value} {st : List Value} {f : Nat → Nat → Int32} {g : Nat → Nat → Int64} {h1 h2 : Nat} {a : Nat} {i : Int32} (h17 : 17 ≤ a) (hA : isT9 .int a) (hi : inb i (aln a) = true) : Rn sc d 117 15 L (.int i :: .ref a :: st) (cS f g h1 h2) r ↔ Rn sc d 117 16 L (.int (f a i.toNatClampNeg) :: st) (cS f g h1 h2) r := r_iald d117_15 h17 hA hi
theorem d117_16 : decode (mC 117) 16 = .ok (.invokevirtual 239, 3) := by decide +kernel
theorem x117_16 {sc : aSc} {d : Nat} {r : aRes} {L : List Value} {f : Nat → Nat → Int32} {g : Nat → Nat → Int64} {h1 h2 : Nat} {y0 : Int32}  {o : Nat} (hK : KK[o]? = some (.inl 7)) : Rn sc d 117 16 L [.int y0, .ref o] (cS f g h1 h2) r ↔ ∃ (σ3 : aS) (v : Option Value), Cl sc d 116 [.ref o, .int y0] (cS f g h1 h2) (σ3, v) ∧ Rn sc d 117 19 L (v.toList ++ []) σ3 r := r_callV (vs := [.int y0]) d117_16 (j := 116) rfl ⟨rfl, by decide, rfl, rfl⟩ (Nat.le_of_ble_eq_true rfl) hK
theorem d117_19 : decode (mC 117) 19 = .ok (.ifCond .ne 5, 3) := by decide +kernel
theorem x117_19 {sc : aSc} {d : Nat} {r : aRes} {L : List Value} {st : List Value} {σ : aS} {x : Int32} : Rn sc d 117 19 L (.int x :: st) σ r ↔ if x = 0 then Rn sc d 117 22 L st σ r else Rn sc d 117 24 L st σ r := r_if_ne d117_19 rfl
theorem d117_22 : decode (mC 117) 22 = .ok (.iconst 0, 1) := by decide +kernel
theorem x117_22 {sc : aSc} {d : Nat} {r : aRes} {L : List Value} {st : List Value} {σ : aS} : Rn sc d 117 22 L st σ r ↔ Rn sc d 117 23 L (.int 0 :: st) σ r := r_iconst d117_22 (by decide)
theorem d117_23 : decode (mC 117) 23 = .ok (.ireturn, 1) := by decide +kernel
theorem x117_23 {sc : aSc} {d : Nat} {r : aRes} {L : List Value} {σ : aS} {x : Int32} (hn : x &&& 1 = x) : Rn sc d 117 23 L [.int x] σ r ↔ r = (σ, some (.int x)) := r_iret d117_23 rfl (congrArg Value.int hn)
theorem d117_24 : decode (mC 117) 24 = .ok (.iinc 3 1, 3) := by decide +kernel
theorem x117_24 {sc : aSc} {d : Nat} {r : aRes} {a0 : Value} {a1 : Value} {x2 : Int32} {x3 : Int32} {st : List Value} {σ : aS} : Rn sc d 117 24 [a0, a1, .int x2, .int x3] st σ r ↔ Rn sc d 117 27 [a0, a1, .int x2, .int (x3 + 1)] st σ r := r_iinc d117_24 (Nat.le_of_ble_eq_true rfl) rfl rfl (by decide)
theorem d117_27 : decode (mC 117) 27 = .ok (.goto (-25), 3) := by decide +kernel
theorem x117_27 {sc : aSc} {d : Nat} {r : aRes} {L : List Value} {st : List Value} {σ : aS} : Rn sc d 117 27 L st σ r ↔ Rn sc d 117 2 L st σ r := r_goto d117_27 rfl
theorem d117_30 : decode (mC 117) 30 = .ok (.aload_n 0, 1) := by decide +kernel
theorem x117_30 {sc : aSc} {d : Nat} {r : aRes} {x0 : Nat} {a1 : Value} {a2 : Value} {a3 : Value} {st : List Value} {σ : aS} : Rn sc d 117 30 [.ref x0, a1, a2, a3] st σ r ↔ Rn sc d 117 31 [.ref x0, a1, a2, a3] (.ref x0 :: st) σ r := r_aload_n d117_30 rfl
theorem d117_31 : decode (mC 117) 31 = .ok (.bipush 32, 2) := by decide +kernel
theorem x117_31 {sc : aSc} {d : Nat} {r : aRes} {L : List Value} {st : List Value} {σ : aS} : Rn sc d 117 31 L st σ r ↔ Rn sc d 117 33 L (.int 32 :: st) σ r := r_bipush d117_31 (by decide)
theorem d117_33 : decode (mC 117) 33 = .ok (.invokevirtual 239, 3) := by decide +kernel
theorem x117_33 {sc : aSc} {d : Nat} {r : aRes} {L : List Value} {f : Nat → Nat → Int32} {g : Nat → Nat → Int64} {h1 h2 : Nat} {y0 : Int32}  {o : Nat} (hK : KK[o]? = some (.inl 7)) : Rn sc d 117 33 L [.int y0, .ref o] (cS f g h1 h2) r ↔ ∃ (σ3 : aS) (v : Option Value), Cl sc d 116 [.ref o, .int y0] (cS f g h1 h2) (σ3, v) ∧ Rn sc d 117 36 L (v.toList ++ []) σ3 r := r_callV (vs := [.int y0]) d117_33 (j := 116) rfl ⟨rfl, by decide, rfl, rfl⟩ (Nat.le_of_ble_eq_true rfl) hK
theorem d117_36 : decode (mC 117) 36 = .ok (.ireturn, 1) := by decide +kernel
theorem x117_36 {sc : aSc} {d : Nat} {r : aRes} {L : List Value} {σ : aS} {x : Int32} (hn : x &&& 1 = x) : Rn sc d 117 36 L [.int x] σ r ↔ r = (σ, some (.int x)) := r_iret d117_36 rfl (congrArg Value.int hn)
theorem d118_0 : decode (mC 118) 0 = .ok (.aload_n 0, 1) := by decide +kernel
theorem x118_0 {sc : aSc} {d : Nat} {r : aRes} {x0 : Nat} {st : List Value} {σ : aS} : Rn sc d 118 0 [.ref x0] st σ r ↔ Rn sc d 118 1 [.ref x0] (.ref x0 :: st) σ r := r_aload_n d118_0 rfl
theorem d118_1 : decode (mC 118) 1 = .ok (.aload_n 0, 1) := by decide +kernel
theorem x118_1 {sc : aSc} {d : Nat} {r : aRes} {x0 : Nat} {st : List Value} {σ : aS} : Rn sc d 118 1 [.ref x0] st σ r ↔ Rn sc d 118 2 [.ref x0] (.ref x0 :: st) σ r := r_aload_n d118_1 rfl
theorem d118_2 : decode (mC 118) 2 = .ok (.invokevirtual 235, 3) := by decide +kernel
theorem x118_2 {sc : aSc} {d : Nat} {r : aRes} {L : List Value} {f : Nat → Nat → Int32} {g : Nat → Nat → Int64} {h1 h2 : Nat}  {z0 : Nat} {o : Nat} (hK : KK[o]? = some (.inl 7)) : Rn sc d 118 2 L [.ref o, .ref z0] (cS f g h1 h2) r ↔ ∃ (σ3 : aS) (v : Option Value), Cl sc d 114 [.ref o] (cS f g h1 h2) (σ3, v) ∧ Rn sc d 118 5 L (v.toList ++ [.ref z0]) σ3 r := r_callV (vs := []) d118_2 (j := 114) rfl ⟨rfl, by decide, rfl, rfl⟩ (Nat.le_of_ble_eq_true rfl) hK
theorem d118_5 : decode (mC 118) 5 = .ok (.bipush 48, 2) := by decide +kernel
theorem x118_5 {sc : aSc} {d : Nat} {r : aRes} {L : List Value} {st : List Value} {σ : aS} : Rn sc d 118 5 L st σ r ↔ Rn sc d 118 7 L (.int 48 :: st) σ r := r_bipush d118_5 (by decide)
theorem d118_7 : decode (mC 118) 7 = .ok (.bipush 57, 2) := by decide +kernel
theorem x118_7 {sc : aSc} {d : Nat} {r : aRes} {L : List Value} {st : List Value} {σ : aS} : Rn sc d 118 7 L st σ r ↔ Rn sc d 118 9 L (.int 57 :: st) σ r := r_bipush d118_7 (by decide)
theorem d118_9 : decode (mC 118) 9 = .ok (.invokevirtual 227, 3) := by decide +kernel
theorem x118_9 {sc : aSc} {d : Nat} {r : aRes} {L : List Value} {f : Nat → Nat → Int32} {g : Nat → Nat → Int64} {h1 h2 : Nat} {y0 : Int32} {y1 : Int32} {y2 : Int32}  {o : Nat} (hK : KK[o]? = some (.inl 7)) : Rn sc d 118 9 L [.int y0, .int y1, .int y2, .ref o] (cS f g h1 h2) r ↔ ∃ (σ3 : aS) (v : Option Value), Cl sc d 108 [.ref o, .int y2, .int y1, .int y0] (cS f g h1 h2) (σ3, v) ∧ Rn sc d 118 12 L (v.toList ++ []) σ3 r := r_callV (vs := [.int y0, .int y1, .int y2]) d118_9 (j := 108) rfl ⟨rfl, by decide, rfl, rfl⟩ (Nat.le_of_ble_eq_true rfl) hK
theorem d118_12 : decode (mC 118) 12 = .ok (.ireturn, 1) := by decide +kernel
theorem x118_12 {sc : aSc} {d : Nat} {r : aRes} {L : List Value} {σ : aS} {x : Int32} (hn : x &&& 1 = x) : Rn sc d 118 12 L [.int x] σ r ↔ r = (σ, some (.int x)) := r_iret d118_12 rfl (congrArg Value.int hn)
theorem d119_0 : decode (mC 119) 0 = .ok (.aload_n 0, 1) := by decide +kernel
theorem x119_0 {sc : aSc} {d : Nat} {r : aRes} {x0 : Nat} {a1 : Value} {st : List Value} {σ : aS} : Rn sc d 119 0 [.ref x0, a1] st σ r ↔ Rn sc d 119 1 [.ref x0, a1] (.ref x0 :: st) σ r := r_aload_n d119_0 rfl
theorem d119_1 : decode (mC 119) 1 = .ok (.invokevirtual 242, 3) := by decide +kernel
theorem x119_1 {sc : aSc} {d : Nat} {r : aRes} {L : List Value} {f : Nat → Nat → Int32} {g : Nat → Nat → Int64} {h1 h2 : Nat}   {o : Nat} (hK : KK[o]? = some (.inl 7)) : Rn sc d 119 1 L [.ref o] (cS f g h1 h2) r ↔ ∃ (σ3 : aS) (v : Option Value), Cl sc d 118 [.ref o] (cS f g h1 h2) (σ3, v) ∧ Rn sc d 119 4 L (v.toList ++ []) σ3 r := r_callV (vs := []) d119_1 (j := 118) rfl ⟨rfl, by decide, rfl, rfl⟩ (Nat.le_of_ble_eq_true rfl) hK
theorem d119_4 : decode (mC 119) 4 = .ok (.ifCond .ne 5, 3) := by decide +kernel
theorem x119_4 {sc : aSc} {d : Nat} {r : aRes} {L : List Value} {st : List Value} {σ : aS} {x : Int32} : Rn sc d 119 4 L (.int x :: st) σ r ↔ if x = 0 then Rn sc d 119 7 L st σ r else Rn sc d 119 9 L st σ r := r_if_ne d119_4 rfl
theorem d119_7 : decode (mC 119) 7 = .ok (.iconst 0, 1) := by decide +kernel
theorem x119_7 {sc : aSc} {d : Nat} {r : aRes} {L : List Value} {st : List Value} {σ : aS} : Rn sc d 119 7 L st σ r ↔ Rn sc d 119 8 L (.int 0 :: st) σ r := r_iconst d119_7 (by decide)
theorem d119_8 : decode (mC 119) 8 = .ok (.ireturn, 1) := by decide +kernel
theorem x119_8 {sc : aSc} {d : Nat} {r : aRes} {L : List Value} {σ : aS} {x : Int32} (hn : x &&& 1 = x) : Rn sc d 119 8 L [.int x] σ r ↔ r = (σ, some (.int x)) := r_iret d119_8 rfl (congrArg Value.int hn)
theorem d119_9 : decode (mC 119) 9 = .ok (.aload_n 0, 1) := by decide +kernel
theorem x119_9 {sc : aSc} {d : Nat} {r : aRes} {x0 : Nat} {a1 : Value} {st : List Value} {σ : aS} : Rn sc d 119 9 [.ref x0, a1] st σ r ↔ Rn sc d 119 10 [.ref x0, a1] (.ref x0 :: st) σ r := r_aload_n d119_9 rfl
theorem d119_10 : decode (mC 119) 10 = .ok (.iconst 0, 1) := by decide +kernel
theorem x119_10 {sc : aSc} {d : Nat} {r : aRes} {L : List Value} {st : List Value} {σ : aS} : Rn sc d 119 10 L st σ r ↔ Rn sc d 119 11 L (.int 0 :: st) σ r := r_iconst d119_10 (by decide)
theorem d119_11 : decode (mC 119) 11 = .ok (.putfield 56, 3) := by decide +kernel
theorem x119_11 {sc : aSc} {d : Nat} {r : aRes} {L : List Value} {st : List Value} {f : Nat → Nat → Int32} {g : Nat → Nat → Int64} {h1 h2 : Nat} {o : Nat} {v : Int32} (h17 : 17 ≤ o) (hK : KK[o]? = some (.inl 7)) : Rn sc d 119 11 L (.int v :: .ref o :: st) (cS f g h1 h2) r ↔ Rn sc d 119 14 L st (cS (u2 f o 15 v) g h1 h2) r := r_putI d119_11 (ci := 7) (k := 15) rfl (by decide) h17 hK
theorem d119_14 : decode (mC 119) 14 = .ok (.iconst 0, 1) := by decide +kernel
theorem x119_14 {sc : aSc} {d : Nat} {r : aRes} {L : List Value} {st : List Value} {σ : aS} : Rn sc d 119 14 L st σ r ↔ Rn sc d 119 15 L (.int 0 :: st) σ r := r_iconst d119_14 (by decide)
theorem d119_15 : decode (mC 119) 15 = .ok (.istore_n 1, 1) := by decide +kernel
theorem x119_15 {sc : aSc} {d : Nat} {r : aRes} {x0 : Nat} {a1 : Value} {st : List Value} {σ : aS} {y : Int32} : Rn sc d 119 15 [.ref x0, a1] (.int y :: st) σ r ↔ Rn sc d 119 16 [.ref x0, .int y] st σ r := r_istore_n d119_15 (Nat.le_of_ble_eq_true rfl) rfl
theorem d119_16 : decode (mC 119) 16 = .ok (.iload_n 1, 1) := by decide +kernel
theorem x119_16 {sc : aSc} {d : Nat} {r : aRes} {a0 : Value} {x1 : Int32} {st : List Value} {σ : aS} : Rn sc d 119 16 [a0, .int x1] st σ r ↔ Rn sc d 119 17 [a0, .int x1] (.int x1 :: st) σ r := r_iload_n d119_16 rfl
theorem d119_17 : decode (mC 119) 17 = .ok (.iconst 2, 1) := by decide +kernel
theorem x119_17 {sc : aSc} {d : Nat} {r : aRes} {L : List Value} {st : List Value} {σ : aS} : Rn sc d 119 17 L st σ r ↔ Rn sc d 119 18 L (.int 2 :: st) σ r := r_iconst d119_17 (by decide)
theorem d119_18 : decode (mC 119) 18 = .ok (.if_icmp .ge 45, 3) := by decide +kernel
theorem x119_18 {sc : aSc} {d : Nat} {r : aRes} {L : List Value} {st : List Value} {σ : aS} {x y : Int32} : Rn sc d 119 18 L (.int y :: .int x :: st) σ r ↔ if x < y then Rn sc d 119 21 L st σ r else Rn sc d 119 63 L st σ r := r_icmp_ge d119_18 rfl
theorem d119_21 : decode (mC 119) 21 = .ok (.aload_n 0, 1) := by decide +kernel
theorem x119_21 {sc : aSc} {d : Nat} {r : aRes} {x0 : Nat} {a1 : Value} {st : List Value} {σ : aS} : Rn sc d 119 21 [.ref x0, a1] st σ r ↔ Rn sc d 119 22 [.ref x0, a1] (.ref x0 :: st) σ r := r_aload_n d119_21 rfl
theorem d119_22 : decode (mC 119) 22 = .ok (.invokevirtual 242, 3) := by decide +kernel
theorem x119_22 {sc : aSc} {d : Nat} {r : aRes} {L : List Value} {f : Nat → Nat → Int32} {g : Nat → Nat → Int64} {h1 h2 : Nat}   {o : Nat} (hK : KK[o]? = some (.inl 7)) : Rn sc d 119 22 L [.ref o] (cS f g h1 h2) r ↔ ∃ (σ3 : aS) (v : Option Value), Cl sc d 118 [.ref o] (cS f g h1 h2) (σ3, v) ∧ Rn sc d 119 25 L (v.toList ++ []) σ3 r := r_callV (vs := []) d119_22 (j := 118) rfl ⟨rfl, by decide, rfl, rfl⟩ (Nat.le_of_ble_eq_true rfl) hK
theorem d119_25 : decode (mC 119) 25 = .ok (.ifCond .eq 38, 3) := by decide +kernel
theorem x119_25 {sc : aSc} {d : Nat} {r : aRes} {L : List Value} {st : List Value} {σ : aS} {x : Int32} : Rn sc d 119 25 L (.int x :: st) σ r ↔ if x = 0 then Rn sc d 119 63 L st σ r else Rn sc d 119 28 L st σ r := r_if_eq d119_25 rfl
theorem d119_28 : decode (mC 119) 28 = .ok (.aload_n 0, 1) := by decide +kernel
theorem x119_28 {sc : aSc} {d : Nat} {r : aRes} {x0 : Nat} {a1 : Value} {st : List Value} {σ : aS} : Rn sc d 119 28 [.ref x0, a1] st σ r ↔ Rn sc d 119 29 [.ref x0, a1] (.ref x0 :: st) σ r := r_aload_n d119_28 rfl
theorem d119_29 : decode (mC 119) 29 = .ok (.bipush 10, 2) := by decide +kernel
theorem x119_29 {sc : aSc} {d : Nat} {r : aRes} {L : List Value} {st : List Value} {σ : aS} : Rn sc d 119 29 L st σ r ↔ Rn sc d 119 31 L (.int 10 :: st) σ r := r_bipush d119_29 (by decide)
theorem d119_31 : decode (mC 119) 31 = .ok (.aload_n 0, 1) := by decide +kernel
theorem x119_31 {sc : aSc} {d : Nat} {r : aRes} {x0 : Nat} {a1 : Value} {st : List Value} {σ : aS} : Rn sc d 119 31 [.ref x0, a1] st σ r ↔ Rn sc d 119 32 [.ref x0, a1] (.ref x0 :: st) σ r := r_aload_n d119_31 rfl
theorem d119_32 : decode (mC 119) 32 = .ok (.getfield 56, 3) := by decide +kernel
theorem x119_32 {sc : aSc} {d : Nat} {r : aRes} {L : List Value} {st : List Value} {f : Nat → Nat → Int32} {g : Nat → Nat → Int64} {h1 h2 : Nat} {o : Nat} (h17 : 17 ≤ o) (hK : KK[o]? = some (.inl 7)) : Rn sc d 119 32 L (.ref o :: st) (cS f g h1 h2) r ↔ Rn sc d 119 35 L (.int (f o 15) :: st) (cS f g h1 h2) r := r_getI d119_32 (ci := 7) (k := 15) rfl (by decide) (fun _ => rfl) h17 hK
theorem d119_35 : decode (mC 119) 35 = .ok (.imul, 1) := by decide +kernel
theorem x119_35 {sc : aSc} {d : Nat} {r : aRes} {L : List Value} {st : List Value} {σ : aS} {x y : Int32} : Rn sc d 119 35 L (.int y :: .int x :: st) σ r ↔ Rn sc d 119 36 L (.int (x * y) :: st) σ r := r_imul d119_35
theorem d119_36 : decode (mC 119) 36 = .ok (.aload_n 0, 1) := by decide +kernel
theorem x119_36 {sc : aSc} {d : Nat} {r : aRes} {x0 : Nat} {a1 : Value} {st : List Value} {σ : aS} : Rn sc d 119 36 [.ref x0, a1] st σ r ↔ Rn sc d 119 37 [.ref x0, a1] (.ref x0 :: st) σ r := r_aload_n d119_36 rfl
theorem d119_37 : decode (mC 119) 37 = .ok (.invokevirtual 235, 3) := by decide +kernel
theorem x119_37 {sc : aSc} {d : Nat} {r : aRes} {L : List Value} {f : Nat → Nat → Int32} {g : Nat → Nat → Int64} {h1 h2 : Nat}  {z0 : Int32} {z1 : Nat} {o : Nat} (hK : KK[o]? = some (.inl 7)) : Rn sc d 119 37 L [.ref o, .int z0, .ref z1] (cS f g h1 h2) r ↔ ∃ (σ3 : aS) (v : Option Value), Cl sc d 114 [.ref o] (cS f g h1 h2) (σ3, v) ∧ Rn sc d 119 40 L (v.toList ++ [.int z0, .ref z1]) σ3 r := r_callV (vs := []) d119_37 (j := 114) rfl ⟨rfl, by decide, rfl, rfl⟩ (Nat.le_of_ble_eq_true rfl) hK
theorem d119_40 : decode (mC 119) 40 = .ok (.iadd, 1) := by decide +kernel
theorem x119_40 {sc : aSc} {d : Nat} {r : aRes} {L : List Value} {st : List Value} {σ : aS} {x y : Int32} : Rn sc d 119 40 L (.int y :: .int x :: st) σ r ↔ Rn sc d 119 41 L (.int (x + y) :: st) σ r := r_iadd d119_40
theorem d119_41 : decode (mC 119) 41 = .ok (.bipush 48, 2) := by decide +kernel
theorem x119_41 {sc : aSc} {d : Nat} {r : aRes} {L : List Value} {st : List Value} {σ : aS} : Rn sc d 119 41 L st σ r ↔ Rn sc d 119 43 L (.int 48 :: st) σ r := r_bipush d119_41 (by decide)
theorem d119_43 : decode (mC 119) 43 = .ok (.isub, 1) := by decide +kernel
theorem x119_43 {sc : aSc} {d : Nat} {r : aRes} {L : List Value} {st : List Value} {σ : aS} {x y : Int32} : Rn sc d 119 43 L (.int y :: .int x :: st) σ r ↔ Rn sc d 119 44 L (.int (x - y) :: st) σ r := r_isub d119_43
theorem d119_44 : decode (mC 119) 44 = .ok (.putfield 56, 3) := by decide +kernel
theorem x119_44 {sc : aSc} {d : Nat} {r : aRes} {L : List Value} {st : List Value} {f : Nat → Nat → Int32} {g : Nat → Nat → Int64} {h1 h2 : Nat} {o : Nat} {v : Int32} (h17 : 17 ≤ o) (hK : KK[o]? = some (.inl 7)) : Rn sc d 119 44 L (.int v :: .ref o :: st) (cS f g h1 h2) r ↔ Rn sc d 119 47 L st (cS (u2 f o 15 v) g h1 h2) r := r_putI d119_44 (ci := 7) (k := 15) rfl (by decide) h17 hK
theorem d119_47 : decode (mC 119) 47 = .ok (.aload_n 0, 1) := by decide +kernel
theorem x119_47 {sc : aSc} {d : Nat} {r : aRes} {x0 : Nat} {a1 : Value} {st : List Value} {σ : aS} : Rn sc d 119 47 [.ref x0, a1] st σ r ↔ Rn sc d 119 48 [.ref x0, a1] (.ref x0 :: st) σ r := r_aload_n d119_47 rfl
theorem d119_48 : decode (mC 119) 48 = .ok (.dup, 1) := by decide +kernel
theorem x119_48 {sc : aSc} {d : Nat} {r : aRes} {L : List Value} {st : List Value} {σ : aS} {y : Nat} : Rn sc d 119 48 L (.ref y :: st) σ r ↔ Rn sc d 119 49 L (.ref y :: .ref y :: st) σ r := r_dup d119_48 rfl
theorem d119_49 : decode (mC 119) 49 = .ok (.getfield 53, 3) := by decide +kernel
theorem x119_49 {sc : aSc} {d : Nat} {r : aRes} {L : List Value} {st : List Value} {f : Nat → Nat → Int32} {g : Nat → Nat → Int64} {h1 h2 : Nat} {o : Nat} (h17 : 17 ≤ o) (hK : KK[o]? = some (.inl 7)) : Rn sc d 119 49 L (.ref o :: st) (cS f g h1 h2) r ↔ Rn sc d 119 52 L (.int (f o 14) :: st) (cS f g h1 h2) r := r_getI d119_49 (ci := 7) (k := 14) rfl (by decide) (fun _ => rfl) h17 hK
theorem d119_52 : decode (mC 119) 52 = .ok (.iconst 1, 1) := by decide +kernel
theorem x119_52 {sc : aSc} {d : Nat} {r : aRes} {L : List Value} {st : List Value} {σ : aS} : Rn sc d 119 52 L st σ r ↔ Rn sc d 119 53 L (.int 1 :: st) σ r := r_iconst d119_52 (by decide)
theorem d119_53 : decode (mC 119) 53 = .ok (.iadd, 1) := by decide +kernel
theorem x119_53 {sc : aSc} {d : Nat} {r : aRes} {L : List Value} {st : List Value} {σ : aS} {x y : Int32} : Rn sc d 119 53 L (.int y :: .int x :: st) σ r ↔ Rn sc d 119 54 L (.int (x + y) :: st) σ r := r_iadd d119_53
theorem d119_54 : decode (mC 119) 54 = .ok (.putfield 53, 3) := by decide +kernel
theorem x119_54 {sc : aSc} {d : Nat} {r : aRes} {L : List Value} {st : List Value} {f : Nat → Nat → Int32} {g : Nat → Nat → Int64} {h1 h2 : Nat} {o : Nat} {v : Int32} (h17 : 17 ≤ o) (hK : KK[o]? = some (.inl 7)) : Rn sc d 119 54 L (.int v :: .ref o :: st) (cS f g h1 h2) r ↔ Rn sc d 119 57 L st (cS (u2 f o 14 v) g h1 h2) r := r_putI d119_54 (ci := 7) (k := 14) rfl (by decide) h17 hK
theorem d119_57 : decode (mC 119) 57 = .ok (.iinc 1 1, 3) := by decide +kernel
theorem x119_57 {sc : aSc} {d : Nat} {r : aRes} {x0 : Nat} {x1 : Int32} {st : List Value} {σ : aS} : Rn sc d 119 57 [.ref x0, .int x1] st σ r ↔ Rn sc d 119 60 [.ref x0, .int (x1 + 1)] st σ r := r_iinc d119_57 (Nat.le_of_ble_eq_true rfl) rfl rfl (by decide)
theorem d119_60 : decode (mC 119) 60 = .ok (.goto (-44), 3) := by decide +kernel
theorem x119_60 {sc : aSc} {d : Nat} {r : aRes} {L : List Value} {st : List Value} {σ : aS} : Rn sc d 119 60 L st σ r ↔ Rn sc d 119 16 L st σ r := r_goto d119_60 rfl
theorem d119_63 : decode (mC 119) 63 = .ok (.iconst 1, 1) := by decide +kernel
theorem x119_63 {sc : aSc} {d : Nat} {r : aRes} {L : List Value} {st : List Value} {σ : aS} : Rn sc d 119 63 L st σ r ↔ Rn sc d 119 64 L (.int 1 :: st) σ r := r_iconst d119_63 (by decide)
theorem d119_64 : decode (mC 119) 64 = .ok (.ireturn, 1) := by decide +kernel
theorem x119_64 {sc : aSc} {d : Nat} {r : aRes} {L : List Value} {σ : aS} {x : Int32} (hn : x &&& 1 = x) : Rn sc d 119 64 L [.int x] σ r ↔ r = (σ, some (.int x)) := r_iret d119_64 rfl (congrArg Value.int hn)
theorem d120_0 : decode (mC 120) 0 = .ok (.aload_n 0, 1) := by decide +kernel
theorem x120_0 {sc : aSc} {d : Nat} {r : aRes} {x0 : Nat} {a1 : Value} {st : List Value} {σ : aS} : Rn sc d 120 0 [.ref x0, a1] st σ r ↔ Rn sc d 120 1 [.ref x0, a1] (.ref x0 :: st) σ r := r_aload_n d120_0 rfl
theorem d120_1 : decode (mC 120) 1 = .ok (.getfield 77, 3) := by decide +kernel
theorem x120_1 {sc : aSc} {d : Nat} {r : aRes} {L : List Value} {st : List Value} {f : Nat → Nat → Int32} {g : Nat → Nat → Int64} {h1 h2 : Nat} {o : Nat} (hK : KK[o]? = some (.inl 7)) (hR : (RR h1 h2 o 22).isSome = true) : Rn sc d 120 1 L (.ref o :: st) (cS f g h1 h2) r ↔ Rn sc d 120 4 L (.ref (rf h1 h2 o 22) :: st) (cS f g h1 h2) r := r_getR2 d120_1 (ci := 7) (k := 22) rfl (by decide) (fun _ => rfl) hK hR
theorem d120_4 : decode (mC 120) 4 = .ok (.aload_n 0, 1) := by decide +kernel
theorem x120_4 {sc : aSc} {d : Nat} {r : aRes} {x0 : Nat} {a1 : Value} {st : List Value} {σ : aS} : Rn sc d 120 4 [.ref x0, a1] st σ r ↔ Rn sc d 120 5 [.ref x0, a1] (.ref x0 :: st) σ r := r_aload_n d120_4 rfl
theorem d120_5 : decode (mC 120) 5 = .ok (.getfield 83, 3) := by decide +kernel
theorem x120_5 {sc : aSc} {d : Nat} {r : aRes} {L : List Value} {st : List Value} {f : Nat → Nat → Int32} {g : Nat → Nat → Int64} {h1 h2 : Nat} {o : Nat} (h17 : 17 ≤ o) (hK : KK[o]? = some (.inl 7)) : Rn sc d 120 5 L (.ref o :: st) (cS f g h1 h2) r ↔ Rn sc d 120 8 L (.int (f o 24) :: st) (cS f g h1 h2) r := r_getI d120_5 (ci := 7) (k := 24) rfl (by decide) (fun _ => rfl) h17 hK
theorem d120_8 : decode (mC 120) 8 = .ok (.iload_n 1, 1) := by decide +kernel
theorem x120_8 {sc : aSc} {d : Nat} {r : aRes} {a0 : Value} {x1 : Int32} {st : List Value} {σ : aS} : Rn sc d 120 8 [a0, .int x1] st σ r ↔ Rn sc d 120 9 [a0, .int x1] (.int x1 :: st) σ r := r_iload_n d120_8 rfl
theorem d120_9 : decode (mC 120) 9 = .ok (.iastore, 1) := by decide +kernel
theorem x120_9 {sc : aSc} {d : Nat} {r : aRes} {L : List Value} {st : List Value} {f : Nat → Nat → Int32} {g : Nat → Nat → Int64} {h1 h2 : Nat} {a : Nat} {i : Int32} {x : Int32} (h17 : 17 ≤ a) (hA : isT9 .int a) (hi : inb i (aln a) = true) : Rn sc d 120 9 L (.int x :: .int i :: .ref a :: st) (cS f g h1 h2) r ↔ Rn sc d 120 10 L st (cS (u2 f a i.toNatClampNeg x) g h1 h2) r := r_iast d120_9 h17 hA hi
theorem d120_10 : decode (mC 120) 10 = .ok (.aload_n 0, 1) := by decide +kernel
theorem x120_10 {sc : aSc} {d : Nat} {r : aRes} {x0 : Nat} {a1 : Value} {st : List Value} {σ : aS} : Rn sc d 120 10 [.ref x0, a1] st σ r ↔ Rn sc d 120 11 [.ref x0, a1] (.ref x0 :: st) σ r := r_aload_n d120_10 rfl
theorem d120_11 : decode (mC 120) 11 = .ok (.dup, 1) := by decide +kernel
theorem x120_11 {sc : aSc} {d : Nat} {r : aRes} {L : List Value} {st : List Value} {σ : aS} {y : Nat} : Rn sc d 120 11 L (.ref y :: st) σ r ↔ Rn sc d 120 12 L (.ref y :: .ref y :: st) σ r := r_dup d120_11 rfl
theorem d120_12 : decode (mC 120) 12 = .ok (.getfield 83, 3) := by decide +kernel
theorem x120_12 {sc : aSc} {d : Nat} {r : aRes} {L : List Value} {st : List Value} {f : Nat → Nat → Int32} {g : Nat → Nat → Int64} {h1 h2 : Nat} {o : Nat} (h17 : 17 ≤ o) (hK : KK[o]? = some (.inl 7)) : Rn sc d 120 12 L (.ref o :: st) (cS f g h1 h2) r ↔ Rn sc d 120 15 L (.int (f o 24) :: st) (cS f g h1 h2) r := r_getI d120_12 (ci := 7) (k := 24) rfl (by decide) (fun _ => rfl) h17 hK
theorem d120_15 : decode (mC 120) 15 = .ok (.iconst 1, 1) := by decide +kernel
theorem x120_15 {sc : aSc} {d : Nat} {r : aRes} {L : List Value} {st : List Value} {σ : aS} : Rn sc d 120 15 L st σ r ↔ Rn sc d 120 16 L (.int 1 :: st) σ r := r_iconst d120_15 (by decide)
theorem d120_16 : decode (mC 120) 16 = .ok (.iadd, 1) := by decide +kernel
theorem x120_16 {sc : aSc} {d : Nat} {r : aRes} {L : List Value} {st : List Value} {σ : aS} {x y : Int32} : Rn sc d 120 16 L (.int y :: .int x :: st) σ r ↔ Rn sc d 120 17 L (.int (x + y) :: st) σ r := r_iadd d120_16
theorem d120_17 : decode (mC 120) 17 = .ok (.putfield 83, 3) := by decide +kernel
theorem x120_17 {sc : aSc} {d : Nat} {r : aRes} {L : List Value} {st : List Value} {f : Nat → Nat → Int32} {g : Nat → Nat → Int64} {h1 h2 : Nat} {o : Nat} {v : Int32} (h17 : 17 ≤ o) (hK : KK[o]? = some (.inl 7)) : Rn sc d 120 17 L (.int v :: .ref o :: st) (cS f g h1 h2) r ↔ Rn sc d 120 20 L st (cS (u2 f o 24 v) g h1 h2) r := r_putI d120_17 (ci := 7) (k := 24) rfl (by decide) h17 hK
theorem d120_20 : decode (mC 120) 20 = .ok (.return_, 1) := by decide +kernel
theorem x120_20 {sc : aSc} {d : Nat} {r : aRes} {L : List Value} {σ : aS} : Rn sc d 120 20 L [] σ r ↔ r = (σ, none) := r_vret d120_20 rfl
theorem d121_0 : decode (mC 121) 0 = .ok (.aload_n 0, 1) := by decide +kernel
theorem x121_0 {sc : aSc} {d : Nat} {r : aRes} {x0 : Nat} {st : List Value} {σ : aS} : Rn sc d 121 0 [.ref x0] st σ r ↔ Rn sc d 121 1 [.ref x0] (.ref x0 :: st) σ r := r_aload_n d121_0 rfl
theorem d121_1 : decode (mC 121) 1 = .ok (.getfield 86, 3) := by decide +kernel
theorem x121_1 {sc : aSc} {d : Nat} {r : aRes} {L : List Value} {st : List Value} {f : Nat → Nat → Int32} {g : Nat → Nat → Int64} {h1 h2 : Nat} {o : Nat} (h17 : 17 ≤ o) (hK : KK[o]? = some (.inl 7)) : Rn sc d 121 1 L (.ref o :: st) (cS f g h1 h2) r ↔ Rn sc d 121 4 L (.int (f o 25) :: st) (cS f g h1 h2) r := r_getI d121_1 (ci := 7) (k := 25) rfl (by decide) (fun _ => rfl) h17 hK
theorem d121_4 : decode (mC 121) 4 = .ok (.ifCond .le 48, 3) := by decide +kernel
theorem x121_4 {sc : aSc} {d : Nat} {r : aRes} {L : List Value} {st : List Value} {σ : aS} {x : Int32} : Rn sc d 121 4 L (.int x :: st) σ r ↔ if 0 < x then Rn sc d 121 7 L st σ r else Rn sc d 121 52 L st σ r := r_if_le d121_4 rfl
theorem d121_7 : decode (mC 121) 7 = .ok (.aload_n 0, 1) := by decide +kernel
theorem x121_7 {sc : aSc} {d : Nat} {r : aRes} {x0 : Nat} {st : List Value} {σ : aS} : Rn sc d 121 7 [.ref x0] st σ r ↔ Rn sc d 121 8 [.ref x0] (.ref x0 :: st) σ r := r_aload_n d121_7 rfl
theorem d121_8 : decode (mC 121) 8 = .ok (.getfield 80, 3) := by decide +kernel
theorem x121_8 {sc : aSc} {d : Nat} {r : aRes} {L : List Value} {st : List Value} {f : Nat → Nat → Int32} {g : Nat → Nat → Int64} {h1 h2 : Nat} {o : Nat} (hK : KK[o]? = some (.inl 7)) (hR : (RR h1 h2 o 23).isSome = true) : Rn sc d 121 8 L (.ref o :: st) (cS f g h1 h2) r ↔ Rn sc d 121 11 L (.ref (rf h1 h2 o 23) :: st) (cS f g h1 h2) r := r_getR2 d121_8 (ci := 7) (k := 23) rfl (by decide) (fun _ => rfl) hK hR
theorem d121_11 : decode (mC 121) 11 = .ok (.aload_n 0, 1) := by decide +kernel
theorem x121_11 {sc : aSc} {d : Nat} {r : aRes} {x0 : Nat} {st : List Value} {σ : aS} : Rn sc d 121 11 [.ref x0] st σ r ↔ Rn sc d 121 12 [.ref x0] (.ref x0 :: st) σ r := r_aload_n d121_11 rfl
theorem d121_12 : decode (mC 121) 12 = .ok (.getfield 86, 3) := by decide +kernel
theorem x121_12 {sc : aSc} {d : Nat} {r : aRes} {L : List Value} {st : List Value} {f : Nat → Nat → Int32} {g : Nat → Nat → Int64} {h1 h2 : Nat} {o : Nat} (h17 : 17 ≤ o) (hK : KK[o]? = some (.inl 7)) : Rn sc d 121 12 L (.ref o :: st) (cS f g h1 h2) r ↔ Rn sc d 121 15 L (.int (f o 25) :: st) (cS f g h1 h2) r := r_getI d121_12 (ci := 7) (k := 25) rfl (by decide) (fun _ => rfl) h17 hK
theorem d121_15 : decode (mC 121) 15 = .ok (.iconst 1, 1) := by decide +kernel
theorem x121_15 {sc : aSc} {d : Nat} {r : aRes} {L : List Value} {st : List Value} {σ : aS} : Rn sc d 121 15 L st σ r ↔ Rn sc d 121 16 L (.int 1 :: st) σ r := r_iconst d121_15 (by decide)
theorem d121_16 : decode (mC 121) 16 = .ok (.isub, 1) := by decide +kernel
theorem x121_16 {sc : aSc} {d : Nat} {r : aRes} {L : List Value} {st : List Value} {σ : aS} {x y : Int32} : Rn sc d 121 16 L (.int y :: .int x :: st) σ r ↔ Rn sc d 121 17 L (.int (x - y) :: st) σ r := r_isub d121_16
theorem d121_17 : decode (mC 121) 17 = .ok (.iaload, 1) := by decide +kernel
theorem x121_17 {sc : aSc} {d : Nat} {r : aRes} {L : List Value} {st : List Value} {f : Nat → Nat → Int32} {g : Nat → Nat → Int64} {h1 h2 : Nat} {a : Nat} {i : Int32} (h17 : 17 ≤ a) (hA : isT9 .int a) (hi : inb i (aln a) = true) : Rn sc d 121 17 L (.int i :: .ref a :: st) (cS f g h1 h2) r ↔ Rn sc d 121 18 L (.int (f a i.toNatClampNeg) :: st) (cS f g h1 h2) r := r_iald d121_17 h17 hA hi
theorem d121_18 : decode (mC 121) 18 = .ok (.bipush 33, 2) := by decide +kernel
theorem x121_18 {sc : aSc} {d : Nat} {r : aRes} {L : List Value} {st : List Value} {σ : aS} : Rn sc d 121 18 L st σ r ↔ Rn sc d 121 20 L (.int 33 :: st) σ r := r_bipush d121_18 (by decide)
theorem d121_20 : decode (mC 121) 20 = .ok (.if_icmp .ne 32, 3) := by decide +kernel
theorem x121_20 {sc : aSc} {d : Nat} {r : aRes} {L : List Value} {st : List Value} {σ : aS} {x y : Int32} : Rn sc d 121 20 L (.int y :: .int x :: st) σ r ↔ if x = y then Rn sc d 121 23 L st σ r else Rn sc d 121 52 L st σ r := r_icmp_ne d121_20 rfl
theorem d121_23 : decode (mC 121) 23 = .ok (.aload_n 0, 1) := by decide +kernel
theorem x121_23 {sc : aSc} {d : Nat} {r : aRes} {x0 : Nat} {st : List Value} {σ : aS} : Rn sc d 121 23 [.ref x0] st σ r ↔ Rn sc d 121 24 [.ref x0] (.ref x0 :: st) σ r := r_aload_n d121_23 rfl
theorem d121_24 : decode (mC 121) 24 = .ok (.bipush (-33), 2) := by decide +kernel
theorem x121_24 {sc : aSc} {d : Nat} {r : aRes} {L : List Value} {st : List Value} {σ : aS} : Rn sc d 121 24 L st σ r ↔ Rn sc d 121 26 L (.int (-33) :: st) σ r := r_bipush d121_24 (by decide)
theorem d121_26 : decode (mC 121) 26 = .ok (.invokevirtual 246, 3) := by decide +kernel
theorem x121_26 {sc : aSc} {d : Nat} {r : aRes} {L : List Value} {f : Nat → Nat → Int32} {g : Nat → Nat → Int64} {h1 h2 : Nat} {y0 : Int32}  {o : Nat} (hK : KK[o]? = some (.inl 7)) : Rn sc d 121 26 L [.int y0, .ref o] (cS f g h1 h2) r ↔ ∃ (σ3 : aS) (v : Option Value), Cl sc d 120 [.ref o, .int y0] (cS f g h1 h2) (σ3, v) ∧ Rn sc d 121 29 L (v.toList ++ []) σ3 r := r_callV (vs := [.int y0]) d121_26 (j := 120) rfl ⟨rfl, by decide, rfl, rfl⟩ (Nat.le_of_ble_eq_true rfl) hK
theorem d121_29 : decode (mC 121) 29 = .ok (.aload_n 0, 1) := by decide +kernel
theorem x121_29 {sc : aSc} {d : Nat} {r : aRes} {x0 : Nat} {st : List Value} {σ : aS} : Rn sc d 121 29 [.ref x0] st σ r ↔ Rn sc d 121 30 [.ref x0] (.ref x0 :: st) σ r := r_aload_n d121_29 rfl
theorem d121_30 : decode (mC 121) 30 = .ok (.dup, 1) := by decide +kernel
theorem x121_30 {sc : aSc} {d : Nat} {r : aRes} {L : List Value} {st : List Value} {σ : aS} {y : Nat} : Rn sc d 121 30 L (.ref y :: st) σ r ↔ Rn sc d 121 31 L (.ref y :: .ref y :: st) σ r := r_dup d121_30 rfl
theorem d121_31 : decode (mC 121) 31 = .ok (.getfield 86, 3) := by decide +kernel
theorem x121_31 {sc : aSc} {d : Nat} {r : aRes} {L : List Value} {st : List Value} {f : Nat → Nat → Int32} {g : Nat → Nat → Int64} {h1 h2 : Nat} {o : Nat} (h17 : 17 ≤ o) (hK : KK[o]? = some (.inl 7)) : Rn sc d 121 31 L (.ref o :: st) (cS f g h1 h2) r ↔ Rn sc d 121 34 L (.int (f o 25) :: st) (cS f g h1 h2) r := r_getI d121_31 (ci := 7) (k := 25) rfl (by decide) (fun _ => rfl) h17 hK
theorem d121_34 : decode (mC 121) 34 = .ok (.iconst 1, 1) := by decide +kernel
theorem x121_34 {sc : aSc} {d : Nat} {r : aRes} {L : List Value} {st : List Value} {σ : aS} : Rn sc d 121 34 L st σ r ↔ Rn sc d 121 35 L (.int 1 :: st) σ r := r_iconst d121_34 (by decide)
theorem d121_35 : decode (mC 121) 35 = .ok (.isub, 1) := by decide +kernel
theorem x121_35 {sc : aSc} {d : Nat} {r : aRes} {L : List Value} {st : List Value} {σ : aS} {x y : Int32} : Rn sc d 121 35 L (.int y :: .int x :: st) σ r ↔ Rn sc d 121 36 L (.int (x - y) :: st) σ r := r_isub d121_35
theorem d121_36 : decode (mC 121) 36 = .ok (.putfield 86, 3) := by decide +kernel
theorem x121_36 {sc : aSc} {d : Nat} {r : aRes} {L : List Value} {st : List Value} {f : Nat → Nat → Int32} {g : Nat → Nat → Int64} {h1 h2 : Nat} {o : Nat} {v : Int32} (h17 : 17 ≤ o) (hK : KK[o]? = some (.inl 7)) : Rn sc d 121 36 L (.int v :: .ref o :: st) (cS f g h1 h2) r ↔ Rn sc d 121 39 L st (cS (u2 f o 25 v) g h1 h2) r := r_putI d121_36 (ci := 7) (k := 25) rfl (by decide) h17 hK
theorem d121_39 : decode (mC 121) 39 = .ok (.aload_n 0, 1) := by decide +kernel
theorem x121_39 {sc : aSc} {d : Nat} {r : aRes} {x0 : Nat} {st : List Value} {σ : aS} : Rn sc d 121 39 [.ref x0] st σ r ↔ Rn sc d 121 40 [.ref x0] (.ref x0 :: st) σ r := r_aload_n d121_39 rfl
theorem d121_40 : decode (mC 121) 40 = .ok (.dup, 1) := by decide +kernel
theorem x121_40 {sc : aSc} {d : Nat} {r : aRes} {L : List Value} {st : List Value} {σ : aS} {y : Nat} : Rn sc d 121 40 L (.ref y :: st) σ r ↔ Rn sc d 121 41 L (.ref y :: .ref y :: st) σ r := r_dup d121_40 rfl
theorem d121_41 : decode (mC 121) 41 = .ok (.getfield 89, 3) := by decide +kernel
theorem x121_41 {sc : aSc} {d : Nat} {r : aRes} {L : List Value} {st : List Value} {f : Nat → Nat → Int32} {g : Nat → Nat → Int64} {h1 h2 : Nat} {o : Nat} (h17 : 17 ≤ o) (hK : KK[o]? = some (.inl 7)) : Rn sc d 121 41 L (.ref o :: st) (cS f g h1 h2) r ↔ Rn sc d 121 44 L (.int (f o 26) :: st) (cS f g h1 h2) r := r_getI d121_41 (ci := 7) (k := 26) rfl (by decide) (fun _ => rfl) h17 hK
theorem d121_44 : decode (mC 121) 44 = .ok (.iconst 1, 1) := by decide +kernel
theorem x121_44 {sc : aSc} {d : Nat} {r : aRes} {L : List Value} {st : List Value} {σ : aS} : Rn sc d 121 44 L st σ r ↔ Rn sc d 121 45 L (.int 1 :: st) σ r := r_iconst d121_44 (by decide)
theorem d121_45 : decode (mC 121) 45 = .ok (.isub, 1) := by decide +kernel
theorem x121_45 {sc : aSc} {d : Nat} {r : aRes} {L : List Value} {st : List Value} {σ : aS} {x y : Int32} : Rn sc d 121 45 L (.int y :: .int x :: st) σ r ↔ Rn sc d 121 46 L (.int (x - y) :: st) σ r := r_isub d121_45
theorem d121_46 : decode (mC 121) 46 = .ok (.putfield 89, 3) := by decide +kernel
theorem x121_46 {sc : aSc} {d : Nat} {r : aRes} {L : List Value} {st : List Value} {f : Nat → Nat → Int32} {g : Nat → Nat → Int64} {h1 h2 : Nat} {o : Nat} {v : Int32} (h17 : 17 ≤ o) (hK : KK[o]? = some (.inl 7)) : Rn sc d 121 46 L (.int v :: .ref o :: st) (cS f g h1 h2) r ↔ Rn sc d 121 49 L st (cS (u2 f o 26 v) g h1 h2) r := r_putI d121_46 (ci := 7) (k := 26) rfl (by decide) h17 hK
theorem d121_49 : decode (mC 121) 49 = .ok (.goto (-49), 3) := by decide +kernel
theorem x121_49 {sc : aSc} {d : Nat} {r : aRes} {L : List Value} {st : List Value} {σ : aS} : Rn sc d 121 49 L st σ r ↔ Rn sc d 121 0 L st σ r := r_goto d121_49 rfl
theorem d121_52 : decode (mC 121) 52 = .ok (.return_, 1) := by decide +kernel
theorem x121_52 {sc : aSc} {d : Nat} {r : aRes} {L : List Value} {σ : aS} : Rn sc d 121 52 L [] σ r ↔ r = (σ, none) := r_vret d121_52 rfl
theorem d122_0 : decode (mC 122) 0 = .ok (.aload_n 0, 1) := by decide +kernel
theorem x122_0 {sc : aSc} {d : Nat} {r : aRes} {x0 : Nat} {a1 : Value} {st : List Value} {σ : aS} : Rn sc d 122 0 [.ref x0, a1] st σ r ↔ Rn sc d 122 1 [.ref x0, a1] (.ref x0 :: st) σ r := r_aload_n d122_0 rfl
theorem d122_1 : decode (mC 122) 1 = .ok (.getfield 86, 3) := by decide +kernel
theorem x122_1 {sc : aSc} {d : Nat} {r : aRes} {L : List Value} {st : List Value} {f : Nat → Nat → Int32} {g : Nat → Nat → Int64} {h1 h2 : Nat} {o : Nat} (h17 : 17 ≤ o) (hK : KK[o]? = some (.inl 7)) : Rn sc d 122 1 L (.ref o :: st) (cS f g h1 h2) r ↔ Rn sc d 122 4 L (.int (f o 25) :: st) (cS f g h1 h2) r := r_getI d122_1 (ci := 7) (k := 25) rfl (by decide) (fun _ => rfl) h17 hK
theorem d122_4 : decode (mC 122) 4 = .ok (.ifCond .le 68, 3) := by decide +kernel
theorem x122_4 {sc : aSc} {d : Nat} {r : aRes} {L : List Value} {st : List Value} {σ : aS} {x : Int32} : Rn sc d 122 4 L (.int x :: st) σ r ↔ if 0 < x then Rn sc d 122 7 L st σ r else Rn sc d 122 72 L st σ r := r_if_le d122_4 rfl
theorem d122_7 : decode (mC 122) 7 = .ok (.aload_n 0, 1) := by decide +kernel
theorem x122_7 {sc : aSc} {d : Nat} {r : aRes} {x0 : Nat} {a1 : Value} {st : List Value} {σ : aS} : Rn sc d 122 7 [.ref x0, a1] st σ r ↔ Rn sc d 122 8 [.ref x0, a1] (.ref x0 :: st) σ r := r_aload_n d122_7 rfl
theorem d122_8 : decode (mC 122) 8 = .ok (.getfield 80, 3) := by decide +kernel
theorem x122_8 {sc : aSc} {d : Nat} {r : aRes} {L : List Value} {st : List Value} {f : Nat → Nat → Int32} {g : Nat → Nat → Int64} {h1 h2 : Nat} {o : Nat} (hK : KK[o]? = some (.inl 7)) (hR : (RR h1 h2 o 23).isSome = true) : Rn sc d 122 8 L (.ref o :: st) (cS f g h1 h2) r ↔ Rn sc d 122 11 L (.ref (rf h1 h2 o 23) :: st) (cS f g h1 h2) r := r_getR2 d122_8 (ci := 7) (k := 23) rfl (by decide) (fun _ => rfl) hK hR
theorem d122_11 : decode (mC 122) 11 = .ok (.aload_n 0, 1) := by decide +kernel
theorem x122_11 {sc : aSc} {d : Nat} {r : aRes} {x0 : Nat} {a1 : Value} {st : List Value} {σ : aS} : Rn sc d 122 11 [.ref x0, a1] st σ r ↔ Rn sc d 122 12 [.ref x0, a1] (.ref x0 :: st) σ r := r_aload_n d122_11 rfl
theorem d122_12 : decode (mC 122) 12 = .ok (.getfield 86, 3) := by decide +kernel
theorem x122_12 {sc : aSc} {d : Nat} {r : aRes} {L : List Value} {st : List Value} {f : Nat → Nat → Int32} {g : Nat → Nat → Int64} {h1 h2 : Nat} {o : Nat} (h17 : 17 ≤ o) (hK : KK[o]? = some (.inl 7)) : Rn sc d 122 12 L (.ref o :: st) (cS f g h1 h2) r ↔ Rn sc d 122 15 L (.int (f o 25) :: st) (cS f g h1 h2) r := r_getI d122_12 (ci := 7) (k := 25) rfl (by decide) (fun _ => rfl) h17 hK
theorem d122_15 : decode (mC 122) 15 = .ok (.iconst 1, 1) := by decide +kernel
theorem x122_15 {sc : aSc} {d : Nat} {r : aRes} {L : List Value} {st : List Value} {σ : aS} : Rn sc d 122 15 L st σ r ↔ Rn sc d 122 16 L (.int 1 :: st) σ r := r_iconst d122_15 (by decide)
theorem d122_16 : decode (mC 122) 16 = .ok (.isub, 1) := by decide +kernel
theorem x122_16 {sc : aSc} {d : Nat} {r : aRes} {L : List Value} {st : List Value} {σ : aS} {x y : Int32} : Rn sc d 122 16 L (.int y :: .int x :: st) σ r ↔ Rn sc d 122 17 L (.int (x - y) :: st) σ r := r_isub d122_16
theorem d122_17 : decode (mC 122) 17 = .ok (.iaload, 1) := by decide +kernel
theorem x122_17 {sc : aSc} {d : Nat} {r : aRes} {L : List Value} {st : List Value} {f : Nat → Nat → Int32} {g : Nat → Nat → Int64} {h1 h2 : Nat} {a : Nat} {i : Int32} (h17 : 17 ≤ a) (hA : isT9 .int a) (hi : inb i (aln a) = true) : Rn sc d 122 17 L (.int i :: .ref a :: st) (cS f g h1 h2) r ↔ Rn sc d 122 18 L (.int (f a i.toNatClampNeg) :: st) (cS f g h1 h2) r := r_iald d122_17 h17 hA hi
theorem d122_18 : decode (mC 122) 18 = .ok (.bipush 38, 2) := by decide +kernel
theorem x122_18 {sc : aSc} {d : Nat} {r : aRes} {L : List Value} {st : List Value} {σ : aS} : Rn sc d 122 18 L st σ r ↔ Rn sc d 122 20 L (.int 38 :: st) σ r := r_bipush d122_18 (by decide)
theorem d122_20 : decode (mC 122) 20 = .ok (.if_icmp .eq 25, 3) := by decide +kernel
theorem x122_20 {sc : aSc} {d : Nat} {r : aRes} {L : List Value} {st : List Value} {σ : aS} {x y : Int32} : Rn sc d 122 20 L (.int y :: .int x :: st) σ r ↔ if x = y then Rn sc d 122 45 L st σ r else Rn sc d 122 23 L st σ r := r_icmp_eq d122_20 rfl
theorem d122_23 : decode (mC 122) 23 = .ok (.aload_n 0, 1) := by decide +kernel
theorem x122_23 {sc : aSc} {d : Nat} {r : aRes} {x0 : Nat} {a1 : Value} {st : List Value} {σ : aS} : Rn sc d 122 23 [.ref x0, a1] st σ r ↔ Rn sc d 122 24 [.ref x0, a1] (.ref x0 :: st) σ r := r_aload_n d122_23 rfl
theorem d122_24 : decode (mC 122) 24 = .ok (.getfield 80, 3) := by decide +kernel
theorem x122_24 {sc : aSc} {d : Nat} {r : aRes} {L : List Value} {st : List Value} {f : Nat → Nat → Int32} {g : Nat → Nat → Int64} {h1 h2 : Nat} {o : Nat} (hK : KK[o]? = some (.inl 7)) (hR : (RR h1 h2 o 23).isSome = true) : Rn sc d 122 24 L (.ref o :: st) (cS f g h1 h2) r ↔ Rn sc d 122 27 L (.ref (rf h1 h2 o 23) :: st) (cS f g h1 h2) r := r_getR2 d122_24 (ci := 7) (k := 23) rfl (by decide) (fun _ => rfl) hK hR
theorem d122_27 : decode (mC 122) 27 = .ok (.aload_n 0, 1) := by decide +kernel
theorem x122_27 {sc : aSc} {d : Nat} {r : aRes} {x0 : Nat} {a1 : Value} {st : List Value} {σ : aS} : Rn sc d 122 27 [.ref x0, a1] st σ r ↔ Rn sc d 122 28 [.ref x0, a1] (.ref x0 :: st) σ r := r_aload_n d122_27 rfl
theorem d122_28 : decode (mC 122) 28 = .ok (.getfield 86, 3) := by decide +kernel
theorem x122_28 {sc : aSc} {d : Nat} {r : aRes} {L : List Value} {st : List Value} {f : Nat → Nat → Int32} {g : Nat → Nat → Int64} {h1 h2 : Nat} {o : Nat} (h17 : 17 ≤ o) (hK : KK[o]? = some (.inl 7)) : Rn sc d 122 28 L (.ref o :: st) (cS f g h1 h2) r ↔ Rn sc d 122 31 L (.int (f o 25) :: st) (cS f g h1 h2) r := r_getI d122_28 (ci := 7) (k := 25) rfl (by decide) (fun _ => rfl) h17 hK
theorem d122_31 : decode (mC 122) 31 = .ok (.iconst 1, 1) := by decide +kernel
theorem x122_31 {sc : aSc} {d : Nat} {r : aRes} {L : List Value} {st : List Value} {σ : aS} : Rn sc d 122 31 L st σ r ↔ Rn sc d 122 32 L (.int 1 :: st) σ r := r_iconst d122_31 (by decide)
theorem d122_32 : decode (mC 122) 32 = .ok (.isub, 1) := by decide +kernel
theorem x122_32 {sc : aSc} {d : Nat} {r : aRes} {L : List Value} {st : List Value} {σ : aS} {x y : Int32} : Rn sc d 122 32 L (.int y :: .int x :: st) σ r ↔ Rn sc d 122 33 L (.int (x - y) :: st) σ r := r_isub d122_32
theorem d122_33 : decode (mC 122) 33 = .ok (.iaload, 1) := by decide +kernel
theorem x122_33 {sc : aSc} {d : Nat} {r : aRes} {L : List Value} {st : List Value} {f : Nat → Nat → Int32} {g : Nat → Nat → Int64} {h1 h2 : Nat} {a : Nat} {i : Int32} (h17 : 17 ≤ a) (hA : isT9 .int a) (hi : inb i (aln a) = true) : Rn sc d 122 33 L (.int i :: .ref a :: st) (cS f g h1 h2) r ↔ Rn sc d 122 34 L (.int (f a i.toNatClampNeg) :: st) (cS f g h1 h2) r := r_iald d122_33 h17 hA hi
theorem d122_34 : decode (mC 122) 34 = .ok (.bipush 124, 2) := by decide +kernel
theorem x122_34 {sc : aSc} {d : Nat} {r : aRes} {L : List Value} {st : List Value} {σ : aS} : Rn sc d 122 34 L st σ r ↔ Rn sc d 122 36 L (.int 124 :: st) σ r := r_bipush d122_34 (by decide)
theorem d122_36 : decode (mC 122) 36 = .ok (.if_icmp .ne 36, 3) := by decide +kernel
theorem x122_36 {sc : aSc} {d : Nat} {r : aRes} {L : List Value} {st : List Value} {σ : aS} {x y : Int32} : Rn sc d 122 36 L (.int y :: .int x :: st) σ r ↔ if x = y then Rn sc d 122 39 L st σ r else Rn sc d 122 72 L st σ r := r_icmp_ne d122_36 rfl
theorem d122_39 : decode (mC 122) 39 = .ok (.iload_n 1, 1) := by decide +kernel
theorem x122_39 {sc : aSc} {d : Nat} {r : aRes} {a0 : Value} {x1 : Int32} {st : List Value} {σ : aS} : Rn sc d 122 39 [a0, .int x1] st σ r ↔ Rn sc d 122 40 [a0, .int x1] (.int x1 :: st) σ r := r_iload_n d122_39 rfl
theorem d122_40 : decode (mC 122) 40 = .ok (.bipush 38, 2) := by decide +kernel
theorem x122_40 {sc : aSc} {d : Nat} {r : aRes} {L : List Value} {st : List Value} {σ : aS} : Rn sc d 122 40 L st σ r ↔ Rn sc d 122 42 L (.int 38 :: st) σ r := r_bipush d122_40 (by decide)
theorem d122_42 : decode (mC 122) 42 = .ok (.if_icmp .eq 30, 3) := by decide +kernel
theorem x122_42 {sc : aSc} {d : Nat} {r : aRes} {L : List Value} {st : List Value} {σ : aS} {x y : Int32} : Rn sc d 122 42 L (.int y :: .int x :: st) σ r ↔ if x = y then Rn sc d 122 72 L st σ r else Rn sc d 122 45 L st σ r := r_icmp_eq d122_42 rfl
theorem d122_45 : decode (mC 122) 45 = .ok (.aload_n 0, 1) := by decide +kernel
theorem x122_45 {sc : aSc} {d : Nat} {r : aRes} {x0 : Nat} {a1 : Value} {st : List Value} {σ : aS} : Rn sc d 122 45 [.ref x0, a1] st σ r ↔ Rn sc d 122 46 [.ref x0, a1] (.ref x0 :: st) σ r := r_aload_n d122_45 rfl
theorem d122_46 : decode (mC 122) 46 = .ok (.dup, 1) := by decide +kernel
theorem x122_46 {sc : aSc} {d : Nat} {r : aRes} {L : List Value} {st : List Value} {σ : aS} {y : Nat} : Rn sc d 122 46 L (.ref y :: st) σ r ↔ Rn sc d 122 47 L (.ref y :: .ref y :: st) σ r := r_dup d122_46 rfl
theorem d122_47 : decode (mC 122) 47 = .ok (.getfield 86, 3) := by decide +kernel
theorem x122_47 {sc : aSc} {d : Nat} {r : aRes} {L : List Value} {st : List Value} {f : Nat → Nat → Int32} {g : Nat → Nat → Int64} {h1 h2 : Nat} {o : Nat} (h17 : 17 ≤ o) (hK : KK[o]? = some (.inl 7)) : Rn sc d 122 47 L (.ref o :: st) (cS f g h1 h2) r ↔ Rn sc d 122 50 L (.int (f o 25) :: st) (cS f g h1 h2) r := r_getI d122_47 (ci := 7) (k := 25) rfl (by decide) (fun _ => rfl) h17 hK
theorem d122_50 : decode (mC 122) 50 = .ok (.iconst 1, 1) := by decide +kernel
theorem x122_50 {sc : aSc} {d : Nat} {r : aRes} {L : List Value} {st : List Value} {σ : aS} : Rn sc d 122 50 L st σ r ↔ Rn sc d 122 51 L (.int 1 :: st) σ r := r_iconst d122_50 (by decide)
theorem d122_51 : decode (mC 122) 51 = .ok (.isub, 1) := by decide +kernel
theorem x122_51 {sc : aSc} {d : Nat} {r : aRes} {L : List Value} {st : List Value} {σ : aS} {x y : Int32} : Rn sc d 122 51 L (.int y :: .int x :: st) σ r ↔ Rn sc d 122 52 L (.int (x - y) :: st) σ r := r_isub d122_51
theorem d122_52 : decode (mC 122) 52 = .ok (.putfield 86, 3) := by decide +kernel
theorem x122_52 {sc : aSc} {d : Nat} {r : aRes} {L : List Value} {st : List Value} {f : Nat → Nat → Int32} {g : Nat → Nat → Int64} {h1 h2 : Nat} {o : Nat} {v : Int32} (h17 : 17 ≤ o) (hK : KK[o]? = some (.inl 7)) : Rn sc d 122 52 L (.int v :: .ref o :: st) (cS f g h1 h2) r ↔ Rn sc d 122 55 L st (cS (u2 f o 25 v) g h1 h2) r := r_putI d122_52 (ci := 7) (k := 25) rfl (by decide) h17 hK
theorem d122_55 : decode (mC 122) 55 = .ok (.aload_n 0, 1) := by decide +kernel
theorem x122_55 {sc : aSc} {d : Nat} {r : aRes} {x0 : Nat} {a1 : Value} {st : List Value} {σ : aS} : Rn sc d 122 55 [.ref x0, a1] st σ r ↔ Rn sc d 122 56 [.ref x0, a1] (.ref x0 :: st) σ r := r_aload_n d122_55 rfl
theorem d122_56 : decode (mC 122) 56 = .ok (.aload_n 0, 1) := by decide +kernel
theorem x122_56 {sc : aSc} {d : Nat} {r : aRes} {x0 : Nat} {a1 : Value} {st : List Value} {σ : aS} : Rn sc d 122 56 [.ref x0, a1] st σ r ↔ Rn sc d 122 57 [.ref x0, a1] (.ref x0 :: st) σ r := r_aload_n d122_56 rfl
theorem d122_57 : decode (mC 122) 57 = .ok (.getfield 80, 3) := by decide +kernel
theorem x122_57 {sc : aSc} {d : Nat} {r : aRes} {L : List Value} {st : List Value} {f : Nat → Nat → Int32} {g : Nat → Nat → Int64} {h1 h2 : Nat} {o : Nat} (hK : KK[o]? = some (.inl 7)) (hR : (RR h1 h2 o 23).isSome = true) : Rn sc d 122 57 L (.ref o :: st) (cS f g h1 h2) r ↔ Rn sc d 122 60 L (.ref (rf h1 h2 o 23) :: st) (cS f g h1 h2) r := r_getR2 d122_57 (ci := 7) (k := 23) rfl (by decide) (fun _ => rfl) hK hR
theorem d122_60 : decode (mC 122) 60 = .ok (.aload_n 0, 1) := by decide +kernel
theorem x122_60 {sc : aSc} {d : Nat} {r : aRes} {x0 : Nat} {a1 : Value} {st : List Value} {σ : aS} : Rn sc d 122 60 [.ref x0, a1] st σ r ↔ Rn sc d 122 61 [.ref x0, a1] (.ref x0 :: st) σ r := r_aload_n d122_60 rfl
theorem d122_61 : decode (mC 122) 61 = .ok (.getfield 86, 3) := by decide +kernel
theorem x122_61 {sc : aSc} {d : Nat} {r : aRes} {L : List Value} {st : List Value} {f : Nat → Nat → Int32} {g : Nat → Nat → Int64} {h1 h2 : Nat} {o : Nat} (h17 : 17 ≤ o) (hK : KK[o]? = some (.inl 7)) : Rn sc d 122 61 L (.ref o :: st) (cS f g h1 h2) r ↔ Rn sc d 122 64 L (.int (f o 25) :: st) (cS f g h1 h2) r := r_getI d122_61 (ci := 7) (k := 25) rfl (by decide) (fun _ => rfl) h17 hK
theorem d122_64 : decode (mC 122) 64 = .ok (.iaload, 1) := by decide +kernel
theorem x122_64 {sc : aSc} {d : Nat} {r : aRes} {L : List Value} {st : List Value} {f : Nat → Nat → Int32} {g : Nat → Nat → Int64} {h1 h2 : Nat} {a : Nat} {i : Int32} (h17 : 17 ≤ a) (hA : isT9 .int a) (hi : inb i (aln a) = true) : Rn sc d 122 64 L (.int i :: .ref a :: st) (cS f g h1 h2) r ↔ Rn sc d 122 65 L (.int (f a i.toNatClampNeg) :: st) (cS f g h1 h2) r := r_iald d122_64 h17 hA hi
theorem d122_65 : decode (mC 122) 65 = .ok (.ineg, 1) := by decide +kernel
theorem x122_65 {sc : aSc} {d : Nat} {r : aRes} {L : List Value} {st : List Value} {σ : aS} {x : Int32} : Rn sc d 122 65 L (.int x :: st) σ r ↔ Rn sc d 122 66 L (.int (-x) :: st) σ r := r_ineg d122_65
theorem d122_66 : decode (mC 122) 66 = .ok (.invokevirtual 246, 3) := by decide +kernel
theorem x122_66 {sc : aSc} {d : Nat} {r : aRes} {L : List Value} {f : Nat → Nat → Int32} {g : Nat → Nat → Int64} {h1 h2 : Nat} {y0 : Int32}  {o : Nat} (hK : KK[o]? = some (.inl 7)) : Rn sc d 122 66 L [.int y0, .ref o] (cS f g h1 h2) r ↔ ∃ (σ3 : aS) (v : Option Value), Cl sc d 120 [.ref o, .int y0] (cS f g h1 h2) (σ3, v) ∧ Rn sc d 122 69 L (v.toList ++ []) σ3 r := r_callV (vs := [.int y0]) d122_66 (j := 120) rfl ⟨rfl, by decide, rfl, rfl⟩ (Nat.le_of_ble_eq_true rfl) hK
theorem d122_69 : decode (mC 122) 69 = .ok (.goto (-69), 3) := by decide +kernel
theorem x122_69 {sc : aSc} {d : Nat} {r : aRes} {L : List Value} {st : List Value} {σ : aS} : Rn sc d 122 69 L st σ r ↔ Rn sc d 122 0 L st σ r := r_goto d122_69 rfl
theorem d122_72 : decode (mC 122) 72 = .ok (.return_, 1) := by decide +kernel
theorem x122_72 {sc : aSc} {d : Nat} {r : aRes} {L : List Value} {σ : aS} : Rn sc d 122 72 L [] σ r ↔ r = (σ, none) := r_vret d122_72 rfl
theorem d123_0 : decode (mC 123) 0 = .ok (.iload_n 1, 1) := by decide +kernel
theorem x123_0 {sc : aSc} {d : Nat} {r : aRes} {a0 : Value} {x1 : Int32} {st : List Value} {σ : aS} : Rn sc d 123 0 [a0, .int x1] st σ r ↔ Rn sc d 123 1 [a0, .int x1] (.int x1 :: st) σ r := r_iload_n d123_0 rfl
theorem d123_1 : decode (mC 123) 1 = .ok (.tableswitch 103 100 118 #[97, 103, 103, 103, 101, 103, 103, 93, 99, 103, 103, 103, 103, 103, 103, 91, 103, 103, 95], 91) := by decide +kernel
theorem x123_1 {sc : aSc} {d : Nat} {r : aRes} {L : List Value} {st : List Value} {σ : aS} {x : Int32} : Rn sc d 123 1 L (.int x :: st) σ r ↔ (if x = 100 then Rn sc d 123 98 L st σ r else (if x = 101 then Rn sc d 123 104 L st σ r else (if x = 102 then Rn sc d 123 104 L st σ r else (if x = 103 then Rn sc d 123 104 L st σ r else (if x = 104 then Rn sc d 123 102 L st σ r else (if x = 105 then Rn sc d 123 104 L st σ r else (if x = 106 then Rn sc d 123 104 L st σ r else (if x = 107 then Rn sc d 123 94 L st σ r else (if x = 108 then Rn sc d 123 100 L st σ r else (if x = 109 then Rn sc d 123 104 L st σ r else (if x = 110 then Rn sc d 123 104 L st σ r else (if x = 111 then Rn sc d 123 104 L st σ r else (if x = 112 then Rn sc d 123 104 L st σ r else (if x = 113 then Rn sc d 123 104 L st σ r else (if x = 114 then Rn sc d 123 104 L st σ r else (if x = 115 then Rn sc d 123 92 L st σ r else (if x = 116 then Rn sc d 123 104 L st σ r else (if x = 117 then Rn sc d 123 104 L st σ r else (if x = 118 then Rn sc d 123 96 L st σ r else Rn sc d 123 104 L st σ r))))))))))))))))))) := by
  by_cases c0 : x = 100
  · subst c0; simp only [if_pos]; exact r_tsw d123_1 (t := 98) rfl
  rw [if_neg c0]
  by_cases c1 : x = 101
  · subst c1; simp only [if_pos]; exact r_tsw d123_1 (t := 104) rfl
  rw [if_neg c1]
  by_cases c2 : x = 102
  · subst c2; simp only [if_pos]; exact r_tsw d123_1 (t := 104) rfl
  rw [if_neg c2]
  by_cases c3 : x = 103
  · subst c3; simp only [if_pos]; exact r_tsw d123_1 (t := 104) rfl
  rw [if_neg c3]
  by_cases c4 : x = 104
  · subst c4; simp only [if_pos]; exact r_tsw d123_1 (t := 102) rfl
  rw [if_neg c4]
  by_cases c5 : x = 105
  · subst c5; simp only [if_pos]; exact r_tsw d123_1 (t := 104) rfl
  rw [if_neg c5]
  by_cases c6 : x = 106
  · subst c6; simp only [if_pos]; exact r_tsw d123_1 (t := 104) rfl
  rw [if_neg c6]
  by_cases c7 : x = 107
  · subst c7; simp only [if_pos]; exact r_tsw d123_1 (t := 94) rfl
  rw [if_neg c7]
  by_cases c8 : x = 108
  · subst c8; simp only [if_pos]; exact r_tsw d123_1 (t := 100) rfl
  rw [if_neg c8]
  by_cases c9 : x = 109
  · subst c9; simp only [if_pos]; exact r_tsw d123_1 (t := 104) rfl
  rw [if_neg c9]
  by_cases c10 : x = 110
  · subst c10; simp only [if_pos]; exact r_tsw d123_1 (t := 104) rfl
  rw [if_neg c10]
  by_cases c11 : x = 111
  · subst c11; simp only [if_pos]; exact r_tsw d123_1 (t := 104) rfl
  rw [if_neg c11]
  by_cases c12 : x = 112
  · subst c12; simp only [if_pos]; exact r_tsw d123_1 (t := 104) rfl
  rw [if_neg c12]
  by_cases c13 : x = 113
  · subst c13; simp only [if_pos]; exact r_tsw d123_1 (t := 104) rfl
  rw [if_neg c13]
  by_cases c14 : x = 114
  · subst c14; simp only [if_pos]; exact r_tsw d123_1 (t := 104) rfl
  rw [if_neg c14]
  by_cases c15 : x = 115
  · subst c15; simp only [if_pos]; exact r_tsw d123_1 (t := 92) rfl
  rw [if_neg c15]
  by_cases c16 : x = 116
  · subst c16; simp only [if_pos]; exact r_tsw d123_1 (t := 104) rfl
  rw [if_neg c16]
  by_cases c17 : x = 117
  · subst c17; simp only [if_pos]; exact r_tsw d123_1 (t := 104) rfl
  rw [if_neg c17]
  by_cases c18 : x = 118
  · subst c18; simp only [if_pos]; exact r_tsw d123_1 (t := 96) rfl
  rw [if_neg c18]
  refine r_tswd d123_1 ?_ rfl
  have e0 : x.toInt ≠ 100 := fun z => c0 (Int32.toInt_inj.mp z)
  have e1 : x.toInt ≠ 101 := fun z => c1 (Int32.toInt_inj.mp z)
  have e2 : x.toInt ≠ 102 := fun z => c2 (Int32.toInt_inj.mp z)
  have e3 : x.toInt ≠ 103 := fun z => c3 (Int32.toInt_inj.mp z)
  have e4 : x.toInt ≠ 104 := fun z => c4 (Int32.toInt_inj.mp z)
  have e5 : x.toInt ≠ 105 := fun z => c5 (Int32.toInt_inj.mp z)
  have e6 : x.toInt ≠ 106 := fun z => c6 (Int32.toInt_inj.mp z)
  have e7 : x.toInt ≠ 107 := fun z => c7 (Int32.toInt_inj.mp z)
  have e8 : x.toInt ≠ 108 := fun z => c8 (Int32.toInt_inj.mp z)
  have e9 : x.toInt ≠ 109 := fun z => c9 (Int32.toInt_inj.mp z)
  have e10 : x.toInt ≠ 110 := fun z => c10 (Int32.toInt_inj.mp z)
  have e11 : x.toInt ≠ 111 := fun z => c11 (Int32.toInt_inj.mp z)
  have e12 : x.toInt ≠ 112 := fun z => c12 (Int32.toInt_inj.mp z)
  have e13 : x.toInt ≠ 113 := fun z => c13 (Int32.toInt_inj.mp z)
  have e14 : x.toInt ≠ 114 := fun z => c14 (Int32.toInt_inj.mp z)
  have e15 : x.toInt ≠ 115 := fun z => c15 (Int32.toInt_inj.mp z)
  have e16 : x.toInt ≠ 116 := fun z => c16 (Int32.toInt_inj.mp z)
  have e17 : x.toInt ≠ 117 := fun z => c17 (Int32.toInt_inj.mp z)
  have e18 : x.toInt ≠ 118 := fun z => c18 (Int32.toInt_inj.mp z)
  omega
theorem d123_92 : decode (mC 123) 92 = .ok (.iconst 0, 1) := by decide +kernel
theorem x123_92 {sc : aSc} {d : Nat} {r : aRes} {L : List Value} {st : List Value} {σ : aS} : Rn sc d 123 92 L st σ r ↔ Rn sc d 123 93 L (.int 0 :: st) σ r := r_iconst d123_92 (by decide)
theorem d123_93 : decode (mC 123) 93 = .ok (.ireturn, 1) := by decide +kernel
theorem x123_93 {sc : aSc} {d : Nat} {r : aRes} {L : List Value} {σ : aS} {x : Int32} : Rn sc d 123 93 L [.int x] σ r ↔ r = (σ, some (.int x)) := r_iret d123_93 rfl rfl
theorem d123_94 : decode (mC 123) 94 = .ok (.iconst 1, 1) := by decide +kernel
theorem x123_94 {sc : aSc} {d : Nat} {r : aRes} {L : List Value} {st : List Value} {σ : aS} : Rn sc d 123 94 L st σ r ↔ Rn sc d 123 95 L (.int 1 :: st) σ r := r_iconst d123_94 (by decide)
theorem d123_95 : decode (mC 123) 95 = .ok (.ireturn, 1) := by decide +kernel
theorem x123_95 {sc : aSc} {d : Nat} {r : aRes} {L : List Value} {σ : aS} {x : Int32} : Rn sc d 123 95 L [.int x] σ r ↔ r = (σ, some (.int x)) := r_iret d123_95 rfl rfl
theorem d123_96 : decode (mC 123) 96 = .ok (.iconst 2, 1) := by decide +kernel
theorem x123_96 {sc : aSc} {d : Nat} {r : aRes} {L : List Value} {st : List Value} {σ : aS} : Rn sc d 123 96 L st σ r ↔ Rn sc d 123 97 L (.int 2 :: st) σ r := r_iconst d123_96 (by decide)
theorem d123_97 : decode (mC 123) 97 = .ok (.ireturn, 1) := by decide +kernel
theorem x123_97 {sc : aSc} {d : Nat} {r : aRes} {L : List Value} {σ : aS} {x : Int32} : Rn sc d 123 97 L [.int x] σ r ↔ r = (σ, some (.int x)) := r_iret d123_97 rfl rfl
theorem d123_98 : decode (mC 123) 98 = .ok (.iconst 3, 1) := by decide +kernel
theorem x123_98 {sc : aSc} {d : Nat} {r : aRes} {L : List Value} {st : List Value} {σ : aS} : Rn sc d 123 98 L st σ r ↔ Rn sc d 123 99 L (.int 3 :: st) σ r := r_iconst d123_98 (by decide)
theorem d123_99 : decode (mC 123) 99 = .ok (.ireturn, 1) := by decide +kernel
theorem x123_99 {sc : aSc} {d : Nat} {r : aRes} {L : List Value} {σ : aS} {x : Int32} : Rn sc d 123 99 L [.int x] σ r ↔ r = (σ, some (.int x)) := r_iret d123_99 rfl rfl
theorem d123_100 : decode (mC 123) 100 = .ok (.iconst 4, 1) := by decide +kernel
theorem x123_100 {sc : aSc} {d : Nat} {r : aRes} {L : List Value} {st : List Value} {σ : aS} : Rn sc d 123 100 L st σ r ↔ Rn sc d 123 101 L (.int 4 :: st) σ r := r_iconst d123_100 (by decide)
theorem d123_101 : decode (mC 123) 101 = .ok (.ireturn, 1) := by decide +kernel
theorem x123_101 {sc : aSc} {d : Nat} {r : aRes} {L : List Value} {σ : aS} {x : Int32} : Rn sc d 123 101 L [.int x] σ r ↔ r = (σ, some (.int x)) := r_iret d123_101 rfl rfl
theorem d123_102 : decode (mC 123) 102 = .ok (.iconst 5, 1) := by decide +kernel
theorem x123_102 {sc : aSc} {d : Nat} {r : aRes} {L : List Value} {st : List Value} {σ : aS} : Rn sc d 123 102 L st σ r ↔ Rn sc d 123 103 L (.int 5 :: st) σ r := r_iconst d123_102 (by decide)
theorem d123_103 : decode (mC 123) 103 = .ok (.ireturn, 1) := by decide +kernel
theorem x123_103 {sc : aSc} {d : Nat} {r : aRes} {L : List Value} {σ : aS} {x : Int32} : Rn sc d 123 103 L [.int x] σ r ↔ r = (σ, some (.int x)) := r_iret d123_103 rfl rfl
theorem d123_104 : decode (mC 123) 104 = .ok (.iconst (-1), 1) := by decide +kernel
theorem x123_104 {sc : aSc} {d : Nat} {r : aRes} {L : List Value} {st : List Value} {σ : aS} : Rn sc d 123 104 L st σ r ↔ Rn sc d 123 105 L (.int (-1) :: st) σ r := r_iconst d123_104 (by decide)
theorem d123_105 : decode (mC 123) 105 = .ok (.ireturn, 1) := by decide +kernel
theorem x123_105 {sc : aSc} {d : Nat} {r : aRes} {L : List Value} {σ : aS} {x : Int32} : Rn sc d 123 105 L [.int x] σ r ↔ r = (σ, some (.int x)) := r_iret d123_105 rfl rfl
theorem d124_0 : decode (mC 124) 0 = .ok (.aload_n 0, 1) := by decide +kernel
theorem x124_0 {sc : aSc} {d : Nat} {r : aRes} {x0 : Nat} {a1 : Value} {a2 : Value} {st : List Value} {σ : aS} : Rn sc d 124 0 [.ref x0, a1, a2] st σ r ↔ Rn sc d 124 1 [.ref x0, a1, a2] (.ref x0 :: st) σ r := r_aload_n d124_0 rfl
theorem d124_1 : decode (mC 124) 1 = .ok (.aload_n 0, 1) := by decide +kernel
theorem x124_1 {sc : aSc} {d : Nat} {r : aRes} {x0 : Nat} {a1 : Value} {a2 : Value} {st : List Value} {σ : aS} : Rn sc d 124 1 [.ref x0, a1, a2] st σ r ↔ Rn sc d 124 2 [.ref x0, a1, a2] (.ref x0 :: st) σ r := r_aload_n d124_1 rfl
theorem d124_2 : decode (mC 124) 2 = .ok (.invokevirtual 235, 3) := by decide +kernel
theorem x124_2 {sc : aSc} {d : Nat} {r : aRes} {L : List Value} {f : Nat → Nat → Int32} {g : Nat → Nat → Int64} {h1 h2 : Nat}  {z0 : Nat} {o : Nat} (hK : KK[o]? = some (.inl 7)) : Rn sc d 124 2 L [.ref o, .ref z0] (cS f g h1 h2) r ↔ ∃ (σ3 : aS) (v : Option Value), Cl sc d 114 [.ref o] (cS f g h1 h2) (σ3, v) ∧ Rn sc d 124 5 L (v.toList ++ [.ref z0]) σ3 r := r_callV (vs := []) d124_2 (j := 114) rfl ⟨rfl, by decide, rfl, rfl⟩ (Nat.le_of_ble_eq_true rfl) hK
theorem d124_5 : decode (mC 124) 5 = .ok (.invokevirtual 250, 3) := by decide +kernel
theorem x124_5 {sc : aSc} {d : Nat} {r : aRes} {L : List Value} {f : Nat → Nat → Int32} {g : Nat → Nat → Int64} {h1 h2 : Nat} {y0 : Int32}  {o : Nat} (hK : KK[o]? = some (.inl 7)) : Rn sc d 124 5 L [.int y0, .ref o] (cS f g h1 h2) r ↔ ∃ (σ3 : aS) (v : Option Value), Cl sc d 123 [.ref o, .int y0] (cS f g h1 h2) (σ3, v) ∧ Rn sc d 124 8 L (v.toList ++ []) σ3 r := r_callV (vs := [.int y0]) d124_5 (j := 123) rfl ⟨rfl, by decide, rfl, rfl⟩ (Nat.le_of_ble_eq_true rfl) hK
theorem d124_8 : decode (mC 124) 8 = .ok (.istore_n 1, 1) := by decide +kernel
theorem x124_8 {sc : aSc} {d : Nat} {r : aRes} {x0 : Nat} {a1 : Value} {a2 : Value} {st : List Value} {σ : aS} {y : Int32} : Rn sc d 124 8 [.ref x0, a1, a2] (.int y :: st) σ r ↔ Rn sc d 124 9 [.ref x0, .int y, a2] st σ r := r_istore_n d124_8 (Nat.le_of_ble_eq_true rfl) rfl
theorem d124_9 : decode (mC 124) 9 = .ok (.iload_n 1, 1) := by decide +kernel
theorem x124_9 {sc : aSc} {d : Nat} {r : aRes} {a0 : Value} {x1 : Int32} {a2 : Value} {st : List Value} {σ : aS} : Rn sc d 124 9 [a0, .int x1, a2] st σ r ↔ Rn sc d 124 10 [a0, .int x1, a2] (.int x1 :: st) σ r := r_iload_n d124_9 rfl
theorem d124_10 : decode (mC 124) 10 = .ok (.ifCond .ge 5, 3) := by decide +kernel
theorem x124_10 {sc : aSc} {d : Nat} {r : aRes} {L : List Value} {st : List Value} {σ : aS} {x : Int32} : Rn sc d 124 10 L (.int x :: st) σ r ↔ if x < 0 then Rn sc d 124 13 L st σ r else Rn sc d 124 15 L st σ r := r_if_ge d124_10 rfl
theorem d124_13 : decode (mC 124) 13 = .ok (.iconst 0, 1) := by decide +kernel
theorem x124_13 {sc : aSc} {d : Nat} {r : aRes} {L : List Value} {st : List Value} {σ : aS} : Rn sc d 124 13 L st σ r ↔ Rn sc d 124 14 L (.int 0 :: st) σ r := r_iconst d124_13 (by decide)
theorem d124_14 : decode (mC 124) 14 = .ok (.ireturn, 1) := by decide +kernel
theorem x124_14 {sc : aSc} {d : Nat} {r : aRes} {L : List Value} {σ : aS} {x : Int32} (hn : x &&& 1 = x) : Rn sc d 124 14 L [.int x] σ r ↔ r = (σ, some (.int x)) := r_iret d124_14 rfl (congrArg Value.int hn)
theorem d124_15 : decode (mC 124) 15 = .ok (.aload_n 0, 1) := by decide +kernel
theorem x124_15 {sc : aSc} {d : Nat} {r : aRes} {x0 : Nat} {a1 : Value} {a2 : Value} {st : List Value} {σ : aS} : Rn sc d 124 15 [.ref x0, a1, a2] st σ r ↔ Rn sc d 124 16 [.ref x0, a1, a2] (.ref x0 :: st) σ r := r_aload_n d124_15 rfl
theorem d124_16 : decode (mC 124) 16 = .ok (.dup, 1) := by decide +kernel
theorem x124_16 {sc : aSc} {d : Nat} {r : aRes} {L : List Value} {st : List Value} {σ : aS} {y : Nat} : Rn sc d 124 16 L (.ref y :: st) σ r ↔ Rn sc d 124 17 L (.ref y :: .ref y :: st) σ r := r_dup d124_16 rfl
theorem d124_17 : decode (mC 124) 17 = .ok (.getfield 53, 3) := by decide +kernel
theorem x124_17 {sc : aSc} {d : Nat} {r : aRes} {L : List Value} {st : List Value} {f : Nat → Nat → Int32} {g : Nat → Nat → Int64} {h1 h2 : Nat} {o : Nat} (h17 : 17 ≤ o) (hK : KK[o]? = some (.inl 7)) : Rn sc d 124 17 L (.ref o :: st) (cS f g h1 h2) r ↔ Rn sc d 124 20 L (.int (f o 14) :: st) (cS f g h1 h2) r := r_getI d124_17 (ci := 7) (k := 14) rfl (by decide) (fun _ => rfl) h17 hK
theorem d124_20 : decode (mC 124) 20 = .ok (.iconst 1, 1) := by decide +kernel
theorem x124_20 {sc : aSc} {d : Nat} {r : aRes} {L : List Value} {st : List Value} {σ : aS} : Rn sc d 124 20 L st σ r ↔ Rn sc d 124 21 L (.int 1 :: st) σ r := r_iconst d124_20 (by decide)
theorem d124_21 : decode (mC 124) 21 = .ok (.iadd, 1) := by decide +kernel
theorem x124_21 {sc : aSc} {d : Nat} {r : aRes} {L : List Value} {st : List Value} {σ : aS} {x y : Int32} : Rn sc d 124 21 L (.int y :: .int x :: st) σ r ↔ Rn sc d 124 22 L (.int (x + y) :: st) σ r := r_iadd d124_21
theorem d124_22 : decode (mC 124) 22 = .ok (.putfield 53, 3) := by decide +kernel
theorem x124_22 {sc : aSc} {d : Nat} {r : aRes} {L : List Value} {st : List Value} {f : Nat → Nat → Int32} {g : Nat → Nat → Int64} {h1 h2 : Nat} {o : Nat} {v : Int32} (h17 : 17 ≤ o) (hK : KK[o]? = some (.inl 7)) : Rn sc d 124 22 L (.int v :: .ref o :: st) (cS f g h1 h2) r ↔ Rn sc d 124 25 L st (cS (u2 f o 14 v) g h1 h2) r := r_putI d124_22 (ci := 7) (k := 14) rfl (by decide) h17 hK
theorem d124_25 : decode (mC 124) 25 = .ok (.aload_n 0, 1) := by decide +kernel
theorem x124_25 {sc : aSc} {d : Nat} {r : aRes} {x0 : Nat} {a1 : Value} {a2 : Value} {st : List Value} {σ : aS} : Rn sc d 124 25 [.ref x0, a1, a2] st σ r ↔ Rn sc d 124 26 [.ref x0, a1, a2] (.ref x0 :: st) σ r := r_aload_n d124_25 rfl
theorem d124_26 : decode (mC 124) 26 = .ok (.invokevirtual 235, 3) := by decide +kernel
theorem x124_26 {sc : aSc} {d : Nat} {r : aRes} {L : List Value} {f : Nat → Nat → Int32} {g : Nat → Nat → Int64} {h1 h2 : Nat}   {o : Nat} (hK : KK[o]? = some (.inl 7)) : Rn sc d 124 26 L [.ref o] (cS f g h1 h2) r ↔ ∃ (σ3 : aS) (v : Option Value), Cl sc d 114 [.ref o] (cS f g h1 h2) (σ3, v) ∧ Rn sc d 124 29 L (v.toList ++ []) σ3 r := r_callV (vs := []) d124_26 (j := 114) rfl ⟨rfl, by decide, rfl, rfl⟩ (Nat.le_of_ble_eq_true rfl) hK
theorem d124_29 : decode (mC 124) 29 = .ok (.istore_n 2, 1) := by decide +kernel
theorem x124_29 {sc : aSc} {d : Nat} {r : aRes} {a0 : Value} {x1 : Int32} {a2 : Value} {st : List Value} {σ : aS} {y : Int32} : Rn sc d 124 29 [a0, .int x1, a2] (.int y :: st) σ r ↔ Rn sc d 124 30 [a0, .int x1, .int y] st σ r := r_istore_n d124_29 (Nat.le_of_ble_eq_true rfl) rfl
theorem d124_30 : decode (mC 124) 30 = .ok (.aload_n 0, 1) := by decide +kernel
theorem x124_30 {sc : aSc} {d : Nat} {r : aRes} {x0 : Nat} {a1 : Value} {a2 : Value} {st : List Value} {σ : aS} : Rn sc d 124 30 [.ref x0, a1, a2] st σ r ↔ Rn sc d 124 31 [.ref x0, a1, a2] (.ref x0 :: st) σ r := r_aload_n d124_30 rfl
theorem d124_31 : decode (mC 124) 31 = .ok (.iload_n 2, 1) := by decide +kernel
theorem x124_31 {sc : aSc} {d : Nat} {r : aRes} {a0 : Value} {a1 : Value} {x2 : Int32} {st : List Value} {σ : aS} : Rn sc d 124 31 [a0, a1, .int x2] st σ r ↔ Rn sc d 124 32 [a0, a1, .int x2] (.int x2 :: st) σ r := r_iload_n d124_31 rfl
theorem d124_32 : decode (mC 124) 32 = .ok (.bipush 60, 2) := by decide +kernel
theorem x124_32 {sc : aSc} {d : Nat} {r : aRes} {L : List Value} {st : List Value} {σ : aS} : Rn sc d 124 32 L st σ r ↔ Rn sc d 124 34 L (.int 60 :: st) σ r := r_bipush d124_32 (by decide)
theorem d124_34 : decode (mC 124) 34 = .ok (.bipush 62, 2) := by decide +kernel
theorem x124_34 {sc : aSc} {d : Nat} {r : aRes} {L : List Value} {st : List Value} {σ : aS} : Rn sc d 124 34 L st σ r ↔ Rn sc d 124 36 L (.int 62 :: st) σ r := r_bipush d124_34 (by decide)
theorem d124_36 : decode (mC 124) 36 = .ok (.invokevirtual 227, 3) := by decide +kernel
theorem x124_36 {sc : aSc} {d : Nat} {r : aRes} {L : List Value} {f : Nat → Nat → Int32} {g : Nat → Nat → Int64} {h1 h2 : Nat} {y0 : Int32} {y1 : Int32} {y2 : Int32}  {o : Nat} (hK : KK[o]? = some (.inl 7)) : Rn sc d 124 36 L [.int y0, .int y1, .int y2, .ref o] (cS f g h1 h2) r ↔ ∃ (σ3 : aS) (v : Option Value), Cl sc d 108 [.ref o, .int y2, .int y1, .int y0] (cS f g h1 h2) (σ3, v) ∧ Rn sc d 124 39 L (v.toList ++ []) σ3 r := r_callV (vs := [.int y0, .int y1, .int y2]) d124_36 (j := 108) rfl ⟨rfl, by decide, rfl, rfl⟩ (Nat.le_of_ble_eq_true rfl) hK
theorem d124_39 : decode (mC 124) 39 = .ok (.ifCond .ne 5, 3) := by decide +kernel
theorem x124_39 {sc : aSc} {d : Nat} {r : aRes} {L : List Value} {st : List Value} {σ : aS} {x : Int32} : Rn sc d 124 39 L (.int x :: st) σ r ↔ if x = 0 then Rn sc d 124 42 L st σ r else Rn sc d 124 44 L st σ r := r_if_ne d124_39 rfl
theorem d124_42 : decode (mC 124) 42 = .ok (.iconst 0, 1) := by decide +kernel
theorem x124_42 {sc : aSc} {d : Nat} {r : aRes} {L : List Value} {st : List Value} {σ : aS} : Rn sc d 124 42 L st σ r ↔ Rn sc d 124 43 L (.int 0 :: st) σ r := r_iconst d124_42 (by decide)
theorem d124_43 : decode (mC 124) 43 = .ok (.ireturn, 1) := by decide +kernel
theorem x124_43 {sc : aSc} {d : Nat} {r : aRes} {L : List Value} {σ : aS} {x : Int32} (hn : x &&& 1 = x) : Rn sc d 124 43 L [.int x] σ r ↔ r = (σ, some (.int x)) := r_iret d124_43 rfl (congrArg Value.int hn)
theorem d124_44 : decode (mC 124) 44 = .ok (.aload_n 0, 1) := by decide +kernel
theorem x124_44 {sc : aSc} {d : Nat} {r : aRes} {x0 : Nat} {a1 : Value} {a2 : Value} {st : List Value} {σ : aS} : Rn sc d 124 44 [.ref x0, a1, a2] st σ r ↔ Rn sc d 124 45 [.ref x0, a1, a2] (.ref x0 :: st) σ r := r_aload_n d124_44 rfl
theorem d124_45 : decode (mC 124) 45 = .ok (.dup, 1) := by decide +kernel
theorem x124_45 {sc : aSc} {d : Nat} {r : aRes} {L : List Value} {st : List Value} {σ : aS} {y : Nat} : Rn sc d 124 45 L (.ref y :: st) σ r ↔ Rn sc d 124 46 L (.ref y :: .ref y :: st) σ r := r_dup d124_45 rfl
theorem d124_46 : decode (mC 124) 46 = .ok (.getfield 53, 3) := by decide +kernel
theorem x124_46 {sc : aSc} {d : Nat} {r : aRes} {L : List Value} {st : List Value} {f : Nat → Nat → Int32} {g : Nat → Nat → Int64} {h1 h2 : Nat} {o : Nat} (h17 : 17 ≤ o) (hK : KK[o]? = some (.inl 7)) : Rn sc d 124 46 L (.ref o :: st) (cS f g h1 h2) r ↔ Rn sc d 124 49 L (.int (f o 14) :: st) (cS f g h1 h2) r := r_getI d124_46 (ci := 7) (k := 14) rfl (by decide) (fun _ => rfl) h17 hK
theorem d124_49 : decode (mC 124) 49 = .ok (.iconst 1, 1) := by decide +kernel
theorem x124_49 {sc : aSc} {d : Nat} {r : aRes} {L : List Value} {st : List Value} {σ : aS} : Rn sc d 124 49 L st σ r ↔ Rn sc d 124 50 L (.int 1 :: st) σ r := r_iconst d124_49 (by decide)
theorem d124_50 : decode (mC 124) 50 = .ok (.iadd, 1) := by decide +kernel
theorem x124_50 {sc : aSc} {d : Nat} {r : aRes} {L : List Value} {st : List Value} {σ : aS} {x y : Int32} : Rn sc d 124 50 L (.int y :: .int x :: st) σ r ↔ Rn sc d 124 51 L (.int (x + y) :: st) σ r := r_iadd d124_50
theorem d124_51 : decode (mC 124) 51 = .ok (.putfield 53, 3) := by decide +kernel
theorem x124_51 {sc : aSc} {d : Nat} {r : aRes} {L : List Value} {st : List Value} {f : Nat → Nat → Int32} {g : Nat → Nat → Int64} {h1 h2 : Nat} {o : Nat} {v : Int32} (h17 : 17 ≤ o) (hK : KK[o]? = some (.inl 7)) : Rn sc d 124 51 L (.int v :: .ref o :: st) (cS f g h1 h2) r ↔ Rn sc d 124 54 L st (cS (u2 f o 14 v) g h1 h2) r := r_putI d124_51 (ci := 7) (k := 14) rfl (by decide) h17 hK
theorem d124_54 : decode (mC 124) 54 = .ok (.aload_n 0, 1) := by decide +kernel
theorem x124_54 {sc : aSc} {d : Nat} {r : aRes} {x0 : Nat} {a1 : Value} {a2 : Value} {st : List Value} {σ : aS} : Rn sc d 124 54 [.ref x0, a1, a2] st σ r ↔ Rn sc d 124 55 [.ref x0, a1, a2] (.ref x0 :: st) σ r := r_aload_n d124_54 rfl
theorem d124_55 : decode (mC 124) 55 = .ok (.invokevirtual 254, 3) := by decide +kernel
theorem x124_55 {sc : aSc} {d : Nat} {r : aRes} {L : List Value} {f : Nat → Nat → Int32} {g : Nat → Nat → Int64} {h1 h2 : Nat}   {o : Nat} (hK : KK[o]? = some (.inl 7)) : Rn sc d 124 55 L [.ref o] (cS f g h1 h2) r ↔ ∃ (σ3 : aS) (v : Option Value), Cl sc d 119 [.ref o] (cS f g h1 h2) (σ3, v) ∧ Rn sc d 124 58 L (v.toList ++ []) σ3 r := r_callV (vs := []) d124_55 (j := 119) rfl ⟨rfl, by decide, rfl, rfl⟩ (Nat.le_of_ble_eq_true rfl) hK
theorem d124_58 : decode (mC 124) 58 = .ok (.ifCond .ne 5, 3) := by decide +kernel
theorem x124_58 {sc : aSc} {d : Nat} {r : aRes} {L : List Value} {st : List Value} {σ : aS} {x : Int32} : Rn sc d 124 58 L (.int x :: st) σ r ↔ if x = 0 then Rn sc d 124 61 L st σ r else Rn sc d 124 63 L st σ r := r_if_ne d124_58 rfl
theorem d124_61 : decode (mC 124) 61 = .ok (.iconst 0, 1) := by decide +kernel
theorem x124_61 {sc : aSc} {d : Nat} {r : aRes} {L : List Value} {st : List Value} {σ : aS} : Rn sc d 124 61 L st σ r ↔ Rn sc d 124 62 L (.int 0 :: st) σ r := r_iconst d124_61 (by decide)
theorem d124_62 : decode (mC 124) 62 = .ok (.ireturn, 1) := by decide +kernel
theorem x124_62 {sc : aSc} {d : Nat} {r : aRes} {L : List Value} {σ : aS} {x : Int32} (hn : x &&& 1 = x) : Rn sc d 124 62 L [.int x] σ r ↔ r = (σ, some (.int x)) := r_iret d124_62 rfl (congrArg Value.int hn)
theorem d124_63 : decode (mC 124) 63 = .ok (.aload_n 0, 1) := by decide +kernel
theorem x124_63 {sc : aSc} {d : Nat} {r : aRes} {x0 : Nat} {a1 : Value} {a2 : Value} {st : List Value} {σ : aS} : Rn sc d 124 63 [.ref x0, a1, a2] st σ r ↔ Rn sc d 124 64 [.ref x0, a1, a2] (.ref x0 :: st) σ r := r_aload_n d124_63 rfl
theorem d124_64 : decode (mC 124) 64 = .ok (.sipush 1000, 3) := by decide +kernel
theorem x124_64 {sc : aSc} {d : Nat} {r : aRes} {L : List Value} {st : List Value} {σ : aS} : Rn sc d 124 64 L st σ r ↔ Rn sc d 124 67 L (.int 1000 :: st) σ r := r_sipush d124_64 (by decide)
theorem d124_67 : decode (mC 124) 67 = .ok (.iload_n 1, 1) := by decide +kernel
theorem x124_67 {sc : aSc} {d : Nat} {r : aRes} {a0 : Value} {x1 : Int32} {a2 : Value} {st : List Value} {σ : aS} : Rn sc d 124 67 [a0, .int x1, a2] st σ r ↔ Rn sc d 124 68 [a0, .int x1, a2] (.int x1 :: st) σ r := r_iload_n d124_67 rfl
theorem d124_68 : decode (mC 124) 68 = .ok (.imul, 1) := by decide +kernel
theorem x124_68 {sc : aSc} {d : Nat} {r : aRes} {L : List Value} {st : List Value} {σ : aS} {x y : Int32} : Rn sc d 124 68 L (.int y :: .int x :: st) σ r ↔ Rn sc d 124 69 L (.int (x * y) :: st) σ r := r_imul d124_68
theorem d124_69 : decode (mC 124) 69 = .ok (.bipush 100, 2) := by decide +kernel
theorem x124_69 {sc : aSc} {d : Nat} {r : aRes} {L : List Value} {st : List Value} {σ : aS} : Rn sc d 124 69 L st σ r ↔ Rn sc d 124 71 L (.int 100 :: st) σ r := r_bipush d124_69 (by decide)
theorem d124_71 : decode (mC 124) 71 = .ok (.iload_n 2, 1) := by decide +kernel
theorem x124_71 {sc : aSc} {d : Nat} {r : aRes} {a0 : Value} {a1 : Value} {x2 : Int32} {st : List Value} {σ : aS} : Rn sc d 124 71 [a0, a1, .int x2] st σ r ↔ Rn sc d 124 72 [a0, a1, .int x2] (.int x2 :: st) σ r := r_iload_n d124_71 rfl
theorem d124_72 : decode (mC 124) 72 = .ok (.bipush 60, 2) := by decide +kernel
theorem x124_72 {sc : aSc} {d : Nat} {r : aRes} {L : List Value} {st : List Value} {σ : aS} : Rn sc d 124 72 L st σ r ↔ Rn sc d 124 74 L (.int 60 :: st) σ r := r_bipush d124_72 (by decide)
theorem d124_74 : decode (mC 124) 74 = .ok (.isub, 1) := by decide +kernel
theorem x124_74 {sc : aSc} {d : Nat} {r : aRes} {L : List Value} {st : List Value} {σ : aS} {x y : Int32} : Rn sc d 124 74 L (.int y :: .int x :: st) σ r ↔ Rn sc d 124 75 L (.int (x - y) :: st) σ r := r_isub d124_74
theorem d124_75 : decode (mC 124) 75 = .ok (.imul, 1) := by decide +kernel
theorem x124_75 {sc : aSc} {d : Nat} {r : aRes} {L : List Value} {st : List Value} {σ : aS} {x y : Int32} : Rn sc d 124 75 L (.int y :: .int x :: st) σ r ↔ Rn sc d 124 76 L (.int (x * y) :: st) σ r := r_imul d124_75
theorem d124_76 : decode (mC 124) 76 = .ok (.iadd, 1) := by decide +kernel
theorem x124_76 {sc : aSc} {d : Nat} {r : aRes} {L : List Value} {st : List Value} {σ : aS} {x y : Int32} : Rn sc d 124 76 L (.int y :: .int x :: st) σ r ↔ Rn sc d 124 77 L (.int (x + y) :: st) σ r := r_iadd d124_76
theorem d124_77 : decode (mC 124) 77 = .ok (.aload_n 0, 1) := by decide +kernel
theorem x124_77 {sc : aSc} {d : Nat} {r : aRes} {x0 : Nat} {a1 : Value} {a2 : Value} {st : List Value} {σ : aS} : Rn sc d 124 77 [.ref x0, a1, a2] st σ r ↔ Rn sc d 124 78 [.ref x0, a1, a2] (.ref x0 :: st) σ r := r_aload_n d124_77 rfl
theorem d124_78 : decode (mC 124) 78 = .ok (.getfield 56, 3) := by decide +kernel
theorem x124_78 {sc : aSc} {d : Nat} {r : aRes} {L : List Value} {st : List Value} {f : Nat → Nat → Int32} {g : Nat → Nat → Int64} {h1 h2 : Nat} {o : Nat} (h17 : 17 ≤ o) (hK : KK[o]? = some (.inl 7)) : Rn sc d 124 78 L (.ref o :: st) (cS f g h1 h2) r ↔ Rn sc d 124 81 L (.int (f o 15) :: st) (cS f g h1 h2) r := r_getI d124_78 (ci := 7) (k := 15) rfl (by decide) (fun _ => rfl) h17 hK
theorem d124_81 : decode (mC 124) 81 = .ok (.iadd, 1) := by decide +kernel
theorem x124_81 {sc : aSc} {d : Nat} {r : aRes} {L : List Value} {st : List Value} {σ : aS} {x y : Int32} : Rn sc d 124 81 L (.int y :: .int x :: st) σ r ↔ Rn sc d 124 82 L (.int (x + y) :: st) σ r := r_iadd d124_81
theorem d124_82 : decode (mC 124) 82 = .ok (.invokevirtual 246, 3) := by decide +kernel
theorem x124_82 {sc : aSc} {d : Nat} {r : aRes} {L : List Value} {f : Nat → Nat → Int32} {g : Nat → Nat → Int64} {h1 h2 : Nat} {y0 : Int32}  {o : Nat} (hK : KK[o]? = some (.inl 7)) : Rn sc d 124 82 L [.int y0, .ref o] (cS f g h1 h2) r ↔ ∃ (σ3 : aS) (v : Option Value), Cl sc d 120 [.ref o, .int y0] (cS f g h1 h2) (σ3, v) ∧ Rn sc d 124 85 L (v.toList ++ []) σ3 r := r_callV (vs := [.int y0]) d124_82 (j := 120) rfl ⟨rfl, by decide, rfl, rfl⟩ (Nat.le_of_ble_eq_true rfl) hK
theorem d124_85 : decode (mC 124) 85 = .ok (.aload_n 0, 1) := by decide +kernel
theorem x124_85 {sc : aSc} {d : Nat} {r : aRes} {x0 : Nat} {a1 : Value} {a2 : Value} {st : List Value} {σ : aS} : Rn sc d 124 85 [.ref x0, a1, a2] st σ r ↔ Rn sc d 124 86 [.ref x0, a1, a2] (.ref x0 :: st) σ r := r_aload_n d124_85 rfl
theorem d124_86 : decode (mC 124) 86 = .ok (.invokevirtual 257, 3) := by decide +kernel
theorem x124_86 {sc : aSc} {d : Nat} {r : aRes} {L : List Value} {f : Nat → Nat → Int32} {g : Nat → Nat → Int64} {h1 h2 : Nat}   {o : Nat} (hK : KK[o]? = some (.inl 7)) : Rn sc d 124 86 L [.ref o] (cS f g h1 h2) r ↔ ∃ (σ3 : aS) (v : Option Value), Cl sc d 121 [.ref o] (cS f g h1 h2) (σ3, v) ∧ Rn sc d 124 89 L (v.toList ++ []) σ3 r := r_callV (vs := []) d124_86 (j := 121) rfl ⟨rfl, by decide, rfl, rfl⟩ (Nat.le_of_ble_eq_true rfl) hK
theorem d124_89 : decode (mC 124) 89 = .ok (.iconst 1, 1) := by decide +kernel
theorem x124_89 {sc : aSc} {d : Nat} {r : aRes} {L : List Value} {st : List Value} {σ : aS} : Rn sc d 124 89 L st σ r ↔ Rn sc d 124 90 L (.int 1 :: st) σ r := r_iconst d124_89 (by decide)
theorem d124_90 : decode (mC 124) 90 = .ok (.ireturn, 1) := by decide +kernel
theorem x124_90 {sc : aSc} {d : Nat} {r : aRes} {L : List Value} {σ : aS} {x : Int32} (hn : x &&& 1 = x) : Rn sc d 124 90 L [.int x] σ r ↔ r = (σ, some (.int x)) := r_iret d124_90 rfl (congrArg Value.int hn)
theorem d125_0 : decode (mC 125) 0 = .ok (.aload_n 0, 1) := by decide +kernel
theorem x125_0 {sc : aSc} {d : Nat} {r : aRes} {x0 : Nat} {a1 : Value} {a2 : Value} {a3 : Value} {st : List Value} {σ : aS} : Rn sc d 125 0 [.ref x0, a1, a2, a3] st σ r ↔ Rn sc d 125 1 [.ref x0, a1, a2, a3] (.ref x0 :: st) σ r := r_aload_n d125_0 rfl
theorem d125_1 : decode (mC 125) 1 = .ok (.iconst 0, 1) := by decide +kernel
theorem x125_1 {sc : aSc} {d : Nat} {r : aRes} {L : List Value} {st : List Value} {σ : aS} : Rn sc d 125 1 L st σ r ↔ Rn sc d 125 2 L (.int 0 :: st) σ r := r_iconst d125_1 (by decide)
theorem d125_2 : decode (mC 125) 2 = .ok (.putfield 86, 3) := by decide +kernel
theorem x125_2 {sc : aSc} {d : Nat} {r : aRes} {L : List Value} {st : List Value} {f : Nat → Nat → Int32} {g : Nat → Nat → Int64} {h1 h2 : Nat} {o : Nat} {v : Int32} (h17 : 17 ≤ o) (hK : KK[o]? = some (.inl 7)) : Rn sc d 125 2 L (.int v :: .ref o :: st) (cS f g h1 h2) r ↔ Rn sc d 125 5 L st (cS (u2 f o 25 v) g h1 h2) r := r_putI d125_2 (ci := 7) (k := 25) rfl (by decide) h17 hK
theorem d125_5 : decode (mC 125) 5 = .ok (.aload_n 0, 1) := by decide +kernel
theorem x125_5 {sc : aSc} {d : Nat} {r : aRes} {x0 : Nat} {a1 : Value} {a2 : Value} {a3 : Value} {st : List Value} {σ : aS} : Rn sc d 125 5 [.ref x0, a1, a2, a3] st σ r ↔ Rn sc d 125 6 [.ref x0, a1, a2, a3] (.ref x0 :: st) σ r := r_aload_n d125_5 rfl
theorem d125_6 : decode (mC 125) 6 = .ok (.iconst 0, 1) := by decide +kernel
theorem x125_6 {sc : aSc} {d : Nat} {r : aRes} {L : List Value} {st : List Value} {σ : aS} : Rn sc d 125 6 L st σ r ↔ Rn sc d 125 7 L (.int 0 :: st) σ r := r_iconst d125_6 (by decide)
theorem d125_7 : decode (mC 125) 7 = .ok (.putfield 89, 3) := by decide +kernel
theorem x125_7 {sc : aSc} {d : Nat} {r : aRes} {L : List Value} {st : List Value} {f : Nat → Nat → Int32} {g : Nat → Nat → Int64} {h1 h2 : Nat} {o : Nat} {v : Int32} (h17 : 17 ≤ o) (hK : KK[o]? = some (.inl 7)) : Rn sc d 125 7 L (.int v :: .ref o :: st) (cS f g h1 h2) r ↔ Rn sc d 125 10 L st (cS (u2 f o 26 v) g h1 h2) r := r_putI d125_7 (ci := 7) (k := 26) rfl (by decide) h17 hK
theorem d125_10 : decode (mC 125) 10 = .ok (.aload_n 0, 1) := by decide +kernel
theorem x125_10 {sc : aSc} {d : Nat} {r : aRes} {x0 : Nat} {a1 : Value} {a2 : Value} {a3 : Value} {st : List Value} {σ : aS} : Rn sc d 125 10 [.ref x0, a1, a2, a3] st σ r ↔ Rn sc d 125 11 [.ref x0, a1, a2, a3] (.ref x0 :: st) σ r := r_aload_n d125_10 rfl
theorem d125_11 : decode (mC 125) 11 = .ok (.getfield 71, 3) := by decide +kernel
theorem x125_11 {sc : aSc} {d : Nat} {r : aRes} {L : List Value} {st : List Value} {f : Nat → Nat → Int32} {g : Nat → Nat → Int64} {h1 h2 : Nat} {o : Nat} (hK : KK[o]? = some (.inl 7)) (hR : (RR h1 h2 o 20).isSome = true) : Rn sc d 125 11 L (.ref o :: st) (cS f g h1 h2) r ↔ Rn sc d 125 14 L (.ref (rf h1 h2 o 20) :: st) (cS f g h1 h2) r := r_getR2 d125_11 (ci := 7) (k := 20) rfl (by decide) (fun _ => rfl) hK hR
theorem d125_14 : decode (mC 125) 14 = .ok (.iload_n 1, 1) := by decide +kernel
theorem x125_14 {sc : aSc} {d : Nat} {r : aRes} {a0 : Value} {x1 : Int32} {a2 : Value} {a3 : Value} {st : List Value} {σ : aS} : Rn sc d 125 14 [a0, .int x1, a2, a3] st σ r ↔ Rn sc d 125 15 [a0, .int x1, a2, a3] (.int x1 :: st) σ r := r_iload_n d125_14 rfl
theorem d125_15 : decode (mC 125) 15 = .ok (.aload_n 0, 1) := by decide +kernel
theorem x125_15 {sc : aSc} {d : Nat} {r : aRes} {x0 : Nat} {a1 : Value} {a2 : Value} {a3 : Value} {st : List Value} {σ : aS} : Rn sc d 125 15 [.ref x0, a1, a2, a3] st σ r ↔ Rn sc d 125 16 [.ref x0, a1, a2, a3] (.ref x0 :: st) σ r := r_aload_n d125_15 rfl
theorem d125_16 : decode (mC 125) 16 = .ok (.getfield 83, 3) := by decide +kernel
theorem x125_16 {sc : aSc} {d : Nat} {r : aRes} {L : List Value} {st : List Value} {f : Nat → Nat → Int32} {g : Nat → Nat → Int64} {h1 h2 : Nat} {o : Nat} (h17 : 17 ≤ o) (hK : KK[o]? = some (.inl 7)) : Rn sc d 125 16 L (.ref o :: st) (cS f g h1 h2) r ↔ Rn sc d 125 19 L (.int (f o 24) :: st) (cS f g h1 h2) r := r_getI d125_16 (ci := 7) (k := 24) rfl (by decide) (fun _ => rfl) h17 hK
theorem d125_19 : decode (mC 125) 19 = .ok (.iastore, 1) := by decide +kernel
theorem x125_19 {sc : aSc} {d : Nat} {r : aRes} {L : List Value} {st : List Value} {f : Nat → Nat → Int32} {g : Nat → Nat → Int64} {h1 h2 : Nat} {a : Nat} {i : Int32} {x : Int32} (h17 : 17 ≤ a) (hA : isT9 .int a) (hi : inb i (aln a) = true) : Rn sc d 125 19 L (.int x :: .int i :: .ref a :: st) (cS f g h1 h2) r ↔ Rn sc d 125 20 L st (cS (u2 f a i.toNatClampNeg x) g h1 h2) r := r_iast d125_19 h17 hA hi
theorem d125_20 : decode (mC 125) 20 = .ok (.iconst 1, 1) := by decide +kernel
theorem x125_20 {sc : aSc} {d : Nat} {r : aRes} {L : List Value} {st : List Value} {σ : aS} : Rn sc d 125 20 L st σ r ↔ Rn sc d 125 21 L (.int 1 :: st) σ r := r_iconst d125_20 (by decide)
theorem d125_21 : decode (mC 125) 21 = .ok (.istore_n 2, 1) := by decide +kernel
theorem x125_21 {sc : aSc} {d : Nat} {r : aRes} {a0 : Value} {x1 : Int32} {a2 : Value} {a3 : Value} {st : List Value} {σ : aS} {y : Int32} : Rn sc d 125 21 [a0, .int x1, a2, a3] (.int y :: st) σ r ↔ Rn sc d 125 22 [a0, .int x1, .int y, a3] st σ r := r_istore_n d125_21 (Nat.le_of_ble_eq_true rfl) rfl
theorem d125_22 : decode (mC 125) 22 = .ok (.aload_n 0, 1) := by decide +kernel
theorem x125_22 {sc : aSc} {d : Nat} {r : aRes} {x0 : Nat} {a1 : Value} {a2 : Value} {a3 : Value} {st : List Value} {σ : aS} : Rn sc d 125 22 [.ref x0, a1, a2, a3] st σ r ↔ Rn sc d 125 23 [.ref x0, a1, a2, a3] (.ref x0 :: st) σ r := r_aload_n d125_22 rfl
theorem d125_23 : decode (mC 125) 23 = .ok (.invokevirtual 235, 3) := by decide +kernel
theorem x125_23 {sc : aSc} {d : Nat} {r : aRes} {L : List Value} {f : Nat → Nat → Int32} {g : Nat → Nat → Int64} {h1 h2 : Nat}   {o : Nat} (hK : KK[o]? = some (.inl 7)) : Rn sc d 125 23 L [.ref o] (cS f g h1 h2) r ↔ ∃ (σ3 : aS) (v : Option Value), Cl sc d 114 [.ref o] (cS f g h1 h2) (σ3, v) ∧ Rn sc d 125 26 L (v.toList ++ []) σ3 r := r_callV (vs := []) d125_23 (j := 114) rfl ⟨rfl, by decide, rfl, rfl⟩ (Nat.le_of_ble_eq_true rfl) hK
theorem d125_26 : decode (mC 125) 26 = .ok (.istore_n 3, 1) := by decide +kernel
theorem x125_26 {sc : aSc} {d : Nat} {r : aRes} {a0 : Value} {a1 : Value} {x2 : Int32} {a3 : Value} {st : List Value} {σ : aS} {y : Int32} : Rn sc d 125 26 [a0, a1, .int x2, a3] (.int y :: st) σ r ↔ Rn sc d 125 27 [a0, a1, .int x2, .int y] st σ r := r_istore_n d125_26 (Nat.le_of_ble_eq_true rfl) rfl
theorem d125_27 : decode (mC 125) 27 = .ok (.iload_n 2, 1) := by decide +kernel
theorem x125_27 {sc : aSc} {d : Nat} {r : aRes} {a0 : Value} {a1 : Value} {x2 : Int32} {a3 : Value} {st : List Value} {σ : aS} : Rn sc d 125 27 [a0, a1, .int x2, a3] st σ r ↔ Rn sc d 125 28 [a0, a1, .int x2, a3] (.int x2 :: st) σ r := r_iload_n d125_27 rfl
theorem d125_28 : decode (mC 125) 28 = .ok (.ifCond .eq 82, 3) := by decide +kernel
theorem x125_28 {sc : aSc} {d : Nat} {r : aRes} {L : List Value} {st : List Value} {σ : aS} {x : Int32} : Rn sc d 125 28 L (.int x :: st) σ r ↔ if x = 0 then Rn sc d 125 110 L st σ r else Rn sc d 125 31 L st σ r := r_if_eq d125_28 rfl
theorem d125_31 : decode (mC 125) 31 = .ok (.iload_n 3, 1) := by decide +kernel
theorem x125_31 {sc : aSc} {d : Nat} {r : aRes} {a0 : Value} {a1 : Value} {a2 : Value} {x3 : Int32} {st : List Value} {σ : aS} : Rn sc d 125 31 [a0, a1, a2, .int x3] st σ r ↔ Rn sc d 125 32 [a0, a1, a2, .int x3] (.int x3 :: st) σ r := r_iload_n d125_31 rfl
theorem d125_32 : decode (mC 125) 32 = .ok (.bipush 33, 2) := by decide +kernel
theorem x125_32 {sc : aSc} {d : Nat} {r : aRes} {L : List Value} {st : List Value} {σ : aS} : Rn sc d 125 32 L st σ r ↔ Rn sc d 125 34 L (.int 33 :: st) σ r := r_bipush d125_32 (by decide)
theorem d125_34 : decode (mC 125) 34 = .ok (.if_icmp .eq 9, 3) := by decide +kernel
theorem x125_34 {sc : aSc} {d : Nat} {r : aRes} {L : List Value} {st : List Value} {σ : aS} {x y : Int32} : Rn sc d 125 34 L (.int y :: .int x :: st) σ r ↔ if x = y then Rn sc d 125 43 L st σ r else Rn sc d 125 37 L st σ r := r_icmp_eq d125_34 rfl
theorem d125_37 : decode (mC 125) 37 = .ok (.iload_n 3, 1) := by decide +kernel
theorem x125_37 {sc : aSc} {d : Nat} {r : aRes} {a0 : Value} {a1 : Value} {a2 : Value} {x3 : Int32} {st : List Value} {σ : aS} : Rn sc d 125 37 [a0, a1, a2, .int x3] st σ r ↔ Rn sc d 125 38 [a0, a1, a2, .int x3] (.int x3 :: st) σ r := r_iload_n d125_37 rfl
theorem d125_38 : decode (mC 125) 38 = .ok (.bipush 40, 2) := by decide +kernel
theorem x125_38 {sc : aSc} {d : Nat} {r : aRes} {L : List Value} {st : List Value} {σ : aS} : Rn sc d 125 38 L st σ r ↔ Rn sc d 125 40 L (.int 40 :: st) σ r := r_bipush d125_38 (by decide)
theorem d125_40 : decode (mC 125) 40 = .ok (.if_icmp .ne 56, 3) := by decide +kernel
theorem x125_40 {sc : aSc} {d : Nat} {r : aRes} {L : List Value} {st : List Value} {σ : aS} {x y : Int32} : Rn sc d 125 40 L (.int y :: .int x :: st) σ r ↔ if x = y then Rn sc d 125 43 L st σ r else Rn sc d 125 96 L st σ r := r_icmp_ne d125_40 rfl
theorem d125_43 : decode (mC 125) 43 = .ok (.aload_n 0, 1) := by decide +kernel
theorem x125_43 {sc : aSc} {d : Nat} {r : aRes} {x0 : Nat} {a1 : Value} {a2 : Value} {a3 : Value} {st : List Value} {σ : aS} : Rn sc d 125 43 [.ref x0, a1, a2, a3] st σ r ↔ Rn sc d 125 44 [.ref x0, a1, a2, a3] (.ref x0 :: st) σ r := r_aload_n d125_43 rfl
theorem d125_44 : decode (mC 125) 44 = .ok (.getfield 89, 3) := by decide +kernel
theorem x125_44 {sc : aSc} {d : Nat} {r : aRes} {L : List Value} {st : List Value} {f : Nat → Nat → Int32} {g : Nat → Nat → Int64} {h1 h2 : Nat} {o : Nat} (h17 : 17 ≤ o) (hK : KK[o]? = some (.inl 7)) : Rn sc d 125 44 L (.ref o :: st) (cS f g h1 h2) r ↔ Rn sc d 125 47 L (.int (f o 26) :: st) (cS f g h1 h2) r := r_getI d125_44 (ci := 7) (k := 26) rfl (by decide) (fun _ => rfl) h17 hK
theorem d125_47 : decode (mC 125) 47 = .ok (.iconst 4, 1) := by decide +kernel
theorem x125_47 {sc : aSc} {d : Nat} {r : aRes} {L : List Value} {st : List Value} {σ : aS} : Rn sc d 125 47 L st σ r ↔ Rn sc d 125 48 L (.int 4 :: st) σ r := r_iconst d125_47 (by decide)
theorem d125_48 : decode (mC 125) 48 = .ok (.if_icmp .ne 5, 3) := by decide +kernel
theorem x125_48 {sc : aSc} {d : Nat} {r : aRes} {L : List Value} {st : List Value} {σ : aS} {x y : Int32} : Rn sc d 125 48 L (.int y :: .int x :: st) σ r ↔ if x = y then Rn sc d 125 51 L st σ r else Rn sc d 125 53 L st σ r := r_icmp_ne d125_48 rfl
theorem d125_51 : decode (mC 125) 51 = .ok (.iconst 0, 1) := by decide +kernel
theorem x125_51 {sc : aSc} {d : Nat} {r : aRes} {L : List Value} {st : List Value} {σ : aS} : Rn sc d 125 51 L st σ r ↔ Rn sc d 125 52 L (.int 0 :: st) σ r := r_iconst d125_51 (by decide)
theorem d125_52 : decode (mC 125) 52 = .ok (.ireturn, 1) := by decide +kernel
theorem x125_52 {sc : aSc} {d : Nat} {r : aRes} {L : List Value} {σ : aS} {x : Int32} (hn : x &&& 1 = x) : Rn sc d 125 52 L [.int x] σ r ↔ r = (σ, some (.int x)) := r_iret d125_52 rfl (congrArg Value.int hn)
theorem d125_53 : decode (mC 125) 53 = .ok (.aload_n 0, 1) := by decide +kernel
theorem x125_53 {sc : aSc} {d : Nat} {r : aRes} {x0 : Nat} {a1 : Value} {a2 : Value} {a3 : Value} {st : List Value} {σ : aS} : Rn sc d 125 53 [.ref x0, a1, a2, a3] st σ r ↔ Rn sc d 125 54 [.ref x0, a1, a2, a3] (.ref x0 :: st) σ r := r_aload_n d125_53 rfl
theorem d125_54 : decode (mC 125) 54 = .ok (.dup, 1) := by decide +kernel
theorem x125_54 {sc : aSc} {d : Nat} {r : aRes} {L : List Value} {st : List Value} {σ : aS} {y : Nat} : Rn sc d 125 54 L (.ref y :: st) σ r ↔ Rn sc d 125 55 L (.ref y :: .ref y :: st) σ r := r_dup d125_54 rfl
theorem d125_55 : decode (mC 125) 55 = .ok (.getfield 89, 3) := by decide +kernel
theorem x125_55 {sc : aSc} {d : Nat} {r : aRes} {L : List Value} {st : List Value} {f : Nat → Nat → Int32} {g : Nat → Nat → Int64} {h1 h2 : Nat} {o : Nat} (h17 : 17 ≤ o) (hK : KK[o]? = some (.inl 7)) : Rn sc d 125 55 L (.ref o :: st) (cS f g h1 h2) r ↔ Rn sc d 125 58 L (.int (f o 26) :: st) (cS f g h1 h2) r := r_getI d125_55 (ci := 7) (k := 26) rfl (by decide) (fun _ => rfl) h17 hK
theorem d125_58 : decode (mC 125) 58 = .ok (.iconst 1, 1) := by decide +kernel
theorem x125_58 {sc : aSc} {d : Nat} {r : aRes} {L : List Value} {st : List Value} {σ : aS} : Rn sc d 125 58 L st σ r ↔ Rn sc d 125 59 L (.int 1 :: st) σ r := r_iconst d125_58 (by decide)
theorem d125_59 : decode (mC 125) 59 = .ok (.iadd, 1) := by decide +kernel
theorem x125_59 {sc : aSc} {d : Nat} {r : aRes} {L : List Value} {st : List Value} {σ : aS} {x y : Int32} : Rn sc d 125 59 L (.int y :: .int x :: st) σ r ↔ Rn sc d 125 60 L (.int (x + y) :: st) σ r := r_iadd d125_59
theorem d125_60 : decode (mC 125) 60 = .ok (.putfield 89, 3) := by decide +kernel
theorem x125_60 {sc : aSc} {d : Nat} {r : aRes} {L : List Value} {st : List Value} {f : Nat → Nat → Int32} {g : Nat → Nat → Int64} {h1 h2 : Nat} {o : Nat} {v : Int32} (h17 : 17 ≤ o) (hK : KK[o]? = some (.inl 7)) : Rn sc d 125 60 L (.int v :: .ref o :: st) (cS f g h1 h2) r ↔ Rn sc d 125 63 L st (cS (u2 f o 26 v) g h1 h2) r := r_putI d125_60 (ci := 7) (k := 26) rfl (by decide) h17 hK
theorem d125_63 : decode (mC 125) 63 = .ok (.aload_n 0, 1) := by decide +kernel
theorem x125_63 {sc : aSc} {d : Nat} {r : aRes} {x0 : Nat} {a1 : Value} {a2 : Value} {a3 : Value} {st : List Value} {σ : aS} : Rn sc d 125 63 [.ref x0, a1, a2, a3] st σ r ↔ Rn sc d 125 64 [.ref x0, a1, a2, a3] (.ref x0 :: st) σ r := r_aload_n d125_63 rfl
theorem d125_64 : decode (mC 125) 64 = .ok (.getfield 80, 3) := by decide +kernel
theorem x125_64 {sc : aSc} {d : Nat} {r : aRes} {L : List Value} {st : List Value} {f : Nat → Nat → Int32} {g : Nat → Nat → Int64} {h1 h2 : Nat} {o : Nat} (hK : KK[o]? = some (.inl 7)) (hR : (RR h1 h2 o 23).isSome = true) : Rn sc d 125 64 L (.ref o :: st) (cS f g h1 h2) r ↔ Rn sc d 125 67 L (.ref (rf h1 h2 o 23) :: st) (cS f g h1 h2) r := r_getR2 d125_64 (ci := 7) (k := 23) rfl (by decide) (fun _ => rfl) hK hR
theorem d125_67 : decode (mC 125) 67 = .ok (.aload_n 0, 1) := by decide +kernel
theorem x125_67 {sc : aSc} {d : Nat} {r : aRes} {x0 : Nat} {a1 : Value} {a2 : Value} {a3 : Value} {st : List Value} {σ : aS} : Rn sc d 125 67 [.ref x0, a1, a2, a3] st σ r ↔ Rn sc d 125 68 [.ref x0, a1, a2, a3] (.ref x0 :: st) σ r := r_aload_n d125_67 rfl
theorem d125_68 : decode (mC 125) 68 = .ok (.getfield 86, 3) := by decide +kernel
theorem x125_68 {sc : aSc} {d : Nat} {r : aRes} {L : List Value} {st : List Value} {f : Nat → Nat → Int32} {g : Nat → Nat → Int64} {h1 h2 : Nat} {o : Nat} (h17 : 17 ≤ o) (hK : KK[o]? = some (.inl 7)) : Rn sc d 125 68 L (.ref o :: st) (cS f g h1 h2) r ↔ Rn sc d 125 71 L (.int (f o 25) :: st) (cS f g h1 h2) r := r_getI d125_68 (ci := 7) (k := 25) rfl (by decide) (fun _ => rfl) h17 hK
theorem d125_71 : decode (mC 125) 71 = .ok (.iload_n 3, 1) := by decide +kernel
theorem x125_71 {sc : aSc} {d : Nat} {r : aRes} {a0 : Value} {a1 : Value} {a2 : Value} {x3 : Int32} {st : List Value} {σ : aS} : Rn sc d 125 71 [a0, a1, a2, .int x3] st σ r ↔ Rn sc d 125 72 [a0, a1, a2, .int x3] (.int x3 :: st) σ r := r_iload_n d125_71 rfl
theorem d125_72 : decode (mC 125) 72 = .ok (.iastore, 1) := by decide +kernel
theorem x125_72 {sc : aSc} {d : Nat} {r : aRes} {L : List Value} {st : List Value} {f : Nat → Nat → Int32} {g : Nat → Nat → Int64} {h1 h2 : Nat} {a : Nat} {i : Int32} {x : Int32} (h17 : 17 ≤ a) (hA : isT9 .int a) (hi : inb i (aln a) = true) : Rn sc d 125 72 L (.int x :: .int i :: .ref a :: st) (cS f g h1 h2) r ↔ Rn sc d 125 73 L st (cS (u2 f a i.toNatClampNeg x) g h1 h2) r := r_iast d125_72 h17 hA hi
theorem d125_73 : decode (mC 125) 73 = .ok (.aload_n 0, 1) := by decide +kernel
theorem x125_73 {sc : aSc} {d : Nat} {r : aRes} {x0 : Nat} {a1 : Value} {a2 : Value} {a3 : Value} {st : List Value} {σ : aS} : Rn sc d 125 73 [.ref x0, a1, a2, a3] st σ r ↔ Rn sc d 125 74 [.ref x0, a1, a2, a3] (.ref x0 :: st) σ r := r_aload_n d125_73 rfl
theorem d125_74 : decode (mC 125) 74 = .ok (.dup, 1) := by decide +kernel
theorem x125_74 {sc : aSc} {d : Nat} {r : aRes} {L : List Value} {st : List Value} {σ : aS} {y : Nat} : Rn sc d 125 74 L (.ref y :: st) σ r ↔ Rn sc d 125 75 L (.ref y :: .ref y :: st) σ r := r_dup d125_74 rfl
theorem d125_75 : decode (mC 125) 75 = .ok (.getfield 86, 3) := by decide +kernel
theorem x125_75 {sc : aSc} {d : Nat} {r : aRes} {L : List Value} {st : List Value} {f : Nat → Nat → Int32} {g : Nat → Nat → Int64} {h1 h2 : Nat} {o : Nat} (h17 : 17 ≤ o) (hK : KK[o]? = some (.inl 7)) : Rn sc d 125 75 L (.ref o :: st) (cS f g h1 h2) r ↔ Rn sc d 125 78 L (.int (f o 25) :: st) (cS f g h1 h2) r := r_getI d125_75 (ci := 7) (k := 25) rfl (by decide) (fun _ => rfl) h17 hK
theorem d125_78 : decode (mC 125) 78 = .ok (.iconst 1, 1) := by decide +kernel
theorem x125_78 {sc : aSc} {d : Nat} {r : aRes} {L : List Value} {st : List Value} {σ : aS} : Rn sc d 125 78 L st σ r ↔ Rn sc d 125 79 L (.int 1 :: st) σ r := r_iconst d125_78 (by decide)
theorem d125_79 : decode (mC 125) 79 = .ok (.iadd, 1) := by decide +kernel
theorem x125_79 {sc : aSc} {d : Nat} {r : aRes} {L : List Value} {st : List Value} {σ : aS} {x y : Int32} : Rn sc d 125 79 L (.int y :: .int x :: st) σ r ↔ Rn sc d 125 80 L (.int (x + y) :: st) σ r := r_iadd d125_79
theorem d125_80 : decode (mC 125) 80 = .ok (.putfield 86, 3) := by decide +kernel
theorem x125_80 {sc : aSc} {d : Nat} {r : aRes} {L : List Value} {st : List Value} {f : Nat → Nat → Int32} {g : Nat → Nat → Int64} {h1 h2 : Nat} {o : Nat} {v : Int32} (h17 : 17 ≤ o) (hK : KK[o]? = some (.inl 7)) : Rn sc d 125 80 L (.int v :: .ref o :: st) (cS f g h1 h2) r ↔ Rn sc d 125 83 L st (cS (u2 f o 25 v) g h1 h2) r := r_putI d125_80 (ci := 7) (k := 25) rfl (by decide) h17 hK
theorem d125_83 : decode (mC 125) 83 = .ok (.aload_n 0, 1) := by decide +kernel
theorem x125_83 {sc : aSc} {d : Nat} {r : aRes} {x0 : Nat} {a1 : Value} {a2 : Value} {a3 : Value} {st : List Value} {σ : aS} : Rn sc d 125 83 [.ref x0, a1, a2, a3] st σ r ↔ Rn sc d 125 84 [.ref x0, a1, a2, a3] (.ref x0 :: st) σ r := r_aload_n d125_83 rfl
theorem d125_84 : decode (mC 125) 84 = .ok (.dup, 1) := by decide +kernel
theorem x125_84 {sc : aSc} {d : Nat} {r : aRes} {L : List Value} {st : List Value} {σ : aS} {y : Nat} : Rn sc d 125 84 L (.ref y :: st) σ r ↔ Rn sc d 125 85 L (.ref y :: .ref y :: st) σ r := r_dup d125_84 rfl
theorem d125_85 : decode (mC 125) 85 = .ok (.getfield 53, 3) := by decide +kernel
theorem x125_85 {sc : aSc} {d : Nat} {r : aRes} {L : List Value} {st : List Value} {f : Nat → Nat → Int32} {g : Nat → Nat → Int64} {h1 h2 : Nat} {o : Nat} (h17 : 17 ≤ o) (hK : KK[o]? = some (.inl 7)) : Rn sc d 125 85 L (.ref o :: st) (cS f g h1 h2) r ↔ Rn sc d 125 88 L (.int (f o 14) :: st) (cS f g h1 h2) r := r_getI d125_85 (ci := 7) (k := 14) rfl (by decide) (fun _ => rfl) h17 hK
theorem d125_88 : decode (mC 125) 88 = .ok (.iconst 1, 1) := by decide +kernel
theorem x125_88 {sc : aSc} {d : Nat} {r : aRes} {L : List Value} {st : List Value} {σ : aS} : Rn sc d 125 88 L st σ r ↔ Rn sc d 125 89 L (.int 1 :: st) σ r := r_iconst d125_88 (by decide)
theorem d125_89 : decode (mC 125) 89 = .ok (.iadd, 1) := by decide +kernel
theorem x125_89 {sc : aSc} {d : Nat} {r : aRes} {L : List Value} {st : List Value} {σ : aS} {x y : Int32} : Rn sc d 125 89 L (.int y :: .int x :: st) σ r ↔ Rn sc d 125 90 L (.int (x + y) :: st) σ r := r_iadd d125_89
theorem d125_90 : decode (mC 125) 90 = .ok (.putfield 53, 3) := by decide +kernel
theorem x125_90 {sc : aSc} {d : Nat} {r : aRes} {L : List Value} {st : List Value} {f : Nat → Nat → Int32} {g : Nat → Nat → Int64} {h1 h2 : Nat} {o : Nat} {v : Int32} (h17 : 17 ≤ o) (hK : KK[o]? = some (.inl 7)) : Rn sc d 125 90 L (.int v :: .ref o :: st) (cS f g h1 h2) r ↔ Rn sc d 125 93 L st (cS (u2 f o 14 v) g h1 h2) r := r_putI d125_90 (ci := 7) (k := 14) rfl (by decide) h17 hK
theorem d125_93 : decode (mC 125) 93 = .ok (.goto (-71), 3) := by decide +kernel
theorem x125_93 {sc : aSc} {d : Nat} {r : aRes} {L : List Value} {st : List Value} {σ : aS} : Rn sc d 125 93 L st σ r ↔ Rn sc d 125 22 L st σ r := r_goto d125_93 rfl
theorem d125_96 : decode (mC 125) 96 = .ok (.aload_n 0, 1) := by decide +kernel
theorem x125_96 {sc : aSc} {d : Nat} {r : aRes} {x0 : Nat} {a1 : Value} {a2 : Value} {a3 : Value} {st : List Value} {σ : aS} : Rn sc d 125 96 [.ref x0, a1, a2, a3] st σ r ↔ Rn sc d 125 97 [.ref x0, a1, a2, a3] (.ref x0 :: st) σ r := r_aload_n d125_96 rfl
theorem d125_97 : decode (mC 125) 97 = .ok (.invokevirtual 260, 3) := by decide +kernel
theorem x125_97 {sc : aSc} {d : Nat} {r : aRes} {L : List Value} {f : Nat → Nat → Int32} {g : Nat → Nat → Int64} {h1 h2 : Nat}   {o : Nat} (hK : KK[o]? = some (.inl 7)) : Rn sc d 125 97 L [.ref o] (cS f g h1 h2) r ↔ ∃ (σ3 : aS) (v : Option Value), Cl sc d 124 [.ref o] (cS f g h1 h2) (σ3, v) ∧ Rn sc d 125 100 L (v.toList ++ []) σ3 r := r_callV (vs := []) d125_97 (j := 124) rfl ⟨rfl, by decide, rfl, rfl⟩ (Nat.le_of_ble_eq_true rfl) hK
theorem d125_100 : decode (mC 125) 100 = .ok (.ifCond .eq 8, 3) := by decide +kernel
theorem x125_100 {sc : aSc} {d : Nat} {r : aRes} {L : List Value} {st : List Value} {σ : aS} {x : Int32} : Rn sc d 125 100 L (.int x :: st) σ r ↔ if x = 0 then Rn sc d 125 108 L st σ r else Rn sc d 125 103 L st σ r := r_if_eq d125_100 rfl
theorem d125_103 : decode (mC 125) 103 = .ok (.iconst 0, 1) := by decide +kernel
theorem x125_103 {sc : aSc} {d : Nat} {r : aRes} {L : List Value} {st : List Value} {σ : aS} : Rn sc d 125 103 L st σ r ↔ Rn sc d 125 104 L (.int 0 :: st) σ r := r_iconst d125_103 (by decide)
theorem d125_104 : decode (mC 125) 104 = .ok (.istore_n 2, 1) := by decide +kernel
theorem x125_104 {sc : aSc} {d : Nat} {r : aRes} {a0 : Value} {x1 : Int32} {a2 : Value} {a3 : Value} {st : List Value} {σ : aS} {y : Int32} : Rn sc d 125 104 [a0, .int x1, a2, a3] (.int y :: st) σ r ↔ Rn sc d 125 105 [a0, .int x1, .int y, a3] st σ r := r_istore_n d125_104 (Nat.le_of_ble_eq_true rfl) rfl
theorem d125_105 : decode (mC 125) 105 = .ok (.goto (-83), 3) := by decide +kernel
theorem x125_105 {sc : aSc} {d : Nat} {r : aRes} {L : List Value} {st : List Value} {σ : aS} : Rn sc d 125 105 L st σ r ↔ Rn sc d 125 22 L st σ r := r_goto d125_105 rfl
theorem d125_108 : decode (mC 125) 108 = .ok (.iconst 0, 1) := by decide +kernel
theorem x125_108 {sc : aSc} {d : Nat} {r : aRes} {L : List Value} {st : List Value} {σ : aS} : Rn sc d 125 108 L st σ r ↔ Rn sc d 125 109 L (.int 0 :: st) σ r := r_iconst d125_108 (by decide)
theorem d125_109 : decode (mC 125) 109 = .ok (.ireturn, 1) := by decide +kernel
theorem x125_109 {sc : aSc} {d : Nat} {r : aRes} {L : List Value} {σ : aS} {x : Int32} (hn : x &&& 1 = x) : Rn sc d 125 109 L [.int x] σ r ↔ r = (σ, some (.int x)) := r_iret d125_109 rfl (congrArg Value.int hn)
theorem d125_110 : decode (mC 125) 110 = .ok (.iload_n 3, 1) := by decide +kernel
theorem x125_110 {sc : aSc} {d : Nat} {r : aRes} {a0 : Value} {a1 : Value} {a2 : Value} {x3 : Int32} {st : List Value} {σ : aS} : Rn sc d 125 110 [a0, a1, a2, .int x3] st σ r ↔ Rn sc d 125 111 [a0, a1, a2, .int x3] (.int x3 :: st) σ r := r_iload_n d125_110 rfl
theorem d125_111 : decode (mC 125) 111 = .ok (.bipush 38, 2) := by decide +kernel
theorem x125_111 {sc : aSc} {d : Nat} {r : aRes} {L : List Value} {st : List Value} {σ : aS} : Rn sc d 125 111 L st σ r ↔ Rn sc d 125 113 L (.int 38 :: st) σ r := r_bipush d125_111 (by decide)
theorem d125_113 : decode (mC 125) 113 = .ok (.if_icmp .eq 9, 3) := by decide +kernel
theorem x125_113 {sc : aSc} {d : Nat} {r : aRes} {L : List Value} {st : List Value} {σ : aS} {x y : Int32} : Rn sc d 125 113 L (.int y :: .int x :: st) σ r ↔ if x = y then Rn sc d 125 122 L st σ r else Rn sc d 125 116 L st σ r := r_icmp_eq d125_113 rfl
theorem d125_116 : decode (mC 125) 116 = .ok (.iload_n 3, 1) := by decide +kernel
theorem x125_116 {sc : aSc} {d : Nat} {r : aRes} {a0 : Value} {a1 : Value} {a2 : Value} {x3 : Int32} {st : List Value} {σ : aS} : Rn sc d 125 116 [a0, a1, a2, .int x3] st σ r ↔ Rn sc d 125 117 [a0, a1, a2, .int x3] (.int x3 :: st) σ r := r_iload_n d125_116 rfl
theorem d125_117 : decode (mC 125) 117 = .ok (.bipush 124, 2) := by decide +kernel
theorem x125_117 {sc : aSc} {d : Nat} {r : aRes} {L : List Value} {st : List Value} {σ : aS} : Rn sc d 125 117 L st σ r ↔ Rn sc d 125 119 L (.int 124 :: st) σ r := r_bipush d125_117 (by decide)
theorem d125_119 : decode (mC 125) 119 = .ok (.if_icmp .ne 43, 3) := by decide +kernel
theorem x125_119 {sc : aSc} {d : Nat} {r : aRes} {L : List Value} {st : List Value} {σ : aS} {x y : Int32} : Rn sc d 125 119 L (.int y :: .int x :: st) σ r ↔ if x = y then Rn sc d 125 122 L st σ r else Rn sc d 125 162 L st σ r := r_icmp_ne d125_119 rfl
theorem d125_122 : decode (mC 125) 122 = .ok (.aload_n 0, 1) := by decide +kernel
theorem x125_122 {sc : aSc} {d : Nat} {r : aRes} {x0 : Nat} {a1 : Value} {a2 : Value} {a3 : Value} {st : List Value} {σ : aS} : Rn sc d 125 122 [.ref x0, a1, a2, a3] st σ r ↔ Rn sc d 125 123 [.ref x0, a1, a2, a3] (.ref x0 :: st) σ r := r_aload_n d125_122 rfl
theorem d125_123 : decode (mC 125) 123 = .ok (.iload_n 3, 1) := by decide +kernel
theorem x125_123 {sc : aSc} {d : Nat} {r : aRes} {a0 : Value} {a1 : Value} {a2 : Value} {x3 : Int32} {st : List Value} {σ : aS} : Rn sc d 125 123 [a0, a1, a2, .int x3] st σ r ↔ Rn sc d 125 124 [a0, a1, a2, .int x3] (.int x3 :: st) σ r := r_iload_n d125_123 rfl
theorem d125_124 : decode (mC 125) 124 = .ok (.invokevirtual 263, 3) := by decide +kernel
theorem x125_124 {sc : aSc} {d : Nat} {r : aRes} {L : List Value} {f : Nat → Nat → Int32} {g : Nat → Nat → Int64} {h1 h2 : Nat} {y0 : Int32}  {o : Nat} (hK : KK[o]? = some (.inl 7)) : Rn sc d 125 124 L [.int y0, .ref o] (cS f g h1 h2) r ↔ ∃ (σ3 : aS) (v : Option Value), Cl sc d 122 [.ref o, .int y0] (cS f g h1 h2) (σ3, v) ∧ Rn sc d 125 127 L (v.toList ++ []) σ3 r := r_callV (vs := [.int y0]) d125_124 (j := 122) rfl ⟨rfl, by decide, rfl, rfl⟩ (Nat.le_of_ble_eq_true rfl) hK
theorem d125_127 : decode (mC 125) 127 = .ok (.aload_n 0, 1) := by decide +kernel
theorem x125_127 {sc : aSc} {d : Nat} {r : aRes} {x0 : Nat} {a1 : Value} {a2 : Value} {a3 : Value} {st : List Value} {σ : aS} : Rn sc d 125 127 [.ref x0, a1, a2, a3] st σ r ↔ Rn sc d 125 128 [.ref x0, a1, a2, a3] (.ref x0 :: st) σ r := r_aload_n d125_127 rfl
theorem d125_128 : decode (mC 125) 128 = .ok (.getfield 80, 3) := by decide +kernel
theorem x125_128 {sc : aSc} {d : Nat} {r : aRes} {L : List Value} {st : List Value} {f : Nat → Nat → Int32} {g : Nat → Nat → Int64} {h1 h2 : Nat} {o : Nat} (hK : KK[o]? = some (.inl 7)) (hR : (RR h1 h2 o 23).isSome = true) : Rn sc d 125 128 L (.ref o :: st) (cS f g h1 h2) r ↔ Rn sc d 125 131 L (.ref (rf h1 h2 o 23) :: st) (cS f g h1 h2) r := r_getR2 d125_128 (ci := 7) (k := 23) rfl (by decide) (fun _ => rfl) hK hR
theorem d125_131 : decode (mC 125) 131 = .ok (.aload_n 0, 1) := by decide +kernel
theorem x125_131 {sc : aSc} {d : Nat} {r : aRes} {x0 : Nat} {a1 : Value} {a2 : Value} {a3 : Value} {st : List Value} {σ : aS} : Rn sc d 125 131 [.ref x0, a1, a2, a3] st σ r ↔ Rn sc d 125 132 [.ref x0, a1, a2, a3] (.ref x0 :: st) σ r := r_aload_n d125_131 rfl
theorem d125_132 : decode (mC 125) 132 = .ok (.getfield 86, 3) := by decide +kernel
theorem x125_132 {sc : aSc} {d : Nat} {r : aRes} {L : List Value} {st : List Value} {f : Nat → Nat → Int32} {g : Nat → Nat → Int64} {h1 h2 : Nat} {o : Nat} (h17 : 17 ≤ o) (hK : KK[o]? = some (.inl 7)) : Rn sc d 125 132 L (.ref o :: st) (cS f g h1 h2) r ↔ Rn sc d 125 135 L (.int (f o 25) :: st) (cS f g h1 h2) r := r_getI d125_132 (ci := 7) (k := 25) rfl (by decide) (fun _ => rfl) h17 hK
theorem d125_135 : decode (mC 125) 135 = .ok (.iload_n 3, 1) := by decide +kernel
theorem x125_135 {sc : aSc} {d : Nat} {r : aRes} {a0 : Value} {a1 : Value} {a2 : Value} {x3 : Int32} {st : List Value} {σ : aS} : Rn sc d 125 135 [a0, a1, a2, .int x3] st σ r ↔ Rn sc d 125 136 [a0, a1, a2, .int x3] (.int x3 :: st) σ r := r_iload_n d125_135 rfl
theorem d125_136 : decode (mC 125) 136 = .ok (.iastore, 1) := by decide +kernel
theorem x125_136 {sc : aSc} {d : Nat} {r : aRes} {L : List Value} {st : List Value} {f : Nat → Nat → Int32} {g : Nat → Nat → Int64} {h1 h2 : Nat} {a : Nat} {i : Int32} {x : Int32} (h17 : 17 ≤ a) (hA : isT9 .int a) (hi : inb i (aln a) = true) : Rn sc d 125 136 L (.int x :: .int i :: .ref a :: st) (cS f g h1 h2) r ↔ Rn sc d 125 137 L st (cS (u2 f a i.toNatClampNeg x) g h1 h2) r := r_iast d125_136 h17 hA hi
theorem d125_137 : decode (mC 125) 137 = .ok (.aload_n 0, 1) := by decide +kernel
theorem x125_137 {sc : aSc} {d : Nat} {r : aRes} {x0 : Nat} {a1 : Value} {a2 : Value} {a3 : Value} {st : List Value} {σ : aS} : Rn sc d 125 137 [.ref x0, a1, a2, a3] st σ r ↔ Rn sc d 125 138 [.ref x0, a1, a2, a3] (.ref x0 :: st) σ r := r_aload_n d125_137 rfl
theorem d125_138 : decode (mC 125) 138 = .ok (.dup, 1) := by decide +kernel
theorem x125_138 {sc : aSc} {d : Nat} {r : aRes} {L : List Value} {st : List Value} {σ : aS} {y : Nat} : Rn sc d 125 138 L (.ref y :: st) σ r ↔ Rn sc d 125 139 L (.ref y :: .ref y :: st) σ r := r_dup d125_138 rfl
theorem d125_139 : decode (mC 125) 139 = .ok (.getfield 86, 3) := by decide +kernel
theorem x125_139 {sc : aSc} {d : Nat} {r : aRes} {L : List Value} {st : List Value} {f : Nat → Nat → Int32} {g : Nat → Nat → Int64} {h1 h2 : Nat} {o : Nat} (h17 : 17 ≤ o) (hK : KK[o]? = some (.inl 7)) : Rn sc d 125 139 L (.ref o :: st) (cS f g h1 h2) r ↔ Rn sc d 125 142 L (.int (f o 25) :: st) (cS f g h1 h2) r := r_getI d125_139 (ci := 7) (k := 25) rfl (by decide) (fun _ => rfl) h17 hK
theorem d125_142 : decode (mC 125) 142 = .ok (.iconst 1, 1) := by decide +kernel
theorem x125_142 {sc : aSc} {d : Nat} {r : aRes} {L : List Value} {st : List Value} {σ : aS} : Rn sc d 125 142 L st σ r ↔ Rn sc d 125 143 L (.int 1 :: st) σ r := r_iconst d125_142 (by decide)
theorem d125_143 : decode (mC 125) 143 = .ok (.iadd, 1) := by decide +kernel
theorem x125_143 {sc : aSc} {d : Nat} {r : aRes} {L : List Value} {st : List Value} {σ : aS} {x y : Int32} : Rn sc d 125 143 L (.int y :: .int x :: st) σ r ↔ Rn sc d 125 144 L (.int (x + y) :: st) σ r := r_iadd d125_143
theorem d125_144 : decode (mC 125) 144 = .ok (.putfield 86, 3) := by decide +kernel
theorem x125_144 {sc : aSc} {d : Nat} {r : aRes} {L : List Value} {st : List Value} {f : Nat → Nat → Int32} {g : Nat → Nat → Int64} {h1 h2 : Nat} {o : Nat} {v : Int32} (h17 : 17 ≤ o) (hK : KK[o]? = some (.inl 7)) : Rn sc d 125 144 L (.int v :: .ref o :: st) (cS f g h1 h2) r ↔ Rn sc d 125 147 L st (cS (u2 f o 25 v) g h1 h2) r := r_putI d125_144 (ci := 7) (k := 25) rfl (by decide) h17 hK
theorem d125_147 : decode (mC 125) 147 = .ok (.iconst 1, 1) := by decide +kernel
theorem x125_147 {sc : aSc} {d : Nat} {r : aRes} {L : List Value} {st : List Value} {σ : aS} : Rn sc d 125 147 L st σ r ↔ Rn sc d 125 148 L (.int 1 :: st) σ r := r_iconst d125_147 (by decide)
theorem d125_148 : decode (mC 125) 148 = .ok (.istore_n 2, 1) := by decide +kernel
theorem x125_148 {sc : aSc} {d : Nat} {r : aRes} {a0 : Value} {x1 : Int32} {a2 : Value} {a3 : Value} {st : List Value} {σ : aS} {y : Int32} : Rn sc d 125 148 [a0, .int x1, a2, a3] (.int y :: st) σ r ↔ Rn sc d 125 149 [a0, .int x1, .int y, a3] st σ r := r_istore_n d125_148 (Nat.le_of_ble_eq_true rfl) rfl
theorem d125_149 : decode (mC 125) 149 = .ok (.aload_n 0, 1) := by decide +kernel
theorem x125_149 {sc : aSc} {d : Nat} {r : aRes} {x0 : Nat} {a1 : Value} {a2 : Value} {a3 : Value} {st : List Value} {σ : aS} : Rn sc d 125 149 [.ref x0, a1, a2, a3] st σ r ↔ Rn sc d 125 150 [.ref x0, a1, a2, a3] (.ref x0 :: st) σ r := r_aload_n d125_149 rfl
theorem d125_150 : decode (mC 125) 150 = .ok (.dup, 1) := by decide +kernel
theorem x125_150 {sc : aSc} {d : Nat} {r : aRes} {L : List Value} {st : List Value} {σ : aS} {y : Nat} : Rn sc d 125 150 L (.ref y :: st) σ r ↔ Rn sc d 125 151 L (.ref y :: .ref y :: st) σ r := r_dup d125_150 rfl
theorem d125_151 : decode (mC 125) 151 = .ok (.getfield 53, 3) := by decide +kernel
theorem x125_151 {sc : aSc} {d : Nat} {r : aRes} {L : List Value} {st : List Value} {f : Nat → Nat → Int32} {g : Nat → Nat → Int64} {h1 h2 : Nat} {o : Nat} (h17 : 17 ≤ o) (hK : KK[o]? = some (.inl 7)) : Rn sc d 125 151 L (.ref o :: st) (cS f g h1 h2) r ↔ Rn sc d 125 154 L (.int (f o 14) :: st) (cS f g h1 h2) r := r_getI d125_151 (ci := 7) (k := 14) rfl (by decide) (fun _ => rfl) h17 hK
theorem d125_154 : decode (mC 125) 154 = .ok (.iconst 1, 1) := by decide +kernel
theorem x125_154 {sc : aSc} {d : Nat} {r : aRes} {L : List Value} {st : List Value} {σ : aS} : Rn sc d 125 154 L st σ r ↔ Rn sc d 125 155 L (.int 1 :: st) σ r := r_iconst d125_154 (by decide)
theorem d125_155 : decode (mC 125) 155 = .ok (.iadd, 1) := by decide +kernel
theorem x125_155 {sc : aSc} {d : Nat} {r : aRes} {L : List Value} {st : List Value} {σ : aS} {x y : Int32} : Rn sc d 125 155 L (.int y :: .int x :: st) σ r ↔ Rn sc d 125 156 L (.int (x + y) :: st) σ r := r_iadd d125_155
theorem d125_156 : decode (mC 125) 156 = .ok (.putfield 53, 3) := by decide +kernel
theorem x125_156 {sc : aSc} {d : Nat} {r : aRes} {L : List Value} {st : List Value} {f : Nat → Nat → Int32} {g : Nat → Nat → Int64} {h1 h2 : Nat} {o : Nat} {v : Int32} (h17 : 17 ≤ o) (hK : KK[o]? = some (.inl 7)) : Rn sc d 125 156 L (.int v :: .ref o :: st) (cS f g h1 h2) r ↔ Rn sc d 125 159 L st (cS (u2 f o 14 v) g h1 h2) r := r_putI d125_156 (ci := 7) (k := 14) rfl (by decide) h17 hK
theorem d125_159 : decode (mC 125) 159 = .ok (.goto (-137), 3) := by decide +kernel
theorem x125_159 {sc : aSc} {d : Nat} {r : aRes} {L : List Value} {st : List Value} {σ : aS} : Rn sc d 125 159 L st σ r ↔ Rn sc d 125 22 L st σ r := r_goto d125_159 rfl
theorem d125_162 : decode (mC 125) 162 = .ok (.aload_n 0, 1) := by decide +kernel
theorem x125_162 {sc : aSc} {d : Nat} {r : aRes} {x0 : Nat} {a1 : Value} {a2 : Value} {a3 : Value} {st : List Value} {σ : aS} : Rn sc d 125 162 [.ref x0, a1, a2, a3] st σ r ↔ Rn sc d 125 163 [.ref x0, a1, a2, a3] (.ref x0 :: st) σ r := r_aload_n d125_162 rfl
theorem d125_163 : decode (mC 125) 163 = .ok (.bipush 124, 2) := by decide +kernel
theorem x125_163 {sc : aSc} {d : Nat} {r : aRes} {L : List Value} {st : List Value} {σ : aS} : Rn sc d 125 163 L st σ r ↔ Rn sc d 125 165 L (.int 124 :: st) σ r := r_bipush d125_163 (by decide)
theorem d125_165 : decode (mC 125) 165 = .ok (.invokevirtual 263, 3) := by decide +kernel
theorem x125_165 {sc : aSc} {d : Nat} {r : aRes} {L : List Value} {f : Nat → Nat → Int32} {g : Nat → Nat → Int64} {h1 h2 : Nat} {y0 : Int32}  {o : Nat} (hK : KK[o]? = some (.inl 7)) : Rn sc d 125 165 L [.int y0, .ref o] (cS f g h1 h2) r ↔ ∃ (σ3 : aS) (v : Option Value), Cl sc d 122 [.ref o, .int y0] (cS f g h1 h2) (σ3, v) ∧ Rn sc d 125 168 L (v.toList ++ []) σ3 r := r_callV (vs := [.int y0]) d125_165 (j := 122) rfl ⟨rfl, by decide, rfl, rfl⟩ (Nat.le_of_ble_eq_true rfl) hK
theorem d125_168 : decode (mC 125) 168 = .ok (.aload_n 0, 1) := by decide +kernel
theorem x125_168 {sc : aSc} {d : Nat} {r : aRes} {x0 : Nat} {a1 : Value} {a2 : Value} {a3 : Value} {st : List Value} {σ : aS} : Rn sc d 125 168 [.ref x0, a1, a2, a3] st σ r ↔ Rn sc d 125 169 [.ref x0, a1, a2, a3] (.ref x0 :: st) σ r := r_aload_n d125_168 rfl
theorem d125_169 : decode (mC 125) 169 = .ok (.getfield 74, 3) := by decide +kernel
theorem x125_169 {sc : aSc} {d : Nat} {r : aRes} {L : List Value} {st : List Value} {f : Nat → Nat → Int32} {g : Nat → Nat → Int64} {h1 h2 : Nat} {o : Nat} (hK : KK[o]? = some (.inl 7)) (hR : (RR h1 h2 o 21).isSome = true) : Rn sc d 125 169 L (.ref o :: st) (cS f g h1 h2) r ↔ Rn sc d 125 172 L (.ref (rf h1 h2 o 21) :: st) (cS f g h1 h2) r := r_getR2 d125_169 (ci := 7) (k := 21) rfl (by decide) (fun _ => rfl) hK hR
theorem d125_172 : decode (mC 125) 172 = .ok (.iload_n 1, 1) := by decide +kernel
theorem x125_172 {sc : aSc} {d : Nat} {r : aRes} {a0 : Value} {x1 : Int32} {a2 : Value} {a3 : Value} {st : List Value} {σ : aS} : Rn sc d 125 172 [a0, .int x1, a2, a3] st σ r ↔ Rn sc d 125 173 [a0, .int x1, a2, a3] (.int x1 :: st) σ r := r_iload_n d125_172 rfl
theorem d125_173 : decode (mC 125) 173 = .ok (.aload_n 0, 1) := by decide +kernel
theorem x125_173 {sc : aSc} {d : Nat} {r : aRes} {x0 : Nat} {a1 : Value} {a2 : Value} {a3 : Value} {st : List Value} {σ : aS} : Rn sc d 125 173 [.ref x0, a1, a2, a3] st σ r ↔ Rn sc d 125 174 [.ref x0, a1, a2, a3] (.ref x0 :: st) σ r := r_aload_n d125_173 rfl
theorem d125_174 : decode (mC 125) 174 = .ok (.getfield 83, 3) := by decide +kernel
theorem x125_174 {sc : aSc} {d : Nat} {r : aRes} {L : List Value} {st : List Value} {f : Nat → Nat → Int32} {g : Nat → Nat → Int64} {h1 h2 : Nat} {o : Nat} (h17 : 17 ≤ o) (hK : KK[o]? = some (.inl 7)) : Rn sc d 125 174 L (.ref o :: st) (cS f g h1 h2) r ↔ Rn sc d 125 177 L (.int (f o 24) :: st) (cS f g h1 h2) r := r_getI d125_174 (ci := 7) (k := 24) rfl (by decide) (fun _ => rfl) h17 hK
theorem d125_177 : decode (mC 125) 177 = .ok (.iastore, 1) := by decide +kernel
theorem x125_177 {sc : aSc} {d : Nat} {r : aRes} {L : List Value} {st : List Value} {f : Nat → Nat → Int32} {g : Nat → Nat → Int64} {h1 h2 : Nat} {a : Nat} {i : Int32} {x : Int32} (h17 : 17 ≤ a) (hA : isT9 .int a) (hi : inb i (aln a) = true) : Rn sc d 125 177 L (.int x :: .int i :: .ref a :: st) (cS f g h1 h2) r ↔ Rn sc d 125 178 L st (cS (u2 f a i.toNatClampNeg x) g h1 h2) r := r_iast d125_177 h17 hA hi
theorem d125_178 : decode (mC 125) 178 = .ok (.aload_n 0, 1) := by decide +kernel
theorem x125_178 {sc : aSc} {d : Nat} {r : aRes} {x0 : Nat} {a1 : Value} {a2 : Value} {a3 : Value} {st : List Value} {σ : aS} : Rn sc d 125 178 [.ref x0, a1, a2, a3] st σ r ↔ Rn sc d 125 179 [.ref x0, a1, a2, a3] (.ref x0 :: st) σ r := r_aload_n d125_178 rfl
theorem d125_179 : decode (mC 125) 179 = .ok (.getfield 86, 3) := by decide +kernel
theorem x125_179 {sc : aSc} {d : Nat} {r : aRes} {L : List Value} {st : List Value} {f : Nat → Nat → Int32} {g : Nat → Nat → Int64} {h1 h2 : Nat} {o : Nat} (h17 : 17 ≤ o) (hK : KK[o]? = some (.inl 7)) : Rn sc d 125 179 L (.ref o :: st) (cS f g h1 h2) r ↔ Rn sc d 125 182 L (.int (f o 25) :: st) (cS f g h1 h2) r := r_getI d125_179 (ci := 7) (k := 25) rfl (by decide) (fun _ => rfl) h17 hK
theorem d125_182 : decode (mC 125) 182 = .ok (.ifCond .ne 5, 3) := by decide +kernel
theorem x125_182 {sc : aSc} {d : Nat} {r : aRes} {L : List Value} {st : List Value} {σ : aS} {x : Int32} : Rn sc d 125 182 L (.int x :: st) σ r ↔ if x = 0 then Rn sc d 125 185 L st σ r else Rn sc d 125 187 L st σ r := r_if_ne d125_182 rfl
theorem d125_185 : decode (mC 125) 185 = .ok (.iconst 1, 1) := by decide +kernel
theorem x125_185 {sc : aSc} {d : Nat} {r : aRes} {L : List Value} {st : List Value} {σ : aS} : Rn sc d 125 185 L st σ r ↔ Rn sc d 125 186 L (.int 1 :: st) σ r := r_iconst d125_185 (by decide)
theorem d125_186 : decode (mC 125) 186 = .ok (.ireturn, 1) := by decide +kernel
theorem x125_186 {sc : aSc} {d : Nat} {r : aRes} {L : List Value} {σ : aS} {x : Int32} (hn : x &&& 1 = x) : Rn sc d 125 186 L [.int x] σ r ↔ r = (σ, some (.int x)) := r_iret d125_186 rfl (congrArg Value.int hn)
theorem d125_187 : decode (mC 125) 187 = .ok (.iload_n 3, 1) := by decide +kernel
theorem x125_187 {sc : aSc} {d : Nat} {r : aRes} {a0 : Value} {a1 : Value} {a2 : Value} {x3 : Int32} {st : List Value} {σ : aS} : Rn sc d 125 187 [a0, a1, a2, .int x3] st σ r ↔ Rn sc d 125 188 [a0, a1, a2, .int x3] (.int x3 :: st) σ r := r_iload_n d125_187 rfl
theorem d125_188 : decode (mC 125) 188 = .ok (.bipush 41, 2) := by decide +kernel
theorem x125_188 {sc : aSc} {d : Nat} {r : aRes} {L : List Value} {st : List Value} {σ : aS} : Rn sc d 125 188 L st σ r ↔ Rn sc d 125 190 L (.int 41 :: st) σ r := r_bipush d125_188 (by decide)
theorem d125_190 : decode (mC 125) 190 = .ok (.if_icmp .eq 5, 3) := by decide +kernel
theorem x125_190 {sc : aSc} {d : Nat} {r : aRes} {L : List Value} {st : List Value} {σ : aS} {x y : Int32} : Rn sc d 125 190 L (.int y :: .int x :: st) σ r ↔ if x = y then Rn sc d 125 195 L st σ r else Rn sc d 125 193 L st σ r := r_icmp_eq d125_190 rfl
theorem d125_193 : decode (mC 125) 193 = .ok (.iconst 0, 1) := by decide +kernel
theorem x125_193 {sc : aSc} {d : Nat} {r : aRes} {L : List Value} {st : List Value} {σ : aS} : Rn sc d 125 193 L st σ r ↔ Rn sc d 125 194 L (.int 0 :: st) σ r := r_iconst d125_193 (by decide)
theorem d125_194 : decode (mC 125) 194 = .ok (.ireturn, 1) := by decide +kernel
theorem x125_194 {sc : aSc} {d : Nat} {r : aRes} {L : List Value} {σ : aS} {x : Int32} (hn : x &&& 1 = x) : Rn sc d 125 194 L [.int x] σ r ↔ r = (σ, some (.int x)) := r_iret d125_194 rfl (congrArg Value.int hn)
theorem d125_195 : decode (mC 125) 195 = .ok (.aload_n 0, 1) := by decide +kernel
theorem x125_195 {sc : aSc} {d : Nat} {r : aRes} {x0 : Nat} {a1 : Value} {a2 : Value} {a3 : Value} {st : List Value} {σ : aS} : Rn sc d 125 195 [.ref x0, a1, a2, a3] st σ r ↔ Rn sc d 125 196 [.ref x0, a1, a2, a3] (.ref x0 :: st) σ r := r_aload_n d125_195 rfl
theorem d125_196 : decode (mC 125) 196 = .ok (.dup, 1) := by decide +kernel
theorem x125_196 {sc : aSc} {d : Nat} {r : aRes} {L : List Value} {st : List Value} {σ : aS} {y : Nat} : Rn sc d 125 196 L (.ref y :: st) σ r ↔ Rn sc d 125 197 L (.ref y :: .ref y :: st) σ r := r_dup d125_196 rfl
theorem d125_197 : decode (mC 125) 197 = .ok (.getfield 86, 3) := by decide +kernel
theorem x125_197 {sc : aSc} {d : Nat} {r : aRes} {L : List Value} {st : List Value} {f : Nat → Nat → Int32} {g : Nat → Nat → Int64} {h1 h2 : Nat} {o : Nat} (h17 : 17 ≤ o) (hK : KK[o]? = some (.inl 7)) : Rn sc d 125 197 L (.ref o :: st) (cS f g h1 h2) r ↔ Rn sc d 125 200 L (.int (f o 25) :: st) (cS f g h1 h2) r := r_getI d125_197 (ci := 7) (k := 25) rfl (by decide) (fun _ => rfl) h17 hK
theorem d125_200 : decode (mC 125) 200 = .ok (.iconst 1, 1) := by decide +kernel
theorem x125_200 {sc : aSc} {d : Nat} {r : aRes} {L : List Value} {st : List Value} {σ : aS} : Rn sc d 125 200 L st σ r ↔ Rn sc d 125 201 L (.int 1 :: st) σ r := r_iconst d125_200 (by decide)
theorem d125_201 : decode (mC 125) 201 = .ok (.isub, 1) := by decide +kernel
theorem x125_201 {sc : aSc} {d : Nat} {r : aRes} {L : List Value} {st : List Value} {σ : aS} {x y : Int32} : Rn sc d 125 201 L (.int y :: .int x :: st) σ r ↔ Rn sc d 125 202 L (.int (x - y) :: st) σ r := r_isub d125_201
theorem d125_202 : decode (mC 125) 202 = .ok (.putfield 86, 3) := by decide +kernel
theorem x125_202 {sc : aSc} {d : Nat} {r : aRes} {L : List Value} {st : List Value} {f : Nat → Nat → Int32} {g : Nat → Nat → Int64} {h1 h2 : Nat} {o : Nat} {v : Int32} (h17 : 17 ≤ o) (hK : KK[o]? = some (.inl 7)) : Rn sc d 125 202 L (.int v :: .ref o :: st) (cS f g h1 h2) r ↔ Rn sc d 125 205 L st (cS (u2 f o 25 v) g h1 h2) r := r_putI d125_202 (ci := 7) (k := 25) rfl (by decide) h17 hK
theorem d125_205 : decode (mC 125) 205 = .ok (.aload_n 0, 1) := by decide +kernel
theorem x125_205 {sc : aSc} {d : Nat} {r : aRes} {x0 : Nat} {a1 : Value} {a2 : Value} {a3 : Value} {st : List Value} {σ : aS} : Rn sc d 125 205 [.ref x0, a1, a2, a3] st σ r ↔ Rn sc d 125 206 [.ref x0, a1, a2, a3] (.ref x0 :: st) σ r := r_aload_n d125_205 rfl
theorem d125_206 : decode (mC 125) 206 = .ok (.dup, 1) := by decide +kernel
theorem x125_206 {sc : aSc} {d : Nat} {r : aRes} {L : List Value} {st : List Value} {σ : aS} {y : Nat} : Rn sc d 125 206 L (.ref y :: st) σ r ↔ Rn sc d 125 207 L (.ref y :: .ref y :: st) σ r := r_dup d125_206 rfl
theorem d125_207 : decode (mC 125) 207 = .ok (.getfield 89, 3) := by decide +kernel
theorem x125_207 {sc : aSc} {d : Nat} {r : aRes} {L : List Value} {st : List Value} {f : Nat → Nat → Int32} {g : Nat → Nat → Int64} {h1 h2 : Nat} {o : Nat} (h17 : 17 ≤ o) (hK : KK[o]? = some (.inl 7)) : Rn sc d 125 207 L (.ref o :: st) (cS f g h1 h2) r ↔ Rn sc d 125 210 L (.int (f o 26) :: st) (cS f g h1 h2) r := r_getI d125_207 (ci := 7) (k := 26) rfl (by decide) (fun _ => rfl) h17 hK
theorem d125_210 : decode (mC 125) 210 = .ok (.iconst 1, 1) := by decide +kernel
theorem x125_210 {sc : aSc} {d : Nat} {r : aRes} {L : List Value} {st : List Value} {σ : aS} : Rn sc d 125 210 L st σ r ↔ Rn sc d 125 211 L (.int 1 :: st) σ r := r_iconst d125_210 (by decide)
theorem d125_211 : decode (mC 125) 211 = .ok (.isub, 1) := by decide +kernel
theorem x125_211 {sc : aSc} {d : Nat} {r : aRes} {L : List Value} {st : List Value} {σ : aS} {x y : Int32} : Rn sc d 125 211 L (.int y :: .int x :: st) σ r ↔ Rn sc d 125 212 L (.int (x - y) :: st) σ r := r_isub d125_211
theorem d125_212 : decode (mC 125) 212 = .ok (.putfield 89, 3) := by decide +kernel
theorem x125_212 {sc : aSc} {d : Nat} {r : aRes} {L : List Value} {st : List Value} {f : Nat → Nat → Int32} {g : Nat → Nat → Int64} {h1 h2 : Nat} {o : Nat} {v : Int32} (h17 : 17 ≤ o) (hK : KK[o]? = some (.inl 7)) : Rn sc d 125 212 L (.int v :: .ref o :: st) (cS f g h1 h2) r ↔ Rn sc d 125 215 L st (cS (u2 f o 26 v) g h1 h2) r := r_putI d125_212 (ci := 7) (k := 26) rfl (by decide) h17 hK
theorem d125_215 : decode (mC 125) 215 = .ok (.aload_n 0, 1) := by decide +kernel
theorem x125_215 {sc : aSc} {d : Nat} {r : aRes} {x0 : Nat} {a1 : Value} {a2 : Value} {a3 : Value} {st : List Value} {σ : aS} : Rn sc d 125 215 [.ref x0, a1, a2, a3] st σ r ↔ Rn sc d 125 216 [.ref x0, a1, a2, a3] (.ref x0 :: st) σ r := r_aload_n d125_215 rfl
theorem d125_216 : decode (mC 125) 216 = .ok (.dup, 1) := by decide +kernel
theorem x125_216 {sc : aSc} {d : Nat} {r : aRes} {L : List Value} {st : List Value} {σ : aS} {y : Nat} : Rn sc d 125 216 L (.ref y :: st) σ r ↔ Rn sc d 125 217 L (.ref y :: .ref y :: st) σ r := r_dup d125_216 rfl
theorem d125_217 : decode (mC 125) 217 = .ok (.getfield 53, 3) := by decide +kernel
theorem x125_217 {sc : aSc} {d : Nat} {r : aRes} {L : List Value} {st : List Value} {f : Nat → Nat → Int32} {g : Nat → Nat → Int64} {h1 h2 : Nat} {o : Nat} (h17 : 17 ≤ o) (hK : KK[o]? = some (.inl 7)) : Rn sc d 125 217 L (.ref o :: st) (cS f g h1 h2) r ↔ Rn sc d 125 220 L (.int (f o 14) :: st) (cS f g h1 h2) r := r_getI d125_217 (ci := 7) (k := 14) rfl (by decide) (fun _ => rfl) h17 hK
theorem d125_220 : decode (mC 125) 220 = .ok (.iconst 1, 1) := by decide +kernel
theorem x125_220 {sc : aSc} {d : Nat} {r : aRes} {L : List Value} {st : List Value} {σ : aS} : Rn sc d 125 220 L st σ r ↔ Rn sc d 125 221 L (.int 1 :: st) σ r := r_iconst d125_220 (by decide)
theorem d125_221 : decode (mC 125) 221 = .ok (.iadd, 1) := by decide +kernel
theorem x125_221 {sc : aSc} {d : Nat} {r : aRes} {L : List Value} {st : List Value} {σ : aS} {x y : Int32} : Rn sc d 125 221 L (.int y :: .int x :: st) σ r ↔ Rn sc d 125 222 L (.int (x + y) :: st) σ r := r_iadd d125_221
theorem d125_222 : decode (mC 125) 222 = .ok (.putfield 53, 3) := by decide +kernel
theorem x125_222 {sc : aSc} {d : Nat} {r : aRes} {L : List Value} {st : List Value} {f : Nat → Nat → Int32} {g : Nat → Nat → Int64} {h1 h2 : Nat} {o : Nat} {v : Int32} (h17 : 17 ≤ o) (hK : KK[o]? = some (.inl 7)) : Rn sc d 125 222 L (.int v :: .ref o :: st) (cS f g h1 h2) r ↔ Rn sc d 125 225 L st (cS (u2 f o 14 v) g h1 h2) r := r_putI d125_222 (ci := 7) (k := 14) rfl (by decide) h17 hK
theorem d125_225 : decode (mC 125) 225 = .ok (.aload_n 0, 1) := by decide +kernel
theorem x125_225 {sc : aSc} {d : Nat} {r : aRes} {x0 : Nat} {a1 : Value} {a2 : Value} {a3 : Value} {st : List Value} {σ : aS} : Rn sc d 125 225 [.ref x0, a1, a2, a3] st σ r ↔ Rn sc d 125 226 [.ref x0, a1, a2, a3] (.ref x0 :: st) σ r := r_aload_n d125_225 rfl
theorem d125_226 : decode (mC 125) 226 = .ok (.invokevirtual 257, 3) := by decide +kernel
theorem x125_226 {sc : aSc} {d : Nat} {r : aRes} {L : List Value} {f : Nat → Nat → Int32} {g : Nat → Nat → Int64} {h1 h2 : Nat}   {o : Nat} (hK : KK[o]? = some (.inl 7)) : Rn sc d 125 226 L [.ref o] (cS f g h1 h2) r ↔ ∃ (σ3 : aS) (v : Option Value), Cl sc d 121 [.ref o] (cS f g h1 h2) (σ3, v) ∧ Rn sc d 125 229 L (v.toList ++ []) σ3 r := r_callV (vs := []) d125_226 (j := 121) rfl ⟨rfl, by decide, rfl, rfl⟩ (Nat.le_of_ble_eq_true rfl) hK
theorem d125_229 : decode (mC 125) 229 = .ok (.goto (-207), 3) := by decide +kernel
theorem x125_229 {sc : aSc} {d : Nat} {r : aRes} {L : List Value} {st : List Value} {σ : aS} : Rn sc d 125 229 L st σ r ↔ Rn sc d 125 22 L st σ r := r_goto d125_229 rfl
theorem d126_0 : decode (mC 126) 0 = .ok (.aload_n 0, 1) := by decide +kernel
theorem x126_0 {sc : aSc} {d : Nat} {r : aRes} {x0 : Nat} {a1 : Value} {a2 : Value} {st : List Value} {σ : aS} : Rn sc d 126 0 [.ref x0, a1, a2] st σ r ↔ Rn sc d 126 1 [.ref x0, a1, a2] (.ref x0 :: st) σ r := r_aload_n d126_0 rfl
theorem d126_1 : decode (mC 126) 1 = .ok (.invokevirtual 266, 3) := by decide +kernel
theorem x126_1 {sc : aSc} {d : Nat} {r : aRes} {L : List Value} {f : Nat → Nat → Int32} {g : Nat → Nat → Int64} {h1 h2 : Nat}   {o : Nat} (hK : KK[o]? = some (.inl 7)) : Rn sc d 126 1 L [.ref o] (cS f g h1 h2) r ↔ ∃ (σ3 : aS) (v : Option Value), Cl sc d 115 [.ref o] (cS f g h1 h2) (σ3, v) ∧ Rn sc d 126 4 L (v.toList ++ []) σ3 r := r_callV (vs := []) d126_1 (j := 115) rfl ⟨rfl, by decide, rfl, rfl⟩ (Nat.le_of_ble_eq_true rfl) hK
theorem d126_4 : decode (mC 126) 4 = .ok (.istore_n 2, 1) := by decide +kernel
theorem x126_4 {sc : aSc} {d : Nat} {r : aRes} {a0 : Value} {x1 : Int32} {a2 : Value} {st : List Value} {σ : aS} {y : Int32} : Rn sc d 126 4 [a0, .int x1, a2] (.int y :: st) σ r ↔ Rn sc d 126 5 [a0, .int x1, .int y] st σ r := r_istore_n d126_4 (Nat.le_of_ble_eq_true rfl) rfl
theorem d126_5 : decode (mC 126) 5 = .ok (.aload_n 0, 1) := by decide +kernel
theorem x126_5 {sc : aSc} {d : Nat} {r : aRes} {x0 : Nat} {a1 : Value} {a2 : Value} {st : List Value} {σ : aS} : Rn sc d 126 5 [.ref x0, a1, a2] st σ r ↔ Rn sc d 126 6 [.ref x0, a1, a2] (.ref x0 :: st) σ r := r_aload_n d126_5 rfl
theorem d126_6 : decode (mC 126) 6 = .ok (.invokevirtual 235, 3) := by decide +kernel
theorem x126_6 {sc : aSc} {d : Nat} {r : aRes} {L : List Value} {f : Nat → Nat → Int32} {g : Nat → Nat → Int64} {h1 h2 : Nat}   {o : Nat} (hK : KK[o]? = some (.inl 7)) : Rn sc d 126 6 L [.ref o] (cS f g h1 h2) r ↔ ∃ (σ3 : aS) (v : Option Value), Cl sc d 114 [.ref o] (cS f g h1 h2) (σ3, v) ∧ Rn sc d 126 9 L (v.toList ++ []) σ3 r := r_callV (vs := []) d126_6 (j := 114) rfl ⟨rfl, by decide, rfl, rfl⟩ (Nat.le_of_ble_eq_true rfl) hK
theorem d126_9 : decode (mC 126) 9 = .ok (.lookupswitch 81 #[(110, 66), (115, 27)], 27) := by decide +kernel
theorem x126_9 {sc : aSc} {d : Nat} {r : aRes} {L : List Value} {st : List Value} {σ : aS} {x : Int32} : Rn sc d 126 9 L (.int x :: st) σ r ↔ (if x = 110 then Rn sc d 126 75 L st σ r else (if x = 115 then Rn sc d 126 36 L st σ r else Rn sc d 126 90 L st σ r)) := by
  by_cases c0 : x = 110
  · subst c0; simp only [if_pos]; exact r_lsw d126_9 (t := 75) rfl
  rw [if_neg c0]
  by_cases c1 : x = 115
  · subst c1; simp only [if_pos]; exact r_lsw d126_9 (t := 36) rfl
  rw [if_neg c1]
  refine r_lsw d126_9 (t := 90) ?_
  have e0 : x.toInt ≠ 110 := fun z => c0 (Int32.toInt_inj.mp z)
  have e1 : x.toInt ≠ 115 := fun z => c1 (Int32.toInt_inj.mp z)
  simp [lwt, Op.lookupswitch.offset, jt, e0, Ne.symm e0, e1, Ne.symm e1]
theorem d126_36 : decode (mC 126) 36 = .ok (.aload_n 0, 1) := by decide +kernel
theorem x126_36 {sc : aSc} {d : Nat} {r : aRes} {x0 : Nat} {a1 : Value} {a2 : Value} {st : List Value} {σ : aS} : Rn sc d 126 36 [.ref x0, a1, a2] st σ r ↔ Rn sc d 126 37 [.ref x0, a1, a2] (.ref x0 :: st) σ r := r_aload_n d126_36 rfl
theorem d126_37 : decode (mC 126) 37 = .ok (.getfield 65, 3) := by decide +kernel
theorem x126_37 {sc : aSc} {d : Nat} {r : aRes} {L : List Value} {st : List Value} {f : Nat → Nat → Int32} {g : Nat → Nat → Int64} {h1 h2 : Nat} {o : Nat} (hK : KK[o]? = some (.inl 7)) (hR : (RR h1 h2 o 18).isSome = true) : Rn sc d 126 37 L (.ref o :: st) (cS f g h1 h2) r ↔ Rn sc d 126 40 L (.ref (rf h1 h2 o 18) :: st) (cS f g h1 h2) r := r_getR2 d126_37 (ci := 7) (k := 18) rfl (by decide) (fun _ => rfl) hK hR
theorem d126_40 : decode (mC 126) 40 = .ok (.iload_n 1, 1) := by decide +kernel
theorem x126_40 {sc : aSc} {d : Nat} {r : aRes} {a0 : Value} {x1 : Int32} {a2 : Value} {st : List Value} {σ : aS} : Rn sc d 126 40 [a0, .int x1, a2] st σ r ↔ Rn sc d 126 41 [a0, .int x1, a2] (.int x1 :: st) σ r := r_iload_n d126_40 rfl
theorem d126_41 : decode (mC 126) 41 = .ok (.iload_n 2, 1) := by decide +kernel
theorem x126_41 {sc : aSc} {d : Nat} {r : aRes} {a0 : Value} {a1 : Value} {x2 : Int32} {st : List Value} {σ : aS} : Rn sc d 126 41 [a0, a1, .int x2] st σ r ↔ Rn sc d 126 42 [a0, a1, .int x2] (.int x2 :: st) σ r := r_iload_n d126_41 rfl
theorem d126_42 : decode (mC 126) 42 = .ok (.bipush 108, 2) := by decide +kernel
theorem x126_42 {sc : aSc} {d : Nat} {r : aRes} {L : List Value} {st : List Value} {σ : aS} : Rn sc d 126 42 L st σ r ↔ Rn sc d 126 44 L (.int 108 :: st) σ r := r_bipush d126_42 (by decide)
theorem d126_44 : decode (mC 126) 44 = .ok (.if_icmp .ne 7, 3) := by decide +kernel
theorem x126_44 {sc : aSc} {d : Nat} {r : aRes} {L : List Value} {st : List Value} {σ : aS} {x y : Int32} : Rn sc d 126 44 L (.int y :: .int x :: st) σ r ↔ if x = y then Rn sc d 126 47 L st σ r else Rn sc d 126 51 L st σ r := r_icmp_ne d126_44 rfl
theorem d126_47 : decode (mC 126) 47 = .ok (.iconst 1, 1) := by decide +kernel
theorem x126_47 {sc : aSc} {d : Nat} {r : aRes} {L : List Value} {st : List Value} {σ : aS} : Rn sc d 126 47 L st σ r ↔ Rn sc d 126 48 L (.int 1 :: st) σ r := r_iconst d126_47 (by decide)
theorem d126_48 : decode (mC 126) 48 = .ok (.goto 4, 3) := by decide +kernel
theorem x126_48 {sc : aSc} {d : Nat} {r : aRes} {L : List Value} {st : List Value} {σ : aS} : Rn sc d 126 48 L st σ r ↔ Rn sc d 126 52 L st σ r := r_goto d126_48 rfl
theorem d126_51 : decode (mC 126) 51 = .ok (.iconst 0, 1) := by decide +kernel
theorem x126_51 {sc : aSc} {d : Nat} {r : aRes} {L : List Value} {st : List Value} {σ : aS} : Rn sc d 126 51 L st σ r ↔ Rn sc d 126 52 L (.int 0 :: st) σ r := r_iconst d126_51 (by decide)
theorem d126_52 : decode (mC 126) 52 = .ok (.iastore, 1) := by decide +kernel
theorem x126_52 {sc : aSc} {d : Nat} {r : aRes} {L : List Value} {st : List Value} {f : Nat → Nat → Int32} {g : Nat → Nat → Int64} {h1 h2 : Nat} {a : Nat} {i : Int32} {x : Int32} (h17 : 17 ≤ a) (hA : isT9 .int a) (hi : inb i (aln a) = true) : Rn sc d 126 52 L (.int x :: .int i :: .ref a :: st) (cS f g h1 h2) r ↔ Rn sc d 126 53 L st (cS (u2 f a i.toNatClampNeg x) g h1 h2) r := r_iast d126_52 h17 hA hi
theorem d126_53 : decode (mC 126) 53 = .ok (.iload_n 2, 1) := by decide +kernel
theorem x126_53 {sc : aSc} {d : Nat} {r : aRes} {a0 : Value} {a1 : Value} {x2 : Int32} {st : List Value} {σ : aS} : Rn sc d 126 53 [a0, a1, .int x2] st σ r ↔ Rn sc d 126 54 [a0, a1, .int x2] (.int x2 :: st) σ r := r_iload_n d126_53 rfl
theorem d126_54 : decode (mC 126) 54 = .ok (.bipush 108, 2) := by decide +kernel
theorem x126_54 {sc : aSc} {d : Nat} {r : aRes} {L : List Value} {st : List Value} {σ : aS} : Rn sc d 126 54 L st σ r ↔ Rn sc d 126 56 L (.int 108 :: st) σ r := r_bipush d126_54 (by decide)
theorem d126_56 : decode (mC 126) 56 = .ok (.if_icmp .ne 12, 3) := by decide +kernel
theorem x126_56 {sc : aSc} {d : Nat} {r : aRes} {L : List Value} {st : List Value} {σ : aS} {x y : Int32} : Rn sc d 126 56 L (.int y :: .int x :: st) σ r ↔ if x = y then Rn sc d 126 59 L st σ r else Rn sc d 126 68 L st σ r := r_icmp_ne d126_56 rfl
theorem d126_59 : decode (mC 126) 59 = .ok (.aload_n 0, 1) := by decide +kernel
theorem x126_59 {sc : aSc} {d : Nat} {r : aRes} {x0 : Nat} {a1 : Value} {a2 : Value} {st : List Value} {σ : aS} : Rn sc d 126 59 [.ref x0, a1, a2] st σ r ↔ Rn sc d 126 60 [.ref x0, a1, a2] (.ref x0 :: st) σ r := r_aload_n d126_59 rfl
theorem d126_60 : decode (mC 126) 60 = .ok (.iconst 4, 1) := by decide +kernel
theorem x126_60 {sc : aSc} {d : Nat} {r : aRes} {L : List Value} {st : List Value} {σ : aS} : Rn sc d 126 60 L st σ r ↔ Rn sc d 126 61 L (.int 4 :: st) σ r := r_iconst d126_60 (by decide)
theorem d126_61 : decode (mC 126) 61 = .ok (.iconst 5, 1) := by decide +kernel
theorem x126_61 {sc : aSc} {d : Nat} {r : aRes} {L : List Value} {st : List Value} {σ : aS} : Rn sc d 126 61 L st σ r ↔ Rn sc d 126 62 L (.int 5 :: st) σ r := r_iconst d126_61 (by decide)
theorem d126_62 : decode (mC 126) 62 = .ok (.invokevirtual 269, 3) := by decide +kernel
theorem x126_62 {sc : aSc} {d : Nat} {r : aRes} {L : List Value} {f : Nat → Nat → Int32} {g : Nat → Nat → Int64} {h1 h2 : Nat} {y0 : Int32} {y1 : Int32}  {o : Nat} (hK : KK[o]? = some (.inl 7)) : Rn sc d 126 62 L [.int y0, .int y1, .ref o] (cS f g h1 h2) r ↔ ∃ (σ3 : aS) (v : Option Value), Cl sc d 117 [.ref o, .int y1, .int y0] (cS f g h1 h2) (σ3, v) ∧ Rn sc d 126 65 L (v.toList ++ []) σ3 r := r_callV (vs := [.int y0, .int y1]) d126_62 (j := 117) rfl ⟨rfl, by decide, rfl, rfl⟩ (Nat.le_of_ble_eq_true rfl) hK
theorem d126_65 : decode (mC 126) 65 = .ok (.goto 9, 3) := by decide +kernel
theorem x126_65 {sc : aSc} {d : Nat} {r : aRes} {L : List Value} {st : List Value} {σ : aS} : Rn sc d 126 65 L st σ r ↔ Rn sc d 126 74 L st σ r := r_goto d126_65 rfl
theorem d126_68 : decode (mC 126) 68 = .ok (.aload_n 0, 1) := by decide +kernel
theorem x126_68 {sc : aSc} {d : Nat} {r : aRes} {x0 : Nat} {a1 : Value} {a2 : Value} {st : List Value} {σ : aS} : Rn sc d 126 68 [.ref x0, a1, a2] st σ r ↔ Rn sc d 126 69 [.ref x0, a1, a2] (.ref x0 :: st) σ r := r_aload_n d126_68 rfl
theorem d126_69 : decode (mC 126) 69 = .ok (.iconst 0, 1) := by decide +kernel
theorem x126_69 {sc : aSc} {d : Nat} {r : aRes} {L : List Value} {st : List Value} {σ : aS} : Rn sc d 126 69 L st σ r ↔ Rn sc d 126 70 L (.int 0 :: st) σ r := r_iconst d126_69 (by decide)
theorem d126_70 : decode (mC 126) 70 = .ok (.iconst 4, 1) := by decide +kernel
theorem x126_70 {sc : aSc} {d : Nat} {r : aRes} {L : List Value} {st : List Value} {σ : aS} : Rn sc d 126 70 L st σ r ↔ Rn sc d 126 71 L (.int 4 :: st) σ r := r_iconst d126_70 (by decide)
theorem d126_71 : decode (mC 126) 71 = .ok (.invokevirtual 269, 3) := by decide +kernel
theorem x126_71 {sc : aSc} {d : Nat} {r : aRes} {L : List Value} {f : Nat → Nat → Int32} {g : Nat → Nat → Int64} {h1 h2 : Nat} {y0 : Int32} {y1 : Int32}  {o : Nat} (hK : KK[o]? = some (.inl 7)) : Rn sc d 126 71 L [.int y0, .int y1, .ref o] (cS f g h1 h2) r ↔ ∃ (σ3 : aS) (v : Option Value), Cl sc d 117 [.ref o, .int y1, .int y0] (cS f g h1 h2) (σ3, v) ∧ Rn sc d 126 74 L (v.toList ++ []) σ3 r := r_callV (vs := [.int y0, .int y1]) d126_71 (j := 117) rfl ⟨rfl, by decide, rfl, rfl⟩ (Nat.le_of_ble_eq_true rfl) hK
theorem d126_74 : decode (mC 126) 74 = .ok (.ireturn, 1) := by decide +kernel
theorem x126_74 {sc : aSc} {d : Nat} {r : aRes} {L : List Value} {σ : aS} {x : Int32} (hn : x &&& 1 = x) : Rn sc d 126 74 L [.int x] σ r ↔ r = (σ, some (.int x)) := r_iret d126_74 rfl (congrArg Value.int hn)
theorem d126_75 : decode (mC 126) 75 = .ok (.aload_n 0, 1) := by decide +kernel
theorem x126_75 {sc : aSc} {d : Nat} {r : aRes} {x0 : Nat} {a1 : Value} {a2 : Value} {st : List Value} {σ : aS} : Rn sc d 126 75 [.ref x0, a1, a2] st σ r ↔ Rn sc d 126 76 [.ref x0, a1, a2] (.ref x0 :: st) σ r := r_aload_n d126_75 rfl
theorem d126_76 : decode (mC 126) 76 = .ok (.getfield 65, 3) := by decide +kernel
theorem x126_76 {sc : aSc} {d : Nat} {r : aRes} {L : List Value} {st : List Value} {f : Nat → Nat → Int32} {g : Nat → Nat → Int64} {h1 h2 : Nat} {o : Nat} (hK : KK[o]? = some (.inl 7)) (hR : (RR h1 h2 o 18).isSome = true) : Rn sc d 126 76 L (.ref o :: st) (cS f g h1 h2) r ↔ Rn sc d 126 79 L (.ref (rf h1 h2 o 18) :: st) (cS f g h1 h2) r := r_getR2 d126_76 (ci := 7) (k := 18) rfl (by decide) (fun _ => rfl) hK hR
theorem d126_79 : decode (mC 126) 79 = .ok (.iload_n 1, 1) := by decide +kernel
theorem x126_79 {sc : aSc} {d : Nat} {r : aRes} {a0 : Value} {x1 : Int32} {a2 : Value} {st : List Value} {σ : aS} : Rn sc d 126 79 [a0, .int x1, a2] st σ r ↔ Rn sc d 126 80 [a0, .int x1, a2] (.int x1 :: st) σ r := r_iload_n d126_79 rfl
theorem d126_80 : decode (mC 126) 80 = .ok (.iconst 2, 1) := by decide +kernel
theorem x126_80 {sc : aSc} {d : Nat} {r : aRes} {L : List Value} {st : List Value} {σ : aS} : Rn sc d 126 80 L st σ r ↔ Rn sc d 126 81 L (.int 2 :: st) σ r := r_iconst d126_80 (by decide)
theorem d126_81 : decode (mC 126) 81 = .ok (.iastore, 1) := by decide +kernel
theorem x126_81 {sc : aSc} {d : Nat} {r : aRes} {L : List Value} {st : List Value} {f : Nat → Nat → Int32} {g : Nat → Nat → Int64} {h1 h2 : Nat} {a : Nat} {i : Int32} {x : Int32} (h17 : 17 ≤ a) (hA : isT9 .int a) (hi : inb i (aln a) = true) : Rn sc d 126 81 L (.int x :: .int i :: .ref a :: st) (cS f g h1 h2) r ↔ Rn sc d 126 82 L st (cS (u2 f a i.toNatClampNeg x) g h1 h2) r := r_iast d126_81 h17 hA hi
theorem d126_82 : decode (mC 126) 82 = .ok (.aload_n 0, 1) := by decide +kernel
theorem x126_82 {sc : aSc} {d : Nat} {r : aRes} {x0 : Nat} {a1 : Value} {a2 : Value} {st : List Value} {σ : aS} : Rn sc d 126 82 [.ref x0, a1, a2] st σ r ↔ Rn sc d 126 83 [.ref x0, a1, a2] (.ref x0 :: st) σ r := r_aload_n d126_82 rfl
theorem d126_83 : decode (mC 126) 83 = .ok (.bipush 9, 2) := by decide +kernel
theorem x126_83 {sc : aSc} {d : Nat} {r : aRes} {L : List Value} {st : List Value} {σ : aS} : Rn sc d 126 83 L st σ r ↔ Rn sc d 126 85 L (.int 9 :: st) σ r := r_bipush d126_83 (by decide)
theorem d126_85 : decode (mC 126) 85 = .ok (.iconst 4, 1) := by decide +kernel
theorem x126_85 {sc : aSc} {d : Nat} {r : aRes} {L : List Value} {st : List Value} {σ : aS} : Rn sc d 126 85 L st σ r ↔ Rn sc d 126 86 L (.int 4 :: st) σ r := r_iconst d126_85 (by decide)
theorem d126_86 : decode (mC 126) 86 = .ok (.invokevirtual 269, 3) := by decide +kernel
theorem x126_86 {sc : aSc} {d : Nat} {r : aRes} {L : List Value} {f : Nat → Nat → Int32} {g : Nat → Nat → Int64} {h1 h2 : Nat} {y0 : Int32} {y1 : Int32}  {o : Nat} (hK : KK[o]? = some (.inl 7)) : Rn sc d 126 86 L [.int y0, .int y1, .ref o] (cS f g h1 h2) r ↔ ∃ (σ3 : aS) (v : Option Value), Cl sc d 117 [.ref o, .int y1, .int y0] (cS f g h1 h2) (σ3, v) ∧ Rn sc d 126 89 L (v.toList ++ []) σ3 r := r_callV (vs := [.int y0, .int y1]) d126_86 (j := 117) rfl ⟨rfl, by decide, rfl, rfl⟩ (Nat.le_of_ble_eq_true rfl) hK
theorem d126_89 : decode (mC 126) 89 = .ok (.ireturn, 1) := by decide +kernel
theorem x126_89 {sc : aSc} {d : Nat} {r : aRes} {L : List Value} {σ : aS} {x : Int32} (hn : x &&& 1 = x) : Rn sc d 126 89 L [.int x] σ r ↔ r = (σ, some (.int x)) := r_iret d126_89 rfl (congrArg Value.int hn)
theorem d126_90 : decode (mC 126) 90 = .ok (.aload_n 0, 1) := by decide +kernel
theorem x126_90 {sc : aSc} {d : Nat} {r : aRes} {x0 : Nat} {a1 : Value} {a2 : Value} {st : List Value} {σ : aS} : Rn sc d 126 90 [.ref x0, a1, a2] st σ r ↔ Rn sc d 126 91 [.ref x0, a1, a2] (.ref x0 :: st) σ r := r_aload_n d126_90 rfl
theorem d126_91 : decode (mC 126) 91 = .ok (.getfield 65, 3) := by decide +kernel
theorem x126_91 {sc : aSc} {d : Nat} {r : aRes} {L : List Value} {st : List Value} {f : Nat → Nat → Int32} {g : Nat → Nat → Int64} {h1 h2 : Nat} {o : Nat} (hK : KK[o]? = some (.inl 7)) (hR : (RR h1 h2 o 18).isSome = true) : Rn sc d 126 91 L (.ref o :: st) (cS f g h1 h2) r ↔ Rn sc d 126 94 L (.ref (rf h1 h2 o 18) :: st) (cS f g h1 h2) r := r_getR2 d126_91 (ci := 7) (k := 18) rfl (by decide) (fun _ => rfl) hK hR
theorem d126_94 : decode (mC 126) 94 = .ok (.iload_n 1, 1) := by decide +kernel
theorem x126_94 {sc : aSc} {d : Nat} {r : aRes} {a0 : Value} {x1 : Int32} {a2 : Value} {st : List Value} {σ : aS} : Rn sc d 126 94 [a0, .int x1, a2] st σ r ↔ Rn sc d 126 95 [a0, .int x1, a2] (.int x1 :: st) σ r := r_iload_n d126_94 rfl
theorem d126_95 : decode (mC 126) 95 = .ok (.iconst 3, 1) := by decide +kernel
theorem x126_95 {sc : aSc} {d : Nat} {r : aRes} {L : List Value} {st : List Value} {σ : aS} : Rn sc d 126 95 L st σ r ↔ Rn sc d 126 96 L (.int 3 :: st) σ r := r_iconst d126_95 (by decide)
theorem d126_96 : decode (mC 126) 96 = .ok (.iastore, 1) := by decide +kernel
theorem x126_96 {sc : aSc} {d : Nat} {r : aRes} {L : List Value} {st : List Value} {f : Nat → Nat → Int32} {g : Nat → Nat → Int64} {h1 h2 : Nat} {a : Nat} {i : Int32} {x : Int32} (h17 : 17 ≤ a) (hA : isT9 .int a) (hi : inb i (aln a) = true) : Rn sc d 126 96 L (.int x :: .int i :: .ref a :: st) (cS f g h1 h2) r ↔ Rn sc d 126 97 L st (cS (u2 f a i.toNatClampNeg x) g h1 h2) r := r_iast d126_96 h17 hA hi
theorem d126_97 : decode (mC 126) 97 = .ok (.aload_n 0, 1) := by decide +kernel
theorem x126_97 {sc : aSc} {d : Nat} {r : aRes} {x0 : Nat} {a1 : Value} {a2 : Value} {st : List Value} {σ : aS} : Rn sc d 126 97 [.ref x0, a1, a2] st σ r ↔ Rn sc d 126 98 [.ref x0, a1, a2] (.ref x0 :: st) σ r := r_aload_n d126_97 rfl
theorem d126_98 : decode (mC 126) 98 = .ok (.bipush 13, 2) := by decide +kernel
theorem x126_98 {sc : aSc} {d : Nat} {r : aRes} {L : List Value} {st : List Value} {σ : aS} : Rn sc d 126 98 L st σ r ↔ Rn sc d 126 100 L (.int 13 :: st) σ r := r_bipush d126_98 (by decide)
theorem d126_100 : decode (mC 126) 100 = .ok (.iconst 4, 1) := by decide +kernel
theorem x126_100 {sc : aSc} {d : Nat} {r : aRes} {L : List Value} {st : List Value} {σ : aS} : Rn sc d 126 100 L st σ r ↔ Rn sc d 126 101 L (.int 4 :: st) σ r := r_iconst d126_100 (by decide)
theorem d126_101 : decode (mC 126) 101 = .ok (.invokevirtual 269, 3) := by decide +kernel
theorem x126_101 {sc : aSc} {d : Nat} {r : aRes} {L : List Value} {f : Nat → Nat → Int32} {g : Nat → Nat → Int64} {h1 h2 : Nat} {y0 : Int32} {y1 : Int32}  {o : Nat} (hK : KK[o]? = some (.inl 7)) : Rn sc d 126 101 L [.int y0, .int y1, .ref o] (cS f g h1 h2) r ↔ ∃ (σ3 : aS) (v : Option Value), Cl sc d 117 [.ref o, .int y1, .int y0] (cS f g h1 h2) (σ3, v) ∧ Rn sc d 126 104 L (v.toList ++ []) σ3 r := r_callV (vs := [.int y0, .int y1]) d126_101 (j := 117) rfl ⟨rfl, by decide, rfl, rfl⟩ (Nat.le_of_ble_eq_true rfl) hK
theorem d126_104 : decode (mC 126) 104 = .ok (.ireturn, 1) := by decide +kernel
theorem x126_104 {sc : aSc} {d : Nat} {r : aRes} {L : List Value} {σ : aS} {x : Int32} (hn : x &&& 1 = x) : Rn sc d 126 104 L [.int x] σ r ↔ r = (σ, some (.int x)) := r_iret d126_104 rfl (congrArg Value.int hn)
theorem d127_0 : decode (mC 127) 0 = .ok (.aload_n 0, 1) := by decide +kernel
theorem x127_0 {sc : aSc} {d : Nat} {r : aRes} {x0 : Nat} {a1 : Value} {st : List Value} {σ : aS} : Rn sc d 127 0 [.ref x0, a1] st σ r ↔ Rn sc d 127 1 [.ref x0, a1] (.ref x0 :: st) σ r := r_aload_n d127_0 rfl
theorem d127_1 : decode (mC 127) 1 = .ok (.iload_n 1, 1) := by decide +kernel
theorem x127_1 {sc : aSc} {d : Nat} {r : aRes} {a0 : Value} {x1 : Int32} {st : List Value} {σ : aS} : Rn sc d 127 1 [a0, .int x1] st σ r ↔ Rn sc d 127 2 [a0, .int x1] (.int x1 :: st) σ r := r_iload_n d127_1 rfl
theorem d127_2 : decode (mC 127) 2 = .ok (.invokevirtual 273, 3) := by decide +kernel
theorem x127_2 {sc : aSc} {d : Nat} {r : aRes} {L : List Value} {f : Nat → Nat → Int32} {g : Nat → Nat → Int64} {h1 h2 : Nat} {y0 : Int32}  {o : Nat} (hK : KK[o]? = some (.inl 7)) : Rn sc d 127 2 L [.int y0, .ref o] (cS f g h1 h2) r ↔ ∃ (σ3 : aS) (v : Option Value), Cl sc d 126 [.ref o, .int y0] (cS f g h1 h2) (σ3, v) ∧ Rn sc d 127 5 L (v.toList ++ []) σ3 r := r_callV (vs := [.int y0]) d127_2 (j := 126) rfl ⟨rfl, by decide, rfl, rfl⟩ (Nat.le_of_ble_eq_true rfl) hK
theorem d127_5 : decode (mC 127) 5 = .ok (.ifCond .eq 10, 3) := by decide +kernel
theorem x127_5 {sc : aSc} {d : Nat} {r : aRes} {L : List Value} {st : List Value} {σ : aS} {x : Int32} : Rn sc d 127 5 L (.int x :: st) σ r ↔ if x = 0 then Rn sc d 127 15 L st σ r else Rn sc d 127 8 L st σ r := r_if_eq d127_5 rfl
theorem d127_8 : decode (mC 127) 8 = .ok (.aload_n 0, 1) := by decide +kernel
theorem x127_8 {sc : aSc} {d : Nat} {r : aRes} {x0 : Nat} {a1 : Value} {st : List Value} {σ : aS} : Rn sc d 127 8 [.ref x0, a1] st σ r ↔ Rn sc d 127 9 [.ref x0, a1] (.ref x0 :: st) σ r := r_aload_n d127_8 rfl
theorem d127_9 : decode (mC 127) 9 = .ok (.invokevirtual 254, 3) := by decide +kernel
theorem x127_9 {sc : aSc} {d : Nat} {r : aRes} {L : List Value} {f : Nat → Nat → Int32} {g : Nat → Nat → Int64} {h1 h2 : Nat}   {o : Nat} (hK : KK[o]? = some (.inl 7)) : Rn sc d 127 9 L [.ref o] (cS f g h1 h2) r ↔ ∃ (σ3 : aS) (v : Option Value), Cl sc d 119 [.ref o] (cS f g h1 h2) (σ3, v) ∧ Rn sc d 127 12 L (v.toList ++ []) σ3 r := r_callV (vs := []) d127_9 (j := 119) rfl ⟨rfl, by decide, rfl, rfl⟩ (Nat.le_of_ble_eq_true rfl) hK
theorem d127_12 : decode (mC 127) 12 = .ok (.ifCond .ne 5, 3) := by decide +kernel
theorem x127_12 {sc : aSc} {d : Nat} {r : aRes} {L : List Value} {st : List Value} {σ : aS} {x : Int32} : Rn sc d 127 12 L (.int x :: st) σ r ↔ if x = 0 then Rn sc d 127 15 L st σ r else Rn sc d 127 17 L st σ r := r_if_ne d127_12 rfl
theorem d127_15 : decode (mC 127) 15 = .ok (.iconst 0, 1) := by decide +kernel
theorem x127_15 {sc : aSc} {d : Nat} {r : aRes} {L : List Value} {st : List Value} {σ : aS} : Rn sc d 127 15 L st σ r ↔ Rn sc d 127 16 L (.int 0 :: st) σ r := r_iconst d127_15 (by decide)
theorem d127_16 : decode (mC 127) 16 = .ok (.ireturn, 1) := by decide +kernel
theorem x127_16 {sc : aSc} {d : Nat} {r : aRes} {L : List Value} {σ : aS} {x : Int32} (hn : x &&& 1 = x) : Rn sc d 127 16 L [.int x] σ r ↔ r = (σ, some (.int x)) := r_iret d127_16 rfl (congrArg Value.int hn)
theorem d127_17 : decode (mC 127) 17 = .ok (.aload_n 0, 1) := by decide +kernel
theorem x127_17 {sc : aSc} {d : Nat} {r : aRes} {x0 : Nat} {a1 : Value} {st : List Value} {σ : aS} : Rn sc d 127 17 [.ref x0, a1] st σ r ↔ Rn sc d 127 18 [.ref x0, a1] (.ref x0 :: st) σ r := r_aload_n d127_17 rfl
theorem d127_18 : decode (mC 127) 18 = .ok (.getfield 68, 3) := by decide +kernel
theorem x127_18 {sc : aSc} {d : Nat} {r : aRes} {L : List Value} {st : List Value} {f : Nat → Nat → Int32} {g : Nat → Nat → Int64} {h1 h2 : Nat} {o : Nat} (hK : KK[o]? = some (.inl 7)) (hR : (RR h1 h2 o 19).isSome = true) : Rn sc d 127 18 L (.ref o :: st) (cS f g h1 h2) r ↔ Rn sc d 127 21 L (.ref (rf h1 h2 o 19) :: st) (cS f g h1 h2) r := r_getR2 d127_18 (ci := 7) (k := 19) rfl (by decide) (fun _ => rfl) hK hR
theorem d127_21 : decode (mC 127) 21 = .ok (.iload_n 1, 1) := by decide +kernel
theorem x127_21 {sc : aSc} {d : Nat} {r : aRes} {a0 : Value} {x1 : Int32} {st : List Value} {σ : aS} : Rn sc d 127 21 [a0, .int x1] st σ r ↔ Rn sc d 127 22 [a0, .int x1] (.int x1 :: st) σ r := r_iload_n d127_21 rfl
theorem d127_22 : decode (mC 127) 22 = .ok (.aload_n 0, 1) := by decide +kernel
theorem x127_22 {sc : aSc} {d : Nat} {r : aRes} {x0 : Nat} {a1 : Value} {st : List Value} {σ : aS} : Rn sc d 127 22 [.ref x0, a1] st σ r ↔ Rn sc d 127 23 [.ref x0, a1] (.ref x0 :: st) σ r := r_aload_n d127_22 rfl
theorem d127_23 : decode (mC 127) 23 = .ok (.getfield 56, 3) := by decide +kernel
theorem x127_23 {sc : aSc} {d : Nat} {r : aRes} {L : List Value} {st : List Value} {f : Nat → Nat → Int32} {g : Nat → Nat → Int64} {h1 h2 : Nat} {o : Nat} (h17 : 17 ≤ o) (hK : KK[o]? = some (.inl 7)) : Rn sc d 127 23 L (.ref o :: st) (cS f g h1 h2) r ↔ Rn sc d 127 26 L (.int (f o 15) :: st) (cS f g h1 h2) r := r_getI d127_23 (ci := 7) (k := 15) rfl (by decide) (fun _ => rfl) h17 hK
theorem d127_26 : decode (mC 127) 26 = .ok (.iastore, 1) := by decide +kernel
theorem x127_26 {sc : aSc} {d : Nat} {r : aRes} {L : List Value} {st : List Value} {f : Nat → Nat → Int32} {g : Nat → Nat → Int64} {h1 h2 : Nat} {a : Nat} {i : Int32} {x : Int32} (h17 : 17 ≤ a) (hA : isT9 .int a) (hi : inb i (aln a) = true) : Rn sc d 127 26 L (.int x :: .int i :: .ref a :: st) (cS f g h1 h2) r ↔ Rn sc d 127 27 L st (cS (u2 f a i.toNatClampNeg x) g h1 h2) r := r_iast d127_26 h17 hA hi
theorem d127_27 : decode (mC 127) 27 = .ok (.aload_n 0, 1) := by decide +kernel
theorem x127_27 {sc : aSc} {d : Nat} {r : aRes} {x0 : Nat} {a1 : Value} {st : List Value} {σ : aS} : Rn sc d 127 27 [.ref x0, a1] st σ r ↔ Rn sc d 127 28 [.ref x0, a1] (.ref x0 :: st) σ r := r_aload_n d127_27 rfl
theorem d127_28 : decode (mC 127) 28 = .ok (.getfield 65, 3) := by decide +kernel
theorem x127_28 {sc : aSc} {d : Nat} {r : aRes} {L : List Value} {st : List Value} {f : Nat → Nat → Int32} {g : Nat → Nat → Int64} {h1 h2 : Nat} {o : Nat} (hK : KK[o]? = some (.inl 7)) (hR : (RR h1 h2 o 18).isSome = true) : Rn sc d 127 28 L (.ref o :: st) (cS f g h1 h2) r ↔ Rn sc d 127 31 L (.ref (rf h1 h2 o 18) :: st) (cS f g h1 h2) r := r_getR2 d127_28 (ci := 7) (k := 18) rfl (by decide) (fun _ => rfl) hK hR
theorem d127_31 : decode (mC 127) 31 = .ok (.iload_n 1, 1) := by decide +kernel
theorem x127_31 {sc : aSc} {d : Nat} {r : aRes} {a0 : Value} {x1 : Int32} {st : List Value} {σ : aS} : Rn sc d 127 31 [a0, .int x1] st σ r ↔ Rn sc d 127 32 [a0, .int x1] (.int x1 :: st) σ r := r_iload_n d127_31 rfl
theorem d127_32 : decode (mC 127) 32 = .ok (.iaload, 1) := by decide +kernel
theorem x127_32 {sc : aSc} {d : Nat} {r : aRes} {L : List Value} {st : List Value} {f : Nat → Nat → Int32} {g : Nat → Nat → Int64} {h1 h2 : Nat} {a : Nat} {i : Int32} (h17 : 17 ≤ a) (hA : isT9 .int a) (hi : inb i (aln a) = true) : Rn sc d 127 32 L (.int i :: .ref a :: st) (cS f g h1 h2) r ↔ Rn sc d 127 33 L (.int (f a i.toNatClampNeg) :: st) (cS f g h1 h2) r := r_iald d127_32 h17 hA hi
theorem d127_33 : decode (mC 127) 33 = .ok (.iconst 1, 1) := by decide +kernel
theorem x127_33 {sc : aSc} {d : Nat} {r : aRes} {L : List Value} {st : List Value} {σ : aS} : Rn sc d 127 33 L st σ r ↔ Rn sc d 127 34 L (.int 1 :: st) σ r := r_iconst d127_33 (by decide)
theorem d127_34 : decode (mC 127) 34 = .ok (.if_icmp .gt 20, 3) := by decide +kernel
theorem x127_34 {sc : aSc} {d : Nat} {r : aRes} {L : List Value} {st : List Value} {σ : aS} {x y : Int32} : Rn sc d 127 34 L (.int y :: .int x :: st) σ r ↔ if y < x then Rn sc d 127 54 L st σ r else Rn sc d 127 37 L st σ r := r_icmp_gt d127_34 rfl
theorem d127_37 : decode (mC 127) 37 = .ok (.aload_n 0, 1) := by decide +kernel
theorem x127_37 {sc : aSc} {d : Nat} {r : aRes} {x0 : Nat} {a1 : Value} {st : List Value} {σ : aS} : Rn sc d 127 37 [.ref x0, a1] st σ r ↔ Rn sc d 127 38 [.ref x0, a1] (.ref x0 :: st) σ r := r_aload_n d127_37 rfl
theorem d127_38 : decode (mC 127) 38 = .ok (.bipush 32, 2) := by decide +kernel
theorem x127_38 {sc : aSc} {d : Nat} {r : aRes} {L : List Value} {st : List Value} {σ : aS} : Rn sc d 127 38 L st σ r ↔ Rn sc d 127 40 L (.int 32 :: st) σ r := r_bipush d127_38 (by decide)
theorem d127_40 : decode (mC 127) 40 = .ok (.invokevirtual 239, 3) := by decide +kernel
theorem x127_40 {sc : aSc} {d : Nat} {r : aRes} {L : List Value} {f : Nat → Nat → Int32} {g : Nat → Nat → Int64} {h1 h2 : Nat} {y0 : Int32}  {o : Nat} (hK : KK[o]? = some (.inl 7)) : Rn sc d 127 40 L [.int y0, .ref o] (cS f g h1 h2) r ↔ ∃ (σ3 : aS) (v : Option Value), Cl sc d 116 [.ref o, .int y0] (cS f g h1 h2) (σ3, v) ∧ Rn sc d 127 43 L (v.toList ++ []) σ3 r := r_callV (vs := [.int y0]) d127_40 (j := 116) rfl ⟨rfl, by decide, rfl, rfl⟩ (Nat.le_of_ble_eq_true rfl) hK
theorem d127_43 : decode (mC 127) 43 = .ok (.ifCond .eq 15, 3) := by decide +kernel
theorem x127_43 {sc : aSc} {d : Nat} {r : aRes} {L : List Value} {st : List Value} {σ : aS} {x : Int32} : Rn sc d 127 43 L (.int x :: st) σ r ↔ if x = 0 then Rn sc d 127 58 L st σ r else Rn sc d 127 46 L st σ r := r_if_eq d127_43 rfl
theorem d127_46 : decode (mC 127) 46 = .ok (.aload_n 0, 1) := by decide +kernel
theorem x127_46 {sc : aSc} {d : Nat} {r : aRes} {x0 : Nat} {a1 : Value} {st : List Value} {σ : aS} : Rn sc d 127 46 [.ref x0, a1] st σ r ↔ Rn sc d 127 47 [.ref x0, a1] (.ref x0 :: st) σ r := r_aload_n d127_46 rfl
theorem d127_47 : decode (mC 127) 47 = .ok (.iload_n 1, 1) := by decide +kernel
theorem x127_47 {sc : aSc} {d : Nat} {r : aRes} {a0 : Value} {x1 : Int32} {st : List Value} {σ : aS} : Rn sc d 127 47 [a0, .int x1] st σ r ↔ Rn sc d 127 48 [a0, .int x1] (.int x1 :: st) σ r := r_iload_n d127_47 rfl
theorem d127_48 : decode (mC 127) 48 = .ok (.invokevirtual 276, 3) := by decide +kernel
theorem x127_48 {sc : aSc} {d : Nat} {r : aRes} {L : List Value} {f : Nat → Nat → Int32} {g : Nat → Nat → Int64} {h1 h2 : Nat} {y0 : Int32}  {o : Nat} (hK : KK[o]? = some (.inl 7)) : Rn sc d 127 48 L [.int y0, .ref o] (cS f g h1 h2) r ↔ ∃ (σ3 : aS) (v : Option Value), Cl sc d 125 [.ref o, .int y0] (cS f g h1 h2) (σ3, v) ∧ Rn sc d 127 51 L (v.toList ++ []) σ3 r := r_callV (vs := [.int y0]) d127_48 (j := 125) rfl ⟨rfl, by decide, rfl, rfl⟩ (Nat.le_of_ble_eq_true rfl) hK
theorem d127_51 : decode (mC 127) 51 = .ok (.ifCond .eq 7, 3) := by decide +kernel
theorem x127_51 {sc : aSc} {d : Nat} {r : aRes} {L : List Value} {st : List Value} {σ : aS} {x : Int32} : Rn sc d 127 51 L (.int x :: st) σ r ↔ if x = 0 then Rn sc d 127 58 L st σ r else Rn sc d 127 54 L st σ r := r_if_eq d127_51 rfl
theorem d127_54 : decode (mC 127) 54 = .ok (.iconst 1, 1) := by decide +kernel
theorem x127_54 {sc : aSc} {d : Nat} {r : aRes} {L : List Value} {st : List Value} {σ : aS} : Rn sc d 127 54 L st σ r ↔ Rn sc d 127 55 L (.int 1 :: st) σ r := r_iconst d127_54 (by decide)
theorem d127_55 : decode (mC 127) 55 = .ok (.goto 4, 3) := by decide +kernel
theorem x127_55 {sc : aSc} {d : Nat} {r : aRes} {L : List Value} {st : List Value} {σ : aS} : Rn sc d 127 55 L st σ r ↔ Rn sc d 127 59 L st σ r := r_goto d127_55 rfl
theorem d127_58 : decode (mC 127) 58 = .ok (.iconst 0, 1) := by decide +kernel
theorem x127_58 {sc : aSc} {d : Nat} {r : aRes} {L : List Value} {st : List Value} {σ : aS} : Rn sc d 127 58 L st σ r ↔ Rn sc d 127 59 L (.int 0 :: st) σ r := r_iconst d127_58 (by decide)
theorem d127_59 : decode (mC 127) 59 = .ok (.ireturn, 1) := by decide +kernel
theorem x127_59 {sc : aSc} {d : Nat} {r : aRes} {L : List Value} {σ : aS} {x : Int32} (hn : x &&& 1 = x) : Rn sc d 127 59 L [.int x] σ r ↔ r = (σ, some (.int x)) := r_iret d127_59 rfl (congrArg Value.int hn)
theorem d128_0 : decode (mC 128) 0 = .ok (.aload_n 0, 1) := by decide +kernel
theorem x128_0 {sc : aSc} {d : Nat} {r : aRes} {x0 : Nat} {a1 : Value} {a2 : Value} {st : List Value} {σ : aS} : Rn sc d 128 0 [.ref x0, a1, a2] st σ r ↔ Rn sc d 128 1 [.ref x0, a1, a2] (.ref x0 :: st) σ r := r_aload_n d128_0 rfl
theorem d128_1 : decode (mC 128) 1 = .ok (.iconst 0, 1) := by decide +kernel
theorem x128_1 {sc : aSc} {d : Nat} {r : aRes} {L : List Value} {st : List Value} {σ : aS} : Rn sc d 128 1 L st σ r ↔ Rn sc d 128 2 L (.int 0 :: st) σ r := r_iconst d128_1 (by decide)
theorem d128_2 : decode (mC 128) 2 = .ok (.putfield 53, 3) := by decide +kernel
theorem x128_2 {sc : aSc} {d : Nat} {r : aRes} {L : List Value} {st : List Value} {f : Nat → Nat → Int32} {g : Nat → Nat → Int64} {h1 h2 : Nat} {o : Nat} {v : Int32} (h17 : 17 ≤ o) (hK : KK[o]? = some (.inl 7)) : Rn sc d 128 2 L (.int v :: .ref o :: st) (cS f g h1 h2) r ↔ Rn sc d 128 5 L st (cS (u2 f o 14 v) g h1 h2) r := r_putI d128_2 (ci := 7) (k := 14) rfl (by decide) h17 hK
theorem d128_5 : decode (mC 128) 5 = .ok (.aload_n 0, 1) := by decide +kernel
theorem x128_5 {sc : aSc} {d : Nat} {r : aRes} {x0 : Nat} {a1 : Value} {a2 : Value} {st : List Value} {σ : aS} : Rn sc d 128 5 [.ref x0, a1, a2] st σ r ↔ Rn sc d 128 6 [.ref x0, a1, a2] (.ref x0 :: st) σ r := r_aload_n d128_5 rfl
theorem d128_6 : decode (mC 128) 6 = .ok (.bipush 100, 2) := by decide +kernel
theorem x128_6 {sc : aSc} {d : Nat} {r : aRes} {L : List Value} {st : List Value} {σ : aS} : Rn sc d 128 6 L st σ r ↔ Rn sc d 128 8 L (.int 100 :: st) σ r := r_bipush d128_6 (by decide)
theorem d128_8 : decode (mC 128) 8 = .ok (.iload_n 1, 1) := by decide +kernel
theorem x128_8 {sc : aSc} {d : Nat} {r : aRes} {a0 : Value} {x1 : Int32} {a2 : Value} {st : List Value} {σ : aS} : Rn sc d 128 8 [a0, .int x1, a2] st σ r ↔ Rn sc d 128 9 [a0, .int x1, a2] (.int x1 :: st) σ r := r_iload_n d128_8 rfl
theorem d128_9 : decode (mC 128) 9 = .ok (.imul, 1) := by decide +kernel
theorem x128_9 {sc : aSc} {d : Nat} {r : aRes} {L : List Value} {st : List Value} {σ : aS} {x y : Int32} : Rn sc d 128 9 L (.int y :: .int x :: st) σ r ↔ Rn sc d 128 10 L (.int (x * y) :: st) σ r := r_imul d128_9
theorem d128_10 : decode (mC 128) 10 = .ok (.putfield 83, 3) := by decide +kernel
theorem x128_10 {sc : aSc} {d : Nat} {r : aRes} {L : List Value} {st : List Value} {f : Nat → Nat → Int32} {g : Nat → Nat → Int64} {h1 h2 : Nat} {o : Nat} {v : Int32} (h17 : 17 ≤ o) (hK : KK[o]? = some (.inl 7)) : Rn sc d 128 10 L (.int v :: .ref o :: st) (cS f g h1 h2) r ↔ Rn sc d 128 13 L st (cS (u2 f o 24 v) g h1 h2) r := r_putI d128_10 (ci := 7) (k := 24) rfl (by decide) h17 hK
theorem d128_13 : decode (mC 128) 13 = .ok (.iconst 0, 1) := by decide +kernel
theorem x128_13 {sc : aSc} {d : Nat} {r : aRes} {L : List Value} {st : List Value} {σ : aS} : Rn sc d 128 13 L st σ r ↔ Rn sc d 128 14 L (.int 0 :: st) σ r := r_iconst d128_13 (by decide)
theorem d128_14 : decode (mC 128) 14 = .ok (.istore_n 2, 1) := by decide +kernel
theorem x128_14 {sc : aSc} {d : Nat} {r : aRes} {a0 : Value} {x1 : Int32} {a2 : Value} {st : List Value} {σ : aS} {y : Int32} : Rn sc d 128 14 [a0, .int x1, a2] (.int y :: st) σ r ↔ Rn sc d 128 15 [a0, .int x1, .int y] st σ r := r_istore_n d128_14 (Nat.le_of_ble_eq_true rfl) rfl
theorem d128_15 : decode (mC 128) 15 = .ok (.aload_n 0, 1) := by decide +kernel
theorem x128_15 {sc : aSc} {d : Nat} {r : aRes} {x0 : Nat} {a1 : Value} {a2 : Value} {st : List Value} {σ : aS} : Rn sc d 128 15 [.ref x0, a1, a2] st σ r ↔ Rn sc d 128 16 [.ref x0, a1, a2] (.ref x0 :: st) σ r := r_aload_n d128_15 rfl
theorem d128_16 : decode (mC 128) 16 = .ok (.bipush 10, 2) := by decide +kernel
theorem x128_16 {sc : aSc} {d : Nat} {r : aRes} {L : List Value} {st : List Value} {σ : aS} : Rn sc d 128 16 L st σ r ↔ Rn sc d 128 18 L (.int 10 :: st) σ r := r_bipush d128_16 (by decide)
theorem d128_18 : decode (mC 128) 18 = .ok (.iload_n 1, 1) := by decide +kernel
theorem x128_18 {sc : aSc} {d : Nat} {r : aRes} {a0 : Value} {x1 : Int32} {a2 : Value} {st : List Value} {σ : aS} : Rn sc d 128 18 [a0, .int x1, a2] st σ r ↔ Rn sc d 128 19 [a0, .int x1, a2] (.int x1 :: st) σ r := r_iload_n d128_18 rfl
theorem d128_19 : decode (mC 128) 19 = .ok (.imul, 1) := by decide +kernel
theorem x128_19 {sc : aSc} {d : Nat} {r : aRes} {L : List Value} {st : List Value} {σ : aS} {x y : Int32} : Rn sc d 128 19 L (.int y :: .int x :: st) σ r ↔ Rn sc d 128 20 L (.int (x * y) :: st) σ r := r_imul d128_19
theorem d128_20 : decode (mC 128) 20 = .ok (.iload_n 2, 1) := by decide +kernel
theorem x128_20 {sc : aSc} {d : Nat} {r : aRes} {a0 : Value} {a1 : Value} {x2 : Int32} {st : List Value} {σ : aS} : Rn sc d 128 20 [a0, a1, .int x2] st σ r ↔ Rn sc d 128 21 [a0, a1, .int x2] (.int x2 :: st) σ r := r_iload_n d128_20 rfl
theorem d128_21 : decode (mC 128) 21 = .ok (.iadd, 1) := by decide +kernel
theorem x128_21 {sc : aSc} {d : Nat} {r : aRes} {L : List Value} {st : List Value} {σ : aS} {x y : Int32} : Rn sc d 128 21 L (.int y :: .int x :: st) σ r ↔ Rn sc d 128 22 L (.int (x + y) :: st) σ r := r_iadd d128_21
theorem d128_22 : decode (mC 128) 22 = .ok (.invokevirtual 279, 3) := by decide +kernel
theorem x128_22 {sc : aSc} {d : Nat} {r : aRes} {L : List Value} {f : Nat → Nat → Int32} {g : Nat → Nat → Int64} {h1 h2 : Nat} {y0 : Int32}  {o : Nat} (hK : KK[o]? = some (.inl 7)) : Rn sc d 128 22 L [.int y0, .ref o] (cS f g h1 h2) r ↔ ∃ (σ3 : aS) (v : Option Value), Cl sc d 127 [.ref o, .int y0] (cS f g h1 h2) (σ3, v) ∧ Rn sc d 128 25 L (v.toList ++ []) σ3 r := r_callV (vs := [.int y0]) d128_22 (j := 127) rfl ⟨rfl, by decide, rfl, rfl⟩ (Nat.le_of_ble_eq_true rfl) hK
theorem d128_25 : decode (mC 128) 25 = .ok (.ifCond .ne 5, 3) := by decide +kernel
theorem x128_25 {sc : aSc} {d : Nat} {r : aRes} {L : List Value} {st : List Value} {σ : aS} {x : Int32} : Rn sc d 128 25 L (.int x :: st) σ r ↔ if x = 0 then Rn sc d 128 28 L st σ r else Rn sc d 128 30 L st σ r := r_if_ne d128_25 rfl
theorem d128_28 : decode (mC 128) 28 = .ok (.iconst 0, 1) := by decide +kernel
theorem x128_28 {sc : aSc} {d : Nat} {r : aRes} {L : List Value} {st : List Value} {σ : aS} : Rn sc d 128 28 L st σ r ↔ Rn sc d 128 29 L (.int 0 :: st) σ r := r_iconst d128_28 (by decide)
theorem d128_29 : decode (mC 128) 29 = .ok (.ireturn, 1) := by decide +kernel
theorem x128_29 {sc : aSc} {d : Nat} {r : aRes} {L : List Value} {σ : aS} {x : Int32} (hn : x &&& 1 = x) : Rn sc d 128 29 L [.int x] σ r ↔ r = (σ, some (.int x)) := r_iret d128_29 rfl (congrArg Value.int hn)
theorem d128_30 : decode (mC 128) 30 = .ok (.iinc 2 1, 3) := by decide +kernel
theorem x128_30 {sc : aSc} {d : Nat} {r : aRes} {a0 : Value} {x1 : Int32} {x2 : Int32} {st : List Value} {σ : aS} : Rn sc d 128 30 [a0, .int x1, .int x2] st σ r ↔ Rn sc d 128 33 [a0, .int x1, .int (x2 + 1)] st σ r := r_iinc d128_30 (Nat.le_of_ble_eq_true rfl) rfl rfl (by decide)
theorem d128_33 : decode (mC 128) 33 = .ok (.aload_n 0, 1) := by decide +kernel
theorem x128_33 {sc : aSc} {d : Nat} {r : aRes} {x0 : Nat} {a1 : Value} {a2 : Value} {st : List Value} {σ : aS} : Rn sc d 128 33 [.ref x0, a1, a2] st σ r ↔ Rn sc d 128 34 [.ref x0, a1, a2] (.ref x0 :: st) σ r := r_aload_n d128_33 rfl
theorem d128_34 : decode (mC 128) 34 = .ok (.getfield 62, 3) := by decide +kernel
theorem x128_34 {sc : aSc} {d : Nat} {r : aRes} {L : List Value} {st : List Value} {f : Nat → Nat → Int32} {g : Nat → Nat → Int64} {h1 h2 : Nat} {o : Nat} (hK : KK[o]? = some (.inl 7)) (hR : (RR h1 h2 o 17).isSome = true) : Rn sc d 128 34 L (.ref o :: st) (cS f g h1 h2) r ↔ Rn sc d 128 37 L (.ref (rf h1 h2 o 17) :: st) (cS f g h1 h2) r := r_getR2 d128_34 (ci := 7) (k := 17) rfl (by decide) (fun _ => rfl) hK hR
theorem d128_37 : decode (mC 128) 37 = .ok (.iload_n 1, 1) := by decide +kernel
theorem x128_37 {sc : aSc} {d : Nat} {r : aRes} {a0 : Value} {x1 : Int32} {a2 : Value} {st : List Value} {σ : aS} : Rn sc d 128 37 [a0, .int x1, a2] st σ r ↔ Rn sc d 128 38 [a0, .int x1, a2] (.int x1 :: st) σ r := r_iload_n d128_37 rfl
theorem d128_38 : decode (mC 128) 38 = .ok (.iload_n 2, 1) := by decide +kernel
theorem x128_38 {sc : aSc} {d : Nat} {r : aRes} {a0 : Value} {a1 : Value} {x2 : Int32} {st : List Value} {σ : aS} : Rn sc d 128 38 [a0, a1, .int x2] st σ r ↔ Rn sc d 128 39 [a0, a1, .int x2] (.int x2 :: st) σ r := r_iload_n d128_38 rfl
theorem d128_39 : decode (mC 128) 39 = .ok (.iastore, 1) := by decide +kernel
theorem x128_39 {sc : aSc} {d : Nat} {r : aRes} {L : List Value} {st : List Value} {f : Nat → Nat → Int32} {g : Nat → Nat → Int64} {h1 h2 : Nat} {a : Nat} {i : Int32} {x : Int32} (h17 : 17 ≤ a) (hA : isT9 .int a) (hi : inb i (aln a) = true) : Rn sc d 128 39 L (.int x :: .int i :: .ref a :: st) (cS f g h1 h2) r ↔ Rn sc d 128 40 L st (cS (u2 f a i.toNatClampNeg x) g h1 h2) r := r_iast d128_39 h17 hA hi
theorem d128_40 : decode (mC 128) 40 = .ok (.aload_n 0, 1) := by decide +kernel
theorem x128_40 {sc : aSc} {d : Nat} {r : aRes} {x0 : Nat} {a1 : Value} {a2 : Value} {st : List Value} {σ : aS} : Rn sc d 128 40 [.ref x0, a1, a2] st σ r ↔ Rn sc d 128 41 [.ref x0, a1, a2] (.ref x0 :: st) σ r := r_aload_n d128_40 rfl
theorem d128_41 : decode (mC 128) 41 = .ok (.getfield 53, 3) := by decide +kernel
theorem x128_41 {sc : aSc} {d : Nat} {r : aRes} {L : List Value} {st : List Value} {f : Nat → Nat → Int32} {g : Nat → Nat → Int64} {h1 h2 : Nat} {o : Nat} (h17 : 17 ≤ o) (hK : KK[o]? = some (.inl 7)) : Rn sc d 128 41 L (.ref o :: st) (cS f g h1 h2) r ↔ Rn sc d 128 44 L (.int (f o 14) :: st) (cS f g h1 h2) r := r_getI d128_41 (ci := 7) (k := 14) rfl (by decide) (fun _ => rfl) h17 hK
theorem d128_44 : decode (mC 128) 44 = .ok (.aload_n 0, 1) := by decide +kernel
theorem x128_44 {sc : aSc} {d : Nat} {r : aRes} {x0 : Nat} {a1 : Value} {a2 : Value} {st : List Value} {σ : aS} : Rn sc d 128 44 [.ref x0, a1, a2] st σ r ↔ Rn sc d 128 45 [.ref x0, a1, a2] (.ref x0 :: st) σ r := r_aload_n d128_44 rfl
theorem d128_45 : decode (mC 128) 45 = .ok (.getfield 50, 3) := by decide +kernel
theorem x128_45 {sc : aSc} {d : Nat} {r : aRes} {L : List Value} {st : List Value} {f : Nat → Nat → Int32} {g : Nat → Nat → Int64} {h1 h2 : Nat} {o : Nat} (h17 : 17 ≤ o) (hK : KK[o]? = some (.inl 7)) : Rn sc d 128 45 L (.ref o :: st) (cS f g h1 h2) r ↔ Rn sc d 128 48 L (.int (f o 13) :: st) (cS f g h1 h2) r := r_getI d128_45 (ci := 7) (k := 13) rfl (by decide) (fun _ => rfl) h17 hK
theorem d128_48 : decode (mC 128) 48 = .ok (.if_icmp .ne 5, 3) := by decide +kernel
theorem x128_48 {sc : aSc} {d : Nat} {r : aRes} {L : List Value} {st : List Value} {σ : aS} {x y : Int32} : Rn sc d 128 48 L (.int y :: .int x :: st) σ r ↔ if x = y then Rn sc d 128 51 L st σ r else Rn sc d 128 53 L st σ r := r_icmp_ne d128_48 rfl
theorem d128_51 : decode (mC 128) 51 = .ok (.iconst 1, 1) := by decide +kernel
theorem x128_51 {sc : aSc} {d : Nat} {r : aRes} {L : List Value} {st : List Value} {σ : aS} : Rn sc d 128 51 L st σ r ↔ Rn sc d 128 52 L (.int 1 :: st) σ r := r_iconst d128_51 (by decide)
theorem d128_52 : decode (mC 128) 52 = .ok (.ireturn, 1) := by decide +kernel
theorem x128_52 {sc : aSc} {d : Nat} {r : aRes} {L : List Value} {σ : aS} {x : Int32} (hn : x &&& 1 = x) : Rn sc d 128 52 L [.int x] σ r ↔ r = (σ, some (.int x)) := r_iret d128_52 rfl (congrArg Value.int hn)
theorem d128_53 : decode (mC 128) 53 = .ok (.iload_n 2, 1) := by decide +kernel
theorem x128_53 {sc : aSc} {d : Nat} {r : aRes} {a0 : Value} {a1 : Value} {x2 : Int32} {st : List Value} {σ : aS} : Rn sc d 128 53 [a0, a1, .int x2] st σ r ↔ Rn sc d 128 54 [a0, a1, .int x2] (.int x2 :: st) σ r := r_iload_n d128_53 rfl
theorem d128_54 : decode (mC 128) 54 = .ok (.bipush 10, 2) := by decide +kernel
theorem x128_54 {sc : aSc} {d : Nat} {r : aRes} {L : List Value} {st : List Value} {σ : aS} : Rn sc d 128 54 L st σ r ↔ Rn sc d 128 56 L (.int 10 :: st) σ r := r_bipush d128_54 (by decide)
theorem d128_56 : decode (mC 128) 56 = .ok (.if_icmp .eq 12, 3) := by decide +kernel
theorem x128_56 {sc : aSc} {d : Nat} {r : aRes} {L : List Value} {st : List Value} {σ : aS} {x y : Int32} : Rn sc d 128 56 L (.int y :: .int x :: st) σ r ↔ if x = y then Rn sc d 128 68 L st σ r else Rn sc d 128 59 L st σ r := r_icmp_eq d128_56 rfl
theorem d128_59 : decode (mC 128) 59 = .ok (.aload_n 0, 1) := by decide +kernel
theorem x128_59 {sc : aSc} {d : Nat} {r : aRes} {x0 : Nat} {a1 : Value} {a2 : Value} {st : List Value} {σ : aS} : Rn sc d 128 59 [.ref x0, a1, a2] st σ r ↔ Rn sc d 128 60 [.ref x0, a1, a2] (.ref x0 :: st) σ r := r_aload_n d128_59 rfl
theorem d128_60 : decode (mC 128) 60 = .ok (.bipush 59, 2) := by decide +kernel
theorem x128_60 {sc : aSc} {d : Nat} {r : aRes} {L : List Value} {st : List Value} {σ : aS} : Rn sc d 128 60 L st σ r ↔ Rn sc d 128 62 L (.int 59 :: st) σ r := r_bipush d128_60 (by decide)
theorem d128_62 : decode (mC 128) 62 = .ok (.invokevirtual 239, 3) := by decide +kernel
theorem x128_62 {sc : aSc} {d : Nat} {r : aRes} {L : List Value} {f : Nat → Nat → Int32} {g : Nat → Nat → Int64} {h1 h2 : Nat} {y0 : Int32}  {o : Nat} (hK : KK[o]? = some (.inl 7)) : Rn sc d 128 62 L [.int y0, .ref o] (cS f g h1 h2) r ↔ ∃ (σ3 : aS) (v : Option Value), Cl sc d 116 [.ref o, .int y0] (cS f g h1 h2) (σ3, v) ∧ Rn sc d 128 65 L (v.toList ++ []) σ3 r := r_callV (vs := [.int y0]) d128_62 (j := 116) rfl ⟨rfl, by decide, rfl, rfl⟩ (Nat.le_of_ble_eq_true rfl) hK
theorem d128_65 : decode (mC 128) 65 = .ok (.ifCond .ne (-50), 3) := by decide +kernel
theorem x128_65 {sc : aSc} {d : Nat} {r : aRes} {L : List Value} {st : List Value} {σ : aS} {x : Int32} : Rn sc d 128 65 L (.int x :: st) σ r ↔ if x = 0 then Rn sc d 128 68 L st σ r else Rn sc d 128 15 L st σ r := r_if_ne d128_65 rfl
theorem d128_68 : decode (mC 128) 68 = .ok (.iconst 0, 1) := by decide +kernel
theorem x128_68 {sc : aSc} {d : Nat} {r : aRes} {L : List Value} {st : List Value} {σ : aS} : Rn sc d 128 68 L st σ r ↔ Rn sc d 128 69 L (.int 0 :: st) σ r := r_iconst d128_68 (by decide)
theorem d128_69 : decode (mC 128) 69 = .ok (.ireturn, 1) := by decide +kernel
theorem x128_69 {sc : aSc} {d : Nat} {r : aRes} {L : List Value} {σ : aS} {x : Int32} (hn : x &&& 1 = x) : Rn sc d 128 69 L [.int x] σ r ↔ r = (σ, some (.int x)) := r_iret d128_69 rfl (congrArg Value.int hn)
theorem d129_0 : decode (mC 129) 0 = .ok (.aload_n 0, 1) := by decide +kernel
theorem x129_0 {sc : aSc} {d : Nat} {r : aRes} {x0 : Nat} {a1 : Value} {st : List Value} {σ : aS} : Rn sc d 129 0 [.ref x0, a1] st σ r ↔ Rn sc d 129 1 [.ref x0, a1] (.ref x0 :: st) σ r := r_aload_n d129_0 rfl
theorem d129_1 : decode (mC 129) 1 = .ok (.getfield 44, 3) := by decide +kernel
theorem x129_1 {sc : aSc} {d : Nat} {r : aRes} {L : List Value} {st : List Value} {f : Nat → Nat → Int32} {g : Nat → Nat → Int64} {h1 h2 : Nat} {o : Nat} (h17 : 17 ≤ o) (hK : KK[o]? = some (.inl 7)) : Rn sc d 129 1 L (.ref o :: st) (cS f g h1 h2) r ↔ Rn sc d 129 4 L (.int (f o 11) :: st) (cS f g h1 h2) r := r_getI d129_1 (ci := 7) (k := 11) rfl (by decide) (fun _ => rfl) h17 hK
theorem d129_4 : decode (mC 129) 4 = .ok (.bipush 6, 2) := by decide +kernel
theorem x129_4 {sc : aSc} {d : Nat} {r : aRes} {L : List Value} {st : List Value} {σ : aS} : Rn sc d 129 4 L st σ r ↔ Rn sc d 129 6 L (.int 6 :: st) σ r := r_bipush d129_4 (by decide)
theorem d129_6 : decode (mC 129) 6 = .ok (.if_icmp .ne 6, 3) := by decide +kernel
theorem x129_6 {sc : aSc} {d : Nat} {r : aRes} {L : List Value} {st : List Value} {σ : aS} {x y : Int32} : Rn sc d 129 6 L (.int y :: .int x :: st) σ r ↔ if x = y then Rn sc d 129 9 L st σ r else Rn sc d 129 12 L st σ r := r_icmp_ne d129_6 rfl
theorem d129_9 : decode (mC 129) 9 = .ok (.bipush (-4), 2) := by decide +kernel
theorem x129_9 {sc : aSc} {d : Nat} {r : aRes} {L : List Value} {st : List Value} {σ : aS} : Rn sc d 129 9 L st σ r ↔ Rn sc d 129 11 L (.int (-4) :: st) σ r := r_bipush d129_9 (by decide)
theorem d129_11 : decode (mC 129) 11 = .ok (.ireturn, 1) := by decide +kernel
theorem x129_11 {sc : aSc} {d : Nat} {r : aRes} {L : List Value} {σ : aS} {x : Int32} : Rn sc d 129 11 L [.int x] σ r ↔ r = (σ, some (.int x)) := r_iret d129_11 rfl rfl
theorem d129_12 : decode (mC 129) 12 = .ok (.aload_n 0, 1) := by decide +kernel
theorem x129_12 {sc : aSc} {d : Nat} {r : aRes} {x0 : Nat} {a1 : Value} {st : List Value} {σ : aS} : Rn sc d 129 12 [.ref x0, a1] st σ r ↔ Rn sc d 129 13 [.ref x0, a1] (.ref x0 :: st) σ r := r_aload_n d129_12 rfl
theorem d129_13 : decode (mC 129) 13 = .ok (.aload_n 0, 1) := by decide +kernel
theorem x129_13 {sc : aSc} {d : Nat} {r : aRes} {x0 : Nat} {a1 : Value} {st : List Value} {σ : aS} : Rn sc d 129 13 [.ref x0, a1] st σ r ↔ Rn sc d 129 14 [.ref x0, a1] (.ref x0 :: st) σ r := r_aload_n d129_13 rfl
theorem d129_14 : decode (mC 129) 14 = .ok (.getfield 44, 3) := by decide +kernel
theorem x129_14 {sc : aSc} {d : Nat} {r : aRes} {L : List Value} {st : List Value} {f : Nat → Nat → Int32} {g : Nat → Nat → Int64} {h1 h2 : Nat} {o : Nat} (h17 : 17 ≤ o) (hK : KK[o]? = some (.inl 7)) : Rn sc d 129 14 L (.ref o :: st) (cS f g h1 h2) r ↔ Rn sc d 129 17 L (.int (f o 11) :: st) (cS f g h1 h2) r := r_getI d129_14 (ci := 7) (k := 11) rfl (by decide) (fun _ => rfl) h17 hK
theorem d129_17 : decode (mC 129) 17 = .ok (.invokevirtual 282, 3) := by decide +kernel
theorem x129_17 {sc : aSc} {d : Nat} {r : aRes} {L : List Value} {f : Nat → Nat → Int32} {g : Nat → Nat → Int64} {h1 h2 : Nat} {y0 : Int32}  {o : Nat} (hK : KK[o]? = some (.inl 7)) : Rn sc d 129 17 L [.int y0, .ref o] (cS f g h1 h2) r ↔ ∃ (σ3 : aS) (v : Option Value), Cl sc d 128 [.ref o, .int y0] (cS f g h1 h2) (σ3, v) ∧ Rn sc d 129 20 L (v.toList ++ []) σ3 r := r_callV (vs := [.int y0]) d129_17 (j := 128) rfl ⟨rfl, by decide, rfl, rfl⟩ (Nat.le_of_ble_eq_true rfl) hK
theorem d129_20 : decode (mC 129) 20 = .ok (.istore_n 1, 1) := by decide +kernel
theorem x129_20 {sc : aSc} {d : Nat} {r : aRes} {x0 : Nat} {a1 : Value} {st : List Value} {σ : aS} {y : Int32} : Rn sc d 129 20 [.ref x0, a1] (.int y :: st) σ r ↔ Rn sc d 129 21 [.ref x0, .int y] st σ r := r_istore_n d129_20 (Nat.le_of_ble_eq_true rfl) rfl
theorem d129_21 : decode (mC 129) 21 = .ok (.aload_n 0, 1) := by decide +kernel
theorem x129_21 {sc : aSc} {d : Nat} {r : aRes} {x0 : Nat} {a1 : Value} {st : List Value} {σ : aS} : Rn sc d 129 21 [.ref x0, a1] st σ r ↔ Rn sc d 129 22 [.ref x0, a1] (.ref x0 :: st) σ r := r_aload_n d129_21 rfl
theorem d129_22 : decode (mC 129) 22 = .ok (.iconst 0, 1) := by decide +kernel
theorem x129_22 {sc : aSc} {d : Nat} {r : aRes} {L : List Value} {st : List Value} {σ : aS} : Rn sc d 129 22 L st σ r ↔ Rn sc d 129 23 L (.int 0 :: st) σ r := r_iconst d129_22 (by decide)
theorem d129_23 : decode (mC 129) 23 = .ok (.putfield 50, 3) := by decide +kernel
theorem x129_23 {sc : aSc} {d : Nat} {r : aRes} {L : List Value} {st : List Value} {f : Nat → Nat → Int32} {g : Nat → Nat → Int64} {h1 h2 : Nat} {o : Nat} {v : Int32} (h17 : 17 ≤ o) (hK : KK[o]? = some (.inl 7)) : Rn sc d 129 23 L (.int v :: .ref o :: st) (cS f g h1 h2) r ↔ Rn sc d 129 26 L st (cS (u2 f o 13 v) g h1 h2) r := r_putI d129_23 (ci := 7) (k := 13) rfl (by decide) h17 hK
theorem d129_26 : decode (mC 129) 26 = .ok (.iload_n 1, 1) := by decide +kernel
theorem x129_26 {sc : aSc} {d : Nat} {r : aRes} {a0 : Value} {x1 : Int32} {st : List Value} {σ : aS} : Rn sc d 129 26 [a0, .int x1] st σ r ↔ Rn sc d 129 27 [a0, .int x1] (.int x1 :: st) σ r := r_iload_n d129_26 rfl
theorem d129_27 : decode (mC 129) 27 = .ok (.ifCond .ne 11, 3) := by decide +kernel
theorem x129_27 {sc : aSc} {d : Nat} {r : aRes} {L : List Value} {st : List Value} {σ : aS} {x : Int32} : Rn sc d 129 27 L (.int x :: st) σ r ↔ if x = 0 then Rn sc d 129 30 L st σ r else Rn sc d 129 38 L st σ r := r_if_ne d129_27 rfl
theorem d129_30 : decode (mC 129) 30 = .ok (.bipush (-10), 2) := by decide +kernel
theorem x129_30 {sc : aSc} {d : Nat} {r : aRes} {L : List Value} {st : List Value} {σ : aS} : Rn sc d 129 30 L st σ r ↔ Rn sc d 129 32 L (.int (-10) :: st) σ r := r_bipush d129_30 (by decide)
theorem d129_32 : decode (mC 129) 32 = .ok (.aload_n 0, 1) := by decide +kernel
theorem x129_32 {sc : aSc} {d : Nat} {r : aRes} {x0 : Nat} {a1 : Value} {st : List Value} {σ : aS} : Rn sc d 129 32 [.ref x0, a1] st σ r ↔ Rn sc d 129 33 [.ref x0, a1] (.ref x0 :: st) σ r := r_aload_n d129_32 rfl
theorem d129_33 : decode (mC 129) 33 = .ok (.getfield 53, 3) := by decide +kernel
theorem x129_33 {sc : aSc} {d : Nat} {r : aRes} {L : List Value} {st : List Value} {f : Nat → Nat → Int32} {g : Nat → Nat → Int64} {h1 h2 : Nat} {o : Nat} (h17 : 17 ≤ o) (hK : KK[o]? = some (.inl 7)) : Rn sc d 129 33 L (.ref o :: st) (cS f g h1 h2) r ↔ Rn sc d 129 36 L (.int (f o 14) :: st) (cS f g h1 h2) r := r_getI d129_33 (ci := 7) (k := 14) rfl (by decide) (fun _ => rfl) h17 hK
theorem d129_36 : decode (mC 129) 36 = .ok (.isub, 1) := by decide +kernel
theorem x129_36 {sc : aSc} {d : Nat} {r : aRes} {L : List Value} {st : List Value} {σ : aS} {x y : Int32} : Rn sc d 129 36 L (.int y :: .int x :: st) σ r ↔ Rn sc d 129 37 L (.int (x - y) :: st) σ r := r_isub d129_36
theorem d129_37 : decode (mC 129) 37 = .ok (.ireturn, 1) := by decide +kernel
theorem x129_37 {sc : aSc} {d : Nat} {r : aRes} {L : List Value} {σ : aS} {x : Int32} : Rn sc d 129 37 L [.int x] σ r ↔ r = (σ, some (.int x)) := r_iret d129_37 rfl rfl
theorem d129_38 : decode (mC 129) 38 = .ok (.aload_n 0, 1) := by decide +kernel
theorem x129_38 {sc : aSc} {d : Nat} {r : aRes} {x0 : Nat} {a1 : Value} {st : List Value} {σ : aS} : Rn sc d 129 38 [.ref x0, a1] st σ r ↔ Rn sc d 129 39 [.ref x0, a1] (.ref x0 :: st) σ r := r_aload_n d129_38 rfl
theorem d129_39 : decode (mC 129) 39 = .ok (.aload_n 0, 1) := by decide +kernel
theorem x129_39 {sc : aSc} {d : Nat} {r : aRes} {x0 : Nat} {a1 : Value} {st : List Value} {σ : aS} : Rn sc d 129 39 [.ref x0, a1] st σ r ↔ Rn sc d 129 40 [.ref x0, a1] (.ref x0 :: st) σ r := r_aload_n d129_39 rfl
theorem d129_40 : decode (mC 129) 40 = .ok (.getfield 44, 3) := by decide +kernel
theorem x129_40 {sc : aSc} {d : Nat} {r : aRes} {L : List Value} {st : List Value} {f : Nat → Nat → Int32} {g : Nat → Nat → Int64} {h1 h2 : Nat} {o : Nat} (h17 : 17 ≤ o) (hK : KK[o]? = some (.inl 7)) : Rn sc d 129 40 L (.ref o :: st) (cS f g h1 h2) r ↔ Rn sc d 129 43 L (.int (f o 11) :: st) (cS f g h1 h2) r := r_getI d129_40 (ci := 7) (k := 11) rfl (by decide) (fun _ => rfl) h17 hK
theorem d129_43 : decode (mC 129) 43 = .ok (.putfield 47, 3) := by decide +kernel
theorem x129_43 {sc : aSc} {d : Nat} {r : aRes} {L : List Value} {st : List Value} {f : Nat → Nat → Int32} {g : Nat → Nat → Int64} {h1 h2 : Nat} {o : Nat} {v : Int32} (h17 : 17 ≤ o) (hK : KK[o]? = some (.inl 7)) : Rn sc d 129 43 L (.int v :: .ref o :: st) (cS f g h1 h2) r ↔ Rn sc d 129 46 L st (cS (u2 f o 12 v) g h1 h2) r := r_putI d129_43 (ci := 7) (k := 12) rfl (by decide) h17 hK
theorem d129_46 : decode (mC 129) 46 = .ok (.aload_n 0, 1) := by decide +kernel
theorem x129_46 {sc : aSc} {d : Nat} {r : aRes} {x0 : Nat} {a1 : Value} {st : List Value} {σ : aS} : Rn sc d 129 46 [.ref x0, a1] st σ r ↔ Rn sc d 129 47 [.ref x0, a1] (.ref x0 :: st) σ r := r_aload_n d129_46 rfl
theorem d129_47 : decode (mC 129) 47 = .ok (.dup, 1) := by decide +kernel
theorem x129_47 {sc : aSc} {d : Nat} {r : aRes} {L : List Value} {st : List Value} {σ : aS} {y : Nat} : Rn sc d 129 47 L (.ref y :: st) σ r ↔ Rn sc d 129 48 L (.ref y :: .ref y :: st) σ r := r_dup d129_47 rfl
theorem d129_48 : decode (mC 129) 48 = .ok (.getfield 44, 3) := by decide +kernel
theorem x129_48 {sc : aSc} {d : Nat} {r : aRes} {L : List Value} {st : List Value} {f : Nat → Nat → Int32} {g : Nat → Nat → Int64} {h1 h2 : Nat} {o : Nat} (h17 : 17 ≤ o) (hK : KK[o]? = some (.inl 7)) : Rn sc d 129 48 L (.ref o :: st) (cS f g h1 h2) r ↔ Rn sc d 129 51 L (.int (f o 11) :: st) (cS f g h1 h2) r := r_getI d129_48 (ci := 7) (k := 11) rfl (by decide) (fun _ => rfl) h17 hK
theorem d129_51 : decode (mC 129) 51 = .ok (.iconst 1, 1) := by decide +kernel
theorem x129_51 {sc : aSc} {d : Nat} {r : aRes} {L : List Value} {st : List Value} {σ : aS} : Rn sc d 129 51 L st σ r ↔ Rn sc d 129 52 L (.int 1 :: st) σ r := r_iconst d129_51 (by decide)
theorem d129_52 : decode (mC 129) 52 = .ok (.iadd, 1) := by decide +kernel
theorem x129_52 {sc : aSc} {d : Nat} {r : aRes} {L : List Value} {st : List Value} {σ : aS} {x y : Int32} : Rn sc d 129 52 L (.int y :: .int x :: st) σ r ↔ Rn sc d 129 53 L (.int (x + y) :: st) σ r := r_iadd d129_52
theorem d129_53 : decode (mC 129) 53 = .ok (.putfield 44, 3) := by decide +kernel
theorem x129_53 {sc : aSc} {d : Nat} {r : aRes} {L : List Value} {st : List Value} {f : Nat → Nat → Int32} {g : Nat → Nat → Int64} {h1 h2 : Nat} {o : Nat} {v : Int32} (h17 : 17 ≤ o) (hK : KK[o]? = some (.inl 7)) : Rn sc d 129 53 L (.int v :: .ref o :: st) (cS f g h1 h2) r ↔ Rn sc d 129 56 L st (cS (u2 f o 11 v) g h1 h2) r := r_putI d129_53 (ci := 7) (k := 11) rfl (by decide) h17 hK
theorem d129_56 : decode (mC 129) 56 = .ok (.aload_n 0, 1) := by decide +kernel
theorem x129_56 {sc : aSc} {d : Nat} {r : aRes} {x0 : Nat} {a1 : Value} {st : List Value} {σ : aS} : Rn sc d 129 56 [.ref x0, a1] st σ r ↔ Rn sc d 129 57 [.ref x0, a1] (.ref x0 :: st) σ r := r_aload_n d129_56 rfl
theorem d129_57 : decode (mC 129) 57 = .ok (.getfield 47, 3) := by decide +kernel
theorem x129_57 {sc : aSc} {d : Nat} {r : aRes} {L : List Value} {st : List Value} {f : Nat → Nat → Int32} {g : Nat → Nat → Int64} {h1 h2 : Nat} {o : Nat} (h17 : 17 ≤ o) (hK : KK[o]? = some (.inl 7)) : Rn sc d 129 57 L (.ref o :: st) (cS f g h1 h2) r ↔ Rn sc d 129 60 L (.int (f o 12) :: st) (cS f g h1 h2) r := r_getI d129_57 (ci := 7) (k := 12) rfl (by decide) (fun _ => rfl) h17 hK
theorem d129_60 : decode (mC 129) 60 = .ok (.ireturn, 1) := by decide +kernel
theorem x129_60 {sc : aSc} {d : Nat} {r : aRes} {L : List Value} {σ : aS} {x : Int32} : Rn sc d 129 60 L [.int x] σ r ↔ r = (σ, some (.int x)) := r_iret d129_60 rfl rfl
theorem d130_0 : decode (mC 130) 0 = .ok (.aload_n 0, 1) := by decide +kernel
theorem x130_0 {sc : aSc} {d : Nat} {r : aRes} {x0 : Nat} {st : List Value} {σ : aS} : Rn sc d 130 0 [.ref x0] st σ r ↔ Rn sc d 130 1 [.ref x0] (.ref x0 :: st) σ r := r_aload_n d130_0 rfl
theorem d130_1 : decode (mC 130) 1 = .ok (.getfield 47, 3) := by decide +kernel
theorem x130_1 {sc : aSc} {d : Nat} {r : aRes} {L : List Value} {st : List Value} {f : Nat → Nat → Int32} {g : Nat → Nat → Int64} {h1 h2 : Nat} {o : Nat} (h17 : 17 ≤ o) (hK : KK[o]? = some (.inl 7)) : Rn sc d 130 1 L (.ref o :: st) (cS f g h1 h2) r ↔ Rn sc d 130 4 L (.int (f o 12) :: st) (cS f g h1 h2) r := r_getI d130_1 (ci := 7) (k := 12) rfl (by decide) (fun _ => rfl) h17 hK
theorem d130_4 : decode (mC 130) 4 = .ok (.ifCond .ge 7, 3) := by decide +kernel
theorem x130_4 {sc : aSc} {d : Nat} {r : aRes} {L : List Value} {st : List Value} {σ : aS} {x : Int32} : Rn sc d 130 4 L (.int x :: st) σ r ↔ if x < 0 then Rn sc d 130 7 L st σ r else Rn sc d 130 11 L st σ r := r_if_ge d130_4 rfl
theorem d130_7 : decode (mC 130) 7 = .ok (.iconst 0, 1) := by decide +kernel
theorem x130_7 {sc : aSc} {d : Nat} {r : aRes} {L : List Value} {st : List Value} {σ : aS} : Rn sc d 130 7 L st σ r ↔ Rn sc d 130 8 L (.int 0 :: st) σ r := r_iconst d130_7 (by decide)
theorem d130_8 : decode (mC 130) 8 = .ok (.goto 10, 3) := by decide +kernel
theorem x130_8 {sc : aSc} {d : Nat} {r : aRes} {L : List Value} {st : List Value} {σ : aS} : Rn sc d 130 8 L st σ r ↔ Rn sc d 130 18 L st σ r := r_goto d130_8 rfl
theorem d130_11 : decode (mC 130) 11 = .ok (.bipush 10, 2) := by decide +kernel
theorem x130_11 {sc : aSc} {d : Nat} {r : aRes} {L : List Value} {st : List Value} {σ : aS} : Rn sc d 130 11 L st σ r ↔ Rn sc d 130 13 L (.int 10 :: st) σ r := r_bipush d130_11 (by decide)
theorem d130_13 : decode (mC 130) 13 = .ok (.aload_n 0, 1) := by decide +kernel
theorem x130_13 {sc : aSc} {d : Nat} {r : aRes} {x0 : Nat} {st : List Value} {σ : aS} : Rn sc d 130 13 [.ref x0] st σ r ↔ Rn sc d 130 14 [.ref x0] (.ref x0 :: st) σ r := r_aload_n d130_13 rfl
theorem d130_14 : decode (mC 130) 14 = .ok (.getfield 47, 3) := by decide +kernel
theorem x130_14 {sc : aSc} {d : Nat} {r : aRes} {L : List Value} {st : List Value} {f : Nat → Nat → Int32} {g : Nat → Nat → Int64} {h1 h2 : Nat} {o : Nat} (h17 : 17 ≤ o) (hK : KK[o]? = some (.inl 7)) : Rn sc d 130 14 L (.ref o :: st) (cS f g h1 h2) r ↔ Rn sc d 130 17 L (.int (f o 12) :: st) (cS f g h1 h2) r := r_getI d130_14 (ci := 7) (k := 12) rfl (by decide) (fun _ => rfl) h17 hK
theorem d130_17 : decode (mC 130) 17 = .ok (.imul, 1) := by decide +kernel
theorem x130_17 {sc : aSc} {d : Nat} {r : aRes} {L : List Value} {st : List Value} {σ : aS} {x y : Int32} : Rn sc d 130 17 L (.int y :: .int x :: st) σ r ↔ Rn sc d 130 18 L (.int (x * y) :: st) σ r := r_imul d130_17
theorem d130_18 : decode (mC 130) 18 = .ok (.ireturn, 1) := by decide +kernel
theorem x130_18 {sc : aSc} {d : Nat} {r : aRes} {L : List Value} {σ : aS} {x : Int32} : Rn sc d 130 18 L [.int x] σ r ↔ r = (σ, some (.int x)) := r_iret d130_18 rfl rfl
theorem d131_0 : decode (mC 131) 0 = .ok (.aload_n 0, 1) := by decide +kernel
theorem x131_0 {sc : aSc} {d : Nat} {r : aRes} {x0 : Nat} {st : List Value} {σ : aS} : Rn sc d 131 0 [.ref x0] st σ r ↔ Rn sc d 131 1 [.ref x0] (.ref x0 :: st) σ r := r_aload_n d131_0 rfl
theorem d131_1 : decode (mC 131) 1 = .ok (.getfield 47, 3) := by decide +kernel
theorem x131_1 {sc : aSc} {d : Nat} {r : aRes} {L : List Value} {st : List Value} {f : Nat → Nat → Int32} {g : Nat → Nat → Int64} {h1 h2 : Nat} {o : Nat} (h17 : 17 ≤ o) (hK : KK[o]? = some (.inl 7)) : Rn sc d 131 1 L (.ref o :: st) (cS f g h1 h2) r ↔ Rn sc d 131 4 L (.int (f o 12) :: st) (cS f g h1 h2) r := r_getI d131_1 (ci := 7) (k := 12) rfl (by decide) (fun _ => rfl) h17 hK
theorem d131_4 : decode (mC 131) 4 = .ok (.ifCond .ge 7, 3) := by decide +kernel
theorem x131_4 {sc : aSc} {d : Nat} {r : aRes} {L : List Value} {st : List Value} {σ : aS} {x : Int32} : Rn sc d 131 4 L (.int x :: st) σ r ↔ if x < 0 then Rn sc d 131 7 L st σ r else Rn sc d 131 11 L st σ r := r_if_ge d131_4 rfl
theorem d131_7 : decode (mC 131) 7 = .ok (.iconst 0, 1) := by decide +kernel
theorem x131_7 {sc : aSc} {d : Nat} {r : aRes} {L : List Value} {st : List Value} {σ : aS} : Rn sc d 131 7 L st σ r ↔ Rn sc d 131 8 L (.int 0 :: st) σ r := r_iconst d131_7 (by decide)
theorem d131_8 : decode (mC 131) 8 = .ok (.goto 20, 3) := by decide +kernel
theorem x131_8 {sc : aSc} {d : Nat} {r : aRes} {L : List Value} {st : List Value} {σ : aS} : Rn sc d 131 8 L st σ r ↔ Rn sc d 131 28 L st σ r := r_goto d131_8 rfl
theorem d131_11 : decode (mC 131) 11 = .ok (.bipush 10, 2) := by decide +kernel
theorem x131_11 {sc : aSc} {d : Nat} {r : aRes} {L : List Value} {st : List Value} {σ : aS} : Rn sc d 131 11 L st σ r ↔ Rn sc d 131 13 L (.int 10 :: st) σ r := r_bipush d131_11 (by decide)
theorem d131_13 : decode (mC 131) 13 = .ok (.aload_n 0, 1) := by decide +kernel
theorem x131_13 {sc : aSc} {d : Nat} {r : aRes} {x0 : Nat} {st : List Value} {σ : aS} : Rn sc d 131 13 [.ref x0] st σ r ↔ Rn sc d 131 14 [.ref x0] (.ref x0 :: st) σ r := r_aload_n d131_13 rfl
theorem d131_14 : decode (mC 131) 14 = .ok (.getfield 47, 3) := by decide +kernel
theorem x131_14 {sc : aSc} {d : Nat} {r : aRes} {L : List Value} {st : List Value} {f : Nat → Nat → Int32} {g : Nat → Nat → Int64} {h1 h2 : Nat} {o : Nat} (h17 : 17 ≤ o) (hK : KK[o]? = some (.inl 7)) : Rn sc d 131 14 L (.ref o :: st) (cS f g h1 h2) r ↔ Rn sc d 131 17 L (.int (f o 12) :: st) (cS f g h1 h2) r := r_getI d131_14 (ci := 7) (k := 12) rfl (by decide) (fun _ => rfl) h17 hK
theorem d131_17 : decode (mC 131) 17 = .ok (.imul, 1) := by decide +kernel
theorem x131_17 {sc : aSc} {d : Nat} {r : aRes} {L : List Value} {st : List Value} {σ : aS} {x y : Int32} : Rn sc d 131 17 L (.int y :: .int x :: st) σ r ↔ Rn sc d 131 18 L (.int (x * y) :: st) σ r := r_imul d131_17
theorem d131_18 : decode (mC 131) 18 = .ok (.aload_n 0, 1) := by decide +kernel
theorem x131_18 {sc : aSc} {d : Nat} {r : aRes} {x0 : Nat} {st : List Value} {σ : aS} : Rn sc d 131 18 [.ref x0] st σ r ↔ Rn sc d 131 19 [.ref x0] (.ref x0 :: st) σ r := r_aload_n d131_18 rfl
theorem d131_19 : decode (mC 131) 19 = .ok (.getfield 62, 3) := by decide +kernel
theorem x131_19 {sc : aSc} {d : Nat} {r : aRes} {L : List Value} {st : List Value} {f : Nat → Nat → Int32} {g : Nat → Nat → Int64} {h1 h2 : Nat} {o : Nat} (hK : KK[o]? = some (.inl 7)) (hR : (RR h1 h2 o 17).isSome = true) : Rn sc d 131 19 L (.ref o :: st) (cS f g h1 h2) r ↔ Rn sc d 131 22 L (.ref (rf h1 h2 o 17) :: st) (cS f g h1 h2) r := r_getR2 d131_19 (ci := 7) (k := 17) rfl (by decide) (fun _ => rfl) hK hR
theorem d131_22 : decode (mC 131) 22 = .ok (.aload_n 0, 1) := by decide +kernel
theorem x131_22 {sc : aSc} {d : Nat} {r : aRes} {x0 : Nat} {st : List Value} {σ : aS} : Rn sc d 131 22 [.ref x0] st σ r ↔ Rn sc d 131 23 [.ref x0] (.ref x0 :: st) σ r := r_aload_n d131_22 rfl
theorem d131_23 : decode (mC 131) 23 = .ok (.getfield 47, 3) := by decide +kernel
theorem x131_23 {sc : aSc} {d : Nat} {r : aRes} {L : List Value} {st : List Value} {f : Nat → Nat → Int32} {g : Nat → Nat → Int64} {h1 h2 : Nat} {o : Nat} (h17 : 17 ≤ o) (hK : KK[o]? = some (.inl 7)) : Rn sc d 131 23 L (.ref o :: st) (cS f g h1 h2) r ↔ Rn sc d 131 26 L (.int (f o 12) :: st) (cS f g h1 h2) r := r_getI d131_23 (ci := 7) (k := 12) rfl (by decide) (fun _ => rfl) h17 hK
theorem d131_26 : decode (mC 131) 26 = .ok (.iaload, 1) := by decide +kernel
theorem x131_26 {sc : aSc} {d : Nat} {r : aRes} {L : List Value} {st : List Value} {f : Nat → Nat → Int32} {g : Nat → Nat → Int64} {h1 h2 : Nat} {a : Nat} {i : Int32} (h17 : 17 ≤ a) (hA : isT9 .int a) (hi : inb i (aln a) = true) : Rn sc d 131 26 L (.int i :: .ref a :: st) (cS f g h1 h2) r ↔ Rn sc d 131 27 L (.int (f a i.toNatClampNeg) :: st) (cS f g h1 h2) r := r_iald d131_26 h17 hA hi
theorem d131_27 : decode (mC 131) 27 = .ok (.iadd, 1) := by decide +kernel
theorem x131_27 {sc : aSc} {d : Nat} {r : aRes} {L : List Value} {st : List Value} {σ : aS} {x y : Int32} : Rn sc d 131 27 L (.int y :: .int x :: st) σ r ↔ Rn sc d 131 28 L (.int (x + y) :: st) σ r := r_iadd d131_27
theorem d131_28 : decode (mC 131) 28 = .ok (.ireturn, 1) := by decide +kernel
theorem x131_28 {sc : aSc} {d : Nat} {r : aRes} {L : List Value} {σ : aS} {x : Int32} : Rn sc d 131 28 L [.int x] σ r ↔ r = (σ, some (.int x)) := r_iret d131_28 rfl rfl
theorem d132_0 : decode (mC 132) 0 = .ok (.iload_n 2, 1) := by decide +kernel
theorem x132_0 {sc : aSc} {d : Nat} {r : aRes} {a0 : Value} {a1 : Value} {x2 : Int32} {a3 : Value} {a4 : Value} {st : List Value} {σ : aS} : Rn sc d 132 0 [a0, a1, .int x2, a3, a4] st σ r ↔ Rn sc d 132 1 [a0, a1, .int x2, a3, a4] (.int x2 :: st) σ r := r_iload_n d132_0 rfl
theorem d132_1 : decode (mC 132) 1 = .ok (.istore_n 3, 1) := by decide +kernel
theorem x132_1 {sc : aSc} {d : Nat} {r : aRes} {a0 : Value} {a1 : Value} {x2 : Int32} {a3 : Value} {a4 : Value} {st : List Value} {σ : aS} {y : Int32} : Rn sc d 132 1 [a0, a1, .int x2, a3, a4] (.int y :: st) σ r ↔ Rn sc d 132 2 [a0, a1, .int x2, .int y, a4] st σ r := r_istore_n d132_1 (Nat.le_of_ble_eq_true rfl) rfl
theorem d132_2 : decode (mC 132) 2 = .ok (.aload_n 0, 1) := by decide +kernel
theorem x132_2 {sc : aSc} {d : Nat} {r : aRes} {x0 : Nat} {a1 : Value} {a2 : Value} {a3 : Value} {a4 : Value} {st : List Value} {σ : aS} : Rn sc d 132 2 [.ref x0, a1, a2, a3, a4] st σ r ↔ Rn sc d 132 3 [.ref x0, a1, a2, a3, a4] (.ref x0 :: st) σ r := r_aload_n d132_2 rfl
theorem d132_3 : decode (mC 132) 3 = .ok (.invokevirtual 285, 3) := by decide +kernel
theorem x132_3 {sc : aSc} {d : Nat} {r : aRes} {L : List Value} {f : Nat → Nat → Int32} {g : Nat → Nat → Int64} {h1 h2 : Nat}   {o : Nat} (hK : KK[o]? = some (.inl 7)) : Rn sc d 132 3 L [.ref o] (cS f g h1 h2) r ↔ ∃ (σ3 : aS) (v : Option Value), Cl sc d 130 [.ref o] (cS f g h1 h2) (σ3, v) ∧ Rn sc d 132 6 L (v.toList ++ []) σ3 r := r_callV (vs := []) d132_3 (j := 130) rfl ⟨rfl, by decide, rfl, rfl⟩ (Nat.le_of_ble_eq_true rfl) hK
theorem d132_6 : decode (mC 132) 6 = .ok (.istore 4, 2) := by decide +kernel
theorem x132_6 {sc : aSc} {d : Nat} {r : aRes} {a0 : Value} {a1 : Value} {a2 : Value} {x3 : Int32} {a4 : Value} {st : List Value} {σ : aS} {y : Int32} : Rn sc d 132 6 [a0, a1, a2, .int x3, a4] (.int y :: st) σ r ↔ Rn sc d 132 8 [a0, a1, a2, .int x3, .int y] st σ r := r_istore d132_6 (Nat.le_of_ble_eq_true rfl) rfl
theorem d132_8 : decode (mC 132) 8 = .ok (.iload 4, 2) := by decide +kernel
theorem x132_8 {sc : aSc} {d : Nat} {r : aRes} {a0 : Value} {a1 : Value} {a2 : Value} {a3 : Value} {x4 : Int32} {st : List Value} {σ : aS} : Rn sc d 132 8 [a0, a1, a2, a3, .int x4] st σ r ↔ Rn sc d 132 10 [a0, a1, a2, a3, .int x4] (.int x4 :: st) σ r := r_iload d132_8 rfl
theorem d132_10 : decode (mC 132) 10 = .ok (.aload_n 0, 1) := by decide +kernel
theorem x132_10 {sc : aSc} {d : Nat} {r : aRes} {x0 : Nat} {a1 : Value} {a2 : Value} {a3 : Value} {a4 : Value} {st : List Value} {σ : aS} : Rn sc d 132 10 [.ref x0, a1, a2, a3, a4] st σ r ↔ Rn sc d 132 11 [.ref x0, a1, a2, a3, a4] (.ref x0 :: st) σ r := r_aload_n d132_10 rfl
theorem d132_11 : decode (mC 132) 11 = .ok (.invokevirtual 288, 3) := by decide +kernel
theorem x132_11 {sc : aSc} {d : Nat} {r : aRes} {L : List Value} {f : Nat → Nat → Int32} {g : Nat → Nat → Int64} {h1 h2 : Nat}  {z0 : Int32} {o : Nat} (hK : KK[o]? = some (.inl 7)) : Rn sc d 132 11 L [.ref o, .int z0] (cS f g h1 h2) r ↔ ∃ (σ3 : aS) (v : Option Value), Cl sc d 131 [.ref o] (cS f g h1 h2) (σ3, v) ∧ Rn sc d 132 14 L (v.toList ++ [.int z0]) σ3 r := r_callV (vs := []) d132_11 (j := 131) rfl ⟨rfl, by decide, rfl, rfl⟩ (Nat.le_of_ble_eq_true rfl) hK
theorem d132_14 : decode (mC 132) 14 = .ok (.if_icmp .ge 32, 3) := by decide +kernel
theorem x132_14 {sc : aSc} {d : Nat} {r : aRes} {L : List Value} {st : List Value} {σ : aS} {x y : Int32} : Rn sc d 132 14 L (.int y :: .int x :: st) σ r ↔ if x < y then Rn sc d 132 17 L st σ r else Rn sc d 132 46 L st σ r := r_icmp_ge d132_14 rfl
theorem d132_17 : decode (mC 132) 17 = .ok (.aload_n 0, 1) := by decide +kernel
theorem x132_17 {sc : aSc} {d : Nat} {r : aRes} {x0 : Nat} {a1 : Value} {a2 : Value} {a3 : Value} {a4 : Value} {st : List Value} {σ : aS} : Rn sc d 132 17 [.ref x0, a1, a2, a3, a4] st σ r ↔ Rn sc d 132 18 [.ref x0, a1, a2, a3, a4] (.ref x0 :: st) σ r := r_aload_n d132_17 rfl
theorem d132_18 : decode (mC 132) 18 = .ok (.getfield 65, 3) := by decide +kernel
theorem x132_18 {sc : aSc} {d : Nat} {r : aRes} {L : List Value} {st : List Value} {f : Nat → Nat → Int32} {g : Nat → Nat → Int64} {h1 h2 : Nat} {o : Nat} (hK : KK[o]? = some (.inl 7)) (hR : (RR h1 h2 o 18).isSome = true) : Rn sc d 132 18 L (.ref o :: st) (cS f g h1 h2) r ↔ Rn sc d 132 21 L (.ref (rf h1 h2 o 18) :: st) (cS f g h1 h2) r := r_getR2 d132_18 (ci := 7) (k := 18) rfl (by decide) (fun _ => rfl) hK hR
theorem d132_21 : decode (mC 132) 21 = .ok (.iload 4, 2) := by decide +kernel
theorem x132_21 {sc : aSc} {d : Nat} {r : aRes} {a0 : Value} {a1 : Value} {a2 : Value} {a3 : Value} {x4 : Int32} {st : List Value} {σ : aS} : Rn sc d 132 21 [a0, a1, a2, a3, .int x4] st σ r ↔ Rn sc d 132 23 [a0, a1, a2, a3, .int x4] (.int x4 :: st) σ r := r_iload d132_21 rfl
theorem d132_23 : decode (mC 132) 23 = .ok (.iaload, 1) := by decide +kernel
theorem x132_23 {sc : aSc} {d : Nat} {r : aRes} {L : List Value} {st : List Value} {f : Nat → Nat → Int32} {g : Nat → Nat → Int64} {h1 h2 : Nat} {a : Nat} {i : Int32} (h17 : 17 ≤ a) (hA : isT9 .int a) (hi : inb i (aln a) = true) : Rn sc d 132 23 L (.int i :: .ref a :: st) (cS f g h1 h2) r ↔ Rn sc d 132 24 L (.int (f a i.toNatClampNeg) :: st) (cS f g h1 h2) r := r_iald d132_23 h17 hA hi
theorem d132_24 : decode (mC 132) 24 = .ok (.iload_n 1, 1) := by decide +kernel
theorem x132_24 {sc : aSc} {d : Nat} {r : aRes} {a0 : Value} {x1 : Int32} {a2 : Value} {a3 : Value} {a4 : Value} {st : List Value} {σ : aS} : Rn sc d 132 24 [a0, .int x1, a2, a3, a4] st σ r ↔ Rn sc d 132 25 [a0, .int x1, a2, a3, a4] (.int x1 :: st) σ r := r_iload_n d132_24 rfl
theorem d132_25 : decode (mC 132) 25 = .ok (.if_icmp .ne 13, 3) := by decide +kernel
theorem x132_25 {sc : aSc} {d : Nat} {r : aRes} {L : List Value} {st : List Value} {σ : aS} {x y : Int32} : Rn sc d 132 25 L (.int y :: .int x :: st) σ r ↔ if x = y then Rn sc d 132 28 L st σ r else Rn sc d 132 38 L st σ r := r_icmp_ne d132_25 rfl
theorem d132_28 : decode (mC 132) 28 = .ok (.aload_n 0, 1) := by decide +kernel
theorem x132_28 {sc : aSc} {d : Nat} {r : aRes} {x0 : Nat} {a1 : Value} {a2 : Value} {a3 : Value} {a4 : Value} {st : List Value} {σ : aS} : Rn sc d 132 28 [.ref x0, a1, a2, a3, a4] st σ r ↔ Rn sc d 132 29 [.ref x0, a1, a2, a3, a4] (.ref x0 :: st) σ r := r_aload_n d132_28 rfl
theorem d132_29 : decode (mC 132) 29 = .ok (.getfield 68, 3) := by decide +kernel
theorem x132_29 {sc : aSc} {d : Nat} {r : aRes} {L : List Value} {st : List Value} {f : Nat → Nat → Int32} {g : Nat → Nat → Int64} {h1 h2 : Nat} {o : Nat} (hK : KK[o]? = some (.inl 7)) (hR : (RR h1 h2 o 19).isSome = true) : Rn sc d 132 29 L (.ref o :: st) (cS f g h1 h2) r ↔ Rn sc d 132 32 L (.ref (rf h1 h2 o 19) :: st) (cS f g h1 h2) r := r_getR2 d132_29 (ci := 7) (k := 19) rfl (by decide) (fun _ => rfl) hK hR
theorem d132_32 : decode (mC 132) 32 = .ok (.iload 4, 2) := by decide +kernel
theorem x132_32 {sc : aSc} {d : Nat} {r : aRes} {a0 : Value} {a1 : Value} {a2 : Value} {a3 : Value} {x4 : Int32} {st : List Value} {σ : aS} : Rn sc d 132 32 [a0, a1, a2, a3, .int x4] st σ r ↔ Rn sc d 132 34 [a0, a1, a2, a3, .int x4] (.int x4 :: st) σ r := r_iload d132_32 rfl
theorem d132_34 : decode (mC 132) 34 = .ok (.iaload, 1) := by decide +kernel
theorem x132_34 {sc : aSc} {d : Nat} {r : aRes} {L : List Value} {st : List Value} {f : Nat → Nat → Int32} {g : Nat → Nat → Int64} {h1 h2 : Nat} {a : Nat} {i : Int32} (h17 : 17 ≤ a) (hA : isT9 .int a) (hi : inb i (aln a) = true) : Rn sc d 132 34 L (.int i :: .ref a :: st) (cS f g h1 h2) r ↔ Rn sc d 132 35 L (.int (f a i.toNatClampNeg) :: st) (cS f g h1 h2) r := r_iald d132_34 h17 hA hi
theorem d132_35 : decode (mC 132) 35 = .ok (.goto 4, 3) := by decide +kernel
theorem x132_35 {sc : aSc} {d : Nat} {r : aRes} {L : List Value} {st : List Value} {σ : aS} : Rn sc d 132 35 L st σ r ↔ Rn sc d 132 39 L st σ r := r_goto d132_35 rfl
theorem d132_38 : decode (mC 132) 38 = .ok (.iload_n 3, 1) := by decide +kernel
theorem x132_38 {sc : aSc} {d : Nat} {r : aRes} {a0 : Value} {a1 : Value} {a2 : Value} {x3 : Int32} {a4 : Value} {st : List Value} {σ : aS} : Rn sc d 132 38 [a0, a1, a2, .int x3, a4] st σ r ↔ Rn sc d 132 39 [a0, a1, a2, .int x3, a4] (.int x3 :: st) σ r := r_iload_n d132_38 rfl
theorem d132_39 : decode (mC 132) 39 = .ok (.istore_n 3, 1) := by decide +kernel
theorem x132_39 {sc : aSc} {d : Nat} {r : aRes} {a0 : Value} {a1 : Value} {x2 : Int32} {a3 : Value} {a4 : Value} {st : List Value} {σ : aS} {y : Int32} : Rn sc d 132 39 [a0, a1, .int x2, a3, a4] (.int y :: st) σ r ↔ Rn sc d 132 40 [a0, a1, .int x2, .int y, a4] st σ r := r_istore_n d132_39 (Nat.le_of_ble_eq_true rfl) rfl
theorem d132_40 : decode (mC 132) 40 = .ok (.iinc 4 1, 3) := by decide +kernel
theorem x132_40 {sc : aSc} {d : Nat} {r : aRes} {a0 : Value} {a1 : Value} {a2 : Value} {x3 : Int32} {x4 : Int32} {st : List Value} {σ : aS} : Rn sc d 132 40 [a0, a1, a2, .int x3, .int x4] st σ r ↔ Rn sc d 132 43 [a0, a1, a2, .int x3, .int (x4 + 1)] st σ r := r_iinc d132_40 (Nat.le_of_ble_eq_true rfl) rfl rfl (by decide)
theorem d132_43 : decode (mC 132) 43 = .ok (.goto (-35), 3) := by decide +kernel
theorem x132_43 {sc : aSc} {d : Nat} {r : aRes} {L : List Value} {st : List Value} {σ : aS} : Rn sc d 132 43 L st σ r ↔ Rn sc d 132 8 L st σ r := r_goto d132_43 rfl
theorem d132_46 : decode (mC 132) 46 = .ok (.iload_n 3, 1) := by decide +kernel
theorem x132_46 {sc : aSc} {d : Nat} {r : aRes} {a0 : Value} {a1 : Value} {a2 : Value} {x3 : Int32} {a4 : Value} {st : List Value} {σ : aS} : Rn sc d 132 46 [a0, a1, a2, .int x3, a4] st σ r ↔ Rn sc d 132 47 [a0, a1, a2, .int x3, a4] (.int x3 :: st) σ r := r_iload_n d132_46 rfl
theorem d132_47 : decode (mC 132) 47 = .ok (.ireturn, 1) := by decide +kernel
theorem x132_47 {sc : aSc} {d : Nat} {r : aRes} {L : List Value} {σ : aS} {x : Int32} : Rn sc d 132 47 L [.int x] σ r ↔ r = (σ, some (.int x)) := r_iret d132_47 rfl rfl
theorem d133_0 : decode (mC 133) 0 = .ok (.bipush 10, 2) := by decide +kernel
theorem x133_0 {sc : aSc} {d : Nat} {r : aRes} {L : List Value} {st : List Value} {σ : aS} : Rn sc d 133 0 L st σ r ↔ Rn sc d 133 2 L (.int 10 :: st) σ r := r_bipush d133_0 (by decide)
theorem d133_2 : decode (mC 133) 2 = .ok (.aload_n 0, 1) := by decide +kernel
theorem x133_2 {sc : aSc} {d : Nat} {r : aRes} {x0 : Nat} {st : List Value} {σ : aS} : Rn sc d 133 2 [.ref x0] st σ r ↔ Rn sc d 133 3 [.ref x0] (.ref x0 :: st) σ r := r_aload_n d133_2 rfl
theorem d133_3 : decode (mC 133) 3 = .ok (.iconst 3, 1) := by decide +kernel
theorem x133_3 {sc : aSc} {d : Nat} {r : aRes} {L : List Value} {st : List Value} {σ : aS} : Rn sc d 133 3 L st σ r ↔ Rn sc d 133 4 L (.int 3 :: st) σ r := r_iconst d133_3 (by decide)
theorem d133_4 : decode (mC 133) 4 = .ok (.bipush 99, 2) := by decide +kernel
theorem x133_4 {sc : aSc} {d : Nat} {r : aRes} {L : List Value} {st : List Value} {σ : aS} : Rn sc d 133 4 L st σ r ↔ Rn sc d 133 6 L (.int 99 :: st) σ r := r_bipush d133_4 (by decide)
theorem d133_6 : decode (mC 133) 6 = .ok (.invokevirtual 291, 3) := by decide +kernel
theorem x133_6 {sc : aSc} {d : Nat} {r : aRes} {L : List Value} {f : Nat → Nat → Int32} {g : Nat → Nat → Int64} {h1 h2 : Nat} {y0 : Int32} {y1 : Int32} {z0 : Int32} {o : Nat} (hK : KK[o]? = some (.inl 7)) : Rn sc d 133 6 L [.int y0, .int y1, .ref o, .int z0] (cS f g h1 h2) r ↔ ∃ (σ3 : aS) (v : Option Value), Cl sc d 132 [.ref o, .int y1, .int y0] (cS f g h1 h2) (σ3, v) ∧ Rn sc d 133 9 L (v.toList ++ [.int z0]) σ3 r := r_callV (vs := [.int y0, .int y1]) d133_6 (j := 132) rfl ⟨rfl, by decide, rfl, rfl⟩ (Nat.le_of_ble_eq_true rfl) hK
theorem d133_9 : decode (mC 133) 9 = .ok (.imul, 1) := by decide +kernel
theorem x133_9 {sc : aSc} {d : Nat} {r : aRes} {L : List Value} {st : List Value} {σ : aS} {x y : Int32} : Rn sc d 133 9 L (.int y :: .int x :: st) σ r ↔ Rn sc d 133 10 L (.int (x * y) :: st) σ r := r_imul d133_9
theorem d133_10 : decode (mC 133) 10 = .ok (.ireturn, 1) := by decide +kernel
theorem x133_10 {sc : aSc} {d : Nat} {r : aRes} {L : List Value} {σ : aS} {x : Int32} : Rn sc d 133 10 L [.int x] σ r ↔ r = (σ, some (.int x)) := r_iret d133_10 rfl rfl
theorem d134_0 : decode (mC 134) 0 = .ok (.iload_n 1, 1) := by decide +kernel
theorem x134_0 {sc : aSc} {d : Nat} {r : aRes} {a0 : Value} {x1 : Int32} {a2 : Value} {st : List Value} {σ : aS} : Rn sc d 134 0 [a0, .int x1, a2] st σ r ↔ Rn sc d 134 1 [a0, .int x1, a2] (.int x1 :: st) σ r := r_iload_n d134_0 rfl
theorem d134_1 : decode (mC 134) 1 = .ok (.tableswitch 70 0 4 #[35, 37, 44, 51, 60], 35) := by decide +kernel
theorem x134_1 {sc : aSc} {d : Nat} {r : aRes} {L : List Value} {st : List Value} {σ : aS} {x : Int32} : Rn sc d 134 1 L (.int x :: st) σ r ↔ (if x = 0 then Rn sc d 134 36 L st σ r else (if x = 1 then Rn sc d 134 38 L st σ r else (if x = 2 then Rn sc d 134 45 L st σ r else (if x = 3 then Rn sc d 134 52 L st σ r else (if x = 4 then Rn sc d 134 61 L st σ r else Rn sc d 134 71 L st σ r))))) := by
  by_cases c0 : x = 0
  · subst c0; simp only [if_pos]; exact r_tsw d134_1 (t := 36) rfl
  rw [if_neg c0]
  by_cases c1 : x = 1
  · subst c1; simp only [if_pos]; exact r_tsw d134_1 (t := 38) rfl
  rw [if_neg c1]
  by_cases c2 : x = 2
  · subst c2; simp only [if_pos]; exact r_tsw d134_1 (t := 45) rfl
  rw [if_neg c2]
  by_cases c3 : x = 3
  · subst c3; simp only [if_pos]; exact r_tsw d134_1 (t := 52) rfl
  rw [if_neg c3]
  by_cases c4 : x = 4
  · subst c4; simp only [if_pos]; exact r_tsw d134_1 (t := 61) rfl
  rw [if_neg c4]
  refine r_tswd d134_1 ?_ rfl
  have e0 : x.toInt ≠ 0 := fun z => c0 (Int32.toInt_inj.mp z)
  have e1 : x.toInt ≠ 1 := fun z => c1 (Int32.toInt_inj.mp z)
  have e2 : x.toInt ≠ 2 := fun z => c2 (Int32.toInt_inj.mp z)
  have e3 : x.toInt ≠ 3 := fun z => c3 (Int32.toInt_inj.mp z)
  have e4 : x.toInt ≠ 4 := fun z => c4 (Int32.toInt_inj.mp z)
  omega
theorem d134_36 : decode (mC 134) 36 = .ok (.iload_n 2, 1) := by decide +kernel
theorem x134_36 {sc : aSc} {d : Nat} {r : aRes} {a0 : Value} {a1 : Value} {x2 : Int32} {st : List Value} {σ : aS} : Rn sc d 134 36 [a0, a1, .int x2] st σ r ↔ Rn sc d 134 37 [a0, a1, .int x2] (.int x2 :: st) σ r := r_iload_n d134_36 rfl
theorem d134_37 : decode (mC 134) 37 = .ok (.ireturn, 1) := by decide +kernel
theorem x134_37 {sc : aSc} {d : Nat} {r : aRes} {L : List Value} {σ : aS} {x : Int32} : Rn sc d 134 37 L [.int x] σ r ↔ r = (σ, some (.int x)) := r_iret d134_37 rfl rfl
theorem d134_38 : decode (mC 134) 38 = .ok (.aload_n 0, 1) := by decide +kernel
theorem x134_38 {sc : aSc} {d : Nat} {r : aRes} {x0 : Nat} {a1 : Value} {a2 : Value} {st : List Value} {σ : aS} : Rn sc d 134 38 [.ref x0, a1, a2] st σ r ↔ Rn sc d 134 39 [.ref x0, a1, a2] (.ref x0 :: st) σ r := r_aload_n d134_38 rfl
theorem d134_39 : decode (mC 134) 39 = .ok (.getfield 25, 3) := by decide +kernel
theorem x134_39 {sc : aSc} {d : Nat} {r : aRes} {L : List Value} {st : List Value} {f : Nat → Nat → Int32} {g : Nat → Nat → Int64} {h1 h2 : Nat} {o : Nat} (hK : KK[o]? = some (.inl 7)) (hR : (RR h1 h2 o 5).isSome = true) : Rn sc d 134 39 L (.ref o :: st) (cS f g h1 h2) r ↔ Rn sc d 134 42 L (.ref (rf h1 h2 o 5) :: st) (cS f g h1 h2) r := r_getR2 d134_39 (ci := 7) (k := 5) rfl (by decide) (fun _ => rfl) hK hR
theorem d134_42 : decode (mC 134) 42 = .ok (.iload_n 2, 1) := by decide +kernel
theorem x134_42 {sc : aSc} {d : Nat} {r : aRes} {a0 : Value} {a1 : Value} {x2 : Int32} {st : List Value} {σ : aS} : Rn sc d 134 42 [a0, a1, .int x2] st σ r ↔ Rn sc d 134 43 [a0, a1, .int x2] (.int x2 :: st) σ r := r_iload_n d134_42 rfl
theorem d134_43 : decode (mC 134) 43 = .ok (.iaload, 1) := by decide +kernel
theorem x134_43 {sc : aSc} {d : Nat} {r : aRes} {L : List Value} {st : List Value} {f : Nat → Nat → Int32} {g : Nat → Nat → Int64} {h1 h2 : Nat} {a : Nat} {i : Int32} (h17 : 17 ≤ a) (hA : isT9 .int a) (hi : inb i (aln a) = true) : Rn sc d 134 43 L (.int i :: .ref a :: st) (cS f g h1 h2) r ↔ Rn sc d 134 44 L (.int (f a i.toNatClampNeg) :: st) (cS f g h1 h2) r := r_iald d134_43 h17 hA hi
theorem d134_44 : decode (mC 134) 44 = .ok (.ireturn, 1) := by decide +kernel
theorem x134_44 {sc : aSc} {d : Nat} {r : aRes} {L : List Value} {σ : aS} {x : Int32} : Rn sc d 134 44 L [.int x] σ r ↔ r = (σ, some (.int x)) := r_iret d134_44 rfl rfl
theorem d134_45 : decode (mC 134) 45 = .ok (.aload_n 0, 1) := by decide +kernel
theorem x134_45 {sc : aSc} {d : Nat} {r : aRes} {x0 : Nat} {a1 : Value} {a2 : Value} {st : List Value} {σ : aS} : Rn sc d 134 45 [.ref x0, a1, a2] st σ r ↔ Rn sc d 134 46 [.ref x0, a1, a2] (.ref x0 :: st) σ r := r_aload_n d134_45 rfl
theorem d134_46 : decode (mC 134) 46 = .ok (.getfield 29, 3) := by decide +kernel
theorem x134_46 {sc : aSc} {d : Nat} {r : aRes} {L : List Value} {st : List Value} {f : Nat → Nat → Int32} {g : Nat → Nat → Int64} {h1 h2 : Nat} {o : Nat} (hK : KK[o]? = some (.inl 7)) (hR : (RR h1 h2 o 6).isSome = true) : Rn sc d 134 46 L (.ref o :: st) (cS f g h1 h2) r ↔ Rn sc d 134 49 L (.ref (rf h1 h2 o 6) :: st) (cS f g h1 h2) r := r_getR2 d134_46 (ci := 7) (k := 6) rfl (by decide) (fun _ => rfl) hK hR
theorem d134_49 : decode (mC 134) 49 = .ok (.iload_n 2, 1) := by decide +kernel
theorem x134_49 {sc : aSc} {d : Nat} {r : aRes} {a0 : Value} {a1 : Value} {x2 : Int32} {st : List Value} {σ : aS} : Rn sc d 134 49 [a0, a1, .int x2] st σ r ↔ Rn sc d 134 50 [a0, a1, .int x2] (.int x2 :: st) σ r := r_iload_n d134_49 rfl
theorem d134_50 : decode (mC 134) 50 = .ok (.iaload, 1) := by decide +kernel
theorem x134_50 {sc : aSc} {d : Nat} {r : aRes} {L : List Value} {st : List Value} {f : Nat → Nat → Int32} {g : Nat → Nat → Int64} {h1 h2 : Nat} {a : Nat} {i : Int32} (h17 : 17 ≤ a) (hA : isT9 .int a) (hi : inb i (aln a) = true) : Rn sc d 134 50 L (.int i :: .ref a :: st) (cS f g h1 h2) r ↔ Rn sc d 134 51 L (.int (f a i.toNatClampNeg) :: st) (cS f g h1 h2) r := r_iald d134_50 h17 hA hi
theorem d134_51 : decode (mC 134) 51 = .ok (.ireturn, 1) := by decide +kernel
theorem x134_51 {sc : aSc} {d : Nat} {r : aRes} {L : List Value} {σ : aS} {x : Int32} : Rn sc d 134 51 L [.int x] σ r ↔ r = (σ, some (.int x)) := r_iret d134_51 rfl rfl
theorem d134_52 : decode (mC 134) 52 = .ok (.aload_n 0, 1) := by decide +kernel
theorem x134_52 {sc : aSc} {d : Nat} {r : aRes} {x0 : Nat} {a1 : Value} {a2 : Value} {st : List Value} {σ : aS} : Rn sc d 134 52 [.ref x0, a1, a2] st σ r ↔ Rn sc d 134 53 [.ref x0, a1, a2] (.ref x0 :: st) σ r := r_aload_n d134_52 rfl
theorem d134_53 : decode (mC 134) 53 = .ok (.getfield 13, 3) := by decide +kernel
theorem x134_53 {sc : aSc} {d : Nat} {r : aRes} {L : List Value} {st : List Value} {f : Nat → Nat → Int32} {g : Nat → Nat → Int64} {h1 h2 : Nat} {o : Nat} (h17 : 17 ≤ o) (hK : KK[o]? = some (.inl 7)) : Rn sc d 134 53 L (.ref o :: st) (cS f g h1 h2) r ↔ Rn sc d 134 56 L (.int (f o 1) :: st) (cS f g h1 h2) r := r_getI d134_53 (ci := 7) (k := 1) rfl (by decide) (fun _ => rfl) h17 hK
theorem d134_56 : decode (mC 134) 56 = .ok (.iload_n 2, 1) := by decide +kernel
theorem x134_56 {sc : aSc} {d : Nat} {r : aRes} {a0 : Value} {a1 : Value} {x2 : Int32} {st : List Value} {σ : aS} : Rn sc d 134 56 [a0, a1, .int x2] st σ r ↔ Rn sc d 134 57 [a0, a1, .int x2] (.int x2 :: st) σ r := r_iload_n d134_56 rfl
theorem d134_57 : decode (mC 134) 57 = .ok (.ishr, 1) := by decide +kernel
theorem x134_57 {sc : aSc} {d : Nat} {r : aRes} {L : List Value} {st : List Value} {σ : aS} {x y : Int32} : Rn sc d 134 57 L (.int y :: .int x :: st) σ r ↔ Rn sc d 134 58 L (.int (x >>> (y &&& 31)) :: st) σ r := r_ishr d134_57
theorem d134_58 : decode (mC 134) 58 = .ok (.iconst 1, 1) := by decide +kernel
theorem x134_58 {sc : aSc} {d : Nat} {r : aRes} {L : List Value} {st : List Value} {σ : aS} : Rn sc d 134 58 L st σ r ↔ Rn sc d 134 59 L (.int 1 :: st) σ r := r_iconst d134_58 (by decide)
theorem d134_59 : decode (mC 134) 59 = .ok (.iand, 1) := by decide +kernel
theorem x134_59 {sc : aSc} {d : Nat} {r : aRes} {L : List Value} {st : List Value} {σ : aS} {x y : Int32} : Rn sc d 134 59 L (.int y :: .int x :: st) σ r ↔ Rn sc d 134 60 L (.int (x &&& y) :: st) σ r := r_iand d134_59
theorem d134_60 : decode (mC 134) 60 = .ok (.ireturn, 1) := by decide +kernel
theorem x134_60 {sc : aSc} {d : Nat} {r : aRes} {L : List Value} {σ : aS} {x : Int32} : Rn sc d 134 60 L [.int x] σ r ↔ r = (σ, some (.int x)) := r_iret d134_60 rfl rfl
theorem d134_61 : decode (mC 134) 61 = .ok (.aload_n 0, 1) := by decide +kernel
theorem x134_61 {sc : aSc} {d : Nat} {r : aRes} {x0 : Nat} {a1 : Value} {a2 : Value} {st : List Value} {σ : aS} : Rn sc d 134 61 [.ref x0, a1, a2] st σ r ↔ Rn sc d 134 62 [.ref x0, a1, a2] (.ref x0 :: st) σ r := r_aload_n d134_61 rfl
theorem d134_62 : decode (mC 134) 62 = .ok (.getfield 32, 3) := by decide +kernel
theorem x134_62 {sc : aSc} {d : Nat} {r : aRes} {L : List Value} {st : List Value} {f : Nat → Nat → Int32} {g : Nat → Nat → Int64} {h1 h2 : Nat} {o : Nat} (hK : KK[o]? = some (.inl 7)) (hR : (RR h1 h2 o 7).isSome = true) : Rn sc d 134 62 L (.ref o :: st) (cS f g h1 h2) r ↔ Rn sc d 134 65 L (.ref (rf h1 h2 o 7) :: st) (cS f g h1 h2) r := r_getR2 d134_62 (ci := 7) (k := 7) rfl (by decide) (fun _ => rfl) hK hR
theorem d134_65 : decode (mC 134) 65 = .ok (.iload_n 2, 1) := by decide +kernel
theorem x134_65 {sc : aSc} {d : Nat} {r : aRes} {a0 : Value} {a1 : Value} {x2 : Int32} {st : List Value} {σ : aS} : Rn sc d 134 65 [a0, a1, .int x2] st σ r ↔ Rn sc d 134 66 [a0, a1, .int x2] (.int x2 :: st) σ r := r_iload_n d134_65 rfl
theorem d134_66 : decode (mC 134) 66 = .ok (.iaload, 1) := by decide +kernel
theorem x134_66 {sc : aSc} {d : Nat} {r : aRes} {L : List Value} {st : List Value} {f : Nat → Nat → Int32} {g : Nat → Nat → Int64} {h1 h2 : Nat} {a : Nat} {i : Int32} (h17 : 17 ≤ a) (hA : isT9 .int a) (hi : inb i (aln a) = true) : Rn sc d 134 66 L (.int i :: .ref a :: st) (cS f g h1 h2) r ↔ Rn sc d 134 67 L (.int (f a i.toNatClampNeg) :: st) (cS f g h1 h2) r := r_iald d134_66 h17 hA hi
theorem d134_67 : decode (mC 134) 67 = .ok (.bipush 10, 2) := by decide +kernel
theorem x134_67 {sc : aSc} {d : Nat} {r : aRes} {L : List Value} {st : List Value} {σ : aS} : Rn sc d 134 67 L st σ r ↔ Rn sc d 134 69 L (.int 10 :: st) σ r := r_bipush d134_67 (by decide)
theorem d134_69 : decode (mC 134) 69 = .ok (.idiv, 1) := by decide +kernel
theorem x134_69 {sc : aSc} {d : Nat} {r : aRes} {L : List Value} {st : List Value} {σ : aS} {x y : Int32} (hy : ¬ y = 0) : Rn sc d 134 69 L (.int y :: .int x :: st) σ r ↔ Rn sc d 134 70 L (.int (x / y) :: st) σ r := r_idiv d134_69 hy
theorem d134_70 : decode (mC 134) 70 = .ok (.ireturn, 1) := by decide +kernel
theorem x134_70 {sc : aSc} {d : Nat} {r : aRes} {L : List Value} {σ : aS} {x : Int32} : Rn sc d 134 70 L [.int x] σ r ↔ r = (σ, some (.int x)) := r_iret d134_70 rfl rfl
theorem d134_71 : decode (mC 134) 71 = .ok (.aload_n 0, 1) := by decide +kernel
theorem x134_71 {sc : aSc} {d : Nat} {r : aRes} {x0 : Nat} {a1 : Value} {a2 : Value} {st : List Value} {σ : aS} : Rn sc d 134 71 [.ref x0, a1, a2] st σ r ↔ Rn sc d 134 72 [.ref x0, a1, a2] (.ref x0 :: st) σ r := r_aload_n d134_71 rfl
theorem d134_72 : decode (mC 134) 72 = .ok (.getfield 16, 3) := by decide +kernel
theorem x134_72 {sc : aSc} {d : Nat} {r : aRes} {L : List Value} {st : List Value} {f : Nat → Nat → Int32} {g : Nat → Nat → Int64} {h1 h2 : Nat} {o : Nat} (h17 : 17 ≤ o) (hK : KK[o]? = some (.inl 7)) : Rn sc d 134 72 L (.ref o :: st) (cS f g h1 h2) r ↔ Rn sc d 134 75 L (.int (f o 2) :: st) (cS f g h1 h2) r := r_getI d134_72 (ci := 7) (k := 2) rfl (by decide) (fun _ => rfl) h17 hK
theorem d134_75 : decode (mC 134) 75 = .ok (.bipush 12, 2) := by decide +kernel
theorem x134_75 {sc : aSc} {d : Nat} {r : aRes} {L : List Value} {st : List Value} {σ : aS} : Rn sc d 134 75 L st σ r ↔ Rn sc d 134 77 L (.int 12 :: st) σ r := r_bipush d134_75 (by decide)
theorem d134_77 : decode (mC 134) 77 = .ok (.irem, 1) := by decide +kernel
theorem x134_77 {sc : aSc} {d : Nat} {r : aRes} {L : List Value} {st : List Value} {σ : aS} {x y : Int32} (hy : ¬ y = 0) : Rn sc d 134 77 L (.int y :: .int x :: st) σ r ↔ Rn sc d 134 78 L (.int (x % y) :: st) σ r := r_irem d134_77 hy
theorem d134_78 : decode (mC 134) 78 = .ok (.ireturn, 1) := by decide +kernel
theorem x134_78 {sc : aSc} {d : Nat} {r : aRes} {L : List Value} {σ : aS} {x : Int32} : Rn sc d 134 78 L [.int x] σ r ↔ r = (σ, some (.int x)) := r_iret d134_78 rfl rfl
theorem d135_0 : decode (mC 135) 0 = .ok (.iconst 0, 1) := by decide +kernel
theorem x135_0 {sc : aSc} {d : Nat} {r : aRes} {L : List Value} {st : List Value} {σ : aS} : Rn sc d 135 0 L st σ r ↔ Rn sc d 135 1 L (.int 0 :: st) σ r := r_iconst d135_0 (by decide)
theorem d135_1 : decode (mC 135) 1 = .ok (.istore_n 3, 1) := by decide +kernel
theorem x135_1 {sc : aSc} {d : Nat} {r : aRes} {a0 : Value} {a1 : Value} {x2 : Int32} {a3 : Value} {a4 : Value} {a5 : Value} {a6 : Value} {a7 : Value} {st : List Value} {σ : aS} {y : Int32} : Rn sc d 135 1 [a0, a1, .int x2, a3, a4, a5, a6, a7] (.int y :: st) σ r ↔ Rn sc d 135 2 [a0, a1, .int x2, .int y, a4, a5, a6, a7] st σ r := r_istore_n d135_1 (Nat.le_of_ble_eq_true rfl) rfl
theorem d135_2 : decode (mC 135) 2 = .ok (.aload_n 0, 1) := by decide +kernel
theorem x135_2 {sc : aSc} {d : Nat} {r : aRes} {x0 : Nat} {a1 : Value} {a2 : Value} {a3 : Value} {a4 : Value} {a5 : Value} {a6 : Value} {a7 : Value} {st : List Value} {σ : aS} : Rn sc d 135 2 [.ref x0, a1, a2, a3, a4, a5, a6, a7] st σ r ↔ Rn sc d 135 3 [.ref x0, a1, a2, a3, a4, a5, a6, a7] (.ref x0 :: st) σ r := r_aload_n d135_2 rfl
theorem d135_3 : decode (mC 135) 3 = .ok (.getfield 71, 3) := by decide +kernel
theorem x135_3 {sc : aSc} {d : Nat} {r : aRes} {L : List Value} {st : List Value} {f : Nat → Nat → Int32} {g : Nat → Nat → Int64} {h1 h2 : Nat} {o : Nat} (hK : KK[o]? = some (.inl 7)) (hR : (RR h1 h2 o 20).isSome = true) : Rn sc d 135 3 L (.ref o :: st) (cS f g h1 h2) r ↔ Rn sc d 135 6 L (.ref (rf h1 h2 o 20) :: st) (cS f g h1 h2) r := r_getR2 d135_3 (ci := 7) (k := 20) rfl (by decide) (fun _ => rfl) hK hR
theorem d135_6 : decode (mC 135) 6 = .ok (.iload_n 1, 1) := by decide +kernel
theorem x135_6 {sc : aSc} {d : Nat} {r : aRes} {a0 : Value} {x1 : Int32} {a2 : Value} {a3 : Value} {a4 : Value} {a5 : Value} {a6 : Value} {a7 : Value} {st : List Value} {σ : aS} : Rn sc d 135 6 [a0, .int x1, a2, a3, a4, a5, a6, a7] st σ r ↔ Rn sc d 135 7 [a0, .int x1, a2, a3, a4, a5, a6, a7] (.int x1 :: st) σ r := r_iload_n d135_6 rfl
theorem d135_7 : decode (mC 135) 7 = .ok (.iaload, 1) := by decide +kernel
theorem x135_7 {sc : aSc} {d : Nat} {r : aRes} {L : List Value} {st : List Value} {f : Nat → Nat → Int32} {g : Nat → Nat → Int64} {h1 h2 : Nat} {a : Nat} {i : Int32} (h17 : 17 ≤ a) (hA : isT9 .int a) (hi : inb i (aln a) = true) : Rn sc d 135 7 L (.int i :: .ref a :: st) (cS f g h1 h2) r ↔ Rn sc d 135 8 L (.int (f a i.toNatClampNeg) :: st) (cS f g h1 h2) r := r_iald d135_7 h17 hA hi
theorem d135_8 : decode (mC 135) 8 = .ok (.istore 4, 2) := by decide +kernel
theorem x135_8 {sc : aSc} {d : Nat} {r : aRes} {a0 : Value} {a1 : Value} {a2 : Value} {x3 : Int32} {a4 : Value} {a5 : Value} {a6 : Value} {a7 : Value} {st : List Value} {σ : aS} {y : Int32} : Rn sc d 135 8 [a0, a1, a2, .int x3, a4, a5, a6, a7] (.int y :: st) σ r ↔ Rn sc d 135 10 [a0, a1, a2, .int x3, .int y, a5, a6, a7] st σ r := r_istore d135_8 (Nat.le_of_ble_eq_true rfl) rfl
theorem d135_10 : decode (mC 135) 10 = .ok (.iload 4, 2) := by decide +kernel
theorem x135_10 {sc : aSc} {d : Nat} {r : aRes} {a0 : Value} {a1 : Value} {a2 : Value} {a3 : Value} {x4 : Int32} {a5 : Value} {a6 : Value} {a7 : Value} {st : List Value} {σ : aS} : Rn sc d 135 10 [a0, a1, a2, a3, .int x4, a5, a6, a7] st σ r ↔ Rn sc d 135 12 [a0, a1, a2, a3, .int x4, a5, a6, a7] (.int x4 :: st) σ r := r_iload d135_10 rfl
theorem d135_12 : decode (mC 135) 12 = .ok (.aload_n 0, 1) := by decide +kernel
theorem x135_12 {sc : aSc} {d : Nat} {r : aRes} {x0 : Nat} {a1 : Value} {a2 : Value} {a3 : Value} {a4 : Value} {a5 : Value} {a6 : Value} {a7 : Value} {st : List Value} {σ : aS} : Rn sc d 135 12 [.ref x0, a1, a2, a3, a4, a5, a6, a7] st σ r ↔ Rn sc d 135 13 [.ref x0, a1, a2, a3, a4, a5, a6, a7] (.ref x0 :: st) σ r := r_aload_n d135_12 rfl
theorem d135_13 : decode (mC 135) 13 = .ok (.getfield 74, 3) := by decide +kernel
theorem x135_13 {sc : aSc} {d : Nat} {r : aRes} {L : List Value} {st : List Value} {f : Nat → Nat → Int32} {g : Nat → Nat → Int64} {h1 h2 : Nat} {o : Nat} (hK : KK[o]? = some (.inl 7)) (hR : (RR h1 h2 o 21).isSome = true) : Rn sc d 135 13 L (.ref o :: st) (cS f g h1 h2) r ↔ Rn sc d 135 16 L (.ref (rf h1 h2 o 21) :: st) (cS f g h1 h2) r := r_getR2 d135_13 (ci := 7) (k := 21) rfl (by decide) (fun _ => rfl) hK hR
theorem d135_16 : decode (mC 135) 16 = .ok (.iload_n 1, 1) := by decide +kernel
theorem x135_16 {sc : aSc} {d : Nat} {r : aRes} {a0 : Value} {x1 : Int32} {a2 : Value} {a3 : Value} {a4 : Value} {a5 : Value} {a6 : Value} {a7 : Value} {st : List Value} {σ : aS} : Rn sc d 135 16 [a0, .int x1, a2, a3, a4, a5, a6, a7] st σ r ↔ Rn sc d 135 17 [a0, .int x1, a2, a3, a4, a5, a6, a7] (.int x1 :: st) σ r := r_iload_n d135_16 rfl
theorem d135_17 : decode (mC 135) 17 = .ok (.iaload, 1) := by decide +kernel
theorem x135_17 {sc : aSc} {d : Nat} {r : aRes} {L : List Value} {st : List Value} {f : Nat → Nat → Int32} {g : Nat → Nat → Int64} {h1 h2 : Nat} {a : Nat} {i : Int32} (h17 : 17 ≤ a) (hA : isT9 .int a) (hi : inb i (aln a) = true) : Rn sc d 135 17 L (.int i :: .ref a :: st) (cS f g h1 h2) r ↔ Rn sc d 135 18 L (.int (f a i.toNatClampNeg) :: st) (cS f g h1 h2) r := r_iald d135_17 h17 hA hi
theorem d135_18 : decode (mC 135) 18 = .ok (.if_icmp .ge 225, 3) := by decide +kernel
theorem x135_18 {sc : aSc} {d : Nat} {r : aRes} {L : List Value} {st : List Value} {σ : aS} {x y : Int32} : Rn sc d 135 18 L (.int y :: .int x :: st) σ r ↔ if x < y then Rn sc d 135 21 L st σ r else Rn sc d 135 243 L st σ r := r_icmp_ge d135_18 rfl
theorem d135_21 : decode (mC 135) 21 = .ok (.aload_n 0, 1) := by decide +kernel
theorem x135_21 {sc : aSc} {d : Nat} {r : aRes} {x0 : Nat} {a1 : Value} {a2 : Value} {a3 : Value} {a4 : Value} {a5 : Value} {a6 : Value} {a7 : Value} {st : List Value} {σ : aS} : Rn sc d 135 21 [.ref x0, a1, a2, a3, a4, a5, a6, a7] st σ r ↔ Rn sc d 135 22 [.ref x0, a1, a2, a3, a4, a5, a6, a7] (.ref x0 :: st) σ r := r_aload_n d135_21 rfl
theorem d135_22 : decode (mC 135) 22 = .ok (.getfield 77, 3) := by decide +kernel
theorem x135_22 {sc : aSc} {d : Nat} {r : aRes} {L : List Value} {st : List Value} {f : Nat → Nat → Int32} {g : Nat → Nat → Int64} {h1 h2 : Nat} {o : Nat} (hK : KK[o]? = some (.inl 7)) (hR : (RR h1 h2 o 22).isSome = true) : Rn sc d 135 22 L (.ref o :: st) (cS f g h1 h2) r ↔ Rn sc d 135 25 L (.ref (rf h1 h2 o 22) :: st) (cS f g h1 h2) r := r_getR2 d135_22 (ci := 7) (k := 22) rfl (by decide) (fun _ => rfl) hK hR
theorem d135_25 : decode (mC 135) 25 = .ok (.iload 4, 2) := by decide +kernel
theorem x135_25 {sc : aSc} {d : Nat} {r : aRes} {a0 : Value} {a1 : Value} {a2 : Value} {a3 : Value} {x4 : Int32} {a5 : Value} {a6 : Value} {a7 : Value} {st : List Value} {σ : aS} : Rn sc d 135 25 [a0, a1, a2, a3, .int x4, a5, a6, a7] st σ r ↔ Rn sc d 135 27 [a0, a1, a2, a3, .int x4, a5, a6, a7] (.int x4 :: st) σ r := r_iload d135_25 rfl
theorem d135_27 : decode (mC 135) 27 = .ok (.iaload, 1) := by decide +kernel
theorem x135_27 {sc : aSc} {d : Nat} {r : aRes} {L : List Value} {st : List Value} {f : Nat → Nat → Int32} {g : Nat → Nat → Int64} {h1 h2 : Nat} {a : Nat} {i : Int32} (h17 : 17 ≤ a) (hA : isT9 .int a) (hi : inb i (aln a) = true) : Rn sc d 135 27 L (.int i :: .ref a :: st) (cS f g h1 h2) r ↔ Rn sc d 135 28 L (.int (f a i.toNatClampNeg) :: st) (cS f g h1 h2) r := r_iald d135_27 h17 hA hi
theorem d135_28 : decode (mC 135) 28 = .ok (.istore 5, 2) := by decide +kernel
theorem x135_28 {sc : aSc} {d : Nat} {r : aRes} {a0 : Value} {a1 : Value} {a2 : Value} {a3 : Value} {x4 : Int32} {a5 : Value} {a6 : Value} {a7 : Value} {st : List Value} {σ : aS} {y : Int32} : Rn sc d 135 28 [a0, a1, a2, a3, .int x4, a5, a6, a7] (.int y :: st) σ r ↔ Rn sc d 135 30 [a0, a1, a2, a3, .int x4, .int y, a6, a7] st σ r := r_istore d135_28 (Nat.le_of_ble_eq_true rfl) rfl
theorem d135_30 : decode (mC 135) 30 = .ok (.iload 5, 2) := by decide +kernel
theorem x135_30 {sc : aSc} {d : Nat} {r : aRes} {a0 : Value} {a1 : Value} {a2 : Value} {a3 : Value} {a4 : Value} {x5 : Int32} {a6 : Value} {a7 : Value} {st : List Value} {σ : aS} : Rn sc d 135 30 [a0, a1, a2, a3, a4, .int x5, a6, a7] st σ r ↔ Rn sc d 135 32 [a0, a1, a2, a3, a4, .int x5, a6, a7] (.int x5 :: st) σ r := r_iload d135_30 rfl
theorem d135_32 : decode (mC 135) 32 = .ok (.bipush (-33), 2) := by decide +kernel
theorem x135_32 {sc : aSc} {d : Nat} {r : aRes} {L : List Value} {st : List Value} {σ : aS} : Rn sc d 135 32 L st σ r ↔ Rn sc d 135 34 L (.int (-33) :: st) σ r := r_bipush d135_32 (by decide)
theorem d135_34 : decode (mC 135) 34 = .ok (.if_icmp .ne 30, 3) := by decide +kernel
theorem x135_34 {sc : aSc} {d : Nat} {r : aRes} {L : List Value} {st : List Value} {σ : aS} {x y : Int32} : Rn sc d 135 34 L (.int y :: .int x :: st) σ r ↔ if x = y then Rn sc d 135 37 L st σ r else Rn sc d 135 64 L st σ r := r_icmp_ne d135_34 rfl
theorem d135_37 : decode (mC 135) 37 = .ok (.aload_n 0, 1) := by decide +kernel
theorem x135_37 {sc : aSc} {d : Nat} {r : aRes} {x0 : Nat} {a1 : Value} {a2 : Value} {a3 : Value} {a4 : Value} {a5 : Value} {a6 : Value} {a7 : Value} {st : List Value} {σ : aS} : Rn sc d 135 37 [.ref x0, a1, a2, a3, a4, a5, a6, a7] st σ r ↔ Rn sc d 135 38 [.ref x0, a1, a2, a3, a4, a5, a6, a7] (.ref x0 :: st) σ r := r_aload_n d135_37 rfl
theorem d135_38 : decode (mC 135) 38 = .ok (.getfield 95, 3) := by decide +kernel
theorem x135_38 {sc : aSc} {d : Nat} {r : aRes} {L : List Value} {st : List Value} {f : Nat → Nat → Int32} {g : Nat → Nat → Int64} {h1 h2 : Nat} {o : Nat} (hK : KK[o]? = some (.inl 7)) (hR : (RR h1 h2 o 28).isSome = true) : Rn sc d 135 38 L (.ref o :: st) (cS f g h1 h2) r ↔ Rn sc d 135 41 L (.ref (rf h1 h2 o 28) :: st) (cS f g h1 h2) r := r_getR2 d135_38 (ci := 7) (k := 28) (by decide +kernel) (by decide +kernel) (fun _ => rfl) hK hR
theorem d135_41 : decode (mC 135) 41 = .ok (.iload_n 3, 1) := by decide +kernel
theorem x135_41 {sc : aSc} {d : Nat} {r : aRes} {a0 : Value} {a1 : Value} {a2 : Value} {x3 : Int32} {a4 : Value} {a5 : Value} {a6 : Value} {a7 : Value} {st : List Value} {σ : aS} : Rn sc d 135 41 [a0, a1, a2, .int x3, a4, a5, a6, a7] st σ r ↔ Rn sc d 135 42 [a0, a1, a2, .int x3, a4, a5, a6, a7] (.int x3 :: st) σ r := r_iload_n d135_41 rfl
theorem d135_42 : decode (mC 135) 42 = .ok (.iconst 1, 1) := by decide +kernel
theorem x135_42 {sc : aSc} {d : Nat} {r : aRes} {L : List Value} {st : List Value} {σ : aS} : Rn sc d 135 42 L st σ r ↔ Rn sc d 135 43 L (.int 1 :: st) σ r := r_iconst d135_42 (by decide)
theorem d135_43 : decode (mC 135) 43 = .ok (.isub, 1) := by decide +kernel
theorem x135_43 {sc : aSc} {d : Nat} {r : aRes} {L : List Value} {st : List Value} {σ : aS} {x y : Int32} : Rn sc d 135 43 L (.int y :: .int x :: st) σ r ↔ Rn sc d 135 44 L (.int (x - y) :: st) σ r := r_isub d135_43
theorem d135_44 : decode (mC 135) 44 = .ok (.aload_n 0, 1) := by decide +kernel
theorem x135_44 {sc : aSc} {d : Nat} {r : aRes} {x0 : Nat} {a1 : Value} {a2 : Value} {a3 : Value} {a4 : Value} {a5 : Value} {a6 : Value} {a7 : Value} {st : List Value} {σ : aS} : Rn sc d 135 44 [.ref x0, a1, a2, a3, a4, a5, a6, a7] st σ r ↔ Rn sc d 135 45 [.ref x0, a1, a2, a3, a4, a5, a6, a7] (.ref x0 :: st) σ r := r_aload_n d135_44 rfl
theorem d135_45 : decode (mC 135) 45 = .ok (.getfield 95, 3) := by decide +kernel
theorem x135_45 {sc : aSc} {d : Nat} {r : aRes} {L : List Value} {st : List Value} {f : Nat → Nat → Int32} {g : Nat → Nat → Int64} {h1 h2 : Nat} {o : Nat} (hK : KK[o]? = some (.inl 7)) (hR : (RR h1 h2 o 28).isSome = true) : Rn sc d 135 45 L (.ref o :: st) (cS f g h1 h2) r ↔ Rn sc d 135 48 L (.ref (rf h1 h2 o 28) :: st) (cS f g h1 h2) r := r_getR2 d135_45 (ci := 7) (k := 28) (by decide +kernel) (by decide +kernel) (fun _ => rfl) hK hR
theorem d135_48 : decode (mC 135) 48 = .ok (.iload_n 3, 1) := by decide +kernel
theorem x135_48 {sc : aSc} {d : Nat} {r : aRes} {a0 : Value} {a1 : Value} {a2 : Value} {x3 : Int32} {a4 : Value} {a5 : Value} {a6 : Value} {a7 : Value} {st : List Value} {σ : aS} : Rn sc d 135 48 [a0, a1, a2, .int x3, a4, a5, a6, a7] st σ r ↔ Rn sc d 135 49 [a0, a1, a2, .int x3, a4, a5, a6, a7] (.int x3 :: st) σ r := r_iload_n d135_48 rfl
theorem d135_49 : decode (mC 135) 49 = .ok (.iconst 1, 1) := by decide +kernel
theorem x135_49 {sc : aSc} {d : Nat} {r : aRes} {L : List Value} {st : List Value} {σ : aS} : Rn sc d 135 49 L st σ r ↔ Rn sc d 135 50 L (.int 1 :: st) σ r := r_iconst d135_49 (by decide)
theorem d135_50 : decode (mC 135) 50 = .ok (.isub, 1) := by decide +kernel
theorem x135_50 {sc : aSc} {d : Nat} {r : aRes} {L : List Value} {st : List Value} {σ : aS} {x y : Int32} : Rn sc d 135 50 L (.int y :: .int x :: st) σ r ↔ Rn sc d 135 51 L (.int (x - y) :: st) σ r := r_isub d135_50
theorem d135_51 : decode (mC 135) 51 = .ok (.baload, 1) := by decide +kernel
theorem x135_51 {sc : aSc} {d : Nat} {r : aRes} {L : List Value} {st : List Value} {f : Nat → Nat → Int32} {g : Nat → Nat → Int64} {h1 h2 : Nat} {a : Nat} {i : Int32} (h17 : 17 ≤ a) (hA : isT9 .boolean a) (hi : inb i (aln a) = true) : Rn sc d 135 51 L (.int i :: .ref a :: st) (cS f g h1 h2) r ↔ Rn sc d 135 52 L (.int (f a i.toNatClampNeg) :: st) (cS f g h1 h2) r := r_zald d135_51 h17 hA hi
theorem d135_52 : decode (mC 135) 52 = .ok (.ifCond .ne 7, 3) := by decide +kernel
theorem x135_52 {sc : aSc} {d : Nat} {r : aRes} {L : List Value} {st : List Value} {σ : aS} {x : Int32} : Rn sc d 135 52 L (.int x :: st) σ r ↔ if x = 0 then Rn sc d 135 55 L st σ r else Rn sc d 135 59 L st σ r := r_if_ne d135_52 rfl
theorem d135_55 : decode (mC 135) 55 = .ok (.iconst 1, 1) := by decide +kernel
theorem x135_55 {sc : aSc} {d : Nat} {r : aRes} {L : List Value} {st : List Value} {σ : aS} : Rn sc d 135 55 L st σ r ↔ Rn sc d 135 56 L (.int 1 :: st) σ r := r_iconst d135_55 (by decide)
theorem d135_56 : decode (mC 135) 56 = .ok (.goto 4, 3) := by decide +kernel
theorem x135_56 {sc : aSc} {d : Nat} {r : aRes} {L : List Value} {st : List Value} {σ : aS} : Rn sc d 135 56 L st σ r ↔ Rn sc d 135 60 L st σ r := r_goto d135_56 rfl
theorem d135_59 : decode (mC 135) 59 = .ok (.iconst 0, 1) := by decide +kernel
theorem x135_59 {sc : aSc} {d : Nat} {r : aRes} {L : List Value} {st : List Value} {σ : aS} : Rn sc d 135 59 L st σ r ↔ Rn sc d 135 60 L (.int 0 :: st) σ r := r_iconst d135_59 (by decide)
theorem d135_60 : decode (mC 135) 60 = .ok (.bastore, 1) := by decide +kernel
theorem x135_60 {sc : aSc} {d : Nat} {r : aRes} {L : List Value} {st : List Value} {f : Nat → Nat → Int32} {g : Nat → Nat → Int64} {h1 h2 : Nat} {a : Nat} {i x : Int32} (h17 : 17 ≤ a) (hA : isT9 .boolean a) (hi : inb i (aln a) = true) : Rn sc d 135 60 L (.int x :: .int i :: .ref a :: st) (cS f g h1 h2) r ↔ Rn sc d 135 61 L st (cS (u2 f a i.toNatClampNeg (x &&& 1)) g h1 h2) r := r_zast d135_60 h17 hA hi
theorem d135_61 : decode (mC 135) 61 = .ok (.goto 176, 3) := by decide +kernel
theorem x135_61 {sc : aSc} {d : Nat} {r : aRes} {L : List Value} {st : List Value} {σ : aS} : Rn sc d 135 61 L st σ r ↔ Rn sc d 135 237 L st σ r := r_goto d135_61 rfl
theorem d135_64 : decode (mC 135) 64 = .ok (.iload 5, 2) := by decide +kernel
theorem x135_64 {sc : aSc} {d : Nat} {r : aRes} {a0 : Value} {a1 : Value} {a2 : Value} {a3 : Value} {a4 : Value} {x5 : Int32} {a6 : Value} {a7 : Value} {st : List Value} {σ : aS} : Rn sc d 135 64 [a0, a1, a2, a3, a4, .int x5, a6, a7] st σ r ↔ Rn sc d 135 66 [a0, a1, a2, a3, a4, .int x5, a6, a7] (.int x5 :: st) σ r := r_iload d135_64 rfl
theorem d135_66 : decode (mC 135) 66 = .ok (.ifCond .ge 77, 3) := by decide +kernel
theorem x135_66 {sc : aSc} {d : Nat} {r : aRes} {L : List Value} {st : List Value} {σ : aS} {x : Int32} : Rn sc d 135 66 L (.int x :: st) σ r ↔ if x < 0 then Rn sc d 135 69 L st σ r else Rn sc d 135 143 L st σ r := r_if_ge d135_66 rfl
theorem d135_69 : decode (mC 135) 69 = .ok (.iinc 3 (-1), 3) := by decide +kernel
theorem x135_69 {sc : aSc} {d : Nat} {r : aRes} {a0 : Value} {a1 : Value} {x2 : Int32} {x3 : Int32} {a4 : Value} {a5 : Value} {a6 : Value} {a7 : Value} {st : List Value} {σ : aS} : Rn sc d 135 69 [a0, a1, .int x2, .int x3, a4, a5, a6, a7] st σ r ↔ Rn sc d 135 72 [a0, a1, .int x2, .int (x3 + (-1)), a4, a5, a6, a7] st σ r := r_iinc d135_69 (Nat.le_of_ble_eq_true rfl) rfl rfl (by decide)
theorem d135_72 : decode (mC 135) 72 = .ok (.aload_n 0, 1) := by decide +kernel
theorem x135_72 {sc : aSc} {d : Nat} {r : aRes} {x0 : Nat} {a1 : Value} {a2 : Value} {a3 : Value} {a4 : Value} {a5 : Value} {a6 : Value} {a7 : Value} {st : List Value} {σ : aS} : Rn sc d 135 72 [.ref x0, a1, a2, a3, a4, a5, a6, a7] st σ r ↔ Rn sc d 135 73 [.ref x0, a1, a2, a3, a4, a5, a6, a7] (.ref x0 :: st) σ r := r_aload_n d135_72 rfl
theorem d135_73 : decode (mC 135) 73 = .ok (.getfield 95, 3) := by decide +kernel
theorem x135_73 {sc : aSc} {d : Nat} {r : aRes} {L : List Value} {st : List Value} {f : Nat → Nat → Int32} {g : Nat → Nat → Int64} {h1 h2 : Nat} {o : Nat} (hK : KK[o]? = some (.inl 7)) (hR : (RR h1 h2 o 28).isSome = true) : Rn sc d 135 73 L (.ref o :: st) (cS f g h1 h2) r ↔ Rn sc d 135 76 L (.ref (rf h1 h2 o 28) :: st) (cS f g h1 h2) r := r_getR2 d135_73 (ci := 7) (k := 28) (by decide +kernel) (by decide +kernel) (fun _ => rfl) hK hR
theorem d135_76 : decode (mC 135) 76 = .ok (.iload_n 3, 1) := by decide +kernel
theorem x135_76 {sc : aSc} {d : Nat} {r : aRes} {a0 : Value} {a1 : Value} {a2 : Value} {x3 : Int32} {a4 : Value} {a5 : Value} {a6 : Value} {a7 : Value} {st : List Value} {σ : aS} : Rn sc d 135 76 [a0, a1, a2, .int x3, a4, a5, a6, a7] st σ r ↔ Rn sc d 135 77 [a0, a1, a2, .int x3, a4, a5, a6, a7] (.int x3 :: st) σ r := r_iload_n d135_76 rfl
theorem d135_77 : decode (mC 135) 77 = .ok (.iconst 1, 1) := by decide +kernel
theorem x135_77 {sc : aSc} {d : Nat} {r : aRes} {L : List Value} {st : List Value} {σ : aS} : Rn sc d 135 77 L st σ r ↔ Rn sc d 135 78 L (.int 1 :: st) σ r := r_iconst d135_77 (by decide)
theorem d135_78 : decode (mC 135) 78 = .ok (.isub, 1) := by decide +kernel
theorem x135_78 {sc : aSc} {d : Nat} {r : aRes} {L : List Value} {st : List Value} {σ : aS} {x y : Int32} : Rn sc d 135 78 L (.int y :: .int x :: st) σ r ↔ Rn sc d 135 79 L (.int (x - y) :: st) σ r := r_isub d135_78
theorem d135_79 : decode (mC 135) 79 = .ok (.iload 5, 2) := by decide +kernel
theorem x135_79 {sc : aSc} {d : Nat} {r : aRes} {a0 : Value} {a1 : Value} {a2 : Value} {a3 : Value} {a4 : Value} {x5 : Int32} {a6 : Value} {a7 : Value} {st : List Value} {σ : aS} : Rn sc d 135 79 [a0, a1, a2, a3, a4, .int x5, a6, a7] st σ r ↔ Rn sc d 135 81 [a0, a1, a2, a3, a4, .int x5, a6, a7] (.int x5 :: st) σ r := r_iload d135_79 rfl
theorem d135_81 : decode (mC 135) 81 = .ok (.bipush (-38), 2) := by decide +kernel
theorem x135_81 {sc : aSc} {d : Nat} {r : aRes} {L : List Value} {st : List Value} {σ : aS} : Rn sc d 135 81 L st σ r ↔ Rn sc d 135 83 L (.int (-38) :: st) σ r := r_bipush d135_81 (by decide)
theorem d135_83 : decode (mC 135) 83 = .ok (.if_icmp .ne 31, 3) := by decide +kernel
theorem x135_83 {sc : aSc} {d : Nat} {r : aRes} {L : List Value} {st : List Value} {σ : aS} {x y : Int32} : Rn sc d 135 83 L (.int y :: .int x :: st) σ r ↔ if x = y then Rn sc d 135 86 L st σ r else Rn sc d 135 114 L st σ r := r_icmp_ne d135_83 rfl
theorem d135_86 : decode (mC 135) 86 = .ok (.aload_n 0, 1) := by decide +kernel
theorem x135_86 {sc : aSc} {d : Nat} {r : aRes} {x0 : Nat} {a1 : Value} {a2 : Value} {a3 : Value} {a4 : Value} {a5 : Value} {a6 : Value} {a7 : Value} {st : List Value} {σ : aS} : Rn sc d 135 86 [.ref x0, a1, a2, a3, a4, a5, a6, a7] st σ r ↔ Rn sc d 135 87 [.ref x0, a1, a2, a3, a4, a5, a6, a7] (.ref x0 :: st) σ r := r_aload_n d135_86 rfl
theorem d135_87 : decode (mC 135) 87 = .ok (.getfield 95, 3) := by decide +kernel
theorem x135_87 {sc : aSc} {d : Nat} {r : aRes} {L : List Value} {st : List Value} {f : Nat → Nat → Int32} {g : Nat → Nat → Int64} {h1 h2 : Nat} {o : Nat} (hK : KK[o]? = some (.inl 7)) (hR : (RR h1 h2 o 28).isSome = true) : Rn sc d 135 87 L (.ref o :: st) (cS f g h1 h2) r ↔ Rn sc d 135 90 L (.ref (rf h1 h2 o 28) :: st) (cS f g h1 h2) r := r_getR2 d135_87 (ci := 7) (k := 28) (by decide +kernel) (by decide +kernel) (fun _ => rfl) hK hR
theorem d135_90 : decode (mC 135) 90 = .ok (.iload_n 3, 1) := by decide +kernel
theorem x135_90 {sc : aSc} {d : Nat} {r : aRes} {a0 : Value} {a1 : Value} {a2 : Value} {x3 : Int32} {a4 : Value} {a5 : Value} {a6 : Value} {a7 : Value} {st : List Value} {σ : aS} : Rn sc d 135 90 [a0, a1, a2, .int x3, a4, a5, a6, a7] st σ r ↔ Rn sc d 135 91 [a0, a1, a2, .int x3, a4, a5, a6, a7] (.int x3 :: st) σ r := r_iload_n d135_90 rfl
theorem d135_91 : decode (mC 135) 91 = .ok (.iconst 1, 1) := by decide +kernel
theorem x135_91 {sc : aSc} {d : Nat} {r : aRes} {L : List Value} {st : List Value} {σ : aS} : Rn sc d 135 91 L st σ r ↔ Rn sc d 135 92 L (.int 1 :: st) σ r := r_iconst d135_91 (by decide)
theorem d135_92 : decode (mC 135) 92 = .ok (.isub, 1) := by decide +kernel
theorem x135_92 {sc : aSc} {d : Nat} {r : aRes} {L : List Value} {st : List Value} {σ : aS} {x y : Int32} : Rn sc d 135 92 L (.int y :: .int x :: st) σ r ↔ Rn sc d 135 93 L (.int (x - y) :: st) σ r := r_isub d135_92
theorem d135_93 : decode (mC 135) 93 = .ok (.baload, 1) := by decide +kernel
theorem x135_93 {sc : aSc} {d : Nat} {r : aRes} {L : List Value} {st : List Value} {f : Nat → Nat → Int32} {g : Nat → Nat → Int64} {h1 h2 : Nat} {a : Nat} {i : Int32} (h17 : 17 ≤ a) (hA : isT9 .boolean a) (hi : inb i (aln a) = true) : Rn sc d 135 93 L (.int i :: .ref a :: st) (cS f g h1 h2) r ↔ Rn sc d 135 94 L (.int (f a i.toNatClampNeg) :: st) (cS f g h1 h2) r := r_zald d135_93 h17 hA hi
theorem d135_94 : decode (mC 135) 94 = .ok (.ifCond .eq 16, 3) := by decide +kernel
theorem x135_94 {sc : aSc} {d : Nat} {r : aRes} {L : List Value} {st : List Value} {σ : aS} {x : Int32} : Rn sc d 135 94 L (.int x :: st) σ r ↔ if x = 0 then Rn sc d 135 110 L st σ r else Rn sc d 135 97 L st σ r := r_if_eq d135_94 rfl
theorem d135_97 : decode (mC 135) 97 = .ok (.aload_n 0, 1) := by decide +kernel
theorem x135_97 {sc : aSc} {d : Nat} {r : aRes} {x0 : Nat} {a1 : Value} {a2 : Value} {a3 : Value} {a4 : Value} {a5 : Value} {a6 : Value} {a7 : Value} {st : List Value} {σ : aS} : Rn sc d 135 97 [.ref x0, a1, a2, a3, a4, a5, a6, a7] st σ r ↔ Rn sc d 135 98 [.ref x0, a1, a2, a3, a4, a5, a6, a7] (.ref x0 :: st) σ r := r_aload_n d135_97 rfl
theorem d135_98 : decode (mC 135) 98 = .ok (.getfield 95, 3) := by decide +kernel
theorem x135_98 {sc : aSc} {d : Nat} {r : aRes} {L : List Value} {st : List Value} {f : Nat → Nat → Int32} {g : Nat → Nat → Int64} {h1 h2 : Nat} {o : Nat} (hK : KK[o]? = some (.inl 7)) (hR : (RR h1 h2 o 28).isSome = true) : Rn sc d 135 98 L (.ref o :: st) (cS f g h1 h2) r ↔ Rn sc d 135 101 L (.ref (rf h1 h2 o 28) :: st) (cS f g h1 h2) r := r_getR2 d135_98 (ci := 7) (k := 28) (by decide +kernel) (by decide +kernel) (fun _ => rfl) hK hR
theorem d135_101 : decode (mC 135) 101 = .ok (.iload_n 3, 1) := by decide +kernel
theorem x135_101 {sc : aSc} {d : Nat} {r : aRes} {a0 : Value} {a1 : Value} {a2 : Value} {x3 : Int32} {a4 : Value} {a5 : Value} {a6 : Value} {a7 : Value} {st : List Value} {σ : aS} : Rn sc d 135 101 [a0, a1, a2, .int x3, a4, a5, a6, a7] st σ r ↔ Rn sc d 135 102 [a0, a1, a2, .int x3, a4, a5, a6, a7] (.int x3 :: st) σ r := r_iload_n d135_101 rfl
theorem d135_102 : decode (mC 135) 102 = .ok (.baload, 1) := by decide +kernel
theorem x135_102 {sc : aSc} {d : Nat} {r : aRes} {L : List Value} {st : List Value} {f : Nat → Nat → Int32} {g : Nat → Nat → Int64} {h1 h2 : Nat} {a : Nat} {i : Int32} (h17 : 17 ≤ a) (hA : isT9 .boolean a) (hi : inb i (aln a) = true) : Rn sc d 135 102 L (.int i :: .ref a :: st) (cS f g h1 h2) r ↔ Rn sc d 135 103 L (.int (f a i.toNatClampNeg) :: st) (cS f g h1 h2) r := r_zald d135_102 h17 hA hi
theorem d135_103 : decode (mC 135) 103 = .ok (.ifCond .eq 7, 3) := by decide +kernel
theorem x135_103 {sc : aSc} {d : Nat} {r : aRes} {L : List Value} {st : List Value} {σ : aS} {x : Int32} : Rn sc d 135 103 L (.int x :: st) σ r ↔ if x = 0 then Rn sc d 135 110 L st σ r else Rn sc d 135 106 L st σ r := r_if_eq d135_103 rfl
theorem d135_106 : decode (mC 135) 106 = .ok (.iconst 1, 1) := by decide +kernel
theorem x135_106 {sc : aSc} {d : Nat} {r : aRes} {L : List Value} {st : List Value} {σ : aS} : Rn sc d 135 106 L st σ r ↔ Rn sc d 135 107 L (.int 1 :: st) σ r := r_iconst d135_106 (by decide)
theorem d135_107 : decode (mC 135) 107 = .ok (.goto 32, 3) := by decide +kernel
theorem x135_107 {sc : aSc} {d : Nat} {r : aRes} {L : List Value} {st : List Value} {σ : aS} : Rn sc d 135 107 L st σ r ↔ Rn sc d 135 139 L st σ r := r_goto d135_107 rfl
theorem d135_110 : decode (mC 135) 110 = .ok (.iconst 0, 1) := by decide +kernel
theorem x135_110 {sc : aSc} {d : Nat} {r : aRes} {L : List Value} {st : List Value} {σ : aS} : Rn sc d 135 110 L st σ r ↔ Rn sc d 135 111 L (.int 0 :: st) σ r := r_iconst d135_110 (by decide)
theorem d135_111 : decode (mC 135) 111 = .ok (.goto 28, 3) := by decide +kernel
theorem x135_111 {sc : aSc} {d : Nat} {r : aRes} {L : List Value} {st : List Value} {σ : aS} : Rn sc d 135 111 L st σ r ↔ Rn sc d 135 139 L st σ r := r_goto d135_111 rfl
theorem d135_114 : decode (mC 135) 114 = .ok (.aload_n 0, 1) := by decide +kernel
theorem x135_114 {sc : aSc} {d : Nat} {r : aRes} {x0 : Nat} {a1 : Value} {a2 : Value} {a3 : Value} {a4 : Value} {a5 : Value} {a6 : Value} {a7 : Value} {st : List Value} {σ : aS} : Rn sc d 135 114 [.ref x0, a1, a2, a3, a4, a5, a6, a7] st σ r ↔ Rn sc d 135 115 [.ref x0, a1, a2, a3, a4, a5, a6, a7] (.ref x0 :: st) σ r := r_aload_n d135_114 rfl
theorem d135_115 : decode (mC 135) 115 = .ok (.getfield 95, 3) := by decide +kernel
theorem x135_115 {sc : aSc} {d : Nat} {r : aRes} {L : List Value} {st : List Value} {f : Nat → Nat → Int32} {g : Nat → Nat → Int64} {h1 h2 : Nat} {o : Nat} (hK : KK[o]? = some (.inl 7)) (hR : (RR h1 h2 o 28).isSome = true) : Rn sc d 135 115 L (.ref o :: st) (cS f g h1 h2) r ↔ Rn sc d 135 118 L (.ref (rf h1 h2 o 28) :: st) (cS f g h1 h2) r := r_getR2 d135_115 (ci := 7) (k := 28) (by decide +kernel) (by decide +kernel) (fun _ => rfl) hK hR
theorem d135_118 : decode (mC 135) 118 = .ok (.iload_n 3, 1) := by decide +kernel
theorem x135_118 {sc : aSc} {d : Nat} {r : aRes} {a0 : Value} {a1 : Value} {a2 : Value} {x3 : Int32} {a4 : Value} {a5 : Value} {a6 : Value} {a7 : Value} {st : List Value} {σ : aS} : Rn sc d 135 118 [a0, a1, a2, .int x3, a4, a5, a6, a7] st σ r ↔ Rn sc d 135 119 [a0, a1, a2, .int x3, a4, a5, a6, a7] (.int x3 :: st) σ r := r_iload_n d135_118 rfl
theorem d135_119 : decode (mC 135) 119 = .ok (.iconst 1, 1) := by decide +kernel
theorem x135_119 {sc : aSc} {d : Nat} {r : aRes} {L : List Value} {st : List Value} {σ : aS} : Rn sc d 135 119 L st σ r ↔ Rn sc d 135 120 L (.int 1 :: st) σ r := r_iconst d135_119 (by decide)
theorem d135_120 : decode (mC 135) 120 = .ok (.isub, 1) := by decide +kernel
theorem x135_120 {sc : aSc} {d : Nat} {r : aRes} {L : List Value} {st : List Value} {σ : aS} {x y : Int32} : Rn sc d 135 120 L (.int y :: .int x :: st) σ r ↔ Rn sc d 135 121 L (.int (x - y) :: st) σ r := r_isub d135_120
theorem d135_121 : decode (mC 135) 121 = .ok (.baload, 1) := by decide +kernel
theorem x135_121 {sc : aSc} {d : Nat} {r : aRes} {L : List Value} {st : List Value} {f : Nat → Nat → Int32} {g : Nat → Nat → Int64} {h1 h2 : Nat} {a : Nat} {i : Int32} (h17 : 17 ≤ a) (hA : isT9 .boolean a) (hi : inb i (aln a) = true) : Rn sc d 135 121 L (.int i :: .ref a :: st) (cS f g h1 h2) r ↔ Rn sc d 135 122 L (.int (f a i.toNatClampNeg) :: st) (cS f g h1 h2) r := r_zald d135_121 h17 hA hi
theorem d135_122 : decode (mC 135) 122 = .ok (.ifCond .ne 12, 3) := by decide +kernel
theorem x135_122 {sc : aSc} {d : Nat} {r : aRes} {L : List Value} {st : List Value} {σ : aS} {x : Int32} : Rn sc d 135 122 L (.int x :: st) σ r ↔ if x = 0 then Rn sc d 135 125 L st σ r else Rn sc d 135 134 L st σ r := r_if_ne d135_122 rfl
theorem d135_125 : decode (mC 135) 125 = .ok (.aload_n 0, 1) := by decide +kernel
theorem x135_125 {sc : aSc} {d : Nat} {r : aRes} {x0 : Nat} {a1 : Value} {a2 : Value} {a3 : Value} {a4 : Value} {a5 : Value} {a6 : Value} {a7 : Value} {st : List Value} {σ : aS} : Rn sc d 135 125 [.ref x0, a1, a2, a3, a4, a5, a6, a7] st σ r ↔ Rn sc d 135 126 [.ref x0, a1, a2, a3, a4, a5, a6, a7] (.ref x0 :: st) σ r := r_aload_n d135_125 rfl
theorem d135_126 : decode (mC 135) 126 = .ok (.getfield 95, 3) := by decide +kernel
theorem x135_126 {sc : aSc} {d : Nat} {r : aRes} {L : List Value} {st : List Value} {f : Nat → Nat → Int32} {g : Nat → Nat → Int64} {h1 h2 : Nat} {o : Nat} (hK : KK[o]? = some (.inl 7)) (hR : (RR h1 h2 o 28).isSome = true) : Rn sc d 135 126 L (.ref o :: st) (cS f g h1 h2) r ↔ Rn sc d 135 129 L (.ref (rf h1 h2 o 28) :: st) (cS f g h1 h2) r := r_getR2 d135_126 (ci := 7) (k := 28) (by decide +kernel) (by decide +kernel) (fun _ => rfl) hK hR
theorem d135_129 : decode (mC 135) 129 = .ok (.iload_n 3, 1) := by decide +kernel
theorem x135_129 {sc : aSc} {d : Nat} {r : aRes} {a0 : Value} {a1 : Value} {a2 : Value} {x3 : Int32} {a4 : Value} {a5 : Value} {a6 : Value} {a7 : Value} {st : List Value} {σ : aS} : Rn sc d 135 129 [a0, a1, a2, .int x3, a4, a5, a6, a7] st σ r ↔ Rn sc d 135 130 [a0, a1, a2, .int x3, a4, a5, a6, a7] (.int x3 :: st) σ r := r_iload_n d135_129 rfl
theorem d135_130 : decode (mC 135) 130 = .ok (.baload, 1) := by decide +kernel
theorem x135_130 {sc : aSc} {d : Nat} {r : aRes} {L : List Value} {st : List Value} {f : Nat → Nat → Int32} {g : Nat → Nat → Int64} {h1 h2 : Nat} {a : Nat} {i : Int32} (h17 : 17 ≤ a) (hA : isT9 .boolean a) (hi : inb i (aln a) = true) : Rn sc d 135 130 L (.int i :: .ref a :: st) (cS f g h1 h2) r ↔ Rn sc d 135 131 L (.int (f a i.toNatClampNeg) :: st) (cS f g h1 h2) r := r_zald d135_130 h17 hA hi
theorem d135_131 : decode (mC 135) 131 = .ok (.ifCond .eq 7, 3) := by decide +kernel
theorem x135_131 {sc : aSc} {d : Nat} {r : aRes} {L : List Value} {st : List Value} {σ : aS} {x : Int32} : Rn sc d 135 131 L (.int x :: st) σ r ↔ if x = 0 then Rn sc d 135 138 L st σ r else Rn sc d 135 134 L st σ r := r_if_eq d135_131 rfl
theorem d135_134 : decode (mC 135) 134 = .ok (.iconst 1, 1) := by decide +kernel
theorem x135_134 {sc : aSc} {d : Nat} {r : aRes} {L : List Value} {st : List Value} {σ : aS} : Rn sc d 135 134 L st σ r ↔ Rn sc d 135 135 L (.int 1 :: st) σ r := r_iconst d135_134 (by decide)
theorem d135_135 : decode (mC 135) 135 = .ok (.goto 4, 3) := by decide +kernel
theorem x135_135 {sc : aSc} {d : Nat} {r : aRes} {L : List Value} {st : List Value} {σ : aS} : Rn sc d 135 135 L st σ r ↔ Rn sc d 135 139 L st σ r := r_goto d135_135 rfl
theorem d135_138 : decode (mC 135) 138 = .ok (.iconst 0, 1) := by decide +kernel
theorem x135_138 {sc : aSc} {d : Nat} {r : aRes} {L : List Value} {st : List Value} {σ : aS} : Rn sc d 135 138 L st σ r ↔ Rn sc d 135 139 L (.int 0 :: st) σ r := r_iconst d135_138 (by decide)
theorem d135_139 : decode (mC 135) 139 = .ok (.bastore, 1) := by decide +kernel
theorem x135_139 {sc : aSc} {d : Nat} {r : aRes} {L : List Value} {st : List Value} {f : Nat → Nat → Int32} {g : Nat → Nat → Int64} {h1 h2 : Nat} {a : Nat} {i x : Int32} (h17 : 17 ≤ a) (hA : isT9 .boolean a) (hi : inb i (aln a) = true) : Rn sc d 135 139 L (.int x :: .int i :: .ref a :: st) (cS f g h1 h2) r ↔ Rn sc d 135 140 L st (cS (u2 f a i.toNatClampNeg (x &&& 1)) g h1 h2) r := r_zast d135_139 h17 hA hi
theorem d135_140 : decode (mC 135) 140 = .ok (.goto 97, 3) := by decide +kernel
theorem x135_140 {sc : aSc} {d : Nat} {r : aRes} {L : List Value} {st : List Value} {σ : aS} : Rn sc d 135 140 L st σ r ↔ Rn sc d 135 237 L st σ r := r_goto d135_140 rfl
theorem d135_143 : decode (mC 135) 143 = .ok (.aload_n 0, 1) := by decide +kernel
theorem x135_143 {sc : aSc} {d : Nat} {r : aRes} {x0 : Nat} {a1 : Value} {a2 : Value} {a3 : Value} {a4 : Value} {a5 : Value} {a6 : Value} {a7 : Value} {st : List Value} {σ : aS} : Rn sc d 135 143 [.ref x0, a1, a2, a3, a4, a5, a6, a7] st σ r ↔ Rn sc d 135 144 [.ref x0, a1, a2, a3, a4, a5, a6, a7] (.ref x0 :: st) σ r := r_aload_n d135_143 rfl
theorem d135_144 : decode (mC 135) 144 = .ok (.iload 5, 2) := by decide +kernel
theorem x135_144 {sc : aSc} {d : Nat} {r : aRes} {a0 : Value} {a1 : Value} {a2 : Value} {a3 : Value} {a4 : Value} {x5 : Int32} {a6 : Value} {a7 : Value} {st : List Value} {σ : aS} : Rn sc d 135 144 [a0, a1, a2, a3, a4, .int x5, a6, a7] st σ r ↔ Rn sc d 135 146 [a0, a1, a2, a3, a4, .int x5, a6, a7] (.int x5 :: st) σ r := r_iload d135_144 rfl
theorem d135_146 : decode (mC 135) 146 = .ok (.sipush 1000, 3) := by decide +kernel
theorem x135_146 {sc : aSc} {d : Nat} {r : aRes} {L : List Value} {st : List Value} {σ : aS} : Rn sc d 135 146 L st σ r ↔ Rn sc d 135 149 L (.int 1000 :: st) σ r := r_sipush d135_146 (by decide)
theorem d135_149 : decode (mC 135) 149 = .ok (.idiv, 1) := by decide +kernel
theorem x135_149 {sc : aSc} {d : Nat} {r : aRes} {L : List Value} {st : List Value} {σ : aS} {x y : Int32} (hy : ¬ y = 0) : Rn sc d 135 149 L (.int y :: .int x :: st) σ r ↔ Rn sc d 135 150 L (.int (x / y) :: st) σ r := r_idiv d135_149 hy
theorem d135_150 : decode (mC 135) 150 = .ok (.iload_n 2, 1) := by decide +kernel
theorem x135_150 {sc : aSc} {d : Nat} {r : aRes} {a0 : Value} {a1 : Value} {x2 : Int32} {a3 : Value} {a4 : Value} {a5 : Value} {a6 : Value} {a7 : Value} {st : List Value} {σ : aS} : Rn sc d 135 150 [a0, a1, .int x2, a3, a4, a5, a6, a7] st σ r ↔ Rn sc d 135 151 [a0, a1, .int x2, a3, a4, a5, a6, a7] (.int x2 :: st) σ r := r_iload_n d135_150 rfl
theorem d135_151 : decode (mC 135) 151 = .ok (.invokevirtual 295, 3) := by decide +kernel
theorem x135_151 {sc : aSc} {d : Nat} {r : aRes} {L : List Value} {f : Nat → Nat → Int32} {g : Nat → Nat → Int64} {h1 h2 : Nat} {y0 : Int32} {y1 : Int32}  {o : Nat} (hK : KK[o]? = some (.inl 7)) : Rn sc d 135 151 L [.int y0, .int y1, .ref o] (cS f g h1 h2) r ↔ ∃ (σ3 : aS) (v : Option Value), Cl sc d 134 [.ref o, .int y1, .int y0] (cS f g h1 h2) (σ3, v) ∧ Rn sc d 135 154 L (v.toList ++ []) σ3 r := r_callV (vs := [.int y0, .int y1]) d135_151 (j := 134) rfl ⟨rfl, by decide, rfl, rfl⟩ (Nat.le_of_ble_eq_true rfl) hK
theorem d135_154 : decode (mC 135) 154 = .ok (.istore 6, 2) := by decide +kernel
theorem x135_154 {sc : aSc} {d : Nat} {r : aRes} {a0 : Value} {a1 : Value} {a2 : Value} {a3 : Value} {a4 : Value} {x5 : Int32} {a6 : Value} {a7 : Value} {st : List Value} {σ : aS} {y : Int32} : Rn sc d 135 154 [a0, a1, a2, a3, a4, .int x5, a6, a7] (.int y :: st) σ r ↔ Rn sc d 135 156 [a0, a1, a2, a3, a4, .int x5, .int y, a7] st σ r := r_istore d135_154 (Nat.le_of_ble_eq_true rfl) rfl
theorem d135_156 : decode (mC 135) 156 = .ok (.iload 5, 2) := by decide +kernel
theorem x135_156 {sc : aSc} {d : Nat} {r : aRes} {a0 : Value} {a1 : Value} {a2 : Value} {a3 : Value} {a4 : Value} {x5 : Int32} {a6 : Value} {a7 : Value} {st : List Value} {σ : aS} : Rn sc d 135 156 [a0, a1, a2, a3, a4, .int x5, a6, a7] st σ r ↔ Rn sc d 135 158 [a0, a1, a2, a3, a4, .int x5, a6, a7] (.int x5 :: st) σ r := r_iload d135_156 rfl
theorem d135_158 : decode (mC 135) 158 = .ok (.bipush 100, 2) := by decide +kernel
theorem x135_158 {sc : aSc} {d : Nat} {r : aRes} {L : List Value} {st : List Value} {σ : aS} : Rn sc d 135 158 L st σ r ↔ Rn sc d 135 160 L (.int 100 :: st) σ r := r_bipush d135_158 (by decide)
theorem d135_160 : decode (mC 135) 160 = .ok (.idiv, 1) := by decide +kernel
theorem x135_160 {sc : aSc} {d : Nat} {r : aRes} {L : List Value} {st : List Value} {σ : aS} {x y : Int32} (hy : ¬ y = 0) : Rn sc d 135 160 L (.int y :: .int x :: st) σ r ↔ Rn sc d 135 161 L (.int (x / y) :: st) σ r := r_idiv d135_160 hy
theorem d135_161 : decode (mC 135) 161 = .ok (.bipush 10, 2) := by decide +kernel
theorem x135_161 {sc : aSc} {d : Nat} {r : aRes} {L : List Value} {st : List Value} {σ : aS} : Rn sc d 135 161 L st σ r ↔ Rn sc d 135 163 L (.int 10 :: st) σ r := r_bipush d135_161 (by decide)
theorem d135_163 : decode (mC 135) 163 = .ok (.irem, 1) := by decide +kernel
theorem x135_163 {sc : aSc} {d : Nat} {r : aRes} {L : List Value} {st : List Value} {σ : aS} {x y : Int32} (hy : ¬ y = 0) : Rn sc d 135 163 L (.int y :: .int x :: st) σ r ↔ Rn sc d 135 164 L (.int (x % y) :: st) σ r := r_irem d135_163 hy
theorem d135_164 : decode (mC 135) 164 = .ok (.istore 7, 2) := by decide +kernel
theorem x135_164 {sc : aSc} {d : Nat} {r : aRes} {a0 : Value} {a1 : Value} {a2 : Value} {a3 : Value} {a4 : Value} {a5 : Value} {x6 : Int32} {a7 : Value} {st : List Value} {σ : aS} {y : Int32} : Rn sc d 135 164 [a0, a1, a2, a3, a4, a5, .int x6, a7] (.int y :: st) σ r ↔ Rn sc d 135 166 [a0, a1, a2, a3, a4, a5, .int x6, .int y] st σ r := r_istore d135_164 (Nat.le_of_ble_eq_true rfl) rfl
theorem d135_166 : decode (mC 135) 166 = .ok (.aload_n 0, 1) := by decide +kernel
theorem x135_166 {sc : aSc} {d : Nat} {r : aRes} {x0 : Nat} {a1 : Value} {a2 : Value} {a3 : Value} {a4 : Value} {a5 : Value} {a6 : Value} {a7 : Value} {st : List Value} {σ : aS} : Rn sc d 135 166 [.ref x0, a1, a2, a3, a4, a5, a6, a7] st σ r ↔ Rn sc d 135 167 [.ref x0, a1, a2, a3, a4, a5, a6, a7] (.ref x0 :: st) σ r := r_aload_n d135_166 rfl
theorem d135_167 : decode (mC 135) 167 = .ok (.getfield 95, 3) := by decide +kernel
theorem x135_167 {sc : aSc} {d : Nat} {r : aRes} {L : List Value} {st : List Value} {f : Nat → Nat → Int32} {g : Nat → Nat → Int64} {h1 h2 : Nat} {o : Nat} (hK : KK[o]? = some (.inl 7)) (hR : (RR h1 h2 o 28).isSome = true) : Rn sc d 135 167 L (.ref o :: st) (cS f g h1 h2) r ↔ Rn sc d 135 170 L (.ref (rf h1 h2 o 28) :: st) (cS f g h1 h2) r := r_getR2 d135_167 (ci := 7) (k := 28) (by decide +kernel) (by decide +kernel) (fun _ => rfl) hK hR
theorem d135_170 : decode (mC 135) 170 = .ok (.iload_n 3, 1) := by decide +kernel
theorem x135_170 {sc : aSc} {d : Nat} {r : aRes} {a0 : Value} {a1 : Value} {a2 : Value} {x3 : Int32} {a4 : Value} {a5 : Value} {a6 : Value} {a7 : Value} {st : List Value} {σ : aS} : Rn sc d 135 170 [a0, a1, a2, .int x3, a4, a5, a6, a7] st σ r ↔ Rn sc d 135 171 [a0, a1, a2, .int x3, a4, a5, a6, a7] (.int x3 :: st) σ r := r_iload_n d135_170 rfl
theorem d135_171 : decode (mC 135) 171 = .ok (.iload 7, 2) := by decide +kernel
theorem x135_171 {sc : aSc} {d : Nat} {r : aRes} {a0 : Value} {a1 : Value} {a2 : Value} {a3 : Value} {a4 : Value} {a5 : Value} {a6 : Value} {x7 : Int32} {st : List Value} {σ : aS} : Rn sc d 135 171 [a0, a1, a2, a3, a4, a5, a6, .int x7] st σ r ↔ Rn sc d 135 173 [a0, a1, a2, a3, a4, a5, a6, .int x7] (.int x7 :: st) σ r := r_iload d135_171 rfl
theorem d135_173 : decode (mC 135) 173 = .ok (.ifCond .ne 21, 3) := by decide +kernel
theorem x135_173 {sc : aSc} {d : Nat} {r : aRes} {L : List Value} {st : List Value} {σ : aS} {x : Int32} : Rn sc d 135 173 L (.int x :: st) σ r ↔ if x = 0 then Rn sc d 135 176 L st σ r else Rn sc d 135 194 L st σ r := r_if_ne d135_173 rfl
theorem d135_176 : decode (mC 135) 176 = .ok (.iload 6, 2) := by decide +kernel
theorem x135_176 {sc : aSc} {d : Nat} {r : aRes} {a0 : Value} {a1 : Value} {a2 : Value} {a3 : Value} {a4 : Value} {a5 : Value} {x6 : Int32} {a7 : Value} {st : List Value} {σ : aS} : Rn sc d 135 176 [a0, a1, a2, a3, a4, a5, .int x6, a7] st σ r ↔ Rn sc d 135 178 [a0, a1, a2, a3, a4, a5, .int x6, a7] (.int x6 :: st) σ r := r_iload d135_176 rfl
theorem d135_178 : decode (mC 135) 178 = .ok (.iload 5, 2) := by decide +kernel
theorem x135_178 {sc : aSc} {d : Nat} {r : aRes} {a0 : Value} {a1 : Value} {a2 : Value} {a3 : Value} {a4 : Value} {x5 : Int32} {a6 : Value} {a7 : Value} {st : List Value} {σ : aS} : Rn sc d 135 178 [a0, a1, a2, a3, a4, .int x5, a6, a7] st σ r ↔ Rn sc d 135 180 [a0, a1, a2, a3, a4, .int x5, a6, a7] (.int x5 :: st) σ r := r_iload d135_178 rfl
theorem d135_180 : decode (mC 135) 180 = .ok (.bipush 100, 2) := by decide +kernel
theorem x135_180 {sc : aSc} {d : Nat} {r : aRes} {L : List Value} {st : List Value} {σ : aS} : Rn sc d 135 180 L st σ r ↔ Rn sc d 135 182 L (.int 100 :: st) σ r := r_bipush d135_180 (by decide)
theorem d135_182 : decode (mC 135) 182 = .ok (.irem, 1) := by decide +kernel
theorem x135_182 {sc : aSc} {d : Nat} {r : aRes} {L : List Value} {st : List Value} {σ : aS} {x y : Int32} (hy : ¬ y = 0) : Rn sc d 135 182 L (.int y :: .int x :: st) σ r ↔ Rn sc d 135 183 L (.int (x % y) :: st) σ r := r_irem d135_182 hy
theorem d135_183 : decode (mC 135) 183 = .ok (.if_icmp .ge 7, 3) := by decide +kernel
theorem x135_183 {sc : aSc} {d : Nat} {r : aRes} {L : List Value} {st : List Value} {σ : aS} {x y : Int32} : Rn sc d 135 183 L (.int y :: .int x :: st) σ r ↔ if x < y then Rn sc d 135 186 L st σ r else Rn sc d 135 190 L st σ r := r_icmp_ge d135_183 rfl
theorem d135_186 : decode (mC 135) 186 = .ok (.iconst 1, 1) := by decide +kernel
theorem x135_186 {sc : aSc} {d : Nat} {r : aRes} {L : List Value} {st : List Value} {σ : aS} : Rn sc d 135 186 L st σ r ↔ Rn sc d 135 187 L (.int 1 :: st) σ r := r_iconst d135_186 (by decide)
theorem d135_187 : decode (mC 135) 187 = .ok (.goto 46, 3) := by decide +kernel
theorem x135_187 {sc : aSc} {d : Nat} {r : aRes} {L : List Value} {st : List Value} {σ : aS} : Rn sc d 135 187 L st σ r ↔ Rn sc d 135 233 L st σ r := r_goto d135_187 rfl
theorem d135_190 : decode (mC 135) 190 = .ok (.iconst 0, 1) := by decide +kernel
theorem x135_190 {sc : aSc} {d : Nat} {r : aRes} {L : List Value} {st : List Value} {σ : aS} : Rn sc d 135 190 L st σ r ↔ Rn sc d 135 191 L (.int 0 :: st) σ r := r_iconst d135_190 (by decide)
theorem d135_191 : decode (mC 135) 191 = .ok (.goto 42, 3) := by decide +kernel
theorem x135_191 {sc : aSc} {d : Nat} {r : aRes} {L : List Value} {st : List Value} {σ : aS} : Rn sc d 135 191 L st σ r ↔ Rn sc d 135 233 L st σ r := r_goto d135_191 rfl
theorem d135_194 : decode (mC 135) 194 = .ok (.iload 7, 2) := by decide +kernel
theorem x135_194 {sc : aSc} {d : Nat} {r : aRes} {a0 : Value} {a1 : Value} {a2 : Value} {a3 : Value} {a4 : Value} {a5 : Value} {a6 : Value} {x7 : Int32} {st : List Value} {σ : aS} : Rn sc d 135 194 [a0, a1, a2, a3, a4, a5, a6, .int x7] st σ r ↔ Rn sc d 135 196 [a0, a1, a2, a3, a4, a5, a6, .int x7] (.int x7 :: st) σ r := r_iload d135_194 rfl
theorem d135_196 : decode (mC 135) 196 = .ok (.iconst 1, 1) := by decide +kernel
theorem x135_196 {sc : aSc} {d : Nat} {r : aRes} {L : List Value} {st : List Value} {σ : aS} : Rn sc d 135 196 L st σ r ↔ Rn sc d 135 197 L (.int 1 :: st) σ r := r_iconst d135_196 (by decide)
theorem d135_197 : decode (mC 135) 197 = .ok (.if_icmp .ne 21, 3) := by decide +kernel
theorem x135_197 {sc : aSc} {d : Nat} {r : aRes} {L : List Value} {st : List Value} {σ : aS} {x y : Int32} : Rn sc d 135 197 L (.int y :: .int x :: st) σ r ↔ if x = y then Rn sc d 135 200 L st σ r else Rn sc d 135 218 L st σ r := r_icmp_ne d135_197 rfl
theorem d135_200 : decode (mC 135) 200 = .ok (.iload 6, 2) := by decide +kernel
theorem x135_200 {sc : aSc} {d : Nat} {r : aRes} {a0 : Value} {a1 : Value} {a2 : Value} {a3 : Value} {a4 : Value} {a5 : Value} {x6 : Int32} {a7 : Value} {st : List Value} {σ : aS} : Rn sc d 135 200 [a0, a1, a2, a3, a4, a5, .int x6, a7] st σ r ↔ Rn sc d 135 202 [a0, a1, a2, a3, a4, a5, .int x6, a7] (.int x6 :: st) σ r := r_iload d135_200 rfl
theorem d135_202 : decode (mC 135) 202 = .ok (.iload 5, 2) := by decide +kernel
theorem x135_202 {sc : aSc} {d : Nat} {r : aRes} {a0 : Value} {a1 : Value} {a2 : Value} {a3 : Value} {a4 : Value} {x5 : Int32} {a6 : Value} {a7 : Value} {st : List Value} {σ : aS} : Rn sc d 135 202 [a0, a1, a2, a3, a4, .int x5, a6, a7] st σ r ↔ Rn sc d 135 204 [a0, a1, a2, a3, a4, .int x5, a6, a7] (.int x5 :: st) σ r := r_iload d135_202 rfl
theorem d135_204 : decode (mC 135) 204 = .ok (.bipush 100, 2) := by decide +kernel
theorem x135_204 {sc : aSc} {d : Nat} {r : aRes} {L : List Value} {st : List Value} {σ : aS} : Rn sc d 135 204 L st σ r ↔ Rn sc d 135 206 L (.int 100 :: st) σ r := r_bipush d135_204 (by decide)
theorem d135_206 : decode (mC 135) 206 = .ok (.irem, 1) := by decide +kernel
theorem x135_206 {sc : aSc} {d : Nat} {r : aRes} {L : List Value} {st : List Value} {σ : aS} {x y : Int32} (hy : ¬ y = 0) : Rn sc d 135 206 L (.int y :: .int x :: st) σ r ↔ Rn sc d 135 207 L (.int (x % y) :: st) σ r := r_irem d135_206 hy
theorem d135_207 : decode (mC 135) 207 = .ok (.if_icmp .ne 7, 3) := by decide +kernel
theorem x135_207 {sc : aSc} {d : Nat} {r : aRes} {L : List Value} {st : List Value} {σ : aS} {x y : Int32} : Rn sc d 135 207 L (.int y :: .int x :: st) σ r ↔ if x = y then Rn sc d 135 210 L st σ r else Rn sc d 135 214 L st σ r := r_icmp_ne d135_207 rfl
theorem d135_210 : decode (mC 135) 210 = .ok (.iconst 1, 1) := by decide +kernel
theorem x135_210 {sc : aSc} {d : Nat} {r : aRes} {L : List Value} {st : List Value} {σ : aS} : Rn sc d 135 210 L st σ r ↔ Rn sc d 135 211 L (.int 1 :: st) σ r := r_iconst d135_210 (by decide)
theorem d135_211 : decode (mC 135) 211 = .ok (.goto 22, 3) := by decide +kernel
theorem x135_211 {sc : aSc} {d : Nat} {r : aRes} {L : List Value} {st : List Value} {σ : aS} : Rn sc d 135 211 L st σ r ↔ Rn sc d 135 233 L st σ r := r_goto d135_211 rfl
theorem d135_214 : decode (mC 135) 214 = .ok (.iconst 0, 1) := by decide +kernel
theorem x135_214 {sc : aSc} {d : Nat} {r : aRes} {L : List Value} {st : List Value} {σ : aS} : Rn sc d 135 214 L st σ r ↔ Rn sc d 135 215 L (.int 0 :: st) σ r := r_iconst d135_214 (by decide)
theorem d135_215 : decode (mC 135) 215 = .ok (.goto 18, 3) := by decide +kernel
theorem x135_215 {sc : aSc} {d : Nat} {r : aRes} {L : List Value} {st : List Value} {σ : aS} : Rn sc d 135 215 L st σ r ↔ Rn sc d 135 233 L st σ r := r_goto d135_215 rfl
theorem d135_218 : decode (mC 135) 218 = .ok (.iload 6, 2) := by decide +kernel
theorem x135_218 {sc : aSc} {d : Nat} {r : aRes} {a0 : Value} {a1 : Value} {a2 : Value} {a3 : Value} {a4 : Value} {a5 : Value} {x6 : Int32} {a7 : Value} {st : List Value} {σ : aS} : Rn sc d 135 218 [a0, a1, a2, a3, a4, a5, .int x6, a7] st σ r ↔ Rn sc d 135 220 [a0, a1, a2, a3, a4, a5, .int x6, a7] (.int x6 :: st) σ r := r_iload d135_218 rfl
theorem d135_220 : decode (mC 135) 220 = .ok (.iload 5, 2) := by decide +kernel
theorem x135_220 {sc : aSc} {d : Nat} {r : aRes} {a0 : Value} {a1 : Value} {a2 : Value} {a3 : Value} {a4 : Value} {x5 : Int32} {a6 : Value} {a7 : Value} {st : List Value} {σ : aS} : Rn sc d 135 220 [a0, a1, a2, a3, a4, .int x5, a6, a7] st σ r ↔ Rn sc d 135 222 [a0, a1, a2, a3, a4, .int x5, a6, a7] (.int x5 :: st) σ r := r_iload d135_220 rfl
theorem d135_222 : decode (mC 135) 222 = .ok (.bipush 100, 2) := by decide +kernel
theorem x135_222 {sc : aSc} {d : Nat} {r : aRes} {L : List Value} {st : List Value} {σ : aS} : Rn sc d 135 222 L st σ r ↔ Rn sc d 135 224 L (.int 100 :: st) σ r := r_bipush d135_222 (by decide)
theorem d135_224 : decode (mC 135) 224 = .ok (.irem, 1) := by decide +kernel
theorem x135_224 {sc : aSc} {d : Nat} {r : aRes} {L : List Value} {st : List Value} {σ : aS} {x y : Int32} (hy : ¬ y = 0) : Rn sc d 135 224 L (.int y :: .int x :: st) σ r ↔ Rn sc d 135 225 L (.int (x % y) :: st) σ r := r_irem d135_224 hy
theorem d135_225 : decode (mC 135) 225 = .ok (.if_icmp .le 7, 3) := by decide +kernel
theorem x135_225 {sc : aSc} {d : Nat} {r : aRes} {L : List Value} {st : List Value} {σ : aS} {x y : Int32} : Rn sc d 135 225 L (.int y :: .int x :: st) σ r ↔ if y < x then Rn sc d 135 228 L st σ r else Rn sc d 135 232 L st σ r := r_icmp_le d135_225 rfl
theorem d135_228 : decode (mC 135) 228 = .ok (.iconst 1, 1) := by decide +kernel
theorem x135_228 {sc : aSc} {d : Nat} {r : aRes} {L : List Value} {st : List Value} {σ : aS} : Rn sc d 135 228 L st σ r ↔ Rn sc d 135 229 L (.int 1 :: st) σ r := r_iconst d135_228 (by decide)
theorem d135_229 : decode (mC 135) 229 = .ok (.goto 4, 3) := by decide +kernel
theorem x135_229 {sc : aSc} {d : Nat} {r : aRes} {L : List Value} {st : List Value} {σ : aS} : Rn sc d 135 229 L st σ r ↔ Rn sc d 135 233 L st σ r := r_goto d135_229 rfl
theorem d135_232 : decode (mC 135) 232 = .ok (.iconst 0, 1) := by decide +kernel
theorem x135_232 {sc : aSc} {d : Nat} {r : aRes} {L : List Value} {st : List Value} {σ : aS} : Rn sc d 135 232 L st σ r ↔ Rn sc d 135 233 L (.int 0 :: st) σ r := r_iconst d135_232 (by decide)
theorem d135_233 : decode (mC 135) 233 = .ok (.bastore, 1) := by decide +kernel
theorem x135_233 {sc : aSc} {d : Nat} {r : aRes} {L : List Value} {st : List Value} {f : Nat → Nat → Int32} {g : Nat → Nat → Int64} {h1 h2 : Nat} {a : Nat} {i x : Int32} (h17 : 17 ≤ a) (hA : isT9 .boolean a) (hi : inb i (aln a) = true) : Rn sc d 135 233 L (.int x :: .int i :: .ref a :: st) (cS f g h1 h2) r ↔ Rn sc d 135 234 L st (cS (u2 f a i.toNatClampNeg (x &&& 1)) g h1 h2) r := r_zast d135_233 h17 hA hi
theorem d135_234 : decode (mC 135) 234 = .ok (.iinc 3 1, 3) := by decide +kernel
theorem x135_234 {sc : aSc} {d : Nat} {r : aRes} {a0 : Value} {a1 : Value} {x2 : Int32} {x3 : Int32} {a4 : Value} {a5 : Value} {a6 : Value} {a7 : Value} {st : List Value} {σ : aS} : Rn sc d 135 234 [a0, a1, .int x2, .int x3, a4, a5, a6, a7] st σ r ↔ Rn sc d 135 237 [a0, a1, .int x2, .int (x3 + 1), a4, a5, a6, a7] st σ r := r_iinc d135_234 (Nat.le_of_ble_eq_true rfl) rfl rfl (by decide)
theorem d135_237 : decode (mC 135) 237 = .ok (.iinc 4 1, 3) := by decide +kernel
theorem x135_237 {sc : aSc} {d : Nat} {r : aRes} {a0 : Value} {a1 : Value} {a2 : Value} {x3 : Int32} {x4 : Int32} {a5 : Value} {a6 : Value} {a7 : Value} {st : List Value} {σ : aS} : Rn sc d 135 237 [a0, a1, a2, .int x3, .int x4, a5, a6, a7] st σ r ↔ Rn sc d 135 240 [a0, a1, a2, .int x3, .int (x4 + 1), a5, a6, a7] st σ r := r_iinc d135_237 (Nat.le_of_ble_eq_true rfl) rfl rfl (by decide)
theorem d135_240 : decode (mC 135) 240 = .ok (.goto (-230), 3) := by decide +kernel
theorem x135_240 {sc : aSc} {d : Nat} {r : aRes} {L : List Value} {st : List Value} {σ : aS} : Rn sc d 135 240 L st σ r ↔ Rn sc d 135 10 L st σ r := r_goto d135_240 rfl
theorem d135_243 : decode (mC 135) 243 = .ok (.aload_n 0, 1) := by decide +kernel
theorem x135_243 {sc : aSc} {d : Nat} {r : aRes} {x0 : Nat} {a1 : Value} {a2 : Value} {a3 : Value} {a4 : Value} {a5 : Value} {a6 : Value} {a7 : Value} {st : List Value} {σ : aS} : Rn sc d 135 243 [.ref x0, a1, a2, a3, a4, a5, a6, a7] st σ r ↔ Rn sc d 135 244 [.ref x0, a1, a2, a3, a4, a5, a6, a7] (.ref x0 :: st) σ r := r_aload_n d135_243 rfl
theorem d135_244 : decode (mC 135) 244 = .ok (.getfield 95, 3) := by decide +kernel
theorem x135_244 {sc : aSc} {d : Nat} {r : aRes} {L : List Value} {st : List Value} {f : Nat → Nat → Int32} {g : Nat → Nat → Int64} {h1 h2 : Nat} {o : Nat} (hK : KK[o]? = some (.inl 7)) (hR : (RR h1 h2 o 28).isSome = true) : Rn sc d 135 244 L (.ref o :: st) (cS f g h1 h2) r ↔ Rn sc d 135 247 L (.ref (rf h1 h2 o 28) :: st) (cS f g h1 h2) r := r_getR2 d135_244 (ci := 7) (k := 28) (by decide +kernel) (by decide +kernel) (fun _ => rfl) hK hR
theorem d135_247 : decode (mC 135) 247 = .ok (.iconst 0, 1) := by decide +kernel
theorem x135_247 {sc : aSc} {d : Nat} {r : aRes} {L : List Value} {st : List Value} {σ : aS} : Rn sc d 135 247 L st σ r ↔ Rn sc d 135 248 L (.int 0 :: st) σ r := r_iconst d135_247 (by decide)
theorem d135_248 : decode (mC 135) 248 = .ok (.baload, 1) := by decide +kernel
theorem x135_248 {sc : aSc} {d : Nat} {r : aRes} {L : List Value} {st : List Value} {f : Nat → Nat → Int32} {g : Nat → Nat → Int64} {h1 h2 : Nat} {a : Nat} {i : Int32} (h17 : 17 ≤ a) (hA : isT9 .boolean a) (hi : inb i (aln a) = true) : Rn sc d 135 248 L (.int i :: .ref a :: st) (cS f g h1 h2) r ↔ Rn sc d 135 249 L (.int (f a i.toNatClampNeg) :: st) (cS f g h1 h2) r := r_zald d135_248 h17 hA hi
theorem d135_249 : decode (mC 135) 249 = .ok (.ireturn, 1) := by decide +kernel
theorem x135_249 {sc : aSc} {d : Nat} {r : aRes} {L : List Value} {σ : aS} {x : Int32} (hn : x &&& 1 = x) : Rn sc d 135 249 L [.int x] σ r ↔ r = (σ, some (.int x)) := r_iret d135_249 rfl (congrArg Value.int hn)
theorem d136_0 : decode (mC 136) 0 = .ok (.iconst 0, 1) := by decide +kernel
theorem x136_0 {sc : aSc} {d : Nat} {r : aRes} {L : List Value} {st : List Value} {σ : aS} : Rn sc d 136 0 L st σ r ↔ Rn sc d 136 1 L (.int 0 :: st) σ r := r_iconst d136_0 (by decide)
theorem d136_1 : decode (mC 136) 1 = .ok (.istore_n 3, 1) := by decide +kernel
theorem x136_1 {sc : aSc} {d : Nat} {r : aRes} {a0 : Value} {a1 : Value} {x2 : Int32} {a3 : Value} {a4 : Value} {st : List Value} {σ : aS} {y : Int32} : Rn sc d 136 1 [a0, a1, .int x2, a3, a4] (.int y :: st) σ r ↔ Rn sc d 136 2 [a0, a1, .int x2, .int y, a4] st σ r := r_istore_n d136_1 (Nat.le_of_ble_eq_true rfl) rfl
theorem d136_2 : decode (mC 136) 2 = .ok (.aload_n 0, 1) := by decide +kernel
theorem x136_2 {sc : aSc} {d : Nat} {r : aRes} {x0 : Nat} {a1 : Value} {a2 : Value} {a3 : Value} {a4 : Value} {st : List Value} {σ : aS} : Rn sc d 136 2 [.ref x0, a1, a2, a3, a4] st σ r ↔ Rn sc d 136 3 [.ref x0, a1, a2, a3, a4] (.ref x0 :: st) σ r := r_aload_n d136_2 rfl
theorem d136_3 : decode (mC 136) 3 = .ok (.invokevirtual 285, 3) := by decide +kernel
theorem x136_3 {sc : aSc} {d : Nat} {r : aRes} {L : List Value} {f : Nat → Nat → Int32} {g : Nat → Nat → Int64} {h1 h2 : Nat}   {o : Nat} (hK : KK[o]? = some (.inl 7)) : Rn sc d 136 3 L [.ref o] (cS f g h1 h2) r ↔ ∃ (σ3 : aS) (v : Option Value), Cl sc d 130 [.ref o] (cS f g h1 h2) (σ3, v) ∧ Rn sc d 136 6 L (v.toList ++ []) σ3 r := r_callV (vs := []) d136_3 (j := 130) rfl ⟨rfl, by decide, rfl, rfl⟩ (Nat.le_of_ble_eq_true rfl) hK
theorem d136_6 : decode (mC 136) 6 = .ok (.istore 4, 2) := by decide +kernel
theorem x136_6 {sc : aSc} {d : Nat} {r : aRes} {a0 : Value} {a1 : Value} {a2 : Value} {x3 : Int32} {a4 : Value} {st : List Value} {σ : aS} {y : Int32} : Rn sc d 136 6 [a0, a1, a2, .int x3, a4] (.int y :: st) σ r ↔ Rn sc d 136 8 [a0, a1, a2, .int x3, .int y] st σ r := r_istore d136_6 (Nat.le_of_ble_eq_true rfl) rfl
theorem d136_8 : decode (mC 136) 8 = .ok (.iload 4, 2) := by decide +kernel
theorem x136_8 {sc : aSc} {d : Nat} {r : aRes} {a0 : Value} {a1 : Value} {a2 : Value} {a3 : Value} {x4 : Int32} {st : List Value} {σ : aS} : Rn sc d 136 8 [a0, a1, a2, a3, .int x4] st σ r ↔ Rn sc d 136 10 [a0, a1, a2, a3, .int x4] (.int x4 :: st) σ r := r_iload d136_8 rfl
theorem d136_10 : decode (mC 136) 10 = .ok (.aload_n 0, 1) := by decide +kernel
theorem x136_10 {sc : aSc} {d : Nat} {r : aRes} {x0 : Nat} {a1 : Value} {a2 : Value} {a3 : Value} {a4 : Value} {st : List Value} {σ : aS} : Rn sc d 136 10 [.ref x0, a1, a2, a3, a4] st σ r ↔ Rn sc d 136 11 [.ref x0, a1, a2, a3, a4] (.ref x0 :: st) σ r := r_aload_n d136_10 rfl
theorem d136_11 : decode (mC 136) 11 = .ok (.invokevirtual 288, 3) := by decide +kernel
theorem x136_11 {sc : aSc} {d : Nat} {r : aRes} {L : List Value} {f : Nat → Nat → Int32} {g : Nat → Nat → Int64} {h1 h2 : Nat}  {z0 : Int32} {o : Nat} (hK : KK[o]? = some (.inl 7)) : Rn sc d 136 11 L [.ref o, .int z0] (cS f g h1 h2) r ↔ ∃ (σ3 : aS) (v : Option Value), Cl sc d 131 [.ref o] (cS f g h1 h2) (σ3, v) ∧ Rn sc d 136 14 L (v.toList ++ [.int z0]) σ3 r := r_callV (vs := []) d136_11 (j := 131) rfl ⟨rfl, by decide, rfl, rfl⟩ (Nat.le_of_ble_eq_true rfl) hK
theorem d136_14 : decode (mC 136) 14 = .ok (.if_icmp .ge 44, 3) := by decide +kernel
theorem x136_14 {sc : aSc} {d : Nat} {r : aRes} {L : List Value} {st : List Value} {σ : aS} {x y : Int32} : Rn sc d 136 14 L (.int y :: .int x :: st) σ r ↔ if x < y then Rn sc d 136 17 L st σ r else Rn sc d 136 58 L st σ r := r_icmp_ge d136_14 rfl
theorem d136_17 : decode (mC 136) 17 = .ok (.iload_n 3, 1) := by decide +kernel
theorem x136_17 {sc : aSc} {d : Nat} {r : aRes} {a0 : Value} {a1 : Value} {a2 : Value} {x3 : Int32} {a4 : Value} {st : List Value} {σ : aS} : Rn sc d 136 17 [a0, a1, a2, .int x3, a4] st σ r ↔ Rn sc d 136 18 [a0, a1, a2, .int x3, a4] (.int x3 :: st) σ r := r_iload_n d136_17 rfl
theorem d136_18 : decode (mC 136) 18 = .ok (.aload_n 0, 1) := by decide +kernel
theorem x136_18 {sc : aSc} {d : Nat} {r : aRes} {x0 : Nat} {a1 : Value} {a2 : Value} {a3 : Value} {a4 : Value} {st : List Value} {σ : aS} : Rn sc d 136 18 [.ref x0, a1, a2, a3, a4] st σ r ↔ Rn sc d 136 19 [.ref x0, a1, a2, a3, a4] (.ref x0 :: st) σ r := r_aload_n d136_18 rfl
theorem d136_19 : decode (mC 136) 19 = .ok (.getfield 65, 3) := by decide +kernel
theorem x136_19 {sc : aSc} {d : Nat} {r : aRes} {L : List Value} {st : List Value} {f : Nat → Nat → Int32} {g : Nat → Nat → Int64} {h1 h2 : Nat} {o : Nat} (hK : KK[o]? = some (.inl 7)) (hR : (RR h1 h2 o 18).isSome = true) : Rn sc d 136 19 L (.ref o :: st) (cS f g h1 h2) r ↔ Rn sc d 136 22 L (.ref (rf h1 h2 o 18) :: st) (cS f g h1 h2) r := r_getR2 d136_19 (ci := 7) (k := 18) rfl (by decide) (fun _ => rfl) hK hR
theorem d136_22 : decode (mC 136) 22 = .ok (.iload 4, 2) := by decide +kernel
theorem x136_22 {sc : aSc} {d : Nat} {r : aRes} {a0 : Value} {a1 : Value} {a2 : Value} {a3 : Value} {x4 : Int32} {st : List Value} {σ : aS} : Rn sc d 136 22 [a0, a1, a2, a3, .int x4] st σ r ↔ Rn sc d 136 24 [a0, a1, a2, a3, .int x4] (.int x4 :: st) σ r := r_iload d136_22 rfl
theorem d136_24 : decode (mC 136) 24 = .ok (.iaload, 1) := by decide +kernel
theorem x136_24 {sc : aSc} {d : Nat} {r : aRes} {L : List Value} {st : List Value} {f : Nat → Nat → Int32} {g : Nat → Nat → Int64} {h1 h2 : Nat} {a : Nat} {i : Int32} (h17 : 17 ≤ a) (hA : isT9 .int a) (hi : inb i (aln a) = true) : Rn sc d 136 24 L (.int i :: .ref a :: st) (cS f g h1 h2) r ↔ Rn sc d 136 25 L (.int (f a i.toNatClampNeg) :: st) (cS f g h1 h2) r := r_iald d136_24 h17 hA hi
theorem d136_25 : decode (mC 136) 25 = .ok (.iload_n 1, 1) := by decide +kernel
theorem x136_25 {sc : aSc} {d : Nat} {r : aRes} {a0 : Value} {x1 : Int32} {a2 : Value} {a3 : Value} {a4 : Value} {st : List Value} {σ : aS} : Rn sc d 136 25 [a0, .int x1, a2, a3, a4] st σ r ↔ Rn sc d 136 26 [a0, .int x1, a2, a3, a4] (.int x1 :: st) σ r := r_iload_n d136_25 rfl
theorem d136_26 : decode (mC 136) 26 = .ok (.if_icmp .ne 23, 3) := by decide +kernel
theorem x136_26 {sc : aSc} {d : Nat} {r : aRes} {L : List Value} {st : List Value} {σ : aS} {x y : Int32} : Rn sc d 136 26 L (.int y :: .int x :: st) σ r ↔ if x = y then Rn sc d 136 29 L st σ r else Rn sc d 136 49 L st σ r := r_icmp_ne d136_26 rfl
theorem d136_29 : decode (mC 136) 29 = .ok (.aload_n 0, 1) := by decide +kernel
theorem x136_29 {sc : aSc} {d : Nat} {r : aRes} {x0 : Nat} {a1 : Value} {a2 : Value} {a3 : Value} {a4 : Value} {st : List Value} {σ : aS} : Rn sc d 136 29 [.ref x0, a1, a2, a3, a4] st σ r ↔ Rn sc d 136 30 [.ref x0, a1, a2, a3, a4] (.ref x0 :: st) σ r := r_aload_n d136_29 rfl
theorem d136_30 : decode (mC 136) 30 = .ok (.iload 4, 2) := by decide +kernel
theorem x136_30 {sc : aSc} {d : Nat} {r : aRes} {a0 : Value} {a1 : Value} {a2 : Value} {a3 : Value} {x4 : Int32} {st : List Value} {σ : aS} : Rn sc d 136 30 [a0, a1, a2, a3, .int x4] st σ r ↔ Rn sc d 136 32 [a0, a1, a2, a3, .int x4] (.int x4 :: st) σ r := r_iload d136_30 rfl
theorem d136_32 : decode (mC 136) 32 = .ok (.iload_n 2, 1) := by decide +kernel
theorem x136_32 {sc : aSc} {d : Nat} {r : aRes} {a0 : Value} {a1 : Value} {x2 : Int32} {a3 : Value} {a4 : Value} {st : List Value} {σ : aS} : Rn sc d 136 32 [a0, a1, .int x2, a3, a4] st σ r ↔ Rn sc d 136 33 [a0, a1, .int x2, a3, a4] (.int x2 :: st) σ r := r_iload_n d136_32 rfl
theorem d136_33 : decode (mC 136) 33 = .ok (.invokevirtual 298, 3) := by decide +kernel
theorem x136_33 {sc : aSc} {d : Nat} {r : aRes} {L : List Value} {f : Nat → Nat → Int32} {g : Nat → Nat → Int64} {h1 h2 : Nat} {y0 : Int32} {y1 : Int32} {z0 : Int32} {o : Nat} (hK : KK[o]? = some (.inl 7)) : Rn sc d 136 33 L [.int y0, .int y1, .ref o, .int z0] (cS f g h1 h2) r ↔ ∃ (σ3 : aS) (v : Option Value), Cl sc d 135 [.ref o, .int y1, .int y0] (cS f g h1 h2) (σ3, v) ∧ Rn sc d 136 36 L (v.toList ++ [.int z0]) σ3 r := r_callV (vs := [.int y0, .int y1]) d136_33 (j := 135) rfl ⟨rfl, by decide, rfl, rfl⟩ (Nat.le_of_ble_eq_true rfl) hK
theorem d136_36 : decode (mC 136) 36 = .ok (.ifCond .eq 13, 3) := by decide +kernel
theorem x136_36 {sc : aSc} {d : Nat} {r : aRes} {L : List Value} {st : List Value} {σ : aS} {x : Int32} : Rn sc d 136 36 L (.int x :: st) σ r ↔ if x = 0 then Rn sc d 136 49 L st σ r else Rn sc d 136 39 L st σ r := r_if_eq d136_36 rfl
theorem d136_39 : decode (mC 136) 39 = .ok (.aload_n 0, 1) := by decide +kernel
theorem x136_39 {sc : aSc} {d : Nat} {r : aRes} {x0 : Nat} {a1 : Value} {a2 : Value} {a3 : Value} {a4 : Value} {st : List Value} {σ : aS} : Rn sc d 136 39 [.ref x0, a1, a2, a3, a4] st σ r ↔ Rn sc d 136 40 [.ref x0, a1, a2, a3, a4] (.ref x0 :: st) σ r := r_aload_n d136_39 rfl
theorem d136_40 : decode (mC 136) 40 = .ok (.getfield 68, 3) := by decide +kernel
theorem x136_40 {sc : aSc} {d : Nat} {r : aRes} {L : List Value} {st : List Value} {f : Nat → Nat → Int32} {g : Nat → Nat → Int64} {h1 h2 : Nat} {o : Nat} (hK : KK[o]? = some (.inl 7)) (hR : (RR h1 h2 o 19).isSome = true) : Rn sc d 136 40 L (.ref o :: st) (cS f g h1 h2) r ↔ Rn sc d 136 43 L (.ref (rf h1 h2 o 19) :: st) (cS f g h1 h2) r := r_getR2 d136_40 (ci := 7) (k := 19) rfl (by decide) (fun _ => rfl) hK hR
theorem d136_43 : decode (mC 136) 43 = .ok (.iload 4, 2) := by decide +kernel
theorem x136_43 {sc : aSc} {d : Nat} {r : aRes} {a0 : Value} {a1 : Value} {a2 : Value} {a3 : Value} {x4 : Int32} {st : List Value} {σ : aS} : Rn sc d 136 43 [a0, a1, a2, a3, .int x4] st σ r ↔ Rn sc d 136 45 [a0, a1, a2, a3, .int x4] (.int x4 :: st) σ r := r_iload d136_43 rfl
theorem d136_45 : decode (mC 136) 45 = .ok (.iaload, 1) := by decide +kernel
theorem x136_45 {sc : aSc} {d : Nat} {r : aRes} {L : List Value} {st : List Value} {f : Nat → Nat → Int32} {g : Nat → Nat → Int64} {h1 h2 : Nat} {a : Nat} {i : Int32} (h17 : 17 ≤ a) (hA : isT9 .int a) (hi : inb i (aln a) = true) : Rn sc d 136 45 L (.int i :: .ref a :: st) (cS f g h1 h2) r ↔ Rn sc d 136 46 L (.int (f a i.toNatClampNeg) :: st) (cS f g h1 h2) r := r_iald d136_45 h17 hA hi
theorem d136_46 : decode (mC 136) 46 = .ok (.goto 4, 3) := by decide +kernel
theorem x136_46 {sc : aSc} {d : Nat} {r : aRes} {L : List Value} {st : List Value} {σ : aS} : Rn sc d 136 46 L st σ r ↔ Rn sc d 136 50 L st σ r := r_goto d136_46 rfl
theorem d136_49 : decode (mC 136) 49 = .ok (.iconst 0, 1) := by decide +kernel
theorem x136_49 {sc : aSc} {d : Nat} {r : aRes} {L : List Value} {st : List Value} {σ : aS} : Rn sc d 136 49 L st σ r ↔ Rn sc d 136 50 L (.int 0 :: st) σ r := r_iconst d136_49 (by decide)
theorem d136_50 : decode (mC 136) 50 = .ok (.iadd, 1) := by decide +kernel
theorem x136_50 {sc : aSc} {d : Nat} {r : aRes} {L : List Value} {st : List Value} {σ : aS} {x y : Int32} : Rn sc d 136 50 L (.int y :: .int x :: st) σ r ↔ Rn sc d 136 51 L (.int (x + y) :: st) σ r := r_iadd d136_50
theorem d136_51 : decode (mC 136) 51 = .ok (.istore_n 3, 1) := by decide +kernel
theorem x136_51 {sc : aSc} {d : Nat} {r : aRes} {a0 : Value} {a1 : Value} {x2 : Int32} {a3 : Value} {a4 : Value} {st : List Value} {σ : aS} {y : Int32} : Rn sc d 136 51 [a0, a1, .int x2, a3, a4] (.int y :: st) σ r ↔ Rn sc d 136 52 [a0, a1, .int x2, .int y, a4] st σ r := r_istore_n d136_51 (Nat.le_of_ble_eq_true rfl) rfl
theorem d136_52 : decode (mC 136) 52 = .ok (.iinc 4 1, 3) := by decide +kernel
theorem x136_52 {sc : aSc} {d : Nat} {r : aRes} {a0 : Value} {a1 : Value} {a2 : Value} {x3 : Int32} {x4 : Int32} {st : List Value} {σ : aS} : Rn sc d 136 52 [a0, a1, a2, .int x3, .int x4] st σ r ↔ Rn sc d 136 55 [a0, a1, a2, .int x3, .int (x4 + 1)] st σ r := r_iinc d136_52 (Nat.le_of_ble_eq_true rfl) rfl rfl (by decide)
theorem d136_55 : decode (mC 136) 55 = .ok (.goto (-47), 3) := by decide +kernel
theorem x136_55 {sc : aSc} {d : Nat} {r : aRes} {L : List Value} {st : List Value} {σ : aS} : Rn sc d 136 55 L st σ r ↔ Rn sc d 136 8 L st σ r := r_goto d136_55 rfl
theorem d136_58 : decode (mC 136) 58 = .ok (.iload_n 3, 1) := by decide +kernel
theorem x136_58 {sc : aSc} {d : Nat} {r : aRes} {a0 : Value} {a1 : Value} {a2 : Value} {x3 : Int32} {a4 : Value} {st : List Value} {σ : aS} : Rn sc d 136 58 [a0, a1, a2, .int x3, a4] st σ r ↔ Rn sc d 136 59 [a0, a1, a2, .int x3, a4] (.int x3 :: st) σ r := r_iload_n d136_58 rfl
theorem d136_59 : decode (mC 136) 59 = .ok (.ireturn, 1) := by decide +kernel
theorem x136_59 {sc : aSc} {d : Nat} {r : aRes} {L : List Value} {σ : aS} {x : Int32} : Rn sc d 136 59 L [.int x] σ r ↔ r = (σ, some (.int x)) := r_iret d136_59 rfl rfl
theorem d137_0 : decode (mC 137) 0 = .ok (.aload_n 0, 1) := by decide +kernel
theorem x137_0 {sc : aSc} {d : Nat} {r : aRes} {x0 : Nat} {a1 : Value} {a2 : Value} {st : List Value} {σ : aS} : Rn sc d 137 0 [.ref x0, a1, a2] st σ r ↔ Rn sc d 137 1 [.ref x0, a1, a2] (.ref x0 :: st) σ r := r_aload_n d137_0 rfl
theorem d137_1 : decode (mC 137) 1 = .ok (.getfield 32, 3) := by decide +kernel
theorem x137_1 {sc : aSc} {d : Nat} {r : aRes} {L : List Value} {st : List Value} {f : Nat → Nat → Int32} {g : Nat → Nat → Int64} {h1 h2 : Nat} {o : Nat} (hK : KK[o]? = some (.inl 7)) (hR : (RR h1 h2 o 7).isSome = true) : Rn sc d 137 1 L (.ref o :: st) (cS f g h1 h2) r ↔ Rn sc d 137 4 L (.ref (rf h1 h2 o 7) :: st) (cS f g h1 h2) r := r_getR2 d137_1 (ci := 7) (k := 7) rfl (by decide) (fun _ => rfl) hK hR
theorem d137_4 : decode (mC 137) 4 = .ok (.iload_n 1, 1) := by decide +kernel
theorem x137_4 {sc : aSc} {d : Nat} {r : aRes} {a0 : Value} {x1 : Int32} {a2 : Value} {st : List Value} {σ : aS} : Rn sc d 137 4 [a0, .int x1, a2] st σ r ↔ Rn sc d 137 5 [a0, .int x1, a2] (.int x1 :: st) σ r := r_iload_n d137_4 rfl
theorem d137_5 : decode (mC 137) 5 = .ok (.iaload, 1) := by decide +kernel
theorem x137_5 {sc : aSc} {d : Nat} {r : aRes} {L : List Value} {st : List Value} {f : Nat → Nat → Int32} {g : Nat → Nat → Int64} {h1 h2 : Nat} {a : Nat} {i : Int32} (h17 : 17 ≤ a) (hA : isT9 .int a) (hi : inb i (aln a) = true) : Rn sc d 137 5 L (.int i :: .ref a :: st) (cS f g h1 h2) r ↔ Rn sc d 137 6 L (.int (f a i.toNatClampNeg) :: st) (cS f g h1 h2) r := r_iald d137_5 h17 hA hi
theorem d137_6 : decode (mC 137) 6 = .ok (.aload_n 0, 1) := by decide +kernel
theorem x137_6 {sc : aSc} {d : Nat} {r : aRes} {x0 : Nat} {a1 : Value} {a2 : Value} {st : List Value} {σ : aS} : Rn sc d 137 6 [.ref x0, a1, a2] st σ r ↔ Rn sc d 137 7 [.ref x0, a1, a2] (.ref x0 :: st) σ r := r_aload_n d137_6 rfl
theorem d137_7 : decode (mC 137) 7 = .ok (.iconst 0, 1) := by decide +kernel
theorem x137_7 {sc : aSc} {d : Nat} {r : aRes} {L : List Value} {st : List Value} {σ : aS} : Rn sc d 137 7 L st σ r ↔ Rn sc d 137 8 L (.int 0 :: st) σ r := r_iconst d137_7 (by decide)
theorem d137_8 : decode (mC 137) 8 = .ok (.iload_n 1, 1) := by decide +kernel
theorem x137_8 {sc : aSc} {d : Nat} {r : aRes} {a0 : Value} {x1 : Int32} {a2 : Value} {st : List Value} {σ : aS} : Rn sc d 137 8 [a0, .int x1, a2] st σ r ↔ Rn sc d 137 9 [a0, .int x1, a2] (.int x1 :: st) σ r := r_iload_n d137_8 rfl
theorem d137_9 : decode (mC 137) 9 = .ok (.invokevirtual 301, 3) := by decide +kernel
theorem x137_9 {sc : aSc} {d : Nat} {r : aRes} {L : List Value} {f : Nat → Nat → Int32} {g : Nat → Nat → Int64} {h1 h2 : Nat} {y0 : Int32} {y1 : Int32} {z0 : Int32} {o : Nat} (hK : KK[o]? = some (.inl 7)) : Rn sc d 137 9 L [.int y0, .int y1, .ref o, .int z0] (cS f g h1 h2) r ↔ ∃ (σ3 : aS) (v : Option Value), Cl sc d 136 [.ref o, .int y1, .int y0] (cS f g h1 h2) (σ3, v) ∧ Rn sc d 137 12 L (v.toList ++ [.int z0]) σ3 r := r_callV (vs := [.int y0, .int y1]) d137_9 (j := 136) rfl ⟨rfl, by decide, rfl, rfl⟩ (Nat.le_of_ble_eq_true rfl) hK
theorem d137_12 : decode (mC 137) 12 = .ok (.iadd, 1) := by decide +kernel
theorem x137_12 {sc : aSc} {d : Nat} {r : aRes} {L : List Value} {st : List Value} {σ : aS} {x y : Int32} : Rn sc d 137 12 L (.int y :: .int x :: st) σ r ↔ Rn sc d 137 13 L (.int (x + y) :: st) σ r := r_iadd d137_12
theorem d137_13 : decode (mC 137) 13 = .ok (.aload_n 0, 1) := by decide +kernel
theorem x137_13 {sc : aSc} {d : Nat} {r : aRes} {x0 : Nat} {a1 : Value} {a2 : Value} {st : List Value} {σ : aS} : Rn sc d 137 13 [.ref x0, a1, a2] st σ r ↔ Rn sc d 137 14 [.ref x0, a1, a2] (.ref x0 :: st) σ r := r_aload_n d137_13 rfl
theorem d137_14 : decode (mC 137) 14 = .ok (.iconst 1, 1) := by decide +kernel
theorem x137_14 {sc : aSc} {d : Nat} {r : aRes} {L : List Value} {st : List Value} {σ : aS} : Rn sc d 137 14 L st σ r ↔ Rn sc d 137 15 L (.int 1 :: st) σ r := r_iconst d137_14 (by decide)
theorem d137_15 : decode (mC 137) 15 = .ok (.iload_n 1, 1) := by decide +kernel
theorem x137_15 {sc : aSc} {d : Nat} {r : aRes} {a0 : Value} {x1 : Int32} {a2 : Value} {st : List Value} {σ : aS} : Rn sc d 137 15 [a0, .int x1, a2] st σ r ↔ Rn sc d 137 16 [a0, .int x1, a2] (.int x1 :: st) σ r := r_iload_n d137_15 rfl
theorem d137_16 : decode (mC 137) 16 = .ok (.invokevirtual 301, 3) := by decide +kernel
theorem x137_16 {sc : aSc} {d : Nat} {r : aRes} {L : List Value} {f : Nat → Nat → Int32} {g : Nat → Nat → Int64} {h1 h2 : Nat} {y0 : Int32} {y1 : Int32} {z0 : Int32} {o : Nat} (hK : KK[o]? = some (.inl 7)) : Rn sc d 137 16 L [.int y0, .int y1, .ref o, .int z0] (cS f g h1 h2) r ↔ ∃ (σ3 : aS) (v : Option Value), Cl sc d 136 [.ref o, .int y1, .int y0] (cS f g h1 h2) (σ3, v) ∧ Rn sc d 137 19 L (v.toList ++ [.int z0]) σ3 r := r_callV (vs := [.int y0, .int y1]) d137_16 (j := 136) rfl ⟨rfl, by decide, rfl, rfl⟩ (Nat.le_of_ble_eq_true rfl) hK
theorem d137_19 : decode (mC 137) 19 = .ok (.isub, 1) := by decide +kernel
theorem x137_19 {sc : aSc} {d : Nat} {r : aRes} {L : List Value} {st : List Value} {σ : aS} {x y : Int32} : Rn sc d 137 19 L (.int y :: .int x :: st) σ r ↔ Rn sc d 137 20 L (.int (x - y) :: st) σ r := r_isub d137_19
theorem d137_20 : decode (mC 137) 20 = .ok (.istore_n 2, 1) := by decide +kernel
theorem x137_20 {sc : aSc} {d : Nat} {r : aRes} {a0 : Value} {x1 : Int32} {a2 : Value} {st : List Value} {σ : aS} {y : Int32} : Rn sc d 137 20 [a0, .int x1, a2] (.int y :: st) σ r ↔ Rn sc d 137 21 [a0, .int x1, .int y] st σ r := r_istore_n d137_20 (Nat.le_of_ble_eq_true rfl) rfl
theorem d137_21 : decode (mC 137) 21 = .ok (.aload_n 0, 1) := by decide +kernel
theorem x137_21 {sc : aSc} {d : Nat} {r : aRes} {x0 : Nat} {a1 : Value} {a2 : Value} {st : List Value} {σ : aS} : Rn sc d 137 21 [.ref x0, a1, a2] st σ r ↔ Rn sc d 137 22 [.ref x0, a1, a2] (.ref x0 :: st) σ r := r_aload_n d137_21 rfl
theorem d137_22 : decode (mC 137) 22 = .ok (.getfield 25, 3) := by decide +kernel
theorem x137_22 {sc : aSc} {d : Nat} {r : aRes} {L : List Value} {st : List Value} {f : Nat → Nat → Int32} {g : Nat → Nat → Int64} {h1 h2 : Nat} {o : Nat} (hK : KK[o]? = some (.inl 7)) (hR : (RR h1 h2 o 5).isSome = true) : Rn sc d 137 22 L (.ref o :: st) (cS f g h1 h2) r ↔ Rn sc d 137 25 L (.ref (rf h1 h2 o 5) :: st) (cS f g h1 h2) r := r_getR2 d137_22 (ci := 7) (k := 5) rfl (by decide) (fun _ => rfl) hK hR
theorem d137_25 : decode (mC 137) 25 = .ok (.iload_n 1, 1) := by decide +kernel
theorem x137_25 {sc : aSc} {d : Nat} {r : aRes} {a0 : Value} {x1 : Int32} {a2 : Value} {st : List Value} {σ : aS} : Rn sc d 137 25 [a0, .int x1, a2] st σ r ↔ Rn sc d 137 26 [a0, .int x1, a2] (.int x1 :: st) σ r := r_iload_n d137_25 rfl
theorem d137_26 : decode (mC 137) 26 = .ok (.iaload, 1) := by decide +kernel
theorem x137_26 {sc : aSc} {d : Nat} {r : aRes} {L : List Value} {st : List Value} {f : Nat → Nat → Int32} {g : Nat → Nat → Int64} {h1 h2 : Nat} {a : Nat} {i : Int32} (h17 : 17 ≤ a) (hA : isT9 .int a) (hi : inb i (aln a) = true) : Rn sc d 137 26 L (.int i :: .ref a :: st) (cS f g h1 h2) r ↔ Rn sc d 137 27 L (.int (f a i.toNatClampNeg) :: st) (cS f g h1 h2) r := r_iald d137_26 h17 hA hi
theorem d137_27 : decode (mC 137) 27 = .ok (.tableswitch 142 1 6 #[37, 46, 50, 61, 93, 115], 37) := by decide +kernel
theorem x137_27 {sc : aSc} {d : Nat} {r : aRes} {L : List Value} {st : List Value} {σ : aS} {x : Int32} : Rn sc d 137 27 L (.int x :: st) σ r ↔ (if x = 1 then Rn sc d 137 64 L st σ r else (if x = 2 then Rn sc d 137 73 L st σ r else (if x = 3 then Rn sc d 137 77 L st σ r else (if x = 4 then Rn sc d 137 88 L st σ r else (if x = 5 then Rn sc d 137 120 L st σ r else (if x = 6 then Rn sc d 137 142 L st σ r else Rn sc d 137 169 L st σ r)))))) := by
  by_cases c0 : x = 1
  · subst c0; simp only [if_pos]; exact r_tsw d137_27 (t := 64) rfl
  rw [if_neg c0]
  by_cases c1 : x = 2
  · subst c1; simp only [if_pos]; exact r_tsw d137_27 (t := 73) rfl
  rw [if_neg c1]
  by_cases c2 : x = 3
  · subst c2; simp only [if_pos]; exact r_tsw d137_27 (t := 77) rfl
  rw [if_neg c2]
  by_cases c3 : x = 4
  · subst c3; simp only [if_pos]; exact r_tsw d137_27 (t := 88) rfl
  rw [if_neg c3]
  by_cases c4 : x = 5
  · subst c4; simp only [if_pos]; exact r_tsw d137_27 (t := 120) rfl
  rw [if_neg c4]
  by_cases c5 : x = 6
  · subst c5; simp only [if_pos]; exact r_tsw d137_27 (t := 142) rfl
  rw [if_neg c5]
  refine r_tswd d137_27 ?_ rfl
  have e0 : x.toInt ≠ 1 := fun z => c0 (Int32.toInt_inj.mp z)
  have e1 : x.toInt ≠ 2 := fun z => c1 (Int32.toInt_inj.mp z)
  have e2 : x.toInt ≠ 3 := fun z => c2 (Int32.toInt_inj.mp z)
  have e3 : x.toInt ≠ 4 := fun z => c3 (Int32.toInt_inj.mp z)
  have e4 : x.toInt ≠ 5 := fun z => c4 (Int32.toInt_inj.mp z)
  have e5 : x.toInt ≠ 6 := fun z => c5 (Int32.toInt_inj.mp z)
  omega
theorem d137_64 : decode (mC 137) 64 = .ok (.iload_n 2, 1) := by decide +kernel
theorem x137_64 {sc : aSc} {d : Nat} {r : aRes} {a0 : Value} {a1 : Value} {x2 : Int32} {st : List Value} {σ : aS} : Rn sc d 137 64 [a0, a1, .int x2] st σ r ↔ Rn sc d 137 65 [a0, a1, .int x2] (.int x2 :: st) σ r := r_iload_n d137_64 rfl
theorem d137_65 : decode (mC 137) 65 = .ok (.aload_n 0, 1) := by decide +kernel
theorem x137_65 {sc : aSc} {d : Nat} {r : aRes} {x0 : Nat} {a1 : Value} {a2 : Value} {st : List Value} {σ : aS} : Rn sc d 137 65 [.ref x0, a1, a2] st σ r ↔ Rn sc d 137 66 [.ref x0, a1, a2] (.ref x0 :: st) σ r := r_aload_n d137_65 rfl
theorem d137_66 : decode (mC 137) 66 = .ok (.getfield 29, 3) := by decide +kernel
theorem x137_66 {sc : aSc} {d : Nat} {r : aRes} {L : List Value} {st : List Value} {f : Nat → Nat → Int32} {g : Nat → Nat → Int64} {h1 h2 : Nat} {o : Nat} (hK : KK[o]? = some (.inl 7)) (hR : (RR h1 h2 o 6).isSome = true) : Rn sc d 137 66 L (.ref o :: st) (cS f g h1 h2) r ↔ Rn sc d 137 69 L (.ref (rf h1 h2 o 6) :: st) (cS f g h1 h2) r := r_getR2 d137_66 (ci := 7) (k := 6) rfl (by decide) (fun _ => rfl) hK hR
theorem d137_69 : decode (mC 137) 69 = .ok (.iload_n 1, 1) := by decide +kernel
theorem x137_69 {sc : aSc} {d : Nat} {r : aRes} {a0 : Value} {x1 : Int32} {a2 : Value} {st : List Value} {σ : aS} : Rn sc d 137 69 [a0, .int x1, a2] st σ r ↔ Rn sc d 137 70 [a0, .int x1, a2] (.int x1 :: st) σ r := r_iload_n d137_69 rfl
theorem d137_70 : decode (mC 137) 70 = .ok (.iaload, 1) := by decide +kernel
theorem x137_70 {sc : aSc} {d : Nat} {r : aRes} {L : List Value} {st : List Value} {f : Nat → Nat → Int32} {g : Nat → Nat → Int64} {h1 h2 : Nat} {a : Nat} {i : Int32} (h17 : 17 ≤ a) (hA : isT9 .int a) (hi : inb i (aln a) = true) : Rn sc d 137 70 L (.int i :: .ref a :: st) (cS f g h1 h2) r ↔ Rn sc d 137 71 L (.int (f a i.toNatClampNeg) :: st) (cS f g h1 h2) r := r_iald d137_70 h17 hA hi
theorem d137_71 : decode (mC 137) 71 = .ok (.iadd, 1) := by decide +kernel
theorem x137_71 {sc : aSc} {d : Nat} {r : aRes} {L : List Value} {st : List Value} {σ : aS} {x y : Int32} : Rn sc d 137 71 L (.int y :: .int x :: st) σ r ↔ Rn sc d 137 72 L (.int (x + y) :: st) σ r := r_iadd d137_71
theorem d137_72 : decode (mC 137) 72 = .ok (.ireturn, 1) := by decide +kernel
theorem x137_72 {sc : aSc} {d : Nat} {r : aRes} {L : List Value} {σ : aS} {x : Int32} : Rn sc d 137 72 L [.int x] σ r ↔ r = (σ, some (.int x)) := r_iret d137_72 rfl rfl
theorem d137_73 : decode (mC 137) 73 = .ok (.iload_n 2, 1) := by decide +kernel
theorem x137_73 {sc : aSc} {d : Nat} {r : aRes} {a0 : Value} {a1 : Value} {x2 : Int32} {st : List Value} {σ : aS} : Rn sc d 137 73 [a0, a1, .int x2] st σ r ↔ Rn sc d 137 74 [a0, a1, .int x2] (.int x2 :: st) σ r := r_iload_n d137_73 rfl
theorem d137_74 : decode (mC 137) 74 = .ok (.iconst 2, 1) := by decide +kernel
theorem x137_74 {sc : aSc} {d : Nat} {r : aRes} {L : List Value} {st : List Value} {σ : aS} : Rn sc d 137 74 L st σ r ↔ Rn sc d 137 75 L (.int 2 :: st) σ r := r_iconst d137_74 (by decide)
theorem d137_75 : decode (mC 137) 75 = .ok (.idiv, 1) := by decide +kernel
theorem x137_75 {sc : aSc} {d : Nat} {r : aRes} {L : List Value} {st : List Value} {σ : aS} {x y : Int32} (hy : ¬ y = 0) : Rn sc d 137 75 L (.int y :: .int x :: st) σ r ↔ Rn sc d 137 76 L (.int (x / y) :: st) σ r := r_idiv d137_75 hy
theorem d137_76 : decode (mC 137) 76 = .ok (.ireturn, 1) := by decide +kernel
theorem x137_76 {sc : aSc} {d : Nat} {r : aRes} {L : List Value} {σ : aS} {x : Int32} : Rn sc d 137 76 L [.int x] σ r ↔ r = (σ, some (.int x)) := r_iret d137_76 rfl rfl
theorem d137_77 : decode (mC 137) 77 = .ok (.iload_n 2, 1) := by decide +kernel
theorem x137_77 {sc : aSc} {d : Nat} {r : aRes} {a0 : Value} {a1 : Value} {x2 : Int32} {st : List Value} {σ : aS} : Rn sc d 137 77 [a0, a1, .int x2] st σ r ↔ Rn sc d 137 78 [a0, a1, .int x2] (.int x2 :: st) σ r := r_iload_n d137_77 rfl
theorem d137_78 : decode (mC 137) 78 = .ok (.iconst 2, 1) := by decide +kernel
theorem x137_78 {sc : aSc} {d : Nat} {r : aRes} {L : List Value} {st : List Value} {σ : aS} : Rn sc d 137 78 L st σ r ↔ Rn sc d 137 79 L (.int 2 :: st) σ r := r_iconst d137_78 (by decide)
theorem d137_79 : decode (mC 137) 79 = .ok (.aload_n 0, 1) := by decide +kernel
theorem x137_79 {sc : aSc} {d : Nat} {r : aRes} {x0 : Nat} {a1 : Value} {a2 : Value} {st : List Value} {σ : aS} : Rn sc d 137 79 [.ref x0, a1, a2] st σ r ↔ Rn sc d 137 80 [.ref x0, a1, a2] (.ref x0 :: st) σ r := r_aload_n d137_79 rfl
theorem d137_80 : decode (mC 137) 80 = .ok (.getfield 29, 3) := by decide +kernel
theorem x137_80 {sc : aSc} {d : Nat} {r : aRes} {L : List Value} {st : List Value} {f : Nat → Nat → Int32} {g : Nat → Nat → Int64} {h1 h2 : Nat} {o : Nat} (hK : KK[o]? = some (.inl 7)) (hR : (RR h1 h2 o 6).isSome = true) : Rn sc d 137 80 L (.ref o :: st) (cS f g h1 h2) r ↔ Rn sc d 137 83 L (.ref (rf h1 h2 o 6) :: st) (cS f g h1 h2) r := r_getR2 d137_80 (ci := 7) (k := 6) rfl (by decide) (fun _ => rfl) hK hR
theorem d137_83 : decode (mC 137) 83 = .ok (.iload_n 1, 1) := by decide +kernel
theorem x137_83 {sc : aSc} {d : Nat} {r : aRes} {a0 : Value} {x1 : Int32} {a2 : Value} {st : List Value} {σ : aS} : Rn sc d 137 83 [a0, .int x1, a2] st σ r ↔ Rn sc d 137 84 [a0, .int x1, a2] (.int x1 :: st) σ r := r_iload_n d137_83 rfl
theorem d137_84 : decode (mC 137) 84 = .ok (.iaload, 1) := by decide +kernel
theorem x137_84 {sc : aSc} {d : Nat} {r : aRes} {L : List Value} {st : List Value} {f : Nat → Nat → Int32} {g : Nat → Nat → Int64} {h1 h2 : Nat} {a : Nat} {i : Int32} (h17 : 17 ≤ a) (hA : isT9 .int a) (hi : inb i (aln a) = true) : Rn sc d 137 84 L (.int i :: .ref a :: st) (cS f g h1 h2) r ↔ Rn sc d 137 85 L (.int (f a i.toNatClampNeg) :: st) (cS f g h1 h2) r := r_iald d137_84 h17 hA hi
theorem d137_85 : decode (mC 137) 85 = .ok (.imul, 1) := by decide +kernel
theorem x137_85 {sc : aSc} {d : Nat} {r : aRes} {L : List Value} {st : List Value} {σ : aS} {x y : Int32} : Rn sc d 137 85 L (.int y :: .int x :: st) σ r ↔ Rn sc d 137 86 L (.int (x * y) :: st) σ r := r_imul d137_85
theorem d137_86 : decode (mC 137) 86 = .ok (.isub, 1) := by decide +kernel
theorem x137_86 {sc : aSc} {d : Nat} {r : aRes} {L : List Value} {st : List Value} {σ : aS} {x y : Int32} : Rn sc d 137 86 L (.int y :: .int x :: st) σ r ↔ Rn sc d 137 87 L (.int (x - y) :: st) σ r := r_isub d137_86
theorem d137_87 : decode (mC 137) 87 = .ok (.ireturn, 1) := by decide +kernel
theorem x137_87 {sc : aSc} {d : Nat} {r : aRes} {L : List Value} {σ : aS} {x : Int32} : Rn sc d 137 87 L [.int x] σ r ↔ r = (σ, some (.int x)) := r_iret d137_87 rfl rfl
theorem d137_88 : decode (mC 137) 88 = .ok (.aload_n 0, 1) := by decide +kernel
theorem x137_88 {sc : aSc} {d : Nat} {r : aRes} {x0 : Nat} {a1 : Value} {a2 : Value} {st : List Value} {σ : aS} : Rn sc d 137 88 [.ref x0, a1, a2] st σ r ↔ Rn sc d 137 89 [.ref x0, a1, a2] (.ref x0 :: st) σ r := r_aload_n d137_88 rfl
theorem d137_89 : decode (mC 137) 89 = .ok (.getfield 16, 3) := by decide +kernel
theorem x137_89 {sc : aSc} {d : Nat} {r : aRes} {L : List Value} {st : List Value} {f : Nat → Nat → Int32} {g : Nat → Nat → Int64} {h1 h2 : Nat} {o : Nat} (h17 : 17 ≤ o) (hK : KK[o]? = some (.inl 7)) : Rn sc d 137 89 L (.ref o :: st) (cS f g h1 h2) r ↔ Rn sc d 137 92 L (.int (f o 2) :: st) (cS f g h1 h2) r := r_getI d137_89 (ci := 7) (k := 2) rfl (by decide) (fun _ => rfl) h17 hK
theorem d137_92 : decode (mC 137) 92 = .ok (.iconst 2, 1) := by decide +kernel
theorem x137_92 {sc : aSc} {d : Nat} {r : aRes} {L : List Value} {st : List Value} {σ : aS} : Rn sc d 137 92 L st σ r ↔ Rn sc d 137 93 L (.int 2 :: st) σ r := r_iconst d137_92 (by decide)
theorem d137_93 : decode (mC 137) 93 = .ok (.irem, 1) := by decide +kernel
theorem x137_93 {sc : aSc} {d : Nat} {r : aRes} {L : List Value} {st : List Value} {σ : aS} {x y : Int32} (hy : ¬ y = 0) : Rn sc d 137 93 L (.int y :: .int x :: st) σ r ↔ Rn sc d 137 94 L (.int (x % y) :: st) σ r := r_irem d137_93 hy
theorem d137_94 : decode (mC 137) 94 = .ok (.iconst 1, 1) := by decide +kernel
theorem x137_94 {sc : aSc} {d : Nat} {r : aRes} {L : List Value} {st : List Value} {σ : aS} : Rn sc d 137 94 L st σ r ↔ Rn sc d 137 95 L (.int 1 :: st) σ r := r_iconst d137_94 (by decide)
theorem d137_95 : decode (mC 137) 95 = .ok (.if_icmp .ne 16, 3) := by decide +kernel
theorem x137_95 {sc : aSc} {d : Nat} {r : aRes} {L : List Value} {st : List Value} {σ : aS} {x y : Int32} : Rn sc d 137 95 L (.int y :: .int x :: st) σ r ↔ if x = y then Rn sc d 137 98 L st σ r else Rn sc d 137 111 L st σ r := r_icmp_ne d137_95 rfl
theorem d137_98 : decode (mC 137) 98 = .ok (.iconst 2, 1) := by decide +kernel
theorem x137_98 {sc : aSc} {d : Nat} {r : aRes} {L : List Value} {st : List Value} {σ : aS} : Rn sc d 137 98 L st σ r ↔ Rn sc d 137 99 L (.int 2 :: st) σ r := r_iconst d137_98 (by decide)
theorem d137_99 : decode (mC 137) 99 = .ok (.iload_n 2, 1) := by decide +kernel
theorem x137_99 {sc : aSc} {d : Nat} {r : aRes} {a0 : Value} {a1 : Value} {x2 : Int32} {st : List Value} {σ : aS} : Rn sc d 137 99 [a0, a1, .int x2] st σ r ↔ Rn sc d 137 100 [a0, a1, .int x2] (.int x2 :: st) σ r := r_iload_n d137_99 rfl
theorem d137_100 : decode (mC 137) 100 = .ok (.aload_n 0, 1) := by decide +kernel
theorem x137_100 {sc : aSc} {d : Nat} {r : aRes} {x0 : Nat} {a1 : Value} {a2 : Value} {st : List Value} {σ : aS} : Rn sc d 137 100 [.ref x0, a1, a2] st σ r ↔ Rn sc d 137 101 [.ref x0, a1, a2] (.ref x0 :: st) σ r := r_aload_n d137_100 rfl
theorem d137_101 : decode (mC 137) 101 = .ok (.getfield 29, 3) := by decide +kernel
theorem x137_101 {sc : aSc} {d : Nat} {r : aRes} {L : List Value} {st : List Value} {f : Nat → Nat → Int32} {g : Nat → Nat → Int64} {h1 h2 : Nat} {o : Nat} (hK : KK[o]? = some (.inl 7)) (hR : (RR h1 h2 o 6).isSome = true) : Rn sc d 137 101 L (.ref o :: st) (cS f g h1 h2) r ↔ Rn sc d 137 104 L (.ref (rf h1 h2 o 6) :: st) (cS f g h1 h2) r := r_getR2 d137_101 (ci := 7) (k := 6) rfl (by decide) (fun _ => rfl) hK hR
theorem d137_104 : decode (mC 137) 104 = .ok (.iload_n 1, 1) := by decide +kernel
theorem x137_104 {sc : aSc} {d : Nat} {r : aRes} {a0 : Value} {x1 : Int32} {a2 : Value} {st : List Value} {σ : aS} : Rn sc d 137 104 [a0, .int x1, a2] st σ r ↔ Rn sc d 137 105 [a0, .int x1, a2] (.int x1 :: st) σ r := r_iload_n d137_104 rfl
theorem d137_105 : decode (mC 137) 105 = .ok (.iaload, 1) := by decide +kernel
theorem x137_105 {sc : aSc} {d : Nat} {r : aRes} {L : List Value} {st : List Value} {f : Nat → Nat → Int32} {g : Nat → Nat → Int64} {h1 h2 : Nat} {a : Nat} {i : Int32} (h17 : 17 ≤ a) (hA : isT9 .int a) (hi : inb i (aln a) = true) : Rn sc d 137 105 L (.int i :: .ref a :: st) (cS f g h1 h2) r ↔ Rn sc d 137 106 L (.int (f a i.toNatClampNeg) :: st) (cS f g h1 h2) r := r_iald d137_105 h17 hA hi
theorem d137_106 : decode (mC 137) 106 = .ok (.iadd, 1) := by decide +kernel
theorem x137_106 {sc : aSc} {d : Nat} {r : aRes} {L : List Value} {st : List Value} {σ : aS} {x y : Int32} : Rn sc d 137 106 L (.int y :: .int x :: st) σ r ↔ Rn sc d 137 107 L (.int (x + y) :: st) σ r := r_iadd d137_106
theorem d137_107 : decode (mC 137) 107 = .ok (.imul, 1) := by decide +kernel
theorem x137_107 {sc : aSc} {d : Nat} {r : aRes} {L : List Value} {st : List Value} {σ : aS} {x y : Int32} : Rn sc d 137 107 L (.int y :: .int x :: st) σ r ↔ Rn sc d 137 108 L (.int (x * y) :: st) σ r := r_imul d137_107
theorem d137_108 : decode (mC 137) 108 = .ok (.goto 11, 3) := by decide +kernel
theorem x137_108 {sc : aSc} {d : Nat} {r : aRes} {L : List Value} {st : List Value} {σ : aS} : Rn sc d 137 108 L st σ r ↔ Rn sc d 137 119 L st σ r := r_goto d137_108 rfl
theorem d137_111 : decode (mC 137) 111 = .ok (.iload_n 2, 1) := by decide +kernel
theorem x137_111 {sc : aSc} {d : Nat} {r : aRes} {a0 : Value} {a1 : Value} {x2 : Int32} {st : List Value} {σ : aS} : Rn sc d 137 111 [a0, a1, .int x2] st σ r ↔ Rn sc d 137 112 [a0, a1, .int x2] (.int x2 :: st) σ r := r_iload_n d137_111 rfl
theorem d137_112 : decode (mC 137) 112 = .ok (.aload_n 0, 1) := by decide +kernel
theorem x137_112 {sc : aSc} {d : Nat} {r : aRes} {x0 : Nat} {a1 : Value} {a2 : Value} {st : List Value} {σ : aS} : Rn sc d 137 112 [.ref x0, a1, a2] st σ r ↔ Rn sc d 137 113 [.ref x0, a1, a2] (.ref x0 :: st) σ r := r_aload_n d137_112 rfl
theorem d137_113 : decode (mC 137) 113 = .ok (.getfield 29, 3) := by decide +kernel
theorem x137_113 {sc : aSc} {d : Nat} {r : aRes} {L : List Value} {st : List Value} {f : Nat → Nat → Int32} {g : Nat → Nat → Int64} {h1 h2 : Nat} {o : Nat} (hK : KK[o]? = some (.inl 7)) (hR : (RR h1 h2 o 6).isSome = true) : Rn sc d 137 113 L (.ref o :: st) (cS f g h1 h2) r ↔ Rn sc d 137 116 L (.ref (rf h1 h2 o 6) :: st) (cS f g h1 h2) r := r_getR2 d137_113 (ci := 7) (k := 6) rfl (by decide) (fun _ => rfl) hK hR
theorem d137_116 : decode (mC 137) 116 = .ok (.iload_n 1, 1) := by decide +kernel
theorem x137_116 {sc : aSc} {d : Nat} {r : aRes} {a0 : Value} {x1 : Int32} {a2 : Value} {st : List Value} {σ : aS} : Rn sc d 137 116 [a0, .int x1, a2] st σ r ↔ Rn sc d 137 117 [a0, .int x1, a2] (.int x1 :: st) σ r := r_iload_n d137_116 rfl
theorem d137_117 : decode (mC 137) 117 = .ok (.iaload, 1) := by decide +kernel
theorem x137_117 {sc : aSc} {d : Nat} {r : aRes} {L : List Value} {st : List Value} {f : Nat → Nat → Int32} {g : Nat → Nat → Int64} {h1 h2 : Nat} {a : Nat} {i : Int32} (h17 : 17 ≤ a) (hA : isT9 .int a) (hi : inb i (aln a) = true) : Rn sc d 137 117 L (.int i :: .ref a :: st) (cS f g h1 h2) r ↔ Rn sc d 137 118 L (.int (f a i.toNatClampNeg) :: st) (cS f g h1 h2) r := r_iald d137_117 h17 hA hi
theorem d137_118 : decode (mC 137) 118 = .ok (.iadd, 1) := by decide +kernel
theorem x137_118 {sc : aSc} {d : Nat} {r : aRes} {L : List Value} {st : List Value} {σ : aS} {x y : Int32} : Rn sc d 137 118 L (.int y :: .int x :: st) σ r ↔ Rn sc d 137 119 L (.int (x + y) :: st) σ r := r_iadd d137_118
theorem d137_119 : decode (mC 137) 119 = .ok (.ireturn, 1) := by decide +kernel
theorem x137_119 {sc : aSc} {d : Nat} {r : aRes} {L : List Value} {σ : aS} {x : Int32} : Rn sc d 137 119 L [.int x] σ r ↔ r = (σ, some (.int x)) := r_iret d137_119 rfl rfl
theorem d137_120 : decode (mC 137) 120 = .ok (.aload_n 0, 1) := by decide +kernel
theorem x137_120 {sc : aSc} {d : Nat} {r : aRes} {x0 : Nat} {a1 : Value} {a2 : Value} {st : List Value} {σ : aS} : Rn sc d 137 120 [.ref x0, a1, a2] st σ r ↔ Rn sc d 137 121 [.ref x0, a1, a2] (.ref x0 :: st) σ r := r_aload_n d137_120 rfl
theorem d137_121 : decode (mC 137) 121 = .ok (.getfield 16, 3) := by decide +kernel
theorem x137_121 {sc : aSc} {d : Nat} {r : aRes} {L : List Value} {st : List Value} {f : Nat → Nat → Int32} {g : Nat → Nat → Int64} {h1 h2 : Nat} {o : Nat} (h17 : 17 ≤ o) (hK : KK[o]? = some (.inl 7)) : Rn sc d 137 121 L (.ref o :: st) (cS f g h1 h2) r ↔ Rn sc d 137 124 L (.int (f o 2) :: st) (cS f g h1 h2) r := r_getI d137_121 (ci := 7) (k := 2) rfl (by decide) (fun _ => rfl) h17 hK
theorem d137_124 : decode (mC 137) 124 = .ok (.iconst 3, 1) := by decide +kernel
theorem x137_124 {sc : aSc} {d : Nat} {r : aRes} {L : List Value} {st : List Value} {σ : aS} : Rn sc d 137 124 L st σ r ↔ Rn sc d 137 125 L (.int 3 :: st) σ r := r_iconst d137_124 (by decide)
theorem d137_125 : decode (mC 137) 125 = .ok (.irem, 1) := by decide +kernel
theorem x137_125 {sc : aSc} {d : Nat} {r : aRes} {L : List Value} {st : List Value} {σ : aS} {x y : Int32} (hy : ¬ y = 0) : Rn sc d 137 125 L (.int y :: .int x :: st) σ r ↔ Rn sc d 137 126 L (.int (x % y) :: st) σ r := r_irem d137_125 hy
theorem d137_126 : decode (mC 137) 126 = .ok (.ifCond .ne 12, 3) := by decide +kernel
theorem x137_126 {sc : aSc} {d : Nat} {r : aRes} {L : List Value} {st : List Value} {σ : aS} {x : Int32} : Rn sc d 137 126 L (.int x :: st) σ r ↔ if x = 0 then Rn sc d 137 129 L st σ r else Rn sc d 137 138 L st σ r := r_if_ne d137_126 rfl
theorem d137_129 : decode (mC 137) 129 = .ok (.aload_n 0, 1) := by decide +kernel
theorem x137_129 {sc : aSc} {d : Nat} {r : aRes} {x0 : Nat} {a1 : Value} {a2 : Value} {st : List Value} {σ : aS} : Rn sc d 137 129 [.ref x0, a1, a2] st σ r ↔ Rn sc d 137 130 [.ref x0, a1, a2] (.ref x0 :: st) σ r := r_aload_n d137_129 rfl
theorem d137_130 : decode (mC 137) 130 = .ok (.getfield 29, 3) := by decide +kernel
theorem x137_130 {sc : aSc} {d : Nat} {r : aRes} {L : List Value} {st : List Value} {f : Nat → Nat → Int32} {g : Nat → Nat → Int64} {h1 h2 : Nat} {o : Nat} (hK : KK[o]? = some (.inl 7)) (hR : (RR h1 h2 o 6).isSome = true) : Rn sc d 137 130 L (.ref o :: st) (cS f g h1 h2) r ↔ Rn sc d 137 133 L (.ref (rf h1 h2 o 6) :: st) (cS f g h1 h2) r := r_getR2 d137_130 (ci := 7) (k := 6) rfl (by decide) (fun _ => rfl) hK hR
theorem d137_133 : decode (mC 137) 133 = .ok (.iload_n 1, 1) := by decide +kernel
theorem x137_133 {sc : aSc} {d : Nat} {r : aRes} {a0 : Value} {x1 : Int32} {a2 : Value} {st : List Value} {σ : aS} : Rn sc d 137 133 [a0, .int x1, a2] st σ r ↔ Rn sc d 137 134 [a0, .int x1, a2] (.int x1 :: st) σ r := r_iload_n d137_133 rfl
theorem d137_134 : decode (mC 137) 134 = .ok (.iaload, 1) := by decide +kernel
theorem x137_134 {sc : aSc} {d : Nat} {r : aRes} {L : List Value} {st : List Value} {f : Nat → Nat → Int32} {g : Nat → Nat → Int64} {h1 h2 : Nat} {a : Nat} {i : Int32} (h17 : 17 ≤ a) (hA : isT9 .int a) (hi : inb i (aln a) = true) : Rn sc d 137 134 L (.int i :: .ref a :: st) (cS f g h1 h2) r ↔ Rn sc d 137 135 L (.int (f a i.toNatClampNeg) :: st) (cS f g h1 h2) r := r_iald d137_134 h17 hA hi
theorem d137_135 : decode (mC 137) 135 = .ok (.goto 6, 3) := by decide +kernel
theorem x137_135 {sc : aSc} {d : Nat} {r : aRes} {L : List Value} {st : List Value} {σ : aS} : Rn sc d 137 135 L st σ r ↔ Rn sc d 137 141 L st σ r := r_goto d137_135 rfl
theorem d137_138 : decode (mC 137) 138 = .ok (.iload_n 2, 1) := by decide +kernel
theorem x137_138 {sc : aSc} {d : Nat} {r : aRes} {a0 : Value} {a1 : Value} {x2 : Int32} {st : List Value} {σ : aS} : Rn sc d 137 138 [a0, a1, .int x2] st σ r ↔ Rn sc d 137 139 [a0, a1, .int x2] (.int x2 :: st) σ r := r_iload_n d137_138 rfl
theorem d137_139 : decode (mC 137) 139 = .ok (.iconst 2, 1) := by decide +kernel
theorem x137_139 {sc : aSc} {d : Nat} {r : aRes} {L : List Value} {st : List Value} {σ : aS} : Rn sc d 137 139 L st σ r ↔ Rn sc d 137 140 L (.int 2 :: st) σ r := r_iconst d137_139 (by decide)
theorem d137_140 : decode (mC 137) 140 = .ok (.idiv, 1) := by decide +kernel
theorem x137_140 {sc : aSc} {d : Nat} {r : aRes} {L : List Value} {st : List Value} {σ : aS} {x y : Int32} (hy : ¬ y = 0) : Rn sc d 137 140 L (.int y :: .int x :: st) σ r ↔ Rn sc d 137 141 L (.int (x / y) :: st) σ r := r_idiv d137_140 hy
theorem d137_141 : decode (mC 137) 141 = .ok (.ireturn, 1) := by decide +kernel
theorem x137_141 {sc : aSc} {d : Nat} {r : aRes} {L : List Value} {σ : aS} {x : Int32} : Rn sc d 137 141 L [.int x] σ r ↔ r = (σ, some (.int x)) := r_iret d137_141 rfl rfl
theorem d137_142 : decode (mC 137) 142 = .ok (.iload_n 2, 1) := by decide +kernel
theorem x137_142 {sc : aSc} {d : Nat} {r : aRes} {a0 : Value} {a1 : Value} {x2 : Int32} {st : List Value} {σ : aS} : Rn sc d 137 142 [a0, a1, .int x2] st σ r ↔ Rn sc d 137 143 [a0, a1, .int x2] (.int x2 :: st) σ r := r_iload_n d137_142 rfl
theorem d137_143 : decode (mC 137) 143 = .ok (.iconst 2, 1) := by decide +kernel
theorem x137_143 {sc : aSc} {d : Nat} {r : aRes} {L : List Value} {st : List Value} {σ : aS} : Rn sc d 137 143 L st σ r ↔ Rn sc d 137 144 L (.int 2 :: st) σ r := r_iconst d137_143 (by decide)
theorem d137_144 : decode (mC 137) 144 = .ok (.aload_n 0, 1) := by decide +kernel
theorem x137_144 {sc : aSc} {d : Nat} {r : aRes} {x0 : Nat} {a1 : Value} {a2 : Value} {st : List Value} {σ : aS} : Rn sc d 137 144 [.ref x0, a1, a2] st σ r ↔ Rn sc d 137 145 [.ref x0, a1, a2] (.ref x0 :: st) σ r := r_aload_n d137_144 rfl
theorem d137_145 : decode (mC 137) 145 = .ok (.getfield 29, 3) := by decide +kernel
theorem x137_145 {sc : aSc} {d : Nat} {r : aRes} {L : List Value} {st : List Value} {f : Nat → Nat → Int32} {g : Nat → Nat → Int64} {h1 h2 : Nat} {o : Nat} (hK : KK[o]? = some (.inl 7)) (hR : (RR h1 h2 o 6).isSome = true) : Rn sc d 137 145 L (.ref o :: st) (cS f g h1 h2) r ↔ Rn sc d 137 148 L (.ref (rf h1 h2 o 6) :: st) (cS f g h1 h2) r := r_getR2 d137_145 (ci := 7) (k := 6) rfl (by decide) (fun _ => rfl) hK hR
theorem d137_148 : decode (mC 137) 148 = .ok (.iload_n 1, 1) := by decide +kernel
theorem x137_148 {sc : aSc} {d : Nat} {r : aRes} {a0 : Value} {x1 : Int32} {a2 : Value} {st : List Value} {σ : aS} : Rn sc d 137 148 [a0, .int x1, a2] st σ r ↔ Rn sc d 137 149 [a0, .int x1, a2] (.int x1 :: st) σ r := r_iload_n d137_148 rfl
theorem d137_149 : decode (mC 137) 149 = .ok (.iaload, 1) := by decide +kernel
theorem x137_149 {sc : aSc} {d : Nat} {r : aRes} {L : List Value} {st : List Value} {f : Nat → Nat → Int32} {g : Nat → Nat → Int64} {h1 h2 : Nat} {a : Nat} {i : Int32} (h17 : 17 ≤ a) (hA : isT9 .int a) (hi : inb i (aln a) = true) : Rn sc d 137 149 L (.int i :: .ref a :: st) (cS f g h1 h2) r ↔ Rn sc d 137 150 L (.int (f a i.toNatClampNeg) :: st) (cS f g h1 h2) r := r_iald d137_149 h17 hA hi
theorem d137_150 : decode (mC 137) 150 = .ok (.imul, 1) := by decide +kernel
theorem x137_150 {sc : aSc} {d : Nat} {r : aRes} {L : List Value} {st : List Value} {σ : aS} {x y : Int32} : Rn sc d 137 150 L (.int y :: .int x :: st) σ r ↔ Rn sc d 137 151 L (.int (x * y) :: st) σ r := r_imul d137_150
theorem d137_151 : decode (mC 137) 151 = .ok (.isub, 1) := by decide +kernel
theorem x137_151 {sc : aSc} {d : Nat} {r : aRes} {L : List Value} {st : List Value} {σ : aS} {x y : Int32} : Rn sc d 137 151 L (.int y :: .int x :: st) σ r ↔ Rn sc d 137 152 L (.int (x - y) :: st) σ r := r_isub d137_151
theorem d137_152 : decode (mC 137) 152 = .ok (.aload_n 0, 1) := by decide +kernel
theorem x137_152 {sc : aSc} {d : Nat} {r : aRes} {x0 : Nat} {a1 : Value} {a2 : Value} {st : List Value} {σ : aS} : Rn sc d 137 152 [.ref x0, a1, a2] st σ r ↔ Rn sc d 137 153 [.ref x0, a1, a2] (.ref x0 :: st) σ r := r_aload_n d137_152 rfl
theorem d137_153 : decode (mC 137) 153 = .ok (.getfield 41, 3) := by decide +kernel
theorem x137_153 {sc : aSc} {d : Nat} {r : aRes} {L : List Value} {st : List Value} {f : Nat → Nat → Int32} {g : Nat → Nat → Int64} {h1 h2 : Nat} {o : Nat} (hK : KK[o]? = some (.inl 7)) (hR : (RR h1 h2 o 10).isSome = true) : Rn sc d 137 153 L (.ref o :: st) (cS f g h1 h2) r ↔ Rn sc d 137 156 L (.ref (rf h1 h2 o 10) :: st) (cS f g h1 h2) r := r_getR2 d137_153 (ci := 7) (k := 10) rfl (by decide) (fun _ => rfl) hK hR
theorem d137_156 : decode (mC 137) 156 = .ok (.iconst 4, 1) := by decide +kernel
theorem x137_156 {sc : aSc} {d : Nat} {r : aRes} {L : List Value} {st : List Value} {σ : aS} : Rn sc d 137 156 L st σ r ↔ Rn sc d 137 157 L (.int 4 :: st) σ r := r_iconst d137_156 (by decide)
theorem d137_157 : decode (mC 137) 157 = .ok (.iload_n 1, 1) := by decide +kernel
theorem x137_157 {sc : aSc} {d : Nat} {r : aRes} {a0 : Value} {x1 : Int32} {a2 : Value} {st : List Value} {σ : aS} : Rn sc d 137 157 [a0, .int x1, a2] st σ r ↔ Rn sc d 137 158 [a0, .int x1, a2] (.int x1 :: st) σ r := r_iload_n d137_157 rfl
theorem d137_158 : decode (mC 137) 158 = .ok (.imul, 1) := by decide +kernel
theorem x137_158 {sc : aSc} {d : Nat} {r : aRes} {L : List Value} {st : List Value} {σ : aS} {x y : Int32} : Rn sc d 137 158 L (.int y :: .int x :: st) σ r ↔ Rn sc d 137 159 L (.int (x * y) :: st) σ r := r_imul d137_158
theorem d137_159 : decode (mC 137) 159 = .ok (.aload_n 0, 1) := by decide +kernel
theorem x137_159 {sc : aSc} {d : Nat} {r : aRes} {x0 : Nat} {a1 : Value} {a2 : Value} {st : List Value} {σ : aS} : Rn sc d 137 159 [.ref x0, a1, a2] st σ r ↔ Rn sc d 137 160 [.ref x0, a1, a2] (.ref x0 :: st) σ r := r_aload_n d137_159 rfl
theorem d137_160 : decode (mC 137) 160 = .ok (.getfield 16, 3) := by decide +kernel
theorem x137_160 {sc : aSc} {d : Nat} {r : aRes} {L : List Value} {st : List Value} {f : Nat → Nat → Int32} {g : Nat → Nat → Int64} {h1 h2 : Nat} {o : Nat} (h17 : 17 ≤ o) (hK : KK[o]? = some (.inl 7)) : Rn sc d 137 160 L (.ref o :: st) (cS f g h1 h2) r ↔ Rn sc d 137 163 L (.int (f o 2) :: st) (cS f g h1 h2) r := r_getI d137_160 (ci := 7) (k := 2) rfl (by decide) (fun _ => rfl) h17 hK
theorem d137_163 : decode (mC 137) 163 = .ok (.iconst 4, 1) := by decide +kernel
theorem x137_163 {sc : aSc} {d : Nat} {r : aRes} {L : List Value} {st : List Value} {σ : aS} : Rn sc d 137 163 L st σ r ↔ Rn sc d 137 164 L (.int 4 :: st) σ r := r_iconst d137_163 (by decide)
theorem d137_164 : decode (mC 137) 164 = .ok (.irem, 1) := by decide +kernel
theorem x137_164 {sc : aSc} {d : Nat} {r : aRes} {L : List Value} {st : List Value} {σ : aS} {x y : Int32} (hy : ¬ y = 0) : Rn sc d 137 164 L (.int y :: .int x :: st) σ r ↔ Rn sc d 137 165 L (.int (x % y) :: st) σ r := r_irem d137_164 hy
theorem d137_165 : decode (mC 137) 165 = .ok (.iadd, 1) := by decide +kernel
theorem x137_165 {sc : aSc} {d : Nat} {r : aRes} {L : List Value} {st : List Value} {σ : aS} {x y : Int32} : Rn sc d 137 165 L (.int y :: .int x :: st) σ r ↔ Rn sc d 137 166 L (.int (x + y) :: st) σ r := r_iadd d137_165
theorem d137_166 : decode (mC 137) 166 = .ok (.iaload, 1) := by decide +kernel
theorem x137_166 {sc : aSc} {d : Nat} {r : aRes} {L : List Value} {st : List Value} {f : Nat → Nat → Int32} {g : Nat → Nat → Int64} {h1 h2 : Nat} {a : Nat} {i : Int32} (h17 : 17 ≤ a) (hA : isT9 .int a) (hi : inb i (aln a) = true) : Rn sc d 137 166 L (.int i :: .ref a :: st) (cS f g h1 h2) r ↔ Rn sc d 137 167 L (.int (f a i.toNatClampNeg) :: st) (cS f g h1 h2) r := r_iald d137_166 h17 hA hi
theorem d137_167 : decode (mC 137) 167 = .ok (.iadd, 1) := by decide +kernel
theorem x137_167 {sc : aSc} {d : Nat} {r : aRes} {L : List Value} {st : List Value} {σ : aS} {x y : Int32} : Rn sc d 137 167 L (.int y :: .int x :: st) σ r ↔ Rn sc d 137 168 L (.int (x + y) :: st) σ r := r_iadd d137_167
theorem d137_168 : decode (mC 137) 168 = .ok (.ireturn, 1) := by decide +kernel
theorem x137_168 {sc : aSc} {d : Nat} {r : aRes} {L : List Value} {σ : aS} {x : Int32} : Rn sc d 137 168 L [.int x] σ r ↔ r = (σ, some (.int x)) := r_iret d137_168 rfl rfl
theorem d137_169 : decode (mC 137) 169 = .ok (.iload_n 2, 1) := by decide +kernel
theorem x137_169 {sc : aSc} {d : Nat} {r : aRes} {a0 : Value} {a1 : Value} {x2 : Int32} {st : List Value} {σ : aS} : Rn sc d 137 169 [a0, a1, .int x2] st σ r ↔ Rn sc d 137 170 [a0, a1, .int x2] (.int x2 :: st) σ r := r_iload_n d137_169 rfl
theorem d137_170 : decode (mC 137) 170 = .ok (.ireturn, 1) := by decide +kernel
theorem x137_170 {sc : aSc} {d : Nat} {r : aRes} {L : List Value} {σ : aS} {x : Int32} : Rn sc d 137 170 L [.int x] σ r ↔ r = (σ, some (.int x)) := r_iret d137_170 rfl rfl
theorem d138_0 : decode (mC 138) 0 = .ok (.aload_n 0, 1) := by decide +kernel
theorem x138_0 {sc : aSc} {d : Nat} {r : aRes} {x0 : Nat} {a1 : Value} {a2 : Value} {st : List Value} {σ : aS} : Rn sc d 138 0 [.ref x0, a1, a2] st σ r ↔ Rn sc d 138 1 [.ref x0, a1, a2] (.ref x0 :: st) σ r := r_aload_n d138_0 rfl
theorem d138_1 : decode (mC 138) 1 = .ok (.iload_n 1, 1) := by decide +kernel
theorem x138_1 {sc : aSc} {d : Nat} {r : aRes} {a0 : Value} {x1 : Int32} {a2 : Value} {st : List Value} {σ : aS} : Rn sc d 138 1 [a0, .int x1, a2] st σ r ↔ Rn sc d 138 2 [a0, .int x1, a2] (.int x1 :: st) σ r := r_iload_n d138_1 rfl
theorem d138_2 : decode (mC 138) 2 = .ok (.invokevirtual 304, 3) := by decide +kernel
theorem x138_2 {sc : aSc} {d : Nat} {r : aRes} {L : List Value} {f : Nat → Nat → Int32} {g : Nat → Nat → Int64} {h1 h2 : Nat} {y0 : Int32}  {o : Nat} (hK : KK[o]? = some (.inl 7)) : Rn sc d 138 2 L [.int y0, .ref o] (cS f g h1 h2) r ↔ ∃ (σ3 : aS) (v : Option Value), Cl sc d 137 [.ref o, .int y0] (cS f g h1 h2) (σ3, v) ∧ Rn sc d 138 5 L (v.toList ++ []) σ3 r := r_callV (vs := [.int y0]) d138_2 (j := 137) rfl ⟨rfl, by decide, rfl, rfl⟩ (Nat.le_of_ble_eq_true rfl) hK
theorem d138_5 : decode (mC 138) 5 = .ok (.istore_n 2, 1) := by decide +kernel
theorem x138_5 {sc : aSc} {d : Nat} {r : aRes} {a0 : Value} {x1 : Int32} {a2 : Value} {st : List Value} {σ : aS} {y : Int32} : Rn sc d 138 5 [a0, .int x1, a2] (.int y :: st) σ r ↔ Rn sc d 138 6 [a0, .int x1, .int y] st σ r := r_istore_n d138_5 (Nat.le_of_ble_eq_true rfl) rfl
theorem d138_6 : decode (mC 138) 6 = .ok (.iload_n 2, 1) := by decide +kernel
theorem x138_6 {sc : aSc} {d : Nat} {r : aRes} {a0 : Value} {a1 : Value} {x2 : Int32} {st : List Value} {σ : aS} : Rn sc d 138 6 [a0, a1, .int x2] st σ r ↔ Rn sc d 138 7 [a0, a1, .int x2] (.int x2 :: st) σ r := r_iload_n d138_6 rfl
theorem d138_7 : decode (mC 138) 7 = .ok (.ifCond .ge 7, 3) := by decide +kernel
theorem x138_7 {sc : aSc} {d : Nat} {r : aRes} {L : List Value} {st : List Value} {σ : aS} {x : Int32} : Rn sc d 138 7 L (.int x :: st) σ r ↔ if x < 0 then Rn sc d 138 10 L st σ r else Rn sc d 138 14 L st σ r := r_if_ge d138_7 rfl
theorem d138_10 : decode (mC 138) 10 = .ok (.iconst 0, 1) := by decide +kernel
theorem x138_10 {sc : aSc} {d : Nat} {r : aRes} {L : List Value} {st : List Value} {σ : aS} : Rn sc d 138 10 L st σ r ↔ Rn sc d 138 11 L (.int 0 :: st) σ r := r_iconst d138_10 (by decide)
theorem d138_11 : decode (mC 138) 11 = .ok (.goto 4, 3) := by decide +kernel
theorem x138_11 {sc : aSc} {d : Nat} {r : aRes} {L : List Value} {st : List Value} {σ : aS} : Rn sc d 138 11 L st σ r ↔ Rn sc d 138 15 L st σ r := r_goto d138_11 rfl
theorem d138_14 : decode (mC 138) 14 = .ok (.iload_n 2, 1) := by decide +kernel
theorem x138_14 {sc : aSc} {d : Nat} {r : aRes} {a0 : Value} {a1 : Value} {x2 : Int32} {st : List Value} {σ : aS} : Rn sc d 138 14 [a0, a1, .int x2] st σ r ↔ Rn sc d 138 15 [a0, a1, .int x2] (.int x2 :: st) σ r := r_iload_n d138_14 rfl
theorem d138_15 : decode (mC 138) 15 = .ok (.ireturn, 1) := by decide +kernel
theorem x138_15 {sc : aSc} {d : Nat} {r : aRes} {L : List Value} {σ : aS} {x : Int32} : Rn sc d 138 15 L [.int x] σ r ↔ r = (σ, some (.int x)) := r_iret d138_15 rfl rfl
theorem d139_0 : decode (mC 139) 0 = .ok (.aload_n 0, 1) := by decide +kernel
theorem x139_0 {sc : aSc} {d : Nat} {r : aRes} {x0 : Nat} {a1 : Value} {a2 : Value} {st : List Value} {σ : aS} : Rn sc d 139 0 [.ref x0, a1, a2] st σ r ↔ Rn sc d 139 1 [.ref x0, a1, a2] (.ref x0 :: st) σ r := r_aload_n d139_0 rfl
theorem d139_1 : decode (mC 139) 1 = .ok (.getfield 13, 3) := by decide +kernel
theorem x139_1 {sc : aSc} {d : Nat} {r : aRes} {L : List Value} {st : List Value} {f : Nat → Nat → Int32} {g : Nat → Nat → Int64} {h1 h2 : Nat} {o : Nat} (h17 : 17 ≤ o) (hK : KK[o]? = some (.inl 7)) : Rn sc d 139 1 L (.ref o :: st) (cS f g h1 h2) r ↔ Rn sc d 139 4 L (.int (f o 1) :: st) (cS f g h1 h2) r := r_getI d139_1 (ci := 7) (k := 1) rfl (by decide) (fun _ => rfl) h17 hK
theorem d139_4 : decode (mC 139) 4 = .ok (.iload_n 1, 1) := by decide +kernel
theorem x139_4 {sc : aSc} {d : Nat} {r : aRes} {a0 : Value} {x1 : Int32} {a2 : Value} {st : List Value} {σ : aS} : Rn sc d 139 4 [a0, .int x1, a2] st σ r ↔ Rn sc d 139 5 [a0, .int x1, a2] (.int x1 :: st) σ r := r_iload_n d139_4 rfl
theorem d139_5 : decode (mC 139) 5 = .ok (.ishr, 1) := by decide +kernel
theorem x139_5 {sc : aSc} {d : Nat} {r : aRes} {L : List Value} {st : List Value} {σ : aS} {x y : Int32} : Rn sc d 139 5 L (.int y :: .int x :: st) σ r ↔ Rn sc d 139 6 L (.int (x >>> (y &&& 31)) :: st) σ r := r_ishr d139_5
theorem d139_6 : decode (mC 139) 6 = .ok (.iconst 1, 1) := by decide +kernel
theorem x139_6 {sc : aSc} {d : Nat} {r : aRes} {L : List Value} {st : List Value} {σ : aS} : Rn sc d 139 6 L st σ r ↔ Rn sc d 139 7 L (.int 1 :: st) σ r := r_iconst d139_6 (by decide)
theorem d139_7 : decode (mC 139) 7 = .ok (.iand, 1) := by decide +kernel
theorem x139_7 {sc : aSc} {d : Nat} {r : aRes} {L : List Value} {st : List Value} {σ : aS} {x y : Int32} : Rn sc d 139 7 L (.int y :: .int x :: st) σ r ↔ Rn sc d 139 8 L (.int (x &&& y) :: st) σ r := r_iand d139_7
theorem d139_8 : decode (mC 139) 8 = .ok (.aload_n 0, 1) := by decide +kernel
theorem x139_8 {sc : aSc} {d : Nat} {r : aRes} {x0 : Nat} {a1 : Value} {a2 : Value} {st : List Value} {σ : aS} : Rn sc d 139 8 [.ref x0, a1, a2] st σ r ↔ Rn sc d 139 9 [.ref x0, a1, a2] (.ref x0 :: st) σ r := r_aload_n d139_8 rfl
theorem d139_9 : decode (mC 139) 9 = .ok (.getfield 13, 3) := by decide +kernel
theorem x139_9 {sc : aSc} {d : Nat} {r : aRes} {L : List Value} {st : List Value} {f : Nat → Nat → Int32} {g : Nat → Nat → Int64} {h1 h2 : Nat} {o : Nat} (h17 : 17 ≤ o) (hK : KK[o]? = some (.inl 7)) : Rn sc d 139 9 L (.ref o :: st) (cS f g h1 h2) r ↔ Rn sc d 139 12 L (.int (f o 1) :: st) (cS f g h1 h2) r := r_getI d139_9 (ci := 7) (k := 1) rfl (by decide) (fun _ => rfl) h17 hK
theorem d139_12 : decode (mC 139) 12 = .ok (.iload_n 2, 1) := by decide +kernel
theorem x139_12 {sc : aSc} {d : Nat} {r : aRes} {a0 : Value} {a1 : Value} {x2 : Int32} {st : List Value} {σ : aS} : Rn sc d 139 12 [a0, a1, .int x2] st σ r ↔ Rn sc d 139 13 [a0, a1, .int x2] (.int x2 :: st) σ r := r_iload_n d139_12 rfl
theorem d139_13 : decode (mC 139) 13 = .ok (.ishr, 1) := by decide +kernel
theorem x139_13 {sc : aSc} {d : Nat} {r : aRes} {L : List Value} {st : List Value} {σ : aS} {x y : Int32} : Rn sc d 139 13 L (.int y :: .int x :: st) σ r ↔ Rn sc d 139 14 L (.int (x >>> (y &&& 31)) :: st) σ r := r_ishr d139_13
theorem d139_14 : decode (mC 139) 14 = .ok (.iconst 1, 1) := by decide +kernel
theorem x139_14 {sc : aSc} {d : Nat} {r : aRes} {L : List Value} {st : List Value} {σ : aS} : Rn sc d 139 14 L st σ r ↔ Rn sc d 139 15 L (.int 1 :: st) σ r := r_iconst d139_14 (by decide)
theorem d139_15 : decode (mC 139) 15 = .ok (.iand, 1) := by decide +kernel
theorem x139_15 {sc : aSc} {d : Nat} {r : aRes} {L : List Value} {st : List Value} {σ : aS} {x y : Int32} : Rn sc d 139 15 L (.int y :: .int x :: st) σ r ↔ Rn sc d 139 16 L (.int (x &&& y) :: st) σ r := r_iand d139_15
theorem d139_16 : decode (mC 139) 16 = .ok (.if_icmp .eq 7, 3) := by decide +kernel
theorem x139_16 {sc : aSc} {d : Nat} {r : aRes} {L : List Value} {st : List Value} {σ : aS} {x y : Int32} : Rn sc d 139 16 L (.int y :: .int x :: st) σ r ↔ if x = y then Rn sc d 139 23 L st σ r else Rn sc d 139 19 L st σ r := r_icmp_eq d139_16 rfl
theorem d139_19 : decode (mC 139) 19 = .ok (.iconst 1, 1) := by decide +kernel
theorem x139_19 {sc : aSc} {d : Nat} {r : aRes} {L : List Value} {st : List Value} {σ : aS} : Rn sc d 139 19 L st σ r ↔ Rn sc d 139 20 L (.int 1 :: st) σ r := r_iconst d139_19 (by decide)
theorem d139_20 : decode (mC 139) 20 = .ok (.goto 4, 3) := by decide +kernel
theorem x139_20 {sc : aSc} {d : Nat} {r : aRes} {L : List Value} {st : List Value} {σ : aS} : Rn sc d 139 20 L st σ r ↔ Rn sc d 139 24 L st σ r := r_goto d139_20 rfl
theorem d139_23 : decode (mC 139) 23 = .ok (.iconst 0, 1) := by decide +kernel
theorem x139_23 {sc : aSc} {d : Nat} {r : aRes} {L : List Value} {st : List Value} {σ : aS} : Rn sc d 139 23 L st σ r ↔ Rn sc d 139 24 L (.int 0 :: st) σ r := r_iconst d139_23 (by decide)
theorem d139_24 : decode (mC 139) 24 = .ok (.ireturn, 1) := by decide +kernel
theorem x139_24 {sc : aSc} {d : Nat} {r : aRes} {L : List Value} {σ : aS} {x : Int32} (hn : x &&& 1 = x) : Rn sc d 139 24 L [.int x] σ r ↔ r = (σ, some (.int x)) := r_iret d139_24 rfl (congrArg Value.int hn)
theorem d140_0 : decode (mC 140) 0 = .ok (.iload_n 1, 1) := by decide +kernel
theorem x140_0 {sc : aSc} {d : Nat} {r : aRes} {a0 : Value} {x1 : Int32} {a2 : Value} {a3 : Value} {st : List Value} {σ : aS} : Rn sc d 140 0 [a0, .int x1, a2, a3] st σ r ↔ Rn sc d 140 1 [a0, .int x1, a2, a3] (.int x1 :: st) σ r := r_iload_n d140_0 rfl
theorem d140_1 : decode (mC 140) 1 = .ok (.iload_n 2, 1) := by decide +kernel
theorem x140_1 {sc : aSc} {d : Nat} {r : aRes} {a0 : Value} {a1 : Value} {x2 : Int32} {a3 : Value} {st : List Value} {σ : aS} : Rn sc d 140 1 [a0, a1, .int x2, a3] st σ r ↔ Rn sc d 140 2 [a0, a1, .int x2, a3] (.int x2 :: st) σ r := r_iload_n d140_1 rfl
theorem d140_2 : decode (mC 140) 2 = .ok (.if_icmp .ge 9, 3) := by decide +kernel
theorem x140_2 {sc : aSc} {d : Nat} {r : aRes} {L : List Value} {st : List Value} {σ : aS} {x y : Int32} : Rn sc d 140 2 L (.int y :: .int x :: st) σ r ↔ if x < y then Rn sc d 140 5 L st σ r else Rn sc d 140 11 L st σ r := r_icmp_ge d140_2 rfl
theorem d140_5 : decode (mC 140) 5 = .ok (.iload_n 2, 1) := by decide +kernel
theorem x140_5 {sc : aSc} {d : Nat} {r : aRes} {a0 : Value} {a1 : Value} {x2 : Int32} {a3 : Value} {st : List Value} {σ : aS} : Rn sc d 140 5 [a0, a1, .int x2, a3] st σ r ↔ Rn sc d 140 6 [a0, a1, .int x2, a3] (.int x2 :: st) σ r := r_iload_n d140_5 rfl
theorem d140_6 : decode (mC 140) 6 = .ok (.iload_n 1, 1) := by decide +kernel
theorem x140_6 {sc : aSc} {d : Nat} {r : aRes} {a0 : Value} {x1 : Int32} {a2 : Value} {a3 : Value} {st : List Value} {σ : aS} : Rn sc d 140 6 [a0, .int x1, a2, a3] st σ r ↔ Rn sc d 140 7 [a0, .int x1, a2, a3] (.int x1 :: st) σ r := r_iload_n d140_6 rfl
theorem d140_7 : decode (mC 140) 7 = .ok (.isub, 1) := by decide +kernel
theorem x140_7 {sc : aSc} {d : Nat} {r : aRes} {L : List Value} {st : List Value} {σ : aS} {x y : Int32} : Rn sc d 140 7 L (.int y :: .int x :: st) σ r ↔ Rn sc d 140 8 L (.int (x - y) :: st) σ r := r_isub d140_7
theorem d140_8 : decode (mC 140) 8 = .ok (.goto 6, 3) := by decide +kernel
theorem x140_8 {sc : aSc} {d : Nat} {r : aRes} {L : List Value} {st : List Value} {σ : aS} : Rn sc d 140 8 L st σ r ↔ Rn sc d 140 14 L st σ r := r_goto d140_8 rfl
theorem d140_11 : decode (mC 140) 11 = .ok (.iload_n 1, 1) := by decide +kernel
theorem x140_11 {sc : aSc} {d : Nat} {r : aRes} {a0 : Value} {x1 : Int32} {a2 : Value} {a3 : Value} {st : List Value} {σ : aS} : Rn sc d 140 11 [a0, .int x1, a2, a3] st σ r ↔ Rn sc d 140 12 [a0, .int x1, a2, a3] (.int x1 :: st) σ r := r_iload_n d140_11 rfl
theorem d140_12 : decode (mC 140) 12 = .ok (.iload_n 2, 1) := by decide +kernel
theorem x140_12 {sc : aSc} {d : Nat} {r : aRes} {a0 : Value} {a1 : Value} {x2 : Int32} {a3 : Value} {st : List Value} {σ : aS} : Rn sc d 140 12 [a0, a1, .int x2, a3] st σ r ↔ Rn sc d 140 13 [a0, a1, .int x2, a3] (.int x2 :: st) σ r := r_iload_n d140_12 rfl
theorem d140_13 : decode (mC 140) 13 = .ok (.isub, 1) := by decide +kernel
theorem x140_13 {sc : aSc} {d : Nat} {r : aRes} {L : List Value} {st : List Value} {σ : aS} {x y : Int32} : Rn sc d 140 13 L (.int y :: .int x :: st) σ r ↔ Rn sc d 140 14 L (.int (x - y) :: st) σ r := r_isub d140_13
theorem d140_14 : decode (mC 140) 14 = .ok (.istore_n 3, 1) := by decide +kernel
theorem x140_14 {sc : aSc} {d : Nat} {r : aRes} {a0 : Value} {a1 : Value} {x2 : Int32} {a3 : Value} {st : List Value} {σ : aS} {y : Int32} : Rn sc d 140 14 [a0, a1, .int x2, a3] (.int y :: st) σ r ↔ Rn sc d 140 15 [a0, a1, .int x2, .int y] st σ r := r_istore_n d140_14 (Nat.le_of_ble_eq_true rfl) rfl
theorem d140_15 : decode (mC 140) 15 = .ok (.iload_n 3, 1) := by decide +kernel
theorem x140_15 {sc : aSc} {d : Nat} {r : aRes} {a0 : Value} {a1 : Value} {a2 : Value} {x3 : Int32} {st : List Value} {σ : aS} : Rn sc d 140 15 [a0, a1, a2, .int x3] st σ r ↔ Rn sc d 140 16 [a0, a1, a2, .int x3] (.int x3 :: st) σ r := r_iload_n d140_15 rfl
theorem d140_16 : decode (mC 140) 16 = .ok (.aload_n 0, 1) := by decide +kernel
theorem x140_16 {sc : aSc} {d : Nat} {r : aRes} {x0 : Nat} {a1 : Value} {a2 : Value} {a3 : Value} {st : List Value} {σ : aS} : Rn sc d 140 16 [.ref x0, a1, a2, a3] st σ r ↔ Rn sc d 140 17 [.ref x0, a1, a2, a3] (.ref x0 :: st) σ r := r_aload_n d140_16 rfl
theorem d140_17 : decode (mC 140) 17 = .ok (.iconst 2, 1) := by decide +kernel
theorem x140_17 {sc : aSc} {d : Nat} {r : aRes} {L : List Value} {st : List Value} {σ : aS} : Rn sc d 140 17 L st σ r ↔ Rn sc d 140 18 L (.int 2 :: st) σ r := r_iconst d140_17 (by decide)
theorem d140_18 : decode (mC 140) 18 = .ok (.iconst 1, 1) := by decide +kernel
theorem x140_18 {sc : aSc} {d : Nat} {r : aRes} {L : List Value} {st : List Value} {σ : aS} : Rn sc d 140 18 L st σ r ↔ Rn sc d 140 19 L (.int 1 :: st) σ r := r_iconst d140_18 (by decide)
theorem d140_19 : decode (mC 140) 19 = .ok (.invokevirtual 291, 3) := by decide +kernel
theorem x140_19 {sc : aSc} {d : Nat} {r : aRes} {L : List Value} {f : Nat → Nat → Int32} {g : Nat → Nat → Int64} {h1 h2 : Nat} {y0 : Int32} {y1 : Int32} {z0 : Int32} {o : Nat} (hK : KK[o]? = some (.inl 7)) : Rn sc d 140 19 L [.int y0, .int y1, .ref o, .int z0] (cS f g h1 h2) r ↔ ∃ (σ3 : aS) (v : Option Value), Cl sc d 132 [.ref o, .int y1, .int y0] (cS f g h1 h2) (σ3, v) ∧ Rn sc d 140 22 L (v.toList ++ [.int z0]) σ3 r := r_callV (vs := [.int y0, .int y1]) d140_19 (j := 132) rfl ⟨rfl, by decide, rfl, rfl⟩ (Nat.le_of_ble_eq_true rfl) hK
theorem d140_22 : decode (mC 140) 22 = .ok (.if_icmp .lt 17, 3) := by decide +kernel
theorem x140_22 {sc : aSc} {d : Nat} {r : aRes} {L : List Value} {st : List Value} {σ : aS} {x y : Int32} : Rn sc d 140 22 L (.int y :: .int x :: st) σ r ↔ if x < y then Rn sc d 140 39 L st σ r else Rn sc d 140 25 L st σ r := r_icmp_lt d140_22 rfl
theorem d140_25 : decode (mC 140) 25 = .ok (.iload_n 1, 1) := by decide +kernel
theorem x140_25 {sc : aSc} {d : Nat} {r : aRes} {a0 : Value} {x1 : Int32} {a2 : Value} {a3 : Value} {st : List Value} {σ : aS} : Rn sc d 140 25 [a0, .int x1, a2, a3] st σ r ↔ Rn sc d 140 26 [a0, .int x1, a2, a3] (.int x1 :: st) σ r := r_iload_n d140_25 rfl
theorem d140_26 : decode (mC 140) 26 = .ok (.iload_n 2, 1) := by decide +kernel
theorem x140_26 {sc : aSc} {d : Nat} {r : aRes} {a0 : Value} {a1 : Value} {x2 : Int32} {a3 : Value} {st : List Value} {σ : aS} : Rn sc d 140 26 [a0, a1, .int x2, a3] st σ r ↔ Rn sc d 140 27 [a0, a1, .int x2, a3] (.int x2 :: st) σ r := r_iload_n d140_26 rfl
theorem d140_27 : decode (mC 140) 27 = .ok (.iadd, 1) := by decide +kernel
theorem x140_27 {sc : aSc} {d : Nat} {r : aRes} {L : List Value} {st : List Value} {σ : aS} {x y : Int32} : Rn sc d 140 27 L (.int y :: .int x :: st) σ r ↔ Rn sc d 140 28 L (.int (x + y) :: st) σ r := r_iadd d140_27
theorem d140_28 : decode (mC 140) 28 = .ok (.aload_n 0, 1) := by decide +kernel
theorem x140_28 {sc : aSc} {d : Nat} {r : aRes} {x0 : Nat} {a1 : Value} {a2 : Value} {a3 : Value} {st : List Value} {σ : aS} : Rn sc d 140 28 [.ref x0, a1, a2, a3] st σ r ↔ Rn sc d 140 29 [.ref x0, a1, a2, a3] (.ref x0 :: st) σ r := r_aload_n d140_28 rfl
theorem d140_29 : decode (mC 140) 29 = .ok (.invokevirtual 307, 3) := by decide +kernel
theorem x140_29 {sc : aSc} {d : Nat} {r : aRes} {L : List Value} {f : Nat → Nat → Int32} {g : Nat → Nat → Int64} {h1 h2 : Nat}  {z0 : Int32} {o : Nat} (hK : KK[o]? = some (.inl 7)) : Rn sc d 140 29 L [.ref o, .int z0] (cS f g h1 h2) r ↔ ∃ (σ3 : aS) (v : Option Value), Cl sc d 133 [.ref o] (cS f g h1 h2) (σ3, v) ∧ Rn sc d 140 32 L (v.toList ++ [.int z0]) σ3 r := r_callV (vs := []) d140_29 (j := 133) rfl ⟨rfl, by decide, rfl, rfl⟩ (Nat.le_of_ble_eq_true rfl) hK
theorem d140_32 : decode (mC 140) 32 = .ok (.if_icmp .gt 7, 3) := by decide +kernel
theorem x140_32 {sc : aSc} {d : Nat} {r : aRes} {L : List Value} {st : List Value} {σ : aS} {x y : Int32} : Rn sc d 140 32 L (.int y :: .int x :: st) σ r ↔ if y < x then Rn sc d 140 39 L st σ r else Rn sc d 140 35 L st σ r := r_icmp_gt d140_32 rfl
theorem d140_35 : decode (mC 140) 35 = .ok (.iconst 1, 1) := by decide +kernel
theorem x140_35 {sc : aSc} {d : Nat} {r : aRes} {L : List Value} {st : List Value} {σ : aS} : Rn sc d 140 35 L st σ r ↔ Rn sc d 140 36 L (.int 1 :: st) σ r := r_iconst d140_35 (by decide)
theorem d140_36 : decode (mC 140) 36 = .ok (.goto 4, 3) := by decide +kernel
theorem x140_36 {sc : aSc} {d : Nat} {r : aRes} {L : List Value} {st : List Value} {σ : aS} : Rn sc d 140 36 L st σ r ↔ Rn sc d 140 40 L st σ r := r_goto d140_36 rfl
theorem d140_39 : decode (mC 140) 39 = .ok (.iconst 0, 1) := by decide +kernel
theorem x140_39 {sc : aSc} {d : Nat} {r : aRes} {L : List Value} {st : List Value} {σ : aS} : Rn sc d 140 39 L st σ r ↔ Rn sc d 140 40 L (.int 0 :: st) σ r := r_iconst d140_39 (by decide)
theorem d140_40 : decode (mC 140) 40 = .ok (.ireturn, 1) := by decide +kernel
theorem x140_40 {sc : aSc} {d : Nat} {r : aRes} {L : List Value} {σ : aS} {x : Int32} (hn : x &&& 1 = x) : Rn sc d 140 40 L [.int x] σ r ↔ r = (σ, some (.int x)) := r_iret d140_40 rfl (congrArg Value.int hn)
theorem d141_0 : decode (mC 141) 0 = .ok (.iload_n 1, 1) := by decide +kernel
theorem x141_0 {sc : aSc} {d : Nat} {r : aRes} {a0 : Value} {x1 : Int32} {a2 : Value} {st : List Value} {σ : aS} : Rn sc d 141 0 [a0, .int x1, a2] st σ r ↔ Rn sc d 141 1 [a0, .int x1, a2] (.int x1 :: st) σ r := r_iload_n d141_0 rfl
theorem d141_1 : decode (mC 141) 1 = .ok (.aload_n 0, 1) := by decide +kernel
theorem x141_1 {sc : aSc} {d : Nat} {r : aRes} {x0 : Nat} {a1 : Value} {a2 : Value} {st : List Value} {σ : aS} : Rn sc d 141 1 [.ref x0, a1, a2] st σ r ↔ Rn sc d 141 2 [.ref x0, a1, a2] (.ref x0 :: st) σ r := r_aload_n d141_1 rfl
theorem d141_2 : decode (mC 141) 2 = .ok (.getfield 22, 3) := by decide +kernel
theorem x141_2 {sc : aSc} {d : Nat} {r : aRes} {L : List Value} {st : List Value} {f : Nat → Nat → Int32} {g : Nat → Nat → Int64} {h1 h2 : Nat} {o : Nat} (h17 : 17 ≤ o) (hK : KK[o]? = some (.inl 7)) : Rn sc d 141 2 L (.ref o :: st) (cS f g h1 h2) r ↔ Rn sc d 141 5 L (.int (f o 4) :: st) (cS f g h1 h2) r := r_getI d141_2 (ci := 7) (k := 4) rfl (by decide) (fun _ => rfl) h17 hK
theorem d141_5 : decode (mC 141) 5 = .ok (.if_icmp .eq 41, 3) := by decide +kernel
theorem x141_5 {sc : aSc} {d : Nat} {r : aRes} {L : List Value} {st : List Value} {σ : aS} {x y : Int32} : Rn sc d 141 5 L (.int y :: .int x :: st) σ r ↔ if x = y then Rn sc d 141 46 L st σ r else Rn sc d 141 8 L st σ r := r_icmp_eq d141_5 rfl
theorem d141_8 : decode (mC 141) 8 = .ok (.iload_n 2, 1) := by decide +kernel
theorem x141_8 {sc : aSc} {d : Nat} {r : aRes} {a0 : Value} {a1 : Value} {x2 : Int32} {st : List Value} {σ : aS} : Rn sc d 141 8 [a0, a1, .int x2] st σ r ↔ Rn sc d 141 9 [a0, a1, .int x2] (.int x2 :: st) σ r := r_iload_n d141_8 rfl
theorem d141_9 : decode (mC 141) 9 = .ok (.aload_n 0, 1) := by decide +kernel
theorem x141_9 {sc : aSc} {d : Nat} {r : aRes} {x0 : Nat} {a1 : Value} {a2 : Value} {st : List Value} {σ : aS} : Rn sc d 141 9 [.ref x0, a1, a2] st σ r ↔ Rn sc d 141 10 [.ref x0, a1, a2] (.ref x0 :: st) σ r := r_aload_n d141_9 rfl
theorem d141_10 : decode (mC 141) 10 = .ok (.getfield 22, 3) := by decide +kernel
theorem x141_10 {sc : aSc} {d : Nat} {r : aRes} {L : List Value} {st : List Value} {f : Nat → Nat → Int32} {g : Nat → Nat → Int64} {h1 h2 : Nat} {o : Nat} (h17 : 17 ≤ o) (hK : KK[o]? = some (.inl 7)) : Rn sc d 141 10 L (.ref o :: st) (cS f g h1 h2) r ↔ Rn sc d 141 13 L (.int (f o 4) :: st) (cS f g h1 h2) r := r_getI d141_10 (ci := 7) (k := 4) rfl (by decide) (fun _ => rfl) h17 hK
theorem d141_13 : decode (mC 141) 13 = .ok (.if_icmp .eq 33, 3) := by decide +kernel
theorem x141_13 {sc : aSc} {d : Nat} {r : aRes} {L : List Value} {st : List Value} {σ : aS} {x y : Int32} : Rn sc d 141 13 L (.int y :: .int x :: st) σ r ↔ if x = y then Rn sc d 141 46 L st σ r else Rn sc d 141 16 L st σ r := r_icmp_eq d141_13 rfl
theorem d141_16 : decode (mC 141) 16 = .ok (.aload_n 0, 1) := by decide +kernel
theorem x141_16 {sc : aSc} {d : Nat} {r : aRes} {x0 : Nat} {a1 : Value} {a2 : Value} {st : List Value} {σ : aS} : Rn sc d 141 16 [.ref x0, a1, a2] st σ r ↔ Rn sc d 141 17 [.ref x0, a1, a2] (.ref x0 :: st) σ r := r_aload_n d141_16 rfl
theorem d141_17 : decode (mC 141) 17 = .ok (.iload_n 1, 1) := by decide +kernel
theorem x141_17 {sc : aSc} {d : Nat} {r : aRes} {a0 : Value} {x1 : Int32} {a2 : Value} {st : List Value} {σ : aS} : Rn sc d 141 17 [a0, .int x1, a2] st σ r ↔ Rn sc d 141 18 [a0, .int x1, a2] (.int x1 :: st) σ r := r_iload_n d141_17 rfl
theorem d141_18 : decode (mC 141) 18 = .ok (.iload_n 2, 1) := by decide +kernel
theorem x141_18 {sc : aSc} {d : Nat} {r : aRes} {a0 : Value} {a1 : Value} {x2 : Int32} {st : List Value} {σ : aS} : Rn sc d 141 18 [a0, a1, .int x2] st σ r ↔ Rn sc d 141 19 [a0, a1, .int x2] (.int x2 :: st) σ r := r_iload_n d141_18 rfl
theorem d141_19 : decode (mC 141) 19 = .ok (.invokevirtual 310, 3) := by decide +kernel
theorem x141_19 {sc : aSc} {d : Nat} {r : aRes} {L : List Value} {f : Nat → Nat → Int32} {g : Nat → Nat → Int64} {h1 h2 : Nat} {y0 : Int32} {y1 : Int32}  {o : Nat} (hK : KK[o]? = some (.inl 7)) : Rn sc d 141 19 L [.int y0, .int y1, .ref o] (cS f g h1 h2) r ↔ ∃ (σ3 : aS) (v : Option Value), Cl sc d 139 [.ref o, .int y1, .int y0] (cS f g h1 h2) (σ3, v) ∧ Rn sc d 141 22 L (v.toList ++ []) σ3 r := r_callV (vs := [.int y0, .int y1]) d141_19 (j := 139) rfl ⟨rfl, by decide, rfl, rfl⟩ (Nat.le_of_ble_eq_true rfl) hK
theorem d141_22 : decode (mC 141) 22 = .ok (.ifCond .eq 24, 3) := by decide +kernel
theorem x141_22 {sc : aSc} {d : Nat} {r : aRes} {L : List Value} {st : List Value} {σ : aS} {x : Int32} : Rn sc d 141 22 L (.int x :: st) σ r ↔ if x = 0 then Rn sc d 141 46 L st σ r else Rn sc d 141 25 L st σ r := r_if_eq d141_22 rfl
theorem d141_25 : decode (mC 141) 25 = .ok (.aload_n 0, 1) := by decide +kernel
theorem x141_25 {sc : aSc} {d : Nat} {r : aRes} {x0 : Nat} {a1 : Value} {a2 : Value} {st : List Value} {σ : aS} : Rn sc d 141 25 [.ref x0, a1, a2] st σ r ↔ Rn sc d 141 26 [.ref x0, a1, a2] (.ref x0 :: st) σ r := r_aload_n d141_25 rfl
theorem d141_26 : decode (mC 141) 26 = .ok (.aload_n 0, 1) := by decide +kernel
theorem x141_26 {sc : aSc} {d : Nat} {r : aRes} {x0 : Nat} {a1 : Value} {a2 : Value} {st : List Value} {σ : aS} : Rn sc d 141 26 [.ref x0, a1, a2] st σ r ↔ Rn sc d 141 27 [.ref x0, a1, a2] (.ref x0 :: st) σ r := r_aload_n d141_26 rfl
theorem d141_27 : decode (mC 141) 27 = .ok (.iload_n 1, 1) := by decide +kernel
theorem x141_27 {sc : aSc} {d : Nat} {r : aRes} {a0 : Value} {x1 : Int32} {a2 : Value} {st : List Value} {σ : aS} : Rn sc d 141 27 [a0, .int x1, a2] st σ r ↔ Rn sc d 141 28 [a0, .int x1, a2] (.int x1 :: st) σ r := r_iload_n d141_27 rfl
theorem d141_28 : decode (mC 141) 28 = .ok (.invokevirtual 313, 3) := by decide +kernel
theorem x141_28 {sc : aSc} {d : Nat} {r : aRes} {L : List Value} {f : Nat → Nat → Int32} {g : Nat → Nat → Int64} {h1 h2 : Nat} {y0 : Int32} {z0 : Nat} {o : Nat} (hK : KK[o]? = some (.inl 7)) : Rn sc d 141 28 L [.int y0, .ref o, .ref z0] (cS f g h1 h2) r ↔ ∃ (σ3 : aS) (v : Option Value), Cl sc d 138 [.ref o, .int y0] (cS f g h1 h2) (σ3, v) ∧ Rn sc d 141 31 L (v.toList ++ [.ref z0]) σ3 r := r_callV (vs := [.int y0]) d141_28 (j := 138) rfl ⟨rfl, by decide, rfl, rfl⟩ (Nat.le_of_ble_eq_true rfl) hK
theorem d141_31 : decode (mC 141) 31 = .ok (.aload_n 0, 1) := by decide +kernel
theorem x141_31 {sc : aSc} {d : Nat} {r : aRes} {x0 : Nat} {a1 : Value} {a2 : Value} {st : List Value} {σ : aS} : Rn sc d 141 31 [.ref x0, a1, a2] st σ r ↔ Rn sc d 141 32 [.ref x0, a1, a2] (.ref x0 :: st) σ r := r_aload_n d141_31 rfl
theorem d141_32 : decode (mC 141) 32 = .ok (.iload_n 2, 1) := by decide +kernel
theorem x141_32 {sc : aSc} {d : Nat} {r : aRes} {a0 : Value} {a1 : Value} {x2 : Int32} {st : List Value} {σ : aS} : Rn sc d 141 32 [a0, a1, .int x2] st σ r ↔ Rn sc d 141 33 [a0, a1, .int x2] (.int x2 :: st) σ r := r_iload_n d141_32 rfl
theorem d141_33 : decode (mC 141) 33 = .ok (.invokevirtual 313, 3) := by decide +kernel
theorem x141_33 {sc : aSc} {d : Nat} {r : aRes} {L : List Value} {f : Nat → Nat → Int32} {g : Nat → Nat → Int64} {h1 h2 : Nat} {y0 : Int32} {z0 : Int32} {z1 : Nat} {o : Nat} (hK : KK[o]? = some (.inl 7)) : Rn sc d 141 33 L [.int y0, .ref o, .int z0, .ref z1] (cS f g h1 h2) r ↔ ∃ (σ3 : aS) (v : Option Value), Cl sc d 138 [.ref o, .int y0] (cS f g h1 h2) (σ3, v) ∧ Rn sc d 141 36 L (v.toList ++ [.int z0, .ref z1]) σ3 r := r_callV (vs := [.int y0]) d141_33 (j := 138) rfl ⟨rfl, by decide, rfl, rfl⟩ (Nat.le_of_ble_eq_true rfl) hK
theorem d141_36 : decode (mC 141) 36 = .ok (.invokevirtual 316, 3) := by decide +kernel
theorem x141_36 {sc : aSc} {d : Nat} {r : aRes} {L : List Value} {f : Nat → Nat → Int32} {g : Nat → Nat → Int64} {h1 h2 : Nat} {y0 : Int32} {y1 : Int32}  {o : Nat} (hK : KK[o]? = some (.inl 7)) : Rn sc d 141 36 L [.int y0, .int y1, .ref o] (cS f g h1 h2) r ↔ ∃ (σ3 : aS) (v : Option Value), Cl sc d 140 [.ref o, .int y1, .int y0] (cS f g h1 h2) (σ3, v) ∧ Rn sc d 141 39 L (v.toList ++ []) σ3 r := r_callV (vs := [.int y0, .int y1]) d141_36 (j := 140) rfl ⟨rfl, by decide, rfl, rfl⟩ (Nat.le_of_ble_eq_true rfl) hK
theorem d141_39 : decode (mC 141) 39 = .ok (.ifCond .eq 7, 3) := by decide +kernel
theorem x141_39 {sc : aSc} {d : Nat} {r : aRes} {L : List Value} {st : List Value} {σ : aS} {x : Int32} : Rn sc d 141 39 L (.int x :: st) σ r ↔ if x = 0 then Rn sc d 141 46 L st σ r else Rn sc d 141 42 L st σ r := r_if_eq d141_39 rfl
theorem d141_42 : decode (mC 141) 42 = .ok (.iconst 1, 1) := by decide +kernel
theorem x141_42 {sc : aSc} {d : Nat} {r : aRes} {L : List Value} {st : List Value} {σ : aS} : Rn sc d 141 42 L st σ r ↔ Rn sc d 141 43 L (.int 1 :: st) σ r := r_iconst d141_42 (by decide)
theorem d141_43 : decode (mC 141) 43 = .ok (.goto 4, 3) := by decide +kernel
theorem x141_43 {sc : aSc} {d : Nat} {r : aRes} {L : List Value} {st : List Value} {σ : aS} : Rn sc d 141 43 L st σ r ↔ Rn sc d 141 47 L st σ r := r_goto d141_43 rfl
theorem d141_46 : decode (mC 141) 46 = .ok (.iconst 0, 1) := by decide +kernel
theorem x141_46 {sc : aSc} {d : Nat} {r : aRes} {L : List Value} {st : List Value} {σ : aS} : Rn sc d 141 46 L st σ r ↔ Rn sc d 141 47 L (.int 0 :: st) σ r := r_iconst d141_46 (by decide)
theorem d141_47 : decode (mC 141) 47 = .ok (.ireturn, 1) := by decide +kernel
theorem x141_47 {sc : aSc} {d : Nat} {r : aRes} {L : List Value} {σ : aS} {x : Int32} (hn : x &&& 1 = x) : Rn sc d 141 47 L [.int x] σ r ↔ r = (σ, some (.int x)) := r_iret d141_47 rfl (congrArg Value.int hn)
theorem d142_0 : decode (mC 142) 0 = .ok (.aload_n 0, 1) := by decide +kernel
theorem x142_0 {sc : aSc} {d : Nat} {r : aRes} {x0 : Nat} {a1 : Value} {a2 : Value} {st : List Value} {σ : aS} : Rn sc d 142 0 [.ref x0, a1, a2] st σ r ↔ Rn sc d 142 1 [.ref x0, a1, a2] (.ref x0 :: st) σ r := r_aload_n d142_0 rfl
theorem d142_1 : decode (mC 142) 1 = .ok (.dup, 1) := by decide +kernel
theorem x142_1 {sc : aSc} {d : Nat} {r : aRes} {L : List Value} {st : List Value} {σ : aS} {y : Nat} : Rn sc d 142 1 L (.ref y :: st) σ r ↔ Rn sc d 142 2 L (.ref y :: .ref y :: st) σ r := r_dup d142_1 rfl
theorem d142_2 : decode (mC 142) 2 = .ok (.getfield 13, 3) := by decide +kernel
theorem x142_2 {sc : aSc} {d : Nat} {r : aRes} {L : List Value} {st : List Value} {f : Nat → Nat → Int32} {g : Nat → Nat → Int64} {h1 h2 : Nat} {o : Nat} (h17 : 17 ≤ o) (hK : KK[o]? = some (.inl 7)) : Rn sc d 142 2 L (.ref o :: st) (cS f g h1 h2) r ↔ Rn sc d 142 5 L (.int (f o 1) :: st) (cS f g h1 h2) r := r_getI d142_2 (ci := 7) (k := 1) rfl (by decide) (fun _ => rfl) h17 hK
theorem d142_5 : decode (mC 142) 5 = .ok (.iconst 1, 1) := by decide +kernel
theorem x142_5 {sc : aSc} {d : Nat} {r : aRes} {L : List Value} {st : List Value} {σ : aS} : Rn sc d 142 5 L st σ r ↔ Rn sc d 142 6 L (.int 1 :: st) σ r := r_iconst d142_5 (by decide)
theorem d142_6 : decode (mC 142) 6 = .ok (.iload_n 1, 1) := by decide +kernel
theorem x142_6 {sc : aSc} {d : Nat} {r : aRes} {a0 : Value} {x1 : Int32} {a2 : Value} {st : List Value} {σ : aS} : Rn sc d 142 6 [a0, .int x1, a2] st σ r ↔ Rn sc d 142 7 [a0, .int x1, a2] (.int x1 :: st) σ r := r_iload_n d142_6 rfl
theorem d142_7 : decode (mC 142) 7 = .ok (.ishl, 1) := by decide +kernel
theorem x142_7 {sc : aSc} {d : Nat} {r : aRes} {L : List Value} {st : List Value} {σ : aS} {x y : Int32} : Rn sc d 142 7 L (.int y :: .int x :: st) σ r ↔ Rn sc d 142 8 L (.int (x <<< (y &&& 31)) :: st) σ r := r_ishl d142_7
theorem d142_8 : decode (mC 142) 8 = .ok (.iconst 1, 1) := by decide +kernel
theorem x142_8 {sc : aSc} {d : Nat} {r : aRes} {L : List Value} {st : List Value} {σ : aS} : Rn sc d 142 8 L st σ r ↔ Rn sc d 142 9 L (.int 1 :: st) σ r := r_iconst d142_8 (by decide)
theorem d142_9 : decode (mC 142) 9 = .ok (.iload_n 2, 1) := by decide +kernel
theorem x142_9 {sc : aSc} {d : Nat} {r : aRes} {a0 : Value} {a1 : Value} {x2 : Int32} {st : List Value} {σ : aS} : Rn sc d 142 9 [a0, a1, .int x2] st σ r ↔ Rn sc d 142 10 [a0, a1, .int x2] (.int x2 :: st) σ r := r_iload_n d142_9 rfl
theorem d142_10 : decode (mC 142) 10 = .ok (.ishl, 1) := by decide +kernel
theorem x142_10 {sc : aSc} {d : Nat} {r : aRes} {L : List Value} {st : List Value} {σ : aS} {x y : Int32} : Rn sc d 142 10 L (.int y :: .int x :: st) σ r ↔ Rn sc d 142 11 L (.int (x <<< (y &&& 31)) :: st) σ r := r_ishl d142_10
theorem d142_11 : decode (mC 142) 11 = .ok (.ior, 1) := by decide +kernel
theorem x142_11 {sc : aSc} {d : Nat} {r : aRes} {L : List Value} {st : List Value} {σ : aS} {x y : Int32} : Rn sc d 142 11 L (.int y :: .int x :: st) σ r ↔ Rn sc d 142 12 L (.int (x ||| y) :: st) σ r := r_ior d142_11
theorem d142_12 : decode (mC 142) 12 = .ok (.ixor, 1) := by decide +kernel
theorem x142_12 {sc : aSc} {d : Nat} {r : aRes} {L : List Value} {st : List Value} {σ : aS} {x y : Int32} : Rn sc d 142 12 L (.int y :: .int x :: st) σ r ↔ Rn sc d 142 13 L (.int (x ^^^ y) :: st) σ r := r_ixor d142_12
theorem d142_13 : decode (mC 142) 13 = .ok (.putfield 13, 3) := by decide +kernel
theorem x142_13 {sc : aSc} {d : Nat} {r : aRes} {L : List Value} {st : List Value} {f : Nat → Nat → Int32} {g : Nat → Nat → Int64} {h1 h2 : Nat} {o : Nat} {v : Int32} (h17 : 17 ≤ o) (hK : KK[o]? = some (.inl 7)) : Rn sc d 142 13 L (.int v :: .ref o :: st) (cS f g h1 h2) r ↔ Rn sc d 142 16 L st (cS (u2 f o 1 v) g h1 h2) r := r_putI d142_13 (ci := 7) (k := 1) rfl (by decide) h17 hK
theorem d142_16 : decode (mC 142) 16 = .ok (.return_, 1) := by decide +kernel
theorem x142_16 {sc : aSc} {d : Nat} {r : aRes} {L : List Value} {σ : aS} : Rn sc d 142 16 L [] σ r ↔ r = (σ, none) := r_vret d142_16 rfl
theorem d143_0 : decode (mC 143) 0 = .ok (.iconst 0, 1) := by decide +kernel
theorem x143_0 {sc : aSc} {d : Nat} {r : aRes} {L : List Value} {st : List Value} {σ : aS} : Rn sc d 143 0 L st σ r ↔ Rn sc d 143 1 L (.int 0 :: st) σ r := r_iconst d143_0 (by decide)
theorem d143_1 : decode (mC 143) 1 = .ok (.istore_n 1, 1) := by decide +kernel
theorem x143_1 {sc : aSc} {d : Nat} {r : aRes} {x0 : Nat} {a1 : Value} {a2 : Value} {st : List Value} {σ : aS} {y : Int32} : Rn sc d 143 1 [.ref x0, a1, a2] (.int y :: st) σ r ↔ Rn sc d 143 2 [.ref x0, .int y, a2] st σ r := r_istore_n d143_1 (Nat.le_of_ble_eq_true rfl) rfl
theorem d143_2 : decode (mC 143) 2 = .ok (.iconst 0, 1) := by decide +kernel
theorem x143_2 {sc : aSc} {d : Nat} {r : aRes} {L : List Value} {st : List Value} {σ : aS} : Rn sc d 143 2 L st σ r ↔ Rn sc d 143 3 L (.int 0 :: st) σ r := r_iconst d143_2 (by decide)
theorem d143_3 : decode (mC 143) 3 = .ok (.istore_n 2, 1) := by decide +kernel
theorem x143_3 {sc : aSc} {d : Nat} {r : aRes} {a0 : Value} {x1 : Int32} {a2 : Value} {st : List Value} {σ : aS} {y : Int32} : Rn sc d 143 3 [a0, .int x1, a2] (.int y :: st) σ r ↔ Rn sc d 143 4 [a0, .int x1, .int y] st σ r := r_istore_n d143_3 (Nat.le_of_ble_eq_true rfl) rfl
theorem d143_4 : decode (mC 143) 4 = .ok (.iload_n 2, 1) := by decide +kernel
theorem x143_4 {sc : aSc} {d : Nat} {r : aRes} {a0 : Value} {a1 : Value} {x2 : Int32} {st : List Value} {σ : aS} : Rn sc d 143 4 [a0, a1, .int x2] st σ r ↔ Rn sc d 143 5 [a0, a1, .int x2] (.int x2 :: st) σ r := r_iload_n d143_4 rfl
theorem d143_5 : decode (mC 143) 5 = .ok (.aload_n 0, 1) := by decide +kernel
theorem x143_5 {sc : aSc} {d : Nat} {r : aRes} {x0 : Nat} {a1 : Value} {a2 : Value} {st : List Value} {σ : aS} : Rn sc d 143 5 [.ref x0, a1, a2] st σ r ↔ Rn sc d 143 6 [.ref x0, a1, a2] (.ref x0 :: st) σ r := r_aload_n d143_5 rfl
theorem d143_6 : decode (mC 143) 6 = .ok (.getfield 7, 3) := by decide +kernel
theorem x143_6 {sc : aSc} {d : Nat} {r : aRes} {L : List Value} {st : List Value} {f : Nat → Nat → Int32} {g : Nat → Nat → Int64} {h1 h2 : Nat} {o : Nat} (h17 : 17 ≤ o) (hK : KK[o]? = some (.inl 7)) : Rn sc d 143 6 L (.ref o :: st) (cS f g h1 h2) r ↔ Rn sc d 143 9 L (.int (f o 0) :: st) (cS f g h1 h2) r := r_getI d143_6 (ci := 7) (k := 0) rfl (by decide) (fun _ => rfl) h17 hK
theorem d143_9 : decode (mC 143) 9 = .ok (.if_icmp .ge 47, 3) := by decide +kernel
theorem x143_9 {sc : aSc} {d : Nat} {r : aRes} {L : List Value} {st : List Value} {σ : aS} {x y : Int32} : Rn sc d 143 9 L (.int y :: .int x :: st) σ r ↔ if x < y then Rn sc d 143 12 L st σ r else Rn sc d 143 56 L st σ r := r_icmp_ge d143_9 rfl
theorem d143_12 : decode (mC 143) 12 = .ok (.iload_n 1, 1) := by decide +kernel
theorem x143_12 {sc : aSc} {d : Nat} {r : aRes} {a0 : Value} {x1 : Int32} {a2 : Value} {st : List Value} {σ : aS} : Rn sc d 143 12 [a0, .int x1, a2] st σ r ↔ Rn sc d 143 13 [a0, .int x1, a2] (.int x1 :: st) σ r := r_iload_n d143_12 rfl
theorem d143_13 : decode (mC 143) 13 = .ok (.iload_n 2, 1) := by decide +kernel
theorem x143_13 {sc : aSc} {d : Nat} {r : aRes} {a0 : Value} {a1 : Value} {x2 : Int32} {st : List Value} {σ : aS} : Rn sc d 143 13 [a0, a1, .int x2] st σ r ↔ Rn sc d 143 14 [a0, a1, .int x2] (.int x2 :: st) σ r := r_iload_n d143_13 rfl
theorem d143_14 : decode (mC 143) 14 = .ok (.aload_n 0, 1) := by decide +kernel
theorem x143_14 {sc : aSc} {d : Nat} {r : aRes} {x0 : Nat} {a1 : Value} {a2 : Value} {st : List Value} {σ : aS} : Rn sc d 143 14 [.ref x0, a1, a2] st σ r ↔ Rn sc d 143 15 [.ref x0, a1, a2] (.ref x0 :: st) σ r := r_aload_n d143_14 rfl
theorem d143_15 : decode (mC 143) 15 = .ok (.getfield 22, 3) := by decide +kernel
theorem x143_15 {sc : aSc} {d : Nat} {r : aRes} {L : List Value} {st : List Value} {f : Nat → Nat → Int32} {g : Nat → Nat → Int64} {h1 h2 : Nat} {o : Nat} (h17 : 17 ≤ o) (hK : KK[o]? = some (.inl 7)) : Rn sc d 143 15 L (.ref o :: st) (cS f g h1 h2) r ↔ Rn sc d 143 18 L (.int (f o 4) :: st) (cS f g h1 h2) r := r_getI d143_15 (ci := 7) (k := 4) rfl (by decide) (fun _ => rfl) h17 hK
theorem d143_18 : decode (mC 143) 18 = .ok (.if_icmp .eq 29, 3) := by decide +kernel
theorem x143_18 {sc : aSc} {d : Nat} {r : aRes} {L : List Value} {st : List Value} {σ : aS} {x y : Int32} : Rn sc d 143 18 L (.int y :: .int x :: st) σ r ↔ if x = y then Rn sc d 143 47 L st σ r else Rn sc d 143 21 L st σ r := r_icmp_eq d143_18 rfl
theorem d143_21 : decode (mC 143) 21 = .ok (.aload_n 0, 1) := by decide +kernel
theorem x143_21 {sc : aSc} {d : Nat} {r : aRes} {x0 : Nat} {a1 : Value} {a2 : Value} {st : List Value} {σ : aS} : Rn sc d 143 21 [.ref x0, a1, a2] st σ r ↔ Rn sc d 143 22 [.ref x0, a1, a2] (.ref x0 :: st) σ r := r_aload_n d143_21 rfl
theorem d143_22 : decode (mC 143) 22 = .ok (.getfield 13, 3) := by decide +kernel
theorem x143_22 {sc : aSc} {d : Nat} {r : aRes} {L : List Value} {st : List Value} {f : Nat → Nat → Int32} {g : Nat → Nat → Int64} {h1 h2 : Nat} {o : Nat} (h17 : 17 ≤ o) (hK : KK[o]? = some (.inl 7)) : Rn sc d 143 22 L (.ref o :: st) (cS f g h1 h2) r ↔ Rn sc d 143 25 L (.int (f o 1) :: st) (cS f g h1 h2) r := r_getI d143_22 (ci := 7) (k := 1) rfl (by decide) (fun _ => rfl) h17 hK
theorem d143_25 : decode (mC 143) 25 = .ok (.iload_n 2, 1) := by decide +kernel
theorem x143_25 {sc : aSc} {d : Nat} {r : aRes} {a0 : Value} {a1 : Value} {x2 : Int32} {st : List Value} {σ : aS} : Rn sc d 143 25 [a0, a1, .int x2] st σ r ↔ Rn sc d 143 26 [a0, a1, .int x2] (.int x2 :: st) σ r := r_iload_n d143_25 rfl
theorem d143_26 : decode (mC 143) 26 = .ok (.ishr, 1) := by decide +kernel
theorem x143_26 {sc : aSc} {d : Nat} {r : aRes} {L : List Value} {st : List Value} {σ : aS} {x y : Int32} : Rn sc d 143 26 L (.int y :: .int x :: st) σ r ↔ Rn sc d 143 27 L (.int (x >>> (y &&& 31)) :: st) σ r := r_ishr d143_26
theorem d143_27 : decode (mC 143) 27 = .ok (.iconst 1, 1) := by decide +kernel
theorem x143_27 {sc : aSc} {d : Nat} {r : aRes} {L : List Value} {st : List Value} {σ : aS} : Rn sc d 143 27 L st σ r ↔ Rn sc d 143 28 L (.int 1 :: st) σ r := r_iconst d143_27 (by decide)
theorem d143_28 : decode (mC 143) 28 = .ok (.iand, 1) := by decide +kernel
theorem x143_28 {sc : aSc} {d : Nat} {r : aRes} {L : List Value} {st : List Value} {σ : aS} {x y : Int32} : Rn sc d 143 28 L (.int y :: .int x :: st) σ r ↔ Rn sc d 143 29 L (.int (x &&& y) :: st) σ r := r_iand d143_28
theorem d143_29 : decode (mC 143) 29 = .ok (.aload_n 0, 1) := by decide +kernel
theorem x143_29 {sc : aSc} {d : Nat} {r : aRes} {x0 : Nat} {a1 : Value} {a2 : Value} {st : List Value} {σ : aS} : Rn sc d 143 29 [.ref x0, a1, a2] st σ r ↔ Rn sc d 143 30 [.ref x0, a1, a2] (.ref x0 :: st) σ r := r_aload_n d143_29 rfl
theorem d143_30 : decode (mC 143) 30 = .ok (.getfield 35, 3) := by decide +kernel
theorem x143_30 {sc : aSc} {d : Nat} {r : aRes} {L : List Value} {st : List Value} {f : Nat → Nat → Int32} {g : Nat → Nat → Int64} {h1 h2 : Nat} {o : Nat} (hK : KK[o]? = some (.inl 7)) (hR : (RR h1 h2 o 8).isSome = true) : Rn sc d 143 30 L (.ref o :: st) (cS f g h1 h2) r ↔ Rn sc d 143 33 L (.ref (rf h1 h2 o 8) :: st) (cS f g h1 h2) r := r_getR2 d143_30 (ci := 7) (k := 8) rfl (by decide) (fun _ => rfl) hK hR
theorem d143_33 : decode (mC 143) 33 = .ok (.iload_n 2, 1) := by decide +kernel
theorem x143_33 {sc : aSc} {d : Nat} {r : aRes} {a0 : Value} {a1 : Value} {x2 : Int32} {st : List Value} {σ : aS} : Rn sc d 143 33 [a0, a1, .int x2] st σ r ↔ Rn sc d 143 34 [a0, a1, .int x2] (.int x2 :: st) σ r := r_iload_n d143_33 rfl
theorem d143_34 : decode (mC 143) 34 = .ok (.iaload, 1) := by decide +kernel
theorem x143_34 {sc : aSc} {d : Nat} {r : aRes} {L : List Value} {st : List Value} {f : Nat → Nat → Int32} {g : Nat → Nat → Int64} {h1 h2 : Nat} {a : Nat} {i : Int32} (h17 : 17 ≤ a) (hA : isT9 .int a) (hi : inb i (aln a) = true) : Rn sc d 143 34 L (.int i :: .ref a :: st) (cS f g h1 h2) r ↔ Rn sc d 143 35 L (.int (f a i.toNatClampNeg) :: st) (cS f g h1 h2) r := r_iald d143_34 h17 hA hi
theorem d143_35 : decode (mC 143) 35 = .ok (.if_icmp .ne 12, 3) := by decide +kernel
theorem x143_35 {sc : aSc} {d : Nat} {r : aRes} {L : List Value} {st : List Value} {σ : aS} {x y : Int32} : Rn sc d 143 35 L (.int y :: .int x :: st) σ r ↔ if x = y then Rn sc d 143 38 L st σ r else Rn sc d 143 47 L st σ r := r_icmp_ne d143_35 rfl
theorem d143_38 : decode (mC 143) 38 = .ok (.aload_n 0, 1) := by decide +kernel
theorem x143_38 {sc : aSc} {d : Nat} {r : aRes} {x0 : Nat} {a1 : Value} {a2 : Value} {st : List Value} {σ : aS} : Rn sc d 143 38 [.ref x0, a1, a2] st σ r ↔ Rn sc d 143 39 [.ref x0, a1, a2] (.ref x0 :: st) σ r := r_aload_n d143_38 rfl
theorem d143_39 : decode (mC 143) 39 = .ok (.getfield 38, 3) := by decide +kernel
theorem x143_39 {sc : aSc} {d : Nat} {r : aRes} {L : List Value} {st : List Value} {f : Nat → Nat → Int32} {g : Nat → Nat → Int64} {h1 h2 : Nat} {o : Nat} (hK : KK[o]? = some (.inl 7)) (hR : (RR h1 h2 o 9).isSome = true) : Rn sc d 143 39 L (.ref o :: st) (cS f g h1 h2) r ↔ Rn sc d 143 42 L (.ref (rf h1 h2 o 9) :: st) (cS f g h1 h2) r := r_getR2 d143_39 (ci := 7) (k := 9) rfl (by decide) (fun _ => rfl) hK hR
theorem d143_42 : decode (mC 143) 42 = .ok (.iload_n 2, 1) := by decide +kernel
theorem x143_42 {sc : aSc} {d : Nat} {r : aRes} {a0 : Value} {a1 : Value} {x2 : Int32} {st : List Value} {σ : aS} : Rn sc d 143 42 [a0, a1, .int x2] st σ r ↔ Rn sc d 143 43 [a0, a1, .int x2] (.int x2 :: st) σ r := r_iload_n d143_42 rfl
theorem d143_43 : decode (mC 143) 43 = .ok (.iaload, 1) := by decide +kernel
theorem x143_43 {sc : aSc} {d : Nat} {r : aRes} {L : List Value} {st : List Value} {f : Nat → Nat → Int32} {g : Nat → Nat → Int64} {h1 h2 : Nat} {a : Nat} {i : Int32} (h17 : 17 ≤ a) (hA : isT9 .int a) (hi : inb i (aln a) = true) : Rn sc d 143 43 L (.int i :: .ref a :: st) (cS f g h1 h2) r ↔ Rn sc d 143 44 L (.int (f a i.toNatClampNeg) :: st) (cS f g h1 h2) r := r_iald d143_43 h17 hA hi
theorem d143_44 : decode (mC 143) 44 = .ok (.goto 4, 3) := by decide +kernel
theorem x143_44 {sc : aSc} {d : Nat} {r : aRes} {L : List Value} {st : List Value} {σ : aS} : Rn sc d 143 44 L st σ r ↔ Rn sc d 143 48 L st σ r := r_goto d143_44 rfl
theorem d143_47 : decode (mC 143) 47 = .ok (.iconst 0, 1) := by decide +kernel
theorem x143_47 {sc : aSc} {d : Nat} {r : aRes} {L : List Value} {st : List Value} {σ : aS} : Rn sc d 143 47 L st σ r ↔ Rn sc d 143 48 L (.int 0 :: st) σ r := r_iconst d143_47 (by decide)
theorem d143_48 : decode (mC 143) 48 = .ok (.iadd, 1) := by decide +kernel
theorem x143_48 {sc : aSc} {d : Nat} {r : aRes} {L : List Value} {st : List Value} {σ : aS} {x y : Int32} : Rn sc d 143 48 L (.int y :: .int x :: st) σ r ↔ Rn sc d 143 49 L (.int (x + y) :: st) σ r := r_iadd d143_48
theorem d143_49 : decode (mC 143) 49 = .ok (.istore_n 1, 1) := by decide +kernel
theorem x143_49 {sc : aSc} {d : Nat} {r : aRes} {x0 : Nat} {a1 : Value} {a2 : Value} {st : List Value} {σ : aS} {y : Int32} : Rn sc d 143 49 [.ref x0, a1, a2] (.int y :: st) σ r ↔ Rn sc d 143 50 [.ref x0, .int y, a2] st σ r := r_istore_n d143_49 (Nat.le_of_ble_eq_true rfl) rfl
theorem d143_50 : decode (mC 143) 50 = .ok (.iinc 2 1, 3) := by decide +kernel
theorem x143_50 {sc : aSc} {d : Nat} {r : aRes} {a0 : Value} {x1 : Int32} {x2 : Int32} {st : List Value} {σ : aS} : Rn sc d 143 50 [a0, .int x1, .int x2] st σ r ↔ Rn sc d 143 53 [a0, .int x1, .int (x2 + 1)] st σ r := r_iinc d143_50 (Nat.le_of_ble_eq_true rfl) rfl rfl (by decide)
theorem d143_53 : decode (mC 143) 53 = .ok (.goto (-49), 3) := by decide +kernel
theorem x143_53 {sc : aSc} {d : Nat} {r : aRes} {L : List Value} {st : List Value} {σ : aS} : Rn sc d 143 53 L st σ r ↔ Rn sc d 143 4 L st σ r := r_goto d143_53 rfl
theorem d143_56 : decode (mC 143) 56 = .ok (.iload_n 1, 1) := by decide +kernel
theorem x143_56 {sc : aSc} {d : Nat} {r : aRes} {a0 : Value} {x1 : Int32} {a2 : Value} {st : List Value} {σ : aS} : Rn sc d 143 56 [a0, .int x1, a2] st σ r ↔ Rn sc d 143 57 [a0, .int x1, a2] (.int x1 :: st) σ r := r_iload_n d143_56 rfl
theorem d143_57 : decode (mC 143) 57 = .ok (.ireturn, 1) := by decide +kernel
theorem x143_57 {sc : aSc} {d : Nat} {r : aRes} {L : List Value} {σ : aS} {x : Int32} : Rn sc d 143 57 L [.int x] σ r ↔ r = (σ, some (.int x)) := r_iret d143_57 rfl rfl
theorem d144_0 : decode (mC 144) 0 = .ok (.aload_n 0, 1) := by decide +kernel
theorem x144_0 {sc : aSc} {d : Nat} {r : aRes} {x0 : Nat} {a1 : Value} {a2 : Value} {st : List Value} {σ : aS} : Rn sc d 144 0 [.ref x0, a1, a2] st σ r ↔ Rn sc d 144 1 [.ref x0, a1, a2] (.ref x0 :: st) σ r := r_aload_n d144_0 rfl
theorem d144_1 : decode (mC 144) 1 = .ok (.iload_n 1, 1) := by decide +kernel
theorem x144_1 {sc : aSc} {d : Nat} {r : aRes} {a0 : Value} {x1 : Int32} {a2 : Value} {st : List Value} {σ : aS} : Rn sc d 144 1 [a0, .int x1, a2] st σ r ↔ Rn sc d 144 2 [a0, .int x1, a2] (.int x1 :: st) σ r := r_iload_n d144_1 rfl
theorem d144_2 : decode (mC 144) 2 = .ok (.invokevirtual 231, 3) := by decide +kernel
theorem x144_2 {sc : aSc} {d : Nat} {r : aRes} {L : List Value} {f : Nat → Nat → Int32} {g : Nat → Nat → Int64} {h1 h2 : Nat} {y0 : Int32}  {o : Nat} (hK : KK[o]? = some (.inl 7)) : Rn sc d 144 2 L [.int y0, .ref o] (cS f g h1 h2) r ↔ ∃ (σ3 : aS) (v : Option Value), Cl sc d 109 [.ref o, .int y0] (cS f g h1 h2) (σ3, v) ∧ Rn sc d 144 5 L (v.toList ++ []) σ3 r := r_callV (vs := [.int y0]) d144_2 (j := 109) rfl ⟨rfl, by decide, rfl, rfl⟩ (Nat.le_of_ble_eq_true rfl) hK
theorem d144_5 : decode (mC 144) 5 = .ok (.ifCond .ne 5, 3) := by decide +kernel
theorem x144_5 {sc : aSc} {d : Nat} {r : aRes} {L : List Value} {st : List Value} {σ : aS} {x : Int32} : Rn sc d 144 5 L (.int x :: st) σ r ↔ if x = 0 then Rn sc d 144 8 L st σ r else Rn sc d 144 10 L st σ r := r_if_ne d144_5 rfl
theorem d144_8 : decode (mC 144) 8 = .ok (.iconst (-1), 1) := by decide +kernel
theorem x144_8 {sc : aSc} {d : Nat} {r : aRes} {L : List Value} {st : List Value} {σ : aS} : Rn sc d 144 8 L st σ r ↔ Rn sc d 144 9 L (.int (-1) :: st) σ r := r_iconst d144_8 (by decide)
theorem d144_9 : decode (mC 144) 9 = .ok (.ireturn, 1) := by decide +kernel
theorem x144_9 {sc : aSc} {d : Nat} {r : aRes} {L : List Value} {σ : aS} {x : Int32} : Rn sc d 144 9 L [.int x] σ r ↔ r = (σ, some (.int x)) := r_iret d144_9 rfl rfl
theorem d144_10 : decode (mC 144) 10 = .ok (.iload_n 2, 1) := by decide +kernel
theorem x144_10 {sc : aSc} {d : Nat} {r : aRes} {a0 : Value} {a1 : Value} {x2 : Int32} {st : List Value} {σ : aS} : Rn sc d 144 10 [a0, a1, .int x2] st σ r ↔ Rn sc d 144 11 [a0, a1, .int x2] (.int x2 :: st) σ r := r_iload_n d144_10 rfl
theorem d144_11 : decode (mC 144) 11 = .ok (.tableswitch 91 0 6 #[41, 48, 55, 62, 71, 78, 85], 41) := by decide +kernel
theorem x144_11 {sc : aSc} {d : Nat} {r : aRes} {L : List Value} {st : List Value} {σ : aS} {x : Int32} : Rn sc d 144 11 L (.int x :: st) σ r ↔ (if x = 0 then Rn sc d 144 52 L st σ r else (if x = 1 then Rn sc d 144 59 L st σ r else (if x = 2 then Rn sc d 144 66 L st σ r else (if x = 3 then Rn sc d 144 73 L st σ r else (if x = 4 then Rn sc d 144 82 L st σ r else (if x = 5 then Rn sc d 144 89 L st σ r else (if x = 6 then Rn sc d 144 96 L st σ r else Rn sc d 144 102 L st σ r))))))) := by
  by_cases c0 : x = 0
  · subst c0; simp only [if_pos]; exact r_tsw d144_11 (t := 52) rfl
  rw [if_neg c0]
  by_cases c1 : x = 1
  · subst c1; simp only [if_pos]; exact r_tsw d144_11 (t := 59) rfl
  rw [if_neg c1]
  by_cases c2 : x = 2
  · subst c2; simp only [if_pos]; exact r_tsw d144_11 (t := 66) rfl
  rw [if_neg c2]
  by_cases c3 : x = 3
  · subst c3; simp only [if_pos]; exact r_tsw d144_11 (t := 73) rfl
  rw [if_neg c3]
  by_cases c4 : x = 4
  · subst c4; simp only [if_pos]; exact r_tsw d144_11 (t := 82) rfl
  rw [if_neg c4]
  by_cases c5 : x = 5
  · subst c5; simp only [if_pos]; exact r_tsw d144_11 (t := 89) rfl
  rw [if_neg c5]
  by_cases c6 : x = 6
  · subst c6; simp only [if_pos]; exact r_tsw d144_11 (t := 96) rfl
  rw [if_neg c6]
  refine r_tswd d144_11 ?_ rfl
  have e0 : x.toInt ≠ 0 := fun z => c0 (Int32.toInt_inj.mp z)
  have e1 : x.toInt ≠ 1 := fun z => c1 (Int32.toInt_inj.mp z)
  have e2 : x.toInt ≠ 2 := fun z => c2 (Int32.toInt_inj.mp z)
  have e3 : x.toInt ≠ 3 := fun z => c3 (Int32.toInt_inj.mp z)
  have e4 : x.toInt ≠ 4 := fun z => c4 (Int32.toInt_inj.mp z)
  have e5 : x.toInt ≠ 5 := fun z => c5 (Int32.toInt_inj.mp z)
  have e6 : x.toInt ≠ 6 := fun z => c6 (Int32.toInt_inj.mp z)
  omega
theorem d144_52 : decode (mC 144) 52 = .ok (.aload_n 0, 1) := by decide +kernel
theorem x144_52 {sc : aSc} {d : Nat} {r : aRes} {x0 : Nat} {a1 : Value} {a2 : Value} {st : List Value} {σ : aS} : Rn sc d 144 52 [.ref x0, a1, a2] st σ r ↔ Rn sc d 144 53 [.ref x0, a1, a2] (.ref x0 :: st) σ r := r_aload_n d144_52 rfl
theorem d144_53 : decode (mC 144) 53 = .ok (.getfield 25, 3) := by decide +kernel
theorem x144_53 {sc : aSc} {d : Nat} {r : aRes} {L : List Value} {st : List Value} {f : Nat → Nat → Int32} {g : Nat → Nat → Int64} {h1 h2 : Nat} {o : Nat} (hK : KK[o]? = some (.inl 7)) (hR : (RR h1 h2 o 5).isSome = true) : Rn sc d 144 53 L (.ref o :: st) (cS f g h1 h2) r ↔ Rn sc d 144 56 L (.ref (rf h1 h2 o 5) :: st) (cS f g h1 h2) r := r_getR2 d144_53 (ci := 7) (k := 5) rfl (by decide) (fun _ => rfl) hK hR
theorem d144_56 : decode (mC 144) 56 = .ok (.iload_n 1, 1) := by decide +kernel
theorem x144_56 {sc : aSc} {d : Nat} {r : aRes} {a0 : Value} {x1 : Int32} {a2 : Value} {st : List Value} {σ : aS} : Rn sc d 144 56 [a0, .int x1, a2] st σ r ↔ Rn sc d 144 57 [a0, .int x1, a2] (.int x1 :: st) σ r := r_iload_n d144_56 rfl
theorem d144_57 : decode (mC 144) 57 = .ok (.iaload, 1) := by decide +kernel
theorem x144_57 {sc : aSc} {d : Nat} {r : aRes} {L : List Value} {st : List Value} {f : Nat → Nat → Int32} {g : Nat → Nat → Int64} {h1 h2 : Nat} {a : Nat} {i : Int32} (h17 : 17 ≤ a) (hA : isT9 .int a) (hi : inb i (aln a) = true) : Rn sc d 144 57 L (.int i :: .ref a :: st) (cS f g h1 h2) r ↔ Rn sc d 144 58 L (.int (f a i.toNatClampNeg) :: st) (cS f g h1 h2) r := r_iald d144_57 h17 hA hi
theorem d144_58 : decode (mC 144) 58 = .ok (.ireturn, 1) := by decide +kernel
theorem x144_58 {sc : aSc} {d : Nat} {r : aRes} {L : List Value} {σ : aS} {x : Int32} : Rn sc d 144 58 L [.int x] σ r ↔ r = (σ, some (.int x)) := r_iret d144_58 rfl rfl
theorem d144_59 : decode (mC 144) 59 = .ok (.aload_n 0, 1) := by decide +kernel
theorem x144_59 {sc : aSc} {d : Nat} {r : aRes} {x0 : Nat} {a1 : Value} {a2 : Value} {st : List Value} {σ : aS} : Rn sc d 144 59 [.ref x0, a1, a2] st σ r ↔ Rn sc d 144 60 [.ref x0, a1, a2] (.ref x0 :: st) σ r := r_aload_n d144_59 rfl
theorem d144_60 : decode (mC 144) 60 = .ok (.getfield 29, 3) := by decide +kernel
theorem x144_60 {sc : aSc} {d : Nat} {r : aRes} {L : List Value} {st : List Value} {f : Nat → Nat → Int32} {g : Nat → Nat → Int64} {h1 h2 : Nat} {o : Nat} (hK : KK[o]? = some (.inl 7)) (hR : (RR h1 h2 o 6).isSome = true) : Rn sc d 144 60 L (.ref o :: st) (cS f g h1 h2) r ↔ Rn sc d 144 63 L (.ref (rf h1 h2 o 6) :: st) (cS f g h1 h2) r := r_getR2 d144_60 (ci := 7) (k := 6) rfl (by decide) (fun _ => rfl) hK hR
theorem d144_63 : decode (mC 144) 63 = .ok (.iload_n 1, 1) := by decide +kernel
theorem x144_63 {sc : aSc} {d : Nat} {r : aRes} {a0 : Value} {x1 : Int32} {a2 : Value} {st : List Value} {σ : aS} : Rn sc d 144 63 [a0, .int x1, a2] st σ r ↔ Rn sc d 144 64 [a0, .int x1, a2] (.int x1 :: st) σ r := r_iload_n d144_63 rfl
theorem d144_64 : decode (mC 144) 64 = .ok (.iaload, 1) := by decide +kernel
theorem x144_64 {sc : aSc} {d : Nat} {r : aRes} {L : List Value} {st : List Value} {f : Nat → Nat → Int32} {g : Nat → Nat → Int64} {h1 h2 : Nat} {a : Nat} {i : Int32} (h17 : 17 ≤ a) (hA : isT9 .int a) (hi : inb i (aln a) = true) : Rn sc d 144 64 L (.int i :: .ref a :: st) (cS f g h1 h2) r ↔ Rn sc d 144 65 L (.int (f a i.toNatClampNeg) :: st) (cS f g h1 h2) r := r_iald d144_64 h17 hA hi
theorem d144_65 : decode (mC 144) 65 = .ok (.ireturn, 1) := by decide +kernel
theorem x144_65 {sc : aSc} {d : Nat} {r : aRes} {L : List Value} {σ : aS} {x : Int32} : Rn sc d 144 65 L [.int x] σ r ↔ r = (σ, some (.int x)) := r_iret d144_65 rfl rfl
theorem d144_66 : decode (mC 144) 66 = .ok (.aload_n 0, 1) := by decide +kernel
theorem x144_66 {sc : aSc} {d : Nat} {r : aRes} {x0 : Nat} {a1 : Value} {a2 : Value} {st : List Value} {σ : aS} : Rn sc d 144 66 [.ref x0, a1, a2] st σ r ↔ Rn sc d 144 67 [.ref x0, a1, a2] (.ref x0 :: st) σ r := r_aload_n d144_66 rfl
theorem d144_67 : decode (mC 144) 67 = .ok (.getfield 32, 3) := by decide +kernel
theorem x144_67 {sc : aSc} {d : Nat} {r : aRes} {L : List Value} {st : List Value} {f : Nat → Nat → Int32} {g : Nat → Nat → Int64} {h1 h2 : Nat} {o : Nat} (hK : KK[o]? = some (.inl 7)) (hR : (RR h1 h2 o 7).isSome = true) : Rn sc d 144 67 L (.ref o :: st) (cS f g h1 h2) r ↔ Rn sc d 144 70 L (.ref (rf h1 h2 o 7) :: st) (cS f g h1 h2) r := r_getR2 d144_67 (ci := 7) (k := 7) rfl (by decide) (fun _ => rfl) hK hR
theorem d144_70 : decode (mC 144) 70 = .ok (.iload_n 1, 1) := by decide +kernel
theorem x144_70 {sc : aSc} {d : Nat} {r : aRes} {a0 : Value} {x1 : Int32} {a2 : Value} {st : List Value} {σ : aS} : Rn sc d 144 70 [a0, .int x1, a2] st σ r ↔ Rn sc d 144 71 [a0, .int x1, a2] (.int x1 :: st) σ r := r_iload_n d144_70 rfl
theorem d144_71 : decode (mC 144) 71 = .ok (.iaload, 1) := by decide +kernel
theorem x144_71 {sc : aSc} {d : Nat} {r : aRes} {L : List Value} {st : List Value} {f : Nat → Nat → Int32} {g : Nat → Nat → Int64} {h1 h2 : Nat} {a : Nat} {i : Int32} (h17 : 17 ≤ a) (hA : isT9 .int a) (hi : inb i (aln a) = true) : Rn sc d 144 71 L (.int i :: .ref a :: st) (cS f g h1 h2) r ↔ Rn sc d 144 72 L (.int (f a i.toNatClampNeg) :: st) (cS f g h1 h2) r := r_iald d144_71 h17 hA hi
theorem d144_72 : decode (mC 144) 72 = .ok (.ireturn, 1) := by decide +kernel
theorem x144_72 {sc : aSc} {d : Nat} {r : aRes} {L : List Value} {σ : aS} {x : Int32} : Rn sc d 144 72 L [.int x] σ r ↔ r = (σ, some (.int x)) := r_iret d144_72 rfl rfl
theorem d144_73 : decode (mC 144) 73 = .ok (.aload_n 0, 1) := by decide +kernel
theorem x144_73 {sc : aSc} {d : Nat} {r : aRes} {x0 : Nat} {a1 : Value} {a2 : Value} {st : List Value} {σ : aS} : Rn sc d 144 73 [.ref x0, a1, a2] st σ r ↔ Rn sc d 144 74 [.ref x0, a1, a2] (.ref x0 :: st) σ r := r_aload_n d144_73 rfl
theorem d144_74 : decode (mC 144) 74 = .ok (.getfield 13, 3) := by decide +kernel
theorem x144_74 {sc : aSc} {d : Nat} {r : aRes} {L : List Value} {st : List Value} {f : Nat → Nat → Int32} {g : Nat → Nat → Int64} {h1 h2 : Nat} {o : Nat} (h17 : 17 ≤ o) (hK : KK[o]? = some (.inl 7)) : Rn sc d 144 74 L (.ref o :: st) (cS f g h1 h2) r ↔ Rn sc d 144 77 L (.int (f o 1) :: st) (cS f g h1 h2) r := r_getI d144_74 (ci := 7) (k := 1) rfl (by decide) (fun _ => rfl) h17 hK
theorem d144_77 : decode (mC 144) 77 = .ok (.iload_n 1, 1) := by decide +kernel
theorem x144_77 {sc : aSc} {d : Nat} {r : aRes} {a0 : Value} {x1 : Int32} {a2 : Value} {st : List Value} {σ : aS} : Rn sc d 144 77 [a0, .int x1, a2] st σ r ↔ Rn sc d 144 78 [a0, .int x1, a2] (.int x1 :: st) σ r := r_iload_n d144_77 rfl
theorem d144_78 : decode (mC 144) 78 = .ok (.ishr, 1) := by decide +kernel
theorem x144_78 {sc : aSc} {d : Nat} {r : aRes} {L : List Value} {st : List Value} {σ : aS} {x y : Int32} : Rn sc d 144 78 L (.int y :: .int x :: st) σ r ↔ Rn sc d 144 79 L (.int (x >>> (y &&& 31)) :: st) σ r := r_ishr d144_78
theorem d144_79 : decode (mC 144) 79 = .ok (.iconst 1, 1) := by decide +kernel
theorem x144_79 {sc : aSc} {d : Nat} {r : aRes} {L : List Value} {st : List Value} {σ : aS} : Rn sc d 144 79 L st σ r ↔ Rn sc d 144 80 L (.int 1 :: st) σ r := r_iconst d144_79 (by decide)
theorem d144_80 : decode (mC 144) 80 = .ok (.iand, 1) := by decide +kernel
theorem x144_80 {sc : aSc} {d : Nat} {r : aRes} {L : List Value} {st : List Value} {σ : aS} {x y : Int32} : Rn sc d 144 80 L (.int y :: .int x :: st) σ r ↔ Rn sc d 144 81 L (.int (x &&& y) :: st) σ r := r_iand d144_80
theorem d144_81 : decode (mC 144) 81 = .ok (.ireturn, 1) := by decide +kernel
theorem x144_81 {sc : aSc} {d : Nat} {r : aRes} {L : List Value} {σ : aS} {x : Int32} : Rn sc d 144 81 L [.int x] σ r ↔ r = (σ, some (.int x)) := r_iret d144_81 rfl rfl
theorem d144_82 : decode (mC 144) 82 = .ok (.aload_n 0, 1) := by decide +kernel
theorem x144_82 {sc : aSc} {d : Nat} {r : aRes} {x0 : Nat} {a1 : Value} {a2 : Value} {st : List Value} {σ : aS} : Rn sc d 144 82 [.ref x0, a1, a2] st σ r ↔ Rn sc d 144 83 [.ref x0, a1, a2] (.ref x0 :: st) σ r := r_aload_n d144_82 rfl
theorem d144_83 : decode (mC 144) 83 = .ok (.getfield 35, 3) := by decide +kernel
theorem x144_83 {sc : aSc} {d : Nat} {r : aRes} {L : List Value} {st : List Value} {f : Nat → Nat → Int32} {g : Nat → Nat → Int64} {h1 h2 : Nat} {o : Nat} (hK : KK[o]? = some (.inl 7)) (hR : (RR h1 h2 o 8).isSome = true) : Rn sc d 144 83 L (.ref o :: st) (cS f g h1 h2) r ↔ Rn sc d 144 86 L (.ref (rf h1 h2 o 8) :: st) (cS f g h1 h2) r := r_getR2 d144_83 (ci := 7) (k := 8) rfl (by decide) (fun _ => rfl) hK hR
theorem d144_86 : decode (mC 144) 86 = .ok (.iload_n 1, 1) := by decide +kernel
theorem x144_86 {sc : aSc} {d : Nat} {r : aRes} {a0 : Value} {x1 : Int32} {a2 : Value} {st : List Value} {σ : aS} : Rn sc d 144 86 [a0, .int x1, a2] st σ r ↔ Rn sc d 144 87 [a0, .int x1, a2] (.int x1 :: st) σ r := r_iload_n d144_86 rfl
theorem d144_87 : decode (mC 144) 87 = .ok (.iaload, 1) := by decide +kernel
theorem x144_87 {sc : aSc} {d : Nat} {r : aRes} {L : List Value} {st : List Value} {f : Nat → Nat → Int32} {g : Nat → Nat → Int64} {h1 h2 : Nat} {a : Nat} {i : Int32} (h17 : 17 ≤ a) (hA : isT9 .int a) (hi : inb i (aln a) = true) : Rn sc d 144 87 L (.int i :: .ref a :: st) (cS f g h1 h2) r ↔ Rn sc d 144 88 L (.int (f a i.toNatClampNeg) :: st) (cS f g h1 h2) r := r_iald d144_87 h17 hA hi
theorem d144_88 : decode (mC 144) 88 = .ok (.ireturn, 1) := by decide +kernel
theorem x144_88 {sc : aSc} {d : Nat} {r : aRes} {L : List Value} {σ : aS} {x : Int32} : Rn sc d 144 88 L [.int x] σ r ↔ r = (σ, some (.int x)) := r_iret d144_88 rfl rfl
theorem d144_89 : decode (mC 144) 89 = .ok (.aload_n 0, 1) := by decide +kernel
theorem x144_89 {sc : aSc} {d : Nat} {r : aRes} {x0 : Nat} {a1 : Value} {a2 : Value} {st : List Value} {σ : aS} : Rn sc d 144 89 [.ref x0, a1, a2] st σ r ↔ Rn sc d 144 90 [.ref x0, a1, a2] (.ref x0 :: st) σ r := r_aload_n d144_89 rfl
theorem d144_90 : decode (mC 144) 90 = .ok (.getfield 38, 3) := by decide +kernel
theorem x144_90 {sc : aSc} {d : Nat} {r : aRes} {L : List Value} {st : List Value} {f : Nat → Nat → Int32} {g : Nat → Nat → Int64} {h1 h2 : Nat} {o : Nat} (hK : KK[o]? = some (.inl 7)) (hR : (RR h1 h2 o 9).isSome = true) : Rn sc d 144 90 L (.ref o :: st) (cS f g h1 h2) r ↔ Rn sc d 144 93 L (.ref (rf h1 h2 o 9) :: st) (cS f g h1 h2) r := r_getR2 d144_90 (ci := 7) (k := 9) rfl (by decide) (fun _ => rfl) hK hR
theorem d144_93 : decode (mC 144) 93 = .ok (.iload_n 1, 1) := by decide +kernel
theorem x144_93 {sc : aSc} {d : Nat} {r : aRes} {a0 : Value} {x1 : Int32} {a2 : Value} {st : List Value} {σ : aS} : Rn sc d 144 93 [a0, .int x1, a2] st σ r ↔ Rn sc d 144 94 [a0, .int x1, a2] (.int x1 :: st) σ r := r_iload_n d144_93 rfl
theorem d144_94 : decode (mC 144) 94 = .ok (.iaload, 1) := by decide +kernel
theorem x144_94 {sc : aSc} {d : Nat} {r : aRes} {L : List Value} {st : List Value} {f : Nat → Nat → Int32} {g : Nat → Nat → Int64} {h1 h2 : Nat} {a : Nat} {i : Int32} (h17 : 17 ≤ a) (hA : isT9 .int a) (hi : inb i (aln a) = true) : Rn sc d 144 94 L (.int i :: .ref a :: st) (cS f g h1 h2) r ↔ Rn sc d 144 95 L (.int (f a i.toNatClampNeg) :: st) (cS f g h1 h2) r := r_iald d144_94 h17 hA hi
theorem d144_95 : decode (mC 144) 95 = .ok (.ireturn, 1) := by decide +kernel
theorem x144_95 {sc : aSc} {d : Nat} {r : aRes} {L : List Value} {σ : aS} {x : Int32} : Rn sc d 144 95 L [.int x] σ r ↔ r = (σ, some (.int x)) := r_iret d144_95 rfl rfl
theorem d144_96 : decode (mC 144) 96 = .ok (.aload_n 0, 1) := by decide +kernel
theorem x144_96 {sc : aSc} {d : Nat} {r : aRes} {x0 : Nat} {a1 : Value} {a2 : Value} {st : List Value} {σ : aS} : Rn sc d 144 96 [.ref x0, a1, a2] st σ r ↔ Rn sc d 144 97 [.ref x0, a1, a2] (.ref x0 :: st) σ r := r_aload_n d144_96 rfl
theorem d144_97 : decode (mC 144) 97 = .ok (.iload_n 1, 1) := by decide +kernel
theorem x144_97 {sc : aSc} {d : Nat} {r : aRes} {a0 : Value} {x1 : Int32} {a2 : Value} {st : List Value} {σ : aS} : Rn sc d 144 97 [a0, .int x1, a2] st σ r ↔ Rn sc d 144 98 [a0, .int x1, a2] (.int x1 :: st) σ r := r_iload_n d144_97 rfl
theorem d144_98 : decode (mC 144) 98 = .ok (.invokevirtual 313, 3) := by decide +kernel
theorem x144_98 {sc : aSc} {d : Nat} {r : aRes} {L : List Value} {f : Nat → Nat → Int32} {g : Nat → Nat → Int64} {h1 h2 : Nat} {y0 : Int32}  {o : Nat} (hK : KK[o]? = some (.inl 7)) : Rn sc d 144 98 L [.int y0, .ref o] (cS f g h1 h2) r ↔ ∃ (σ3 : aS) (v : Option Value), Cl sc d 138 [.ref o, .int y0] (cS f g h1 h2) (σ3, v) ∧ Rn sc d 144 101 L (v.toList ++ []) σ3 r := r_callV (vs := [.int y0]) d144_98 (j := 138) rfl ⟨rfl, by decide, rfl, rfl⟩ (Nat.le_of_ble_eq_true rfl) hK
theorem d144_101 : decode (mC 144) 101 = .ok (.ireturn, 1) := by decide +kernel
theorem x144_101 {sc : aSc} {d : Nat} {r : aRes} {L : List Value} {σ : aS} {x : Int32} : Rn sc d 144 101 L [.int x] σ r ↔ r = (σ, some (.int x)) := r_iret d144_101 rfl rfl
theorem d144_102 : decode (mC 144) 102 = .ok (.iconst (-1), 1) := by decide +kernel
theorem x144_102 {sc : aSc} {d : Nat} {r : aRes} {L : List Value} {st : List Value} {σ : aS} : Rn sc d 144 102 L st σ r ↔ Rn sc d 144 103 L (.int (-1) :: st) σ r := r_iconst d144_102 (by decide)
theorem d144_103 : decode (mC 144) 103 = .ok (.ireturn, 1) := by decide +kernel
theorem x144_103 {sc : aSc} {d : Nat} {r : aRes} {L : List Value} {σ : aS} {x : Int32} : Rn sc d 144 103 L [.int x] σ r ↔ r = (σ, some (.int x)) := r_iret d144_103 rfl rfl
