/-! a row an instruction (written by wip/whole/mk16.py) -/
theorem d66_0 : decode (mC 66) 0 = .ok (.iload_n 1, 1) := by decide +kernel
theorem x66_0 {sc : aSc} {d : Nat} {r : aRes} {a0 : Value} {x1 : Int32} {a2 : Value} {a3 : Value} {a4 : Value} {a5 : Value} {a6 : Value} {st : List Value} {σ : aS} : Rn sc d 66 0 [a0, .int x1, a2, a3, a4, a5, a6] st σ r ↔ Rn sc d 66 1 [a0, .int x1, a2, a3, a4, a5, a6] (.int x1 :: st) σ r := r_iload_n d66_0 rfl
theorem d66_1 : decode (mC 66) 1 = .ok (.bipush 6, 2) := by decide +kernel
theorem x66_1 {sc : aSc} {d : Nat} {r : aRes} {L : List Value} {st : List Value} {σ : aS} : Rn sc d 66 1 L st σ r ↔ Rn sc d 66 3 L (.int 6 :: st) σ r := r_bipush d66_1 (by decide)
theorem d66_3 : decode (mC 66) 3 = .ok (.invokestatic 58, 3) := by decide +kernel
theorem x66_3 {sc : aSc} {d : Nat} {r : aRes} {L : List Value} {σ : aS} {y0 : Int32} {y1 : Int32}  : Rn sc d 66 3 L [.int y0, .int y1] σ r ↔ ∃ (σ3 : aS) (v : Option Value), Cl sc d 102 [.int y1, .int y0] σ (σ3, v) ∧ Rn sc d 66 6 L (v.toList ++ []) σ3 r := r_callS (vs := [.int y0, .int y1]) d66_3 rfl (j := 102) rfl ⟨rfl, by decide, rfl, rfl⟩ (Nat.le_of_ble_eq_true rfl)
theorem d66_6 : decode (mC 66) 6 = .ok (.ifCond .ne 5, 3) := by decide +kernel
theorem x66_6 {sc : aSc} {d : Nat} {r : aRes} {L : List Value} {st : List Value} {σ : aS} {x : Int32} : Rn sc d 66 6 L (.int x :: st) σ r ↔ if x = 0 then Rn sc d 66 9 L st σ r else Rn sc d 66 11 L st σ r := r_if_ne d66_6 rfl
theorem d66_9 : decode (mC 66) 9 = .ok (.iconst (-1), 1) := by decide +kernel
theorem x66_9 {sc : aSc} {d : Nat} {r : aRes} {L : List Value} {st : List Value} {σ : aS} : Rn sc d 66 9 L st σ r ↔ Rn sc d 66 10 L (.int (-1) :: st) σ r := r_iconst d66_9 (by decide)
theorem d66_10 : decode (mC 66) 10 = .ok (.ireturn, 1) := by decide +kernel
theorem x66_10 {sc : aSc} {d : Nat} {r : aRes} {L : List Value} {σ : aS} {x : Int32} : Rn sc d 66 10 L [.int x] σ r ↔ r = (σ, some (.int x)) := r_iret d66_10 rfl rfl
theorem d66_11 : decode (mC 66) 11 = .ok (.iload_n 2, 1) := by decide +kernel
theorem x66_11 {sc : aSc} {d : Nat} {r : aRes} {a0 : Value} {a1 : Value} {x2 : Int32} {a3 : Value} {a4 : Value} {a5 : Value} {a6 : Value} {st : List Value} {σ : aS} : Rn sc d 66 11 [a0, a1, .int x2, a3, a4, a5, a6] st σ r ↔ Rn sc d 66 12 [a0, a1, .int x2, a3, a4, a5, a6] (.int x2 :: st) σ r := r_iload_n d66_11 rfl
theorem d66_12 : decode (mC 66) 12 = .ok (.bipush 9, 2) := by decide +kernel
theorem x66_12 {sc : aSc} {d : Nat} {r : aRes} {L : List Value} {st : List Value} {σ : aS} : Rn sc d 66 12 L st σ r ↔ Rn sc d 66 14 L (.int 9 :: st) σ r := r_bipush d66_12 (by decide)
theorem d66_14 : decode (mC 66) 14 = .ok (.invokestatic 58, 3) := by decide +kernel
theorem x66_14 {sc : aSc} {d : Nat} {r : aRes} {L : List Value} {σ : aS} {y0 : Int32} {y1 : Int32}  : Rn sc d 66 14 L [.int y0, .int y1] σ r ↔ ∃ (σ3 : aS) (v : Option Value), Cl sc d 102 [.int y1, .int y0] σ (σ3, v) ∧ Rn sc d 66 17 L (v.toList ++ []) σ3 r := r_callS (vs := [.int y0, .int y1]) d66_14 rfl (j := 102) rfl ⟨rfl, by decide, rfl, rfl⟩ (Nat.le_of_ble_eq_true rfl)
theorem d66_17 : decode (mC 66) 17 = .ok (.ifCond .eq 40, 3) := by decide +kernel
theorem x66_17 {sc : aSc} {d : Nat} {r : aRes} {L : List Value} {st : List Value} {σ : aS} {x : Int32} : Rn sc d 66 17 L (.int x :: st) σ r ↔ if x = 0 then Rn sc d 66 57 L st σ r else Rn sc d 66 20 L st σ r := r_if_eq d66_17 rfl
theorem d66_20 : decode (mC 66) 20 = .ok (.iload_n 3, 1) := by decide +kernel
theorem x66_20 {sc : aSc} {d : Nat} {r : aRes} {a0 : Value} {a1 : Value} {a2 : Value} {x3 : Int32} {a4 : Value} {a5 : Value} {a6 : Value} {st : List Value} {σ : aS} : Rn sc d 66 20 [a0, a1, a2, .int x3, a4, a5, a6] st σ r ↔ Rn sc d 66 21 [a0, a1, a2, .int x3, a4, a5, a6] (.int x3 :: st) σ r := r_iload_n d66_20 rfl
theorem d66_21 : decode (mC 66) 21 = .ok (.bipush 99, 2) := by decide +kernel
theorem x66_21 {sc : aSc} {d : Nat} {r : aRes} {L : List Value} {st : List Value} {σ : aS} : Rn sc d 66 21 L st σ r ↔ Rn sc d 66 23 L (.int 99 :: st) σ r := r_bipush d66_21 (by decide)
theorem d66_23 : decode (mC 66) 23 = .ok (.invokestatic 58, 3) := by decide +kernel
theorem x66_23 {sc : aSc} {d : Nat} {r : aRes} {L : List Value} {σ : aS} {y0 : Int32} {y1 : Int32}  : Rn sc d 66 23 L [.int y0, .int y1] σ r ↔ ∃ (σ3 : aS) (v : Option Value), Cl sc d 102 [.int y1, .int y0] σ (σ3, v) ∧ Rn sc d 66 26 L (v.toList ++ []) σ3 r := r_callS (vs := [.int y0, .int y1]) d66_23 rfl (j := 102) rfl ⟨rfl, by decide, rfl, rfl⟩ (Nat.le_of_ble_eq_true rfl)
theorem d66_26 : decode (mC 66) 26 = .ok (.ifCond .eq 31, 3) := by decide +kernel
theorem x66_26 {sc : aSc} {d : Nat} {r : aRes} {L : List Value} {st : List Value} {σ : aS} {x : Int32} : Rn sc d 66 26 L (.int x :: st) σ r ↔ if x = 0 then Rn sc d 66 57 L st σ r else Rn sc d 66 29 L st σ r := r_if_eq d66_26 rfl
theorem d66_29 : decode (mC 66) 29 = .ok (.iload 4, 2) := by decide +kernel
theorem x66_29 {sc : aSc} {d : Nat} {r : aRes} {a0 : Value} {a1 : Value} {a2 : Value} {a3 : Value} {x4 : Int32} {a5 : Value} {a6 : Value} {st : List Value} {σ : aS} : Rn sc d 66 29 [a0, a1, a2, a3, .int x4, a5, a6] st σ r ↔ Rn sc d 66 31 [a0, a1, a2, a3, .int x4, a5, a6] (.int x4 :: st) σ r := r_iload d66_29 rfl
theorem d66_31 : decode (mC 66) 31 = .ok (.iconst 1, 1) := by decide +kernel
theorem x66_31 {sc : aSc} {d : Nat} {r : aRes} {L : List Value} {st : List Value} {σ : aS} : Rn sc d 66 31 L st σ r ↔ Rn sc d 66 32 L (.int 1 :: st) σ r := r_iconst d66_31 (by decide)
theorem d66_32 : decode (mC 66) 32 = .ok (.invokestatic 58, 3) := by decide +kernel
theorem x66_32 {sc : aSc} {d : Nat} {r : aRes} {L : List Value} {σ : aS} {y0 : Int32} {y1 : Int32}  : Rn sc d 66 32 L [.int y0, .int y1] σ r ↔ ∃ (σ3 : aS) (v : Option Value), Cl sc d 102 [.int y1, .int y0] σ (σ3, v) ∧ Rn sc d 66 35 L (v.toList ++ []) σ3 r := r_callS (vs := [.int y0, .int y1]) d66_32 rfl (j := 102) rfl ⟨rfl, by decide, rfl, rfl⟩ (Nat.le_of_ble_eq_true rfl)
theorem d66_35 : decode (mC 66) 35 = .ok (.ifCond .eq 22, 3) := by decide +kernel
theorem x66_35 {sc : aSc} {d : Nat} {r : aRes} {L : List Value} {st : List Value} {σ : aS} {x : Int32} : Rn sc d 66 35 L (.int x :: st) σ r ↔ if x = 0 then Rn sc d 66 57 L st σ r else Rn sc d 66 38 L st σ r := r_if_eq d66_35 rfl
theorem d66_38 : decode (mC 66) 38 = .ok (.iload 5, 2) := by decide +kernel
theorem x66_38 {sc : aSc} {d : Nat} {r : aRes} {a0 : Value} {a1 : Value} {a2 : Value} {a3 : Value} {a4 : Value} {x5 : Int32} {a6 : Value} {st : List Value} {σ : aS} : Rn sc d 66 38 [a0, a1, a2, a3, a4, .int x5, a6] st σ r ↔ Rn sc d 66 40 [a0, a1, a2, a3, a4, .int x5, a6] (.int x5 :: st) σ r := r_iload d66_38 rfl
theorem d66_40 : decode (mC 66) 40 = .ok (.iconst 1, 1) := by decide +kernel
theorem x66_40 {sc : aSc} {d : Nat} {r : aRes} {L : List Value} {st : List Value} {σ : aS} : Rn sc d 66 40 L st σ r ↔ Rn sc d 66 41 L (.int 1 :: st) σ r := r_iconst d66_40 (by decide)
theorem d66_41 : decode (mC 66) 41 = .ok (.invokestatic 58, 3) := by decide +kernel
theorem x66_41 {sc : aSc} {d : Nat} {r : aRes} {L : List Value} {σ : aS} {y0 : Int32} {y1 : Int32}  : Rn sc d 66 41 L [.int y0, .int y1] σ r ↔ ∃ (σ3 : aS) (v : Option Value), Cl sc d 102 [.int y1, .int y0] σ (σ3, v) ∧ Rn sc d 66 44 L (v.toList ++ []) σ3 r := r_callS (vs := [.int y0, .int y1]) d66_41 rfl (j := 102) rfl ⟨rfl, by decide, rfl, rfl⟩ (Nat.le_of_ble_eq_true rfl)
theorem d66_44 : decode (mC 66) 44 = .ok (.ifCond .eq 13, 3) := by decide +kernel
theorem x66_44 {sc : aSc} {d : Nat} {r : aRes} {L : List Value} {st : List Value} {σ : aS} {x : Int32} : Rn sc d 66 44 L (.int x :: st) σ r ↔ if x = 0 then Rn sc d 66 57 L st σ r else Rn sc d 66 47 L st σ r := r_if_eq d66_44 rfl
theorem d66_47 : decode (mC 66) 47 = .ok (.iload 6, 2) := by decide +kernel
theorem x66_47 {sc : aSc} {d : Nat} {r : aRes} {a0 : Value} {a1 : Value} {a2 : Value} {a3 : Value} {a4 : Value} {a5 : Value} {x6 : Int32} {st : List Value} {σ : aS} : Rn sc d 66 47 [a0, a1, a2, a3, a4, a5, .int x6] st σ r ↔ Rn sc d 66 49 [a0, a1, a2, a3, a4, a5, .int x6] (.int x6 :: st) σ r := r_iload d66_47 rfl
theorem d66_49 : decode (mC 66) 49 = .ok (.bipush 99, 2) := by decide +kernel
theorem x66_49 {sc : aSc} {d : Nat} {r : aRes} {L : List Value} {st : List Value} {σ : aS} : Rn sc d 66 49 L st σ r ↔ Rn sc d 66 51 L (.int 99 :: st) σ r := r_bipush d66_49 (by decide)
theorem d66_51 : decode (mC 66) 51 = .ok (.invokestatic 58, 3) := by decide +kernel
theorem x66_51 {sc : aSc} {d : Nat} {r : aRes} {L : List Value} {σ : aS} {y0 : Int32} {y1 : Int32}  : Rn sc d 66 51 L [.int y0, .int y1] σ r ↔ ∃ (σ3 : aS) (v : Option Value), Cl sc d 102 [.int y1, .int y0] σ (σ3, v) ∧ Rn sc d 66 54 L (v.toList ++ []) σ3 r := r_callS (vs := [.int y0, .int y1]) d66_51 rfl (j := 102) rfl ⟨rfl, by decide, rfl, rfl⟩ (Nat.le_of_ble_eq_true rfl)
theorem d66_54 : decode (mC 66) 54 = .ok (.ifCond .ne 6, 3) := by decide +kernel
theorem x66_54 {sc : aSc} {d : Nat} {r : aRes} {L : List Value} {st : List Value} {σ : aS} {x : Int32} : Rn sc d 66 54 L (.int x :: st) σ r ↔ if x = 0 then Rn sc d 66 57 L st σ r else Rn sc d 66 60 L st σ r := r_if_ne d66_54 rfl
theorem d66_57 : decode (mC 66) 57 = .ok (.bipush (-2), 2) := by decide +kernel
theorem x66_57 {sc : aSc} {d : Nat} {r : aRes} {L : List Value} {st : List Value} {σ : aS} : Rn sc d 66 57 L st σ r ↔ Rn sc d 66 59 L (.int (-2) :: st) σ r := r_bipush d66_57 (by decide)
theorem d66_59 : decode (mC 66) 59 = .ok (.ireturn, 1) := by decide +kernel
theorem x66_59 {sc : aSc} {d : Nat} {r : aRes} {L : List Value} {σ : aS} {x : Int32} : Rn sc d 66 59 L [.int x] σ r ↔ r = (σ, some (.int x)) := r_iret d66_59 rfl rfl
theorem d66_60 : decode (mC 66) 60 = .ok (.aload_n 0, 1) := by decide +kernel
theorem x66_60 {sc : aSc} {d : Nat} {r : aRes} {x0 : Nat} {a1 : Value} {a2 : Value} {a3 : Value} {a4 : Value} {a5 : Value} {a6 : Value} {st : List Value} {σ : aS} : Rn sc d 66 60 [.ref x0, a1, a2, a3, a4, a5, a6] st σ r ↔ Rn sc d 66 61 [.ref x0, a1, a2, a3, a4, a5, a6] (.ref x0 :: st) σ r := r_aload_n d66_60 rfl
theorem d66_61 : decode (mC 66) 61 = .ok (.getfield 50, 3) := by decide +kernel
theorem x66_61 {sc : aSc} {d : Nat} {r : aRes} {L : List Value} {st : List Value} {f : Nat → Nat → Int32} {g : Nat → Nat → Int64} {h1 h2 : Nat} {o : Nat} (hK : KK[o]? = some (.inl 6)) (hR : (RR h1 h2 o 0).isSome = true) : Rn sc d 66 61 L (.ref o :: st) (cS f g h1 h2) r ↔ Rn sc d 66 64 L (.ref (rf h1 h2 o 0) :: st) (cS f g h1 h2) r := r_getR2 d66_61 (ci := 6) (k := 0) rfl (by decide) (fun _ => rfl) hK hR
theorem d66_64 : decode (mC 66) 64 = .ok (.getfield 62, 3) := by decide +kernel
theorem x66_64 {sc : aSc} {d : Nat} {r : aRes} {L : List Value} {st : List Value} {f : Nat → Nat → Int32} {g : Nat → Nat → Int64} {h1 h2 : Nat} {o : Nat} (h17 : 17 ≤ o) (hK : KK[o]? = some (.inl 1)) : Rn sc d 66 64 L (.ref o :: st) (cS f g h1 h2) r ↔ Rn sc d 66 67 L (.int (f o 0) :: st) (cS f g h1 h2) r := r_getI d66_64 (ci := 1) (k := 0) rfl (by decide) (fun _ => rfl) h17 hK
theorem d66_67 : decode (mC 66) 67 = .ok (.bipush 7, 2) := by decide +kernel
theorem x66_67 {sc : aSc} {d : Nat} {r : aRes} {L : List Value} {st : List Value} {σ : aS} : Rn sc d 66 67 L st σ r ↔ Rn sc d 66 69 L (.int 7 :: st) σ r := r_bipush d66_67 (by decide)
theorem d66_69 : decode (mC 66) 69 = .ok (.if_icmp .lt 6, 3) := by decide +kernel
theorem x66_69 {sc : aSc} {d : Nat} {r : aRes} {L : List Value} {st : List Value} {σ : aS} {x y : Int32} : Rn sc d 66 69 L (.int y :: .int x :: st) σ r ↔ if x < y then Rn sc d 66 75 L st σ r else Rn sc d 66 72 L st σ r := r_icmp_lt d66_69 rfl
theorem d66_72 : decode (mC 66) 72 = .ok (.bipush (-4), 2) := by decide +kernel
theorem x66_72 {sc : aSc} {d : Nat} {r : aRes} {L : List Value} {st : List Value} {σ : aS} : Rn sc d 66 72 L st σ r ↔ Rn sc d 66 74 L (.int (-4) :: st) σ r := r_bipush d66_72 (by decide)
theorem d66_74 : decode (mC 66) 74 = .ok (.ireturn, 1) := by decide +kernel
theorem x66_74 {sc : aSc} {d : Nat} {r : aRes} {L : List Value} {σ : aS} {x : Int32} : Rn sc d 66 74 L [.int x] σ r ↔ r = (σ, some (.int x)) := r_iret d66_74 rfl rfl
theorem d66_75 : decode (mC 66) 75 = .ok (.aload_n 0, 1) := by decide +kernel
theorem x66_75 {sc : aSc} {d : Nat} {r : aRes} {x0 : Nat} {a1 : Value} {a2 : Value} {a3 : Value} {a4 : Value} {a5 : Value} {a6 : Value} {st : List Value} {σ : aS} : Rn sc d 66 75 [.ref x0, a1, a2, a3, a4, a5, a6] st σ r ↔ Rn sc d 66 76 [.ref x0, a1, a2, a3, a4, a5, a6] (.ref x0 :: st) σ r := r_aload_n d66_75 rfl
theorem d66_76 : decode (mC 66) 76 = .ok (.getfield 50, 3) := by decide +kernel
theorem x66_76 {sc : aSc} {d : Nat} {r : aRes} {L : List Value} {st : List Value} {f : Nat → Nat → Int32} {g : Nat → Nat → Int64} {h1 h2 : Nat} {o : Nat} (hK : KK[o]? = some (.inl 6)) (hR : (RR h1 h2 o 0).isSome = true) : Rn sc d 66 76 L (.ref o :: st) (cS f g h1 h2) r ↔ Rn sc d 66 79 L (.ref (rf h1 h2 o 0) :: st) (cS f g h1 h2) r := r_getR2 d66_76 (ci := 6) (k := 0) rfl (by decide) (fun _ => rfl) hK hR
theorem d66_79 : decode (mC 66) 79 = .ok (.iload_n 1, 1) := by decide +kernel
theorem x66_79 {sc : aSc} {d : Nat} {r : aRes} {a0 : Value} {x1 : Int32} {a2 : Value} {a3 : Value} {a4 : Value} {a5 : Value} {a6 : Value} {st : List Value} {σ : aS} : Rn sc d 66 79 [a0, .int x1, a2, a3, a4, a5, a6] st σ r ↔ Rn sc d 66 80 [a0, .int x1, a2, a3, a4, a5, a6] (.int x1 :: st) σ r := r_iload_n d66_79 rfl
theorem d66_80 : decode (mC 66) 80 = .ok (.iload_n 2, 1) := by decide +kernel
theorem x66_80 {sc : aSc} {d : Nat} {r : aRes} {a0 : Value} {a1 : Value} {x2 : Int32} {a3 : Value} {a4 : Value} {a5 : Value} {a6 : Value} {st : List Value} {σ : aS} : Rn sc d 66 80 [a0, a1, .int x2, a3, a4, a5, a6] st σ r ↔ Rn sc d 66 81 [a0, a1, .int x2, a3, a4, a5, a6] (.int x2 :: st) σ r := r_iload_n d66_80 rfl
theorem d66_81 : decode (mC 66) 81 = .ok (.iload_n 3, 1) := by decide +kernel
theorem x66_81 {sc : aSc} {d : Nat} {r : aRes} {a0 : Value} {a1 : Value} {a2 : Value} {x3 : Int32} {a4 : Value} {a5 : Value} {a6 : Value} {st : List Value} {σ : aS} : Rn sc d 66 81 [a0, a1, a2, .int x3, a4, a5, a6] st σ r ↔ Rn sc d 66 82 [a0, a1, a2, .int x3, a4, a5, a6] (.int x3 :: st) σ r := r_iload_n d66_81 rfl
theorem d66_82 : decode (mC 66) 82 = .ok (.iload 4, 2) := by decide +kernel
theorem x66_82 {sc : aSc} {d : Nat} {r : aRes} {a0 : Value} {a1 : Value} {a2 : Value} {a3 : Value} {x4 : Int32} {a5 : Value} {a6 : Value} {st : List Value} {σ : aS} : Rn sc d 66 82 [a0, a1, a2, a3, .int x4, a5, a6] st σ r ↔ Rn sc d 66 84 [a0, a1, a2, a3, .int x4, a5, a6] (.int x4 :: st) σ r := r_iload d66_82 rfl
theorem d66_84 : decode (mC 66) 84 = .ok (.iload 5, 2) := by decide +kernel
theorem x66_84 {sc : aSc} {d : Nat} {r : aRes} {a0 : Value} {a1 : Value} {a2 : Value} {a3 : Value} {a4 : Value} {x5 : Int32} {a6 : Value} {st : List Value} {σ : aS} : Rn sc d 66 84 [a0, a1, a2, a3, a4, .int x5, a6] st σ r ↔ Rn sc d 66 86 [a0, a1, a2, a3, a4, .int x5, a6] (.int x5 :: st) σ r := r_iload d66_84 rfl
theorem d66_86 : decode (mC 66) 86 = .ok (.iload 6, 2) := by decide +kernel
theorem x66_86 {sc : aSc} {d : Nat} {r : aRes} {a0 : Value} {a1 : Value} {a2 : Value} {a3 : Value} {a4 : Value} {a5 : Value} {x6 : Int32} {st : List Value} {σ : aS} : Rn sc d 66 86 [a0, a1, a2, a3, a4, a5, .int x6] st σ r ↔ Rn sc d 66 88 [a0, a1, a2, a3, a4, a5, .int x6] (.int x6 :: st) σ r := r_iload d66_86 rfl
theorem d66_88 : decode (mC 66) 88 = .ok (.invokevirtual 66, 3) := by decide +kernel
theorem x66_88 {sc : aSc} {d : Nat} {r : aRes} {L : List Value} {f : Nat → Nat → Int32} {g : Nat → Nat → Int64} {h1 h2 : Nat} {y0 : Int32} {y1 : Int32} {y2 : Int32} {y3 : Int32} {y4 : Int32} {y5 : Int32}  {o : Nat} (hK : KK[o]? = some (.inl 1)) : Rn sc d 66 88 L [.int y0, .int y1, .int y2, .int y3, .int y4, .int y5, .ref o] (cS f g h1 h2) r ↔ ∃ (σ3 : aS) (v : Option Value), Cl sc d 9 [.ref o, .int y5, .int y4, .int y3, .int y2, .int y1, .int y0] (cS f g h1 h2) (σ3, v) ∧ Rn sc d 66 91 L (v.toList ++ []) σ3 r := r_callV (vs := [.int y0, .int y1, .int y2, .int y3, .int y4, .int y5]) d66_88 (j := 9) rfl ⟨rfl, by decide, rfl, rfl⟩ (Nat.le_of_ble_eq_true rfl) hK
theorem d66_91 : decode (mC 66) 91 = .ok (.ireturn, 1) := by decide +kernel
theorem x66_91 {sc : aSc} {d : Nat} {r : aRes} {L : List Value} {σ : aS} {x : Int32} : Rn sc d 66 91 L [.int x] σ r ↔ r = (σ, some (.int x)) := r_iret d66_91 rfl rfl
theorem d67_0 : decode (mC 67) 0 = .ok (.aload_n 0, 1) := by decide +kernel
theorem x67_0 {sc : aSc} {d : Nat} {r : aRes} {x0 : Nat} {a1 : Value} {a2 : Value} {st : List Value} {σ : aS} : Rn sc d 67 0 [.ref x0, a1, a2] st σ r ↔ Rn sc d 67 1 [.ref x0, a1, a2] (.ref x0 :: st) σ r := r_aload_n d67_0 rfl
theorem d67_1 : decode (mC 67) 1 = .ok (.getfield 50, 3) := by decide +kernel
theorem x67_1 {sc : aSc} {d : Nat} {r : aRes} {L : List Value} {st : List Value} {f : Nat → Nat → Int32} {g : Nat → Nat → Int64} {h1 h2 : Nat} {o : Nat} (hK : KK[o]? = some (.inl 6)) (hR : (RR h1 h2 o 0).isSome = true) : Rn sc d 67 1 L (.ref o :: st) (cS f g h1 h2) r ↔ Rn sc d 67 4 L (.ref (rf h1 h2 o 0) :: st) (cS f g h1 h2) r := r_getR2 d67_1 (ci := 6) (k := 0) rfl (by decide) (fun _ => rfl) hK hR
theorem d67_4 : decode (mC 67) 4 = .ok (.iload_n 1, 1) := by decide +kernel
theorem x67_4 {sc : aSc} {d : Nat} {r : aRes} {a0 : Value} {x1 : Int32} {a2 : Value} {st : List Value} {σ : aS} : Rn sc d 67 4 [a0, .int x1, a2] st σ r ↔ Rn sc d 67 5 [a0, .int x1, a2] (.int x1 :: st) σ r := r_iload_n d67_4 rfl
theorem d67_5 : decode (mC 67) 5 = .ok (.invokevirtual 70, 3) := by decide +kernel
theorem x67_5 {sc : aSc} {d : Nat} {r : aRes} {L : List Value} {f : Nat → Nat → Int32} {g : Nat → Nat → Int64} {h1 h2 : Nat} {y0 : Int32}  {o : Nat} (hK : KK[o]? = some (.inl 1)) : Rn sc d 67 5 L [.int y0, .ref o] (cS f g h1 h2) r ↔ ∃ (σ3 : aS) (v : Option Value), Cl sc d 7 [.ref o, .int y0] (cS f g h1 h2) (σ3, v) ∧ Rn sc d 67 8 L (v.toList ++ []) σ3 r := r_callV (vs := [.int y0]) d67_5 (j := 7) rfl ⟨rfl, by decide, rfl, rfl⟩ (Nat.le_of_ble_eq_true rfl) hK
theorem d67_8 : decode (mC 67) 8 = .ok (.ifCond .ne 5, 3) := by decide +kernel
theorem x67_8 {sc : aSc} {d : Nat} {r : aRes} {L : List Value} {st : List Value} {σ : aS} {x : Int32} : Rn sc d 67 8 L (.int x :: st) σ r ↔ if x = 0 then Rn sc d 67 11 L st σ r else Rn sc d 67 13 L st σ r := r_if_ne d67_8 rfl
theorem d67_11 : decode (mC 67) 11 = .ok (.iconst (-1), 1) := by decide +kernel
theorem x67_11 {sc : aSc} {d : Nat} {r : aRes} {L : List Value} {st : List Value} {σ : aS} : Rn sc d 67 11 L st σ r ↔ Rn sc d 67 12 L (.int (-1) :: st) σ r := r_iconst d67_11 (by decide)
theorem d67_12 : decode (mC 67) 12 = .ok (.ireturn, 1) := by decide +kernel
theorem x67_12 {sc : aSc} {d : Nat} {r : aRes} {L : List Value} {σ : aS} {x : Int32} : Rn sc d 67 12 L [.int x] σ r ↔ r = (σ, some (.int x)) := r_iret d67_12 rfl rfl
theorem d67_13 : decode (mC 67) 13 = .ok (.iload_n 2, 1) := by decide +kernel
theorem x67_13 {sc : aSc} {d : Nat} {r : aRes} {a0 : Value} {a1 : Value} {x2 : Int32} {st : List Value} {σ : aS} : Rn sc d 67 13 [a0, a1, .int x2] st σ r ↔ Rn sc d 67 14 [a0, a1, .int x2] (.int x2 :: st) σ r := r_iload_n d67_13 rfl
theorem d67_14 : decode (mC 67) 14 = .ok (.tableswitch 112 0 6 #[42, 52, 62, 72, 81, 93, 103], 42) := by decide +kernel
theorem x67_14 {sc : aSc} {d : Nat} {r : aRes} {L : List Value} {st : List Value} {σ : aS} {x : Int32} : Rn sc d 67 14 L (.int x :: st) σ r ↔ (if x = 0 then Rn sc d 67 56 L st σ r else (if x = 1 then Rn sc d 67 66 L st σ r else (if x = 2 then Rn sc d 67 76 L st σ r else (if x = 3 then Rn sc d 67 86 L st σ r else (if x = 4 then Rn sc d 67 95 L st σ r else (if x = 5 then Rn sc d 67 107 L st σ r else (if x = 6 then Rn sc d 67 117 L st σ r else Rn sc d 67 126 L st σ r))))))) := by
  by_cases c0 : x = 0
  · subst c0; simp only [if_pos]; exact r_tsw d67_14 (t := 56) rfl
  rw [if_neg c0]
  by_cases c1 : x = 1
  · subst c1; simp only [if_pos]; exact r_tsw d67_14 (t := 66) rfl
  rw [if_neg c1]
  by_cases c2 : x = 2
  · subst c2; simp only [if_pos]; exact r_tsw d67_14 (t := 76) rfl
  rw [if_neg c2]
  by_cases c3 : x = 3
  · subst c3; simp only [if_pos]; exact r_tsw d67_14 (t := 86) rfl
  rw [if_neg c3]
  by_cases c4 : x = 4
  · subst c4; simp only [if_pos]; exact r_tsw d67_14 (t := 95) rfl
  rw [if_neg c4]
  by_cases c5 : x = 5
  · subst c5; simp only [if_pos]; exact r_tsw d67_14 (t := 107) rfl
  rw [if_neg c5]
  by_cases c6 : x = 6
  · subst c6; simp only [if_pos]; exact r_tsw d67_14 (t := 117) rfl
  rw [if_neg c6]
  refine r_tswd d67_14 ?_ rfl
  have e0 : x.toInt ≠ 0 := fun z => c0 (Int32.toInt_inj.mp z)
  have e1 : x.toInt ≠ 1 := fun z => c1 (Int32.toInt_inj.mp z)
  have e2 : x.toInt ≠ 2 := fun z => c2 (Int32.toInt_inj.mp z)
  have e3 : x.toInt ≠ 3 := fun z => c3 (Int32.toInt_inj.mp z)
  have e4 : x.toInt ≠ 4 := fun z => c4 (Int32.toInt_inj.mp z)
  have e5 : x.toInt ≠ 5 := fun z => c5 (Int32.toInt_inj.mp z)
  have e6 : x.toInt ≠ 6 := fun z => c6 (Int32.toInt_inj.mp z)
  omega
theorem d67_56 : decode (mC 67) 56 = .ok (.aload_n 0, 1) := by decide +kernel
theorem x67_56 {sc : aSc} {d : Nat} {r : aRes} {x0 : Nat} {a1 : Value} {a2 : Value} {st : List Value} {σ : aS} : Rn sc d 67 56 [.ref x0, a1, a2] st σ r ↔ Rn sc d 67 57 [.ref x0, a1, a2] (.ref x0 :: st) σ r := r_aload_n d67_56 rfl
theorem d67_57 : decode (mC 67) 57 = .ok (.getfield 50, 3) := by decide +kernel
theorem x67_57 {sc : aSc} {d : Nat} {r : aRes} {L : List Value} {st : List Value} {f : Nat → Nat → Int32} {g : Nat → Nat → Int64} {h1 h2 : Nat} {o : Nat} (hK : KK[o]? = some (.inl 6)) (hR : (RR h1 h2 o 0).isSome = true) : Rn sc d 67 57 L (.ref o :: st) (cS f g h1 h2) r ↔ Rn sc d 67 60 L (.ref (rf h1 h2 o 0) :: st) (cS f g h1 h2) r := r_getR2 d67_57 (ci := 6) (k := 0) rfl (by decide) (fun _ => rfl) hK hR
theorem d67_60 : decode (mC 67) 60 = .ok (.getfield 74, 3) := by decide +kernel
theorem x67_60 {sc : aSc} {d : Nat} {r : aRes} {L : List Value} {st : List Value} {f : Nat → Nat → Int32} {g : Nat → Nat → Int64} {h1 h2 : Nat} {o : Nat} (hK : KK[o]? = some (.inl 1)) (hR : (RR h1 h2 o 6).isSome = true) : Rn sc d 67 60 L (.ref o :: st) (cS f g h1 h2) r ↔ Rn sc d 67 63 L (.ref (rf h1 h2 o 6) :: st) (cS f g h1 h2) r := r_getR2 d67_60 (ci := 1) (k := 6) rfl (by decide) (fun _ => rfl) hK hR
theorem d67_63 : decode (mC 67) 63 = .ok (.iload_n 1, 1) := by decide +kernel
theorem x67_63 {sc : aSc} {d : Nat} {r : aRes} {a0 : Value} {x1 : Int32} {a2 : Value} {st : List Value} {σ : aS} : Rn sc d 67 63 [a0, .int x1, a2] st σ r ↔ Rn sc d 67 64 [a0, .int x1, a2] (.int x1 :: st) σ r := r_iload_n d67_63 rfl
theorem d67_64 : decode (mC 67) 64 = .ok (.iaload, 1) := by decide +kernel
theorem x67_64 {sc : aSc} {d : Nat} {r : aRes} {L : List Value} {st : List Value} {f : Nat → Nat → Int32} {g : Nat → Nat → Int64} {h1 h2 : Nat} {a : Nat} {i : Int32} (h17 : 17 ≤ a) (hA : isT9 .int a) (hi : inb i (aln a) = true) : Rn sc d 67 64 L (.int i :: .ref a :: st) (cS f g h1 h2) r ↔ Rn sc d 67 65 L (.int (f a i.toNatClampNeg) :: st) (cS f g h1 h2) r := r_iald d67_64 h17 hA hi
theorem d67_65 : decode (mC 67) 65 = .ok (.ireturn, 1) := by decide +kernel
theorem x67_65 {sc : aSc} {d : Nat} {r : aRes} {L : List Value} {σ : aS} {x : Int32} : Rn sc d 67 65 L [.int x] σ r ↔ r = (σ, some (.int x)) := r_iret d67_65 rfl rfl
theorem d67_66 : decode (mC 67) 66 = .ok (.aload_n 0, 1) := by decide +kernel
theorem x67_66 {sc : aSc} {d : Nat} {r : aRes} {x0 : Nat} {a1 : Value} {a2 : Value} {st : List Value} {σ : aS} : Rn sc d 67 66 [.ref x0, a1, a2] st σ r ↔ Rn sc d 67 67 [.ref x0, a1, a2] (.ref x0 :: st) σ r := r_aload_n d67_66 rfl
theorem d67_67 : decode (mC 67) 67 = .ok (.getfield 50, 3) := by decide +kernel
theorem x67_67 {sc : aSc} {d : Nat} {r : aRes} {L : List Value} {st : List Value} {f : Nat → Nat → Int32} {g : Nat → Nat → Int64} {h1 h2 : Nat} {o : Nat} (hK : KK[o]? = some (.inl 6)) (hR : (RR h1 h2 o 0).isSome = true) : Rn sc d 67 67 L (.ref o :: st) (cS f g h1 h2) r ↔ Rn sc d 67 70 L (.ref (rf h1 h2 o 0) :: st) (cS f g h1 h2) r := r_getR2 d67_67 (ci := 6) (k := 0) rfl (by decide) (fun _ => rfl) hK hR
theorem d67_70 : decode (mC 67) 70 = .ok (.getfield 78, 3) := by decide +kernel
theorem x67_70 {sc : aSc} {d : Nat} {r : aRes} {L : List Value} {st : List Value} {f : Nat → Nat → Int32} {g : Nat → Nat → Int64} {h1 h2 : Nat} {o : Nat} (hK : KK[o]? = some (.inl 1)) (hR : (RR h1 h2 o 7).isSome = true) : Rn sc d 67 70 L (.ref o :: st) (cS f g h1 h2) r ↔ Rn sc d 67 73 L (.ref (rf h1 h2 o 7) :: st) (cS f g h1 h2) r := r_getR2 d67_70 (ci := 1) (k := 7) rfl (by decide) (fun _ => rfl) hK hR
theorem d67_73 : decode (mC 67) 73 = .ok (.iload_n 1, 1) := by decide +kernel
theorem x67_73 {sc : aSc} {d : Nat} {r : aRes} {a0 : Value} {x1 : Int32} {a2 : Value} {st : List Value} {σ : aS} : Rn sc d 67 73 [a0, .int x1, a2] st σ r ↔ Rn sc d 67 74 [a0, .int x1, a2] (.int x1 :: st) σ r := r_iload_n d67_73 rfl
theorem d67_74 : decode (mC 67) 74 = .ok (.iaload, 1) := by decide +kernel
theorem x67_74 {sc : aSc} {d : Nat} {r : aRes} {L : List Value} {st : List Value} {f : Nat → Nat → Int32} {g : Nat → Nat → Int64} {h1 h2 : Nat} {a : Nat} {i : Int32} (h17 : 17 ≤ a) (hA : isT9 .int a) (hi : inb i (aln a) = true) : Rn sc d 67 74 L (.int i :: .ref a :: st) (cS f g h1 h2) r ↔ Rn sc d 67 75 L (.int (f a i.toNatClampNeg) :: st) (cS f g h1 h2) r := r_iald d67_74 h17 hA hi
theorem d67_75 : decode (mC 67) 75 = .ok (.ireturn, 1) := by decide +kernel
theorem x67_75 {sc : aSc} {d : Nat} {r : aRes} {L : List Value} {σ : aS} {x : Int32} : Rn sc d 67 75 L [.int x] σ r ↔ r = (σ, some (.int x)) := r_iret d67_75 rfl rfl
theorem d67_76 : decode (mC 67) 76 = .ok (.aload_n 0, 1) := by decide +kernel
theorem x67_76 {sc : aSc} {d : Nat} {r : aRes} {x0 : Nat} {a1 : Value} {a2 : Value} {st : List Value} {σ : aS} : Rn sc d 67 76 [.ref x0, a1, a2] st σ r ↔ Rn sc d 67 77 [.ref x0, a1, a2] (.ref x0 :: st) σ r := r_aload_n d67_76 rfl
theorem d67_77 : decode (mC 67) 77 = .ok (.getfield 50, 3) := by decide +kernel
theorem x67_77 {sc : aSc} {d : Nat} {r : aRes} {L : List Value} {st : List Value} {f : Nat → Nat → Int32} {g : Nat → Nat → Int64} {h1 h2 : Nat} {o : Nat} (hK : KK[o]? = some (.inl 6)) (hR : (RR h1 h2 o 0).isSome = true) : Rn sc d 67 77 L (.ref o :: st) (cS f g h1 h2) r ↔ Rn sc d 67 80 L (.ref (rf h1 h2 o 0) :: st) (cS f g h1 h2) r := r_getR2 d67_77 (ci := 6) (k := 0) rfl (by decide) (fun _ => rfl) hK hR
theorem d67_80 : decode (mC 67) 80 = .ok (.getfield 81, 3) := by decide +kernel
theorem x67_80 {sc : aSc} {d : Nat} {r : aRes} {L : List Value} {st : List Value} {f : Nat → Nat → Int32} {g : Nat → Nat → Int64} {h1 h2 : Nat} {o : Nat} (hK : KK[o]? = some (.inl 1)) (hR : (RR h1 h2 o 8).isSome = true) : Rn sc d 67 80 L (.ref o :: st) (cS f g h1 h2) r ↔ Rn sc d 67 83 L (.ref (rf h1 h2 o 8) :: st) (cS f g h1 h2) r := r_getR2 d67_80 (ci := 1) (k := 8) rfl (by decide) (fun _ => rfl) hK hR
theorem d67_83 : decode (mC 67) 83 = .ok (.iload_n 1, 1) := by decide +kernel
theorem x67_83 {sc : aSc} {d : Nat} {r : aRes} {a0 : Value} {x1 : Int32} {a2 : Value} {st : List Value} {σ : aS} : Rn sc d 67 83 [a0, .int x1, a2] st σ r ↔ Rn sc d 67 84 [a0, .int x1, a2] (.int x1 :: st) σ r := r_iload_n d67_83 rfl
theorem d67_84 : decode (mC 67) 84 = .ok (.iaload, 1) := by decide +kernel
theorem x67_84 {sc : aSc} {d : Nat} {r : aRes} {L : List Value} {st : List Value} {f : Nat → Nat → Int32} {g : Nat → Nat → Int64} {h1 h2 : Nat} {a : Nat} {i : Int32} (h17 : 17 ≤ a) (hA : isT9 .int a) (hi : inb i (aln a) = true) : Rn sc d 67 84 L (.int i :: .ref a :: st) (cS f g h1 h2) r ↔ Rn sc d 67 85 L (.int (f a i.toNatClampNeg) :: st) (cS f g h1 h2) r := r_iald d67_84 h17 hA hi
theorem d67_85 : decode (mC 67) 85 = .ok (.ireturn, 1) := by decide +kernel
theorem x67_85 {sc : aSc} {d : Nat} {r : aRes} {L : List Value} {σ : aS} {x : Int32} : Rn sc d 67 85 L [.int x] σ r ↔ r = (σ, some (.int x)) := r_iret d67_85 rfl rfl
theorem d67_86 : decode (mC 67) 86 = .ok (.aload_n 0, 1) := by decide +kernel
theorem x67_86 {sc : aSc} {d : Nat} {r : aRes} {x0 : Nat} {a1 : Value} {a2 : Value} {st : List Value} {σ : aS} : Rn sc d 67 86 [.ref x0, a1, a2] st σ r ↔ Rn sc d 67 87 [.ref x0, a1, a2] (.ref x0 :: st) σ r := r_aload_n d67_86 rfl
theorem d67_87 : decode (mC 67) 87 = .ok (.getfield 50, 3) := by decide +kernel
theorem x67_87 {sc : aSc} {d : Nat} {r : aRes} {L : List Value} {st : List Value} {f : Nat → Nat → Int32} {g : Nat → Nat → Int64} {h1 h2 : Nat} {o : Nat} (hK : KK[o]? = some (.inl 6)) (hR : (RR h1 h2 o 0).isSome = true) : Rn sc d 67 87 L (.ref o :: st) (cS f g h1 h2) r ↔ Rn sc d 67 90 L (.ref (rf h1 h2 o 0) :: st) (cS f g h1 h2) r := r_getR2 d67_87 (ci := 6) (k := 0) rfl (by decide) (fun _ => rfl) hK hR
theorem d67_90 : decode (mC 67) 90 = .ok (.iload_n 1, 1) := by decide +kernel
theorem x67_90 {sc : aSc} {d : Nat} {r : aRes} {a0 : Value} {x1 : Int32} {a2 : Value} {st : List Value} {σ : aS} : Rn sc d 67 90 [a0, .int x1, a2] st σ r ↔ Rn sc d 67 91 [a0, .int x1, a2] (.int x1 :: st) σ r := r_iload_n d67_90 rfl
theorem d67_91 : decode (mC 67) 91 = .ok (.invokevirtual 84, 3) := by decide +kernel
theorem x67_91 {sc : aSc} {d : Nat} {r : aRes} {L : List Value} {f : Nat → Nat → Int32} {g : Nat → Nat → Int64} {h1 h2 : Nat} {y0 : Int32}  {o : Nat} (hK : KK[o]? = some (.inl 1)) : Rn sc d 67 91 L [.int y0, .ref o] (cS f g h1 h2) r ↔ ∃ (σ3 : aS) (v : Option Value), Cl sc d 13 [.ref o, .int y0] (cS f g h1 h2) (σ3, v) ∧ Rn sc d 67 94 L (v.toList ++ []) σ3 r := r_callV (vs := [.int y0]) d67_91 (j := 13) rfl ⟨rfl, by decide, rfl, rfl⟩ (Nat.le_of_ble_eq_true rfl) hK
theorem d67_94 : decode (mC 67) 94 = .ok (.ireturn, 1) := by decide +kernel
theorem x67_94 {sc : aSc} {d : Nat} {r : aRes} {L : List Value} {σ : aS} {x : Int32} : Rn sc d 67 94 L [.int x] σ r ↔ r = (σ, some (.int x)) := r_iret d67_94 rfl rfl
theorem d67_95 : decode (mC 67) 95 = .ok (.aload_n 0, 1) := by decide +kernel
theorem x67_95 {sc : aSc} {d : Nat} {r : aRes} {x0 : Nat} {a1 : Value} {a2 : Value} {st : List Value} {σ : aS} : Rn sc d 67 95 [.ref x0, a1, a2] st σ r ↔ Rn sc d 67 96 [.ref x0, a1, a2] (.ref x0 :: st) σ r := r_aload_n d67_95 rfl
theorem d67_96 : decode (mC 67) 96 = .ok (.getfield 50, 3) := by decide +kernel
theorem x67_96 {sc : aSc} {d : Nat} {r : aRes} {L : List Value} {st : List Value} {f : Nat → Nat → Int32} {g : Nat → Nat → Int64} {h1 h2 : Nat} {o : Nat} (hK : KK[o]? = some (.inl 6)) (hR : (RR h1 h2 o 0).isSome = true) : Rn sc d 67 96 L (.ref o :: st) (cS f g h1 h2) r ↔ Rn sc d 67 99 L (.ref (rf h1 h2 o 0) :: st) (cS f g h1 h2) r := r_getR2 d67_96 (ci := 6) (k := 0) rfl (by decide) (fun _ => rfl) hK hR
theorem d67_99 : decode (mC 67) 99 = .ok (.getfield 88, 3) := by decide +kernel
theorem x67_99 {sc : aSc} {d : Nat} {r : aRes} {L : List Value} {st : List Value} {f : Nat → Nat → Int32} {g : Nat → Nat → Int64} {h1 h2 : Nat} {o : Nat} (h17 : 17 ≤ o) (hK : KK[o]? = some (.inl 1)) : Rn sc d 67 99 L (.ref o :: st) (cS f g h1 h2) r ↔ Rn sc d 67 102 L (.int (f o 5) :: st) (cS f g h1 h2) r := r_getI d67_99 (ci := 1) (k := 5) rfl (by decide) (fun _ => rfl) h17 hK
theorem d67_102 : decode (mC 67) 102 = .ok (.iload_n 1, 1) := by decide +kernel
theorem x67_102 {sc : aSc} {d : Nat} {r : aRes} {a0 : Value} {x1 : Int32} {a2 : Value} {st : List Value} {σ : aS} : Rn sc d 67 102 [a0, .int x1, a2] st σ r ↔ Rn sc d 67 103 [a0, .int x1, a2] (.int x1 :: st) σ r := r_iload_n d67_102 rfl
theorem d67_103 : decode (mC 67) 103 = .ok (.ishr, 1) := by decide +kernel
theorem x67_103 {sc : aSc} {d : Nat} {r : aRes} {L : List Value} {st : List Value} {σ : aS} {x y : Int32} : Rn sc d 67 103 L (.int y :: .int x :: st) σ r ↔ Rn sc d 67 104 L (.int (x >>> (y &&& 31)) :: st) σ r := r_ishr d67_103
theorem d67_104 : decode (mC 67) 104 = .ok (.iconst 1, 1) := by decide +kernel
theorem x67_104 {sc : aSc} {d : Nat} {r : aRes} {L : List Value} {st : List Value} {σ : aS} : Rn sc d 67 104 L st σ r ↔ Rn sc d 67 105 L (.int 1 :: st) σ r := r_iconst d67_104 (by decide)
theorem d67_105 : decode (mC 67) 105 = .ok (.iand, 1) := by decide +kernel
theorem x67_105 {sc : aSc} {d : Nat} {r : aRes} {L : List Value} {st : List Value} {σ : aS} {x y : Int32} : Rn sc d 67 105 L (.int y :: .int x :: st) σ r ↔ Rn sc d 67 106 L (.int (x &&& y) :: st) σ r := r_iand d67_105
theorem d67_106 : decode (mC 67) 106 = .ok (.ireturn, 1) := by decide +kernel
theorem x67_106 {sc : aSc} {d : Nat} {r : aRes} {L : List Value} {σ : aS} {x : Int32} : Rn sc d 67 106 L [.int x] σ r ↔ r = (σ, some (.int x)) := r_iret d67_106 rfl rfl
theorem d67_107 : decode (mC 67) 107 = .ok (.aload_n 0, 1) := by decide +kernel
theorem x67_107 {sc : aSc} {d : Nat} {r : aRes} {x0 : Nat} {a1 : Value} {a2 : Value} {st : List Value} {σ : aS} : Rn sc d 67 107 [.ref x0, a1, a2] st σ r ↔ Rn sc d 67 108 [.ref x0, a1, a2] (.ref x0 :: st) σ r := r_aload_n d67_107 rfl
theorem d67_108 : decode (mC 67) 108 = .ok (.getfield 50, 3) := by decide +kernel
theorem x67_108 {sc : aSc} {d : Nat} {r : aRes} {L : List Value} {st : List Value} {f : Nat → Nat → Int32} {g : Nat → Nat → Int64} {h1 h2 : Nat} {o : Nat} (hK : KK[o]? = some (.inl 6)) (hR : (RR h1 h2 o 0).isSome = true) : Rn sc d 67 108 L (.ref o :: st) (cS f g h1 h2) r ↔ Rn sc d 67 111 L (.ref (rf h1 h2 o 0) :: st) (cS f g h1 h2) r := r_getR2 d67_108 (ci := 6) (k := 0) rfl (by decide) (fun _ => rfl) hK hR
theorem d67_111 : decode (mC 67) 111 = .ok (.getfield 91, 3) := by decide +kernel
theorem x67_111 {sc : aSc} {d : Nat} {r : aRes} {L : List Value} {st : List Value} {f : Nat → Nat → Int32} {g : Nat → Nat → Int64} {h1 h2 : Nat} {o : Nat} (hK : KK[o]? = some (.inl 1)) (hR : (RR h1 h2 o 9).isSome = true) : Rn sc d 67 111 L (.ref o :: st) (cS f g h1 h2) r ↔ Rn sc d 67 114 L (.ref (rf h1 h2 o 9) :: st) (cS f g h1 h2) r := r_getR2 d67_111 (ci := 1) (k := 9) rfl (by decide) (fun _ => rfl) hK hR
theorem d67_114 : decode (mC 67) 114 = .ok (.iload_n 1, 1) := by decide +kernel
theorem x67_114 {sc : aSc} {d : Nat} {r : aRes} {a0 : Value} {x1 : Int32} {a2 : Value} {st : List Value} {σ : aS} : Rn sc d 67 114 [a0, .int x1, a2] st σ r ↔ Rn sc d 67 115 [a0, .int x1, a2] (.int x1 :: st) σ r := r_iload_n d67_114 rfl
theorem d67_115 : decode (mC 67) 115 = .ok (.iaload, 1) := by decide +kernel
theorem x67_115 {sc : aSc} {d : Nat} {r : aRes} {L : List Value} {st : List Value} {f : Nat → Nat → Int32} {g : Nat → Nat → Int64} {h1 h2 : Nat} {a : Nat} {i : Int32} (h17 : 17 ≤ a) (hA : isT9 .int a) (hi : inb i (aln a) = true) : Rn sc d 67 115 L (.int i :: .ref a :: st) (cS f g h1 h2) r ↔ Rn sc d 67 116 L (.int (f a i.toNatClampNeg) :: st) (cS f g h1 h2) r := r_iald d67_115 h17 hA hi
theorem d67_116 : decode (mC 67) 116 = .ok (.ireturn, 1) := by decide +kernel
theorem x67_116 {sc : aSc} {d : Nat} {r : aRes} {L : List Value} {σ : aS} {x : Int32} : Rn sc d 67 116 L [.int x] σ r ↔ r = (σ, some (.int x)) := r_iret d67_116 rfl rfl
theorem d67_117 : decode (mC 67) 117 = .ok (.aload_n 0, 1) := by decide +kernel
theorem x67_117 {sc : aSc} {d : Nat} {r : aRes} {x0 : Nat} {a1 : Value} {a2 : Value} {st : List Value} {σ : aS} : Rn sc d 67 117 [.ref x0, a1, a2] st σ r ↔ Rn sc d 67 118 [.ref x0, a1, a2] (.ref x0 :: st) σ r := r_aload_n d67_117 rfl
theorem d67_118 : decode (mC 67) 118 = .ok (.getfield 50, 3) := by decide +kernel
theorem x67_118 {sc : aSc} {d : Nat} {r : aRes} {L : List Value} {st : List Value} {f : Nat → Nat → Int32} {g : Nat → Nat → Int64} {h1 h2 : Nat} {o : Nat} (hK : KK[o]? = some (.inl 6)) (hR : (RR h1 h2 o 0).isSome = true) : Rn sc d 67 118 L (.ref o :: st) (cS f g h1 h2) r ↔ Rn sc d 67 121 L (.ref (rf h1 h2 o 0) :: st) (cS f g h1 h2) r := r_getR2 d67_118 (ci := 6) (k := 0) rfl (by decide) (fun _ => rfl) hK hR
theorem d67_121 : decode (mC 67) 121 = .ok (.iload_n 1, 1) := by decide +kernel
theorem x67_121 {sc : aSc} {d : Nat} {r : aRes} {a0 : Value} {x1 : Int32} {a2 : Value} {st : List Value} {σ : aS} : Rn sc d 67 121 [a0, .int x1, a2] st σ r ↔ Rn sc d 67 122 [a0, .int x1, a2] (.int x1 :: st) σ r := r_iload_n d67_121 rfl
theorem d67_122 : decode (mC 67) 122 = .ok (.invokevirtual 94, 3) := by decide +kernel
theorem x67_122 {sc : aSc} {d : Nat} {r : aRes} {L : List Value} {f : Nat → Nat → Int32} {g : Nat → Nat → Int64} {h1 h2 : Nat} {y0 : Int32}  {o : Nat} (hK : KK[o]? = some (.inl 1)) : Rn sc d 67 122 L [.int y0, .ref o] (cS f g h1 h2) r ↔ ∃ (σ3 : aS) (v : Option Value), Cl sc d 15 [.ref o, .int y0] (cS f g h1 h2) (σ3, v) ∧ Rn sc d 67 125 L (v.toList ++ []) σ3 r := r_callV (vs := [.int y0]) d67_122 (j := 15) rfl ⟨rfl, by decide, rfl, rfl⟩ (Nat.le_of_ble_eq_true rfl) hK
theorem d67_125 : decode (mC 67) 125 = .ok (.ireturn, 1) := by decide +kernel
theorem x67_125 {sc : aSc} {d : Nat} {r : aRes} {L : List Value} {σ : aS} {x : Int32} : Rn sc d 67 125 L [.int x] σ r ↔ r = (σ, some (.int x)) := r_iret d67_125 rfl rfl
theorem d67_126 : decode (mC 67) 126 = .ok (.iconst (-1), 1) := by decide +kernel
theorem x67_126 {sc : aSc} {d : Nat} {r : aRes} {L : List Value} {st : List Value} {σ : aS} : Rn sc d 67 126 L st σ r ↔ Rn sc d 67 127 L (.int (-1) :: st) σ r := r_iconst d67_126 (by decide)
theorem d67_127 : decode (mC 67) 127 = .ok (.ireturn, 1) := by decide +kernel
theorem x67_127 {sc : aSc} {d : Nat} {r : aRes} {L : List Value} {σ : aS} {x : Int32} : Rn sc d 67 127 L [.int x] σ r ↔ r = (σ, some (.int x)) := r_iret d67_127 rfl rfl
theorem d68_0 : decode (mC 68) 0 = .ok (.aload_n 0, 1) := by decide +kernel
theorem x68_0 {sc : aSc} {d : Nat} {r : aRes} {x0 : Nat} {a1 : Value} {a2 : Value} {a3 : Value} {st : List Value} {σ : aS} : Rn sc d 68 0 [.ref x0, a1, a2, a3] st σ r ↔ Rn sc d 68 1 [.ref x0, a1, a2, a3] (.ref x0 :: st) σ r := r_aload_n d68_0 rfl
theorem d68_1 : decode (mC 68) 1 = .ok (.getfield 50, 3) := by decide +kernel
theorem x68_1 {sc : aSc} {d : Nat} {r : aRes} {L : List Value} {st : List Value} {f : Nat → Nat → Int32} {g : Nat → Nat → Int64} {h1 h2 : Nat} {o : Nat} (hK : KK[o]? = some (.inl 6)) (hR : (RR h1 h2 o 0).isSome = true) : Rn sc d 68 1 L (.ref o :: st) (cS f g h1 h2) r ↔ Rn sc d 68 4 L (.ref (rf h1 h2 o 0) :: st) (cS f g h1 h2) r := r_getR2 d68_1 (ci := 6) (k := 0) rfl (by decide) (fun _ => rfl) hK hR
theorem d68_4 : decode (mC 68) 4 = .ok (.iload_n 1, 1) := by decide +kernel
theorem x68_4 {sc : aSc} {d : Nat} {r : aRes} {a0 : Value} {x1 : Int32} {a2 : Value} {a3 : Value} {st : List Value} {σ : aS} : Rn sc d 68 4 [a0, .int x1, a2, a3] st σ r ↔ Rn sc d 68 5 [a0, .int x1, a2, a3] (.int x1 :: st) σ r := r_iload_n d68_4 rfl
theorem d68_5 : decode (mC 68) 5 = .ok (.invokevirtual 70, 3) := by decide +kernel
theorem x68_5 {sc : aSc} {d : Nat} {r : aRes} {L : List Value} {f : Nat → Nat → Int32} {g : Nat → Nat → Int64} {h1 h2 : Nat} {y0 : Int32}  {o : Nat} (hK : KK[o]? = some (.inl 1)) : Rn sc d 68 5 L [.int y0, .ref o] (cS f g h1 h2) r ↔ ∃ (σ3 : aS) (v : Option Value), Cl sc d 7 [.ref o, .int y0] (cS f g h1 h2) (σ3, v) ∧ Rn sc d 68 8 L (v.toList ++ []) σ3 r := r_callV (vs := [.int y0]) d68_5 (j := 7) rfl ⟨rfl, by decide, rfl, rfl⟩ (Nat.le_of_ble_eq_true rfl) hK
theorem d68_8 : decode (mC 68) 8 = .ok (.ifCond .eq 11, 3) := by decide +kernel
theorem x68_8 {sc : aSc} {d : Nat} {r : aRes} {L : List Value} {st : List Value} {σ : aS} {x : Int32} : Rn sc d 68 8 L (.int x :: st) σ r ↔ if x = 0 then Rn sc d 68 19 L st σ r else Rn sc d 68 11 L st σ r := r_if_eq d68_8 rfl
theorem d68_11 : decode (mC 68) 11 = .ok (.iload_n 2, 1) := by decide +kernel
theorem x68_11 {sc : aSc} {d : Nat} {r : aRes} {a0 : Value} {a1 : Value} {x2 : Int32} {a3 : Value} {st : List Value} {σ : aS} : Rn sc d 68 11 [a0, a1, .int x2, a3] st σ r ↔ Rn sc d 68 12 [a0, a1, .int x2, a3] (.int x2 :: st) σ r := r_iload_n d68_11 rfl
theorem d68_12 : decode (mC 68) 12 = .ok (.iconst 1, 1) := by decide +kernel
theorem x68_12 {sc : aSc} {d : Nat} {r : aRes} {L : List Value} {st : List Value} {σ : aS} : Rn sc d 68 12 L st σ r ↔ Rn sc d 68 13 L (.int 1 :: st) σ r := r_iconst d68_12 (by decide)
theorem d68_13 : decode (mC 68) 13 = .ok (.invokestatic 58, 3) := by decide +kernel
theorem x68_13 {sc : aSc} {d : Nat} {r : aRes} {L : List Value} {σ : aS} {y0 : Int32} {y1 : Int32}  : Rn sc d 68 13 L [.int y0, .int y1] σ r ↔ ∃ (σ3 : aS) (v : Option Value), Cl sc d 102 [.int y1, .int y0] σ (σ3, v) ∧ Rn sc d 68 16 L (v.toList ++ []) σ3 r := r_callS (vs := [.int y0, .int y1]) d68_13 rfl (j := 102) rfl ⟨rfl, by decide, rfl, rfl⟩ (Nat.le_of_ble_eq_true rfl)
theorem d68_16 : decode (mC 68) 16 = .ok (.ifCond .ne 5, 3) := by decide +kernel
theorem x68_16 {sc : aSc} {d : Nat} {r : aRes} {L : List Value} {st : List Value} {σ : aS} {x : Int32} : Rn sc d 68 16 L (.int x :: st) σ r ↔ if x = 0 then Rn sc d 68 19 L st σ r else Rn sc d 68 21 L st σ r := r_if_ne d68_16 rfl
theorem d68_19 : decode (mC 68) 19 = .ok (.iconst (-1), 1) := by decide +kernel
theorem x68_19 {sc : aSc} {d : Nat} {r : aRes} {L : List Value} {st : List Value} {σ : aS} : Rn sc d 68 19 L st σ r ↔ Rn sc d 68 20 L (.int (-1) :: st) σ r := r_iconst d68_19 (by decide)
theorem d68_20 : decode (mC 68) 20 = .ok (.ireturn, 1) := by decide +kernel
theorem x68_20 {sc : aSc} {d : Nat} {r : aRes} {L : List Value} {σ : aS} {x : Int32} : Rn sc d 68 20 L [.int x] σ r ↔ r = (σ, some (.int x)) := r_iret d68_20 rfl rfl
theorem d68_21 : decode (mC 68) 21 = .ok (.iload_n 3, 1) := by decide +kernel
theorem x68_21 {sc : aSc} {d : Nat} {r : aRes} {a0 : Value} {a1 : Value} {a2 : Value} {x3 : Int32} {st : List Value} {σ : aS} : Rn sc d 68 21 [a0, a1, a2, .int x3] st σ r ↔ Rn sc d 68 22 [a0, a1, a2, .int x3] (.int x3 :: st) σ r := r_iload_n d68_21 rfl
theorem d68_22 : decode (mC 68) 22 = .ok (.iload_n 2, 1) := by decide +kernel
theorem x68_22 {sc : aSc} {d : Nat} {r : aRes} {a0 : Value} {a1 : Value} {x2 : Int32} {a3 : Value} {st : List Value} {σ : aS} : Rn sc d 68 22 [a0, a1, .int x2, a3] st σ r ↔ Rn sc d 68 23 [a0, a1, .int x2, a3] (.int x2 :: st) σ r := r_iload_n d68_22 rfl
theorem d68_23 : decode (mC 68) 23 = .ok (.ifCond .ne 8, 3) := by decide +kernel
theorem x68_23 {sc : aSc} {d : Nat} {r : aRes} {L : List Value} {st : List Value} {σ : aS} {x : Int32} : Rn sc d 68 23 L (.int x :: st) σ r ↔ if x = 0 then Rn sc d 68 26 L st σ r else Rn sc d 68 31 L st σ r := r_if_ne d68_23 rfl
theorem d68_26 : decode (mC 68) 26 = .ok (.bipush 99, 2) := by decide +kernel
theorem x68_26 {sc : aSc} {d : Nat} {r : aRes} {L : List Value} {st : List Value} {σ : aS} : Rn sc d 68 26 L st σ r ↔ Rn sc d 68 28 L (.int 99 :: st) σ r := r_bipush d68_26 (by decide)
theorem d68_28 : decode (mC 68) 28 = .ok (.goto 4, 3) := by decide +kernel
theorem x68_28 {sc : aSc} {d : Nat} {r : aRes} {L : List Value} {st : List Value} {σ : aS} : Rn sc d 68 28 L st σ r ↔ Rn sc d 68 32 L st σ r := r_goto d68_28 rfl
theorem d68_31 : decode (mC 68) 31 = .ok (.iconst 1, 1) := by decide +kernel
theorem x68_31 {sc : aSc} {d : Nat} {r : aRes} {L : List Value} {st : List Value} {σ : aS} : Rn sc d 68 31 L st σ r ↔ Rn sc d 68 32 L (.int 1 :: st) σ r := r_iconst d68_31 (by decide)
theorem d68_32 : decode (mC 68) 32 = .ok (.invokestatic 58, 3) := by decide +kernel
theorem x68_32 {sc : aSc} {d : Nat} {r : aRes} {L : List Value} {σ : aS} {y0 : Int32} {y1 : Int32}  : Rn sc d 68 32 L [.int y0, .int y1] σ r ↔ ∃ (σ3 : aS) (v : Option Value), Cl sc d 102 [.int y1, .int y0] σ (σ3, v) ∧ Rn sc d 68 35 L (v.toList ++ []) σ3 r := r_callS (vs := [.int y0, .int y1]) d68_32 rfl (j := 102) rfl ⟨rfl, by decide, rfl, rfl⟩ (Nat.le_of_ble_eq_true rfl)
theorem d68_35 : decode (mC 68) 35 = .ok (.ifCond .ne 6, 3) := by decide +kernel
theorem x68_35 {sc : aSc} {d : Nat} {r : aRes} {L : List Value} {st : List Value} {σ : aS} {x : Int32} : Rn sc d 68 35 L (.int x :: st) σ r ↔ if x = 0 then Rn sc d 68 38 L st σ r else Rn sc d 68 41 L st σ r := r_if_ne d68_35 rfl
theorem d68_38 : decode (mC 68) 38 = .ok (.bipush (-2), 2) := by decide +kernel
theorem x68_38 {sc : aSc} {d : Nat} {r : aRes} {L : List Value} {st : List Value} {σ : aS} : Rn sc d 68 38 L st σ r ↔ Rn sc d 68 40 L (.int (-2) :: st) σ r := r_bipush d68_38 (by decide)
theorem d68_40 : decode (mC 68) 40 = .ok (.ireturn, 1) := by decide +kernel
theorem x68_40 {sc : aSc} {d : Nat} {r : aRes} {L : List Value} {σ : aS} {x : Int32} : Rn sc d 68 40 L [.int x] σ r ↔ r = (σ, some (.int x)) := r_iret d68_40 rfl rfl
theorem d68_41 : decode (mC 68) 41 = .ok (.iload_n 2, 1) := by decide +kernel
theorem x68_41 {sc : aSc} {d : Nat} {r : aRes} {a0 : Value} {a1 : Value} {x2 : Int32} {a3 : Value} {st : List Value} {σ : aS} : Rn sc d 68 41 [a0, a1, .int x2, a3] st σ r ↔ Rn sc d 68 42 [a0, a1, .int x2, a3] (.int x2 :: st) σ r := r_iload_n d68_41 rfl
theorem d68_42 : decode (mC 68) 42 = .ok (.ifCond .ne 15, 3) := by decide +kernel
theorem x68_42 {sc : aSc} {d : Nat} {r : aRes} {L : List Value} {st : List Value} {σ : aS} {x : Int32} : Rn sc d 68 42 L (.int x :: st) σ r ↔ if x = 0 then Rn sc d 68 45 L st σ r else Rn sc d 68 57 L st σ r := r_if_ne d68_42 rfl
theorem d68_45 : decode (mC 68) 45 = .ok (.aload_n 0, 1) := by decide +kernel
theorem x68_45 {sc : aSc} {d : Nat} {r : aRes} {x0 : Nat} {a1 : Value} {a2 : Value} {a3 : Value} {st : List Value} {σ : aS} : Rn sc d 68 45 [.ref x0, a1, a2, a3] st σ r ↔ Rn sc d 68 46 [.ref x0, a1, a2, a3] (.ref x0 :: st) σ r := r_aload_n d68_45 rfl
theorem d68_46 : decode (mC 68) 46 = .ok (.getfield 50, 3) := by decide +kernel
theorem x68_46 {sc : aSc} {d : Nat} {r : aRes} {L : List Value} {st : List Value} {f : Nat → Nat → Int32} {g : Nat → Nat → Int64} {h1 h2 : Nat} {o : Nat} (hK : KK[o]? = some (.inl 6)) (hR : (RR h1 h2 o 0).isSome = true) : Rn sc d 68 46 L (.ref o :: st) (cS f g h1 h2) r ↔ Rn sc d 68 49 L (.ref (rf h1 h2 o 0) :: st) (cS f g h1 h2) r := r_getR2 d68_46 (ci := 6) (k := 0) rfl (by decide) (fun _ => rfl) hK hR
theorem d68_49 : decode (mC 68) 49 = .ok (.iload_n 1, 1) := by decide +kernel
theorem x68_49 {sc : aSc} {d : Nat} {r : aRes} {a0 : Value} {x1 : Int32} {a2 : Value} {a3 : Value} {st : List Value} {σ : aS} : Rn sc d 68 49 [a0, .int x1, a2, a3] st σ r ↔ Rn sc d 68 50 [a0, .int x1, a2, a3] (.int x1 :: st) σ r := r_iload_n d68_49 rfl
theorem d68_50 : decode (mC 68) 50 = .ok (.iload_n 3, 1) := by decide +kernel
theorem x68_50 {sc : aSc} {d : Nat} {r : aRes} {a0 : Value} {a1 : Value} {a2 : Value} {x3 : Int32} {st : List Value} {σ : aS} : Rn sc d 68 50 [a0, a1, a2, .int x3] st σ r ↔ Rn sc d 68 51 [a0, a1, a2, .int x3] (.int x3 :: st) σ r := r_iload_n d68_50 rfl
theorem d68_51 : decode (mC 68) 51 = .ok (.invokevirtual 97, 3) := by decide +kernel
theorem x68_51 {sc : aSc} {d : Nat} {r : aRes} {L : List Value} {f : Nat → Nat → Int32} {g : Nat → Nat → Int64} {h1 h2 : Nat} {y0 : Int32} {y1 : Int32}  {o : Nat} (hK : KK[o]? = some (.inl 1)) : Rn sc d 68 51 L [.int y0, .int y1, .ref o] (cS f g h1 h2) r ↔ ∃ (σ3 : aS) (v : Option Value), Cl sc d 10 [.ref o, .int y1, .int y0] (cS f g h1 h2) (σ3, v) ∧ Rn sc d 68 54 L (v.toList ++ []) σ3 r := r_callV (vs := [.int y0, .int y1]) d68_51 (j := 10) rfl ⟨rfl, by decide, rfl, rfl⟩ (Nat.le_of_ble_eq_true rfl) hK
theorem d68_54 : decode (mC 68) 54 = .ok (.goto 12, 3) := by decide +kernel
theorem x68_54 {sc : aSc} {d : Nat} {r : aRes} {L : List Value} {st : List Value} {σ : aS} : Rn sc d 68 54 L st σ r ↔ Rn sc d 68 66 L st σ r := r_goto d68_54 rfl
theorem d68_57 : decode (mC 68) 57 = .ok (.aload_n 0, 1) := by decide +kernel
theorem x68_57 {sc : aSc} {d : Nat} {r : aRes} {x0 : Nat} {a1 : Value} {a2 : Value} {a3 : Value} {st : List Value} {σ : aS} : Rn sc d 68 57 [.ref x0, a1, a2, a3] st σ r ↔ Rn sc d 68 58 [.ref x0, a1, a2, a3] (.ref x0 :: st) σ r := r_aload_n d68_57 rfl
theorem d68_58 : decode (mC 68) 58 = .ok (.getfield 50, 3) := by decide +kernel
theorem x68_58 {sc : aSc} {d : Nat} {r : aRes} {L : List Value} {st : List Value} {f : Nat → Nat → Int32} {g : Nat → Nat → Int64} {h1 h2 : Nat} {o : Nat} (hK : KK[o]? = some (.inl 6)) (hR : (RR h1 h2 o 0).isSome = true) : Rn sc d 68 58 L (.ref o :: st) (cS f g h1 h2) r ↔ Rn sc d 68 61 L (.ref (rf h1 h2 o 0) :: st) (cS f g h1 h2) r := r_getR2 d68_58 (ci := 6) (k := 0) rfl (by decide) (fun _ => rfl) hK hR
theorem d68_61 : decode (mC 68) 61 = .ok (.iload_n 1, 1) := by decide +kernel
theorem x68_61 {sc : aSc} {d : Nat} {r : aRes} {a0 : Value} {x1 : Int32} {a2 : Value} {a3 : Value} {st : List Value} {σ : aS} : Rn sc d 68 61 [a0, .int x1, a2, a3] st σ r ↔ Rn sc d 68 62 [a0, .int x1, a2, a3] (.int x1 :: st) σ r := r_iload_n d68_61 rfl
theorem d68_62 : decode (mC 68) 62 = .ok (.iload_n 3, 1) := by decide +kernel
theorem x68_62 {sc : aSc} {d : Nat} {r : aRes} {a0 : Value} {a1 : Value} {a2 : Value} {x3 : Int32} {st : List Value} {σ : aS} : Rn sc d 68 62 [a0, a1, a2, .int x3] st σ r ↔ Rn sc d 68 63 [a0, a1, a2, .int x3] (.int x3 :: st) σ r := r_iload_n d68_62 rfl
theorem d68_63 : decode (mC 68) 63 = .ok (.invokevirtual 101, 3) := by decide +kernel
theorem x68_63 {sc : aSc} {d : Nat} {r : aRes} {L : List Value} {f : Nat → Nat → Int32} {g : Nat → Nat → Int64} {h1 h2 : Nat} {y0 : Int32} {y1 : Int32}  {o : Nat} (hK : KK[o]? = some (.inl 1)) : Rn sc d 68 63 L [.int y0, .int y1, .ref o] (cS f g h1 h2) r ↔ ∃ (σ3 : aS) (v : Option Value), Cl sc d 11 [.ref o, .int y1, .int y0] (cS f g h1 h2) (σ3, v) ∧ Rn sc d 68 66 L (v.toList ++ []) σ3 r := r_callV (vs := [.int y0, .int y1]) d68_63 (j := 11) rfl ⟨rfl, by decide, rfl, rfl⟩ (Nat.le_of_ble_eq_true rfl) hK
theorem d68_66 : decode (mC 68) 66 = .ok (.ireturn, 1) := by decide +kernel
theorem x68_66 {sc : aSc} {d : Nat} {r : aRes} {L : List Value} {σ : aS} {x : Int32} : Rn sc d 68 66 L [.int x] σ r ↔ r = (σ, some (.int x)) := r_iret d68_66 rfl rfl
theorem d69_0 : decode (mC 69) 0 = .ok (.aload_n 0, 1) := by decide +kernel
theorem x69_0 {sc : aSc} {d : Nat} {r : aRes} {x0 : Nat} {a1 : Value} {a2 : Value} {a3 : Value} {a4 : Value} {a5 : Value} {st : List Value} {σ : aS} : Rn sc d 69 0 [.ref x0, a1, a2, a3, a4, a5] st σ r ↔ Rn sc d 69 1 [.ref x0, a1, a2, a3, a4, a5] (.ref x0 :: st) σ r := r_aload_n d69_0 rfl
theorem d69_1 : decode (mC 69) 1 = .ok (.getfield 50, 3) := by decide +kernel
theorem x69_1 {sc : aSc} {d : Nat} {r : aRes} {L : List Value} {st : List Value} {f : Nat → Nat → Int32} {g : Nat → Nat → Int64} {h1 h2 : Nat} {o : Nat} (hK : KK[o]? = some (.inl 6)) (hR : (RR h1 h2 o 0).isSome = true) : Rn sc d 69 1 L (.ref o :: st) (cS f g h1 h2) r ↔ Rn sc d 69 4 L (.ref (rf h1 h2 o 0) :: st) (cS f g h1 h2) r := r_getR2 d69_1 (ci := 6) (k := 0) rfl (by decide) (fun _ => rfl) hK hR
theorem d69_4 : decode (mC 69) 4 = .ok (.iload_n 1, 1) := by decide +kernel
theorem x69_4 {sc : aSc} {d : Nat} {r : aRes} {a0 : Value} {x1 : Int32} {a2 : Value} {a3 : Value} {a4 : Value} {a5 : Value} {st : List Value} {σ : aS} : Rn sc d 69 4 [a0, .int x1, a2, a3, a4, a5] st σ r ↔ Rn sc d 69 5 [a0, .int x1, a2, a3, a4, a5] (.int x1 :: st) σ r := r_iload_n d69_4 rfl
theorem d69_5 : decode (mC 69) 5 = .ok (.invokevirtual 70, 3) := by decide +kernel
theorem x69_5 {sc : aSc} {d : Nat} {r : aRes} {L : List Value} {f : Nat → Nat → Int32} {g : Nat → Nat → Int64} {h1 h2 : Nat} {y0 : Int32}  {o : Nat} (hK : KK[o]? = some (.inl 1)) : Rn sc d 69 5 L [.int y0, .ref o] (cS f g h1 h2) r ↔ ∃ (σ3 : aS) (v : Option Value), Cl sc d 7 [.ref o, .int y0] (cS f g h1 h2) (σ3, v) ∧ Rn sc d 69 8 L (v.toList ++ []) σ3 r := r_callV (vs := [.int y0]) d69_5 (j := 7) rfl ⟨rfl, by decide, rfl, rfl⟩ (Nat.le_of_ble_eq_true rfl) hK
theorem d69_8 : decode (mC 69) 8 = .ok (.ifCond .eq 11, 3) := by decide +kernel
theorem x69_8 {sc : aSc} {d : Nat} {r : aRes} {L : List Value} {st : List Value} {σ : aS} {x : Int32} : Rn sc d 69 8 L (.int x :: st) σ r ↔ if x = 0 then Rn sc d 69 19 L st σ r else Rn sc d 69 11 L st σ r := r_if_eq d69_8 rfl
theorem d69_11 : decode (mC 69) 11 = .ok (.iload_n 2, 1) := by decide +kernel
theorem x69_11 {sc : aSc} {d : Nat} {r : aRes} {a0 : Value} {a1 : Value} {x2 : Int32} {a3 : Value} {a4 : Value} {a5 : Value} {st : List Value} {σ : aS} : Rn sc d 69 11 [a0, a1, .int x2, a3, a4, a5] st σ r ↔ Rn sc d 69 12 [a0, a1, .int x2, a3, a4, a5] (.int x2 :: st) σ r := r_iload_n d69_11 rfl
theorem d69_12 : decode (mC 69) 12 = .ok (.iconst 3, 1) := by decide +kernel
theorem x69_12 {sc : aSc} {d : Nat} {r : aRes} {L : List Value} {st : List Value} {σ : aS} : Rn sc d 69 12 L st σ r ↔ Rn sc d 69 13 L (.int 3 :: st) σ r := r_iconst d69_12 (by decide)
theorem d69_13 : decode (mC 69) 13 = .ok (.invokestatic 58, 3) := by decide +kernel
theorem x69_13 {sc : aSc} {d : Nat} {r : aRes} {L : List Value} {σ : aS} {y0 : Int32} {y1 : Int32}  : Rn sc d 69 13 L [.int y0, .int y1] σ r ↔ ∃ (σ3 : aS) (v : Option Value), Cl sc d 102 [.int y1, .int y0] σ (σ3, v) ∧ Rn sc d 69 16 L (v.toList ++ []) σ3 r := r_callS (vs := [.int y0, .int y1]) d69_13 rfl (j := 102) rfl ⟨rfl, by decide, rfl, rfl⟩ (Nat.le_of_ble_eq_true rfl)
theorem d69_16 : decode (mC 69) 16 = .ok (.ifCond .ne 5, 3) := by decide +kernel
theorem x69_16 {sc : aSc} {d : Nat} {r : aRes} {L : List Value} {st : List Value} {σ : aS} {x : Int32} : Rn sc d 69 16 L (.int x :: st) σ r ↔ if x = 0 then Rn sc d 69 19 L st σ r else Rn sc d 69 21 L st σ r := r_if_ne d69_16 rfl
theorem d69_19 : decode (mC 69) 19 = .ok (.iconst (-1), 1) := by decide +kernel
theorem x69_19 {sc : aSc} {d : Nat} {r : aRes} {L : List Value} {st : List Value} {σ : aS} : Rn sc d 69 19 L st σ r ↔ Rn sc d 69 20 L (.int (-1) :: st) σ r := r_iconst d69_19 (by decide)
theorem d69_20 : decode (mC 69) 20 = .ok (.ireturn, 1) := by decide +kernel
theorem x69_20 {sc : aSc} {d : Nat} {r : aRes} {L : List Value} {σ : aS} {x : Int32} : Rn sc d 69 20 L [.int x] σ r ↔ r = (σ, some (.int x)) := r_iret d69_20 rfl rfl
theorem d69_21 : decode (mC 69) 21 = .ok (.iload_n 3, 1) := by decide +kernel
theorem x69_21 {sc : aSc} {d : Nat} {r : aRes} {a0 : Value} {a1 : Value} {a2 : Value} {x3 : Int32} {a4 : Value} {a5 : Value} {st : List Value} {σ : aS} : Rn sc d 69 21 [a0, a1, a2, .int x3, a4, a5] st σ r ↔ Rn sc d 69 22 [a0, a1, a2, .int x3, a4, a5] (.int x3 :: st) σ r := r_iload_n d69_21 rfl
theorem d69_22 : decode (mC 69) 22 = .ok (.bipush 9, 2) := by decide +kernel
theorem x69_22 {sc : aSc} {d : Nat} {r : aRes} {L : List Value} {st : List Value} {σ : aS} : Rn sc d 69 22 L st σ r ↔ Rn sc d 69 24 L (.int 9 :: st) σ r := r_bipush d69_22 (by decide)
theorem d69_24 : decode (mC 69) 24 = .ok (.invokestatic 58, 3) := by decide +kernel
theorem x69_24 {sc : aSc} {d : Nat} {r : aRes} {L : List Value} {σ : aS} {y0 : Int32} {y1 : Int32}  : Rn sc d 69 24 L [.int y0, .int y1] σ r ↔ ∃ (σ3 : aS) (v : Option Value), Cl sc d 102 [.int y1, .int y0] σ (σ3, v) ∧ Rn sc d 69 27 L (v.toList ++ []) σ3 r := r_callS (vs := [.int y0, .int y1]) d69_24 rfl (j := 102) rfl ⟨rfl, by decide, rfl, rfl⟩ (Nat.le_of_ble_eq_true rfl)
theorem d69_27 : decode (mC 69) 27 = .ok (.ifCond .ne 6, 3) := by decide +kernel
theorem x69_27 {sc : aSc} {d : Nat} {r : aRes} {L : List Value} {st : List Value} {σ : aS} {x : Int32} : Rn sc d 69 27 L (.int x :: st) σ r ↔ if x = 0 then Rn sc d 69 30 L st σ r else Rn sc d 69 33 L st σ r := r_if_ne d69_27 rfl
theorem d69_30 : decode (mC 69) 30 = .ok (.bipush (-2), 2) := by decide +kernel
theorem x69_30 {sc : aSc} {d : Nat} {r : aRes} {L : List Value} {st : List Value} {σ : aS} : Rn sc d 69 30 L st σ r ↔ Rn sc d 69 32 L (.int (-2) :: st) σ r := r_bipush d69_30 (by decide)
theorem d69_32 : decode (mC 69) 32 = .ok (.ireturn, 1) := by decide +kernel
theorem x69_32 {sc : aSc} {d : Nat} {r : aRes} {L : List Value} {σ : aS} {x : Int32} : Rn sc d 69 32 L [.int x] σ r ↔ r = (σ, some (.int x)) := r_iret d69_32 rfl rfl
theorem d69_33 : decode (mC 69) 33 = .ok (.aload_n 0, 1) := by decide +kernel
theorem x69_33 {sc : aSc} {d : Nat} {r : aRes} {x0 : Nat} {a1 : Value} {a2 : Value} {a3 : Value} {a4 : Value} {a5 : Value} {st : List Value} {σ : aS} : Rn sc d 69 33 [.ref x0, a1, a2, a3, a4, a5] st σ r ↔ Rn sc d 69 34 [.ref x0, a1, a2, a3, a4, a5] (.ref x0 :: st) σ r := r_aload_n d69_33 rfl
theorem d69_34 : decode (mC 69) 34 = .ok (.getfield 50, 3) := by decide +kernel
theorem x69_34 {sc : aSc} {d : Nat} {r : aRes} {L : List Value} {st : List Value} {f : Nat → Nat → Int32} {g : Nat → Nat → Int64} {h1 h2 : Nat} {o : Nat} (hK : KK[o]? = some (.inl 6)) (hR : (RR h1 h2 o 0).isSome = true) : Rn sc d 69 34 L (.ref o :: st) (cS f g h1 h2) r ↔ Rn sc d 69 37 L (.ref (rf h1 h2 o 0) :: st) (cS f g h1 h2) r := r_getR2 d69_34 (ci := 6) (k := 0) rfl (by decide) (fun _ => rfl) hK hR
theorem d69_37 : decode (mC 69) 37 = .ok (.getfield 74, 3) := by decide +kernel
theorem x69_37 {sc : aSc} {d : Nat} {r : aRes} {L : List Value} {st : List Value} {f : Nat → Nat → Int32} {g : Nat → Nat → Int64} {h1 h2 : Nat} {o : Nat} (hK : KK[o]? = some (.inl 1)) (hR : (RR h1 h2 o 6).isSome = true) : Rn sc d 69 37 L (.ref o :: st) (cS f g h1 h2) r ↔ Rn sc d 69 40 L (.ref (rf h1 h2 o 6) :: st) (cS f g h1 h2) r := r_getR2 d69_37 (ci := 1) (k := 6) rfl (by decide) (fun _ => rfl) hK hR
theorem d69_40 : decode (mC 69) 40 = .ok (.iload_n 1, 1) := by decide +kernel
theorem x69_40 {sc : aSc} {d : Nat} {r : aRes} {a0 : Value} {x1 : Int32} {a2 : Value} {a3 : Value} {a4 : Value} {a5 : Value} {st : List Value} {σ : aS} : Rn sc d 69 40 [a0, .int x1, a2, a3, a4, a5] st σ r ↔ Rn sc d 69 41 [a0, .int x1, a2, a3, a4, a5] (.int x1 :: st) σ r := r_iload_n d69_40 rfl
theorem d69_41 : decode (mC 69) 41 = .ok (.iaload, 1) := by decide +kernel
theorem x69_41 {sc : aSc} {d : Nat} {r : aRes} {L : List Value} {st : List Value} {f : Nat → Nat → Int32} {g : Nat → Nat → Int64} {h1 h2 : Nat} {a : Nat} {i : Int32} (h17 : 17 ≤ a) (hA : isT9 .int a) (hi : inb i (aln a) = true) : Rn sc d 69 41 L (.int i :: .ref a :: st) (cS f g h1 h2) r ↔ Rn sc d 69 42 L (.int (f a i.toNatClampNeg) :: st) (cS f g h1 h2) r := r_iald d69_41 h17 hA hi
theorem d69_42 : decode (mC 69) 42 = .ok (.bipush 6, 2) := by decide +kernel
theorem x69_42 {sc : aSc} {d : Nat} {r : aRes} {L : List Value} {st : List Value} {σ : aS} : Rn sc d 69 42 L st σ r ↔ Rn sc d 69 44 L (.int 6 :: st) σ r := r_bipush d69_42 (by decide)
theorem d69_44 : decode (mC 69) 44 = .ok (.if_icmp .eq 6, 3) := by decide +kernel
theorem x69_44 {sc : aSc} {d : Nat} {r : aRes} {L : List Value} {st : List Value} {σ : aS} {x y : Int32} : Rn sc d 69 44 L (.int y :: .int x :: st) σ r ↔ if x = y then Rn sc d 69 50 L st σ r else Rn sc d 69 47 L st σ r := r_icmp_eq d69_44 rfl
theorem d69_47 : decode (mC 69) 47 = .ok (.bipush (-3), 2) := by decide +kernel
theorem x69_47 {sc : aSc} {d : Nat} {r : aRes} {L : List Value} {st : List Value} {σ : aS} : Rn sc d 69 47 L st σ r ↔ Rn sc d 69 49 L (.int (-3) :: st) σ r := r_bipush d69_47 (by decide)
theorem d69_49 : decode (mC 69) 49 = .ok (.ireturn, 1) := by decide +kernel
theorem x69_49 {sc : aSc} {d : Nat} {r : aRes} {L : List Value} {σ : aS} {x : Int32} : Rn sc d 69 49 L [.int x] σ r ↔ r = (σ, some (.int x)) := r_iret d69_49 rfl rfl
theorem d69_50 : decode (mC 69) 50 = .ok (.iload_n 1, 1) := by decide +kernel
theorem x69_50 {sc : aSc} {d : Nat} {r : aRes} {a0 : Value} {x1 : Int32} {a2 : Value} {a3 : Value} {a4 : Value} {a5 : Value} {st : List Value} {σ : aS} : Rn sc d 69 50 [a0, .int x1, a2, a3, a4, a5] st σ r ↔ Rn sc d 69 51 [a0, .int x1, a2, a3, a4, a5] (.int x1 :: st) σ r := r_iload_n d69_50 rfl
theorem d69_51 : decode (mC 69) 51 = .ok (.iconst 4, 1) := by decide +kernel
theorem x69_51 {sc : aSc} {d : Nat} {r : aRes} {L : List Value} {st : List Value} {σ : aS} : Rn sc d 69 51 L st σ r ↔ Rn sc d 69 52 L (.int 4 :: st) σ r := r_iconst d69_51 (by decide)
theorem d69_52 : decode (mC 69) 52 = .ok (.imul, 1) := by decide +kernel
theorem x69_52 {sc : aSc} {d : Nat} {r : aRes} {L : List Value} {st : List Value} {σ : aS} {x y : Int32} : Rn sc d 69 52 L (.int y :: .int x :: st) σ r ↔ Rn sc d 69 53 L (.int (x * y) :: st) σ r := r_imul d69_52
theorem d69_53 : decode (mC 69) 53 = .ok (.iload_n 2, 1) := by decide +kernel
theorem x69_53 {sc : aSc} {d : Nat} {r : aRes} {a0 : Value} {a1 : Value} {x2 : Int32} {a3 : Value} {a4 : Value} {a5 : Value} {st : List Value} {σ : aS} : Rn sc d 69 53 [a0, a1, .int x2, a3, a4, a5] st σ r ↔ Rn sc d 69 54 [a0, a1, .int x2, a3, a4, a5] (.int x2 :: st) σ r := r_iload_n d69_53 rfl
theorem d69_54 : decode (mC 69) 54 = .ok (.iadd, 1) := by decide +kernel
theorem x69_54 {sc : aSc} {d : Nat} {r : aRes} {L : List Value} {st : List Value} {σ : aS} {x y : Int32} : Rn sc d 69 54 L (.int y :: .int x :: st) σ r ↔ Rn sc d 69 55 L (.int (x + y) :: st) σ r := r_iadd d69_54
theorem d69_55 : decode (mC 69) 55 = .ok (.istore 4, 2) := by decide +kernel
theorem x69_55 {sc : aSc} {d : Nat} {r : aRes} {a0 : Value} {a1 : Value} {a2 : Value} {x3 : Int32} {a4 : Value} {a5 : Value} {st : List Value} {σ : aS} {y : Int32} : Rn sc d 69 55 [a0, a1, a2, .int x3, a4, a5] (.int y :: st) σ r ↔ Rn sc d 69 57 [a0, a1, a2, .int x3, .int y, a5] st σ r := r_istore d69_55 (Nat.le_of_ble_eq_true rfl) rfl
theorem d69_57 : decode (mC 69) 57 = .ok (.aload_n 0, 1) := by decide +kernel
theorem x69_57 {sc : aSc} {d : Nat} {r : aRes} {x0 : Nat} {a1 : Value} {a2 : Value} {a3 : Value} {a4 : Value} {a5 : Value} {st : List Value} {σ : aS} : Rn sc d 69 57 [.ref x0, a1, a2, a3, a4, a5] st σ r ↔ Rn sc d 69 58 [.ref x0, a1, a2, a3, a4, a5] (.ref x0 :: st) σ r := r_aload_n d69_57 rfl
theorem d69_58 : decode (mC 69) 58 = .ok (.getfield 50, 3) := by decide +kernel
theorem x69_58 {sc : aSc} {d : Nat} {r : aRes} {L : List Value} {st : List Value} {f : Nat → Nat → Int32} {g : Nat → Nat → Int64} {h1 h2 : Nat} {o : Nat} (hK : KK[o]? = some (.inl 6)) (hR : (RR h1 h2 o 0).isSome = true) : Rn sc d 69 58 L (.ref o :: st) (cS f g h1 h2) r ↔ Rn sc d 69 61 L (.ref (rf h1 h2 o 0) :: st) (cS f g h1 h2) r := r_getR2 d69_58 (ci := 6) (k := 0) rfl (by decide) (fun _ => rfl) hK hR
theorem d69_61 : decode (mC 69) 61 = .ok (.getfield 104, 3) := by decide +kernel
theorem x69_61 {sc : aSc} {d : Nat} {r : aRes} {L : List Value} {st : List Value} {f : Nat → Nat → Int32} {g : Nat → Nat → Int64} {h1 h2 : Nat} {o : Nat} (hK : KK[o]? = some (.inl 1)) (hR : (RR h1 h2 o 10).isSome = true) : Rn sc d 69 61 L (.ref o :: st) (cS f g h1 h2) r ↔ Rn sc d 69 64 L (.ref (rf h1 h2 o 10) :: st) (cS f g h1 h2) r := r_getR2 d69_61 (ci := 1) (k := 10) rfl (by decide) (fun _ => rfl) hK hR
theorem d69_64 : decode (mC 69) 64 = .ok (.iload 4, 2) := by decide +kernel
theorem x69_64 {sc : aSc} {d : Nat} {r : aRes} {a0 : Value} {a1 : Value} {a2 : Value} {a3 : Value} {x4 : Int32} {a5 : Value} {st : List Value} {σ : aS} : Rn sc d 69 64 [a0, a1, a2, a3, .int x4, a5] st σ r ↔ Rn sc d 69 66 [a0, a1, a2, a3, .int x4, a5] (.int x4 :: st) σ r := r_iload d69_64 rfl
theorem d69_66 : decode (mC 69) 66 = .ok (.iaload, 1) := by decide +kernel
theorem x69_66 {sc : aSc} {d : Nat} {r : aRes} {L : List Value} {st : List Value} {f : Nat → Nat → Int32} {g : Nat → Nat → Int64} {h1 h2 : Nat} {a : Nat} {i : Int32} (h17 : 17 ≤ a) (hA : isT9 .int a) (hi : inb i (aln a) = true) : Rn sc d 69 66 L (.int i :: .ref a :: st) (cS f g h1 h2) r ↔ Rn sc d 69 67 L (.int (f a i.toNatClampNeg) :: st) (cS f g h1 h2) r := r_iald d69_66 h17 hA hi
theorem d69_67 : decode (mC 69) 67 = .ok (.istore 5, 2) := by decide +kernel
theorem x69_67 {sc : aSc} {d : Nat} {r : aRes} {a0 : Value} {a1 : Value} {a2 : Value} {a3 : Value} {x4 : Int32} {a5 : Value} {st : List Value} {σ : aS} {y : Int32} : Rn sc d 69 67 [a0, a1, a2, a3, .int x4, a5] (.int y :: st) σ r ↔ Rn sc d 69 69 [a0, a1, a2, a3, .int x4, .int y] st σ r := r_istore d69_67 (Nat.le_of_ble_eq_true rfl) rfl
theorem d69_69 : decode (mC 69) 69 = .ok (.aload_n 0, 1) := by decide +kernel
theorem x69_69 {sc : aSc} {d : Nat} {r : aRes} {x0 : Nat} {a1 : Value} {a2 : Value} {a3 : Value} {a4 : Value} {a5 : Value} {st : List Value} {σ : aS} : Rn sc d 69 69 [.ref x0, a1, a2, a3, a4, a5] st σ r ↔ Rn sc d 69 70 [.ref x0, a1, a2, a3, a4, a5] (.ref x0 :: st) σ r := r_aload_n d69_69 rfl
theorem d69_70 : decode (mC 69) 70 = .ok (.getfield 50, 3) := by decide +kernel
theorem x69_70 {sc : aSc} {d : Nat} {r : aRes} {L : List Value} {st : List Value} {f : Nat → Nat → Int32} {g : Nat → Nat → Int64} {h1 h2 : Nat} {o : Nat} (hK : KK[o]? = some (.inl 6)) (hR : (RR h1 h2 o 0).isSome = true) : Rn sc d 69 70 L (.ref o :: st) (cS f g h1 h2) r ↔ Rn sc d 69 73 L (.ref (rf h1 h2 o 0) :: st) (cS f g h1 h2) r := r_getR2 d69_70 (ci := 6) (k := 0) rfl (by decide) (fun _ => rfl) hK hR
theorem d69_73 : decode (mC 69) 73 = .ok (.getfield 104, 3) := by decide +kernel
theorem x69_73 {sc : aSc} {d : Nat} {r : aRes} {L : List Value} {st : List Value} {f : Nat → Nat → Int32} {g : Nat → Nat → Int64} {h1 h2 : Nat} {o : Nat} (hK : KK[o]? = some (.inl 1)) (hR : (RR h1 h2 o 10).isSome = true) : Rn sc d 69 73 L (.ref o :: st) (cS f g h1 h2) r ↔ Rn sc d 69 76 L (.ref (rf h1 h2 o 10) :: st) (cS f g h1 h2) r := r_getR2 d69_73 (ci := 1) (k := 10) rfl (by decide) (fun _ => rfl) hK hR
theorem d69_76 : decode (mC 69) 76 = .ok (.iload 4, 2) := by decide +kernel
theorem x69_76 {sc : aSc} {d : Nat} {r : aRes} {a0 : Value} {a1 : Value} {a2 : Value} {a3 : Value} {x4 : Int32} {a5 : Value} {st : List Value} {σ : aS} : Rn sc d 69 76 [a0, a1, a2, a3, .int x4, a5] st σ r ↔ Rn sc d 69 78 [a0, a1, a2, a3, .int x4, a5] (.int x4 :: st) σ r := r_iload d69_76 rfl
theorem d69_78 : decode (mC 69) 78 = .ok (.iload_n 3, 1) := by decide +kernel
theorem x69_78 {sc : aSc} {d : Nat} {r : aRes} {a0 : Value} {a1 : Value} {a2 : Value} {x3 : Int32} {a4 : Value} {a5 : Value} {st : List Value} {σ : aS} : Rn sc d 69 78 [a0, a1, a2, .int x3, a4, a5] st σ r ↔ Rn sc d 69 79 [a0, a1, a2, .int x3, a4, a5] (.int x3 :: st) σ r := r_iload_n d69_78 rfl
theorem d69_79 : decode (mC 69) 79 = .ok (.iastore, 1) := by decide +kernel
theorem x69_79 {sc : aSc} {d : Nat} {r : aRes} {L : List Value} {st : List Value} {f : Nat → Nat → Int32} {g : Nat → Nat → Int64} {h1 h2 : Nat} {a : Nat} {i : Int32} {x : Int32} (h17 : 17 ≤ a) (hA : isT9 .int a) (hi : inb i (aln a) = true) : Rn sc d 69 79 L (.int x :: .int i :: .ref a :: st) (cS f g h1 h2) r ↔ Rn sc d 69 80 L st (cS (u2 f a i.toNatClampNeg x) g h1 h2) r := r_iast d69_79 h17 hA hi
theorem d69_80 : decode (mC 69) 80 = .ok (.iload 5, 2) := by decide +kernel
theorem x69_80 {sc : aSc} {d : Nat} {r : aRes} {a0 : Value} {a1 : Value} {a2 : Value} {a3 : Value} {a4 : Value} {x5 : Int32} {st : List Value} {σ : aS} : Rn sc d 69 80 [a0, a1, a2, a3, a4, .int x5] st σ r ↔ Rn sc d 69 82 [a0, a1, a2, a3, a4, .int x5] (.int x5 :: st) σ r := r_iload d69_80 rfl
theorem d69_82 : decode (mC 69) 82 = .ok (.ireturn, 1) := by decide +kernel
theorem x69_82 {sc : aSc} {d : Nat} {r : aRes} {L : List Value} {σ : aS} {x : Int32} : Rn sc d 69 82 L [.int x] σ r ↔ r = (σ, some (.int x)) := r_iret d69_82 rfl rfl
theorem d70_0 : decode (mC 70) 0 = .ok (.iload_n 1, 1) := by decide +kernel
theorem x70_0 {sc : aSc} {d : Nat} {r : aRes} {a0 : Value} {x1 : Int32} {st : List Value} {σ : aS} : Rn sc d 70 0 [a0, .int x1] st σ r ↔ Rn sc d 70 1 [a0, .int x1] (.int x1 :: st) σ r := r_iload_n d70_0 rfl
theorem d70_1 : decode (mC 70) 1 = .ok (.bipush 127, 2) := by decide +kernel
theorem x70_1 {sc : aSc} {d : Nat} {r : aRes} {L : List Value} {st : List Value} {σ : aS} : Rn sc d 70 1 L st σ r ↔ Rn sc d 70 3 L (.int 127 :: st) σ r := r_bipush d70_1 (by decide)
theorem d70_3 : decode (mC 70) 3 = .ok (.invokestatic 58, 3) := by decide +kernel
theorem x70_3 {sc : aSc} {d : Nat} {r : aRes} {L : List Value} {σ : aS} {y0 : Int32} {y1 : Int32}  : Rn sc d 70 3 L [.int y0, .int y1] σ r ↔ ∃ (σ3 : aS) (v : Option Value), Cl sc d 102 [.int y1, .int y0] σ (σ3, v) ∧ Rn sc d 70 6 L (v.toList ++ []) σ3 r := r_callS (vs := [.int y0, .int y1]) d70_3 rfl (j := 102) rfl ⟨rfl, by decide, rfl, rfl⟩ (Nat.le_of_ble_eq_true rfl)
theorem d70_6 : decode (mC 70) 6 = .ok (.ifCond .ne 6, 3) := by decide +kernel
theorem x70_6 {sc : aSc} {d : Nat} {r : aRes} {L : List Value} {st : List Value} {σ : aS} {x : Int32} : Rn sc d 70 6 L (.int x :: st) σ r ↔ if x = 0 then Rn sc d 70 9 L st σ r else Rn sc d 70 12 L st σ r := r_if_ne d70_6 rfl
theorem d70_9 : decode (mC 70) 9 = .ok (.bipush (-2), 2) := by decide +kernel
theorem x70_9 {sc : aSc} {d : Nat} {r : aRes} {L : List Value} {st : List Value} {σ : aS} : Rn sc d 70 9 L st σ r ↔ Rn sc d 70 11 L (.int (-2) :: st) σ r := r_bipush d70_9 (by decide)
theorem d70_11 : decode (mC 70) 11 = .ok (.ireturn, 1) := by decide +kernel
theorem x70_11 {sc : aSc} {d : Nat} {r : aRes} {L : List Value} {σ : aS} {x : Int32} : Rn sc d 70 11 L [.int x] σ r ↔ r = (σ, some (.int x)) := r_iret d70_11 rfl rfl
theorem d70_12 : decode (mC 70) 12 = .ok (.aload_n 0, 1) := by decide +kernel
theorem x70_12 {sc : aSc} {d : Nat} {r : aRes} {x0 : Nat} {a1 : Value} {st : List Value} {σ : aS} : Rn sc d 70 12 [.ref x0, a1] st σ r ↔ Rn sc d 70 13 [.ref x0, a1] (.ref x0 :: st) σ r := r_aload_n d70_12 rfl
theorem d70_13 : decode (mC 70) 13 = .ok (.getfield 12, 3) := by decide +kernel
theorem x70_13 {sc : aSc} {d : Nat} {r : aRes} {L : List Value} {st : List Value} {f : Nat → Nat → Int32} {g : Nat → Nat → Int64} {h1 h2 : Nat} {o : Nat} (hK : KK[o]? = some (.inl 6)) (hR : (RR h1 h2 o 3).isSome = true) : Rn sc d 70 13 L (.ref o :: st) (cS f g h1 h2) r ↔ Rn sc d 70 16 L (.ref (rf h1 h2 o 3) :: st) (cS f g h1 h2) r := r_getR2 d70_13 (ci := 6) (k := 3) rfl (by decide) (fun _ => rfl) hK hR
theorem d70_16 : decode (mC 70) 16 = .ok (.iload_n 1, 1) := by decide +kernel
theorem x70_16 {sc : aSc} {d : Nat} {r : aRes} {a0 : Value} {x1 : Int32} {st : List Value} {σ : aS} : Rn sc d 70 16 [a0, .int x1] st σ r ↔ Rn sc d 70 17 [a0, .int x1] (.int x1 :: st) σ r := r_iload_n d70_16 rfl
theorem d70_17 : decode (mC 70) 17 = .ok (.invokevirtual 107, 3) := by decide +kernel
theorem x70_17 {sc : aSc} {d : Nat} {r : aRes} {L : List Value} {f : Nat → Nat → Int32} {g : Nat → Nat → Int64} {h1 h2 : Nat} {y0 : Int32}  {o : Nat} (hK : KK[o]? = some (.inl 5)) : Rn sc d 70 17 L [.int y0, .ref o] (cS f g h1 h2) r ↔ ∃ (σ3 : aS) (v : Option Value), Cl sc d 55 [.ref o, .int y0] (cS f g h1 h2) (σ3, v) ∧ Rn sc d 70 20 L (v.toList ++ []) σ3 r := r_callV (vs := [.int y0]) d70_17 (j := 55) rfl ⟨rfl, by decide, rfl, rfl⟩ (Nat.le_of_ble_eq_true rfl) hK
theorem d70_20 : decode (mC 70) 20 = .ok (.ifCond .eq 13, 3) := by decide +kernel
theorem x70_20 {sc : aSc} {d : Nat} {r : aRes} {L : List Value} {st : List Value} {σ : aS} {x : Int32} : Rn sc d 70 20 L (.int x :: st) σ r ↔ if x = 0 then Rn sc d 70 33 L st σ r else Rn sc d 70 23 L st σ r := r_if_eq d70_20 rfl
theorem d70_23 : decode (mC 70) 23 = .ok (.aload_n 0, 1) := by decide +kernel
theorem x70_23 {sc : aSc} {d : Nat} {r : aRes} {x0 : Nat} {a1 : Value} {st : List Value} {σ : aS} : Rn sc d 70 23 [.ref x0, a1] st σ r ↔ Rn sc d 70 24 [.ref x0, a1] (.ref x0 :: st) σ r := r_aload_n d70_23 rfl
theorem d70_24 : decode (mC 70) 24 = .ok (.getfield 12, 3) := by decide +kernel
theorem x70_24 {sc : aSc} {d : Nat} {r : aRes} {L : List Value} {st : List Value} {f : Nat → Nat → Int32} {g : Nat → Nat → Int64} {h1 h2 : Nat} {o : Nat} (hK : KK[o]? = some (.inl 6)) (hR : (RR h1 h2 o 3).isSome = true) : Rn sc d 70 24 L (.ref o :: st) (cS f g h1 h2) r ↔ Rn sc d 70 27 L (.ref (rf h1 h2 o 3) :: st) (cS f g h1 h2) r := r_getR2 d70_24 (ci := 6) (k := 3) rfl (by decide) (fun _ => rfl) hK hR
theorem d70_27 : decode (mC 70) 27 = .ok (.getfield 109, 3) := by decide +kernel
theorem x70_27 {sc : aSc} {d : Nat} {r : aRes} {L : List Value} {st : List Value} {f : Nat → Nat → Int32} {g : Nat → Nat → Int64} {h1 h2 : Nat} {o : Nat} (h17 : 17 ≤ o) (hK : KK[o]? = some (.inl 5)) : Rn sc d 70 27 L (.ref o :: st) (cS f g h1 h2) r ↔ Rn sc d 70 30 L (.int (f o 1) :: st) (cS f g h1 h2) r := r_getI d70_27 (ci := 5) (k := 1) rfl (by decide) (fun _ => rfl) h17 hK
theorem d70_30 : decode (mC 70) 30 = .ok (.goto 5, 3) := by decide +kernel
theorem x70_30 {sc : aSc} {d : Nat} {r : aRes} {L : List Value} {st : List Value} {σ : aS} : Rn sc d 70 30 L st σ r ↔ Rn sc d 70 35 L st σ r := r_goto d70_30 rfl
theorem d70_33 : decode (mC 70) 33 = .ok (.bipush (-4), 2) := by decide +kernel
theorem x70_33 {sc : aSc} {d : Nat} {r : aRes} {L : List Value} {st : List Value} {σ : aS} : Rn sc d 70 33 L st σ r ↔ Rn sc d 70 35 L (.int (-4) :: st) σ r := r_bipush d70_33 (by decide)
theorem d70_35 : decode (mC 70) 35 = .ok (.ireturn, 1) := by decide +kernel
theorem x70_35 {sc : aSc} {d : Nat} {r : aRes} {L : List Value} {σ : aS} {x : Int32} : Rn sc d 70 35 L [.int x] σ r ↔ r = (σ, some (.int x)) := r_iret d70_35 rfl rfl
theorem d71_0 : decode (mC 71) 0 = .ok (.aload_n 0, 1) := by decide +kernel
theorem x71_0 {sc : aSc} {d : Nat} {r : aRes} {x0 : Nat} {a1 : Value} {a2 : Value} {st : List Value} {σ : aS} : Rn sc d 71 0 [.ref x0, a1, a2] st σ r ↔ Rn sc d 71 1 [.ref x0, a1, a2] (.ref x0 :: st) σ r := r_aload_n d71_0 rfl
theorem d71_1 : decode (mC 71) 1 = .ok (.getfield 112, 3) := by decide +kernel
theorem x71_1 {sc : aSc} {d : Nat} {r : aRes} {L : List Value} {st : List Value} {f : Nat → Nat → Int32} {g : Nat → Nat → Int64} {h1 h2 : Nat} {o : Nat} (h17 : 17 ≤ o) (hK : KK[o]? = some (.inl 6)) : Rn sc d 71 1 L (.ref o :: st) (cS f g h1 h2) r ↔ Rn sc d 71 4 L (.int (f o 5) :: st) (cS f g h1 h2) r := r_getI d71_1 (ci := 6) (k := 5) rfl (by decide) (fun _ => rfl) h17 hK
theorem d71_4 : decode (mC 71) 4 = .ok (.bipush 6, 2) := by decide +kernel
theorem x71_4 {sc : aSc} {d : Nat} {r : aRes} {L : List Value} {st : List Value} {σ : aS} : Rn sc d 71 4 L st σ r ↔ Rn sc d 71 6 L (.int 6 :: st) σ r := r_bipush d71_4 (by decide)
theorem d71_6 : decode (mC 71) 6 = .ok (.if_icmp .lt 6, 3) := by decide +kernel
theorem x71_6 {sc : aSc} {d : Nat} {r : aRes} {L : List Value} {st : List Value} {σ : aS} {x y : Int32} : Rn sc d 71 6 L (.int y :: .int x :: st) σ r ↔ if x < y then Rn sc d 71 12 L st σ r else Rn sc d 71 9 L st σ r := r_icmp_lt d71_6 rfl
theorem d71_9 : decode (mC 71) 9 = .ok (.bipush (-4), 2) := by decide +kernel
theorem x71_9 {sc : aSc} {d : Nat} {r : aRes} {L : List Value} {st : List Value} {σ : aS} : Rn sc d 71 9 L st σ r ↔ Rn sc d 71 11 L (.int (-4) :: st) σ r := r_bipush d71_9 (by decide)
theorem d71_11 : decode (mC 71) 11 = .ok (.ireturn, 1) := by decide +kernel
theorem x71_11 {sc : aSc} {d : Nat} {r : aRes} {L : List Value} {σ : aS} {x : Int32} : Rn sc d 71 11 L [.int x] σ r ↔ r = (σ, some (.int x)) := r_iret d71_11 rfl rfl
theorem d71_12 : decode (mC 71) 12 = .ok (.aload_n 0, 1) := by decide +kernel
theorem x71_12 {sc : aSc} {d : Nat} {r : aRes} {x0 : Nat} {a1 : Value} {a2 : Value} {st : List Value} {σ : aS} : Rn sc d 71 12 [.ref x0, a1, a2] st σ r ↔ Rn sc d 71 13 [.ref x0, a1, a2] (.ref x0 :: st) σ r := r_aload_n d71_12 rfl
theorem d71_13 : decode (mC 71) 13 = .ok (.getfield 20, 3) := by decide +kernel
theorem x71_13 {sc : aSc} {d : Nat} {r : aRes} {L : List Value} {st : List Value} {f : Nat → Nat → Int32} {g : Nat → Nat → Int64} {h1 h2 : Nat} {o : Nat} (hK : KK[o]? = some (.inl 6)) (hR : (RR h1 h2 o 4).isSome = true) : Rn sc d 71 13 L (.ref o :: st) (cS f g h1 h2) r ↔ Rn sc d 71 16 L (.ref (rf h1 h2 o 4) :: st) (cS f g h1 h2) r := r_getR2 d71_13 (ci := 6) (k := 4) rfl (by decide) (fun _ => rfl) hK hR
theorem d71_16 : decode (mC 71) 16 = .ok (.aload_n 0, 1) := by decide +kernel
theorem x71_16 {sc : aSc} {d : Nat} {r : aRes} {x0 : Nat} {a1 : Value} {a2 : Value} {st : List Value} {σ : aS} : Rn sc d 71 16 [.ref x0, a1, a2] st σ r ↔ Rn sc d 71 17 [.ref x0, a1, a2] (.ref x0 :: st) σ r := r_aload_n d71_16 rfl
theorem d71_17 : decode (mC 71) 17 = .ok (.getfield 112, 3) := by decide +kernel
theorem x71_17 {sc : aSc} {d : Nat} {r : aRes} {L : List Value} {st : List Value} {f : Nat → Nat → Int32} {g : Nat → Nat → Int64} {h1 h2 : Nat} {o : Nat} (h17 : 17 ≤ o) (hK : KK[o]? = some (.inl 6)) : Rn sc d 71 17 L (.ref o :: st) (cS f g h1 h2) r ↔ Rn sc d 71 20 L (.int (f o 5) :: st) (cS f g h1 h2) r := r_getI d71_17 (ci := 6) (k := 5) rfl (by decide) (fun _ => rfl) h17 hK
theorem d71_20 : decode (mC 71) 20 = .ok (.aaload, 1) := by decide +kernel
theorem x71_20 {sc : aSc} {d : Nat} {r : aRes} {L : List Value} {st : List Value} {f : Nat → Nat → Int32} {g : Nat → Nat → Int64} {h1 h2 : Nat} {a : Nat} {i : Int32} (h17 : 17 ≤ a) (hA : isG a) (hi : inb i (aln a) = true) (hR : (RR h1 h2 a i.toNatClampNeg).isSome = true) : Rn sc d 71 20 L (.int i :: .ref a :: st) (cS f g h1 h2) r ↔ Rn sc d 71 21 L (.ref (rf h1 h2 a i.toNatClampNeg) :: st) (cS f g h1 h2) r := r_aald2 d71_20 h17 hA hi hR
theorem d71_21 : decode (mC 71) 21 = .ok (.astore_n 1, 1) := by decide +kernel
theorem x71_21 {sc : aSc} {d : Nat} {r : aRes} {x0 : Nat} {a1 : Value} {a2 : Value} {st : List Value} {σ : aS} {y : Nat} : Rn sc d 71 21 [.ref x0, a1, a2] (.ref y :: st) σ r ↔ Rn sc d 71 22 [.ref x0, .ref y, a2] st σ r := r_astore_n d71_21 (Nat.le_of_ble_eq_true rfl) rfl
theorem d71_22 : decode (mC 71) 22 = .ok (.aload_n 0, 1) := by decide +kernel
theorem x71_22 {sc : aSc} {d : Nat} {r : aRes} {x0 : Nat} {a1 : Value} {a2 : Value} {st : List Value} {σ : aS} : Rn sc d 71 22 [.ref x0, a1, a2] st σ r ↔ Rn sc d 71 23 [.ref x0, a1, a2] (.ref x0 :: st) σ r := r_aload_n d71_22 rfl
theorem d71_23 : decode (mC 71) 23 = .ok (.getfield 12, 3) := by decide +kernel
theorem x71_23 {sc : aSc} {d : Nat} {r : aRes} {L : List Value} {st : List Value} {f : Nat → Nat → Int32} {g : Nat → Nat → Int64} {h1 h2 : Nat} {o : Nat} (hK : KK[o]? = some (.inl 6)) (hR : (RR h1 h2 o 3).isSome = true) : Rn sc d 71 23 L (.ref o :: st) (cS f g h1 h2) r ↔ Rn sc d 71 26 L (.ref (rf h1 h2 o 3) :: st) (cS f g h1 h2) r := r_getR2 d71_23 (ci := 6) (k := 3) rfl (by decide) (fun _ => rfl) hK hR
theorem d71_26 : decode (mC 71) 26 = .ok (.aload_n 1, 1) := by decide +kernel
theorem x71_26 {sc : aSc} {d : Nat} {r : aRes} {a0 : Value} {x1 : Nat} {a2 : Value} {st : List Value} {σ : aS} : Rn sc d 71 26 [a0, .ref x1, a2] st σ r ↔ Rn sc d 71 27 [a0, .ref x1, a2] (.ref x1 :: st) σ r := r_aload_n d71_26 rfl
theorem d71_27 : decode (mC 71) 27 = .ok (.invokevirtual 115, 3) := by decide +kernel
theorem x71_27 {sc : aSc} {d : Nat} {r : aRes} {L : List Value} {f : Nat → Nat → Int32} {g : Nat → Nat → Int64} {h1 h2 : Nat} {y0 : Nat}  {o : Nat} (hK : KK[o]? = some (.inl 5)) : Rn sc d 71 27 L [.ref y0, .ref o] (cS f g h1 h2) r ↔ ∃ (σ3 : aS) (v : Option Value), Cl sc d 56 [.ref o, .ref y0] (cS f g h1 h2) (σ3, v) ∧ Rn sc d 71 30 L (v.toList ++ []) σ3 r := r_callV (vs := [.ref y0]) d71_27 (j := 56) rfl ⟨rfl, by decide, rfl, rfl⟩ (Nat.le_of_ble_eq_true rfl) hK
theorem d71_30 : decode (mC 71) 30 = .ok (.istore_n 2, 1) := by decide +kernel
theorem x71_30 {sc : aSc} {d : Nat} {r : aRes} {a0 : Value} {x1 : Nat} {a2 : Value} {st : List Value} {σ : aS} {y : Int32} : Rn sc d 71 30 [a0, .ref x1, a2] (.int y :: st) σ r ↔ Rn sc d 71 31 [a0, .ref x1, .int y] st σ r := r_istore_n d71_30 (Nat.le_of_ble_eq_true rfl) rfl
theorem d71_31 : decode (mC 71) 31 = .ok (.aload_n 0, 1) := by decide +kernel
theorem x71_31 {sc : aSc} {d : Nat} {r : aRes} {x0 : Nat} {a1 : Value} {a2 : Value} {st : List Value} {σ : aS} : Rn sc d 71 31 [.ref x0, a1, a2] st σ r ↔ Rn sc d 71 32 [.ref x0, a1, a2] (.ref x0 :: st) σ r := r_aload_n d71_31 rfl
theorem d71_32 : decode (mC 71) 32 = .ok (.getfield 12, 3) := by decide +kernel
theorem x71_32 {sc : aSc} {d : Nat} {r : aRes} {L : List Value} {st : List Value} {f : Nat → Nat → Int32} {g : Nat → Nat → Int64} {h1 h2 : Nat} {o : Nat} (hK : KK[o]? = some (.inl 6)) (hR : (RR h1 h2 o 3).isSome = true) : Rn sc d 71 32 L (.ref o :: st) (cS f g h1 h2) r ↔ Rn sc d 71 35 L (.ref (rf h1 h2 o 3) :: st) (cS f g h1 h2) r := r_getR2 d71_32 (ci := 6) (k := 3) rfl (by decide) (fun _ => rfl) hK hR
theorem d71_35 : decode (mC 71) 35 = .ok (.iconst 0, 1) := by decide +kernel
theorem x71_35 {sc : aSc} {d : Nat} {r : aRes} {L : List Value} {st : List Value} {σ : aS} : Rn sc d 71 35 L st σ r ↔ Rn sc d 71 36 L (.int 0 :: st) σ r := r_iconst d71_35 (by decide)
theorem d71_36 : decode (mC 71) 36 = .ok (.putfield 109, 3) := by decide +kernel
theorem x71_36 {sc : aSc} {d : Nat} {r : aRes} {L : List Value} {st : List Value} {f : Nat → Nat → Int32} {g : Nat → Nat → Int64} {h1 h2 : Nat} {o : Nat} {v : Int32} (h17 : 17 ≤ o) (hK : KK[o]? = some (.inl 5)) : Rn sc d 71 36 L (.int v :: .ref o :: st) (cS f g h1 h2) r ↔ Rn sc d 71 39 L st (cS (u2 f o 1 v) g h1 h2) r := r_putI d71_36 (ci := 5) (k := 1) rfl (by decide) h17 hK
theorem d71_39 : decode (mC 71) 39 = .ok (.iload_n 2, 1) := by decide +kernel
theorem x71_39 {sc : aSc} {d : Nat} {r : aRes} {a0 : Value} {a1 : Value} {x2 : Int32} {st : List Value} {σ : aS} : Rn sc d 71 39 [a0, a1, .int x2] st σ r ↔ Rn sc d 71 40 [a0, a1, .int x2] (.int x2 :: st) σ r := r_iload_n d71_39 rfl
theorem d71_40 : decode (mC 71) 40 = .ok (.iconst (-1), 1) := by decide +kernel
theorem x71_40 {sc : aSc} {d : Nat} {r : aRes} {L : List Value} {st : List Value} {σ : aS} : Rn sc d 71 40 L st σ r ↔ Rn sc d 71 41 L (.int (-1) :: st) σ r := r_iconst d71_40 (by decide)
theorem d71_41 : decode (mC 71) 41 = .ok (.if_icmp .eq 8, 3) := by decide +kernel
theorem x71_41 {sc : aSc} {d : Nat} {r : aRes} {L : List Value} {st : List Value} {σ : aS} {x y : Int32} : Rn sc d 71 41 L (.int y :: .int x :: st) σ r ↔ if x = y then Rn sc d 71 49 L st σ r else Rn sc d 71 44 L st σ r := r_icmp_eq d71_41 rfl
theorem d71_44 : decode (mC 71) 44 = .ok (.bipush (-10), 2) := by decide +kernel
theorem x71_44 {sc : aSc} {d : Nat} {r : aRes} {L : List Value} {st : List Value} {σ : aS} : Rn sc d 71 44 L st σ r ↔ Rn sc d 71 46 L (.int (-10) :: st) σ r := r_bipush d71_44 (by decide)
theorem d71_46 : decode (mC 71) 46 = .ok (.iload_n 2, 1) := by decide +kernel
theorem x71_46 {sc : aSc} {d : Nat} {r : aRes} {a0 : Value} {a1 : Value} {x2 : Int32} {st : List Value} {σ : aS} : Rn sc d 71 46 [a0, a1, .int x2] st σ r ↔ Rn sc d 71 47 [a0, a1, .int x2] (.int x2 :: st) σ r := r_iload_n d71_46 rfl
theorem d71_47 : decode (mC 71) 47 = .ok (.isub, 1) := by decide +kernel
theorem x71_47 {sc : aSc} {d : Nat} {r : aRes} {L : List Value} {st : List Value} {σ : aS} {x y : Int32} : Rn sc d 71 47 L (.int y :: .int x :: st) σ r ↔ Rn sc d 71 48 L (.int (x - y) :: st) σ r := r_isub d71_47
theorem d71_48 : decode (mC 71) 48 = .ok (.ireturn, 1) := by decide +kernel
theorem x71_48 {sc : aSc} {d : Nat} {r : aRes} {L : List Value} {σ : aS} {x : Int32} : Rn sc d 71 48 L [.int x] σ r ↔ r = (σ, some (.int x)) := r_iret d71_48 rfl rfl
theorem d71_49 : decode (mC 71) 49 = .ok (.aload_n 0, 1) := by decide +kernel
theorem x71_49 {sc : aSc} {d : Nat} {r : aRes} {x0 : Nat} {a1 : Value} {a2 : Value} {st : List Value} {σ : aS} : Rn sc d 71 49 [.ref x0, a1, a2] st σ r ↔ Rn sc d 71 50 [.ref x0, a1, a2] (.ref x0 :: st) σ r := r_aload_n d71_49 rfl
theorem d71_50 : decode (mC 71) 50 = .ok (.getfield 50, 3) := by decide +kernel
theorem x71_50 {sc : aSc} {d : Nat} {r : aRes} {L : List Value} {st : List Value} {f : Nat → Nat → Int32} {g : Nat → Nat → Int64} {h1 h2 : Nat} {o : Nat} (hK : KK[o]? = some (.inl 6)) (hR : (RR h1 h2 o 0).isSome = true) : Rn sc d 71 50 L (.ref o :: st) (cS f g h1 h2) r ↔ Rn sc d 71 53 L (.ref (rf h1 h2 o 0) :: st) (cS f g h1 h2) r := r_getR2 d71_50 (ci := 6) (k := 0) rfl (by decide) (fun _ => rfl) hK hR
theorem d71_53 : decode (mC 71) 53 = .ok (.aload_n 1, 1) := by decide +kernel
theorem x71_53 {sc : aSc} {d : Nat} {r : aRes} {a0 : Value} {x1 : Nat} {a2 : Value} {st : List Value} {σ : aS} : Rn sc d 71 53 [a0, .ref x1, a2] st σ r ↔ Rn sc d 71 54 [a0, .ref x1, a2] (.ref x1 :: st) σ r := r_aload_n d71_53 rfl
theorem d71_54 : decode (mC 71) 54 = .ok (.putfield 119, 3) := by decide +kernel
theorem x71_54 {sc : aSc} {d : Nat} {r : aRes} {L : List Value} {st : List Value} {f : Nat → Nat → Int32} {g : Nat → Nat → Int64} {h1 h2 : Nat} {q : Nat} : Rn sc d 71 54 L (.ref q :: .ref 56 :: st) (cS f g h1 h2) r ↔ Rn sc d 71 57 L st (cS f g q h2) r := r_putH d71_54 rfl
theorem x71_54b {sc : aSc} {d : Nat} {r : aRes} {L : List Value} {st : List Value} {f : Nat → Nat → Int32} {g : Nat → Nat → Int64} {h1 h2 : Nat} {q : Nat} : Rn sc d 71 54 L (.ref q :: .ref 67 :: st) (cS f g h1 h2) r ↔ Rn sc d 71 57 L st (cS f g h1 q) r := r_putH2 d71_54 rfl
theorem d71_57 : decode (mC 71) 57 = .ok (.aload_n 0, 1) := by decide +kernel
theorem x71_57 {sc : aSc} {d : Nat} {r : aRes} {x0 : Nat} {a1 : Value} {a2 : Value} {st : List Value} {σ : aS} : Rn sc d 71 57 [.ref x0, a1, a2] st σ r ↔ Rn sc d 71 58 [.ref x0, a1, a2] (.ref x0 :: st) σ r := r_aload_n d71_57 rfl
theorem d71_58 : decode (mC 71) 58 = .ok (.dup, 1) := by decide +kernel
theorem x71_58 {sc : aSc} {d : Nat} {r : aRes} {L : List Value} {st : List Value} {σ : aS} {y : Nat} : Rn sc d 71 58 L (.ref y :: st) σ r ↔ Rn sc d 71 59 L (.ref y :: .ref y :: st) σ r := r_dup d71_58 rfl
theorem d71_59 : decode (mC 71) 59 = .ok (.getfield 112, 3) := by decide +kernel
theorem x71_59 {sc : aSc} {d : Nat} {r : aRes} {L : List Value} {st : List Value} {f : Nat → Nat → Int32} {g : Nat → Nat → Int64} {h1 h2 : Nat} {o : Nat} (h17 : 17 ≤ o) (hK : KK[o]? = some (.inl 6)) : Rn sc d 71 59 L (.ref o :: st) (cS f g h1 h2) r ↔ Rn sc d 71 62 L (.int (f o 5) :: st) (cS f g h1 h2) r := r_getI d71_59 (ci := 6) (k := 5) rfl (by decide) (fun _ => rfl) h17 hK
theorem d71_62 : decode (mC 71) 62 = .ok (.iconst 1, 1) := by decide +kernel
theorem x71_62 {sc : aSc} {d : Nat} {r : aRes} {L : List Value} {st : List Value} {σ : aS} : Rn sc d 71 62 L st σ r ↔ Rn sc d 71 63 L (.int 1 :: st) σ r := r_iconst d71_62 (by decide)
theorem d71_63 : decode (mC 71) 63 = .ok (.iadd, 1) := by decide +kernel
theorem x71_63 {sc : aSc} {d : Nat} {r : aRes} {L : List Value} {st : List Value} {σ : aS} {x y : Int32} : Rn sc d 71 63 L (.int y :: .int x :: st) σ r ↔ Rn sc d 71 64 L (.int (x + y) :: st) σ r := r_iadd d71_63
theorem d71_64 : decode (mC 71) 64 = .ok (.putfield 112, 3) := by decide +kernel
theorem x71_64 {sc : aSc} {d : Nat} {r : aRes} {L : List Value} {st : List Value} {f : Nat → Nat → Int32} {g : Nat → Nat → Int64} {h1 h2 : Nat} {o : Nat} {v : Int32} (h17 : 17 ≤ o) (hK : KK[o]? = some (.inl 6)) : Rn sc d 71 64 L (.int v :: .ref o :: st) (cS f g h1 h2) r ↔ Rn sc d 71 67 L st (cS (u2 f o 5 v) g h1 h2) r := r_putI d71_64 (ci := 6) (k := 5) rfl (by decide) h17 hK
theorem d71_67 : decode (mC 71) 67 = .ok (.aload_n 0, 1) := by decide +kernel
theorem x71_67 {sc : aSc} {d : Nat} {r : aRes} {x0 : Nat} {a1 : Value} {a2 : Value} {st : List Value} {σ : aS} : Rn sc d 71 67 [.ref x0, a1, a2] st σ r ↔ Rn sc d 71 68 [.ref x0, a1, a2] (.ref x0 :: st) σ r := r_aload_n d71_67 rfl
theorem d71_68 : decode (mC 71) 68 = .ok (.getfield 112, 3) := by decide +kernel
theorem x71_68 {sc : aSc} {d : Nat} {r : aRes} {L : List Value} {st : List Value} {f : Nat → Nat → Int32} {g : Nat → Nat → Int64} {h1 h2 : Nat} {o : Nat} (h17 : 17 ≤ o) (hK : KK[o]? = some (.inl 6)) : Rn sc d 71 68 L (.ref o :: st) (cS f g h1 h2) r ↔ Rn sc d 71 71 L (.int (f o 5) :: st) (cS f g h1 h2) r := r_getI d71_68 (ci := 6) (k := 5) rfl (by decide) (fun _ => rfl) h17 hK
theorem d71_71 : decode (mC 71) 71 = .ok (.iconst 1, 1) := by decide +kernel
theorem x71_71 {sc : aSc} {d : Nat} {r : aRes} {L : List Value} {st : List Value} {σ : aS} : Rn sc d 71 71 L st σ r ↔ Rn sc d 71 72 L (.int 1 :: st) σ r := r_iconst d71_71 (by decide)
theorem d71_72 : decode (mC 71) 72 = .ok (.isub, 1) := by decide +kernel
theorem x71_72 {sc : aSc} {d : Nat} {r : aRes} {L : List Value} {st : List Value} {σ : aS} {x y : Int32} : Rn sc d 71 72 L (.int y :: .int x :: st) σ r ↔ Rn sc d 71 73 L (.int (x - y) :: st) σ r := r_isub d71_72
theorem d71_73 : decode (mC 71) 73 = .ok (.ireturn, 1) := by decide +kernel
theorem x71_73 {sc : aSc} {d : Nat} {r : aRes} {L : List Value} {σ : aS} {x : Int32} : Rn sc d 71 73 L [.int x] σ r ↔ r = (σ, some (.int x)) := r_iret d71_73 rfl rfl
theorem d72_0 : decode (mC 72) 0 = .ok (.iload_n 1, 1) := by decide +kernel
theorem x72_0 {sc : aSc} {d : Nat} {r : aRes} {a0 : Value} {x1 : Int32} {st : List Value} {σ : aS} : Rn sc d 72 0 [a0, .int x1] st σ r ↔ Rn sc d 72 1 [a0, .int x1] (.int x1 :: st) σ r := r_iload_n d72_0 rfl
theorem d72_1 : decode (mC 72) 1 = .ok (.tableswitch 107 0 5 #[39, 47, 55, 77, 88, 99], 39) := by decide +kernel
theorem x72_1 {sc : aSc} {d : Nat} {r : aRes} {L : List Value} {st : List Value} {σ : aS} {x : Int32} : Rn sc d 72 1 L (.int x :: st) σ r ↔ (if x = 0 then Rn sc d 72 40 L st σ r else (if x = 1 then Rn sc d 72 48 L st σ r else (if x = 2 then Rn sc d 72 56 L st σ r else (if x = 3 then Rn sc d 72 78 L st σ r else (if x = 4 then Rn sc d 72 89 L st σ r else (if x = 5 then Rn sc d 72 100 L st σ r else Rn sc d 72 108 L st σ r)))))) := by
  by_cases c0 : x = 0
  · subst c0; simp only [if_pos]; exact r_tsw d72_1 (t := 40) rfl
  rw [if_neg c0]
  by_cases c1 : x = 1
  · subst c1; simp only [if_pos]; exact r_tsw d72_1 (t := 48) rfl
  rw [if_neg c1]
  by_cases c2 : x = 2
  · subst c2; simp only [if_pos]; exact r_tsw d72_1 (t := 56) rfl
  rw [if_neg c2]
  by_cases c3 : x = 3
  · subst c3; simp only [if_pos]; exact r_tsw d72_1 (t := 78) rfl
  rw [if_neg c3]
  by_cases c4 : x = 4
  · subst c4; simp only [if_pos]; exact r_tsw d72_1 (t := 89) rfl
  rw [if_neg c4]
  by_cases c5 : x = 5
  · subst c5; simp only [if_pos]; exact r_tsw d72_1 (t := 100) rfl
  rw [if_neg c5]
  refine r_tswd d72_1 ?_ rfl
  have e0 : x.toInt ≠ 0 := fun z => c0 (Int32.toInt_inj.mp z)
  have e1 : x.toInt ≠ 1 := fun z => c1 (Int32.toInt_inj.mp z)
  have e2 : x.toInt ≠ 2 := fun z => c2 (Int32.toInt_inj.mp z)
  have e3 : x.toInt ≠ 3 := fun z => c3 (Int32.toInt_inj.mp z)
  have e4 : x.toInt ≠ 4 := fun z => c4 (Int32.toInt_inj.mp z)
  have e5 : x.toInt ≠ 5 := fun z => c5 (Int32.toInt_inj.mp z)
  omega
theorem d72_40 : decode (mC 72) 40 = .ok (.aload_n 0, 1) := by decide +kernel
theorem x72_40 {sc : aSc} {d : Nat} {r : aRes} {x0 : Nat} {a1 : Value} {st : List Value} {σ : aS} : Rn sc d 72 40 [.ref x0, a1] st σ r ↔ Rn sc d 72 41 [.ref x0, a1] (.ref x0 :: st) σ r := r_aload_n d72_40 rfl
theorem d72_41 : decode (mC 72) 41 = .ok (.getfield 50, 3) := by decide +kernel
theorem x72_41 {sc : aSc} {d : Nat} {r : aRes} {L : List Value} {st : List Value} {f : Nat → Nat → Int32} {g : Nat → Nat → Int64} {h1 h2 : Nat} {o : Nat} (hK : KK[o]? = some (.inl 6)) (hR : (RR h1 h2 o 0).isSome = true) : Rn sc d 72 41 L (.ref o :: st) (cS f g h1 h2) r ↔ Rn sc d 72 44 L (.ref (rf h1 h2 o 0) :: st) (cS f g h1 h2) r := r_getR2 d72_41 (ci := 6) (k := 0) rfl (by decide) (fun _ => rfl) hK hR
theorem d72_44 : decode (mC 72) 44 = .ok (.getfield 123, 3) := by decide +kernel
theorem x72_44 {sc : aSc} {d : Nat} {r : aRes} {L : List Value} {st : List Value} {f : Nat → Nat → Int32} {g : Nat → Nat → Int64} {h1 h2 : Nat} {o : Nat} (h17 : 17 ≤ o) (hK : KK[o]? = some (.inl 1)) : Rn sc d 72 44 L (.ref o :: st) (cS f g h1 h2) r ↔ Rn sc d 72 47 L (.int (f o 1) :: st) (cS f g h1 h2) r := r_getI d72_44 (ci := 1) (k := 1) rfl (by decide) (fun _ => rfl) h17 hK
theorem d72_47 : decode (mC 72) 47 = .ok (.ireturn, 1) := by decide +kernel
theorem x72_47 {sc : aSc} {d : Nat} {r : aRes} {L : List Value} {σ : aS} {x : Int32} : Rn sc d 72 47 L [.int x] σ r ↔ r = (σ, some (.int x)) := r_iret d72_47 rfl rfl
theorem d72_48 : decode (mC 72) 48 = .ok (.aload_n 0, 1) := by decide +kernel
theorem x72_48 {sc : aSc} {d : Nat} {r : aRes} {x0 : Nat} {a1 : Value} {st : List Value} {σ : aS} : Rn sc d 72 48 [.ref x0, a1] st σ r ↔ Rn sc d 72 49 [.ref x0, a1] (.ref x0 :: st) σ r := r_aload_n d72_48 rfl
theorem d72_49 : decode (mC 72) 49 = .ok (.getfield 50, 3) := by decide +kernel
theorem x72_49 {sc : aSc} {d : Nat} {r : aRes} {L : List Value} {st : List Value} {f : Nat → Nat → Int32} {g : Nat → Nat → Int64} {h1 h2 : Nat} {o : Nat} (hK : KK[o]? = some (.inl 6)) (hR : (RR h1 h2 o 0).isSome = true) : Rn sc d 72 49 L (.ref o :: st) (cS f g h1 h2) r ↔ Rn sc d 72 52 L (.ref (rf h1 h2 o 0) :: st) (cS f g h1 h2) r := r_getR2 d72_49 (ci := 6) (k := 0) rfl (by decide) (fun _ => rfl) hK hR
theorem d72_52 : decode (mC 72) 52 = .ok (.getfield 126, 3) := by decide +kernel
theorem x72_52 {sc : aSc} {d : Nat} {r : aRes} {L : List Value} {st : List Value} {f : Nat → Nat → Int32} {g : Nat → Nat → Int64} {h1 h2 : Nat} {o : Nat} (h17 : 17 ≤ o) (hK : KK[o]? = some (.inl 1)) : Rn sc d 72 52 L (.ref o :: st) (cS f g h1 h2) r ↔ Rn sc d 72 55 L (.int (f o 2) :: st) (cS f g h1 h2) r := r_getI d72_52 (ci := 1) (k := 2) rfl (by decide) (fun _ => rfl) h17 hK
theorem d72_55 : decode (mC 72) 55 = .ok (.ireturn, 1) := by decide +kernel
theorem x72_55 {sc : aSc} {d : Nat} {r : aRes} {L : List Value} {σ : aS} {x : Int32} : Rn sc d 72 55 L [.int x] σ r ↔ r = (σ, some (.int x)) := r_iret d72_55 rfl rfl
theorem d72_56 : decode (mC 72) 56 = .ok (.aload_n 0, 1) := by decide +kernel
theorem x72_56 {sc : aSc} {d : Nat} {r : aRes} {x0 : Nat} {a1 : Value} {st : List Value} {σ : aS} : Rn sc d 72 56 [.ref x0, a1] st σ r ↔ Rn sc d 72 57 [.ref x0, a1] (.ref x0 :: st) σ r := r_aload_n d72_56 rfl
theorem d72_57 : decode (mC 72) 57 = .ok (.getfield 50, 3) := by decide +kernel
theorem x72_57 {sc : aSc} {d : Nat} {r : aRes} {L : List Value} {st : List Value} {f : Nat → Nat → Int32} {g : Nat → Nat → Int64} {h1 h2 : Nat} {o : Nat} (hK : KK[o]? = some (.inl 6)) (hR : (RR h1 h2 o 0).isSome = true) : Rn sc d 72 57 L (.ref o :: st) (cS f g h1 h2) r ↔ Rn sc d 72 60 L (.ref (rf h1 h2 o 0) :: st) (cS f g h1 h2) r := r_getR2 d72_57 (ci := 6) (k := 0) rfl (by decide) (fun _ => rfl) hK hR
theorem d72_60 : decode (mC 72) 60 = .ok (.aload_n 0, 1) := by decide +kernel
theorem x72_60 {sc : aSc} {d : Nat} {r : aRes} {x0 : Nat} {a1 : Value} {st : List Value} {σ : aS} : Rn sc d 72 60 [.ref x0, a1] st σ r ↔ Rn sc d 72 61 [.ref x0, a1] (.ref x0 :: st) σ r := r_aload_n d72_60 rfl
theorem d72_61 : decode (mC 72) 61 = .ok (.getfield 50, 3) := by decide +kernel
theorem x72_61 {sc : aSc} {d : Nat} {r : aRes} {L : List Value} {st : List Value} {f : Nat → Nat → Int32} {g : Nat → Nat → Int64} {h1 h2 : Nat} {o : Nat} (hK : KK[o]? = some (.inl 6)) (hR : (RR h1 h2 o 0).isSome = true) : Rn sc d 72 61 L (.ref o :: st) (cS f g h1 h2) r ↔ Rn sc d 72 64 L (.ref (rf h1 h2 o 0) :: st) (cS f g h1 h2) r := r_getR2 d72_61 (ci := 6) (k := 0) rfl (by decide) (fun _ => rfl) hK hR
theorem d72_64 : decode (mC 72) 64 = .ok (.getfield 129, 3) := by decide +kernel
theorem x72_64 {sc : aSc} {d : Nat} {r : aRes} {L : List Value} {st : List Value} {f : Nat → Nat → Int32} {g : Nat → Nat → Int64} {h1 h2 : Nat} {o : Nat} (h17 : 17 ≤ o) (hK : KK[o]? = some (.inl 1)) : Rn sc d 72 64 L (.ref o :: st) (cS f g h1 h2) r ↔ Rn sc d 72 67 L (.int (f o 4) :: st) (cS f g h1 h2) r := r_getI d72_64 (ci := 1) (k := 4) rfl (by decide) (fun _ => rfl) h17 hK
theorem d72_67 : decode (mC 72) 67 = .ok (.aload_n 0, 1) := by decide +kernel
theorem x72_67 {sc : aSc} {d : Nat} {r : aRes} {x0 : Nat} {a1 : Value} {st : List Value} {σ : aS} : Rn sc d 72 67 [.ref x0, a1] st σ r ↔ Rn sc d 72 68 [.ref x0, a1] (.ref x0 :: st) σ r := r_aload_n d72_67 rfl
theorem d72_68 : decode (mC 72) 68 = .ok (.getfield 50, 3) := by decide +kernel
theorem x72_68 {sc : aSc} {d : Nat} {r : aRes} {L : List Value} {st : List Value} {f : Nat → Nat → Int32} {g : Nat → Nat → Int64} {h1 h2 : Nat} {o : Nat} (hK : KK[o]? = some (.inl 6)) (hR : (RR h1 h2 o 0).isSome = true) : Rn sc d 72 68 L (.ref o :: st) (cS f g h1 h2) r ↔ Rn sc d 72 71 L (.ref (rf h1 h2 o 0) :: st) (cS f g h1 h2) r := r_getR2 d72_68 (ci := 6) (k := 0) rfl (by decide) (fun _ => rfl) hK hR
theorem d72_71 : decode (mC 72) 71 = .ok (.invokevirtual 132, 3) := by decide +kernel
theorem x72_71 {sc : aSc} {d : Nat} {r : aRes} {L : List Value} {f : Nat → Nat → Int32} {g : Nat → Nat → Int64} {h1 h2 : Nat}  {z0 : Int32} {z1 : Nat} {o : Nat} (hK : KK[o]? = some (.inl 1)) : Rn sc d 72 71 L [.ref o, .int z0, .ref z1] (cS f g h1 h2) r ↔ ∃ (σ3 : aS) (v : Option Value), Cl sc d 8 [.ref o] (cS f g h1 h2) (σ3, v) ∧ Rn sc d 72 74 L (v.toList ++ [.int z0, .ref z1]) σ3 r := r_callV (vs := []) d72_71 (j := 8) rfl ⟨rfl, by decide, rfl, rfl⟩ (Nat.le_of_ble_eq_true rfl) hK
theorem d72_74 : decode (mC 72) 74 = .ok (.invokevirtual 136, 3) := by decide +kernel
theorem x72_74 {sc : aSc} {d : Nat} {r : aRes} {L : List Value} {f : Nat → Nat → Int32} {g : Nat → Nat → Int64} {h1 h2 : Nat} {y0 : Int32} {y1 : Int32}  {o : Nat} (hK : KK[o]? = some (.inl 1)) : Rn sc d 72 74 L [.int y0, .int y1, .ref o] (cS f g h1 h2) r ↔ ∃ (σ3 : aS) (v : Option Value), Cl sc d 22 [.ref o, .int y1, .int y0] (cS f g h1 h2) (σ3, v) ∧ Rn sc d 72 77 L (v.toList ++ []) σ3 r := r_callV (vs := [.int y0, .int y1]) d72_74 (j := 22) rfl ⟨rfl, by decide, rfl, rfl⟩ (Nat.le_of_ble_eq_true rfl) hK
theorem d72_77 : decode (mC 72) 77 = .ok (.ireturn, 1) := by decide +kernel
theorem x72_77 {sc : aSc} {d : Nat} {r : aRes} {L : List Value} {σ : aS} {x : Int32} : Rn sc d 72 77 L [.int x] σ r ↔ r = (σ, some (.int x)) := r_iret d72_77 rfl rfl
theorem d72_78 : decode (mC 72) 78 = .ok (.aload_n 0, 1) := by decide +kernel
theorem x72_78 {sc : aSc} {d : Nat} {r : aRes} {x0 : Nat} {a1 : Value} {st : List Value} {σ : aS} : Rn sc d 72 78 [.ref x0, a1] st σ r ↔ Rn sc d 72 79 [.ref x0, a1] (.ref x0 :: st) σ r := r_aload_n d72_78 rfl
theorem d72_79 : decode (mC 72) 79 = .ok (.getfield 50, 3) := by decide +kernel
theorem x72_79 {sc : aSc} {d : Nat} {r : aRes} {L : List Value} {st : List Value} {f : Nat → Nat → Int32} {g : Nat → Nat → Int64} {h1 h2 : Nat} {o : Nat} (hK : KK[o]? = some (.inl 6)) (hR : (RR h1 h2 o 0).isSome = true) : Rn sc d 72 79 L (.ref o :: st) (cS f g h1 h2) r ↔ Rn sc d 72 82 L (.ref (rf h1 h2 o 0) :: st) (cS f g h1 h2) r := r_getR2 d72_79 (ci := 6) (k := 0) rfl (by decide) (fun _ => rfl) hK hR
theorem d72_82 : decode (mC 72) 82 = .ok (.getfield 119, 3) := by decide +kernel
theorem x72_82 {sc : aSc} {d : Nat} {r : aRes} {L : List Value} {st : List Value} {f : Nat → Nat → Int32} {g : Nat → Nat → Int64} {h1 h2 : Nat} {o : Nat} (hK : KK[o]? = some (.inl 1)) (hR : (RR h1 h2 o 17).isSome = true) : Rn sc d 72 82 L (.ref o :: st) (cS f g h1 h2) r ↔ Rn sc d 72 85 L (.ref (rf h1 h2 o 17) :: st) (cS f g h1 h2) r := r_getR2 d72_82 (ci := 1) (k := 17) rfl (by decide) (fun _ => rfl) hK hR
theorem d72_85 : decode (mC 72) 85 = .ok (.getfield 139, 3) := by decide +kernel
theorem x72_85 {sc : aSc} {d : Nat} {r : aRes} {L : List Value} {st : List Value} {f : Nat → Nat → Int32} {g : Nat → Nat → Int64} {h1 h2 : Nat} {o : Nat} (h17 : 17 ≤ o) (hK : KK[o]? = some (.inl 2)) : Rn sc d 72 85 L (.ref o :: st) (cS f g h1 h2) r ↔ Rn sc d 72 88 L (.int (f o 0) :: st) (cS f g h1 h2) r := r_getI d72_85 (ci := 2) (k := 0) rfl (by decide) (fun _ => rfl) h17 hK
theorem d72_88 : decode (mC 72) 88 = .ok (.ireturn, 1) := by decide +kernel
theorem x72_88 {sc : aSc} {d : Nat} {r : aRes} {L : List Value} {σ : aS} {x : Int32} : Rn sc d 72 88 L [.int x] σ r ↔ r = (σ, some (.int x)) := r_iret d72_88 rfl rfl
theorem d72_89 : decode (mC 72) 89 = .ok (.aload_n 0, 1) := by decide +kernel
theorem x72_89 {sc : aSc} {d : Nat} {r : aRes} {x0 : Nat} {a1 : Value} {st : List Value} {σ : aS} : Rn sc d 72 89 [.ref x0, a1] st σ r ↔ Rn sc d 72 90 [.ref x0, a1] (.ref x0 :: st) σ r := r_aload_n d72_89 rfl
theorem d72_90 : decode (mC 72) 90 = .ok (.getfield 50, 3) := by decide +kernel
theorem x72_90 {sc : aSc} {d : Nat} {r : aRes} {L : List Value} {st : List Value} {f : Nat → Nat → Int32} {g : Nat → Nat → Int64} {h1 h2 : Nat} {o : Nat} (hK : KK[o]? = some (.inl 6)) (hR : (RR h1 h2 o 0).isSome = true) : Rn sc d 72 90 L (.ref o :: st) (cS f g h1 h2) r ↔ Rn sc d 72 93 L (.ref (rf h1 h2 o 0) :: st) (cS f g h1 h2) r := r_getR2 d72_90 (ci := 6) (k := 0) rfl (by decide) (fun _ => rfl) hK hR
theorem d72_93 : decode (mC 72) 93 = .ok (.getfield 119, 3) := by decide +kernel
theorem x72_93 {sc : aSc} {d : Nat} {r : aRes} {L : List Value} {st : List Value} {f : Nat → Nat → Int32} {g : Nat → Nat → Int64} {h1 h2 : Nat} {o : Nat} (hK : KK[o]? = some (.inl 1)) (hR : (RR h1 h2 o 17).isSome = true) : Rn sc d 72 93 L (.ref o :: st) (cS f g h1 h2) r ↔ Rn sc d 72 96 L (.ref (rf h1 h2 o 17) :: st) (cS f g h1 h2) r := r_getR2 d72_93 (ci := 1) (k := 17) rfl (by decide) (fun _ => rfl) hK hR
theorem d72_96 : decode (mC 72) 96 = .ok (.getfield 142, 3) := by decide +kernel
theorem x72_96 {sc : aSc} {d : Nat} {r : aRes} {L : List Value} {st : List Value} {f : Nat → Nat → Int32} {g : Nat → Nat → Int64} {h1 h2 : Nat} {o : Nat} (h17 : 17 ≤ o) (hK : KK[o]? = some (.inl 2)) : Rn sc d 72 96 L (.ref o :: st) (cS f g h1 h2) r ↔ Rn sc d 72 99 L (.int (f o 1) :: st) (cS f g h1 h2) r := r_getI d72_96 (ci := 2) (k := 1) rfl (by decide) (fun _ => rfl) h17 hK
theorem d72_99 : decode (mC 72) 99 = .ok (.ireturn, 1) := by decide +kernel
theorem x72_99 {sc : aSc} {d : Nat} {r : aRes} {L : List Value} {σ : aS} {x : Int32} : Rn sc d 72 99 L [.int x] σ r ↔ r = (σ, some (.int x)) := r_iret d72_99 rfl rfl
theorem d72_100 : decode (mC 72) 100 = .ok (.aload_n 0, 1) := by decide +kernel
theorem x72_100 {sc : aSc} {d : Nat} {r : aRes} {x0 : Nat} {a1 : Value} {st : List Value} {σ : aS} : Rn sc d 72 100 [.ref x0, a1] st σ r ↔ Rn sc d 72 101 [.ref x0, a1] (.ref x0 :: st) σ r := r_aload_n d72_100 rfl
theorem d72_101 : decode (mC 72) 101 = .ok (.getfield 50, 3) := by decide +kernel
theorem x72_101 {sc : aSc} {d : Nat} {r : aRes} {L : List Value} {st : List Value} {f : Nat → Nat → Int32} {g : Nat → Nat → Int64} {h1 h2 : Nat} {o : Nat} (hK : KK[o]? = some (.inl 6)) (hR : (RR h1 h2 o 0).isSome = true) : Rn sc d 72 101 L (.ref o :: st) (cS f g h1 h2) r ↔ Rn sc d 72 104 L (.ref (rf h1 h2 o 0) :: st) (cS f g h1 h2) r := r_getR2 d72_101 (ci := 6) (k := 0) rfl (by decide) (fun _ => rfl) hK hR
theorem d72_104 : decode (mC 72) 104 = .ok (.getfield 129, 3) := by decide +kernel
theorem x72_104 {sc : aSc} {d : Nat} {r : aRes} {L : List Value} {st : List Value} {f : Nat → Nat → Int32} {g : Nat → Nat → Int64} {h1 h2 : Nat} {o : Nat} (h17 : 17 ≤ o) (hK : KK[o]? = some (.inl 1)) : Rn sc d 72 104 L (.ref o :: st) (cS f g h1 h2) r ↔ Rn sc d 72 107 L (.int (f o 4) :: st) (cS f g h1 h2) r := r_getI d72_104 (ci := 1) (k := 4) rfl (by decide) (fun _ => rfl) h17 hK
theorem d72_107 : decode (mC 72) 107 = .ok (.ireturn, 1) := by decide +kernel
theorem x72_107 {sc : aSc} {d : Nat} {r : aRes} {L : List Value} {σ : aS} {x : Int32} : Rn sc d 72 107 L [.int x] σ r ↔ r = (σ, some (.int x)) := r_iret d72_107 rfl rfl
theorem d72_108 : decode (mC 72) 108 = .ok (.iconst (-1), 1) := by decide +kernel
theorem x72_108 {sc : aSc} {d : Nat} {r : aRes} {L : List Value} {st : List Value} {σ : aS} : Rn sc d 72 108 L st σ r ↔ Rn sc d 72 109 L (.int (-1) :: st) σ r := r_iconst d72_108 (by decide)
theorem d72_109 : decode (mC 72) 109 = .ok (.ireturn, 1) := by decide +kernel
theorem x72_109 {sc : aSc} {d : Nat} {r : aRes} {L : List Value} {σ : aS} {x : Int32} : Rn sc d 72 109 L [.int x] σ r ↔ r = (σ, some (.int x)) := r_iret d72_109 rfl rfl
theorem d73_0 : decode (mC 73) 0 = .ok (.aload_n 0, 1) := by decide +kernel
theorem x73_0 {sc : aSc} {d : Nat} {r : aRes} {x0 : Nat} {a1 : Value} {a2 : Value} {a3 : Value} {st : List Value} {σ : aS} : Rn sc d 73 0 [.ref x0, a1, a2, a3] st σ r ↔ Rn sc d 73 1 [.ref x0, a1, a2, a3] (.ref x0 :: st) σ r := r_aload_n d73_0 rfl
theorem d73_1 : decode (mC 73) 1 = .ok (.iload_n 1, 1) := by decide +kernel
theorem x73_1 {sc : aSc} {d : Nat} {r : aRes} {a0 : Value} {x1 : Int32} {a2 : Value} {a3 : Value} {st : List Value} {σ : aS} : Rn sc d 73 1 [a0, .int x1, a2, a3] st σ r ↔ Rn sc d 73 2 [a0, .int x1, a2, a3] (.int x1 :: st) σ r := r_iload_n d73_1 rfl
theorem d73_2 : decode (mC 73) 2 = .ok (.iload_n 2, 1) := by decide +kernel
theorem x73_2 {sc : aSc} {d : Nat} {r : aRes} {a0 : Value} {a1 : Value} {x2 : Int32} {a3 : Value} {st : List Value} {σ : aS} : Rn sc d 73 2 [a0, a1, .int x2, a3] st σ r ↔ Rn sc d 73 3 [a0, a1, .int x2, a3] (.int x2 :: st) σ r := r_iload_n d73_2 rfl
theorem d73_3 : decode (mC 73) 3 = .ok (.invokevirtual 145, 3) := by decide +kernel
theorem x73_3 {sc : aSc} {d : Nat} {r : aRes} {L : List Value} {f : Nat → Nat → Int32} {g : Nat → Nat → Int64} {h1 h2 : Nat} {y0 : Int32} {y1 : Int32}  {o : Nat} (hK : KK[o]? = some (.inl 6)) : Rn sc d 73 3 L [.int y0, .int y1, .ref o] (cS f g h1 h2) r ↔ ∃ (σ3 : aS) (v : Option Value), Cl sc d 104 [.ref o, .int y1, .int y0] (cS f g h1 h2) (σ3, v) ∧ Rn sc d 73 6 L (v.toList ++ []) σ3 r := r_callV (vs := [.int y0, .int y1]) d73_3 (j := 104) rfl ⟨rfl, by decide, rfl, rfl⟩ (Nat.le_of_ble_eq_true rfl) hK
theorem d73_6 : decode (mC 73) 6 = .ok (.istore_n 3, 1) := by decide +kernel
theorem x73_6 {sc : aSc} {d : Nat} {r : aRes} {a0 : Value} {a1 : Value} {x2 : Int32} {a3 : Value} {st : List Value} {σ : aS} {y : Int32} : Rn sc d 73 6 [a0, a1, .int x2, a3] (.int y :: st) σ r ↔ Rn sc d 73 7 [a0, a1, .int x2, .int y] st σ r := r_istore_n d73_6 (Nat.le_of_ble_eq_true rfl) rfl
theorem d73_7 : decode (mC 73) 7 = .ok (.iload_n 3, 1) := by decide +kernel
theorem x73_7 {sc : aSc} {d : Nat} {r : aRes} {a0 : Value} {a1 : Value} {a2 : Value} {x3 : Int32} {st : List Value} {σ : aS} : Rn sc d 73 7 [a0, a1, a2, .int x3] st σ r ↔ Rn sc d 73 8 [a0, a1, a2, .int x3] (.int x3 :: st) σ r := r_iload_n d73_7 rfl
theorem d73_8 : decode (mC 73) 8 = .ok (.ifCond .eq 5, 3) := by decide +kernel
theorem x73_8 {sc : aSc} {d : Nat} {r : aRes} {L : List Value} {st : List Value} {σ : aS} {x : Int32} : Rn sc d 73 8 L (.int x :: st) σ r ↔ if x = 0 then Rn sc d 73 13 L st σ r else Rn sc d 73 11 L st σ r := r_if_eq d73_8 rfl
theorem d73_11 : decode (mC 73) 11 = .ok (.iload_n 3, 1) := by decide +kernel
theorem x73_11 {sc : aSc} {d : Nat} {r : aRes} {a0 : Value} {a1 : Value} {a2 : Value} {x3 : Int32} {st : List Value} {σ : aS} : Rn sc d 73 11 [a0, a1, a2, .int x3] st σ r ↔ Rn sc d 73 12 [a0, a1, a2, .int x3] (.int x3 :: st) σ r := r_iload_n d73_11 rfl
theorem d73_12 : decode (mC 73) 12 = .ok (.ireturn, 1) := by decide +kernel
theorem x73_12 {sc : aSc} {d : Nat} {r : aRes} {L : List Value} {σ : aS} {x : Int32} : Rn sc d 73 12 L [.int x] σ r ↔ r = (σ, some (.int x)) := r_iret d73_12 rfl rfl
theorem d73_13 : decode (mC 73) 13 = .ok (.aload_n 0, 1) := by decide +kernel
theorem x73_13 {sc : aSc} {d : Nat} {r : aRes} {x0 : Nat} {a1 : Value} {a2 : Value} {a3 : Value} {st : List Value} {σ : aS} : Rn sc d 73 13 [.ref x0, a1, a2, a3] st σ r ↔ Rn sc d 73 14 [.ref x0, a1, a2, a3] (.ref x0 :: st) σ r := r_aload_n d73_13 rfl
theorem d73_14 : decode (mC 73) 14 = .ok (.getfield 50, 3) := by decide +kernel
theorem x73_14 {sc : aSc} {d : Nat} {r : aRes} {L : List Value} {st : List Value} {f : Nat → Nat → Int32} {g : Nat → Nat → Int64} {h1 h2 : Nat} {o : Nat} (hK : KK[o]? = some (.inl 6)) (hR : (RR h1 h2 o 0).isSome = true) : Rn sc d 73 14 L (.ref o :: st) (cS f g h1 h2) r ↔ Rn sc d 73 17 L (.ref (rf h1 h2 o 0) :: st) (cS f g h1 h2) r := r_getR2 d73_14 (ci := 6) (k := 0) rfl (by decide) (fun _ => rfl) hK hR
theorem d73_17 : decode (mC 73) 17 = .ok (.iload_n 1, 1) := by decide +kernel
theorem x73_17 {sc : aSc} {d : Nat} {r : aRes} {a0 : Value} {x1 : Int32} {a2 : Value} {a3 : Value} {st : List Value} {σ : aS} : Rn sc d 73 17 [a0, .int x1, a2, a3] st σ r ↔ Rn sc d 73 18 [a0, .int x1, a2, a3] (.int x1 :: st) σ r := r_iload_n d73_17 rfl
theorem d73_18 : decode (mC 73) 18 = .ok (.iload_n 2, 1) := by decide +kernel
theorem x73_18 {sc : aSc} {d : Nat} {r : aRes} {a0 : Value} {a1 : Value} {x2 : Int32} {a3 : Value} {st : List Value} {σ : aS} : Rn sc d 73 18 [a0, a1, .int x2, a3] st σ r ↔ Rn sc d 73 19 [a0, a1, .int x2, a3] (.int x2 :: st) σ r := r_iload_n d73_18 rfl
theorem d73_19 : decode (mC 73) 19 = .ok (.aload_n 0, 1) := by decide +kernel
theorem x73_19 {sc : aSc} {d : Nat} {r : aRes} {x0 : Nat} {a1 : Value} {a2 : Value} {a3 : Value} {st : List Value} {σ : aS} : Rn sc d 73 19 [.ref x0, a1, a2, a3] st σ r ↔ Rn sc d 73 20 [.ref x0, a1, a2, a3] (.ref x0 :: st) σ r := r_aload_n d73_19 rfl
theorem d73_20 : decode (mC 73) 20 = .ok (.getfield 50, 3) := by decide +kernel
theorem x73_20 {sc : aSc} {d : Nat} {r : aRes} {L : List Value} {st : List Value} {f : Nat → Nat → Int32} {g : Nat → Nat → Int64} {h1 h2 : Nat} {o : Nat} (hK : KK[o]? = some (.inl 6)) (hR : (RR h1 h2 o 0).isSome = true) : Rn sc d 73 20 L (.ref o :: st) (cS f g h1 h2) r ↔ Rn sc d 73 23 L (.ref (rf h1 h2 o 0) :: st) (cS f g h1 h2) r := r_getR2 d73_20 (ci := 6) (k := 0) rfl (by decide) (fun _ => rfl) hK hR
theorem d73_23 : decode (mC 73) 23 = .ok (.getfield 129, 3) := by decide +kernel
theorem x73_23 {sc : aSc} {d : Nat} {r : aRes} {L : List Value} {st : List Value} {f : Nat → Nat → Int32} {g : Nat → Nat → Int64} {h1 h2 : Nat} {o : Nat} (h17 : 17 ≤ o) (hK : KK[o]? = some (.inl 1)) : Rn sc d 73 23 L (.ref o :: st) (cS f g h1 h2) r ↔ Rn sc d 73 26 L (.int (f o 4) :: st) (cS f g h1 h2) r := r_getI d73_23 (ci := 1) (k := 4) rfl (by decide) (fun _ => rfl) h17 hK
theorem d73_26 : decode (mC 73) 26 = .ok (.invokevirtual 148, 3) := by decide +kernel
theorem x73_26 {sc : aSc} {d : Nat} {r : aRes} {L : List Value} {f : Nat → Nat → Int32} {g : Nat → Nat → Int64} {h1 h2 : Nat} {y0 : Int32} {y1 : Int32} {y2 : Int32}  {o : Nat} (hK : KK[o]? = some (.inl 1)) : Rn sc d 73 26 L [.int y0, .int y1, .int y2, .ref o] (cS f g h1 h2) r ↔ ∃ (σ3 : aS) (v : Option Value), Cl sc d 14 [.ref o, .int y2, .int y1, .int y0] (cS f g h1 h2) (σ3, v) ∧ Rn sc d 73 29 L (v.toList ++ []) σ3 r := r_callV (vs := [.int y0, .int y1, .int y2]) d73_26 (j := 14) rfl ⟨rfl, by decide, rfl, rfl⟩ (Nat.le_of_ble_eq_true rfl) hK
theorem d73_29 : decode (mC 73) 29 = .ok (.ifCond .eq 16, 3) := by decide +kernel
theorem x73_29 {sc : aSc} {d : Nat} {r : aRes} {L : List Value} {st : List Value} {σ : aS} {x : Int32} : Rn sc d 73 29 L (.int x :: st) σ r ↔ if x = 0 then Rn sc d 73 45 L st σ r else Rn sc d 73 32 L st σ r := r_if_eq d73_29 rfl
theorem d73_32 : decode (mC 73) 32 = .ok (.aload_n 0, 1) := by decide +kernel
theorem x73_32 {sc : aSc} {d : Nat} {r : aRes} {x0 : Nat} {a1 : Value} {a2 : Value} {a3 : Value} {st : List Value} {σ : aS} : Rn sc d 73 32 [.ref x0, a1, a2, a3] st σ r ↔ Rn sc d 73 33 [.ref x0, a1, a2, a3] (.ref x0 :: st) σ r := r_aload_n d73_32 rfl
theorem d73_33 : decode (mC 73) 33 = .ok (.getfield 50, 3) := by decide +kernel
theorem x73_33 {sc : aSc} {d : Nat} {r : aRes} {L : List Value} {st : List Value} {f : Nat → Nat → Int32} {g : Nat → Nat → Int64} {h1 h2 : Nat} {o : Nat} (hK : KK[o]? = some (.inl 6)) (hR : (RR h1 h2 o 0).isSome = true) : Rn sc d 73 33 L (.ref o :: st) (cS f g h1 h2) r ↔ Rn sc d 73 36 L (.ref (rf h1 h2 o 0) :: st) (cS f g h1 h2) r := r_getR2 d73_33 (ci := 6) (k := 0) rfl (by decide) (fun _ => rfl) hK hR
theorem d73_36 : decode (mC 73) 36 = .ok (.getfield 123, 3) := by decide +kernel
theorem x73_36 {sc : aSc} {d : Nat} {r : aRes} {L : List Value} {st : List Value} {f : Nat → Nat → Int32} {g : Nat → Nat → Int64} {h1 h2 : Nat} {o : Nat} (h17 : 17 ≤ o) (hK : KK[o]? = some (.inl 1)) : Rn sc d 73 36 L (.ref o :: st) (cS f g h1 h2) r ↔ Rn sc d 73 39 L (.int (f o 1) :: st) (cS f g h1 h2) r := r_getI d73_36 (ci := 1) (k := 1) rfl (by decide) (fun _ => rfl) h17 hK
theorem d73_39 : decode (mC 73) 39 = .ok (.sipush 9999, 3) := by decide +kernel
theorem x73_39 {sc : aSc} {d : Nat} {r : aRes} {L : List Value} {st : List Value} {σ : aS} : Rn sc d 73 39 L st σ r ↔ Rn sc d 73 42 L (.int 9999 :: st) σ r := r_sipush d73_39 (by decide)
theorem d73_42 : decode (mC 73) 42 = .ok (.if_icmp .lt 6, 3) := by decide +kernel
theorem x73_42 {sc : aSc} {d : Nat} {r : aRes} {L : List Value} {st : List Value} {σ : aS} {x y : Int32} : Rn sc d 73 42 L (.int y :: .int x :: st) σ r ↔ if x < y then Rn sc d 73 48 L st σ r else Rn sc d 73 45 L st σ r := r_icmp_lt d73_42 rfl
theorem d73_45 : decode (mC 73) 45 = .ok (.bipush (-3), 2) := by decide +kernel
theorem x73_45 {sc : aSc} {d : Nat} {r : aRes} {L : List Value} {st : List Value} {σ : aS} : Rn sc d 73 45 L st σ r ↔ Rn sc d 73 47 L (.int (-3) :: st) σ r := r_bipush d73_45 (by decide)
theorem d73_47 : decode (mC 73) 47 = .ok (.ireturn, 1) := by decide +kernel
theorem x73_47 {sc : aSc} {d : Nat} {r : aRes} {L : List Value} {σ : aS} {x : Int32} : Rn sc d 73 47 L [.int x] σ r ↔ r = (σ, some (.int x)) := r_iret d73_47 rfl rfl
theorem d73_48 : decode (mC 73) 48 = .ok (.aload_n 0, 1) := by decide +kernel
theorem x73_48 {sc : aSc} {d : Nat} {r : aRes} {x0 : Nat} {a1 : Value} {a2 : Value} {a3 : Value} {st : List Value} {σ : aS} : Rn sc d 73 48 [.ref x0, a1, a2, a3] st σ r ↔ Rn sc d 73 49 [.ref x0, a1, a2, a3] (.ref x0 :: st) σ r := r_aload_n d73_48 rfl
theorem d73_49 : decode (mC 73) 49 = .ok (.getfield 50, 3) := by decide +kernel
theorem x73_49 {sc : aSc} {d : Nat} {r : aRes} {L : List Value} {st : List Value} {f : Nat → Nat → Int32} {g : Nat → Nat → Int64} {h1 h2 : Nat} {o : Nat} (hK : KK[o]? = some (.inl 6)) (hR : (RR h1 h2 o 0).isSome = true) : Rn sc d 73 49 L (.ref o :: st) (cS f g h1 h2) r ↔ Rn sc d 73 52 L (.ref (rf h1 h2 o 0) :: st) (cS f g h1 h2) r := r_getR2 d73_49 (ci := 6) (k := 0) rfl (by decide) (fun _ => rfl) hK hR
theorem d73_52 : decode (mC 73) 52 = .ok (.iload_n 1, 1) := by decide +kernel
theorem x73_52 {sc : aSc} {d : Nat} {r : aRes} {a0 : Value} {x1 : Int32} {a2 : Value} {a3 : Value} {st : List Value} {σ : aS} : Rn sc d 73 52 [a0, .int x1, a2, a3] st σ r ↔ Rn sc d 73 53 [a0, .int x1, a2, a3] (.int x1 :: st) σ r := r_iload_n d73_52 rfl
theorem d73_53 : decode (mC 73) 53 = .ok (.iload_n 2, 1) := by decide +kernel
theorem x73_53 {sc : aSc} {d : Nat} {r : aRes} {a0 : Value} {a1 : Value} {x2 : Int32} {a3 : Value} {st : List Value} {σ : aS} : Rn sc d 73 53 [a0, a1, .int x2, a3] st σ r ↔ Rn sc d 73 54 [a0, a1, .int x2, a3] (.int x2 :: st) σ r := r_iload_n d73_53 rfl
theorem d73_54 : decode (mC 73) 54 = .ok (.invokevirtual 152, 3) := by decide +kernel
theorem x73_54 {sc : aSc} {d : Nat} {r : aRes} {L : List Value} {f : Nat → Nat → Int32} {g : Nat → Nat → Int64} {h1 h2 : Nat} {y0 : Int32} {y1 : Int32}  {o : Nat} (hK : KK[o]? = some (.inl 1)) : Rn sc d 73 54 L [.int y0, .int y1, .ref o] (cS f g h1 h2) r ↔ ∃ (σ3 : aS) (v : Option Value), Cl sc d 20 [.ref o, .int y1, .int y0] (cS f g h1 h2) (σ3, v) ∧ Rn sc d 73 57 L (v.toList ++ []) σ3 r := r_callV (vs := [.int y0, .int y1]) d73_54 (j := 20) rfl ⟨rfl, by decide, rfl, rfl⟩ (Nat.le_of_ble_eq_true rfl) hK
theorem d73_57 : decode (mC 73) 57 = .ok (.ifCond .eq 7, 3) := by decide +kernel
theorem x73_57 {sc : aSc} {d : Nat} {r : aRes} {L : List Value} {st : List Value} {σ : aS} {x : Int32} : Rn sc d 73 57 L (.int x :: st) σ r ↔ if x = 0 then Rn sc d 73 64 L st σ r else Rn sc d 73 60 L st σ r := r_if_eq d73_57 rfl
theorem d73_60 : decode (mC 73) 60 = .ok (.iconst 1, 1) := by decide +kernel
theorem x73_60 {sc : aSc} {d : Nat} {r : aRes} {L : List Value} {st : List Value} {σ : aS} : Rn sc d 73 60 L st σ r ↔ Rn sc d 73 61 L (.int 1 :: st) σ r := r_iconst d73_60 (by decide)
theorem d73_61 : decode (mC 73) 61 = .ok (.goto 4, 3) := by decide +kernel
theorem x73_61 {sc : aSc} {d : Nat} {r : aRes} {L : List Value} {st : List Value} {σ : aS} : Rn sc d 73 61 L st σ r ↔ Rn sc d 73 65 L st σ r := r_goto d73_61 rfl
theorem d73_64 : decode (mC 73) 64 = .ok (.iconst 0, 1) := by decide +kernel
theorem x73_64 {sc : aSc} {d : Nat} {r : aRes} {L : List Value} {st : List Value} {σ : aS} : Rn sc d 73 64 L st σ r ↔ Rn sc d 73 65 L (.int 0 :: st) σ r := r_iconst d73_64 (by decide)
theorem d73_65 : decode (mC 73) 65 = .ok (.ireturn, 1) := by decide +kernel
theorem x73_65 {sc : aSc} {d : Nat} {r : aRes} {L : List Value} {σ : aS} {x : Int32} : Rn sc d 73 65 L [.int x] σ r ↔ r = (σ, some (.int x)) := r_iret d73_65 rfl rfl
theorem d74_0 : decode (mC 74) 0 = .ok (.aload_n 0, 1) := by decide +kernel
theorem x74_0 {sc : aSc} {d : Nat} {r : aRes} {x0 : Nat} {st : List Value} {σ : aS} : Rn sc d 74 0 [.ref x0] st σ r ↔ Rn sc d 74 1 [.ref x0] (.ref x0 :: st) σ r := r_aload_n d74_0 rfl
theorem d74_1 : decode (mC 74) 1 = .ok (.getfield 50, 3) := by decide +kernel
theorem x74_1 {sc : aSc} {d : Nat} {r : aRes} {L : List Value} {st : List Value} {f : Nat → Nat → Int32} {g : Nat → Nat → Int64} {h1 h2 : Nat} {o : Nat} (hK : KK[o]? = some (.inl 6)) (hR : (RR h1 h2 o 0).isSome = true) : Rn sc d 74 1 L (.ref o :: st) (cS f g h1 h2) r ↔ Rn sc d 74 4 L (.ref (rf h1 h2 o 0) :: st) (cS f g h1 h2) r := r_getR2 d74_1 (ci := 6) (k := 0) rfl (by decide) (fun _ => rfl) hK hR
theorem d74_4 : decode (mC 74) 4 = .ok (.getfield 123, 3) := by decide +kernel
theorem x74_4 {sc : aSc} {d : Nat} {r : aRes} {L : List Value} {st : List Value} {f : Nat → Nat → Int32} {g : Nat → Nat → Int64} {h1 h2 : Nat} {o : Nat} (h17 : 17 ≤ o) (hK : KK[o]? = some (.inl 1)) : Rn sc d 74 4 L (.ref o :: st) (cS f g h1 h2) r ↔ Rn sc d 74 7 L (.int (f o 1) :: st) (cS f g h1 h2) r := r_getI d74_4 (ci := 1) (k := 1) rfl (by decide) (fun _ => rfl) h17 hK
theorem d74_7 : decode (mC 74) 7 = .ok (.sipush 9999, 3) := by decide +kernel
theorem x74_7 {sc : aSc} {d : Nat} {r : aRes} {L : List Value} {st : List Value} {σ : aS} : Rn sc d 74 7 L st σ r ↔ Rn sc d 74 10 L (.int 9999 :: st) σ r := r_sipush d74_7 (by decide)
theorem d74_10 : decode (mC 74) 10 = .ok (.if_icmp .lt 6, 3) := by decide +kernel
theorem x74_10 {sc : aSc} {d : Nat} {r : aRes} {L : List Value} {st : List Value} {σ : aS} {x y : Int32} : Rn sc d 74 10 L (.int y :: .int x :: st) σ r ↔ if x < y then Rn sc d 74 16 L st σ r else Rn sc d 74 13 L st σ r := r_icmp_lt d74_10 rfl
theorem d74_13 : decode (mC 74) 13 = .ok (.bipush (-3), 2) := by decide +kernel
theorem x74_13 {sc : aSc} {d : Nat} {r : aRes} {L : List Value} {st : List Value} {σ : aS} : Rn sc d 74 13 L st σ r ↔ Rn sc d 74 15 L (.int (-3) :: st) σ r := r_bipush d74_13 (by decide)
theorem d74_15 : decode (mC 74) 15 = .ok (.ireturn, 1) := by decide +kernel
theorem x74_15 {sc : aSc} {d : Nat} {r : aRes} {L : List Value} {σ : aS} {x : Int32} : Rn sc d 74 15 L [.int x] σ r ↔ r = (σ, some (.int x)) := r_iret d74_15 rfl rfl
theorem d74_16 : decode (mC 74) 16 = .ok (.aload_n 0, 1) := by decide +kernel
theorem x74_16 {sc : aSc} {d : Nat} {r : aRes} {x0 : Nat} {st : List Value} {σ : aS} : Rn sc d 74 16 [.ref x0] st σ r ↔ Rn sc d 74 17 [.ref x0] (.ref x0 :: st) σ r := r_aload_n d74_16 rfl
theorem d74_17 : decode (mC 74) 17 = .ok (.getfield 50, 3) := by decide +kernel
theorem x74_17 {sc : aSc} {d : Nat} {r : aRes} {L : List Value} {st : List Value} {f : Nat → Nat → Int32} {g : Nat → Nat → Int64} {h1 h2 : Nat} {o : Nat} (hK : KK[o]? = some (.inl 6)) (hR : (RR h1 h2 o 0).isSome = true) : Rn sc d 74 17 L (.ref o :: st) (cS f g h1 h2) r ↔ Rn sc d 74 20 L (.ref (rf h1 h2 o 0) :: st) (cS f g h1 h2) r := r_getR2 d74_17 (ci := 6) (k := 0) rfl (by decide) (fun _ => rfl) hK hR
theorem d74_20 : decode (mC 74) 20 = .ok (.dup, 1) := by decide +kernel
theorem x74_20 {sc : aSc} {d : Nat} {r : aRes} {L : List Value} {st : List Value} {σ : aS} {y : Nat} : Rn sc d 74 20 L (.ref y :: st) σ r ↔ Rn sc d 74 21 L (.ref y :: .ref y :: st) σ r := r_dup d74_20 rfl
theorem d74_21 : decode (mC 74) 21 = .ok (.getfield 123, 3) := by decide +kernel
theorem x74_21 {sc : aSc} {d : Nat} {r : aRes} {L : List Value} {st : List Value} {f : Nat → Nat → Int32} {g : Nat → Nat → Int64} {h1 h2 : Nat} {o : Nat} (h17 : 17 ≤ o) (hK : KK[o]? = some (.inl 1)) : Rn sc d 74 21 L (.ref o :: st) (cS f g h1 h2) r ↔ Rn sc d 74 24 L (.int (f o 1) :: st) (cS f g h1 h2) r := r_getI d74_21 (ci := 1) (k := 1) rfl (by decide) (fun _ => rfl) h17 hK
theorem d74_24 : decode (mC 74) 24 = .ok (.iconst 1, 1) := by decide +kernel
theorem x74_24 {sc : aSc} {d : Nat} {r : aRes} {L : List Value} {st : List Value} {σ : aS} : Rn sc d 74 24 L st σ r ↔ Rn sc d 74 25 L (.int 1 :: st) σ r := r_iconst d74_24 (by decide)
theorem d74_25 : decode (mC 74) 25 = .ok (.iadd, 1) := by decide +kernel
theorem x74_25 {sc : aSc} {d : Nat} {r : aRes} {L : List Value} {st : List Value} {σ : aS} {x y : Int32} : Rn sc d 74 25 L (.int y :: .int x :: st) σ r ↔ Rn sc d 74 26 L (.int (x + y) :: st) σ r := r_iadd d74_25
theorem d74_26 : decode (mC 74) 26 = .ok (.putfield 123, 3) := by decide +kernel
theorem x74_26 {sc : aSc} {d : Nat} {r : aRes} {L : List Value} {st : List Value} {f : Nat → Nat → Int32} {g : Nat → Nat → Int64} {h1 h2 : Nat} {o : Nat} {v : Int32} (h17 : 17 ≤ o) (hK : KK[o]? = some (.inl 1)) : Rn sc d 74 26 L (.int v :: .ref o :: st) (cS f g h1 h2) r ↔ Rn sc d 74 29 L st (cS (u2 f o 1 v) g h1 h2) r := r_putI d74_26 (ci := 1) (k := 1) rfl (by decide) h17 hK
theorem d74_29 : decode (mC 74) 29 = .ok (.aload_n 0, 1) := by decide +kernel
theorem x74_29 {sc : aSc} {d : Nat} {r : aRes} {x0 : Nat} {st : List Value} {σ : aS} : Rn sc d 74 29 [.ref x0] st σ r ↔ Rn sc d 74 30 [.ref x0] (.ref x0 :: st) σ r := r_aload_n d74_29 rfl
theorem d74_30 : decode (mC 74) 30 = .ok (.getfield 50, 3) := by decide +kernel
theorem x74_30 {sc : aSc} {d : Nat} {r : aRes} {L : List Value} {st : List Value} {f : Nat → Nat → Int32} {g : Nat → Nat → Int64} {h1 h2 : Nat} {o : Nat} (hK : KK[o]? = some (.inl 6)) (hR : (RR h1 h2 o 0).isSome = true) : Rn sc d 74 30 L (.ref o :: st) (cS f g h1 h2) r ↔ Rn sc d 74 33 L (.ref (rf h1 h2 o 0) :: st) (cS f g h1 h2) r := r_getR2 d74_30 (ci := 6) (k := 0) rfl (by decide) (fun _ => rfl) hK hR
theorem d74_33 : decode (mC 74) 33 = .ok (.getfield 123, 3) := by decide +kernel
theorem x74_33 {sc : aSc} {d : Nat} {r : aRes} {L : List Value} {st : List Value} {f : Nat → Nat → Int32} {g : Nat → Nat → Int64} {h1 h2 : Nat} {o : Nat} (h17 : 17 ≤ o) (hK : KK[o]? = some (.inl 1)) : Rn sc d 74 33 L (.ref o :: st) (cS f g h1 h2) r ↔ Rn sc d 74 36 L (.int (f o 1) :: st) (cS f g h1 h2) r := r_getI d74_33 (ci := 1) (k := 1) rfl (by decide) (fun _ => rfl) h17 hK
theorem d74_36 : decode (mC 74) 36 = .ok (.ireturn, 1) := by decide +kernel
theorem x74_36 {sc : aSc} {d : Nat} {r : aRes} {L : List Value} {σ : aS} {x : Int32} : Rn sc d 74 36 L [.int x] σ r ↔ r = (σ, some (.int x)) := r_iret d74_36 rfl rfl
theorem d75_0 : decode (mC 75) 0 = .ok (.aload_n 0, 1) := by decide +kernel
theorem x75_0 {sc : aSc} {d : Nat} {r : aRes} {x0 : Nat} {a1 : Value} {a2 : Value} {a3 : Value} {st : List Value} {σ : aS} : Rn sc d 75 0 [.ref x0, a1, a2, a3] st σ r ↔ Rn sc d 75 1 [.ref x0, a1, a2, a3] (.ref x0 :: st) σ r := r_aload_n d75_0 rfl
theorem d75_1 : decode (mC 75) 1 = .ok (.getfield 50, 3) := by decide +kernel
theorem x75_1 {sc : aSc} {d : Nat} {r : aRes} {L : List Value} {st : List Value} {f : Nat → Nat → Int32} {g : Nat → Nat → Int64} {h1 h2 : Nat} {o : Nat} (hK : KK[o]? = some (.inl 6)) (hR : (RR h1 h2 o 0).isSome = true) : Rn sc d 75 1 L (.ref o :: st) (cS f g h1 h2) r ↔ Rn sc d 75 4 L (.ref (rf h1 h2 o 0) :: st) (cS f g h1 h2) r := r_getR2 d75_1 (ci := 6) (k := 0) rfl (by decide) (fun _ => rfl) hK hR
theorem d75_4 : decode (mC 75) 4 = .ok (.iload_n 1, 1) := by decide +kernel
theorem x75_4 {sc : aSc} {d : Nat} {r : aRes} {a0 : Value} {x1 : Int32} {a2 : Value} {a3 : Value} {st : List Value} {σ : aS} : Rn sc d 75 4 [a0, .int x1, a2, a3] st σ r ↔ Rn sc d 75 5 [a0, .int x1, a2, a3] (.int x1 :: st) σ r := r_iload_n d75_4 rfl
theorem d75_5 : decode (mC 75) 5 = .ok (.invokevirtual 70, 3) := by decide +kernel
theorem x75_5 {sc : aSc} {d : Nat} {r : aRes} {L : List Value} {f : Nat → Nat → Int32} {g : Nat → Nat → Int64} {h1 h2 : Nat} {y0 : Int32}  {o : Nat} (hK : KK[o]? = some (.inl 1)) : Rn sc d 75 5 L [.int y0, .ref o] (cS f g h1 h2) r ↔ ∃ (σ3 : aS) (v : Option Value), Cl sc d 7 [.ref o, .int y0] (cS f g h1 h2) (σ3, v) ∧ Rn sc d 75 8 L (v.toList ++ []) σ3 r := r_callV (vs := [.int y0]) d75_5 (j := 7) rfl ⟨rfl, by decide, rfl, rfl⟩ (Nat.le_of_ble_eq_true rfl) hK
theorem d75_8 : decode (mC 75) 8 = .ok (.ifCond .ne 5, 3) := by decide +kernel
theorem x75_8 {sc : aSc} {d : Nat} {r : aRes} {L : List Value} {st : List Value} {σ : aS} {x : Int32} : Rn sc d 75 8 L (.int x :: st) σ r ↔ if x = 0 then Rn sc d 75 11 L st σ r else Rn sc d 75 13 L st σ r := r_if_ne d75_8 rfl
theorem d75_11 : decode (mC 75) 11 = .ok (.iconst (-1), 1) := by decide +kernel
theorem x75_11 {sc : aSc} {d : Nat} {r : aRes} {L : List Value} {st : List Value} {σ : aS} : Rn sc d 75 11 L st σ r ↔ Rn sc d 75 12 L (.int (-1) :: st) σ r := r_iconst d75_11 (by decide)
theorem d75_12 : decode (mC 75) 12 = .ok (.ireturn, 1) := by decide +kernel
theorem x75_12 {sc : aSc} {d : Nat} {r : aRes} {L : List Value} {σ : aS} {x : Int32} : Rn sc d 75 12 L [.int x] σ r ↔ r = (σ, some (.int x)) := r_iret d75_12 rfl rfl
theorem d75_13 : decode (mC 75) 13 = .ok (.iconst 0, 1) := by decide +kernel
theorem x75_13 {sc : aSc} {d : Nat} {r : aRes} {L : List Value} {st : List Value} {σ : aS} : Rn sc d 75 13 L st σ r ↔ Rn sc d 75 14 L (.int 0 :: st) σ r := r_iconst d75_13 (by decide)
theorem d75_14 : decode (mC 75) 14 = .ok (.istore_n 2, 1) := by decide +kernel
theorem x75_14 {sc : aSc} {d : Nat} {r : aRes} {a0 : Value} {x1 : Int32} {a2 : Value} {a3 : Value} {st : List Value} {σ : aS} {y : Int32} : Rn sc d 75 14 [a0, .int x1, a2, a3] (.int y :: st) σ r ↔ Rn sc d 75 15 [a0, .int x1, .int y, a3] st σ r := r_istore_n d75_14 (Nat.le_of_ble_eq_true rfl) rfl
theorem d75_15 : decode (mC 75) 15 = .ok (.iconst 0, 1) := by decide +kernel
theorem x75_15 {sc : aSc} {d : Nat} {r : aRes} {L : List Value} {st : List Value} {σ : aS} : Rn sc d 75 15 L st σ r ↔ Rn sc d 75 16 L (.int 0 :: st) σ r := r_iconst d75_15 (by decide)
theorem d75_16 : decode (mC 75) 16 = .ok (.istore_n 3, 1) := by decide +kernel
theorem x75_16 {sc : aSc} {d : Nat} {r : aRes} {a0 : Value} {a1 : Value} {x2 : Int32} {a3 : Value} {st : List Value} {σ : aS} {y : Int32} : Rn sc d 75 16 [a0, a1, .int x2, a3] (.int y :: st) σ r ↔ Rn sc d 75 17 [a0, a1, .int x2, .int y] st σ r := r_istore_n d75_16 (Nat.le_of_ble_eq_true rfl) rfl
theorem d75_17 : decode (mC 75) 17 = .ok (.iload_n 3, 1) := by decide +kernel
theorem x75_17 {sc : aSc} {d : Nat} {r : aRes} {a0 : Value} {a1 : Value} {a2 : Value} {x3 : Int32} {st : List Value} {σ : aS} : Rn sc d 75 17 [a0, a1, a2, .int x3] st σ r ↔ Rn sc d 75 18 [a0, a1, a2, .int x3] (.int x3 :: st) σ r := r_iload_n d75_17 rfl
theorem d75_18 : decode (mC 75) 18 = .ok (.aload_n 0, 1) := by decide +kernel
theorem x75_18 {sc : aSc} {d : Nat} {r : aRes} {x0 : Nat} {a1 : Value} {a2 : Value} {a3 : Value} {st : List Value} {σ : aS} : Rn sc d 75 18 [.ref x0, a1, a2, a3] st σ r ↔ Rn sc d 75 19 [.ref x0, a1, a2, a3] (.ref x0 :: st) σ r := r_aload_n d75_18 rfl
theorem d75_19 : decode (mC 75) 19 = .ok (.getfield 50, 3) := by decide +kernel
theorem x75_19 {sc : aSc} {d : Nat} {r : aRes} {L : List Value} {st : List Value} {f : Nat → Nat → Int32} {g : Nat → Nat → Int64} {h1 h2 : Nat} {o : Nat} (hK : KK[o]? = some (.inl 6)) (hR : (RR h1 h2 o 0).isSome = true) : Rn sc d 75 19 L (.ref o :: st) (cS f g h1 h2) r ↔ Rn sc d 75 22 L (.ref (rf h1 h2 o 0) :: st) (cS f g h1 h2) r := r_getR2 d75_19 (ci := 6) (k := 0) rfl (by decide) (fun _ => rfl) hK hR
theorem d75_22 : decode (mC 75) 22 = .ok (.getfield 62, 3) := by decide +kernel
theorem x75_22 {sc : aSc} {d : Nat} {r : aRes} {L : List Value} {st : List Value} {f : Nat → Nat → Int32} {g : Nat → Nat → Int64} {h1 h2 : Nat} {o : Nat} (h17 : 17 ≤ o) (hK : KK[o]? = some (.inl 1)) : Rn sc d 75 22 L (.ref o :: st) (cS f g h1 h2) r ↔ Rn sc d 75 25 L (.int (f o 0) :: st) (cS f g h1 h2) r := r_getI d75_22 (ci := 1) (k := 0) rfl (by decide) (fun _ => rfl) h17 hK
theorem d75_25 : decode (mC 75) 25 = .ok (.if_icmp .ge 41, 3) := by decide +kernel
theorem x75_25 {sc : aSc} {d : Nat} {r : aRes} {L : List Value} {st : List Value} {σ : aS} {x y : Int32} : Rn sc d 75 25 L (.int y :: .int x :: st) σ r ↔ if x < y then Rn sc d 75 28 L st σ r else Rn sc d 75 66 L st σ r := r_icmp_ge d75_25 rfl
theorem d75_28 : decode (mC 75) 28 = .ok (.aload_n 0, 1) := by decide +kernel
theorem x75_28 {sc : aSc} {d : Nat} {r : aRes} {x0 : Nat} {a1 : Value} {a2 : Value} {a3 : Value} {st : List Value} {σ : aS} : Rn sc d 75 28 [.ref x0, a1, a2, a3] st σ r ↔ Rn sc d 75 29 [.ref x0, a1, a2, a3] (.ref x0 :: st) σ r := r_aload_n d75_28 rfl
theorem d75_29 : decode (mC 75) 29 = .ok (.getfield 50, 3) := by decide +kernel
theorem x75_29 {sc : aSc} {d : Nat} {r : aRes} {L : List Value} {st : List Value} {f : Nat → Nat → Int32} {g : Nat → Nat → Int64} {h1 h2 : Nat} {o : Nat} (hK : KK[o]? = some (.inl 6)) (hR : (RR h1 h2 o 0).isSome = true) : Rn sc d 75 29 L (.ref o :: st) (cS f g h1 h2) r ↔ Rn sc d 75 32 L (.ref (rf h1 h2 o 0) :: st) (cS f g h1 h2) r := r_getR2 d75_29 (ci := 6) (k := 0) rfl (by decide) (fun _ => rfl) hK hR
theorem d75_32 : decode (mC 75) 32 = .ok (.iload_n 1, 1) := by decide +kernel
theorem x75_32 {sc : aSc} {d : Nat} {r : aRes} {a0 : Value} {x1 : Int32} {a2 : Value} {a3 : Value} {st : List Value} {σ : aS} : Rn sc d 75 32 [a0, .int x1, a2, a3] st σ r ↔ Rn sc d 75 33 [a0, .int x1, a2, a3] (.int x1 :: st) σ r := r_iload_n d75_32 rfl
theorem d75_33 : decode (mC 75) 33 = .ok (.iload_n 3, 1) := by decide +kernel
theorem x75_33 {sc : aSc} {d : Nat} {r : aRes} {a0 : Value} {a1 : Value} {a2 : Value} {x3 : Int32} {st : List Value} {σ : aS} : Rn sc d 75 33 [a0, a1, a2, .int x3] st σ r ↔ Rn sc d 75 34 [a0, a1, a2, .int x3] (.int x3 :: st) σ r := r_iload_n d75_33 rfl
theorem d75_34 : decode (mC 75) 34 = .ok (.aload_n 0, 1) := by decide +kernel
theorem x75_34 {sc : aSc} {d : Nat} {r : aRes} {x0 : Nat} {a1 : Value} {a2 : Value} {a3 : Value} {st : List Value} {σ : aS} : Rn sc d 75 34 [.ref x0, a1, a2, a3] st σ r ↔ Rn sc d 75 35 [.ref x0, a1, a2, a3] (.ref x0 :: st) σ r := r_aload_n d75_34 rfl
theorem d75_35 : decode (mC 75) 35 = .ok (.getfield 50, 3) := by decide +kernel
theorem x75_35 {sc : aSc} {d : Nat} {r : aRes} {L : List Value} {st : List Value} {f : Nat → Nat → Int32} {g : Nat → Nat → Int64} {h1 h2 : Nat} {o : Nat} (hK : KK[o]? = some (.inl 6)) (hR : (RR h1 h2 o 0).isSome = true) : Rn sc d 75 35 L (.ref o :: st) (cS f g h1 h2) r ↔ Rn sc d 75 38 L (.ref (rf h1 h2 o 0) :: st) (cS f g h1 h2) r := r_getR2 d75_35 (ci := 6) (k := 0) rfl (by decide) (fun _ => rfl) hK hR
theorem d75_38 : decode (mC 75) 38 = .ok (.getfield 129, 3) := by decide +kernel
theorem x75_38 {sc : aSc} {d : Nat} {r : aRes} {L : List Value} {st : List Value} {f : Nat → Nat → Int32} {g : Nat → Nat → Int64} {h1 h2 : Nat} {o : Nat} (h17 : 17 ≤ o) (hK : KK[o]? = some (.inl 1)) : Rn sc d 75 38 L (.ref o :: st) (cS f g h1 h2) r ↔ Rn sc d 75 41 L (.int (f o 4) :: st) (cS f g h1 h2) r := r_getI d75_38 (ci := 1) (k := 4) rfl (by decide) (fun _ => rfl) h17 hK
theorem d75_41 : decode (mC 75) 41 = .ok (.aload_n 0, 1) := by decide +kernel
theorem x75_41 {sc : aSc} {d : Nat} {r : aRes} {x0 : Nat} {a1 : Value} {a2 : Value} {a3 : Value} {st : List Value} {σ : aS} : Rn sc d 75 41 [.ref x0, a1, a2, a3] st σ r ↔ Rn sc d 75 42 [.ref x0, a1, a2, a3] (.ref x0 :: st) σ r := r_aload_n d75_41 rfl
theorem d75_42 : decode (mC 75) 42 = .ok (.getfield 50, 3) := by decide +kernel
theorem x75_42 {sc : aSc} {d : Nat} {r : aRes} {L : List Value} {st : List Value} {f : Nat → Nat → Int32} {g : Nat → Nat → Int64} {h1 h2 : Nat} {o : Nat} (hK : KK[o]? = some (.inl 6)) (hR : (RR h1 h2 o 0).isSome = true) : Rn sc d 75 42 L (.ref o :: st) (cS f g h1 h2) r ↔ Rn sc d 75 45 L (.ref (rf h1 h2 o 0) :: st) (cS f g h1 h2) r := r_getR2 d75_42 (ci := 6) (k := 0) rfl (by decide) (fun _ => rfl) hK hR
theorem d75_45 : decode (mC 75) 45 = .ok (.getfield 123, 3) := by decide +kernel
theorem x75_45 {sc : aSc} {d : Nat} {r : aRes} {L : List Value} {st : List Value} {f : Nat → Nat → Int32} {g : Nat → Nat → Int64} {h1 h2 : Nat} {o : Nat} (h17 : 17 ≤ o) (hK : KK[o]? = some (.inl 1)) : Rn sc d 75 45 L (.ref o :: st) (cS f g h1 h2) r ↔ Rn sc d 75 48 L (.int (f o 1) :: st) (cS f g h1 h2) r := r_getI d75_45 (ci := 1) (k := 1) rfl (by decide) (fun _ => rfl) h17 hK
theorem d75_48 : decode (mC 75) 48 = .ok (.invokevirtual 155, 3) := by decide +kernel
theorem x75_48 {sc : aSc} {d : Nat} {r : aRes} {L : List Value} {f : Nat → Nat → Int32} {g : Nat → Nat → Int64} {h1 h2 : Nat} {y0 : Int32} {y1 : Int32} {y2 : Int32} {y3 : Int32}  {o : Nat} (hK : KK[o]? = some (.inl 1)) : Rn sc d 75 48 L [.int y0, .int y1, .int y2, .int y3, .ref o] (cS f g h1 h2) r ↔ ∃ (σ3 : aS) (v : Option Value), Cl sc d 19 [.ref o, .int y3, .int y2, .int y1, .int y0] (cS f g h1 h2) (σ3, v) ∧ Rn sc d 75 51 L (v.toList ++ []) σ3 r := r_callV (vs := [.int y0, .int y1, .int y2, .int y3]) d75_48 (j := 19) rfl ⟨rfl, by decide, rfl, rfl⟩ (Nat.le_of_ble_eq_true rfl) hK
theorem d75_51 : decode (mC 75) 51 = .ok (.ifCond .eq 9, 3) := by decide +kernel
theorem x75_51 {sc : aSc} {d : Nat} {r : aRes} {L : List Value} {st : List Value} {σ : aS} {x : Int32} : Rn sc d 75 51 L (.int x :: st) σ r ↔ if x = 0 then Rn sc d 75 60 L st σ r else Rn sc d 75 54 L st σ r := r_if_eq d75_51 rfl
theorem d75_54 : decode (mC 75) 54 = .ok (.iload_n 2, 1) := by decide +kernel
theorem x75_54 {sc : aSc} {d : Nat} {r : aRes} {a0 : Value} {a1 : Value} {x2 : Int32} {a3 : Value} {st : List Value} {σ : aS} : Rn sc d 75 54 [a0, a1, .int x2, a3] st σ r ↔ Rn sc d 75 55 [a0, a1, .int x2, a3] (.int x2 :: st) σ r := r_iload_n d75_54 rfl
theorem d75_55 : decode (mC 75) 55 = .ok (.iconst 1, 1) := by decide +kernel
theorem x75_55 {sc : aSc} {d : Nat} {r : aRes} {L : List Value} {st : List Value} {σ : aS} : Rn sc d 75 55 L st σ r ↔ Rn sc d 75 56 L (.int 1 :: st) σ r := r_iconst d75_55 (by decide)
theorem d75_56 : decode (mC 75) 56 = .ok (.iload_n 3, 1) := by decide +kernel
theorem x75_56 {sc : aSc} {d : Nat} {r : aRes} {a0 : Value} {a1 : Value} {a2 : Value} {x3 : Int32} {st : List Value} {σ : aS} : Rn sc d 75 56 [a0, a1, a2, .int x3] st σ r ↔ Rn sc d 75 57 [a0, a1, a2, .int x3] (.int x3 :: st) σ r := r_iload_n d75_56 rfl
theorem d75_57 : decode (mC 75) 57 = .ok (.ishl, 1) := by decide +kernel
theorem x75_57 {sc : aSc} {d : Nat} {r : aRes} {L : List Value} {st : List Value} {σ : aS} {x y : Int32} : Rn sc d 75 57 L (.int y :: .int x :: st) σ r ↔ Rn sc d 75 58 L (.int (x <<< (y &&& 31)) :: st) σ r := r_ishl d75_57
theorem d75_58 : decode (mC 75) 58 = .ok (.ior, 1) := by decide +kernel
theorem x75_58 {sc : aSc} {d : Nat} {r : aRes} {L : List Value} {st : List Value} {σ : aS} {x y : Int32} : Rn sc d 75 58 L (.int y :: .int x :: st) σ r ↔ Rn sc d 75 59 L (.int (x ||| y) :: st) σ r := r_ior d75_58
theorem d75_59 : decode (mC 75) 59 = .ok (.istore_n 2, 1) := by decide +kernel
theorem x75_59 {sc : aSc} {d : Nat} {r : aRes} {a0 : Value} {x1 : Int32} {a2 : Value} {a3 : Value} {st : List Value} {σ : aS} {y : Int32} : Rn sc d 75 59 [a0, .int x1, a2, a3] (.int y :: st) σ r ↔ Rn sc d 75 60 [a0, .int x1, .int y, a3] st σ r := r_istore_n d75_59 (Nat.le_of_ble_eq_true rfl) rfl
theorem d75_60 : decode (mC 75) 60 = .ok (.iinc 3 1, 3) := by decide +kernel
theorem x75_60 {sc : aSc} {d : Nat} {r : aRes} {a0 : Value} {a1 : Value} {x2 : Int32} {x3 : Int32} {st : List Value} {σ : aS} : Rn sc d 75 60 [a0, a1, .int x2, .int x3] st σ r ↔ Rn sc d 75 63 [a0, a1, .int x2, .int (x3 + 1)] st σ r := r_iinc d75_60 (Nat.le_of_ble_eq_true rfl) rfl rfl (by decide)
theorem d75_63 : decode (mC 75) 63 = .ok (.goto (-46), 3) := by decide +kernel
theorem x75_63 {sc : aSc} {d : Nat} {r : aRes} {L : List Value} {st : List Value} {σ : aS} : Rn sc d 75 63 L st σ r ↔ Rn sc d 75 17 L st σ r := r_goto d75_63 rfl
theorem d75_66 : decode (mC 75) 66 = .ok (.iload_n 2, 1) := by decide +kernel
theorem x75_66 {sc : aSc} {d : Nat} {r : aRes} {a0 : Value} {a1 : Value} {x2 : Int32} {a3 : Value} {st : List Value} {σ : aS} : Rn sc d 75 66 [a0, a1, .int x2, a3] st σ r ↔ Rn sc d 75 67 [a0, a1, .int x2, a3] (.int x2 :: st) σ r := r_iload_n d75_66 rfl
theorem d75_67 : decode (mC 75) 67 = .ok (.ireturn, 1) := by decide +kernel
theorem x75_67 {sc : aSc} {d : Nat} {r : aRes} {L : List Value} {σ : aS} {x : Int32} : Rn sc d 75 67 L [.int x] σ r ↔ r = (σ, some (.int x)) := r_iret d75_67 rfl rfl
theorem d76_0 : decode (mC 76) 0 = .ok (.aload_n 0, 1) := by decide +kernel
theorem x76_0 {sc : aSc} {d : Nat} {r : aRes} {x0 : Nat} {a1 : Value} {a2 : Value} {a3 : Value} {a4 : Value} {a5 : Value} {a6 : Value} {st : List Value} {σ : aS} : Rn sc d 76 0 [.ref x0, a1, a2, a3, a4, a5, a6] st σ r ↔ Rn sc d 76 1 [.ref x0, a1, a2, a3, a4, a5, a6] (.ref x0 :: st) σ r := r_aload_n d76_0 rfl
theorem d76_1 : decode (mC 76) 1 = .ok (.getfield 50, 3) := by decide +kernel
theorem x76_1 {sc : aSc} {d : Nat} {r : aRes} {L : List Value} {st : List Value} {f : Nat → Nat → Int32} {g : Nat → Nat → Int64} {h1 h2 : Nat} {o : Nat} (hK : KK[o]? = some (.inl 6)) (hR : (RR h1 h2 o 0).isSome = true) : Rn sc d 76 1 L (.ref o :: st) (cS f g h1 h2) r ↔ Rn sc d 76 4 L (.ref (rf h1 h2 o 0) :: st) (cS f g h1 h2) r := r_getR2 d76_1 (ci := 6) (k := 0) rfl (by decide) (fun _ => rfl) hK hR
theorem d76_4 : decode (mC 76) 4 = .ok (.iload_n 1, 1) := by decide +kernel
theorem x76_4 {sc : aSc} {d : Nat} {r : aRes} {a0 : Value} {x1 : Int32} {a2 : Value} {a3 : Value} {a4 : Value} {a5 : Value} {a6 : Value} {st : List Value} {σ : aS} : Rn sc d 76 4 [a0, .int x1, a2, a3, a4, a5, a6] st σ r ↔ Rn sc d 76 5 [a0, .int x1, a2, a3, a4, a5, a6] (.int x1 :: st) σ r := r_iload_n d76_4 rfl
theorem d76_5 : decode (mC 76) 5 = .ok (.invokevirtual 70, 3) := by decide +kernel
theorem x76_5 {sc : aSc} {d : Nat} {r : aRes} {L : List Value} {f : Nat → Nat → Int32} {g : Nat → Nat → Int64} {h1 h2 : Nat} {y0 : Int32}  {o : Nat} (hK : KK[o]? = some (.inl 1)) : Rn sc d 76 5 L [.int y0, .ref o] (cS f g h1 h2) r ↔ ∃ (σ3 : aS) (v : Option Value), Cl sc d 7 [.ref o, .int y0] (cS f g h1 h2) (σ3, v) ∧ Rn sc d 76 8 L (v.toList ++ []) σ3 r := r_callV (vs := [.int y0]) d76_5 (j := 7) rfl ⟨rfl, by decide, rfl, rfl⟩ (Nat.le_of_ble_eq_true rfl) hK
theorem d76_8 : decode (mC 76) 8 = .ok (.ifCond .eq 22, 3) := by decide +kernel
theorem x76_8 {sc : aSc} {d : Nat} {r : aRes} {L : List Value} {st : List Value} {σ : aS} {x : Int32} : Rn sc d 76 8 L (.int x :: st) σ r ↔ if x = 0 then Rn sc d 76 30 L st σ r else Rn sc d 76 11 L st σ r := r_if_eq d76_8 rfl
theorem d76_11 : decode (mC 76) 11 = .ok (.aload_n 0, 1) := by decide +kernel
theorem x76_11 {sc : aSc} {d : Nat} {r : aRes} {x0 : Nat} {a1 : Value} {a2 : Value} {a3 : Value} {a4 : Value} {a5 : Value} {a6 : Value} {st : List Value} {σ : aS} : Rn sc d 76 11 [.ref x0, a1, a2, a3, a4, a5, a6] st σ r ↔ Rn sc d 76 12 [.ref x0, a1, a2, a3, a4, a5, a6] (.ref x0 :: st) σ r := r_aload_n d76_11 rfl
theorem d76_12 : decode (mC 76) 12 = .ok (.getfield 50, 3) := by decide +kernel
theorem x76_12 {sc : aSc} {d : Nat} {r : aRes} {L : List Value} {st : List Value} {f : Nat → Nat → Int32} {g : Nat → Nat → Int64} {h1 h2 : Nat} {o : Nat} (hK : KK[o]? = some (.inl 6)) (hR : (RR h1 h2 o 0).isSome = true) : Rn sc d 76 12 L (.ref o :: st) (cS f g h1 h2) r ↔ Rn sc d 76 15 L (.ref (rf h1 h2 o 0) :: st) (cS f g h1 h2) r := r_getR2 d76_12 (ci := 6) (k := 0) rfl (by decide) (fun _ => rfl) hK hR
theorem d76_15 : decode (mC 76) 15 = .ok (.iload_n 2, 1) := by decide +kernel
theorem x76_15 {sc : aSc} {d : Nat} {r : aRes} {a0 : Value} {a1 : Value} {x2 : Int32} {a3 : Value} {a4 : Value} {a5 : Value} {a6 : Value} {st : List Value} {σ : aS} : Rn sc d 76 15 [a0, a1, .int x2, a3, a4, a5, a6] st σ r ↔ Rn sc d 76 16 [a0, a1, .int x2, a3, a4, a5, a6] (.int x2 :: st) σ r := r_iload_n d76_15 rfl
theorem d76_16 : decode (mC 76) 16 = .ok (.invokevirtual 70, 3) := by decide +kernel
theorem x76_16 {sc : aSc} {d : Nat} {r : aRes} {L : List Value} {f : Nat → Nat → Int32} {g : Nat → Nat → Int64} {h1 h2 : Nat} {y0 : Int32}  {o : Nat} (hK : KK[o]? = some (.inl 1)) : Rn sc d 76 16 L [.int y0, .ref o] (cS f g h1 h2) r ↔ ∃ (σ3 : aS) (v : Option Value), Cl sc d 7 [.ref o, .int y0] (cS f g h1 h2) (σ3, v) ∧ Rn sc d 76 19 L (v.toList ++ []) σ3 r := r_callV (vs := [.int y0]) d76_16 (j := 7) rfl ⟨rfl, by decide, rfl, rfl⟩ (Nat.le_of_ble_eq_true rfl) hK
theorem d76_19 : decode (mC 76) 19 = .ok (.ifCond .eq 11, 3) := by decide +kernel
theorem x76_19 {sc : aSc} {d : Nat} {r : aRes} {L : List Value} {st : List Value} {σ : aS} {x : Int32} : Rn sc d 76 19 L (.int x :: st) σ r ↔ if x = 0 then Rn sc d 76 30 L st σ r else Rn sc d 76 22 L st σ r := r_if_eq d76_19 rfl
theorem d76_22 : decode (mC 76) 22 = .ok (.iload_n 3, 1) := by decide +kernel
theorem x76_22 {sc : aSc} {d : Nat} {r : aRes} {a0 : Value} {a1 : Value} {a2 : Value} {x3 : Int32} {a4 : Value} {a5 : Value} {a6 : Value} {st : List Value} {σ : aS} : Rn sc d 76 22 [a0, a1, a2, .int x3, a4, a5, a6] st σ r ↔ Rn sc d 76 23 [a0, a1, a2, .int x3, a4, a5, a6] (.int x3 :: st) σ r := r_iload_n d76_22 rfl
theorem d76_23 : decode (mC 76) 23 = .ok (.iconst 1, 1) := by decide +kernel
theorem x76_23 {sc : aSc} {d : Nat} {r : aRes} {L : List Value} {st : List Value} {σ : aS} : Rn sc d 76 23 L st σ r ↔ Rn sc d 76 24 L (.int 1 :: st) σ r := r_iconst d76_23 (by decide)
theorem d76_24 : decode (mC 76) 24 = .ok (.invokestatic 58, 3) := by decide +kernel
theorem x76_24 {sc : aSc} {d : Nat} {r : aRes} {L : List Value} {σ : aS} {y0 : Int32} {y1 : Int32}  : Rn sc d 76 24 L [.int y0, .int y1] σ r ↔ ∃ (σ3 : aS) (v : Option Value), Cl sc d 102 [.int y1, .int y0] σ (σ3, v) ∧ Rn sc d 76 27 L (v.toList ++ []) σ3 r := r_callS (vs := [.int y0, .int y1]) d76_24 rfl (j := 102) rfl ⟨rfl, by decide, rfl, rfl⟩ (Nat.le_of_ble_eq_true rfl)
theorem d76_27 : decode (mC 76) 27 = .ok (.ifCond .ne 5, 3) := by decide +kernel
theorem x76_27 {sc : aSc} {d : Nat} {r : aRes} {L : List Value} {st : List Value} {σ : aS} {x : Int32} : Rn sc d 76 27 L (.int x :: st) σ r ↔ if x = 0 then Rn sc d 76 30 L st σ r else Rn sc d 76 32 L st σ r := r_if_ne d76_27 rfl
theorem d76_30 : decode (mC 76) 30 = .ok (.iconst (-1), 1) := by decide +kernel
theorem x76_30 {sc : aSc} {d : Nat} {r : aRes} {L : List Value} {st : List Value} {σ : aS} : Rn sc d 76 30 L st σ r ↔ Rn sc d 76 31 L (.int (-1) :: st) σ r := r_iconst d76_30 (by decide)
theorem d76_31 : decode (mC 76) 31 = .ok (.ireturn, 1) := by decide +kernel
theorem x76_31 {sc : aSc} {d : Nat} {r : aRes} {L : List Value} {σ : aS} {x : Int32} : Rn sc d 76 31 L [.int x] σ r ↔ r = (σ, some (.int x)) := r_iret d76_31 rfl rfl
theorem d76_32 : decode (mC 76) 32 = .ok (.iload_n 1, 1) := by decide +kernel
theorem x76_32 {sc : aSc} {d : Nat} {r : aRes} {a0 : Value} {x1 : Int32} {a2 : Value} {a3 : Value} {a4 : Value} {a5 : Value} {a6 : Value} {st : List Value} {σ : aS} : Rn sc d 76 32 [a0, .int x1, a2, a3, a4, a5, a6] st σ r ↔ Rn sc d 76 33 [a0, .int x1, a2, a3, a4, a5, a6] (.int x1 :: st) σ r := r_iload_n d76_32 rfl
theorem d76_33 : decode (mC 76) 33 = .ok (.iload_n 2, 1) := by decide +kernel
theorem x76_33 {sc : aSc} {d : Nat} {r : aRes} {a0 : Value} {a1 : Value} {x2 : Int32} {a3 : Value} {a4 : Value} {a5 : Value} {a6 : Value} {st : List Value} {σ : aS} : Rn sc d 76 33 [a0, a1, .int x2, a3, a4, a5, a6] st σ r ↔ Rn sc d 76 34 [a0, a1, .int x2, a3, a4, a5, a6] (.int x2 :: st) σ r := r_iload_n d76_33 rfl
theorem d76_34 : decode (mC 76) 34 = .ok (.if_icmp .ne 6, 3) := by decide +kernel
theorem x76_34 {sc : aSc} {d : Nat} {r : aRes} {L : List Value} {st : List Value} {σ : aS} {x y : Int32} : Rn sc d 76 34 L (.int y :: .int x :: st) σ r ↔ if x = y then Rn sc d 76 37 L st σ r else Rn sc d 76 40 L st σ r := r_icmp_ne d76_34 rfl
theorem d76_37 : decode (mC 76) 37 = .ok (.bipush (-2), 2) := by decide +kernel
theorem x76_37 {sc : aSc} {d : Nat} {r : aRes} {L : List Value} {st : List Value} {σ : aS} : Rn sc d 76 37 L st σ r ↔ Rn sc d 76 39 L (.int (-2) :: st) σ r := r_bipush d76_37 (by decide)
theorem d76_39 : decode (mC 76) 39 = .ok (.ireturn, 1) := by decide +kernel
theorem x76_39 {sc : aSc} {d : Nat} {r : aRes} {L : List Value} {σ : aS} {x : Int32} : Rn sc d 76 39 L [.int x] σ r ↔ r = (σ, some (.int x)) := r_iret d76_39 rfl rfl
theorem d76_40 : decode (mC 76) 40 = .ok (.aload_n 0, 1) := by decide +kernel
theorem x76_40 {sc : aSc} {d : Nat} {r : aRes} {x0 : Nat} {a1 : Value} {a2 : Value} {a3 : Value} {a4 : Value} {a5 : Value} {a6 : Value} {st : List Value} {σ : aS} : Rn sc d 76 40 [.ref x0, a1, a2, a3, a4, a5, a6] st σ r ↔ Rn sc d 76 41 [.ref x0, a1, a2, a3, a4, a5, a6] (.ref x0 :: st) σ r := r_aload_n d76_40 rfl
theorem d76_41 : decode (mC 76) 41 = .ok (.getfield 50, 3) := by decide +kernel
theorem x76_41 {sc : aSc} {d : Nat} {r : aRes} {L : List Value} {st : List Value} {f : Nat → Nat → Int32} {g : Nat → Nat → Int64} {h1 h2 : Nat} {o : Nat} (hK : KK[o]? = some (.inl 6)) (hR : (RR h1 h2 o 0).isSome = true) : Rn sc d 76 41 L (.ref o :: st) (cS f g h1 h2) r ↔ Rn sc d 76 44 L (.ref (rf h1 h2 o 0) :: st) (cS f g h1 h2) r := r_getR2 d76_41 (ci := 6) (k := 0) rfl (by decide) (fun _ => rfl) hK hR
theorem d76_44 : decode (mC 76) 44 = .ok (.iload_n 1, 1) := by decide +kernel
theorem x76_44 {sc : aSc} {d : Nat} {r : aRes} {a0 : Value} {x1 : Int32} {a2 : Value} {a3 : Value} {a4 : Value} {a5 : Value} {a6 : Value} {st : List Value} {σ : aS} : Rn sc d 76 44 [a0, .int x1, a2, a3, a4, a5, a6] st σ r ↔ Rn sc d 76 45 [a0, .int x1, a2, a3, a4, a5, a6] (.int x1 :: st) σ r := r_iload_n d76_44 rfl
theorem d76_45 : decode (mC 76) 45 = .ok (.iload_n 2, 1) := by decide +kernel
theorem x76_45 {sc : aSc} {d : Nat} {r : aRes} {a0 : Value} {a1 : Value} {x2 : Int32} {a3 : Value} {a4 : Value} {a5 : Value} {a6 : Value} {st : List Value} {σ : aS} : Rn sc d 76 45 [a0, a1, .int x2, a3, a4, a5, a6] st σ r ↔ Rn sc d 76 46 [a0, a1, .int x2, a3, a4, a5, a6] (.int x2 :: st) σ r := r_iload_n d76_45 rfl
theorem d76_46 : decode (mC 76) 46 = .ok (.aload_n 0, 1) := by decide +kernel
theorem x76_46 {sc : aSc} {d : Nat} {r : aRes} {x0 : Nat} {a1 : Value} {a2 : Value} {a3 : Value} {a4 : Value} {a5 : Value} {a6 : Value} {st : List Value} {σ : aS} : Rn sc d 76 46 [.ref x0, a1, a2, a3, a4, a5, a6] st σ r ↔ Rn sc d 76 47 [.ref x0, a1, a2, a3, a4, a5, a6] (.ref x0 :: st) σ r := r_aload_n d76_46 rfl
theorem d76_47 : decode (mC 76) 47 = .ok (.getfield 50, 3) := by decide +kernel
theorem x76_47 {sc : aSc} {d : Nat} {r : aRes} {L : List Value} {st : List Value} {f : Nat → Nat → Int32} {g : Nat → Nat → Int64} {h1 h2 : Nat} {o : Nat} (hK : KK[o]? = some (.inl 6)) (hR : (RR h1 h2 o 0).isSome = true) : Rn sc d 76 47 L (.ref o :: st) (cS f g h1 h2) r ↔ Rn sc d 76 50 L (.ref (rf h1 h2 o 0) :: st) (cS f g h1 h2) r := r_getR2 d76_47 (ci := 6) (k := 0) rfl (by decide) (fun _ => rfl) hK hR
theorem d76_50 : decode (mC 76) 50 = .ok (.getfield 129, 3) := by decide +kernel
theorem x76_50 {sc : aSc} {d : Nat} {r : aRes} {L : List Value} {st : List Value} {f : Nat → Nat → Int32} {g : Nat → Nat → Int64} {h1 h2 : Nat} {o : Nat} (h17 : 17 ≤ o) (hK : KK[o]? = some (.inl 1)) : Rn sc d 76 50 L (.ref o :: st) (cS f g h1 h2) r ↔ Rn sc d 76 53 L (.int (f o 4) :: st) (cS f g h1 h2) r := r_getI d76_50 (ci := 1) (k := 4) rfl (by decide) (fun _ => rfl) h17 hK
theorem d76_53 : decode (mC 76) 53 = .ok (.invokevirtual 148, 3) := by decide +kernel
theorem x76_53 {sc : aSc} {d : Nat} {r : aRes} {L : List Value} {f : Nat → Nat → Int32} {g : Nat → Nat → Int64} {h1 h2 : Nat} {y0 : Int32} {y1 : Int32} {y2 : Int32}  {o : Nat} (hK : KK[o]? = some (.inl 1)) : Rn sc d 76 53 L [.int y0, .int y1, .int y2, .ref o] (cS f g h1 h2) r ↔ ∃ (σ3 : aS) (v : Option Value), Cl sc d 14 [.ref o, .int y2, .int y1, .int y0] (cS f g h1 h2) (σ3, v) ∧ Rn sc d 76 56 L (v.toList ++ []) σ3 r := r_callV (vs := [.int y0, .int y1, .int y2]) d76_53 (j := 14) rfl ⟨rfl, by decide, rfl, rfl⟩ (Nat.le_of_ble_eq_true rfl) hK
theorem d76_56 : decode (mC 76) 56 = .ok (.ifCond .ne 6, 3) := by decide +kernel
theorem x76_56 {sc : aSc} {d : Nat} {r : aRes} {L : List Value} {st : List Value} {σ : aS} {x : Int32} : Rn sc d 76 56 L (.int x :: st) σ r ↔ if x = 0 then Rn sc d 76 59 L st σ r else Rn sc d 76 62 L st σ r := r_if_ne d76_56 rfl
theorem d76_59 : decode (mC 76) 59 = .ok (.bipush (-5), 2) := by decide +kernel
theorem x76_59 {sc : aSc} {d : Nat} {r : aRes} {L : List Value} {st : List Value} {σ : aS} : Rn sc d 76 59 L st σ r ↔ Rn sc d 76 61 L (.int (-5) :: st) σ r := r_bipush d76_59 (by decide)
theorem d76_61 : decode (mC 76) 61 = .ok (.ireturn, 1) := by decide +kernel
theorem x76_61 {sc : aSc} {d : Nat} {r : aRes} {L : List Value} {σ : aS} {x : Int32} : Rn sc d 76 61 L [.int x] σ r ↔ r = (σ, some (.int x)) := r_iret d76_61 rfl rfl
theorem d76_62 : decode (mC 76) 62 = .ok (.aload_n 0, 1) := by decide +kernel
theorem x76_62 {sc : aSc} {d : Nat} {r : aRes} {x0 : Nat} {a1 : Value} {a2 : Value} {a3 : Value} {a4 : Value} {a5 : Value} {a6 : Value} {st : List Value} {σ : aS} : Rn sc d 76 62 [.ref x0, a1, a2, a3, a4, a5, a6] st σ r ↔ Rn sc d 76 63 [.ref x0, a1, a2, a3, a4, a5, a6] (.ref x0 :: st) σ r := r_aload_n d76_62 rfl
theorem d76_63 : decode (mC 76) 63 = .ok (.getfield 50, 3) := by decide +kernel
theorem x76_63 {sc : aSc} {d : Nat} {r : aRes} {L : List Value} {st : List Value} {f : Nat → Nat → Int32} {g : Nat → Nat → Int64} {h1 h2 : Nat} {o : Nat} (hK : KK[o]? = some (.inl 6)) (hR : (RR h1 h2 o 0).isSome = true) : Rn sc d 76 63 L (.ref o :: st) (cS f g h1 h2) r ↔ Rn sc d 76 66 L (.ref (rf h1 h2 o 0) :: st) (cS f g h1 h2) r := r_getR2 d76_63 (ci := 6) (k := 0) rfl (by decide) (fun _ => rfl) hK hR
theorem d76_66 : decode (mC 76) 66 = .ok (.iload_n 1, 1) := by decide +kernel
theorem x76_66 {sc : aSc} {d : Nat} {r : aRes} {a0 : Value} {x1 : Int32} {a2 : Value} {a3 : Value} {a4 : Value} {a5 : Value} {a6 : Value} {st : List Value} {σ : aS} : Rn sc d 76 66 [a0, .int x1, a2, a3, a4, a5, a6] st σ r ↔ Rn sc d 76 67 [a0, .int x1, a2, a3, a4, a5, a6] (.int x1 :: st) σ r := r_iload_n d76_66 rfl
theorem d76_67 : decode (mC 76) 67 = .ok (.invokevirtual 94, 3) := by decide +kernel
theorem x76_67 {sc : aSc} {d : Nat} {r : aRes} {L : List Value} {f : Nat → Nat → Int32} {g : Nat → Nat → Int64} {h1 h2 : Nat} {y0 : Int32}  {o : Nat} (hK : KK[o]? = some (.inl 1)) : Rn sc d 76 67 L [.int y0, .ref o] (cS f g h1 h2) r ↔ ∃ (σ3 : aS) (v : Option Value), Cl sc d 15 [.ref o, .int y0] (cS f g h1 h2) (σ3, v) ∧ Rn sc d 76 70 L (v.toList ++ []) σ3 r := r_callV (vs := [.int y0]) d76_67 (j := 15) rfl ⟨rfl, by decide, rfl, rfl⟩ (Nat.le_of_ble_eq_true rfl) hK
theorem d76_70 : decode (mC 76) 70 = .ok (.istore 4, 2) := by decide +kernel
theorem x76_70 {sc : aSc} {d : Nat} {r : aRes} {a0 : Value} {a1 : Value} {a2 : Value} {x3 : Int32} {a4 : Value} {a5 : Value} {a6 : Value} {st : List Value} {σ : aS} {y : Int32} : Rn sc d 76 70 [a0, a1, a2, .int x3, a4, a5, a6] (.int y :: st) σ r ↔ Rn sc d 76 72 [a0, a1, a2, .int x3, .int y, a5, a6] st σ r := r_istore d76_70 (Nat.le_of_ble_eq_true rfl) rfl
theorem d76_72 : decode (mC 76) 72 = .ok (.aload_n 0, 1) := by decide +kernel
theorem x76_72 {sc : aSc} {d : Nat} {r : aRes} {x0 : Nat} {a1 : Value} {a2 : Value} {a3 : Value} {a4 : Value} {a5 : Value} {a6 : Value} {st : List Value} {σ : aS} : Rn sc d 76 72 [.ref x0, a1, a2, a3, a4, a5, a6] st σ r ↔ Rn sc d 76 73 [.ref x0, a1, a2, a3, a4, a5, a6] (.ref x0 :: st) σ r := r_aload_n d76_72 rfl
theorem d76_73 : decode (mC 76) 73 = .ok (.getfield 50, 3) := by decide +kernel
theorem x76_73 {sc : aSc} {d : Nat} {r : aRes} {L : List Value} {st : List Value} {f : Nat → Nat → Int32} {g : Nat → Nat → Int64} {h1 h2 : Nat} {o : Nat} (hK : KK[o]? = some (.inl 6)) (hR : (RR h1 h2 o 0).isSome = true) : Rn sc d 76 73 L (.ref o :: st) (cS f g h1 h2) r ↔ Rn sc d 76 76 L (.ref (rf h1 h2 o 0) :: st) (cS f g h1 h2) r := r_getR2 d76_73 (ci := 6) (k := 0) rfl (by decide) (fun _ => rfl) hK hR
theorem d76_76 : decode (mC 76) 76 = .ok (.iload_n 2, 1) := by decide +kernel
theorem x76_76 {sc : aSc} {d : Nat} {r : aRes} {a0 : Value} {a1 : Value} {x2 : Int32} {a3 : Value} {a4 : Value} {a5 : Value} {a6 : Value} {st : List Value} {σ : aS} : Rn sc d 76 76 [a0, a1, .int x2, a3, a4, a5, a6] st σ r ↔ Rn sc d 76 77 [a0, a1, .int x2, a3, a4, a5, a6] (.int x2 :: st) σ r := r_iload_n d76_76 rfl
theorem d76_77 : decode (mC 76) 77 = .ok (.invokevirtual 94, 3) := by decide +kernel
theorem x76_77 {sc : aSc} {d : Nat} {r : aRes} {L : List Value} {f : Nat → Nat → Int32} {g : Nat → Nat → Int64} {h1 h2 : Nat} {y0 : Int32}  {o : Nat} (hK : KK[o]? = some (.inl 1)) : Rn sc d 76 77 L [.int y0, .ref o] (cS f g h1 h2) r ↔ ∃ (σ3 : aS) (v : Option Value), Cl sc d 15 [.ref o, .int y0] (cS f g h1 h2) (σ3, v) ∧ Rn sc d 76 80 L (v.toList ++ []) σ3 r := r_callV (vs := [.int y0]) d76_77 (j := 15) rfl ⟨rfl, by decide, rfl, rfl⟩ (Nat.le_of_ble_eq_true rfl) hK
theorem d76_80 : decode (mC 76) 80 = .ok (.istore 5, 2) := by decide +kernel
theorem x76_80 {sc : aSc} {d : Nat} {r : aRes} {a0 : Value} {a1 : Value} {a2 : Value} {a3 : Value} {x4 : Int32} {a5 : Value} {a6 : Value} {st : List Value} {σ : aS} {y : Int32} : Rn sc d 76 80 [a0, a1, a2, a3, .int x4, a5, a6] (.int y :: st) σ r ↔ Rn sc d 76 82 [a0, a1, a2, a3, .int x4, .int y, a6] st σ r := r_istore d76_80 (Nat.le_of_ble_eq_true rfl) rfl
theorem d76_82 : decode (mC 76) 82 = .ok (.iconst 0, 1) := by decide +kernel
theorem x76_82 {sc : aSc} {d : Nat} {r : aRes} {L : List Value} {st : List Value} {σ : aS} : Rn sc d 76 82 L st σ r ↔ Rn sc d 76 83 L (.int 0 :: st) σ r := r_iconst d76_82 (by decide)
theorem d76_83 : decode (mC 76) 83 = .ok (.istore 6, 2) := by decide +kernel
theorem x76_83 {sc : aSc} {d : Nat} {r : aRes} {a0 : Value} {a1 : Value} {a2 : Value} {a3 : Value} {a4 : Value} {x5 : Int32} {a6 : Value} {st : List Value} {σ : aS} {y : Int32} : Rn sc d 76 83 [a0, a1, a2, a3, a4, .int x5, a6] (.int y :: st) σ r ↔ Rn sc d 76 85 [a0, a1, a2, a3, a4, .int x5, .int y] st σ r := r_istore d76_83 (Nat.le_of_ble_eq_true rfl) rfl
theorem d76_85 : decode (mC 76) 85 = .ok (.iload 6, 2) := by decide +kernel
theorem x76_85 {sc : aSc} {d : Nat} {r : aRes} {a0 : Value} {a1 : Value} {a2 : Value} {a3 : Value} {a4 : Value} {a5 : Value} {x6 : Int32} {st : List Value} {σ : aS} : Rn sc d 76 85 [a0, a1, a2, a3, a4, a5, .int x6] st σ r ↔ Rn sc d 76 87 [a0, a1, a2, a3, a4, a5, .int x6] (.int x6 :: st) σ r := r_iload d76_85 rfl
theorem d76_87 : decode (mC 76) 87 = .ok (.bipush 99, 2) := by decide +kernel
theorem x76_87 {sc : aSc} {d : Nat} {r : aRes} {L : List Value} {st : List Value} {σ : aS} : Rn sc d 76 87 L st σ r ↔ Rn sc d 76 89 L (.int 99 :: st) σ r := r_bipush d76_87 (by decide)
theorem d76_89 : decode (mC 76) 89 = .ok (.if_icmp .gt 71, 3) := by decide +kernel
theorem x76_89 {sc : aSc} {d : Nat} {r : aRes} {L : List Value} {st : List Value} {σ : aS} {x y : Int32} : Rn sc d 76 89 L (.int y :: .int x :: st) σ r ↔ if y < x then Rn sc d 76 160 L st σ r else Rn sc d 76 92 L st σ r := r_icmp_gt d76_89 rfl
theorem d76_92 : decode (mC 76) 92 = .ok (.aload_n 0, 1) := by decide +kernel
theorem x76_92 {sc : aSc} {d : Nat} {r : aRes} {x0 : Nat} {a1 : Value} {a2 : Value} {a3 : Value} {a4 : Value} {a5 : Value} {a6 : Value} {st : List Value} {σ : aS} : Rn sc d 76 92 [.ref x0, a1, a2, a3, a4, a5, a6] st σ r ↔ Rn sc d 76 93 [.ref x0, a1, a2, a3, a4, a5, a6] (.ref x0 :: st) σ r := r_aload_n d76_92 rfl
theorem d76_93 : decode (mC 76) 93 = .ok (.getfield 50, 3) := by decide +kernel
theorem x76_93 {sc : aSc} {d : Nat} {r : aRes} {L : List Value} {st : List Value} {f : Nat → Nat → Int32} {g : Nat → Nat → Int64} {h1 h2 : Nat} {o : Nat} (hK : KK[o]? = some (.inl 6)) (hR : (RR h1 h2 o 0).isSome = true) : Rn sc d 76 93 L (.ref o :: st) (cS f g h1 h2) r ↔ Rn sc d 76 96 L (.ref (rf h1 h2 o 0) :: st) (cS f g h1 h2) r := r_getR2 d76_93 (ci := 6) (k := 0) rfl (by decide) (fun _ => rfl) hK hR
theorem d76_96 : decode (mC 76) 96 = .ok (.getfield 119, 3) := by decide +kernel
theorem x76_96 {sc : aSc} {d : Nat} {r : aRes} {L : List Value} {st : List Value} {f : Nat → Nat → Int32} {g : Nat → Nat → Int64} {h1 h2 : Nat} {o : Nat} (hK : KK[o]? = some (.inl 1)) (hR : (RR h1 h2 o 17).isSome = true) : Rn sc d 76 96 L (.ref o :: st) (cS f g h1 h2) r ↔ Rn sc d 76 99 L (.ref (rf h1 h2 o 17) :: st) (cS f g h1 h2) r := r_getR2 d76_96 (ci := 1) (k := 17) rfl (by decide) (fun _ => rfl) hK hR
theorem d76_99 : decode (mC 76) 99 = .ok (.iload 4, 2) := by decide +kernel
theorem x76_99 {sc : aSc} {d : Nat} {r : aRes} {a0 : Value} {a1 : Value} {a2 : Value} {a3 : Value} {x4 : Int32} {a5 : Value} {a6 : Value} {st : List Value} {σ : aS} : Rn sc d 76 99 [a0, a1, a2, a3, .int x4, a5, a6] st σ r ↔ Rn sc d 76 101 [a0, a1, a2, a3, .int x4, a5, a6] (.int x4 :: st) σ r := r_iload d76_99 rfl
theorem d76_101 : decode (mC 76) 101 = .ok (.iload 6, 2) := by decide +kernel
theorem x76_101 {sc : aSc} {d : Nat} {r : aRes} {a0 : Value} {a1 : Value} {a2 : Value} {a3 : Value} {a4 : Value} {a5 : Value} {x6 : Int32} {st : List Value} {σ : aS} : Rn sc d 76 101 [a0, a1, a2, a3, a4, a5, .int x6] st σ r ↔ Rn sc d 76 103 [a0, a1, a2, a3, a4, a5, .int x6] (.int x6 :: st) σ r := r_iload d76_101 rfl
theorem d76_103 : decode (mC 76) 103 = .ok (.iadd, 1) := by decide +kernel
theorem x76_103 {sc : aSc} {d : Nat} {r : aRes} {L : List Value} {st : List Value} {σ : aS} {x y : Int32} : Rn sc d 76 103 L (.int y :: .int x :: st) σ r ↔ Rn sc d 76 104 L (.int (x + y) :: st) σ r := r_iadd d76_103
theorem d76_104 : decode (mC 76) 104 = .ok (.iload 5, 2) := by decide +kernel
theorem x76_104 {sc : aSc} {d : Nat} {r : aRes} {a0 : Value} {a1 : Value} {a2 : Value} {a3 : Value} {a4 : Value} {x5 : Int32} {a6 : Value} {st : List Value} {σ : aS} : Rn sc d 76 104 [a0, a1, a2, a3, a4, .int x5, a6] st σ r ↔ Rn sc d 76 106 [a0, a1, a2, a3, a4, .int x5, a6] (.int x5 :: st) σ r := r_iload d76_104 rfl
theorem d76_106 : decode (mC 76) 106 = .ok (.invokevirtual 159, 3) := by decide +kernel
theorem x76_106 {sc : aSc} {d : Nat} {r : aRes} {L : List Value} {f : Nat → Nat → Int32} {g : Nat → Nat → Int64} {h1 h2 : Nat} {y0 : Int32} {y1 : Int32}  {o : Nat} (hK : KK[o]? = some (.inl 2)) : Rn sc d 76 106 L [.int y0, .int y1, .ref o] (cS f g h1 h2) r ↔ ∃ (σ3 : aS) (v : Option Value), Cl sc d 31 [.ref o, .int y1, .int y0] (cS f g h1 h2) (σ3, v) ∧ Rn sc d 76 109 L (v.toList ++ []) σ3 r := r_callV (vs := [.int y0, .int y1]) d76_106 (j := 31) rfl ⟨rfl, by decide, rfl, rfl⟩ (Nat.le_of_ble_eq_true rfl) hK
theorem d76_109 : decode (mC 76) 109 = .ok (.ifCond .eq 14, 3) := by decide +kernel
theorem x76_109 {sc : aSc} {d : Nat} {r : aRes} {L : List Value} {st : List Value} {σ : aS} {x : Int32} : Rn sc d 76 109 L (.int x :: st) σ r ↔ if x = 0 then Rn sc d 76 123 L st σ r else Rn sc d 76 112 L st σ r := r_if_eq d76_109 rfl
theorem d76_112 : decode (mC 76) 112 = .ok (.iload_n 3, 1) := by decide +kernel
theorem x76_112 {sc : aSc} {d : Nat} {r : aRes} {a0 : Value} {a1 : Value} {a2 : Value} {x3 : Int32} {a4 : Value} {a5 : Value} {a6 : Value} {st : List Value} {σ : aS} : Rn sc d 76 112 [a0, a1, a2, .int x3, a4, a5, a6] st σ r ↔ Rn sc d 76 113 [a0, a1, a2, .int x3, a4, a5, a6] (.int x3 :: st) σ r := r_iload_n d76_112 rfl
theorem d76_113 : decode (mC 76) 113 = .ok (.ifCond .ne 8, 3) := by decide +kernel
theorem x76_113 {sc : aSc} {d : Nat} {r : aRes} {L : List Value} {st : List Value} {σ : aS} {x : Int32} : Rn sc d 76 113 L (.int x :: st) σ r ↔ if x = 0 then Rn sc d 76 116 L st σ r else Rn sc d 76 121 L st σ r := r_if_ne d76_113 rfl
theorem d76_116 : decode (mC 76) 116 = .ok (.iload 6, 2) := by decide +kernel
theorem x76_116 {sc : aSc} {d : Nat} {r : aRes} {a0 : Value} {a1 : Value} {a2 : Value} {a3 : Value} {a4 : Value} {a5 : Value} {x6 : Int32} {st : List Value} {σ : aS} : Rn sc d 76 116 [a0, a1, a2, a3, a4, a5, .int x6] st σ r ↔ Rn sc d 76 118 [a0, a1, a2, a3, a4, a5, .int x6] (.int x6 :: st) σ r := r_iload d76_116 rfl
theorem d76_118 : decode (mC 76) 118 = .ok (.goto 4, 3) := by decide +kernel
theorem x76_118 {sc : aSc} {d : Nat} {r : aRes} {L : List Value} {st : List Value} {σ : aS} : Rn sc d 76 118 L st σ r ↔ Rn sc d 76 122 L st σ r := r_goto d76_118 rfl
theorem d76_121 : decode (mC 76) 121 = .ok (.iload_n 1, 1) := by decide +kernel
theorem x76_121 {sc : aSc} {d : Nat} {r : aRes} {a0 : Value} {x1 : Int32} {a2 : Value} {a3 : Value} {a4 : Value} {a5 : Value} {a6 : Value} {st : List Value} {σ : aS} : Rn sc d 76 121 [a0, .int x1, a2, a3, a4, a5, a6] st σ r ↔ Rn sc d 76 122 [a0, .int x1, a2, a3, a4, a5, a6] (.int x1 :: st) σ r := r_iload_n d76_121 rfl
theorem d76_122 : decode (mC 76) 122 = .ok (.ireturn, 1) := by decide +kernel
theorem x76_122 {sc : aSc} {d : Nat} {r : aRes} {L : List Value} {σ : aS} {x : Int32} : Rn sc d 76 122 L [.int x] σ r ↔ r = (σ, some (.int x)) := r_iret d76_122 rfl rfl
theorem d76_123 : decode (mC 76) 123 = .ok (.aload_n 0, 1) := by decide +kernel
theorem x76_123 {sc : aSc} {d : Nat} {r : aRes} {x0 : Nat} {a1 : Value} {a2 : Value} {a3 : Value} {a4 : Value} {a5 : Value} {a6 : Value} {st : List Value} {σ : aS} : Rn sc d 76 123 [.ref x0, a1, a2, a3, a4, a5, a6] st σ r ↔ Rn sc d 76 124 [.ref x0, a1, a2, a3, a4, a5, a6] (.ref x0 :: st) σ r := r_aload_n d76_123 rfl
theorem d76_124 : decode (mC 76) 124 = .ok (.getfield 50, 3) := by decide +kernel
theorem x76_124 {sc : aSc} {d : Nat} {r : aRes} {L : List Value} {st : List Value} {f : Nat → Nat → Int32} {g : Nat → Nat → Int64} {h1 h2 : Nat} {o : Nat} (hK : KK[o]? = some (.inl 6)) (hR : (RR h1 h2 o 0).isSome = true) : Rn sc d 76 124 L (.ref o :: st) (cS f g h1 h2) r ↔ Rn sc d 76 127 L (.ref (rf h1 h2 o 0) :: st) (cS f g h1 h2) r := r_getR2 d76_124 (ci := 6) (k := 0) rfl (by decide) (fun _ => rfl) hK hR
theorem d76_127 : decode (mC 76) 127 = .ok (.getfield 119, 3) := by decide +kernel
theorem x76_127 {sc : aSc} {d : Nat} {r : aRes} {L : List Value} {st : List Value} {f : Nat → Nat → Int32} {g : Nat → Nat → Int64} {h1 h2 : Nat} {o : Nat} (hK : KK[o]? = some (.inl 1)) (hR : (RR h1 h2 o 17).isSome = true) : Rn sc d 76 127 L (.ref o :: st) (cS f g h1 h2) r ↔ Rn sc d 76 130 L (.ref (rf h1 h2 o 17) :: st) (cS f g h1 h2) r := r_getR2 d76_127 (ci := 1) (k := 17) rfl (by decide) (fun _ => rfl) hK hR
theorem d76_130 : decode (mC 76) 130 = .ok (.iload 4, 2) := by decide +kernel
theorem x76_130 {sc : aSc} {d : Nat} {r : aRes} {a0 : Value} {a1 : Value} {a2 : Value} {a3 : Value} {x4 : Int32} {a5 : Value} {a6 : Value} {st : List Value} {σ : aS} : Rn sc d 76 130 [a0, a1, a2, a3, .int x4, a5, a6] st σ r ↔ Rn sc d 76 132 [a0, a1, a2, a3, .int x4, a5, a6] (.int x4 :: st) σ r := r_iload d76_130 rfl
theorem d76_132 : decode (mC 76) 132 = .ok (.iload 5, 2) := by decide +kernel
theorem x76_132 {sc : aSc} {d : Nat} {r : aRes} {a0 : Value} {a1 : Value} {a2 : Value} {a3 : Value} {a4 : Value} {x5 : Int32} {a6 : Value} {st : List Value} {σ : aS} : Rn sc d 76 132 [a0, a1, a2, a3, a4, .int x5, a6] st σ r ↔ Rn sc d 76 134 [a0, a1, a2, a3, a4, .int x5, a6] (.int x5 :: st) σ r := r_iload d76_132 rfl
theorem d76_134 : decode (mC 76) 134 = .ok (.iload 6, 2) := by decide +kernel
theorem x76_134 {sc : aSc} {d : Nat} {r : aRes} {a0 : Value} {a1 : Value} {a2 : Value} {a3 : Value} {a4 : Value} {a5 : Value} {x6 : Int32} {st : List Value} {σ : aS} : Rn sc d 76 134 [a0, a1, a2, a3, a4, a5, .int x6] st σ r ↔ Rn sc d 76 136 [a0, a1, a2, a3, a4, a5, .int x6] (.int x6 :: st) σ r := r_iload d76_134 rfl
theorem d76_136 : decode (mC 76) 136 = .ok (.iadd, 1) := by decide +kernel
theorem x76_136 {sc : aSc} {d : Nat} {r : aRes} {L : List Value} {st : List Value} {σ : aS} {x y : Int32} : Rn sc d 76 136 L (.int y :: .int x :: st) σ r ↔ Rn sc d 76 137 L (.int (x + y) :: st) σ r := r_iadd d76_136
theorem d76_137 : decode (mC 76) 137 = .ok (.invokevirtual 159, 3) := by decide +kernel
theorem x76_137 {sc : aSc} {d : Nat} {r : aRes} {L : List Value} {f : Nat → Nat → Int32} {g : Nat → Nat → Int64} {h1 h2 : Nat} {y0 : Int32} {y1 : Int32}  {o : Nat} (hK : KK[o]? = some (.inl 2)) : Rn sc d 76 137 L [.int y0, .int y1, .ref o] (cS f g h1 h2) r ↔ ∃ (σ3 : aS) (v : Option Value), Cl sc d 31 [.ref o, .int y1, .int y0] (cS f g h1 h2) (σ3, v) ∧ Rn sc d 76 140 L (v.toList ++ []) σ3 r := r_callV (vs := [.int y0, .int y1]) d76_137 (j := 31) rfl ⟨rfl, by decide, rfl, rfl⟩ (Nat.le_of_ble_eq_true rfl) hK
theorem d76_140 : decode (mC 76) 140 = .ok (.ifCond .eq 14, 3) := by decide +kernel
theorem x76_140 {sc : aSc} {d : Nat} {r : aRes} {L : List Value} {st : List Value} {σ : aS} {x : Int32} : Rn sc d 76 140 L (.int x :: st) σ r ↔ if x = 0 then Rn sc d 76 154 L st σ r else Rn sc d 76 143 L st σ r := r_if_eq d76_140 rfl
theorem d76_143 : decode (mC 76) 143 = .ok (.iload_n 3, 1) := by decide +kernel
theorem x76_143 {sc : aSc} {d : Nat} {r : aRes} {a0 : Value} {a1 : Value} {a2 : Value} {x3 : Int32} {a4 : Value} {a5 : Value} {a6 : Value} {st : List Value} {σ : aS} : Rn sc d 76 143 [a0, a1, a2, .int x3, a4, a5, a6] st σ r ↔ Rn sc d 76 144 [a0, a1, a2, .int x3, a4, a5, a6] (.int x3 :: st) σ r := r_iload_n d76_143 rfl
theorem d76_144 : decode (mC 76) 144 = .ok (.ifCond .ne 8, 3) := by decide +kernel
theorem x76_144 {sc : aSc} {d : Nat} {r : aRes} {L : List Value} {st : List Value} {σ : aS} {x : Int32} : Rn sc d 76 144 L (.int x :: st) σ r ↔ if x = 0 then Rn sc d 76 147 L st σ r else Rn sc d 76 152 L st σ r := r_if_ne d76_144 rfl
theorem d76_147 : decode (mC 76) 147 = .ok (.iload 6, 2) := by decide +kernel
theorem x76_147 {sc : aSc} {d : Nat} {r : aRes} {a0 : Value} {a1 : Value} {a2 : Value} {a3 : Value} {a4 : Value} {a5 : Value} {x6 : Int32} {st : List Value} {σ : aS} : Rn sc d 76 147 [a0, a1, a2, a3, a4, a5, .int x6] st σ r ↔ Rn sc d 76 149 [a0, a1, a2, a3, a4, a5, .int x6] (.int x6 :: st) σ r := r_iload d76_147 rfl
theorem d76_149 : decode (mC 76) 149 = .ok (.goto 4, 3) := by decide +kernel
theorem x76_149 {sc : aSc} {d : Nat} {r : aRes} {L : List Value} {st : List Value} {σ : aS} : Rn sc d 76 149 L st σ r ↔ Rn sc d 76 153 L st σ r := r_goto d76_149 rfl
theorem d76_152 : decode (mC 76) 152 = .ok (.iload_n 2, 1) := by decide +kernel
theorem x76_152 {sc : aSc} {d : Nat} {r : aRes} {a0 : Value} {a1 : Value} {x2 : Int32} {a3 : Value} {a4 : Value} {a5 : Value} {a6 : Value} {st : List Value} {σ : aS} : Rn sc d 76 152 [a0, a1, .int x2, a3, a4, a5, a6] st σ r ↔ Rn sc d 76 153 [a0, a1, .int x2, a3, a4, a5, a6] (.int x2 :: st) σ r := r_iload_n d76_152 rfl
theorem d76_153 : decode (mC 76) 153 = .ok (.ireturn, 1) := by decide +kernel
theorem x76_153 {sc : aSc} {d : Nat} {r : aRes} {L : List Value} {σ : aS} {x : Int32} : Rn sc d 76 153 L [.int x] σ r ↔ r = (σ, some (.int x)) := r_iret d76_153 rfl rfl
theorem d76_154 : decode (mC 76) 154 = .ok (.iinc 6 1, 3) := by decide +kernel
theorem x76_154 {sc : aSc} {d : Nat} {r : aRes} {a0 : Value} {a1 : Value} {a2 : Value} {a3 : Value} {a4 : Value} {x5 : Int32} {x6 : Int32} {st : List Value} {σ : aS} : Rn sc d 76 154 [a0, a1, a2, a3, a4, .int x5, .int x6] st σ r ↔ Rn sc d 76 157 [a0, a1, a2, a3, a4, .int x5, .int (x6 + 1)] st σ r := r_iinc d76_154 (Nat.le_of_ble_eq_true rfl) rfl rfl (by decide)
theorem d76_157 : decode (mC 76) 157 = .ok (.goto (-72), 3) := by decide +kernel
theorem x76_157 {sc : aSc} {d : Nat} {r : aRes} {L : List Value} {st : List Value} {σ : aS} : Rn sc d 76 157 L st σ r ↔ Rn sc d 76 85 L st σ r := r_goto d76_157 rfl
theorem d76_160 : decode (mC 76) 160 = .ok (.bipush (-5), 2) := by decide +kernel
theorem x76_160 {sc : aSc} {d : Nat} {r : aRes} {L : List Value} {st : List Value} {σ : aS} : Rn sc d 76 160 L st σ r ↔ Rn sc d 76 162 L (.int (-5) :: st) σ r := r_bipush d76_160 (by decide)
theorem d76_162 : decode (mC 76) 162 = .ok (.ireturn, 1) := by decide +kernel
theorem x76_162 {sc : aSc} {d : Nat} {r : aRes} {L : List Value} {σ : aS} {x : Int32} : Rn sc d 76 162 L [.int x] σ r ↔ r = (σ, some (.int x)) := r_iret d76_162 rfl rfl
theorem d77_0 : decode (mC 77) 0 = .ok (.iload_n 2, 1) := by decide +kernel
theorem x77_0 {sc : aSc} {d : Nat} {r : aRes} {a0 : Value} {a1 : Value} {x2 : Int32} {a3 : Value} {st : List Value} {σ : aS} : Rn sc d 77 0 [a0, a1, .int x2, a3] st σ r ↔ Rn sc d 77 1 [a0, a1, .int x2, a3] (.int x2 :: st) σ r := r_iload_n d77_0 rfl
theorem d77_1 : decode (mC 77) 1 = .ok (.bipush 10, 2) := by decide +kernel
theorem x77_1 {sc : aSc} {d : Nat} {r : aRes} {L : List Value} {st : List Value} {σ : aS} : Rn sc d 77 1 L st σ r ↔ Rn sc d 77 3 L (.int 10 :: st) σ r := r_bipush d77_1 (by decide)
theorem d77_3 : decode (mC 77) 3 = .ok (.if_icmp .lt 13, 3) := by decide +kernel
theorem x77_3 {sc : aSc} {d : Nat} {r : aRes} {L : List Value} {st : List Value} {σ : aS} {x y : Int32} : Rn sc d 77 3 L (.int y :: .int x :: st) σ r ↔ if x < y then Rn sc d 77 16 L st σ r else Rn sc d 77 6 L st σ r := r_icmp_lt d77_3 rfl
theorem d77_6 : decode (mC 77) 6 = .ok (.iload_n 2, 1) := by decide +kernel
theorem x77_6 {sc : aSc} {d : Nat} {r : aRes} {a0 : Value} {a1 : Value} {x2 : Int32} {a3 : Value} {st : List Value} {σ : aS} : Rn sc d 77 6 [a0, a1, .int x2, a3] st σ r ↔ Rn sc d 77 7 [a0, a1, .int x2, a3] (.int x2 :: st) σ r := r_iload_n d77_6 rfl
theorem d77_7 : decode (mC 77) 7 = .ok (.bipush 14, 2) := by decide +kernel
theorem x77_7 {sc : aSc} {d : Nat} {r : aRes} {L : List Value} {st : List Value} {σ : aS} : Rn sc d 77 7 L st σ r ↔ Rn sc d 77 9 L (.int 14 :: st) σ r := r_bipush d77_7 (by decide)
theorem d77_9 : decode (mC 77) 9 = .ok (.if_icmp .ge 7, 3) := by decide +kernel
theorem x77_9 {sc : aSc} {d : Nat} {r : aRes} {L : List Value} {st : List Value} {σ : aS} {x y : Int32} : Rn sc d 77 9 L (.int y :: .int x :: st) σ r ↔ if x < y then Rn sc d 77 12 L st σ r else Rn sc d 77 16 L st σ r := r_icmp_ge d77_9 rfl
theorem d77_12 : decode (mC 77) 12 = .ok (.iconst 1, 1) := by decide +kernel
theorem x77_12 {sc : aSc} {d : Nat} {r : aRes} {L : List Value} {st : List Value} {σ : aS} : Rn sc d 77 12 L st σ r ↔ Rn sc d 77 13 L (.int 1 :: st) σ r := r_iconst d77_12 (by decide)
theorem d77_13 : decode (mC 77) 13 = .ok (.goto 4, 3) := by decide +kernel
theorem x77_13 {sc : aSc} {d : Nat} {r : aRes} {L : List Value} {st : List Value} {σ : aS} : Rn sc d 77 13 L st σ r ↔ Rn sc d 77 17 L st σ r := r_goto d77_13 rfl
theorem d77_16 : decode (mC 77) 16 = .ok (.iconst 0, 1) := by decide +kernel
theorem x77_16 {sc : aSc} {d : Nat} {r : aRes} {L : List Value} {st : List Value} {σ : aS} : Rn sc d 77 16 L st σ r ↔ Rn sc d 77 17 L (.int 0 :: st) σ r := r_iconst d77_16 (by decide)
theorem d77_17 : decode (mC 77) 17 = .ok (.istore_n 3, 1) := by decide +kernel
theorem x77_17 {sc : aSc} {d : Nat} {r : aRes} {a0 : Value} {a1 : Value} {x2 : Int32} {a3 : Value} {st : List Value} {σ : aS} {y : Int32} : Rn sc d 77 17 [a0, a1, .int x2, a3] (.int y :: st) σ r ↔ Rn sc d 77 18 [a0, a1, .int x2, .int y] st σ r := r_istore_n d77_17 (Nat.le_of_ble_eq_true rfl) rfl
theorem d77_18 : decode (mC 77) 18 = .ok (.iload_n 2, 1) := by decide +kernel
theorem x77_18 {sc : aSc} {d : Nat} {r : aRes} {a0 : Value} {a1 : Value} {x2 : Int32} {a3 : Value} {st : List Value} {σ : aS} : Rn sc d 77 18 [a0, a1, .int x2, a3] st σ r ↔ Rn sc d 77 19 [a0, a1, .int x2, a3] (.int x2 :: st) σ r := r_iload_n d77_18 rfl
theorem d77_19 : decode (mC 77) 19 = .ok (.iconst 1, 1) := by decide +kernel
theorem x77_19 {sc : aSc} {d : Nat} {r : aRes} {L : List Value} {st : List Value} {σ : aS} : Rn sc d 77 19 L st σ r ↔ Rn sc d 77 20 L (.int 1 :: st) σ r := r_iconst d77_19 (by decide)
theorem d77_20 : decode (mC 77) 20 = .ok (.invokestatic 58, 3) := by decide +kernel
theorem x77_20 {sc : aSc} {d : Nat} {r : aRes} {L : List Value} {σ : aS} {y0 : Int32} {y1 : Int32}  : Rn sc d 77 20 L [.int y0, .int y1] σ r ↔ ∃ (σ3 : aS) (v : Option Value), Cl sc d 102 [.int y1, .int y0] σ (σ3, v) ∧ Rn sc d 77 23 L (v.toList ++ []) σ3 r := r_callS (vs := [.int y0, .int y1]) d77_20 rfl (j := 102) rfl ⟨rfl, by decide, rfl, rfl⟩ (Nat.le_of_ble_eq_true rfl)
theorem d77_23 : decode (mC 77) 23 = .ok (.ifCond .ne 9, 3) := by decide +kernel
theorem x77_23 {sc : aSc} {d : Nat} {r : aRes} {L : List Value} {st : List Value} {σ : aS} {x : Int32} : Rn sc d 77 23 L (.int x :: st) σ r ↔ if x = 0 then Rn sc d 77 26 L st σ r else Rn sc d 77 32 L st σ r := r_if_ne d77_23 rfl
theorem d77_26 : decode (mC 77) 26 = .ok (.iload_n 3, 1) := by decide +kernel
theorem x77_26 {sc : aSc} {d : Nat} {r : aRes} {a0 : Value} {a1 : Value} {a2 : Value} {x3 : Int32} {st : List Value} {σ : aS} : Rn sc d 77 26 [a0, a1, a2, .int x3] st σ r ↔ Rn sc d 77 27 [a0, a1, a2, .int x3] (.int x3 :: st) σ r := r_iload_n d77_26 rfl
theorem d77_27 : decode (mC 77) 27 = .ok (.ifCond .ne 5, 3) := by decide +kernel
theorem x77_27 {sc : aSc} {d : Nat} {r : aRes} {L : List Value} {st : List Value} {σ : aS} {x : Int32} : Rn sc d 77 27 L (.int x :: st) σ r ↔ if x = 0 then Rn sc d 77 30 L st σ r else Rn sc d 77 32 L st σ r := r_if_ne d77_27 rfl
theorem d77_30 : decode (mC 77) 30 = .ok (.iconst (-1), 1) := by decide +kernel
theorem x77_30 {sc : aSc} {d : Nat} {r : aRes} {L : List Value} {st : List Value} {σ : aS} : Rn sc d 77 30 L st σ r ↔ Rn sc d 77 31 L (.int (-1) :: st) σ r := r_iconst d77_30 (by decide)
theorem d77_31 : decode (mC 77) 31 = .ok (.ireturn, 1) := by decide +kernel
theorem x77_31 {sc : aSc} {d : Nat} {r : aRes} {L : List Value} {σ : aS} {x : Int32} : Rn sc d 77 31 L [.int x] σ r ↔ r = (σ, some (.int x)) := r_iret d77_31 rfl rfl
theorem d77_32 : decode (mC 77) 32 = .ok (.iload_n 1, 1) := by decide +kernel
theorem x77_32 {sc : aSc} {d : Nat} {r : aRes} {a0 : Value} {x1 : Int32} {a2 : Value} {a3 : Value} {st : List Value} {σ : aS} : Rn sc d 77 32 [a0, .int x1, a2, a3] st σ r ↔ Rn sc d 77 33 [a0, .int x1, a2, a3] (.int x1 :: st) σ r := r_iload_n d77_32 rfl
theorem d77_33 : decode (mC 77) 33 = .ok (.iconst 4, 1) := by decide +kernel
theorem x77_33 {sc : aSc} {d : Nat} {r : aRes} {L : List Value} {st : List Value} {σ : aS} : Rn sc d 77 33 L st σ r ↔ Rn sc d 77 34 L (.int 4 :: st) σ r := r_iconst d77_33 (by decide)
theorem d77_34 : decode (mC 77) 34 = .ok (.invokestatic 58, 3) := by decide +kernel
theorem x77_34 {sc : aSc} {d : Nat} {r : aRes} {L : List Value} {σ : aS} {y0 : Int32} {y1 : Int32}  : Rn sc d 77 34 L [.int y0, .int y1] σ r ↔ ∃ (σ3 : aS) (v : Option Value), Cl sc d 102 [.int y1, .int y0] σ (σ3, v) ∧ Rn sc d 77 37 L (v.toList ++ []) σ3 r := r_callS (vs := [.int y0, .int y1]) d77_34 rfl (j := 102) rfl ⟨rfl, by decide, rfl, rfl⟩ (Nat.le_of_ble_eq_true rfl)
theorem d77_37 : decode (mC 77) 37 = .ok (.ifCond .ne 6, 3) := by decide +kernel
theorem x77_37 {sc : aSc} {d : Nat} {r : aRes} {L : List Value} {st : List Value} {σ : aS} {x : Int32} : Rn sc d 77 37 L (.int x :: st) σ r ↔ if x = 0 then Rn sc d 77 40 L st σ r else Rn sc d 77 43 L st σ r := r_if_ne d77_37 rfl
theorem d77_40 : decode (mC 77) 40 = .ok (.bipush (-2), 2) := by decide +kernel
theorem x77_40 {sc : aSc} {d : Nat} {r : aRes} {L : List Value} {st : List Value} {σ : aS} : Rn sc d 77 40 L st σ r ↔ Rn sc d 77 42 L (.int (-2) :: st) σ r := r_bipush d77_40 (by decide)
theorem d77_42 : decode (mC 77) 42 = .ok (.ireturn, 1) := by decide +kernel
theorem x77_42 {sc : aSc} {d : Nat} {r : aRes} {L : List Value} {σ : aS} {x : Int32} : Rn sc d 77 42 L [.int x] σ r ↔ r = (σ, some (.int x)) := r_iret d77_42 rfl rfl
theorem d77_43 : decode (mC 77) 43 = .ok (.iload_n 3, 1) := by decide +kernel
theorem x77_43 {sc : aSc} {d : Nat} {r : aRes} {a0 : Value} {a1 : Value} {a2 : Value} {x3 : Int32} {st : List Value} {σ : aS} : Rn sc d 77 43 [a0, a1, a2, .int x3] st σ r ↔ Rn sc d 77 44 [a0, a1, a2, .int x3] (.int x3 :: st) σ r := r_iload_n d77_43 rfl
theorem d77_44 : decode (mC 77) 44 = .ok (.ifCond .eq 14, 3) := by decide +kernel
theorem x77_44 {sc : aSc} {d : Nat} {r : aRes} {L : List Value} {st : List Value} {σ : aS} {x : Int32} : Rn sc d 77 44 L (.int x :: st) σ r ↔ if x = 0 then Rn sc d 77 58 L st σ r else Rn sc d 77 47 L st σ r := r_if_eq d77_44 rfl
theorem d77_47 : decode (mC 77) 47 = .ok (.iload_n 2, 1) := by decide +kernel
theorem x77_47 {sc : aSc} {d : Nat} {r : aRes} {a0 : Value} {a1 : Value} {x2 : Int32} {a3 : Value} {st : List Value} {σ : aS} : Rn sc d 77 47 [a0, a1, .int x2, a3] st σ r ↔ Rn sc d 77 48 [a0, a1, .int x2, a3] (.int x2 :: st) σ r := r_iload_n d77_47 rfl
theorem d77_48 : decode (mC 77) 48 = .ok (.bipush 10, 2) := by decide +kernel
theorem x77_48 {sc : aSc} {d : Nat} {r : aRes} {L : List Value} {st : List Value} {σ : aS} : Rn sc d 77 48 L st σ r ↔ Rn sc d 77 50 L (.int 10 :: st) σ r := r_bipush d77_48 (by decide)
theorem d77_50 : decode (mC 77) 50 = .ok (.isub, 1) := by decide +kernel
theorem x77_50 {sc : aSc} {d : Nat} {r : aRes} {L : List Value} {st : List Value} {σ : aS} {x y : Int32} : Rn sc d 77 50 L (.int y :: .int x :: st) σ r ↔ Rn sc d 77 51 L (.int (x - y) :: st) σ r := r_isub d77_50
theorem d77_51 : decode (mC 77) 51 = .ok (.iload_n 1, 1) := by decide +kernel
theorem x77_51 {sc : aSc} {d : Nat} {r : aRes} {a0 : Value} {x1 : Int32} {a2 : Value} {a3 : Value} {st : List Value} {σ : aS} : Rn sc d 77 51 [a0, .int x1, a2, a3] st σ r ↔ Rn sc d 77 52 [a0, .int x1, a2, a3] (.int x1 :: st) σ r := r_iload_n d77_51 rfl
theorem d77_52 : decode (mC 77) 52 = .ok (.if_icmp .lt 6, 3) := by decide +kernel
theorem x77_52 {sc : aSc} {d : Nat} {r : aRes} {L : List Value} {st : List Value} {σ : aS} {x y : Int32} : Rn sc d 77 52 L (.int y :: .int x :: st) σ r ↔ if x < y then Rn sc d 77 58 L st σ r else Rn sc d 77 55 L st σ r := r_icmp_lt d77_52 rfl
theorem d77_55 : decode (mC 77) 55 = .ok (.bipush (-5), 2) := by decide +kernel
theorem x77_55 {sc : aSc} {d : Nat} {r : aRes} {L : List Value} {st : List Value} {σ : aS} : Rn sc d 77 55 L st σ r ↔ Rn sc d 77 57 L (.int (-5) :: st) σ r := r_bipush d77_55 (by decide)
theorem d77_57 : decode (mC 77) 57 = .ok (.ireturn, 1) := by decide +kernel
theorem x77_57 {sc : aSc} {d : Nat} {r : aRes} {L : List Value} {σ : aS} {x : Int32} : Rn sc d 77 57 L [.int x] σ r ↔ r = (σ, some (.int x)) := r_iret d77_57 rfl rfl
theorem d77_58 : decode (mC 77) 58 = .ok (.aload_n 0, 1) := by decide +kernel
theorem x77_58 {sc : aSc} {d : Nat} {r : aRes} {x0 : Nat} {a1 : Value} {a2 : Value} {a3 : Value} {st : List Value} {σ : aS} : Rn sc d 77 58 [.ref x0, a1, a2, a3] st σ r ↔ Rn sc d 77 59 [.ref x0, a1, a2, a3] (.ref x0 :: st) σ r := r_aload_n d77_58 rfl
theorem d77_59 : decode (mC 77) 59 = .ok (.getfield 27, 3) := by decide +kernel
theorem x77_59 {sc : aSc} {d : Nat} {r : aRes} {L : List Value} {st : List Value} {f : Nat → Nat → Int32} {g : Nat → Nat → Int64} {h1 h2 : Nat} {o : Nat} (hK : KK[o]? = some (.inl 6)) (hR : (RR h1 h2 o 6).isSome = true) : Rn sc d 77 59 L (.ref o :: st) (cS f g h1 h2) r ↔ Rn sc d 77 62 L (.ref (rf h1 h2 o 6) :: st) (cS f g h1 h2) r := r_getR2 d77_59 (ci := 6) (k := 6) rfl (by decide) (fun _ => rfl) hK hR
theorem d77_62 : decode (mC 77) 62 = .ok (.aload_n 0, 1) := by decide +kernel
theorem x77_62 {sc : aSc} {d : Nat} {r : aRes} {x0 : Nat} {a1 : Value} {a2 : Value} {a3 : Value} {st : List Value} {σ : aS} : Rn sc d 77 62 [.ref x0, a1, a2, a3] st σ r ↔ Rn sc d 77 63 [.ref x0, a1, a2, a3] (.ref x0 :: st) σ r := r_aload_n d77_62 rfl
theorem d77_63 : decode (mC 77) 63 = .ok (.getfield 50, 3) := by decide +kernel
theorem x77_63 {sc : aSc} {d : Nat} {r : aRes} {L : List Value} {st : List Value} {f : Nat → Nat → Int32} {g : Nat → Nat → Int64} {h1 h2 : Nat} {o : Nat} (hK : KK[o]? = some (.inl 6)) (hR : (RR h1 h2 o 0).isSome = true) : Rn sc d 77 63 L (.ref o :: st) (cS f g h1 h2) r ↔ Rn sc d 77 66 L (.ref (rf h1 h2 o 0) :: st) (cS f g h1 h2) r := r_getR2 d77_63 (ci := 6) (k := 0) rfl (by decide) (fun _ => rfl) hK hR
theorem d77_66 : decode (mC 77) 66 = .ok (.iload_n 1, 1) := by decide +kernel
theorem x77_66 {sc : aSc} {d : Nat} {r : aRes} {a0 : Value} {x1 : Int32} {a2 : Value} {a3 : Value} {st : List Value} {σ : aS} : Rn sc d 77 66 [a0, .int x1, a2, a3] st σ r ↔ Rn sc d 77 67 [a0, .int x1, a2, a3] (.int x1 :: st) σ r := r_iload_n d77_66 rfl
theorem d77_67 : decode (mC 77) 67 = .ok (.aload_n 0, 1) := by decide +kernel
theorem x77_67 {sc : aSc} {d : Nat} {r : aRes} {x0 : Nat} {a1 : Value} {a2 : Value} {a3 : Value} {st : List Value} {σ : aS} : Rn sc d 77 67 [.ref x0, a1, a2, a3] st σ r ↔ Rn sc d 77 68 [.ref x0, a1, a2, a3] (.ref x0 :: st) σ r := r_aload_n d77_67 rfl
theorem d77_68 : decode (mC 77) 68 = .ok (.getfield 50, 3) := by decide +kernel
theorem x77_68 {sc : aSc} {d : Nat} {r : aRes} {L : List Value} {st : List Value} {f : Nat → Nat → Int32} {g : Nat → Nat → Int64} {h1 h2 : Nat} {o : Nat} (hK : KK[o]? = some (.inl 6)) (hR : (RR h1 h2 o 0).isSome = true) : Rn sc d 77 68 L (.ref o :: st) (cS f g h1 h2) r ↔ Rn sc d 77 71 L (.ref (rf h1 h2 o 0) :: st) (cS f g h1 h2) r := r_getR2 d77_68 (ci := 6) (k := 0) rfl (by decide) (fun _ => rfl) hK hR
theorem d77_71 : decode (mC 77) 71 = .ok (.invokevirtual 132, 3) := by decide +kernel
theorem x77_71 {sc : aSc} {d : Nat} {r : aRes} {L : List Value} {f : Nat → Nat → Int32} {g : Nat → Nat → Int64} {h1 h2 : Nat}  {z0 : Int32} {z1 : Nat} {z2 : Nat} {o : Nat} (hK : KK[o]? = some (.inl 1)) : Rn sc d 77 71 L [.ref o, .int z0, .ref z1, .ref z2] (cS f g h1 h2) r ↔ ∃ (σ3 : aS) (v : Option Value), Cl sc d 8 [.ref o] (cS f g h1 h2) (σ3, v) ∧ Rn sc d 77 74 L (v.toList ++ [.int z0, .ref z1, .ref z2]) σ3 r := r_callV (vs := []) d77_71 (j := 8) rfl ⟨rfl, by decide, rfl, rfl⟩ (Nat.le_of_ble_eq_true rfl) hK
theorem d77_74 : decode (mC 77) 74 = .ok (.invokevirtual 162, 3) := by decide +kernel
theorem x77_74 {sc : aSc} {d : Nat} {r : aRes} {L : List Value} {f : Nat → Nat → Int32} {g : Nat → Nat → Int64} {h1 h2 : Nat} {y0 : Int32} {y1 : Int32} {y2 : Nat}  {o : Nat} (hK : KK[o]? = some (.inl 3)) : Rn sc d 77 74 L [.int y0, .int y1, .ref y2, .ref o] (cS f g h1 h2) r ↔ ∃ (σ3 : aS) (v : Option Value), Cl sc d 40 [.ref o, .ref y2, .int y1, .int y0] (cS f g h1 h2) (σ3, v) ∧ Rn sc d 77 77 L (v.toList ++ []) σ3 r := r_callV (vs := [.int y0, .int y1, .ref y2]) d77_74 (j := 40) rfl ⟨rfl, by decide, rfl, rfl⟩ (Nat.le_of_ble_eq_true rfl) hK
theorem d77_77 : decode (mC 77) 77 = .ok (.iload_n 3, 1) := by decide +kernel
theorem x77_77 {sc : aSc} {d : Nat} {r : aRes} {a0 : Value} {a1 : Value} {a2 : Value} {x3 : Int32} {st : List Value} {σ : aS} : Rn sc d 77 77 [a0, a1, a2, .int x3] st σ r ↔ Rn sc d 77 78 [a0, a1, a2, .int x3] (.int x3 :: st) σ r := r_iload_n d77_77 rfl
theorem d77_78 : decode (mC 77) 78 = .ok (.ifCond .eq 22, 3) := by decide +kernel
theorem x77_78 {sc : aSc} {d : Nat} {r : aRes} {L : List Value} {st : List Value} {σ : aS} {x : Int32} : Rn sc d 77 78 L (.int x :: st) σ r ↔ if x = 0 then Rn sc d 77 100 L st σ r else Rn sc d 77 81 L st σ r := r_if_eq d77_78 rfl
theorem d77_81 : decode (mC 77) 81 = .ok (.aload_n 0, 1) := by decide +kernel
theorem x77_81 {sc : aSc} {d : Nat} {r : aRes} {x0 : Nat} {a1 : Value} {a2 : Value} {a3 : Value} {st : List Value} {σ : aS} : Rn sc d 77 81 [.ref x0, a1, a2, a3] st σ r ↔ Rn sc d 77 82 [.ref x0, a1, a2, a3] (.ref x0 :: st) σ r := r_aload_n d77_81 rfl
theorem d77_82 : decode (mC 77) 82 = .ok (.getfield 27, 3) := by decide +kernel
theorem x77_82 {sc : aSc} {d : Nat} {r : aRes} {L : List Value} {st : List Value} {f : Nat → Nat → Int32} {g : Nat → Nat → Int64} {h1 h2 : Nat} {o : Nat} (hK : KK[o]? = some (.inl 6)) (hR : (RR h1 h2 o 6).isSome = true) : Rn sc d 77 82 L (.ref o :: st) (cS f g h1 h2) r ↔ Rn sc d 77 85 L (.ref (rf h1 h2 o 6) :: st) (cS f g h1 h2) r := r_getR2 d77_82 (ci := 6) (k := 6) rfl (by decide) (fun _ => rfl) hK hR
theorem d77_85 : decode (mC 77) 85 = .ok (.aload_n 0, 1) := by decide +kernel
theorem x77_85 {sc : aSc} {d : Nat} {r : aRes} {x0 : Nat} {a1 : Value} {a2 : Value} {a3 : Value} {st : List Value} {σ : aS} : Rn sc d 77 85 [.ref x0, a1, a2, a3] st σ r ↔ Rn sc d 77 86 [.ref x0, a1, a2, a3] (.ref x0 :: st) σ r := r_aload_n d77_85 rfl
theorem d77_86 : decode (mC 77) 86 = .ok (.getfield 50, 3) := by decide +kernel
theorem x77_86 {sc : aSc} {d : Nat} {r : aRes} {L : List Value} {st : List Value} {f : Nat → Nat → Int32} {g : Nat → Nat → Int64} {h1 h2 : Nat} {o : Nat} (hK : KK[o]? = some (.inl 6)) (hR : (RR h1 h2 o 0).isSome = true) : Rn sc d 77 86 L (.ref o :: st) (cS f g h1 h2) r ↔ Rn sc d 77 89 L (.ref (rf h1 h2 o 0) :: st) (cS f g h1 h2) r := r_getR2 d77_86 (ci := 6) (k := 0) rfl (by decide) (fun _ => rfl) hK hR
theorem d77_89 : decode (mC 77) 89 = .ok (.getfield 129, 3) := by decide +kernel
theorem x77_89 {sc : aSc} {d : Nat} {r : aRes} {L : List Value} {st : List Value} {f : Nat → Nat → Int32} {g : Nat → Nat → Int64} {h1 h2 : Nat} {o : Nat} (h17 : 17 ≤ o) (hK : KK[o]? = some (.inl 1)) : Rn sc d 77 89 L (.ref o :: st) (cS f g h1 h2) r ↔ Rn sc d 77 92 L (.int (f o 4) :: st) (cS f g h1 h2) r := r_getI d77_89 (ci := 1) (k := 4) rfl (by decide) (fun _ => rfl) h17 hK
theorem d77_92 : decode (mC 77) 92 = .ok (.iload_n 2, 1) := by decide +kernel
theorem x77_92 {sc : aSc} {d : Nat} {r : aRes} {a0 : Value} {a1 : Value} {x2 : Int32} {a3 : Value} {st : List Value} {σ : aS} : Rn sc d 77 92 [a0, a1, .int x2, a3] st σ r ↔ Rn sc d 77 93 [a0, a1, .int x2, a3] (.int x2 :: st) σ r := r_iload_n d77_92 rfl
theorem d77_93 : decode (mC 77) 93 = .ok (.bipush 10, 2) := by decide +kernel
theorem x77_93 {sc : aSc} {d : Nat} {r : aRes} {L : List Value} {st : List Value} {σ : aS} : Rn sc d 77 93 L st σ r ↔ Rn sc d 77 95 L (.int 10 :: st) σ r := r_bipush d77_93 (by decide)
theorem d77_95 : decode (mC 77) 95 = .ok (.isub, 1) := by decide +kernel
theorem x77_95 {sc : aSc} {d : Nat} {r : aRes} {L : List Value} {st : List Value} {σ : aS} {x y : Int32} : Rn sc d 77 95 L (.int y :: .int x :: st) σ r ↔ Rn sc d 77 96 L (.int (x - y) :: st) σ r := r_isub d77_95
theorem d77_96 : decode (mC 77) 96 = .ok (.invokevirtual 166, 3) := by decide +kernel
theorem x77_96 {sc : aSc} {d : Nat} {r : aRes} {L : List Value} {f : Nat → Nat → Int32} {g : Nat → Nat → Int64} {h1 h2 : Nat} {y0 : Int32} {y1 : Int32}  {o : Nat} (hK : KK[o]? = some (.inl 3)) : Rn sc d 77 96 L [.int y0, .int y1, .ref o] (cS f g h1 h2) r ↔ ∃ (σ3 : aS) (v : Option Value), Cl sc d 42 [.ref o, .int y1, .int y0] (cS f g h1 h2) (σ3, v) ∧ Rn sc d 77 99 L (v.toList ++ []) σ3 r := r_callV (vs := [.int y0, .int y1]) d77_96 (j := 42) rfl ⟨rfl, by decide, rfl, rfl⟩ (Nat.le_of_ble_eq_true rfl) hK
theorem d77_99 : decode (mC 77) 99 = .ok (.ireturn, 1) := by decide +kernel
theorem x77_99 {sc : aSc} {d : Nat} {r : aRes} {L : List Value} {σ : aS} {x : Int32} : Rn sc d 77 99 L [.int x] σ r ↔ r = (σ, some (.int x)) := r_iret d77_99 rfl rfl
theorem d77_100 : decode (mC 77) 100 = .ok (.iload_n 2, 1) := by decide +kernel
theorem x77_100 {sc : aSc} {d : Nat} {r : aRes} {a0 : Value} {a1 : Value} {x2 : Int32} {a3 : Value} {st : List Value} {σ : aS} : Rn sc d 77 100 [a0, a1, .int x2, a3] st σ r ↔ Rn sc d 77 101 [a0, a1, .int x2, a3] (.int x2 :: st) σ r := r_iload_n d77_100 rfl
theorem d77_101 : decode (mC 77) 101 = .ok (.ifCond .ne 23, 3) := by decide +kernel
theorem x77_101 {sc : aSc} {d : Nat} {r : aRes} {L : List Value} {st : List Value} {σ : aS} {x : Int32} : Rn sc d 77 101 L (.int x :: st) σ r ↔ if x = 0 then Rn sc d 77 104 L st σ r else Rn sc d 77 124 L st σ r := r_if_ne d77_101 rfl
theorem d77_104 : decode (mC 77) 104 = .ok (.aload_n 0, 1) := by decide +kernel
theorem x77_104 {sc : aSc} {d : Nat} {r : aRes} {x0 : Nat} {a1 : Value} {a2 : Value} {a3 : Value} {st : List Value} {σ : aS} : Rn sc d 77 104 [.ref x0, a1, a2, a3] st σ r ↔ Rn sc d 77 105 [.ref x0, a1, a2, a3] (.ref x0 :: st) σ r := r_aload_n d77_104 rfl
theorem d77_105 : decode (mC 77) 105 = .ok (.getfield 27, 3) := by decide +kernel
theorem x77_105 {sc : aSc} {d : Nat} {r : aRes} {L : List Value} {st : List Value} {f : Nat → Nat → Int32} {g : Nat → Nat → Int64} {h1 h2 : Nat} {o : Nat} (hK : KK[o]? = some (.inl 6)) (hR : (RR h1 h2 o 6).isSome = true) : Rn sc d 77 105 L (.ref o :: st) (cS f g h1 h2) r ↔ Rn sc d 77 108 L (.ref (rf h1 h2 o 6) :: st) (cS f g h1 h2) r := r_getR2 d77_105 (ci := 6) (k := 6) rfl (by decide) (fun _ => rfl) hK hR
theorem d77_108 : decode (mC 77) 108 = .ok (.getfield 169, 3) := by decide +kernel
theorem x77_108 {sc : aSc} {d : Nat} {r : aRes} {L : List Value} {st : List Value} {f : Nat → Nat → Int32} {g : Nat → Nat → Int64} {h1 h2 : Nat} {o : Nat} (hK : KK[o]? = some (.inl 3)) (hR : (RR h1 h2 o 0).isSome = true) : Rn sc d 77 108 L (.ref o :: st) (cS f g h1 h2) r ↔ Rn sc d 77 111 L (.ref (rf h1 h2 o 0) :: st) (cS f g h1 h2) r := r_getR2 d77_108 (ci := 3) (k := 0) rfl (by decide) (fun _ => rfl) hK hR
theorem d77_111 : decode (mC 77) 111 = .ok (.iconst 0, 1) := by decide +kernel
theorem x77_111 {sc : aSc} {d : Nat} {r : aRes} {L : List Value} {st : List Value} {σ : aS} : Rn sc d 77 111 L st σ r ↔ Rn sc d 77 112 L (.int 0 :: st) σ r := r_iconst d77_111 (by decide)
theorem d77_112 : decode (mC 77) 112 = .ok (.aaload, 1) := by decide +kernel
theorem x77_112 {sc : aSc} {d : Nat} {r : aRes} {L : List Value} {st : List Value} {f : Nat → Nat → Int32} {g : Nat → Nat → Int64} {h1 h2 : Nat} {a : Nat} {i : Int32} (h17 : 17 ≤ a) (hA : isG a) (hi : inb i (aln a) = true) (hR : (RR h1 h2 a i.toNatClampNeg).isSome = true) : Rn sc d 77 112 L (.int i :: .ref a :: st) (cS f g h1 h2) r ↔ Rn sc d 77 113 L (.ref (rf h1 h2 a i.toNatClampNeg) :: st) (cS f g h1 h2) r := r_aald2 d77_112 h17 hA hi hR
theorem d77_113 : decode (mC 77) 113 = .ok (.aload_n 0, 1) := by decide +kernel
theorem x77_113 {sc : aSc} {d : Nat} {r : aRes} {x0 : Nat} {a1 : Value} {a2 : Value} {a3 : Value} {st : List Value} {σ : aS} : Rn sc d 77 113 [.ref x0, a1, a2, a3] st σ r ↔ Rn sc d 77 114 [.ref x0, a1, a2, a3] (.ref x0 :: st) σ r := r_aload_n d77_113 rfl
theorem d77_114 : decode (mC 77) 114 = .ok (.getfield 50, 3) := by decide +kernel
theorem x77_114 {sc : aSc} {d : Nat} {r : aRes} {L : List Value} {st : List Value} {f : Nat → Nat → Int32} {g : Nat → Nat → Int64} {h1 h2 : Nat} {o : Nat} (hK : KK[o]? = some (.inl 6)) (hR : (RR h1 h2 o 0).isSome = true) : Rn sc d 77 114 L (.ref o :: st) (cS f g h1 h2) r ↔ Rn sc d 77 117 L (.ref (rf h1 h2 o 0) :: st) (cS f g h1 h2) r := r_getR2 d77_114 (ci := 6) (k := 0) rfl (by decide) (fun _ => rfl) hK hR
theorem d77_117 : decode (mC 77) 117 = .ok (.getfield 129, 3) := by decide +kernel
theorem x77_117 {sc : aSc} {d : Nat} {r : aRes} {L : List Value} {st : List Value} {f : Nat → Nat → Int32} {g : Nat → Nat → Int64} {h1 h2 : Nat} {o : Nat} (h17 : 17 ≤ o) (hK : KK[o]? = some (.inl 1)) : Rn sc d 77 117 L (.ref o :: st) (cS f g h1 h2) r ↔ Rn sc d 77 120 L (.int (f o 4) :: st) (cS f g h1 h2) r := r_getI d77_117 (ci := 1) (k := 4) rfl (by decide) (fun _ => rfl) h17 hK
theorem d77_120 : decode (mC 77) 120 = .ok (.iaload, 1) := by decide +kernel
theorem x77_120 {sc : aSc} {d : Nat} {r : aRes} {L : List Value} {st : List Value} {f : Nat → Nat → Int32} {g : Nat → Nat → Int64} {h1 h2 : Nat} {a : Nat} {i : Int32} (h17 : 17 ≤ a) (hA : isT9 .int a) (hi : inb i (aln a) = true) : Rn sc d 77 120 L (.int i :: .ref a :: st) (cS f g h1 h2) r ↔ Rn sc d 77 121 L (.int (f a i.toNatClampNeg) :: st) (cS f g h1 h2) r := r_iald d77_120 h17 hA hi
theorem d77_121 : decode (mC 77) 121 = .ok (.goto 20, 3) := by decide +kernel
theorem x77_121 {sc : aSc} {d : Nat} {r : aRes} {L : List Value} {st : List Value} {σ : aS} : Rn sc d 77 121 L st σ r ↔ Rn sc d 77 141 L st σ r := r_goto d77_121 rfl
theorem d77_124 : decode (mC 77) 124 = .ok (.aload_n 0, 1) := by decide +kernel
theorem x77_124 {sc : aSc} {d : Nat} {r : aRes} {x0 : Nat} {a1 : Value} {a2 : Value} {a3 : Value} {st : List Value} {σ : aS} : Rn sc d 77 124 [.ref x0, a1, a2, a3] st σ r ↔ Rn sc d 77 125 [.ref x0, a1, a2, a3] (.ref x0 :: st) σ r := r_aload_n d77_124 rfl
theorem d77_125 : decode (mC 77) 125 = .ok (.getfield 27, 3) := by decide +kernel
theorem x77_125 {sc : aSc} {d : Nat} {r : aRes} {L : List Value} {st : List Value} {f : Nat → Nat → Int32} {g : Nat → Nat → Int64} {h1 h2 : Nat} {o : Nat} (hK : KK[o]? = some (.inl 6)) (hR : (RR h1 h2 o 6).isSome = true) : Rn sc d 77 125 L (.ref o :: st) (cS f g h1 h2) r ↔ Rn sc d 77 128 L (.ref (rf h1 h2 o 6) :: st) (cS f g h1 h2) r := r_getR2 d77_125 (ci := 6) (k := 6) rfl (by decide) (fun _ => rfl) hK hR
theorem d77_128 : decode (mC 77) 128 = .ok (.getfield 173, 3) := by decide +kernel
theorem x77_128 {sc : aSc} {d : Nat} {r : aRes} {L : List Value} {st : List Value} {f : Nat → Nat → Int32} {g : Nat → Nat → Int64} {h1 h2 : Nat} {o : Nat} (hK : KK[o]? = some (.inl 3)) (hR : (RR h1 h2 o 1).isSome = true) : Rn sc d 77 128 L (.ref o :: st) (cS f g h1 h2) r ↔ Rn sc d 77 131 L (.ref (rf h1 h2 o 1) :: st) (cS f g h1 h2) r := r_getR2 d77_128 (ci := 3) (k := 1) rfl (by decide) (fun _ => rfl) hK hR
theorem d77_131 : decode (mC 77) 131 = .ok (.iconst 0, 1) := by decide +kernel
theorem x77_131 {sc : aSc} {d : Nat} {r : aRes} {L : List Value} {st : List Value} {σ : aS} : Rn sc d 77 131 L st σ r ↔ Rn sc d 77 132 L (.int 0 :: st) σ r := r_iconst d77_131 (by decide)
theorem d77_132 : decode (mC 77) 132 = .ok (.aaload, 1) := by decide +kernel
theorem x77_132 {sc : aSc} {d : Nat} {r : aRes} {L : List Value} {st : List Value} {f : Nat → Nat → Int32} {g : Nat → Nat → Int64} {h1 h2 : Nat} {a : Nat} {i : Int32} (h17 : 17 ≤ a) (hA : isG a) (hi : inb i (aln a) = true) (hR : (RR h1 h2 a i.toNatClampNeg).isSome = true) : Rn sc d 77 132 L (.int i :: .ref a :: st) (cS f g h1 h2) r ↔ Rn sc d 77 133 L (.ref (rf h1 h2 a i.toNatClampNeg) :: st) (cS f g h1 h2) r := r_aald2 d77_132 h17 hA hi hR
theorem d77_133 : decode (mC 77) 133 = .ok (.aload_n 0, 1) := by decide +kernel
theorem x77_133 {sc : aSc} {d : Nat} {r : aRes} {x0 : Nat} {a1 : Value} {a2 : Value} {a3 : Value} {st : List Value} {σ : aS} : Rn sc d 77 133 [.ref x0, a1, a2, a3] st σ r ↔ Rn sc d 77 134 [.ref x0, a1, a2, a3] (.ref x0 :: st) σ r := r_aload_n d77_133 rfl
theorem d77_134 : decode (mC 77) 134 = .ok (.getfield 50, 3) := by decide +kernel
theorem x77_134 {sc : aSc} {d : Nat} {r : aRes} {L : List Value} {st : List Value} {f : Nat → Nat → Int32} {g : Nat → Nat → Int64} {h1 h2 : Nat} {o : Nat} (hK : KK[o]? = some (.inl 6)) (hR : (RR h1 h2 o 0).isSome = true) : Rn sc d 77 134 L (.ref o :: st) (cS f g h1 h2) r ↔ Rn sc d 77 137 L (.ref (rf h1 h2 o 0) :: st) (cS f g h1 h2) r := r_getR2 d77_134 (ci := 6) (k := 0) rfl (by decide) (fun _ => rfl) hK hR
theorem d77_137 : decode (mC 77) 137 = .ok (.getfield 129, 3) := by decide +kernel
theorem x77_137 {sc : aSc} {d : Nat} {r : aRes} {L : List Value} {st : List Value} {f : Nat → Nat → Int32} {g : Nat → Nat → Int64} {h1 h2 : Nat} {o : Nat} (h17 : 17 ≤ o) (hK : KK[o]? = some (.inl 1)) : Rn sc d 77 137 L (.ref o :: st) (cS f g h1 h2) r ↔ Rn sc d 77 140 L (.int (f o 4) :: st) (cS f g h1 h2) r := r_getI d77_137 (ci := 1) (k := 4) rfl (by decide) (fun _ => rfl) h17 hK
theorem d77_140 : decode (mC 77) 140 = .ok (.iaload, 1) := by decide +kernel
theorem x77_140 {sc : aSc} {d : Nat} {r : aRes} {L : List Value} {st : List Value} {f : Nat → Nat → Int32} {g : Nat → Nat → Int64} {h1 h2 : Nat} {a : Nat} {i : Int32} (h17 : 17 ≤ a) (hA : isT9 .int a) (hi : inb i (aln a) = true) : Rn sc d 77 140 L (.int i :: .ref a :: st) (cS f g h1 h2) r ↔ Rn sc d 77 141 L (.int (f a i.toNatClampNeg) :: st) (cS f g h1 h2) r := r_iald d77_140 h17 hA hi
theorem d77_141 : decode (mC 77) 141 = .ok (.ireturn, 1) := by decide +kernel
theorem x77_141 {sc : aSc} {d : Nat} {r : aRes} {L : List Value} {σ : aS} {x : Int32} : Rn sc d 77 141 L [.int x] σ r ↔ r = (σ, some (.int x)) := r_iret d77_141 rfl rfl
theorem d78_0 : decode (mC 78) 0 = .ok (.iconst 0, 1) := by decide +kernel
theorem x78_0 {sc : aSc} {d : Nat} {r : aRes} {L : List Value} {st : List Value} {σ : aS} : Rn sc d 78 0 L st σ r ↔ Rn sc d 78 1 L (.int 0 :: st) σ r := r_iconst d78_0 (by decide)
theorem d78_1 : decode (mC 78) 1 = .ok (.istore_n 1, 1) := by decide +kernel
theorem x78_1 {sc : aSc} {d : Nat} {r : aRes} {x0 : Nat} {a1 : Value} {a2 : Value} {st : List Value} {σ : aS} {y : Int32} : Rn sc d 78 1 [.ref x0, a1, a2] (.int y :: st) σ r ↔ Rn sc d 78 2 [.ref x0, .int y, a2] st σ r := r_istore_n d78_1 (Nat.le_of_ble_eq_true rfl) rfl
theorem d78_2 : decode (mC 78) 2 = .ok (.iconst 0, 1) := by decide +kernel
theorem x78_2 {sc : aSc} {d : Nat} {r : aRes} {L : List Value} {st : List Value} {σ : aS} : Rn sc d 78 2 L st σ r ↔ Rn sc d 78 3 L (.int 0 :: st) σ r := r_iconst d78_2 (by decide)
theorem d78_3 : decode (mC 78) 3 = .ok (.istore_n 2, 1) := by decide +kernel
theorem x78_3 {sc : aSc} {d : Nat} {r : aRes} {a0 : Value} {x1 : Int32} {a2 : Value} {st : List Value} {σ : aS} {y : Int32} : Rn sc d 78 3 [a0, .int x1, a2] (.int y :: st) σ r ↔ Rn sc d 78 4 [a0, .int x1, .int y] st σ r := r_istore_n d78_3 (Nat.le_of_ble_eq_true rfl) rfl
theorem d78_4 : decode (mC 78) 4 = .ok (.iload_n 2, 1) := by decide +kernel
theorem x78_4 {sc : aSc} {d : Nat} {r : aRes} {a0 : Value} {a1 : Value} {x2 : Int32} {st : List Value} {σ : aS} : Rn sc d 78 4 [a0, a1, .int x2] st σ r ↔ Rn sc d 78 5 [a0, a1, .int x2] (.int x2 :: st) σ r := r_iload_n d78_4 rfl
theorem d78_5 : decode (mC 78) 5 = .ok (.bipush 11, 2) := by decide +kernel
theorem x78_5 {sc : aSc} {d : Nat} {r : aRes} {L : List Value} {st : List Value} {σ : aS} : Rn sc d 78 5 L st σ r ↔ Rn sc d 78 7 L (.int 11 :: st) σ r := r_bipush d78_5 (by decide)
theorem d78_7 : decode (mC 78) 7 = .ok (.if_icmp .gt 28, 3) := by decide +kernel
theorem x78_7 {sc : aSc} {d : Nat} {r : aRes} {L : List Value} {st : List Value} {σ : aS} {x y : Int32} : Rn sc d 78 7 L (.int y :: .int x :: st) σ r ↔ if y < x then Rn sc d 78 35 L st σ r else Rn sc d 78 10 L st σ r := r_icmp_gt d78_7 rfl
theorem d78_10 : decode (mC 78) 10 = .ok (.iload_n 1, 1) := by decide +kernel
theorem x78_10 {sc : aSc} {d : Nat} {r : aRes} {a0 : Value} {x1 : Int32} {a2 : Value} {st : List Value} {σ : aS} : Rn sc d 78 10 [a0, .int x1, a2] st σ r ↔ Rn sc d 78 11 [a0, .int x1, a2] (.int x1 :: st) σ r := r_iload_n d78_10 rfl
theorem d78_11 : decode (mC 78) 11 = .ok (.aload_n 0, 1) := by decide +kernel
theorem x78_11 {sc : aSc} {d : Nat} {r : aRes} {x0 : Nat} {a1 : Value} {a2 : Value} {st : List Value} {σ : aS} : Rn sc d 78 11 [.ref x0, a1, a2] st σ r ↔ Rn sc d 78 12 [.ref x0, a1, a2] (.ref x0 :: st) σ r := r_aload_n d78_11 rfl
theorem d78_12 : decode (mC 78) 12 = .ok (.getfield 50, 3) := by decide +kernel
theorem x78_12 {sc : aSc} {d : Nat} {r : aRes} {L : List Value} {st : List Value} {f : Nat → Nat → Int32} {g : Nat → Nat → Int64} {h1 h2 : Nat} {o : Nat} (hK : KK[o]? = some (.inl 6)) (hR : (RR h1 h2 o 0).isSome = true) : Rn sc d 78 12 L (.ref o :: st) (cS f g h1 h2) r ↔ Rn sc d 78 15 L (.ref (rf h1 h2 o 0) :: st) (cS f g h1 h2) r := r_getR2 d78_12 (ci := 6) (k := 0) rfl (by decide) (fun _ => rfl) hK hR
theorem d78_15 : decode (mC 78) 15 = .ok (.aload_n 0, 1) := by decide +kernel
theorem x78_15 {sc : aSc} {d : Nat} {r : aRes} {x0 : Nat} {a1 : Value} {a2 : Value} {st : List Value} {σ : aS} : Rn sc d 78 15 [.ref x0, a1, a2] st σ r ↔ Rn sc d 78 16 [.ref x0, a1, a2] (.ref x0 :: st) σ r := r_aload_n d78_15 rfl
theorem d78_16 : decode (mC 78) 16 = .ok (.getfield 50, 3) := by decide +kernel
theorem x78_16 {sc : aSc} {d : Nat} {r : aRes} {L : List Value} {st : List Value} {f : Nat → Nat → Int32} {g : Nat → Nat → Int64} {h1 h2 : Nat} {o : Nat} (hK : KK[o]? = some (.inl 6)) (hR : (RR h1 h2 o 0).isSome = true) : Rn sc d 78 16 L (.ref o :: st) (cS f g h1 h2) r ↔ Rn sc d 78 19 L (.ref (rf h1 h2 o 0) :: st) (cS f g h1 h2) r := r_getR2 d78_16 (ci := 6) (k := 0) rfl (by decide) (fun _ => rfl) hK hR
theorem d78_19 : decode (mC 78) 19 = .ok (.getfield 123, 3) := by decide +kernel
theorem x78_19 {sc : aSc} {d : Nat} {r : aRes} {L : List Value} {st : List Value} {f : Nat → Nat → Int32} {g : Nat → Nat → Int64} {h1 h2 : Nat} {o : Nat} (h17 : 17 ≤ o) (hK : KK[o]? = some (.inl 1)) : Rn sc d 78 19 L (.ref o :: st) (cS f g h1 h2) r ↔ Rn sc d 78 22 L (.int (f o 1) :: st) (cS f g h1 h2) r := r_getI d78_19 (ci := 1) (k := 1) rfl (by decide) (fun _ => rfl) h17 hK
theorem d78_22 : decode (mC 78) 22 = .ok (.iload_n 2, 1) := by decide +kernel
theorem x78_22 {sc : aSc} {d : Nat} {r : aRes} {a0 : Value} {a1 : Value} {x2 : Int32} {st : List Value} {σ : aS} : Rn sc d 78 22 [a0, a1, .int x2] st σ r ↔ Rn sc d 78 23 [a0, a1, .int x2] (.int x2 :: st) σ r := r_iload_n d78_22 rfl
theorem d78_23 : decode (mC 78) 23 = .ok (.iadd, 1) := by decide +kernel
theorem x78_23 {sc : aSc} {d : Nat} {r : aRes} {L : List Value} {st : List Value} {σ : aS} {x y : Int32} : Rn sc d 78 23 L (.int y :: .int x :: st) σ r ↔ Rn sc d 78 24 L (.int (x + y) :: st) σ r := r_iadd d78_23
theorem d78_24 : decode (mC 78) 24 = .ok (.invokevirtual 175, 3) := by decide +kernel
theorem x78_24 {sc : aSc} {d : Nat} {r : aRes} {L : List Value} {f : Nat → Nat → Int32} {g : Nat → Nat → Int64} {h1 h2 : Nat} {y0 : Int32} {z0 : Int32} {o : Nat} (hK : KK[o]? = some (.inl 1)) : Rn sc d 78 24 L [.int y0, .ref o, .int z0] (cS f g h1 h2) r ↔ ∃ (σ3 : aS) (v : Option Value), Cl sc d 21 [.ref o, .int y0] (cS f g h1 h2) (σ3, v) ∧ Rn sc d 78 27 L (v.toList ++ [.int z0]) σ3 r := r_callV (vs := [.int y0]) d78_24 (j := 21) rfl ⟨rfl, by decide, rfl, rfl⟩ (Nat.le_of_ble_eq_true rfl) hK
theorem d78_27 : decode (mC 78) 27 = .ok (.ior, 1) := by decide +kernel
theorem x78_27 {sc : aSc} {d : Nat} {r : aRes} {L : List Value} {st : List Value} {σ : aS} {x y : Int32} : Rn sc d 78 27 L (.int y :: .int x :: st) σ r ↔ Rn sc d 78 28 L (.int (x ||| y) :: st) σ r := r_ior d78_27
theorem d78_28 : decode (mC 78) 28 = .ok (.istore_n 1, 1) := by decide +kernel
theorem x78_28 {sc : aSc} {d : Nat} {r : aRes} {x0 : Nat} {a1 : Value} {a2 : Value} {st : List Value} {σ : aS} {y : Int32} : Rn sc d 78 28 [.ref x0, a1, a2] (.int y :: st) σ r ↔ Rn sc d 78 29 [.ref x0, .int y, a2] st σ r := r_istore_n d78_28 (Nat.le_of_ble_eq_true rfl) rfl
theorem d78_29 : decode (mC 78) 29 = .ok (.iinc 2 1, 3) := by decide +kernel
theorem x78_29 {sc : aSc} {d : Nat} {r : aRes} {a0 : Value} {x1 : Int32} {x2 : Int32} {st : List Value} {σ : aS} : Rn sc d 78 29 [a0, .int x1, .int x2] st σ r ↔ Rn sc d 78 32 [a0, .int x1, .int (x2 + 1)] st σ r := r_iinc d78_29 (Nat.le_of_ble_eq_true rfl) rfl rfl (by decide)
theorem d78_32 : decode (mC 78) 32 = .ok (.goto (-28), 3) := by decide +kernel
theorem x78_32 {sc : aSc} {d : Nat} {r : aRes} {L : List Value} {st : List Value} {σ : aS} : Rn sc d 78 32 L st σ r ↔ Rn sc d 78 4 L st σ r := r_goto d78_32 rfl
theorem d78_35 : decode (mC 78) 35 = .ok (.aload_n 0, 1) := by decide +kernel
theorem x78_35 {sc : aSc} {d : Nat} {r : aRes} {x0 : Nat} {a1 : Value} {a2 : Value} {st : List Value} {σ : aS} : Rn sc d 78 35 [.ref x0, a1, a2] st σ r ↔ Rn sc d 78 36 [.ref x0, a1, a2] (.ref x0 :: st) σ r := r_aload_n d78_35 rfl
theorem d78_36 : decode (mC 78) 36 = .ok (.getfield 50, 3) := by decide +kernel
theorem x78_36 {sc : aSc} {d : Nat} {r : aRes} {L : List Value} {st : List Value} {f : Nat → Nat → Int32} {g : Nat → Nat → Int64} {h1 h2 : Nat} {o : Nat} (hK : KK[o]? = some (.inl 6)) (hR : (RR h1 h2 o 0).isSome = true) : Rn sc d 78 36 L (.ref o :: st) (cS f g h1 h2) r ↔ Rn sc d 78 39 L (.ref (rf h1 h2 o 0) :: st) (cS f g h1 h2) r := r_getR2 d78_36 (ci := 6) (k := 0) rfl (by decide) (fun _ => rfl) hK hR
theorem d78_39 : decode (mC 78) 39 = .ok (.invokevirtual 132, 3) := by decide +kernel
theorem x78_39 {sc : aSc} {d : Nat} {r : aRes} {L : List Value} {f : Nat → Nat → Int32} {g : Nat → Nat → Int64} {h1 h2 : Nat}   {o : Nat} (hK : KK[o]? = some (.inl 1)) : Rn sc d 78 39 L [.ref o] (cS f g h1 h2) r ↔ ∃ (σ3 : aS) (v : Option Value), Cl sc d 8 [.ref o] (cS f g h1 h2) (σ3, v) ∧ Rn sc d 78 42 L (v.toList ++ []) σ3 r := r_callV (vs := []) d78_39 (j := 8) rfl ⟨rfl, by decide, rfl, rfl⟩ (Nat.le_of_ble_eq_true rfl) hK
theorem d78_42 : decode (mC 78) 42 = .ok (.iload_n 1, 1) := by decide +kernel
theorem x78_42 {sc : aSc} {d : Nat} {r : aRes} {a0 : Value} {x1 : Int32} {a2 : Value} {st : List Value} {σ : aS} : Rn sc d 78 42 [a0, .int x1, a2] st σ r ↔ Rn sc d 78 43 [a0, .int x1, a2] (.int x1 :: st) σ r := r_iload_n d78_42 rfl
theorem d78_43 : decode (mC 78) 43 = .ok (.iconst (-1), 1) := by decide +kernel
theorem x78_43 {sc : aSc} {d : Nat} {r : aRes} {L : List Value} {st : List Value} {σ : aS} : Rn sc d 78 43 L st σ r ↔ Rn sc d 78 44 L (.int (-1) :: st) σ r := r_iconst d78_43 (by decide)
theorem d78_44 : decode (mC 78) 44 = .ok (.ixor, 1) := by decide +kernel
theorem x78_44 {sc : aSc} {d : Nat} {r : aRes} {L : List Value} {st : List Value} {σ : aS} {x y : Int32} : Rn sc d 78 44 L (.int y :: .int x :: st) σ r ↔ Rn sc d 78 45 L (.int (x ^^^ y) :: st) σ r := r_ixor d78_44
theorem d78_45 : decode (mC 78) 45 = .ok (.iand, 1) := by decide +kernel
theorem x78_45 {sc : aSc} {d : Nat} {r : aRes} {L : List Value} {st : List Value} {σ : aS} {x y : Int32} : Rn sc d 78 45 L (.int y :: .int x :: st) σ r ↔ Rn sc d 78 46 L (.int (x &&& y) :: st) σ r := r_iand d78_45
theorem d78_46 : decode (mC 78) 46 = .ok (.ireturn, 1) := by decide +kernel
theorem x78_46 {sc : aSc} {d : Nat} {r : aRes} {L : List Value} {σ : aS} {x : Int32} : Rn sc d 78 46 L [.int x] σ r ↔ r = (σ, some (.int x)) := r_iret d78_46 rfl rfl
theorem d79_0 : decode (mC 79) 0 = .ok (.aload_n 0, 1) := by decide +kernel
theorem x79_0 {sc : aSc} {d : Nat} {r : aRes} {x0 : Nat} {a1 : Value} {a2 : Value} {a3 : Value} {a4 : Value} {st : List Value} {σ : aS} : Rn sc d 79 0 [.ref x0, a1, a2, a3, a4] st σ r ↔ Rn sc d 79 1 [.ref x0, a1, a2, a3, a4] (.ref x0 :: st) σ r := r_aload_n d79_0 rfl
theorem d79_1 : decode (mC 79) 1 = .ok (.iload_n 1, 1) := by decide +kernel
theorem x79_1 {sc : aSc} {d : Nat} {r : aRes} {a0 : Value} {x1 : Int32} {a2 : Value} {a3 : Value} {a4 : Value} {st : List Value} {σ : aS} : Rn sc d 79 1 [a0, .int x1, a2, a3, a4] st σ r ↔ Rn sc d 79 2 [a0, .int x1, a2, a3, a4] (.int x1 :: st) σ r := r_iload_n d79_1 rfl
theorem d79_2 : decode (mC 79) 2 = .ok (.iload_n 2, 1) := by decide +kernel
theorem x79_2 {sc : aSc} {d : Nat} {r : aRes} {a0 : Value} {a1 : Value} {x2 : Int32} {a3 : Value} {a4 : Value} {st : List Value} {σ : aS} : Rn sc d 79 2 [a0, a1, .int x2, a3, a4] st σ r ↔ Rn sc d 79 3 [a0, a1, .int x2, a3, a4] (.int x2 :: st) σ r := r_iload_n d79_2 rfl
theorem d79_3 : decode (mC 79) 3 = .ok (.invokevirtual 145, 3) := by decide +kernel
theorem x79_3 {sc : aSc} {d : Nat} {r : aRes} {L : List Value} {f : Nat → Nat → Int32} {g : Nat → Nat → Int64} {h1 h2 : Nat} {y0 : Int32} {y1 : Int32}  {o : Nat} (hK : KK[o]? = some (.inl 6)) : Rn sc d 79 3 L [.int y0, .int y1, .ref o] (cS f g h1 h2) r ↔ ∃ (σ3 : aS) (v : Option Value), Cl sc d 104 [.ref o, .int y1, .int y0] (cS f g h1 h2) (σ3, v) ∧ Rn sc d 79 6 L (v.toList ++ []) σ3 r := r_callV (vs := [.int y0, .int y1]) d79_3 (j := 104) rfl ⟨rfl, by decide, rfl, rfl⟩ (Nat.le_of_ble_eq_true rfl) hK
theorem d79_6 : decode (mC 79) 6 = .ok (.istore_n 3, 1) := by decide +kernel
theorem x79_6 {sc : aSc} {d : Nat} {r : aRes} {a0 : Value} {a1 : Value} {x2 : Int32} {a3 : Value} {a4 : Value} {st : List Value} {σ : aS} {y : Int32} : Rn sc d 79 6 [a0, a1, .int x2, a3, a4] (.int y :: st) σ r ↔ Rn sc d 79 7 [a0, a1, .int x2, .int y, a4] st σ r := r_istore_n d79_6 (Nat.le_of_ble_eq_true rfl) rfl
theorem d79_7 : decode (mC 79) 7 = .ok (.iload_n 3, 1) := by decide +kernel
theorem x79_7 {sc : aSc} {d : Nat} {r : aRes} {a0 : Value} {a1 : Value} {a2 : Value} {x3 : Int32} {a4 : Value} {st : List Value} {σ : aS} : Rn sc d 79 7 [a0, a1, a2, .int x3, a4] st σ r ↔ Rn sc d 79 8 [a0, a1, a2, .int x3, a4] (.int x3 :: st) σ r := r_iload_n d79_7 rfl
theorem d79_8 : decode (mC 79) 8 = .ok (.ifCond .eq 5, 3) := by decide +kernel
theorem x79_8 {sc : aSc} {d : Nat} {r : aRes} {L : List Value} {st : List Value} {σ : aS} {x : Int32} : Rn sc d 79 8 L (.int x :: st) σ r ↔ if x = 0 then Rn sc d 79 13 L st σ r else Rn sc d 79 11 L st σ r := r_if_eq d79_8 rfl
theorem d79_11 : decode (mC 79) 11 = .ok (.iload_n 3, 1) := by decide +kernel
theorem x79_11 {sc : aSc} {d : Nat} {r : aRes} {a0 : Value} {a1 : Value} {a2 : Value} {x3 : Int32} {a4 : Value} {st : List Value} {σ : aS} : Rn sc d 79 11 [a0, a1, a2, .int x3, a4] st σ r ↔ Rn sc d 79 12 [a0, a1, a2, .int x3, a4] (.int x3 :: st) σ r := r_iload_n d79_11 rfl
theorem d79_12 : decode (mC 79) 12 = .ok (.ireturn, 1) := by decide +kernel
theorem x79_12 {sc : aSc} {d : Nat} {r : aRes} {L : List Value} {σ : aS} {x : Int32} : Rn sc d 79 12 L [.int x] σ r ↔ r = (σ, some (.int x)) := r_iret d79_12 rfl rfl
theorem d79_13 : decode (mC 79) 13 = .ok (.iconst 0, 1) := by decide +kernel
theorem x79_13 {sc : aSc} {d : Nat} {r : aRes} {L : List Value} {st : List Value} {σ : aS} : Rn sc d 79 13 L st σ r ↔ Rn sc d 79 14 L (.int 0 :: st) σ r := r_iconst d79_13 (by decide)
theorem d79_14 : decode (mC 79) 14 = .ok (.istore 4, 2) := by decide +kernel
theorem x79_14 {sc : aSc} {d : Nat} {r : aRes} {a0 : Value} {a1 : Value} {a2 : Value} {x3 : Int32} {a4 : Value} {st : List Value} {σ : aS} {y : Int32} : Rn sc d 79 14 [a0, a1, a2, .int x3, a4] (.int y :: st) σ r ↔ Rn sc d 79 16 [a0, a1, a2, .int x3, .int y] st σ r := r_istore d79_14 (Nat.le_of_ble_eq_true rfl) rfl
theorem d79_16 : decode (mC 79) 16 = .ok (.iload 4, 2) := by decide +kernel
theorem x79_16 {sc : aSc} {d : Nat} {r : aRes} {a0 : Value} {a1 : Value} {a2 : Value} {a3 : Value} {x4 : Int32} {st : List Value} {σ : aS} : Rn sc d 79 16 [a0, a1, a2, a3, .int x4] st σ r ↔ Rn sc d 79 18 [a0, a1, a2, a3, .int x4] (.int x4 :: st) σ r := r_iload d79_16 rfl
theorem d79_18 : decode (mC 79) 18 = .ok (.bipush 59, 2) := by decide +kernel
theorem x79_18 {sc : aSc} {d : Nat} {r : aRes} {L : List Value} {st : List Value} {σ : aS} : Rn sc d 79 18 L st σ r ↔ Rn sc d 79 20 L (.int 59 :: st) σ r := r_bipush d79_18 (by decide)
theorem d79_20 : decode (mC 79) 20 = .ok (.if_icmp .gt 41, 3) := by decide +kernel
theorem x79_20 {sc : aSc} {d : Nat} {r : aRes} {L : List Value} {st : List Value} {σ : aS} {x y : Int32} : Rn sc d 79 20 L (.int y :: .int x :: st) σ r ↔ if y < x then Rn sc d 79 61 L st σ r else Rn sc d 79 23 L st σ r := r_icmp_gt d79_20 rfl
theorem d79_23 : decode (mC 79) 23 = .ok (.aload_n 0, 1) := by decide +kernel
theorem x79_23 {sc : aSc} {d : Nat} {r : aRes} {x0 : Nat} {a1 : Value} {a2 : Value} {a3 : Value} {a4 : Value} {st : List Value} {σ : aS} : Rn sc d 79 23 [.ref x0, a1, a2, a3, a4] st σ r ↔ Rn sc d 79 24 [.ref x0, a1, a2, a3, a4] (.ref x0 :: st) σ r := r_aload_n d79_23 rfl
theorem d79_24 : decode (mC 79) 24 = .ok (.getfield 50, 3) := by decide +kernel
theorem x79_24 {sc : aSc} {d : Nat} {r : aRes} {L : List Value} {st : List Value} {f : Nat → Nat → Int32} {g : Nat → Nat → Int64} {h1 h2 : Nat} {o : Nat} (hK : KK[o]? = some (.inl 6)) (hR : (RR h1 h2 o 0).isSome = true) : Rn sc d 79 24 L (.ref o :: st) (cS f g h1 h2) r ↔ Rn sc d 79 27 L (.ref (rf h1 h2 o 0) :: st) (cS f g h1 h2) r := r_getR2 d79_24 (ci := 6) (k := 0) rfl (by decide) (fun _ => rfl) hK hR
theorem d79_27 : decode (mC 79) 27 = .ok (.iload_n 1, 1) := by decide +kernel
theorem x79_27 {sc : aSc} {d : Nat} {r : aRes} {a0 : Value} {x1 : Int32} {a2 : Value} {a3 : Value} {a4 : Value} {st : List Value} {σ : aS} : Rn sc d 79 27 [a0, .int x1, a2, a3, a4] st σ r ↔ Rn sc d 79 28 [a0, .int x1, a2, a3, a4] (.int x1 :: st) σ r := r_iload_n d79_27 rfl
theorem d79_28 : decode (mC 79) 28 = .ok (.iload_n 2, 1) := by decide +kernel
theorem x79_28 {sc : aSc} {d : Nat} {r : aRes} {a0 : Value} {a1 : Value} {x2 : Int32} {a3 : Value} {a4 : Value} {st : List Value} {σ : aS} : Rn sc d 79 28 [a0, a1, .int x2, a3, a4] st σ r ↔ Rn sc d 79 29 [a0, a1, .int x2, a3, a4] (.int x2 :: st) σ r := r_iload_n d79_28 rfl
theorem d79_29 : decode (mC 79) 29 = .ok (.aload_n 0, 1) := by decide +kernel
theorem x79_29 {sc : aSc} {d : Nat} {r : aRes} {x0 : Nat} {a1 : Value} {a2 : Value} {a3 : Value} {a4 : Value} {st : List Value} {σ : aS} : Rn sc d 79 29 [.ref x0, a1, a2, a3, a4] st σ r ↔ Rn sc d 79 30 [.ref x0, a1, a2, a3, a4] (.ref x0 :: st) σ r := r_aload_n d79_29 rfl
theorem d79_30 : decode (mC 79) 30 = .ok (.getfield 50, 3) := by decide +kernel
theorem x79_30 {sc : aSc} {d : Nat} {r : aRes} {L : List Value} {st : List Value} {f : Nat → Nat → Int32} {g : Nat → Nat → Int64} {h1 h2 : Nat} {o : Nat} (hK : KK[o]? = some (.inl 6)) (hR : (RR h1 h2 o 0).isSome = true) : Rn sc d 79 30 L (.ref o :: st) (cS f g h1 h2) r ↔ Rn sc d 79 33 L (.ref (rf h1 h2 o 0) :: st) (cS f g h1 h2) r := r_getR2 d79_30 (ci := 6) (k := 0) rfl (by decide) (fun _ => rfl) hK hR
theorem d79_33 : decode (mC 79) 33 = .ok (.getfield 129, 3) := by decide +kernel
theorem x79_33 {sc : aSc} {d : Nat} {r : aRes} {L : List Value} {st : List Value} {f : Nat → Nat → Int32} {g : Nat → Nat → Int64} {h1 h2 : Nat} {o : Nat} (h17 : 17 ≤ o) (hK : KK[o]? = some (.inl 1)) : Rn sc d 79 33 L (.ref o :: st) (cS f g h1 h2) r ↔ Rn sc d 79 36 L (.int (f o 4) :: st) (cS f g h1 h2) r := r_getI d79_33 (ci := 1) (k := 4) rfl (by decide) (fun _ => rfl) h17 hK
theorem d79_36 : decode (mC 79) 36 = .ok (.aload_n 0, 1) := by decide +kernel
theorem x79_36 {sc : aSc} {d : Nat} {r : aRes} {x0 : Nat} {a1 : Value} {a2 : Value} {a3 : Value} {a4 : Value} {st : List Value} {σ : aS} : Rn sc d 79 36 [.ref x0, a1, a2, a3, a4] st σ r ↔ Rn sc d 79 37 [.ref x0, a1, a2, a3, a4] (.ref x0 :: st) σ r := r_aload_n d79_36 rfl
theorem d79_37 : decode (mC 79) 37 = .ok (.getfield 50, 3) := by decide +kernel
theorem x79_37 {sc : aSc} {d : Nat} {r : aRes} {L : List Value} {st : List Value} {f : Nat → Nat → Int32} {g : Nat → Nat → Int64} {h1 h2 : Nat} {o : Nat} (hK : KK[o]? = some (.inl 6)) (hR : (RR h1 h2 o 0).isSome = true) : Rn sc d 79 37 L (.ref o :: st) (cS f g h1 h2) r ↔ Rn sc d 79 40 L (.ref (rf h1 h2 o 0) :: st) (cS f g h1 h2) r := r_getR2 d79_37 (ci := 6) (k := 0) rfl (by decide) (fun _ => rfl) hK hR
theorem d79_40 : decode (mC 79) 40 = .ok (.getfield 123, 3) := by decide +kernel
theorem x79_40 {sc : aSc} {d : Nat} {r : aRes} {L : List Value} {st : List Value} {f : Nat → Nat → Int32} {g : Nat → Nat → Int64} {h1 h2 : Nat} {o : Nat} (h17 : 17 ≤ o) (hK : KK[o]? = some (.inl 1)) : Rn sc d 79 40 L (.ref o :: st) (cS f g h1 h2) r ↔ Rn sc d 79 43 L (.int (f o 1) :: st) (cS f g h1 h2) r := r_getI d79_40 (ci := 1) (k := 1) rfl (by decide) (fun _ => rfl) h17 hK
theorem d79_43 : decode (mC 79) 43 = .ok (.iload 4, 2) := by decide +kernel
theorem x79_43 {sc : aSc} {d : Nat} {r : aRes} {a0 : Value} {a1 : Value} {a2 : Value} {a3 : Value} {x4 : Int32} {st : List Value} {σ : aS} : Rn sc d 79 43 [a0, a1, a2, a3, .int x4] st σ r ↔ Rn sc d 79 45 [a0, a1, a2, a3, .int x4] (.int x4 :: st) σ r := r_iload d79_43 rfl
theorem d79_45 : decode (mC 79) 45 = .ok (.iadd, 1) := by decide +kernel
theorem x79_45 {sc : aSc} {d : Nat} {r : aRes} {L : List Value} {st : List Value} {σ : aS} {x y : Int32} : Rn sc d 79 45 L (.int y :: .int x :: st) σ r ↔ Rn sc d 79 46 L (.int (x + y) :: st) σ r := r_iadd d79_45
theorem d79_46 : decode (mC 79) 46 = .ok (.invokevirtual 155, 3) := by decide +kernel
theorem x79_46 {sc : aSc} {d : Nat} {r : aRes} {L : List Value} {f : Nat → Nat → Int32} {g : Nat → Nat → Int64} {h1 h2 : Nat} {y0 : Int32} {y1 : Int32} {y2 : Int32} {y3 : Int32}  {o : Nat} (hK : KK[o]? = some (.inl 1)) : Rn sc d 79 46 L [.int y0, .int y1, .int y2, .int y3, .ref o] (cS f g h1 h2) r ↔ ∃ (σ3 : aS) (v : Option Value), Cl sc d 19 [.ref o, .int y3, .int y2, .int y1, .int y0] (cS f g h1 h2) (σ3, v) ∧ Rn sc d 79 49 L (v.toList ++ []) σ3 r := r_callV (vs := [.int y0, .int y1, .int y2, .int y3]) d79_46 (j := 19) rfl ⟨rfl, by decide, rfl, rfl⟩ (Nat.le_of_ble_eq_true rfl) hK
theorem d79_49 : decode (mC 79) 49 = .ok (.ifCond .eq 6, 3) := by decide +kernel
theorem x79_49 {sc : aSc} {d : Nat} {r : aRes} {L : List Value} {st : List Value} {σ : aS} {x : Int32} : Rn sc d 79 49 L (.int x :: st) σ r ↔ if x = 0 then Rn sc d 79 55 L st σ r else Rn sc d 79 52 L st σ r := r_if_eq d79_49 rfl
theorem d79_52 : decode (mC 79) 52 = .ok (.iload 4, 2) := by decide +kernel
theorem x79_52 {sc : aSc} {d : Nat} {r : aRes} {a0 : Value} {a1 : Value} {a2 : Value} {a3 : Value} {x4 : Int32} {st : List Value} {σ : aS} : Rn sc d 79 52 [a0, a1, a2, a3, .int x4] st σ r ↔ Rn sc d 79 54 [a0, a1, a2, a3, .int x4] (.int x4 :: st) σ r := r_iload d79_52 rfl
theorem d79_54 : decode (mC 79) 54 = .ok (.ireturn, 1) := by decide +kernel
theorem x79_54 {sc : aSc} {d : Nat} {r : aRes} {L : List Value} {σ : aS} {x : Int32} : Rn sc d 79 54 L [.int x] σ r ↔ r = (σ, some (.int x)) := r_iret d79_54 rfl rfl
theorem d79_55 : decode (mC 79) 55 = .ok (.iinc 4 1, 3) := by decide +kernel
theorem x79_55 {sc : aSc} {d : Nat} {r : aRes} {a0 : Value} {a1 : Value} {a2 : Value} {x3 : Int32} {x4 : Int32} {st : List Value} {σ : aS} : Rn sc d 79 55 [a0, a1, a2, .int x3, .int x4] st σ r ↔ Rn sc d 79 58 [a0, a1, a2, .int x3, .int (x4 + 1)] st σ r := r_iinc d79_55 (Nat.le_of_ble_eq_true rfl) rfl rfl (by decide)
theorem d79_58 : decode (mC 79) 58 = .ok (.goto (-42), 3) := by decide +kernel
theorem x79_58 {sc : aSc} {d : Nat} {r : aRes} {L : List Value} {st : List Value} {σ : aS} : Rn sc d 79 58 L st σ r ↔ Rn sc d 79 16 L st σ r := r_goto d79_58 rfl
theorem d79_61 : decode (mC 79) 61 = .ok (.bipush (-5), 2) := by decide +kernel
theorem x79_61 {sc : aSc} {d : Nat} {r : aRes} {L : List Value} {st : List Value} {σ : aS} : Rn sc d 79 61 L st σ r ↔ Rn sc d 79 63 L (.int (-5) :: st) σ r := r_bipush d79_61 (by decide)
theorem d79_63 : decode (mC 79) 63 = .ok (.ireturn, 1) := by decide +kernel
theorem x79_63 {sc : aSc} {d : Nat} {r : aRes} {L : List Value} {σ : aS} {x : Int32} : Rn sc d 79 63 L [.int x] σ r ↔ r = (σ, some (.int x)) := r_iret d79_63 rfl rfl
theorem d80_0 : decode (mC 80) 0 = .ok (.aload_n 0, 1) := by decide +kernel
theorem x80_0 {sc : aSc} {d : Nat} {r : aRes} {x0 : Nat} {a1 : Value} {a2 : Value} {st : List Value} {σ : aS} : Rn sc d 80 0 [.ref x0, a1, a2] st σ r ↔ Rn sc d 80 1 [.ref x0, a1, a2] (.ref x0 :: st) σ r := r_aload_n d80_0 rfl
theorem d80_1 : decode (mC 80) 1 = .ok (.getfield 50, 3) := by decide +kernel
theorem x80_1 {sc : aSc} {d : Nat} {r : aRes} {L : List Value} {st : List Value} {f : Nat → Nat → Int32} {g : Nat → Nat → Int64} {h1 h2 : Nat} {o : Nat} (hK : KK[o]? = some (.inl 6)) (hR : (RR h1 h2 o 0).isSome = true) : Rn sc d 80 1 L (.ref o :: st) (cS f g h1 h2) r ↔ Rn sc d 80 4 L (.ref (rf h1 h2 o 0) :: st) (cS f g h1 h2) r := r_getR2 d80_1 (ci := 6) (k := 0) rfl (by decide) (fun _ => rfl) hK hR
theorem d80_4 : decode (mC 80) 4 = .ok (.iload_n 1, 1) := by decide +kernel
theorem x80_4 {sc : aSc} {d : Nat} {r : aRes} {a0 : Value} {x1 : Int32} {a2 : Value} {st : List Value} {σ : aS} : Rn sc d 80 4 [a0, .int x1, a2] st σ r ↔ Rn sc d 80 5 [a0, .int x1, a2] (.int x1 :: st) σ r := r_iload_n d80_4 rfl
theorem d80_5 : decode (mC 80) 5 = .ok (.invokevirtual 70, 3) := by decide +kernel
theorem x80_5 {sc : aSc} {d : Nat} {r : aRes} {L : List Value} {f : Nat → Nat → Int32} {g : Nat → Nat → Int64} {h1 h2 : Nat} {y0 : Int32}  {o : Nat} (hK : KK[o]? = some (.inl 1)) : Rn sc d 80 5 L [.int y0, .ref o] (cS f g h1 h2) r ↔ ∃ (σ3 : aS) (v : Option Value), Cl sc d 7 [.ref o, .int y0] (cS f g h1 h2) (σ3, v) ∧ Rn sc d 80 8 L (v.toList ++ []) σ3 r := r_callV (vs := [.int y0]) d80_5 (j := 7) rfl ⟨rfl, by decide, rfl, rfl⟩ (Nat.le_of_ble_eq_true rfl) hK
theorem d80_8 : decode (mC 80) 8 = .ok (.ifCond .ne 5, 3) := by decide +kernel
theorem x80_8 {sc : aSc} {d : Nat} {r : aRes} {L : List Value} {st : List Value} {σ : aS} {x : Int32} : Rn sc d 80 8 L (.int x :: st) σ r ↔ if x = 0 then Rn sc d 80 11 L st σ r else Rn sc d 80 13 L st σ r := r_if_ne d80_8 rfl
theorem d80_11 : decode (mC 80) 11 = .ok (.iconst (-1), 1) := by decide +kernel
theorem x80_11 {sc : aSc} {d : Nat} {r : aRes} {L : List Value} {st : List Value} {σ : aS} : Rn sc d 80 11 L st σ r ↔ Rn sc d 80 12 L (.int (-1) :: st) σ r := r_iconst d80_11 (by decide)
theorem d80_12 : decode (mC 80) 12 = .ok (.ireturn, 1) := by decide +kernel
theorem x80_12 {sc : aSc} {d : Nat} {r : aRes} {L : List Value} {σ : aS} {x : Int32} : Rn sc d 80 12 L [.int x] σ r ↔ r = (σ, some (.int x)) := r_iret d80_12 rfl rfl
theorem d80_13 : decode (mC 80) 13 = .ok (.iload_n 2, 1) := by decide +kernel
theorem x80_13 {sc : aSc} {d : Nat} {r : aRes} {a0 : Value} {a1 : Value} {x2 : Int32} {st : List Value} {σ : aS} : Rn sc d 80 13 [a0, a1, .int x2] st σ r ↔ Rn sc d 80 14 [a0, a1, .int x2] (.int x2 :: st) σ r := r_iload_n d80_13 rfl
theorem d80_14 : decode (mC 80) 14 = .ok (.iconst 3, 1) := by decide +kernel
theorem x80_14 {sc : aSc} {d : Nat} {r : aRes} {L : List Value} {st : List Value} {σ : aS} : Rn sc d 80 14 L st σ r ↔ Rn sc d 80 15 L (.int 3 :: st) σ r := r_iconst d80_14 (by decide)
theorem d80_15 : decode (mC 80) 15 = .ok (.invokestatic 58, 3) := by decide +kernel
theorem x80_15 {sc : aSc} {d : Nat} {r : aRes} {L : List Value} {σ : aS} {y0 : Int32} {y1 : Int32}  : Rn sc d 80 15 L [.int y0, .int y1] σ r ↔ ∃ (σ3 : aS) (v : Option Value), Cl sc d 102 [.int y1, .int y0] σ (σ3, v) ∧ Rn sc d 80 18 L (v.toList ++ []) σ3 r := r_callS (vs := [.int y0, .int y1]) d80_15 rfl (j := 102) rfl ⟨rfl, by decide, rfl, rfl⟩ (Nat.le_of_ble_eq_true rfl)
theorem d80_18 : decode (mC 80) 18 = .ok (.ifCond .ne 6, 3) := by decide +kernel
theorem x80_18 {sc : aSc} {d : Nat} {r : aRes} {L : List Value} {st : List Value} {σ : aS} {x : Int32} : Rn sc d 80 18 L (.int x :: st) σ r ↔ if x = 0 then Rn sc d 80 21 L st σ r else Rn sc d 80 24 L st σ r := r_if_ne d80_18 rfl
theorem d80_21 : decode (mC 80) 21 = .ok (.bipush (-2), 2) := by decide +kernel
theorem x80_21 {sc : aSc} {d : Nat} {r : aRes} {L : List Value} {st : List Value} {σ : aS} : Rn sc d 80 21 L st σ r ↔ Rn sc d 80 23 L (.int (-2) :: st) σ r := r_bipush d80_21 (by decide)
theorem d80_23 : decode (mC 80) 23 = .ok (.ireturn, 1) := by decide +kernel
theorem x80_23 {sc : aSc} {d : Nat} {r : aRes} {L : List Value} {σ : aS} {x : Int32} : Rn sc d 80 23 L [.int x] σ r ↔ r = (σ, some (.int x)) := r_iret d80_23 rfl rfl
theorem d80_24 : decode (mC 80) 24 = .ok (.aload_n 0, 1) := by decide +kernel
theorem x80_24 {sc : aSc} {d : Nat} {r : aRes} {x0 : Nat} {a1 : Value} {a2 : Value} {st : List Value} {σ : aS} : Rn sc d 80 24 [.ref x0, a1, a2] st σ r ↔ Rn sc d 80 25 [.ref x0, a1, a2] (.ref x0 :: st) σ r := r_aload_n d80_24 rfl
theorem d80_25 : decode (mC 80) 25 = .ok (.getfield 27, 3) := by decide +kernel
theorem x80_25 {sc : aSc} {d : Nat} {r : aRes} {L : List Value} {st : List Value} {f : Nat → Nat → Int32} {g : Nat → Nat → Int64} {h1 h2 : Nat} {o : Nat} (hK : KK[o]? = some (.inl 6)) (hR : (RR h1 h2 o 6).isSome = true) : Rn sc d 80 25 L (.ref o :: st) (cS f g h1 h2) r ↔ Rn sc d 80 28 L (.ref (rf h1 h2 o 6) :: st) (cS f g h1 h2) r := r_getR2 d80_25 (ci := 6) (k := 6) rfl (by decide) (fun _ => rfl) hK hR
theorem d80_28 : decode (mC 80) 28 = .ok (.aload_n 0, 1) := by decide +kernel
theorem x80_28 {sc : aSc} {d : Nat} {r : aRes} {x0 : Nat} {a1 : Value} {a2 : Value} {st : List Value} {σ : aS} : Rn sc d 80 28 [.ref x0, a1, a2] st σ r ↔ Rn sc d 80 29 [.ref x0, a1, a2] (.ref x0 :: st) σ r := r_aload_n d80_28 rfl
theorem d80_29 : decode (mC 80) 29 = .ok (.getfield 50, 3) := by decide +kernel
theorem x80_29 {sc : aSc} {d : Nat} {r : aRes} {L : List Value} {st : List Value} {f : Nat → Nat → Int32} {g : Nat → Nat → Int64} {h1 h2 : Nat} {o : Nat} (hK : KK[o]? = some (.inl 6)) (hR : (RR h1 h2 o 0).isSome = true) : Rn sc d 80 29 L (.ref o :: st) (cS f g h1 h2) r ↔ Rn sc d 80 32 L (.ref (rf h1 h2 o 0) :: st) (cS f g h1 h2) r := r_getR2 d80_29 (ci := 6) (k := 0) rfl (by decide) (fun _ => rfl) hK hR
theorem d80_32 : decode (mC 80) 32 = .ok (.iload_n 1, 1) := by decide +kernel
theorem x80_32 {sc : aSc} {d : Nat} {r : aRes} {a0 : Value} {x1 : Int32} {a2 : Value} {st : List Value} {σ : aS} : Rn sc d 80 32 [a0, .int x1, a2] st σ r ↔ Rn sc d 80 33 [a0, .int x1, a2] (.int x1 :: st) σ r := r_iload_n d80_32 rfl
theorem d80_33 : decode (mC 80) 33 = .ok (.iload_n 2, 1) := by decide +kernel
theorem x80_33 {sc : aSc} {d : Nat} {r : aRes} {a0 : Value} {a1 : Value} {x2 : Int32} {st : List Value} {σ : aS} : Rn sc d 80 33 [a0, a1, .int x2] st σ r ↔ Rn sc d 80 34 [a0, a1, .int x2] (.int x2 :: st) σ r := r_iload_n d80_33 rfl
theorem d80_34 : decode (mC 80) 34 = .ok (.invokevirtual 178, 3) := by decide +kernel
theorem x80_34 {sc : aSc} {d : Nat} {r : aRes} {L : List Value} {f : Nat → Nat → Int32} {g : Nat → Nat → Int64} {h1 h2 : Nat} {y0 : Int32} {y1 : Int32} {y2 : Nat}  {o : Nat} (hK : KK[o]? = some (.inl 3)) : Rn sc d 80 34 L [.int y0, .int y1, .ref y2, .ref o] (cS f g h1 h2) r ↔ ∃ (σ3 : aS) (v : Option Value), Cl sc d 43 [.ref o, .ref y2, .int y1, .int y0] (cS f g h1 h2) (σ3, v) ∧ Rn sc d 80 37 L (v.toList ++ []) σ3 r := r_callV (vs := [.int y0, .int y1, .ref y2]) d80_34 (j := 43) rfl ⟨rfl, by decide, rfl, rfl⟩ (Nat.le_of_ble_eq_true rfl) hK
theorem d80_37 : decode (mC 80) 37 = .ok (.ifCond .eq 7, 3) := by decide +kernel
theorem x80_37 {sc : aSc} {d : Nat} {r : aRes} {L : List Value} {st : List Value} {σ : aS} {x : Int32} : Rn sc d 80 37 L (.int x :: st) σ r ↔ if x = 0 then Rn sc d 80 44 L st σ r else Rn sc d 80 40 L st σ r := r_if_eq d80_37 rfl
theorem d80_40 : decode (mC 80) 40 = .ok (.iconst 1, 1) := by decide +kernel
theorem x80_40 {sc : aSc} {d : Nat} {r : aRes} {L : List Value} {st : List Value} {σ : aS} : Rn sc d 80 40 L st σ r ↔ Rn sc d 80 41 L (.int 1 :: st) σ r := r_iconst d80_40 (by decide)
theorem d80_41 : decode (mC 80) 41 = .ok (.goto 4, 3) := by decide +kernel
theorem x80_41 {sc : aSc} {d : Nat} {r : aRes} {L : List Value} {st : List Value} {σ : aS} : Rn sc d 80 41 L st σ r ↔ Rn sc d 80 45 L st σ r := r_goto d80_41 rfl
theorem d80_44 : decode (mC 80) 44 = .ok (.iconst 0, 1) := by decide +kernel
theorem x80_44 {sc : aSc} {d : Nat} {r : aRes} {L : List Value} {st : List Value} {σ : aS} : Rn sc d 80 44 L st σ r ↔ Rn sc d 80 45 L (.int 0 :: st) σ r := r_iconst d80_44 (by decide)
theorem d80_45 : decode (mC 80) 45 = .ok (.ireturn, 1) := by decide +kernel
theorem x80_45 {sc : aSc} {d : Nat} {r : aRes} {L : List Value} {σ : aS} {x : Int32} : Rn sc d 80 45 L [.int x] σ r ↔ r = (σ, some (.int x)) := r_iret d80_45 rfl rfl
theorem d81_0 : decode (mC 81) 0 = .ok (.iload_n 1, 1) := by decide +kernel
theorem x81_0 {sc : aSc} {d : Nat} {r : aRes} {a0 : Value} {x1 : Int32} {a2 : Value} {st : List Value} {σ : aS} : Rn sc d 81 0 [a0, .int x1, a2] st σ r ↔ Rn sc d 81 1 [a0, .int x1, a2] (.int x1 :: st) σ r := r_iload_n d81_0 rfl
theorem d81_1 : decode (mC 81) 1 = .ok (.aload_n 0, 1) := by decide +kernel
theorem x81_1 {sc : aSc} {d : Nat} {r : aRes} {x0 : Nat} {a1 : Value} {a2 : Value} {st : List Value} {σ : aS} : Rn sc d 81 1 [.ref x0, a1, a2] st σ r ↔ Rn sc d 81 2 [.ref x0, a1, a2] (.ref x0 :: st) σ r := r_aload_n d81_1 rfl
theorem d81_2 : decode (mC 81) 2 = .ok (.getfield 50, 3) := by decide +kernel
theorem x81_2 {sc : aSc} {d : Nat} {r : aRes} {L : List Value} {st : List Value} {f : Nat → Nat → Int32} {g : Nat → Nat → Int64} {h1 h2 : Nat} {o : Nat} (hK : KK[o]? = some (.inl 6)) (hR : (RR h1 h2 o 0).isSome = true) : Rn sc d 81 2 L (.ref o :: st) (cS f g h1 h2) r ↔ Rn sc d 81 5 L (.ref (rf h1 h2 o 0) :: st) (cS f g h1 h2) r := r_getR2 d81_2 (ci := 6) (k := 0) rfl (by decide) (fun _ => rfl) hK hR
theorem d81_5 : decode (mC 81) 5 = .ok (.invokevirtual 132, 3) := by decide +kernel
theorem x81_5 {sc : aSc} {d : Nat} {r : aRes} {L : List Value} {f : Nat → Nat → Int32} {g : Nat → Nat → Int64} {h1 h2 : Nat}  {z0 : Int32} {o : Nat} (hK : KK[o]? = some (.inl 1)) : Rn sc d 81 5 L [.ref o, .int z0] (cS f g h1 h2) r ↔ ∃ (σ3 : aS) (v : Option Value), Cl sc d 8 [.ref o] (cS f g h1 h2) (σ3, v) ∧ Rn sc d 81 8 L (v.toList ++ [.int z0]) σ3 r := r_callV (vs := []) d81_5 (j := 8) rfl ⟨rfl, by decide, rfl, rfl⟩ (Nat.le_of_ble_eq_true rfl) hK
theorem d81_8 : decode (mC 81) 8 = .ok (.iconst (-1), 1) := by decide +kernel
theorem x81_8 {sc : aSc} {d : Nat} {r : aRes} {L : List Value} {st : List Value} {σ : aS} : Rn sc d 81 8 L st σ r ↔ Rn sc d 81 9 L (.int (-1) :: st) σ r := r_iconst d81_8 (by decide)
theorem d81_9 : decode (mC 81) 9 = .ok (.ixor, 1) := by decide +kernel
theorem x81_9 {sc : aSc} {d : Nat} {r : aRes} {L : List Value} {st : List Value} {σ : aS} {x y : Int32} : Rn sc d 81 9 L (.int y :: .int x :: st) σ r ↔ Rn sc d 81 10 L (.int (x ^^^ y) :: st) σ r := r_ixor d81_9
theorem d81_10 : decode (mC 81) 10 = .ok (.iand, 1) := by decide +kernel
theorem x81_10 {sc : aSc} {d : Nat} {r : aRes} {L : List Value} {st : List Value} {σ : aS} {x y : Int32} : Rn sc d 81 10 L (.int y :: .int x :: st) σ r ↔ Rn sc d 81 11 L (.int (x &&& y) :: st) σ r := r_iand d81_10
theorem d81_11 : decode (mC 81) 11 = .ok (.ifCond .eq 6, 3) := by decide +kernel
theorem x81_11 {sc : aSc} {d : Nat} {r : aRes} {L : List Value} {st : List Value} {σ : aS} {x : Int32} : Rn sc d 81 11 L (.int x :: st) σ r ↔ if x = 0 then Rn sc d 81 17 L st σ r else Rn sc d 81 14 L st σ r := r_if_eq d81_11 rfl
theorem d81_14 : decode (mC 81) 14 = .ok (.bipush (-2), 2) := by decide +kernel
theorem x81_14 {sc : aSc} {d : Nat} {r : aRes} {L : List Value} {st : List Value} {σ : aS} : Rn sc d 81 14 L st σ r ↔ Rn sc d 81 16 L (.int (-2) :: st) σ r := r_bipush d81_14 (by decide)
theorem d81_16 : decode (mC 81) 16 = .ok (.ireturn, 1) := by decide +kernel
theorem x81_16 {sc : aSc} {d : Nat} {r : aRes} {L : List Value} {σ : aS} {x : Int32} : Rn sc d 81 16 L [.int x] σ r ↔ r = (σ, some (.int x)) := r_iret d81_16 rfl rfl
theorem d81_17 : decode (mC 81) 17 = .ok (.aload_n 0, 1) := by decide +kernel
theorem x81_17 {sc : aSc} {d : Nat} {r : aRes} {x0 : Nat} {a1 : Value} {a2 : Value} {st : List Value} {σ : aS} : Rn sc d 81 17 [.ref x0, a1, a2] st σ r ↔ Rn sc d 81 18 [.ref x0, a1, a2] (.ref x0 :: st) σ r := r_aload_n d81_17 rfl
theorem d81_18 : decode (mC 81) 18 = .ok (.getfield 50, 3) := by decide +kernel
theorem x81_18 {sc : aSc} {d : Nat} {r : aRes} {L : List Value} {st : List Value} {f : Nat → Nat → Int32} {g : Nat → Nat → Int64} {h1 h2 : Nat} {o : Nat} (hK : KK[o]? = some (.inl 6)) (hR : (RR h1 h2 o 0).isSome = true) : Rn sc d 81 18 L (.ref o :: st) (cS f g h1 h2) r ↔ Rn sc d 81 21 L (.ref (rf h1 h2 o 0) :: st) (cS f g h1 h2) r := r_getR2 d81_18 (ci := 6) (k := 0) rfl (by decide) (fun _ => rfl) hK hR
theorem d81_21 : decode (mC 81) 21 = .ok (.getfield 182, 3) := by decide +kernel
theorem x81_21 {sc : aSc} {d : Nat} {r : aRes} {L : List Value} {st : List Value} {f : Nat → Nat → Int32} {g : Nat → Nat → Int64} {h1 h2 : Nat} {o : Nat} (h17 : 17 ≤ o) (hK : KK[o]? = some (.inl 1)) : Rn sc d 81 21 L (.ref o :: st) (cS f g h1 h2) r ↔ Rn sc d 81 24 L (.int (f o 3) :: st) (cS f g h1 h2) r := r_getI d81_21 (ci := 1) (k := 3) rfl (by decide) (fun _ => rfl) h17 hK
theorem d81_24 : decode (mC 81) 24 = .ok (.istore_n 2, 1) := by decide +kernel
theorem x81_24 {sc : aSc} {d : Nat} {r : aRes} {a0 : Value} {x1 : Int32} {a2 : Value} {st : List Value} {σ : aS} {y : Int32} : Rn sc d 81 24 [a0, .int x1, a2] (.int y :: st) σ r ↔ Rn sc d 81 25 [a0, .int x1, .int y] st σ r := r_istore_n d81_24 (Nat.le_of_ble_eq_true rfl) rfl
theorem d81_25 : decode (mC 81) 25 = .ok (.aload_n 0, 1) := by decide +kernel
theorem x81_25 {sc : aSc} {d : Nat} {r : aRes} {x0 : Nat} {a1 : Value} {a2 : Value} {st : List Value} {σ : aS} : Rn sc d 81 25 [.ref x0, a1, a2] st σ r ↔ Rn sc d 81 26 [.ref x0, a1, a2] (.ref x0 :: st) σ r := r_aload_n d81_25 rfl
theorem d81_26 : decode (mC 81) 26 = .ok (.getfield 50, 3) := by decide +kernel
theorem x81_26 {sc : aSc} {d : Nat} {r : aRes} {L : List Value} {st : List Value} {f : Nat → Nat → Int32} {g : Nat → Nat → Int64} {h1 h2 : Nat} {o : Nat} (hK : KK[o]? = some (.inl 6)) (hR : (RR h1 h2 o 0).isSome = true) : Rn sc d 81 26 L (.ref o :: st) (cS f g h1 h2) r ↔ Rn sc d 81 29 L (.ref (rf h1 h2 o 0) :: st) (cS f g h1 h2) r := r_getR2 d81_26 (ci := 6) (k := 0) rfl (by decide) (fun _ => rfl) hK hR
theorem d81_29 : decode (mC 81) 29 = .ok (.iload_n 1, 1) := by decide +kernel
theorem x81_29 {sc : aSc} {d : Nat} {r : aRes} {a0 : Value} {x1 : Int32} {a2 : Value} {st : List Value} {σ : aS} : Rn sc d 81 29 [a0, .int x1, a2] st σ r ↔ Rn sc d 81 30 [a0, .int x1, a2] (.int x1 :: st) σ r := r_iload_n d81_29 rfl
theorem d81_30 : decode (mC 81) 30 = .ok (.putfield 182, 3) := by decide +kernel
theorem x81_30 {sc : aSc} {d : Nat} {r : aRes} {L : List Value} {st : List Value} {f : Nat → Nat → Int32} {g : Nat → Nat → Int64} {h1 h2 : Nat} {o : Nat} {v : Int32} (h17 : 17 ≤ o) (hK : KK[o]? = some (.inl 1)) : Rn sc d 81 30 L (.int v :: .ref o :: st) (cS f g h1 h2) r ↔ Rn sc d 81 33 L st (cS (u2 f o 3 v) g h1 h2) r := r_putI d81_30 (ci := 1) (k := 3) rfl (by decide) h17 hK
theorem d81_33 : decode (mC 81) 33 = .ok (.iload_n 2, 1) := by decide +kernel
theorem x81_33 {sc : aSc} {d : Nat} {r : aRes} {a0 : Value} {a1 : Value} {x2 : Int32} {st : List Value} {σ : aS} : Rn sc d 81 33 [a0, a1, .int x2] st σ r ↔ Rn sc d 81 34 [a0, a1, .int x2] (.int x2 :: st) σ r := r_iload_n d81_33 rfl
theorem d81_34 : decode (mC 81) 34 = .ok (.ireturn, 1) := by decide +kernel
theorem x81_34 {sc : aSc} {d : Nat} {r : aRes} {L : List Value} {σ : aS} {x : Int32} : Rn sc d 81 34 L [.int x] σ r ↔ r = (σ, some (.int x)) := r_iret d81_34 rfl rfl
theorem d82_0 : decode (mC 82) 0 = .ok (.iload_n 2, 1) := by decide +kernel
theorem x82_0 {sc : aSc} {d : Nat} {r : aRes} {a0 : Value} {a1 : Value} {x2 : Int32} {st : List Value} {σ : aS} : Rn sc d 82 0 [a0, a1, .int x2] st σ r ↔ Rn sc d 82 1 [a0, a1, .int x2] (.int x2 :: st) σ r := r_iload_n d82_0 rfl
theorem d82_1 : decode (mC 82) 1 = .ok (.iconst 1, 1) := by decide +kernel
theorem x82_1 {sc : aSc} {d : Nat} {r : aRes} {L : List Value} {st : List Value} {σ : aS} : Rn sc d 82 1 L st σ r ↔ Rn sc d 82 2 L (.int 1 :: st) σ r := r_iconst d82_1 (by decide)
theorem d82_2 : decode (mC 82) 2 = .ok (.invokestatic 58, 3) := by decide +kernel
theorem x82_2 {sc : aSc} {d : Nat} {r : aRes} {L : List Value} {σ : aS} {y0 : Int32} {y1 : Int32}  : Rn sc d 82 2 L [.int y0, .int y1] σ r ↔ ∃ (σ3 : aS) (v : Option Value), Cl sc d 102 [.int y1, .int y0] σ (σ3, v) ∧ Rn sc d 82 5 L (v.toList ++ []) σ3 r := r_callS (vs := [.int y0, .int y1]) d82_2 rfl (j := 102) rfl ⟨rfl, by decide, rfl, rfl⟩ (Nat.le_of_ble_eq_true rfl)
theorem d82_5 : decode (mC 82) 5 = .ok (.ifCond .ne 5, 3) := by decide +kernel
theorem x82_5 {sc : aSc} {d : Nat} {r : aRes} {L : List Value} {st : List Value} {σ : aS} {x : Int32} : Rn sc d 82 5 L (.int x :: st) σ r ↔ if x = 0 then Rn sc d 82 8 L st σ r else Rn sc d 82 10 L st σ r := r_if_ne d82_5 rfl
theorem d82_8 : decode (mC 82) 8 = .ok (.iconst (-1), 1) := by decide +kernel
theorem x82_8 {sc : aSc} {d : Nat} {r : aRes} {L : List Value} {st : List Value} {σ : aS} : Rn sc d 82 8 L st σ r ↔ Rn sc d 82 9 L (.int (-1) :: st) σ r := r_iconst d82_8 (by decide)
theorem d82_9 : decode (mC 82) 9 = .ok (.ireturn, 1) := by decide +kernel
theorem x82_9 {sc : aSc} {d : Nat} {r : aRes} {L : List Value} {σ : aS} {x : Int32} : Rn sc d 82 9 L [.int x] σ r ↔ r = (σ, some (.int x)) := r_iret d82_9 rfl rfl
theorem d82_10 : decode (mC 82) 10 = .ok (.iload_n 1, 1) := by decide +kernel
theorem x82_10 {sc : aSc} {d : Nat} {r : aRes} {a0 : Value} {x1 : Int32} {a2 : Value} {st : List Value} {σ : aS} : Rn sc d 82 10 [a0, .int x1, a2] st σ r ↔ Rn sc d 82 11 [a0, .int x1, a2] (.int x1 :: st) σ r := r_iload_n d82_10 rfl
theorem d82_11 : decode (mC 82) 11 = .ok (.iconst 3, 1) := by decide +kernel
theorem x82_11 {sc : aSc} {d : Nat} {r : aRes} {L : List Value} {st : List Value} {σ : aS} : Rn sc d 82 11 L st σ r ↔ Rn sc d 82 12 L (.int 3 :: st) σ r := r_iconst d82_11 (by decide)
theorem d82_12 : decode (mC 82) 12 = .ok (.invokestatic 58, 3) := by decide +kernel
theorem x82_12 {sc : aSc} {d : Nat} {r : aRes} {L : List Value} {σ : aS} {y0 : Int32} {y1 : Int32}  : Rn sc d 82 12 L [.int y0, .int y1] σ r ↔ ∃ (σ3 : aS) (v : Option Value), Cl sc d 102 [.int y1, .int y0] σ (σ3, v) ∧ Rn sc d 82 15 L (v.toList ++ []) σ3 r := r_callS (vs := [.int y0, .int y1]) d82_12 rfl (j := 102) rfl ⟨rfl, by decide, rfl, rfl⟩ (Nat.le_of_ble_eq_true rfl)
theorem d82_15 : decode (mC 82) 15 = .ok (.ifCond .ne 6, 3) := by decide +kernel
theorem x82_15 {sc : aSc} {d : Nat} {r : aRes} {L : List Value} {st : List Value} {σ : aS} {x : Int32} : Rn sc d 82 15 L (.int x :: st) σ r ↔ if x = 0 then Rn sc d 82 18 L st σ r else Rn sc d 82 21 L st σ r := r_if_ne d82_15 rfl
theorem d82_18 : decode (mC 82) 18 = .ok (.bipush (-2), 2) := by decide +kernel
theorem x82_18 {sc : aSc} {d : Nat} {r : aRes} {L : List Value} {st : List Value} {σ : aS} : Rn sc d 82 18 L st σ r ↔ Rn sc d 82 20 L (.int (-2) :: st) σ r := r_bipush d82_18 (by decide)
theorem d82_20 : decode (mC 82) 20 = .ok (.ireturn, 1) := by decide +kernel
theorem x82_20 {sc : aSc} {d : Nat} {r : aRes} {L : List Value} {σ : aS} {x : Int32} : Rn sc d 82 20 L [.int x] σ r ↔ r = (σ, some (.int x)) := r_iret d82_20 rfl rfl
theorem d82_21 : decode (mC 82) 21 = .ok (.aload_n 0, 1) := by decide +kernel
theorem x82_21 {sc : aSc} {d : Nat} {r : aRes} {x0 : Nat} {a1 : Value} {a2 : Value} {st : List Value} {σ : aS} : Rn sc d 82 21 [.ref x0, a1, a2] st σ r ↔ Rn sc d 82 22 [.ref x0, a1, a2] (.ref x0 :: st) σ r := r_aload_n d82_21 rfl
theorem d82_22 : decode (mC 82) 22 = .ok (.getfield 27, 3) := by decide +kernel
theorem x82_22 {sc : aSc} {d : Nat} {r : aRes} {L : List Value} {st : List Value} {f : Nat → Nat → Int32} {g : Nat → Nat → Int64} {h1 h2 : Nat} {o : Nat} (hK : KK[o]? = some (.inl 6)) (hR : (RR h1 h2 o 6).isSome = true) : Rn sc d 82 22 L (.ref o :: st) (cS f g h1 h2) r ↔ Rn sc d 82 25 L (.ref (rf h1 h2 o 6) :: st) (cS f g h1 h2) r := r_getR2 d82_22 (ci := 6) (k := 6) rfl (by decide) (fun _ => rfl) hK hR
theorem d82_25 : decode (mC 82) 25 = .ok (.aload_n 0, 1) := by decide +kernel
theorem x82_25 {sc : aSc} {d : Nat} {r : aRes} {x0 : Nat} {a1 : Value} {a2 : Value} {st : List Value} {σ : aS} : Rn sc d 82 25 [.ref x0, a1, a2] st σ r ↔ Rn sc d 82 26 [.ref x0, a1, a2] (.ref x0 :: st) σ r := r_aload_n d82_25 rfl
theorem d82_26 : decode (mC 82) 26 = .ok (.getfield 50, 3) := by decide +kernel
theorem x82_26 {sc : aSc} {d : Nat} {r : aRes} {L : List Value} {st : List Value} {f : Nat → Nat → Int32} {g : Nat → Nat → Int64} {h1 h2 : Nat} {o : Nat} (hK : KK[o]? = some (.inl 6)) (hR : (RR h1 h2 o 0).isSome = true) : Rn sc d 82 26 L (.ref o :: st) (cS f g h1 h2) r ↔ Rn sc d 82 29 L (.ref (rf h1 h2 o 0) :: st) (cS f g h1 h2) r := r_getR2 d82_26 (ci := 6) (k := 0) rfl (by decide) (fun _ => rfl) hK hR
theorem d82_29 : decode (mC 82) 29 = .ok (.iload_n 1, 1) := by decide +kernel
theorem x82_29 {sc : aSc} {d : Nat} {r : aRes} {a0 : Value} {x1 : Int32} {a2 : Value} {st : List Value} {σ : aS} : Rn sc d 82 29 [a0, .int x1, a2] st σ r ↔ Rn sc d 82 30 [a0, .int x1, a2] (.int x1 :: st) σ r := r_iload_n d82_29 rfl
theorem d82_30 : decode (mC 82) 30 = .ok (.invokevirtual 185, 3) := by decide +kernel
theorem x82_30 {sc : aSc} {d : Nat} {r : aRes} {L : List Value} {f : Nat → Nat → Int32} {g : Nat → Nat → Int64} {h1 h2 : Nat} {y0 : Int32} {y1 : Nat}  {o : Nat} (hK : KK[o]? = some (.inl 3)) : Rn sc d 82 30 L [.int y0, .ref y1, .ref o] (cS f g h1 h2) r ↔ ∃ (σ3 : aS) (v : Option Value), Cl sc d 44 [.ref o, .ref y1, .int y0] (cS f g h1 h2) (σ3, v) ∧ Rn sc d 82 33 L (v.toList ++ []) σ3 r := r_callV (vs := [.int y0, .ref y1]) d82_30 (j := 44) rfl ⟨rfl, by decide, rfl, rfl⟩ (Nat.le_of_ble_eq_true rfl) hK
theorem d82_33 : decode (mC 82) 33 = .ok (.iload_n 2, 1) := by decide +kernel
theorem x82_33 {sc : aSc} {d : Nat} {r : aRes} {a0 : Value} {a1 : Value} {x2 : Int32} {st : List Value} {σ : aS} : Rn sc d 82 33 [a0, a1, .int x2] st σ r ↔ Rn sc d 82 34 [a0, a1, .int x2] (.int x2 :: st) σ r := r_iload_n d82_33 rfl
theorem d82_34 : decode (mC 82) 34 = .ok (.ifCond .ne 21, 3) := by decide +kernel
theorem x82_34 {sc : aSc} {d : Nat} {r : aRes} {L : List Value} {st : List Value} {σ : aS} {x : Int32} : Rn sc d 82 34 L (.int x :: st) σ r ↔ if x = 0 then Rn sc d 82 37 L st σ r else Rn sc d 82 55 L st σ r := r_if_ne d82_34 rfl
theorem d82_37 : decode (mC 82) 37 = .ok (.aload_n 0, 1) := by decide +kernel
theorem x82_37 {sc : aSc} {d : Nat} {r : aRes} {x0 : Nat} {a1 : Value} {a2 : Value} {st : List Value} {σ : aS} : Rn sc d 82 37 [.ref x0, a1, a2] st σ r ↔ Rn sc d 82 38 [.ref x0, a1, a2] (.ref x0 :: st) σ r := r_aload_n d82_37 rfl
theorem d82_38 : decode (mC 82) 38 = .ok (.getfield 27, 3) := by decide +kernel
theorem x82_38 {sc : aSc} {d : Nat} {r : aRes} {L : List Value} {st : List Value} {f : Nat → Nat → Int32} {g : Nat → Nat → Int64} {h1 h2 : Nat} {o : Nat} (hK : KK[o]? = some (.inl 6)) (hR : (RR h1 h2 o 6).isSome = true) : Rn sc d 82 38 L (.ref o :: st) (cS f g h1 h2) r ↔ Rn sc d 82 41 L (.ref (rf h1 h2 o 6) :: st) (cS f g h1 h2) r := r_getR2 d82_38 (ci := 6) (k := 6) rfl (by decide) (fun _ => rfl) hK hR
theorem d82_41 : decode (mC 82) 41 = .ok (.getfield 189, 3) := by decide +kernel
theorem x82_41 {sc : aSc} {d : Nat} {r : aRes} {L : List Value} {st : List Value} {f : Nat → Nat → Int32} {g : Nat → Nat → Int64} {h1 h2 : Nat} {o : Nat} (hK : KK[o]? = some (.inl 3)) (hR : (RR h1 h2 o 2).isSome = true) : Rn sc d 82 41 L (.ref o :: st) (cS f g h1 h2) r ↔ Rn sc d 82 44 L (.ref (rf h1 h2 o 2) :: st) (cS f g h1 h2) r := r_getR2 d82_41 (ci := 3) (k := 2) rfl (by decide) (fun _ => rfl) hK hR
theorem d82_44 : decode (mC 82) 44 = .ok (.iconst 0, 1) := by decide +kernel
theorem x82_44 {sc : aSc} {d : Nat} {r : aRes} {L : List Value} {st : List Value} {σ : aS} : Rn sc d 82 44 L st σ r ↔ Rn sc d 82 45 L (.int 0 :: st) σ r := r_iconst d82_44 (by decide)
theorem d82_45 : decode (mC 82) 45 = .ok (.aaload, 1) := by decide +kernel
theorem x82_45 {sc : aSc} {d : Nat} {r : aRes} {L : List Value} {st : List Value} {f : Nat → Nat → Int32} {g : Nat → Nat → Int64} {h1 h2 : Nat} {a : Nat} {i : Int32} (h17 : 17 ≤ a) (hA : isG a) (hi : inb i (aln a) = true) (hR : (RR h1 h2 a i.toNatClampNeg).isSome = true) : Rn sc d 82 45 L (.int i :: .ref a :: st) (cS f g h1 h2) r ↔ Rn sc d 82 46 L (.ref (rf h1 h2 a i.toNatClampNeg) :: st) (cS f g h1 h2) r := r_aald2 d82_45 h17 hA hi hR
theorem d82_46 : decode (mC 82) 46 = .ok (.aload_n 0, 1) := by decide +kernel
theorem x82_46 {sc : aSc} {d : Nat} {r : aRes} {x0 : Nat} {a1 : Value} {a2 : Value} {st : List Value} {σ : aS} : Rn sc d 82 46 [.ref x0, a1, a2] st σ r ↔ Rn sc d 82 47 [.ref x0, a1, a2] (.ref x0 :: st) σ r := r_aload_n d82_46 rfl
theorem d82_47 : decode (mC 82) 47 = .ok (.getfield 50, 3) := by decide +kernel
theorem x82_47 {sc : aSc} {d : Nat} {r : aRes} {L : List Value} {st : List Value} {f : Nat → Nat → Int32} {g : Nat → Nat → Int64} {h1 h2 : Nat} {o : Nat} (hK : KK[o]? = some (.inl 6)) (hR : (RR h1 h2 o 0).isSome = true) : Rn sc d 82 47 L (.ref o :: st) (cS f g h1 h2) r ↔ Rn sc d 82 50 L (.ref (rf h1 h2 o 0) :: st) (cS f g h1 h2) r := r_getR2 d82_47 (ci := 6) (k := 0) rfl (by decide) (fun _ => rfl) hK hR
theorem d82_50 : decode (mC 82) 50 = .ok (.getfield 129, 3) := by decide +kernel
theorem x82_50 {sc : aSc} {d : Nat} {r : aRes} {L : List Value} {st : List Value} {f : Nat → Nat → Int32} {g : Nat → Nat → Int64} {h1 h2 : Nat} {o : Nat} (h17 : 17 ≤ o) (hK : KK[o]? = some (.inl 1)) : Rn sc d 82 50 L (.ref o :: st) (cS f g h1 h2) r ↔ Rn sc d 82 53 L (.int (f o 4) :: st) (cS f g h1 h2) r := r_getI d82_50 (ci := 1) (k := 4) rfl (by decide) (fun _ => rfl) h17 hK
theorem d82_53 : decode (mC 82) 53 = .ok (.iaload, 1) := by decide +kernel
theorem x82_53 {sc : aSc} {d : Nat} {r : aRes} {L : List Value} {st : List Value} {f : Nat → Nat → Int32} {g : Nat → Nat → Int64} {h1 h2 : Nat} {a : Nat} {i : Int32} (h17 : 17 ≤ a) (hA : isT9 .int a) (hi : inb i (aln a) = true) : Rn sc d 82 53 L (.int i :: .ref a :: st) (cS f g h1 h2) r ↔ Rn sc d 82 54 L (.int (f a i.toNatClampNeg) :: st) (cS f g h1 h2) r := r_iald d82_53 h17 hA hi
theorem d82_54 : decode (mC 82) 54 = .ok (.ireturn, 1) := by decide +kernel
theorem x82_54 {sc : aSc} {d : Nat} {r : aRes} {L : List Value} {σ : aS} {x : Int32} : Rn sc d 82 54 L [.int x] σ r ↔ r = (σ, some (.int x)) := r_iret d82_54 rfl rfl
theorem d82_55 : decode (mC 82) 55 = .ok (.aload_n 0, 1) := by decide +kernel
theorem x82_55 {sc : aSc} {d : Nat} {r : aRes} {x0 : Nat} {a1 : Value} {a2 : Value} {st : List Value} {σ : aS} : Rn sc d 82 55 [.ref x0, a1, a2] st σ r ↔ Rn sc d 82 56 [.ref x0, a1, a2] (.ref x0 :: st) σ r := r_aload_n d82_55 rfl
theorem d82_56 : decode (mC 82) 56 = .ok (.getfield 27, 3) := by decide +kernel
theorem x82_56 {sc : aSc} {d : Nat} {r : aRes} {L : List Value} {st : List Value} {f : Nat → Nat → Int32} {g : Nat → Nat → Int64} {h1 h2 : Nat} {o : Nat} (hK : KK[o]? = some (.inl 6)) (hR : (RR h1 h2 o 6).isSome = true) : Rn sc d 82 56 L (.ref o :: st) (cS f g h1 h2) r ↔ Rn sc d 82 59 L (.ref (rf h1 h2 o 6) :: st) (cS f g h1 h2) r := r_getR2 d82_56 (ci := 6) (k := 6) rfl (by decide) (fun _ => rfl) hK hR
theorem d82_59 : decode (mC 82) 59 = .ok (.aload_n 0, 1) := by decide +kernel
theorem x82_59 {sc : aSc} {d : Nat} {r : aRes} {x0 : Nat} {a1 : Value} {a2 : Value} {st : List Value} {σ : aS} : Rn sc d 82 59 [.ref x0, a1, a2] st σ r ↔ Rn sc d 82 60 [.ref x0, a1, a2] (.ref x0 :: st) σ r := r_aload_n d82_59 rfl
theorem d82_60 : decode (mC 82) 60 = .ok (.getfield 50, 3) := by decide +kernel
theorem x82_60 {sc : aSc} {d : Nat} {r : aRes} {L : List Value} {st : List Value} {f : Nat → Nat → Int32} {g : Nat → Nat → Int64} {h1 h2 : Nat} {o : Nat} (hK : KK[o]? = some (.inl 6)) (hR : (RR h1 h2 o 0).isSome = true) : Rn sc d 82 60 L (.ref o :: st) (cS f g h1 h2) r ↔ Rn sc d 82 63 L (.ref (rf h1 h2 o 0) :: st) (cS f g h1 h2) r := r_getR2 d82_60 (ci := 6) (k := 0) rfl (by decide) (fun _ => rfl) hK hR
theorem d82_63 : decode (mC 82) 63 = .ok (.iload_n 1, 1) := by decide +kernel
theorem x82_63 {sc : aSc} {d : Nat} {r : aRes} {a0 : Value} {x1 : Int32} {a2 : Value} {st : List Value} {σ : aS} : Rn sc d 82 63 [a0, .int x1, a2] st σ r ↔ Rn sc d 82 64 [a0, .int x1, a2] (.int x1 :: st) σ r := r_iload_n d82_63 rfl
theorem d82_64 : decode (mC 82) 64 = .ok (.invokevirtual 192, 3) := by decide +kernel
theorem x82_64 {sc : aSc} {d : Nat} {r : aRes} {L : List Value} {f : Nat → Nat → Int32} {g : Nat → Nat → Int64} {h1 h2 : Nat} {y0 : Int32} {y1 : Nat}  {o : Nat} (hK : KK[o]? = some (.inl 3)) : Rn sc d 82 64 L [.int y0, .ref y1, .ref o] (cS f g h1 h2) r ↔ ∃ (σ3 : aS) (v : Option Value), Cl sc d 46 [.ref o, .ref y1, .int y0] (cS f g h1 h2) (σ3, v) ∧ Rn sc d 82 67 L (v.toList ++ []) σ3 r := r_callV (vs := [.int y0, .ref y1]) d82_64 (j := 46) rfl ⟨rfl, by decide, rfl, rfl⟩ (Nat.le_of_ble_eq_true rfl) hK
theorem d82_67 : decode (mC 82) 67 = .ok (.ireturn, 1) := by decide +kernel
theorem x82_67 {sc : aSc} {d : Nat} {r : aRes} {L : List Value} {σ : aS} {x : Int32} : Rn sc d 82 67 L [.int x] σ r ↔ r = (σ, some (.int x)) := r_iret d82_67 rfl rfl
theorem d83_0 : decode (mC 83) 0 = .ok (.iload_n 1, 1) := by decide +kernel
theorem x83_0 {sc : aSc} {d : Nat} {r : aRes} {a0 : Value} {x1 : Int32} {st : List Value} {σ : aS} : Rn sc d 83 0 [a0, .int x1] st σ r ↔ Rn sc d 83 1 [a0, .int x1] (.int x1 :: st) σ r := r_iload_n d83_0 rfl
theorem d83_1 : decode (mC 83) 1 = .ok (.iconst 1, 1) := by decide +kernel
theorem x83_1 {sc : aSc} {d : Nat} {r : aRes} {L : List Value} {st : List Value} {σ : aS} : Rn sc d 83 1 L st σ r ↔ Rn sc d 83 2 L (.int 1 :: st) σ r := r_iconst d83_1 (by decide)
theorem d83_2 : decode (mC 83) 2 = .ok (.invokestatic 58, 3) := by decide +kernel
theorem x83_2 {sc : aSc} {d : Nat} {r : aRes} {L : List Value} {σ : aS} {y0 : Int32} {y1 : Int32}  : Rn sc d 83 2 L [.int y0, .int y1] σ r ↔ ∃ (σ3 : aS) (v : Option Value), Cl sc d 102 [.int y1, .int y0] σ (σ3, v) ∧ Rn sc d 83 5 L (v.toList ++ []) σ3 r := r_callS (vs := [.int y0, .int y1]) d83_2 rfl (j := 102) rfl ⟨rfl, by decide, rfl, rfl⟩ (Nat.le_of_ble_eq_true rfl)
theorem d83_5 : decode (mC 83) 5 = .ok (.ifCond .ne 7, 3) := by decide +kernel
theorem x83_5 {sc : aSc} {d : Nat} {r : aRes} {L : List Value} {st : List Value} {σ : aS} {x : Int32} : Rn sc d 83 5 L (.int x :: st) σ r ↔ if x = 0 then Rn sc d 83 8 L st σ r else Rn sc d 83 12 L st σ r := r_if_ne d83_5 rfl
theorem d83_8 : decode (mC 83) 8 = .ok (.sipush (-1002), 3) := by decide +kernel
theorem x83_8 {sc : aSc} {d : Nat} {r : aRes} {L : List Value} {st : List Value} {σ : aS} : Rn sc d 83 8 L st σ r ↔ Rn sc d 83 11 L (.int (-1002) :: st) σ r := r_sipush d83_8 (by decide)
theorem d83_11 : decode (mC 83) 11 = .ok (.ireturn, 1) := by decide +kernel
theorem x83_11 {sc : aSc} {d : Nat} {r : aRes} {L : List Value} {σ : aS} {x : Int32} : Rn sc d 83 11 L [.int x] σ r ↔ r = (σ, some (.int x)) := r_iret d83_11 rfl rfl
theorem d83_12 : decode (mC 83) 12 = .ok (.iload_n 1, 1) := by decide +kernel
theorem x83_12 {sc : aSc} {d : Nat} {r : aRes} {a0 : Value} {x1 : Int32} {st : List Value} {σ : aS} : Rn sc d 83 12 [a0, .int x1] st σ r ↔ Rn sc d 83 13 [a0, .int x1] (.int x1 :: st) σ r := r_iload_n d83_12 rfl
theorem d83_13 : decode (mC 83) 13 = .ok (.ifCond .ne 17, 3) := by decide +kernel
theorem x83_13 {sc : aSc} {d : Nat} {r : aRes} {L : List Value} {st : List Value} {σ : aS} {x : Int32} : Rn sc d 83 13 L (.int x :: st) σ r ↔ if x = 0 then Rn sc d 83 16 L st σ r else Rn sc d 83 30 L st σ r := r_if_ne d83_13 rfl
theorem d83_16 : decode (mC 83) 16 = .ok (.aload_n 0, 1) := by decide +kernel
theorem x83_16 {sc : aSc} {d : Nat} {r : aRes} {x0 : Nat} {a1 : Value} {st : List Value} {σ : aS} : Rn sc d 83 16 [.ref x0, a1] st σ r ↔ Rn sc d 83 17 [.ref x0, a1] (.ref x0 :: st) σ r := r_aload_n d83_16 rfl
theorem d83_17 : decode (mC 83) 17 = .ok (.getfield 27, 3) := by decide +kernel
theorem x83_17 {sc : aSc} {d : Nat} {r : aRes} {L : List Value} {st : List Value} {f : Nat → Nat → Int32} {g : Nat → Nat → Int64} {h1 h2 : Nat} {o : Nat} (hK : KK[o]? = some (.inl 6)) (hR : (RR h1 h2 o 6).isSome = true) : Rn sc d 83 17 L (.ref o :: st) (cS f g h1 h2) r ↔ Rn sc d 83 20 L (.ref (rf h1 h2 o 6) :: st) (cS f g h1 h2) r := r_getR2 d83_17 (ci := 6) (k := 6) rfl (by decide) (fun _ => rfl) hK hR
theorem d83_20 : decode (mC 83) 20 = .ok (.aload_n 0, 1) := by decide +kernel
theorem x83_20 {sc : aSc} {d : Nat} {r : aRes} {x0 : Nat} {a1 : Value} {st : List Value} {σ : aS} : Rn sc d 83 20 [.ref x0, a1] st σ r ↔ Rn sc d 83 21 [.ref x0, a1] (.ref x0 :: st) σ r := r_aload_n d83_20 rfl
theorem d83_21 : decode (mC 83) 21 = .ok (.getfield 50, 3) := by decide +kernel
theorem x83_21 {sc : aSc} {d : Nat} {r : aRes} {L : List Value} {st : List Value} {f : Nat → Nat → Int32} {g : Nat → Nat → Int64} {h1 h2 : Nat} {o : Nat} (hK : KK[o]? = some (.inl 6)) (hR : (RR h1 h2 o 0).isSome = true) : Rn sc d 83 21 L (.ref o :: st) (cS f g h1 h2) r ↔ Rn sc d 83 24 L (.ref (rf h1 h2 o 0) :: st) (cS f g h1 h2) r := r_getR2 d83_21 (ci := 6) (k := 0) rfl (by decide) (fun _ => rfl) hK hR
theorem d83_24 : decode (mC 83) 24 = .ok (.invokevirtual 196, 3) := by decide +kernel
theorem x83_24 {sc : aSc} {d : Nat} {r : aRes} {L : List Value} {f : Nat → Nat → Int32} {g : Nat → Nat → Int64} {h1 h2 : Nat} {y0 : Nat}  {o : Nat} (hK : KK[o]? = some (.inl 3)) : Rn sc d 83 24 L [.ref y0, .ref o] (cS f g h1 h2) r ↔ ∃ (σ3 : aS) (v : Option Value), Cl sc d 47 [.ref o, .ref y0] (cS f g h1 h2) (σ3, v) ∧ Rn sc d 83 27 L (v.toList ++ []) σ3 r := r_callV (vs := [.ref y0]) d83_24 (j := 47) rfl ⟨rfl, by decide, rfl, rfl⟩ (Nat.le_of_ble_eq_true rfl) hK
theorem d83_27 : decode (mC 83) 27 = .ok (.goto 14, 3) := by decide +kernel
theorem x83_27 {sc : aSc} {d : Nat} {r : aRes} {L : List Value} {st : List Value} {σ : aS} : Rn sc d 83 27 L st σ r ↔ Rn sc d 83 41 L st σ r := r_goto d83_27 rfl
theorem d83_30 : decode (mC 83) 30 = .ok (.aload_n 0, 1) := by decide +kernel
theorem x83_30 {sc : aSc} {d : Nat} {r : aRes} {x0 : Nat} {a1 : Value} {st : List Value} {σ : aS} : Rn sc d 83 30 [.ref x0, a1] st σ r ↔ Rn sc d 83 31 [.ref x0, a1] (.ref x0 :: st) σ r := r_aload_n d83_30 rfl
theorem d83_31 : decode (mC 83) 31 = .ok (.getfield 27, 3) := by decide +kernel
theorem x83_31 {sc : aSc} {d : Nat} {r : aRes} {L : List Value} {st : List Value} {f : Nat → Nat → Int32} {g : Nat → Nat → Int64} {h1 h2 : Nat} {o : Nat} (hK : KK[o]? = some (.inl 6)) (hR : (RR h1 h2 o 6).isSome = true) : Rn sc d 83 31 L (.ref o :: st) (cS f g h1 h2) r ↔ Rn sc d 83 34 L (.ref (rf h1 h2 o 6) :: st) (cS f g h1 h2) r := r_getR2 d83_31 (ci := 6) (k := 6) rfl (by decide) (fun _ => rfl) hK hR
theorem d83_34 : decode (mC 83) 34 = .ok (.aload_n 0, 1) := by decide +kernel
theorem x83_34 {sc : aSc} {d : Nat} {r : aRes} {x0 : Nat} {a1 : Value} {st : List Value} {σ : aS} : Rn sc d 83 34 [.ref x0, a1] st σ r ↔ Rn sc d 83 35 [.ref x0, a1] (.ref x0 :: st) σ r := r_aload_n d83_34 rfl
theorem d83_35 : decode (mC 83) 35 = .ok (.getfield 50, 3) := by decide +kernel
theorem x83_35 {sc : aSc} {d : Nat} {r : aRes} {L : List Value} {st : List Value} {f : Nat → Nat → Int32} {g : Nat → Nat → Int64} {h1 h2 : Nat} {o : Nat} (hK : KK[o]? = some (.inl 6)) (hR : (RR h1 h2 o 0).isSome = true) : Rn sc d 83 35 L (.ref o :: st) (cS f g h1 h2) r ↔ Rn sc d 83 38 L (.ref (rf h1 h2 o 0) :: st) (cS f g h1 h2) r := r_getR2 d83_35 (ci := 6) (k := 0) rfl (by decide) (fun _ => rfl) hK hR
theorem d83_38 : decode (mC 83) 38 = .ok (.invokevirtual 200, 3) := by decide +kernel
theorem x83_38 {sc : aSc} {d : Nat} {r : aRes} {L : List Value} {f : Nat → Nat → Int32} {g : Nat → Nat → Int64} {h1 h2 : Nat} {y0 : Nat}  {o : Nat} (hK : KK[o]? = some (.inl 3)) : Rn sc d 83 38 L [.ref y0, .ref o] (cS f g h1 h2) r ↔ ∃ (σ3 : aS) (v : Option Value), Cl sc d 48 [.ref o, .ref y0] (cS f g h1 h2) (σ3, v) ∧ Rn sc d 83 41 L (v.toList ++ []) σ3 r := r_callV (vs := [.ref y0]) d83_38 (j := 48) rfl ⟨rfl, by decide, rfl, rfl⟩ (Nat.le_of_ble_eq_true rfl) hK
theorem d83_41 : decode (mC 83) 41 = .ok (.ireturn, 1) := by decide +kernel
theorem x83_41 {sc : aSc} {d : Nat} {r : aRes} {L : List Value} {σ : aS} {x : Int32} : Rn sc d 83 41 L [.int x] σ r ↔ r = (σ, some (.int x)) := r_iret d83_41 rfl rfl
theorem d84_0 : decode (mC 84) 0 = .ok (.aload_n 0, 1) := by decide +kernel
theorem x84_0 {sc : aSc} {d : Nat} {r : aRes} {x0 : Nat} {a1 : Value} {a2 : Value} {st : List Value} {σ : aS} : Rn sc d 84 0 [.ref x0, a1, a2] st σ r ↔ Rn sc d 84 1 [.ref x0, a1, a2] (.ref x0 :: st) σ r := r_aload_n d84_0 rfl
theorem d84_1 : decode (mC 84) 1 = .ok (.getfield 50, 3) := by decide +kernel
theorem x84_1 {sc : aSc} {d : Nat} {r : aRes} {L : List Value} {st : List Value} {f : Nat → Nat → Int32} {g : Nat → Nat → Int64} {h1 h2 : Nat} {o : Nat} (hK : KK[o]? = some (.inl 6)) (hR : (RR h1 h2 o 0).isSome = true) : Rn sc d 84 1 L (.ref o :: st) (cS f g h1 h2) r ↔ Rn sc d 84 4 L (.ref (rf h1 h2 o 0) :: st) (cS f g h1 h2) r := r_getR2 d84_1 (ci := 6) (k := 0) rfl (by decide) (fun _ => rfl) hK hR
theorem d84_4 : decode (mC 84) 4 = .ok (.iload_n 1, 1) := by decide +kernel
theorem x84_4 {sc : aSc} {d : Nat} {r : aRes} {a0 : Value} {x1 : Int32} {a2 : Value} {st : List Value} {σ : aS} : Rn sc d 84 4 [a0, .int x1, a2] st σ r ↔ Rn sc d 84 5 [a0, .int x1, a2] (.int x1 :: st) σ r := r_iload_n d84_4 rfl
theorem d84_5 : decode (mC 84) 5 = .ok (.invokevirtual 70, 3) := by decide +kernel
theorem x84_5 {sc : aSc} {d : Nat} {r : aRes} {L : List Value} {f : Nat → Nat → Int32} {g : Nat → Nat → Int64} {h1 h2 : Nat} {y0 : Int32}  {o : Nat} (hK : KK[o]? = some (.inl 1)) : Rn sc d 84 5 L [.int y0, .ref o] (cS f g h1 h2) r ↔ ∃ (σ3 : aS) (v : Option Value), Cl sc d 7 [.ref o, .int y0] (cS f g h1 h2) (σ3, v) ∧ Rn sc d 84 8 L (v.toList ++ []) σ3 r := r_callV (vs := [.int y0]) d84_5 (j := 7) rfl ⟨rfl, by decide, rfl, rfl⟩ (Nat.le_of_ble_eq_true rfl) hK
theorem d84_8 : decode (mC 84) 8 = .ok (.ifCond .ne 7, 3) := by decide +kernel
theorem x84_8 {sc : aSc} {d : Nat} {r : aRes} {L : List Value} {st : List Value} {σ : aS} {x : Int32} : Rn sc d 84 8 L (.int x :: st) σ r ↔ if x = 0 then Rn sc d 84 11 L st σ r else Rn sc d 84 15 L st σ r := r_if_ne d84_8 rfl
theorem d84_11 : decode (mC 84) 11 = .ok (.sipush (-1001), 3) := by decide +kernel
theorem x84_11 {sc : aSc} {d : Nat} {r : aRes} {L : List Value} {st : List Value} {σ : aS} : Rn sc d 84 11 L st σ r ↔ Rn sc d 84 14 L (.int (-1001) :: st) σ r := r_sipush d84_11 (by decide)
theorem d84_14 : decode (mC 84) 14 = .ok (.ireturn, 1) := by decide +kernel
theorem x84_14 {sc : aSc} {d : Nat} {r : aRes} {L : List Value} {σ : aS} {x : Int32} : Rn sc d 84 14 L [.int x] σ r ↔ r = (σ, some (.int x)) := r_iret d84_14 rfl rfl
theorem d84_15 : decode (mC 84) 15 = .ok (.aload_n 0, 1) := by decide +kernel
theorem x84_15 {sc : aSc} {d : Nat} {r : aRes} {x0 : Nat} {a1 : Value} {a2 : Value} {st : List Value} {σ : aS} : Rn sc d 84 15 [.ref x0, a1, a2] st σ r ↔ Rn sc d 84 16 [.ref x0, a1, a2] (.ref x0 :: st) σ r := r_aload_n d84_15 rfl
theorem d84_16 : decode (mC 84) 16 = .ok (.getfield 27, 3) := by decide +kernel
theorem x84_16 {sc : aSc} {d : Nat} {r : aRes} {L : List Value} {st : List Value} {f : Nat → Nat → Int32} {g : Nat → Nat → Int64} {h1 h2 : Nat} {o : Nat} (hK : KK[o]? = some (.inl 6)) (hR : (RR h1 h2 o 6).isSome = true) : Rn sc d 84 16 L (.ref o :: st) (cS f g h1 h2) r ↔ Rn sc d 84 19 L (.ref (rf h1 h2 o 6) :: st) (cS f g h1 h2) r := r_getR2 d84_16 (ci := 6) (k := 6) rfl (by decide) (fun _ => rfl) hK hR
theorem d84_19 : decode (mC 84) 19 = .ok (.aload_n 0, 1) := by decide +kernel
theorem x84_19 {sc : aSc} {d : Nat} {r : aRes} {x0 : Nat} {a1 : Value} {a2 : Value} {st : List Value} {σ : aS} : Rn sc d 84 19 [.ref x0, a1, a2] st σ r ↔ Rn sc d 84 20 [.ref x0, a1, a2] (.ref x0 :: st) σ r := r_aload_n d84_19 rfl
theorem d84_20 : decode (mC 84) 20 = .ok (.getfield 50, 3) := by decide +kernel
theorem x84_20 {sc : aSc} {d : Nat} {r : aRes} {L : List Value} {st : List Value} {f : Nat → Nat → Int32} {g : Nat → Nat → Int64} {h1 h2 : Nat} {o : Nat} (hK : KK[o]? = some (.inl 6)) (hR : (RR h1 h2 o 0).isSome = true) : Rn sc d 84 20 L (.ref o :: st) (cS f g h1 h2) r ↔ Rn sc d 84 23 L (.ref (rf h1 h2 o 0) :: st) (cS f g h1 h2) r := r_getR2 d84_20 (ci := 6) (k := 0) rfl (by decide) (fun _ => rfl) hK hR
theorem d84_23 : decode (mC 84) 23 = .ok (.iconst 2, 1) := by decide +kernel
theorem x84_23 {sc : aSc} {d : Nat} {r : aRes} {L : List Value} {st : List Value} {σ : aS} : Rn sc d 84 23 L st σ r ↔ Rn sc d 84 24 L (.int 2 :: st) σ r := r_iconst d84_23 (by decide)
theorem d84_24 : decode (mC 84) 24 = .ok (.aload_n 0, 1) := by decide +kernel
theorem x84_24 {sc : aSc} {d : Nat} {r : aRes} {x0 : Nat} {a1 : Value} {a2 : Value} {st : List Value} {σ : aS} : Rn sc d 84 24 [.ref x0, a1, a2] st σ r ↔ Rn sc d 84 25 [.ref x0, a1, a2] (.ref x0 :: st) σ r := r_aload_n d84_24 rfl
theorem d84_25 : decode (mC 84) 25 = .ok (.getfield 50, 3) := by decide +kernel
theorem x84_25 {sc : aSc} {d : Nat} {r : aRes} {L : List Value} {st : List Value} {f : Nat → Nat → Int32} {g : Nat → Nat → Int64} {h1 h2 : Nat} {o : Nat} (hK : KK[o]? = some (.inl 6)) (hR : (RR h1 h2 o 0).isSome = true) : Rn sc d 84 25 L (.ref o :: st) (cS f g h1 h2) r ↔ Rn sc d 84 28 L (.ref (rf h1 h2 o 0) :: st) (cS f g h1 h2) r := r_getR2 d84_25 (ci := 6) (k := 0) rfl (by decide) (fun _ => rfl) hK hR
theorem d84_28 : decode (mC 84) 28 = .ok (.invokevirtual 132, 3) := by decide +kernel
theorem x84_28 {sc : aSc} {d : Nat} {r : aRes} {L : List Value} {f : Nat → Nat → Int32} {g : Nat → Nat → Int64} {h1 h2 : Nat}  {z0 : Int32} {z1 : Nat} {z2 : Nat} {o : Nat} (hK : KK[o]? = some (.inl 1)) : Rn sc d 84 28 L [.ref o, .int z0, .ref z1, .ref z2] (cS f g h1 h2) r ↔ ∃ (σ3 : aS) (v : Option Value), Cl sc d 8 [.ref o] (cS f g h1 h2) (σ3, v) ∧ Rn sc d 84 31 L (v.toList ++ [.int z0, .ref z1, .ref z2]) σ3 r := r_callV (vs := []) d84_28 (j := 8) rfl ⟨rfl, by decide, rfl, rfl⟩ (Nat.le_of_ble_eq_true rfl) hK
theorem d84_31 : decode (mC 84) 31 = .ok (.invokevirtual 162, 3) := by decide +kernel
theorem x84_31 {sc : aSc} {d : Nat} {r : aRes} {L : List Value} {f : Nat → Nat → Int32} {g : Nat → Nat → Int64} {h1 h2 : Nat} {y0 : Int32} {y1 : Int32} {y2 : Nat}  {o : Nat} (hK : KK[o]? = some (.inl 3)) : Rn sc d 84 31 L [.int y0, .int y1, .ref y2, .ref o] (cS f g h1 h2) r ↔ ∃ (σ3 : aS) (v : Option Value), Cl sc d 40 [.ref o, .ref y2, .int y1, .int y0] (cS f g h1 h2) (σ3, v) ∧ Rn sc d 84 34 L (v.toList ++ []) σ3 r := r_callV (vs := [.int y0, .int y1, .ref y2]) d84_31 (j := 40) rfl ⟨rfl, by decide, rfl, rfl⟩ (Nat.le_of_ble_eq_true rfl) hK
theorem d84_34 : decode (mC 84) 34 = .ok (.aload_n 0, 1) := by decide +kernel
theorem x84_34 {sc : aSc} {d : Nat} {r : aRes} {x0 : Nat} {a1 : Value} {a2 : Value} {st : List Value} {σ : aS} : Rn sc d 84 34 [.ref x0, a1, a2] st σ r ↔ Rn sc d 84 35 [.ref x0, a1, a2] (.ref x0 :: st) σ r := r_aload_n d84_34 rfl
theorem d84_35 : decode (mC 84) 35 = .ok (.getfield 27, 3) := by decide +kernel
theorem x84_35 {sc : aSc} {d : Nat} {r : aRes} {L : List Value} {st : List Value} {f : Nat → Nat → Int32} {g : Nat → Nat → Int64} {h1 h2 : Nat} {o : Nat} (hK : KK[o]? = some (.inl 6)) (hR : (RR h1 h2 o 6).isSome = true) : Rn sc d 84 35 L (.ref o :: st) (cS f g h1 h2) r ↔ Rn sc d 84 38 L (.ref (rf h1 h2 o 6) :: st) (cS f g h1 h2) r := r_getR2 d84_35 (ci := 6) (k := 6) rfl (by decide) (fun _ => rfl) hK hR
theorem d84_38 : decode (mC 84) 38 = .ok (.getfield 169, 3) := by decide +kernel
theorem x84_38 {sc : aSc} {d : Nat} {r : aRes} {L : List Value} {st : List Value} {f : Nat → Nat → Int32} {g : Nat → Nat → Int64} {h1 h2 : Nat} {o : Nat} (hK : KK[o]? = some (.inl 3)) (hR : (RR h1 h2 o 0).isSome = true) : Rn sc d 84 38 L (.ref o :: st) (cS f g h1 h2) r ↔ Rn sc d 84 41 L (.ref (rf h1 h2 o 0) :: st) (cS f g h1 h2) r := r_getR2 d84_38 (ci := 3) (k := 0) rfl (by decide) (fun _ => rfl) hK hR
theorem d84_41 : decode (mC 84) 41 = .ok (.iconst 0, 1) := by decide +kernel
theorem x84_41 {sc : aSc} {d : Nat} {r : aRes} {L : List Value} {st : List Value} {σ : aS} : Rn sc d 84 41 L st σ r ↔ Rn sc d 84 42 L (.int 0 :: st) σ r := r_iconst d84_41 (by decide)
theorem d84_42 : decode (mC 84) 42 = .ok (.aaload, 1) := by decide +kernel
theorem x84_42 {sc : aSc} {d : Nat} {r : aRes} {L : List Value} {st : List Value} {f : Nat → Nat → Int32} {g : Nat → Nat → Int64} {h1 h2 : Nat} {a : Nat} {i : Int32} (h17 : 17 ≤ a) (hA : isG a) (hi : inb i (aln a) = true) (hR : (RR h1 h2 a i.toNatClampNeg).isSome = true) : Rn sc d 84 42 L (.int i :: .ref a :: st) (cS f g h1 h2) r ↔ Rn sc d 84 43 L (.ref (rf h1 h2 a i.toNatClampNeg) :: st) (cS f g h1 h2) r := r_aald2 d84_42 h17 hA hi hR
theorem d84_43 : decode (mC 84) 43 = .ok (.aload_n 0, 1) := by decide +kernel
theorem x84_43 {sc : aSc} {d : Nat} {r : aRes} {x0 : Nat} {a1 : Value} {a2 : Value} {st : List Value} {σ : aS} : Rn sc d 84 43 [.ref x0, a1, a2] st σ r ↔ Rn sc d 84 44 [.ref x0, a1, a2] (.ref x0 :: st) σ r := r_aload_n d84_43 rfl
theorem d84_44 : decode (mC 84) 44 = .ok (.getfield 50, 3) := by decide +kernel
theorem x84_44 {sc : aSc} {d : Nat} {r : aRes} {L : List Value} {st : List Value} {f : Nat → Nat → Int32} {g : Nat → Nat → Int64} {h1 h2 : Nat} {o : Nat} (hK : KK[o]? = some (.inl 6)) (hR : (RR h1 h2 o 0).isSome = true) : Rn sc d 84 44 L (.ref o :: st) (cS f g h1 h2) r ↔ Rn sc d 84 47 L (.ref (rf h1 h2 o 0) :: st) (cS f g h1 h2) r := r_getR2 d84_44 (ci := 6) (k := 0) rfl (by decide) (fun _ => rfl) hK hR
theorem d84_47 : decode (mC 84) 47 = .ok (.getfield 129, 3) := by decide +kernel
theorem x84_47 {sc : aSc} {d : Nat} {r : aRes} {L : List Value} {st : List Value} {f : Nat → Nat → Int32} {g : Nat → Nat → Int64} {h1 h2 : Nat} {o : Nat} (h17 : 17 ≤ o) (hK : KK[o]? = some (.inl 1)) : Rn sc d 84 47 L (.ref o :: st) (cS f g h1 h2) r ↔ Rn sc d 84 50 L (.int (f o 4) :: st) (cS f g h1 h2) r := r_getI d84_47 (ci := 1) (k := 4) rfl (by decide) (fun _ => rfl) h17 hK
theorem d84_50 : decode (mC 84) 50 = .ok (.iaload, 1) := by decide +kernel
theorem x84_50 {sc : aSc} {d : Nat} {r : aRes} {L : List Value} {st : List Value} {f : Nat → Nat → Int32} {g : Nat → Nat → Int64} {h1 h2 : Nat} {a : Nat} {i : Int32} (h17 : 17 ≤ a) (hA : isT9 .int a) (hi : inb i (aln a) = true) : Rn sc d 84 50 L (.int i :: .ref a :: st) (cS f g h1 h2) r ↔ Rn sc d 84 51 L (.int (f a i.toNatClampNeg) :: st) (cS f g h1 h2) r := r_iald d84_50 h17 hA hi
theorem d84_51 : decode (mC 84) 51 = .ok (.istore_n 2, 1) := by decide +kernel
theorem x84_51 {sc : aSc} {d : Nat} {r : aRes} {a0 : Value} {x1 : Int32} {a2 : Value} {st : List Value} {σ : aS} {y : Int32} : Rn sc d 84 51 [a0, .int x1, a2] (.int y :: st) σ r ↔ Rn sc d 84 52 [a0, .int x1, .int y] st σ r := r_istore_n d84_51 (Nat.le_of_ble_eq_true rfl) rfl
theorem d84_52 : decode (mC 84) 52 = .ok (.aload_n 0, 1) := by decide +kernel
theorem x84_52 {sc : aSc} {d : Nat} {r : aRes} {x0 : Nat} {a1 : Value} {a2 : Value} {st : List Value} {σ : aS} : Rn sc d 84 52 [.ref x0, a1, a2] st σ r ↔ Rn sc d 84 53 [.ref x0, a1, a2] (.ref x0 :: st) σ r := r_aload_n d84_52 rfl
theorem d84_53 : decode (mC 84) 53 = .ok (.getfield 27, 3) := by decide +kernel
theorem x84_53 {sc : aSc} {d : Nat} {r : aRes} {L : List Value} {st : List Value} {f : Nat → Nat → Int32} {g : Nat → Nat → Int64} {h1 h2 : Nat} {o : Nat} (hK : KK[o]? = some (.inl 6)) (hR : (RR h1 h2 o 6).isSome = true) : Rn sc d 84 53 L (.ref o :: st) (cS f g h1 h2) r ↔ Rn sc d 84 56 L (.ref (rf h1 h2 o 6) :: st) (cS f g h1 h2) r := r_getR2 d84_53 (ci := 6) (k := 6) rfl (by decide) (fun _ => rfl) hK hR
theorem d84_56 : decode (mC 84) 56 = .ok (.aload_n 0, 1) := by decide +kernel
theorem x84_56 {sc : aSc} {d : Nat} {r : aRes} {x0 : Nat} {a1 : Value} {a2 : Value} {st : List Value} {σ : aS} : Rn sc d 84 56 [.ref x0, a1, a2] st σ r ↔ Rn sc d 84 57 [.ref x0, a1, a2] (.ref x0 :: st) σ r := r_aload_n d84_56 rfl
theorem d84_57 : decode (mC 84) 57 = .ok (.getfield 50, 3) := by decide +kernel
theorem x84_57 {sc : aSc} {d : Nat} {r : aRes} {L : List Value} {st : List Value} {f : Nat → Nat → Int32} {g : Nat → Nat → Int64} {h1 h2 : Nat} {o : Nat} (hK : KK[o]? = some (.inl 6)) (hR : (RR h1 h2 o 0).isSome = true) : Rn sc d 84 57 L (.ref o :: st) (cS f g h1 h2) r ↔ Rn sc d 84 60 L (.ref (rf h1 h2 o 0) :: st) (cS f g h1 h2) r := r_getR2 d84_57 (ci := 6) (k := 0) rfl (by decide) (fun _ => rfl) hK hR
theorem d84_60 : decode (mC 84) 60 = .ok (.iconst 2, 1) := by decide +kernel
theorem x84_60 {sc : aSc} {d : Nat} {r : aRes} {L : List Value} {st : List Value} {σ : aS} : Rn sc d 84 60 L st σ r ↔ Rn sc d 84 61 L (.int 2 :: st) σ r := r_iconst d84_60 (by decide)
theorem d84_61 : decode (mC 84) 61 = .ok (.aload_n 0, 1) := by decide +kernel
theorem x84_61 {sc : aSc} {d : Nat} {r : aRes} {x0 : Nat} {a1 : Value} {a2 : Value} {st : List Value} {σ : aS} : Rn sc d 84 61 [.ref x0, a1, a2] st σ r ↔ Rn sc d 84 62 [.ref x0, a1, a2] (.ref x0 :: st) σ r := r_aload_n d84_61 rfl
theorem d84_62 : decode (mC 84) 62 = .ok (.getfield 50, 3) := by decide +kernel
theorem x84_62 {sc : aSc} {d : Nat} {r : aRes} {L : List Value} {st : List Value} {f : Nat → Nat → Int32} {g : Nat → Nat → Int64} {h1 h2 : Nat} {o : Nat} (hK : KK[o]? = some (.inl 6)) (hR : (RR h1 h2 o 0).isSome = true) : Rn sc d 84 62 L (.ref o :: st) (cS f g h1 h2) r ↔ Rn sc d 84 65 L (.ref (rf h1 h2 o 0) :: st) (cS f g h1 h2) r := r_getR2 d84_62 (ci := 6) (k := 0) rfl (by decide) (fun _ => rfl) hK hR
theorem d84_65 : decode (mC 84) 65 = .ok (.invokevirtual 132, 3) := by decide +kernel
theorem x84_65 {sc : aSc} {d : Nat} {r : aRes} {L : List Value} {f : Nat → Nat → Int32} {g : Nat → Nat → Int64} {h1 h2 : Nat}  {z0 : Int32} {z1 : Nat} {z2 : Nat} {o : Nat} (hK : KK[o]? = some (.inl 1)) : Rn sc d 84 65 L [.ref o, .int z0, .ref z1, .ref z2] (cS f g h1 h2) r ↔ ∃ (σ3 : aS) (v : Option Value), Cl sc d 8 [.ref o] (cS f g h1 h2) (σ3, v) ∧ Rn sc d 84 68 L (v.toList ++ [.int z0, .ref z1, .ref z2]) σ3 r := r_callV (vs := []) d84_65 (j := 8) rfl ⟨rfl, by decide, rfl, rfl⟩ (Nat.le_of_ble_eq_true rfl) hK
theorem d84_68 : decode (mC 84) 68 = .ok (.iconst 1, 1) := by decide +kernel
theorem x84_68 {sc : aSc} {d : Nat} {r : aRes} {L : List Value} {st : List Value} {σ : aS} : Rn sc d 84 68 L st σ r ↔ Rn sc d 84 69 L (.int 1 :: st) σ r := r_iconst d84_68 (by decide)
theorem d84_69 : decode (mC 84) 69 = .ok (.iload_n 1, 1) := by decide +kernel
theorem x84_69 {sc : aSc} {d : Nat} {r : aRes} {a0 : Value} {x1 : Int32} {a2 : Value} {st : List Value} {σ : aS} : Rn sc d 84 69 [a0, .int x1, a2] st σ r ↔ Rn sc d 84 70 [a0, .int x1, a2] (.int x1 :: st) σ r := r_iload_n d84_69 rfl
theorem d84_70 : decode (mC 84) 70 = .ok (.ishl, 1) := by decide +kernel
theorem x84_70 {sc : aSc} {d : Nat} {r : aRes} {L : List Value} {st : List Value} {σ : aS} {x y : Int32} : Rn sc d 84 70 L (.int y :: .int x :: st) σ r ↔ Rn sc d 84 71 L (.int (x <<< (y &&& 31)) :: st) σ r := r_ishl d84_70
theorem d84_71 : decode (mC 84) 71 = .ok (.iconst (-1), 1) := by decide +kernel
theorem x84_71 {sc : aSc} {d : Nat} {r : aRes} {L : List Value} {st : List Value} {σ : aS} : Rn sc d 84 71 L st σ r ↔ Rn sc d 84 72 L (.int (-1) :: st) σ r := r_iconst d84_71 (by decide)
theorem d84_72 : decode (mC 84) 72 = .ok (.ixor, 1) := by decide +kernel
theorem x84_72 {sc : aSc} {d : Nat} {r : aRes} {L : List Value} {st : List Value} {σ : aS} {x y : Int32} : Rn sc d 84 72 L (.int y :: .int x :: st) σ r ↔ Rn sc d 84 73 L (.int (x ^^^ y) :: st) σ r := r_ixor d84_72
theorem d84_73 : decode (mC 84) 73 = .ok (.iand, 1) := by decide +kernel
theorem x84_73 {sc : aSc} {d : Nat} {r : aRes} {L : List Value} {st : List Value} {σ : aS} {x y : Int32} : Rn sc d 84 73 L (.int y :: .int x :: st) σ r ↔ Rn sc d 84 74 L (.int (x &&& y) :: st) σ r := r_iand d84_73
theorem d84_74 : decode (mC 84) 74 = .ok (.invokevirtual 162, 3) := by decide +kernel
theorem x84_74 {sc : aSc} {d : Nat} {r : aRes} {L : List Value} {f : Nat → Nat → Int32} {g : Nat → Nat → Int64} {h1 h2 : Nat} {y0 : Int32} {y1 : Int32} {y2 : Nat}  {o : Nat} (hK : KK[o]? = some (.inl 3)) : Rn sc d 84 74 L [.int y0, .int y1, .ref y2, .ref o] (cS f g h1 h2) r ↔ ∃ (σ3 : aS) (v : Option Value), Cl sc d 40 [.ref o, .ref y2, .int y1, .int y0] (cS f g h1 h2) (σ3, v) ∧ Rn sc d 84 77 L (v.toList ++ []) σ3 r := r_callV (vs := [.int y0, .int y1, .ref y2]) d84_74 (j := 40) rfl ⟨rfl, by decide, rfl, rfl⟩ (Nat.le_of_ble_eq_true rfl) hK
theorem d84_77 : decode (mC 84) 77 = .ok (.iload_n 2, 1) := by decide +kernel
theorem x84_77 {sc : aSc} {d : Nat} {r : aRes} {a0 : Value} {a1 : Value} {x2 : Int32} {st : List Value} {σ : aS} : Rn sc d 84 77 [a0, a1, .int x2] st σ r ↔ Rn sc d 84 78 [a0, a1, .int x2] (.int x2 :: st) σ r := r_iload_n d84_77 rfl
theorem d84_78 : decode (mC 84) 78 = .ok (.aload_n 0, 1) := by decide +kernel
theorem x84_78 {sc : aSc} {d : Nat} {r : aRes} {x0 : Nat} {a1 : Value} {a2 : Value} {st : List Value} {σ : aS} : Rn sc d 84 78 [.ref x0, a1, a2] st σ r ↔ Rn sc d 84 79 [.ref x0, a1, a2] (.ref x0 :: st) σ r := r_aload_n d84_78 rfl
theorem d84_79 : decode (mC 84) 79 = .ok (.getfield 27, 3) := by decide +kernel
theorem x84_79 {sc : aSc} {d : Nat} {r : aRes} {L : List Value} {st : List Value} {f : Nat → Nat → Int32} {g : Nat → Nat → Int64} {h1 h2 : Nat} {o : Nat} (hK : KK[o]? = some (.inl 6)) (hR : (RR h1 h2 o 6).isSome = true) : Rn sc d 84 79 L (.ref o :: st) (cS f g h1 h2) r ↔ Rn sc d 84 82 L (.ref (rf h1 h2 o 6) :: st) (cS f g h1 h2) r := r_getR2 d84_79 (ci := 6) (k := 6) rfl (by decide) (fun _ => rfl) hK hR
theorem d84_82 : decode (mC 84) 82 = .ok (.getfield 169, 3) := by decide +kernel
theorem x84_82 {sc : aSc} {d : Nat} {r : aRes} {L : List Value} {st : List Value} {f : Nat → Nat → Int32} {g : Nat → Nat → Int64} {h1 h2 : Nat} {o : Nat} (hK : KK[o]? = some (.inl 3)) (hR : (RR h1 h2 o 0).isSome = true) : Rn sc d 84 82 L (.ref o :: st) (cS f g h1 h2) r ↔ Rn sc d 84 85 L (.ref (rf h1 h2 o 0) :: st) (cS f g h1 h2) r := r_getR2 d84_82 (ci := 3) (k := 0) rfl (by decide) (fun _ => rfl) hK hR
theorem d84_85 : decode (mC 84) 85 = .ok (.iconst 0, 1) := by decide +kernel
theorem x84_85 {sc : aSc} {d : Nat} {r : aRes} {L : List Value} {st : List Value} {σ : aS} : Rn sc d 84 85 L st σ r ↔ Rn sc d 84 86 L (.int 0 :: st) σ r := r_iconst d84_85 (by decide)
theorem d84_86 : decode (mC 84) 86 = .ok (.aaload, 1) := by decide +kernel
theorem x84_86 {sc : aSc} {d : Nat} {r : aRes} {L : List Value} {st : List Value} {f : Nat → Nat → Int32} {g : Nat → Nat → Int64} {h1 h2 : Nat} {a : Nat} {i : Int32} (h17 : 17 ≤ a) (hA : isG a) (hi : inb i (aln a) = true) (hR : (RR h1 h2 a i.toNatClampNeg).isSome = true) : Rn sc d 84 86 L (.int i :: .ref a :: st) (cS f g h1 h2) r ↔ Rn sc d 84 87 L (.ref (rf h1 h2 a i.toNatClampNeg) :: st) (cS f g h1 h2) r := r_aald2 d84_86 h17 hA hi hR
theorem d84_87 : decode (mC 84) 87 = .ok (.aload_n 0, 1) := by decide +kernel
theorem x84_87 {sc : aSc} {d : Nat} {r : aRes} {x0 : Nat} {a1 : Value} {a2 : Value} {st : List Value} {σ : aS} : Rn sc d 84 87 [.ref x0, a1, a2] st σ r ↔ Rn sc d 84 88 [.ref x0, a1, a2] (.ref x0 :: st) σ r := r_aload_n d84_87 rfl
theorem d84_88 : decode (mC 84) 88 = .ok (.getfield 50, 3) := by decide +kernel
theorem x84_88 {sc : aSc} {d : Nat} {r : aRes} {L : List Value} {st : List Value} {f : Nat → Nat → Int32} {g : Nat → Nat → Int64} {h1 h2 : Nat} {o : Nat} (hK : KK[o]? = some (.inl 6)) (hR : (RR h1 h2 o 0).isSome = true) : Rn sc d 84 88 L (.ref o :: st) (cS f g h1 h2) r ↔ Rn sc d 84 91 L (.ref (rf h1 h2 o 0) :: st) (cS f g h1 h2) r := r_getR2 d84_88 (ci := 6) (k := 0) rfl (by decide) (fun _ => rfl) hK hR
theorem d84_91 : decode (mC 84) 91 = .ok (.getfield 129, 3) := by decide +kernel
theorem x84_91 {sc : aSc} {d : Nat} {r : aRes} {L : List Value} {st : List Value} {f : Nat → Nat → Int32} {g : Nat → Nat → Int64} {h1 h2 : Nat} {o : Nat} (h17 : 17 ≤ o) (hK : KK[o]? = some (.inl 1)) : Rn sc d 84 91 L (.ref o :: st) (cS f g h1 h2) r ↔ Rn sc d 84 94 L (.int (f o 4) :: st) (cS f g h1 h2) r := r_getI d84_91 (ci := 1) (k := 4) rfl (by decide) (fun _ => rfl) h17 hK
theorem d84_94 : decode (mC 84) 94 = .ok (.iaload, 1) := by decide +kernel
theorem x84_94 {sc : aSc} {d : Nat} {r : aRes} {L : List Value} {st : List Value} {f : Nat → Nat → Int32} {g : Nat → Nat → Int64} {h1 h2 : Nat} {a : Nat} {i : Int32} (h17 : 17 ≤ a) (hA : isT9 .int a) (hi : inb i (aln a) = true) : Rn sc d 84 94 L (.int i :: .ref a :: st) (cS f g h1 h2) r ↔ Rn sc d 84 95 L (.int (f a i.toNatClampNeg) :: st) (cS f g h1 h2) r := r_iald d84_94 h17 hA hi
theorem d84_95 : decode (mC 84) 95 = .ok (.isub, 1) := by decide +kernel
theorem x84_95 {sc : aSc} {d : Nat} {r : aRes} {L : List Value} {st : List Value} {σ : aS} {x y : Int32} : Rn sc d 84 95 L (.int y :: .int x :: st) σ r ↔ Rn sc d 84 96 L (.int (x - y) :: st) σ r := r_isub d84_95
theorem d84_96 : decode (mC 84) 96 = .ok (.ireturn, 1) := by decide +kernel
theorem x84_96 {sc : aSc} {d : Nat} {r : aRes} {L : List Value} {σ : aS} {x : Int32} : Rn sc d 84 96 L [.int x] σ r ↔ r = (σ, some (.int x)) := r_iret d84_96 rfl rfl
theorem d85_0 : decode (mC 85) 0 = .ok (.iload_n 1, 1) := by decide +kernel
theorem x85_0 {sc : aSc} {d : Nat} {r : aRes} {a0 : Value} {x1 : Int32} {a2 : Value} {a3 : Value} {st : List Value} {σ : aS} : Rn sc d 85 0 [a0, .int x1, a2, a3] st σ r ↔ Rn sc d 85 1 [a0, .int x1, a2, a3] (.int x1 :: st) σ r := r_iload_n d85_0 rfl
theorem d85_1 : decode (mC 85) 1 = .ok (.iconst (-1), 1) := by decide +kernel
theorem x85_1 {sc : aSc} {d : Nat} {r : aRes} {L : List Value} {st : List Value} {σ : aS} : Rn sc d 85 1 L st σ r ↔ Rn sc d 85 2 L (.int (-1) :: st) σ r := r_iconst d85_1 (by decide)
theorem d85_2 : decode (mC 85) 2 = .ok (.if_icmp .ne 13, 3) := by decide +kernel
theorem x85_2 {sc : aSc} {d : Nat} {r : aRes} {L : List Value} {st : List Value} {σ : aS} {x y : Int32} : Rn sc d 85 2 L (.int y :: .int x :: st) σ r ↔ if x = y then Rn sc d 85 5 L st σ r else Rn sc d 85 15 L st σ r := r_icmp_ne d85_2 rfl
theorem d85_5 : decode (mC 85) 5 = .ok (.aload_n 0, 1) := by decide +kernel
theorem x85_5 {sc : aSc} {d : Nat} {r : aRes} {x0 : Nat} {a1 : Value} {a2 : Value} {a3 : Value} {st : List Value} {σ : aS} : Rn sc d 85 5 [.ref x0, a1, a2, a3] st σ r ↔ Rn sc d 85 6 [.ref x0, a1, a2, a3] (.ref x0 :: st) σ r := r_aload_n d85_5 rfl
theorem d85_6 : decode (mC 85) 6 = .ok (.getfield 50, 3) := by decide +kernel
theorem x85_6 {sc : aSc} {d : Nat} {r : aRes} {L : List Value} {st : List Value} {f : Nat → Nat → Int32} {g : Nat → Nat → Int64} {h1 h2 : Nat} {o : Nat} (hK : KK[o]? = some (.inl 6)) (hR : (RR h1 h2 o 0).isSome = true) : Rn sc d 85 6 L (.ref o :: st) (cS f g h1 h2) r ↔ Rn sc d 85 9 L (.ref (rf h1 h2 o 0) :: st) (cS f g h1 h2) r := r_getR2 d85_6 (ci := 6) (k := 0) rfl (by decide) (fun _ => rfl) hK hR
theorem d85_9 : decode (mC 85) 9 = .ok (.iconst 0, 1) := by decide +kernel
theorem x85_9 {sc : aSc} {d : Nat} {r : aRes} {L : List Value} {st : List Value} {σ : aS} : Rn sc d 85 9 L st σ r ↔ Rn sc d 85 10 L (.int 0 :: st) σ r := r_iconst d85_9 (by decide)
theorem d85_10 : decode (mC 85) 10 = .ok (.putfield 203, 3) := by decide +kernel
theorem x85_10 {sc : aSc} {d : Nat} {r : aRes} {L : List Value} {st : List Value} {f : Nat → Nat → Int32} {g : Nat → Nat → Int64} {h1 h2 : Nat} {o : Nat} {v : Int32} (h17 : 17 ≤ o) (hK : KK[o]? = some (.inl 1)) : Rn sc d 85 10 L (.int v :: .ref o :: st) (cS f g h1 h2) r ↔ Rn sc d 85 13 L st (cS (u2 f o 11 v) g h1 h2) r := r_putI d85_10 (ci := 1) (k := 11) rfl (by decide) h17 hK
theorem d85_13 : decode (mC 85) 13 = .ok (.iconst 0, 1) := by decide +kernel
theorem x85_13 {sc : aSc} {d : Nat} {r : aRes} {L : List Value} {st : List Value} {σ : aS} : Rn sc d 85 13 L st σ r ↔ Rn sc d 85 14 L (.int 0 :: st) σ r := r_iconst d85_13 (by decide)
theorem d85_14 : decode (mC 85) 14 = .ok (.ireturn, 1) := by decide +kernel
theorem x85_14 {sc : aSc} {d : Nat} {r : aRes} {L : List Value} {σ : aS} {x : Int32} : Rn sc d 85 14 L [.int x] σ r ↔ r = (σ, some (.int x)) := r_iret d85_14 rfl rfl
theorem d85_15 : decode (mC 85) 15 = .ok (.aload_n 0, 1) := by decide +kernel
theorem x85_15 {sc : aSc} {d : Nat} {r : aRes} {x0 : Nat} {a1 : Value} {a2 : Value} {a3 : Value} {st : List Value} {σ : aS} : Rn sc d 85 15 [.ref x0, a1, a2, a3] st σ r ↔ Rn sc d 85 16 [.ref x0, a1, a2, a3] (.ref x0 :: st) σ r := r_aload_n d85_15 rfl
theorem d85_16 : decode (mC 85) 16 = .ok (.iload_n 1, 1) := by decide +kernel
theorem x85_16 {sc : aSc} {d : Nat} {r : aRes} {a0 : Value} {x1 : Int32} {a2 : Value} {a3 : Value} {st : List Value} {σ : aS} : Rn sc d 85 16 [a0, .int x1, a2, a3] st σ r ↔ Rn sc d 85 17 [a0, .int x1, a2, a3] (.int x1 :: st) σ r := r_iload_n d85_16 rfl
theorem d85_17 : decode (mC 85) 17 = .ok (.iload_n 2, 1) := by decide +kernel
theorem x85_17 {sc : aSc} {d : Nat} {r : aRes} {a0 : Value} {a1 : Value} {x2 : Int32} {a3 : Value} {st : List Value} {σ : aS} : Rn sc d 85 17 [a0, a1, .int x2, a3] st σ r ↔ Rn sc d 85 18 [a0, a1, .int x2, a3] (.int x2 :: st) σ r := r_iload_n d85_17 rfl
theorem d85_18 : decode (mC 85) 18 = .ok (.invokevirtual 145, 3) := by decide +kernel
theorem x85_18 {sc : aSc} {d : Nat} {r : aRes} {L : List Value} {f : Nat → Nat → Int32} {g : Nat → Nat → Int64} {h1 h2 : Nat} {y0 : Int32} {y1 : Int32}  {o : Nat} (hK : KK[o]? = some (.inl 6)) : Rn sc d 85 18 L [.int y0, .int y1, .ref o] (cS f g h1 h2) r ↔ ∃ (σ3 : aS) (v : Option Value), Cl sc d 104 [.ref o, .int y1, .int y0] (cS f g h1 h2) (σ3, v) ∧ Rn sc d 85 21 L (v.toList ++ []) σ3 r := r_callV (vs := [.int y0, .int y1]) d85_18 (j := 104) rfl ⟨rfl, by decide, rfl, rfl⟩ (Nat.le_of_ble_eq_true rfl) hK
theorem d85_21 : decode (mC 85) 21 = .ok (.istore_n 3, 1) := by decide +kernel
theorem x85_21 {sc : aSc} {d : Nat} {r : aRes} {a0 : Value} {a1 : Value} {x2 : Int32} {a3 : Value} {st : List Value} {σ : aS} {y : Int32} : Rn sc d 85 21 [a0, a1, .int x2, a3] (.int y :: st) σ r ↔ Rn sc d 85 22 [a0, a1, .int x2, .int y] st σ r := r_istore_n d85_21 (Nat.le_of_ble_eq_true rfl) rfl
theorem d85_22 : decode (mC 85) 22 = .ok (.iload_n 3, 1) := by decide +kernel
theorem x85_22 {sc : aSc} {d : Nat} {r : aRes} {a0 : Value} {a1 : Value} {a2 : Value} {x3 : Int32} {st : List Value} {σ : aS} : Rn sc d 85 22 [a0, a1, a2, .int x3] st σ r ↔ Rn sc d 85 23 [a0, a1, a2, .int x3] (.int x3 :: st) σ r := r_iload_n d85_22 rfl
theorem d85_23 : decode (mC 85) 23 = .ok (.ifCond .eq 5, 3) := by decide +kernel
theorem x85_23 {sc : aSc} {d : Nat} {r : aRes} {L : List Value} {st : List Value} {σ : aS} {x : Int32} : Rn sc d 85 23 L (.int x :: st) σ r ↔ if x = 0 then Rn sc d 85 28 L st σ r else Rn sc d 85 26 L st σ r := r_if_eq d85_23 rfl
theorem d85_26 : decode (mC 85) 26 = .ok (.iload_n 3, 1) := by decide +kernel
theorem x85_26 {sc : aSc} {d : Nat} {r : aRes} {a0 : Value} {a1 : Value} {a2 : Value} {x3 : Int32} {st : List Value} {σ : aS} : Rn sc d 85 26 [a0, a1, a2, .int x3] st σ r ↔ Rn sc d 85 27 [a0, a1, a2, .int x3] (.int x3 :: st) σ r := r_iload_n d85_26 rfl
theorem d85_27 : decode (mC 85) 27 = .ok (.ireturn, 1) := by decide +kernel
theorem x85_27 {sc : aSc} {d : Nat} {r : aRes} {L : List Value} {σ : aS} {x : Int32} : Rn sc d 85 27 L [.int x] σ r ↔ r = (σ, some (.int x)) := r_iret d85_27 rfl rfl
theorem d85_28 : decode (mC 85) 28 = .ok (.aload_n 0, 1) := by decide +kernel
theorem x85_28 {sc : aSc} {d : Nat} {r : aRes} {x0 : Nat} {a1 : Value} {a2 : Value} {a3 : Value} {st : List Value} {σ : aS} : Rn sc d 85 28 [.ref x0, a1, a2, a3] st σ r ↔ Rn sc d 85 29 [.ref x0, a1, a2, a3] (.ref x0 :: st) σ r := r_aload_n d85_28 rfl
theorem d85_29 : decode (mC 85) 29 = .ok (.getfield 50, 3) := by decide +kernel
theorem x85_29 {sc : aSc} {d : Nat} {r : aRes} {L : List Value} {st : List Value} {f : Nat → Nat → Int32} {g : Nat → Nat → Int64} {h1 h2 : Nat} {o : Nat} (hK : KK[o]? = some (.inl 6)) (hR : (RR h1 h2 o 0).isSome = true) : Rn sc d 85 29 L (.ref o :: st) (cS f g h1 h2) r ↔ Rn sc d 85 32 L (.ref (rf h1 h2 o 0) :: st) (cS f g h1 h2) r := r_getR2 d85_29 (ci := 6) (k := 0) rfl (by decide) (fun _ => rfl) hK hR
theorem d85_32 : decode (mC 85) 32 = .ok (.getfield 203, 3) := by decide +kernel
theorem x85_32 {sc : aSc} {d : Nat} {r : aRes} {L : List Value} {st : List Value} {f : Nat → Nat → Int32} {g : Nat → Nat → Int64} {h1 h2 : Nat} {o : Nat} (h17 : 17 ≤ o) (hK : KK[o]? = some (.inl 1)) : Rn sc d 85 32 L (.ref o :: st) (cS f g h1 h2) r ↔ Rn sc d 85 35 L (.int (f o 11) :: st) (cS f g h1 h2) r := r_getI d85_32 (ci := 1) (k := 11) rfl (by decide) (fun _ => rfl) h17 hK
theorem d85_35 : decode (mC 85) 35 = .ok (.bipush 12, 2) := by decide +kernel
theorem x85_35 {sc : aSc} {d : Nat} {r : aRes} {L : List Value} {st : List Value} {σ : aS} : Rn sc d 85 35 L st σ r ↔ Rn sc d 85 37 L (.int 12 :: st) σ r := r_bipush d85_35 (by decide)
theorem d85_37 : decode (mC 85) 37 = .ok (.if_icmp .lt 6, 3) := by decide +kernel
theorem x85_37 {sc : aSc} {d : Nat} {r : aRes} {L : List Value} {st : List Value} {σ : aS} {x y : Int32} : Rn sc d 85 37 L (.int y :: .int x :: st) σ r ↔ if x < y then Rn sc d 85 43 L st σ r else Rn sc d 85 40 L st σ r := r_icmp_lt d85_37 rfl
theorem d85_40 : decode (mC 85) 40 = .ok (.bipush (-4), 2) := by decide +kernel
theorem x85_40 {sc : aSc} {d : Nat} {r : aRes} {L : List Value} {st : List Value} {σ : aS} : Rn sc d 85 40 L st σ r ↔ Rn sc d 85 42 L (.int (-4) :: st) σ r := r_bipush d85_40 (by decide)
theorem d85_42 : decode (mC 85) 42 = .ok (.ireturn, 1) := by decide +kernel
theorem x85_42 {sc : aSc} {d : Nat} {r : aRes} {L : List Value} {σ : aS} {x : Int32} : Rn sc d 85 42 L [.int x] σ r ↔ r = (σ, some (.int x)) := r_iret d85_42 rfl rfl
theorem d85_43 : decode (mC 85) 43 = .ok (.aload_n 0, 1) := by decide +kernel
theorem x85_43 {sc : aSc} {d : Nat} {r : aRes} {x0 : Nat} {a1 : Value} {a2 : Value} {a3 : Value} {st : List Value} {σ : aS} : Rn sc d 85 43 [.ref x0, a1, a2, a3] st σ r ↔ Rn sc d 85 44 [.ref x0, a1, a2, a3] (.ref x0 :: st) σ r := r_aload_n d85_43 rfl
theorem d85_44 : decode (mC 85) 44 = .ok (.getfield 50, 3) := by decide +kernel
theorem x85_44 {sc : aSc} {d : Nat} {r : aRes} {L : List Value} {st : List Value} {f : Nat → Nat → Int32} {g : Nat → Nat → Int64} {h1 h2 : Nat} {o : Nat} (hK : KK[o]? = some (.inl 6)) (hR : (RR h1 h2 o 0).isSome = true) : Rn sc d 85 44 L (.ref o :: st) (cS f g h1 h2) r ↔ Rn sc d 85 47 L (.ref (rf h1 h2 o 0) :: st) (cS f g h1 h2) r := r_getR2 d85_44 (ci := 6) (k := 0) rfl (by decide) (fun _ => rfl) hK hR
theorem d85_47 : decode (mC 85) 47 = .ok (.getfield 206, 3) := by decide +kernel
theorem x85_47 {sc : aSc} {d : Nat} {r : aRes} {L : List Value} {st : List Value} {f : Nat → Nat → Int32} {g : Nat → Nat → Int64} {h1 h2 : Nat} {o : Nat} (hK : KK[o]? = some (.inl 1)) (hR : (RR h1 h2 o 12).isSome = true) : Rn sc d 85 47 L (.ref o :: st) (cS f g h1 h2) r ↔ Rn sc d 85 50 L (.ref (rf h1 h2 o 12) :: st) (cS f g h1 h2) r := r_getR2 d85_47 (ci := 1) (k := 12) rfl (by decide) (fun _ => rfl) hK hR
theorem d85_50 : decode (mC 85) 50 = .ok (.aload_n 0, 1) := by decide +kernel
theorem x85_50 {sc : aSc} {d : Nat} {r : aRes} {x0 : Nat} {a1 : Value} {a2 : Value} {a3 : Value} {st : List Value} {σ : aS} : Rn sc d 85 50 [.ref x0, a1, a2, a3] st σ r ↔ Rn sc d 85 51 [.ref x0, a1, a2, a3] (.ref x0 :: st) σ r := r_aload_n d85_50 rfl
theorem d85_51 : decode (mC 85) 51 = .ok (.getfield 50, 3) := by decide +kernel
theorem x85_51 {sc : aSc} {d : Nat} {r : aRes} {L : List Value} {st : List Value} {f : Nat → Nat → Int32} {g : Nat → Nat → Int64} {h1 h2 : Nat} {o : Nat} (hK : KK[o]? = some (.inl 6)) (hR : (RR h1 h2 o 0).isSome = true) : Rn sc d 85 51 L (.ref o :: st) (cS f g h1 h2) r ↔ Rn sc d 85 54 L (.ref (rf h1 h2 o 0) :: st) (cS f g h1 h2) r := r_getR2 d85_51 (ci := 6) (k := 0) rfl (by decide) (fun _ => rfl) hK hR
theorem d85_54 : decode (mC 85) 54 = .ok (.getfield 203, 3) := by decide +kernel
theorem x85_54 {sc : aSc} {d : Nat} {r : aRes} {L : List Value} {st : List Value} {f : Nat → Nat → Int32} {g : Nat → Nat → Int64} {h1 h2 : Nat} {o : Nat} (h17 : 17 ≤ o) (hK : KK[o]? = some (.inl 1)) : Rn sc d 85 54 L (.ref o :: st) (cS f g h1 h2) r ↔ Rn sc d 85 57 L (.int (f o 11) :: st) (cS f g h1 h2) r := r_getI d85_54 (ci := 1) (k := 11) rfl (by decide) (fun _ => rfl) h17 hK
theorem d85_57 : decode (mC 85) 57 = .ok (.iload_n 1, 1) := by decide +kernel
theorem x85_57 {sc : aSc} {d : Nat} {r : aRes} {a0 : Value} {x1 : Int32} {a2 : Value} {a3 : Value} {st : List Value} {σ : aS} : Rn sc d 85 57 [a0, .int x1, a2, a3] st σ r ↔ Rn sc d 85 58 [a0, .int x1, a2, a3] (.int x1 :: st) σ r := r_iload_n d85_57 rfl
theorem d85_58 : decode (mC 85) 58 = .ok (.iastore, 1) := by decide +kernel
theorem x85_58 {sc : aSc} {d : Nat} {r : aRes} {L : List Value} {st : List Value} {f : Nat → Nat → Int32} {g : Nat → Nat → Int64} {h1 h2 : Nat} {a : Nat} {i : Int32} {x : Int32} (h17 : 17 ≤ a) (hA : isT9 .int a) (hi : inb i (aln a) = true) : Rn sc d 85 58 L (.int x :: .int i :: .ref a :: st) (cS f g h1 h2) r ↔ Rn sc d 85 59 L st (cS (u2 f a i.toNatClampNeg x) g h1 h2) r := r_iast d85_58 h17 hA hi
theorem d85_59 : decode (mC 85) 59 = .ok (.aload_n 0, 1) := by decide +kernel
theorem x85_59 {sc : aSc} {d : Nat} {r : aRes} {x0 : Nat} {a1 : Value} {a2 : Value} {a3 : Value} {st : List Value} {σ : aS} : Rn sc d 85 59 [.ref x0, a1, a2, a3] st σ r ↔ Rn sc d 85 60 [.ref x0, a1, a2, a3] (.ref x0 :: st) σ r := r_aload_n d85_59 rfl
theorem d85_60 : decode (mC 85) 60 = .ok (.getfield 50, 3) := by decide +kernel
theorem x85_60 {sc : aSc} {d : Nat} {r : aRes} {L : List Value} {st : List Value} {f : Nat → Nat → Int32} {g : Nat → Nat → Int64} {h1 h2 : Nat} {o : Nat} (hK : KK[o]? = some (.inl 6)) (hR : (RR h1 h2 o 0).isSome = true) : Rn sc d 85 60 L (.ref o :: st) (cS f g h1 h2) r ↔ Rn sc d 85 63 L (.ref (rf h1 h2 o 0) :: st) (cS f g h1 h2) r := r_getR2 d85_60 (ci := 6) (k := 0) rfl (by decide) (fun _ => rfl) hK hR
theorem d85_63 : decode (mC 85) 63 = .ok (.getfield 209, 3) := by decide +kernel
theorem x85_63 {sc : aSc} {d : Nat} {r : aRes} {L : List Value} {st : List Value} {f : Nat → Nat → Int32} {g : Nat → Nat → Int64} {h1 h2 : Nat} {o : Nat} (hK : KK[o]? = some (.inl 1)) (hR : (RR h1 h2 o 13).isSome = true) : Rn sc d 85 63 L (.ref o :: st) (cS f g h1 h2) r ↔ Rn sc d 85 66 L (.ref (rf h1 h2 o 13) :: st) (cS f g h1 h2) r := r_getR2 d85_63 (ci := 1) (k := 13) rfl (by decide) (fun _ => rfl) hK hR
theorem d85_66 : decode (mC 85) 66 = .ok (.aload_n 0, 1) := by decide +kernel
theorem x85_66 {sc : aSc} {d : Nat} {r : aRes} {x0 : Nat} {a1 : Value} {a2 : Value} {a3 : Value} {st : List Value} {σ : aS} : Rn sc d 85 66 [.ref x0, a1, a2, a3] st σ r ↔ Rn sc d 85 67 [.ref x0, a1, a2, a3] (.ref x0 :: st) σ r := r_aload_n d85_66 rfl
theorem d85_67 : decode (mC 85) 67 = .ok (.getfield 50, 3) := by decide +kernel
theorem x85_67 {sc : aSc} {d : Nat} {r : aRes} {L : List Value} {st : List Value} {f : Nat → Nat → Int32} {g : Nat → Nat → Int64} {h1 h2 : Nat} {o : Nat} (hK : KK[o]? = some (.inl 6)) (hR : (RR h1 h2 o 0).isSome = true) : Rn sc d 85 67 L (.ref o :: st) (cS f g h1 h2) r ↔ Rn sc d 85 70 L (.ref (rf h1 h2 o 0) :: st) (cS f g h1 h2) r := r_getR2 d85_67 (ci := 6) (k := 0) rfl (by decide) (fun _ => rfl) hK hR
theorem d85_70 : decode (mC 85) 70 = .ok (.getfield 203, 3) := by decide +kernel
theorem x85_70 {sc : aSc} {d : Nat} {r : aRes} {L : List Value} {st : List Value} {f : Nat → Nat → Int32} {g : Nat → Nat → Int64} {h1 h2 : Nat} {o : Nat} (h17 : 17 ≤ o) (hK : KK[o]? = some (.inl 1)) : Rn sc d 85 70 L (.ref o :: st) (cS f g h1 h2) r ↔ Rn sc d 85 73 L (.int (f o 11) :: st) (cS f g h1 h2) r := r_getI d85_70 (ci := 1) (k := 11) rfl (by decide) (fun _ => rfl) h17 hK
theorem d85_73 : decode (mC 85) 73 = .ok (.iload_n 2, 1) := by decide +kernel
theorem x85_73 {sc : aSc} {d : Nat} {r : aRes} {a0 : Value} {a1 : Value} {x2 : Int32} {a3 : Value} {st : List Value} {σ : aS} : Rn sc d 85 73 [a0, a1, .int x2, a3] st σ r ↔ Rn sc d 85 74 [a0, a1, .int x2, a3] (.int x2 :: st) σ r := r_iload_n d85_73 rfl
theorem d85_74 : decode (mC 85) 74 = .ok (.iastore, 1) := by decide +kernel
theorem x85_74 {sc : aSc} {d : Nat} {r : aRes} {L : List Value} {st : List Value} {f : Nat → Nat → Int32} {g : Nat → Nat → Int64} {h1 h2 : Nat} {a : Nat} {i : Int32} {x : Int32} (h17 : 17 ≤ a) (hA : isT9 .int a) (hi : inb i (aln a) = true) : Rn sc d 85 74 L (.int x :: .int i :: .ref a :: st) (cS f g h1 h2) r ↔ Rn sc d 85 75 L st (cS (u2 f a i.toNatClampNeg x) g h1 h2) r := r_iast d85_74 h17 hA hi
theorem d85_75 : decode (mC 85) 75 = .ok (.aload_n 0, 1) := by decide +kernel
theorem x85_75 {sc : aSc} {d : Nat} {r : aRes} {x0 : Nat} {a1 : Value} {a2 : Value} {a3 : Value} {st : List Value} {σ : aS} : Rn sc d 85 75 [.ref x0, a1, a2, a3] st σ r ↔ Rn sc d 85 76 [.ref x0, a1, a2, a3] (.ref x0 :: st) σ r := r_aload_n d85_75 rfl
theorem d85_76 : decode (mC 85) 76 = .ok (.getfield 50, 3) := by decide +kernel
theorem x85_76 {sc : aSc} {d : Nat} {r : aRes} {L : List Value} {st : List Value} {f : Nat → Nat → Int32} {g : Nat → Nat → Int64} {h1 h2 : Nat} {o : Nat} (hK : KK[o]? = some (.inl 6)) (hR : (RR h1 h2 o 0).isSome = true) : Rn sc d 85 76 L (.ref o :: st) (cS f g h1 h2) r ↔ Rn sc d 85 79 L (.ref (rf h1 h2 o 0) :: st) (cS f g h1 h2) r := r_getR2 d85_76 (ci := 6) (k := 0) rfl (by decide) (fun _ => rfl) hK hR
theorem d85_79 : decode (mC 85) 79 = .ok (.dup, 1) := by decide +kernel
theorem x85_79 {sc : aSc} {d : Nat} {r : aRes} {L : List Value} {st : List Value} {σ : aS} {y : Nat} : Rn sc d 85 79 L (.ref y :: st) σ r ↔ Rn sc d 85 80 L (.ref y :: .ref y :: st) σ r := r_dup d85_79 rfl
theorem d85_80 : decode (mC 85) 80 = .ok (.getfield 203, 3) := by decide +kernel
theorem x85_80 {sc : aSc} {d : Nat} {r : aRes} {L : List Value} {st : List Value} {f : Nat → Nat → Int32} {g : Nat → Nat → Int64} {h1 h2 : Nat} {o : Nat} (h17 : 17 ≤ o) (hK : KK[o]? = some (.inl 1)) : Rn sc d 85 80 L (.ref o :: st) (cS f g h1 h2) r ↔ Rn sc d 85 83 L (.int (f o 11) :: st) (cS f g h1 h2) r := r_getI d85_80 (ci := 1) (k := 11) rfl (by decide) (fun _ => rfl) h17 hK
theorem d85_83 : decode (mC 85) 83 = .ok (.iconst 1, 1) := by decide +kernel
theorem x85_83 {sc : aSc} {d : Nat} {r : aRes} {L : List Value} {st : List Value} {σ : aS} : Rn sc d 85 83 L st σ r ↔ Rn sc d 85 84 L (.int 1 :: st) σ r := r_iconst d85_83 (by decide)
theorem d85_84 : decode (mC 85) 84 = .ok (.iadd, 1) := by decide +kernel
theorem x85_84 {sc : aSc} {d : Nat} {r : aRes} {L : List Value} {st : List Value} {σ : aS} {x y : Int32} : Rn sc d 85 84 L (.int y :: .int x :: st) σ r ↔ Rn sc d 85 85 L (.int (x + y) :: st) σ r := r_iadd d85_84
theorem d85_85 : decode (mC 85) 85 = .ok (.putfield 203, 3) := by decide +kernel
theorem x85_85 {sc : aSc} {d : Nat} {r : aRes} {L : List Value} {st : List Value} {f : Nat → Nat → Int32} {g : Nat → Nat → Int64} {h1 h2 : Nat} {o : Nat} {v : Int32} (h17 : 17 ≤ o) (hK : KK[o]? = some (.inl 1)) : Rn sc d 85 85 L (.int v :: .ref o :: st) (cS f g h1 h2) r ↔ Rn sc d 85 88 L st (cS (u2 f o 11 v) g h1 h2) r := r_putI d85_85 (ci := 1) (k := 11) rfl (by decide) h17 hK
theorem d85_88 : decode (mC 85) 88 = .ok (.aload_n 0, 1) := by decide +kernel
theorem x85_88 {sc : aSc} {d : Nat} {r : aRes} {x0 : Nat} {a1 : Value} {a2 : Value} {a3 : Value} {st : List Value} {σ : aS} : Rn sc d 85 88 [.ref x0, a1, a2, a3] st σ r ↔ Rn sc d 85 89 [.ref x0, a1, a2, a3] (.ref x0 :: st) σ r := r_aload_n d85_88 rfl
theorem d85_89 : decode (mC 85) 89 = .ok (.getfield 50, 3) := by decide +kernel
theorem x85_89 {sc : aSc} {d : Nat} {r : aRes} {L : List Value} {st : List Value} {f : Nat → Nat → Int32} {g : Nat → Nat → Int64} {h1 h2 : Nat} {o : Nat} (hK : KK[o]? = some (.inl 6)) (hR : (RR h1 h2 o 0).isSome = true) : Rn sc d 85 89 L (.ref o :: st) (cS f g h1 h2) r ↔ Rn sc d 85 92 L (.ref (rf h1 h2 o 0) :: st) (cS f g h1 h2) r := r_getR2 d85_89 (ci := 6) (k := 0) rfl (by decide) (fun _ => rfl) hK hR
theorem d85_92 : decode (mC 85) 92 = .ok (.getfield 203, 3) := by decide +kernel
theorem x85_92 {sc : aSc} {d : Nat} {r : aRes} {L : List Value} {st : List Value} {f : Nat → Nat → Int32} {g : Nat → Nat → Int64} {h1 h2 : Nat} {o : Nat} (h17 : 17 ≤ o) (hK : KK[o]? = some (.inl 1)) : Rn sc d 85 92 L (.ref o :: st) (cS f g h1 h2) r ↔ Rn sc d 85 95 L (.int (f o 11) :: st) (cS f g h1 h2) r := r_getI d85_92 (ci := 1) (k := 11) rfl (by decide) (fun _ => rfl) h17 hK
theorem d85_95 : decode (mC 85) 95 = .ok (.ireturn, 1) := by decide +kernel
theorem x85_95 {sc : aSc} {d : Nat} {r : aRes} {L : List Value} {σ : aS} {x : Int32} : Rn sc d 85 95 L [.int x] σ r ↔ r = (σ, some (.int x)) := r_iret d85_95 rfl rfl
theorem d86_0 : decode (mC 86) 0 = .ok (.iload_n 1, 1) := by decide +kernel
theorem x86_0 {sc : aSc} {d : Nat} {r : aRes} {a0 : Value} {x1 : Int32} {a2 : Value} {a3 : Value} {a4 : Value} {a5 : Value} {a6 : Value} {a7 : Value} {a8 : Value} {a9 : Value} {st : List Value} {σ : aS} : Rn sc d 86 0 [a0, .int x1, a2, a3, a4, a5, a6, a7, a8, a9] st σ r ↔ Rn sc d 86 1 [a0, .int x1, a2, a3, a4, a5, a6, a7, a8, a9] (.int x1 :: st) σ r := r_iload_n d86_0 rfl
theorem d86_1 : decode (mC 86) 1 = .ok (.iconst 2, 1) := by decide +kernel
theorem x86_1 {sc : aSc} {d : Nat} {r : aRes} {L : List Value} {st : List Value} {σ : aS} : Rn sc d 86 1 L st σ r ↔ Rn sc d 86 2 L (.int 2 :: st) σ r := r_iconst d86_1 (by decide)
theorem d86_2 : decode (mC 86) 2 = .ok (.invokestatic 58, 3) := by decide +kernel
theorem x86_2 {sc : aSc} {d : Nat} {r : aRes} {L : List Value} {σ : aS} {y0 : Int32} {y1 : Int32}  : Rn sc d 86 2 L [.int y0, .int y1] σ r ↔ ∃ (σ3 : aS) (v : Option Value), Cl sc d 102 [.int y1, .int y0] σ (σ3, v) ∧ Rn sc d 86 5 L (v.toList ++ []) σ3 r := r_callS (vs := [.int y0, .int y1]) d86_2 rfl (j := 102) rfl ⟨rfl, by decide, rfl, rfl⟩ (Nat.le_of_ble_eq_true rfl)
theorem d86_5 : decode (mC 86) 5 = .ok (.ifCond .ne 5, 3) := by decide +kernel
theorem x86_5 {sc : aSc} {d : Nat} {r : aRes} {L : List Value} {st : List Value} {σ : aS} {x : Int32} : Rn sc d 86 5 L (.int x :: st) σ r ↔ if x = 0 then Rn sc d 86 8 L st σ r else Rn sc d 86 10 L st σ r := r_if_ne d86_5 rfl
theorem d86_8 : decode (mC 86) 8 = .ok (.iconst (-1), 1) := by decide +kernel
theorem x86_8 {sc : aSc} {d : Nat} {r : aRes} {L : List Value} {st : List Value} {σ : aS} : Rn sc d 86 8 L st σ r ↔ Rn sc d 86 9 L (.int (-1) :: st) σ r := r_iconst d86_8 (by decide)
theorem d86_9 : decode (mC 86) 9 = .ok (.ireturn, 1) := by decide +kernel
theorem x86_9 {sc : aSc} {d : Nat} {r : aRes} {L : List Value} {σ : aS} {x : Int32} : Rn sc d 86 9 L [.int x] σ r ↔ r = (σ, some (.int x)) := r_iret d86_9 rfl rfl
theorem d86_10 : decode (mC 86) 10 = .ok (.aload_n 0, 1) := by decide +kernel
theorem x86_10 {sc : aSc} {d : Nat} {r : aRes} {x0 : Nat} {a1 : Value} {a2 : Value} {a3 : Value} {a4 : Value} {a5 : Value} {a6 : Value} {a7 : Value} {a8 : Value} {a9 : Value} {st : List Value} {σ : aS} : Rn sc d 86 10 [.ref x0, a1, a2, a3, a4, a5, a6, a7, a8, a9] st σ r ↔ Rn sc d 86 11 [.ref x0, a1, a2, a3, a4, a5, a6, a7, a8, a9] (.ref x0 :: st) σ r := r_aload_n d86_10 rfl
theorem d86_11 : decode (mC 86) 11 = .ok (.getfield 50, 3) := by decide +kernel
theorem x86_11 {sc : aSc} {d : Nat} {r : aRes} {L : List Value} {st : List Value} {f : Nat → Nat → Int32} {g : Nat → Nat → Int64} {h1 h2 : Nat} {o : Nat} (hK : KK[o]? = some (.inl 6)) (hR : (RR h1 h2 o 0).isSome = true) : Rn sc d 86 11 L (.ref o :: st) (cS f g h1 h2) r ↔ Rn sc d 86 14 L (.ref (rf h1 h2 o 0) :: st) (cS f g h1 h2) r := r_getR2 d86_11 (ci := 6) (k := 0) rfl (by decide) (fun _ => rfl) hK hR
theorem d86_14 : decode (mC 86) 14 = .ok (.getfield 129, 3) := by decide +kernel
theorem x86_14 {sc : aSc} {d : Nat} {r : aRes} {L : List Value} {st : List Value} {f : Nat → Nat → Int32} {g : Nat → Nat → Int64} {h1 h2 : Nat} {o : Nat} (h17 : 17 ≤ o) (hK : KK[o]? = some (.inl 1)) : Rn sc d 86 14 L (.ref o :: st) (cS f g h1 h2) r ↔ Rn sc d 86 17 L (.int (f o 4) :: st) (cS f g h1 h2) r := r_getI d86_14 (ci := 1) (k := 4) rfl (by decide) (fun _ => rfl) h17 hK
theorem d86_17 : decode (mC 86) 17 = .ok (.istore_n 2, 1) := by decide +kernel
theorem x86_17 {sc : aSc} {d : Nat} {r : aRes} {a0 : Value} {x1 : Int32} {a2 : Value} {a3 : Value} {a4 : Value} {a5 : Value} {a6 : Value} {a7 : Value} {a8 : Value} {a9 : Value} {st : List Value} {σ : aS} {y : Int32} : Rn sc d 86 17 [a0, .int x1, a2, a3, a4, a5, a6, a7, a8, a9] (.int y :: st) σ r ↔ Rn sc d 86 18 [a0, .int x1, .int y, a3, a4, a5, a6, a7, a8, a9] st σ r := r_istore_n d86_17 (Nat.le_of_ble_eq_true rfl) rfl
theorem d86_18 : decode (mC 86) 18 = .ok (.aload_n 0, 1) := by decide +kernel
theorem x86_18 {sc : aSc} {d : Nat} {r : aRes} {x0 : Nat} {a1 : Value} {a2 : Value} {a3 : Value} {a4 : Value} {a5 : Value} {a6 : Value} {a7 : Value} {a8 : Value} {a9 : Value} {st : List Value} {σ : aS} : Rn sc d 86 18 [.ref x0, a1, a2, a3, a4, a5, a6, a7, a8, a9] st σ r ↔ Rn sc d 86 19 [.ref x0, a1, a2, a3, a4, a5, a6, a7, a8, a9] (.ref x0 :: st) σ r := r_aload_n d86_18 rfl
theorem d86_19 : decode (mC 86) 19 = .ok (.getfield 50, 3) := by decide +kernel
theorem x86_19 {sc : aSc} {d : Nat} {r : aRes} {L : List Value} {st : List Value} {f : Nat → Nat → Int32} {g : Nat → Nat → Int64} {h1 h2 : Nat} {o : Nat} (hK : KK[o]? = some (.inl 6)) (hR : (RR h1 h2 o 0).isSome = true) : Rn sc d 86 19 L (.ref o :: st) (cS f g h1 h2) r ↔ Rn sc d 86 22 L (.ref (rf h1 h2 o 0) :: st) (cS f g h1 h2) r := r_getR2 d86_19 (ci := 6) (k := 0) rfl (by decide) (fun _ => rfl) hK hR
theorem d86_22 : decode (mC 86) 22 = .ok (.getfield 126, 3) := by decide +kernel
theorem x86_22 {sc : aSc} {d : Nat} {r : aRes} {L : List Value} {st : List Value} {f : Nat → Nat → Int32} {g : Nat → Nat → Int64} {h1 h2 : Nat} {o : Nat} (h17 : 17 ≤ o) (hK : KK[o]? = some (.inl 1)) : Rn sc d 86 22 L (.ref o :: st) (cS f g h1 h2) r ↔ Rn sc d 86 25 L (.int (f o 2) :: st) (cS f g h1 h2) r := r_getI d86_22 (ci := 1) (k := 2) rfl (by decide) (fun _ => rfl) h17 hK
theorem d86_25 : decode (mC 86) 25 = .ok (.istore_n 3, 1) := by decide +kernel
theorem x86_25 {sc : aSc} {d : Nat} {r : aRes} {a0 : Value} {a1 : Value} {x2 : Int32} {a3 : Value} {a4 : Value} {a5 : Value} {a6 : Value} {a7 : Value} {a8 : Value} {a9 : Value} {st : List Value} {σ : aS} {y : Int32} : Rn sc d 86 25 [a0, a1, .int x2, a3, a4, a5, a6, a7, a8, a9] (.int y :: st) σ r ↔ Rn sc d 86 26 [a0, a1, .int x2, .int y, a4, a5, a6, a7, a8, a9] st σ r := r_istore_n d86_25 (Nat.le_of_ble_eq_true rfl) rfl
theorem d86_26 : decode (mC 86) 26 = .ok (.iconst 0, 1) := by decide +kernel
theorem x86_26 {sc : aSc} {d : Nat} {r : aRes} {L : List Value} {st : List Value} {σ : aS} : Rn sc d 86 26 L st σ r ↔ Rn sc d 86 27 L (.int 0 :: st) σ r := r_iconst d86_26 (by decide)
theorem d86_27 : decode (mC 86) 27 = .ok (.istore 4, 2) := by decide +kernel
theorem x86_27 {sc : aSc} {d : Nat} {r : aRes} {a0 : Value} {a1 : Value} {a2 : Value} {x3 : Int32} {a4 : Value} {a5 : Value} {a6 : Value} {a7 : Value} {a8 : Value} {a9 : Value} {st : List Value} {σ : aS} {y : Int32} : Rn sc d 86 27 [a0, a1, a2, .int x3, a4, a5, a6, a7, a8, a9] (.int y :: st) σ r ↔ Rn sc d 86 29 [a0, a1, a2, .int x3, .int y, a5, a6, a7, a8, a9] st σ r := r_istore d86_27 (Nat.le_of_ble_eq_true rfl) rfl
theorem d86_29 : decode (mC 86) 29 = .ok (.bipush (-5), 2) := by decide +kernel
theorem x86_29 {sc : aSc} {d : Nat} {r : aRes} {L : List Value} {st : List Value} {σ : aS} : Rn sc d 86 29 L st σ r ↔ Rn sc d 86 31 L (.int (-5) :: st) σ r := r_bipush d86_29 (by decide)
theorem d86_31 : decode (mC 86) 31 = .ok (.istore 5, 2) := by decide +kernel
theorem x86_31 {sc : aSc} {d : Nat} {r : aRes} {a0 : Value} {a1 : Value} {a2 : Value} {a3 : Value} {x4 : Int32} {a5 : Value} {a6 : Value} {a7 : Value} {a8 : Value} {a9 : Value} {st : List Value} {σ : aS} {y : Int32} : Rn sc d 86 31 [a0, a1, a2, a3, .int x4, a5, a6, a7, a8, a9] (.int y :: st) σ r ↔ Rn sc d 86 33 [a0, a1, a2, a3, .int x4, .int y, a6, a7, a8, a9] st σ r := r_istore d86_31 (Nat.le_of_ble_eq_true rfl) rfl
theorem d86_33 : decode (mC 86) 33 = .ok (.iconst 0, 1) := by decide +kernel
theorem x86_33 {sc : aSc} {d : Nat} {r : aRes} {L : List Value} {st : List Value} {σ : aS} : Rn sc d 86 33 L st σ r ↔ Rn sc d 86 34 L (.int 0 :: st) σ r := r_iconst d86_33 (by decide)
theorem d86_34 : decode (mC 86) 34 = .ok (.istore 6, 2) := by decide +kernel
theorem x86_34 {sc : aSc} {d : Nat} {r : aRes} {a0 : Value} {a1 : Value} {a2 : Value} {a3 : Value} {a4 : Value} {x5 : Int32} {a6 : Value} {a7 : Value} {a8 : Value} {a9 : Value} {st : List Value} {σ : aS} {y : Int32} : Rn sc d 86 34 [a0, a1, a2, a3, a4, .int x5, a6, a7, a8, a9] (.int y :: st) σ r ↔ Rn sc d 86 36 [a0, a1, a2, a3, a4, .int x5, .int y, a7, a8, a9] st σ r := r_istore d86_34 (Nat.le_of_ble_eq_true rfl) rfl
theorem d86_36 : decode (mC 86) 36 = .ok (.iload 6, 2) := by decide +kernel
theorem x86_36 {sc : aSc} {d : Nat} {r : aRes} {a0 : Value} {a1 : Value} {a2 : Value} {a3 : Value} {a4 : Value} {a5 : Value} {x6 : Int32} {a7 : Value} {a8 : Value} {a9 : Value} {st : List Value} {σ : aS} : Rn sc d 86 36 [a0, a1, a2, a3, a4, a5, .int x6, a7, a8, a9] st σ r ↔ Rn sc d 86 38 [a0, a1, a2, a3, a4, a5, .int x6, a7, a8, a9] (.int x6 :: st) σ r := r_iload d86_36 rfl
theorem d86_38 : decode (mC 86) 38 = .ok (.aload_n 0, 1) := by decide +kernel
theorem x86_38 {sc : aSc} {d : Nat} {r : aRes} {x0 : Nat} {a1 : Value} {a2 : Value} {a3 : Value} {a4 : Value} {a5 : Value} {a6 : Value} {a7 : Value} {a8 : Value} {a9 : Value} {st : List Value} {σ : aS} : Rn sc d 86 38 [.ref x0, a1, a2, a3, a4, a5, a6, a7, a8, a9] st σ r ↔ Rn sc d 86 39 [.ref x0, a1, a2, a3, a4, a5, a6, a7, a8, a9] (.ref x0 :: st) σ r := r_aload_n d86_38 rfl
theorem d86_39 : decode (mC 86) 39 = .ok (.getfield 50, 3) := by decide +kernel
theorem x86_39 {sc : aSc} {d : Nat} {r : aRes} {L : List Value} {st : List Value} {f : Nat → Nat → Int32} {g : Nat → Nat → Int64} {h1 h2 : Nat} {o : Nat} (hK : KK[o]? = some (.inl 6)) (hR : (RR h1 h2 o 0).isSome = true) : Rn sc d 86 39 L (.ref o :: st) (cS f g h1 h2) r ↔ Rn sc d 86 42 L (.ref (rf h1 h2 o 0) :: st) (cS f g h1 h2) r := r_getR2 d86_39 (ci := 6) (k := 0) rfl (by decide) (fun _ => rfl) hK hR
theorem d86_42 : decode (mC 86) 42 = .ok (.getfield 203, 3) := by decide +kernel
theorem x86_42 {sc : aSc} {d : Nat} {r : aRes} {L : List Value} {st : List Value} {f : Nat → Nat → Int32} {g : Nat → Nat → Int64} {h1 h2 : Nat} {o : Nat} (h17 : 17 ≤ o) (hK : KK[o]? = some (.inl 1)) : Rn sc d 86 42 L (.ref o :: st) (cS f g h1 h2) r ↔ Rn sc d 86 45 L (.int (f o 11) :: st) (cS f g h1 h2) r := r_getI d86_42 (ci := 1) (k := 11) rfl (by decide) (fun _ => rfl) h17 hK
theorem d86_45 : decode (mC 86) 45 = .ok (.if_icmp .ge 119, 3) := by decide +kernel
theorem x86_45 {sc : aSc} {d : Nat} {r : aRes} {L : List Value} {st : List Value} {σ : aS} {x y : Int32} : Rn sc d 86 45 L (.int y :: .int x :: st) σ r ↔ if x < y then Rn sc d 86 48 L st σ r else Rn sc d 86 164 L st σ r := r_icmp_ge d86_45 rfl
theorem d86_48 : decode (mC 86) 48 = .ok (.aload_n 0, 1) := by decide +kernel
theorem x86_48 {sc : aSc} {d : Nat} {r : aRes} {x0 : Nat} {a1 : Value} {a2 : Value} {a3 : Value} {a4 : Value} {a5 : Value} {a6 : Value} {a7 : Value} {a8 : Value} {a9 : Value} {st : List Value} {σ : aS} : Rn sc d 86 48 [.ref x0, a1, a2, a3, a4, a5, a6, a7, a8, a9] st σ r ↔ Rn sc d 86 49 [.ref x0, a1, a2, a3, a4, a5, a6, a7, a8, a9] (.ref x0 :: st) σ r := r_aload_n d86_48 rfl
theorem d86_49 : decode (mC 86) 49 = .ok (.getfield 50, 3) := by decide +kernel
theorem x86_49 {sc : aSc} {d : Nat} {r : aRes} {L : List Value} {st : List Value} {f : Nat → Nat → Int32} {g : Nat → Nat → Int64} {h1 h2 : Nat} {o : Nat} (hK : KK[o]? = some (.inl 6)) (hR : (RR h1 h2 o 0).isSome = true) : Rn sc d 86 49 L (.ref o :: st) (cS f g h1 h2) r ↔ Rn sc d 86 52 L (.ref (rf h1 h2 o 0) :: st) (cS f g h1 h2) r := r_getR2 d86_49 (ci := 6) (k := 0) rfl (by decide) (fun _ => rfl) hK hR
theorem d86_52 : decode (mC 86) 52 = .ok (.getfield 206, 3) := by decide +kernel
theorem x86_52 {sc : aSc} {d : Nat} {r : aRes} {L : List Value} {st : List Value} {f : Nat → Nat → Int32} {g : Nat → Nat → Int64} {h1 h2 : Nat} {o : Nat} (hK : KK[o]? = some (.inl 1)) (hR : (RR h1 h2 o 12).isSome = true) : Rn sc d 86 52 L (.ref o :: st) (cS f g h1 h2) r ↔ Rn sc d 86 55 L (.ref (rf h1 h2 o 12) :: st) (cS f g h1 h2) r := r_getR2 d86_52 (ci := 1) (k := 12) rfl (by decide) (fun _ => rfl) hK hR
theorem d86_55 : decode (mC 86) 55 = .ok (.iload 6, 2) := by decide +kernel
theorem x86_55 {sc : aSc} {d : Nat} {r : aRes} {a0 : Value} {a1 : Value} {a2 : Value} {a3 : Value} {a4 : Value} {a5 : Value} {x6 : Int32} {a7 : Value} {a8 : Value} {a9 : Value} {st : List Value} {σ : aS} : Rn sc d 86 55 [a0, a1, a2, a3, a4, a5, .int x6, a7, a8, a9] st σ r ↔ Rn sc d 86 57 [a0, a1, a2, a3, a4, a5, .int x6, a7, a8, a9] (.int x6 :: st) σ r := r_iload d86_55 rfl
theorem d86_57 : decode (mC 86) 57 = .ok (.iaload, 1) := by decide +kernel
theorem x86_57 {sc : aSc} {d : Nat} {r : aRes} {L : List Value} {st : List Value} {f : Nat → Nat → Int32} {g : Nat → Nat → Int64} {h1 h2 : Nat} {a : Nat} {i : Int32} (h17 : 17 ≤ a) (hA : isT9 .int a) (hi : inb i (aln a) = true) : Rn sc d 86 57 L (.int i :: .ref a :: st) (cS f g h1 h2) r ↔ Rn sc d 86 58 L (.int (f a i.toNatClampNeg) :: st) (cS f g h1 h2) r := r_iald d86_57 h17 hA hi
theorem d86_58 : decode (mC 86) 58 = .ok (.istore 7, 2) := by decide +kernel
theorem x86_58 {sc : aSc} {d : Nat} {r : aRes} {a0 : Value} {a1 : Value} {a2 : Value} {a3 : Value} {a4 : Value} {a5 : Value} {x6 : Int32} {a7 : Value} {a8 : Value} {a9 : Value} {st : List Value} {σ : aS} {y : Int32} : Rn sc d 86 58 [a0, a1, a2, a3, a4, a5, .int x6, a7, a8, a9] (.int y :: st) σ r ↔ Rn sc d 86 60 [a0, a1, a2, a3, a4, a5, .int x6, .int y, a8, a9] st σ r := r_istore d86_58 (Nat.le_of_ble_eq_true rfl) rfl
theorem d86_60 : decode (mC 86) 60 = .ok (.aload_n 0, 1) := by decide +kernel
theorem x86_60 {sc : aSc} {d : Nat} {r : aRes} {x0 : Nat} {a1 : Value} {a2 : Value} {a3 : Value} {a4 : Value} {a5 : Value} {a6 : Value} {a7 : Value} {a8 : Value} {a9 : Value} {st : List Value} {σ : aS} : Rn sc d 86 60 [.ref x0, a1, a2, a3, a4, a5, a6, a7, a8, a9] st σ r ↔ Rn sc d 86 61 [.ref x0, a1, a2, a3, a4, a5, a6, a7, a8, a9] (.ref x0 :: st) σ r := r_aload_n d86_60 rfl
theorem d86_61 : decode (mC 86) 61 = .ok (.getfield 50, 3) := by decide +kernel
theorem x86_61 {sc : aSc} {d : Nat} {r : aRes} {L : List Value} {st : List Value} {f : Nat → Nat → Int32} {g : Nat → Nat → Int64} {h1 h2 : Nat} {o : Nat} (hK : KK[o]? = some (.inl 6)) (hR : (RR h1 h2 o 0).isSome = true) : Rn sc d 86 61 L (.ref o :: st) (cS f g h1 h2) r ↔ Rn sc d 86 64 L (.ref (rf h1 h2 o 0) :: st) (cS f g h1 h2) r := r_getR2 d86_61 (ci := 6) (k := 0) rfl (by decide) (fun _ => rfl) hK hR
theorem d86_64 : decode (mC 86) 64 = .ok (.getfield 209, 3) := by decide +kernel
theorem x86_64 {sc : aSc} {d : Nat} {r : aRes} {L : List Value} {st : List Value} {f : Nat → Nat → Int32} {g : Nat → Nat → Int64} {h1 h2 : Nat} {o : Nat} (hK : KK[o]? = some (.inl 1)) (hR : (RR h1 h2 o 13).isSome = true) : Rn sc d 86 64 L (.ref o :: st) (cS f g h1 h2) r ↔ Rn sc d 86 67 L (.ref (rf h1 h2 o 13) :: st) (cS f g h1 h2) r := r_getR2 d86_64 (ci := 1) (k := 13) rfl (by decide) (fun _ => rfl) hK hR
theorem d86_67 : decode (mC 86) 67 = .ok (.iload 6, 2) := by decide +kernel
theorem x86_67 {sc : aSc} {d : Nat} {r : aRes} {a0 : Value} {a1 : Value} {a2 : Value} {a3 : Value} {a4 : Value} {a5 : Value} {x6 : Int32} {a7 : Value} {a8 : Value} {a9 : Value} {st : List Value} {σ : aS} : Rn sc d 86 67 [a0, a1, a2, a3, a4, a5, .int x6, a7, a8, a9] st σ r ↔ Rn sc d 86 69 [a0, a1, a2, a3, a4, a5, .int x6, a7, a8, a9] (.int x6 :: st) σ r := r_iload d86_67 rfl
theorem d86_69 : decode (mC 86) 69 = .ok (.iaload, 1) := by decide +kernel
theorem x86_69 {sc : aSc} {d : Nat} {r : aRes} {L : List Value} {st : List Value} {f : Nat → Nat → Int32} {g : Nat → Nat → Int64} {h1 h2 : Nat} {a : Nat} {i : Int32} (h17 : 17 ≤ a) (hA : isT9 .int a) (hi : inb i (aln a) = true) : Rn sc d 86 69 L (.int i :: .ref a :: st) (cS f g h1 h2) r ↔ Rn sc d 86 70 L (.int (f a i.toNatClampNeg) :: st) (cS f g h1 h2) r := r_iald d86_69 h17 hA hi
theorem d86_70 : decode (mC 86) 70 = .ok (.istore 8, 2) := by decide +kernel
theorem x86_70 {sc : aSc} {d : Nat} {r : aRes} {a0 : Value} {a1 : Value} {a2 : Value} {a3 : Value} {a4 : Value} {a5 : Value} {a6 : Value} {x7 : Int32} {a8 : Value} {a9 : Value} {st : List Value} {σ : aS} {y : Int32} : Rn sc d 86 70 [a0, a1, a2, a3, a4, a5, a6, .int x7, a8, a9] (.int y :: st) σ r ↔ Rn sc d 86 72 [a0, a1, a2, a3, a4, a5, a6, .int x7, .int y, a9] st σ r := r_istore d86_70 (Nat.le_of_ble_eq_true rfl) rfl
theorem d86_72 : decode (mC 86) 72 = .ok (.aload_n 0, 1) := by decide +kernel
theorem x86_72 {sc : aSc} {d : Nat} {r : aRes} {x0 : Nat} {a1 : Value} {a2 : Value} {a3 : Value} {a4 : Value} {a5 : Value} {a6 : Value} {a7 : Value} {a8 : Value} {a9 : Value} {st : List Value} {σ : aS} : Rn sc d 86 72 [.ref x0, a1, a2, a3, a4, a5, a6, a7, a8, a9] st σ r ↔ Rn sc d 86 73 [.ref x0, a1, a2, a3, a4, a5, a6, a7, a8, a9] (.ref x0 :: st) σ r := r_aload_n d86_72 rfl
theorem d86_73 : decode (mC 86) 73 = .ok (.getfield 50, 3) := by decide +kernel
theorem x86_73 {sc : aSc} {d : Nat} {r : aRes} {L : List Value} {st : List Value} {f : Nat → Nat → Int32} {g : Nat → Nat → Int64} {h1 h2 : Nat} {o : Nat} (hK : KK[o]? = some (.inl 6)) (hR : (RR h1 h2 o 0).isSome = true) : Rn sc d 86 73 L (.ref o :: st) (cS f g h1 h2) r ↔ Rn sc d 86 76 L (.ref (rf h1 h2 o 0) :: st) (cS f g h1 h2) r := r_getR2 d86_73 (ci := 6) (k := 0) rfl (by decide) (fun _ => rfl) hK hR
theorem d86_76 : decode (mC 86) 76 = .ok (.getfield 123, 3) := by decide +kernel
theorem x86_76 {sc : aSc} {d : Nat} {r : aRes} {L : List Value} {st : List Value} {f : Nat → Nat → Int32} {g : Nat → Nat → Int64} {h1 h2 : Nat} {o : Nat} (h17 : 17 ≤ o) (hK : KK[o]? = some (.inl 1)) : Rn sc d 86 76 L (.ref o :: st) (cS f g h1 h2) r ↔ Rn sc d 86 79 L (.int (f o 1) :: st) (cS f g h1 h2) r := r_getI d86_76 (ci := 1) (k := 1) rfl (by decide) (fun _ => rfl) h17 hK
theorem d86_79 : decode (mC 86) 79 = .ok (.iload 6, 2) := by decide +kernel
theorem x86_79 {sc : aSc} {d : Nat} {r : aRes} {a0 : Value} {a1 : Value} {a2 : Value} {a3 : Value} {a4 : Value} {a5 : Value} {x6 : Int32} {a7 : Value} {a8 : Value} {a9 : Value} {st : List Value} {σ : aS} : Rn sc d 86 79 [a0, a1, a2, a3, a4, a5, .int x6, a7, a8, a9] st σ r ↔ Rn sc d 86 81 [a0, a1, a2, a3, a4, a5, .int x6, a7, a8, a9] (.int x6 :: st) σ r := r_iload d86_79 rfl
theorem d86_81 : decode (mC 86) 81 = .ok (.iadd, 1) := by decide +kernel
theorem x86_81 {sc : aSc} {d : Nat} {r : aRes} {L : List Value} {st : List Value} {σ : aS} {x y : Int32} : Rn sc d 86 81 L (.int y :: .int x :: st) σ r ↔ Rn sc d 86 82 L (.int (x + y) :: st) σ r := r_iadd d86_81
theorem d86_82 : decode (mC 86) 82 = .ok (.istore 9, 2) := by decide +kernel
theorem x86_82 {sc : aSc} {d : Nat} {r : aRes} {a0 : Value} {a1 : Value} {a2 : Value} {a3 : Value} {a4 : Value} {a5 : Value} {a6 : Value} {a7 : Value} {x8 : Int32} {a9 : Value} {st : List Value} {σ : aS} {y : Int32} : Rn sc d 86 82 [a0, a1, a2, a3, a4, a5, a6, a7, .int x8, a9] (.int y :: st) σ r ↔ Rn sc d 86 84 [a0, a1, a2, a3, a4, a5, a6, a7, .int x8, .int y] st σ r := r_istore d86_82 (Nat.le_of_ble_eq_true rfl) rfl
theorem d86_84 : decode (mC 86) 84 = .ok (.aload_n 0, 1) := by decide +kernel
theorem x86_84 {sc : aSc} {d : Nat} {r : aRes} {x0 : Nat} {a1 : Value} {a2 : Value} {a3 : Value} {a4 : Value} {a5 : Value} {a6 : Value} {a7 : Value} {a8 : Value} {a9 : Value} {st : List Value} {σ : aS} : Rn sc d 86 84 [.ref x0, a1, a2, a3, a4, a5, a6, a7, a8, a9] st σ r ↔ Rn sc d 86 85 [.ref x0, a1, a2, a3, a4, a5, a6, a7, a8, a9] (.ref x0 :: st) σ r := r_aload_n d86_84 rfl
theorem d86_85 : decode (mC 86) 85 = .ok (.getfield 50, 3) := by decide +kernel
theorem x86_85 {sc : aSc} {d : Nat} {r : aRes} {L : List Value} {st : List Value} {f : Nat → Nat → Int32} {g : Nat → Nat → Int64} {h1 h2 : Nat} {o : Nat} (hK : KK[o]? = some (.inl 6)) (hR : (RR h1 h2 o 0).isSome = true) : Rn sc d 86 85 L (.ref o :: st) (cS f g h1 h2) r ↔ Rn sc d 86 88 L (.ref (rf h1 h2 o 0) :: st) (cS f g h1 h2) r := r_getR2 d86_85 (ci := 6) (k := 0) rfl (by decide) (fun _ => rfl) hK hR
theorem d86_88 : decode (mC 86) 88 = .ok (.iload 7, 2) := by decide +kernel
theorem x86_88 {sc : aSc} {d : Nat} {r : aRes} {a0 : Value} {a1 : Value} {a2 : Value} {a3 : Value} {a4 : Value} {a5 : Value} {a6 : Value} {x7 : Int32} {a8 : Value} {a9 : Value} {st : List Value} {σ : aS} : Rn sc d 86 88 [a0, a1, a2, a3, a4, a5, a6, .int x7, a8, a9] st σ r ↔ Rn sc d 86 90 [a0, a1, a2, a3, a4, a5, a6, .int x7, a8, a9] (.int x7 :: st) σ r := r_iload d86_88 rfl
theorem d86_90 : decode (mC 86) 90 = .ok (.iload 8, 2) := by decide +kernel
theorem x86_90 {sc : aSc} {d : Nat} {r : aRes} {a0 : Value} {a1 : Value} {a2 : Value} {a3 : Value} {a4 : Value} {a5 : Value} {a6 : Value} {a7 : Value} {x8 : Int32} {a9 : Value} {st : List Value} {σ : aS} : Rn sc d 86 90 [a0, a1, a2, a3, a4, a5, a6, a7, .int x8, a9] st σ r ↔ Rn sc d 86 92 [a0, a1, a2, a3, a4, a5, a6, a7, .int x8, a9] (.int x8 :: st) σ r := r_iload d86_90 rfl
theorem d86_92 : decode (mC 86) 92 = .ok (.iload_n 2, 1) := by decide +kernel
theorem x86_92 {sc : aSc} {d : Nat} {r : aRes} {a0 : Value} {a1 : Value} {x2 : Int32} {a3 : Value} {a4 : Value} {a5 : Value} {a6 : Value} {a7 : Value} {a8 : Value} {a9 : Value} {st : List Value} {σ : aS} : Rn sc d 86 92 [a0, a1, .int x2, a3, a4, a5, a6, a7, a8, a9] st σ r ↔ Rn sc d 86 93 [a0, a1, .int x2, a3, a4, a5, a6, a7, a8, a9] (.int x2 :: st) σ r := r_iload_n d86_92 rfl
theorem d86_93 : decode (mC 86) 93 = .ok (.iload 9, 2) := by decide +kernel
theorem x86_93 {sc : aSc} {d : Nat} {r : aRes} {a0 : Value} {a1 : Value} {a2 : Value} {a3 : Value} {a4 : Value} {a5 : Value} {a6 : Value} {a7 : Value} {a8 : Value} {x9 : Int32} {st : List Value} {σ : aS} : Rn sc d 86 93 [a0, a1, a2, a3, a4, a5, a6, a7, a8, .int x9] st σ r ↔ Rn sc d 86 95 [a0, a1, a2, a3, a4, a5, a6, a7, a8, .int x9] (.int x9 :: st) σ r := r_iload d86_93 rfl
theorem d86_95 : decode (mC 86) 95 = .ok (.invokevirtual 155, 3) := by decide +kernel
theorem x86_95 {sc : aSc} {d : Nat} {r : aRes} {L : List Value} {f : Nat → Nat → Int32} {g : Nat → Nat → Int64} {h1 h2 : Nat} {y0 : Int32} {y1 : Int32} {y2 : Int32} {y3 : Int32}  {o : Nat} (hK : KK[o]? = some (.inl 1)) : Rn sc d 86 95 L [.int y0, .int y1, .int y2, .int y3, .ref o] (cS f g h1 h2) r ↔ ∃ (σ3 : aS) (v : Option Value), Cl sc d 19 [.ref o, .int y3, .int y2, .int y1, .int y0] (cS f g h1 h2) (σ3, v) ∧ Rn sc d 86 98 L (v.toList ++ []) σ3 r := r_callV (vs := [.int y0, .int y1, .int y2, .int y3]) d86_95 (j := 19) rfl ⟨rfl, by decide, rfl, rfl⟩ (Nat.le_of_ble_eq_true rfl) hK
theorem d86_98 : decode (mC 86) 98 = .ok (.ifCond .eq 41, 3) := by decide +kernel
theorem x86_98 {sc : aSc} {d : Nat} {r : aRes} {L : List Value} {st : List Value} {σ : aS} {x : Int32} : Rn sc d 86 98 L (.int x :: st) σ r ↔ if x = 0 then Rn sc d 86 139 L st σ r else Rn sc d 86 101 L st σ r := r_if_eq d86_98 rfl
theorem d86_101 : decode (mC 86) 101 = .ok (.sipush 9999, 3) := by decide +kernel
theorem x86_101 {sc : aSc} {d : Nat} {r : aRes} {L : List Value} {st : List Value} {σ : aS} : Rn sc d 86 101 L st σ r ↔ Rn sc d 86 104 L (.int 9999 :: st) σ r := r_sipush d86_101 (by decide)
theorem d86_104 : decode (mC 86) 104 = .ok (.iload_n 3, 1) := by decide +kernel
theorem x86_104 {sc : aSc} {d : Nat} {r : aRes} {a0 : Value} {a1 : Value} {a2 : Value} {x3 : Int32} {a4 : Value} {a5 : Value} {a6 : Value} {a7 : Value} {a8 : Value} {a9 : Value} {st : List Value} {σ : aS} : Rn sc d 86 104 [a0, a1, a2, .int x3, a4, a5, a6, a7, a8, a9] st σ r ↔ Rn sc d 86 105 [a0, a1, a2, .int x3, a4, a5, a6, a7, a8, a9] (.int x3 :: st) σ r := r_iload_n d86_104 rfl
theorem d86_105 : decode (mC 86) 105 = .ok (.aload_n 0, 1) := by decide +kernel
theorem x86_105 {sc : aSc} {d : Nat} {r : aRes} {x0 : Nat} {a1 : Value} {a2 : Value} {a3 : Value} {a4 : Value} {a5 : Value} {a6 : Value} {a7 : Value} {a8 : Value} {a9 : Value} {st : List Value} {σ : aS} : Rn sc d 86 105 [.ref x0, a1, a2, a3, a4, a5, a6, a7, a8, a9] st σ r ↔ Rn sc d 86 106 [.ref x0, a1, a2, a3, a4, a5, a6, a7, a8, a9] (.ref x0 :: st) σ r := r_aload_n d86_105 rfl
theorem d86_106 : decode (mC 86) 106 = .ok (.getfield 50, 3) := by decide +kernel
theorem x86_106 {sc : aSc} {d : Nat} {r : aRes} {L : List Value} {st : List Value} {f : Nat → Nat → Int32} {g : Nat → Nat → Int64} {h1 h2 : Nat} {o : Nat} (hK : KK[o]? = some (.inl 6)) (hR : (RR h1 h2 o 0).isSome = true) : Rn sc d 86 106 L (.ref o :: st) (cS f g h1 h2) r ↔ Rn sc d 86 109 L (.ref (rf h1 h2 o 0) :: st) (cS f g h1 h2) r := r_getR2 d86_106 (ci := 6) (k := 0) rfl (by decide) (fun _ => rfl) hK hR
theorem d86_109 : decode (mC 86) 109 = .ok (.iload 7, 2) := by decide +kernel
theorem x86_109 {sc : aSc} {d : Nat} {r : aRes} {a0 : Value} {a1 : Value} {a2 : Value} {a3 : Value} {a4 : Value} {a5 : Value} {a6 : Value} {x7 : Int32} {a8 : Value} {a9 : Value} {st : List Value} {σ : aS} : Rn sc d 86 109 [a0, a1, a2, a3, a4, a5, a6, .int x7, a8, a9] st σ r ↔ Rn sc d 86 111 [a0, a1, a2, a3, a4, a5, a6, .int x7, a8, a9] (.int x7 :: st) σ r := r_iload d86_109 rfl
theorem d86_111 : decode (mC 86) 111 = .ok (.iload 8, 2) := by decide +kernel
theorem x86_111 {sc : aSc} {d : Nat} {r : aRes} {a0 : Value} {a1 : Value} {a2 : Value} {a3 : Value} {a4 : Value} {a5 : Value} {a6 : Value} {a7 : Value} {x8 : Int32} {a9 : Value} {st : List Value} {σ : aS} : Rn sc d 86 111 [a0, a1, a2, a3, a4, a5, a6, a7, .int x8, a9] st σ r ↔ Rn sc d 86 113 [a0, a1, a2, a3, a4, a5, a6, a7, .int x8, a9] (.int x8 :: st) σ r := r_iload d86_111 rfl
theorem d86_113 : decode (mC 86) 113 = .ok (.iload_n 2, 1) := by decide +kernel
theorem x86_113 {sc : aSc} {d : Nat} {r : aRes} {a0 : Value} {a1 : Value} {x2 : Int32} {a3 : Value} {a4 : Value} {a5 : Value} {a6 : Value} {a7 : Value} {a8 : Value} {a9 : Value} {st : List Value} {σ : aS} : Rn sc d 86 113 [a0, a1, .int x2, a3, a4, a5, a6, a7, a8, a9] st σ r ↔ Rn sc d 86 114 [a0, a1, .int x2, a3, a4, a5, a6, a7, a8, a9] (.int x2 :: st) σ r := r_iload_n d86_113 rfl
theorem d86_114 : decode (mC 86) 114 = .ok (.iload 9, 2) := by decide +kernel
theorem x86_114 {sc : aSc} {d : Nat} {r : aRes} {a0 : Value} {a1 : Value} {a2 : Value} {a3 : Value} {a4 : Value} {a5 : Value} {a6 : Value} {a7 : Value} {a8 : Value} {x9 : Int32} {st : List Value} {σ : aS} : Rn sc d 86 114 [a0, a1, a2, a3, a4, a5, a6, a7, a8, .int x9] st σ r ↔ Rn sc d 86 116 [a0, a1, a2, a3, a4, a5, a6, a7, a8, .int x9] (.int x9 :: st) σ r := r_iload d86_114 rfl
theorem d86_116 : decode (mC 86) 116 = .ok (.invokevirtual 212, 3) := by decide +kernel
theorem x86_116 {sc : aSc} {d : Nat} {r : aRes} {L : List Value} {f : Nat → Nat → Int32} {g : Nat → Nat → Int64} {h1 h2 : Nat} {y0 : Int32} {y1 : Int32} {y2 : Int32} {y3 : Int32} {z0 : Int32} {z1 : Int32} {o : Nat} (hK : KK[o]? = some (.inl 1)) : Rn sc d 86 116 L [.int y0, .int y1, .int y2, .int y3, .ref o, .int z0, .int z1] (cS f g h1 h2) r ↔ ∃ (σ3 : aS) (v : Option Value), Cl sc d 18 [.ref o, .int y3, .int y2, .int y1, .int y0] (cS f g h1 h2) (σ3, v) ∧ Rn sc d 86 119 L (v.toList ++ [.int z0, .int z1]) σ3 r := r_callV (vs := [.int y0, .int y1, .int y2, .int y3]) d86_116 (j := 18) rfl ⟨rfl, by decide, rfl, rfl⟩ (Nat.le_of_ble_eq_true rfl) hK
theorem d86_119 : decode (mC 86) 119 = .ok (.iadd, 1) := by decide +kernel
theorem x86_119 {sc : aSc} {d : Nat} {r : aRes} {L : List Value} {st : List Value} {σ : aS} {x y : Int32} : Rn sc d 86 119 L (.int y :: .int x :: st) σ r ↔ Rn sc d 86 120 L (.int (x + y) :: st) σ r := r_iadd d86_119
theorem d86_120 : decode (mC 86) 120 = .ok (.invokestatic 216, 3) := by decide +kernel
theorem x86_120 {sc : aSc} {d : Nat} {r : aRes} {L : List Value} {σ : aS} {y0 : Int32} {y1 : Int32}  : Rn sc d 86 120 L [.int y0, .int y1] σ r ↔ ∃ (σ3 : aS) (v : Option Value), Cl sc d 208 [.int y1, .int y0] σ (σ3, v) ∧ Rn sc d 86 123 L (v.toList ++ []) σ3 r := r_callS (vs := [.int y0, .int y1]) d86_120 rfl (j := 208) rfl ⟨rfl, by decide, rfl, rfl⟩ (Nat.le_of_ble_eq_true rfl)
theorem d86_123 : decode (mC 86) 123 = .ok (.istore_n 3, 1) := by decide +kernel
theorem x86_123 {sc : aSc} {d : Nat} {r : aRes} {a0 : Value} {a1 : Value} {x2 : Int32} {a3 : Value} {a4 : Value} {a5 : Value} {a6 : Value} {a7 : Value} {a8 : Value} {a9 : Value} {st : List Value} {σ : aS} {y : Int32} : Rn sc d 86 123 [a0, a1, .int x2, a3, a4, a5, a6, a7, a8, a9] (.int y :: st) σ r ↔ Rn sc d 86 124 [a0, a1, .int x2, .int y, a4, a5, a6, a7, a8, a9] st σ r := r_istore_n d86_123 (Nat.le_of_ble_eq_true rfl) rfl
theorem d86_124 : decode (mC 86) 124 = .ok (.iload_n 2, 1) := by decide +kernel
theorem x86_124 {sc : aSc} {d : Nat} {r : aRes} {a0 : Value} {a1 : Value} {x2 : Int32} {a3 : Value} {a4 : Value} {a5 : Value} {a6 : Value} {a7 : Value} {a8 : Value} {a9 : Value} {st : List Value} {σ : aS} : Rn sc d 86 124 [a0, a1, .int x2, a3, a4, a5, a6, a7, a8, a9] st σ r ↔ Rn sc d 86 125 [a0, a1, .int x2, a3, a4, a5, a6, a7, a8, a9] (.int x2 :: st) σ r := r_iload_n d86_124 rfl
theorem d86_125 : decode (mC 86) 125 = .ok (.iconst 1, 1) := by decide +kernel
theorem x86_125 {sc : aSc} {d : Nat} {r : aRes} {L : List Value} {st : List Value} {σ : aS} : Rn sc d 86 125 L st σ r ↔ Rn sc d 86 126 L (.int 1 :: st) σ r := r_iconst d86_125 (by decide)
theorem d86_126 : decode (mC 86) 126 = .ok (.iload 7, 2) := by decide +kernel
theorem x86_126 {sc : aSc} {d : Nat} {r : aRes} {a0 : Value} {a1 : Value} {a2 : Value} {a3 : Value} {a4 : Value} {a5 : Value} {a6 : Value} {x7 : Int32} {a8 : Value} {a9 : Value} {st : List Value} {σ : aS} : Rn sc d 86 126 [a0, a1, a2, a3, a4, a5, a6, .int x7, a8, a9] st σ r ↔ Rn sc d 86 128 [a0, a1, a2, a3, a4, a5, a6, .int x7, a8, a9] (.int x7 :: st) σ r := r_iload d86_126 rfl
theorem d86_128 : decode (mC 86) 128 = .ok (.ishl, 1) := by decide +kernel
theorem x86_128 {sc : aSc} {d : Nat} {r : aRes} {L : List Value} {st : List Value} {σ : aS} {x y : Int32} : Rn sc d 86 128 L (.int y :: .int x :: st) σ r ↔ Rn sc d 86 129 L (.int (x <<< (y &&& 31)) :: st) σ r := r_ishl d86_128
theorem d86_129 : decode (mC 86) 129 = .ok (.iconst 1, 1) := by decide +kernel
theorem x86_129 {sc : aSc} {d : Nat} {r : aRes} {L : List Value} {st : List Value} {σ : aS} : Rn sc d 86 129 L st σ r ↔ Rn sc d 86 130 L (.int 1 :: st) σ r := r_iconst d86_129 (by decide)
theorem d86_130 : decode (mC 86) 130 = .ok (.iload 8, 2) := by decide +kernel
theorem x86_130 {sc : aSc} {d : Nat} {r : aRes} {a0 : Value} {a1 : Value} {a2 : Value} {a3 : Value} {a4 : Value} {a5 : Value} {a6 : Value} {a7 : Value} {x8 : Int32} {a9 : Value} {st : List Value} {σ : aS} : Rn sc d 86 130 [a0, a1, a2, a3, a4, a5, a6, a7, .int x8, a9] st σ r ↔ Rn sc d 86 132 [a0, a1, a2, a3, a4, a5, a6, a7, .int x8, a9] (.int x8 :: st) σ r := r_iload d86_130 rfl
theorem d86_132 : decode (mC 86) 132 = .ok (.ishl, 1) := by decide +kernel
theorem x86_132 {sc : aSc} {d : Nat} {r : aRes} {L : List Value} {st : List Value} {σ : aS} {x y : Int32} : Rn sc d 86 132 L (.int y :: .int x :: st) σ r ↔ Rn sc d 86 133 L (.int (x <<< (y &&& 31)) :: st) σ r := r_ishl d86_132
theorem d86_133 : decode (mC 86) 133 = .ok (.ior, 1) := by decide +kernel
theorem x86_133 {sc : aSc} {d : Nat} {r : aRes} {L : List Value} {st : List Value} {σ : aS} {x y : Int32} : Rn sc d 86 133 L (.int y :: .int x :: st) σ r ↔ Rn sc d 86 134 L (.int (x ||| y) :: st) σ r := r_ior d86_133
theorem d86_134 : decode (mC 86) 134 = .ok (.ixor, 1) := by decide +kernel
theorem x86_134 {sc : aSc} {d : Nat} {r : aRes} {L : List Value} {st : List Value} {σ : aS} {x y : Int32} : Rn sc d 86 134 L (.int y :: .int x :: st) σ r ↔ Rn sc d 86 135 L (.int (x ^^^ y) :: st) σ r := r_ixor d86_134
theorem d86_135 : decode (mC 86) 135 = .ok (.istore_n 2, 1) := by decide +kernel
theorem x86_135 {sc : aSc} {d : Nat} {r : aRes} {a0 : Value} {x1 : Int32} {a2 : Value} {a3 : Value} {a4 : Value} {a5 : Value} {a6 : Value} {a7 : Value} {a8 : Value} {a9 : Value} {st : List Value} {σ : aS} {y : Int32} : Rn sc d 86 135 [a0, .int x1, a2, a3, a4, a5, a6, a7, a8, a9] (.int y :: st) σ r ↔ Rn sc d 86 136 [a0, .int x1, .int y, a3, a4, a5, a6, a7, a8, a9] st σ r := r_istore_n d86_135 (Nat.le_of_ble_eq_true rfl) rfl
theorem d86_136 : decode (mC 86) 136 = .ok (.goto 22, 3) := by decide +kernel
theorem x86_136 {sc : aSc} {d : Nat} {r : aRes} {L : List Value} {st : List Value} {σ : aS} : Rn sc d 86 136 L st σ r ↔ Rn sc d 86 158 L st σ r := r_goto d86_136 rfl
theorem d86_139 : decode (mC 86) 139 = .ok (.iinc 4 1, 3) := by decide +kernel
theorem x86_139 {sc : aSc} {d : Nat} {r : aRes} {a0 : Value} {a1 : Value} {a2 : Value} {x3 : Int32} {x4 : Int32} {a5 : Value} {a6 : Value} {a7 : Value} {a8 : Value} {a9 : Value} {st : List Value} {σ : aS} : Rn sc d 86 139 [a0, a1, a2, .int x3, .int x4, a5, a6, a7, a8, a9] st σ r ↔ Rn sc d 86 142 [a0, a1, a2, .int x3, .int (x4 + 1), a5, a6, a7, a8, a9] st σ r := r_iinc d86_139 (Nat.le_of_ble_eq_true rfl) rfl rfl (by decide)
theorem d86_142 : decode (mC 86) 142 = .ok (.iload 5, 2) := by decide +kernel
theorem x86_142 {sc : aSc} {d : Nat} {r : aRes} {a0 : Value} {a1 : Value} {a2 : Value} {a3 : Value} {a4 : Value} {x5 : Int32} {a6 : Value} {a7 : Value} {a8 : Value} {a9 : Value} {st : List Value} {σ : aS} : Rn sc d 86 142 [a0, a1, a2, a3, a4, .int x5, a6, a7, a8, a9] st σ r ↔ Rn sc d 86 144 [a0, a1, a2, a3, a4, .int x5, a6, a7, a8, a9] (.int x5 :: st) σ r := r_iload d86_142 rfl
theorem d86_144 : decode (mC 86) 144 = .ok (.bipush (-5), 2) := by decide +kernel
theorem x86_144 {sc : aSc} {d : Nat} {r : aRes} {L : List Value} {st : List Value} {σ : aS} : Rn sc d 86 144 L st σ r ↔ Rn sc d 86 146 L (.int (-5) :: st) σ r := r_bipush d86_144 (by decide)
theorem d86_146 : decode (mC 86) 146 = .ok (.if_icmp .ne 8, 3) := by decide +kernel
theorem x86_146 {sc : aSc} {d : Nat} {r : aRes} {L : List Value} {st : List Value} {σ : aS} {x y : Int32} : Rn sc d 86 146 L (.int y :: .int x :: st) σ r ↔ if x = y then Rn sc d 86 149 L st σ r else Rn sc d 86 154 L st σ r := r_icmp_ne d86_146 rfl
theorem d86_149 : decode (mC 86) 149 = .ok (.iload 6, 2) := by decide +kernel
theorem x86_149 {sc : aSc} {d : Nat} {r : aRes} {a0 : Value} {a1 : Value} {a2 : Value} {a3 : Value} {a4 : Value} {a5 : Value} {x6 : Int32} {a7 : Value} {a8 : Value} {a9 : Value} {st : List Value} {σ : aS} : Rn sc d 86 149 [a0, a1, a2, a3, a4, a5, .int x6, a7, a8, a9] st σ r ↔ Rn sc d 86 151 [a0, a1, a2, a3, a4, a5, .int x6, a7, a8, a9] (.int x6 :: st) σ r := r_iload d86_149 rfl
theorem d86_151 : decode (mC 86) 151 = .ok (.goto 5, 3) := by decide +kernel
theorem x86_151 {sc : aSc} {d : Nat} {r : aRes} {L : List Value} {st : List Value} {σ : aS} : Rn sc d 86 151 L st σ r ↔ Rn sc d 86 156 L st σ r := r_goto d86_151 rfl
theorem d86_154 : decode (mC 86) 154 = .ok (.iload 5, 2) := by decide +kernel
theorem x86_154 {sc : aSc} {d : Nat} {r : aRes} {a0 : Value} {a1 : Value} {a2 : Value} {a3 : Value} {a4 : Value} {x5 : Int32} {a6 : Value} {a7 : Value} {a8 : Value} {a9 : Value} {st : List Value} {σ : aS} : Rn sc d 86 154 [a0, a1, a2, a3, a4, .int x5, a6, a7, a8, a9] st σ r ↔ Rn sc d 86 156 [a0, a1, a2, a3, a4, .int x5, a6, a7, a8, a9] (.int x5 :: st) σ r := r_iload d86_154 rfl
theorem d86_156 : decode (mC 86) 156 = .ok (.istore 5, 2) := by decide +kernel
theorem x86_156 {sc : aSc} {d : Nat} {r : aRes} {a0 : Value} {a1 : Value} {a2 : Value} {a3 : Value} {x4 : Int32} {a5 : Value} {a6 : Value} {a7 : Value} {a8 : Value} {a9 : Value} {st : List Value} {σ : aS} {y : Int32} : Rn sc d 86 156 [a0, a1, a2, a3, .int x4, a5, a6, a7, a8, a9] (.int y :: st) σ r ↔ Rn sc d 86 158 [a0, a1, a2, a3, .int x4, .int y, a6, a7, a8, a9] st σ r := r_istore d86_156 (Nat.le_of_ble_eq_true rfl) rfl
theorem d86_158 : decode (mC 86) 158 = .ok (.iinc 6 1, 3) := by decide +kernel
theorem x86_158 {sc : aSc} {d : Nat} {r : aRes} {a0 : Value} {a1 : Value} {a2 : Value} {a3 : Value} {a4 : Value} {x5 : Int32} {x6 : Int32} {a7 : Value} {a8 : Value} {a9 : Value} {st : List Value} {σ : aS} : Rn sc d 86 158 [a0, a1, a2, a3, a4, .int x5, .int x6, a7, a8, a9] st σ r ↔ Rn sc d 86 161 [a0, a1, a2, a3, a4, .int x5, .int (x6 + 1), a7, a8, a9] st σ r := r_iinc d86_158 (Nat.le_of_ble_eq_true rfl) rfl rfl (by decide)
theorem d86_161 : decode (mC 86) 161 = .ok (.goto (-125), 3) := by decide +kernel
theorem x86_161 {sc : aSc} {d : Nat} {r : aRes} {L : List Value} {st : List Value} {σ : aS} : Rn sc d 86 161 L st σ r ↔ Rn sc d 86 36 L st σ r := r_goto d86_161 rfl
theorem d86_164 : decode (mC 86) 164 = .ok (.iload_n 1, 1) := by decide +kernel
theorem x86_164 {sc : aSc} {d : Nat} {r : aRes} {a0 : Value} {x1 : Int32} {a2 : Value} {a3 : Value} {a4 : Value} {a5 : Value} {a6 : Value} {a7 : Value} {a8 : Value} {a9 : Value} {st : List Value} {σ : aS} : Rn sc d 86 164 [a0, .int x1, a2, a3, a4, a5, a6, a7, a8, a9] st σ r ↔ Rn sc d 86 165 [a0, .int x1, a2, a3, a4, a5, a6, a7, a8, a9] (.int x1 :: st) σ r := r_iload_n d86_164 rfl
theorem d86_165 : decode (mC 86) 165 = .ok (.ifCond .ne 7, 3) := by decide +kernel
theorem x86_165 {sc : aSc} {d : Nat} {r : aRes} {L : List Value} {st : List Value} {σ : aS} {x : Int32} : Rn sc d 86 165 L (.int x :: st) σ r ↔ if x = 0 then Rn sc d 86 168 L st σ r else Rn sc d 86 172 L st σ r := r_if_ne d86_165 rfl
theorem d86_168 : decode (mC 86) 168 = .ok (.iload_n 3, 1) := by decide +kernel
theorem x86_168 {sc : aSc} {d : Nat} {r : aRes} {a0 : Value} {a1 : Value} {a2 : Value} {x3 : Int32} {a4 : Value} {a5 : Value} {a6 : Value} {a7 : Value} {a8 : Value} {a9 : Value} {st : List Value} {σ : aS} : Rn sc d 86 168 [a0, a1, a2, .int x3, a4, a5, a6, a7, a8, a9] st σ r ↔ Rn sc d 86 169 [a0, a1, a2, .int x3, a4, a5, a6, a7, a8, a9] (.int x3 :: st) σ r := r_iload_n d86_168 rfl
theorem d86_169 : decode (mC 86) 169 = .ok (.goto 15, 3) := by decide +kernel
theorem x86_169 {sc : aSc} {d : Nat} {r : aRes} {L : List Value} {st : List Value} {σ : aS} : Rn sc d 86 169 L st σ r ↔ Rn sc d 86 184 L st σ r := r_goto d86_169 rfl
theorem d86_172 : decode (mC 86) 172 = .ok (.iload_n 1, 1) := by decide +kernel
theorem x86_172 {sc : aSc} {d : Nat} {r : aRes} {a0 : Value} {x1 : Int32} {a2 : Value} {a3 : Value} {a4 : Value} {a5 : Value} {a6 : Value} {a7 : Value} {a8 : Value} {a9 : Value} {st : List Value} {σ : aS} : Rn sc d 86 172 [a0, .int x1, a2, a3, a4, a5, a6, a7, a8, a9] st σ r ↔ Rn sc d 86 173 [a0, .int x1, a2, a3, a4, a5, a6, a7, a8, a9] (.int x1 :: st) σ r := r_iload_n d86_172 rfl
theorem d86_173 : decode (mC 86) 173 = .ok (.iconst 1, 1) := by decide +kernel
theorem x86_173 {sc : aSc} {d : Nat} {r : aRes} {L : List Value} {st : List Value} {σ : aS} : Rn sc d 86 173 L st σ r ↔ Rn sc d 86 174 L (.int 1 :: st) σ r := r_iconst d86_173 (by decide)
theorem d86_174 : decode (mC 86) 174 = .ok (.if_icmp .ne 8, 3) := by decide +kernel
theorem x86_174 {sc : aSc} {d : Nat} {r : aRes} {L : List Value} {st : List Value} {σ : aS} {x y : Int32} : Rn sc d 86 174 L (.int y :: .int x :: st) σ r ↔ if x = y then Rn sc d 86 177 L st σ r else Rn sc d 86 182 L st σ r := r_icmp_ne d86_174 rfl
theorem d86_177 : decode (mC 86) 177 = .ok (.iload 4, 2) := by decide +kernel
theorem x86_177 {sc : aSc} {d : Nat} {r : aRes} {a0 : Value} {a1 : Value} {a2 : Value} {a3 : Value} {x4 : Int32} {a5 : Value} {a6 : Value} {a7 : Value} {a8 : Value} {a9 : Value} {st : List Value} {σ : aS} : Rn sc d 86 177 [a0, a1, a2, a3, .int x4, a5, a6, a7, a8, a9] st σ r ↔ Rn sc d 86 179 [a0, a1, a2, a3, .int x4, a5, a6, a7, a8, a9] (.int x4 :: st) σ r := r_iload d86_177 rfl
theorem d86_179 : decode (mC 86) 179 = .ok (.goto 5, 3) := by decide +kernel
theorem x86_179 {sc : aSc} {d : Nat} {r : aRes} {L : List Value} {st : List Value} {σ : aS} : Rn sc d 86 179 L st σ r ↔ Rn sc d 86 184 L st σ r := r_goto d86_179 rfl
theorem d86_182 : decode (mC 86) 182 = .ok (.iload 5, 2) := by decide +kernel
theorem x86_182 {sc : aSc} {d : Nat} {r : aRes} {a0 : Value} {a1 : Value} {a2 : Value} {a3 : Value} {a4 : Value} {x5 : Int32} {a6 : Value} {a7 : Value} {a8 : Value} {a9 : Value} {st : List Value} {σ : aS} : Rn sc d 86 182 [a0, a1, a2, a3, a4, .int x5, a6, a7, a8, a9] st σ r ↔ Rn sc d 86 184 [a0, a1, a2, a3, a4, .int x5, a6, a7, a8, a9] (.int x5 :: st) σ r := r_iload d86_182 rfl
theorem d86_184 : decode (mC 86) 184 = .ok (.ireturn, 1) := by decide +kernel
theorem x86_184 {sc : aSc} {d : Nat} {r : aRes} {L : List Value} {σ : aS} {x : Int32} : Rn sc d 86 184 L [.int x] σ r ↔ r = (σ, some (.int x)) := r_iret d86_184 rfl rfl
theorem d87_0 : decode (mC 87) 0 = .ok (.aload_n 0, 1) := by decide +kernel
theorem x87_0 {sc : aSc} {d : Nat} {r : aRes} {x0 : Nat} {a1 : Value} {a2 : Value} {a3 : Value} {a4 : Value} {a5 : Value} {a6 : Value} {a7 : Value} {st : List Value} {σ : aS} : Rn sc d 87 0 [.ref x0, a1, a2, a3, a4, a5, a6, a7] st σ r ↔ Rn sc d 87 1 [.ref x0, a1, a2, a3, a4, a5, a6, a7] (.ref x0 :: st) σ r := r_aload_n d87_0 rfl
theorem d87_1 : decode (mC 87) 1 = .ok (.iload_n 1, 1) := by decide +kernel
theorem x87_1 {sc : aSc} {d : Nat} {r : aRes} {a0 : Value} {x1 : Int32} {a2 : Value} {a3 : Value} {a4 : Value} {a5 : Value} {a6 : Value} {a7 : Value} {st : List Value} {σ : aS} : Rn sc d 87 1 [a0, .int x1, a2, a3, a4, a5, a6, a7] st σ r ↔ Rn sc d 87 2 [a0, .int x1, a2, a3, a4, a5, a6, a7] (.int x1 :: st) σ r := r_iload_n d87_1 rfl
theorem d87_2 : decode (mC 87) 2 = .ok (.iload_n 2, 1) := by decide +kernel
theorem x87_2 {sc : aSc} {d : Nat} {r : aRes} {a0 : Value} {a1 : Value} {x2 : Int32} {a3 : Value} {a4 : Value} {a5 : Value} {a6 : Value} {a7 : Value} {st : List Value} {σ : aS} : Rn sc d 87 2 [a0, a1, .int x2, a3, a4, a5, a6, a7] st σ r ↔ Rn sc d 87 3 [a0, a1, .int x2, a3, a4, a5, a6, a7] (.int x2 :: st) σ r := r_iload_n d87_2 rfl
theorem d87_3 : decode (mC 87) 3 = .ok (.invokevirtual 145, 3) := by decide +kernel
theorem x87_3 {sc : aSc} {d : Nat} {r : aRes} {L : List Value} {f : Nat → Nat → Int32} {g : Nat → Nat → Int64} {h1 h2 : Nat} {y0 : Int32} {y1 : Int32}  {o : Nat} (hK : KK[o]? = some (.inl 6)) : Rn sc d 87 3 L [.int y0, .int y1, .ref o] (cS f g h1 h2) r ↔ ∃ (σ3 : aS) (v : Option Value), Cl sc d 104 [.ref o, .int y1, .int y0] (cS f g h1 h2) (σ3, v) ∧ Rn sc d 87 6 L (v.toList ++ []) σ3 r := r_callV (vs := [.int y0, .int y1]) d87_3 (j := 104) rfl ⟨rfl, by decide, rfl, rfl⟩ (Nat.le_of_ble_eq_true rfl) hK
theorem d87_6 : decode (mC 87) 6 = .ok (.ifCond .ne 30, 3) := by decide +kernel
theorem x87_6 {sc : aSc} {d : Nat} {r : aRes} {L : List Value} {st : List Value} {σ : aS} {x : Int32} : Rn sc d 87 6 L (.int x :: st) σ r ↔ if x = 0 then Rn sc d 87 9 L st σ r else Rn sc d 87 36 L st σ r := r_if_ne d87_6 rfl
theorem d87_9 : decode (mC 87) 9 = .ok (.iload_n 3, 1) := by decide +kernel
theorem x87_9 {sc : aSc} {d : Nat} {r : aRes} {a0 : Value} {a1 : Value} {a2 : Value} {x3 : Int32} {a4 : Value} {a5 : Value} {a6 : Value} {a7 : Value} {st : List Value} {σ : aS} : Rn sc d 87 9 [a0, a1, a2, .int x3, a4, a5, a6, a7] st σ r ↔ Rn sc d 87 10 [a0, a1, a2, .int x3, a4, a5, a6, a7] (.int x3 :: st) σ r := r_iload_n d87_9 rfl
theorem d87_10 : decode (mC 87) 10 = .ok (.iconst 1, 1) := by decide +kernel
theorem x87_10 {sc : aSc} {d : Nat} {r : aRes} {L : List Value} {st : List Value} {σ : aS} : Rn sc d 87 10 L st σ r ↔ Rn sc d 87 11 L (.int 1 :: st) σ r := r_iconst d87_10 (by decide)
theorem d87_11 : decode (mC 87) 11 = .ok (.invokestatic 58, 3) := by decide +kernel
theorem x87_11 {sc : aSc} {d : Nat} {r : aRes} {L : List Value} {σ : aS} {y0 : Int32} {y1 : Int32}  : Rn sc d 87 11 L [.int y0, .int y1] σ r ↔ ∃ (σ3 : aS) (v : Option Value), Cl sc d 102 [.int y1, .int y0] σ (σ3, v) ∧ Rn sc d 87 14 L (v.toList ++ []) σ3 r := r_callS (vs := [.int y0, .int y1]) d87_11 rfl (j := 102) rfl ⟨rfl, by decide, rfl, rfl⟩ (Nat.le_of_ble_eq_true rfl)
theorem d87_14 : decode (mC 87) 14 = .ok (.ifCond .eq 22, 3) := by decide +kernel
theorem x87_14 {sc : aSc} {d : Nat} {r : aRes} {L : List Value} {st : List Value} {σ : aS} {x : Int32} : Rn sc d 87 14 L (.int x :: st) σ r ↔ if x = 0 then Rn sc d 87 36 L st σ r else Rn sc d 87 17 L st σ r := r_if_eq d87_14 rfl
theorem d87_17 : decode (mC 87) 17 = .ok (.aload_n 0, 1) := by decide +kernel
theorem x87_17 {sc : aSc} {d : Nat} {r : aRes} {x0 : Nat} {a1 : Value} {a2 : Value} {a3 : Value} {a4 : Value} {a5 : Value} {a6 : Value} {a7 : Value} {st : List Value} {σ : aS} : Rn sc d 87 17 [.ref x0, a1, a2, a3, a4, a5, a6, a7] st σ r ↔ Rn sc d 87 18 [.ref x0, a1, a2, a3, a4, a5, a6, a7] (.ref x0 :: st) σ r := r_aload_n d87_17 rfl
theorem d87_18 : decode (mC 87) 18 = .ok (.getfield 50, 3) := by decide +kernel
theorem x87_18 {sc : aSc} {d : Nat} {r : aRes} {L : List Value} {st : List Value} {f : Nat → Nat → Int32} {g : Nat → Nat → Int64} {h1 h2 : Nat} {o : Nat} (hK : KK[o]? = some (.inl 6)) (hR : (RR h1 h2 o 0).isSome = true) : Rn sc d 87 18 L (.ref o :: st) (cS f g h1 h2) r ↔ Rn sc d 87 21 L (.ref (rf h1 h2 o 0) :: st) (cS f g h1 h2) r := r_getR2 d87_18 (ci := 6) (k := 0) rfl (by decide) (fun _ => rfl) hK hR
theorem d87_21 : decode (mC 87) 21 = .ok (.iload_n 1, 1) := by decide +kernel
theorem x87_21 {sc : aSc} {d : Nat} {r : aRes} {a0 : Value} {x1 : Int32} {a2 : Value} {a3 : Value} {a4 : Value} {a5 : Value} {a6 : Value} {a7 : Value} {st : List Value} {σ : aS} : Rn sc d 87 21 [a0, .int x1, a2, a3, a4, a5, a6, a7] st σ r ↔ Rn sc d 87 22 [a0, .int x1, a2, a3, a4, a5, a6, a7] (.int x1 :: st) σ r := r_iload_n d87_21 rfl
theorem d87_22 : decode (mC 87) 22 = .ok (.iload_n 2, 1) := by decide +kernel
theorem x87_22 {sc : aSc} {d : Nat} {r : aRes} {a0 : Value} {a1 : Value} {x2 : Int32} {a3 : Value} {a4 : Value} {a5 : Value} {a6 : Value} {a7 : Value} {st : List Value} {σ : aS} : Rn sc d 87 22 [a0, a1, .int x2, a3, a4, a5, a6, a7] st σ r ↔ Rn sc d 87 23 [a0, a1, .int x2, a3, a4, a5, a6, a7] (.int x2 :: st) σ r := r_iload_n d87_22 rfl
theorem d87_23 : decode (mC 87) 23 = .ok (.aload_n 0, 1) := by decide +kernel
theorem x87_23 {sc : aSc} {d : Nat} {r : aRes} {x0 : Nat} {a1 : Value} {a2 : Value} {a3 : Value} {a4 : Value} {a5 : Value} {a6 : Value} {a7 : Value} {st : List Value} {σ : aS} : Rn sc d 87 23 [.ref x0, a1, a2, a3, a4, a5, a6, a7] st σ r ↔ Rn sc d 87 24 [.ref x0, a1, a2, a3, a4, a5, a6, a7] (.ref x0 :: st) σ r := r_aload_n d87_23 rfl
theorem d87_24 : decode (mC 87) 24 = .ok (.getfield 50, 3) := by decide +kernel
theorem x87_24 {sc : aSc} {d : Nat} {r : aRes} {L : List Value} {st : List Value} {f : Nat → Nat → Int32} {g : Nat → Nat → Int64} {h1 h2 : Nat} {o : Nat} (hK : KK[o]? = some (.inl 6)) (hR : (RR h1 h2 o 0).isSome = true) : Rn sc d 87 24 L (.ref o :: st) (cS f g h1 h2) r ↔ Rn sc d 87 27 L (.ref (rf h1 h2 o 0) :: st) (cS f g h1 h2) r := r_getR2 d87_24 (ci := 6) (k := 0) rfl (by decide) (fun _ => rfl) hK hR
theorem d87_27 : decode (mC 87) 27 = .ok (.getfield 129, 3) := by decide +kernel
theorem x87_27 {sc : aSc} {d : Nat} {r : aRes} {L : List Value} {st : List Value} {f : Nat → Nat → Int32} {g : Nat → Nat → Int64} {h1 h2 : Nat} {o : Nat} (h17 : 17 ≤ o) (hK : KK[o]? = some (.inl 1)) : Rn sc d 87 27 L (.ref o :: st) (cS f g h1 h2) r ↔ Rn sc d 87 30 L (.int (f o 4) :: st) (cS f g h1 h2) r := r_getI d87_27 (ci := 1) (k := 4) rfl (by decide) (fun _ => rfl) h17 hK
theorem d87_30 : decode (mC 87) 30 = .ok (.invokevirtual 148, 3) := by decide +kernel
theorem x87_30 {sc : aSc} {d : Nat} {r : aRes} {L : List Value} {f : Nat → Nat → Int32} {g : Nat → Nat → Int64} {h1 h2 : Nat} {y0 : Int32} {y1 : Int32} {y2 : Int32}  {o : Nat} (hK : KK[o]? = some (.inl 1)) : Rn sc d 87 30 L [.int y0, .int y1, .int y2, .ref o] (cS f g h1 h2) r ↔ ∃ (σ3 : aS) (v : Option Value), Cl sc d 14 [.ref o, .int y2, .int y1, .int y0] (cS f g h1 h2) (σ3, v) ∧ Rn sc d 87 33 L (v.toList ++ []) σ3 r := r_callV (vs := [.int y0, .int y1, .int y2]) d87_30 (j := 14) rfl ⟨rfl, by decide, rfl, rfl⟩ (Nat.le_of_ble_eq_true rfl) hK
theorem d87_33 : decode (mC 87) 33 = .ok (.ifCond .ne 7, 3) := by decide +kernel
theorem x87_33 {sc : aSc} {d : Nat} {r : aRes} {L : List Value} {st : List Value} {σ : aS} {x : Int32} : Rn sc d 87 33 L (.int x :: st) σ r ↔ if x = 0 then Rn sc d 87 36 L st σ r else Rn sc d 87 40 L st σ r := r_if_ne d87_33 rfl
theorem d87_36 : decode (mC 87) 36 = .ok (.ldc2_w 221, 3) := by decide +kernel
theorem x87_36 {sc : aSc} {d : Nat} {r : aRes} {L : List Value} {st : List Value} {σ : aS} : Rn sc d 87 36 L st σ r ↔ Rn sc d 87 39 L (.long (-9223372036854775808) :: st) σ r := r_ldc2_w d87_36 rfl
theorem d87_39 : decode (mC 87) 39 = .ok (.lreturn, 1) := by decide +kernel
theorem x87_39 {sc : aSc} {d : Nat} {r : aRes} {L : List Value} {σ : aS} {x : Int64} : Rn sc d 87 39 L [.long x] σ r ↔ r = (σ, some (.long x)) := r_lret d87_39 rfl
theorem d87_40 : decode (mC 87) 40 = .ok (.aload_n 0, 1) := by decide +kernel
theorem x87_40 {sc : aSc} {d : Nat} {r : aRes} {x0 : Nat} {a1 : Value} {a2 : Value} {a3 : Value} {a4 : Value} {a5 : Value} {a6 : Value} {a7 : Value} {st : List Value} {σ : aS} : Rn sc d 87 40 [.ref x0, a1, a2, a3, a4, a5, a6, a7] st σ r ↔ Rn sc d 87 41 [.ref x0, a1, a2, a3, a4, a5, a6, a7] (.ref x0 :: st) σ r := r_aload_n d87_40 rfl
theorem d87_41 : decode (mC 87) 41 = .ok (.getfield 50, 3) := by decide +kernel
theorem x87_41 {sc : aSc} {d : Nat} {r : aRes} {L : List Value} {st : List Value} {f : Nat → Nat → Int32} {g : Nat → Nat → Int64} {h1 h2 : Nat} {o : Nat} (hK : KK[o]? = some (.inl 6)) (hR : (RR h1 h2 o 0).isSome = true) : Rn sc d 87 41 L (.ref o :: st) (cS f g h1 h2) r ↔ Rn sc d 87 44 L (.ref (rf h1 h2 o 0) :: st) (cS f g h1 h2) r := r_getR2 d87_41 (ci := 6) (k := 0) rfl (by decide) (fun _ => rfl) hK hR
theorem d87_44 : decode (mC 87) 44 = .ok (.iload_n 1, 1) := by decide +kernel
theorem x87_44 {sc : aSc} {d : Nat} {r : aRes} {a0 : Value} {x1 : Int32} {a2 : Value} {a3 : Value} {a4 : Value} {a5 : Value} {a6 : Value} {a7 : Value} {st : List Value} {σ : aS} : Rn sc d 87 44 [a0, .int x1, a2, a3, a4, a5, a6, a7] st σ r ↔ Rn sc d 87 45 [a0, .int x1, a2, a3, a4, a5, a6, a7] (.int x1 :: st) σ r := r_iload_n d87_44 rfl
theorem d87_45 : decode (mC 87) 45 = .ok (.invokevirtual 94, 3) := by decide +kernel
theorem x87_45 {sc : aSc} {d : Nat} {r : aRes} {L : List Value} {f : Nat → Nat → Int32} {g : Nat → Nat → Int64} {h1 h2 : Nat} {y0 : Int32}  {o : Nat} (hK : KK[o]? = some (.inl 1)) : Rn sc d 87 45 L [.int y0, .ref o] (cS f g h1 h2) r ↔ ∃ (σ3 : aS) (v : Option Value), Cl sc d 15 [.ref o, .int y0] (cS f g h1 h2) (σ3, v) ∧ Rn sc d 87 48 L (v.toList ++ []) σ3 r := r_callV (vs := [.int y0]) d87_45 (j := 15) rfl ⟨rfl, by decide, rfl, rfl⟩ (Nat.le_of_ble_eq_true rfl) hK
theorem d87_48 : decode (mC 87) 48 = .ok (.istore 4, 2) := by decide +kernel
theorem x87_48 {sc : aSc} {d : Nat} {r : aRes} {a0 : Value} {a1 : Value} {a2 : Value} {x3 : Int32} {a4 : Value} {a5 : Value} {a6 : Value} {a7 : Value} {st : List Value} {σ : aS} {y : Int32} : Rn sc d 87 48 [a0, a1, a2, .int x3, a4, a5, a6, a7] (.int y :: st) σ r ↔ Rn sc d 87 50 [a0, a1, a2, .int x3, .int y, a5, a6, a7] st σ r := r_istore d87_48 (Nat.le_of_ble_eq_true rfl) rfl
theorem d87_50 : decode (mC 87) 50 = .ok (.aload_n 0, 1) := by decide +kernel
theorem x87_50 {sc : aSc} {d : Nat} {r : aRes} {x0 : Nat} {a1 : Value} {a2 : Value} {a3 : Value} {a4 : Value} {a5 : Value} {a6 : Value} {a7 : Value} {st : List Value} {σ : aS} : Rn sc d 87 50 [.ref x0, a1, a2, a3, a4, a5, a6, a7] st σ r ↔ Rn sc d 87 51 [.ref x0, a1, a2, a3, a4, a5, a6, a7] (.ref x0 :: st) σ r := r_aload_n d87_50 rfl
theorem d87_51 : decode (mC 87) 51 = .ok (.getfield 50, 3) := by decide +kernel
theorem x87_51 {sc : aSc} {d : Nat} {r : aRes} {L : List Value} {st : List Value} {f : Nat → Nat → Int32} {g : Nat → Nat → Int64} {h1 h2 : Nat} {o : Nat} (hK : KK[o]? = some (.inl 6)) (hR : (RR h1 h2 o 0).isSome = true) : Rn sc d 87 51 L (.ref o :: st) (cS f g h1 h2) r ↔ Rn sc d 87 54 L (.ref (rf h1 h2 o 0) :: st) (cS f g h1 h2) r := r_getR2 d87_51 (ci := 6) (k := 0) rfl (by decide) (fun _ => rfl) hK hR
theorem d87_54 : decode (mC 87) 54 = .ok (.iload_n 2, 1) := by decide +kernel
theorem x87_54 {sc : aSc} {d : Nat} {r : aRes} {a0 : Value} {a1 : Value} {x2 : Int32} {a3 : Value} {a4 : Value} {a5 : Value} {a6 : Value} {a7 : Value} {st : List Value} {σ : aS} : Rn sc d 87 54 [a0, a1, .int x2, a3, a4, a5, a6, a7] st σ r ↔ Rn sc d 87 55 [a0, a1, .int x2, a3, a4, a5, a6, a7] (.int x2 :: st) σ r := r_iload_n d87_54 rfl
theorem d87_55 : decode (mC 87) 55 = .ok (.invokevirtual 94, 3) := by decide +kernel
theorem x87_55 {sc : aSc} {d : Nat} {r : aRes} {L : List Value} {f : Nat → Nat → Int32} {g : Nat → Nat → Int64} {h1 h2 : Nat} {y0 : Int32}  {o : Nat} (hK : KK[o]? = some (.inl 1)) : Rn sc d 87 55 L [.int y0, .ref o] (cS f g h1 h2) r ↔ ∃ (σ3 : aS) (v : Option Value), Cl sc d 15 [.ref o, .int y0] (cS f g h1 h2) (σ3, v) ∧ Rn sc d 87 58 L (v.toList ++ []) σ3 r := r_callV (vs := [.int y0]) d87_55 (j := 15) rfl ⟨rfl, by decide, rfl, rfl⟩ (Nat.le_of_ble_eq_true rfl) hK
theorem d87_58 : decode (mC 87) 58 = .ok (.istore 5, 2) := by decide +kernel
theorem x87_58 {sc : aSc} {d : Nat} {r : aRes} {a0 : Value} {a1 : Value} {a2 : Value} {a3 : Value} {x4 : Int32} {a5 : Value} {a6 : Value} {a7 : Value} {st : List Value} {σ : aS} {y : Int32} : Rn sc d 87 58 [a0, a1, a2, a3, .int x4, a5, a6, a7] (.int y :: st) σ r ↔ Rn sc d 87 60 [a0, a1, a2, a3, .int x4, .int y, a6, a7] st σ r := r_istore d87_58 (Nat.le_of_ble_eq_true rfl) rfl
theorem d87_60 : decode (mC 87) 60 = .ok (.iconst 0, 1) := by decide +kernel
theorem x87_60 {sc : aSc} {d : Nat} {r : aRes} {L : List Value} {st : List Value} {σ : aS} : Rn sc d 87 60 L st σ r ↔ Rn sc d 87 61 L (.int 0 :: st) σ r := r_iconst d87_60 (by decide)
theorem d87_61 : decode (mC 87) 61 = .ok (.istore 6, 2) := by decide +kernel
theorem x87_61 {sc : aSc} {d : Nat} {r : aRes} {a0 : Value} {a1 : Value} {a2 : Value} {a3 : Value} {a4 : Value} {x5 : Int32} {a6 : Value} {a7 : Value} {st : List Value} {σ : aS} {y : Int32} : Rn sc d 87 61 [a0, a1, a2, a3, a4, .int x5, a6, a7] (.int y :: st) σ r ↔ Rn sc d 87 63 [a0, a1, a2, a3, a4, .int x5, .int y, a7] st σ r := r_istore d87_61 (Nat.le_of_ble_eq_true rfl) rfl
theorem d87_63 : decode (mC 87) 63 = .ok (.iconst 0, 1) := by decide +kernel
theorem x87_63 {sc : aSc} {d : Nat} {r : aRes} {L : List Value} {st : List Value} {σ : aS} : Rn sc d 87 63 L st σ r ↔ Rn sc d 87 64 L (.int 0 :: st) σ r := r_iconst d87_63 (by decide)
theorem d87_64 : decode (mC 87) 64 = .ok (.istore 7, 2) := by decide +kernel
theorem x87_64 {sc : aSc} {d : Nat} {r : aRes} {a0 : Value} {a1 : Value} {a2 : Value} {a3 : Value} {a4 : Value} {a5 : Value} {x6 : Int32} {a7 : Value} {st : List Value} {σ : aS} {y : Int32} : Rn sc d 87 64 [a0, a1, a2, a3, a4, a5, .int x6, a7] (.int y :: st) σ r ↔ Rn sc d 87 66 [a0, a1, a2, a3, a4, a5, .int x6, .int y] st σ r := r_istore d87_64 (Nat.le_of_ble_eq_true rfl) rfl
theorem d87_66 : decode (mC 87) 66 = .ok (.iload 7, 2) := by decide +kernel
theorem x87_66 {sc : aSc} {d : Nat} {r : aRes} {a0 : Value} {a1 : Value} {a2 : Value} {a3 : Value} {a4 : Value} {a5 : Value} {a6 : Value} {x7 : Int32} {st : List Value} {σ : aS} : Rn sc d 87 66 [a0, a1, a2, a3, a4, a5, a6, .int x7] st σ r ↔ Rn sc d 87 68 [a0, a1, a2, a3, a4, a5, a6, .int x7] (.int x7 :: st) σ r := r_iload d87_66 rfl
theorem d87_68 : decode (mC 87) 68 = .ok (.bipush 9, 2) := by decide +kernel
theorem x87_68 {sc : aSc} {d : Nat} {r : aRes} {L : List Value} {st : List Value} {σ : aS} : Rn sc d 87 68 L st σ r ↔ Rn sc d 87 70 L (.int 9 :: st) σ r := r_bipush d87_68 (by decide)
theorem d87_70 : decode (mC 87) 70 = .ok (.if_icmp .gt 32, 3) := by decide +kernel
theorem x87_70 {sc : aSc} {d : Nat} {r : aRes} {L : List Value} {st : List Value} {σ : aS} {x y : Int32} : Rn sc d 87 70 L (.int y :: .int x :: st) σ r ↔ if y < x then Rn sc d 87 102 L st σ r else Rn sc d 87 73 L st σ r := r_icmp_gt d87_70 rfl
theorem d87_73 : decode (mC 87) 73 = .ok (.aload_n 0, 1) := by decide +kernel
theorem x87_73 {sc : aSc} {d : Nat} {r : aRes} {x0 : Nat} {a1 : Value} {a2 : Value} {a3 : Value} {a4 : Value} {a5 : Value} {a6 : Value} {a7 : Value} {st : List Value} {σ : aS} : Rn sc d 87 73 [.ref x0, a1, a2, a3, a4, a5, a6, a7] st σ r ↔ Rn sc d 87 74 [.ref x0, a1, a2, a3, a4, a5, a6, a7] (.ref x0 :: st) σ r := r_aload_n d87_73 rfl
theorem d87_74 : decode (mC 87) 74 = .ok (.getfield 50, 3) := by decide +kernel
theorem x87_74 {sc : aSc} {d : Nat} {r : aRes} {L : List Value} {st : List Value} {f : Nat → Nat → Int32} {g : Nat → Nat → Int64} {h1 h2 : Nat} {o : Nat} (hK : KK[o]? = some (.inl 6)) (hR : (RR h1 h2 o 0).isSome = true) : Rn sc d 87 74 L (.ref o :: st) (cS f g h1 h2) r ↔ Rn sc d 87 77 L (.ref (rf h1 h2 o 0) :: st) (cS f g h1 h2) r := r_getR2 d87_74 (ci := 6) (k := 0) rfl (by decide) (fun _ => rfl) hK hR
theorem d87_77 : decode (mC 87) 77 = .ok (.getfield 119, 3) := by decide +kernel
theorem x87_77 {sc : aSc} {d : Nat} {r : aRes} {L : List Value} {st : List Value} {f : Nat → Nat → Int32} {g : Nat → Nat → Int64} {h1 h2 : Nat} {o : Nat} (hK : KK[o]? = some (.inl 1)) (hR : (RR h1 h2 o 17).isSome = true) : Rn sc d 87 77 L (.ref o :: st) (cS f g h1 h2) r ↔ Rn sc d 87 80 L (.ref (rf h1 h2 o 17) :: st) (cS f g h1 h2) r := r_getR2 d87_77 (ci := 1) (k := 17) rfl (by decide) (fun _ => rfl) hK hR
theorem d87_80 : decode (mC 87) 80 = .ok (.iload 4, 2) := by decide +kernel
theorem x87_80 {sc : aSc} {d : Nat} {r : aRes} {a0 : Value} {a1 : Value} {a2 : Value} {a3 : Value} {x4 : Int32} {a5 : Value} {a6 : Value} {a7 : Value} {st : List Value} {σ : aS} : Rn sc d 87 80 [a0, a1, a2, a3, .int x4, a5, a6, a7] st σ r ↔ Rn sc d 87 82 [a0, a1, a2, a3, .int x4, a5, a6, a7] (.int x4 :: st) σ r := r_iload d87_80 rfl
theorem d87_82 : decode (mC 87) 82 = .ok (.iload 7, 2) := by decide +kernel
theorem x87_82 {sc : aSc} {d : Nat} {r : aRes} {a0 : Value} {a1 : Value} {a2 : Value} {a3 : Value} {a4 : Value} {a5 : Value} {a6 : Value} {x7 : Int32} {st : List Value} {σ : aS} : Rn sc d 87 82 [a0, a1, a2, a3, a4, a5, a6, .int x7] st σ r ↔ Rn sc d 87 84 [a0, a1, a2, a3, a4, a5, a6, .int x7] (.int x7 :: st) σ r := r_iload d87_82 rfl
theorem d87_84 : decode (mC 87) 84 = .ok (.iadd, 1) := by decide +kernel
theorem x87_84 {sc : aSc} {d : Nat} {r : aRes} {L : List Value} {st : List Value} {σ : aS} {x y : Int32} : Rn sc d 87 84 L (.int y :: .int x :: st) σ r ↔ Rn sc d 87 85 L (.int (x + y) :: st) σ r := r_iadd d87_84
theorem d87_85 : decode (mC 87) 85 = .ok (.iload 5, 2) := by decide +kernel
theorem x87_85 {sc : aSc} {d : Nat} {r : aRes} {a0 : Value} {a1 : Value} {a2 : Value} {a3 : Value} {a4 : Value} {x5 : Int32} {a6 : Value} {a7 : Value} {st : List Value} {σ : aS} : Rn sc d 87 85 [a0, a1, a2, a3, a4, .int x5, a6, a7] st σ r ↔ Rn sc d 87 87 [a0, a1, a2, a3, a4, .int x5, a6, a7] (.int x5 :: st) σ r := r_iload d87_85 rfl
theorem d87_87 : decode (mC 87) 87 = .ok (.invokevirtual 159, 3) := by decide +kernel
theorem x87_87 {sc : aSc} {d : Nat} {r : aRes} {L : List Value} {f : Nat → Nat → Int32} {g : Nat → Nat → Int64} {h1 h2 : Nat} {y0 : Int32} {y1 : Int32}  {o : Nat} (hK : KK[o]? = some (.inl 2)) : Rn sc d 87 87 L [.int y0, .int y1, .ref o] (cS f g h1 h2) r ↔ ∃ (σ3 : aS) (v : Option Value), Cl sc d 31 [.ref o, .int y1, .int y0] (cS f g h1 h2) (σ3, v) ∧ Rn sc d 87 90 L (v.toList ++ []) σ3 r := r_callV (vs := [.int y0, .int y1]) d87_87 (j := 31) rfl ⟨rfl, by decide, rfl, rfl⟩ (Nat.le_of_ble_eq_true rfl) hK
theorem d87_90 : decode (mC 87) 90 = .ok (.ifCond .eq 6, 3) := by decide +kernel
theorem x87_90 {sc : aSc} {d : Nat} {r : aRes} {L : List Value} {st : List Value} {σ : aS} {x : Int32} : Rn sc d 87 90 L (.int x :: st) σ r ↔ if x = 0 then Rn sc d 87 96 L st σ r else Rn sc d 87 93 L st σ r := r_if_eq d87_90 rfl
theorem d87_93 : decode (mC 87) 93 = .ok (.iinc 6 1, 3) := by decide +kernel
theorem x87_93 {sc : aSc} {d : Nat} {r : aRes} {a0 : Value} {a1 : Value} {a2 : Value} {a3 : Value} {a4 : Value} {x5 : Int32} {x6 : Int32} {a7 : Value} {st : List Value} {σ : aS} : Rn sc d 87 93 [a0, a1, a2, a3, a4, .int x5, .int x6, a7] st σ r ↔ Rn sc d 87 96 [a0, a1, a2, a3, a4, .int x5, .int (x6 + 1), a7] st σ r := r_iinc d87_93 (Nat.le_of_ble_eq_true rfl) rfl rfl (by decide)
theorem d87_96 : decode (mC 87) 96 = .ok (.iinc 7 1, 3) := by decide +kernel
theorem x87_96 {sc : aSc} {d : Nat} {r : aRes} {a0 : Value} {a1 : Value} {a2 : Value} {a3 : Value} {a4 : Value} {a5 : Value} {x6 : Int32} {x7 : Int32} {st : List Value} {σ : aS} : Rn sc d 87 96 [a0, a1, a2, a3, a4, a5, .int x6, .int x7] st σ r ↔ Rn sc d 87 99 [a0, a1, a2, a3, a4, a5, .int x6, .int (x7 + 1)] st σ r := r_iinc d87_96 (Nat.le_of_ble_eq_true rfl) rfl rfl (by decide)
theorem d87_99 : decode (mC 87) 99 = .ok (.goto (-33), 3) := by decide +kernel
theorem x87_99 {sc : aSc} {d : Nat} {r : aRes} {L : List Value} {st : List Value} {σ : aS} : Rn sc d 87 99 L st σ r ↔ Rn sc d 87 66 L st σ r := r_goto d87_99 rfl
theorem d87_102 : decode (mC 87) 102 = .ok (.iload 6, 2) := by decide +kernel
theorem x87_102 {sc : aSc} {d : Nat} {r : aRes} {a0 : Value} {a1 : Value} {a2 : Value} {a3 : Value} {a4 : Value} {a5 : Value} {x6 : Int32} {a7 : Value} {st : List Value} {σ : aS} : Rn sc d 87 102 [a0, a1, a2, a3, a4, a5, .int x6, a7] st σ r ↔ Rn sc d 87 104 [a0, a1, a2, a3, a4, a5, .int x6, a7] (.int x6 :: st) σ r := r_iload d87_102 rfl
theorem d87_104 : decode (mC 87) 104 = .ok (.bipush 10, 2) := by decide +kernel
theorem x87_104 {sc : aSc} {d : Nat} {r : aRes} {L : List Value} {st : List Value} {σ : aS} : Rn sc d 87 104 L st σ r ↔ Rn sc d 87 106 L (.int 10 :: st) σ r := r_bipush d87_104 (by decide)
theorem d87_106 : decode (mC 87) 106 = .ok (.iload_n 3, 1) := by decide +kernel
theorem x87_106 {sc : aSc} {d : Nat} {r : aRes} {a0 : Value} {a1 : Value} {a2 : Value} {x3 : Int32} {a4 : Value} {a5 : Value} {a6 : Value} {a7 : Value} {st : List Value} {σ : aS} : Rn sc d 87 106 [a0, a1, a2, .int x3, a4, a5, a6, a7] st σ r ↔ Rn sc d 87 107 [a0, a1, a2, .int x3, a4, a5, a6, a7] (.int x3 :: st) σ r := r_iload_n d87_106 rfl
theorem d87_107 : decode (mC 87) 107 = .ok (.invokestatic 223, 3) := by decide +kernel
theorem x87_107 {sc : aSc} {d : Nat} {r : aRes} {L : List Value} {σ : aS} {y0 : Int32} {y1 : Int32} {y2 : Int32}  : Rn sc d 87 107 L [.int y0, .int y1, .int y2] σ r ↔ ∃ (σ3 : aS) (v : Option Value), Cl sc d 106 [.int y2, .int y1, .int y0] σ (σ3, v) ∧ Rn sc d 87 110 L (v.toList ++ []) σ3 r := r_callS (vs := [.int y0, .int y1, .int y2]) d87_107 rfl (j := 106) rfl ⟨rfl, by decide, rfl, rfl⟩ (Nat.le_of_ble_eq_true rfl)
theorem d87_110 : decode (mC 87) 110 = .ok (.lreturn, 1) := by decide +kernel
theorem x87_110 {sc : aSc} {d : Nat} {r : aRes} {L : List Value} {σ : aS} {x : Int64} : Rn sc d 87 110 L [.long x] σ r ↔ r = (σ, some (.long x)) := r_lret d87_110 rfl
theorem d88_0 : decode (mC 88) 0 = .ok (.iload_n 1, 1) := by decide +kernel
theorem x88_0 {sc : aSc} {d : Nat} {r : aRes} {a0 : Value} {x1 : Int32} {a2 : Value} {a3 : Value} {st : List Value} {σ : aS} : Rn sc d 88 0 [a0, .int x1, a2, a3] st σ r ↔ Rn sc d 88 1 [a0, .int x1, a2, a3] (.int x1 :: st) σ r := r_iload_n d88_0 rfl
theorem d88_1 : decode (mC 88) 1 = .ok (.iconst 1, 1) := by decide +kernel
theorem x88_1 {sc : aSc} {d : Nat} {r : aRes} {L : List Value} {st : List Value} {σ : aS} : Rn sc d 88 1 L st σ r ↔ Rn sc d 88 2 L (.int 1 :: st) σ r := r_iconst d88_1 (by decide)
theorem d88_2 : decode (mC 88) 2 = .ok (.invokestatic 58, 3) := by decide +kernel
theorem x88_2 {sc : aSc} {d : Nat} {r : aRes} {L : List Value} {σ : aS} {y0 : Int32} {y1 : Int32}  : Rn sc d 88 2 L [.int y0, .int y1] σ r ↔ ∃ (σ3 : aS) (v : Option Value), Cl sc d 102 [.int y1, .int y0] σ (σ3, v) ∧ Rn sc d 88 5 L (v.toList ++ []) σ3 r := r_callS (vs := [.int y0, .int y1]) d88_2 rfl (j := 102) rfl ⟨rfl, by decide, rfl, rfl⟩ (Nat.le_of_ble_eq_true rfl)
theorem d88_5 : decode (mC 88) 5 = .ok (.ifCond .eq 13, 3) := by decide +kernel
theorem x88_5 {sc : aSc} {d : Nat} {r : aRes} {L : List Value} {st : List Value} {σ : aS} {x : Int32} : Rn sc d 88 5 L (.int x :: st) σ r ↔ if x = 0 then Rn sc d 88 18 L st σ r else Rn sc d 88 8 L st σ r := r_if_eq d88_5 rfl
theorem d88_8 : decode (mC 88) 8 = .ok (.aload_n 0, 1) := by decide +kernel
theorem x88_8 {sc : aSc} {d : Nat} {r : aRes} {x0 : Nat} {a1 : Value} {a2 : Value} {a3 : Value} {st : List Value} {σ : aS} : Rn sc d 88 8 [.ref x0, a1, a2, a3] st σ r ↔ Rn sc d 88 9 [.ref x0, a1, a2, a3] (.ref x0 :: st) σ r := r_aload_n d88_8 rfl
theorem d88_9 : decode (mC 88) 9 = .ok (.getfield 50, 3) := by decide +kernel
theorem x88_9 {sc : aSc} {d : Nat} {r : aRes} {L : List Value} {st : List Value} {f : Nat → Nat → Int32} {g : Nat → Nat → Int64} {h1 h2 : Nat} {o : Nat} (hK : KK[o]? = some (.inl 6)) (hR : (RR h1 h2 o 0).isSome = true) : Rn sc d 88 9 L (.ref o :: st) (cS f g h1 h2) r ↔ Rn sc d 88 12 L (.ref (rf h1 h2 o 0) :: st) (cS f g h1 h2) r := r_getR2 d88_9 (ci := 6) (k := 0) rfl (by decide) (fun _ => rfl) hK hR
theorem d88_12 : decode (mC 88) 12 = .ok (.getfield 62, 3) := by decide +kernel
theorem x88_12 {sc : aSc} {d : Nat} {r : aRes} {L : List Value} {st : List Value} {f : Nat → Nat → Int32} {g : Nat → Nat → Int64} {h1 h2 : Nat} {o : Nat} (h17 : 17 ≤ o) (hK : KK[o]? = some (.inl 1)) : Rn sc d 88 12 L (.ref o :: st) (cS f g h1 h2) r ↔ Rn sc d 88 15 L (.int (f o 0) :: st) (cS f g h1 h2) r := r_getI d88_12 (ci := 1) (k := 0) rfl (by decide) (fun _ => rfl) h17 hK
theorem d88_15 : decode (mC 88) 15 = .ok (.ifCond .ne 7, 3) := by decide +kernel
theorem x88_15 {sc : aSc} {d : Nat} {r : aRes} {L : List Value} {st : List Value} {σ : aS} {x : Int32} : Rn sc d 88 15 L (.int x :: st) σ r ↔ if x = 0 then Rn sc d 88 18 L st σ r else Rn sc d 88 22 L st σ r := r_if_ne d88_15 rfl
theorem d88_18 : decode (mC 88) 18 = .ok (.ldc2_w 221, 3) := by decide +kernel
theorem x88_18 {sc : aSc} {d : Nat} {r : aRes} {L : List Value} {st : List Value} {σ : aS} : Rn sc d 88 18 L st σ r ↔ Rn sc d 88 21 L (.long (-9223372036854775808) :: st) σ r := r_ldc2_w d88_18 rfl
theorem d88_21 : decode (mC 88) 21 = .ok (.lreturn, 1) := by decide +kernel
theorem x88_21 {sc : aSc} {d : Nat} {r : aRes} {L : List Value} {σ : aS} {x : Int64} : Rn sc d 88 21 L [.long x] σ r ↔ r = (σ, some (.long x)) := r_lret d88_21 rfl
theorem d88_22 : decode (mC 88) 22 = .ok (.iconst 0, 1) := by decide +kernel
theorem x88_22 {sc : aSc} {d : Nat} {r : aRes} {L : List Value} {st : List Value} {σ : aS} : Rn sc d 88 22 L st σ r ↔ Rn sc d 88 23 L (.int 0 :: st) σ r := r_iconst d88_22 (by decide)
theorem d88_23 : decode (mC 88) 23 = .ok (.istore_n 2, 1) := by decide +kernel
theorem x88_23 {sc : aSc} {d : Nat} {r : aRes} {a0 : Value} {x1 : Int32} {a2 : Value} {a3 : Value} {st : List Value} {σ : aS} {y : Int32} : Rn sc d 88 23 [a0, .int x1, a2, a3] (.int y :: st) σ r ↔ Rn sc d 88 24 [a0, .int x1, .int y, a3] st σ r := r_istore_n d88_23 (Nat.le_of_ble_eq_true rfl) rfl
theorem d88_24 : decode (mC 88) 24 = .ok (.iconst 0, 1) := by decide +kernel
theorem x88_24 {sc : aSc} {d : Nat} {r : aRes} {L : List Value} {st : List Value} {σ : aS} : Rn sc d 88 24 L st σ r ↔ Rn sc d 88 25 L (.int 0 :: st) σ r := r_iconst d88_24 (by decide)
theorem d88_25 : decode (mC 88) 25 = .ok (.istore_n 3, 1) := by decide +kernel
theorem x88_25 {sc : aSc} {d : Nat} {r : aRes} {a0 : Value} {a1 : Value} {x2 : Int32} {a3 : Value} {st : List Value} {σ : aS} {y : Int32} : Rn sc d 88 25 [a0, a1, .int x2, a3] (.int y :: st) σ r ↔ Rn sc d 88 26 [a0, a1, .int x2, .int y] st σ r := r_istore_n d88_25 (Nat.le_of_ble_eq_true rfl) rfl
theorem d88_26 : decode (mC 88) 26 = .ok (.iload_n 3, 1) := by decide +kernel
theorem x88_26 {sc : aSc} {d : Nat} {r : aRes} {a0 : Value} {a1 : Value} {a2 : Value} {x3 : Int32} {st : List Value} {σ : aS} : Rn sc d 88 26 [a0, a1, a2, .int x3] st σ r ↔ Rn sc d 88 27 [a0, a1, a2, .int x3] (.int x3 :: st) σ r := r_iload_n d88_26 rfl
theorem d88_27 : decode (mC 88) 27 = .ok (.aload_n 0, 1) := by decide +kernel
theorem x88_27 {sc : aSc} {d : Nat} {r : aRes} {x0 : Nat} {a1 : Value} {a2 : Value} {a3 : Value} {st : List Value} {σ : aS} : Rn sc d 88 27 [.ref x0, a1, a2, a3] st σ r ↔ Rn sc d 88 28 [.ref x0, a1, a2, a3] (.ref x0 :: st) σ r := r_aload_n d88_27 rfl
theorem d88_28 : decode (mC 88) 28 = .ok (.getfield 50, 3) := by decide +kernel
theorem x88_28 {sc : aSc} {d : Nat} {r : aRes} {L : List Value} {st : List Value} {f : Nat → Nat → Int32} {g : Nat → Nat → Int64} {h1 h2 : Nat} {o : Nat} (hK : KK[o]? = some (.inl 6)) (hR : (RR h1 h2 o 0).isSome = true) : Rn sc d 88 28 L (.ref o :: st) (cS f g h1 h2) r ↔ Rn sc d 88 31 L (.ref (rf h1 h2 o 0) :: st) (cS f g h1 h2) r := r_getR2 d88_28 (ci := 6) (k := 0) rfl (by decide) (fun _ => rfl) hK hR
theorem d88_31 : decode (mC 88) 31 = .ok (.getfield 62, 3) := by decide +kernel
theorem x88_31 {sc : aSc} {d : Nat} {r : aRes} {L : List Value} {st : List Value} {f : Nat → Nat → Int32} {g : Nat → Nat → Int64} {h1 h2 : Nat} {o : Nat} (h17 : 17 ≤ o) (hK : KK[o]? = some (.inl 1)) : Rn sc d 88 31 L (.ref o :: st) (cS f g h1 h2) r ↔ Rn sc d 88 34 L (.int (f o 0) :: st) (cS f g h1 h2) r := r_getI d88_31 (ci := 1) (k := 0) rfl (by decide) (fun _ => rfl) h17 hK
theorem d88_34 : decode (mC 88) 34 = .ok (.if_icmp .ge 20, 3) := by decide +kernel
theorem x88_34 {sc : aSc} {d : Nat} {r : aRes} {L : List Value} {st : List Value} {σ : aS} {x y : Int32} : Rn sc d 88 34 L (.int y :: .int x :: st) σ r ↔ if x < y then Rn sc d 88 37 L st σ r else Rn sc d 88 54 L st σ r := r_icmp_ge d88_34 rfl
theorem d88_37 : decode (mC 88) 37 = .ok (.iload_n 2, 1) := by decide +kernel
theorem x88_37 {sc : aSc} {d : Nat} {r : aRes} {a0 : Value} {a1 : Value} {x2 : Int32} {a3 : Value} {st : List Value} {σ : aS} : Rn sc d 88 37 [a0, a1, .int x2, a3] st σ r ↔ Rn sc d 88 38 [a0, a1, .int x2, a3] (.int x2 :: st) σ r := r_iload_n d88_37 rfl
theorem d88_38 : decode (mC 88) 38 = .ok (.aload_n 0, 1) := by decide +kernel
theorem x88_38 {sc : aSc} {d : Nat} {r : aRes} {x0 : Nat} {a1 : Value} {a2 : Value} {a3 : Value} {st : List Value} {σ : aS} : Rn sc d 88 38 [.ref x0, a1, a2, a3] st σ r ↔ Rn sc d 88 39 [.ref x0, a1, a2, a3] (.ref x0 :: st) σ r := r_aload_n d88_38 rfl
theorem d88_39 : decode (mC 88) 39 = .ok (.getfield 50, 3) := by decide +kernel
theorem x88_39 {sc : aSc} {d : Nat} {r : aRes} {L : List Value} {st : List Value} {f : Nat → Nat → Int32} {g : Nat → Nat → Int64} {h1 h2 : Nat} {o : Nat} (hK : KK[o]? = some (.inl 6)) (hR : (RR h1 h2 o 0).isSome = true) : Rn sc d 88 39 L (.ref o :: st) (cS f g h1 h2) r ↔ Rn sc d 88 42 L (.ref (rf h1 h2 o 0) :: st) (cS f g h1 h2) r := r_getR2 d88_39 (ci := 6) (k := 0) rfl (by decide) (fun _ => rfl) hK hR
theorem d88_42 : decode (mC 88) 42 = .ok (.iload_n 3, 1) := by decide +kernel
theorem x88_42 {sc : aSc} {d : Nat} {r : aRes} {a0 : Value} {a1 : Value} {a2 : Value} {x3 : Int32} {st : List Value} {σ : aS} : Rn sc d 88 42 [a0, a1, a2, .int x3] st σ r ↔ Rn sc d 88 43 [a0, a1, a2, .int x3] (.int x3 :: st) σ r := r_iload_n d88_42 rfl
theorem d88_43 : decode (mC 88) 43 = .ok (.invokevirtual 94, 3) := by decide +kernel
theorem x88_43 {sc : aSc} {d : Nat} {r : aRes} {L : List Value} {f : Nat → Nat → Int32} {g : Nat → Nat → Int64} {h1 h2 : Nat} {y0 : Int32} {z0 : Int32} {o : Nat} (hK : KK[o]? = some (.inl 1)) : Rn sc d 88 43 L [.int y0, .ref o, .int z0] (cS f g h1 h2) r ↔ ∃ (σ3 : aS) (v : Option Value), Cl sc d 15 [.ref o, .int y0] (cS f g h1 h2) (σ3, v) ∧ Rn sc d 88 46 L (v.toList ++ [.int z0]) σ3 r := r_callV (vs := [.int y0]) d88_43 (j := 15) rfl ⟨rfl, by decide, rfl, rfl⟩ (Nat.le_of_ble_eq_true rfl) hK
theorem d88_46 : decode (mC 88) 46 = .ok (.iadd, 1) := by decide +kernel
theorem x88_46 {sc : aSc} {d : Nat} {r : aRes} {L : List Value} {st : List Value} {σ : aS} {x y : Int32} : Rn sc d 88 46 L (.int y :: .int x :: st) σ r ↔ Rn sc d 88 47 L (.int (x + y) :: st) σ r := r_iadd d88_46
theorem d88_47 : decode (mC 88) 47 = .ok (.istore_n 2, 1) := by decide +kernel
theorem x88_47 {sc : aSc} {d : Nat} {r : aRes} {a0 : Value} {x1 : Int32} {a2 : Value} {a3 : Value} {st : List Value} {σ : aS} {y : Int32} : Rn sc d 88 47 [a0, .int x1, a2, a3] (.int y :: st) σ r ↔ Rn sc d 88 48 [a0, .int x1, .int y, a3] st σ r := r_istore_n d88_47 (Nat.le_of_ble_eq_true rfl) rfl
theorem d88_48 : decode (mC 88) 48 = .ok (.iinc 3 1, 3) := by decide +kernel
theorem x88_48 {sc : aSc} {d : Nat} {r : aRes} {a0 : Value} {a1 : Value} {x2 : Int32} {x3 : Int32} {st : List Value} {σ : aS} : Rn sc d 88 48 [a0, a1, .int x2, .int x3] st σ r ↔ Rn sc d 88 51 [a0, a1, .int x2, .int (x3 + 1)] st σ r := r_iinc d88_48 (Nat.le_of_ble_eq_true rfl) rfl rfl (by decide)
theorem d88_51 : decode (mC 88) 51 = .ok (.goto (-25), 3) := by decide +kernel
theorem x88_51 {sc : aSc} {d : Nat} {r : aRes} {L : List Value} {st : List Value} {σ : aS} : Rn sc d 88 51 L st σ r ↔ Rn sc d 88 26 L st σ r := r_goto d88_51 rfl
theorem d88_54 : decode (mC 88) 54 = .ok (.iload_n 2, 1) := by decide +kernel
theorem x88_54 {sc : aSc} {d : Nat} {r : aRes} {a0 : Value} {a1 : Value} {x2 : Int32} {a3 : Value} {st : List Value} {σ : aS} : Rn sc d 88 54 [a0, a1, .int x2, a3] st σ r ↔ Rn sc d 88 55 [a0, a1, .int x2, a3] (.int x2 :: st) σ r := r_iload_n d88_54 rfl
theorem d88_55 : decode (mC 88) 55 = .ok (.aload_n 0, 1) := by decide +kernel
theorem x88_55 {sc : aSc} {d : Nat} {r : aRes} {x0 : Nat} {a1 : Value} {a2 : Value} {a3 : Value} {st : List Value} {σ : aS} : Rn sc d 88 55 [.ref x0, a1, a2, a3] st σ r ↔ Rn sc d 88 56 [.ref x0, a1, a2, a3] (.ref x0 :: st) σ r := r_aload_n d88_55 rfl
theorem d88_56 : decode (mC 88) 56 = .ok (.getfield 50, 3) := by decide +kernel
theorem x88_56 {sc : aSc} {d : Nat} {r : aRes} {L : List Value} {st : List Value} {f : Nat → Nat → Int32} {g : Nat → Nat → Int64} {h1 h2 : Nat} {o : Nat} (hK : KK[o]? = some (.inl 6)) (hR : (RR h1 h2 o 0).isSome = true) : Rn sc d 88 56 L (.ref o :: st) (cS f g h1 h2) r ↔ Rn sc d 88 59 L (.ref (rf h1 h2 o 0) :: st) (cS f g h1 h2) r := r_getR2 d88_56 (ci := 6) (k := 0) rfl (by decide) (fun _ => rfl) hK hR
theorem d88_59 : decode (mC 88) 59 = .ok (.getfield 62, 3) := by decide +kernel
theorem x88_59 {sc : aSc} {d : Nat} {r : aRes} {L : List Value} {st : List Value} {f : Nat → Nat → Int32} {g : Nat → Nat → Int64} {h1 h2 : Nat} {o : Nat} (h17 : 17 ≤ o) (hK : KK[o]? = some (.inl 1)) : Rn sc d 88 59 L (.ref o :: st) (cS f g h1 h2) r ↔ Rn sc d 88 62 L (.int (f o 0) :: st) (cS f g h1 h2) r := r_getI d88_59 (ci := 1) (k := 0) rfl (by decide) (fun _ => rfl) h17 hK
theorem d88_62 : decode (mC 88) 62 = .ok (.iload_n 1, 1) := by decide +kernel
theorem x88_62 {sc : aSc} {d : Nat} {r : aRes} {a0 : Value} {x1 : Int32} {a2 : Value} {a3 : Value} {st : List Value} {σ : aS} : Rn sc d 88 62 [a0, .int x1, a2, a3] st σ r ↔ Rn sc d 88 63 [a0, .int x1, a2, a3] (.int x1 :: st) σ r := r_iload_n d88_62 rfl
theorem d88_63 : decode (mC 88) 63 = .ok (.invokestatic 223, 3) := by decide +kernel
theorem x88_63 {sc : aSc} {d : Nat} {r : aRes} {L : List Value} {σ : aS} {y0 : Int32} {y1 : Int32} {y2 : Int32}  : Rn sc d 88 63 L [.int y0, .int y1, .int y2] σ r ↔ ∃ (σ3 : aS) (v : Option Value), Cl sc d 106 [.int y2, .int y1, .int y0] σ (σ3, v) ∧ Rn sc d 88 66 L (v.toList ++ []) σ3 r := r_callS (vs := [.int y0, .int y1, .int y2]) d88_63 rfl (j := 106) rfl ⟨rfl, by decide, rfl, rfl⟩ (Nat.le_of_ble_eq_true rfl)
theorem d88_66 : decode (mC 88) 66 = .ok (.lreturn, 1) := by decide +kernel
theorem x88_66 {sc : aSc} {d : Nat} {r : aRes} {L : List Value} {σ : aS} {x : Int64} : Rn sc d 88 66 L [.long x] σ r ↔ r = (σ, some (.long x)) := r_lret d88_66 rfl
theorem d89_0 : decode (mC 89) 0 = .ok (.iload_n 1, 1) := by decide +kernel
theorem x89_0 {sc : aSc} {d : Nat} {r : aRes} {a0 : Value} {x1 : Int32} {a2 : Value} {st : List Value} {σ : aS} : Rn sc d 89 0 [a0, .int x1, a2] st σ r ↔ Rn sc d 89 1 [a0, .int x1, a2] (.int x1 :: st) σ r := r_iload_n d89_0 rfl
theorem d89_1 : decode (mC 89) 1 = .ok (.iconst (-1), 1) := by decide +kernel
theorem x89_1 {sc : aSc} {d : Nat} {r : aRes} {L : List Value} {st : List Value} {σ : aS} : Rn sc d 89 1 L st σ r ↔ Rn sc d 89 2 L (.int (-1) :: st) σ r := r_iconst d89_1 (by decide)
theorem d89_2 : decode (mC 89) 2 = .ok (.if_icmp .ne 13, 3) := by decide +kernel
theorem x89_2 {sc : aSc} {d : Nat} {r : aRes} {L : List Value} {st : List Value} {σ : aS} {x y : Int32} : Rn sc d 89 2 L (.int y :: .int x :: st) σ r ↔ if x = y then Rn sc d 89 5 L st σ r else Rn sc d 89 15 L st σ r := r_icmp_ne d89_2 rfl
theorem d89_5 : decode (mC 89) 5 = .ok (.aload_n 0, 1) := by decide +kernel
theorem x89_5 {sc : aSc} {d : Nat} {r : aRes} {x0 : Nat} {a1 : Value} {a2 : Value} {st : List Value} {σ : aS} : Rn sc d 89 5 [.ref x0, a1, a2] st σ r ↔ Rn sc d 89 6 [.ref x0, a1, a2] (.ref x0 :: st) σ r := r_aload_n d89_5 rfl
theorem d89_6 : decode (mC 89) 6 = .ok (.getfield 50, 3) := by decide +kernel
theorem x89_6 {sc : aSc} {d : Nat} {r : aRes} {L : List Value} {st : List Value} {f : Nat → Nat → Int32} {g : Nat → Nat → Int64} {h1 h2 : Nat} {o : Nat} (hK : KK[o]? = some (.inl 6)) (hR : (RR h1 h2 o 0).isSome = true) : Rn sc d 89 6 L (.ref o :: st) (cS f g h1 h2) r ↔ Rn sc d 89 9 L (.ref (rf h1 h2 o 0) :: st) (cS f g h1 h2) r := r_getR2 d89_6 (ci := 6) (k := 0) rfl (by decide) (fun _ => rfl) hK hR
theorem d89_9 : decode (mC 89) 9 = .ok (.iconst 0, 1) := by decide +kernel
theorem x89_9 {sc : aSc} {d : Nat} {r : aRes} {L : List Value} {st : List Value} {σ : aS} : Rn sc d 89 9 L st σ r ↔ Rn sc d 89 10 L (.int 0 :: st) σ r := r_iconst d89_9 (by decide)
theorem d89_10 : decode (mC 89) 10 = .ok (.putfield 227, 3) := by decide +kernel
theorem x89_10 {sc : aSc} {d : Nat} {r : aRes} {L : List Value} {st : List Value} {f : Nat → Nat → Int32} {g : Nat → Nat → Int64} {h1 h2 : Nat} {o : Nat} {v : Int32} (h17 : 17 ≤ o) (hK : KK[o]? = some (.inl 1)) : Rn sc d 89 10 L (.int v :: .ref o :: st) (cS f g h1 h2) r ↔ Rn sc d 89 13 L st (cS (u2 f o 14 v) g h1 h2) r := r_putI d89_10 (ci := 1) (k := 14) rfl (by decide) h17 hK
theorem d89_13 : decode (mC 89) 13 = .ok (.iconst 0, 1) := by decide +kernel
theorem x89_13 {sc : aSc} {d : Nat} {r : aRes} {L : List Value} {st : List Value} {σ : aS} : Rn sc d 89 13 L st σ r ↔ Rn sc d 89 14 L (.int 0 :: st) σ r := r_iconst d89_13 (by decide)
theorem d89_14 : decode (mC 89) 14 = .ok (.ireturn, 1) := by decide +kernel
theorem x89_14 {sc : aSc} {d : Nat} {r : aRes} {L : List Value} {σ : aS} {x : Int32} : Rn sc d 89 14 L [.int x] σ r ↔ r = (σ, some (.int x)) := r_iret d89_14 rfl rfl
theorem d89_15 : decode (mC 89) 15 = .ok (.aload_n 0, 1) := by decide +kernel
theorem x89_15 {sc : aSc} {d : Nat} {r : aRes} {x0 : Nat} {a1 : Value} {a2 : Value} {st : List Value} {σ : aS} : Rn sc d 89 15 [.ref x0, a1, a2] st σ r ↔ Rn sc d 89 16 [.ref x0, a1, a2] (.ref x0 :: st) σ r := r_aload_n d89_15 rfl
theorem d89_16 : decode (mC 89) 16 = .ok (.getfield 50, 3) := by decide +kernel
theorem x89_16 {sc : aSc} {d : Nat} {r : aRes} {L : List Value} {st : List Value} {f : Nat → Nat → Int32} {g : Nat → Nat → Int64} {h1 h2 : Nat} {o : Nat} (hK : KK[o]? = some (.inl 6)) (hR : (RR h1 h2 o 0).isSome = true) : Rn sc d 89 16 L (.ref o :: st) (cS f g h1 h2) r ↔ Rn sc d 89 19 L (.ref (rf h1 h2 o 0) :: st) (cS f g h1 h2) r := r_getR2 d89_16 (ci := 6) (k := 0) rfl (by decide) (fun _ => rfl) hK hR
theorem d89_19 : decode (mC 89) 19 = .ok (.iload_n 1, 1) := by decide +kernel
theorem x89_19 {sc : aSc} {d : Nat} {r : aRes} {a0 : Value} {x1 : Int32} {a2 : Value} {st : List Value} {σ : aS} : Rn sc d 89 19 [a0, .int x1, a2] st σ r ↔ Rn sc d 89 20 [a0, .int x1, a2] (.int x1 :: st) σ r := r_iload_n d89_19 rfl
theorem d89_20 : decode (mC 89) 20 = .ok (.invokevirtual 70, 3) := by decide +kernel
theorem x89_20 {sc : aSc} {d : Nat} {r : aRes} {L : List Value} {f : Nat → Nat → Int32} {g : Nat → Nat → Int64} {h1 h2 : Nat} {y0 : Int32}  {o : Nat} (hK : KK[o]? = some (.inl 1)) : Rn sc d 89 20 L [.int y0, .ref o] (cS f g h1 h2) r ↔ ∃ (σ3 : aS) (v : Option Value), Cl sc d 7 [.ref o, .int y0] (cS f g h1 h2) (σ3, v) ∧ Rn sc d 89 23 L (v.toList ++ []) σ3 r := r_callV (vs := [.int y0]) d89_20 (j := 7) rfl ⟨rfl, by decide, rfl, rfl⟩ (Nat.le_of_ble_eq_true rfl) hK
theorem d89_23 : decode (mC 89) 23 = .ok (.ifCond .ne 5, 3) := by decide +kernel
theorem x89_23 {sc : aSc} {d : Nat} {r : aRes} {L : List Value} {st : List Value} {σ : aS} {x : Int32} : Rn sc d 89 23 L (.int x :: st) σ r ↔ if x = 0 then Rn sc d 89 26 L st σ r else Rn sc d 89 28 L st σ r := r_if_ne d89_23 rfl
theorem d89_26 : decode (mC 89) 26 = .ok (.iconst (-1), 1) := by decide +kernel
theorem x89_26 {sc : aSc} {d : Nat} {r : aRes} {L : List Value} {st : List Value} {σ : aS} : Rn sc d 89 26 L st σ r ↔ Rn sc d 89 27 L (.int (-1) :: st) σ r := r_iconst d89_26 (by decide)
theorem d89_27 : decode (mC 89) 27 = .ok (.ireturn, 1) := by decide +kernel
theorem x89_27 {sc : aSc} {d : Nat} {r : aRes} {L : List Value} {σ : aS} {x : Int32} : Rn sc d 89 27 L [.int x] σ r ↔ r = (σ, some (.int x)) := r_iret d89_27 rfl rfl
theorem d89_28 : decode (mC 89) 28 = .ok (.iload_n 2, 1) := by decide +kernel
theorem x89_28 {sc : aSc} {d : Nat} {r : aRes} {a0 : Value} {a1 : Value} {x2 : Int32} {st : List Value} {σ : aS} : Rn sc d 89 28 [a0, a1, .int x2] st σ r ↔ Rn sc d 89 29 [a0, a1, .int x2] (.int x2 :: st) σ r := r_iload_n d89_28 rfl
theorem d89_29 : decode (mC 89) 29 = .ok (.sipush 999, 3) := by decide +kernel
theorem x89_29 {sc : aSc} {d : Nat} {r : aRes} {L : List Value} {st : List Value} {σ : aS} : Rn sc d 89 29 L st σ r ↔ Rn sc d 89 32 L (.int 999 :: st) σ r := r_sipush d89_29 (by decide)
theorem d89_32 : decode (mC 89) 32 = .ok (.invokestatic 58, 3) := by decide +kernel
theorem x89_32 {sc : aSc} {d : Nat} {r : aRes} {L : List Value} {σ : aS} {y0 : Int32} {y1 : Int32}  : Rn sc d 89 32 L [.int y0, .int y1] σ r ↔ ∃ (σ3 : aS) (v : Option Value), Cl sc d 102 [.int y1, .int y0] σ (σ3, v) ∧ Rn sc d 89 35 L (v.toList ++ []) σ3 r := r_callS (vs := [.int y0, .int y1]) d89_32 rfl (j := 102) rfl ⟨rfl, by decide, rfl, rfl⟩ (Nat.le_of_ble_eq_true rfl)
theorem d89_35 : decode (mC 89) 35 = .ok (.ifCond .ne 6, 3) := by decide +kernel
theorem x89_35 {sc : aSc} {d : Nat} {r : aRes} {L : List Value} {st : List Value} {σ : aS} {x : Int32} : Rn sc d 89 35 L (.int x :: st) σ r ↔ if x = 0 then Rn sc d 89 38 L st σ r else Rn sc d 89 41 L st σ r := r_if_ne d89_35 rfl
theorem d89_38 : decode (mC 89) 38 = .ok (.bipush (-2), 2) := by decide +kernel
theorem x89_38 {sc : aSc} {d : Nat} {r : aRes} {L : List Value} {st : List Value} {σ : aS} : Rn sc d 89 38 L st σ r ↔ Rn sc d 89 40 L (.int (-2) :: st) σ r := r_bipush d89_38 (by decide)
theorem d89_40 : decode (mC 89) 40 = .ok (.ireturn, 1) := by decide +kernel
theorem x89_40 {sc : aSc} {d : Nat} {r : aRes} {L : List Value} {σ : aS} {x : Int32} : Rn sc d 89 40 L [.int x] σ r ↔ r = (σ, some (.int x)) := r_iret d89_40 rfl rfl
theorem d89_41 : decode (mC 89) 41 = .ok (.aload_n 0, 1) := by decide +kernel
theorem x89_41 {sc : aSc} {d : Nat} {r : aRes} {x0 : Nat} {a1 : Value} {a2 : Value} {st : List Value} {σ : aS} : Rn sc d 89 41 [.ref x0, a1, a2] st σ r ↔ Rn sc d 89 42 [.ref x0, a1, a2] (.ref x0 :: st) σ r := r_aload_n d89_41 rfl
theorem d89_42 : decode (mC 89) 42 = .ok (.getfield 50, 3) := by decide +kernel
theorem x89_42 {sc : aSc} {d : Nat} {r : aRes} {L : List Value} {st : List Value} {f : Nat → Nat → Int32} {g : Nat → Nat → Int64} {h1 h2 : Nat} {o : Nat} (hK : KK[o]? = some (.inl 6)) (hR : (RR h1 h2 o 0).isSome = true) : Rn sc d 89 42 L (.ref o :: st) (cS f g h1 h2) r ↔ Rn sc d 89 45 L (.ref (rf h1 h2 o 0) :: st) (cS f g h1 h2) r := r_getR2 d89_42 (ci := 6) (k := 0) rfl (by decide) (fun _ => rfl) hK hR
theorem d89_45 : decode (mC 89) 45 = .ok (.getfield 227, 3) := by decide +kernel
theorem x89_45 {sc : aSc} {d : Nat} {r : aRes} {L : List Value} {st : List Value} {f : Nat → Nat → Int32} {g : Nat → Nat → Int64} {h1 h2 : Nat} {o : Nat} (h17 : 17 ≤ o) (hK : KK[o]? = some (.inl 1)) : Rn sc d 89 45 L (.ref o :: st) (cS f g h1 h2) r ↔ Rn sc d 89 48 L (.int (f o 14) :: st) (cS f g h1 h2) r := r_getI d89_45 (ci := 1) (k := 14) rfl (by decide) (fun _ => rfl) h17 hK
theorem d89_48 : decode (mC 89) 48 = .ok (.bipush 12, 2) := by decide +kernel
theorem x89_48 {sc : aSc} {d : Nat} {r : aRes} {L : List Value} {st : List Value} {σ : aS} : Rn sc d 89 48 L st σ r ↔ Rn sc d 89 50 L (.int 12 :: st) σ r := r_bipush d89_48 (by decide)
theorem d89_50 : decode (mC 89) 50 = .ok (.if_icmp .lt 6, 3) := by decide +kernel
theorem x89_50 {sc : aSc} {d : Nat} {r : aRes} {L : List Value} {st : List Value} {σ : aS} {x y : Int32} : Rn sc d 89 50 L (.int y :: .int x :: st) σ r ↔ if x < y then Rn sc d 89 56 L st σ r else Rn sc d 89 53 L st σ r := r_icmp_lt d89_50 rfl
theorem d89_53 : decode (mC 89) 53 = .ok (.bipush (-4), 2) := by decide +kernel
theorem x89_53 {sc : aSc} {d : Nat} {r : aRes} {L : List Value} {st : List Value} {σ : aS} : Rn sc d 89 53 L st σ r ↔ Rn sc d 89 55 L (.int (-4) :: st) σ r := r_bipush d89_53 (by decide)
theorem d89_55 : decode (mC 89) 55 = .ok (.ireturn, 1) := by decide +kernel
theorem x89_55 {sc : aSc} {d : Nat} {r : aRes} {L : List Value} {σ : aS} {x : Int32} : Rn sc d 89 55 L [.int x] σ r ↔ r = (σ, some (.int x)) := r_iret d89_55 rfl rfl
theorem d89_56 : decode (mC 89) 56 = .ok (.aload_n 0, 1) := by decide +kernel
theorem x89_56 {sc : aSc} {d : Nat} {r : aRes} {x0 : Nat} {a1 : Value} {a2 : Value} {st : List Value} {σ : aS} : Rn sc d 89 56 [.ref x0, a1, a2] st σ r ↔ Rn sc d 89 57 [.ref x0, a1, a2] (.ref x0 :: st) σ r := r_aload_n d89_56 rfl
theorem d89_57 : decode (mC 89) 57 = .ok (.getfield 50, 3) := by decide +kernel
theorem x89_57 {sc : aSc} {d : Nat} {r : aRes} {L : List Value} {st : List Value} {f : Nat → Nat → Int32} {g : Nat → Nat → Int64} {h1 h2 : Nat} {o : Nat} (hK : KK[o]? = some (.inl 6)) (hR : (RR h1 h2 o 0).isSome = true) : Rn sc d 89 57 L (.ref o :: st) (cS f g h1 h2) r ↔ Rn sc d 89 60 L (.ref (rf h1 h2 o 0) :: st) (cS f g h1 h2) r := r_getR2 d89_57 (ci := 6) (k := 0) rfl (by decide) (fun _ => rfl) hK hR
theorem d89_60 : decode (mC 89) 60 = .ok (.getfield 230, 3) := by decide +kernel
theorem x89_60 {sc : aSc} {d : Nat} {r : aRes} {L : List Value} {st : List Value} {f : Nat → Nat → Int32} {g : Nat → Nat → Int64} {h1 h2 : Nat} {o : Nat} (hK : KK[o]? = some (.inl 1)) (hR : (RR h1 h2 o 15).isSome = true) : Rn sc d 89 60 L (.ref o :: st) (cS f g h1 h2) r ↔ Rn sc d 89 63 L (.ref (rf h1 h2 o 15) :: st) (cS f g h1 h2) r := r_getR2 d89_60 (ci := 1) (k := 15) rfl (by decide) (fun _ => rfl) hK hR
theorem d89_63 : decode (mC 89) 63 = .ok (.aload_n 0, 1) := by decide +kernel
theorem x89_63 {sc : aSc} {d : Nat} {r : aRes} {x0 : Nat} {a1 : Value} {a2 : Value} {st : List Value} {σ : aS} : Rn sc d 89 63 [.ref x0, a1, a2] st σ r ↔ Rn sc d 89 64 [.ref x0, a1, a2] (.ref x0 :: st) σ r := r_aload_n d89_63 rfl
theorem d89_64 : decode (mC 89) 64 = .ok (.getfield 50, 3) := by decide +kernel
theorem x89_64 {sc : aSc} {d : Nat} {r : aRes} {L : List Value} {st : List Value} {f : Nat → Nat → Int32} {g : Nat → Nat → Int64} {h1 h2 : Nat} {o : Nat} (hK : KK[o]? = some (.inl 6)) (hR : (RR h1 h2 o 0).isSome = true) : Rn sc d 89 64 L (.ref o :: st) (cS f g h1 h2) r ↔ Rn sc d 89 67 L (.ref (rf h1 h2 o 0) :: st) (cS f g h1 h2) r := r_getR2 d89_64 (ci := 6) (k := 0) rfl (by decide) (fun _ => rfl) hK hR
theorem d89_67 : decode (mC 89) 67 = .ok (.getfield 227, 3) := by decide +kernel
theorem x89_67 {sc : aSc} {d : Nat} {r : aRes} {L : List Value} {st : List Value} {f : Nat → Nat → Int32} {g : Nat → Nat → Int64} {h1 h2 : Nat} {o : Nat} (h17 : 17 ≤ o) (hK : KK[o]? = some (.inl 1)) : Rn sc d 89 67 L (.ref o :: st) (cS f g h1 h2) r ↔ Rn sc d 89 70 L (.int (f o 14) :: st) (cS f g h1 h2) r := r_getI d89_67 (ci := 1) (k := 14) rfl (by decide) (fun _ => rfl) h17 hK
theorem d89_70 : decode (mC 89) 70 = .ok (.iload_n 1, 1) := by decide +kernel
theorem x89_70 {sc : aSc} {d : Nat} {r : aRes} {a0 : Value} {x1 : Int32} {a2 : Value} {st : List Value} {σ : aS} : Rn sc d 89 70 [a0, .int x1, a2] st σ r ↔ Rn sc d 89 71 [a0, .int x1, a2] (.int x1 :: st) σ r := r_iload_n d89_70 rfl
theorem d89_71 : decode (mC 89) 71 = .ok (.iastore, 1) := by decide +kernel
theorem x89_71 {sc : aSc} {d : Nat} {r : aRes} {L : List Value} {st : List Value} {f : Nat → Nat → Int32} {g : Nat → Nat → Int64} {h1 h2 : Nat} {a : Nat} {i : Int32} {x : Int32} (h17 : 17 ≤ a) (hA : isT9 .int a) (hi : inb i (aln a) = true) : Rn sc d 89 71 L (.int x :: .int i :: .ref a :: st) (cS f g h1 h2) r ↔ Rn sc d 89 72 L st (cS (u2 f a i.toNatClampNeg x) g h1 h2) r := r_iast d89_71 h17 hA hi
theorem d89_72 : decode (mC 89) 72 = .ok (.aload_n 0, 1) := by decide +kernel
theorem x89_72 {sc : aSc} {d : Nat} {r : aRes} {x0 : Nat} {a1 : Value} {a2 : Value} {st : List Value} {σ : aS} : Rn sc d 89 72 [.ref x0, a1, a2] st σ r ↔ Rn sc d 89 73 [.ref x0, a1, a2] (.ref x0 :: st) σ r := r_aload_n d89_72 rfl
theorem d89_73 : decode (mC 89) 73 = .ok (.getfield 50, 3) := by decide +kernel
theorem x89_73 {sc : aSc} {d : Nat} {r : aRes} {L : List Value} {st : List Value} {f : Nat → Nat → Int32} {g : Nat → Nat → Int64} {h1 h2 : Nat} {o : Nat} (hK : KK[o]? = some (.inl 6)) (hR : (RR h1 h2 o 0).isSome = true) : Rn sc d 89 73 L (.ref o :: st) (cS f g h1 h2) r ↔ Rn sc d 89 76 L (.ref (rf h1 h2 o 0) :: st) (cS f g h1 h2) r := r_getR2 d89_73 (ci := 6) (k := 0) rfl (by decide) (fun _ => rfl) hK hR
theorem d89_76 : decode (mC 89) 76 = .ok (.getfield 233, 3) := by decide +kernel
theorem x89_76 {sc : aSc} {d : Nat} {r : aRes} {L : List Value} {st : List Value} {f : Nat → Nat → Int32} {g : Nat → Nat → Int64} {h1 h2 : Nat} {o : Nat} (hK : KK[o]? = some (.inl 1)) (hR : (RR h1 h2 o 16).isSome = true) : Rn sc d 89 76 L (.ref o :: st) (cS f g h1 h2) r ↔ Rn sc d 89 79 L (.ref (rf h1 h2 o 16) :: st) (cS f g h1 h2) r := r_getR2 d89_76 (ci := 1) (k := 16) rfl (by decide) (fun _ => rfl) hK hR
theorem d89_79 : decode (mC 89) 79 = .ok (.aload_n 0, 1) := by decide +kernel
theorem x89_79 {sc : aSc} {d : Nat} {r : aRes} {x0 : Nat} {a1 : Value} {a2 : Value} {st : List Value} {σ : aS} : Rn sc d 89 79 [.ref x0, a1, a2] st σ r ↔ Rn sc d 89 80 [.ref x0, a1, a2] (.ref x0 :: st) σ r := r_aload_n d89_79 rfl
theorem d89_80 : decode (mC 89) 80 = .ok (.getfield 50, 3) := by decide +kernel
theorem x89_80 {sc : aSc} {d : Nat} {r : aRes} {L : List Value} {st : List Value} {f : Nat → Nat → Int32} {g : Nat → Nat → Int64} {h1 h2 : Nat} {o : Nat} (hK : KK[o]? = some (.inl 6)) (hR : (RR h1 h2 o 0).isSome = true) : Rn sc d 89 80 L (.ref o :: st) (cS f g h1 h2) r ↔ Rn sc d 89 83 L (.ref (rf h1 h2 o 0) :: st) (cS f g h1 h2) r := r_getR2 d89_80 (ci := 6) (k := 0) rfl (by decide) (fun _ => rfl) hK hR
theorem d89_83 : decode (mC 89) 83 = .ok (.getfield 227, 3) := by decide +kernel
theorem x89_83 {sc : aSc} {d : Nat} {r : aRes} {L : List Value} {st : List Value} {f : Nat → Nat → Int32} {g : Nat → Nat → Int64} {h1 h2 : Nat} {o : Nat} (h17 : 17 ≤ o) (hK : KK[o]? = some (.inl 1)) : Rn sc d 89 83 L (.ref o :: st) (cS f g h1 h2) r ↔ Rn sc d 89 86 L (.int (f o 14) :: st) (cS f g h1 h2) r := r_getI d89_83 (ci := 1) (k := 14) rfl (by decide) (fun _ => rfl) h17 hK
theorem d89_86 : decode (mC 89) 86 = .ok (.iload_n 2, 1) := by decide +kernel
theorem x89_86 {sc : aSc} {d : Nat} {r : aRes} {a0 : Value} {a1 : Value} {x2 : Int32} {st : List Value} {σ : aS} : Rn sc d 89 86 [a0, a1, .int x2] st σ r ↔ Rn sc d 89 87 [a0, a1, .int x2] (.int x2 :: st) σ r := r_iload_n d89_86 rfl
theorem d89_87 : decode (mC 89) 87 = .ok (.iastore, 1) := by decide +kernel
theorem x89_87 {sc : aSc} {d : Nat} {r : aRes} {L : List Value} {st : List Value} {f : Nat → Nat → Int32} {g : Nat → Nat → Int64} {h1 h2 : Nat} {a : Nat} {i : Int32} {x : Int32} (h17 : 17 ≤ a) (hA : isT9 .int a) (hi : inb i (aln a) = true) : Rn sc d 89 87 L (.int x :: .int i :: .ref a :: st) (cS f g h1 h2) r ↔ Rn sc d 89 88 L st (cS (u2 f a i.toNatClampNeg x) g h1 h2) r := r_iast d89_87 h17 hA hi
theorem d89_88 : decode (mC 89) 88 = .ok (.aload_n 0, 1) := by decide +kernel
theorem x89_88 {sc : aSc} {d : Nat} {r : aRes} {x0 : Nat} {a1 : Value} {a2 : Value} {st : List Value} {σ : aS} : Rn sc d 89 88 [.ref x0, a1, a2] st σ r ↔ Rn sc d 89 89 [.ref x0, a1, a2] (.ref x0 :: st) σ r := r_aload_n d89_88 rfl
theorem d89_89 : decode (mC 89) 89 = .ok (.getfield 50, 3) := by decide +kernel
theorem x89_89 {sc : aSc} {d : Nat} {r : aRes} {L : List Value} {st : List Value} {f : Nat → Nat → Int32} {g : Nat → Nat → Int64} {h1 h2 : Nat} {o : Nat} (hK : KK[o]? = some (.inl 6)) (hR : (RR h1 h2 o 0).isSome = true) : Rn sc d 89 89 L (.ref o :: st) (cS f g h1 h2) r ↔ Rn sc d 89 92 L (.ref (rf h1 h2 o 0) :: st) (cS f g h1 h2) r := r_getR2 d89_89 (ci := 6) (k := 0) rfl (by decide) (fun _ => rfl) hK hR
theorem d89_92 : decode (mC 89) 92 = .ok (.dup, 1) := by decide +kernel
theorem x89_92 {sc : aSc} {d : Nat} {r : aRes} {L : List Value} {st : List Value} {σ : aS} {y : Nat} : Rn sc d 89 92 L (.ref y :: st) σ r ↔ Rn sc d 89 93 L (.ref y :: .ref y :: st) σ r := r_dup d89_92 rfl
theorem d89_93 : decode (mC 89) 93 = .ok (.getfield 227, 3) := by decide +kernel
theorem x89_93 {sc : aSc} {d : Nat} {r : aRes} {L : List Value} {st : List Value} {f : Nat → Nat → Int32} {g : Nat → Nat → Int64} {h1 h2 : Nat} {o : Nat} (h17 : 17 ≤ o) (hK : KK[o]? = some (.inl 1)) : Rn sc d 89 93 L (.ref o :: st) (cS f g h1 h2) r ↔ Rn sc d 89 96 L (.int (f o 14) :: st) (cS f g h1 h2) r := r_getI d89_93 (ci := 1) (k := 14) rfl (by decide) (fun _ => rfl) h17 hK
theorem d89_96 : decode (mC 89) 96 = .ok (.iconst 1, 1) := by decide +kernel
theorem x89_96 {sc : aSc} {d : Nat} {r : aRes} {L : List Value} {st : List Value} {σ : aS} : Rn sc d 89 96 L st σ r ↔ Rn sc d 89 97 L (.int 1 :: st) σ r := r_iconst d89_96 (by decide)
theorem d89_97 : decode (mC 89) 97 = .ok (.iadd, 1) := by decide +kernel
theorem x89_97 {sc : aSc} {d : Nat} {r : aRes} {L : List Value} {st : List Value} {σ : aS} {x y : Int32} : Rn sc d 89 97 L (.int y :: .int x :: st) σ r ↔ Rn sc d 89 98 L (.int (x + y) :: st) σ r := r_iadd d89_97
theorem d89_98 : decode (mC 89) 98 = .ok (.putfield 227, 3) := by decide +kernel
theorem x89_98 {sc : aSc} {d : Nat} {r : aRes} {L : List Value} {st : List Value} {f : Nat → Nat → Int32} {g : Nat → Nat → Int64} {h1 h2 : Nat} {o : Nat} {v : Int32} (h17 : 17 ≤ o) (hK : KK[o]? = some (.inl 1)) : Rn sc d 89 98 L (.int v :: .ref o :: st) (cS f g h1 h2) r ↔ Rn sc d 89 101 L st (cS (u2 f o 14 v) g h1 h2) r := r_putI d89_98 (ci := 1) (k := 14) rfl (by decide) h17 hK
theorem d89_101 : decode (mC 89) 101 = .ok (.aload_n 0, 1) := by decide +kernel
theorem x89_101 {sc : aSc} {d : Nat} {r : aRes} {x0 : Nat} {a1 : Value} {a2 : Value} {st : List Value} {σ : aS} : Rn sc d 89 101 [.ref x0, a1, a2] st σ r ↔ Rn sc d 89 102 [.ref x0, a1, a2] (.ref x0 :: st) σ r := r_aload_n d89_101 rfl
theorem d89_102 : decode (mC 89) 102 = .ok (.getfield 50, 3) := by decide +kernel
theorem x89_102 {sc : aSc} {d : Nat} {r : aRes} {L : List Value} {st : List Value} {f : Nat → Nat → Int32} {g : Nat → Nat → Int64} {h1 h2 : Nat} {o : Nat} (hK : KK[o]? = some (.inl 6)) (hR : (RR h1 h2 o 0).isSome = true) : Rn sc d 89 102 L (.ref o :: st) (cS f g h1 h2) r ↔ Rn sc d 89 105 L (.ref (rf h1 h2 o 0) :: st) (cS f g h1 h2) r := r_getR2 d89_102 (ci := 6) (k := 0) rfl (by decide) (fun _ => rfl) hK hR
theorem d89_105 : decode (mC 89) 105 = .ok (.getfield 227, 3) := by decide +kernel
theorem x89_105 {sc : aSc} {d : Nat} {r : aRes} {L : List Value} {st : List Value} {f : Nat → Nat → Int32} {g : Nat → Nat → Int64} {h1 h2 : Nat} {o : Nat} (h17 : 17 ≤ o) (hK : KK[o]? = some (.inl 1)) : Rn sc d 89 105 L (.ref o :: st) (cS f g h1 h2) r ↔ Rn sc d 89 108 L (.int (f o 14) :: st) (cS f g h1 h2) r := r_getI d89_105 (ci := 1) (k := 14) rfl (by decide) (fun _ => rfl) h17 hK
theorem d89_108 : decode (mC 89) 108 = .ok (.ireturn, 1) := by decide +kernel
theorem x89_108 {sc : aSc} {d : Nat} {r : aRes} {L : List Value} {σ : aS} {x : Int32} : Rn sc d 89 108 L [.int x] σ r ↔ r = (σ, some (.int x)) := r_iret d89_108 rfl rfl
theorem d90_0 : decode (mC 90) 0 = .ok (.iconst 0, 1) := by decide +kernel
theorem x90_0 {sc : aSc} {d : Nat} {r : aRes} {L : List Value} {st : List Value} {σ : aS} : Rn sc d 90 0 L st σ r ↔ Rn sc d 90 1 L (.int 0 :: st) σ r := r_iconst d90_0 (by decide)
theorem d90_1 : decode (mC 90) 1 = .ok (.istore_n 1, 1) := by decide +kernel
theorem x90_1 {sc : aSc} {d : Nat} {r : aRes} {x0 : Nat} {a1 : Value} {st : List Value} {σ : aS} {y : Int32} : Rn sc d 90 1 [.ref x0, a1] (.int y :: st) σ r ↔ Rn sc d 90 2 [.ref x0, .int y] st σ r := r_istore_n d90_1 (Nat.le_of_ble_eq_true rfl) rfl
theorem d90_2 : decode (mC 90) 2 = .ok (.iload_n 1, 1) := by decide +kernel
theorem x90_2 {sc : aSc} {d : Nat} {r : aRes} {a0 : Value} {x1 : Int32} {st : List Value} {σ : aS} : Rn sc d 90 2 [a0, .int x1] st σ r ↔ Rn sc d 90 3 [a0, .int x1] (.int x1 :: st) σ r := r_iload_n d90_2 rfl
theorem d90_3 : decode (mC 90) 3 = .ok (.aload_n 0, 1) := by decide +kernel
theorem x90_3 {sc : aSc} {d : Nat} {r : aRes} {x0 : Nat} {a1 : Value} {st : List Value} {σ : aS} : Rn sc d 90 3 [.ref x0, a1] st σ r ↔ Rn sc d 90 4 [.ref x0, a1] (.ref x0 :: st) σ r := r_aload_n d90_3 rfl
theorem d90_4 : decode (mC 90) 4 = .ok (.getfield 50, 3) := by decide +kernel
theorem x90_4 {sc : aSc} {d : Nat} {r : aRes} {L : List Value} {st : List Value} {f : Nat → Nat → Int32} {g : Nat → Nat → Int64} {h1 h2 : Nat} {o : Nat} (hK : KK[o]? = some (.inl 6)) (hR : (RR h1 h2 o 0).isSome = true) : Rn sc d 90 4 L (.ref o :: st) (cS f g h1 h2) r ↔ Rn sc d 90 7 L (.ref (rf h1 h2 o 0) :: st) (cS f g h1 h2) r := r_getR2 d90_4 (ci := 6) (k := 0) rfl (by decide) (fun _ => rfl) hK hR
theorem d90_7 : decode (mC 90) 7 = .ok (.getfield 227, 3) := by decide +kernel
theorem x90_7 {sc : aSc} {d : Nat} {r : aRes} {L : List Value} {st : List Value} {f : Nat → Nat → Int32} {g : Nat → Nat → Int64} {h1 h2 : Nat} {o : Nat} (h17 : 17 ≤ o) (hK : KK[o]? = some (.inl 1)) : Rn sc d 90 7 L (.ref o :: st) (cS f g h1 h2) r ↔ Rn sc d 90 10 L (.int (f o 14) :: st) (cS f g h1 h2) r := r_getI d90_7 (ci := 1) (k := 14) rfl (by decide) (fun _ => rfl) h17 hK
theorem d90_10 : decode (mC 90) 10 = .ok (.if_icmp .ge 39, 3) := by decide +kernel
theorem x90_10 {sc : aSc} {d : Nat} {r : aRes} {L : List Value} {st : List Value} {σ : aS} {x y : Int32} : Rn sc d 90 10 L (.int y :: .int x :: st) σ r ↔ if x < y then Rn sc d 90 13 L st σ r else Rn sc d 90 49 L st σ r := r_icmp_ge d90_10 rfl
theorem d90_13 : decode (mC 90) 13 = .ok (.aload_n 0, 1) := by decide +kernel
theorem x90_13 {sc : aSc} {d : Nat} {r : aRes} {x0 : Nat} {a1 : Value} {st : List Value} {σ : aS} : Rn sc d 90 13 [.ref x0, a1] st σ r ↔ Rn sc d 90 14 [.ref x0, a1] (.ref x0 :: st) σ r := r_aload_n d90_13 rfl
theorem d90_14 : decode (mC 90) 14 = .ok (.getfield 50, 3) := by decide +kernel
theorem x90_14 {sc : aSc} {d : Nat} {r : aRes} {L : List Value} {st : List Value} {f : Nat → Nat → Int32} {g : Nat → Nat → Int64} {h1 h2 : Nat} {o : Nat} (hK : KK[o]? = some (.inl 6)) (hR : (RR h1 h2 o 0).isSome = true) : Rn sc d 90 14 L (.ref o :: st) (cS f g h1 h2) r ↔ Rn sc d 90 17 L (.ref (rf h1 h2 o 0) :: st) (cS f g h1 h2) r := r_getR2 d90_14 (ci := 6) (k := 0) rfl (by decide) (fun _ => rfl) hK hR
theorem d90_17 : decode (mC 90) 17 = .ok (.aload_n 0, 1) := by decide +kernel
theorem x90_17 {sc : aSc} {d : Nat} {r : aRes} {x0 : Nat} {a1 : Value} {st : List Value} {σ : aS} : Rn sc d 90 17 [.ref x0, a1] st σ r ↔ Rn sc d 90 18 [.ref x0, a1] (.ref x0 :: st) σ r := r_aload_n d90_17 rfl
theorem d90_18 : decode (mC 90) 18 = .ok (.getfield 50, 3) := by decide +kernel
theorem x90_18 {sc : aSc} {d : Nat} {r : aRes} {L : List Value} {st : List Value} {f : Nat → Nat → Int32} {g : Nat → Nat → Int64} {h1 h2 : Nat} {o : Nat} (hK : KK[o]? = some (.inl 6)) (hR : (RR h1 h2 o 0).isSome = true) : Rn sc d 90 18 L (.ref o :: st) (cS f g h1 h2) r ↔ Rn sc d 90 21 L (.ref (rf h1 h2 o 0) :: st) (cS f g h1 h2) r := r_getR2 d90_18 (ci := 6) (k := 0) rfl (by decide) (fun _ => rfl) hK hR
theorem d90_21 : decode (mC 90) 21 = .ok (.getfield 230, 3) := by decide +kernel
theorem x90_21 {sc : aSc} {d : Nat} {r : aRes} {L : List Value} {st : List Value} {f : Nat → Nat → Int32} {g : Nat → Nat → Int64} {h1 h2 : Nat} {o : Nat} (hK : KK[o]? = some (.inl 1)) (hR : (RR h1 h2 o 15).isSome = true) : Rn sc d 90 21 L (.ref o :: st) (cS f g h1 h2) r ↔ Rn sc d 90 24 L (.ref (rf h1 h2 o 15) :: st) (cS f g h1 h2) r := r_getR2 d90_21 (ci := 1) (k := 15) rfl (by decide) (fun _ => rfl) hK hR
theorem d90_24 : decode (mC 90) 24 = .ok (.iload_n 1, 1) := by decide +kernel
theorem x90_24 {sc : aSc} {d : Nat} {r : aRes} {a0 : Value} {x1 : Int32} {st : List Value} {σ : aS} : Rn sc d 90 24 [a0, .int x1] st σ r ↔ Rn sc d 90 25 [a0, .int x1] (.int x1 :: st) σ r := r_iload_n d90_24 rfl
theorem d90_25 : decode (mC 90) 25 = .ok (.iaload, 1) := by decide +kernel
theorem x90_25 {sc : aSc} {d : Nat} {r : aRes} {L : List Value} {st : List Value} {f : Nat → Nat → Int32} {g : Nat → Nat → Int64} {h1 h2 : Nat} {a : Nat} {i : Int32} (h17 : 17 ≤ a) (hA : isT9 .int a) (hi : inb i (aln a) = true) : Rn sc d 90 25 L (.int i :: .ref a :: st) (cS f g h1 h2) r ↔ Rn sc d 90 26 L (.int (f a i.toNatClampNeg) :: st) (cS f g h1 h2) r := r_iald d90_25 h17 hA hi
theorem d90_26 : decode (mC 90) 26 = .ok (.invokevirtual 94, 3) := by decide +kernel
theorem x90_26 {sc : aSc} {d : Nat} {r : aRes} {L : List Value} {f : Nat → Nat → Int32} {g : Nat → Nat → Int64} {h1 h2 : Nat} {y0 : Int32}  {o : Nat} (hK : KK[o]? = some (.inl 1)) : Rn sc d 90 26 L [.int y0, .ref o] (cS f g h1 h2) r ↔ ∃ (σ3 : aS) (v : Option Value), Cl sc d 15 [.ref o, .int y0] (cS f g h1 h2) (σ3, v) ∧ Rn sc d 90 29 L (v.toList ++ []) σ3 r := r_callV (vs := [.int y0]) d90_26 (j := 15) rfl ⟨rfl, by decide, rfl, rfl⟩ (Nat.le_of_ble_eq_true rfl) hK
theorem d90_29 : decode (mC 90) 29 = .ok (.aload_n 0, 1) := by decide +kernel
theorem x90_29 {sc : aSc} {d : Nat} {r : aRes} {x0 : Nat} {a1 : Value} {st : List Value} {σ : aS} : Rn sc d 90 29 [.ref x0, a1] st σ r ↔ Rn sc d 90 30 [.ref x0, a1] (.ref x0 :: st) σ r := r_aload_n d90_29 rfl
theorem d90_30 : decode (mC 90) 30 = .ok (.getfield 50, 3) := by decide +kernel
theorem x90_30 {sc : aSc} {d : Nat} {r : aRes} {L : List Value} {st : List Value} {f : Nat → Nat → Int32} {g : Nat → Nat → Int64} {h1 h2 : Nat} {o : Nat} (hK : KK[o]? = some (.inl 6)) (hR : (RR h1 h2 o 0).isSome = true) : Rn sc d 90 30 L (.ref o :: st) (cS f g h1 h2) r ↔ Rn sc d 90 33 L (.ref (rf h1 h2 o 0) :: st) (cS f g h1 h2) r := r_getR2 d90_30 (ci := 6) (k := 0) rfl (by decide) (fun _ => rfl) hK hR
theorem d90_33 : decode (mC 90) 33 = .ok (.getfield 233, 3) := by decide +kernel
theorem x90_33 {sc : aSc} {d : Nat} {r : aRes} {L : List Value} {st : List Value} {f : Nat → Nat → Int32} {g : Nat → Nat → Int64} {h1 h2 : Nat} {o : Nat} (hK : KK[o]? = some (.inl 1)) (hR : (RR h1 h2 o 16).isSome = true) : Rn sc d 90 33 L (.ref o :: st) (cS f g h1 h2) r ↔ Rn sc d 90 36 L (.ref (rf h1 h2 o 16) :: st) (cS f g h1 h2) r := r_getR2 d90_33 (ci := 1) (k := 16) rfl (by decide) (fun _ => rfl) hK hR
theorem d90_36 : decode (mC 90) 36 = .ok (.iload_n 1, 1) := by decide +kernel
theorem x90_36 {sc : aSc} {d : Nat} {r : aRes} {a0 : Value} {x1 : Int32} {st : List Value} {σ : aS} : Rn sc d 90 36 [a0, .int x1] st σ r ↔ Rn sc d 90 37 [a0, .int x1] (.int x1 :: st) σ r := r_iload_n d90_36 rfl
theorem d90_37 : decode (mC 90) 37 = .ok (.iaload, 1) := by decide +kernel
theorem x90_37 {sc : aSc} {d : Nat} {r : aRes} {L : List Value} {st : List Value} {f : Nat → Nat → Int32} {g : Nat → Nat → Int64} {h1 h2 : Nat} {a : Nat} {i : Int32} (h17 : 17 ≤ a) (hA : isT9 .int a) (hi : inb i (aln a) = true) : Rn sc d 90 37 L (.int i :: .ref a :: st) (cS f g h1 h2) r ↔ Rn sc d 90 38 L (.int (f a i.toNatClampNeg) :: st) (cS f g h1 h2) r := r_iald d90_37 h17 hA hi
theorem d90_38 : decode (mC 90) 38 = .ok (.if_icmp .eq 5, 3) := by decide +kernel
theorem x90_38 {sc : aSc} {d : Nat} {r : aRes} {L : List Value} {st : List Value} {σ : aS} {x y : Int32} : Rn sc d 90 38 L (.int y :: .int x :: st) σ r ↔ if x = y then Rn sc d 90 43 L st σ r else Rn sc d 90 41 L st σ r := r_icmp_eq d90_38 rfl
theorem d90_41 : decode (mC 90) 41 = .ok (.iload_n 1, 1) := by decide +kernel
theorem x90_41 {sc : aSc} {d : Nat} {r : aRes} {a0 : Value} {x1 : Int32} {st : List Value} {σ : aS} : Rn sc d 90 41 [a0, .int x1] st σ r ↔ Rn sc d 90 42 [a0, .int x1] (.int x1 :: st) σ r := r_iload_n d90_41 rfl
theorem d90_42 : decode (mC 90) 42 = .ok (.ireturn, 1) := by decide +kernel
theorem x90_42 {sc : aSc} {d : Nat} {r : aRes} {L : List Value} {σ : aS} {x : Int32} : Rn sc d 90 42 L [.int x] σ r ↔ r = (σ, some (.int x)) := r_iret d90_42 rfl rfl
theorem d90_43 : decode (mC 90) 43 = .ok (.iinc 1 1, 3) := by decide +kernel
theorem x90_43 {sc : aSc} {d : Nat} {r : aRes} {x0 : Nat} {x1 : Int32} {st : List Value} {σ : aS} : Rn sc d 90 43 [.ref x0, .int x1] st σ r ↔ Rn sc d 90 46 [.ref x0, .int (x1 + 1)] st σ r := r_iinc d90_43 (Nat.le_of_ble_eq_true rfl) rfl rfl (by decide)
theorem d90_46 : decode (mC 90) 46 = .ok (.goto (-44), 3) := by decide +kernel
theorem x90_46 {sc : aSc} {d : Nat} {r : aRes} {L : List Value} {st : List Value} {σ : aS} : Rn sc d 90 46 L st σ r ↔ Rn sc d 90 2 L st σ r := r_goto d90_46 rfl
theorem d90_49 : decode (mC 90) 49 = .ok (.bipush (-5), 2) := by decide +kernel
theorem x90_49 {sc : aSc} {d : Nat} {r : aRes} {L : List Value} {st : List Value} {σ : aS} : Rn sc d 90 49 L st σ r ↔ Rn sc d 90 51 L (.int (-5) :: st) σ r := r_bipush d90_49 (by decide)
theorem d90_51 : decode (mC 90) 51 = .ok (.ireturn, 1) := by decide +kernel
theorem x90_51 {sc : aSc} {d : Nat} {r : aRes} {L : List Value} {σ : aS} {x : Int32} : Rn sc d 90 51 L [.int x] σ r ↔ r = (σ, some (.int x)) := r_iret d90_51 rfl rfl
theorem d91_0 : decode (mC 91) 0 = .ok (.iload_n 1, 1) := by decide +kernel
theorem x91_0 {sc : aSc} {d : Nat} {r : aRes} {a0 : Value} {x1 : Int32} {a2 : Value} {a3 : Value} {a4 : Value} {st : List Value} {σ : aS} : Rn sc d 91 0 [a0, .int x1, a2, a3, a4] st σ r ↔ Rn sc d 91 1 [a0, .int x1, a2, a3, a4] (.int x1 :: st) σ r := r_iload_n d91_0 rfl
theorem d91_1 : decode (mC 91) 1 = .ok (.invokestatic 236, 3) := by decide +kernel
theorem x91_1 {sc : aSc} {d : Nat} {r : aRes} {L : List Value} {σ : aS} {y0 : Int32}  : Rn sc d 91 1 L [.int y0] σ r ↔ ∃ (σ3 : aS) (v : Option Value), Cl sc d 103 [.int y0] σ (σ3, v) ∧ Rn sc d 91 4 L (v.toList ++ []) σ3 r := r_callS (vs := [.int y0]) d91_1 rfl (j := 103) rfl ⟨rfl, by decide, rfl, rfl⟩ (Nat.le_of_ble_eq_true rfl)
theorem d91_4 : decode (mC 91) 4 = .ok (.ifCond .ne 5, 3) := by decide +kernel
theorem x91_4 {sc : aSc} {d : Nat} {r : aRes} {L : List Value} {st : List Value} {σ : aS} {x : Int32} : Rn sc d 91 4 L (.int x :: st) σ r ↔ if x = 0 then Rn sc d 91 7 L st σ r else Rn sc d 91 9 L st σ r := r_if_ne d91_4 rfl
theorem d91_7 : decode (mC 91) 7 = .ok (.iconst (-1), 1) := by decide +kernel
theorem x91_7 {sc : aSc} {d : Nat} {r : aRes} {L : List Value} {st : List Value} {σ : aS} : Rn sc d 91 7 L st σ r ↔ Rn sc d 91 8 L (.int (-1) :: st) σ r := r_iconst d91_7 (by decide)
theorem d91_8 : decode (mC 91) 8 = .ok (.ireturn, 1) := by decide +kernel
theorem x91_8 {sc : aSc} {d : Nat} {r : aRes} {L : List Value} {σ : aS} {x : Int32} : Rn sc d 91 8 L [.int x] σ r ↔ r = (σ, some (.int x)) := r_iret d91_8 rfl rfl
theorem d91_9 : decode (mC 91) 9 = .ok (.aload_n 0, 1) := by decide +kernel
theorem x91_9 {sc : aSc} {d : Nat} {r : aRes} {x0 : Nat} {a1 : Value} {a2 : Value} {a3 : Value} {a4 : Value} {st : List Value} {σ : aS} : Rn sc d 91 9 [.ref x0, a1, a2, a3, a4] st σ r ↔ Rn sc d 91 10 [.ref x0, a1, a2, a3, a4] (.ref x0 :: st) σ r := r_aload_n d91_9 rfl
theorem d91_10 : decode (mC 91) 10 = .ok (.getfield 40, 3) := by decide +kernel
theorem x91_10 {sc : aSc} {d : Nat} {r : aRes} {L : List Value} {st : List Value} {f : Nat → Nat → Int32} {g : Nat → Nat → Int64} {h1 h2 : Nat} {o : Nat} (hK : KK[o]? = some (.inl 6)) (hR : (RR h1 h2 o 8).isSome = true) : Rn sc d 91 10 L (.ref o :: st) (cS f g h1 h2) r ↔ Rn sc d 91 13 L (.ref (rf h1 h2 o 8) :: st) (cS f g h1 h2) r := r_getR2 d91_10 (ci := 6) (k := 8) rfl (by decide) (fun _ => rfl) hK hR
theorem d91_13 : decode (mC 91) 13 = .ok (.iload_n 1, 1) := by decide +kernel
theorem x91_13 {sc : aSc} {d : Nat} {r : aRes} {a0 : Value} {x1 : Int32} {a2 : Value} {a3 : Value} {a4 : Value} {st : List Value} {σ : aS} : Rn sc d 91 13 [a0, .int x1, a2, a3, a4] st σ r ↔ Rn sc d 91 14 [a0, .int x1, a2, a3, a4] (.int x1 :: st) σ r := r_iload_n d91_13 rfl
theorem d91_14 : decode (mC 91) 14 = .ok (.aaload, 1) := by decide +kernel
theorem x91_14 {sc : aSc} {d : Nat} {r : aRes} {L : List Value} {st : List Value} {f : Nat → Nat → Int32} {g : Nat → Nat → Int64} {h1 h2 : Nat} {a : Nat} {i : Int32} (h17 : 17 ≤ a) (hA : isG a) (hi : inb i (aln a) = true) (hR : (RR h1 h2 a i.toNatClampNeg).isSome = true) : Rn sc d 91 14 L (.int i :: .ref a :: st) (cS f g h1 h2) r ↔ Rn sc d 91 15 L (.ref (rf h1 h2 a i.toNatClampNeg) :: st) (cS f g h1 h2) r := r_aald2 d91_14 h17 hA hi hR
theorem d91_15 : decode (mC 91) 15 = .ok (.astore_n 3, 1) := by decide +kernel
theorem x91_15 {sc : aSc} {d : Nat} {r : aRes} {a0 : Value} {a1 : Value} {x2 : Int32} {a3 : Value} {a4 : Value} {st : List Value} {σ : aS} {y : Nat} : Rn sc d 91 15 [a0, a1, .int x2, a3, a4] (.ref y :: st) σ r ↔ Rn sc d 91 16 [a0, a1, .int x2, .ref y, a4] st σ r := r_astore_n d91_15 (Nat.le_of_ble_eq_true rfl) rfl
theorem d91_16 : decode (mC 91) 16 = .ok (.aload_n 3, 1) := by decide +kernel
theorem x91_16 {sc : aSc} {d : Nat} {r : aRes} {a0 : Value} {a1 : Value} {a2 : Value} {x3 : Nat} {a4 : Value} {st : List Value} {σ : aS} : Rn sc d 91 16 [a0, a1, a2, .ref x3, a4] st σ r ↔ Rn sc d 91 17 [a0, a1, a2, .ref x3, a4] (.ref x3 :: st) σ r := r_aload_n d91_16 rfl
theorem d91_17 : decode (mC 91) 17 = .ok (.invokevirtual 239, 3) := by decide +kernel
theorem x91_17 {sc : aSc} {d : Nat} {r : aRes} {L : List Value} {f : Nat → Nat → Int32} {g : Nat → Nat → Int64} {h1 h2 : Nat}   {o : Nat} (hK : KK[o]? = some (.inl 4)) : Rn sc d 91 17 L [.ref o] (cS f g h1 h2) r ↔ ∃ (σ3 : aS) (v : Option Value), Cl sc d 51 [.ref o] (cS f g h1 h2) (σ3, v) ∧ Rn sc d 91 20 L (v.toList ++ []) σ3 r := r_callV (vs := []) d91_17 (j := 51) rfl ⟨rfl, by decide, rfl, rfl⟩ (Nat.le_of_ble_eq_true rfl) hK
theorem d91_20 : decode (mC 91) 20 = .ok (.ifCond .ne 13, 3) := by decide +kernel
theorem x91_20 {sc : aSc} {d : Nat} {r : aRes} {L : List Value} {st : List Value} {σ : aS} {x : Int32} : Rn sc d 91 20 L (.int x :: st) σ r ↔ if x = 0 then Rn sc d 91 23 L st σ r else Rn sc d 91 33 L st σ r := r_if_ne d91_20 rfl
theorem d91_23 : decode (mC 91) 23 = .ok (.aload_n 3, 1) := by decide +kernel
theorem x91_23 {sc : aSc} {d : Nat} {r : aRes} {a0 : Value} {a1 : Value} {a2 : Value} {x3 : Nat} {a4 : Value} {st : List Value} {σ : aS} : Rn sc d 91 23 [a0, a1, a2, .ref x3, a4] st σ r ↔ Rn sc d 91 24 [a0, a1, a2, .ref x3, a4] (.ref x3 :: st) σ r := r_aload_n d91_23 rfl
theorem d91_24 : decode (mC 91) 24 = .ok (.getfield 243, 3) := by decide +kernel
theorem x91_24 {sc : aSc} {d : Nat} {r : aRes} {L : List Value} {st : List Value} {f : Nat → Nat → Int32} {g : Nat → Nat → Int64} {h1 h2 : Nat} {o : Nat} (h17 : 17 ≤ o) (hK : KK[o]? = some (.inl 4)) : Rn sc d 91 24 L (.ref o :: st) (cS f g h1 h2) r ↔ Rn sc d 91 27 L (.int (f o 0) :: st) (cS f g h1 h2) r := r_getI d91_24 (ci := 4) (k := 0) rfl (by decide) (fun _ => rfl) h17 hK
theorem d91_27 : decode (mC 91) 27 = .ok (.ifCond .eq 6, 3) := by decide +kernel
theorem x91_27 {sc : aSc} {d : Nat} {r : aRes} {L : List Value} {st : List Value} {σ : aS} {x : Int32} : Rn sc d 91 27 L (.int x :: st) σ r ↔ if x = 0 then Rn sc d 91 33 L st σ r else Rn sc d 91 30 L st σ r := r_if_eq d91_27 rfl
theorem d91_30 : decode (mC 91) 30 = .ok (.bipush (-12), 2) := by decide +kernel
theorem x91_30 {sc : aSc} {d : Nat} {r : aRes} {L : List Value} {st : List Value} {σ : aS} : Rn sc d 91 30 L st σ r ↔ Rn sc d 91 32 L (.int (-12) :: st) σ r := r_bipush d91_30 (by decide)
theorem d91_32 : decode (mC 91) 32 = .ok (.ireturn, 1) := by decide +kernel
theorem x91_32 {sc : aSc} {d : Nat} {r : aRes} {L : List Value} {σ : aS} {x : Int32} : Rn sc d 91 32 L [.int x] σ r ↔ r = (σ, some (.int x)) := r_iret d91_32 rfl rfl
theorem d91_33 : decode (mC 91) 33 = .ok (.iconst 0, 1) := by decide +kernel
theorem x91_33 {sc : aSc} {d : Nat} {r : aRes} {L : List Value} {st : List Value} {σ : aS} : Rn sc d 91 33 L st σ r ↔ Rn sc d 91 34 L (.int 0 :: st) σ r := r_iconst d91_33 (by decide)
theorem d91_34 : decode (mC 91) 34 = .ok (.istore 4, 2) := by decide +kernel
theorem x91_34 {sc : aSc} {d : Nat} {r : aRes} {a0 : Value} {a1 : Value} {a2 : Value} {x3 : Nat} {a4 : Value} {st : List Value} {σ : aS} {y : Int32} : Rn sc d 91 34 [a0, a1, a2, .ref x3, a4] (.int y :: st) σ r ↔ Rn sc d 91 36 [a0, a1, a2, .ref x3, .int y] st σ r := r_istore d91_34 (Nat.le_of_ble_eq_true rfl) rfl
theorem d91_36 : decode (mC 91) 36 = .ok (.iload 4, 2) := by decide +kernel
theorem x91_36 {sc : aSc} {d : Nat} {r : aRes} {a0 : Value} {a1 : Value} {a2 : Value} {a3 : Value} {x4 : Int32} {st : List Value} {σ : aS} : Rn sc d 91 36 [a0, a1, a2, a3, .int x4] st σ r ↔ Rn sc d 91 38 [a0, a1, a2, a3, .int x4] (.int x4 :: st) σ r := r_iload d91_36 rfl
theorem d91_38 : decode (mC 91) 38 = .ok (.aload_n 0, 1) := by decide +kernel
theorem x91_38 {sc : aSc} {d : Nat} {r : aRes} {x0 : Nat} {a1 : Value} {a2 : Value} {a3 : Value} {a4 : Value} {st : List Value} {σ : aS} : Rn sc d 91 38 [.ref x0, a1, a2, a3, a4] st σ r ↔ Rn sc d 91 39 [.ref x0, a1, a2, a3, a4] (.ref x0 :: st) σ r := r_aload_n d91_38 rfl
theorem d91_39 : decode (mC 91) 39 = .ok (.getfield 50, 3) := by decide +kernel
theorem x91_39 {sc : aSc} {d : Nat} {r : aRes} {L : List Value} {st : List Value} {f : Nat → Nat → Int32} {g : Nat → Nat → Int64} {h1 h2 : Nat} {o : Nat} (hK : KK[o]? = some (.inl 6)) (hR : (RR h1 h2 o 0).isSome = true) : Rn sc d 91 39 L (.ref o :: st) (cS f g h1 h2) r ↔ Rn sc d 91 42 L (.ref (rf h1 h2 o 0) :: st) (cS f g h1 h2) r := r_getR2 d91_39 (ci := 6) (k := 0) rfl (by decide) (fun _ => rfl) hK hR
theorem d91_42 : decode (mC 91) 42 = .ok (.getfield 62, 3) := by decide +kernel
theorem x91_42 {sc : aSc} {d : Nat} {r : aRes} {L : List Value} {st : List Value} {f : Nat → Nat → Int32} {g : Nat → Nat → Int64} {h1 h2 : Nat} {o : Nat} (h17 : 17 ≤ o) (hK : KK[o]? = some (.inl 1)) : Rn sc d 91 42 L (.ref o :: st) (cS f g h1 h2) r ↔ Rn sc d 91 45 L (.int (f o 0) :: st) (cS f g h1 h2) r := r_getI d91_42 (ci := 1) (k := 0) rfl (by decide) (fun _ => rfl) h17 hK
theorem d91_45 : decode (mC 91) 45 = .ok (.if_icmp .ge 64, 3) := by decide +kernel
theorem x91_45 {sc : aSc} {d : Nat} {r : aRes} {L : List Value} {st : List Value} {σ : aS} {x y : Int32} : Rn sc d 91 45 L (.int y :: .int x :: st) σ r ↔ if x < y then Rn sc d 91 48 L st σ r else Rn sc d 91 109 L st σ r := r_icmp_ge d91_45 rfl
theorem d91_48 : decode (mC 91) 48 = .ok (.iload_n 2, 1) := by decide +kernel
theorem x91_48 {sc : aSc} {d : Nat} {r : aRes} {a0 : Value} {a1 : Value} {x2 : Int32} {a3 : Value} {a4 : Value} {st : List Value} {σ : aS} : Rn sc d 91 48 [a0, a1, .int x2, a3, a4] st σ r ↔ Rn sc d 91 49 [a0, a1, .int x2, a3, a4] (.int x2 :: st) σ r := r_iload_n d91_48 rfl
theorem d91_49 : decode (mC 91) 49 = .ok (.ifCond .lt 22, 3) := by decide +kernel
theorem x91_49 {sc : aSc} {d : Nat} {r : aRes} {L : List Value} {st : List Value} {σ : aS} {x : Int32} : Rn sc d 91 49 L (.int x :: st) σ r ↔ if x < 0 then Rn sc d 91 71 L st σ r else Rn sc d 91 52 L st σ r := r_if_lt d91_49 rfl
theorem d91_52 : decode (mC 91) 52 = .ok (.iload_n 2, 1) := by decide +kernel
theorem x91_52 {sc : aSc} {d : Nat} {r : aRes} {a0 : Value} {a1 : Value} {x2 : Int32} {a3 : Value} {a4 : Value} {st : List Value} {σ : aS} : Rn sc d 91 52 [a0, a1, .int x2, a3, a4] st σ r ↔ Rn sc d 91 53 [a0, a1, .int x2, a3, a4] (.int x2 :: st) σ r := r_iload_n d91_52 rfl
theorem d91_53 : decode (mC 91) 53 = .ok (.aload_n 3, 1) := by decide +kernel
theorem x91_53 {sc : aSc} {d : Nat} {r : aRes} {a0 : Value} {a1 : Value} {a2 : Value} {x3 : Nat} {a4 : Value} {st : List Value} {σ : aS} : Rn sc d 91 53 [a0, a1, a2, .ref x3, a4] st σ r ↔ Rn sc d 91 54 [a0, a1, a2, .ref x3, a4] (.ref x3 :: st) σ r := r_aload_n d91_53 rfl
theorem d91_54 : decode (mC 91) 54 = .ok (.getfield 246, 3) := by decide +kernel
theorem x91_54 {sc : aSc} {d : Nat} {r : aRes} {L : List Value} {st : List Value} {f : Nat → Nat → Int32} {g : Nat → Nat → Int64} {h1 h2 : Nat} {o : Nat} (h17 : 17 ≤ o) (hK : KK[o]? = some (.inl 4)) : Rn sc d 91 54 L (.ref o :: st) (cS f g h1 h2) r ↔ Rn sc d 91 57 L (.int (f o 1) :: st) (cS f g h1 h2) r := r_getI d91_54 (ci := 4) (k := 1) rfl (by decide) (fun _ => rfl) h17 hK
theorem d91_57 : decode (mC 91) 57 = .ok (.if_icmp .ge 14, 3) := by decide +kernel
theorem x91_57 {sc : aSc} {d : Nat} {r : aRes} {L : List Value} {st : List Value} {σ : aS} {x y : Int32} : Rn sc d 91 57 L (.int y :: .int x :: st) σ r ↔ if x < y then Rn sc d 91 60 L st σ r else Rn sc d 91 71 L st σ r := r_icmp_ge d91_57 rfl
theorem d91_60 : decode (mC 91) 60 = .ok (.iload_n 2, 1) := by decide +kernel
theorem x91_60 {sc : aSc} {d : Nat} {r : aRes} {a0 : Value} {a1 : Value} {x2 : Int32} {a3 : Value} {a4 : Value} {st : List Value} {σ : aS} : Rn sc d 91 60 [a0, a1, .int x2, a3, a4] st σ r ↔ Rn sc d 91 61 [a0, a1, .int x2, a3, a4] (.int x2 :: st) σ r := r_iload_n d91_60 rfl
theorem d91_61 : decode (mC 91) 61 = .ok (.iload 4, 2) := by decide +kernel
theorem x91_61 {sc : aSc} {d : Nat} {r : aRes} {a0 : Value} {a1 : Value} {a2 : Value} {a3 : Value} {x4 : Int32} {st : List Value} {σ : aS} : Rn sc d 91 61 [a0, a1, a2, a3, .int x4] st σ r ↔ Rn sc d 91 63 [a0, a1, a2, a3, .int x4] (.int x4 :: st) σ r := r_iload d91_61 rfl
theorem d91_63 : decode (mC 91) 63 = .ok (.iadd, 1) := by decide +kernel
theorem x91_63 {sc : aSc} {d : Nat} {r : aRes} {L : List Value} {st : List Value} {σ : aS} {x y : Int32} : Rn sc d 91 63 L (.int y :: .int x :: st) σ r ↔ Rn sc d 91 64 L (.int (x + y) :: st) σ r := r_iadd d91_63
theorem d91_64 : decode (mC 91) 64 = .ok (.aload_n 3, 1) := by decide +kernel
theorem x91_64 {sc : aSc} {d : Nat} {r : aRes} {a0 : Value} {a1 : Value} {a2 : Value} {x3 : Nat} {a4 : Value} {st : List Value} {σ : aS} : Rn sc d 91 64 [a0, a1, a2, .ref x3, a4] st σ r ↔ Rn sc d 91 65 [a0, a1, a2, .ref x3, a4] (.ref x3 :: st) σ r := r_aload_n d91_64 rfl
theorem d91_65 : decode (mC 91) 65 = .ok (.getfield 246, 3) := by decide +kernel
theorem x91_65 {sc : aSc} {d : Nat} {r : aRes} {L : List Value} {st : List Value} {f : Nat → Nat → Int32} {g : Nat → Nat → Int64} {h1 h2 : Nat} {o : Nat} (h17 : 17 ≤ o) (hK : KK[o]? = some (.inl 4)) : Rn sc d 91 65 L (.ref o :: st) (cS f g h1 h2) r ↔ Rn sc d 91 68 L (.int (f o 1) :: st) (cS f g h1 h2) r := r_getI d91_65 (ci := 4) (k := 1) rfl (by decide) (fun _ => rfl) h17 hK
theorem d91_68 : decode (mC 91) 68 = .ok (.if_icmp .lt 9, 3) := by decide +kernel
theorem x91_68 {sc : aSc} {d : Nat} {r : aRes} {L : List Value} {st : List Value} {σ : aS} {x y : Int32} : Rn sc d 91 68 L (.int y :: .int x :: st) σ r ↔ if x < y then Rn sc d 91 77 L st σ r else Rn sc d 91 71 L st σ r := r_icmp_lt d91_68 rfl
theorem d91_71 : decode (mC 91) 71 = .ok (.bipush 100, 2) := by decide +kernel
theorem x91_71 {sc : aSc} {d : Nat} {r : aRes} {L : List Value} {st : List Value} {σ : aS} : Rn sc d 91 71 L st σ r ↔ Rn sc d 91 73 L (.int 100 :: st) σ r := r_bipush d91_71 (by decide)
theorem d91_73 : decode (mC 91) 73 = .ok (.iload 4, 2) := by decide +kernel
theorem x91_73 {sc : aSc} {d : Nat} {r : aRes} {a0 : Value} {a1 : Value} {a2 : Value} {a3 : Value} {x4 : Int32} {st : List Value} {σ : aS} : Rn sc d 91 73 [a0, a1, a2, a3, .int x4] st σ r ↔ Rn sc d 91 75 [a0, a1, a2, a3, .int x4] (.int x4 :: st) σ r := r_iload d91_73 rfl
theorem d91_75 : decode (mC 91) 75 = .ok (.iadd, 1) := by decide +kernel
theorem x91_75 {sc : aSc} {d : Nat} {r : aRes} {L : List Value} {st : List Value} {σ : aS} {x y : Int32} : Rn sc d 91 75 L (.int y :: .int x :: st) σ r ↔ Rn sc d 91 76 L (.int (x + y) :: st) σ r := r_iadd d91_75
theorem d91_76 : decode (mC 91) 76 = .ok (.ireturn, 1) := by decide +kernel
theorem x91_76 {sc : aSc} {d : Nat} {r : aRes} {L : List Value} {σ : aS} {x : Int32} : Rn sc d 91 76 L [.int x] σ r ↔ r = (σ, some (.int x)) := r_iret d91_76 rfl rfl
theorem d91_77 : decode (mC 91) 77 = .ok (.aload_n 3, 1) := by decide +kernel
theorem x91_77 {sc : aSc} {d : Nat} {r : aRes} {a0 : Value} {a1 : Value} {a2 : Value} {x3 : Nat} {a4 : Value} {st : List Value} {σ : aS} : Rn sc d 91 77 [a0, a1, a2, .ref x3, a4] st σ r ↔ Rn sc d 91 78 [a0, a1, a2, .ref x3, a4] (.ref x3 :: st) σ r := r_aload_n d91_77 rfl
theorem d91_78 : decode (mC 91) 78 = .ok (.getfield 247, 3) := by decide +kernel
theorem x91_78 {sc : aSc} {d : Nat} {r : aRes} {L : List Value} {st : List Value} {f : Nat → Nat → Int32} {g : Nat → Nat → Int64} {h1 h2 : Nat} {o : Nat} (hK : KK[o]? = some (.inl 4)) (hR : (RR h1 h2 o 2).isSome = true) : Rn sc d 91 78 L (.ref o :: st) (cS f g h1 h2) r ↔ Rn sc d 91 81 L (.ref (rf h1 h2 o 2) :: st) (cS f g h1 h2) r := r_getR2 d91_78 (ci := 4) (k := 2) rfl (by decide) (fun _ => rfl) hK hR
theorem d91_81 : decode (mC 91) 81 = .ok (.iload_n 2, 1) := by decide +kernel
theorem x91_81 {sc : aSc} {d : Nat} {r : aRes} {a0 : Value} {a1 : Value} {x2 : Int32} {a3 : Value} {a4 : Value} {st : List Value} {σ : aS} : Rn sc d 91 81 [a0, a1, .int x2, a3, a4] st σ r ↔ Rn sc d 91 82 [a0, a1, .int x2, a3, a4] (.int x2 :: st) σ r := r_iload_n d91_81 rfl
theorem d91_82 : decode (mC 91) 82 = .ok (.iload 4, 2) := by decide +kernel
theorem x91_82 {sc : aSc} {d : Nat} {r : aRes} {a0 : Value} {a1 : Value} {a2 : Value} {a3 : Value} {x4 : Int32} {st : List Value} {σ : aS} : Rn sc d 91 82 [a0, a1, a2, a3, .int x4] st σ r ↔ Rn sc d 91 84 [a0, a1, a2, a3, .int x4] (.int x4 :: st) σ r := r_iload d91_82 rfl
theorem d91_84 : decode (mC 91) 84 = .ok (.iadd, 1) := by decide +kernel
theorem x91_84 {sc : aSc} {d : Nat} {r : aRes} {L : List Value} {st : List Value} {σ : aS} {x y : Int32} : Rn sc d 91 84 L (.int y :: .int x :: st) σ r ↔ Rn sc d 91 85 L (.int (x + y) :: st) σ r := r_iadd d91_84
theorem d91_85 : decode (mC 91) 85 = .ok (.laload, 1) := by decide +kernel
theorem x91_85 {sc : aSc} {d : Nat} {r : aRes} {L : List Value} {st : List Value} {f : Nat → Nat → Int32} {g : Nat → Nat → Int64} {h1 h2 : Nat} {a : Nat} {i : Int32} (h17 : 17 ≤ a) (hA : isT9 .long a) (hi : inb i (aln a) = true) : Rn sc d 91 85 L (.int i :: .ref a :: st) (cS f g h1 h2) r ↔ Rn sc d 91 86 L (.long (g a i.toNatClampNeg) :: st) (cS f g h1 h2) r := r_lald d91_85 h17 hA hi
theorem d91_86 : decode (mC 91) 86 = .ok (.aload_n 0, 1) := by decide +kernel
theorem x91_86 {sc : aSc} {d : Nat} {r : aRes} {x0 : Nat} {a1 : Value} {a2 : Value} {a3 : Value} {a4 : Value} {st : List Value} {σ : aS} : Rn sc d 91 86 [.ref x0, a1, a2, a3, a4] st σ r ↔ Rn sc d 91 87 [.ref x0, a1, a2, a3, a4] (.ref x0 :: st) σ r := r_aload_n d91_86 rfl
theorem d91_87 : decode (mC 91) 87 = .ok (.getfield 50, 3) := by decide +kernel
theorem x91_87 {sc : aSc} {d : Nat} {r : aRes} {L : List Value} {st : List Value} {f : Nat → Nat → Int32} {g : Nat → Nat → Int64} {h1 h2 : Nat} {o : Nat} (hK : KK[o]? = some (.inl 6)) (hR : (RR h1 h2 o 0).isSome = true) : Rn sc d 91 87 L (.ref o :: st) (cS f g h1 h2) r ↔ Rn sc d 91 90 L (.ref (rf h1 h2 o 0) :: st) (cS f g h1 h2) r := r_getR2 d91_87 (ci := 6) (k := 0) rfl (by decide) (fun _ => rfl) hK hR
theorem d91_90 : decode (mC 91) 90 = .ok (.iload 4, 2) := by decide +kernel
theorem x91_90 {sc : aSc} {d : Nat} {r : aRes} {a0 : Value} {a1 : Value} {a2 : Value} {a3 : Value} {x4 : Int32} {st : List Value} {σ : aS} : Rn sc d 91 90 [a0, a1, a2, a3, .int x4] st σ r ↔ Rn sc d 91 92 [a0, a1, a2, a3, .int x4] (.int x4 :: st) σ r := r_iload d91_90 rfl
theorem d91_92 : decode (mC 91) 92 = .ok (.invokevirtual 84, 3) := by decide +kernel
theorem x91_92 {sc : aSc} {d : Nat} {r : aRes} {L : List Value} {f : Nat → Nat → Int32} {g : Nat → Nat → Int64} {h1 h2 : Nat} {y0 : Int32} {z0 : Int64} {o : Nat} (hK : KK[o]? = some (.inl 1)) : Rn sc d 91 92 L [.int y0, .ref o, .long z0] (cS f g h1 h2) r ↔ ∃ (σ3 : aS) (v : Option Value), Cl sc d 13 [.ref o, .int y0] (cS f g h1 h2) (σ3, v) ∧ Rn sc d 91 95 L (v.toList ++ [.long z0]) σ3 r := r_callV (vs := [.int y0]) d91_92 (j := 13) rfl ⟨rfl, by decide, rfl, rfl⟩ (Nat.le_of_ble_eq_true rfl) hK
theorem d91_95 : decode (mC 91) 95 = .ok (.i2l, 1) := by decide +kernel
theorem x91_95 {sc : aSc} {d : Nat} {r : aRes} {L : List Value} {st : List Value} {σ : aS} {x : Int32} : Rn sc d 91 95 L (.int x :: st) σ r ↔ Rn sc d 91 96 L (.long x.toInt64 :: st) σ r := r_i2l d91_95
theorem d91_96 : decode (mC 91) 96 = .ok (.lcmp, 1) := by decide +kernel
theorem x91_96 {sc : aSc} {d : Nat} {r : aRes} {L : List Value} {st : List Value} {σ : aS} {x y : Int64} : Rn sc d 91 96 L (.long y :: .long x :: st) σ r ↔ Rn sc d 91 97 L (.int (lg_cmp x y) :: st) σ r := r_lcmp d91_96
theorem d91_97 : decode (mC 91) 97 = .ok (.ifCond .eq 6, 3) := by decide +kernel
theorem x91_97 {sc : aSc} {d : Nat} {r : aRes} {L : List Value} {st : List Value} {σ : aS} {x : Int32} : Rn sc d 91 97 L (.int x :: st) σ r ↔ if x = 0 then Rn sc d 91 103 L st σ r else Rn sc d 91 100 L st σ r := r_if_eq d91_97 rfl
theorem d91_100 : decode (mC 91) 100 = .ok (.iload 4, 2) := by decide +kernel
theorem x91_100 {sc : aSc} {d : Nat} {r : aRes} {a0 : Value} {a1 : Value} {a2 : Value} {a3 : Value} {x4 : Int32} {st : List Value} {σ : aS} : Rn sc d 91 100 [a0, a1, a2, a3, .int x4] st σ r ↔ Rn sc d 91 102 [a0, a1, a2, a3, .int x4] (.int x4 :: st) σ r := r_iload d91_100 rfl
theorem d91_102 : decode (mC 91) 102 = .ok (.ireturn, 1) := by decide +kernel
theorem x91_102 {sc : aSc} {d : Nat} {r : aRes} {L : List Value} {σ : aS} {x : Int32} : Rn sc d 91 102 L [.int x] σ r ↔ r = (σ, some (.int x)) := r_iret d91_102 rfl rfl
theorem d91_103 : decode (mC 91) 103 = .ok (.iinc 4 1, 3) := by decide +kernel
theorem x91_103 {sc : aSc} {d : Nat} {r : aRes} {a0 : Value} {a1 : Value} {a2 : Value} {x3 : Nat} {x4 : Int32} {st : List Value} {σ : aS} : Rn sc d 91 103 [a0, a1, a2, .ref x3, .int x4] st σ r ↔ Rn sc d 91 106 [a0, a1, a2, .ref x3, .int (x4 + 1)] st σ r := r_iinc d91_103 (Nat.le_of_ble_eq_true rfl) rfl rfl (by decide)
theorem d91_106 : decode (mC 91) 106 = .ok (.goto (-70), 3) := by decide +kernel
theorem x91_106 {sc : aSc} {d : Nat} {r : aRes} {L : List Value} {st : List Value} {σ : aS} : Rn sc d 91 106 L st σ r ↔ Rn sc d 91 36 L st σ r := r_goto d91_106 rfl
theorem d91_109 : decode (mC 91) 109 = .ok (.bipush (-5), 2) := by decide +kernel
theorem x91_109 {sc : aSc} {d : Nat} {r : aRes} {L : List Value} {st : List Value} {σ : aS} : Rn sc d 91 109 L st σ r ↔ Rn sc d 91 111 L (.int (-5) :: st) σ r := r_bipush d91_109 (by decide)
theorem d91_111 : decode (mC 91) 111 = .ok (.ireturn, 1) := by decide +kernel
theorem x91_111 {sc : aSc} {d : Nat} {r : aRes} {L : List Value} {σ : aS} {x : Int32} : Rn sc d 91 111 L [.int x] σ r ↔ r = (σ, some (.int x)) := r_iret d91_111 rfl rfl
theorem d92_0 : decode (mC 92) 0 = .ok (.aload_n 0, 1) := by decide +kernel
theorem x92_0 {sc : aSc} {d : Nat} {r : aRes} {x0 : Nat} {st : List Value} {σ : aS} : Rn sc d 92 0 [.ref x0] st σ r ↔ Rn sc d 92 1 [.ref x0] (.ref x0 :: st) σ r := r_aload_n d92_0 rfl
theorem d92_1 : decode (mC 92) 1 = .ok (.getfield 54, 3) := by decide +kernel
theorem x92_1 {sc : aSc} {d : Nat} {r : aRes} {L : List Value} {st : List Value} {f : Nat → Nat → Int32} {g : Nat → Nat → Int64} {h1 h2 : Nat} {o : Nat} (hK : KK[o]? = some (.inl 6)) (hR : (RR h1 h2 o 1).isSome = true) : Rn sc d 92 1 L (.ref o :: st) (cS f g h1 h2) r ↔ Rn sc d 92 4 L (.ref (rf h1 h2 o 1) :: st) (cS f g h1 h2) r := r_getR2 d92_1 (ci := 6) (k := 1) rfl (by decide) (fun _ => rfl) hK hR
theorem d92_4 : decode (mC 92) 4 = .ok (.aload_n 0, 1) := by decide +kernel
theorem x92_4 {sc : aSc} {d : Nat} {r : aRes} {x0 : Nat} {st : List Value} {σ : aS} : Rn sc d 92 4 [.ref x0] st σ r ↔ Rn sc d 92 5 [.ref x0] (.ref x0 :: st) σ r := r_aload_n d92_4 rfl
theorem d92_5 : decode (mC 92) 5 = .ok (.getfield 50, 3) := by decide +kernel
theorem x92_5 {sc : aSc} {d : Nat} {r : aRes} {L : List Value} {st : List Value} {f : Nat → Nat → Int32} {g : Nat → Nat → Int64} {h1 h2 : Nat} {o : Nat} (hK : KK[o]? = some (.inl 6)) (hR : (RR h1 h2 o 0).isSome = true) : Rn sc d 92 5 L (.ref o :: st) (cS f g h1 h2) r ↔ Rn sc d 92 8 L (.ref (rf h1 h2 o 0) :: st) (cS f g h1 h2) r := r_getR2 d92_5 (ci := 6) (k := 0) rfl (by decide) (fun _ => rfl) hK hR
theorem d92_8 : decode (mC 92) 8 = .ok (.invokevirtual 251, 3) := by decide +kernel
theorem x92_8 {sc : aSc} {d : Nat} {r : aRes} {L : List Value} {f : Nat → Nat → Int32} {g : Nat → Nat → Int64} {h1 h2 : Nat} {y0 : Nat}  {o : Nat} (hK : KK[o]? = some (.inl 1)) : Rn sc d 92 8 L [.ref y0, .ref o] (cS f g h1 h2) r ↔ ∃ (σ3 : aS) (v : Option Value), Cl sc d 6 [.ref o, .ref y0] (cS f g h1 h2) (σ3, v) ∧ Rn sc d 92 11 L (v.toList ++ []) σ3 r := r_callV (vs := [.ref y0]) d92_8 (j := 6) rfl ⟨rfl, by decide, rfl, rfl⟩ (Nat.le_of_ble_eq_true rfl) hK
theorem d92_11 : decode (mC 92) 11 = .ok (.aload_n 0, 1) := by decide +kernel
theorem x92_11 {sc : aSc} {d : Nat} {r : aRes} {x0 : Nat} {st : List Value} {σ : aS} : Rn sc d 92 11 [.ref x0] st σ r ↔ Rn sc d 92 12 [.ref x0] (.ref x0 :: st) σ r := r_aload_n d92_11 rfl
theorem d92_12 : decode (mC 92) 12 = .ok (.iconst 1, 1) := by decide +kernel
theorem x92_12 {sc : aSc} {d : Nat} {r : aRes} {L : List Value} {st : List Value} {σ : aS} : Rn sc d 92 12 L st σ r ↔ Rn sc d 92 13 L (.int 1 :: st) σ r := r_iconst d92_12 (by decide)
theorem d92_13 : decode (mC 92) 13 = .ok (.putfield 255, 3) := by decide +kernel
theorem x92_13 {sc : aSc} {d : Nat} {r : aRes} {L : List Value} {st : List Value} {f : Nat → Nat → Int32} {g : Nat → Nat → Int64} {h1 h2 : Nat} {o : Nat} (h17 : 17 ≤ o) (hK : KK[o]? = some (.inl 6)) : Rn sc d 92 13 L (.int 1 :: .ref o :: st) (cS f g h1 h2) r ↔ Rn sc d 92 16 L st (cS (u2 f o 2 1) g h1 h2) r := r_putZ d92_13 (ci := 6) (k := 2) rfl (by decide) h17 hK rfl
theorem d92_16 : decode (mC 92) 16 = .ok (.aload_n 0, 1) := by decide +kernel
theorem x92_16 {sc : aSc} {d : Nat} {r : aRes} {x0 : Nat} {st : List Value} {σ : aS} : Rn sc d 92 16 [.ref x0] st σ r ↔ Rn sc d 92 17 [.ref x0] (.ref x0 :: st) σ r := r_aload_n d92_16 rfl
theorem d92_17 : decode (mC 92) 17 = .ok (.getfield 50, 3) := by decide +kernel
theorem x92_17 {sc : aSc} {d : Nat} {r : aRes} {L : List Value} {st : List Value} {f : Nat → Nat → Int32} {g : Nat → Nat → Int64} {h1 h2 : Nat} {o : Nat} (hK : KK[o]? = some (.inl 6)) (hR : (RR h1 h2 o 0).isSome = true) : Rn sc d 92 17 L (.ref o :: st) (cS f g h1 h2) r ↔ Rn sc d 92 20 L (.ref (rf h1 h2 o 0) :: st) (cS f g h1 h2) r := r_getR2 d92_17 (ci := 6) (k := 0) rfl (by decide) (fun _ => rfl) hK hR
theorem d92_20 : decode (mC 92) 20 = .ok (.getfield 62, 3) := by decide +kernel
theorem x92_20 {sc : aSc} {d : Nat} {r : aRes} {L : List Value} {st : List Value} {f : Nat → Nat → Int32} {g : Nat → Nat → Int64} {h1 h2 : Nat} {o : Nat} (h17 : 17 ≤ o) (hK : KK[o]? = some (.inl 1)) : Rn sc d 92 20 L (.ref o :: st) (cS f g h1 h2) r ↔ Rn sc d 92 23 L (.int (f o 0) :: st) (cS f g h1 h2) r := r_getI d92_20 (ci := 1) (k := 0) rfl (by decide) (fun _ => rfl) h17 hK
theorem d92_23 : decode (mC 92) 23 = .ok (.ireturn, 1) := by decide +kernel
theorem x92_23 {sc : aSc} {d : Nat} {r : aRes} {L : List Value} {σ : aS} {x : Int32} : Rn sc d 92 23 L [.int x] σ r ↔ r = (σ, some (.int x)) := r_iret d92_23 rfl rfl
theorem d93_0 : decode (mC 93) 0 = .ok (.aload_n 0, 1) := by decide +kernel
theorem x93_0 {sc : aSc} {d : Nat} {r : aRes} {x0 : Nat} {st : List Value} {σ : aS} : Rn sc d 93 0 [.ref x0] st σ r ↔ Rn sc d 93 1 [.ref x0] (.ref x0 :: st) σ r := r_aload_n d93_0 rfl
theorem d93_1 : decode (mC 93) 1 = .ok (.getfield 255, 3) := by decide +kernel
theorem x93_1 {sc : aSc} {d : Nat} {r : aRes} {L : List Value} {st : List Value} {f : Nat → Nat → Int32} {g : Nat → Nat → Int64} {h1 h2 : Nat} {o : Nat} (h17 : 17 ≤ o) (hK : KK[o]? = some (.inl 6)) : Rn sc d 93 1 L (.ref o :: st) (cS f g h1 h2) r ↔ Rn sc d 93 4 L (.int (f o 2) :: st) (cS f g h1 h2) r := r_getI d93_1 (ci := 6) (k := 2) rfl (by decide) (fun _ => rfl) h17 hK
theorem d93_4 : decode (mC 93) 4 = .ok (.ifCond .ne 6, 3) := by decide +kernel
theorem x93_4 {sc : aSc} {d : Nat} {r : aRes} {L : List Value} {st : List Value} {σ : aS} {x : Int32} : Rn sc d 93 4 L (.int x :: st) σ r ↔ if x = 0 then Rn sc d 93 7 L st σ r else Rn sc d 93 10 L st σ r := r_if_ne d93_4 rfl
theorem d93_7 : decode (mC 93) 7 = .ok (.bipush (-3), 2) := by decide +kernel
theorem x93_7 {sc : aSc} {d : Nat} {r : aRes} {L : List Value} {st : List Value} {σ : aS} : Rn sc d 93 7 L st σ r ↔ Rn sc d 93 9 L (.int (-3) :: st) σ r := r_bipush d93_7 (by decide)
theorem d93_9 : decode (mC 93) 9 = .ok (.ireturn, 1) := by decide +kernel
theorem x93_9 {sc : aSc} {d : Nat} {r : aRes} {L : List Value} {σ : aS} {x : Int32} : Rn sc d 93 9 L [.int x] σ r ↔ r = (σ, some (.int x)) := r_iret d93_9 rfl rfl
theorem d93_10 : decode (mC 93) 10 = .ok (.aload_n 0, 1) := by decide +kernel
theorem x93_10 {sc : aSc} {d : Nat} {r : aRes} {x0 : Nat} {st : List Value} {σ : aS} : Rn sc d 93 10 [.ref x0] st σ r ↔ Rn sc d 93 11 [.ref x0] (.ref x0 :: st) σ r := r_aload_n d93_10 rfl
theorem d93_11 : decode (mC 93) 11 = .ok (.getfield 50, 3) := by decide +kernel
theorem x93_11 {sc : aSc} {d : Nat} {r : aRes} {L : List Value} {st : List Value} {f : Nat → Nat → Int32} {g : Nat → Nat → Int64} {h1 h2 : Nat} {o : Nat} (hK : KK[o]? = some (.inl 6)) (hR : (RR h1 h2 o 0).isSome = true) : Rn sc d 93 11 L (.ref o :: st) (cS f g h1 h2) r ↔ Rn sc d 93 14 L (.ref (rf h1 h2 o 0) :: st) (cS f g h1 h2) r := r_getR2 d93_11 (ci := 6) (k := 0) rfl (by decide) (fun _ => rfl) hK hR
theorem d93_14 : decode (mC 93) 14 = .ok (.aload_n 0, 1) := by decide +kernel
theorem x93_14 {sc : aSc} {d : Nat} {r : aRes} {x0 : Nat} {st : List Value} {σ : aS} : Rn sc d 93 14 [.ref x0] st σ r ↔ Rn sc d 93 15 [.ref x0] (.ref x0 :: st) σ r := r_aload_n d93_14 rfl
theorem d93_15 : decode (mC 93) 15 = .ok (.getfield 54, 3) := by decide +kernel
theorem x93_15 {sc : aSc} {d : Nat} {r : aRes} {L : List Value} {st : List Value} {f : Nat → Nat → Int32} {g : Nat → Nat → Int64} {h1 h2 : Nat} {o : Nat} (hK : KK[o]? = some (.inl 6)) (hR : (RR h1 h2 o 1).isSome = true) : Rn sc d 93 15 L (.ref o :: st) (cS f g h1 h2) r ↔ Rn sc d 93 18 L (.ref (rf h1 h2 o 1) :: st) (cS f g h1 h2) r := r_getR2 d93_15 (ci := 6) (k := 1) rfl (by decide) (fun _ => rfl) hK hR
theorem d93_18 : decode (mC 93) 18 = .ok (.invokevirtual 251, 3) := by decide +kernel
theorem x93_18 {sc : aSc} {d : Nat} {r : aRes} {L : List Value} {f : Nat → Nat → Int32} {g : Nat → Nat → Int64} {h1 h2 : Nat} {y0 : Nat}  {o : Nat} (hK : KK[o]? = some (.inl 1)) : Rn sc d 93 18 L [.ref y0, .ref o] (cS f g h1 h2) r ↔ ∃ (σ3 : aS) (v : Option Value), Cl sc d 6 [.ref o, .ref y0] (cS f g h1 h2) (σ3, v) ∧ Rn sc d 93 21 L (v.toList ++ []) σ3 r := r_callV (vs := [.ref y0]) d93_18 (j := 6) rfl ⟨rfl, by decide, rfl, rfl⟩ (Nat.le_of_ble_eq_true rfl) hK
theorem d93_21 : decode (mC 93) 21 = .ok (.aload_n 0, 1) := by decide +kernel
theorem x93_21 {sc : aSc} {d : Nat} {r : aRes} {x0 : Nat} {st : List Value} {σ : aS} : Rn sc d 93 21 [.ref x0] st σ r ↔ Rn sc d 93 22 [.ref x0] (.ref x0 :: st) σ r := r_aload_n d93_21 rfl
theorem d93_22 : decode (mC 93) 22 = .ok (.getfield 50, 3) := by decide +kernel
theorem x93_22 {sc : aSc} {d : Nat} {r : aRes} {L : List Value} {st : List Value} {f : Nat → Nat → Int32} {g : Nat → Nat → Int64} {h1 h2 : Nat} {o : Nat} (hK : KK[o]? = some (.inl 6)) (hR : (RR h1 h2 o 0).isSome = true) : Rn sc d 93 22 L (.ref o :: st) (cS f g h1 h2) r ↔ Rn sc d 93 25 L (.ref (rf h1 h2 o 0) :: st) (cS f g h1 h2) r := r_getR2 d93_22 (ci := 6) (k := 0) rfl (by decide) (fun _ => rfl) hK hR
theorem d93_25 : decode (mC 93) 25 = .ok (.getfield 62, 3) := by decide +kernel
theorem x93_25 {sc : aSc} {d : Nat} {r : aRes} {L : List Value} {st : List Value} {f : Nat → Nat → Int32} {g : Nat → Nat → Int64} {h1 h2 : Nat} {o : Nat} (h17 : 17 ≤ o) (hK : KK[o]? = some (.inl 1)) : Rn sc d 93 25 L (.ref o :: st) (cS f g h1 h2) r ↔ Rn sc d 93 28 L (.int (f o 0) :: st) (cS f g h1 h2) r := r_getI d93_25 (ci := 1) (k := 0) rfl (by decide) (fun _ => rfl) h17 hK
theorem d93_28 : decode (mC 93) 28 = .ok (.ireturn, 1) := by decide +kernel
theorem x93_28 {sc : aSc} {d : Nat} {r : aRes} {L : List Value} {σ : aS} {x : Int32} : Rn sc d 93 28 L [.int x] σ r ↔ r = (σ, some (.int x)) := r_iret d93_28 rfl rfl
theorem d94_0 : decode (mC 94) 0 = .ok (.aload_n 0, 1) := by decide +kernel
theorem x94_0 {sc : aSc} {d : Nat} {r : aRes} {x0 : Nat} {a1 : Value} {a2 : Value} {a3 : Value} {st : List Value} {σ : aS} : Rn sc d 94 0 [.ref x0, a1, a2, a3] st σ r ↔ Rn sc d 94 1 [.ref x0, a1, a2, a3] (.ref x0 :: st) σ r := r_aload_n d94_0 rfl
theorem d94_1 : decode (mC 94) 1 = .ok (.getfield 50, 3) := by decide +kernel
theorem x94_1 {sc : aSc} {d : Nat} {r : aRes} {L : List Value} {st : List Value} {f : Nat → Nat → Int32} {g : Nat → Nat → Int64} {h1 h2 : Nat} {o : Nat} (hK : KK[o]? = some (.inl 6)) (hR : (RR h1 h2 o 0).isSome = true) : Rn sc d 94 1 L (.ref o :: st) (cS f g h1 h2) r ↔ Rn sc d 94 4 L (.ref (rf h1 h2 o 0) :: st) (cS f g h1 h2) r := r_getR2 d94_1 (ci := 6) (k := 0) rfl (by decide) (fun _ => rfl) hK hR
theorem d94_4 : decode (mC 94) 4 = .ok (.iload_n 1, 1) := by decide +kernel
theorem x94_4 {sc : aSc} {d : Nat} {r : aRes} {a0 : Value} {x1 : Int32} {a2 : Value} {a3 : Value} {st : List Value} {σ : aS} : Rn sc d 94 4 [a0, .int x1, a2, a3] st σ r ↔ Rn sc d 94 5 [a0, .int x1, a2, a3] (.int x1 :: st) σ r := r_iload_n d94_4 rfl
theorem d94_5 : decode (mC 94) 5 = .ok (.invokevirtual 70, 3) := by decide +kernel
theorem x94_5 {sc : aSc} {d : Nat} {r : aRes} {L : List Value} {f : Nat → Nat → Int32} {g : Nat → Nat → Int64} {h1 h2 : Nat} {y0 : Int32}  {o : Nat} (hK : KK[o]? = some (.inl 1)) : Rn sc d 94 5 L [.int y0, .ref o] (cS f g h1 h2) r ↔ ∃ (σ3 : aS) (v : Option Value), Cl sc d 7 [.ref o, .int y0] (cS f g h1 h2) (σ3, v) ∧ Rn sc d 94 8 L (v.toList ++ []) σ3 r := r_callV (vs := [.int y0]) d94_5 (j := 7) rfl ⟨rfl, by decide, rfl, rfl⟩ (Nat.le_of_ble_eq_true rfl) hK
theorem d94_8 : decode (mC 94) 8 = .ok (.ifCond .eq 11, 3) := by decide +kernel
theorem x94_8 {sc : aSc} {d : Nat} {r : aRes} {L : List Value} {st : List Value} {σ : aS} {x : Int32} : Rn sc d 94 8 L (.int x :: st) σ r ↔ if x = 0 then Rn sc d 94 19 L st σ r else Rn sc d 94 11 L st σ r := r_if_eq d94_8 rfl
theorem d94_11 : decode (mC 94) 11 = .ok (.iload_n 2, 1) := by decide +kernel
theorem x94_11 {sc : aSc} {d : Nat} {r : aRes} {a0 : Value} {a1 : Value} {x2 : Int32} {a3 : Value} {st : List Value} {σ : aS} : Rn sc d 94 11 [a0, a1, .int x2, a3] st σ r ↔ Rn sc d 94 12 [a0, a1, .int x2, a3] (.int x2 :: st) σ r := r_iload_n d94_11 rfl
theorem d94_12 : decode (mC 94) 12 = .ok (.iconst 2, 1) := by decide +kernel
theorem x94_12 {sc : aSc} {d : Nat} {r : aRes} {L : List Value} {st : List Value} {σ : aS} : Rn sc d 94 12 L st σ r ↔ Rn sc d 94 13 L (.int 2 :: st) σ r := r_iconst d94_12 (by decide)
theorem d94_13 : decode (mC 94) 13 = .ok (.invokestatic 58, 3) := by decide +kernel
theorem x94_13 {sc : aSc} {d : Nat} {r : aRes} {L : List Value} {σ : aS} {y0 : Int32} {y1 : Int32}  : Rn sc d 94 13 L [.int y0, .int y1] σ r ↔ ∃ (σ3 : aS) (v : Option Value), Cl sc d 102 [.int y1, .int y0] σ (σ3, v) ∧ Rn sc d 94 16 L (v.toList ++ []) σ3 r := r_callS (vs := [.int y0, .int y1]) d94_13 rfl (j := 102) rfl ⟨rfl, by decide, rfl, rfl⟩ (Nat.le_of_ble_eq_true rfl)
theorem d94_16 : decode (mC 94) 16 = .ok (.ifCond .ne 13, 3) := by decide +kernel
theorem x94_16 {sc : aSc} {d : Nat} {r : aRes} {L : List Value} {st : List Value} {σ : aS} {x : Int32} : Rn sc d 94 16 L (.int x :: st) σ r ↔ if x = 0 then Rn sc d 94 19 L st σ r else Rn sc d 94 29 L st σ r := r_if_ne d94_16 rfl
theorem d94_19 : decode (mC 94) 19 = .ok (.aload_n 0, 1) := by decide +kernel
theorem x94_19 {sc : aSc} {d : Nat} {r : aRes} {x0 : Nat} {a1 : Value} {a2 : Value} {a3 : Value} {st : List Value} {σ : aS} : Rn sc d 94 19 [.ref x0, a1, a2, a3] st σ r ↔ Rn sc d 94 20 [.ref x0, a1, a2, a3] (.ref x0 :: st) σ r := r_aload_n d94_19 rfl
theorem d94_20 : decode (mC 94) 20 = .ok (.getfield 34, 3) := by decide +kernel
theorem x94_20 {sc : aSc} {d : Nat} {r : aRes} {L : List Value} {st : List Value} {f : Nat → Nat → Int32} {g : Nat → Nat → Int64} {h1 h2 : Nat} {o : Nat} (hK : KK[o]? = some (.inl 6)) (hR : (RR h1 h2 o 7).isSome = true) : Rn sc d 94 20 L (.ref o :: st) (cS f g h1 h2) r ↔ Rn sc d 94 23 L (.ref (rf h1 h2 o 7) :: st) (cS f g h1 h2) r := r_getR2 d94_20 (ci := 6) (k := 7) rfl (by decide) (fun _ => rfl) hK hR
theorem d94_23 : decode (mC 94) 23 = .ok (.iconst 0, 1) := by decide +kernel
theorem x94_23 {sc : aSc} {d : Nat} {r : aRes} {L : List Value} {st : List Value} {σ : aS} : Rn sc d 94 23 L st σ r ↔ Rn sc d 94 24 L (.int 0 :: st) σ r := r_iconst d94_23 (by decide)
theorem d94_24 : decode (mC 94) 24 = .ok (.putfield 259, 3) := by decide +kernel
theorem x94_24 {sc : aSc} {d : Nat} {r : aRes} {L : List Value} {st : List Value} {f : Nat → Nat → Int32} {g : Nat → Nat → Int64} {h1 h2 : Nat} {o : Nat} {v : Int32} (h17 : 17 ≤ o) (hK : KK[o]? = some (.inl 0)) : Rn sc d 94 24 L (.int v :: .ref o :: st) (cS f g h1 h2) r ↔ Rn sc d 94 27 L st (cS (u2 f o 1 v) g h1 h2) r := r_putI d94_24 (ci := 0) (k := 1) rfl (by decide) h17 hK
theorem d94_27 : decode (mC 94) 27 = .ok (.iconst 0, 1) := by decide +kernel
theorem x94_27 {sc : aSc} {d : Nat} {r : aRes} {L : List Value} {st : List Value} {σ : aS} : Rn sc d 94 27 L st σ r ↔ Rn sc d 94 28 L (.int 0 :: st) σ r := r_iconst d94_27 (by decide)
theorem d94_28 : decode (mC 94) 28 = .ok (.ireturn, 1) := by decide +kernel
theorem x94_28 {sc : aSc} {d : Nat} {r : aRes} {L : List Value} {σ : aS} {x : Int32} : Rn sc d 94 28 L [.int x] σ r ↔ r = (σ, some (.int x)) := r_iret d94_28 rfl rfl
theorem d94_29 : decode (mC 94) 29 = .ok (.aload_n 0, 1) := by decide +kernel
theorem x94_29 {sc : aSc} {d : Nat} {r : aRes} {x0 : Nat} {a1 : Value} {a2 : Value} {a3 : Value} {st : List Value} {σ : aS} : Rn sc d 94 29 [.ref x0, a1, a2, a3] st σ r ↔ Rn sc d 94 30 [.ref x0, a1, a2, a3] (.ref x0 :: st) σ r := r_aload_n d94_29 rfl
theorem d94_30 : decode (mC 94) 30 = .ok (.getfield 34, 3) := by decide +kernel
theorem x94_30 {sc : aSc} {d : Nat} {r : aRes} {L : List Value} {st : List Value} {f : Nat → Nat → Int32} {g : Nat → Nat → Int64} {h1 h2 : Nat} {o : Nat} (hK : KK[o]? = some (.inl 6)) (hR : (RR h1 h2 o 7).isSome = true) : Rn sc d 94 30 L (.ref o :: st) (cS f g h1 h2) r ↔ Rn sc d 94 33 L (.ref (rf h1 h2 o 7) :: st) (cS f g h1 h2) r := r_getR2 d94_30 (ci := 6) (k := 7) rfl (by decide) (fun _ => rfl) hK hR
theorem d94_33 : decode (mC 94) 33 = .ok (.aload_n 0, 1) := by decide +kernel
theorem x94_33 {sc : aSc} {d : Nat} {r : aRes} {x0 : Nat} {a1 : Value} {a2 : Value} {a3 : Value} {st : List Value} {σ : aS} : Rn sc d 94 33 [.ref x0, a1, a2, a3] st σ r ↔ Rn sc d 94 34 [.ref x0, a1, a2, a3] (.ref x0 :: st) σ r := r_aload_n d94_33 rfl
theorem d94_34 : decode (mC 94) 34 = .ok (.getfield 50, 3) := by decide +kernel
theorem x94_34 {sc : aSc} {d : Nat} {r : aRes} {L : List Value} {st : List Value} {f : Nat → Nat → Int32} {g : Nat → Nat → Int64} {h1 h2 : Nat} {o : Nat} (hK : KK[o]? = some (.inl 6)) (hR : (RR h1 h2 o 0).isSome = true) : Rn sc d 94 34 L (.ref o :: st) (cS f g h1 h2) r ↔ Rn sc d 94 37 L (.ref (rf h1 h2 o 0) :: st) (cS f g h1 h2) r := r_getR2 d94_34 (ci := 6) (k := 0) rfl (by decide) (fun _ => rfl) hK hR
theorem d94_37 : decode (mC 94) 37 = .ok (.getfield 74, 3) := by decide +kernel
theorem x94_37 {sc : aSc} {d : Nat} {r : aRes} {L : List Value} {st : List Value} {f : Nat → Nat → Int32} {g : Nat → Nat → Int64} {h1 h2 : Nat} {o : Nat} (hK : KK[o]? = some (.inl 1)) (hR : (RR h1 h2 o 6).isSome = true) : Rn sc d 94 37 L (.ref o :: st) (cS f g h1 h2) r ↔ Rn sc d 94 40 L (.ref (rf h1 h2 o 6) :: st) (cS f g h1 h2) r := r_getR2 d94_37 (ci := 1) (k := 6) rfl (by decide) (fun _ => rfl) hK hR
theorem d94_40 : decode (mC 94) 40 = .ok (.iload_n 1, 1) := by decide +kernel
theorem x94_40 {sc : aSc} {d : Nat} {r : aRes} {a0 : Value} {x1 : Int32} {a2 : Value} {a3 : Value} {st : List Value} {σ : aS} : Rn sc d 94 40 [a0, .int x1, a2, a3] st σ r ↔ Rn sc d 94 41 [a0, .int x1, a2, a3] (.int x1 :: st) σ r := r_iload_n d94_40 rfl
theorem d94_41 : decode (mC 94) 41 = .ok (.iaload, 1) := by decide +kernel
theorem x94_41 {sc : aSc} {d : Nat} {r : aRes} {L : List Value} {st : List Value} {f : Nat → Nat → Int32} {g : Nat → Nat → Int64} {h1 h2 : Nat} {a : Nat} {i : Int32} (h17 : 17 ≤ a) (hA : isT9 .int a) (hi : inb i (aln a) = true) : Rn sc d 94 41 L (.int i :: .ref a :: st) (cS f g h1 h2) r ↔ Rn sc d 94 42 L (.int (f a i.toNatClampNeg) :: st) (cS f g h1 h2) r := r_iald d94_41 h17 hA hi
theorem d94_42 : decode (mC 94) 42 = .ok (.iload_n 1, 1) := by decide +kernel
theorem x94_42 {sc : aSc} {d : Nat} {r : aRes} {a0 : Value} {x1 : Int32} {a2 : Value} {a3 : Value} {st : List Value} {σ : aS} : Rn sc d 94 42 [a0, .int x1, a2, a3] st σ r ↔ Rn sc d 94 43 [a0, .int x1, a2, a3] (.int x1 :: st) σ r := r_iload_n d94_42 rfl
theorem d94_43 : decode (mC 94) 43 = .ok (.aload_n 0, 1) := by decide +kernel
theorem x94_43 {sc : aSc} {d : Nat} {r : aRes} {x0 : Nat} {a1 : Value} {a2 : Value} {a3 : Value} {st : List Value} {σ : aS} : Rn sc d 94 43 [.ref x0, a1, a2, a3] st σ r ↔ Rn sc d 94 44 [.ref x0, a1, a2, a3] (.ref x0 :: st) σ r := r_aload_n d94_43 rfl
theorem d94_44 : decode (mC 94) 44 = .ok (.getfield 50, 3) := by decide +kernel
theorem x94_44 {sc : aSc} {d : Nat} {r : aRes} {L : List Value} {st : List Value} {f : Nat → Nat → Int32} {g : Nat → Nat → Int64} {h1 h2 : Nat} {o : Nat} (hK : KK[o]? = some (.inl 6)) (hR : (RR h1 h2 o 0).isSome = true) : Rn sc d 94 44 L (.ref o :: st) (cS f g h1 h2) r ↔ Rn sc d 94 47 L (.ref (rf h1 h2 o 0) :: st) (cS f g h1 h2) r := r_getR2 d94_44 (ci := 6) (k := 0) rfl (by decide) (fun _ => rfl) hK hR
theorem d94_47 : decode (mC 94) 47 = .ok (.getfield 78, 3) := by decide +kernel
theorem x94_47 {sc : aSc} {d : Nat} {r : aRes} {L : List Value} {st : List Value} {f : Nat → Nat → Int32} {g : Nat → Nat → Int64} {h1 h2 : Nat} {o : Nat} (hK : KK[o]? = some (.inl 1)) (hR : (RR h1 h2 o 7).isSome = true) : Rn sc d 94 47 L (.ref o :: st) (cS f g h1 h2) r ↔ Rn sc d 94 50 L (.ref (rf h1 h2 o 7) :: st) (cS f g h1 h2) r := r_getR2 d94_47 (ci := 1) (k := 7) rfl (by decide) (fun _ => rfl) hK hR
theorem d94_50 : decode (mC 94) 50 = .ok (.iload_n 1, 1) := by decide +kernel
theorem x94_50 {sc : aSc} {d : Nat} {r : aRes} {a0 : Value} {x1 : Int32} {a2 : Value} {a3 : Value} {st : List Value} {σ : aS} : Rn sc d 94 50 [a0, .int x1, a2, a3] st σ r ↔ Rn sc d 94 51 [a0, .int x1, a2, a3] (.int x1 :: st) σ r := r_iload_n d94_50 rfl
theorem d94_51 : decode (mC 94) 51 = .ok (.iaload, 1) := by decide +kernel
theorem x94_51 {sc : aSc} {d : Nat} {r : aRes} {L : List Value} {st : List Value} {f : Nat → Nat → Int32} {g : Nat → Nat → Int64} {h1 h2 : Nat} {a : Nat} {i : Int32} (h17 : 17 ≤ a) (hA : isT9 .int a) (hi : inb i (aln a) = true) : Rn sc d 94 51 L (.int i :: .ref a :: st) (cS f g h1 h2) r ↔ Rn sc d 94 52 L (.int (f a i.toNatClampNeg) :: st) (cS f g h1 h2) r := r_iald d94_51 h17 hA hi
theorem d94_52 : decode (mC 94) 52 = .ok (.iload_n 2, 1) := by decide +kernel
theorem x94_52 {sc : aSc} {d : Nat} {r : aRes} {a0 : Value} {a1 : Value} {x2 : Int32} {a3 : Value} {st : List Value} {σ : aS} : Rn sc d 94 52 [a0, a1, .int x2, a3] st σ r ↔ Rn sc d 94 53 [a0, a1, .int x2, a3] (.int x2 :: st) σ r := r_iload_n d94_52 rfl
theorem d94_53 : decode (mC 94) 53 = .ok (.iload_n 3, 1) := by decide +kernel
theorem x94_53 {sc : aSc} {d : Nat} {r : aRes} {a0 : Value} {a1 : Value} {a2 : Value} {x3 : Int32} {st : List Value} {σ : aS} : Rn sc d 94 53 [a0, a1, a2, .int x3] st σ r ↔ Rn sc d 94 54 [a0, a1, a2, .int x3] (.int x3 :: st) σ r := r_iload_n d94_53 rfl
theorem d94_54 : decode (mC 94) 54 = .ok (.invokevirtual 262, 3) := by decide +kernel
theorem x94_54 {sc : aSc} {d : Nat} {r : aRes} {L : List Value} {f : Nat → Nat → Int32} {g : Nat → Nat → Int64} {h1 h2 : Nat} {y0 : Int32} {y1 : Int32} {y2 : Int32} {y3 : Int32} {y4 : Int32}  {o : Nat} (hK : KK[o]? = some (.inl 0)) : Rn sc d 94 54 L [.int y0, .int y1, .int y2, .int y3, .int y4, .ref o] (cS f g h1 h2) r ↔ ∃ (σ3 : aS) (v : Option Value), Cl sc d 1 [.ref o, .int y4, .int y3, .int y2, .int y1, .int y0] (cS f g h1 h2) (σ3, v) ∧ Rn sc d 94 57 L (v.toList ++ []) σ3 r := r_callV (vs := [.int y0, .int y1, .int y2, .int y3, .int y4]) d94_54 (j := 1) rfl ⟨rfl, by decide, rfl, rfl⟩ (Nat.le_of_ble_eq_true rfl) hK
theorem d94_57 : decode (mC 94) 57 = .ok (.ireturn, 1) := by decide +kernel
theorem x94_57 {sc : aSc} {d : Nat} {r : aRes} {L : List Value} {σ : aS} {x : Int32} : Rn sc d 94 57 L [.int x] σ r ↔ r = (σ, some (.int x)) := r_iret d94_57 rfl rfl
theorem d95_0 : decode (mC 95) 0 = .ok (.iload_n 1, 1) := by decide +kernel
theorem x95_0 {sc : aSc} {d : Nat} {r : aRes} {a0 : Value} {x1 : Int32} {st : List Value} {σ : aS} : Rn sc d 95 0 [a0, .int x1] st σ r ↔ Rn sc d 95 1 [a0, .int x1] (.int x1 :: st) σ r := r_iload_n d95_0 rfl
theorem d95_1 : decode (mC 95) 1 = .ok (.ifCond .lt 32, 3) := by decide +kernel
theorem x95_1 {sc : aSc} {d : Nat} {r : aRes} {L : List Value} {st : List Value} {σ : aS} {x : Int32} : Rn sc d 95 1 L (.int x :: st) σ r ↔ if x < 0 then Rn sc d 95 33 L st σ r else Rn sc d 95 4 L st σ r := r_if_lt d95_1 rfl
theorem d95_4 : decode (mC 95) 4 = .ok (.iload_n 1, 1) := by decide +kernel
theorem x95_4 {sc : aSc} {d : Nat} {r : aRes} {a0 : Value} {x1 : Int32} {st : List Value} {σ : aS} : Rn sc d 95 4 [a0, .int x1] st σ r ↔ Rn sc d 95 5 [a0, .int x1] (.int x1 :: st) σ r := r_iload_n d95_4 rfl
theorem d95_5 : decode (mC 95) 5 = .ok (.aload_n 0, 1) := by decide +kernel
theorem x95_5 {sc : aSc} {d : Nat} {r : aRes} {x0 : Nat} {a1 : Value} {st : List Value} {σ : aS} : Rn sc d 95 5 [.ref x0, a1] st σ r ↔ Rn sc d 95 6 [.ref x0, a1] (.ref x0 :: st) σ r := r_aload_n d95_5 rfl
theorem d95_6 : decode (mC 95) 6 = .ok (.getfield 34, 3) := by decide +kernel
theorem x95_6 {sc : aSc} {d : Nat} {r : aRes} {L : List Value} {st : List Value} {f : Nat → Nat → Int32} {g : Nat → Nat → Int64} {h1 h2 : Nat} {o : Nat} (hK : KK[o]? = some (.inl 6)) (hR : (RR h1 h2 o 7).isSome = true) : Rn sc d 95 6 L (.ref o :: st) (cS f g h1 h2) r ↔ Rn sc d 95 9 L (.ref (rf h1 h2 o 7) :: st) (cS f g h1 h2) r := r_getR2 d95_6 (ci := 6) (k := 7) rfl (by decide) (fun _ => rfl) hK hR
theorem d95_9 : decode (mC 95) 9 = .ok (.getfield 259, 3) := by decide +kernel
theorem x95_9 {sc : aSc} {d : Nat} {r : aRes} {L : List Value} {st : List Value} {f : Nat → Nat → Int32} {g : Nat → Nat → Int64} {h1 h2 : Nat} {o : Nat} (h17 : 17 ≤ o) (hK : KK[o]? = some (.inl 0)) : Rn sc d 95 9 L (.ref o :: st) (cS f g h1 h2) r ↔ Rn sc d 95 12 L (.int (f o 1) :: st) (cS f g h1 h2) r := r_getI d95_9 (ci := 0) (k := 1) rfl (by decide) (fun _ => rfl) h17 hK
theorem d95_12 : decode (mC 95) 12 = .ok (.if_icmp .ge 21, 3) := by decide +kernel
theorem x95_12 {sc : aSc} {d : Nat} {r : aRes} {L : List Value} {st : List Value} {σ : aS} {x y : Int32} : Rn sc d 95 12 L (.int y :: .int x :: st) σ r ↔ if x < y then Rn sc d 95 15 L st σ r else Rn sc d 95 33 L st σ r := r_icmp_ge d95_12 rfl
theorem d95_15 : decode (mC 95) 15 = .ok (.iload_n 1, 1) := by decide +kernel
theorem x95_15 {sc : aSc} {d : Nat} {r : aRes} {a0 : Value} {x1 : Int32} {st : List Value} {σ : aS} : Rn sc d 95 15 [a0, .int x1] st σ r ↔ Rn sc d 95 16 [a0, .int x1] (.int x1 :: st) σ r := r_iload_n d95_15 rfl
theorem d95_16 : decode (mC 95) 16 = .ok (.bipush 20, 2) := by decide +kernel
theorem x95_16 {sc : aSc} {d : Nat} {r : aRes} {L : List Value} {st : List Value} {σ : aS} : Rn sc d 95 16 L st σ r ↔ Rn sc d 95 18 L (.int 20 :: st) σ r := r_bipush d95_16 (by decide)
theorem d95_18 : decode (mC 95) 18 = .ok (.if_icmp .ge 15, 3) := by decide +kernel
theorem x95_18 {sc : aSc} {d : Nat} {r : aRes} {L : List Value} {st : List Value} {σ : aS} {x y : Int32} : Rn sc d 95 18 L (.int y :: .int x :: st) σ r ↔ if x < y then Rn sc d 95 21 L st σ r else Rn sc d 95 33 L st σ r := r_icmp_ge d95_18 rfl
theorem d95_21 : decode (mC 95) 21 = .ok (.aload_n 0, 1) := by decide +kernel
theorem x95_21 {sc : aSc} {d : Nat} {r : aRes} {x0 : Nat} {a1 : Value} {st : List Value} {σ : aS} : Rn sc d 95 21 [.ref x0, a1] st σ r ↔ Rn sc d 95 22 [.ref x0, a1] (.ref x0 :: st) σ r := r_aload_n d95_21 rfl
theorem d95_22 : decode (mC 95) 22 = .ok (.getfield 34, 3) := by decide +kernel
theorem x95_22 {sc : aSc} {d : Nat} {r : aRes} {L : List Value} {st : List Value} {f : Nat → Nat → Int32} {g : Nat → Nat → Int64} {h1 h2 : Nat} {o : Nat} (hK : KK[o]? = some (.inl 6)) (hR : (RR h1 h2 o 7).isSome = true) : Rn sc d 95 22 L (.ref o :: st) (cS f g h1 h2) r ↔ Rn sc d 95 25 L (.ref (rf h1 h2 o 7) :: st) (cS f g h1 h2) r := r_getR2 d95_22 (ci := 6) (k := 7) rfl (by decide) (fun _ => rfl) hK hR
theorem d95_25 : decode (mC 95) 25 = .ok (.getfield 266, 3) := by decide +kernel
theorem x95_25 {sc : aSc} {d : Nat} {r : aRes} {L : List Value} {st : List Value} {f : Nat → Nat → Int32} {g : Nat → Nat → Int64} {h1 h2 : Nat} {o : Nat} (hK : KK[o]? = some (.inl 0)) (hR : (RR h1 h2 o 0).isSome = true) : Rn sc d 95 25 L (.ref o :: st) (cS f g h1 h2) r ↔ Rn sc d 95 28 L (.ref (rf h1 h2 o 0) :: st) (cS f g h1 h2) r := r_getR2 d95_25 (ci := 0) (k := 0) rfl (by decide) (fun _ => rfl) hK hR
theorem d95_28 : decode (mC 95) 28 = .ok (.iload_n 1, 1) := by decide +kernel
theorem x95_28 {sc : aSc} {d : Nat} {r : aRes} {a0 : Value} {x1 : Int32} {st : List Value} {σ : aS} : Rn sc d 95 28 [a0, .int x1] st σ r ↔ Rn sc d 95 29 [a0, .int x1] (.int x1 :: st) σ r := r_iload_n d95_28 rfl
theorem d95_29 : decode (mC 95) 29 = .ok (.iaload, 1) := by decide +kernel
theorem x95_29 {sc : aSc} {d : Nat} {r : aRes} {L : List Value} {st : List Value} {f : Nat → Nat → Int32} {g : Nat → Nat → Int64} {h1 h2 : Nat} {a : Nat} {i : Int32} (h17 : 17 ≤ a) (hA : isT9 .int a) (hi : inb i (aln a) = true) : Rn sc d 95 29 L (.int i :: .ref a :: st) (cS f g h1 h2) r ↔ Rn sc d 95 30 L (.int (f a i.toNatClampNeg) :: st) (cS f g h1 h2) r := r_iald d95_29 h17 hA hi
theorem d95_30 : decode (mC 95) 30 = .ok (.goto 4, 3) := by decide +kernel
theorem x95_30 {sc : aSc} {d : Nat} {r : aRes} {L : List Value} {st : List Value} {σ : aS} : Rn sc d 95 30 L st σ r ↔ Rn sc d 95 34 L st σ r := r_goto d95_30 rfl
theorem d95_33 : decode (mC 95) 33 = .ok (.iconst (-1), 1) := by decide +kernel
theorem x95_33 {sc : aSc} {d : Nat} {r : aRes} {L : List Value} {st : List Value} {σ : aS} : Rn sc d 95 33 L st σ r ↔ Rn sc d 95 34 L (.int (-1) :: st) σ r := r_iconst d95_33 (by decide)
theorem d95_34 : decode (mC 95) 34 = .ok (.ireturn, 1) := by decide +kernel
theorem x95_34 {sc : aSc} {d : Nat} {r : aRes} {L : List Value} {σ : aS} {x : Int32} : Rn sc d 95 34 L [.int x] σ r ↔ r = (σ, some (.int x)) := r_iret d95_34 rfl rfl
theorem d96_0 : decode (mC 96) 0 = .ok (.iload_n 2, 1) := by decide +kernel
theorem x96_0 {sc : aSc} {d : Nat} {r : aRes} {a0 : Value} {a1 : Value} {x2 : Int32} {st : List Value} {σ : aS} : Rn sc d 96 0 [a0, a1, .int x2] st σ r ↔ Rn sc d 96 1 [a0, a1, .int x2] (.int x2 :: st) σ r := r_iload_n d96_0 rfl
theorem d96_1 : decode (mC 96) 1 = .ok (.bipush 6, 2) := by decide +kernel
theorem x96_1 {sc : aSc} {d : Nat} {r : aRes} {L : List Value} {st : List Value} {σ : aS} : Rn sc d 96 1 L st σ r ↔ Rn sc d 96 3 L (.int 6 :: st) σ r := r_bipush d96_1 (by decide)
theorem d96_3 : decode (mC 96) 3 = .ok (.invokestatic 58, 3) := by decide +kernel
theorem x96_3 {sc : aSc} {d : Nat} {r : aRes} {L : List Value} {σ : aS} {y0 : Int32} {y1 : Int32}  : Rn sc d 96 3 L [.int y0, .int y1] σ r ↔ ∃ (σ3 : aS) (v : Option Value), Cl sc d 102 [.int y1, .int y0] σ (σ3, v) ∧ Rn sc d 96 6 L (v.toList ++ []) σ3 r := r_callS (vs := [.int y0, .int y1]) d96_3 rfl (j := 102) rfl ⟨rfl, by decide, rfl, rfl⟩ (Nat.le_of_ble_eq_true rfl)
theorem d96_6 : decode (mC 96) 6 = .ok (.ifCond .ne 6, 3) := by decide +kernel
theorem x96_6 {sc : aSc} {d : Nat} {r : aRes} {L : List Value} {st : List Value} {σ : aS} {x : Int32} : Rn sc d 96 6 L (.int x :: st) σ r ↔ if x = 0 then Rn sc d 96 9 L st σ r else Rn sc d 96 12 L st σ r := r_if_ne d96_6 rfl
theorem d96_9 : decode (mC 96) 9 = .ok (.bipush (-2), 2) := by decide +kernel
theorem x96_9 {sc : aSc} {d : Nat} {r : aRes} {L : List Value} {st : List Value} {σ : aS} : Rn sc d 96 9 L st σ r ↔ Rn sc d 96 11 L (.int (-2) :: st) σ r := r_bipush d96_9 (by decide)
theorem d96_11 : decode (mC 96) 11 = .ok (.ireturn, 1) := by decide +kernel
theorem x96_11 {sc : aSc} {d : Nat} {r : aRes} {L : List Value} {σ : aS} {x : Int32} : Rn sc d 96 11 L [.int x] σ r ↔ r = (σ, some (.int x)) := r_iret d96_11 rfl rfl
theorem d96_12 : decode (mC 96) 12 = .ok (.aload_n 0, 1) := by decide +kernel
theorem x96_12 {sc : aSc} {d : Nat} {r : aRes} {x0 : Nat} {a1 : Value} {a2 : Value} {st : List Value} {σ : aS} : Rn sc d 96 12 [.ref x0, a1, a2] st σ r ↔ Rn sc d 96 13 [.ref x0, a1, a2] (.ref x0 :: st) σ r := r_aload_n d96_12 rfl
theorem d96_13 : decode (mC 96) 13 = .ok (.getfield 50, 3) := by decide +kernel
theorem x96_13 {sc : aSc} {d : Nat} {r : aRes} {L : List Value} {st : List Value} {f : Nat → Nat → Int32} {g : Nat → Nat → Int64} {h1 h2 : Nat} {o : Nat} (hK : KK[o]? = some (.inl 6)) (hR : (RR h1 h2 o 0).isSome = true) : Rn sc d 96 13 L (.ref o :: st) (cS f g h1 h2) r ↔ Rn sc d 96 16 L (.ref (rf h1 h2 o 0) :: st) (cS f g h1 h2) r := r_getR2 d96_13 (ci := 6) (k := 0) rfl (by decide) (fun _ => rfl) hK hR
theorem d96_16 : decode (mC 96) 16 = .ok (.iload_n 1, 1) := by decide +kernel
theorem x96_16 {sc : aSc} {d : Nat} {r : aRes} {a0 : Value} {x1 : Int32} {a2 : Value} {st : List Value} {σ : aS} : Rn sc d 96 16 [a0, .int x1, a2] st σ r ↔ Rn sc d 96 17 [a0, .int x1, a2] (.int x1 :: st) σ r := r_iload_n d96_16 rfl
theorem d96_17 : decode (mC 96) 17 = .ok (.invokevirtual 70, 3) := by decide +kernel
theorem x96_17 {sc : aSc} {d : Nat} {r : aRes} {L : List Value} {f : Nat → Nat → Int32} {g : Nat → Nat → Int64} {h1 h2 : Nat} {y0 : Int32}  {o : Nat} (hK : KK[o]? = some (.inl 1)) : Rn sc d 96 17 L [.int y0, .ref o] (cS f g h1 h2) r ↔ ∃ (σ3 : aS) (v : Option Value), Cl sc d 7 [.ref o, .int y0] (cS f g h1 h2) (σ3, v) ∧ Rn sc d 96 20 L (v.toList ++ []) σ3 r := r_callV (vs := [.int y0]) d96_17 (j := 7) rfl ⟨rfl, by decide, rfl, rfl⟩ (Nat.le_of_ble_eq_true rfl) hK
theorem d96_20 : decode (mC 96) 20 = .ok (.ifCond .ne 6, 3) := by decide +kernel
theorem x96_20 {sc : aSc} {d : Nat} {r : aRes} {L : List Value} {st : List Value} {σ : aS} {x : Int32} : Rn sc d 96 20 L (.int x :: st) σ r ↔ if x = 0 then Rn sc d 96 23 L st σ r else Rn sc d 96 26 L st σ r := r_if_ne d96_20 rfl
theorem d96_23 : decode (mC 96) 23 = .ok (.bipush (-11), 2) := by decide +kernel
theorem x96_23 {sc : aSc} {d : Nat} {r : aRes} {L : List Value} {st : List Value} {σ : aS} : Rn sc d 96 23 L st σ r ↔ Rn sc d 96 25 L (.int (-11) :: st) σ r := r_bipush d96_23 (by decide)
theorem d96_25 : decode (mC 96) 25 = .ok (.ireturn, 1) := by decide +kernel
theorem x96_25 {sc : aSc} {d : Nat} {r : aRes} {L : List Value} {σ : aS} {x : Int32} : Rn sc d 96 25 L [.int x] σ r ↔ r = (σ, some (.int x)) := r_iret d96_25 rfl rfl
theorem d96_26 : decode (mC 96) 26 = .ok (.aload_n 0, 1) := by decide +kernel
theorem x96_26 {sc : aSc} {d : Nat} {r : aRes} {x0 : Nat} {a1 : Value} {a2 : Value} {st : List Value} {σ : aS} : Rn sc d 96 26 [.ref x0, a1, a2] st σ r ↔ Rn sc d 96 27 [.ref x0, a1, a2] (.ref x0 :: st) σ r := r_aload_n d96_26 rfl
theorem d96_27 : decode (mC 96) 27 = .ok (.getfield 50, 3) := by decide +kernel
theorem x96_27 {sc : aSc} {d : Nat} {r : aRes} {L : List Value} {st : List Value} {f : Nat → Nat → Int32} {g : Nat → Nat → Int64} {h1 h2 : Nat} {o : Nat} (hK : KK[o]? = some (.inl 6)) (hR : (RR h1 h2 o 0).isSome = true) : Rn sc d 96 27 L (.ref o :: st) (cS f g h1 h2) r ↔ Rn sc d 96 30 L (.ref (rf h1 h2 o 0) :: st) (cS f g h1 h2) r := r_getR2 d96_27 (ci := 6) (k := 0) rfl (by decide) (fun _ => rfl) hK hR
theorem d96_30 : decode (mC 96) 30 = .ok (.getfield 74, 3) := by decide +kernel
theorem x96_30 {sc : aSc} {d : Nat} {r : aRes} {L : List Value} {st : List Value} {f : Nat → Nat → Int32} {g : Nat → Nat → Int64} {h1 h2 : Nat} {o : Nat} (hK : KK[o]? = some (.inl 1)) (hR : (RR h1 h2 o 6).isSome = true) : Rn sc d 96 30 L (.ref o :: st) (cS f g h1 h2) r ↔ Rn sc d 96 33 L (.ref (rf h1 h2 o 6) :: st) (cS f g h1 h2) r := r_getR2 d96_30 (ci := 1) (k := 6) rfl (by decide) (fun _ => rfl) hK hR
theorem d96_33 : decode (mC 96) 33 = .ok (.iload_n 1, 1) := by decide +kernel
theorem x96_33 {sc : aSc} {d : Nat} {r : aRes} {a0 : Value} {x1 : Int32} {a2 : Value} {st : List Value} {σ : aS} : Rn sc d 96 33 [a0, .int x1, a2] st σ r ↔ Rn sc d 96 34 [a0, .int x1, a2] (.int x1 :: st) σ r := r_iload_n d96_33 rfl
theorem d96_34 : decode (mC 96) 34 = .ok (.iaload, 1) := by decide +kernel
theorem x96_34 {sc : aSc} {d : Nat} {r : aRes} {L : List Value} {st : List Value} {f : Nat → Nat → Int32} {g : Nat → Nat → Int64} {h1 h2 : Nat} {a : Nat} {i : Int32} (h17 : 17 ≤ a) (hA : isT9 .int a) (hi : inb i (aln a) = true) : Rn sc d 96 34 L (.int i :: .ref a :: st) (cS f g h1 h2) r ↔ Rn sc d 96 35 L (.int (f a i.toNatClampNeg) :: st) (cS f g h1 h2) r := r_iald d96_34 h17 hA hi
theorem d96_35 : decode (mC 96) 35 = .ok (.iload_n 2, 1) := by decide +kernel
theorem x96_35 {sc : aSc} {d : Nat} {r : aRes} {a0 : Value} {a1 : Value} {x2 : Int32} {st : List Value} {σ : aS} : Rn sc d 96 35 [a0, a1, .int x2] st σ r ↔ Rn sc d 96 36 [a0, a1, .int x2] (.int x2 :: st) σ r := r_iload_n d96_35 rfl
theorem d96_36 : decode (mC 96) 36 = .ok (.invokestatic 269, 3) := by decide +kernel
theorem x96_36 {sc : aSc} {d : Nat} {r : aRes} {L : List Value} {σ : aS} {y0 : Int32} {y1 : Int32}  : Rn sc d 96 36 L [.int y0, .int y1] σ r ↔ ∃ (σ3 : aS) (v : Option Value), Cl sc d 105 [.int y1, .int y0] σ (σ3, v) ∧ Rn sc d 96 39 L (v.toList ++ []) σ3 r := r_callS (vs := [.int y0, .int y1]) d96_36 rfl (j := 105) rfl ⟨rfl, by decide, rfl, rfl⟩ (Nat.le_of_ble_eq_true rfl)
theorem d96_39 : decode (mC 96) 39 = .ok (.ifCond .eq 15, 3) := by decide +kernel
theorem x96_39 {sc : aSc} {d : Nat} {r : aRes} {L : List Value} {st : List Value} {σ : aS} {x : Int32} : Rn sc d 96 39 L (.int x :: st) σ r ↔ if x = 0 then Rn sc d 96 54 L st σ r else Rn sc d 96 42 L st σ r := r_if_eq d96_39 rfl
theorem d96_42 : decode (mC 96) 42 = .ok (.aload_n 0, 1) := by decide +kernel
theorem x96_42 {sc : aSc} {d : Nat} {r : aRes} {x0 : Nat} {a1 : Value} {a2 : Value} {st : List Value} {σ : aS} : Rn sc d 96 42 [.ref x0, a1, a2] st σ r ↔ Rn sc d 96 43 [.ref x0, a1, a2] (.ref x0 :: st) σ r := r_aload_n d96_42 rfl
theorem d96_43 : decode (mC 96) 43 = .ok (.getfield 50, 3) := by decide +kernel
theorem x96_43 {sc : aSc} {d : Nat} {r : aRes} {L : List Value} {st : List Value} {f : Nat → Nat → Int32} {g : Nat → Nat → Int64} {h1 h2 : Nat} {o : Nat} (hK : KK[o]? = some (.inl 6)) (hR : (RR h1 h2 o 0).isSome = true) : Rn sc d 96 43 L (.ref o :: st) (cS f g h1 h2) r ↔ Rn sc d 96 46 L (.ref (rf h1 h2 o 0) :: st) (cS f g h1 h2) r := r_getR2 d96_43 (ci := 6) (k := 0) rfl (by decide) (fun _ => rfl) hK hR
theorem d96_46 : decode (mC 96) 46 = .ok (.getfield 74, 3) := by decide +kernel
theorem x96_46 {sc : aSc} {d : Nat} {r : aRes} {L : List Value} {st : List Value} {f : Nat → Nat → Int32} {g : Nat → Nat → Int64} {h1 h2 : Nat} {o : Nat} (hK : KK[o]? = some (.inl 1)) (hR : (RR h1 h2 o 6).isSome = true) : Rn sc d 96 46 L (.ref o :: st) (cS f g h1 h2) r ↔ Rn sc d 96 49 L (.ref (rf h1 h2 o 6) :: st) (cS f g h1 h2) r := r_getR2 d96_46 (ci := 1) (k := 6) rfl (by decide) (fun _ => rfl) hK hR
theorem d96_49 : decode (mC 96) 49 = .ok (.iload_n 1, 1) := by decide +kernel
theorem x96_49 {sc : aSc} {d : Nat} {r : aRes} {a0 : Value} {x1 : Int32} {a2 : Value} {st : List Value} {σ : aS} : Rn sc d 96 49 [a0, .int x1, a2] st σ r ↔ Rn sc d 96 50 [a0, .int x1, a2] (.int x1 :: st) σ r := r_iload_n d96_49 rfl
theorem d96_50 : decode (mC 96) 50 = .ok (.iaload, 1) := by decide +kernel
theorem x96_50 {sc : aSc} {d : Nat} {r : aRes} {L : List Value} {st : List Value} {f : Nat → Nat → Int32} {g : Nat → Nat → Int64} {h1 h2 : Nat} {a : Nat} {i : Int32} (h17 : 17 ≤ a) (hA : isT9 .int a) (hi : inb i (aln a) = true) : Rn sc d 96 50 L (.int i :: .ref a :: st) (cS f g h1 h2) r ↔ Rn sc d 96 51 L (.int (f a i.toNatClampNeg) :: st) (cS f g h1 h2) r := r_iald d96_50 h17 hA hi
theorem d96_51 : decode (mC 96) 51 = .ok (.goto 5, 3) := by decide +kernel
theorem x96_51 {sc : aSc} {d : Nat} {r : aRes} {L : List Value} {st : List Value} {σ : aS} : Rn sc d 96 51 L st σ r ↔ Rn sc d 96 56 L st σ r := r_goto d96_51 rfl
theorem d96_54 : decode (mC 96) 54 = .ok (.bipush (-12), 2) := by decide +kernel
theorem x96_54 {sc : aSc} {d : Nat} {r : aRes} {L : List Value} {st : List Value} {σ : aS} : Rn sc d 96 54 L st σ r ↔ Rn sc d 96 56 L (.int (-12) :: st) σ r := r_bipush d96_54 (by decide)
theorem d96_56 : decode (mC 96) 56 = .ok (.ireturn, 1) := by decide +kernel
theorem x96_56 {sc : aSc} {d : Nat} {r : aRes} {L : List Value} {σ : aS} {x : Int32} : Rn sc d 96 56 L [.int x] σ r ↔ r = (σ, some (.int x)) := r_iret d96_56 rfl rfl
theorem d97_0 : decode (mC 97) 0 = .ok (.iload_n 1, 1) := by decide +kernel
theorem x97_0 {sc : aSc} {d : Nat} {r : aRes} {a0 : Value} {x1 : Int32} {st : List Value} {σ : aS} : Rn sc d 97 0 [a0, .int x1] st σ r ↔ Rn sc d 97 1 [a0, .int x1] (.int x1 :: st) σ r := r_iload_n d97_0 rfl
theorem d97_1 : decode (mC 97) 1 = .ok (.tableswitch 84 0 5 #[39, 47, 52, 60, 68, 76], 39) := by decide +kernel
theorem x97_1 {sc : aSc} {d : Nat} {r : aRes} {L : List Value} {st : List Value} {σ : aS} {x : Int32} : Rn sc d 97 1 L (.int x :: st) σ r ↔ (if x = 0 then Rn sc d 97 40 L st σ r else (if x = 1 then Rn sc d 97 48 L st σ r else (if x = 2 then Rn sc d 97 53 L st σ r else (if x = 3 then Rn sc d 97 61 L st σ r else (if x = 4 then Rn sc d 97 69 L st σ r else (if x = 5 then Rn sc d 97 77 L st σ r else Rn sc d 97 85 L st σ r)))))) := by
  by_cases c0 : x = 0
  · subst c0; simp only [if_pos]; exact r_tsw d97_1 (t := 40) rfl
  rw [if_neg c0]
  by_cases c1 : x = 1
  · subst c1; simp only [if_pos]; exact r_tsw d97_1 (t := 48) rfl
  rw [if_neg c1]
  by_cases c2 : x = 2
  · subst c2; simp only [if_pos]; exact r_tsw d97_1 (t := 53) rfl
  rw [if_neg c2]
  by_cases c3 : x = 3
  · subst c3; simp only [if_pos]; exact r_tsw d97_1 (t := 61) rfl
  rw [if_neg c3]
  by_cases c4 : x = 4
  · subst c4; simp only [if_pos]; exact r_tsw d97_1 (t := 69) rfl
  rw [if_neg c4]
  by_cases c5 : x = 5
  · subst c5; simp only [if_pos]; exact r_tsw d97_1 (t := 77) rfl
  rw [if_neg c5]
  refine r_tswd d97_1 ?_ rfl
  have e0 : x.toInt ≠ 0 := fun z => c0 (Int32.toInt_inj.mp z)
  have e1 : x.toInt ≠ 1 := fun z => c1 (Int32.toInt_inj.mp z)
  have e2 : x.toInt ≠ 2 := fun z => c2 (Int32.toInt_inj.mp z)
  have e3 : x.toInt ≠ 3 := fun z => c3 (Int32.toInt_inj.mp z)
  have e4 : x.toInt ≠ 4 := fun z => c4 (Int32.toInt_inj.mp z)
  have e5 : x.toInt ≠ 5 := fun z => c5 (Int32.toInt_inj.mp z)
  omega
theorem d97_40 : decode (mC 97) 40 = .ok (.aload_n 0, 1) := by decide +kernel
theorem x97_40 {sc : aSc} {d : Nat} {r : aRes} {x0 : Nat} {a1 : Value} {st : List Value} {σ : aS} : Rn sc d 97 40 [.ref x0, a1] st σ r ↔ Rn sc d 97 41 [.ref x0, a1] (.ref x0 :: st) σ r := r_aload_n d97_40 rfl
theorem d97_41 : decode (mC 97) 41 = .ok (.getfield 50, 3) := by decide +kernel
theorem x97_41 {sc : aSc} {d : Nat} {r : aRes} {L : List Value} {st : List Value} {f : Nat → Nat → Int32} {g : Nat → Nat → Int64} {h1 h2 : Nat} {o : Nat} (hK : KK[o]? = some (.inl 6)) (hR : (RR h1 h2 o 0).isSome = true) : Rn sc d 97 41 L (.ref o :: st) (cS f g h1 h2) r ↔ Rn sc d 97 44 L (.ref (rf h1 h2 o 0) :: st) (cS f g h1 h2) r := r_getR2 d97_41 (ci := 6) (k := 0) rfl (by decide) (fun _ => rfl) hK hR
theorem d97_44 : decode (mC 97) 44 = .ok (.getfield 62, 3) := by decide +kernel
theorem x97_44 {sc : aSc} {d : Nat} {r : aRes} {L : List Value} {st : List Value} {f : Nat → Nat → Int32} {g : Nat → Nat → Int64} {h1 h2 : Nat} {o : Nat} (h17 : 17 ≤ o) (hK : KK[o]? = some (.inl 1)) : Rn sc d 97 44 L (.ref o :: st) (cS f g h1 h2) r ↔ Rn sc d 97 47 L (.int (f o 0) :: st) (cS f g h1 h2) r := r_getI d97_44 (ci := 1) (k := 0) rfl (by decide) (fun _ => rfl) h17 hK
theorem d97_47 : decode (mC 97) 47 = .ok (.ireturn, 1) := by decide +kernel
theorem x97_47 {sc : aSc} {d : Nat} {r : aRes} {L : List Value} {σ : aS} {x : Int32} : Rn sc d 97 47 L [.int x] σ r ↔ r = (σ, some (.int x)) := r_iret d97_47 rfl rfl
theorem d97_48 : decode (mC 97) 48 = .ok (.aload_n 0, 1) := by decide +kernel
theorem x97_48 {sc : aSc} {d : Nat} {r : aRes} {x0 : Nat} {a1 : Value} {st : List Value} {σ : aS} : Rn sc d 97 48 [.ref x0, a1] st σ r ↔ Rn sc d 97 49 [.ref x0, a1] (.ref x0 :: st) σ r := r_aload_n d97_48 rfl
theorem d97_49 : decode (mC 97) 49 = .ok (.getfield 112, 3) := by decide +kernel
theorem x97_49 {sc : aSc} {d : Nat} {r : aRes} {L : List Value} {st : List Value} {f : Nat → Nat → Int32} {g : Nat → Nat → Int64} {h1 h2 : Nat} {o : Nat} (h17 : 17 ≤ o) (hK : KK[o]? = some (.inl 6)) : Rn sc d 97 49 L (.ref o :: st) (cS f g h1 h2) r ↔ Rn sc d 97 52 L (.int (f o 5) :: st) (cS f g h1 h2) r := r_getI d97_49 (ci := 6) (k := 5) rfl (by decide) (fun _ => rfl) h17 hK
theorem d97_52 : decode (mC 97) 52 = .ok (.ireturn, 1) := by decide +kernel
theorem x97_52 {sc : aSc} {d : Nat} {r : aRes} {L : List Value} {σ : aS} {x : Int32} : Rn sc d 97 52 L [.int x] σ r ↔ r = (σ, some (.int x)) := r_iret d97_52 rfl rfl
theorem d97_53 : decode (mC 97) 53 = .ok (.aload_n 0, 1) := by decide +kernel
theorem x97_53 {sc : aSc} {d : Nat} {r : aRes} {x0 : Nat} {a1 : Value} {st : List Value} {σ : aS} : Rn sc d 97 53 [.ref x0, a1] st σ r ↔ Rn sc d 97 54 [.ref x0, a1] (.ref x0 :: st) σ r := r_aload_n d97_53 rfl
theorem d97_54 : decode (mC 97) 54 = .ok (.getfield 50, 3) := by decide +kernel
theorem x97_54 {sc : aSc} {d : Nat} {r : aRes} {L : List Value} {st : List Value} {f : Nat → Nat → Int32} {g : Nat → Nat → Int64} {h1 h2 : Nat} {o : Nat} (hK : KK[o]? = some (.inl 6)) (hR : (RR h1 h2 o 0).isSome = true) : Rn sc d 97 54 L (.ref o :: st) (cS f g h1 h2) r ↔ Rn sc d 97 57 L (.ref (rf h1 h2 o 0) :: st) (cS f g h1 h2) r := r_getR2 d97_54 (ci := 6) (k := 0) rfl (by decide) (fun _ => rfl) hK hR
theorem d97_57 : decode (mC 97) 57 = .ok (.getfield 203, 3) := by decide +kernel
theorem x97_57 {sc : aSc} {d : Nat} {r : aRes} {L : List Value} {st : List Value} {f : Nat → Nat → Int32} {g : Nat → Nat → Int64} {h1 h2 : Nat} {o : Nat} (h17 : 17 ≤ o) (hK : KK[o]? = some (.inl 1)) : Rn sc d 97 57 L (.ref o :: st) (cS f g h1 h2) r ↔ Rn sc d 97 60 L (.int (f o 11) :: st) (cS f g h1 h2) r := r_getI d97_57 (ci := 1) (k := 11) rfl (by decide) (fun _ => rfl) h17 hK
theorem d97_60 : decode (mC 97) 60 = .ok (.ireturn, 1) := by decide +kernel
theorem x97_60 {sc : aSc} {d : Nat} {r : aRes} {L : List Value} {σ : aS} {x : Int32} : Rn sc d 97 60 L [.int x] σ r ↔ r = (σ, some (.int x)) := r_iret d97_60 rfl rfl
theorem d97_61 : decode (mC 97) 61 = .ok (.aload_n 0, 1) := by decide +kernel
theorem x97_61 {sc : aSc} {d : Nat} {r : aRes} {x0 : Nat} {a1 : Value} {st : List Value} {σ : aS} : Rn sc d 97 61 [.ref x0, a1] st σ r ↔ Rn sc d 97 62 [.ref x0, a1] (.ref x0 :: st) σ r := r_aload_n d97_61 rfl
theorem d97_62 : decode (mC 97) 62 = .ok (.getfield 50, 3) := by decide +kernel
theorem x97_62 {sc : aSc} {d : Nat} {r : aRes} {L : List Value} {st : List Value} {f : Nat → Nat → Int32} {g : Nat → Nat → Int64} {h1 h2 : Nat} {o : Nat} (hK : KK[o]? = some (.inl 6)) (hR : (RR h1 h2 o 0).isSome = true) : Rn sc d 97 62 L (.ref o :: st) (cS f g h1 h2) r ↔ Rn sc d 97 65 L (.ref (rf h1 h2 o 0) :: st) (cS f g h1 h2) r := r_getR2 d97_62 (ci := 6) (k := 0) rfl (by decide) (fun _ => rfl) hK hR
theorem d97_65 : decode (mC 97) 65 = .ok (.getfield 227, 3) := by decide +kernel
theorem x97_65 {sc : aSc} {d : Nat} {r : aRes} {L : List Value} {st : List Value} {f : Nat → Nat → Int32} {g : Nat → Nat → Int64} {h1 h2 : Nat} {o : Nat} (h17 : 17 ≤ o) (hK : KK[o]? = some (.inl 1)) : Rn sc d 97 65 L (.ref o :: st) (cS f g h1 h2) r ↔ Rn sc d 97 68 L (.int (f o 14) :: st) (cS f g h1 h2) r := r_getI d97_65 (ci := 1) (k := 14) rfl (by decide) (fun _ => rfl) h17 hK
theorem d97_68 : decode (mC 97) 68 = .ok (.ireturn, 1) := by decide +kernel
theorem x97_68 {sc : aSc} {d : Nat} {r : aRes} {L : List Value} {σ : aS} {x : Int32} : Rn sc d 97 68 L [.int x] σ r ↔ r = (σ, some (.int x)) := r_iret d97_68 rfl rfl
theorem d97_69 : decode (mC 97) 69 = .ok (.aload_n 0, 1) := by decide +kernel
theorem x97_69 {sc : aSc} {d : Nat} {r : aRes} {x0 : Nat} {a1 : Value} {st : List Value} {σ : aS} : Rn sc d 97 69 [.ref x0, a1] st σ r ↔ Rn sc d 97 70 [.ref x0, a1] (.ref x0 :: st) σ r := r_aload_n d97_69 rfl
theorem d97_70 : decode (mC 97) 70 = .ok (.getfield 12, 3) := by decide +kernel
theorem x97_70 {sc : aSc} {d : Nat} {r : aRes} {L : List Value} {st : List Value} {f : Nat → Nat → Int32} {g : Nat → Nat → Int64} {h1 h2 : Nat} {o : Nat} (hK : KK[o]? = some (.inl 6)) (hR : (RR h1 h2 o 3).isSome = true) : Rn sc d 97 70 L (.ref o :: st) (cS f g h1 h2) r ↔ Rn sc d 97 73 L (.ref (rf h1 h2 o 3) :: st) (cS f g h1 h2) r := r_getR2 d97_70 (ci := 6) (k := 3) rfl (by decide) (fun _ => rfl) hK hR
theorem d97_73 : decode (mC 97) 73 = .ok (.getfield 109, 3) := by decide +kernel
theorem x97_73 {sc : aSc} {d : Nat} {r : aRes} {L : List Value} {st : List Value} {f : Nat → Nat → Int32} {g : Nat → Nat → Int64} {h1 h2 : Nat} {o : Nat} (h17 : 17 ≤ o) (hK : KK[o]? = some (.inl 5)) : Rn sc d 97 73 L (.ref o :: st) (cS f g h1 h2) r ↔ Rn sc d 97 76 L (.int (f o 1) :: st) (cS f g h1 h2) r := r_getI d97_73 (ci := 5) (k := 1) rfl (by decide) (fun _ => rfl) h17 hK
theorem d97_76 : decode (mC 97) 76 = .ok (.ireturn, 1) := by decide +kernel
theorem x97_76 {sc : aSc} {d : Nat} {r : aRes} {L : List Value} {σ : aS} {x : Int32} : Rn sc d 97 76 L [.int x] σ r ↔ r = (σ, some (.int x)) := r_iret d97_76 rfl rfl
theorem d97_77 : decode (mC 97) 77 = .ok (.aload_n 0, 1) := by decide +kernel
theorem x97_77 {sc : aSc} {d : Nat} {r : aRes} {x0 : Nat} {a1 : Value} {st : List Value} {σ : aS} : Rn sc d 97 77 [.ref x0, a1] st σ r ↔ Rn sc d 97 78 [.ref x0, a1] (.ref x0 :: st) σ r := r_aload_n d97_77 rfl
theorem d97_78 : decode (mC 97) 78 = .ok (.getfield 34, 3) := by decide +kernel
theorem x97_78 {sc : aSc} {d : Nat} {r : aRes} {L : List Value} {st : List Value} {f : Nat → Nat → Int32} {g : Nat → Nat → Int64} {h1 h2 : Nat} {o : Nat} (hK : KK[o]? = some (.inl 6)) (hR : (RR h1 h2 o 7).isSome = true) : Rn sc d 97 78 L (.ref o :: st) (cS f g h1 h2) r ↔ Rn sc d 97 81 L (.ref (rf h1 h2 o 7) :: st) (cS f g h1 h2) r := r_getR2 d97_78 (ci := 6) (k := 7) rfl (by decide) (fun _ => rfl) hK hR
theorem d97_81 : decode (mC 97) 81 = .ok (.getfield 259, 3) := by decide +kernel
theorem x97_81 {sc : aSc} {d : Nat} {r : aRes} {L : List Value} {st : List Value} {f : Nat → Nat → Int32} {g : Nat → Nat → Int64} {h1 h2 : Nat} {o : Nat} (h17 : 17 ≤ o) (hK : KK[o]? = some (.inl 0)) : Rn sc d 97 81 L (.ref o :: st) (cS f g h1 h2) r ↔ Rn sc d 97 84 L (.int (f o 1) :: st) (cS f g h1 h2) r := r_getI d97_81 (ci := 0) (k := 1) rfl (by decide) (fun _ => rfl) h17 hK
theorem d97_84 : decode (mC 97) 84 = .ok (.ireturn, 1) := by decide +kernel
theorem x97_84 {sc : aSc} {d : Nat} {r : aRes} {L : List Value} {σ : aS} {x : Int32} : Rn sc d 97 84 L [.int x] σ r ↔ r = (σ, some (.int x)) := r_iret d97_84 rfl rfl
theorem d97_85 : decode (mC 97) 85 = .ok (.bipush (-2), 2) := by decide +kernel
theorem x97_85 {sc : aSc} {d : Nat} {r : aRes} {L : List Value} {st : List Value} {σ : aS} : Rn sc d 97 85 L st σ r ↔ Rn sc d 97 87 L (.int (-2) :: st) σ r := r_bipush d97_85 (by decide)
theorem d97_87 : decode (mC 97) 87 = .ok (.ireturn, 1) := by decide +kernel
theorem x97_87 {sc : aSc} {d : Nat} {r : aRes} {L : List Value} {σ : aS} {x : Int32} : Rn sc d 97 87 L [.int x] σ r ↔ r = (σ, some (.int x)) := r_iret d97_87 rfl rfl
theorem d98_0 : decode (mC 98) 0 = .ok (.iload_n 1, 1) := by decide +kernel
theorem x98_0 {sc : aSc} {d : Nat} {r : aRes} {a0 : Value} {x1 : Int32} {a2 : Value} {a3 : Value} {st : List Value} {σ : aS} : Rn sc d 98 0 [a0, .int x1, a2, a3] st σ r ↔ Rn sc d 98 1 [a0, .int x1, a2, a3] (.int x1 :: st) σ r := r_iload_n d98_0 rfl
theorem d98_1 : decode (mC 98) 1 = .ok (.invokestatic 236, 3) := by decide +kernel
theorem x98_1 {sc : aSc} {d : Nat} {r : aRes} {L : List Value} {σ : aS} {y0 : Int32}  : Rn sc d 98 1 L [.int y0] σ r ↔ ∃ (σ3 : aS) (v : Option Value), Cl sc d 103 [.int y0] σ (σ3, v) ∧ Rn sc d 98 4 L (v.toList ++ []) σ3 r := r_callS (vs := [.int y0]) d98_1 rfl (j := 103) rfl ⟨rfl, by decide, rfl, rfl⟩ (Nat.le_of_ble_eq_true rfl)
theorem d98_4 : decode (mC 98) 4 = .ok (.ifCond .ne 5, 3) := by decide +kernel
theorem x98_4 {sc : aSc} {d : Nat} {r : aRes} {L : List Value} {st : List Value} {σ : aS} {x : Int32} : Rn sc d 98 4 L (.int x :: st) σ r ↔ if x = 0 then Rn sc d 98 7 L st σ r else Rn sc d 98 9 L st σ r := r_if_ne d98_4 rfl
theorem d98_7 : decode (mC 98) 7 = .ok (.iconst (-1), 1) := by decide +kernel
theorem x98_7 {sc : aSc} {d : Nat} {r : aRes} {L : List Value} {st : List Value} {σ : aS} : Rn sc d 98 7 L st σ r ↔ Rn sc d 98 8 L (.int (-1) :: st) σ r := r_iconst d98_7 (by decide)
theorem d98_8 : decode (mC 98) 8 = .ok (.ireturn, 1) := by decide +kernel
theorem x98_8 {sc : aSc} {d : Nat} {r : aRes} {L : List Value} {σ : aS} {x : Int32} : Rn sc d 98 8 L [.int x] σ r ↔ r = (σ, some (.int x)) := r_iret d98_8 rfl rfl
theorem d98_9 : decode (mC 98) 9 = .ok (.iload_n 2, 1) := by decide +kernel
theorem x98_9 {sc : aSc} {d : Nat} {r : aRes} {a0 : Value} {a1 : Value} {x2 : Int32} {a3 : Value} {st : List Value} {σ : aS} : Rn sc d 98 9 [a0, a1, .int x2, a3] st σ r ↔ Rn sc d 98 10 [a0, a1, .int x2, a3] (.int x2 :: st) σ r := r_iload_n d98_9 rfl
theorem d98_10 : decode (mC 98) 10 = .ok (.iconst (-1), 1) := by decide +kernel
theorem x98_10 {sc : aSc} {d : Nat} {r : aRes} {L : List Value} {st : List Value} {σ : aS} : Rn sc d 98 10 L st σ r ↔ Rn sc d 98 11 L (.int (-1) :: st) σ r := r_iconst d98_10 (by decide)
theorem d98_11 : decode (mC 98) 11 = .ok (.if_icmp .ne 16, 3) := by decide +kernel
theorem x98_11 {sc : aSc} {d : Nat} {r : aRes} {L : List Value} {st : List Value} {σ : aS} {x y : Int32} : Rn sc d 98 11 L (.int y :: .int x :: st) σ r ↔ if x = y then Rn sc d 98 14 L st σ r else Rn sc d 98 27 L st σ r := r_icmp_ne d98_11 rfl
theorem d98_14 : decode (mC 98) 14 = .ok (.aload_n 0, 1) := by decide +kernel
theorem x98_14 {sc : aSc} {d : Nat} {r : aRes} {x0 : Nat} {a1 : Value} {a2 : Value} {a3 : Value} {st : List Value} {σ : aS} : Rn sc d 98 14 [.ref x0, a1, a2, a3] st σ r ↔ Rn sc d 98 15 [.ref x0, a1, a2, a3] (.ref x0 :: st) σ r := r_aload_n d98_14 rfl
theorem d98_15 : decode (mC 98) 15 = .ok (.getfield 40, 3) := by decide +kernel
theorem x98_15 {sc : aSc} {d : Nat} {r : aRes} {L : List Value} {st : List Value} {f : Nat → Nat → Int32} {g : Nat → Nat → Int64} {h1 h2 : Nat} {o : Nat} (hK : KK[o]? = some (.inl 6)) (hR : (RR h1 h2 o 8).isSome = true) : Rn sc d 98 15 L (.ref o :: st) (cS f g h1 h2) r ↔ Rn sc d 98 18 L (.ref (rf h1 h2 o 8) :: st) (cS f g h1 h2) r := r_getR2 d98_15 (ci := 6) (k := 8) rfl (by decide) (fun _ => rfl) hK hR
theorem d98_18 : decode (mC 98) 18 = .ok (.iload_n 1, 1) := by decide +kernel
theorem x98_18 {sc : aSc} {d : Nat} {r : aRes} {a0 : Value} {x1 : Int32} {a2 : Value} {a3 : Value} {st : List Value} {σ : aS} : Rn sc d 98 18 [a0, .int x1, a2, a3] st σ r ↔ Rn sc d 98 19 [a0, .int x1, a2, a3] (.int x1 :: st) σ r := r_iload_n d98_18 rfl
theorem d98_19 : decode (mC 98) 19 = .ok (.aaload, 1) := by decide +kernel
theorem x98_19 {sc : aSc} {d : Nat} {r : aRes} {L : List Value} {st : List Value} {f : Nat → Nat → Int32} {g : Nat → Nat → Int64} {h1 h2 : Nat} {a : Nat} {i : Int32} (h17 : 17 ≤ a) (hA : isG a) (hi : inb i (aln a) = true) (hR : (RR h1 h2 a i.toNatClampNeg).isSome = true) : Rn sc d 98 19 L (.int i :: .ref a :: st) (cS f g h1 h2) r ↔ Rn sc d 98 20 L (.ref (rf h1 h2 a i.toNatClampNeg) :: st) (cS f g h1 h2) r := r_aald2 d98_19 h17 hA hi hR
theorem d98_20 : decode (mC 98) 20 = .ok (.iload_n 2, 1) := by decide +kernel
theorem x98_20 {sc : aSc} {d : Nat} {r : aRes} {a0 : Value} {a1 : Value} {x2 : Int32} {a3 : Value} {st : List Value} {σ : aS} : Rn sc d 98 20 [a0, a1, .int x2, a3] st σ r ↔ Rn sc d 98 21 [a0, a1, .int x2, a3] (.int x2 :: st) σ r := r_iload_n d98_20 rfl
theorem d98_21 : decode (mC 98) 21 = .ok (.iconst 0, 1) := by decide +kernel
theorem x98_21 {sc : aSc} {d : Nat} {r : aRes} {L : List Value} {st : List Value} {σ : aS} : Rn sc d 98 21 L st σ r ↔ Rn sc d 98 22 L (.int 0 :: st) σ r := r_iconst d98_21 (by decide)
theorem d98_22 : decode (mC 98) 22 = .ok (.invokevirtual 272, 3) := by decide +kernel
theorem x98_22 {sc : aSc} {d : Nat} {r : aRes} {L : List Value} {f : Nat → Nat → Int32} {g : Nat → Nat → Int64} {h1 h2 : Nat} {y0 : Int32} {y1 : Int32}  {o : Nat} (hK : KK[o]? = some (.inl 4)) : Rn sc d 98 22 L [.int y0, .int y1, .ref o] (cS f g h1 h2) r ↔ ∃ (σ3 : aS) (v : Option Value), Cl sc d 52 [.ref o, .int y1, .int y0] (cS f g h1 h2) (σ3, v) ∧ Rn sc d 98 25 L (v.toList ++ []) σ3 r := r_callV (vs := [.int y0, .int y1]) d98_22 (j := 52) rfl ⟨rfl, by decide, rfl, rfl⟩ (Nat.le_of_ble_eq_true rfl) hK
theorem d98_25 : decode (mC 98) 25 = .ok (.iconst 1, 1) := by decide +kernel
theorem x98_25 {sc : aSc} {d : Nat} {r : aRes} {L : List Value} {st : List Value} {σ : aS} : Rn sc d 98 25 L st σ r ↔ Rn sc d 98 26 L (.int 1 :: st) σ r := r_iconst d98_25 (by decide)
theorem d98_26 : decode (mC 98) 26 = .ok (.ireturn, 1) := by decide +kernel
theorem x98_26 {sc : aSc} {d : Nat} {r : aRes} {L : List Value} {σ : aS} {x : Int32} : Rn sc d 98 26 L [.int x] σ r ↔ r = (σ, some (.int x)) := r_iret d98_26 rfl rfl
theorem d98_27 : decode (mC 98) 27 = .ok (.iload_n 2, 1) := by decide +kernel
theorem x98_27 {sc : aSc} {d : Nat} {r : aRes} {a0 : Value} {a1 : Value} {x2 : Int32} {a3 : Value} {st : List Value} {σ : aS} : Rn sc d 98 27 [a0, a1, .int x2, a3] st σ r ↔ Rn sc d 98 28 [a0, a1, .int x2, a3] (.int x2 :: st) σ r := r_iload_n d98_27 rfl
theorem d98_28 : decode (mC 98) 28 = .ok (.iconst 4, 1) := by decide +kernel
theorem x98_28 {sc : aSc} {d : Nat} {r : aRes} {L : List Value} {st : List Value} {σ : aS} : Rn sc d 98 28 L st σ r ↔ Rn sc d 98 29 L (.int 4 :: st) σ r := r_iconst d98_28 (by decide)
theorem d98_29 : decode (mC 98) 29 = .ok (.invokestatic 58, 3) := by decide +kernel
theorem x98_29 {sc : aSc} {d : Nat} {r : aRes} {L : List Value} {σ : aS} {y0 : Int32} {y1 : Int32}  : Rn sc d 98 29 L [.int y0, .int y1] σ r ↔ ∃ (σ3 : aS) (v : Option Value), Cl sc d 102 [.int y1, .int y0] σ (σ3, v) ∧ Rn sc d 98 32 L (v.toList ++ []) σ3 r := r_callS (vs := [.int y0, .int y1]) d98_29 rfl (j := 102) rfl ⟨rfl, by decide, rfl, rfl⟩ (Nat.le_of_ble_eq_true rfl)
theorem d98_32 : decode (mC 98) 32 = .ok (.ifCond .eq 9, 3) := by decide +kernel
theorem x98_32 {sc : aSc} {d : Nat} {r : aRes} {L : List Value} {st : List Value} {σ : aS} {x : Int32} : Rn sc d 98 32 L (.int x :: st) σ r ↔ if x = 0 then Rn sc d 98 41 L st σ r else Rn sc d 98 35 L st σ r := r_if_eq d98_32 rfl
theorem d98_35 : decode (mC 98) 35 = .ok (.iload_n 3, 1) := by decide +kernel
theorem x98_35 {sc : aSc} {d : Nat} {r : aRes} {a0 : Value} {a1 : Value} {a2 : Value} {x3 : Int32} {st : List Value} {σ : aS} : Rn sc d 98 35 [a0, a1, a2, .int x3] st σ r ↔ Rn sc d 98 36 [a0, a1, a2, .int x3] (.int x3 :: st) σ r := r_iload_n d98_35 rfl
theorem d98_36 : decode (mC 98) 36 = .ok (.bipush 60, 2) := by decide +kernel
theorem x98_36 {sc : aSc} {d : Nat} {r : aRes} {L : List Value} {st : List Value} {σ : aS} : Rn sc d 98 36 L st σ r ↔ Rn sc d 98 38 L (.int 60 :: st) σ r := r_bipush d98_36 (by decide)
theorem d98_38 : decode (mC 98) 38 = .ok (.if_icmp .le 6, 3) := by decide +kernel
theorem x98_38 {sc : aSc} {d : Nat} {r : aRes} {L : List Value} {st : List Value} {σ : aS} {x y : Int32} : Rn sc d 98 38 L (.int y :: .int x :: st) σ r ↔ if y < x then Rn sc d 98 41 L st σ r else Rn sc d 98 44 L st σ r := r_icmp_le d98_38 rfl
theorem d98_41 : decode (mC 98) 41 = .ok (.bipush (-2), 2) := by decide +kernel
theorem x98_41 {sc : aSc} {d : Nat} {r : aRes} {L : List Value} {st : List Value} {σ : aS} : Rn sc d 98 41 L st σ r ↔ Rn sc d 98 43 L (.int (-2) :: st) σ r := r_bipush d98_41 (by decide)
theorem d98_43 : decode (mC 98) 43 = .ok (.ireturn, 1) := by decide +kernel
theorem x98_43 {sc : aSc} {d : Nat} {r : aRes} {L : List Value} {σ : aS} {x : Int32} : Rn sc d 98 43 L [.int x] σ r ↔ r = (σ, some (.int x)) := r_iret d98_43 rfl rfl
theorem d98_44 : decode (mC 98) 44 = .ok (.iload_n 3, 1) := by decide +kernel
theorem x98_44 {sc : aSc} {d : Nat} {r : aRes} {a0 : Value} {a1 : Value} {a2 : Value} {x3 : Int32} {st : List Value} {σ : aS} : Rn sc d 98 44 [a0, a1, a2, .int x3] st σ r ↔ Rn sc d 98 45 [a0, a1, a2, .int x3] (.int x3 :: st) σ r := r_iload_n d98_44 rfl
theorem d98_45 : decode (mC 98) 45 = .ok (.ifCond .ge 6, 3) := by decide +kernel
theorem x98_45 {sc : aSc} {d : Nat} {r : aRes} {L : List Value} {st : List Value} {σ : aS} {x : Int32} : Rn sc d 98 45 L (.int x :: st) σ r ↔ if x < 0 then Rn sc d 98 48 L st σ r else Rn sc d 98 51 L st σ r := r_if_ge d98_45 rfl
theorem d98_48 : decode (mC 98) 48 = .ok (.bipush (-14), 2) := by decide +kernel
theorem x98_48 {sc : aSc} {d : Nat} {r : aRes} {L : List Value} {st : List Value} {σ : aS} : Rn sc d 98 48 L st σ r ↔ Rn sc d 98 50 L (.int (-14) :: st) σ r := r_bipush d98_48 (by decide)
theorem d98_50 : decode (mC 98) 50 = .ok (.ireturn, 1) := by decide +kernel
theorem x98_50 {sc : aSc} {d : Nat} {r : aRes} {L : List Value} {σ : aS} {x : Int32} : Rn sc d 98 50 L [.int x] σ r ↔ r = (σ, some (.int x)) := r_iret d98_50 rfl rfl
theorem d98_51 : decode (mC 98) 51 = .ok (.aload_n 0, 1) := by decide +kernel
theorem x98_51 {sc : aSc} {d : Nat} {r : aRes} {x0 : Nat} {a1 : Value} {a2 : Value} {a3 : Value} {st : List Value} {σ : aS} : Rn sc d 98 51 [.ref x0, a1, a2, a3] st σ r ↔ Rn sc d 98 52 [.ref x0, a1, a2, a3] (.ref x0 :: st) σ r := r_aload_n d98_51 rfl
theorem d98_52 : decode (mC 98) 52 = .ok (.getfield 40, 3) := by decide +kernel
theorem x98_52 {sc : aSc} {d : Nat} {r : aRes} {L : List Value} {st : List Value} {f : Nat → Nat → Int32} {g : Nat → Nat → Int64} {h1 h2 : Nat} {o : Nat} (hK : KK[o]? = some (.inl 6)) (hR : (RR h1 h2 o 8).isSome = true) : Rn sc d 98 52 L (.ref o :: st) (cS f g h1 h2) r ↔ Rn sc d 98 55 L (.ref (rf h1 h2 o 8) :: st) (cS f g h1 h2) r := r_getR2 d98_52 (ci := 6) (k := 8) rfl (by decide) (fun _ => rfl) hK hR
theorem d98_55 : decode (mC 98) 55 = .ok (.iload_n 1, 1) := by decide +kernel
theorem x98_55 {sc : aSc} {d : Nat} {r : aRes} {a0 : Value} {x1 : Int32} {a2 : Value} {a3 : Value} {st : List Value} {σ : aS} : Rn sc d 98 55 [a0, .int x1, a2, a3] st σ r ↔ Rn sc d 98 56 [a0, .int x1, a2, a3] (.int x1 :: st) σ r := r_iload_n d98_55 rfl
theorem d98_56 : decode (mC 98) 56 = .ok (.aaload, 1) := by decide +kernel
theorem x98_56 {sc : aSc} {d : Nat} {r : aRes} {L : List Value} {st : List Value} {f : Nat → Nat → Int32} {g : Nat → Nat → Int64} {h1 h2 : Nat} {a : Nat} {i : Int32} (h17 : 17 ≤ a) (hA : isG a) (hi : inb i (aln a) = true) (hR : (RR h1 h2 a i.toNatClampNeg).isSome = true) : Rn sc d 98 56 L (.int i :: .ref a :: st) (cS f g h1 h2) r ↔ Rn sc d 98 57 L (.ref (rf h1 h2 a i.toNatClampNeg) :: st) (cS f g h1 h2) r := r_aald2 d98_56 h17 hA hi hR
theorem d98_57 : decode (mC 98) 57 = .ok (.iload_n 2, 1) := by decide +kernel
theorem x98_57 {sc : aSc} {d : Nat} {r : aRes} {a0 : Value} {a1 : Value} {x2 : Int32} {a3 : Value} {st : List Value} {σ : aS} : Rn sc d 98 57 [a0, a1, .int x2, a3] st σ r ↔ Rn sc d 98 58 [a0, a1, .int x2, a3] (.int x2 :: st) σ r := r_iload_n d98_57 rfl
theorem d98_58 : decode (mC 98) 58 = .ok (.iload_n 3, 1) := by decide +kernel
theorem x98_58 {sc : aSc} {d : Nat} {r : aRes} {a0 : Value} {a1 : Value} {a2 : Value} {x3 : Int32} {st : List Value} {σ : aS} : Rn sc d 98 58 [a0, a1, a2, .int x3] st σ r ↔ Rn sc d 98 59 [a0, a1, a2, .int x3] (.int x3 :: st) σ r := r_iload_n d98_58 rfl
theorem d98_59 : decode (mC 98) 59 = .ok (.invokevirtual 272, 3) := by decide +kernel
theorem x98_59 {sc : aSc} {d : Nat} {r : aRes} {L : List Value} {f : Nat → Nat → Int32} {g : Nat → Nat → Int64} {h1 h2 : Nat} {y0 : Int32} {y1 : Int32}  {o : Nat} (hK : KK[o]? = some (.inl 4)) : Rn sc d 98 59 L [.int y0, .int y1, .ref o] (cS f g h1 h2) r ↔ ∃ (σ3 : aS) (v : Option Value), Cl sc d 52 [.ref o, .int y1, .int y0] (cS f g h1 h2) (σ3, v) ∧ Rn sc d 98 62 L (v.toList ++ []) σ3 r := r_callV (vs := [.int y0, .int y1]) d98_59 (j := 52) rfl ⟨rfl, by decide, rfl, rfl⟩ (Nat.le_of_ble_eq_true rfl) hK
theorem d98_62 : decode (mC 98) 62 = .ok (.iconst 1, 1) := by decide +kernel
theorem x98_62 {sc : aSc} {d : Nat} {r : aRes} {L : List Value} {st : List Value} {σ : aS} : Rn sc d 98 62 L st σ r ↔ Rn sc d 98 63 L (.int 1 :: st) σ r := r_iconst d98_62 (by decide)
theorem d98_63 : decode (mC 98) 63 = .ok (.ireturn, 1) := by decide +kernel
theorem x98_63 {sc : aSc} {d : Nat} {r : aRes} {L : List Value} {σ : aS} {x : Int32} : Rn sc d 98 63 L [.int x] σ r ↔ r = (σ, some (.int x)) := r_iret d98_63 rfl rfl
theorem d99_0 : decode (mC 99) 0 = .ok (.iload_n 1, 1) := by decide +kernel
theorem x99_0 {sc : aSc} {d : Nat} {r : aRes} {a0 : Value} {x1 : Int32} {a2 : Value} {a3 : Value} {a4 : Value} {a5 : Value} {st : List Value} {σ : aS} : Rn sc d 99 0 [a0, .int x1, a2, a3, a4, a5] st σ r ↔ Rn sc d 99 1 [a0, .int x1, a2, a3, a4, a5] (.int x1 :: st) σ r := r_iload_n d99_0 rfl
theorem d99_1 : decode (mC 99) 1 = .ok (.invokestatic 236, 3) := by decide +kernel
theorem x99_1 {sc : aSc} {d : Nat} {r : aRes} {L : List Value} {σ : aS} {y0 : Int32}  : Rn sc d 99 1 L [.int y0] σ r ↔ ∃ (σ3 : aS) (v : Option Value), Cl sc d 103 [.int y0] σ (σ3, v) ∧ Rn sc d 99 4 L (v.toList ++ []) σ3 r := r_callS (vs := [.int y0]) d99_1 rfl (j := 103) rfl ⟨rfl, by decide, rfl, rfl⟩ (Nat.le_of_ble_eq_true rfl)
theorem d99_4 : decode (mC 99) 4 = .ok (.ifCond .ne 5, 3) := by decide +kernel
theorem x99_4 {sc : aSc} {d : Nat} {r : aRes} {L : List Value} {st : List Value} {σ : aS} {x : Int32} : Rn sc d 99 4 L (.int x :: st) σ r ↔ if x = 0 then Rn sc d 99 7 L st σ r else Rn sc d 99 9 L st σ r := r_if_ne d99_4 rfl
theorem d99_7 : decode (mC 99) 7 = .ok (.iconst (-1), 1) := by decide +kernel
theorem x99_7 {sc : aSc} {d : Nat} {r : aRes} {L : List Value} {st : List Value} {σ : aS} : Rn sc d 99 7 L st σ r ↔ Rn sc d 99 8 L (.int (-1) :: st) σ r := r_iconst d99_7 (by decide)
theorem d99_8 : decode (mC 99) 8 = .ok (.ireturn, 1) := by decide +kernel
theorem x99_8 {sc : aSc} {d : Nat} {r : aRes} {L : List Value} {σ : aS} {x : Int32} : Rn sc d 99 8 L [.int x] σ r ↔ r = (σ, some (.int x)) := r_iret d99_8 rfl rfl
theorem d99_9 : decode (mC 99) 9 = .ok (.aload_n 0, 1) := by decide +kernel
theorem x99_9 {sc : aSc} {d : Nat} {r : aRes} {x0 : Nat} {a1 : Value} {a2 : Value} {a3 : Value} {a4 : Value} {a5 : Value} {st : List Value} {σ : aS} : Rn sc d 99 9 [.ref x0, a1, a2, a3, a4, a5] st σ r ↔ Rn sc d 99 10 [.ref x0, a1, a2, a3, a4, a5] (.ref x0 :: st) σ r := r_aload_n d99_9 rfl
theorem d99_10 : decode (mC 99) 10 = .ok (.getfield 40, 3) := by decide +kernel
theorem x99_10 {sc : aSc} {d : Nat} {r : aRes} {L : List Value} {st : List Value} {f : Nat → Nat → Int32} {g : Nat → Nat → Int64} {h1 h2 : Nat} {o : Nat} (hK : KK[o]? = some (.inl 6)) (hR : (RR h1 h2 o 8).isSome = true) : Rn sc d 99 10 L (.ref o :: st) (cS f g h1 h2) r ↔ Rn sc d 99 13 L (.ref (rf h1 h2 o 8) :: st) (cS f g h1 h2) r := r_getR2 d99_10 (ci := 6) (k := 8) rfl (by decide) (fun _ => rfl) hK hR
theorem d99_13 : decode (mC 99) 13 = .ok (.iload_n 1, 1) := by decide +kernel
theorem x99_13 {sc : aSc} {d : Nat} {r : aRes} {a0 : Value} {x1 : Int32} {a2 : Value} {a3 : Value} {a4 : Value} {a5 : Value} {st : List Value} {σ : aS} : Rn sc d 99 13 [a0, .int x1, a2, a3, a4, a5] st σ r ↔ Rn sc d 99 14 [a0, .int x1, a2, a3, a4, a5] (.int x1 :: st) σ r := r_iload_n d99_13 rfl
theorem d99_14 : decode (mC 99) 14 = .ok (.aaload, 1) := by decide +kernel
theorem x99_14 {sc : aSc} {d : Nat} {r : aRes} {L : List Value} {st : List Value} {f : Nat → Nat → Int32} {g : Nat → Nat → Int64} {h1 h2 : Nat} {a : Nat} {i : Int32} (h17 : 17 ≤ a) (hA : isG a) (hi : inb i (aln a) = true) (hR : (RR h1 h2 a i.toNatClampNeg).isSome = true) : Rn sc d 99 14 L (.int i :: .ref a :: st) (cS f g h1 h2) r ↔ Rn sc d 99 15 L (.ref (rf h1 h2 a i.toNatClampNeg) :: st) (cS f g h1 h2) r := r_aald2 d99_14 h17 hA hi hR
theorem d99_15 : decode (mC 99) 15 = .ok (.astore 5, 2) := by decide +kernel
theorem x99_15 {sc : aSc} {d : Nat} {r : aRes} {a0 : Value} {a1 : Value} {a2 : Value} {a3 : Value} {a5 : Value} {st : List Value} {σ : aS} {y : Nat} : Rn sc d 99 15 [a0, a1, a2, a3, mk0, a5] (.ref y :: st) σ r ↔ Rn sc d 99 17 [a0, a1, a2, a3, mk0, .ref y] st σ r := r_astore d99_15 (Nat.le_of_ble_eq_true rfl) rfl
theorem d99_17 : decode (mC 99) 17 = .ok (.aload 5, 2) := by decide +kernel
theorem x99_17 {sc : aSc} {d : Nat} {r : aRes} {a0 : Value} {a1 : Value} {a2 : Value} {a3 : Value} {a4 : Value} {x5 : Nat} {st : List Value} {σ : aS} : Rn sc d 99 17 [a0, a1, a2, a3, a4, .ref x5] st σ r ↔ Rn sc d 99 19 [a0, a1, a2, a3, a4, .ref x5] (.ref x5 :: st) σ r := r_aload d99_17 rfl
theorem d99_19 : decode (mC 99) 19 = .ok (.invokevirtual 239, 3) := by decide +kernel
theorem x99_19 {sc : aSc} {d : Nat} {r : aRes} {L : List Value} {f : Nat → Nat → Int32} {g : Nat → Nat → Int64} {h1 h2 : Nat}   {o : Nat} (hK : KK[o]? = some (.inl 4)) : Rn sc d 99 19 L [.ref o] (cS f g h1 h2) r ↔ ∃ (σ3 : aS) (v : Option Value), Cl sc d 51 [.ref o] (cS f g h1 h2) (σ3, v) ∧ Rn sc d 99 22 L (v.toList ++ []) σ3 r := r_callV (vs := []) d99_19 (j := 51) rfl ⟨rfl, by decide, rfl, rfl⟩ (Nat.le_of_ble_eq_true rfl) hK
theorem d99_22 : decode (mC 99) 22 = .ok (.ifCond .eq 6, 3) := by decide +kernel
theorem x99_22 {sc : aSc} {d : Nat} {r : aRes} {L : List Value} {st : List Value} {σ : aS} {x : Int32} : Rn sc d 99 22 L (.int x :: st) σ r ↔ if x = 0 then Rn sc d 99 28 L st σ r else Rn sc d 99 25 L st σ r := r_if_eq d99_22 rfl
theorem d99_25 : decode (mC 99) 25 = .ok (.bipush (-11), 2) := by decide +kernel
theorem x99_25 {sc : aSc} {d : Nat} {r : aRes} {L : List Value} {st : List Value} {σ : aS} : Rn sc d 99 25 L st σ r ↔ Rn sc d 99 27 L (.int (-11) :: st) σ r := r_bipush d99_25 (by decide)
theorem d99_27 : decode (mC 99) 27 = .ok (.ireturn, 1) := by decide +kernel
theorem x99_27 {sc : aSc} {d : Nat} {r : aRes} {L : List Value} {σ : aS} {x : Int32} : Rn sc d 99 27 L [.int x] σ r ↔ r = (σ, some (.int x)) := r_iret d99_27 rfl rfl
theorem d99_28 : decode (mC 99) 28 = .ok (.iload_n 2, 1) := by decide +kernel
theorem x99_28 {sc : aSc} {d : Nat} {r : aRes} {a0 : Value} {a1 : Value} {x2 : Int32} {a3 : Value} {a4 : Value} {a5 : Value} {st : List Value} {σ : aS} : Rn sc d 99 28 [a0, a1, .int x2, a3, a4, a5] st σ r ↔ Rn sc d 99 29 [a0, a1, .int x2, a3, a4, a5] (.int x2 :: st) σ r := r_iload_n d99_28 rfl
theorem d99_29 : decode (mC 99) 29 = .ok (.ifCond .lt 12, 3) := by decide +kernel
theorem x99_29 {sc : aSc} {d : Nat} {r : aRes} {L : List Value} {st : List Value} {σ : aS} {x : Int32} : Rn sc d 99 29 L (.int x :: st) σ r ↔ if x < 0 then Rn sc d 99 41 L st σ r else Rn sc d 99 32 L st σ r := r_if_lt d99_29 rfl
theorem d99_32 : decode (mC 99) 32 = .ok (.iload_n 2, 1) := by decide +kernel
theorem x99_32 {sc : aSc} {d : Nat} {r : aRes} {a0 : Value} {a1 : Value} {x2 : Int32} {a3 : Value} {a4 : Value} {a5 : Value} {st : List Value} {σ : aS} : Rn sc d 99 32 [a0, a1, .int x2, a3, a4, a5] st σ r ↔ Rn sc d 99 33 [a0, a1, .int x2, a3, a4, a5] (.int x2 :: st) σ r := r_iload_n d99_32 rfl
theorem d99_33 : decode (mC 99) 33 = .ok (.aload 5, 2) := by decide +kernel
theorem x99_33 {sc : aSc} {d : Nat} {r : aRes} {a0 : Value} {a1 : Value} {a2 : Value} {a3 : Value} {a4 : Value} {x5 : Nat} {st : List Value} {σ : aS} : Rn sc d 99 33 [a0, a1, a2, a3, a4, .ref x5] st σ r ↔ Rn sc d 99 35 [a0, a1, a2, a3, a4, .ref x5] (.ref x5 :: st) σ r := r_aload d99_33 rfl
theorem d99_35 : decode (mC 99) 35 = .ok (.getfield 246, 3) := by decide +kernel
theorem x99_35 {sc : aSc} {d : Nat} {r : aRes} {L : List Value} {st : List Value} {f : Nat → Nat → Int32} {g : Nat → Nat → Int64} {h1 h2 : Nat} {o : Nat} (h17 : 17 ≤ o) (hK : KK[o]? = some (.inl 4)) : Rn sc d 99 35 L (.ref o :: st) (cS f g h1 h2) r ↔ Rn sc d 99 38 L (.int (f o 1) :: st) (cS f g h1 h2) r := r_getI d99_35 (ci := 4) (k := 1) rfl (by decide) (fun _ => rfl) h17 hK
theorem d99_38 : decode (mC 99) 38 = .ok (.if_icmp .lt 6, 3) := by decide +kernel
theorem x99_38 {sc : aSc} {d : Nat} {r : aRes} {L : List Value} {st : List Value} {σ : aS} {x y : Int32} : Rn sc d 99 38 L (.int y :: .int x :: st) σ r ↔ if x < y then Rn sc d 99 44 L st σ r else Rn sc d 99 41 L st σ r := r_icmp_lt d99_38 rfl
theorem d99_41 : decode (mC 99) 41 = .ok (.bipush (-13), 2) := by decide +kernel
theorem x99_41 {sc : aSc} {d : Nat} {r : aRes} {L : List Value} {st : List Value} {σ : aS} : Rn sc d 99 41 L st σ r ↔ Rn sc d 99 43 L (.int (-13) :: st) σ r := r_bipush d99_41 (by decide)
theorem d99_43 : decode (mC 99) 43 = .ok (.ireturn, 1) := by decide +kernel
theorem x99_43 {sc : aSc} {d : Nat} {r : aRes} {L : List Value} {σ : aS} {x : Int32} : Rn sc d 99 43 L [.int x] σ r ↔ r = (σ, some (.int x)) := r_iret d99_43 rfl rfl
theorem d99_44 : decode (mC 99) 44 = .ok (.aload 5, 2) := by decide +kernel
theorem x99_44 {sc : aSc} {d : Nat} {r : aRes} {a0 : Value} {a1 : Value} {a2 : Value} {a3 : Value} {a4 : Value} {x5 : Nat} {st : List Value} {σ : aS} : Rn sc d 99 44 [a0, a1, a2, a3, a4, .ref x5] st σ r ↔ Rn sc d 99 46 [a0, a1, a2, a3, a4, .ref x5] (.ref x5 :: st) σ r := r_aload d99_44 rfl
theorem d99_46 : decode (mC 99) 46 = .ok (.getfield 247, 3) := by decide +kernel
theorem x99_46 {sc : aSc} {d : Nat} {r : aRes} {L : List Value} {st : List Value} {f : Nat → Nat → Int32} {g : Nat → Nat → Int64} {h1 h2 : Nat} {o : Nat} (hK : KK[o]? = some (.inl 4)) (hR : (RR h1 h2 o 2).isSome = true) : Rn sc d 99 46 L (.ref o :: st) (cS f g h1 h2) r ↔ Rn sc d 99 49 L (.ref (rf h1 h2 o 2) :: st) (cS f g h1 h2) r := r_getR2 d99_46 (ci := 4) (k := 2) rfl (by decide) (fun _ => rfl) hK hR
theorem d99_49 : decode (mC 99) 49 = .ok (.iload_n 2, 1) := by decide +kernel
theorem x99_49 {sc : aSc} {d : Nat} {r : aRes} {a0 : Value} {a1 : Value} {x2 : Int32} {a3 : Value} {a4 : Value} {a5 : Value} {st : List Value} {σ : aS} : Rn sc d 99 49 [a0, a1, .int x2, a3, a4, a5] st σ r ↔ Rn sc d 99 50 [a0, a1, .int x2, a3, a4, a5] (.int x2 :: st) σ r := r_iload_n d99_49 rfl
theorem d99_50 : decode (mC 99) 50 = .ok (.aload 5, 2) := by decide +kernel
theorem x99_50 {sc : aSc} {d : Nat} {r : aRes} {a0 : Value} {a1 : Value} {a2 : Value} {a3 : Value} {a4 : Value} {x5 : Nat} {st : List Value} {σ : aS} : Rn sc d 99 50 [a0, a1, a2, a3, a4, .ref x5] st σ r ↔ Rn sc d 99 52 [a0, a1, a2, a3, a4, .ref x5] (.ref x5 :: st) σ r := r_aload d99_50 rfl
theorem d99_52 : decode (mC 99) 52 = .ok (.lload_n 3, 1) := by decide +kernel
theorem x99_52 {sc : aSc} {d : Nat} {r : aRes} {a0 : Value} {a1 : Value} {a2 : Value} {x3 : Int64} {a4 : Value} {a5 : Value} {st : List Value} {σ : aS} : Rn sc d 99 52 [a0, a1, a2, .long x3, a4, a5] st σ r ↔ Rn sc d 99 53 [a0, a1, a2, .long x3, a4, a5] (.long x3 :: st) σ r := r_lload_n d99_52 rfl
theorem d99_53 : decode (mC 99) 53 = .ok (.invokevirtual 276, 3) := by decide +kernel
theorem x99_53 {sc : aSc} {d : Nat} {r : aRes} {L : List Value} {f : Nat → Nat → Int32} {g : Nat → Nat → Int64} {h1 h2 : Nat} {y0 : Int64} {z0 : Int32} {z1 : Nat} {o : Nat} (hK : KK[o]? = some (.inl 4)) : Rn sc d 99 53 L [.long y0, .ref o, .int z0, .ref z1] (cS f g h1 h2) r ↔ ∃ (σ3 : aS) (v : Option Value), Cl sc d 53 [.ref o, .long y0] (cS f g h1 h2) (σ3, v) ∧ Rn sc d 99 56 L (v.toList ++ [.int z0, .ref z1]) σ3 r := r_callV (vs := [.long y0]) d99_53 (j := 53) rfl ⟨rfl, by decide, rfl, rfl⟩ (Nat.le_of_ble_eq_true rfl) hK
theorem d99_56 : decode (mC 99) 56 = .ok (.lastore, 1) := by decide +kernel
theorem x99_56 {sc : aSc} {d : Nat} {r : aRes} {L : List Value} {st : List Value} {f : Nat → Nat → Int32} {g : Nat → Nat → Int64} {h1 h2 : Nat} {a : Nat} {i : Int32} {x : Int64} (h17 : 17 ≤ a) (hA : isT9 .long a) (hi : inb i (aln a) = true) : Rn sc d 99 56 L (.long x :: .int i :: .ref a :: st) (cS f g h1 h2) r ↔ Rn sc d 99 57 L st (cS f (u2 g a i.toNatClampNeg x) h1 h2) r := r_last d99_56 h17 hA hi
theorem d99_57 : decode (mC 99) 57 = .ok (.iconst 1, 1) := by decide +kernel
theorem x99_57 {sc : aSc} {d : Nat} {r : aRes} {L : List Value} {st : List Value} {σ : aS} : Rn sc d 99 57 L st σ r ↔ Rn sc d 99 58 L (.int 1 :: st) σ r := r_iconst d99_57 (by decide)
theorem d99_58 : decode (mC 99) 58 = .ok (.ireturn, 1) := by decide +kernel
theorem x99_58 {sc : aSc} {d : Nat} {r : aRes} {L : List Value} {σ : aS} {x : Int32} : Rn sc d 99 58 L [.int x] σ r ↔ r = (σ, some (.int x)) := r_iret d99_58 rfl rfl
theorem d100_0 : decode (mC 100) 0 = .ok (.iload_n 1, 1) := by decide +kernel
theorem x100_0 {sc : aSc} {d : Nat} {r : aRes} {a0 : Value} {x1 : Int32} {a2 : Value} {st : List Value} {σ : aS} : Rn sc d 100 0 [a0, .int x1, a2] st σ r ↔ Rn sc d 100 1 [a0, .int x1, a2] (.int x1 :: st) σ r := r_iload_n d100_0 rfl
theorem d100_1 : decode (mC 100) 1 = .ok (.invokestatic 236, 3) := by decide +kernel
theorem x100_1 {sc : aSc} {d : Nat} {r : aRes} {L : List Value} {σ : aS} {y0 : Int32}  : Rn sc d 100 1 L [.int y0] σ r ↔ ∃ (σ3 : aS) (v : Option Value), Cl sc d 103 [.int y0] σ (σ3, v) ∧ Rn sc d 100 4 L (v.toList ++ []) σ3 r := r_callS (vs := [.int y0]) d100_1 rfl (j := 103) rfl ⟨rfl, by decide, rfl, rfl⟩ (Nat.le_of_ble_eq_true rfl)
theorem d100_4 : decode (mC 100) 4 = .ok (.ifCond .eq 20, 3) := by decide +kernel
theorem x100_4 {sc : aSc} {d : Nat} {r : aRes} {L : List Value} {st : List Value} {σ : aS} {x : Int32} : Rn sc d 100 4 L (.int x :: st) σ r ↔ if x = 0 then Rn sc d 100 24 L st σ r else Rn sc d 100 7 L st σ r := r_if_eq d100_4 rfl
theorem d100_7 : decode (mC 100) 7 = .ok (.iload_n 2, 1) := by decide +kernel
theorem x100_7 {sc : aSc} {d : Nat} {r : aRes} {a0 : Value} {a1 : Value} {x2 : Int32} {st : List Value} {σ : aS} : Rn sc d 100 7 [a0, a1, .int x2] st σ r ↔ Rn sc d 100 8 [a0, a1, .int x2] (.int x2 :: st) σ r := r_iload_n d100_7 rfl
theorem d100_8 : decode (mC 100) 8 = .ok (.ifCond .lt 16, 3) := by decide +kernel
theorem x100_8 {sc : aSc} {d : Nat} {r : aRes} {L : List Value} {st : List Value} {σ : aS} {x : Int32} : Rn sc d 100 8 L (.int x :: st) σ r ↔ if x < 0 then Rn sc d 100 24 L st σ r else Rn sc d 100 11 L st σ r := r_if_lt d100_8 rfl
theorem d100_11 : decode (mC 100) 11 = .ok (.iload_n 2, 1) := by decide +kernel
theorem x100_11 {sc : aSc} {d : Nat} {r : aRes} {a0 : Value} {a1 : Value} {x2 : Int32} {st : List Value} {σ : aS} : Rn sc d 100 11 [a0, a1, .int x2] st σ r ↔ Rn sc d 100 12 [a0, a1, .int x2] (.int x2 :: st) σ r := r_iload_n d100_11 rfl
theorem d100_12 : decode (mC 100) 12 = .ok (.aload_n 0, 1) := by decide +kernel
theorem x100_12 {sc : aSc} {d : Nat} {r : aRes} {x0 : Nat} {a1 : Value} {a2 : Value} {st : List Value} {σ : aS} : Rn sc d 100 12 [.ref x0, a1, a2] st σ r ↔ Rn sc d 100 13 [.ref x0, a1, a2] (.ref x0 :: st) σ r := r_aload_n d100_12 rfl
theorem d100_13 : decode (mC 100) 13 = .ok (.getfield 40, 3) := by decide +kernel
theorem x100_13 {sc : aSc} {d : Nat} {r : aRes} {L : List Value} {st : List Value} {f : Nat → Nat → Int32} {g : Nat → Nat → Int64} {h1 h2 : Nat} {o : Nat} (hK : KK[o]? = some (.inl 6)) (hR : (RR h1 h2 o 8).isSome = true) : Rn sc d 100 13 L (.ref o :: st) (cS f g h1 h2) r ↔ Rn sc d 100 16 L (.ref (rf h1 h2 o 8) :: st) (cS f g h1 h2) r := r_getR2 d100_13 (ci := 6) (k := 8) rfl (by decide) (fun _ => rfl) hK hR
theorem d100_16 : decode (mC 100) 16 = .ok (.iload_n 1, 1) := by decide +kernel
theorem x100_16 {sc : aSc} {d : Nat} {r : aRes} {a0 : Value} {x1 : Int32} {a2 : Value} {st : List Value} {σ : aS} : Rn sc d 100 16 [a0, .int x1, a2] st σ r ↔ Rn sc d 100 17 [a0, .int x1, a2] (.int x1 :: st) σ r := r_iload_n d100_16 rfl
theorem d100_17 : decode (mC 100) 17 = .ok (.aaload, 1) := by decide +kernel
theorem x100_17 {sc : aSc} {d : Nat} {r : aRes} {L : List Value} {st : List Value} {f : Nat → Nat → Int32} {g : Nat → Nat → Int64} {h1 h2 : Nat} {a : Nat} {i : Int32} (h17 : 17 ≤ a) (hA : isG a) (hi : inb i (aln a) = true) (hR : (RR h1 h2 a i.toNatClampNeg).isSome = true) : Rn sc d 100 17 L (.int i :: .ref a :: st) (cS f g h1 h2) r ↔ Rn sc d 100 18 L (.ref (rf h1 h2 a i.toNatClampNeg) :: st) (cS f g h1 h2) r := r_aald2 d100_17 h17 hA hi hR
theorem d100_18 : decode (mC 100) 18 = .ok (.getfield 246, 3) := by decide +kernel
theorem x100_18 {sc : aSc} {d : Nat} {r : aRes} {L : List Value} {st : List Value} {f : Nat → Nat → Int32} {g : Nat → Nat → Int64} {h1 h2 : Nat} {o : Nat} (h17 : 17 ≤ o) (hK : KK[o]? = some (.inl 4)) : Rn sc d 100 18 L (.ref o :: st) (cS f g h1 h2) r ↔ Rn sc d 100 21 L (.int (f o 1) :: st) (cS f g h1 h2) r := r_getI d100_18 (ci := 4) (k := 1) rfl (by decide) (fun _ => rfl) h17 hK
theorem d100_21 : decode (mC 100) 21 = .ok (.if_icmp .lt 7, 3) := by decide +kernel
theorem x100_21 {sc : aSc} {d : Nat} {r : aRes} {L : List Value} {st : List Value} {σ : aS} {x y : Int32} : Rn sc d 100 21 L (.int y :: .int x :: st) σ r ↔ if x < y then Rn sc d 100 28 L st σ r else Rn sc d 100 24 L st σ r := r_icmp_lt d100_21 rfl
theorem d100_24 : decode (mC 100) 24 = .ok (.ldc2_w 221, 3) := by decide +kernel
theorem x100_24 {sc : aSc} {d : Nat} {r : aRes} {L : List Value} {st : List Value} {σ : aS} : Rn sc d 100 24 L st σ r ↔ Rn sc d 100 27 L (.long (-9223372036854775808) :: st) σ r := r_ldc2_w d100_24 rfl
theorem d100_27 : decode (mC 100) 27 = .ok (.lreturn, 1) := by decide +kernel
theorem x100_27 {sc : aSc} {d : Nat} {r : aRes} {L : List Value} {σ : aS} {x : Int64} : Rn sc d 100 27 L [.long x] σ r ↔ r = (σ, some (.long x)) := r_lret d100_27 rfl
theorem d100_28 : decode (mC 100) 28 = .ok (.aload_n 0, 1) := by decide +kernel
theorem x100_28 {sc : aSc} {d : Nat} {r : aRes} {x0 : Nat} {a1 : Value} {a2 : Value} {st : List Value} {σ : aS} : Rn sc d 100 28 [.ref x0, a1, a2] st σ r ↔ Rn sc d 100 29 [.ref x0, a1, a2] (.ref x0 :: st) σ r := r_aload_n d100_28 rfl
theorem d100_29 : decode (mC 100) 29 = .ok (.getfield 40, 3) := by decide +kernel
theorem x100_29 {sc : aSc} {d : Nat} {r : aRes} {L : List Value} {st : List Value} {f : Nat → Nat → Int32} {g : Nat → Nat → Int64} {h1 h2 : Nat} {o : Nat} (hK : KK[o]? = some (.inl 6)) (hR : (RR h1 h2 o 8).isSome = true) : Rn sc d 100 29 L (.ref o :: st) (cS f g h1 h2) r ↔ Rn sc d 100 32 L (.ref (rf h1 h2 o 8) :: st) (cS f g h1 h2) r := r_getR2 d100_29 (ci := 6) (k := 8) rfl (by decide) (fun _ => rfl) hK hR
theorem d100_32 : decode (mC 100) 32 = .ok (.iload_n 1, 1) := by decide +kernel
theorem x100_32 {sc : aSc} {d : Nat} {r : aRes} {a0 : Value} {x1 : Int32} {a2 : Value} {st : List Value} {σ : aS} : Rn sc d 100 32 [a0, .int x1, a2] st σ r ↔ Rn sc d 100 33 [a0, .int x1, a2] (.int x1 :: st) σ r := r_iload_n d100_32 rfl
theorem d100_33 : decode (mC 100) 33 = .ok (.aaload, 1) := by decide +kernel
theorem x100_33 {sc : aSc} {d : Nat} {r : aRes} {L : List Value} {st : List Value} {f : Nat → Nat → Int32} {g : Nat → Nat → Int64} {h1 h2 : Nat} {a : Nat} {i : Int32} (h17 : 17 ≤ a) (hA : isG a) (hi : inb i (aln a) = true) (hR : (RR h1 h2 a i.toNatClampNeg).isSome = true) : Rn sc d 100 33 L (.int i :: .ref a :: st) (cS f g h1 h2) r ↔ Rn sc d 100 34 L (.ref (rf h1 h2 a i.toNatClampNeg) :: st) (cS f g h1 h2) r := r_aald2 d100_33 h17 hA hi hR
theorem d100_34 : decode (mC 100) 34 = .ok (.getfield 247, 3) := by decide +kernel
theorem x100_34 {sc : aSc} {d : Nat} {r : aRes} {L : List Value} {st : List Value} {f : Nat → Nat → Int32} {g : Nat → Nat → Int64} {h1 h2 : Nat} {o : Nat} (hK : KK[o]? = some (.inl 4)) (hR : (RR h1 h2 o 2).isSome = true) : Rn sc d 100 34 L (.ref o :: st) (cS f g h1 h2) r ↔ Rn sc d 100 37 L (.ref (rf h1 h2 o 2) :: st) (cS f g h1 h2) r := r_getR2 d100_34 (ci := 4) (k := 2) rfl (by decide) (fun _ => rfl) hK hR
theorem d100_37 : decode (mC 100) 37 = .ok (.iload_n 2, 1) := by decide +kernel
theorem x100_37 {sc : aSc} {d : Nat} {r : aRes} {a0 : Value} {a1 : Value} {x2 : Int32} {st : List Value} {σ : aS} : Rn sc d 100 37 [a0, a1, .int x2] st σ r ↔ Rn sc d 100 38 [a0, a1, .int x2] (.int x2 :: st) σ r := r_iload_n d100_37 rfl
theorem d100_38 : decode (mC 100) 38 = .ok (.laload, 1) := by decide +kernel
theorem x100_38 {sc : aSc} {d : Nat} {r : aRes} {L : List Value} {st : List Value} {f : Nat → Nat → Int32} {g : Nat → Nat → Int64} {h1 h2 : Nat} {a : Nat} {i : Int32} (h17 : 17 ≤ a) (hA : isT9 .long a) (hi : inb i (aln a) = true) : Rn sc d 100 38 L (.int i :: .ref a :: st) (cS f g h1 h2) r ↔ Rn sc d 100 39 L (.long (g a i.toNatClampNeg) :: st) (cS f g h1 h2) r := r_lald d100_38 h17 hA hi
theorem d100_39 : decode (mC 100) 39 = .ok (.lreturn, 1) := by decide +kernel
theorem x100_39 {sc : aSc} {d : Nat} {r : aRes} {L : List Value} {σ : aS} {x : Int64} : Rn sc d 100 39 L [.long x] σ r ↔ r = (σ, some (.long x)) := r_lret d100_39 rfl
theorem d101_0 : decode (mC 101) 0 = .ok (.iload_n 1, 1) := by decide +kernel
theorem x101_0 {sc : aSc} {d : Nat} {r : aRes} {a0 : Value} {x1 : Int32} {a2 : Value} {a3 : Value} {a4 : Value} {a5 : Value} {a6 : Value} {a7 : Value} {st : List Value} {σ : aS} : Rn sc d 101 0 [a0, .int x1, a2, a3, a4, a5, a6, a7] st σ r ↔ Rn sc d 101 1 [a0, .int x1, a2, a3, a4, a5, a6, a7] (.int x1 :: st) σ r := r_iload_n d101_0 rfl
theorem d101_1 : decode (mC 101) 1 = .ok (.invokestatic 236, 3) := by decide +kernel
theorem x101_1 {sc : aSc} {d : Nat} {r : aRes} {L : List Value} {σ : aS} {y0 : Int32}  : Rn sc d 101 1 L [.int y0] σ r ↔ ∃ (σ3 : aS) (v : Option Value), Cl sc d 103 [.int y0] σ (σ3, v) ∧ Rn sc d 101 4 L (v.toList ++ []) σ3 r := r_callS (vs := [.int y0]) d101_1 rfl (j := 103) rfl ⟨rfl, by decide, rfl, rfl⟩ (Nat.le_of_ble_eq_true rfl)
theorem d101_4 : decode (mC 101) 4 = .ok (.ifCond .eq 10, 3) := by decide +kernel
theorem x101_4 {sc : aSc} {d : Nat} {r : aRes} {L : List Value} {st : List Value} {σ : aS} {x : Int32} : Rn sc d 101 4 L (.int x :: st) σ r ↔ if x = 0 then Rn sc d 101 14 L st σ r else Rn sc d 101 7 L st σ r := r_if_eq d101_4 rfl
theorem d101_7 : decode (mC 101) 7 = .ok (.iload_n 3, 1) := by decide +kernel
theorem x101_7 {sc : aSc} {d : Nat} {r : aRes} {a0 : Value} {a1 : Value} {a2 : Value} {x3 : Int32} {a4 : Value} {a5 : Value} {a6 : Value} {a7 : Value} {st : List Value} {σ : aS} : Rn sc d 101 7 [a0, a1, a2, .int x3, a4, a5, a6, a7] st σ r ↔ Rn sc d 101 8 [a0, a1, a2, .int x3, a4, a5, a6, a7] (.int x3 :: st) σ r := r_iload_n d101_7 rfl
theorem d101_8 : decode (mC 101) 8 = .ok (.invokestatic 236, 3) := by decide +kernel
theorem x101_8 {sc : aSc} {d : Nat} {r : aRes} {L : List Value} {σ : aS} {y0 : Int32}  : Rn sc d 101 8 L [.int y0] σ r ↔ ∃ (σ3 : aS) (v : Option Value), Cl sc d 103 [.int y0] σ (σ3, v) ∧ Rn sc d 101 11 L (v.toList ++ []) σ3 r := r_callS (vs := [.int y0]) d101_8 rfl (j := 103) rfl ⟨rfl, by decide, rfl, rfl⟩ (Nat.le_of_ble_eq_true rfl)
theorem d101_11 : decode (mC 101) 11 = .ok (.ifCond .ne 5, 3) := by decide +kernel
theorem x101_11 {sc : aSc} {d : Nat} {r : aRes} {L : List Value} {st : List Value} {σ : aS} {x : Int32} : Rn sc d 101 11 L (.int x :: st) σ r ↔ if x = 0 then Rn sc d 101 14 L st σ r else Rn sc d 101 16 L st σ r := r_if_ne d101_11 rfl
theorem d101_14 : decode (mC 101) 14 = .ok (.iconst (-1), 1) := by decide +kernel
theorem x101_14 {sc : aSc} {d : Nat} {r : aRes} {L : List Value} {st : List Value} {σ : aS} : Rn sc d 101 14 L st σ r ↔ Rn sc d 101 15 L (.int (-1) :: st) σ r := r_iconst d101_14 (by decide)
theorem d101_15 : decode (mC 101) 15 = .ok (.ireturn, 1) := by decide +kernel
theorem x101_15 {sc : aSc} {d : Nat} {r : aRes} {L : List Value} {σ : aS} {x : Int32} : Rn sc d 101 15 L [.int x] σ r ↔ r = (σ, some (.int x)) := r_iret d101_15 rfl rfl
theorem d101_16 : decode (mC 101) 16 = .ok (.aload_n 0, 1) := by decide +kernel
theorem x101_16 {sc : aSc} {d : Nat} {r : aRes} {x0 : Nat} {a1 : Value} {a2 : Value} {a3 : Value} {a4 : Value} {a5 : Value} {a6 : Value} {a7 : Value} {st : List Value} {σ : aS} : Rn sc d 101 16 [.ref x0, a1, a2, a3, a4, a5, a6, a7] st σ r ↔ Rn sc d 101 17 [.ref x0, a1, a2, a3, a4, a5, a6, a7] (.ref x0 :: st) σ r := r_aload_n d101_16 rfl
theorem d101_17 : decode (mC 101) 17 = .ok (.getfield 40, 3) := by decide +kernel
theorem x101_17 {sc : aSc} {d : Nat} {r : aRes} {L : List Value} {st : List Value} {f : Nat → Nat → Int32} {g : Nat → Nat → Int64} {h1 h2 : Nat} {o : Nat} (hK : KK[o]? = some (.inl 6)) (hR : (RR h1 h2 o 8).isSome = true) : Rn sc d 101 17 L (.ref o :: st) (cS f g h1 h2) r ↔ Rn sc d 101 20 L (.ref (rf h1 h2 o 8) :: st) (cS f g h1 h2) r := r_getR2 d101_17 (ci := 6) (k := 8) rfl (by decide) (fun _ => rfl) hK hR
theorem d101_20 : decode (mC 101) 20 = .ok (.iload_n 1, 1) := by decide +kernel
theorem x101_20 {sc : aSc} {d : Nat} {r : aRes} {a0 : Value} {x1 : Int32} {a2 : Value} {a3 : Value} {a4 : Value} {a5 : Value} {a6 : Value} {a7 : Value} {st : List Value} {σ : aS} : Rn sc d 101 20 [a0, .int x1, a2, a3, a4, a5, a6, a7] st σ r ↔ Rn sc d 101 21 [a0, .int x1, a2, a3, a4, a5, a6, a7] (.int x1 :: st) σ r := r_iload_n d101_20 rfl
theorem d101_21 : decode (mC 101) 21 = .ok (.aaload, 1) := by decide +kernel
theorem x101_21 {sc : aSc} {d : Nat} {r : aRes} {L : List Value} {st : List Value} {f : Nat → Nat → Int32} {g : Nat → Nat → Int64} {h1 h2 : Nat} {a : Nat} {i : Int32} (h17 : 17 ≤ a) (hA : isG a) (hi : inb i (aln a) = true) (hR : (RR h1 h2 a i.toNatClampNeg).isSome = true) : Rn sc d 101 21 L (.int i :: .ref a :: st) (cS f g h1 h2) r ↔ Rn sc d 101 22 L (.ref (rf h1 h2 a i.toNatClampNeg) :: st) (cS f g h1 h2) r := r_aald2 d101_21 h17 hA hi hR
theorem d101_22 : decode (mC 101) 22 = .ok (.astore 6, 2) := by decide +kernel
theorem x101_22 {sc : aSc} {d : Nat} {r : aRes} {a0 : Value} {a1 : Value} {a2 : Value} {a3 : Value} {a4 : Value} {x5 : Int32} {a6 : Value} {a7 : Value} {st : List Value} {σ : aS} {y : Nat} : Rn sc d 101 22 [a0, a1, a2, a3, a4, .int x5, a6, a7] (.ref y :: st) σ r ↔ Rn sc d 101 24 [a0, a1, a2, a3, a4, .int x5, .ref y, a7] st σ r := r_astore d101_22 (Nat.le_of_ble_eq_true rfl) rfl
theorem d101_24 : decode (mC 101) 24 = .ok (.aload_n 0, 1) := by decide +kernel
theorem x101_24 {sc : aSc} {d : Nat} {r : aRes} {x0 : Nat} {a1 : Value} {a2 : Value} {a3 : Value} {a4 : Value} {a5 : Value} {a6 : Value} {a7 : Value} {st : List Value} {σ : aS} : Rn sc d 101 24 [.ref x0, a1, a2, a3, a4, a5, a6, a7] st σ r ↔ Rn sc d 101 25 [.ref x0, a1, a2, a3, a4, a5, a6, a7] (.ref x0 :: st) σ r := r_aload_n d101_24 rfl
theorem d101_25 : decode (mC 101) 25 = .ok (.getfield 40, 3) := by decide +kernel
theorem x101_25 {sc : aSc} {d : Nat} {r : aRes} {L : List Value} {st : List Value} {f : Nat → Nat → Int32} {g : Nat → Nat → Int64} {h1 h2 : Nat} {o : Nat} (hK : KK[o]? = some (.inl 6)) (hR : (RR h1 h2 o 8).isSome = true) : Rn sc d 101 25 L (.ref o :: st) (cS f g h1 h2) r ↔ Rn sc d 101 28 L (.ref (rf h1 h2 o 8) :: st) (cS f g h1 h2) r := r_getR2 d101_25 (ci := 6) (k := 8) rfl (by decide) (fun _ => rfl) hK hR
theorem d101_28 : decode (mC 101) 28 = .ok (.iload_n 3, 1) := by decide +kernel
theorem x101_28 {sc : aSc} {d : Nat} {r : aRes} {a0 : Value} {a1 : Value} {a2 : Value} {x3 : Int32} {a4 : Value} {a5 : Value} {a6 : Value} {a7 : Value} {st : List Value} {σ : aS} : Rn sc d 101 28 [a0, a1, a2, .int x3, a4, a5, a6, a7] st σ r ↔ Rn sc d 101 29 [a0, a1, a2, .int x3, a4, a5, a6, a7] (.int x3 :: st) σ r := r_iload_n d101_28 rfl
theorem d101_29 : decode (mC 101) 29 = .ok (.aaload, 1) := by decide +kernel
theorem x101_29 {sc : aSc} {d : Nat} {r : aRes} {L : List Value} {st : List Value} {f : Nat → Nat → Int32} {g : Nat → Nat → Int64} {h1 h2 : Nat} {a : Nat} {i : Int32} (h17 : 17 ≤ a) (hA : isG a) (hi : inb i (aln a) = true) (hR : (RR h1 h2 a i.toNatClampNeg).isSome = true) : Rn sc d 101 29 L (.int i :: .ref a :: st) (cS f g h1 h2) r ↔ Rn sc d 101 30 L (.ref (rf h1 h2 a i.toNatClampNeg) :: st) (cS f g h1 h2) r := r_aald2 d101_29 h17 hA hi hR
theorem d101_30 : decode (mC 101) 30 = .ok (.astore 7, 2) := by decide +kernel
theorem x101_30 {sc : aSc} {d : Nat} {r : aRes} {a0 : Value} {a1 : Value} {a2 : Value} {a3 : Value} {a4 : Value} {a5 : Value} {x6 : Nat} {a7 : Value} {st : List Value} {σ : aS} {y : Nat} : Rn sc d 101 30 [a0, a1, a2, a3, a4, a5, .ref x6, a7] (.ref y :: st) σ r ↔ Rn sc d 101 32 [a0, a1, a2, a3, a4, a5, .ref x6, .ref y] st σ r := r_astore d101_30 (Nat.le_of_ble_eq_true rfl) rfl
theorem d101_32 : decode (mC 101) 32 = .ok (.aload 6, 2) := by decide +kernel
theorem x101_32 {sc : aSc} {d : Nat} {r : aRes} {a0 : Value} {a1 : Value} {a2 : Value} {a3 : Value} {a4 : Value} {a5 : Value} {x6 : Nat} {a7 : Value} {st : List Value} {σ : aS} : Rn sc d 101 32 [a0, a1, a2, a3, a4, a5, .ref x6, a7] st σ r ↔ Rn sc d 101 34 [a0, a1, a2, a3, a4, a5, .ref x6, a7] (.ref x6 :: st) σ r := r_aload d101_32 rfl
theorem d101_34 : decode (mC 101) 34 = .ok (.invokevirtual 239, 3) := by decide +kernel
theorem x101_34 {sc : aSc} {d : Nat} {r : aRes} {L : List Value} {f : Nat → Nat → Int32} {g : Nat → Nat → Int64} {h1 h2 : Nat}   {o : Nat} (hK : KK[o]? = some (.inl 4)) : Rn sc d 101 34 L [.ref o] (cS f g h1 h2) r ↔ ∃ (σ3 : aS) (v : Option Value), Cl sc d 51 [.ref o] (cS f g h1 h2) (σ3, v) ∧ Rn sc d 101 37 L (v.toList ++ []) σ3 r := r_callV (vs := []) d101_34 (j := 51) rfl ⟨rfl, by decide, rfl, rfl⟩ (Nat.le_of_ble_eq_true rfl) hK
theorem d101_37 : decode (mC 101) 37 = .ok (.ifCond .ne 11, 3) := by decide +kernel
theorem x101_37 {sc : aSc} {d : Nat} {r : aRes} {L : List Value} {st : List Value} {σ : aS} {x : Int32} : Rn sc d 101 37 L (.int x :: st) σ r ↔ if x = 0 then Rn sc d 101 40 L st σ r else Rn sc d 101 48 L st σ r := r_if_ne d101_37 rfl
theorem d101_40 : decode (mC 101) 40 = .ok (.aload 7, 2) := by decide +kernel
theorem x101_40 {sc : aSc} {d : Nat} {r : aRes} {a0 : Value} {a1 : Value} {a2 : Value} {a3 : Value} {a4 : Value} {a5 : Value} {a6 : Value} {x7 : Nat} {st : List Value} {σ : aS} : Rn sc d 101 40 [a0, a1, a2, a3, a4, a5, a6, .ref x7] st σ r ↔ Rn sc d 101 42 [a0, a1, a2, a3, a4, a5, a6, .ref x7] (.ref x7 :: st) σ r := r_aload d101_40 rfl
theorem d101_42 : decode (mC 101) 42 = .ok (.invokevirtual 239, 3) := by decide +kernel
theorem x101_42 {sc : aSc} {d : Nat} {r : aRes} {L : List Value} {f : Nat → Nat → Int32} {g : Nat → Nat → Int64} {h1 h2 : Nat}   {o : Nat} (hK : KK[o]? = some (.inl 4)) : Rn sc d 101 42 L [.ref o] (cS f g h1 h2) r ↔ ∃ (σ3 : aS) (v : Option Value), Cl sc d 51 [.ref o] (cS f g h1 h2) (σ3, v) ∧ Rn sc d 101 45 L (v.toList ++ []) σ3 r := r_callV (vs := []) d101_42 (j := 51) rfl ⟨rfl, by decide, rfl, rfl⟩ (Nat.le_of_ble_eq_true rfl) hK
theorem d101_45 : decode (mC 101) 45 = .ok (.ifCond .eq 6, 3) := by decide +kernel
theorem x101_45 {sc : aSc} {d : Nat} {r : aRes} {L : List Value} {st : List Value} {σ : aS} {x : Int32} : Rn sc d 101 45 L (.int x :: st) σ r ↔ if x = 0 then Rn sc d 101 51 L st σ r else Rn sc d 101 48 L st σ r := r_if_eq d101_45 rfl
theorem d101_48 : decode (mC 101) 48 = .ok (.bipush (-11), 2) := by decide +kernel
theorem x101_48 {sc : aSc} {d : Nat} {r : aRes} {L : List Value} {st : List Value} {σ : aS} : Rn sc d 101 48 L st σ r ↔ Rn sc d 101 50 L (.int (-11) :: st) σ r := r_bipush d101_48 (by decide)
theorem d101_50 : decode (mC 101) 50 = .ok (.ireturn, 1) := by decide +kernel
theorem x101_50 {sc : aSc} {d : Nat} {r : aRes} {L : List Value} {σ : aS} {x : Int32} : Rn sc d 101 50 L [.int x] σ r ↔ r = (σ, some (.int x)) := r_iret d101_50 rfl rfl
theorem d101_51 : decode (mC 101) 51 = .ok (.aload 6, 2) := by decide +kernel
theorem x101_51 {sc : aSc} {d : Nat} {r : aRes} {a0 : Value} {a1 : Value} {a2 : Value} {a3 : Value} {a4 : Value} {a5 : Value} {x6 : Nat} {a7 : Value} {st : List Value} {σ : aS} : Rn sc d 101 51 [a0, a1, a2, a3, a4, a5, .ref x6, a7] st σ r ↔ Rn sc d 101 53 [a0, a1, a2, a3, a4, a5, .ref x6, a7] (.ref x6 :: st) σ r := r_aload d101_51 rfl
theorem d101_53 : decode (mC 101) 53 = .ok (.getfield 243, 3) := by decide +kernel
theorem x101_53 {sc : aSc} {d : Nat} {r : aRes} {L : List Value} {st : List Value} {f : Nat → Nat → Int32} {g : Nat → Nat → Int64} {h1 h2 : Nat} {o : Nat} (h17 : 17 ≤ o) (hK : KK[o]? = some (.inl 4)) : Rn sc d 101 53 L (.ref o :: st) (cS f g h1 h2) r ↔ Rn sc d 101 56 L (.int (f o 0) :: st) (cS f g h1 h2) r := r_getI d101_53 (ci := 4) (k := 0) rfl (by decide) (fun _ => rfl) h17 hK
theorem d101_56 : decode (mC 101) 56 = .ok (.aload 7, 2) := by decide +kernel
theorem x101_56 {sc : aSc} {d : Nat} {r : aRes} {a0 : Value} {a1 : Value} {a2 : Value} {a3 : Value} {a4 : Value} {a5 : Value} {a6 : Value} {x7 : Nat} {st : List Value} {σ : aS} : Rn sc d 101 56 [a0, a1, a2, a3, a4, a5, a6, .ref x7] st σ r ↔ Rn sc d 101 58 [a0, a1, a2, a3, a4, a5, a6, .ref x7] (.ref x7 :: st) σ r := r_aload d101_56 rfl
theorem d101_58 : decode (mC 101) 58 = .ok (.getfield 243, 3) := by decide +kernel
theorem x101_58 {sc : aSc} {d : Nat} {r : aRes} {L : List Value} {st : List Value} {f : Nat → Nat → Int32} {g : Nat → Nat → Int64} {h1 h2 : Nat} {o : Nat} (h17 : 17 ≤ o) (hK : KK[o]? = some (.inl 4)) : Rn sc d 101 58 L (.ref o :: st) (cS f g h1 h2) r ↔ Rn sc d 101 61 L (.int (f o 0) :: st) (cS f g h1 h2) r := r_getI d101_58 (ci := 4) (k := 0) rfl (by decide) (fun _ => rfl) h17 hK
theorem d101_61 : decode (mC 101) 61 = .ok (.if_icmp .eq 6, 3) := by decide +kernel
theorem x101_61 {sc : aSc} {d : Nat} {r : aRes} {L : List Value} {st : List Value} {σ : aS} {x y : Int32} : Rn sc d 101 61 L (.int y :: .int x :: st) σ r ↔ if x = y then Rn sc d 101 67 L st σ r else Rn sc d 101 64 L st σ r := r_icmp_eq d101_61 rfl
theorem d101_64 : decode (mC 101) 64 = .ok (.bipush (-12), 2) := by decide +kernel
theorem x101_64 {sc : aSc} {d : Nat} {r : aRes} {L : List Value} {st : List Value} {σ : aS} : Rn sc d 101 64 L st σ r ↔ Rn sc d 101 66 L (.int (-12) :: st) σ r := r_bipush d101_64 (by decide)
theorem d101_66 : decode (mC 101) 66 = .ok (.ireturn, 1) := by decide +kernel
theorem x101_66 {sc : aSc} {d : Nat} {r : aRes} {L : List Value} {σ : aS} {x : Int32} : Rn sc d 101 66 L [.int x] σ r ↔ r = (σ, some (.int x)) := r_iret d101_66 rfl rfl
theorem d101_67 : decode (mC 101) 67 = .ok (.iload 5, 2) := by decide +kernel
theorem x101_67 {sc : aSc} {d : Nat} {r : aRes} {a0 : Value} {a1 : Value} {a2 : Value} {a3 : Value} {a4 : Value} {x5 : Int32} {a6 : Value} {a7 : Value} {st : List Value} {σ : aS} : Rn sc d 101 67 [a0, a1, a2, a3, a4, .int x5, a6, a7] st σ r ↔ Rn sc d 101 69 [a0, a1, a2, a3, a4, .int x5, a6, a7] (.int x5 :: st) σ r := r_iload d101_67 rfl
theorem d101_69 : decode (mC 101) 69 = .ok (.ifCond .lt 37, 3) := by decide +kernel
theorem x101_69 {sc : aSc} {d : Nat} {r : aRes} {L : List Value} {st : List Value} {σ : aS} {x : Int32} : Rn sc d 101 69 L (.int x :: st) σ r ↔ if x < 0 then Rn sc d 101 106 L st σ r else Rn sc d 101 72 L st σ r := r_if_lt d101_69 rfl
theorem d101_72 : decode (mC 101) 72 = .ok (.iload_n 2, 1) := by decide +kernel
theorem x101_72 {sc : aSc} {d : Nat} {r : aRes} {a0 : Value} {a1 : Value} {x2 : Int32} {a3 : Value} {a4 : Value} {a5 : Value} {a6 : Value} {a7 : Value} {st : List Value} {σ : aS} : Rn sc d 101 72 [a0, a1, .int x2, a3, a4, a5, a6, a7] st σ r ↔ Rn sc d 101 73 [a0, a1, .int x2, a3, a4, a5, a6, a7] (.int x2 :: st) σ r := r_iload_n d101_72 rfl
theorem d101_73 : decode (mC 101) 73 = .ok (.ifCond .lt 33, 3) := by decide +kernel
theorem x101_73 {sc : aSc} {d : Nat} {r : aRes} {L : List Value} {st : List Value} {σ : aS} {x : Int32} : Rn sc d 101 73 L (.int x :: st) σ r ↔ if x < 0 then Rn sc d 101 106 L st σ r else Rn sc d 101 76 L st σ r := r_if_lt d101_73 rfl
theorem d101_76 : decode (mC 101) 76 = .ok (.iload 4, 2) := by decide +kernel
theorem x101_76 {sc : aSc} {d : Nat} {r : aRes} {a0 : Value} {a1 : Value} {a2 : Value} {a3 : Value} {x4 : Int32} {a5 : Value} {a6 : Value} {a7 : Value} {st : List Value} {σ : aS} : Rn sc d 101 76 [a0, a1, a2, a3, .int x4, a5, a6, a7] st σ r ↔ Rn sc d 101 78 [a0, a1, a2, a3, .int x4, a5, a6, a7] (.int x4 :: st) σ r := r_iload d101_76 rfl
theorem d101_78 : decode (mC 101) 78 = .ok (.ifCond .lt 28, 3) := by decide +kernel
theorem x101_78 {sc : aSc} {d : Nat} {r : aRes} {L : List Value} {st : List Value} {σ : aS} {x : Int32} : Rn sc d 101 78 L (.int x :: st) σ r ↔ if x < 0 then Rn sc d 101 106 L st σ r else Rn sc d 101 81 L st σ r := r_if_lt d101_78 rfl
theorem d101_81 : decode (mC 101) 81 = .ok (.iload_n 2, 1) := by decide +kernel
theorem x101_81 {sc : aSc} {d : Nat} {r : aRes} {a0 : Value} {a1 : Value} {x2 : Int32} {a3 : Value} {a4 : Value} {a5 : Value} {a6 : Value} {a7 : Value} {st : List Value} {σ : aS} : Rn sc d 101 81 [a0, a1, .int x2, a3, a4, a5, a6, a7] st σ r ↔ Rn sc d 101 82 [a0, a1, .int x2, a3, a4, a5, a6, a7] (.int x2 :: st) σ r := r_iload_n d101_81 rfl
theorem d101_82 : decode (mC 101) 82 = .ok (.aload 6, 2) := by decide +kernel
theorem x101_82 {sc : aSc} {d : Nat} {r : aRes} {a0 : Value} {a1 : Value} {a2 : Value} {a3 : Value} {a4 : Value} {a5 : Value} {x6 : Nat} {a7 : Value} {st : List Value} {σ : aS} : Rn sc d 101 82 [a0, a1, a2, a3, a4, a5, .ref x6, a7] st σ r ↔ Rn sc d 101 84 [a0, a1, a2, a3, a4, a5, .ref x6, a7] (.ref x6 :: st) σ r := r_aload d101_82 rfl
theorem d101_84 : decode (mC 101) 84 = .ok (.getfield 246, 3) := by decide +kernel
theorem x101_84 {sc : aSc} {d : Nat} {r : aRes} {L : List Value} {st : List Value} {f : Nat → Nat → Int32} {g : Nat → Nat → Int64} {h1 h2 : Nat} {o : Nat} (h17 : 17 ≤ o) (hK : KK[o]? = some (.inl 4)) : Rn sc d 101 84 L (.ref o :: st) (cS f g h1 h2) r ↔ Rn sc d 101 87 L (.int (f o 1) :: st) (cS f g h1 h2) r := r_getI d101_84 (ci := 4) (k := 1) rfl (by decide) (fun _ => rfl) h17 hK
theorem d101_87 : decode (mC 101) 87 = .ok (.iload 5, 2) := by decide +kernel
theorem x101_87 {sc : aSc} {d : Nat} {r : aRes} {a0 : Value} {a1 : Value} {a2 : Value} {a3 : Value} {a4 : Value} {x5 : Int32} {a6 : Value} {a7 : Value} {st : List Value} {σ : aS} : Rn sc d 101 87 [a0, a1, a2, a3, a4, .int x5, a6, a7] st σ r ↔ Rn sc d 101 89 [a0, a1, a2, a3, a4, .int x5, a6, a7] (.int x5 :: st) σ r := r_iload d101_87 rfl
theorem d101_89 : decode (mC 101) 89 = .ok (.isub, 1) := by decide +kernel
theorem x101_89 {sc : aSc} {d : Nat} {r : aRes} {L : List Value} {st : List Value} {σ : aS} {x y : Int32} : Rn sc d 101 89 L (.int y :: .int x :: st) σ r ↔ Rn sc d 101 90 L (.int (x - y) :: st) σ r := r_isub d101_89
theorem d101_90 : decode (mC 101) 90 = .ok (.if_icmp .gt 16, 3) := by decide +kernel
theorem x101_90 {sc : aSc} {d : Nat} {r : aRes} {L : List Value} {st : List Value} {σ : aS} {x y : Int32} : Rn sc d 101 90 L (.int y :: .int x :: st) σ r ↔ if y < x then Rn sc d 101 106 L st σ r else Rn sc d 101 93 L st σ r := r_icmp_gt d101_90 rfl
theorem d101_93 : decode (mC 101) 93 = .ok (.iload 4, 2) := by decide +kernel
theorem x101_93 {sc : aSc} {d : Nat} {r : aRes} {a0 : Value} {a1 : Value} {a2 : Value} {a3 : Value} {x4 : Int32} {a5 : Value} {a6 : Value} {a7 : Value} {st : List Value} {σ : aS} : Rn sc d 101 93 [a0, a1, a2, a3, .int x4, a5, a6, a7] st σ r ↔ Rn sc d 101 95 [a0, a1, a2, a3, .int x4, a5, a6, a7] (.int x4 :: st) σ r := r_iload d101_93 rfl
theorem d101_95 : decode (mC 101) 95 = .ok (.aload 7, 2) := by decide +kernel
theorem x101_95 {sc : aSc} {d : Nat} {r : aRes} {a0 : Value} {a1 : Value} {a2 : Value} {a3 : Value} {a4 : Value} {a5 : Value} {a6 : Value} {x7 : Nat} {st : List Value} {σ : aS} : Rn sc d 101 95 [a0, a1, a2, a3, a4, a5, a6, .ref x7] st σ r ↔ Rn sc d 101 97 [a0, a1, a2, a3, a4, a5, a6, .ref x7] (.ref x7 :: st) σ r := r_aload d101_95 rfl
theorem d101_97 : decode (mC 101) 97 = .ok (.getfield 246, 3) := by decide +kernel
theorem x101_97 {sc : aSc} {d : Nat} {r : aRes} {L : List Value} {st : List Value} {f : Nat → Nat → Int32} {g : Nat → Nat → Int64} {h1 h2 : Nat} {o : Nat} (h17 : 17 ≤ o) (hK : KK[o]? = some (.inl 4)) : Rn sc d 101 97 L (.ref o :: st) (cS f g h1 h2) r ↔ Rn sc d 101 100 L (.int (f o 1) :: st) (cS f g h1 h2) r := r_getI d101_97 (ci := 4) (k := 1) rfl (by decide) (fun _ => rfl) h17 hK
theorem d101_100 : decode (mC 101) 100 = .ok (.iload 5, 2) := by decide +kernel
theorem x101_100 {sc : aSc} {d : Nat} {r : aRes} {a0 : Value} {a1 : Value} {a2 : Value} {a3 : Value} {a4 : Value} {x5 : Int32} {a6 : Value} {a7 : Value} {st : List Value} {σ : aS} : Rn sc d 101 100 [a0, a1, a2, a3, a4, .int x5, a6, a7] st σ r ↔ Rn sc d 101 102 [a0, a1, a2, a3, a4, .int x5, a6, a7] (.int x5 :: st) σ r := r_iload d101_100 rfl
theorem d101_102 : decode (mC 101) 102 = .ok (.isub, 1) := by decide +kernel
theorem x101_102 {sc : aSc} {d : Nat} {r : aRes} {L : List Value} {st : List Value} {σ : aS} {x y : Int32} : Rn sc d 101 102 L (.int y :: .int x :: st) σ r ↔ Rn sc d 101 103 L (.int (x - y) :: st) σ r := r_isub d101_102
theorem d101_103 : decode (mC 101) 103 = .ok (.if_icmp .le 6, 3) := by decide +kernel
theorem x101_103 {sc : aSc} {d : Nat} {r : aRes} {L : List Value} {st : List Value} {σ : aS} {x y : Int32} : Rn sc d 101 103 L (.int y :: .int x :: st) σ r ↔ if y < x then Rn sc d 101 106 L st σ r else Rn sc d 101 109 L st σ r := r_icmp_le d101_103 rfl
theorem d101_106 : decode (mC 101) 106 = .ok (.bipush (-13), 2) := by decide +kernel
theorem x101_106 {sc : aSc} {d : Nat} {r : aRes} {L : List Value} {st : List Value} {σ : aS} : Rn sc d 101 106 L st σ r ↔ Rn sc d 101 108 L (.int (-13) :: st) σ r := r_bipush d101_106 (by decide)
theorem d101_108 : decode (mC 101) 108 = .ok (.ireturn, 1) := by decide +kernel
theorem x101_108 {sc : aSc} {d : Nat} {r : aRes} {L : List Value} {σ : aS} {x : Int32} : Rn sc d 101 108 L [.int x] σ r ↔ r = (σ, some (.int x)) := r_iret d101_108 rfl rfl
theorem d101_109 : decode (mC 101) 109 = .ok (.aload 6, 2) := by decide +kernel
theorem x101_109 {sc : aSc} {d : Nat} {r : aRes} {a0 : Value} {a1 : Value} {a2 : Value} {a3 : Value} {a4 : Value} {a5 : Value} {x6 : Nat} {a7 : Value} {st : List Value} {σ : aS} : Rn sc d 101 109 [a0, a1, a2, a3, a4, a5, .ref x6, a7] st σ r ↔ Rn sc d 101 111 [a0, a1, a2, a3, a4, a5, .ref x6, a7] (.ref x6 :: st) σ r := r_aload d101_109 rfl
theorem d101_111 : decode (mC 101) 111 = .ok (.getfield 247, 3) := by decide +kernel
theorem x101_111 {sc : aSc} {d : Nat} {r : aRes} {L : List Value} {st : List Value} {f : Nat → Nat → Int32} {g : Nat → Nat → Int64} {h1 h2 : Nat} {o : Nat} (hK : KK[o]? = some (.inl 4)) (hR : (RR h1 h2 o 2).isSome = true) : Rn sc d 101 111 L (.ref o :: st) (cS f g h1 h2) r ↔ Rn sc d 101 114 L (.ref (rf h1 h2 o 2) :: st) (cS f g h1 h2) r := r_getR2 d101_111 (ci := 4) (k := 2) rfl (by decide) (fun _ => rfl) hK hR
theorem d101_114 : decode (mC 101) 114 = .ok (.iload_n 2, 1) := by decide +kernel
theorem x101_114 {sc : aSc} {d : Nat} {r : aRes} {a0 : Value} {a1 : Value} {x2 : Int32} {a3 : Value} {a4 : Value} {a5 : Value} {a6 : Value} {a7 : Value} {st : List Value} {σ : aS} : Rn sc d 101 114 [a0, a1, .int x2, a3, a4, a5, a6, a7] st σ r ↔ Rn sc d 101 115 [a0, a1, .int x2, a3, a4, a5, a6, a7] (.int x2 :: st) σ r := r_iload_n d101_114 rfl
theorem d101_115 : decode (mC 101) 115 = .ok (.aload 7, 2) := by decide +kernel
theorem x101_115 {sc : aSc} {d : Nat} {r : aRes} {a0 : Value} {a1 : Value} {a2 : Value} {a3 : Value} {a4 : Value} {a5 : Value} {a6 : Value} {x7 : Nat} {st : List Value} {σ : aS} : Rn sc d 101 115 [a0, a1, a2, a3, a4, a5, a6, .ref x7] st σ r ↔ Rn sc d 101 117 [a0, a1, a2, a3, a4, a5, a6, .ref x7] (.ref x7 :: st) σ r := r_aload d101_115 rfl
theorem d101_117 : decode (mC 101) 117 = .ok (.getfield 247, 3) := by decide +kernel
theorem x101_117 {sc : aSc} {d : Nat} {r : aRes} {L : List Value} {st : List Value} {f : Nat → Nat → Int32} {g : Nat → Nat → Int64} {h1 h2 : Nat} {o : Nat} (hK : KK[o]? = some (.inl 4)) (hR : (RR h1 h2 o 2).isSome = true) : Rn sc d 101 117 L (.ref o :: st) (cS f g h1 h2) r ↔ Rn sc d 101 120 L (.ref (rf h1 h2 o 2) :: st) (cS f g h1 h2) r := r_getR2 d101_117 (ci := 4) (k := 2) rfl (by decide) (fun _ => rfl) hK hR
theorem d101_120 : decode (mC 101) 120 = .ok (.iload 4, 2) := by decide +kernel
theorem x101_120 {sc : aSc} {d : Nat} {r : aRes} {a0 : Value} {a1 : Value} {a2 : Value} {a3 : Value} {x4 : Int32} {a5 : Value} {a6 : Value} {a7 : Value} {st : List Value} {σ : aS} : Rn sc d 101 120 [a0, a1, a2, a3, .int x4, a5, a6, a7] st σ r ↔ Rn sc d 101 122 [a0, a1, a2, a3, .int x4, a5, a6, a7] (.int x4 :: st) σ r := r_iload d101_120 rfl
theorem d101_122 : decode (mC 101) 122 = .ok (.iload 5, 2) := by decide +kernel
theorem x101_122 {sc : aSc} {d : Nat} {r : aRes} {a0 : Value} {a1 : Value} {a2 : Value} {a3 : Value} {a4 : Value} {x5 : Int32} {a6 : Value} {a7 : Value} {st : List Value} {σ : aS} : Rn sc d 101 122 [a0, a1, a2, a3, a4, .int x5, a6, a7] st σ r ↔ Rn sc d 101 124 [a0, a1, a2, a3, a4, .int x5, a6, a7] (.int x5 :: st) σ r := r_iload d101_122 rfl
theorem d101_124 : decode (mC 101) 124 = .ok (.invokestatic 280, 3) := by decide +kernel
theorem x101_124 {sc : aSc} {d : Nat} {r : aRes} {L : List Value} {f : Nat → Nat → Int32} {g : Nat → Nat → Int64} {h1 h2 : Nat} {a b : Nat} {sp dp n : Int32} (ha17 : 17 ≤ a) (hb17 : 17 ≤ b) (hA : isT9 .int a) (hB : isT9 .int b) (hn : ¬ n < 0) (hdp : ¬ dp < 0) (hsp : ¬ sp < 0) (hb1 : sp.toNatClampNeg + n.toNatClampNeg ≤ aln a) (hb2 : dp.toNatClampNeg + n.toNatClampNeg ≤ aln b) : Rn sc d 101 124 L [.int n, .int dp, .ref b, .int sp, .ref a] (cS f g h1 h2) r ↔ Rn sc d 101 127 L [] (cS (va_up f b (va_cpy (f a) (f b) sp.toNatClampNeg dp.toNatClampNeg n.toNatClampNeg)) g h1 h2) r := r_copyI d101_124 rfl ha17 hb17 hA hB hn hdp hsp (by decide) hb1 hb2
theorem x101_124j {sc : aSc} {d : Nat} {r : aRes} {L : List Value} {f : Nat → Nat → Int32} {g : Nat → Nat → Int64} {h1 h2 : Nat} {a b : Nat} {sp dp n : Int32} (ha17 : 17 ≤ a) (hb17 : 17 ≤ b) (hA : isT9 .long a) (hB : isT9 .long b) (hn : ¬ n < 0) (hdp : ¬ dp < 0) (hsp : ¬ sp < 0) (hb1 : sp.toNatClampNeg + n.toNatClampNeg ≤ aln a) (hb2 : dp.toNatClampNeg + n.toNatClampNeg ≤ aln b) : Rn sc d 101 124 L [.int n, .int dp, .ref b, .int sp, .ref a] (cS f g h1 h2) r ↔ Rn sc d 101 127 L [] (cS f (va_up g b (va_cpy (g a) (g b) sp.toNatClampNeg dp.toNatClampNeg n.toNatClampNeg)) h1 h2) r := r_copyJ d101_124 rfl ha17 hb17 hA hB hn hdp hsp (by decide) hb1 hb2
theorem d101_127 : decode (mC 101) 127 = .ok (.iload 5, 2) := by decide +kernel
theorem x101_127 {sc : aSc} {d : Nat} {r : aRes} {a0 : Value} {a1 : Value} {a2 : Value} {a3 : Value} {a4 : Value} {x5 : Int32} {a6 : Value} {a7 : Value} {st : List Value} {σ : aS} : Rn sc d 101 127 [a0, a1, a2, a3, a4, .int x5, a6, a7] st σ r ↔ Rn sc d 101 129 [a0, a1, a2, a3, a4, .int x5, a6, a7] (.int x5 :: st) σ r := r_iload d101_127 rfl
theorem d101_129 : decode (mC 101) 129 = .ok (.ireturn, 1) := by decide +kernel
theorem x101_129 {sc : aSc} {d : Nat} {r : aRes} {L : List Value} {σ : aS} {x : Int32} : Rn sc d 101 129 L [.int x] σ r ↔ r = (σ, some (.int x)) := r_iret d101_129 rfl rfl
theorem d102_0 : decode (mC 102) 0 = .ok (.iload_n 0, 1) := by decide +kernel
theorem x102_0 {sc : aSc} {d : Nat} {r : aRes} {x0 : Int32} {a1 : Value} {st : List Value} {σ : aS} : Rn sc d 102 0 [.int x0, a1] st σ r ↔ Rn sc d 102 1 [.int x0, a1] (.int x0 :: st) σ r := r_iload_n d102_0 rfl
theorem d102_1 : decode (mC 102) 1 = .ok (.ifCond .lt 12, 3) := by decide +kernel
theorem x102_1 {sc : aSc} {d : Nat} {r : aRes} {L : List Value} {st : List Value} {σ : aS} {x : Int32} : Rn sc d 102 1 L (.int x :: st) σ r ↔ if x < 0 then Rn sc d 102 13 L st σ r else Rn sc d 102 4 L st σ r := r_if_lt d102_1 rfl
theorem d102_4 : decode (mC 102) 4 = .ok (.iload_n 0, 1) := by decide +kernel
theorem x102_4 {sc : aSc} {d : Nat} {r : aRes} {x0 : Int32} {a1 : Value} {st : List Value} {σ : aS} : Rn sc d 102 4 [.int x0, a1] st σ r ↔ Rn sc d 102 5 [.int x0, a1] (.int x0 :: st) σ r := r_iload_n d102_4 rfl
theorem d102_5 : decode (mC 102) 5 = .ok (.iload_n 1, 1) := by decide +kernel
theorem x102_5 {sc : aSc} {d : Nat} {r : aRes} {a0 : Value} {x1 : Int32} {st : List Value} {σ : aS} : Rn sc d 102 5 [a0, .int x1] st σ r ↔ Rn sc d 102 6 [a0, .int x1] (.int x1 :: st) σ r := r_iload_n d102_5 rfl
theorem d102_6 : decode (mC 102) 6 = .ok (.if_icmp .gt 7, 3) := by decide +kernel
theorem x102_6 {sc : aSc} {d : Nat} {r : aRes} {L : List Value} {st : List Value} {σ : aS} {x y : Int32} : Rn sc d 102 6 L (.int y :: .int x :: st) σ r ↔ if y < x then Rn sc d 102 13 L st σ r else Rn sc d 102 9 L st σ r := r_icmp_gt d102_6 rfl
theorem d102_9 : decode (mC 102) 9 = .ok (.iconst 1, 1) := by decide +kernel
theorem x102_9 {sc : aSc} {d : Nat} {r : aRes} {L : List Value} {st : List Value} {σ : aS} : Rn sc d 102 9 L st σ r ↔ Rn sc d 102 10 L (.int 1 :: st) σ r := r_iconst d102_9 (by decide)
theorem d102_10 : decode (mC 102) 10 = .ok (.goto 4, 3) := by decide +kernel
theorem x102_10 {sc : aSc} {d : Nat} {r : aRes} {L : List Value} {st : List Value} {σ : aS} : Rn sc d 102 10 L st σ r ↔ Rn sc d 102 14 L st σ r := r_goto d102_10 rfl
theorem d102_13 : decode (mC 102) 13 = .ok (.iconst 0, 1) := by decide +kernel
theorem x102_13 {sc : aSc} {d : Nat} {r : aRes} {L : List Value} {st : List Value} {σ : aS} : Rn sc d 102 13 L st σ r ↔ Rn sc d 102 14 L (.int 0 :: st) σ r := r_iconst d102_13 (by decide)
theorem d102_14 : decode (mC 102) 14 = .ok (.ireturn, 1) := by decide +kernel
theorem x102_14 {sc : aSc} {d : Nat} {r : aRes} {L : List Value} {σ : aS} {x : Int32} (hn : x &&& 1 = x) : Rn sc d 102 14 L [.int x] σ r ↔ r = (σ, some (.int x)) := r_iret d102_14 rfl (congrArg Value.int hn)
theorem d103_0 : decode (mC 103) 0 = .ok (.iload_n 0, 1) := by decide +kernel
theorem x103_0 {sc : aSc} {d : Nat} {r : aRes} {x0 : Int32} {st : List Value} {σ : aS} : Rn sc d 103 0 [.int x0] st σ r ↔ Rn sc d 103 1 [.int x0] (.int x0 :: st) σ r := r_iload_n d103_0 rfl
theorem d103_1 : decode (mC 103) 1 = .ok (.iconst 5, 1) := by decide +kernel
theorem x103_1 {sc : aSc} {d : Nat} {r : aRes} {L : List Value} {st : List Value} {σ : aS} : Rn sc d 103 1 L st σ r ↔ Rn sc d 103 2 L (.int 5 :: st) σ r := r_iconst d103_1 (by decide)
theorem d103_2 : decode (mC 103) 2 = .ok (.invokestatic 58, 3) := by decide +kernel
theorem x103_2 {sc : aSc} {d : Nat} {r : aRes} {L : List Value} {σ : aS} {y0 : Int32} {y1 : Int32}  : Rn sc d 103 2 L [.int y0, .int y1] σ r ↔ ∃ (σ3 : aS) (v : Option Value), Cl sc d 102 [.int y1, .int y0] σ (σ3, v) ∧ Rn sc d 103 5 L (v.toList ++ []) σ3 r := r_callS (vs := [.int y0, .int y1]) d103_2 rfl (j := 102) rfl ⟨rfl, by decide, rfl, rfl⟩ (Nat.le_of_ble_eq_true rfl)
theorem d103_5 : decode (mC 103) 5 = .ok (.ireturn, 1) := by decide +kernel
theorem x103_5 {sc : aSc} {d : Nat} {r : aRes} {L : List Value} {σ : aS} {x : Int32} (hn : x &&& 1 = x) : Rn sc d 103 5 L [.int x] σ r ↔ r = (σ, some (.int x)) := r_iret d103_5 rfl (congrArg Value.int hn)
theorem d104_0 : decode (mC 104) 0 = .ok (.aload_n 0, 1) := by decide +kernel
theorem x104_0 {sc : aSc} {d : Nat} {r : aRes} {x0 : Nat} {a1 : Value} {a2 : Value} {st : List Value} {σ : aS} : Rn sc d 104 0 [.ref x0, a1, a2] st σ r ↔ Rn sc d 104 1 [.ref x0, a1, a2] (.ref x0 :: st) σ r := r_aload_n d104_0 rfl
theorem d104_1 : decode (mC 104) 1 = .ok (.getfield 50, 3) := by decide +kernel
theorem x104_1 {sc : aSc} {d : Nat} {r : aRes} {L : List Value} {st : List Value} {f : Nat → Nat → Int32} {g : Nat → Nat → Int64} {h1 h2 : Nat} {o : Nat} (hK : KK[o]? = some (.inl 6)) (hR : (RR h1 h2 o 0).isSome = true) : Rn sc d 104 1 L (.ref o :: st) (cS f g h1 h2) r ↔ Rn sc d 104 4 L (.ref (rf h1 h2 o 0) :: st) (cS f g h1 h2) r := r_getR2 d104_1 (ci := 6) (k := 0) rfl (by decide) (fun _ => rfl) hK hR
theorem d104_4 : decode (mC 104) 4 = .ok (.iload_n 1, 1) := by decide +kernel
theorem x104_4 {sc : aSc} {d : Nat} {r : aRes} {a0 : Value} {x1 : Int32} {a2 : Value} {st : List Value} {σ : aS} : Rn sc d 104 4 [a0, .int x1, a2] st σ r ↔ Rn sc d 104 5 [a0, .int x1, a2] (.int x1 :: st) σ r := r_iload_n d104_4 rfl
theorem d104_5 : decode (mC 104) 5 = .ok (.invokevirtual 70, 3) := by decide +kernel
theorem x104_5 {sc : aSc} {d : Nat} {r : aRes} {L : List Value} {f : Nat → Nat → Int32} {g : Nat → Nat → Int64} {h1 h2 : Nat} {y0 : Int32}  {o : Nat} (hK : KK[o]? = some (.inl 1)) : Rn sc d 104 5 L [.int y0, .ref o] (cS f g h1 h2) r ↔ ∃ (σ3 : aS) (v : Option Value), Cl sc d 7 [.ref o, .int y0] (cS f g h1 h2) (σ3, v) ∧ Rn sc d 104 8 L (v.toList ++ []) σ3 r := r_callV (vs := [.int y0]) d104_5 (j := 7) rfl ⟨rfl, by decide, rfl, rfl⟩ (Nat.le_of_ble_eq_true rfl) hK
theorem d104_8 : decode (mC 104) 8 = .ok (.ifCond .eq 14, 3) := by decide +kernel
theorem x104_8 {sc : aSc} {d : Nat} {r : aRes} {L : List Value} {st : List Value} {σ : aS} {x : Int32} : Rn sc d 104 8 L (.int x :: st) σ r ↔ if x = 0 then Rn sc d 104 22 L st σ r else Rn sc d 104 11 L st σ r := r_if_eq d104_8 rfl
theorem d104_11 : decode (mC 104) 11 = .ok (.aload_n 0, 1) := by decide +kernel
theorem x104_11 {sc : aSc} {d : Nat} {r : aRes} {x0 : Nat} {a1 : Value} {a2 : Value} {st : List Value} {σ : aS} : Rn sc d 104 11 [.ref x0, a1, a2] st σ r ↔ Rn sc d 104 12 [.ref x0, a1, a2] (.ref x0 :: st) σ r := r_aload_n d104_11 rfl
theorem d104_12 : decode (mC 104) 12 = .ok (.getfield 50, 3) := by decide +kernel
theorem x104_12 {sc : aSc} {d : Nat} {r : aRes} {L : List Value} {st : List Value} {f : Nat → Nat → Int32} {g : Nat → Nat → Int64} {h1 h2 : Nat} {o : Nat} (hK : KK[o]? = some (.inl 6)) (hR : (RR h1 h2 o 0).isSome = true) : Rn sc d 104 12 L (.ref o :: st) (cS f g h1 h2) r ↔ Rn sc d 104 15 L (.ref (rf h1 h2 o 0) :: st) (cS f g h1 h2) r := r_getR2 d104_12 (ci := 6) (k := 0) rfl (by decide) (fun _ => rfl) hK hR
theorem d104_15 : decode (mC 104) 15 = .ok (.iload_n 2, 1) := by decide +kernel
theorem x104_15 {sc : aSc} {d : Nat} {r : aRes} {a0 : Value} {a1 : Value} {x2 : Int32} {st : List Value} {σ : aS} : Rn sc d 104 15 [a0, a1, .int x2] st σ r ↔ Rn sc d 104 16 [a0, a1, .int x2] (.int x2 :: st) σ r := r_iload_n d104_15 rfl
theorem d104_16 : decode (mC 104) 16 = .ok (.invokevirtual 70, 3) := by decide +kernel
theorem x104_16 {sc : aSc} {d : Nat} {r : aRes} {L : List Value} {f : Nat → Nat → Int32} {g : Nat → Nat → Int64} {h1 h2 : Nat} {y0 : Int32}  {o : Nat} (hK : KK[o]? = some (.inl 1)) : Rn sc d 104 16 L [.int y0, .ref o] (cS f g h1 h2) r ↔ ∃ (σ3 : aS) (v : Option Value), Cl sc d 7 [.ref o, .int y0] (cS f g h1 h2) (σ3, v) ∧ Rn sc d 104 19 L (v.toList ++ []) σ3 r := r_callV (vs := [.int y0]) d104_16 (j := 7) rfl ⟨rfl, by decide, rfl, rfl⟩ (Nat.le_of_ble_eq_true rfl) hK
theorem d104_19 : decode (mC 104) 19 = .ok (.ifCond .ne 5, 3) := by decide +kernel
theorem x104_19 {sc : aSc} {d : Nat} {r : aRes} {L : List Value} {st : List Value} {σ : aS} {x : Int32} : Rn sc d 104 19 L (.int x :: st) σ r ↔ if x = 0 then Rn sc d 104 22 L st σ r else Rn sc d 104 24 L st σ r := r_if_ne d104_19 rfl
theorem d104_22 : decode (mC 104) 22 = .ok (.iconst (-1), 1) := by decide +kernel
theorem x104_22 {sc : aSc} {d : Nat} {r : aRes} {L : List Value} {st : List Value} {σ : aS} : Rn sc d 104 22 L st σ r ↔ Rn sc d 104 23 L (.int (-1) :: st) σ r := r_iconst d104_22 (by decide)
theorem d104_23 : decode (mC 104) 23 = .ok (.ireturn, 1) := by decide +kernel
theorem x104_23 {sc : aSc} {d : Nat} {r : aRes} {L : List Value} {σ : aS} {x : Int32} : Rn sc d 104 23 L [.int x] σ r ↔ r = (σ, some (.int x)) := r_iret d104_23 rfl rfl
theorem d104_24 : decode (mC 104) 24 = .ok (.iload_n 1, 1) := by decide +kernel
theorem x104_24 {sc : aSc} {d : Nat} {r : aRes} {a0 : Value} {x1 : Int32} {a2 : Value} {st : List Value} {σ : aS} : Rn sc d 104 24 [a0, .int x1, a2] st σ r ↔ Rn sc d 104 25 [a0, .int x1, a2] (.int x1 :: st) σ r := r_iload_n d104_24 rfl
theorem d104_25 : decode (mC 104) 25 = .ok (.iload_n 2, 1) := by decide +kernel
theorem x104_25 {sc : aSc} {d : Nat} {r : aRes} {a0 : Value} {a1 : Value} {x2 : Int32} {st : List Value} {σ : aS} : Rn sc d 104 25 [a0, a1, .int x2] st σ r ↔ Rn sc d 104 26 [a0, a1, .int x2] (.int x2 :: st) σ r := r_iload_n d104_25 rfl
theorem d104_26 : decode (mC 104) 26 = .ok (.if_icmp .ne 8, 3) := by decide +kernel
theorem x104_26 {sc : aSc} {d : Nat} {r : aRes} {L : List Value} {st : List Value} {σ : aS} {x y : Int32} : Rn sc d 104 26 L (.int y :: .int x :: st) σ r ↔ if x = y then Rn sc d 104 29 L st σ r else Rn sc d 104 34 L st σ r := r_icmp_ne d104_26 rfl
theorem d104_29 : decode (mC 104) 29 = .ok (.bipush (-2), 2) := by decide +kernel
theorem x104_29 {sc : aSc} {d : Nat} {r : aRes} {L : List Value} {st : List Value} {σ : aS} : Rn sc d 104 29 L st σ r ↔ Rn sc d 104 31 L (.int (-2) :: st) σ r := r_bipush d104_29 (by decide)
theorem d104_31 : decode (mC 104) 31 = .ok (.goto 4, 3) := by decide +kernel
theorem x104_31 {sc : aSc} {d : Nat} {r : aRes} {L : List Value} {st : List Value} {σ : aS} : Rn sc d 104 31 L st σ r ↔ Rn sc d 104 35 L st σ r := r_goto d104_31 rfl
theorem d104_34 : decode (mC 104) 34 = .ok (.iconst 0, 1) := by decide +kernel
theorem x104_34 {sc : aSc} {d : Nat} {r : aRes} {L : List Value} {st : List Value} {σ : aS} : Rn sc d 104 34 L st σ r ↔ Rn sc d 104 35 L (.int 0 :: st) σ r := r_iconst d104_34 (by decide)
theorem d104_35 : decode (mC 104) 35 = .ok (.ireturn, 1) := by decide +kernel
theorem x104_35 {sc : aSc} {d : Nat} {r : aRes} {L : List Value} {σ : aS} {x : Int32} : Rn sc d 104 35 L [.int x] σ r ↔ r = (σ, some (.int x)) := r_iret d104_35 rfl rfl
theorem d105_0 : decode (mC 105) 0 = .ok (.iload_n 0, 1) := by decide +kernel
theorem x105_0 {sc : aSc} {d : Nat} {r : aRes} {x0 : Int32} {a1 : Value} {a2 : Value} {a3 : Value} {st : List Value} {σ : aS} : Rn sc d 105 0 [.int x0, a1, a2, a3] st σ r ↔ Rn sc d 105 1 [.int x0, a1, a2, a3] (.int x0 :: st) σ r := r_iload_n d105_0 rfl
theorem d105_1 : decode (mC 105) 1 = .ok (.istore_n 2, 1) := by decide +kernel
theorem x105_1 {sc : aSc} {d : Nat} {r : aRes} {a0 : Value} {x1 : Int32} {a2 : Value} {a3 : Value} {st : List Value} {σ : aS} {y : Int32} : Rn sc d 105 1 [a0, .int x1, a2, a3] (.int y :: st) σ r ↔ Rn sc d 105 2 [a0, .int x1, .int y, a3] st σ r := r_istore_n d105_1 (Nat.le_of_ble_eq_true rfl) rfl
theorem d105_2 : decode (mC 105) 2 = .ok (.iconst 0, 1) := by decide +kernel
theorem x105_2 {sc : aSc} {d : Nat} {r : aRes} {L : List Value} {st : List Value} {σ : aS} : Rn sc d 105 2 L st σ r ↔ Rn sc d 105 3 L (.int 0 :: st) σ r := r_iconst d105_2 (by decide)
theorem d105_3 : decode (mC 105) 3 = .ok (.istore_n 3, 1) := by decide +kernel
theorem x105_3 {sc : aSc} {d : Nat} {r : aRes} {a0 : Value} {a1 : Value} {x2 : Int32} {a3 : Value} {st : List Value} {σ : aS} {y : Int32} : Rn sc d 105 3 [a0, a1, .int x2, a3] (.int y :: st) σ r ↔ Rn sc d 105 4 [a0, a1, .int x2, .int y] st σ r := r_istore_n d105_3 (Nat.le_of_ble_eq_true rfl) rfl
theorem d105_4 : decode (mC 105) 4 = .ok (.iload_n 3, 1) := by decide +kernel
theorem x105_4 {sc : aSc} {d : Nat} {r : aRes} {a0 : Value} {a1 : Value} {a2 : Value} {x3 : Int32} {st : List Value} {σ : aS} : Rn sc d 105 4 [a0, a1, a2, .int x3] st σ r ↔ Rn sc d 105 5 [a0, a1, a2, .int x3] (.int x3 :: st) σ r := r_iload_n d105_4 rfl
theorem d105_5 : decode (mC 105) 5 = .ok (.getstatic 286, 3) := by decide +kernel
theorem x105_5 {sc : aSc} {d : Nat} {r : aRes} {L : List Value} {st : List Value} {σ : aS} : Rn sc d 105 5 L st σ r ↔ Rn sc d 105 8 L (.ref 1 :: st) σ r := r_getstatic d105_5 (k := 0) rfl
theorem d105_8 : decode (mC 105) 8 = .ok (.arraylength, 1) := by decide +kernel
theorem x105_8 {sc : aSc} {d : Nat} {r : aRes} {L : List Value} {st : List Value} {f : Nat → Nat → Int32} {g : Nat → Nat → Int64} {h1 h2 : Nat} {a : Nat} (h0 : ¬ a = 0) (hA : isA a) : Rn sc d 105 8 L (.ref a :: st) (cS f g h1 h2) r ↔ Rn sc d 105 9 L (.int (nI (aln a)) :: st) (cS f g h1 h2) r := r_alen2 d105_8 h0 hA
theorem d105_9 : decode (mC 105) 9 = .ok (.if_icmp .ge 26, 3) := by decide +kernel
theorem x105_9 {sc : aSc} {d : Nat} {r : aRes} {L : List Value} {st : List Value} {σ : aS} {x y : Int32} : Rn sc d 105 9 L (.int y :: .int x :: st) σ r ↔ if x < y then Rn sc d 105 12 L st σ r else Rn sc d 105 35 L st σ r := r_icmp_ge d105_9 rfl
theorem d105_12 : decode (mC 105) 12 = .ok (.iload_n 2, 1) := by decide +kernel
theorem x105_12 {sc : aSc} {d : Nat} {r : aRes} {a0 : Value} {a1 : Value} {x2 : Int32} {a3 : Value} {st : List Value} {σ : aS} : Rn sc d 105 12 [a0, a1, .int x2, a3] st σ r ↔ Rn sc d 105 13 [a0, a1, .int x2, a3] (.int x2 :: st) σ r := r_iload_n d105_12 rfl
theorem d105_13 : decode (mC 105) 13 = .ok (.ifCond .lt 22, 3) := by decide +kernel
theorem x105_13 {sc : aSc} {d : Nat} {r : aRes} {L : List Value} {st : List Value} {σ : aS} {x : Int32} : Rn sc d 105 13 L (.int x :: st) σ r ↔ if x < 0 then Rn sc d 105 35 L st σ r else Rn sc d 105 16 L st σ r := r_if_lt d105_13 rfl
theorem d105_16 : decode (mC 105) 16 = .ok (.iload_n 2, 1) := by decide +kernel
theorem x105_16 {sc : aSc} {d : Nat} {r : aRes} {a0 : Value} {a1 : Value} {x2 : Int32} {a3 : Value} {st : List Value} {σ : aS} : Rn sc d 105 16 [a0, a1, .int x2, a3] st σ r ↔ Rn sc d 105 17 [a0, a1, .int x2, a3] (.int x2 :: st) σ r := r_iload_n d105_16 rfl
theorem d105_17 : decode (mC 105) 17 = .ok (.iload_n 1, 1) := by decide +kernel
theorem x105_17 {sc : aSc} {d : Nat} {r : aRes} {a0 : Value} {x1 : Int32} {a2 : Value} {a3 : Value} {st : List Value} {σ : aS} : Rn sc d 105 17 [a0, .int x1, a2, a3] st σ r ↔ Rn sc d 105 18 [a0, .int x1, a2, a3] (.int x1 :: st) σ r := r_iload_n d105_17 rfl
theorem d105_18 : decode (mC 105) 18 = .ok (.if_icmp .ne 5, 3) := by decide +kernel
theorem x105_18 {sc : aSc} {d : Nat} {r : aRes} {L : List Value} {st : List Value} {σ : aS} {x y : Int32} : Rn sc d 105 18 L (.int y :: .int x :: st) σ r ↔ if x = y then Rn sc d 105 21 L st σ r else Rn sc d 105 23 L st σ r := r_icmp_ne d105_18 rfl
theorem d105_21 : decode (mC 105) 21 = .ok (.iconst 1, 1) := by decide +kernel
theorem x105_21 {sc : aSc} {d : Nat} {r : aRes} {L : List Value} {st : List Value} {σ : aS} : Rn sc d 105 21 L st σ r ↔ Rn sc d 105 22 L (.int 1 :: st) σ r := r_iconst d105_21 (by decide)
theorem d105_22 : decode (mC 105) 22 = .ok (.ireturn, 1) := by decide +kernel
theorem x105_22 {sc : aSc} {d : Nat} {r : aRes} {L : List Value} {σ : aS} {x : Int32} (hn : x &&& 1 = x) : Rn sc d 105 22 L [.int x] σ r ↔ r = (σ, some (.int x)) := r_iret d105_22 rfl (congrArg Value.int hn)
theorem d105_23 : decode (mC 105) 23 = .ok (.getstatic 286, 3) := by decide +kernel
theorem x105_23 {sc : aSc} {d : Nat} {r : aRes} {L : List Value} {st : List Value} {σ : aS} : Rn sc d 105 23 L st σ r ↔ Rn sc d 105 26 L (.ref 1 :: st) σ r := r_getstatic d105_23 (k := 0) rfl
theorem d105_26 : decode (mC 105) 26 = .ok (.iload_n 2, 1) := by decide +kernel
theorem x105_26 {sc : aSc} {d : Nat} {r : aRes} {a0 : Value} {a1 : Value} {x2 : Int32} {a3 : Value} {st : List Value} {σ : aS} : Rn sc d 105 26 [a0, a1, .int x2, a3] st σ r ↔ Rn sc d 105 27 [a0, a1, .int x2, a3] (.int x2 :: st) σ r := r_iload_n d105_26 rfl
theorem d105_27 : decode (mC 105) 27 = .ok (.iaload, 1) := by decide +kernel
theorem x105_27 {sc : aSc} {d : Nat} {r : aRes} {L : List Value} {st : List Value} {f : Nat → Nat → Int32} {g : Nat → Nat → Int64} {h1 h2 : Nat} {a : Nat} {i : Int32} (h17 : 17 ≤ a) (hA : isT9 .int a) (hi : inb i (aln a) = true) : Rn sc d 105 27 L (.int i :: .ref a :: st) (cS f g h1 h2) r ↔ Rn sc d 105 28 L (.int (f a i.toNatClampNeg) :: st) (cS f g h1 h2) r := r_iald d105_27 h17 hA hi
theorem x105_27s {sc : aSc} {d : Nat} {r : aRes} {L : List Value} {st : List Value} {f : Nat → Nat → Int32} {g : Nat → Nat → Int64} {h1 h2 : Nat} {a : Nat} {i : Int32} (h0 : ¬ a = 0) (h17 : a < 17) (hA : isT9 .int a) (hi : inb i (aln a) = true) : Rn sc d 105 27 L (.int i :: .ref a :: st) (cS f g h1 h2) r ↔ Rn sc d 105 28 L (.int (fI a i.toNatClampNeg) :: st) (cS f g h1 h2) r := r_iald0 d105_27 h0 h17 hA hi
theorem d105_28 : decode (mC 105) 28 = .ok (.istore_n 2, 1) := by decide +kernel
theorem x105_28 {sc : aSc} {d : Nat} {r : aRes} {a0 : Value} {x1 : Int32} {a2 : Value} {a3 : Value} {st : List Value} {σ : aS} {y : Int32} : Rn sc d 105 28 [a0, .int x1, a2, a3] (.int y :: st) σ r ↔ Rn sc d 105 29 [a0, .int x1, .int y, a3] st σ r := r_istore_n d105_28 (Nat.le_of_ble_eq_true rfl) rfl
theorem d105_29 : decode (mC 105) 29 = .ok (.iinc 3 1, 3) := by decide +kernel
theorem x105_29 {sc : aSc} {d : Nat} {r : aRes} {a0 : Value} {a1 : Value} {x2 : Int32} {x3 : Int32} {st : List Value} {σ : aS} : Rn sc d 105 29 [a0, a1, .int x2, .int x3] st σ r ↔ Rn sc d 105 32 [a0, a1, .int x2, .int (x3 + 1)] st σ r := r_iinc d105_29 (Nat.le_of_ble_eq_true rfl) rfl rfl (by decide)
theorem d105_32 : decode (mC 105) 32 = .ok (.goto (-28), 3) := by decide +kernel
theorem x105_32 {sc : aSc} {d : Nat} {r : aRes} {L : List Value} {st : List Value} {σ : aS} : Rn sc d 105 32 L st σ r ↔ Rn sc d 105 4 L st σ r := r_goto d105_32 rfl
theorem d105_35 : decode (mC 105) 35 = .ok (.iconst 0, 1) := by decide +kernel
theorem x105_35 {sc : aSc} {d : Nat} {r : aRes} {L : List Value} {st : List Value} {σ : aS} : Rn sc d 105 35 L st σ r ↔ Rn sc d 105 36 L (.int 0 :: st) σ r := r_iconst d105_35 (by decide)
theorem d105_36 : decode (mC 105) 36 = .ok (.ireturn, 1) := by decide +kernel
theorem x105_36 {sc : aSc} {d : Nat} {r : aRes} {L : List Value} {σ : aS} {x : Int32} (hn : x &&& 1 = x) : Rn sc d 105 36 L [.int x] σ r ↔ r = (σ, some (.int x)) := r_iret d105_36 rfl (congrArg Value.int hn)
theorem d106_0 : decode (mC 106) 0 = .ok (.iload_n 0, 1) := by decide +kernel
theorem x106_0 {sc : aSc} {d : Nat} {r : aRes} {x0 : Int32} {a1 : Value} {a2 : Value} {a3 : Value} {a4 : Value} {a5 : Value} {a6 : Value} {st : List Value} {σ : aS} : Rn sc d 106 0 [.int x0, a1, a2, a3, a4, a5, a6] st σ r ↔ Rn sc d 106 1 [.int x0, a1, a2, a3, a4, a5, a6] (.int x0 :: st) σ r := r_iload_n d106_0 rfl
theorem d106_1 : decode (mC 106) 1 = .ok (.istore_n 3, 1) := by decide +kernel
theorem x106_1 {sc : aSc} {d : Nat} {r : aRes} {a0 : Value} {a1 : Value} {x2 : Int32} {a3 : Value} {a4 : Value} {a5 : Value} {a6 : Value} {st : List Value} {σ : aS} {y : Int32} : Rn sc d 106 1 [a0, a1, .int x2, a3, a4, a5, a6] (.int y :: st) σ r ↔ Rn sc d 106 2 [a0, a1, .int x2, .int y, a4, a5, a6] st σ r := r_istore_n d106_1 (Nat.le_of_ble_eq_true rfl) rfl
theorem d106_2 : decode (mC 106) 2 = .ok (.iload_n 1, 1) := by decide +kernel
theorem x106_2 {sc : aSc} {d : Nat} {r : aRes} {a0 : Value} {x1 : Int32} {a2 : Value} {a3 : Value} {a4 : Value} {a5 : Value} {a6 : Value} {st : List Value} {σ : aS} : Rn sc d 106 2 [a0, .int x1, a2, a3, a4, a5, a6] st σ r ↔ Rn sc d 106 3 [a0, .int x1, a2, a3, a4, a5, a6] (.int x1 :: st) σ r := r_iload_n d106_2 rfl
theorem d106_3 : decode (mC 106) 3 = .ok (.istore 4, 2) := by decide +kernel
theorem x106_3 {sc : aSc} {d : Nat} {r : aRes} {a0 : Value} {a1 : Value} {a2 : Value} {x3 : Int32} {a4 : Value} {a5 : Value} {a6 : Value} {st : List Value} {σ : aS} {y : Int32} : Rn sc d 106 3 [a0, a1, a2, .int x3, a4, a5, a6] (.int y :: st) σ r ↔ Rn sc d 106 5 [a0, a1, a2, .int x3, .int y, a5, a6] st σ r := r_istore d106_3 (Nat.le_of_ble_eq_true rfl) rfl
theorem d106_5 : decode (mC 106) 5 = .ok (.iconst 0, 1) := by decide +kernel
theorem x106_5 {sc : aSc} {d : Nat} {r : aRes} {L : List Value} {st : List Value} {σ : aS} : Rn sc d 106 5 L st σ r ↔ Rn sc d 106 6 L (.int 0 :: st) σ r := r_iconst d106_5 (by decide)
theorem d106_6 : decode (mC 106) 6 = .ok (.istore 5, 2) := by decide +kernel
theorem x106_6 {sc : aSc} {d : Nat} {r : aRes} {a0 : Value} {a1 : Value} {a2 : Value} {a3 : Value} {x4 : Int32} {a5 : Value} {a6 : Value} {st : List Value} {σ : aS} {y : Int32} : Rn sc d 106 6 [a0, a1, a2, a3, .int x4, a5, a6] (.int y :: st) σ r ↔ Rn sc d 106 8 [a0, a1, a2, a3, .int x4, .int y, a6] st σ r := r_istore d106_6 (Nat.le_of_ble_eq_true rfl) rfl
theorem d106_8 : decode (mC 106) 8 = .ok (.iload 5, 2) := by decide +kernel
theorem x106_8 {sc : aSc} {d : Nat} {r : aRes} {a0 : Value} {a1 : Value} {a2 : Value} {a3 : Value} {a4 : Value} {x5 : Int32} {a6 : Value} {st : List Value} {σ : aS} : Rn sc d 106 8 [a0, a1, a2, a3, a4, .int x5, a6] st σ r ↔ Rn sc d 106 10 [a0, a1, a2, a3, a4, .int x5, a6] (.int x5 :: st) σ r := r_iload d106_8 rfl
theorem d106_10 : decode (mC 106) 10 = .ok (.bipush 100, 2) := by decide +kernel
theorem x106_10 {sc : aSc} {d : Nat} {r : aRes} {L : List Value} {st : List Value} {σ : aS} : Rn sc d 106 10 L st σ r ↔ Rn sc d 106 12 L (.int 100 :: st) σ r := r_bipush d106_10 (by decide)
theorem d106_12 : decode (mC 106) 12 = .ok (.if_icmp .ge 27, 3) := by decide +kernel
theorem x106_12 {sc : aSc} {d : Nat} {r : aRes} {L : List Value} {st : List Value} {σ : aS} {x y : Int32} : Rn sc d 106 12 L (.int y :: .int x :: st) σ r ↔ if x < y then Rn sc d 106 15 L st σ r else Rn sc d 106 39 L st σ r := r_icmp_ge d106_12 rfl
theorem d106_15 : decode (mC 106) 15 = .ok (.iload 4, 2) := by decide +kernel
theorem x106_15 {sc : aSc} {d : Nat} {r : aRes} {a0 : Value} {a1 : Value} {a2 : Value} {a3 : Value} {x4 : Int32} {a5 : Value} {a6 : Value} {st : List Value} {σ : aS} : Rn sc d 106 15 [a0, a1, a2, a3, .int x4, a5, a6] st σ r ↔ Rn sc d 106 17 [a0, a1, a2, a3, .int x4, a5, a6] (.int x4 :: st) σ r := r_iload d106_15 rfl
theorem d106_17 : decode (mC 106) 17 = .ok (.ifCond .eq 22, 3) := by decide +kernel
theorem x106_17 {sc : aSc} {d : Nat} {r : aRes} {L : List Value} {st : List Value} {σ : aS} {x : Int32} : Rn sc d 106 17 L (.int x :: st) σ r ↔ if x = 0 then Rn sc d 106 39 L st σ r else Rn sc d 106 20 L st σ r := r_if_eq d106_17 rfl
theorem d106_20 : decode (mC 106) 20 = .ok (.iload_n 3, 1) := by decide +kernel
theorem x106_20 {sc : aSc} {d : Nat} {r : aRes} {a0 : Value} {a1 : Value} {a2 : Value} {x3 : Int32} {a4 : Value} {a5 : Value} {a6 : Value} {st : List Value} {σ : aS} : Rn sc d 106 20 [a0, a1, a2, .int x3, a4, a5, a6] st σ r ↔ Rn sc d 106 21 [a0, a1, a2, .int x3, a4, a5, a6] (.int x3 :: st) σ r := r_iload_n d106_20 rfl
theorem d106_21 : decode (mC 106) 21 = .ok (.iload 4, 2) := by decide +kernel
theorem x106_21 {sc : aSc} {d : Nat} {r : aRes} {a0 : Value} {a1 : Value} {a2 : Value} {a3 : Value} {x4 : Int32} {a5 : Value} {a6 : Value} {st : List Value} {σ : aS} : Rn sc d 106 21 [a0, a1, a2, a3, .int x4, a5, a6] st σ r ↔ Rn sc d 106 23 [a0, a1, a2, a3, .int x4, a5, a6] (.int x4 :: st) σ r := r_iload d106_21 rfl
theorem d106_23 : decode (mC 106) 23 = .ok (.irem, 1) := by decide +kernel
theorem x106_23 {sc : aSc} {d : Nat} {r : aRes} {L : List Value} {st : List Value} {σ : aS} {x y : Int32} (hy : ¬ y = 0) : Rn sc d 106 23 L (.int y :: .int x :: st) σ r ↔ Rn sc d 106 24 L (.int (x % y) :: st) σ r := r_irem d106_23 hy
theorem d106_24 : decode (mC 106) 24 = .ok (.istore 6, 2) := by decide +kernel
theorem x106_24 {sc : aSc} {d : Nat} {r : aRes} {a0 : Value} {a1 : Value} {a2 : Value} {a3 : Value} {a4 : Value} {x5 : Int32} {a6 : Value} {st : List Value} {σ : aS} {y : Int32} : Rn sc d 106 24 [a0, a1, a2, a3, a4, .int x5, a6] (.int y :: st) σ r ↔ Rn sc d 106 26 [a0, a1, a2, a3, a4, .int x5, .int y] st σ r := r_istore d106_24 (Nat.le_of_ble_eq_true rfl) rfl
theorem d106_26 : decode (mC 106) 26 = .ok (.iload 4, 2) := by decide +kernel
theorem x106_26 {sc : aSc} {d : Nat} {r : aRes} {a0 : Value} {a1 : Value} {a2 : Value} {a3 : Value} {x4 : Int32} {a5 : Value} {a6 : Value} {st : List Value} {σ : aS} : Rn sc d 106 26 [a0, a1, a2, a3, .int x4, a5, a6] st σ r ↔ Rn sc d 106 28 [a0, a1, a2, a3, .int x4, a5, a6] (.int x4 :: st) σ r := r_iload d106_26 rfl
theorem d106_28 : decode (mC 106) 28 = .ok (.istore_n 3, 1) := by decide +kernel
theorem x106_28 {sc : aSc} {d : Nat} {r : aRes} {a0 : Value} {a1 : Value} {x2 : Int32} {a3 : Value} {a4 : Value} {a5 : Value} {a6 : Value} {st : List Value} {σ : aS} {y : Int32} : Rn sc d 106 28 [a0, a1, .int x2, a3, a4, a5, a6] (.int y :: st) σ r ↔ Rn sc d 106 29 [a0, a1, .int x2, .int y, a4, a5, a6] st σ r := r_istore_n d106_28 (Nat.le_of_ble_eq_true rfl) rfl
theorem d106_29 : decode (mC 106) 29 = .ok (.iload 6, 2) := by decide +kernel
theorem x106_29 {sc : aSc} {d : Nat} {r : aRes} {a0 : Value} {a1 : Value} {a2 : Value} {a3 : Value} {a4 : Value} {a5 : Value} {x6 : Int32} {st : List Value} {σ : aS} : Rn sc d 106 29 [a0, a1, a2, a3, a4, a5, .int x6] st σ r ↔ Rn sc d 106 31 [a0, a1, a2, a3, a4, a5, .int x6] (.int x6 :: st) σ r := r_iload d106_29 rfl
theorem d106_31 : decode (mC 106) 31 = .ok (.istore 4, 2) := by decide +kernel
theorem x106_31 {sc : aSc} {d : Nat} {r : aRes} {a0 : Value} {a1 : Value} {a2 : Value} {x3 : Int32} {a4 : Value} {a5 : Value} {a6 : Value} {st : List Value} {σ : aS} {y : Int32} : Rn sc d 106 31 [a0, a1, a2, .int x3, a4, a5, a6] (.int y :: st) σ r ↔ Rn sc d 106 33 [a0, a1, a2, .int x3, .int y, a5, a6] st σ r := r_istore d106_31 (Nat.le_of_ble_eq_true rfl) rfl
theorem d106_33 : decode (mC 106) 33 = .ok (.iinc 5 1, 3) := by decide +kernel
theorem x106_33 {sc : aSc} {d : Nat} {r : aRes} {a0 : Value} {a1 : Value} {a2 : Value} {a3 : Value} {x4 : Int32} {x5 : Int32} {a6 : Value} {st : List Value} {σ : aS} : Rn sc d 106 33 [a0, a1, a2, a3, .int x4, .int x5, a6] st σ r ↔ Rn sc d 106 36 [a0, a1, a2, a3, .int x4, .int (x5 + 1), a6] st σ r := r_iinc d106_33 (Nat.le_of_ble_eq_true rfl) rfl rfl (by decide)
theorem d106_36 : decode (mC 106) 36 = .ok (.goto (-28), 3) := by decide +kernel
theorem x106_36 {sc : aSc} {d : Nat} {r : aRes} {L : List Value} {st : List Value} {σ : aS} : Rn sc d 106 36 L st σ r ↔ Rn sc d 106 8 L st σ r := r_goto d106_36 rfl
theorem d106_39 : decode (mC 106) 39 = .ok (.iconst 1, 1) := by decide +kernel
theorem x106_39 {sc : aSc} {d : Nat} {r : aRes} {L : List Value} {st : List Value} {σ : aS} : Rn sc d 106 39 L st σ r ↔ Rn sc d 106 40 L (.int 1 :: st) σ r := r_iconst d106_39 (by decide)
theorem d106_40 : decode (mC 106) 40 = .ok (.iload_n 3, 1) := by decide +kernel
theorem x106_40 {sc : aSc} {d : Nat} {r : aRes} {a0 : Value} {a1 : Value} {a2 : Value} {x3 : Int32} {a4 : Value} {a5 : Value} {a6 : Value} {st : List Value} {σ : aS} : Rn sc d 106 40 [a0, a1, a2, .int x3, a4, a5, a6] st σ r ↔ Rn sc d 106 41 [a0, a1, a2, .int x3, a4, a5, a6] (.int x3 :: st) σ r := r_iload_n d106_40 rfl
theorem d106_41 : decode (mC 106) 41 = .ok (.invokestatic 289, 3) := by decide +kernel
theorem x106_41 {sc : aSc} {d : Nat} {r : aRes} {L : List Value} {σ : aS} {y0 : Int32} {y1 : Int32}  : Rn sc d 106 41 L [.int y0, .int y1] σ r ↔ ∃ (σ3 : aS) (v : Option Value), Cl sc d 207 [.int y1, .int y0] σ (σ3, v) ∧ Rn sc d 106 44 L (v.toList ++ []) σ3 r := r_callS (vs := [.int y0, .int y1]) d106_41 rfl (j := 207) rfl ⟨rfl, by decide, rfl, rfl⟩ (Nat.le_of_ble_eq_true rfl)
theorem d106_44 : decode (mC 106) 44 = .ok (.istore 5, 2) := by decide +kernel
theorem x106_44 {sc : aSc} {d : Nat} {r : aRes} {a0 : Value} {a1 : Value} {a2 : Value} {a3 : Value} {x4 : Int32} {a5 : Value} {a6 : Value} {st : List Value} {σ : aS} {y : Int32} : Rn sc d 106 44 [a0, a1, a2, a3, .int x4, a5, a6] (.int y :: st) σ r ↔ Rn sc d 106 46 [a0, a1, a2, a3, .int x4, .int y, a6] st σ r := r_istore d106_44 (Nat.le_of_ble_eq_true rfl) rfl
theorem d106_46 : decode (mC 106) 46 = .ok (.iload_n 2, 1) := by decide +kernel
theorem x106_46 {sc : aSc} {d : Nat} {r : aRes} {a0 : Value} {a1 : Value} {x2 : Int32} {a3 : Value} {a4 : Value} {a5 : Value} {a6 : Value} {st : List Value} {σ : aS} : Rn sc d 106 46 [a0, a1, .int x2, a3, a4, a5, a6] st σ r ↔ Rn sc d 106 47 [a0, a1, .int x2, a3, a4, a5, a6] (.int x2 :: st) σ r := r_iload_n d106_46 rfl
theorem d106_47 : decode (mC 106) 47 = .ok (.ifCond .ne 11, 3) := by decide +kernel
theorem x106_47 {sc : aSc} {d : Nat} {r : aRes} {L : List Value} {st : List Value} {σ : aS} {x : Int32} : Rn sc d 106 47 L (.int x :: st) σ r ↔ if x = 0 then Rn sc d 106 50 L st σ r else Rn sc d 106 58 L st σ r := r_if_ne d106_47 rfl
theorem d106_50 : decode (mC 106) 50 = .ok (.iload_n 0, 1) := by decide +kernel
theorem x106_50 {sc : aSc} {d : Nat} {r : aRes} {x0 : Int32} {a1 : Value} {a2 : Value} {a3 : Value} {a4 : Value} {a5 : Value} {a6 : Value} {st : List Value} {σ : aS} : Rn sc d 106 50 [.int x0, a1, a2, a3, a4, a5, a6] st σ r ↔ Rn sc d 106 51 [.int x0, a1, a2, a3, a4, a5, a6] (.int x0 :: st) σ r := r_iload_n d106_50 rfl
theorem d106_51 : decode (mC 106) 51 = .ok (.iload 5, 2) := by decide +kernel
theorem x106_51 {sc : aSc} {d : Nat} {r : aRes} {a0 : Value} {a1 : Value} {a2 : Value} {a3 : Value} {a4 : Value} {x5 : Int32} {a6 : Value} {st : List Value} {σ : aS} : Rn sc d 106 51 [a0, a1, a2, a3, a4, .int x5, a6] st σ r ↔ Rn sc d 106 53 [a0, a1, a2, a3, a4, .int x5, a6] (.int x5 :: st) σ r := r_iload d106_51 rfl
theorem d106_53 : decode (mC 106) 53 = .ok (.idiv, 1) := by decide +kernel
theorem x106_53 {sc : aSc} {d : Nat} {r : aRes} {L : List Value} {st : List Value} {σ : aS} {x y : Int32} (hy : ¬ y = 0) : Rn sc d 106 53 L (.int y :: .int x :: st) σ r ↔ Rn sc d 106 54 L (.int (x / y) :: st) σ r := r_idiv d106_53 hy
theorem d106_54 : decode (mC 106) 54 = .ok (.i2l, 1) := by decide +kernel
theorem x106_54 {sc : aSc} {d : Nat} {r : aRes} {L : List Value} {st : List Value} {σ : aS} {x : Int32} : Rn sc d 106 54 L (.int x :: st) σ r ↔ Rn sc d 106 55 L (.long x.toInt64 :: st) σ r := r_i2l d106_54
theorem d106_55 : decode (mC 106) 55 = .ok (.goto 8, 3) := by decide +kernel
theorem x106_55 {sc : aSc} {d : Nat} {r : aRes} {L : List Value} {st : List Value} {σ : aS} : Rn sc d 106 55 L st σ r ↔ Rn sc d 106 63 L st σ r := r_goto d106_55 rfl
theorem d106_58 : decode (mC 106) 58 = .ok (.iload_n 1, 1) := by decide +kernel
theorem x106_58 {sc : aSc} {d : Nat} {r : aRes} {a0 : Value} {x1 : Int32} {a2 : Value} {a3 : Value} {a4 : Value} {a5 : Value} {a6 : Value} {st : List Value} {σ : aS} : Rn sc d 106 58 [a0, .int x1, a2, a3, a4, a5, a6] st σ r ↔ Rn sc d 106 59 [a0, .int x1, a2, a3, a4, a5, a6] (.int x1 :: st) σ r := r_iload_n d106_58 rfl
theorem d106_59 : decode (mC 106) 59 = .ok (.iload 5, 2) := by decide +kernel
theorem x106_59 {sc : aSc} {d : Nat} {r : aRes} {a0 : Value} {a1 : Value} {a2 : Value} {a3 : Value} {a4 : Value} {x5 : Int32} {a6 : Value} {st : List Value} {σ : aS} : Rn sc d 106 59 [a0, a1, a2, a3, a4, .int x5, a6] st σ r ↔ Rn sc d 106 61 [a0, a1, a2, a3, a4, .int x5, a6] (.int x5 :: st) σ r := r_iload d106_59 rfl
theorem d106_61 : decode (mC 106) 61 = .ok (.idiv, 1) := by decide +kernel
theorem x106_61 {sc : aSc} {d : Nat} {r : aRes} {L : List Value} {st : List Value} {σ : aS} {x y : Int32} (hy : ¬ y = 0) : Rn sc d 106 61 L (.int y :: .int x :: st) σ r ↔ Rn sc d 106 62 L (.int (x / y) :: st) σ r := r_idiv d106_61 hy
theorem d106_62 : decode (mC 106) 62 = .ok (.i2l, 1) := by decide +kernel
theorem x106_62 {sc : aSc} {d : Nat} {r : aRes} {L : List Value} {st : List Value} {σ : aS} {x : Int32} : Rn sc d 106 62 L (.int x :: st) σ r ↔ Rn sc d 106 63 L (.long x.toInt64 :: st) σ r := r_i2l d106_62
theorem d106_63 : decode (mC 106) 63 = .ok (.lreturn, 1) := by decide +kernel
theorem x106_63 {sc : aSc} {d : Nat} {r : aRes} {L : List Value} {σ : aS} {x : Int64} : Rn sc d 106 63 L [.long x] σ r ↔ r = (σ, some (.long x)) := r_lret d106_63 rfl
