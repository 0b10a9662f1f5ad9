/-! a row an instruction (written by wip/whole/mk16.py) -/
theorem d145_0 : decode (mC 145) 0 = .ok (.iload_n 1, 1) := by decide +kernel
theorem x145_0 {sc : aSc} {d : Nat} {r : aRes} {a0 : Value} {x1 : Int32} {st : List Value} {σ : aS} : Rn sc d 145 0 [a0, .int x1] st σ r ↔ Rn sc d 145 1 [a0, .int x1] (.int x1 :: st) σ r := r_iload_n d145_0 rfl
theorem d145_1 : decode (mC 145) 1 = .ok (.tableswitch 71 0 5 #[39, 44, 49, 54, 61, 66], 39) := by decide +kernel
theorem x145_1 {sc : aSc} {d : Nat} {r : aRes} {L : List Value} {st : List Value} {σ : aS} {x : Int32} : Rn sc d 145 1 L (.int x :: st) σ r ↔ (if x = 0 then Rn sc d 145 40 L st σ r else (if x = 1 then Rn sc d 145 45 L st σ r else (if x = 2 then Rn sc d 145 50 L st σ r else (if x = 3 then Rn sc d 145 55 L st σ r else (if x = 4 then Rn sc d 145 62 L st σ r else (if x = 5 then Rn sc d 145 67 L st σ r else Rn sc d 145 72 L st σ r)))))) := by
  by_cases c0 : x = 0
  · subst c0; simp only [if_pos]; exact r_tsw d145_1 (t := 40) rfl
  rw [if_neg c0]
  by_cases c1 : x = 1
  · subst c1; simp only [if_pos]; exact r_tsw d145_1 (t := 45) rfl
  rw [if_neg c1]
  by_cases c2 : x = 2
  · subst c2; simp only [if_pos]; exact r_tsw d145_1 (t := 50) rfl
  rw [if_neg c2]
  by_cases c3 : x = 3
  · subst c3; simp only [if_pos]; exact r_tsw d145_1 (t := 55) rfl
  rw [if_neg c3]
  by_cases c4 : x = 4
  · subst c4; simp only [if_pos]; exact r_tsw d145_1 (t := 62) rfl
  rw [if_neg c4]
  by_cases c5 : x = 5
  · subst c5; simp only [if_pos]; exact r_tsw d145_1 (t := 67) rfl
  rw [if_neg c5]
  refine r_tswd d145_1 ?_ rfl
  have e0 : x.toInt ≠ 0 := fun z => c0 (Int32.toInt_inj.mp z)
  have e1 : x.toInt ≠ 1 := fun z => c1 (Int32.toInt_inj.mp z)
  have e2 : x.toInt ≠ 2 := fun z => c2 (Int32.toInt_inj.mp z)
  have e3 : x.toInt ≠ 3 := fun z => c3 (Int32.toInt_inj.mp z)
  have e4 : x.toInt ≠ 4 := fun z => c4 (Int32.toInt_inj.mp z)
  have e5 : x.toInt ≠ 5 := fun z => c5 (Int32.toInt_inj.mp z)
  omega
theorem d145_40 : decode (mC 145) 40 = .ok (.aload_n 0, 1) := by decide +kernel
theorem x145_40 {sc : aSc} {d : Nat} {r : aRes} {x0 : Nat} {a1 : Value} {st : List Value} {σ : aS} : Rn sc d 145 40 [.ref x0, a1] st σ r ↔ Rn sc d 145 41 [.ref x0, a1] (.ref x0 :: st) σ r := r_aload_n d145_40 rfl
theorem d145_41 : decode (mC 145) 41 = .ok (.getfield 16, 3) := by decide +kernel
theorem x145_41 {sc : aSc} {d : Nat} {r : aRes} {L : List Value} {st : List Value} {f : Nat → Nat → Int32} {g : Nat → Nat → Int64} {h1 h2 : Nat} {o : Nat} (h17 : 17 ≤ o) (hK : KK[o]? = some (.inl 7)) : Rn sc d 145 41 L (.ref o :: st) (cS f g h1 h2) r ↔ Rn sc d 145 44 L (.int (f o 2) :: st) (cS f g h1 h2) r := r_getI d145_41 (ci := 7) (k := 2) rfl (by decide) (fun _ => rfl) h17 hK
theorem d145_44 : decode (mC 145) 44 = .ok (.ireturn, 1) := by decide +kernel
theorem x145_44 {sc : aSc} {d : Nat} {r : aRes} {L : List Value} {σ : aS} {x : Int32} : Rn sc d 145 44 L [.int x] σ r ↔ r = (σ, some (.int x)) := r_iret d145_44 rfl rfl
theorem d145_45 : decode (mC 145) 45 = .ok (.aload_n 0, 1) := by decide +kernel
theorem x145_45 {sc : aSc} {d : Nat} {r : aRes} {x0 : Nat} {a1 : Value} {st : List Value} {σ : aS} : Rn sc d 145 45 [.ref x0, a1] st σ r ↔ Rn sc d 145 46 [.ref x0, a1] (.ref x0 :: st) σ r := r_aload_n d145_45 rfl
theorem d145_46 : decode (mC 145) 46 = .ok (.getfield 19, 3) := by decide +kernel
theorem x145_46 {sc : aSc} {d : Nat} {r : aRes} {L : List Value} {st : List Value} {f : Nat → Nat → Int32} {g : Nat → Nat → Int64} {h1 h2 : Nat} {o : Nat} (h17 : 17 ≤ o) (hK : KK[o]? = some (.inl 7)) : Rn sc d 145 46 L (.ref o :: st) (cS f g h1 h2) r ↔ Rn sc d 145 49 L (.int (f o 3) :: st) (cS f g h1 h2) r := r_getI d145_46 (ci := 7) (k := 3) rfl (by decide) (fun _ => rfl) h17 hK
theorem d145_49 : decode (mC 145) 49 = .ok (.ireturn, 1) := by decide +kernel
theorem x145_49 {sc : aSc} {d : Nat} {r : aRes} {L : List Value} {σ : aS} {x : Int32} : Rn sc d 145 49 L [.int x] σ r ↔ r = (σ, some (.int x)) := r_iret d145_49 rfl rfl
theorem d145_50 : decode (mC 145) 50 = .ok (.aload_n 0, 1) := by decide +kernel
theorem x145_50 {sc : aSc} {d : Nat} {r : aRes} {x0 : Nat} {a1 : Value} {st : List Value} {σ : aS} : Rn sc d 145 50 [.ref x0, a1] st σ r ↔ Rn sc d 145 51 [.ref x0, a1] (.ref x0 :: st) σ r := r_aload_n d145_50 rfl
theorem d145_51 : decode (mC 145) 51 = .ok (.invokevirtual 319, 3) := by decide +kernel
theorem x145_51 {sc : aSc} {d : Nat} {r : aRes} {L : List Value} {f : Nat → Nat → Int32} {g : Nat → Nat → Int64} {h1 h2 : Nat}   {o : Nat} (hK : KK[o]? = some (.inl 7)) : Rn sc d 145 51 L [.ref o] (cS f g h1 h2) r ↔ ∃ (σ3 : aS) (v : Option Value), Cl sc d 143 [.ref o] (cS f g h1 h2) (σ3, v) ∧ Rn sc d 145 54 L (v.toList ++ []) σ3 r := r_callV (vs := []) d145_51 (j := 143) rfl ⟨rfl, by decide, rfl, rfl⟩ (Nat.le_of_ble_eq_true rfl) hK
theorem d145_54 : decode (mC 145) 54 = .ok (.ireturn, 1) := by decide +kernel
theorem x145_54 {sc : aSc} {d : Nat} {r : aRes} {L : List Value} {σ : aS} {x : Int32} : Rn sc d 145 54 L [.int x] σ r ↔ r = (σ, some (.int x)) := r_iret d145_54 rfl rfl
theorem d145_55 : decode (mC 145) 55 = .ok (.aload_n 0, 1) := by decide +kernel
theorem x145_55 {sc : aSc} {d : Nat} {r : aRes} {x0 : Nat} {a1 : Value} {st : List Value} {σ : aS} : Rn sc d 145 55 [.ref x0, a1] st σ r ↔ Rn sc d 145 56 [.ref x0, a1] (.ref x0 :: st) σ r := r_aload_n d145_55 rfl
theorem d145_56 : decode (mC 145) 56 = .ok (.iconst 2, 1) := by decide +kernel
theorem x145_56 {sc : aSc} {d : Nat} {r : aRes} {L : List Value} {st : List Value} {σ : aS} : Rn sc d 145 56 L st σ r ↔ Rn sc d 145 57 L (.int 2 :: st) σ r := r_iconst d145_56 (by decide)
theorem d145_57 : decode (mC 145) 57 = .ok (.iconst 1, 1) := by decide +kernel
theorem x145_57 {sc : aSc} {d : Nat} {r : aRes} {L : List Value} {st : List Value} {σ : aS} : Rn sc d 145 57 L st σ r ↔ Rn sc d 145 58 L (.int 1 :: st) σ r := r_iconst d145_57 (by decide)
theorem d145_58 : decode (mC 145) 58 = .ok (.invokevirtual 291, 3) := by decide +kernel
theorem x145_58 {sc : aSc} {d : Nat} {r : aRes} {L : List Value} {f : Nat → Nat → Int32} {g : Nat → Nat → Int64} {h1 h2 : Nat} {y0 : Int32} {y1 : Int32}  {o : Nat} (hK : KK[o]? = some (.inl 7)) : Rn sc d 145 58 L [.int y0, .int y1, .ref o] (cS f g h1 h2) r ↔ ∃ (σ3 : aS) (v : Option Value), Cl sc d 132 [.ref o, .int y1, .int y0] (cS f g h1 h2) (σ3, v) ∧ Rn sc d 145 61 L (v.toList ++ []) σ3 r := r_callV (vs := [.int y0, .int y1]) d145_58 (j := 132) rfl ⟨rfl, by decide, rfl, rfl⟩ (Nat.le_of_ble_eq_true rfl) hK
theorem d145_61 : decode (mC 145) 61 = .ok (.ireturn, 1) := by decide +kernel
theorem x145_61 {sc : aSc} {d : Nat} {r : aRes} {L : List Value} {σ : aS} {x : Int32} : Rn sc d 145 61 L [.int x] σ r ↔ r = (σ, some (.int x)) := r_iret d145_61 rfl rfl
theorem d145_62 : decode (mC 145) 62 = .ok (.aload_n 0, 1) := by decide +kernel
theorem x145_62 {sc : aSc} {d : Nat} {r : aRes} {x0 : Nat} {a1 : Value} {st : List Value} {σ : aS} : Rn sc d 145 62 [.ref x0, a1] st σ r ↔ Rn sc d 145 63 [.ref x0, a1] (.ref x0 :: st) σ r := r_aload_n d145_62 rfl
theorem d145_63 : decode (mC 145) 63 = .ok (.invokevirtual 307, 3) := by decide +kernel
theorem x145_63 {sc : aSc} {d : Nat} {r : aRes} {L : List Value} {f : Nat → Nat → Int32} {g : Nat → Nat → Int64} {h1 h2 : Nat}   {o : Nat} (hK : KK[o]? = some (.inl 7)) : Rn sc d 145 63 L [.ref o] (cS f g h1 h2) r ↔ ∃ (σ3 : aS) (v : Option Value), Cl sc d 133 [.ref o] (cS f g h1 h2) (σ3, v) ∧ Rn sc d 145 66 L (v.toList ++ []) σ3 r := r_callV (vs := []) d145_63 (j := 133) rfl ⟨rfl, by decide, rfl, rfl⟩ (Nat.le_of_ble_eq_true rfl) hK
theorem d145_66 : decode (mC 145) 66 = .ok (.ireturn, 1) := by decide +kernel
theorem x145_66 {sc : aSc} {d : Nat} {r : aRes} {L : List Value} {σ : aS} {x : Int32} : Rn sc d 145 66 L [.int x] σ r ↔ r = (σ, some (.int x)) := r_iret d145_66 rfl rfl
theorem d145_67 : decode (mC 145) 67 = .ok (.aload_n 0, 1) := by decide +kernel
theorem x145_67 {sc : aSc} {d : Nat} {r : aRes} {x0 : Nat} {a1 : Value} {st : List Value} {σ : aS} : Rn sc d 145 67 [.ref x0, a1] st σ r ↔ Rn sc d 145 68 [.ref x0, a1] (.ref x0 :: st) σ r := r_aload_n d145_67 rfl
theorem d145_68 : decode (mC 145) 68 = .ok (.getfield 13, 3) := by decide +kernel
theorem x145_68 {sc : aSc} {d : Nat} {r : aRes} {L : List Value} {st : List Value} {f : Nat → Nat → Int32} {g : Nat → Nat → Int64} {h1 h2 : Nat} {o : Nat} (h17 : 17 ≤ o) (hK : KK[o]? = some (.inl 7)) : Rn sc d 145 68 L (.ref o :: st) (cS f g h1 h2) r ↔ Rn sc d 145 71 L (.int (f o 1) :: st) (cS f g h1 h2) r := r_getI d145_68 (ci := 7) (k := 1) rfl (by decide) (fun _ => rfl) h17 hK
theorem d145_71 : decode (mC 145) 71 = .ok (.ireturn, 1) := by decide +kernel
theorem x145_71 {sc : aSc} {d : Nat} {r : aRes} {L : List Value} {σ : aS} {x : Int32} : Rn sc d 145 71 L [.int x] σ r ↔ r = (σ, some (.int x)) := r_iret d145_71 rfl rfl
theorem d145_72 : decode (mC 145) 72 = .ok (.iconst (-1), 1) := by decide +kernel
theorem x145_72 {sc : aSc} {d : Nat} {r : aRes} {L : List Value} {st : List Value} {σ : aS} : Rn sc d 145 72 L st σ r ↔ Rn sc d 145 73 L (.int (-1) :: st) σ r := r_iconst d145_72 (by decide)
theorem d145_73 : decode (mC 145) 73 = .ok (.ireturn, 1) := by decide +kernel
theorem x145_73 {sc : aSc} {d : Nat} {r : aRes} {L : List Value} {σ : aS} {x : Int32} : Rn sc d 145 73 L [.int x] σ r ↔ r = (σ, some (.int x)) := r_iret d145_73 rfl rfl
theorem d146_0 : decode (mC 146) 0 = .ok (.iload_n 1, 1) := by decide +kernel
theorem x146_0 {sc : aSc} {d : Nat} {r : aRes} {a0 : Value} {x1 : Int32} {a2 : Value} {st : List Value} {σ : aS} : Rn sc d 146 0 [a0, .int x1, a2] st σ r ↔ Rn sc d 146 1 [a0, .int x1, a2] (.int x1 :: st) σ r := r_iload_n d146_0 rfl
theorem d146_1 : decode (mC 146) 1 = .ok (.iload_n 2, 1) := by decide +kernel
theorem x146_1 {sc : aSc} {d : Nat} {r : aRes} {a0 : Value} {a1 : Value} {x2 : Int32} {st : List Value} {σ : aS} : Rn sc d 146 1 [a0, a1, .int x2] st σ r ↔ Rn sc d 146 2 [a0, a1, .int x2] (.int x2 :: st) σ r := r_iload_n d146_1 rfl
theorem d146_2 : decode (mC 146) 2 = .ok (.iadd, 1) := by decide +kernel
theorem x146_2 {sc : aSc} {d : Nat} {r : aRes} {L : List Value} {st : List Value} {σ : aS} {x y : Int32} : Rn sc d 146 2 L (.int y :: .int x :: st) σ r ↔ Rn sc d 146 3 L (.int (x + y) :: st) σ r := r_iadd d146_2
theorem d146_3 : decode (mC 146) 3 = .ok (.sipush 9999, 3) := by decide +kernel
theorem x146_3 {sc : aSc} {d : Nat} {r : aRes} {L : List Value} {st : List Value} {σ : aS} : Rn sc d 146 3 L st σ r ↔ Rn sc d 146 6 L (.int 9999 :: st) σ r := r_sipush d146_3 (by decide)
theorem d146_6 : decode (mC 146) 6 = .ok (.if_icmp .le 9, 3) := by decide +kernel
theorem x146_6 {sc : aSc} {d : Nat} {r : aRes} {L : List Value} {st : List Value} {σ : aS} {x y : Int32} : Rn sc d 146 6 L (.int y :: .int x :: st) σ r ↔ if y < x then Rn sc d 146 9 L st σ r else Rn sc d 146 15 L st σ r := r_icmp_le d146_6 rfl
theorem d146_9 : decode (mC 146) 9 = .ok (.sipush 9999, 3) := by decide +kernel
theorem x146_9 {sc : aSc} {d : Nat} {r : aRes} {L : List Value} {st : List Value} {σ : aS} : Rn sc d 146 9 L st σ r ↔ Rn sc d 146 12 L (.int 9999 :: st) σ r := r_sipush d146_9 (by decide)
theorem d146_12 : decode (mC 146) 12 = .ok (.goto 6, 3) := by decide +kernel
theorem x146_12 {sc : aSc} {d : Nat} {r : aRes} {L : List Value} {st : List Value} {σ : aS} : Rn sc d 146 12 L st σ r ↔ Rn sc d 146 18 L st σ r := r_goto d146_12 rfl
theorem d146_15 : decode (mC 146) 15 = .ok (.iload_n 1, 1) := by decide +kernel
theorem x146_15 {sc : aSc} {d : Nat} {r : aRes} {a0 : Value} {x1 : Int32} {a2 : Value} {st : List Value} {σ : aS} : Rn sc d 146 15 [a0, .int x1, a2] st σ r ↔ Rn sc d 146 16 [a0, .int x1, a2] (.int x1 :: st) σ r := r_iload_n d146_15 rfl
theorem d146_16 : decode (mC 146) 16 = .ok (.iload_n 2, 1) := by decide +kernel
theorem x146_16 {sc : aSc} {d : Nat} {r : aRes} {a0 : Value} {a1 : Value} {x2 : Int32} {st : List Value} {σ : aS} : Rn sc d 146 16 [a0, a1, .int x2] st σ r ↔ Rn sc d 146 17 [a0, a1, .int x2] (.int x2 :: st) σ r := r_iload_n d146_16 rfl
theorem d146_17 : decode (mC 146) 17 = .ok (.iadd, 1) := by decide +kernel
theorem x146_17 {sc : aSc} {d : Nat} {r : aRes} {L : List Value} {st : List Value} {σ : aS} {x y : Int32} : Rn sc d 146 17 L (.int y :: .int x :: st) σ r ↔ Rn sc d 146 18 L (.int (x + y) :: st) σ r := r_iadd d146_17
theorem d146_18 : decode (mC 146) 18 = .ok (.ireturn, 1) := by decide +kernel
theorem x146_18 {sc : aSc} {d : Nat} {r : aRes} {L : List Value} {σ : aS} {x : Int32} : Rn sc d 146 18 L [.int x] σ r ↔ r = (σ, some (.int x)) := r_iret d146_18 rfl rfl
theorem d147_0 : decode (mC 147) 0 = .ok (.aload_n 0, 1) := by decide +kernel
theorem x147_0 {sc : aSc} {d : Nat} {r : aRes} {x0 : Nat} {a1 : Value} {a2 : Value} {a3 : Value} {st : List Value} {σ : aS} : Rn sc d 147 0 [.ref x0, a1, a2, a3] st σ r ↔ Rn sc d 147 1 [.ref x0, a1, a2, a3] (.ref x0 :: st) σ r := r_aload_n d147_0 rfl
theorem d147_1 : decode (mC 147) 1 = .ok (.iload_n 1, 1) := by decide +kernel
theorem x147_1 {sc : aSc} {d : Nat} {r : aRes} {a0 : Value} {x1 : Int32} {a2 : Value} {a3 : Value} {st : List Value} {σ : aS} : Rn sc d 147 1 [a0, .int x1, a2, a3] st σ r ↔ Rn sc d 147 2 [a0, .int x1, a2, a3] (.int x1 :: st) σ r := r_iload_n d147_1 rfl
theorem d147_2 : decode (mC 147) 2 = .ok (.invokevirtual 231, 3) := by decide +kernel
theorem x147_2 {sc : aSc} {d : Nat} {r : aRes} {L : List Value} {f : Nat → Nat → Int32} {g : Nat → Nat → Int64} {h1 h2 : Nat} {y0 : Int32}  {o : Nat} (hK : KK[o]? = some (.inl 7)) : Rn sc d 147 2 L [.int y0, .ref o] (cS f g h1 h2) r ↔ ∃ (σ3 : aS) (v : Option Value), Cl sc d 109 [.ref o, .int y0] (cS f g h1 h2) (σ3, v) ∧ Rn sc d 147 5 L (v.toList ++ []) σ3 r := r_callV (vs := [.int y0]) d147_2 (j := 109) rfl ⟨rfl, by decide, rfl, rfl⟩ (Nat.le_of_ble_eq_true rfl) hK
theorem d147_5 : decode (mC 147) 5 = .ok (.ifCond .eq 11, 3) := by decide +kernel
theorem x147_5 {sc : aSc} {d : Nat} {r : aRes} {L : List Value} {st : List Value} {σ : aS} {x : Int32} : Rn sc d 147 5 L (.int x :: st) σ r ↔ if x = 0 then Rn sc d 147 16 L st σ r else Rn sc d 147 8 L st σ r := r_if_eq d147_5 rfl
theorem d147_8 : decode (mC 147) 8 = .ok (.aload_n 0, 1) := by decide +kernel
theorem x147_8 {sc : aSc} {d : Nat} {r : aRes} {x0 : Nat} {a1 : Value} {a2 : Value} {a3 : Value} {st : List Value} {σ : aS} : Rn sc d 147 8 [.ref x0, a1, a2, a3] st σ r ↔ Rn sc d 147 9 [.ref x0, a1, a2, a3] (.ref x0 :: st) σ r := r_aload_n d147_8 rfl
theorem d147_9 : decode (mC 147) 9 = .ok (.iload_n 2, 1) := by decide +kernel
theorem x147_9 {sc : aSc} {d : Nat} {r : aRes} {a0 : Value} {a1 : Value} {x2 : Int32} {a3 : Value} {st : List Value} {σ : aS} : Rn sc d 147 9 [a0, a1, .int x2, a3] st σ r ↔ Rn sc d 147 10 [a0, a1, .int x2, a3] (.int x2 :: st) σ r := r_iload_n d147_9 rfl
theorem d147_10 : decode (mC 147) 10 = .ok (.invokevirtual 231, 3) := by decide +kernel
theorem x147_10 {sc : aSc} {d : Nat} {r : aRes} {L : List Value} {f : Nat → Nat → Int32} {g : Nat → Nat → Int64} {h1 h2 : Nat} {y0 : Int32}  {o : Nat} (hK : KK[o]? = some (.inl 7)) : Rn sc d 147 10 L [.int y0, .ref o] (cS f g h1 h2) r ↔ ∃ (σ3 : aS) (v : Option Value), Cl sc d 109 [.ref o, .int y0] (cS f g h1 h2) (σ3, v) ∧ Rn sc d 147 13 L (v.toList ++ []) σ3 r := r_callV (vs := [.int y0]) d147_10 (j := 109) rfl ⟨rfl, by decide, rfl, rfl⟩ (Nat.le_of_ble_eq_true rfl) hK
theorem d147_13 : decode (mC 147) 13 = .ok (.ifCond .ne 5, 3) := by decide +kernel
theorem x147_13 {sc : aSc} {d : Nat} {r : aRes} {L : List Value} {st : List Value} {σ : aS} {x : Int32} : Rn sc d 147 13 L (.int x :: st) σ r ↔ if x = 0 then Rn sc d 147 16 L st σ r else Rn sc d 147 18 L st σ r := r_if_ne d147_13 rfl
theorem d147_16 : decode (mC 147) 16 = .ok (.iconst (-1), 1) := by decide +kernel
theorem x147_16 {sc : aSc} {d : Nat} {r : aRes} {L : List Value} {st : List Value} {σ : aS} : Rn sc d 147 16 L st σ r ↔ Rn sc d 147 17 L (.int (-1) :: st) σ r := r_iconst d147_16 (by decide)
theorem d147_17 : decode (mC 147) 17 = .ok (.ireturn, 1) := by decide +kernel
theorem x147_17 {sc : aSc} {d : Nat} {r : aRes} {L : List Value} {σ : aS} {x : Int32} : Rn sc d 147 17 L [.int x] σ r ↔ r = (σ, some (.int x)) := r_iret d147_17 rfl rfl
theorem d147_18 : decode (mC 147) 18 = .ok (.iload_n 1, 1) := by decide +kernel
theorem x147_18 {sc : aSc} {d : Nat} {r : aRes} {a0 : Value} {x1 : Int32} {a2 : Value} {a3 : Value} {st : List Value} {σ : aS} : Rn sc d 147 18 [a0, .int x1, a2, a3] st σ r ↔ Rn sc d 147 19 [a0, .int x1, a2, a3] (.int x1 :: st) σ r := r_iload_n d147_18 rfl
theorem d147_19 : decode (mC 147) 19 = .ok (.iload_n 2, 1) := by decide +kernel
theorem x147_19 {sc : aSc} {d : Nat} {r : aRes} {a0 : Value} {a1 : Value} {x2 : Int32} {a3 : Value} {st : List Value} {σ : aS} : Rn sc d 147 19 [a0, a1, .int x2, a3] st σ r ↔ Rn sc d 147 20 [a0, a1, .int x2, a3] (.int x2 :: st) σ r := r_iload_n d147_19 rfl
theorem d147_20 : decode (mC 147) 20 = .ok (.if_icmp .ne 6, 3) := by decide +kernel
theorem x147_20 {sc : aSc} {d : Nat} {r : aRes} {L : List Value} {st : List Value} {σ : aS} {x y : Int32} : Rn sc d 147 20 L (.int y :: .int x :: st) σ r ↔ if x = y then Rn sc d 147 23 L st σ r else Rn sc d 147 26 L st σ r := r_icmp_ne d147_20 rfl
theorem d147_23 : decode (mC 147) 23 = .ok (.bipush (-2), 2) := by decide +kernel
theorem x147_23 {sc : aSc} {d : Nat} {r : aRes} {L : List Value} {st : List Value} {σ : aS} : Rn sc d 147 23 L st σ r ↔ Rn sc d 147 25 L (.int (-2) :: st) σ r := r_bipush d147_23 (by decide)
theorem d147_25 : decode (mC 147) 25 = .ok (.ireturn, 1) := by decide +kernel
theorem x147_25 {sc : aSc} {d : Nat} {r : aRes} {L : List Value} {σ : aS} {x : Int32} : Rn sc d 147 25 L [.int x] σ r ↔ r = (σ, some (.int x)) := r_iret d147_25 rfl rfl
theorem d147_26 : decode (mC 147) 26 = .ok (.aload_n 0, 1) := by decide +kernel
theorem x147_26 {sc : aSc} {d : Nat} {r : aRes} {x0 : Nat} {a1 : Value} {a2 : Value} {a3 : Value} {st : List Value} {σ : aS} : Rn sc d 147 26 [.ref x0, a1, a2, a3] st σ r ↔ Rn sc d 147 27 [.ref x0, a1, a2, a3] (.ref x0 :: st) σ r := r_aload_n d147_26 rfl
theorem d147_27 : decode (mC 147) 27 = .ok (.iload_n 1, 1) := by decide +kernel
theorem x147_27 {sc : aSc} {d : Nat} {r : aRes} {a0 : Value} {x1 : Int32} {a2 : Value} {a3 : Value} {st : List Value} {σ : aS} : Rn sc d 147 27 [a0, .int x1, a2, a3] st σ r ↔ Rn sc d 147 28 [a0, .int x1, a2, a3] (.int x1 :: st) σ r := r_iload_n d147_27 rfl
theorem d147_28 : decode (mC 147) 28 = .ok (.iload_n 2, 1) := by decide +kernel
theorem x147_28 {sc : aSc} {d : Nat} {r : aRes} {a0 : Value} {a1 : Value} {x2 : Int32} {a3 : Value} {st : List Value} {σ : aS} : Rn sc d 147 28 [a0, a1, .int x2, a3] st σ r ↔ Rn sc d 147 29 [a0, a1, .int x2, a3] (.int x2 :: st) σ r := r_iload_n d147_28 rfl
theorem d147_29 : decode (mC 147) 29 = .ok (.invokevirtual 310, 3) := by decide +kernel
theorem x147_29 {sc : aSc} {d : Nat} {r : aRes} {L : List Value} {f : Nat → Nat → Int32} {g : Nat → Nat → Int64} {h1 h2 : Nat} {y0 : Int32} {y1 : Int32}  {o : Nat} (hK : KK[o]? = some (.inl 7)) : Rn sc d 147 29 L [.int y0, .int y1, .ref o] (cS f g h1 h2) r ↔ ∃ (σ3 : aS) (v : Option Value), Cl sc d 139 [.ref o, .int y1, .int y0] (cS f g h1 h2) (σ3, v) ∧ Rn sc d 147 32 L (v.toList ++ []) σ3 r := r_callV (vs := [.int y0, .int y1]) d147_29 (j := 139) rfl ⟨rfl, by decide, rfl, rfl⟩ (Nat.le_of_ble_eq_true rfl) hK
theorem d147_32 : decode (mC 147) 32 = .ok (.ifCond .eq 13, 3) := by decide +kernel
theorem x147_32 {sc : aSc} {d : Nat} {r : aRes} {L : List Value} {st : List Value} {σ : aS} {x : Int32} : Rn sc d 147 32 L (.int x :: st) σ r ↔ if x = 0 then Rn sc d 147 45 L st σ r else Rn sc d 147 35 L st σ r := r_if_eq d147_32 rfl
theorem d147_35 : decode (mC 147) 35 = .ok (.aload_n 0, 1) := by decide +kernel
theorem x147_35 {sc : aSc} {d : Nat} {r : aRes} {x0 : Nat} {a1 : Value} {a2 : Value} {a3 : Value} {st : List Value} {σ : aS} : Rn sc d 147 35 [.ref x0, a1, a2, a3] st σ r ↔ Rn sc d 147 36 [.ref x0, a1, a2, a3] (.ref x0 :: st) σ r := r_aload_n d147_35 rfl
theorem d147_36 : decode (mC 147) 36 = .ok (.getfield 16, 3) := by decide +kernel
theorem x147_36 {sc : aSc} {d : Nat} {r : aRes} {L : List Value} {st : List Value} {f : Nat → Nat → Int32} {g : Nat → Nat → Int64} {h1 h2 : Nat} {o : Nat} (h17 : 17 ≤ o) (hK : KK[o]? = some (.inl 7)) : Rn sc d 147 36 L (.ref o :: st) (cS f g h1 h2) r ↔ Rn sc d 147 39 L (.int (f o 2) :: st) (cS f g h1 h2) r := r_getI d147_36 (ci := 7) (k := 2) rfl (by decide) (fun _ => rfl) h17 hK
theorem d147_39 : decode (mC 147) 39 = .ok (.sipush 9999, 3) := by decide +kernel
theorem x147_39 {sc : aSc} {d : Nat} {r : aRes} {L : List Value} {st : List Value} {σ : aS} : Rn sc d 147 39 L st σ r ↔ Rn sc d 147 42 L (.int 9999 :: st) σ r := r_sipush d147_39 (by decide)
theorem d147_42 : decode (mC 147) 42 = .ok (.if_icmp .ne 6, 3) := by decide +kernel
theorem x147_42 {sc : aSc} {d : Nat} {r : aRes} {L : List Value} {st : List Value} {σ : aS} {x y : Int32} : Rn sc d 147 42 L (.int y :: .int x :: st) σ r ↔ if x = y then Rn sc d 147 45 L st σ r else Rn sc d 147 48 L st σ r := r_icmp_ne d147_42 rfl
theorem d147_45 : decode (mC 147) 45 = .ok (.bipush (-3), 2) := by decide +kernel
theorem x147_45 {sc : aSc} {d : Nat} {r : aRes} {L : List Value} {st : List Value} {σ : aS} : Rn sc d 147 45 L st σ r ↔ Rn sc d 147 47 L (.int (-3) :: st) σ r := r_bipush d147_45 (by decide)
theorem d147_47 : decode (mC 147) 47 = .ok (.ireturn, 1) := by decide +kernel
theorem x147_47 {sc : aSc} {d : Nat} {r : aRes} {L : List Value} {σ : aS} {x : Int32} : Rn sc d 147 47 L [.int x] σ r ↔ r = (σ, some (.int x)) := r_iret d147_47 rfl rfl
theorem d147_48 : decode (mC 147) 48 = .ok (.aload_n 0, 1) := by decide +kernel
theorem x147_48 {sc : aSc} {d : Nat} {r : aRes} {x0 : Nat} {a1 : Value} {a2 : Value} {a3 : Value} {st : List Value} {σ : aS} : Rn sc d 147 48 [.ref x0, a1, a2, a3] st σ r ↔ Rn sc d 147 49 [.ref x0, a1, a2, a3] (.ref x0 :: st) σ r := r_aload_n d147_48 rfl
theorem d147_49 : decode (mC 147) 49 = .ok (.iload_n 1, 1) := by decide +kernel
theorem x147_49 {sc : aSc} {d : Nat} {r : aRes} {a0 : Value} {x1 : Int32} {a2 : Value} {a3 : Value} {st : List Value} {σ : aS} : Rn sc d 147 49 [a0, .int x1, a2, a3] st σ r ↔ Rn sc d 147 50 [a0, .int x1, a2, a3] (.int x1 :: st) σ r := r_iload_n d147_49 rfl
theorem d147_50 : decode (mC 147) 50 = .ok (.iload_n 2, 1) := by decide +kernel
theorem x147_50 {sc : aSc} {d : Nat} {r : aRes} {a0 : Value} {a1 : Value} {x2 : Int32} {a3 : Value} {st : List Value} {σ : aS} : Rn sc d 147 50 [a0, a1, .int x2, a3] st σ r ↔ Rn sc d 147 51 [a0, a1, .int x2, a3] (.int x2 :: st) σ r := r_iload_n d147_50 rfl
theorem d147_51 : decode (mC 147) 51 = .ok (.invokevirtual 322, 3) := by decide +kernel
theorem x147_51 {sc : aSc} {d : Nat} {r : aRes} {L : List Value} {f : Nat → Nat → Int32} {g : Nat → Nat → Int64} {h1 h2 : Nat} {y0 : Int32} {y1 : Int32}  {o : Nat} (hK : KK[o]? = some (.inl 7)) : Rn sc d 147 51 L [.int y0, .int y1, .ref o] (cS f g h1 h2) r ↔ ∃ (σ3 : aS) (v : Option Value), Cl sc d 141 [.ref o, .int y1, .int y0] (cS f g h1 h2) (σ3, v) ∧ Rn sc d 147 54 L (v.toList ++ []) σ3 r := r_callV (vs := [.int y0, .int y1]) d147_51 (j := 141) rfl ⟨rfl, by decide, rfl, rfl⟩ (Nat.le_of_ble_eq_true rfl) hK
theorem d147_54 : decode (mC 147) 54 = .ok (.istore_n 3, 1) := by decide +kernel
theorem x147_54 {sc : aSc} {d : Nat} {r : aRes} {a0 : Value} {a1 : Value} {x2 : Int32} {a3 : Value} {st : List Value} {σ : aS} {y : Int32} : Rn sc d 147 54 [a0, a1, .int x2, a3] (.int y :: st) σ r ↔ Rn sc d 147 55 [a0, a1, .int x2, .int y] st σ r := r_istore_n d147_54 (Nat.le_of_ble_eq_true rfl) rfl
theorem d147_55 : decode (mC 147) 55 = .ok (.iload_n 3, 1) := by decide +kernel
theorem x147_55 {sc : aSc} {d : Nat} {r : aRes} {a0 : Value} {a1 : Value} {a2 : Value} {x3 : Int32} {st : List Value} {σ : aS} : Rn sc d 147 55 [a0, a1, a2, .int x3] st σ r ↔ Rn sc d 147 56 [a0, a1, a2, .int x3] (.int x3 :: st) σ r := r_iload_n d147_55 rfl
theorem d147_56 : decode (mC 147) 56 = .ok (.ifCond .eq 32, 3) := by decide +kernel
theorem x147_56 {sc : aSc} {d : Nat} {r : aRes} {L : List Value} {st : List Value} {σ : aS} {x : Int32} : Rn sc d 147 56 L (.int x :: st) σ r ↔ if x = 0 then Rn sc d 147 88 L st σ r else Rn sc d 147 59 L st σ r := r_if_eq d147_56 rfl
theorem d147_59 : decode (mC 147) 59 = .ok (.aload_n 0, 1) := by decide +kernel
theorem x147_59 {sc : aSc} {d : Nat} {r : aRes} {x0 : Nat} {a1 : Value} {a2 : Value} {a3 : Value} {st : List Value} {σ : aS} : Rn sc d 147 59 [.ref x0, a1, a2, a3] st σ r ↔ Rn sc d 147 60 [.ref x0, a1, a2, a3] (.ref x0 :: st) σ r := r_aload_n d147_59 rfl
theorem d147_60 : decode (mC 147) 60 = .ok (.aload_n 0, 1) := by decide +kernel
theorem x147_60 {sc : aSc} {d : Nat} {r : aRes} {x0 : Nat} {a1 : Value} {a2 : Value} {a3 : Value} {st : List Value} {σ : aS} : Rn sc d 147 60 [.ref x0, a1, a2, a3] st σ r ↔ Rn sc d 147 61 [.ref x0, a1, a2, a3] (.ref x0 :: st) σ r := r_aload_n d147_60 rfl
theorem d147_61 : decode (mC 147) 61 = .ok (.aload_n 0, 1) := by decide +kernel
theorem x147_61 {sc : aSc} {d : Nat} {r : aRes} {x0 : Nat} {a1 : Value} {a2 : Value} {a3 : Value} {st : List Value} {σ : aS} : Rn sc d 147 61 [.ref x0, a1, a2, a3] st σ r ↔ Rn sc d 147 62 [.ref x0, a1, a2, a3] (.ref x0 :: st) σ r := r_aload_n d147_61 rfl
theorem d147_62 : decode (mC 147) 62 = .ok (.getfield 19, 3) := by decide +kernel
theorem x147_62 {sc : aSc} {d : Nat} {r : aRes} {L : List Value} {st : List Value} {f : Nat → Nat → Int32} {g : Nat → Nat → Int64} {h1 h2 : Nat} {o : Nat} (h17 : 17 ≤ o) (hK : KK[o]? = some (.inl 7)) : Rn sc d 147 62 L (.ref o :: st) (cS f g h1 h2) r ↔ Rn sc d 147 65 L (.int (f o 3) :: st) (cS f g h1 h2) r := r_getI d147_62 (ci := 7) (k := 3) rfl (by decide) (fun _ => rfl) h17 hK
theorem d147_65 : decode (mC 147) 65 = .ok (.aload_n 0, 1) := by decide +kernel
theorem x147_65 {sc : aSc} {d : Nat} {r : aRes} {x0 : Nat} {a1 : Value} {a2 : Value} {a3 : Value} {st : List Value} {σ : aS} : Rn sc d 147 65 [.ref x0, a1, a2, a3] st σ r ↔ Rn sc d 147 66 [.ref x0, a1, a2, a3] (.ref x0 :: st) σ r := r_aload_n d147_65 rfl
theorem d147_66 : decode (mC 147) 66 = .ok (.iload_n 1, 1) := by decide +kernel
theorem x147_66 {sc : aSc} {d : Nat} {r : aRes} {a0 : Value} {x1 : Int32} {a2 : Value} {a3 : Value} {st : List Value} {σ : aS} : Rn sc d 147 66 [a0, .int x1, a2, a3] st σ r ↔ Rn sc d 147 67 [a0, .int x1, a2, a3] (.int x1 :: st) σ r := r_iload_n d147_66 rfl
theorem d147_67 : decode (mC 147) 67 = .ok (.invokevirtual 313, 3) := by decide +kernel
theorem x147_67 {sc : aSc} {d : Nat} {r : aRes} {L : List Value} {f : Nat → Nat → Int32} {g : Nat → Nat → Int64} {h1 h2 : Nat} {y0 : Int32} {z0 : Int32} {z1 : Nat} {z2 : Nat} {o : Nat} (hK : KK[o]? = some (.inl 7)) : Rn sc d 147 67 L [.int y0, .ref o, .int z0, .ref z1, .ref z2] (cS f g h1 h2) r ↔ ∃ (σ3 : aS) (v : Option Value), Cl sc d 138 [.ref o, .int y0] (cS f g h1 h2) (σ3, v) ∧ Rn sc d 147 70 L (v.toList ++ [.int z0, .ref z1, .ref z2]) σ3 r := r_callV (vs := [.int y0]) d147_67 (j := 138) rfl ⟨rfl, by decide, rfl, rfl⟩ (Nat.le_of_ble_eq_true rfl) hK
theorem d147_70 : decode (mC 147) 70 = .ok (.aload_n 0, 1) := by decide +kernel
theorem x147_70 {sc : aSc} {d : Nat} {r : aRes} {x0 : Nat} {a1 : Value} {a2 : Value} {a3 : Value} {st : List Value} {σ : aS} : Rn sc d 147 70 [.ref x0, a1, a2, a3] st σ r ↔ Rn sc d 147 71 [.ref x0, a1, a2, a3] (.ref x0 :: st) σ r := r_aload_n d147_70 rfl
theorem d147_71 : decode (mC 147) 71 = .ok (.iload_n 2, 1) := by decide +kernel
theorem x147_71 {sc : aSc} {d : Nat} {r : aRes} {a0 : Value} {a1 : Value} {x2 : Int32} {a3 : Value} {st : List Value} {σ : aS} : Rn sc d 147 71 [a0, a1, .int x2, a3] st σ r ↔ Rn sc d 147 72 [a0, a1, .int x2, a3] (.int x2 :: st) σ r := r_iload_n d147_71 rfl
theorem d147_72 : decode (mC 147) 72 = .ok (.invokevirtual 313, 3) := by decide +kernel
theorem x147_72 {sc : aSc} {d : Nat} {r : aRes} {L : List Value} {f : Nat → Nat → Int32} {g : Nat → Nat → Int64} {h1 h2 : Nat} {y0 : Int32} {z0 : Int32} {z1 : Int32} {z2 : Nat} {z3 : Nat} {o : Nat} (hK : KK[o]? = some (.inl 7)) : Rn sc d 147 72 L [.int y0, .ref o, .int z0, .int z1, .ref z2, .ref z3] (cS f g h1 h2) r ↔ ∃ (σ3 : aS) (v : Option Value), Cl sc d 138 [.ref o, .int y0] (cS f g h1 h2) (σ3, v) ∧ Rn sc d 147 75 L (v.toList ++ [.int z0, .int z1, .ref z2, .ref z3]) σ3 r := r_callV (vs := [.int y0]) d147_72 (j := 138) rfl ⟨rfl, by decide, rfl, rfl⟩ (Nat.le_of_ble_eq_true rfl) hK
theorem d147_75 : decode (mC 147) 75 = .ok (.iadd, 1) := by decide +kernel
theorem x147_75 {sc : aSc} {d : Nat} {r : aRes} {L : List Value} {st : List Value} {σ : aS} {x y : Int32} : Rn sc d 147 75 L (.int y :: .int x :: st) σ r ↔ Rn sc d 147 76 L (.int (x + y) :: st) σ r := r_iadd d147_75
theorem d147_76 : decode (mC 147) 76 = .ok (.invokevirtual 325, 3) := by decide +kernel
theorem x147_76 {sc : aSc} {d : Nat} {r : aRes} {L : List Value} {f : Nat → Nat → Int32} {g : Nat → Nat → Int64} {h1 h2 : Nat} {y0 : Int32} {y1 : Int32} {z0 : Nat} {o : Nat} (hK : KK[o]? = some (.inl 7)) : Rn sc d 147 76 L [.int y0, .int y1, .ref o, .ref z0] (cS f g h1 h2) r ↔ ∃ (σ3 : aS) (v : Option Value), Cl sc d 146 [.ref o, .int y1, .int y0] (cS f g h1 h2) (σ3, v) ∧ Rn sc d 147 79 L (v.toList ++ [.ref z0]) σ3 r := r_callV (vs := [.int y0, .int y1]) d147_76 (j := 146) rfl ⟨rfl, by decide, rfl, rfl⟩ (Nat.le_of_ble_eq_true rfl) hK
theorem d147_79 : decode (mC 147) 79 = .ok (.putfield 19, 3) := by decide +kernel
theorem x147_79 {sc : aSc} {d : Nat} {r : aRes} {L : List Value} {st : List Value} {f : Nat → Nat → Int32} {g : Nat → Nat → Int64} {h1 h2 : Nat} {o : Nat} {v : Int32} (h17 : 17 ≤ o) (hK : KK[o]? = some (.inl 7)) : Rn sc d 147 79 L (.int v :: .ref o :: st) (cS f g h1 h2) r ↔ Rn sc d 147 82 L st (cS (u2 f o 3 v) g h1 h2) r := r_putI d147_79 (ci := 7) (k := 3) rfl (by decide) h17 hK
theorem d147_82 : decode (mC 147) 82 = .ok (.aload_n 0, 1) := by decide +kernel
theorem x147_82 {sc : aSc} {d : Nat} {r : aRes} {x0 : Nat} {a1 : Value} {a2 : Value} {a3 : Value} {st : List Value} {σ : aS} : Rn sc d 147 82 [.ref x0, a1, a2, a3] st σ r ↔ Rn sc d 147 83 [.ref x0, a1, a2, a3] (.ref x0 :: st) σ r := r_aload_n d147_82 rfl
theorem d147_83 : decode (mC 147) 83 = .ok (.iload_n 1, 1) := by decide +kernel
theorem x147_83 {sc : aSc} {d : Nat} {r : aRes} {a0 : Value} {x1 : Int32} {a2 : Value} {a3 : Value} {st : List Value} {σ : aS} : Rn sc d 147 83 [a0, .int x1, a2, a3] st σ r ↔ Rn sc d 147 84 [a0, .int x1, a2, a3] (.int x1 :: st) σ r := r_iload_n d147_83 rfl
theorem d147_84 : decode (mC 147) 84 = .ok (.iload_n 2, 1) := by decide +kernel
theorem x147_84 {sc : aSc} {d : Nat} {r : aRes} {a0 : Value} {a1 : Value} {x2 : Int32} {a3 : Value} {st : List Value} {σ : aS} : Rn sc d 147 84 [a0, a1, .int x2, a3] st σ r ↔ Rn sc d 147 85 [a0, a1, .int x2, a3] (.int x2 :: st) σ r := r_iload_n d147_84 rfl
theorem d147_85 : decode (mC 147) 85 = .ok (.invokevirtual 328, 3) := by decide +kernel
theorem x147_85 {sc : aSc} {d : Nat} {r : aRes} {L : List Value} {f : Nat → Nat → Int32} {g : Nat → Nat → Int64} {h1 h2 : Nat} {y0 : Int32} {y1 : Int32}  {o : Nat} (hK : KK[o]? = some (.inl 7)) : Rn sc d 147 85 L [.int y0, .int y1, .ref o] (cS f g h1 h2) r ↔ ∃ (σ3 : aS) (v : Option Value), Cl sc d 142 [.ref o, .int y1, .int y0] (cS f g h1 h2) (σ3, v) ∧ Rn sc d 147 88 L (v.toList ++ []) σ3 r := r_callV (vs := [.int y0, .int y1]) d147_85 (j := 142) rfl ⟨rfl, by decide, rfl, rfl⟩ (Nat.le_of_ble_eq_true rfl) hK
theorem d147_88 : decode (mC 147) 88 = .ok (.aload_n 0, 1) := by decide +kernel
theorem x147_88 {sc : aSc} {d : Nat} {r : aRes} {x0 : Nat} {a1 : Value} {a2 : Value} {a3 : Value} {st : List Value} {σ : aS} : Rn sc d 147 88 [.ref x0, a1, a2, a3] st σ r ↔ Rn sc d 147 89 [.ref x0, a1, a2, a3] (.ref x0 :: st) σ r := r_aload_n d147_88 rfl
theorem d147_89 : decode (mC 147) 89 = .ok (.dup, 1) := by decide +kernel
theorem x147_89 {sc : aSc} {d : Nat} {r : aRes} {L : List Value} {st : List Value} {σ : aS} {y : Nat} : Rn sc d 147 89 L (.ref y :: st) σ r ↔ Rn sc d 147 90 L (.ref y :: .ref y :: st) σ r := r_dup d147_89 rfl
theorem d147_90 : decode (mC 147) 90 = .ok (.getfield 16, 3) := by decide +kernel
theorem x147_90 {sc : aSc} {d : Nat} {r : aRes} {L : List Value} {st : List Value} {f : Nat → Nat → Int32} {g : Nat → Nat → Int64} {h1 h2 : Nat} {o : Nat} (h17 : 17 ≤ o) (hK : KK[o]? = some (.inl 7)) : Rn sc d 147 90 L (.ref o :: st) (cS f g h1 h2) r ↔ Rn sc d 147 93 L (.int (f o 2) :: st) (cS f g h1 h2) r := r_getI d147_90 (ci := 7) (k := 2) rfl (by decide) (fun _ => rfl) h17 hK
theorem d147_93 : decode (mC 147) 93 = .ok (.iconst 1, 1) := by decide +kernel
theorem x147_93 {sc : aSc} {d : Nat} {r : aRes} {L : List Value} {st : List Value} {σ : aS} : Rn sc d 147 93 L st σ r ↔ Rn sc d 147 94 L (.int 1 :: st) σ r := r_iconst d147_93 (by decide)
theorem d147_94 : decode (mC 147) 94 = .ok (.iadd, 1) := by decide +kernel
theorem x147_94 {sc : aSc} {d : Nat} {r : aRes} {L : List Value} {st : List Value} {σ : aS} {x y : Int32} : Rn sc d 147 94 L (.int y :: .int x :: st) σ r ↔ Rn sc d 147 95 L (.int (x + y) :: st) σ r := r_iadd d147_94
theorem d147_95 : decode (mC 147) 95 = .ok (.putfield 16, 3) := by decide +kernel
theorem x147_95 {sc : aSc} {d : Nat} {r : aRes} {L : List Value} {st : List Value} {f : Nat → Nat → Int32} {g : Nat → Nat → Int64} {h1 h2 : Nat} {o : Nat} {v : Int32} (h17 : 17 ≤ o) (hK : KK[o]? = some (.inl 7)) : Rn sc d 147 95 L (.int v :: .ref o :: st) (cS f g h1 h2) r ↔ Rn sc d 147 98 L st (cS (u2 f o 2 v) g h1 h2) r := r_putI d147_95 (ci := 7) (k := 2) rfl (by decide) h17 hK
theorem d147_98 : decode (mC 147) 98 = .ok (.iload_n 3, 1) := by decide +kernel
theorem x147_98 {sc : aSc} {d : Nat} {r : aRes} {a0 : Value} {a1 : Value} {a2 : Value} {x3 : Int32} {st : List Value} {σ : aS} : Rn sc d 147 98 [a0, a1, a2, .int x3] st σ r ↔ Rn sc d 147 99 [a0, a1, a2, .int x3] (.int x3 :: st) σ r := r_iload_n d147_98 rfl
theorem d147_99 : decode (mC 147) 99 = .ok (.ifCond .eq 7, 3) := by decide +kernel
theorem x147_99 {sc : aSc} {d : Nat} {r : aRes} {L : List Value} {st : List Value} {σ : aS} {x : Int32} : Rn sc d 147 99 L (.int x :: st) σ r ↔ if x = 0 then Rn sc d 147 106 L st σ r else Rn sc d 147 102 L st σ r := r_if_eq d147_99 rfl
theorem d147_102 : decode (mC 147) 102 = .ok (.iconst 1, 1) := by decide +kernel
theorem x147_102 {sc : aSc} {d : Nat} {r : aRes} {L : List Value} {st : List Value} {σ : aS} : Rn sc d 147 102 L st σ r ↔ Rn sc d 147 103 L (.int 1 :: st) σ r := r_iconst d147_102 (by decide)
theorem d147_103 : decode (mC 147) 103 = .ok (.goto 4, 3) := by decide +kernel
theorem x147_103 {sc : aSc} {d : Nat} {r : aRes} {L : List Value} {st : List Value} {σ : aS} : Rn sc d 147 103 L st σ r ↔ Rn sc d 147 107 L st σ r := r_goto d147_103 rfl
theorem d147_106 : decode (mC 147) 106 = .ok (.iconst 0, 1) := by decide +kernel
theorem x147_106 {sc : aSc} {d : Nat} {r : aRes} {L : List Value} {st : List Value} {σ : aS} : Rn sc d 147 106 L st σ r ↔ Rn sc d 147 107 L (.int 0 :: st) σ r := r_iconst d147_106 (by decide)
theorem d147_107 : decode (mC 147) 107 = .ok (.ireturn, 1) := by decide +kernel
theorem x147_107 {sc : aSc} {d : Nat} {r : aRes} {L : List Value} {σ : aS} {x : Int32} : Rn sc d 147 107 L [.int x] σ r ↔ r = (σ, some (.int x)) := r_iret d147_107 rfl rfl
theorem d148_0 : decode (mC 148) 0 = .ok (.aload_n 0, 1) := by decide +kernel
theorem x148_0 {sc : aSc} {d : Nat} {r : aRes} {x0 : Nat} {st : List Value} {σ : aS} : Rn sc d 148 0 [.ref x0] st σ r ↔ Rn sc d 148 1 [.ref x0] (.ref x0 :: st) σ r := r_aload_n d148_0 rfl
theorem d148_1 : decode (mC 148) 1 = .ok (.getfield 16, 3) := by decide +kernel
theorem x148_1 {sc : aSc} {d : Nat} {r : aRes} {L : List Value} {st : List Value} {f : Nat → Nat → Int32} {g : Nat → Nat → Int64} {h1 h2 : Nat} {o : Nat} (h17 : 17 ≤ o) (hK : KK[o]? = some (.inl 7)) : Rn sc d 148 1 L (.ref o :: st) (cS f g h1 h2) r ↔ Rn sc d 148 4 L (.int (f o 2) :: st) (cS f g h1 h2) r := r_getI d148_1 (ci := 7) (k := 2) rfl (by decide) (fun _ => rfl) h17 hK
theorem d148_4 : decode (mC 148) 4 = .ok (.sipush 9999, 3) := by decide +kernel
theorem x148_4 {sc : aSc} {d : Nat} {r : aRes} {L : List Value} {st : List Value} {σ : aS} : Rn sc d 148 4 L st σ r ↔ Rn sc d 148 7 L (.int 9999 :: st) σ r := r_sipush d148_4 (by decide)
theorem d148_7 : decode (mC 148) 7 = .ok (.if_icmp .ne 6, 3) := by decide +kernel
theorem x148_7 {sc : aSc} {d : Nat} {r : aRes} {L : List Value} {st : List Value} {σ : aS} {x y : Int32} : Rn sc d 148 7 L (.int y :: .int x :: st) σ r ↔ if x = y then Rn sc d 148 10 L st σ r else Rn sc d 148 13 L st σ r := r_icmp_ne d148_7 rfl
theorem d148_10 : decode (mC 148) 10 = .ok (.bipush (-3), 2) := by decide +kernel
theorem x148_10 {sc : aSc} {d : Nat} {r : aRes} {L : List Value} {st : List Value} {σ : aS} : Rn sc d 148 10 L st σ r ↔ Rn sc d 148 12 L (.int (-3) :: st) σ r := r_bipush d148_10 (by decide)
theorem d148_12 : decode (mC 148) 12 = .ok (.ireturn, 1) := by decide +kernel
theorem x148_12 {sc : aSc} {d : Nat} {r : aRes} {L : List Value} {σ : aS} {x : Int32} : Rn sc d 148 12 L [.int x] σ r ↔ r = (σ, some (.int x)) := r_iret d148_12 rfl rfl
theorem d148_13 : decode (mC 148) 13 = .ok (.aload_n 0, 1) := by decide +kernel
theorem x148_13 {sc : aSc} {d : Nat} {r : aRes} {x0 : Nat} {st : List Value} {σ : aS} : Rn sc d 148 13 [.ref x0] st σ r ↔ Rn sc d 148 14 [.ref x0] (.ref x0 :: st) σ r := r_aload_n d148_13 rfl
theorem d148_14 : decode (mC 148) 14 = .ok (.dup, 1) := by decide +kernel
theorem x148_14 {sc : aSc} {d : Nat} {r : aRes} {L : List Value} {st : List Value} {σ : aS} {y : Nat} : Rn sc d 148 14 L (.ref y :: st) σ r ↔ Rn sc d 148 15 L (.ref y :: .ref y :: st) σ r := r_dup d148_14 rfl
theorem d148_15 : decode (mC 148) 15 = .ok (.getfield 16, 3) := by decide +kernel
theorem x148_15 {sc : aSc} {d : Nat} {r : aRes} {L : List Value} {st : List Value} {f : Nat → Nat → Int32} {g : Nat → Nat → Int64} {h1 h2 : Nat} {o : Nat} (h17 : 17 ≤ o) (hK : KK[o]? = some (.inl 7)) : Rn sc d 148 15 L (.ref o :: st) (cS f g h1 h2) r ↔ Rn sc d 148 18 L (.int (f o 2) :: st) (cS f g h1 h2) r := r_getI d148_15 (ci := 7) (k := 2) rfl (by decide) (fun _ => rfl) h17 hK
theorem d148_18 : decode (mC 148) 18 = .ok (.iconst 1, 1) := by decide +kernel
theorem x148_18 {sc : aSc} {d : Nat} {r : aRes} {L : List Value} {st : List Value} {σ : aS} : Rn sc d 148 18 L st σ r ↔ Rn sc d 148 19 L (.int 1 :: st) σ r := r_iconst d148_18 (by decide)
theorem d148_19 : decode (mC 148) 19 = .ok (.iadd, 1) := by decide +kernel
theorem x148_19 {sc : aSc} {d : Nat} {r : aRes} {L : List Value} {st : List Value} {σ : aS} {x y : Int32} : Rn sc d 148 19 L (.int y :: .int x :: st) σ r ↔ Rn sc d 148 20 L (.int (x + y) :: st) σ r := r_iadd d148_19
theorem d148_20 : decode (mC 148) 20 = .ok (.putfield 16, 3) := by decide +kernel
theorem x148_20 {sc : aSc} {d : Nat} {r : aRes} {L : List Value} {st : List Value} {f : Nat → Nat → Int32} {g : Nat → Nat → Int64} {h1 h2 : Nat} {o : Nat} {v : Int32} (h17 : 17 ≤ o) (hK : KK[o]? = some (.inl 7)) : Rn sc d 148 20 L (.int v :: .ref o :: st) (cS f g h1 h2) r ↔ Rn sc d 148 23 L st (cS (u2 f o 2 v) g h1 h2) r := r_putI d148_20 (ci := 7) (k := 2) rfl (by decide) h17 hK
theorem d148_23 : decode (mC 148) 23 = .ok (.aload_n 0, 1) := by decide +kernel
theorem x148_23 {sc : aSc} {d : Nat} {r : aRes} {x0 : Nat} {st : List Value} {σ : aS} : Rn sc d 148 23 [.ref x0] st σ r ↔ Rn sc d 148 24 [.ref x0] (.ref x0 :: st) σ r := r_aload_n d148_23 rfl
theorem d148_24 : decode (mC 148) 24 = .ok (.getfield 16, 3) := by decide +kernel
theorem x148_24 {sc : aSc} {d : Nat} {r : aRes} {L : List Value} {st : List Value} {f : Nat → Nat → Int32} {g : Nat → Nat → Int64} {h1 h2 : Nat} {o : Nat} (h17 : 17 ≤ o) (hK : KK[o]? = some (.inl 7)) : Rn sc d 148 24 L (.ref o :: st) (cS f g h1 h2) r ↔ Rn sc d 148 27 L (.int (f o 2) :: st) (cS f g h1 h2) r := r_getI d148_24 (ci := 7) (k := 2) rfl (by decide) (fun _ => rfl) h17 hK
theorem d148_27 : decode (mC 148) 27 = .ok (.ireturn, 1) := by decide +kernel
theorem x148_27 {sc : aSc} {d : Nat} {r : aRes} {L : List Value} {σ : aS} {x : Int32} : Rn sc d 148 27 L [.int x] σ r ↔ r = (σ, some (.int x)) := r_iret d148_27 rfl rfl
theorem d149_0 : decode (mC 149) 0 = .ok (.aload_n 0, 1) := by decide +kernel
theorem x149_0 {sc : aSc} {d : Nat} {r : aRes} {x0 : Nat} {a1 : Value} {a2 : Value} {a3 : Value} {st : List Value} {σ : aS} : Rn sc d 149 0 [.ref x0, a1, a2, a3] st σ r ↔ Rn sc d 149 1 [.ref x0, a1, a2, a3] (.ref x0 :: st) σ r := r_aload_n d149_0 rfl
theorem d149_1 : decode (mC 149) 1 = .ok (.iload_n 1, 1) := by decide +kernel
theorem x149_1 {sc : aSc} {d : Nat} {r : aRes} {a0 : Value} {x1 : Int32} {a2 : Value} {a3 : Value} {st : List Value} {σ : aS} : Rn sc d 149 1 [a0, .int x1, a2, a3] st σ r ↔ Rn sc d 149 2 [a0, .int x1, a2, a3] (.int x1 :: st) σ r := r_iload_n d149_1 rfl
theorem d149_2 : decode (mC 149) 2 = .ok (.invokevirtual 231, 3) := by decide +kernel
theorem x149_2 {sc : aSc} {d : Nat} {r : aRes} {L : List Value} {f : Nat → Nat → Int32} {g : Nat → Nat → Int64} {h1 h2 : Nat} {y0 : Int32}  {o : Nat} (hK : KK[o]? = some (.inl 7)) : Rn sc d 149 2 L [.int y0, .ref o] (cS f g h1 h2) r ↔ ∃ (σ3 : aS) (v : Option Value), Cl sc d 109 [.ref o, .int y0] (cS f g h1 h2) (σ3, v) ∧ Rn sc d 149 5 L (v.toList ++ []) σ3 r := r_callV (vs := [.int y0]) d149_2 (j := 109) rfl ⟨rfl, by decide, rfl, rfl⟩ (Nat.le_of_ble_eq_true rfl) hK
theorem d149_5 : decode (mC 149) 5 = .ok (.ifCond .ne 5, 3) := by decide +kernel
theorem x149_5 {sc : aSc} {d : Nat} {r : aRes} {L : List Value} {st : List Value} {σ : aS} {x : Int32} : Rn sc d 149 5 L (.int x :: st) σ r ↔ if x = 0 then Rn sc d 149 8 L st σ r else Rn sc d 149 10 L st σ r := r_if_ne d149_5 rfl
theorem d149_8 : decode (mC 149) 8 = .ok (.iconst (-1), 1) := by decide +kernel
theorem x149_8 {sc : aSc} {d : Nat} {r : aRes} {L : List Value} {st : List Value} {σ : aS} : Rn sc d 149 8 L st σ r ↔ Rn sc d 149 9 L (.int (-1) :: st) σ r := r_iconst d149_8 (by decide)
theorem d149_9 : decode (mC 149) 9 = .ok (.ireturn, 1) := by decide +kernel
theorem x149_9 {sc : aSc} {d : Nat} {r : aRes} {L : List Value} {σ : aS} {x : Int32} : Rn sc d 149 9 L [.int x] σ r ↔ r = (σ, some (.int x)) := r_iret d149_9 rfl rfl
theorem d149_10 : decode (mC 149) 10 = .ok (.iconst 0, 1) := by decide +kernel
theorem x149_10 {sc : aSc} {d : Nat} {r : aRes} {L : List Value} {st : List Value} {σ : aS} : Rn sc d 149 10 L st σ r ↔ Rn sc d 149 11 L (.int 0 :: st) σ r := r_iconst d149_10 (by decide)
theorem d149_11 : decode (mC 149) 11 = .ok (.istore_n 2, 1) := by decide +kernel
theorem x149_11 {sc : aSc} {d : Nat} {r : aRes} {a0 : Value} {x1 : Int32} {a2 : Value} {a3 : Value} {st : List Value} {σ : aS} {y : Int32} : Rn sc d 149 11 [a0, .int x1, a2, a3] (.int y :: st) σ r ↔ Rn sc d 149 12 [a0, .int x1, .int y, a3] st σ r := r_istore_n d149_11 (Nat.le_of_ble_eq_true rfl) rfl
theorem d149_12 : decode (mC 149) 12 = .ok (.iconst 0, 1) := by decide +kernel
theorem x149_12 {sc : aSc} {d : Nat} {r : aRes} {L : List Value} {st : List Value} {σ : aS} : Rn sc d 149 12 L st σ r ↔ Rn sc d 149 13 L (.int 0 :: st) σ r := r_iconst d149_12 (by decide)
theorem d149_13 : decode (mC 149) 13 = .ok (.istore_n 3, 1) := by decide +kernel
theorem x149_13 {sc : aSc} {d : Nat} {r : aRes} {a0 : Value} {a1 : Value} {x2 : Int32} {a3 : Value} {st : List Value} {σ : aS} {y : Int32} : Rn sc d 149 13 [a0, a1, .int x2, a3] (.int y :: st) σ r ↔ Rn sc d 149 14 [a0, a1, .int x2, .int y] st σ r := r_istore_n d149_13 (Nat.le_of_ble_eq_true rfl) rfl
theorem d149_14 : decode (mC 149) 14 = .ok (.iload_n 3, 1) := by decide +kernel
theorem x149_14 {sc : aSc} {d : Nat} {r : aRes} {a0 : Value} {a1 : Value} {a2 : Value} {x3 : Int32} {st : List Value} {σ : aS} : Rn sc d 149 14 [a0, a1, a2, .int x3] st σ r ↔ Rn sc d 149 15 [a0, a1, a2, .int x3] (.int x3 :: st) σ r := r_iload_n d149_14 rfl
theorem d149_15 : decode (mC 149) 15 = .ok (.aload_n 0, 1) := by decide +kernel
theorem x149_15 {sc : aSc} {d : Nat} {r : aRes} {x0 : Nat} {a1 : Value} {a2 : Value} {a3 : Value} {st : List Value} {σ : aS} : Rn sc d 149 15 [.ref x0, a1, a2, a3] st σ r ↔ Rn sc d 149 16 [.ref x0, a1, a2, a3] (.ref x0 :: st) σ r := r_aload_n d149_15 rfl
theorem d149_16 : decode (mC 149) 16 = .ok (.getfield 7, 3) := by decide +kernel
theorem x149_16 {sc : aSc} {d : Nat} {r : aRes} {L : List Value} {st : List Value} {f : Nat → Nat → Int32} {g : Nat → Nat → Int64} {h1 h2 : Nat} {o : Nat} (h17 : 17 ≤ o) (hK : KK[o]? = some (.inl 7)) : Rn sc d 149 16 L (.ref o :: st) (cS f g h1 h2) r ↔ Rn sc d 149 19 L (.int (f o 0) :: st) (cS f g h1 h2) r := r_getI d149_16 (ci := 7) (k := 0) rfl (by decide) (fun _ => rfl) h17 hK
theorem d149_19 : decode (mC 149) 19 = .ok (.if_icmp .ge 33, 3) := by decide +kernel
theorem x149_19 {sc : aSc} {d : Nat} {r : aRes} {L : List Value} {st : List Value} {σ : aS} {x y : Int32} : Rn sc d 149 19 L (.int y :: .int x :: st) σ r ↔ if x < y then Rn sc d 149 22 L st σ r else Rn sc d 149 52 L st σ r := r_icmp_ge d149_19 rfl
theorem d149_22 : decode (mC 149) 22 = .ok (.iload_n 2, 1) := by decide +kernel
theorem x149_22 {sc : aSc} {d : Nat} {r : aRes} {a0 : Value} {a1 : Value} {x2 : Int32} {a3 : Value} {st : List Value} {σ : aS} : Rn sc d 149 22 [a0, a1, .int x2, a3] st σ r ↔ Rn sc d 149 23 [a0, a1, .int x2, a3] (.int x2 :: st) σ r := r_iload_n d149_22 rfl
theorem d149_23 : decode (mC 149) 23 = .ok (.iload_n 3, 1) := by decide +kernel
theorem x149_23 {sc : aSc} {d : Nat} {r : aRes} {a0 : Value} {a1 : Value} {a2 : Value} {x3 : Int32} {st : List Value} {σ : aS} : Rn sc d 149 23 [a0, a1, a2, .int x3] st σ r ↔ Rn sc d 149 24 [a0, a1, a2, .int x3] (.int x3 :: st) σ r := r_iload_n d149_23 rfl
theorem d149_24 : decode (mC 149) 24 = .ok (.iload_n 1, 1) := by decide +kernel
theorem x149_24 {sc : aSc} {d : Nat} {r : aRes} {a0 : Value} {x1 : Int32} {a2 : Value} {a3 : Value} {st : List Value} {σ : aS} : Rn sc d 149 24 [a0, .int x1, a2, a3] st σ r ↔ Rn sc d 149 25 [a0, .int x1, a2, a3] (.int x1 :: st) σ r := r_iload_n d149_24 rfl
theorem d149_25 : decode (mC 149) 25 = .ok (.if_icmp .eq 18, 3) := by decide +kernel
theorem x149_25 {sc : aSc} {d : Nat} {r : aRes} {L : List Value} {st : List Value} {σ : aS} {x y : Int32} : Rn sc d 149 25 L (.int y :: .int x :: st) σ r ↔ if x = y then Rn sc d 149 43 L st σ r else Rn sc d 149 28 L st σ r := r_icmp_eq d149_25 rfl
theorem d149_28 : decode (mC 149) 28 = .ok (.aload_n 0, 1) := by decide +kernel
theorem x149_28 {sc : aSc} {d : Nat} {r : aRes} {x0 : Nat} {a1 : Value} {a2 : Value} {a3 : Value} {st : List Value} {σ : aS} : Rn sc d 149 28 [.ref x0, a1, a2, a3] st σ r ↔ Rn sc d 149 29 [.ref x0, a1, a2, a3] (.ref x0 :: st) σ r := r_aload_n d149_28 rfl
theorem d149_29 : decode (mC 149) 29 = .ok (.iload_n 1, 1) := by decide +kernel
theorem x149_29 {sc : aSc} {d : Nat} {r : aRes} {a0 : Value} {x1 : Int32} {a2 : Value} {a3 : Value} {st : List Value} {σ : aS} : Rn sc d 149 29 [a0, .int x1, a2, a3] st σ r ↔ Rn sc d 149 30 [a0, .int x1, a2, a3] (.int x1 :: st) σ r := r_iload_n d149_29 rfl
theorem d149_30 : decode (mC 149) 30 = .ok (.iload_n 3, 1) := by decide +kernel
theorem x149_30 {sc : aSc} {d : Nat} {r : aRes} {a0 : Value} {a1 : Value} {a2 : Value} {x3 : Int32} {st : List Value} {σ : aS} : Rn sc d 149 30 [a0, a1, a2, .int x3] st σ r ↔ Rn sc d 149 31 [a0, a1, a2, .int x3] (.int x3 :: st) σ r := r_iload_n d149_30 rfl
theorem d149_31 : decode (mC 149) 31 = .ok (.invokevirtual 322, 3) := by decide +kernel
theorem x149_31 {sc : aSc} {d : Nat} {r : aRes} {L : List Value} {f : Nat → Nat → Int32} {g : Nat → Nat → Int64} {h1 h2 : Nat} {y0 : Int32} {y1 : Int32} {z0 : Int32} {o : Nat} (hK : KK[o]? = some (.inl 7)) : Rn sc d 149 31 L [.int y0, .int y1, .ref o, .int z0] (cS f g h1 h2) r ↔ ∃ (σ3 : aS) (v : Option Value), Cl sc d 141 [.ref o, .int y1, .int y0] (cS f g h1 h2) (σ3, v) ∧ Rn sc d 149 34 L (v.toList ++ [.int z0]) σ3 r := r_callV (vs := [.int y0, .int y1]) d149_31 (j := 141) rfl ⟨rfl, by decide, rfl, rfl⟩ (Nat.le_of_ble_eq_true rfl) hK
theorem d149_34 : decode (mC 149) 34 = .ok (.ifCond .eq 9, 3) := by decide +kernel
theorem x149_34 {sc : aSc} {d : Nat} {r : aRes} {L : List Value} {st : List Value} {σ : aS} {x : Int32} : Rn sc d 149 34 L (.int x :: st) σ r ↔ if x = 0 then Rn sc d 149 43 L st σ r else Rn sc d 149 37 L st σ r := r_if_eq d149_34 rfl
theorem d149_37 : decode (mC 149) 37 = .ok (.iconst 1, 1) := by decide +kernel
theorem x149_37 {sc : aSc} {d : Nat} {r : aRes} {L : List Value} {st : List Value} {σ : aS} : Rn sc d 149 37 L st σ r ↔ Rn sc d 149 38 L (.int 1 :: st) σ r := r_iconst d149_37 (by decide)
theorem d149_38 : decode (mC 149) 38 = .ok (.iload_n 3, 1) := by decide +kernel
theorem x149_38 {sc : aSc} {d : Nat} {r : aRes} {a0 : Value} {a1 : Value} {a2 : Value} {x3 : Int32} {st : List Value} {σ : aS} : Rn sc d 149 38 [a0, a1, a2, .int x3] st σ r ↔ Rn sc d 149 39 [a0, a1, a2, .int x3] (.int x3 :: st) σ r := r_iload_n d149_38 rfl
theorem d149_39 : decode (mC 149) 39 = .ok (.ishl, 1) := by decide +kernel
theorem x149_39 {sc : aSc} {d : Nat} {r : aRes} {L : List Value} {st : List Value} {σ : aS} {x y : Int32} : Rn sc d 149 39 L (.int y :: .int x :: st) σ r ↔ Rn sc d 149 40 L (.int (x <<< (y &&& 31)) :: st) σ r := r_ishl d149_39
theorem d149_40 : decode (mC 149) 40 = .ok (.goto 4, 3) := by decide +kernel
theorem x149_40 {sc : aSc} {d : Nat} {r : aRes} {L : List Value} {st : List Value} {σ : aS} : Rn sc d 149 40 L st σ r ↔ Rn sc d 149 44 L st σ r := r_goto d149_40 rfl
theorem d149_43 : decode (mC 149) 43 = .ok (.iconst 0, 1) := by decide +kernel
theorem x149_43 {sc : aSc} {d : Nat} {r : aRes} {L : List Value} {st : List Value} {σ : aS} : Rn sc d 149 43 L st σ r ↔ Rn sc d 149 44 L (.int 0 :: st) σ r := r_iconst d149_43 (by decide)
theorem d149_44 : decode (mC 149) 44 = .ok (.ior, 1) := by decide +kernel
theorem x149_44 {sc : aSc} {d : Nat} {r : aRes} {L : List Value} {st : List Value} {σ : aS} {x y : Int32} : Rn sc d 149 44 L (.int y :: .int x :: st) σ r ↔ Rn sc d 149 45 L (.int (x ||| y) :: st) σ r := r_ior d149_44
theorem d149_45 : decode (mC 149) 45 = .ok (.istore_n 2, 1) := by decide +kernel
theorem x149_45 {sc : aSc} {d : Nat} {r : aRes} {a0 : Value} {x1 : Int32} {a2 : Value} {a3 : Value} {st : List Value} {σ : aS} {y : Int32} : Rn sc d 149 45 [a0, .int x1, a2, a3] (.int y :: st) σ r ↔ Rn sc d 149 46 [a0, .int x1, .int y, a3] st σ r := r_istore_n d149_45 (Nat.le_of_ble_eq_true rfl) rfl
theorem d149_46 : decode (mC 149) 46 = .ok (.iinc 3 1, 3) := by decide +kernel
theorem x149_46 {sc : aSc} {d : Nat} {r : aRes} {a0 : Value} {a1 : Value} {x2 : Int32} {x3 : Int32} {st : List Value} {σ : aS} : Rn sc d 149 46 [a0, a1, .int x2, .int x3] st σ r ↔ Rn sc d 149 49 [a0, a1, .int x2, .int (x3 + 1)] st σ r := r_iinc d149_46 (Nat.le_of_ble_eq_true rfl) rfl rfl (by decide)
theorem d149_49 : decode (mC 149) 49 = .ok (.goto (-35), 3) := by decide +kernel
theorem x149_49 {sc : aSc} {d : Nat} {r : aRes} {L : List Value} {st : List Value} {σ : aS} : Rn sc d 149 49 L st σ r ↔ Rn sc d 149 14 L st σ r := r_goto d149_49 rfl
theorem d149_52 : decode (mC 149) 52 = .ok (.iload_n 2, 1) := by decide +kernel
theorem x149_52 {sc : aSc} {d : Nat} {r : aRes} {a0 : Value} {a1 : Value} {x2 : Int32} {a3 : Value} {st : List Value} {σ : aS} : Rn sc d 149 52 [a0, a1, .int x2, a3] st σ r ↔ Rn sc d 149 53 [a0, a1, .int x2, a3] (.int x2 :: st) σ r := r_iload_n d149_52 rfl
theorem d149_53 : decode (mC 149) 53 = .ok (.ireturn, 1) := by decide +kernel
theorem x149_53 {sc : aSc} {d : Nat} {r : aRes} {L : List Value} {σ : aS} {x : Int32} : Rn sc d 149 53 L [.int x] σ r ↔ r = (σ, some (.int x)) := r_iret d149_53 rfl rfl
theorem d150_0 : decode (mC 150) 0 = .ok (.aload_n 0, 1) := by decide +kernel
theorem x150_0 {sc : aSc} {d : Nat} {r : aRes} {x0 : Nat} {a1 : Value} {a2 : Value} {a3 : Value} {a4 : Value} {a5 : Value} {a6 : Value} {st : List Value} {σ : aS} : Rn sc d 150 0 [.ref x0, a1, a2, a3, a4, a5, a6] st σ r ↔ Rn sc d 150 1 [.ref x0, a1, a2, a3, a4, a5, a6] (.ref x0 :: st) σ r := r_aload_n d150_0 rfl
theorem d150_1 : decode (mC 150) 1 = .ok (.iload_n 1, 1) := by decide +kernel
theorem x150_1 {sc : aSc} {d : Nat} {r : aRes} {a0 : Value} {x1 : Int32} {a2 : Value} {a3 : Value} {a4 : Value} {a5 : Value} {a6 : Value} {st : List Value} {σ : aS} : Rn sc d 150 1 [a0, .int x1, a2, a3, a4, a5, a6] st σ r ↔ Rn sc d 150 2 [a0, .int x1, a2, a3, a4, a5, a6] (.int x1 :: st) σ r := r_iload_n d150_1 rfl
theorem d150_2 : decode (mC 150) 2 = .ok (.invokevirtual 231, 3) := by decide +kernel
theorem x150_2 {sc : aSc} {d : Nat} {r : aRes} {L : List Value} {f : Nat → Nat → Int32} {g : Nat → Nat → Int64} {h1 h2 : Nat} {y0 : Int32}  {o : Nat} (hK : KK[o]? = some (.inl 7)) : Rn sc d 150 2 L [.int y0, .ref o] (cS f g h1 h2) r ↔ ∃ (σ3 : aS) (v : Option Value), Cl sc d 109 [.ref o, .int y0] (cS f g h1 h2) (σ3, v) ∧ Rn sc d 150 5 L (v.toList ++ []) σ3 r := r_callV (vs := [.int y0]) d150_2 (j := 109) rfl ⟨rfl, by decide, rfl, rfl⟩ (Nat.le_of_ble_eq_true rfl) hK
theorem d150_5 : decode (mC 150) 5 = .ok (.ifCond .eq 21, 3) := by decide +kernel
theorem x150_5 {sc : aSc} {d : Nat} {r : aRes} {L : List Value} {st : List Value} {σ : aS} {x : Int32} : Rn sc d 150 5 L (.int x :: st) σ r ↔ if x = 0 then Rn sc d 150 26 L st σ r else Rn sc d 150 8 L st σ r := r_if_eq d150_5 rfl
theorem d150_8 : decode (mC 150) 8 = .ok (.aload_n 0, 1) := by decide +kernel
theorem x150_8 {sc : aSc} {d : Nat} {r : aRes} {x0 : Nat} {a1 : Value} {a2 : Value} {a3 : Value} {a4 : Value} {a5 : Value} {a6 : Value} {st : List Value} {σ : aS} : Rn sc d 150 8 [.ref x0, a1, a2, a3, a4, a5, a6] st σ r ↔ Rn sc d 150 9 [.ref x0, a1, a2, a3, a4, a5, a6] (.ref x0 :: st) σ r := r_aload_n d150_8 rfl
theorem d150_9 : decode (mC 150) 9 = .ok (.iload_n 2, 1) := by decide +kernel
theorem x150_9 {sc : aSc} {d : Nat} {r : aRes} {a0 : Value} {a1 : Value} {x2 : Int32} {a3 : Value} {a4 : Value} {a5 : Value} {a6 : Value} {st : List Value} {σ : aS} : Rn sc d 150 9 [a0, a1, .int x2, a3, a4, a5, a6] st σ r ↔ Rn sc d 150 10 [a0, a1, .int x2, a3, a4, a5, a6] (.int x2 :: st) σ r := r_iload_n d150_9 rfl
theorem d150_10 : decode (mC 150) 10 = .ok (.invokevirtual 231, 3) := by decide +kernel
theorem x150_10 {sc : aSc} {d : Nat} {r : aRes} {L : List Value} {f : Nat → Nat → Int32} {g : Nat → Nat → Int64} {h1 h2 : Nat} {y0 : Int32}  {o : Nat} (hK : KK[o]? = some (.inl 7)) : Rn sc d 150 10 L [.int y0, .ref o] (cS f g h1 h2) r ↔ ∃ (σ3 : aS) (v : Option Value), Cl sc d 109 [.ref o, .int y0] (cS f g h1 h2) (σ3, v) ∧ Rn sc d 150 13 L (v.toList ++ []) σ3 r := r_callV (vs := [.int y0]) d150_10 (j := 109) rfl ⟨rfl, by decide, rfl, rfl⟩ (Nat.le_of_ble_eq_true rfl) hK
theorem d150_13 : decode (mC 150) 13 = .ok (.ifCond .eq 13, 3) := by decide +kernel
theorem x150_13 {sc : aSc} {d : Nat} {r : aRes} {L : List Value} {st : List Value} {σ : aS} {x : Int32} : Rn sc d 150 13 L (.int x :: st) σ r ↔ if x = 0 then Rn sc d 150 26 L st σ r else Rn sc d 150 16 L st σ r := r_if_eq d150_13 rfl
theorem d150_16 : decode (mC 150) 16 = .ok (.aload_n 0, 1) := by decide +kernel
theorem x150_16 {sc : aSc} {d : Nat} {r : aRes} {x0 : Nat} {a1 : Value} {a2 : Value} {a3 : Value} {a4 : Value} {a5 : Value} {a6 : Value} {st : List Value} {σ : aS} : Rn sc d 150 16 [.ref x0, a1, a2, a3, a4, a5, a6] st σ r ↔ Rn sc d 150 17 [.ref x0, a1, a2, a3, a4, a5, a6] (.ref x0 :: st) σ r := r_aload_n d150_16 rfl
theorem d150_17 : decode (mC 150) 17 = .ok (.iload_n 3, 1) := by decide +kernel
theorem x150_17 {sc : aSc} {d : Nat} {r : aRes} {a0 : Value} {a1 : Value} {a2 : Value} {x3 : Int32} {a4 : Value} {a5 : Value} {a6 : Value} {st : List Value} {σ : aS} : Rn sc d 150 17 [a0, a1, a2, .int x3, a4, a5, a6] st σ r ↔ Rn sc d 150 18 [a0, a1, a2, .int x3, a4, a5, a6] (.int x3 :: st) σ r := r_iload_n d150_17 rfl
theorem d150_18 : decode (mC 150) 18 = .ok (.iconst 0, 1) := by decide +kernel
theorem x150_18 {sc : aSc} {d : Nat} {r : aRes} {L : List Value} {st : List Value} {σ : aS} : Rn sc d 150 18 L st σ r ↔ Rn sc d 150 19 L (.int 0 :: st) σ r := r_iconst d150_18 (by decide)
theorem d150_19 : decode (mC 150) 19 = .ok (.iconst 1, 1) := by decide +kernel
theorem x150_19 {sc : aSc} {d : Nat} {r : aRes} {L : List Value} {st : List Value} {σ : aS} : Rn sc d 150 19 L st σ r ↔ Rn sc d 150 20 L (.int 1 :: st) σ r := r_iconst d150_19 (by decide)
theorem d150_20 : decode (mC 150) 20 = .ok (.invokevirtual 227, 3) := by decide +kernel
theorem x150_20 {sc : aSc} {d : Nat} {r : aRes} {L : List Value} {f : Nat → Nat → Int32} {g : Nat → Nat → Int64} {h1 h2 : Nat} {y0 : Int32} {y1 : Int32} {y2 : Int32}  {o : Nat} (hK : KK[o]? = some (.inl 7)) : Rn sc d 150 20 L [.int y0, .int y1, .int y2, .ref o] (cS f g h1 h2) r ↔ ∃ (σ3 : aS) (v : Option Value), Cl sc d 108 [.ref o, .int y2, .int y1, .int y0] (cS f g h1 h2) (σ3, v) ∧ Rn sc d 150 23 L (v.toList ++ []) σ3 r := r_callV (vs := [.int y0, .int y1, .int y2]) d150_20 (j := 108) rfl ⟨rfl, by decide, rfl, rfl⟩ (Nat.le_of_ble_eq_true rfl) hK
theorem d150_23 : decode (mC 150) 23 = .ok (.ifCond .ne 5, 3) := by decide +kernel
theorem x150_23 {sc : aSc} {d : Nat} {r : aRes} {L : List Value} {st : List Value} {σ : aS} {x : Int32} : Rn sc d 150 23 L (.int x :: st) σ r ↔ if x = 0 then Rn sc d 150 26 L st σ r else Rn sc d 150 28 L st σ r := r_if_ne d150_23 rfl
theorem d150_26 : decode (mC 150) 26 = .ok (.iconst (-1), 1) := by decide +kernel
theorem x150_26 {sc : aSc} {d : Nat} {r : aRes} {L : List Value} {st : List Value} {σ : aS} : Rn sc d 150 26 L st σ r ↔ Rn sc d 150 27 L (.int (-1) :: st) σ r := r_iconst d150_26 (by decide)
theorem d150_27 : decode (mC 150) 27 = .ok (.ireturn, 1) := by decide +kernel
theorem x150_27 {sc : aSc} {d : Nat} {r : aRes} {L : List Value} {σ : aS} {x : Int32} : Rn sc d 150 27 L [.int x] σ r ↔ r = (σ, some (.int x)) := r_iret d150_27 rfl rfl
theorem d150_28 : decode (mC 150) 28 = .ok (.iload_n 1, 1) := by decide +kernel
theorem x150_28 {sc : aSc} {d : Nat} {r : aRes} {a0 : Value} {x1 : Int32} {a2 : Value} {a3 : Value} {a4 : Value} {a5 : Value} {a6 : Value} {st : List Value} {σ : aS} : Rn sc d 150 28 [a0, .int x1, a2, a3, a4, a5, a6] st σ r ↔ Rn sc d 150 29 [a0, .int x1, a2, a3, a4, a5, a6] (.int x1 :: st) σ r := r_iload_n d150_28 rfl
theorem d150_29 : decode (mC 150) 29 = .ok (.iload_n 2, 1) := by decide +kernel
theorem x150_29 {sc : aSc} {d : Nat} {r : aRes} {a0 : Value} {a1 : Value} {x2 : Int32} {a3 : Value} {a4 : Value} {a5 : Value} {a6 : Value} {st : List Value} {σ : aS} : Rn sc d 150 29 [a0, a1, .int x2, a3, a4, a5, a6] st σ r ↔ Rn sc d 150 30 [a0, a1, .int x2, a3, a4, a5, a6] (.int x2 :: st) σ r := r_iload_n d150_29 rfl
theorem d150_30 : decode (mC 150) 30 = .ok (.if_icmp .ne 6, 3) := by decide +kernel
theorem x150_30 {sc : aSc} {d : Nat} {r : aRes} {L : List Value} {st : List Value} {σ : aS} {x y : Int32} : Rn sc d 150 30 L (.int y :: .int x :: st) σ r ↔ if x = y then Rn sc d 150 33 L st σ r else Rn sc d 150 36 L st σ r := r_icmp_ne d150_30 rfl
theorem d150_33 : decode (mC 150) 33 = .ok (.bipush (-2), 2) := by decide +kernel
theorem x150_33 {sc : aSc} {d : Nat} {r : aRes} {L : List Value} {st : List Value} {σ : aS} : Rn sc d 150 33 L st σ r ↔ Rn sc d 150 35 L (.int (-2) :: st) σ r := r_bipush d150_33 (by decide)
theorem d150_35 : decode (mC 150) 35 = .ok (.ireturn, 1) := by decide +kernel
theorem x150_35 {sc : aSc} {d : Nat} {r : aRes} {L : List Value} {σ : aS} {x : Int32} : Rn sc d 150 35 L [.int x] σ r ↔ r = (σ, some (.int x)) := r_iret d150_35 rfl rfl
theorem d150_36 : decode (mC 150) 36 = .ok (.aload_n 0, 1) := by decide +kernel
theorem x150_36 {sc : aSc} {d : Nat} {r : aRes} {x0 : Nat} {a1 : Value} {a2 : Value} {a3 : Value} {a4 : Value} {a5 : Value} {a6 : Value} {st : List Value} {σ : aS} : Rn sc d 150 36 [.ref x0, a1, a2, a3, a4, a5, a6] st σ r ↔ Rn sc d 150 37 [.ref x0, a1, a2, a3, a4, a5, a6] (.ref x0 :: st) σ r := r_aload_n d150_36 rfl
theorem d150_37 : decode (mC 150) 37 = .ok (.iload_n 1, 1) := by decide +kernel
theorem x150_37 {sc : aSc} {d : Nat} {r : aRes} {a0 : Value} {x1 : Int32} {a2 : Value} {a3 : Value} {a4 : Value} {a5 : Value} {a6 : Value} {st : List Value} {σ : aS} : Rn sc d 150 37 [a0, .int x1, a2, a3, a4, a5, a6] st σ r ↔ Rn sc d 150 38 [a0, .int x1, a2, a3, a4, a5, a6] (.int x1 :: st) σ r := r_iload_n d150_37 rfl
theorem d150_38 : decode (mC 150) 38 = .ok (.iload_n 2, 1) := by decide +kernel
theorem x150_38 {sc : aSc} {d : Nat} {r : aRes} {a0 : Value} {a1 : Value} {x2 : Int32} {a3 : Value} {a4 : Value} {a5 : Value} {a6 : Value} {st : List Value} {σ : aS} : Rn sc d 150 38 [a0, a1, .int x2, a3, a4, a5, a6] st σ r ↔ Rn sc d 150 39 [a0, a1, .int x2, a3, a4, a5, a6] (.int x2 :: st) σ r := r_iload_n d150_38 rfl
theorem d150_39 : decode (mC 150) 39 = .ok (.invokevirtual 310, 3) := by decide +kernel
theorem x150_39 {sc : aSc} {d : Nat} {r : aRes} {L : List Value} {f : Nat → Nat → Int32} {g : Nat → Nat → Int64} {h1 h2 : Nat} {y0 : Int32} {y1 : Int32}  {o : Nat} (hK : KK[o]? = some (.inl 7)) : Rn sc d 150 39 L [.int y0, .int y1, .ref o] (cS f g h1 h2) r ↔ ∃ (σ3 : aS) (v : Option Value), Cl sc d 139 [.ref o, .int y1, .int y0] (cS f g h1 h2) (σ3, v) ∧ Rn sc d 150 42 L (v.toList ++ []) σ3 r := r_callV (vs := [.int y0, .int y1]) d150_39 (j := 139) rfl ⟨rfl, by decide, rfl, rfl⟩ (Nat.le_of_ble_eq_true rfl) hK
theorem d150_42 : decode (mC 150) 42 = .ok (.ifCond .ne 6, 3) := by decide +kernel
theorem x150_42 {sc : aSc} {d : Nat} {r : aRes} {L : List Value} {st : List Value} {σ : aS} {x : Int32} : Rn sc d 150 42 L (.int x :: st) σ r ↔ if x = 0 then Rn sc d 150 45 L st σ r else Rn sc d 150 48 L st σ r := r_if_ne d150_42 rfl
theorem d150_45 : decode (mC 150) 45 = .ok (.bipush (-5), 2) := by decide +kernel
theorem x150_45 {sc : aSc} {d : Nat} {r : aRes} {L : List Value} {st : List Value} {σ : aS} : Rn sc d 150 45 L st σ r ↔ Rn sc d 150 47 L (.int (-5) :: st) σ r := r_bipush d150_45 (by decide)
theorem d150_47 : decode (mC 150) 47 = .ok (.ireturn, 1) := by decide +kernel
theorem x150_47 {sc : aSc} {d : Nat} {r : aRes} {L : List Value} {σ : aS} {x : Int32} : Rn sc d 150 47 L [.int x] σ r ↔ r = (σ, some (.int x)) := r_iret d150_47 rfl rfl
theorem d150_48 : decode (mC 150) 48 = .ok (.aload_n 0, 1) := by decide +kernel
theorem x150_48 {sc : aSc} {d : Nat} {r : aRes} {x0 : Nat} {a1 : Value} {a2 : Value} {a3 : Value} {a4 : Value} {a5 : Value} {a6 : Value} {st : List Value} {σ : aS} : Rn sc d 150 48 [.ref x0, a1, a2, a3, a4, a5, a6] st σ r ↔ Rn sc d 150 49 [.ref x0, a1, a2, a3, a4, a5, a6] (.ref x0 :: st) σ r := r_aload_n d150_48 rfl
theorem d150_49 : decode (mC 150) 49 = .ok (.iload_n 1, 1) := by decide +kernel
theorem x150_49 {sc : aSc} {d : Nat} {r : aRes} {a0 : Value} {x1 : Int32} {a2 : Value} {a3 : Value} {a4 : Value} {a5 : Value} {a6 : Value} {st : List Value} {σ : aS} : Rn sc d 150 49 [a0, .int x1, a2, a3, a4, a5, a6] st σ r ↔ Rn sc d 150 50 [a0, .int x1, a2, a3, a4, a5, a6] (.int x1 :: st) σ r := r_iload_n d150_49 rfl
theorem d150_50 : decode (mC 150) 50 = .ok (.invokevirtual 313, 3) := by decide +kernel
theorem x150_50 {sc : aSc} {d : Nat} {r : aRes} {L : List Value} {f : Nat → Nat → Int32} {g : Nat → Nat → Int64} {h1 h2 : Nat} {y0 : Int32}  {o : Nat} (hK : KK[o]? = some (.inl 7)) : Rn sc d 150 50 L [.int y0, .ref o] (cS f g h1 h2) r ↔ ∃ (σ3 : aS) (v : Option Value), Cl sc d 138 [.ref o, .int y0] (cS f g h1 h2) (σ3, v) ∧ Rn sc d 150 53 L (v.toList ++ []) σ3 r := r_callV (vs := [.int y0]) d150_50 (j := 138) rfl ⟨rfl, by decide, rfl, rfl⟩ (Nat.le_of_ble_eq_true rfl) hK
theorem d150_53 : decode (mC 150) 53 = .ok (.istore 4, 2) := by decide +kernel
theorem x150_53 {sc : aSc} {d : Nat} {r : aRes} {a0 : Value} {a1 : Value} {a2 : Value} {x3 : Int32} {a4 : Value} {a5 : Value} {a6 : Value} {st : List Value} {σ : aS} {y : Int32} : Rn sc d 150 53 [a0, a1, a2, .int x3, a4, a5, a6] (.int y :: st) σ r ↔ Rn sc d 150 55 [a0, a1, a2, .int x3, .int y, a5, a6] st σ r := r_istore d150_53 (Nat.le_of_ble_eq_true rfl) rfl
theorem d150_55 : decode (mC 150) 55 = .ok (.aload_n 0, 1) := by decide +kernel
theorem x150_55 {sc : aSc} {d : Nat} {r : aRes} {x0 : Nat} {a1 : Value} {a2 : Value} {a3 : Value} {a4 : Value} {a5 : Value} {a6 : Value} {st : List Value} {σ : aS} : Rn sc d 150 55 [.ref x0, a1, a2, a3, a4, a5, a6] st σ r ↔ Rn sc d 150 56 [.ref x0, a1, a2, a3, a4, a5, a6] (.ref x0 :: st) σ r := r_aload_n d150_55 rfl
theorem d150_56 : decode (mC 150) 56 = .ok (.iload_n 2, 1) := by decide +kernel
theorem x150_56 {sc : aSc} {d : Nat} {r : aRes} {a0 : Value} {a1 : Value} {x2 : Int32} {a3 : Value} {a4 : Value} {a5 : Value} {a6 : Value} {st : List Value} {σ : aS} : Rn sc d 150 56 [a0, a1, .int x2, a3, a4, a5, a6] st σ r ↔ Rn sc d 150 57 [a0, a1, .int x2, a3, a4, a5, a6] (.int x2 :: st) σ r := r_iload_n d150_56 rfl
theorem d150_57 : decode (mC 150) 57 = .ok (.invokevirtual 313, 3) := by decide +kernel
theorem x150_57 {sc : aSc} {d : Nat} {r : aRes} {L : List Value} {f : Nat → Nat → Int32} {g : Nat → Nat → Int64} {h1 h2 : Nat} {y0 : Int32}  {o : Nat} (hK : KK[o]? = some (.inl 7)) : Rn sc d 150 57 L [.int y0, .ref o] (cS f g h1 h2) r ↔ ∃ (σ3 : aS) (v : Option Value), Cl sc d 138 [.ref o, .int y0] (cS f g h1 h2) (σ3, v) ∧ Rn sc d 150 60 L (v.toList ++ []) σ3 r := r_callV (vs := [.int y0]) d150_57 (j := 138) rfl ⟨rfl, by decide, rfl, rfl⟩ (Nat.le_of_ble_eq_true rfl) hK
theorem d150_60 : decode (mC 150) 60 = .ok (.istore 5, 2) := by decide +kernel
theorem x150_60 {sc : aSc} {d : Nat} {r : aRes} {a0 : Value} {a1 : Value} {a2 : Value} {a3 : Value} {x4 : Int32} {a5 : Value} {a6 : Value} {st : List Value} {σ : aS} {y : Int32} : Rn sc d 150 60 [a0, a1, a2, a3, .int x4, a5, a6] (.int y :: st) σ r ↔ Rn sc d 150 62 [a0, a1, a2, a3, .int x4, .int y, a6] st σ r := r_istore d150_60 (Nat.le_of_ble_eq_true rfl) rfl
theorem d150_62 : decode (mC 150) 62 = .ok (.iconst 0, 1) := by decide +kernel
theorem x150_62 {sc : aSc} {d : Nat} {r : aRes} {L : List Value} {st : List Value} {σ : aS} : Rn sc d 150 62 L st σ r ↔ Rn sc d 150 63 L (.int 0 :: st) σ r := r_iconst d150_62 (by decide)
theorem d150_63 : decode (mC 150) 63 = .ok (.istore 6, 2) := by decide +kernel
theorem x150_63 {sc : aSc} {d : Nat} {r : aRes} {a0 : Value} {a1 : Value} {a2 : Value} {a3 : Value} {a4 : Value} {x5 : Int32} {a6 : Value} {st : List Value} {σ : aS} {y : Int32} : Rn sc d 150 63 [a0, a1, a2, a3, a4, .int x5, a6] (.int y :: st) σ r ↔ Rn sc d 150 65 [a0, a1, a2, a3, a4, .int x5, .int y] st σ r := r_istore d150_63 (Nat.le_of_ble_eq_true rfl) rfl
theorem d150_65 : decode (mC 150) 65 = .ok (.iload 6, 2) := by decide +kernel
theorem x150_65 {sc : aSc} {d : Nat} {r : aRes} {a0 : Value} {a1 : Value} {a2 : Value} {a3 : Value} {a4 : Value} {a5 : Value} {x6 : Int32} {st : List Value} {σ : aS} : Rn sc d 150 65 [a0, a1, a2, a3, a4, a5, .int x6] st σ r ↔ Rn sc d 150 67 [a0, a1, a2, a3, a4, a5, .int x6] (.int x6 :: st) σ r := r_iload d150_65 rfl
theorem d150_67 : decode (mC 150) 67 = .ok (.bipush 100, 2) := by decide +kernel
theorem x150_67 {sc : aSc} {d : Nat} {r : aRes} {L : List Value} {st : List Value} {σ : aS} : Rn sc d 150 67 L st σ r ↔ Rn sc d 150 69 L (.int 100 :: st) σ r := r_bipush d150_67 (by decide)
theorem d150_69 : decode (mC 150) 69 = .ok (.if_icmp .ge 59, 3) := by decide +kernel
theorem x150_69 {sc : aSc} {d : Nat} {r : aRes} {L : List Value} {st : List Value} {σ : aS} {x y : Int32} : Rn sc d 150 69 L (.int y :: .int x :: st) σ r ↔ if x < y then Rn sc d 150 72 L st σ r else Rn sc d 150 128 L st σ r := r_icmp_ge d150_69 rfl
theorem d150_72 : decode (mC 150) 72 = .ok (.aload_n 0, 1) := by decide +kernel
theorem x150_72 {sc : aSc} {d : Nat} {r : aRes} {x0 : Nat} {a1 : Value} {a2 : Value} {a3 : Value} {a4 : Value} {a5 : Value} {a6 : Value} {st : List Value} {σ : aS} : Rn sc d 150 72 [.ref x0, a1, a2, a3, a4, a5, a6] st σ r ↔ Rn sc d 150 73 [.ref x0, a1, a2, a3, a4, a5, a6] (.ref x0 :: st) σ r := r_aload_n d150_72 rfl
theorem d150_73 : decode (mC 150) 73 = .ok (.iload 4, 2) := by decide +kernel
theorem x150_73 {sc : aSc} {d : Nat} {r : aRes} {a0 : Value} {a1 : Value} {a2 : Value} {a3 : Value} {x4 : Int32} {a5 : Value} {a6 : Value} {st : List Value} {σ : aS} : Rn sc d 150 73 [a0, a1, a2, a3, .int x4, a5, a6] st σ r ↔ Rn sc d 150 75 [a0, a1, a2, a3, .int x4, a5, a6] (.int x4 :: st) σ r := r_iload d150_73 rfl
theorem d150_75 : decode (mC 150) 75 = .ok (.iload 6, 2) := by decide +kernel
theorem x150_75 {sc : aSc} {d : Nat} {r : aRes} {a0 : Value} {a1 : Value} {a2 : Value} {a3 : Value} {a4 : Value} {a5 : Value} {x6 : Int32} {st : List Value} {σ : aS} : Rn sc d 150 75 [a0, a1, a2, a3, a4, a5, .int x6] st σ r ↔ Rn sc d 150 77 [a0, a1, a2, a3, a4, a5, .int x6] (.int x6 :: st) σ r := r_iload d150_75 rfl
theorem d150_77 : decode (mC 150) 77 = .ok (.iadd, 1) := by decide +kernel
theorem x150_77 {sc : aSc} {d : Nat} {r : aRes} {L : List Value} {st : List Value} {σ : aS} {x y : Int32} : Rn sc d 150 77 L (.int y :: .int x :: st) σ r ↔ Rn sc d 150 78 L (.int (x + y) :: st) σ r := r_iadd d150_77
theorem d150_78 : decode (mC 150) 78 = .ok (.iload 5, 2) := by decide +kernel
theorem x150_78 {sc : aSc} {d : Nat} {r : aRes} {a0 : Value} {a1 : Value} {a2 : Value} {a3 : Value} {a4 : Value} {x5 : Int32} {a6 : Value} {st : List Value} {σ : aS} : Rn sc d 150 78 [a0, a1, a2, a3, a4, .int x5, a6] st σ r ↔ Rn sc d 150 80 [a0, a1, a2, a3, a4, .int x5, a6] (.int x5 :: st) σ r := r_iload d150_78 rfl
theorem d150_80 : decode (mC 150) 80 = .ok (.invokevirtual 316, 3) := by decide +kernel
theorem x150_80 {sc : aSc} {d : Nat} {r : aRes} {L : List Value} {f : Nat → Nat → Int32} {g : Nat → Nat → Int64} {h1 h2 : Nat} {y0 : Int32} {y1 : Int32}  {o : Nat} (hK : KK[o]? = some (.inl 7)) : Rn sc d 150 80 L [.int y0, .int y1, .ref o] (cS f g h1 h2) r ↔ ∃ (σ3 : aS) (v : Option Value), Cl sc d 140 [.ref o, .int y1, .int y0] (cS f g h1 h2) (σ3, v) ∧ Rn sc d 150 83 L (v.toList ++ []) σ3 r := r_callV (vs := [.int y0, .int y1]) d150_80 (j := 140) rfl ⟨rfl, by decide, rfl, rfl⟩ (Nat.le_of_ble_eq_true rfl) hK
theorem d150_83 : decode (mC 150) 83 = .ok (.ifCond .eq 14, 3) := by decide +kernel
theorem x150_83 {sc : aSc} {d : Nat} {r : aRes} {L : List Value} {st : List Value} {σ : aS} {x : Int32} : Rn sc d 150 83 L (.int x :: st) σ r ↔ if x = 0 then Rn sc d 150 97 L st σ r else Rn sc d 150 86 L st σ r := r_if_eq d150_83 rfl
theorem d150_86 : decode (mC 150) 86 = .ok (.iload_n 3, 1) := by decide +kernel
theorem x150_86 {sc : aSc} {d : Nat} {r : aRes} {a0 : Value} {a1 : Value} {a2 : Value} {x3 : Int32} {a4 : Value} {a5 : Value} {a6 : Value} {st : List Value} {σ : aS} : Rn sc d 150 86 [a0, a1, a2, .int x3, a4, a5, a6] st σ r ↔ Rn sc d 150 87 [a0, a1, a2, .int x3, a4, a5, a6] (.int x3 :: st) σ r := r_iload_n d150_86 rfl
theorem d150_87 : decode (mC 150) 87 = .ok (.ifCond .ne 8, 3) := by decide +kernel
theorem x150_87 {sc : aSc} {d : Nat} {r : aRes} {L : List Value} {st : List Value} {σ : aS} {x : Int32} : Rn sc d 150 87 L (.int x :: st) σ r ↔ if x = 0 then Rn sc d 150 90 L st σ r else Rn sc d 150 95 L st σ r := r_if_ne d150_87 rfl
theorem d150_90 : decode (mC 150) 90 = .ok (.iload 6, 2) := by decide +kernel
theorem x150_90 {sc : aSc} {d : Nat} {r : aRes} {a0 : Value} {a1 : Value} {a2 : Value} {a3 : Value} {a4 : Value} {a5 : Value} {x6 : Int32} {st : List Value} {σ : aS} : Rn sc d 150 90 [a0, a1, a2, a3, a4, a5, .int x6] st σ r ↔ Rn sc d 150 92 [a0, a1, a2, a3, a4, a5, .int x6] (.int x6 :: st) σ r := r_iload d150_90 rfl
theorem d150_92 : decode (mC 150) 92 = .ok (.goto 4, 3) := by decide +kernel
theorem x150_92 {sc : aSc} {d : Nat} {r : aRes} {L : List Value} {st : List Value} {σ : aS} : Rn sc d 150 92 L st σ r ↔ Rn sc d 150 96 L st σ r := r_goto d150_92 rfl
theorem d150_95 : decode (mC 150) 95 = .ok (.iload_n 1, 1) := by decide +kernel
theorem x150_95 {sc : aSc} {d : Nat} {r : aRes} {a0 : Value} {x1 : Int32} {a2 : Value} {a3 : Value} {a4 : Value} {a5 : Value} {a6 : Value} {st : List Value} {σ : aS} : Rn sc d 150 95 [a0, .int x1, a2, a3, a4, a5, a6] st σ r ↔ Rn sc d 150 96 [a0, .int x1, a2, a3, a4, a5, a6] (.int x1 :: st) σ r := r_iload_n d150_95 rfl
theorem d150_96 : decode (mC 150) 96 = .ok (.ireturn, 1) := by decide +kernel
theorem x150_96 {sc : aSc} {d : Nat} {r : aRes} {L : List Value} {σ : aS} {x : Int32} : Rn sc d 150 96 L [.int x] σ r ↔ r = (σ, some (.int x)) := r_iret d150_96 rfl rfl
theorem d150_97 : decode (mC 150) 97 = .ok (.aload_n 0, 1) := by decide +kernel
theorem x150_97 {sc : aSc} {d : Nat} {r : aRes} {x0 : Nat} {a1 : Value} {a2 : Value} {a3 : Value} {a4 : Value} {a5 : Value} {a6 : Value} {st : List Value} {σ : aS} : Rn sc d 150 97 [.ref x0, a1, a2, a3, a4, a5, a6] st σ r ↔ Rn sc d 150 98 [.ref x0, a1, a2, a3, a4, a5, a6] (.ref x0 :: st) σ r := r_aload_n d150_97 rfl
theorem d150_98 : decode (mC 150) 98 = .ok (.iload 4, 2) := by decide +kernel
theorem x150_98 {sc : aSc} {d : Nat} {r : aRes} {a0 : Value} {a1 : Value} {a2 : Value} {a3 : Value} {x4 : Int32} {a5 : Value} {a6 : Value} {st : List Value} {σ : aS} : Rn sc d 150 98 [a0, a1, a2, a3, .int x4, a5, a6] st σ r ↔ Rn sc d 150 100 [a0, a1, a2, a3, .int x4, a5, a6] (.int x4 :: st) σ r := r_iload d150_98 rfl
theorem d150_100 : decode (mC 150) 100 = .ok (.iload 5, 2) := by decide +kernel
theorem x150_100 {sc : aSc} {d : Nat} {r : aRes} {a0 : Value} {a1 : Value} {a2 : Value} {a3 : Value} {a4 : Value} {x5 : Int32} {a6 : Value} {st : List Value} {σ : aS} : Rn sc d 150 100 [a0, a1, a2, a3, a4, .int x5, a6] st σ r ↔ Rn sc d 150 102 [a0, a1, a2, a3, a4, .int x5, a6] (.int x5 :: st) σ r := r_iload d150_100 rfl
theorem d150_102 : decode (mC 150) 102 = .ok (.iload 6, 2) := by decide +kernel
theorem x150_102 {sc : aSc} {d : Nat} {r : aRes} {a0 : Value} {a1 : Value} {a2 : Value} {a3 : Value} {a4 : Value} {a5 : Value} {x6 : Int32} {st : List Value} {σ : aS} : Rn sc d 150 102 [a0, a1, a2, a3, a4, a5, .int x6] st σ r ↔ Rn sc d 150 104 [a0, a1, a2, a3, a4, a5, .int x6] (.int x6 :: st) σ r := r_iload d150_102 rfl
theorem d150_104 : decode (mC 150) 104 = .ok (.iadd, 1) := by decide +kernel
theorem x150_104 {sc : aSc} {d : Nat} {r : aRes} {L : List Value} {st : List Value} {σ : aS} {x y : Int32} : Rn sc d 150 104 L (.int y :: .int x :: st) σ r ↔ Rn sc d 150 105 L (.int (x + y) :: st) σ r := r_iadd d150_104
theorem d150_105 : decode (mC 150) 105 = .ok (.invokevirtual 316, 3) := by decide +kernel
theorem x150_105 {sc : aSc} {d : Nat} {r : aRes} {L : List Value} {f : Nat → Nat → Int32} {g : Nat → Nat → Int64} {h1 h2 : Nat} {y0 : Int32} {y1 : Int32}  {o : Nat} (hK : KK[o]? = some (.inl 7)) : Rn sc d 150 105 L [.int y0, .int y1, .ref o] (cS f g h1 h2) r ↔ ∃ (σ3 : aS) (v : Option Value), Cl sc d 140 [.ref o, .int y1, .int y0] (cS f g h1 h2) (σ3, v) ∧ Rn sc d 150 108 L (v.toList ++ []) σ3 r := r_callV (vs := [.int y0, .int y1]) d150_105 (j := 140) rfl ⟨rfl, by decide, rfl, rfl⟩ (Nat.le_of_ble_eq_true rfl) hK
theorem d150_108 : decode (mC 150) 108 = .ok (.ifCond .eq 14, 3) := by decide +kernel
theorem x150_108 {sc : aSc} {d : Nat} {r : aRes} {L : List Value} {st : List Value} {σ : aS} {x : Int32} : Rn sc d 150 108 L (.int x :: st) σ r ↔ if x = 0 then Rn sc d 150 122 L st σ r else Rn sc d 150 111 L st σ r := r_if_eq d150_108 rfl
theorem d150_111 : decode (mC 150) 111 = .ok (.iload_n 3, 1) := by decide +kernel
theorem x150_111 {sc : aSc} {d : Nat} {r : aRes} {a0 : Value} {a1 : Value} {a2 : Value} {x3 : Int32} {a4 : Value} {a5 : Value} {a6 : Value} {st : List Value} {σ : aS} : Rn sc d 150 111 [a0, a1, a2, .int x3, a4, a5, a6] st σ r ↔ Rn sc d 150 112 [a0, a1, a2, .int x3, a4, a5, a6] (.int x3 :: st) σ r := r_iload_n d150_111 rfl
theorem d150_112 : decode (mC 150) 112 = .ok (.ifCond .ne 8, 3) := by decide +kernel
theorem x150_112 {sc : aSc} {d : Nat} {r : aRes} {L : List Value} {st : List Value} {σ : aS} {x : Int32} : Rn sc d 150 112 L (.int x :: st) σ r ↔ if x = 0 then Rn sc d 150 115 L st σ r else Rn sc d 150 120 L st σ r := r_if_ne d150_112 rfl
theorem d150_115 : decode (mC 150) 115 = .ok (.iload 6, 2) := by decide +kernel
theorem x150_115 {sc : aSc} {d : Nat} {r : aRes} {a0 : Value} {a1 : Value} {a2 : Value} {a3 : Value} {a4 : Value} {a5 : Value} {x6 : Int32} {st : List Value} {σ : aS} : Rn sc d 150 115 [a0, a1, a2, a3, a4, a5, .int x6] st σ r ↔ Rn sc d 150 117 [a0, a1, a2, a3, a4, a5, .int x6] (.int x6 :: st) σ r := r_iload d150_115 rfl
theorem d150_117 : decode (mC 150) 117 = .ok (.goto 4, 3) := by decide +kernel
theorem x150_117 {sc : aSc} {d : Nat} {r : aRes} {L : List Value} {st : List Value} {σ : aS} : Rn sc d 150 117 L st σ r ↔ Rn sc d 150 121 L st σ r := r_goto d150_117 rfl
theorem d150_120 : decode (mC 150) 120 = .ok (.iload_n 2, 1) := by decide +kernel
theorem x150_120 {sc : aSc} {d : Nat} {r : aRes} {a0 : Value} {a1 : Value} {x2 : Int32} {a3 : Value} {a4 : Value} {a5 : Value} {a6 : Value} {st : List Value} {σ : aS} : Rn sc d 150 120 [a0, a1, .int x2, a3, a4, a5, a6] st σ r ↔ Rn sc d 150 121 [a0, a1, .int x2, a3, a4, a5, a6] (.int x2 :: st) σ r := r_iload_n d150_120 rfl
theorem d150_121 : decode (mC 150) 121 = .ok (.ireturn, 1) := by decide +kernel
theorem x150_121 {sc : aSc} {d : Nat} {r : aRes} {L : List Value} {σ : aS} {x : Int32} : Rn sc d 150 121 L [.int x] σ r ↔ r = (σ, some (.int x)) := r_iret d150_121 rfl rfl
theorem d150_122 : decode (mC 150) 122 = .ok (.iinc 6 1, 3) := by decide +kernel
theorem x150_122 {sc : aSc} {d : Nat} {r : aRes} {a0 : Value} {a1 : Value} {a2 : Value} {a3 : Value} {a4 : Value} {x5 : Int32} {x6 : Int32} {st : List Value} {σ : aS} : Rn sc d 150 122 [a0, a1, a2, a3, a4, .int x5, .int x6] st σ r ↔ Rn sc d 150 125 [a0, a1, a2, a3, a4, .int x5, .int (x6 + 1)] st σ r := r_iinc d150_122 (Nat.le_of_ble_eq_true rfl) rfl rfl (by decide)
theorem d150_125 : decode (mC 150) 125 = .ok (.goto (-60), 3) := by decide +kernel
theorem x150_125 {sc : aSc} {d : Nat} {r : aRes} {L : List Value} {st : List Value} {σ : aS} : Rn sc d 150 125 L st σ r ↔ Rn sc d 150 65 L st σ r := r_goto d150_125 rfl
theorem d150_128 : decode (mC 150) 128 = .ok (.bipush (-5), 2) := by decide +kernel
theorem x150_128 {sc : aSc} {d : Nat} {r : aRes} {L : List Value} {st : List Value} {σ : aS} : Rn sc d 150 128 L st σ r ↔ Rn sc d 150 130 L (.int (-5) :: st) σ r := r_bipush d150_128 (by decide)
theorem d150_130 : decode (mC 150) 130 = .ok (.ireturn, 1) := by decide +kernel
theorem x150_130 {sc : aSc} {d : Nat} {r : aRes} {L : List Value} {σ : aS} {x : Int32} : Rn sc d 150 130 L [.int x] σ r ↔ r = (σ, some (.int x)) := r_iret d150_130 rfl rfl
theorem d151_0 : decode (mC 151) 0 = .ok (.iload_n 1, 1) := by decide +kernel
theorem x151_0 {sc : aSc} {d : Nat} {r : aRes} {a0 : Value} {x1 : Int32} {a2 : Value} {a3 : Value} {st : List Value} {σ : aS} : Rn sc d 151 0 [a0, .int x1, a2, a3] st σ r ↔ Rn sc d 151 1 [a0, .int x1, a2, a3] (.int x1 :: st) σ r := r_iload_n d151_0 rfl
theorem d151_1 : decode (mC 151) 1 = .ok (.bipush 99, 2) := by decide +kernel
theorem x151_1 {sc : aSc} {d : Nat} {r : aRes} {L : List Value} {st : List Value} {σ : aS} : Rn sc d 151 1 L st σ r ↔ Rn sc d 151 3 L (.int 99 :: st) σ r := r_bipush d151_1 (by decide)
theorem d151_3 : decode (mC 151) 3 = .ok (.if_icmp .ne 6, 3) := by decide +kernel
theorem x151_3 {sc : aSc} {d : Nat} {r : aRes} {L : List Value} {st : List Value} {σ : aS} {x y : Int32} : Rn sc d 151 3 L (.int y :: .int x :: st) σ r ↔ if x = y then Rn sc d 151 6 L st σ r else Rn sc d 151 9 L st σ r := r_icmp_ne d151_3 rfl
theorem d151_6 : decode (mC 151) 6 = .ok (.bipush 100, 2) := by decide +kernel
theorem x151_6 {sc : aSc} {d : Nat} {r : aRes} {L : List Value} {st : List Value} {σ : aS} : Rn sc d 151 6 L st σ r ↔ Rn sc d 151 8 L (.int 100 :: st) σ r := r_bipush d151_6 (by decide)
theorem d151_8 : decode (mC 151) 8 = .ok (.ireturn, 1) := by decide +kernel
theorem x151_8 {sc : aSc} {d : Nat} {r : aRes} {L : List Value} {σ : aS} {x : Int32} : Rn sc d 151 8 L [.int x] σ r ↔ r = (σ, some (.int x)) := r_iret d151_8 rfl rfl
theorem d151_9 : decode (mC 151) 9 = .ok (.iload_n 1, 1) := by decide +kernel
theorem x151_9 {sc : aSc} {d : Nat} {r : aRes} {a0 : Value} {x1 : Int32} {a2 : Value} {a3 : Value} {st : List Value} {σ : aS} : Rn sc d 151 9 [a0, .int x1, a2, a3] st σ r ↔ Rn sc d 151 10 [a0, .int x1, a2, a3] (.int x1 :: st) σ r := r_iload_n d151_9 rfl
theorem d151_10 : decode (mC 151) 10 = .ok (.ifCond .ge 7, 3) := by decide +kernel
theorem x151_10 {sc : aSc} {d : Nat} {r : aRes} {L : List Value} {st : List Value} {σ : aS} {x : Int32} : Rn sc d 151 10 L (.int x :: st) σ r ↔ if x < 0 then Rn sc d 151 13 L st σ r else Rn sc d 151 17 L st σ r := r_if_ge d151_10 rfl
theorem d151_13 : decode (mC 151) 13 = .ok (.iconst 0, 1) := by decide +kernel
theorem x151_13 {sc : aSc} {d : Nat} {r : aRes} {L : List Value} {st : List Value} {σ : aS} : Rn sc d 151 13 L st σ r ↔ Rn sc d 151 14 L (.int 0 :: st) σ r := r_iconst d151_13 (by decide)
theorem d151_14 : decode (mC 151) 14 = .ok (.goto 7, 3) := by decide +kernel
theorem x151_14 {sc : aSc} {d : Nat} {r : aRes} {L : List Value} {st : List Value} {σ : aS} : Rn sc d 151 14 L st σ r ↔ Rn sc d 151 21 L st σ r := r_goto d151_14 rfl
theorem d151_17 : decode (mC 151) 17 = .ok (.iload_n 1, 1) := by decide +kernel
theorem x151_17 {sc : aSc} {d : Nat} {r : aRes} {a0 : Value} {x1 : Int32} {a2 : Value} {a3 : Value} {st : List Value} {σ : aS} : Rn sc d 151 17 [a0, .int x1, a2, a3] st σ r ↔ Rn sc d 151 18 [a0, .int x1, a2, a3] (.int x1 :: st) σ r := r_iload_n d151_17 rfl
theorem d151_18 : decode (mC 151) 18 = .ok (.bipush 10, 2) := by decide +kernel
theorem x151_18 {sc : aSc} {d : Nat} {r : aRes} {L : List Value} {st : List Value} {σ : aS} : Rn sc d 151 18 L st σ r ↔ Rn sc d 151 20 L (.int 10 :: st) σ r := r_bipush d151_18 (by decide)
theorem d151_20 : decode (mC 151) 20 = .ok (.idiv, 1) := by decide +kernel
theorem x151_20 {sc : aSc} {d : Nat} {r : aRes} {L : List Value} {st : List Value} {σ : aS} {x y : Int32} (hy : ¬ y = 0) : Rn sc d 151 20 L (.int y :: .int x :: st) σ r ↔ Rn sc d 151 21 L (.int (x / y) :: st) σ r := r_idiv d151_20 hy
theorem d151_21 : decode (mC 151) 21 = .ok (.istore_n 2, 1) := by decide +kernel
theorem x151_21 {sc : aSc} {d : Nat} {r : aRes} {a0 : Value} {x1 : Int32} {a2 : Value} {a3 : Value} {st : List Value} {σ : aS} {y : Int32} : Rn sc d 151 21 [a0, .int x1, a2, a3] (.int y :: st) σ r ↔ Rn sc d 151 22 [a0, .int x1, .int y, a3] st σ r := r_istore_n d151_21 (Nat.le_of_ble_eq_true rfl) rfl
theorem d151_22 : decode (mC 151) 22 = .ok (.iload_n 1, 1) := by decide +kernel
theorem x151_22 {sc : aSc} {d : Nat} {r : aRes} {a0 : Value} {x1 : Int32} {a2 : Value} {a3 : Value} {st : List Value} {σ : aS} : Rn sc d 151 22 [a0, .int x1, a2, a3] st σ r ↔ Rn sc d 151 23 [a0, .int x1, a2, a3] (.int x1 :: st) σ r := r_iload_n d151_22 rfl
theorem d151_23 : decode (mC 151) 23 = .ok (.ifCond .ge 7, 3) := by decide +kernel
theorem x151_23 {sc : aSc} {d : Nat} {r : aRes} {L : List Value} {st : List Value} {σ : aS} {x : Int32} : Rn sc d 151 23 L (.int x :: st) σ r ↔ if x < 0 then Rn sc d 151 26 L st σ r else Rn sc d 151 30 L st σ r := r_if_ge d151_23 rfl
theorem d151_26 : decode (mC 151) 26 = .ok (.iconst 0, 1) := by decide +kernel
theorem x151_26 {sc : aSc} {d : Nat} {r : aRes} {L : List Value} {st : List Value} {σ : aS} : Rn sc d 151 26 L st σ r ↔ Rn sc d 151 27 L (.int 0 :: st) σ r := r_iconst d151_26 (by decide)
theorem d151_27 : decode (mC 151) 27 = .ok (.goto 7, 3) := by decide +kernel
theorem x151_27 {sc : aSc} {d : Nat} {r : aRes} {L : List Value} {st : List Value} {σ : aS} : Rn sc d 151 27 L st σ r ↔ Rn sc d 151 34 L st σ r := r_goto d151_27 rfl
theorem d151_30 : decode (mC 151) 30 = .ok (.iload_n 1, 1) := by decide +kernel
theorem x151_30 {sc : aSc} {d : Nat} {r : aRes} {a0 : Value} {x1 : Int32} {a2 : Value} {a3 : Value} {st : List Value} {σ : aS} : Rn sc d 151 30 [a0, .int x1, a2, a3] st σ r ↔ Rn sc d 151 31 [a0, .int x1, a2, a3] (.int x1 :: st) σ r := r_iload_n d151_30 rfl
theorem d151_31 : decode (mC 151) 31 = .ok (.bipush 10, 2) := by decide +kernel
theorem x151_31 {sc : aSc} {d : Nat} {r : aRes} {L : List Value} {st : List Value} {σ : aS} : Rn sc d 151 31 L st σ r ↔ Rn sc d 151 33 L (.int 10 :: st) σ r := r_bipush d151_31 (by decide)
theorem d151_33 : decode (mC 151) 33 = .ok (.irem, 1) := by decide +kernel
theorem x151_33 {sc : aSc} {d : Nat} {r : aRes} {L : List Value} {st : List Value} {σ : aS} {x y : Int32} (hy : ¬ y = 0) : Rn sc d 151 33 L (.int y :: .int x :: st) σ r ↔ Rn sc d 151 34 L (.int (x % y) :: st) σ r := r_irem d151_33 hy
theorem d151_34 : decode (mC 151) 34 = .ok (.istore_n 3, 1) := by decide +kernel
theorem x151_34 {sc : aSc} {d : Nat} {r : aRes} {a0 : Value} {a1 : Value} {x2 : Int32} {a3 : Value} {st : List Value} {σ : aS} {y : Int32} : Rn sc d 151 34 [a0, a1, .int x2, a3] (.int y :: st) σ r ↔ Rn sc d 151 35 [a0, a1, .int x2, .int y] st σ r := r_istore_n d151_34 (Nat.le_of_ble_eq_true rfl) rfl
theorem d151_35 : decode (mC 151) 35 = .ok (.iload_n 2, 1) := by decide +kernel
theorem x151_35 {sc : aSc} {d : Nat} {r : aRes} {a0 : Value} {a1 : Value} {x2 : Int32} {a3 : Value} {st : List Value} {σ : aS} : Rn sc d 151 35 [a0, a1, .int x2, a3] st σ r ↔ Rn sc d 151 36 [a0, a1, .int x2, a3] (.int x2 :: st) σ r := r_iload_n d151_35 rfl
theorem d151_36 : decode (mC 151) 36 = .ok (.aload_n 0, 1) := by decide +kernel
theorem x151_36 {sc : aSc} {d : Nat} {r : aRes} {x0 : Nat} {a1 : Value} {a2 : Value} {a3 : Value} {st : List Value} {σ : aS} : Rn sc d 151 36 [.ref x0, a1, a2, a3] st σ r ↔ Rn sc d 151 37 [.ref x0, a1, a2, a3] (.ref x0 :: st) σ r := r_aload_n d151_36 rfl
theorem d151_37 : decode (mC 151) 37 = .ok (.getfield 7, 3) := by decide +kernel
theorem x151_37 {sc : aSc} {d : Nat} {r : aRes} {L : List Value} {st : List Value} {f : Nat → Nat → Int32} {g : Nat → Nat → Int64} {h1 h2 : Nat} {o : Nat} (h17 : 17 ≤ o) (hK : KK[o]? = some (.inl 7)) : Rn sc d 151 37 L (.ref o :: st) (cS f g h1 h2) r ↔ Rn sc d 151 40 L (.int (f o 0) :: st) (cS f g h1 h2) r := r_getI d151_37 (ci := 7) (k := 0) rfl (by decide) (fun _ => rfl) h17 hK
theorem d151_40 : decode (mC 151) 40 = .ok (.if_icmp .ge 38, 3) := by decide +kernel
theorem x151_40 {sc : aSc} {d : Nat} {r : aRes} {L : List Value} {st : List Value} {σ : aS} {x y : Int32} : Rn sc d 151 40 L (.int y :: .int x :: st) σ r ↔ if x < y then Rn sc d 151 43 L st σ r else Rn sc d 151 78 L st σ r := r_icmp_ge d151_40 rfl
theorem d151_43 : decode (mC 151) 43 = .ok (.iinc 3 1, 3) := by decide +kernel
theorem x151_43 {sc : aSc} {d : Nat} {r : aRes} {a0 : Value} {a1 : Value} {x2 : Int32} {x3 : Int32} {st : List Value} {σ : aS} : Rn sc d 151 43 [a0, a1, .int x2, .int x3] st σ r ↔ Rn sc d 151 46 [a0, a1, .int x2, .int (x3 + 1)] st σ r := r_iinc d151_43 (Nat.le_of_ble_eq_true rfl) rfl rfl (by decide)
theorem d151_46 : decode (mC 151) 46 = .ok (.iload_n 3, 1) := by decide +kernel
theorem x151_46 {sc : aSc} {d : Nat} {r : aRes} {a0 : Value} {a1 : Value} {a2 : Value} {x3 : Int32} {st : List Value} {σ : aS} : Rn sc d 151 46 [a0, a1, a2, .int x3] st σ r ↔ Rn sc d 151 47 [a0, a1, a2, .int x3] (.int x3 :: st) σ r := r_iload_n d151_46 rfl
theorem d151_47 : decode (mC 151) 47 = .ok (.aload_n 0, 1) := by decide +kernel
theorem x151_47 {sc : aSc} {d : Nat} {r : aRes} {x0 : Nat} {a1 : Value} {a2 : Value} {a3 : Value} {st : List Value} {σ : aS} : Rn sc d 151 47 [.ref x0, a1, a2, a3] st σ r ↔ Rn sc d 151 48 [.ref x0, a1, a2, a3] (.ref x0 :: st) σ r := r_aload_n d151_47 rfl
theorem d151_48 : decode (mC 151) 48 = .ok (.getfield 7, 3) := by decide +kernel
theorem x151_48 {sc : aSc} {d : Nat} {r : aRes} {L : List Value} {st : List Value} {f : Nat → Nat → Int32} {g : Nat → Nat → Int64} {h1 h2 : Nat} {o : Nat} (h17 : 17 ≤ o) (hK : KK[o]? = some (.inl 7)) : Rn sc d 151 48 L (.ref o :: st) (cS f g h1 h2) r ↔ Rn sc d 151 51 L (.int (f o 0) :: st) (cS f g h1 h2) r := r_getI d151_48 (ci := 7) (k := 0) rfl (by decide) (fun _ => rfl) h17 hK
theorem d151_51 : decode (mC 151) 51 = .ok (.if_icmp .lt 11, 3) := by decide +kernel
theorem x151_51 {sc : aSc} {d : Nat} {r : aRes} {L : List Value} {st : List Value} {σ : aS} {x y : Int32} : Rn sc d 151 51 L (.int y :: .int x :: st) σ r ↔ if x < y then Rn sc d 151 62 L st σ r else Rn sc d 151 54 L st σ r := r_icmp_lt d151_51 rfl
theorem d151_54 : decode (mC 151) 54 = .ok (.iinc 2 1, 3) := by decide +kernel
theorem x151_54 {sc : aSc} {d : Nat} {r : aRes} {a0 : Value} {x1 : Int32} {x2 : Int32} {a3 : Value} {st : List Value} {σ : aS} : Rn sc d 151 54 [a0, .int x1, .int x2, a3] st σ r ↔ Rn sc d 151 57 [a0, .int x1, .int (x2 + 1), a3] st σ r := r_iinc d151_54 (Nat.le_of_ble_eq_true rfl) rfl rfl (by decide)
theorem d151_57 : decode (mC 151) 57 = .ok (.iload_n 2, 1) := by decide +kernel
theorem x151_57 {sc : aSc} {d : Nat} {r : aRes} {a0 : Value} {a1 : Value} {x2 : Int32} {a3 : Value} {st : List Value} {σ : aS} : Rn sc d 151 57 [a0, a1, .int x2, a3] st σ r ↔ Rn sc d 151 58 [a0, a1, .int x2, a3] (.int x2 :: st) σ r := r_iload_n d151_57 rfl
theorem d151_58 : decode (mC 151) 58 = .ok (.istore_n 3, 1) := by decide +kernel
theorem x151_58 {sc : aSc} {d : Nat} {r : aRes} {a0 : Value} {a1 : Value} {x2 : Int32} {a3 : Value} {st : List Value} {σ : aS} {y : Int32} : Rn sc d 151 58 [a0, a1, .int x2, a3] (.int y :: st) σ r ↔ Rn sc d 151 59 [a0, a1, .int x2, .int y] st σ r := r_istore_n d151_58 (Nat.le_of_ble_eq_true rfl) rfl
theorem d151_59 : decode (mC 151) 59 = .ok (.goto (-24), 3) := by decide +kernel
theorem x151_59 {sc : aSc} {d : Nat} {r : aRes} {L : List Value} {st : List Value} {σ : aS} : Rn sc d 151 59 L st σ r ↔ Rn sc d 151 35 L st σ r := r_goto d151_59 rfl
theorem d151_62 : decode (mC 151) 62 = .ok (.aload_n 0, 1) := by decide +kernel
theorem x151_62 {sc : aSc} {d : Nat} {r : aRes} {x0 : Nat} {a1 : Value} {a2 : Value} {a3 : Value} {st : List Value} {σ : aS} : Rn sc d 151 62 [.ref x0, a1, a2, a3] st σ r ↔ Rn sc d 151 63 [.ref x0, a1, a2, a3] (.ref x0 :: st) σ r := r_aload_n d151_62 rfl
theorem d151_63 : decode (mC 151) 63 = .ok (.iload_n 2, 1) := by decide +kernel
theorem x151_63 {sc : aSc} {d : Nat} {r : aRes} {a0 : Value} {a1 : Value} {x2 : Int32} {a3 : Value} {st : List Value} {σ : aS} : Rn sc d 151 63 [a0, a1, .int x2, a3] st σ r ↔ Rn sc d 151 64 [a0, a1, .int x2, a3] (.int x2 :: st) σ r := r_iload_n d151_63 rfl
theorem d151_64 : decode (mC 151) 64 = .ok (.iload_n 3, 1) := by decide +kernel
theorem x151_64 {sc : aSc} {d : Nat} {r : aRes} {a0 : Value} {a1 : Value} {a2 : Value} {x3 : Int32} {st : List Value} {σ : aS} : Rn sc d 151 64 [a0, a1, a2, .int x3] st σ r ↔ Rn sc d 151 65 [a0, a1, a2, .int x3] (.int x3 :: st) σ r := r_iload_n d151_64 rfl
theorem d151_65 : decode (mC 151) 65 = .ok (.invokevirtual 322, 3) := by decide +kernel
theorem x151_65 {sc : aSc} {d : Nat} {r : aRes} {L : List Value} {f : Nat → Nat → Int32} {g : Nat → Nat → Int64} {h1 h2 : Nat} {y0 : Int32} {y1 : Int32}  {o : Nat} (hK : KK[o]? = some (.inl 7)) : Rn sc d 151 65 L [.int y0, .int y1, .ref o] (cS f g h1 h2) r ↔ ∃ (σ3 : aS) (v : Option Value), Cl sc d 141 [.ref o, .int y1, .int y0] (cS f g h1 h2) (σ3, v) ∧ Rn sc d 151 68 L (v.toList ++ []) σ3 r := r_callV (vs := [.int y0, .int y1]) d151_65 (j := 141) rfl ⟨rfl, by decide, rfl, rfl⟩ (Nat.le_of_ble_eq_true rfl) hK
theorem d151_68 : decode (mC 151) 68 = .ok (.ifCond .eq (-33), 3) := by decide +kernel
theorem x151_68 {sc : aSc} {d : Nat} {r : aRes} {L : List Value} {st : List Value} {σ : aS} {x : Int32} : Rn sc d 151 68 L (.int x :: st) σ r ↔ if x = 0 then Rn sc d 151 35 L st σ r else Rn sc d 151 71 L st σ r := r_if_eq d151_68 rfl
theorem d151_71 : decode (mC 151) 71 = .ok (.bipush 10, 2) := by decide +kernel
theorem x151_71 {sc : aSc} {d : Nat} {r : aRes} {L : List Value} {st : List Value} {σ : aS} : Rn sc d 151 71 L st σ r ↔ Rn sc d 151 73 L (.int 10 :: st) σ r := r_bipush d151_71 (by decide)
theorem d151_73 : decode (mC 151) 73 = .ok (.iload_n 2, 1) := by decide +kernel
theorem x151_73 {sc : aSc} {d : Nat} {r : aRes} {a0 : Value} {a1 : Value} {x2 : Int32} {a3 : Value} {st : List Value} {σ : aS} : Rn sc d 151 73 [a0, a1, .int x2, a3] st σ r ↔ Rn sc d 151 74 [a0, a1, .int x2, a3] (.int x2 :: st) σ r := r_iload_n d151_73 rfl
theorem d151_74 : decode (mC 151) 74 = .ok (.imul, 1) := by decide +kernel
theorem x151_74 {sc : aSc} {d : Nat} {r : aRes} {L : List Value} {st : List Value} {σ : aS} {x y : Int32} : Rn sc d 151 74 L (.int y :: .int x :: st) σ r ↔ Rn sc d 151 75 L (.int (x * y) :: st) σ r := r_imul d151_74
theorem d151_75 : decode (mC 151) 75 = .ok (.iload_n 3, 1) := by decide +kernel
theorem x151_75 {sc : aSc} {d : Nat} {r : aRes} {a0 : Value} {a1 : Value} {a2 : Value} {x3 : Int32} {st : List Value} {σ : aS} : Rn sc d 151 75 [a0, a1, a2, .int x3] st σ r ↔ Rn sc d 151 76 [a0, a1, a2, .int x3] (.int x3 :: st) σ r := r_iload_n d151_75 rfl
theorem d151_76 : decode (mC 151) 76 = .ok (.iadd, 1) := by decide +kernel
theorem x151_76 {sc : aSc} {d : Nat} {r : aRes} {L : List Value} {st : List Value} {σ : aS} {x y : Int32} : Rn sc d 151 76 L (.int y :: .int x :: st) σ r ↔ Rn sc d 151 77 L (.int (x + y) :: st) σ r := r_iadd d151_76
theorem d151_77 : decode (mC 151) 77 = .ok (.ireturn, 1) := by decide +kernel
theorem x151_77 {sc : aSc} {d : Nat} {r : aRes} {L : List Value} {σ : aS} {x : Int32} : Rn sc d 151 77 L [.int x] σ r ↔ r = (σ, some (.int x)) := r_iret d151_77 rfl rfl
theorem d151_78 : decode (mC 151) 78 = .ok (.bipush 99, 2) := by decide +kernel
theorem x151_78 {sc : aSc} {d : Nat} {r : aRes} {L : List Value} {st : List Value} {σ : aS} : Rn sc d 151 78 L st σ r ↔ Rn sc d 151 80 L (.int 99 :: st) σ r := r_bipush d151_78 (by decide)
theorem d151_80 : decode (mC 151) 80 = .ok (.ireturn, 1) := by decide +kernel
theorem x151_80 {sc : aSc} {d : Nat} {r : aRes} {L : List Value} {σ : aS} {x : Int32} : Rn sc d 151 80 L [.int x] σ r ↔ r = (σ, some (.int x)) := r_iret d151_80 rfl rfl
theorem d152_0 : decode (mC 152) 0 = .ok (.aload_n 0, 1) := by decide +kernel
theorem x152_0 {sc : aSc} {d : Nat} {r : aRes} {x0 : Nat} {a1 : Value} {a2 : Value} {a3 : Value} {st : List Value} {σ : aS} : Rn sc d 152 0 [.ref x0, a1, a2, a3] st σ r ↔ Rn sc d 152 1 [.ref x0, a1, a2, a3] (.ref x0 :: st) σ r := r_aload_n d152_0 rfl
theorem d152_1 : decode (mC 152) 1 = .ok (.invokevirtual 319, 3) := by decide +kernel
theorem x152_1 {sc : aSc} {d : Nat} {r : aRes} {L : List Value} {f : Nat → Nat → Int32} {g : Nat → Nat → Int64} {h1 h2 : Nat}   {o : Nat} (hK : KK[o]? = some (.inl 7)) : Rn sc d 152 1 L [.ref o] (cS f g h1 h2) r ↔ ∃ (σ3 : aS) (v : Option Value), Cl sc d 143 [.ref o] (cS f g h1 h2) (σ3, v) ∧ Rn sc d 152 4 L (v.toList ++ []) σ3 r := r_callV (vs := []) d152_1 (j := 143) rfl ⟨rfl, by decide, rfl, rfl⟩ (Nat.le_of_ble_eq_true rfl) hK
theorem d152_4 : decode (mC 152) 4 = .ok (.istore_n 2, 1) := by decide +kernel
theorem x152_4 {sc : aSc} {d : Nat} {r : aRes} {a0 : Value} {x1 : Int32} {a2 : Value} {a3 : Value} {st : List Value} {σ : aS} {y : Int32} : Rn sc d 152 4 [a0, .int x1, a2, a3] (.int y :: st) σ r ↔ Rn sc d 152 5 [a0, .int x1, .int y, a3] st σ r := r_istore_n d152_4 (Nat.le_of_ble_eq_true rfl) rfl
theorem d152_5 : decode (mC 152) 5 = .ok (.aload_n 0, 1) := by decide +kernel
theorem x152_5 {sc : aSc} {d : Nat} {r : aRes} {x0 : Nat} {a1 : Value} {a2 : Value} {a3 : Value} {st : List Value} {σ : aS} : Rn sc d 152 5 [.ref x0, a1, a2, a3] st σ r ↔ Rn sc d 152 6 [.ref x0, a1, a2, a3] (.ref x0 :: st) σ r := r_aload_n d152_5 rfl
theorem d152_6 : decode (mC 152) 6 = .ok (.getfield 108, 3) := by decide +kernel
theorem x152_6 {sc : aSc} {d : Nat} {r : aRes} {L : List Value} {st : List Value} {f : Nat → Nat → Int32} {g : Nat → Nat → Int64} {h1 h2 : Nat} {o : Nat} (h17 : 17 ≤ o) (hK : KK[o]? = some (.inl 7)) : Rn sc d 152 6 L (.ref o :: st) (cS f g h1 h2) r ↔ Rn sc d 152 9 L (.int (f o 32) :: st) (cS f g h1 h2) r := r_getI d152_6 (ci := 7) (k := 32) (by decide +kernel) (by decide +kernel) (fun _ => rfl) h17 hK
theorem d152_9 : decode (mC 152) 9 = .ok (.ifCond .lt 33, 3) := by decide +kernel
theorem x152_9 {sc : aSc} {d : Nat} {r : aRes} {L : List Value} {st : List Value} {σ : aS} {x : Int32} : Rn sc d 152 9 L (.int x :: st) σ r ↔ if x < 0 then Rn sc d 152 42 L st σ r else Rn sc d 152 12 L st σ r := r_if_lt d152_9 rfl
theorem d152_12 : decode (mC 152) 12 = .ok (.iload_n 2, 1) := by decide +kernel
theorem x152_12 {sc : aSc} {d : Nat} {r : aRes} {a0 : Value} {a1 : Value} {x2 : Int32} {a3 : Value} {st : List Value} {σ : aS} : Rn sc d 152 12 [a0, a1, .int x2, a3] st σ r ↔ Rn sc d 152 13 [a0, a1, .int x2, a3] (.int x2 :: st) σ r := r_iload_n d152_12 rfl
theorem d152_13 : decode (mC 152) 13 = .ok (.aload_n 0, 1) := by decide +kernel
theorem x152_13 {sc : aSc} {d : Nat} {r : aRes} {x0 : Nat} {a1 : Value} {a2 : Value} {a3 : Value} {st : List Value} {σ : aS} : Rn sc d 152 13 [.ref x0, a1, a2, a3] st σ r ↔ Rn sc d 152 14 [.ref x0, a1, a2, a3] (.ref x0 :: st) σ r := r_aload_n d152_13 rfl
theorem d152_14 : decode (mC 152) 14 = .ok (.getfield 108, 3) := by decide +kernel
theorem x152_14 {sc : aSc} {d : Nat} {r : aRes} {L : List Value} {st : List Value} {f : Nat → Nat → Int32} {g : Nat → Nat → Int64} {h1 h2 : Nat} {o : Nat} (h17 : 17 ≤ o) (hK : KK[o]? = some (.inl 7)) : Rn sc d 152 14 L (.ref o :: st) (cS f g h1 h2) r ↔ Rn sc d 152 17 L (.int (f o 32) :: st) (cS f g h1 h2) r := r_getI d152_14 (ci := 7) (k := 32) (by decide +kernel) (by decide +kernel) (fun _ => rfl) h17 hK
theorem d152_17 : decode (mC 152) 17 = .ok (.if_icmp .lt 24, 3) := by decide +kernel
theorem x152_17 {sc : aSc} {d : Nat} {r : aRes} {L : List Value} {st : List Value} {σ : aS} {x y : Int32} : Rn sc d 152 17 L (.int y :: .int x :: st) σ r ↔ if x < y then Rn sc d 152 41 L st σ r else Rn sc d 152 20 L st σ r := r_icmp_lt d152_17 rfl
theorem d152_20 : decode (mC 152) 20 = .ok (.iload_n 2, 1) := by decide +kernel
theorem x152_20 {sc : aSc} {d : Nat} {r : aRes} {a0 : Value} {a1 : Value} {x2 : Int32} {a3 : Value} {st : List Value} {σ : aS} : Rn sc d 152 20 [a0, a1, .int x2, a3] st σ r ↔ Rn sc d 152 21 [a0, a1, .int x2, a3] (.int x2 :: st) σ r := r_iload_n d152_20 rfl
theorem d152_21 : decode (mC 152) 21 = .ok (.aload_n 0, 1) := by decide +kernel
theorem x152_21 {sc : aSc} {d : Nat} {r : aRes} {x0 : Nat} {a1 : Value} {a2 : Value} {a3 : Value} {st : List Value} {σ : aS} : Rn sc d 152 21 [.ref x0, a1, a2, a3] st σ r ↔ Rn sc d 152 22 [.ref x0, a1, a2, a3] (.ref x0 :: st) σ r := r_aload_n d152_21 rfl
theorem d152_22 : decode (mC 152) 22 = .ok (.getfield 108, 3) := by decide +kernel
theorem x152_22 {sc : aSc} {d : Nat} {r : aRes} {L : List Value} {st : List Value} {f : Nat → Nat → Int32} {g : Nat → Nat → Int64} {h1 h2 : Nat} {o : Nat} (h17 : 17 ≤ o) (hK : KK[o]? = some (.inl 7)) : Rn sc d 152 22 L (.ref o :: st) (cS f g h1 h2) r ↔ Rn sc d 152 25 L (.int (f o 32) :: st) (cS f g h1 h2) r := r_getI d152_22 (ci := 7) (k := 32) (by decide +kernel) (by decide +kernel) (fun _ => rfl) h17 hK
theorem d152_25 : decode (mC 152) 25 = .ok (.if_icmp .ne 17, 3) := by decide +kernel
theorem x152_25 {sc : aSc} {d : Nat} {r : aRes} {L : List Value} {st : List Value} {σ : aS} {x y : Int32} : Rn sc d 152 25 L (.int y :: .int x :: st) σ r ↔ if x = y then Rn sc d 152 28 L st σ r else Rn sc d 152 42 L st σ r := r_icmp_ne d152_25 rfl
theorem d152_28 : decode (mC 152) 28 = .ok (.aload_n 0, 1) := by decide +kernel
theorem x152_28 {sc : aSc} {d : Nat} {r : aRes} {x0 : Nat} {a1 : Value} {a2 : Value} {a3 : Value} {st : List Value} {σ : aS} : Rn sc d 152 28 [.ref x0, a1, a2, a3] st σ r ↔ Rn sc d 152 29 [.ref x0, a1, a2, a3] (.ref x0 :: st) σ r := r_aload_n d152_28 rfl
theorem d152_29 : decode (mC 152) 29 = .ok (.getfield 105, 3) := by decide +kernel
theorem x152_29 {sc : aSc} {d : Nat} {r : aRes} {L : List Value} {st : List Value} {f : Nat → Nat → Int32} {g : Nat → Nat → Int64} {h1 h2 : Nat} {o : Nat} (hK : KK[o]? = some (.inl 7)) (hR : (RR h1 h2 o 31).isSome = true) : Rn sc d 152 29 L (.ref o :: st) (cS f g h1 h2) r ↔ Rn sc d 152 32 L (.ref (rf h1 h2 o 31) :: st) (cS f g h1 h2) r := r_getR2 d152_29 (ci := 7) (k := 31) (by decide +kernel) (by decide +kernel) (fun _ => rfl) hK hR
theorem d152_32 : decode (mC 152) 32 = .ok (.iload_n 1, 1) := by decide +kernel
theorem x152_32 {sc : aSc} {d : Nat} {r : aRes} {a0 : Value} {x1 : Int32} {a2 : Value} {a3 : Value} {st : List Value} {σ : aS} : Rn sc d 152 32 [a0, .int x1, a2, a3] st σ r ↔ Rn sc d 152 33 [a0, .int x1, a2, a3] (.int x1 :: st) σ r := r_iload_n d152_32 rfl
theorem d152_33 : decode (mC 152) 33 = .ok (.iaload, 1) := by decide +kernel
theorem x152_33 {sc : aSc} {d : Nat} {r : aRes} {L : List Value} {st : List Value} {f : Nat → Nat → Int32} {g : Nat → Nat → Int64} {h1 h2 : Nat} {a : Nat} {i : Int32} (h17 : 17 ≤ a) (hA : isT9 .int a) (hi : inb i (aln a) = true) : Rn sc d 152 33 L (.int i :: .ref a :: st) (cS f g h1 h2) r ↔ Rn sc d 152 34 L (.int (f a i.toNatClampNeg) :: st) (cS f g h1 h2) r := r_iald d152_33 h17 hA hi
theorem d152_34 : decode (mC 152) 34 = .ok (.aload_n 0, 1) := by decide +kernel
theorem x152_34 {sc : aSc} {d : Nat} {r : aRes} {x0 : Nat} {a1 : Value} {a2 : Value} {a3 : Value} {st : List Value} {σ : aS} : Rn sc d 152 34 [.ref x0, a1, a2, a3] st σ r ↔ Rn sc d 152 35 [.ref x0, a1, a2, a3] (.ref x0 :: st) σ r := r_aload_n d152_34 rfl
theorem d152_35 : decode (mC 152) 35 = .ok (.getfield 111, 3) := by decide +kernel
theorem x152_35 {sc : aSc} {d : Nat} {r : aRes} {L : List Value} {st : List Value} {f : Nat → Nat → Int32} {g : Nat → Nat → Int64} {h1 h2 : Nat} {o : Nat} (h17 : 17 ≤ o) (hK : KK[o]? = some (.inl 7)) : Rn sc d 152 35 L (.ref o :: st) (cS f g h1 h2) r ↔ Rn sc d 152 38 L (.int (f o 33) :: st) (cS f g h1 h2) r := r_getI d152_35 (ci := 7) (k := 33) (by decide +kernel) (by decide +kernel) (fun _ => rfl) h17 hK
theorem d152_38 : decode (mC 152) 38 = .ok (.if_icmp .lt 4, 3) := by decide +kernel
theorem x152_38 {sc : aSc} {d : Nat} {r : aRes} {L : List Value} {st : List Value} {σ : aS} {x y : Int32} : Rn sc d 152 38 L (.int y :: .int x :: st) σ r ↔ if x < y then Rn sc d 152 42 L st σ r else Rn sc d 152 41 L st σ r := r_icmp_lt d152_38 rfl
theorem d152_41 : decode (mC 152) 41 = .ok (.return_, 1) := by decide +kernel
theorem x152_41 {sc : aSc} {d : Nat} {r : aRes} {L : List Value} {σ : aS} : Rn sc d 152 41 L [] σ r ↔ r = (σ, none) := r_vret d152_41 rfl
theorem d152_42 : decode (mC 152) 42 = .ok (.aload_n 0, 1) := by decide +kernel
theorem x152_42 {sc : aSc} {d : Nat} {r : aRes} {x0 : Nat} {a1 : Value} {a2 : Value} {a3 : Value} {st : List Value} {σ : aS} : Rn sc d 152 42 [.ref x0, a1, a2, a3] st σ r ↔ Rn sc d 152 43 [.ref x0, a1, a2, a3] (.ref x0 :: st) σ r := r_aload_n d152_42 rfl
theorem d152_43 : decode (mC 152) 43 = .ok (.iload_n 2, 1) := by decide +kernel
theorem x152_43 {sc : aSc} {d : Nat} {r : aRes} {a0 : Value} {a1 : Value} {x2 : Int32} {a3 : Value} {st : List Value} {σ : aS} : Rn sc d 152 43 [a0, a1, .int x2, a3] st σ r ↔ Rn sc d 152 44 [a0, a1, .int x2, a3] (.int x2 :: st) σ r := r_iload_n d152_43 rfl
theorem d152_44 : decode (mC 152) 44 = .ok (.putfield 108, 3) := by decide +kernel
theorem x152_44 {sc : aSc} {d : Nat} {r : aRes} {L : List Value} {st : List Value} {f : Nat → Nat → Int32} {g : Nat → Nat → Int64} {h1 h2 : Nat} {o : Nat} {v : Int32} (h17 : 17 ≤ o) (hK : KK[o]? = some (.inl 7)) : Rn sc d 152 44 L (.int v :: .ref o :: st) (cS f g h1 h2) r ↔ Rn sc d 152 47 L st (cS (u2 f o 32 v) g h1 h2) r := r_putI d152_44 (ci := 7) (k := 32) (by decide +kernel) (by decide +kernel) h17 hK
theorem d152_47 : decode (mC 152) 47 = .ok (.aload_n 0, 1) := by decide +kernel
theorem x152_47 {sc : aSc} {d : Nat} {r : aRes} {x0 : Nat} {a1 : Value} {a2 : Value} {a3 : Value} {st : List Value} {σ : aS} : Rn sc d 152 47 [.ref x0, a1, a2, a3] st σ r ↔ Rn sc d 152 48 [.ref x0, a1, a2, a3] (.ref x0 :: st) σ r := r_aload_n d152_47 rfl
theorem d152_48 : decode (mC 152) 48 = .ok (.aload_n 0, 1) := by decide +kernel
theorem x152_48 {sc : aSc} {d : Nat} {r : aRes} {x0 : Nat} {a1 : Value} {a2 : Value} {a3 : Value} {st : List Value} {σ : aS} : Rn sc d 152 48 [.ref x0, a1, a2, a3] st σ r ↔ Rn sc d 152 49 [.ref x0, a1, a2, a3] (.ref x0 :: st) σ r := r_aload_n d152_48 rfl
theorem d152_49 : decode (mC 152) 49 = .ok (.getfield 105, 3) := by decide +kernel
theorem x152_49 {sc : aSc} {d : Nat} {r : aRes} {L : List Value} {st : List Value} {f : Nat → Nat → Int32} {g : Nat → Nat → Int64} {h1 h2 : Nat} {o : Nat} (hK : KK[o]? = some (.inl 7)) (hR : (RR h1 h2 o 31).isSome = true) : Rn sc d 152 49 L (.ref o :: st) (cS f g h1 h2) r ↔ Rn sc d 152 52 L (.ref (rf h1 h2 o 31) :: st) (cS f g h1 h2) r := r_getR2 d152_49 (ci := 7) (k := 31) (by decide +kernel) (by decide +kernel) (fun _ => rfl) hK hR
theorem d152_52 : decode (mC 152) 52 = .ok (.iload_n 1, 1) := by decide +kernel
theorem x152_52 {sc : aSc} {d : Nat} {r : aRes} {a0 : Value} {x1 : Int32} {a2 : Value} {a3 : Value} {st : List Value} {σ : aS} : Rn sc d 152 52 [a0, .int x1, a2, a3] st σ r ↔ Rn sc d 152 53 [a0, .int x1, a2, a3] (.int x1 :: st) σ r := r_iload_n d152_52 rfl
theorem d152_53 : decode (mC 152) 53 = .ok (.iaload, 1) := by decide +kernel
theorem x152_53 {sc : aSc} {d : Nat} {r : aRes} {L : List Value} {st : List Value} {f : Nat → Nat → Int32} {g : Nat → Nat → Int64} {h1 h2 : Nat} {a : Nat} {i : Int32} (h17 : 17 ≤ a) (hA : isT9 .int a) (hi : inb i (aln a) = true) : Rn sc d 152 53 L (.int i :: .ref a :: st) (cS f g h1 h2) r ↔ Rn sc d 152 54 L (.int (f a i.toNatClampNeg) :: st) (cS f g h1 h2) r := r_iald d152_53 h17 hA hi
theorem d152_54 : decode (mC 152) 54 = .ok (.putfield 111, 3) := by decide +kernel
theorem x152_54 {sc : aSc} {d : Nat} {r : aRes} {L : List Value} {st : List Value} {f : Nat → Nat → Int32} {g : Nat → Nat → Int64} {h1 h2 : Nat} {o : Nat} {v : Int32} (h17 : 17 ≤ o) (hK : KK[o]? = some (.inl 7)) : Rn sc d 152 54 L (.int v :: .ref o :: st) (cS f g h1 h2) r ↔ Rn sc d 152 57 L st (cS (u2 f o 33 v) g h1 h2) r := r_putI d152_54 (ci := 7) (k := 33) (by decide +kernel) (by decide +kernel) h17 hK
theorem d152_57 : decode (mC 152) 57 = .ok (.iconst 0, 1) := by decide +kernel
theorem x152_57 {sc : aSc} {d : Nat} {r : aRes} {L : List Value} {st : List Value} {σ : aS} : Rn sc d 152 57 L st σ r ↔ Rn sc d 152 58 L (.int 0 :: st) σ r := r_iconst d152_57 (by decide)
theorem d152_58 : decode (mC 152) 58 = .ok (.istore_n 3, 1) := by decide +kernel
theorem x152_58 {sc : aSc} {d : Nat} {r : aRes} {a0 : Value} {a1 : Value} {x2 : Int32} {a3 : Value} {st : List Value} {σ : aS} {y : Int32} : Rn sc d 152 58 [a0, a1, .int x2, a3] (.int y :: st) σ r ↔ Rn sc d 152 59 [a0, a1, .int x2, .int y] st σ r := r_istore_n d152_58 (Nat.le_of_ble_eq_true rfl) rfl
theorem d152_59 : decode (mC 152) 59 = .ok (.iload_n 3, 1) := by decide +kernel
theorem x152_59 {sc : aSc} {d : Nat} {r : aRes} {a0 : Value} {a1 : Value} {a2 : Value} {x3 : Int32} {st : List Value} {σ : aS} : Rn sc d 152 59 [a0, a1, a2, .int x3] st σ r ↔ Rn sc d 152 60 [a0, a1, a2, .int x3] (.int x3 :: st) σ r := r_iload_n d152_59 rfl
theorem d152_60 : decode (mC 152) 60 = .ok (.iconst 4, 1) := by decide +kernel
theorem x152_60 {sc : aSc} {d : Nat} {r : aRes} {L : List Value} {st : List Value} {σ : aS} : Rn sc d 152 60 L st σ r ↔ Rn sc d 152 61 L (.int 4 :: st) σ r := r_iconst d152_60 (by decide)
theorem d152_61 : decode (mC 152) 61 = .ok (.if_icmp .ge 21, 3) := by decide +kernel
theorem x152_61 {sc : aSc} {d : Nat} {r : aRes} {L : List Value} {st : List Value} {σ : aS} {x y : Int32} : Rn sc d 152 61 L (.int y :: .int x :: st) σ r ↔ if x < y then Rn sc d 152 64 L st σ r else Rn sc d 152 82 L st σ r := r_icmp_ge d152_61 rfl
theorem d152_64 : decode (mC 152) 64 = .ok (.aload_n 0, 1) := by decide +kernel
theorem x152_64 {sc : aSc} {d : Nat} {r : aRes} {x0 : Nat} {a1 : Value} {a2 : Value} {a3 : Value} {st : List Value} {σ : aS} : Rn sc d 152 64 [.ref x0, a1, a2, a3] st σ r ↔ Rn sc d 152 65 [.ref x0, a1, a2, a3] (.ref x0 :: st) σ r := r_aload_n d152_64 rfl
theorem d152_65 : decode (mC 152) 65 = .ok (.getfield 102, 3) := by decide +kernel
theorem x152_65 {sc : aSc} {d : Nat} {r : aRes} {L : List Value} {st : List Value} {f : Nat → Nat → Int32} {g : Nat → Nat → Int64} {h1 h2 : Nat} {o : Nat} (hK : KK[o]? = some (.inl 7)) (hR : (RR h1 h2 o 30).isSome = true) : Rn sc d 152 65 L (.ref o :: st) (cS f g h1 h2) r ↔ Rn sc d 152 68 L (.ref (rf h1 h2 o 30) :: st) (cS f g h1 h2) r := r_getR2 d152_65 (ci := 7) (k := 30) (by decide +kernel) (by decide +kernel) (fun _ => rfl) hK hR
theorem d152_68 : decode (mC 152) 68 = .ok (.iload_n 3, 1) := by decide +kernel
theorem x152_68 {sc : aSc} {d : Nat} {r : aRes} {a0 : Value} {a1 : Value} {a2 : Value} {x3 : Int32} {st : List Value} {σ : aS} : Rn sc d 152 68 [a0, a1, a2, .int x3] st σ r ↔ Rn sc d 152 69 [a0, a1, a2, .int x3] (.int x3 :: st) σ r := r_iload_n d152_68 rfl
theorem d152_69 : decode (mC 152) 69 = .ok (.aload_n 0, 1) := by decide +kernel
theorem x152_69 {sc : aSc} {d : Nat} {r : aRes} {x0 : Nat} {a1 : Value} {a2 : Value} {a3 : Value} {st : List Value} {σ : aS} : Rn sc d 152 69 [.ref x0, a1, a2, a3] st σ r ↔ Rn sc d 152 70 [.ref x0, a1, a2, a3] (.ref x0 :: st) σ r := r_aload_n d152_69 rfl
theorem d152_70 : decode (mC 152) 70 = .ok (.getfield 99, 3) := by decide +kernel
theorem x152_70 {sc : aSc} {d : Nat} {r : aRes} {L : List Value} {st : List Value} {f : Nat → Nat → Int32} {g : Nat → Nat → Int64} {h1 h2 : Nat} {o : Nat} (hK : KK[o]? = some (.inl 7)) (hR : (RR h1 h2 o 29).isSome = true) : Rn sc d 152 70 L (.ref o :: st) (cS f g h1 h2) r ↔ Rn sc d 152 73 L (.ref (rf h1 h2 o 29) :: st) (cS f g h1 h2) r := r_getR2 d152_70 (ci := 7) (k := 29) (by decide +kernel) (by decide +kernel) (fun _ => rfl) hK hR
theorem d152_73 : decode (mC 152) 73 = .ok (.iload_n 3, 1) := by decide +kernel
theorem x152_73 {sc : aSc} {d : Nat} {r : aRes} {a0 : Value} {a1 : Value} {a2 : Value} {x3 : Int32} {st : List Value} {σ : aS} : Rn sc d 152 73 [a0, a1, a2, .int x3] st σ r ↔ Rn sc d 152 74 [a0, a1, a2, .int x3] (.int x3 :: st) σ r := r_iload_n d152_73 rfl
theorem d152_74 : decode (mC 152) 74 = .ok (.iaload, 1) := by decide +kernel
theorem x152_74 {sc : aSc} {d : Nat} {r : aRes} {L : List Value} {st : List Value} {f : Nat → Nat → Int32} {g : Nat → Nat → Int64} {h1 h2 : Nat} {a : Nat} {i : Int32} (h17 : 17 ≤ a) (hA : isT9 .int a) (hi : inb i (aln a) = true) : Rn sc d 152 74 L (.int i :: .ref a :: st) (cS f g h1 h2) r ↔ Rn sc d 152 75 L (.int (f a i.toNatClampNeg) :: st) (cS f g h1 h2) r := r_iald d152_74 h17 hA hi
theorem d152_75 : decode (mC 152) 75 = .ok (.iastore, 1) := by decide +kernel
theorem x152_75 {sc : aSc} {d : Nat} {r : aRes} {L : List Value} {st : List Value} {f : Nat → Nat → Int32} {g : Nat → Nat → Int64} {h1 h2 : Nat} {a : Nat} {i : Int32} {x : Int32} (h17 : 17 ≤ a) (hA : isT9 .int a) (hi : inb i (aln a) = true) : Rn sc d 152 75 L (.int x :: .int i :: .ref a :: st) (cS f g h1 h2) r ↔ Rn sc d 152 76 L st (cS (u2 f a i.toNatClampNeg x) g h1 h2) r := r_iast d152_75 h17 hA hi
theorem d152_76 : decode (mC 152) 76 = .ok (.iinc 3 1, 3) := by decide +kernel
theorem x152_76 {sc : aSc} {d : Nat} {r : aRes} {a0 : Value} {a1 : Value} {x2 : Int32} {x3 : Int32} {st : List Value} {σ : aS} : Rn sc d 152 76 [a0, a1, .int x2, .int x3] st σ r ↔ Rn sc d 152 79 [a0, a1, .int x2, .int (x3 + 1)] st σ r := r_iinc d152_76 (Nat.le_of_ble_eq_true rfl) rfl rfl (by decide)
theorem d152_79 : decode (mC 152) 79 = .ok (.goto (-20), 3) := by decide +kernel
theorem x152_79 {sc : aSc} {d : Nat} {r : aRes} {L : List Value} {st : List Value} {σ : aS} : Rn sc d 152 79 L st σ r ↔ Rn sc d 152 59 L st σ r := r_goto d152_79 rfl
theorem d152_82 : decode (mC 152) 82 = .ok (.return_, 1) := by decide +kernel
theorem x152_82 {sc : aSc} {d : Nat} {r : aRes} {L : List Value} {σ : aS} : Rn sc d 152 82 L [] σ r ↔ r = (σ, none) := r_vret d152_82 rfl
theorem d153_0 : decode (mC 153) 0 = .ok (.aload_n 0, 1) := by decide +kernel
theorem x153_0 {sc : aSc} {d : Nat} {r : aRes} {x0 : Nat} {a1 : Value} {st : List Value} {σ : aS} : Rn sc d 153 0 [.ref x0, a1] st σ r ↔ Rn sc d 153 1 [.ref x0, a1] (.ref x0 :: st) σ r := r_aload_n d153_0 rfl
theorem d153_1 : decode (mC 153) 1 = .ok (.aload_n 0, 1) := by decide +kernel
theorem x153_1 {sc : aSc} {d : Nat} {r : aRes} {x0 : Nat} {a1 : Value} {st : List Value} {σ : aS} : Rn sc d 153 1 [.ref x0, a1] st σ r ↔ Rn sc d 153 2 [.ref x0, a1] (.ref x0 :: st) σ r := r_aload_n d153_1 rfl
theorem d153_2 : decode (mC 153) 2 = .ok (.getfield 99, 3) := by decide +kernel
theorem x153_2 {sc : aSc} {d : Nat} {r : aRes} {L : List Value} {st : List Value} {f : Nat → Nat → Int32} {g : Nat → Nat → Int64} {h1 h2 : Nat} {o : Nat} (hK : KK[o]? = some (.inl 7)) (hR : (RR h1 h2 o 29).isSome = true) : Rn sc d 153 2 L (.ref o :: st) (cS f g h1 h2) r ↔ Rn sc d 153 5 L (.ref (rf h1 h2 o 29) :: st) (cS f g h1 h2) r := r_getR2 d153_2 (ci := 7) (k := 29) (by decide +kernel) (by decide +kernel) (fun _ => rfl) hK hR
theorem d153_5 : decode (mC 153) 5 = .ok (.iload_n 1, 1) := by decide +kernel
theorem x153_5 {sc : aSc} {d : Nat} {r : aRes} {a0 : Value} {x1 : Int32} {st : List Value} {σ : aS} : Rn sc d 153 5 [a0, .int x1] st σ r ↔ Rn sc d 153 6 [a0, .int x1] (.int x1 :: st) σ r := r_iload_n d153_5 rfl
theorem d153_6 : decode (mC 153) 6 = .ok (.iaload, 1) := by decide +kernel
theorem x153_6 {sc : aSc} {d : Nat} {r : aRes} {L : List Value} {st : List Value} {f : Nat → Nat → Int32} {g : Nat → Nat → Int64} {h1 h2 : Nat} {a : Nat} {i : Int32} (h17 : 17 ≤ a) (hA : isT9 .int a) (hi : inb i (aln a) = true) : Rn sc d 153 6 L (.int i :: .ref a :: st) (cS f g h1 h2) r ↔ Rn sc d 153 7 L (.int (f a i.toNatClampNeg) :: st) (cS f g h1 h2) r := r_iald d153_6 h17 hA hi
theorem d153_7 : decode (mC 153) 7 = .ok (.iconst 0, 1) := by decide +kernel
theorem x153_7 {sc : aSc} {d : Nat} {r : aRes} {L : List Value} {st : List Value} {σ : aS} : Rn sc d 153 7 L st σ r ↔ Rn sc d 153 8 L (.int 0 :: st) σ r := r_iconst d153_7 (by decide)
theorem d153_8 : decode (mC 153) 8 = .ok (.bipush 98, 2) := by decide +kernel
theorem x153_8 {sc : aSc} {d : Nat} {r : aRes} {L : List Value} {st : List Value} {σ : aS} : Rn sc d 153 8 L st σ r ↔ Rn sc d 153 10 L (.int 98 :: st) σ r := r_bipush d153_8 (by decide)
theorem d153_10 : decode (mC 153) 10 = .ok (.invokevirtual 227, 3) := by decide +kernel
theorem x153_10 {sc : aSc} {d : Nat} {r : aRes} {L : List Value} {f : Nat → Nat → Int32} {g : Nat → Nat → Int64} {h1 h2 : Nat} {y0 : Int32} {y1 : Int32} {y2 : Int32}  {o : Nat} (hK : KK[o]? = some (.inl 7)) : Rn sc d 153 10 L [.int y0, .int y1, .int y2, .ref o] (cS f g h1 h2) r ↔ ∃ (σ3 : aS) (v : Option Value), Cl sc d 108 [.ref o, .int y2, .int y1, .int y0] (cS f g h1 h2) (σ3, v) ∧ Rn sc d 153 13 L (v.toList ++ []) σ3 r := r_callV (vs := [.int y0, .int y1, .int y2]) d153_10 (j := 108) rfl ⟨rfl, by decide, rfl, rfl⟩ (Nat.le_of_ble_eq_true rfl) hK
theorem d153_13 : decode (mC 153) 13 = .ok (.ifCond .eq 25, 3) := by decide +kernel
theorem x153_13 {sc : aSc} {d : Nat} {r : aRes} {L : List Value} {st : List Value} {σ : aS} {x : Int32} : Rn sc d 153 13 L (.int x :: st) σ r ↔ if x = 0 then Rn sc d 153 38 L st σ r else Rn sc d 153 16 L st σ r := r_if_eq d153_13 rfl
theorem d153_16 : decode (mC 153) 16 = .ok (.aload_n 0, 1) := by decide +kernel
theorem x153_16 {sc : aSc} {d : Nat} {r : aRes} {x0 : Nat} {a1 : Value} {st : List Value} {σ : aS} : Rn sc d 153 16 [.ref x0, a1] st σ r ↔ Rn sc d 153 17 [.ref x0, a1] (.ref x0 :: st) σ r := r_aload_n d153_16 rfl
theorem d153_17 : decode (mC 153) 17 = .ok (.aload_n 0, 1) := by decide +kernel
theorem x153_17 {sc : aSc} {d : Nat} {r : aRes} {x0 : Nat} {a1 : Value} {st : List Value} {σ : aS} : Rn sc d 153 17 [.ref x0, a1] st σ r ↔ Rn sc d 153 18 [.ref x0, a1] (.ref x0 :: st) σ r := r_aload_n d153_17 rfl
theorem d153_18 : decode (mC 153) 18 = .ok (.getfield 99, 3) := by decide +kernel
theorem x153_18 {sc : aSc} {d : Nat} {r : aRes} {L : List Value} {st : List Value} {f : Nat → Nat → Int32} {g : Nat → Nat → Int64} {h1 h2 : Nat} {o : Nat} (hK : KK[o]? = some (.inl 7)) (hR : (RR h1 h2 o 29).isSome = true) : Rn sc d 153 18 L (.ref o :: st) (cS f g h1 h2) r ↔ Rn sc d 153 21 L (.ref (rf h1 h2 o 29) :: st) (cS f g h1 h2) r := r_getR2 d153_18 (ci := 7) (k := 29) (by decide +kernel) (by decide +kernel) (fun _ => rfl) hK hR
theorem d153_21 : decode (mC 153) 21 = .ok (.iload_n 1, 1) := by decide +kernel
theorem x153_21 {sc : aSc} {d : Nat} {r : aRes} {a0 : Value} {x1 : Int32} {st : List Value} {σ : aS} : Rn sc d 153 21 [a0, .int x1] st σ r ↔ Rn sc d 153 22 [a0, .int x1] (.int x1 :: st) σ r := r_iload_n d153_21 rfl
theorem d153_22 : decode (mC 153) 22 = .ok (.iaload, 1) := by decide +kernel
theorem x153_22 {sc : aSc} {d : Nat} {r : aRes} {L : List Value} {st : List Value} {f : Nat → Nat → Int32} {g : Nat → Nat → Int64} {h1 h2 : Nat} {a : Nat} {i : Int32} (h17 : 17 ≤ a) (hA : isT9 .int a) (hi : inb i (aln a) = true) : Rn sc d 153 22 L (.int i :: .ref a :: st) (cS f g h1 h2) r ↔ Rn sc d 153 23 L (.int (f a i.toNatClampNeg) :: st) (cS f g h1 h2) r := r_iald d153_22 h17 hA hi
theorem d153_23 : decode (mC 153) 23 = .ok (.bipush 10, 2) := by decide +kernel
theorem x153_23 {sc : aSc} {d : Nat} {r : aRes} {L : List Value} {st : List Value} {σ : aS} : Rn sc d 153 23 L st σ r ↔ Rn sc d 153 25 L (.int 10 :: st) σ r := r_bipush d153_23 (by decide)
theorem d153_25 : decode (mC 153) 25 = .ok (.idiv, 1) := by decide +kernel
theorem x153_25 {sc : aSc} {d : Nat} {r : aRes} {L : List Value} {st : List Value} {σ : aS} {x y : Int32} (hy : ¬ y = 0) : Rn sc d 153 25 L (.int y :: .int x :: st) σ r ↔ Rn sc d 153 26 L (.int (x / y) :: st) σ r := r_idiv d153_25 hy
theorem d153_26 : decode (mC 153) 26 = .ok (.aload_n 0, 1) := by decide +kernel
theorem x153_26 {sc : aSc} {d : Nat} {r : aRes} {x0 : Nat} {a1 : Value} {st : List Value} {σ : aS} : Rn sc d 153 26 [.ref x0, a1] st σ r ↔ Rn sc d 153 27 [.ref x0, a1] (.ref x0 :: st) σ r := r_aload_n d153_26 rfl
theorem d153_27 : decode (mC 153) 27 = .ok (.getfield 99, 3) := by decide +kernel
theorem x153_27 {sc : aSc} {d : Nat} {r : aRes} {L : List Value} {st : List Value} {f : Nat → Nat → Int32} {g : Nat → Nat → Int64} {h1 h2 : Nat} {o : Nat} (hK : KK[o]? = some (.inl 7)) (hR : (RR h1 h2 o 29).isSome = true) : Rn sc d 153 27 L (.ref o :: st) (cS f g h1 h2) r ↔ Rn sc d 153 30 L (.ref (rf h1 h2 o 29) :: st) (cS f g h1 h2) r := r_getR2 d153_27 (ci := 7) (k := 29) (by decide +kernel) (by decide +kernel) (fun _ => rfl) hK hR
theorem d153_30 : decode (mC 153) 30 = .ok (.iload_n 1, 1) := by decide +kernel
theorem x153_30 {sc : aSc} {d : Nat} {r : aRes} {a0 : Value} {x1 : Int32} {st : List Value} {σ : aS} : Rn sc d 153 30 [a0, .int x1] st σ r ↔ Rn sc d 153 31 [a0, .int x1] (.int x1 :: st) σ r := r_iload_n d153_30 rfl
theorem d153_31 : decode (mC 153) 31 = .ok (.iaload, 1) := by decide +kernel
theorem x153_31 {sc : aSc} {d : Nat} {r : aRes} {L : List Value} {st : List Value} {f : Nat → Nat → Int32} {g : Nat → Nat → Int64} {h1 h2 : Nat} {a : Nat} {i : Int32} (h17 : 17 ≤ a) (hA : isT9 .int a) (hi : inb i (aln a) = true) : Rn sc d 153 31 L (.int i :: .ref a :: st) (cS f g h1 h2) r ↔ Rn sc d 153 32 L (.int (f a i.toNatClampNeg) :: st) (cS f g h1 h2) r := r_iald d153_31 h17 hA hi
theorem d153_32 : decode (mC 153) 32 = .ok (.bipush 10, 2) := by decide +kernel
theorem x153_32 {sc : aSc} {d : Nat} {r : aRes} {L : List Value} {st : List Value} {σ : aS} : Rn sc d 153 32 L st σ r ↔ Rn sc d 153 34 L (.int 10 :: st) σ r := r_bipush d153_32 (by decide)
theorem d153_34 : decode (mC 153) 34 = .ok (.irem, 1) := by decide +kernel
theorem x153_34 {sc : aSc} {d : Nat} {r : aRes} {L : List Value} {st : List Value} {σ : aS} {x y : Int32} (hy : ¬ y = 0) : Rn sc d 153 34 L (.int y :: .int x :: st) σ r ↔ Rn sc d 153 35 L (.int (x % y) :: st) σ r := r_irem d153_34 hy
theorem d153_35 : decode (mC 153) 35 = .ok (.invokevirtual 328, 3) := by decide +kernel
theorem x153_35 {sc : aSc} {d : Nat} {r : aRes} {L : List Value} {f : Nat → Nat → Int32} {g : Nat → Nat → Int64} {h1 h2 : Nat} {y0 : Int32} {y1 : Int32}  {o : Nat} (hK : KK[o]? = some (.inl 7)) : Rn sc d 153 35 L [.int y0, .int y1, .ref o] (cS f g h1 h2) r ↔ ∃ (σ3 : aS) (v : Option Value), Cl sc d 142 [.ref o, .int y1, .int y0] (cS f g h1 h2) (σ3, v) ∧ Rn sc d 153 38 L (v.toList ++ []) σ3 r := r_callV (vs := [.int y0, .int y1]) d153_35 (j := 142) rfl ⟨rfl, by decide, rfl, rfl⟩ (Nat.le_of_ble_eq_true rfl) hK
theorem d153_38 : decode (mC 153) 38 = .ok (.return_, 1) := by decide +kernel
theorem x153_38 {sc : aSc} {d : Nat} {r : aRes} {L : List Value} {σ : aS} : Rn sc d 153 38 L [] σ r ↔ r = (σ, none) := r_vret d153_38 rfl
theorem d154_0 : decode (mC 154) 0 = .ok (.aload_n 0, 1) := by decide +kernel
theorem x154_0 {sc : aSc} {d : Nat} {r : aRes} {x0 : Nat} {a1 : Value} {a2 : Value} {a3 : Value} {a4 : Value} {st : List Value} {σ : aS} : Rn sc d 154 0 [.ref x0, a1, a2, a3, a4] st σ r ↔ Rn sc d 154 1 [.ref x0, a1, a2, a3, a4] (.ref x0 :: st) σ r := r_aload_n d154_0 rfl
theorem d154_1 : decode (mC 154) 1 = .ok (.iconst (-1), 1) := by decide +kernel
theorem x154_1 {sc : aSc} {d : Nat} {r : aRes} {L : List Value} {st : List Value} {σ : aS} : Rn sc d 154 1 L st σ r ↔ Rn sc d 154 2 L (.int (-1) :: st) σ r := r_iconst d154_1 (by decide)
theorem d154_2 : decode (mC 154) 2 = .ok (.putfield 108, 3) := by decide +kernel
theorem x154_2 {sc : aSc} {d : Nat} {r : aRes} {L : List Value} {st : List Value} {f : Nat → Nat → Int32} {g : Nat → Nat → Int64} {h1 h2 : Nat} {o : Nat} {v : Int32} (h17 : 17 ≤ o) (hK : KK[o]? = some (.inl 7)) : Rn sc d 154 2 L (.int v :: .ref o :: st) (cS f g h1 h2) r ↔ Rn sc d 154 5 L st (cS (u2 f o 32 v) g h1 h2) r := r_putI d154_2 (ci := 7) (k := 32) (by decide +kernel) (by decide +kernel) h17 hK
theorem d154_5 : decode (mC 154) 5 = .ok (.aload_n 0, 1) := by decide +kernel
theorem x154_5 {sc : aSc} {d : Nat} {r : aRes} {x0 : Nat} {a1 : Value} {a2 : Value} {a3 : Value} {a4 : Value} {st : List Value} {σ : aS} : Rn sc d 154 5 [.ref x0, a1, a2, a3, a4] st σ r ↔ Rn sc d 154 6 [.ref x0, a1, a2, a3, a4] (.ref x0 :: st) σ r := r_aload_n d154_5 rfl
theorem d154_6 : decode (mC 154) 6 = .ok (.getfield 16, 3) := by decide +kernel
theorem x154_6 {sc : aSc} {d : Nat} {r : aRes} {L : List Value} {st : List Value} {f : Nat → Nat → Int32} {g : Nat → Nat → Int64} {h1 h2 : Nat} {o : Nat} (h17 : 17 ≤ o) (hK : KK[o]? = some (.inl 7)) : Rn sc d 154 6 L (.ref o :: st) (cS f g h1 h2) r ↔ Rn sc d 154 9 L (.int (f o 2) :: st) (cS f g h1 h2) r := r_getI d154_6 (ci := 7) (k := 2) rfl (by decide) (fun _ => rfl) h17 hK
theorem d154_9 : decode (mC 154) 9 = .ok (.istore_n 2, 1) := by decide +kernel
theorem x154_9 {sc : aSc} {d : Nat} {r : aRes} {a0 : Value} {x1 : Int32} {a2 : Value} {a3 : Value} {a4 : Value} {st : List Value} {σ : aS} {y : Int32} : Rn sc d 154 9 [a0, .int x1, a2, a3, a4] (.int y :: st) σ r ↔ Rn sc d 154 10 [a0, .int x1, .int y, a3, a4] st σ r := r_istore_n d154_9 (Nat.le_of_ble_eq_true rfl) rfl
theorem d154_10 : decode (mC 154) 10 = .ok (.iconst 0, 1) := by decide +kernel
theorem x154_10 {sc : aSc} {d : Nat} {r : aRes} {L : List Value} {st : List Value} {σ : aS} : Rn sc d 154 10 L st σ r ↔ Rn sc d 154 11 L (.int 0 :: st) σ r := r_iconst d154_10 (by decide)
theorem d154_11 : decode (mC 154) 11 = .ok (.istore_n 3, 1) := by decide +kernel
theorem x154_11 {sc : aSc} {d : Nat} {r : aRes} {a0 : Value} {a1 : Value} {x2 : Int32} {a3 : Value} {a4 : Value} {st : List Value} {σ : aS} {y : Int32} : Rn sc d 154 11 [a0, a1, .int x2, a3, a4] (.int y :: st) σ r ↔ Rn sc d 154 12 [a0, a1, .int x2, .int y, a4] st σ r := r_istore_n d154_11 (Nat.le_of_ble_eq_true rfl) rfl
theorem d154_12 : decode (mC 154) 12 = .ok (.aload_n 0, 1) := by decide +kernel
theorem x154_12 {sc : aSc} {d : Nat} {r : aRes} {x0 : Nat} {a1 : Value} {a2 : Value} {a3 : Value} {a4 : Value} {st : List Value} {σ : aS} : Rn sc d 154 12 [.ref x0, a1, a2, a3, a4] st σ r ↔ Rn sc d 154 13 [.ref x0, a1, a2, a3, a4] (.ref x0 :: st) σ r := r_aload_n d154_12 rfl
theorem d154_13 : decode (mC 154) 13 = .ok (.getfield 105, 3) := by decide +kernel
theorem x154_13 {sc : aSc} {d : Nat} {r : aRes} {L : List Value} {st : List Value} {f : Nat → Nat → Int32} {g : Nat → Nat → Int64} {h1 h2 : Nat} {o : Nat} (hK : KK[o]? = some (.inl 7)) (hR : (RR h1 h2 o 31).isSome = true) : Rn sc d 154 13 L (.ref o :: st) (cS f g h1 h2) r ↔ Rn sc d 154 16 L (.ref (rf h1 h2 o 31) :: st) (cS f g h1 h2) r := r_getR2 d154_13 (ci := 7) (k := 31) (by decide +kernel) (by decide +kernel) (fun _ => rfl) hK hR
theorem d154_16 : decode (mC 154) 16 = .ok (.iconst 0, 1) := by decide +kernel
theorem x154_16 {sc : aSc} {d : Nat} {r : aRes} {L : List Value} {st : List Value} {σ : aS} : Rn sc d 154 16 L st σ r ↔ Rn sc d 154 17 L (.int 0 :: st) σ r := r_iconst d154_16 (by decide)
theorem d154_17 : decode (mC 154) 17 = .ok (.iconst 0, 1) := by decide +kernel
theorem x154_17 {sc : aSc} {d : Nat} {r : aRes} {L : List Value} {st : List Value} {σ : aS} : Rn sc d 154 17 L st σ r ↔ Rn sc d 154 18 L (.int 0 :: st) σ r := r_iconst d154_17 (by decide)
theorem d154_18 : decode (mC 154) 18 = .ok (.iastore, 1) := by decide +kernel
theorem x154_18 {sc : aSc} {d : Nat} {r : aRes} {L : List Value} {st : List Value} {f : Nat → Nat → Int32} {g : Nat → Nat → Int64} {h1 h2 : Nat} {a : Nat} {i : Int32} {x : Int32} (h17 : 17 ≤ a) (hA : isT9 .int a) (hi : inb i (aln a) = true) : Rn sc d 154 18 L (.int x :: .int i :: .ref a :: st) (cS f g h1 h2) r ↔ Rn sc d 154 19 L st (cS (u2 f a i.toNatClampNeg x) g h1 h2) r := r_iast d154_18 h17 hA hi
theorem d154_19 : decode (mC 154) 19 = .ok (.iload_n 1, 1) := by decide +kernel
theorem x154_19 {sc : aSc} {d : Nat} {r : aRes} {a0 : Value} {x1 : Int32} {a2 : Value} {a3 : Value} {a4 : Value} {st : List Value} {σ : aS} : Rn sc d 154 19 [a0, .int x1, a2, a3, a4] st σ r ↔ Rn sc d 154 20 [a0, .int x1, a2, a3, a4] (.int x1 :: st) σ r := r_iload_n d154_19 rfl
theorem d154_20 : decode (mC 154) 20 = .ok (.ifCond .ne 11, 3) := by decide +kernel
theorem x154_20 {sc : aSc} {d : Nat} {r : aRes} {L : List Value} {st : List Value} {σ : aS} {x : Int32} : Rn sc d 154 20 L (.int x :: st) σ r ↔ if x = 0 then Rn sc d 154 23 L st σ r else Rn sc d 154 31 L st σ r := r_if_ne d154_20 rfl
theorem d154_23 : decode (mC 154) 23 = .ok (.aload_n 0, 1) := by decide +kernel
theorem x154_23 {sc : aSc} {d : Nat} {r : aRes} {x0 : Nat} {a1 : Value} {a2 : Value} {a3 : Value} {a4 : Value} {st : List Value} {σ : aS} : Rn sc d 154 23 [.ref x0, a1, a2, a3, a4] st σ r ↔ Rn sc d 154 24 [.ref x0, a1, a2, a3, a4] (.ref x0 :: st) σ r := r_aload_n d154_23 rfl
theorem d154_24 : decode (mC 154) 24 = .ok (.iconst 0, 1) := by decide +kernel
theorem x154_24 {sc : aSc} {d : Nat} {r : aRes} {L : List Value} {st : List Value} {σ : aS} : Rn sc d 154 24 L st σ r ↔ Rn sc d 154 25 L (.int 0 :: st) σ r := r_iconst d154_24 (by decide)
theorem d154_25 : decode (mC 154) 25 = .ok (.invokevirtual 332, 3) := by decide +kernel
theorem x154_25 {sc : aSc} {d : Nat} {r : aRes} {L : List Value} {f : Nat → Nat → Int32} {g : Nat → Nat → Int64} {h1 h2 : Nat} {y0 : Int32}  {o : Nat} (hK : KK[o]? = some (.inl 7)) : Rn sc d 154 25 L [.int y0, .ref o] (cS f g h1 h2) r ↔ ∃ (σ3 : aS) (v : Option Value), Cl sc d 152 [.ref o, .int y0] (cS f g h1 h2) (σ3, v) ∧ Rn sc d 154 28 L (v.toList ++ []) σ3 r := r_callV (vs := [.int y0]) d154_25 (j := 152) rfl ⟨rfl, by decide, rfl, rfl⟩ (Nat.le_of_ble_eq_true rfl) hK
theorem d154_28 : decode (mC 154) 28 = .ok (.goto 10, 3) := by decide +kernel
theorem x154_28 {sc : aSc} {d : Nat} {r : aRes} {L : List Value} {st : List Value} {σ : aS} : Rn sc d 154 28 L st σ r ↔ Rn sc d 154 38 L st σ r := r_goto d154_28 rfl
theorem d154_31 : decode (mC 154) 31 = .ok (.aload_n 0, 1) := by decide +kernel
theorem x154_31 {sc : aSc} {d : Nat} {r : aRes} {x0 : Nat} {a1 : Value} {a2 : Value} {a3 : Value} {a4 : Value} {st : List Value} {σ : aS} : Rn sc d 154 31 [.ref x0, a1, a2, a3, a4] st σ r ↔ Rn sc d 154 32 [.ref x0, a1, a2, a3, a4] (.ref x0 :: st) σ r := r_aload_n d154_31 rfl
theorem d154_32 : decode (mC 154) 32 = .ok (.getfield 99, 3) := by decide +kernel
theorem x154_32 {sc : aSc} {d : Nat} {r : aRes} {L : List Value} {st : List Value} {f : Nat → Nat → Int32} {g : Nat → Nat → Int64} {h1 h2 : Nat} {o : Nat} (hK : KK[o]? = some (.inl 7)) (hR : (RR h1 h2 o 29).isSome = true) : Rn sc d 154 32 L (.ref o :: st) (cS f g h1 h2) r ↔ Rn sc d 154 35 L (.ref (rf h1 h2 o 29) :: st) (cS f g h1 h2) r := r_getR2 d154_32 (ci := 7) (k := 29) (by decide +kernel) (by decide +kernel) (fun _ => rfl) hK hR
theorem d154_35 : decode (mC 154) 35 = .ok (.iconst 0, 1) := by decide +kernel
theorem x154_35 {sc : aSc} {d : Nat} {r : aRes} {L : List Value} {st : List Value} {σ : aS} : Rn sc d 154 35 L st σ r ↔ Rn sc d 154 36 L (.int 0 :: st) σ r := r_iconst d154_35 (by decide)
theorem d154_36 : decode (mC 154) 36 = .ok (.iconst (-1), 1) := by decide +kernel
theorem x154_36 {sc : aSc} {d : Nat} {r : aRes} {L : List Value} {st : List Value} {σ : aS} : Rn sc d 154 36 L st σ r ↔ Rn sc d 154 37 L (.int (-1) :: st) σ r := r_iconst d154_36 (by decide)
theorem d154_37 : decode (mC 154) 37 = .ok (.iastore, 1) := by decide +kernel
theorem x154_37 {sc : aSc} {d : Nat} {r : aRes} {L : List Value} {st : List Value} {f : Nat → Nat → Int32} {g : Nat → Nat → Int64} {h1 h2 : Nat} {a : Nat} {i : Int32} {x : Int32} (h17 : 17 ≤ a) (hA : isT9 .int a) (hi : inb i (aln a) = true) : Rn sc d 154 37 L (.int x :: .int i :: .ref a :: st) (cS f g h1 h2) r ↔ Rn sc d 154 38 L st (cS (u2 f a i.toNatClampNeg x) g h1 h2) r := r_iast d154_37 h17 hA hi
theorem d154_38 : decode (mC 154) 38 = .ok (.iload_n 1, 1) := by decide +kernel
theorem x154_38 {sc : aSc} {d : Nat} {r : aRes} {a0 : Value} {x1 : Int32} {a2 : Value} {a3 : Value} {a4 : Value} {st : List Value} {σ : aS} : Rn sc d 154 38 [a0, .int x1, a2, a3, a4] st σ r ↔ Rn sc d 154 39 [a0, .int x1, a2, a3, a4] (.int x1 :: st) σ r := r_iload_n d154_38 rfl
theorem d154_39 : decode (mC 154) 39 = .ok (.ifCond .le 176, 3) := by decide +kernel
theorem x154_39 {sc : aSc} {d : Nat} {r : aRes} {L : List Value} {st : List Value} {σ : aS} {x : Int32} : Rn sc d 154 39 L (.int x :: st) σ r ↔ if 0 < x then Rn sc d 154 42 L st σ r else Rn sc d 154 215 L st σ r := r_if_le d154_39 rfl
theorem d154_42 : decode (mC 154) 42 = .ok (.iload_n 3, 1) := by decide +kernel
theorem x154_42 {sc : aSc} {d : Nat} {r : aRes} {a0 : Value} {a1 : Value} {a2 : Value} {x3 : Int32} {a4 : Value} {st : List Value} {σ : aS} : Rn sc d 154 42 [a0, a1, a2, .int x3, a4] st σ r ↔ Rn sc d 154 43 [a0, a1, a2, .int x3, a4] (.int x3 :: st) σ r := r_iload_n d154_42 rfl
theorem d154_43 : decode (mC 154) 43 = .ok (.ifCond .lt 172, 3) := by decide +kernel
theorem x154_43 {sc : aSc} {d : Nat} {r : aRes} {L : List Value} {st : List Value} {σ : aS} {x : Int32} : Rn sc d 154 43 L (.int x :: st) σ r ↔ if x < 0 then Rn sc d 154 215 L st σ r else Rn sc d 154 46 L st σ r := r_if_lt d154_43 rfl
theorem d154_46 : decode (mC 154) 46 = .ok (.aload_n 0, 1) := by decide +kernel
theorem x154_46 {sc : aSc} {d : Nat} {r : aRes} {x0 : Nat} {a1 : Value} {a2 : Value} {a3 : Value} {a4 : Value} {st : List Value} {σ : aS} : Rn sc d 154 46 [.ref x0, a1, a2, a3, a4] st σ r ↔ Rn sc d 154 47 [.ref x0, a1, a2, a3, a4] (.ref x0 :: st) σ r := r_aload_n d154_46 rfl
theorem d154_47 : decode (mC 154) 47 = .ok (.iload_n 2, 1) := by decide +kernel
theorem x154_47 {sc : aSc} {d : Nat} {r : aRes} {a0 : Value} {a1 : Value} {x2 : Int32} {a3 : Value} {a4 : Value} {st : List Value} {σ : aS} : Rn sc d 154 47 [a0, a1, .int x2, a3, a4] st σ r ↔ Rn sc d 154 48 [a0, a1, .int x2, a3, a4] (.int x2 :: st) σ r := r_iload_n d154_47 rfl
theorem d154_48 : decode (mC 154) 48 = .ok (.iload_n 3, 1) := by decide +kernel
theorem x154_48 {sc : aSc} {d : Nat} {r : aRes} {a0 : Value} {a1 : Value} {a2 : Value} {x3 : Int32} {a4 : Value} {st : List Value} {σ : aS} : Rn sc d 154 48 [a0, a1, a2, .int x3, a4] st σ r ↔ Rn sc d 154 49 [a0, a1, a2, .int x3, a4] (.int x3 :: st) σ r := r_iload_n d154_48 rfl
theorem d154_49 : decode (mC 154) 49 = .ok (.iadd, 1) := by decide +kernel
theorem x154_49 {sc : aSc} {d : Nat} {r : aRes} {L : List Value} {st : List Value} {σ : aS} {x y : Int32} : Rn sc d 154 49 L (.int y :: .int x :: st) σ r ↔ Rn sc d 154 50 L (.int (x + y) :: st) σ r := r_iadd d154_49
theorem d154_50 : decode (mC 154) 50 = .ok (.putfield 16, 3) := by decide +kernel
theorem x154_50 {sc : aSc} {d : Nat} {r : aRes} {L : List Value} {st : List Value} {f : Nat → Nat → Int32} {g : Nat → Nat → Int64} {h1 h2 : Nat} {o : Nat} {v : Int32} (h17 : 17 ≤ o) (hK : KK[o]? = some (.inl 7)) : Rn sc d 154 50 L (.int v :: .ref o :: st) (cS f g h1 h2) r ↔ Rn sc d 154 53 L st (cS (u2 f o 2 v) g h1 h2) r := r_putI d154_50 (ci := 7) (k := 2) rfl (by decide) h17 hK
theorem d154_53 : decode (mC 154) 53 = .ok (.aload_n 0, 1) := by decide +kernel
theorem x154_53 {sc : aSc} {d : Nat} {r : aRes} {x0 : Nat} {a1 : Value} {a2 : Value} {a3 : Value} {a4 : Value} {st : List Value} {σ : aS} : Rn sc d 154 53 [.ref x0, a1, a2, a3, a4] st σ r ↔ Rn sc d 154 54 [.ref x0, a1, a2, a3, a4] (.ref x0 :: st) σ r := r_aload_n d154_53 rfl
theorem d154_54 : decode (mC 154) 54 = .ok (.iload_n 3, 1) := by decide +kernel
theorem x154_54 {sc : aSc} {d : Nat} {r : aRes} {a0 : Value} {a1 : Value} {a2 : Value} {x3 : Int32} {a4 : Value} {st : List Value} {σ : aS} : Rn sc d 154 54 [a0, a1, a2, .int x3, a4] st σ r ↔ Rn sc d 154 55 [a0, a1, a2, .int x3, a4] (.int x3 :: st) σ r := r_iload_n d154_54 rfl
theorem d154_55 : decode (mC 154) 55 = .ok (.invokevirtual 335, 3) := by decide +kernel
theorem x154_55 {sc : aSc} {d : Nat} {r : aRes} {L : List Value} {f : Nat → Nat → Int32} {g : Nat → Nat → Int64} {h1 h2 : Nat} {y0 : Int32}  {o : Nat} (hK : KK[o]? = some (.inl 7)) : Rn sc d 154 55 L [.int y0, .ref o] (cS f g h1 h2) r ↔ ∃ (σ3 : aS) (v : Option Value), Cl sc d 153 [.ref o, .int y0] (cS f g h1 h2) (σ3, v) ∧ Rn sc d 154 58 L (v.toList ++ []) σ3 r := r_callV (vs := [.int y0]) d154_55 (j := 153) rfl ⟨rfl, by decide, rfl, rfl⟩ (Nat.le_of_ble_eq_true rfl) hK
theorem d154_58 : decode (mC 154) 58 = .ok (.aload_n 0, 1) := by decide +kernel
theorem x154_58 {sc : aSc} {d : Nat} {r : aRes} {x0 : Nat} {a1 : Value} {a2 : Value} {a3 : Value} {a4 : Value} {st : List Value} {σ : aS} : Rn sc d 154 58 [.ref x0, a1, a2, a3, a4] st σ r ↔ Rn sc d 154 59 [.ref x0, a1, a2, a3, a4] (.ref x0 :: st) σ r := r_aload_n d154_58 rfl
theorem d154_59 : decode (mC 154) 59 = .ok (.getfield 99, 3) := by decide +kernel
theorem x154_59 {sc : aSc} {d : Nat} {r : aRes} {L : List Value} {st : List Value} {f : Nat → Nat → Int32} {g : Nat → Nat → Int64} {h1 h2 : Nat} {o : Nat} (hK : KK[o]? = some (.inl 7)) (hR : (RR h1 h2 o 29).isSome = true) : Rn sc d 154 59 L (.ref o :: st) (cS f g h1 h2) r ↔ Rn sc d 154 62 L (.ref (rf h1 h2 o 29) :: st) (cS f g h1 h2) r := r_getR2 d154_59 (ci := 7) (k := 29) (by decide +kernel) (by decide +kernel) (fun _ => rfl) hK hR
theorem d154_62 : decode (mC 154) 62 = .ok (.iload_n 3, 1) := by decide +kernel
theorem x154_62 {sc : aSc} {d : Nat} {r : aRes} {a0 : Value} {a1 : Value} {a2 : Value} {x3 : Int32} {a4 : Value} {st : List Value} {σ : aS} : Rn sc d 154 62 [a0, a1, a2, .int x3, a4] st σ r ↔ Rn sc d 154 63 [a0, a1, a2, .int x3, a4] (.int x3 :: st) σ r := r_iload_n d154_62 rfl
theorem d154_63 : decode (mC 154) 63 = .ok (.aload_n 0, 1) := by decide +kernel
theorem x154_63 {sc : aSc} {d : Nat} {r : aRes} {x0 : Nat} {a1 : Value} {a2 : Value} {a3 : Value} {a4 : Value} {st : List Value} {σ : aS} : Rn sc d 154 63 [.ref x0, a1, a2, a3, a4] st σ r ↔ Rn sc d 154 64 [.ref x0, a1, a2, a3, a4] (.ref x0 :: st) σ r := r_aload_n d154_63 rfl
theorem d154_64 : decode (mC 154) 64 = .ok (.aload_n 0, 1) := by decide +kernel
theorem x154_64 {sc : aSc} {d : Nat} {r : aRes} {x0 : Nat} {a1 : Value} {a2 : Value} {a3 : Value} {a4 : Value} {st : List Value} {σ : aS} : Rn sc d 154 64 [.ref x0, a1, a2, a3, a4] st σ r ↔ Rn sc d 154 65 [.ref x0, a1, a2, a3, a4] (.ref x0 :: st) σ r := r_aload_n d154_64 rfl
theorem d154_65 : decode (mC 154) 65 = .ok (.getfield 99, 3) := by decide +kernel
theorem x154_65 {sc : aSc} {d : Nat} {r : aRes} {L : List Value} {st : List Value} {f : Nat → Nat → Int32} {g : Nat → Nat → Int64} {h1 h2 : Nat} {o : Nat} (hK : KK[o]? = some (.inl 7)) (hR : (RR h1 h2 o 29).isSome = true) : Rn sc d 154 65 L (.ref o :: st) (cS f g h1 h2) r ↔ Rn sc d 154 68 L (.ref (rf h1 h2 o 29) :: st) (cS f g h1 h2) r := r_getR2 d154_65 (ci := 7) (k := 29) (by decide +kernel) (by decide +kernel) (fun _ => rfl) hK hR
theorem d154_68 : decode (mC 154) 68 = .ok (.iload_n 3, 1) := by decide +kernel
theorem x154_68 {sc : aSc} {d : Nat} {r : aRes} {a0 : Value} {a1 : Value} {a2 : Value} {x3 : Int32} {a4 : Value} {st : List Value} {σ : aS} : Rn sc d 154 68 [a0, a1, a2, .int x3, a4] st σ r ↔ Rn sc d 154 69 [a0, a1, a2, .int x3, a4] (.int x3 :: st) σ r := r_iload_n d154_68 rfl
theorem d154_69 : decode (mC 154) 69 = .ok (.iaload, 1) := by decide +kernel
theorem x154_69 {sc : aSc} {d : Nat} {r : aRes} {L : List Value} {st : List Value} {f : Nat → Nat → Int32} {g : Nat → Nat → Int64} {h1 h2 : Nat} {a : Nat} {i : Int32} (h17 : 17 ≤ a) (hA : isT9 .int a) (hi : inb i (aln a) = true) : Rn sc d 154 69 L (.int i :: .ref a :: st) (cS f g h1 h2) r ↔ Rn sc d 154 70 L (.int (f a i.toNatClampNeg) :: st) (cS f g h1 h2) r := r_iald d154_69 h17 hA hi
theorem d154_70 : decode (mC 154) 70 = .ok (.invokevirtual 338, 3) := by decide +kernel
theorem x154_70 {sc : aSc} {d : Nat} {r : aRes} {L : List Value} {f : Nat → Nat → Int32} {g : Nat → Nat → Int64} {h1 h2 : Nat} {y0 : Int32} {z0 : Int32} {z1 : Nat} {o : Nat} (hK : KK[o]? = some (.inl 7)) : Rn sc d 154 70 L [.int y0, .ref o, .int z0, .ref z1] (cS f g h1 h2) r ↔ ∃ (σ3 : aS) (v : Option Value), Cl sc d 151 [.ref o, .int y0] (cS f g h1 h2) (σ3, v) ∧ Rn sc d 154 73 L (v.toList ++ [.int z0, .ref z1]) σ3 r := r_callV (vs := [.int y0]) d154_70 (j := 151) rfl ⟨rfl, by decide, rfl, rfl⟩ (Nat.le_of_ble_eq_true rfl) hK
theorem d154_73 : decode (mC 154) 73 = .ok (.iastore, 1) := by decide +kernel
theorem x154_73 {sc : aSc} {d : Nat} {r : aRes} {L : List Value} {st : List Value} {f : Nat → Nat → Int32} {g : Nat → Nat → Int64} {h1 h2 : Nat} {a : Nat} {i : Int32} {x : Int32} (h17 : 17 ≤ a) (hA : isT9 .int a) (hi : inb i (aln a) = true) : Rn sc d 154 73 L (.int x :: .int i :: .ref a :: st) (cS f g h1 h2) r ↔ Rn sc d 154 74 L st (cS (u2 f a i.toNatClampNeg x) g h1 h2) r := r_iast d154_73 h17 hA hi
theorem d154_74 : decode (mC 154) 74 = .ok (.aload_n 0, 1) := by decide +kernel
theorem x154_74 {sc : aSc} {d : Nat} {r : aRes} {x0 : Nat} {a1 : Value} {a2 : Value} {a3 : Value} {a4 : Value} {st : List Value} {σ : aS} : Rn sc d 154 74 [.ref x0, a1, a2, a3, a4] st σ r ↔ Rn sc d 154 75 [.ref x0, a1, a2, a3, a4] (.ref x0 :: st) σ r := r_aload_n d154_74 rfl
theorem d154_75 : decode (mC 154) 75 = .ok (.getfield 99, 3) := by decide +kernel
theorem x154_75 {sc : aSc} {d : Nat} {r : aRes} {L : List Value} {st : List Value} {f : Nat → Nat → Int32} {g : Nat → Nat → Int64} {h1 h2 : Nat} {o : Nat} (hK : KK[o]? = some (.inl 7)) (hR : (RR h1 h2 o 29).isSome = true) : Rn sc d 154 75 L (.ref o :: st) (cS f g h1 h2) r ↔ Rn sc d 154 78 L (.ref (rf h1 h2 o 29) :: st) (cS f g h1 h2) r := r_getR2 d154_75 (ci := 7) (k := 29) (by decide +kernel) (by decide +kernel) (fun _ => rfl) hK hR
theorem d154_78 : decode (mC 154) 78 = .ok (.iload_n 3, 1) := by decide +kernel
theorem x154_78 {sc : aSc} {d : Nat} {r : aRes} {a0 : Value} {a1 : Value} {a2 : Value} {x3 : Int32} {a4 : Value} {st : List Value} {σ : aS} : Rn sc d 154 78 [a0, a1, a2, .int x3, a4] st σ r ↔ Rn sc d 154 79 [a0, a1, a2, .int x3, a4] (.int x3 :: st) σ r := r_iload_n d154_78 rfl
theorem d154_79 : decode (mC 154) 79 = .ok (.iaload, 1) := by decide +kernel
theorem x154_79 {sc : aSc} {d : Nat} {r : aRes} {L : List Value} {st : List Value} {f : Nat → Nat → Int32} {g : Nat → Nat → Int64} {h1 h2 : Nat} {a : Nat} {i : Int32} (h17 : 17 ≤ a) (hA : isT9 .int a) (hi : inb i (aln a) = true) : Rn sc d 154 79 L (.int i :: .ref a :: st) (cS f g h1 h2) r ↔ Rn sc d 154 80 L (.int (f a i.toNatClampNeg) :: st) (cS f g h1 h2) r := r_iald d154_79 h17 hA hi
theorem d154_80 : decode (mC 154) 80 = .ok (.bipush 100, 2) := by decide +kernel
theorem x154_80 {sc : aSc} {d : Nat} {r : aRes} {L : List Value} {st : List Value} {σ : aS} : Rn sc d 154 80 L st σ r ↔ Rn sc d 154 82 L (.int 100 :: st) σ r := r_bipush d154_80 (by decide)
theorem d154_82 : decode (mC 154) 82 = .ok (.if_icmp .ne 9, 3) := by decide +kernel
theorem x154_82 {sc : aSc} {d : Nat} {r : aRes} {L : List Value} {st : List Value} {σ : aS} {x y : Int32} : Rn sc d 154 82 L (.int y :: .int x :: st) σ r ↔ if x = y then Rn sc d 154 85 L st σ r else Rn sc d 154 91 L st σ r := r_icmp_ne d154_82 rfl
theorem d154_85 : decode (mC 154) 85 = .ok (.iinc 3 (-1), 3) := by decide +kernel
theorem x154_85 {sc : aSc} {d : Nat} {r : aRes} {a0 : Value} {a1 : Value} {x2 : Int32} {x3 : Int32} {a4 : Value} {st : List Value} {σ : aS} : Rn sc d 154 85 [a0, a1, .int x2, .int x3, a4] st σ r ↔ Rn sc d 154 88 [a0, a1, .int x2, .int (x3 + (-1)), a4] st σ r := r_iinc d154_85 (Nat.le_of_ble_eq_true rfl) rfl rfl (by decide)
theorem d154_88 : decode (mC 154) 88 = .ok (.goto (-50), 3) := by decide +kernel
theorem x154_88 {sc : aSc} {d : Nat} {r : aRes} {L : List Value} {st : List Value} {σ : aS} : Rn sc d 154 88 L st σ r ↔ Rn sc d 154 38 L st σ r := r_goto d154_88 rfl
theorem d154_91 : decode (mC 154) 91 = .ok (.aload_n 0, 1) := by decide +kernel
theorem x154_91 {sc : aSc} {d : Nat} {r : aRes} {x0 : Nat} {a1 : Value} {a2 : Value} {a3 : Value} {a4 : Value} {st : List Value} {σ : aS} : Rn sc d 154 91 [.ref x0, a1, a2, a3, a4] st σ r ↔ Rn sc d 154 92 [.ref x0, a1, a2, a3, a4] (.ref x0 :: st) σ r := r_aload_n d154_91 rfl
theorem d154_92 : decode (mC 154) 92 = .ok (.getfield 99, 3) := by decide +kernel
theorem x154_92 {sc : aSc} {d : Nat} {r : aRes} {L : List Value} {st : List Value} {f : Nat → Nat → Int32} {g : Nat → Nat → Int64} {h1 h2 : Nat} {o : Nat} (hK : KK[o]? = some (.inl 7)) (hR : (RR h1 h2 o 29).isSome = true) : Rn sc d 154 92 L (.ref o :: st) (cS f g h1 h2) r ↔ Rn sc d 154 95 L (.ref (rf h1 h2 o 29) :: st) (cS f g h1 h2) r := r_getR2 d154_92 (ci := 7) (k := 29) (by decide +kernel) (by decide +kernel) (fun _ => rfl) hK hR
theorem d154_95 : decode (mC 154) 95 = .ok (.iload_n 3, 1) := by decide +kernel
theorem x154_95 {sc : aSc} {d : Nat} {r : aRes} {a0 : Value} {a1 : Value} {a2 : Value} {x3 : Int32} {a4 : Value} {st : List Value} {σ : aS} : Rn sc d 154 95 [a0, a1, a2, .int x3, a4] st σ r ↔ Rn sc d 154 96 [a0, a1, a2, .int x3, a4] (.int x3 :: st) σ r := r_iload_n d154_95 rfl
theorem d154_96 : decode (mC 154) 96 = .ok (.iaload, 1) := by decide +kernel
theorem x154_96 {sc : aSc} {d : Nat} {r : aRes} {L : List Value} {st : List Value} {f : Nat → Nat → Int32} {g : Nat → Nat → Int64} {h1 h2 : Nat} {a : Nat} {i : Int32} (h17 : 17 ≤ a) (hA : isT9 .int a) (hi : inb i (aln a) = true) : Rn sc d 154 96 L (.int i :: .ref a :: st) (cS f g h1 h2) r ↔ Rn sc d 154 97 L (.int (f a i.toNatClampNeg) :: st) (cS f g h1 h2) r := r_iald d154_96 h17 hA hi
theorem d154_97 : decode (mC 154) 97 = .ok (.bipush 99, 2) := by decide +kernel
theorem x154_97 {sc : aSc} {d : Nat} {r : aRes} {L : List Value} {st : List Value} {σ : aS} : Rn sc d 154 97 L st σ r ↔ Rn sc d 154 99 L (.int 99 :: st) σ r := r_bipush d154_97 (by decide)
theorem d154_99 : decode (mC 154) 99 = .ok (.if_icmp .eq 7, 3) := by decide +kernel
theorem x154_99 {sc : aSc} {d : Nat} {r : aRes} {L : List Value} {st : List Value} {σ : aS} {x y : Int32} : Rn sc d 154 99 L (.int y :: .int x :: st) σ r ↔ if x = y then Rn sc d 154 106 L st σ r else Rn sc d 154 102 L st σ r := r_icmp_eq d154_99 rfl
theorem d154_102 : decode (mC 154) 102 = .ok (.iconst 1, 1) := by decide +kernel
theorem x154_102 {sc : aSc} {d : Nat} {r : aRes} {L : List Value} {st : List Value} {σ : aS} : Rn sc d 154 102 L st σ r ↔ Rn sc d 154 103 L (.int 1 :: st) σ r := r_iconst d154_102 (by decide)
theorem d154_103 : decode (mC 154) 103 = .ok (.goto 4, 3) := by decide +kernel
theorem x154_103 {sc : aSc} {d : Nat} {r : aRes} {L : List Value} {st : List Value} {σ : aS} : Rn sc d 154 103 L st σ r ↔ Rn sc d 154 107 L st σ r := r_goto d154_103 rfl
theorem d154_106 : decode (mC 154) 106 = .ok (.iconst 0, 1) := by decide +kernel
theorem x154_106 {sc : aSc} {d : Nat} {r : aRes} {L : List Value} {st : List Value} {σ : aS} : Rn sc d 154 106 L st σ r ↔ Rn sc d 154 107 L (.int 0 :: st) σ r := r_iconst d154_106 (by decide)
theorem d154_107 : decode (mC 154) 107 = .ok (.istore 4, 2) := by decide +kernel
theorem x154_107 {sc : aSc} {d : Nat} {r : aRes} {a0 : Value} {a1 : Value} {a2 : Value} {x3 : Int32} {a4 : Value} {st : List Value} {σ : aS} {y : Int32} : Rn sc d 154 107 [a0, a1, a2, .int x3, a4] (.int y :: st) σ r ↔ Rn sc d 154 109 [a0, a1, a2, .int x3, .int y] st σ r := r_istore d154_107 (Nat.le_of_ble_eq_true rfl) rfl
theorem d154_109 : decode (mC 154) 109 = .ok (.aload_n 0, 1) := by decide +kernel
theorem x154_109 {sc : aSc} {d : Nat} {r : aRes} {x0 : Nat} {a1 : Value} {a2 : Value} {a3 : Value} {a4 : Value} {st : List Value} {σ : aS} : Rn sc d 154 109 [.ref x0, a1, a2, a3, a4] st σ r ↔ Rn sc d 154 110 [.ref x0, a1, a2, a3, a4] (.ref x0 :: st) σ r := r_aload_n d154_109 rfl
theorem d154_110 : decode (mC 154) 110 = .ok (.getfield 105, 3) := by decide +kernel
theorem x154_110 {sc : aSc} {d : Nat} {r : aRes} {L : List Value} {st : List Value} {f : Nat → Nat → Int32} {g : Nat → Nat → Int64} {h1 h2 : Nat} {o : Nat} (hK : KK[o]? = some (.inl 7)) (hR : (RR h1 h2 o 31).isSome = true) : Rn sc d 154 110 L (.ref o :: st) (cS f g h1 h2) r ↔ Rn sc d 154 113 L (.ref (rf h1 h2 o 31) :: st) (cS f g h1 h2) r := r_getR2 d154_110 (ci := 7) (k := 31) (by decide +kernel) (by decide +kernel) (fun _ => rfl) hK hR
theorem d154_113 : decode (mC 154) 113 = .ok (.iload_n 3, 1) := by decide +kernel
theorem x154_113 {sc : aSc} {d : Nat} {r : aRes} {a0 : Value} {a1 : Value} {a2 : Value} {x3 : Int32} {a4 : Value} {st : List Value} {σ : aS} : Rn sc d 154 113 [a0, a1, a2, .int x3, a4] st σ r ↔ Rn sc d 154 114 [a0, a1, a2, .int x3, a4] (.int x3 :: st) σ r := r_iload_n d154_113 rfl
theorem d154_114 : decode (mC 154) 114 = .ok (.iconst 1, 1) := by decide +kernel
theorem x154_114 {sc : aSc} {d : Nat} {r : aRes} {L : List Value} {st : List Value} {σ : aS} : Rn sc d 154 114 L st σ r ↔ Rn sc d 154 115 L (.int 1 :: st) σ r := r_iconst d154_114 (by decide)
theorem d154_115 : decode (mC 154) 115 = .ok (.iadd, 1) := by decide +kernel
theorem x154_115 {sc : aSc} {d : Nat} {r : aRes} {L : List Value} {st : List Value} {σ : aS} {x y : Int32} : Rn sc d 154 115 L (.int y :: .int x :: st) σ r ↔ Rn sc d 154 116 L (.int (x + y) :: st) σ r := r_iadd d154_115
theorem d154_116 : decode (mC 154) 116 = .ok (.aload_n 0, 1) := by decide +kernel
theorem x154_116 {sc : aSc} {d : Nat} {r : aRes} {x0 : Nat} {a1 : Value} {a2 : Value} {a3 : Value} {a4 : Value} {st : List Value} {σ : aS} : Rn sc d 154 116 [.ref x0, a1, a2, a3, a4] st σ r ↔ Rn sc d 154 117 [.ref x0, a1, a2, a3, a4] (.ref x0 :: st) σ r := r_aload_n d154_116 rfl
theorem d154_117 : decode (mC 154) 117 = .ok (.getfield 105, 3) := by decide +kernel
theorem x154_117 {sc : aSc} {d : Nat} {r : aRes} {L : List Value} {st : List Value} {f : Nat → Nat → Int32} {g : Nat → Nat → Int64} {h1 h2 : Nat} {o : Nat} (hK : KK[o]? = some (.inl 7)) (hR : (RR h1 h2 o 31).isSome = true) : Rn sc d 154 117 L (.ref o :: st) (cS f g h1 h2) r ↔ Rn sc d 154 120 L (.ref (rf h1 h2 o 31) :: st) (cS f g h1 h2) r := r_getR2 d154_117 (ci := 7) (k := 31) (by decide +kernel) (by decide +kernel) (fun _ => rfl) hK hR
theorem d154_120 : decode (mC 154) 120 = .ok (.iload_n 3, 1) := by decide +kernel
theorem x154_120 {sc : aSc} {d : Nat} {r : aRes} {a0 : Value} {a1 : Value} {a2 : Value} {x3 : Int32} {a4 : Value} {st : List Value} {σ : aS} : Rn sc d 154 120 [a0, a1, a2, .int x3, a4] st σ r ↔ Rn sc d 154 121 [a0, a1, a2, .int x3, a4] (.int x3 :: st) σ r := r_iload_n d154_120 rfl
theorem d154_121 : decode (mC 154) 121 = .ok (.iaload, 1) := by decide +kernel
theorem x154_121 {sc : aSc} {d : Nat} {r : aRes} {L : List Value} {st : List Value} {f : Nat → Nat → Int32} {g : Nat → Nat → Int64} {h1 h2 : Nat} {a : Nat} {i : Int32} (h17 : 17 ≤ a) (hA : isT9 .int a) (hi : inb i (aln a) = true) : Rn sc d 154 121 L (.int i :: .ref a :: st) (cS f g h1 h2) r ↔ Rn sc d 154 122 L (.int (f a i.toNatClampNeg) :: st) (cS f g h1 h2) r := r_iald d154_121 h17 hA hi
theorem d154_122 : decode (mC 154) 122 = .ok (.iload 4, 2) := by decide +kernel
theorem x154_122 {sc : aSc} {d : Nat} {r : aRes} {a0 : Value} {a1 : Value} {a2 : Value} {a3 : Value} {x4 : Int32} {st : List Value} {σ : aS} : Rn sc d 154 122 [a0, a1, a2, a3, .int x4] st σ r ↔ Rn sc d 154 124 [a0, a1, a2, a3, .int x4] (.int x4 :: st) σ r := r_iload d154_122 rfl
theorem d154_124 : decode (mC 154) 124 = .ok (.ifCond .eq 33, 3) := by decide +kernel
theorem x154_124 {sc : aSc} {d : Nat} {r : aRes} {L : List Value} {st : List Value} {σ : aS} {x : Int32} : Rn sc d 154 124 L (.int x :: st) σ r ↔ if x = 0 then Rn sc d 154 157 L st σ r else Rn sc d 154 127 L st σ r := r_if_eq d154_124 rfl
theorem d154_127 : decode (mC 154) 127 = .ok (.aload_n 0, 1) := by decide +kernel
theorem x154_127 {sc : aSc} {d : Nat} {r : aRes} {x0 : Nat} {a1 : Value} {a2 : Value} {a3 : Value} {a4 : Value} {st : List Value} {σ : aS} : Rn sc d 154 127 [.ref x0, a1, a2, a3, a4] st σ r ↔ Rn sc d 154 128 [.ref x0, a1, a2, a3, a4] (.ref x0 :: st) σ r := r_aload_n d154_127 rfl
theorem d154_128 : decode (mC 154) 128 = .ok (.aload_n 0, 1) := by decide +kernel
theorem x154_128 {sc : aSc} {d : Nat} {r : aRes} {x0 : Nat} {a1 : Value} {a2 : Value} {a3 : Value} {a4 : Value} {st : List Value} {σ : aS} : Rn sc d 154 128 [.ref x0, a1, a2, a3, a4] st σ r ↔ Rn sc d 154 129 [.ref x0, a1, a2, a3, a4] (.ref x0 :: st) σ r := r_aload_n d154_128 rfl
theorem d154_129 : decode (mC 154) 129 = .ok (.getfield 99, 3) := by decide +kernel
theorem x154_129 {sc : aSc} {d : Nat} {r : aRes} {L : List Value} {st : List Value} {f : Nat → Nat → Int32} {g : Nat → Nat → Int64} {h1 h2 : Nat} {o : Nat} (hK : KK[o]? = some (.inl 7)) (hR : (RR h1 h2 o 29).isSome = true) : Rn sc d 154 129 L (.ref o :: st) (cS f g h1 h2) r ↔ Rn sc d 154 132 L (.ref (rf h1 h2 o 29) :: st) (cS f g h1 h2) r := r_getR2 d154_129 (ci := 7) (k := 29) (by decide +kernel) (by decide +kernel) (fun _ => rfl) hK hR
theorem d154_132 : decode (mC 154) 132 = .ok (.iload_n 3, 1) := by decide +kernel
theorem x154_132 {sc : aSc} {d : Nat} {r : aRes} {a0 : Value} {a1 : Value} {a2 : Value} {x3 : Int32} {a4 : Value} {st : List Value} {σ : aS} : Rn sc d 154 132 [a0, a1, a2, .int x3, a4] st σ r ↔ Rn sc d 154 133 [a0, a1, a2, .int x3, a4] (.int x3 :: st) σ r := r_iload_n d154_132 rfl
theorem d154_133 : decode (mC 154) 133 = .ok (.iaload, 1) := by decide +kernel
theorem x154_133 {sc : aSc} {d : Nat} {r : aRes} {L : List Value} {st : List Value} {f : Nat → Nat → Int32} {g : Nat → Nat → Int64} {h1 h2 : Nat} {a : Nat} {i : Int32} (h17 : 17 ≤ a) (hA : isT9 .int a) (hi : inb i (aln a) = true) : Rn sc d 154 133 L (.int i :: .ref a :: st) (cS f g h1 h2) r ↔ Rn sc d 154 134 L (.int (f a i.toNatClampNeg) :: st) (cS f g h1 h2) r := r_iald d154_133 h17 hA hi
theorem d154_134 : decode (mC 154) 134 = .ok (.bipush 10, 2) := by decide +kernel
theorem x154_134 {sc : aSc} {d : Nat} {r : aRes} {L : List Value} {st : List Value} {σ : aS} : Rn sc d 154 134 L st σ r ↔ Rn sc d 154 136 L (.int 10 :: st) σ r := r_bipush d154_134 (by decide)
theorem d154_136 : decode (mC 154) 136 = .ok (.idiv, 1) := by decide +kernel
theorem x154_136 {sc : aSc} {d : Nat} {r : aRes} {L : List Value} {st : List Value} {σ : aS} {x y : Int32} (hy : ¬ y = 0) : Rn sc d 154 136 L (.int y :: .int x :: st) σ r ↔ Rn sc d 154 137 L (.int (x / y) :: st) σ r := r_idiv d154_136 hy
theorem d154_137 : decode (mC 154) 137 = .ok (.invokevirtual 313, 3) := by decide +kernel
theorem x154_137 {sc : aSc} {d : Nat} {r : aRes} {L : List Value} {f : Nat → Nat → Int32} {g : Nat → Nat → Int64} {h1 h2 : Nat} {y0 : Int32} {z0 : Int32} {z1 : Int32} {z2 : Nat} {o : Nat} (hK : KK[o]? = some (.inl 7)) : Rn sc d 154 137 L [.int y0, .ref o, .int z0, .int z1, .ref z2] (cS f g h1 h2) r ↔ ∃ (σ3 : aS) (v : Option Value), Cl sc d 138 [.ref o, .int y0] (cS f g h1 h2) (σ3, v) ∧ Rn sc d 154 140 L (v.toList ++ [.int z0, .int z1, .ref z2]) σ3 r := r_callV (vs := [.int y0]) d154_137 (j := 138) rfl ⟨rfl, by decide, rfl, rfl⟩ (Nat.le_of_ble_eq_true rfl) hK
theorem d154_140 : decode (mC 154) 140 = .ok (.aload_n 0, 1) := by decide +kernel
theorem x154_140 {sc : aSc} {d : Nat} {r : aRes} {x0 : Nat} {a1 : Value} {a2 : Value} {a3 : Value} {a4 : Value} {st : List Value} {σ : aS} : Rn sc d 154 140 [.ref x0, a1, a2, a3, a4] st σ r ↔ Rn sc d 154 141 [.ref x0, a1, a2, a3, a4] (.ref x0 :: st) σ r := r_aload_n d154_140 rfl
theorem d154_141 : decode (mC 154) 141 = .ok (.aload_n 0, 1) := by decide +kernel
theorem x154_141 {sc : aSc} {d : Nat} {r : aRes} {x0 : Nat} {a1 : Value} {a2 : Value} {a3 : Value} {a4 : Value} {st : List Value} {σ : aS} : Rn sc d 154 141 [.ref x0, a1, a2, a3, a4] st σ r ↔ Rn sc d 154 142 [.ref x0, a1, a2, a3, a4] (.ref x0 :: st) σ r := r_aload_n d154_141 rfl
theorem d154_142 : decode (mC 154) 142 = .ok (.getfield 99, 3) := by decide +kernel
theorem x154_142 {sc : aSc} {d : Nat} {r : aRes} {L : List Value} {st : List Value} {f : Nat → Nat → Int32} {g : Nat → Nat → Int64} {h1 h2 : Nat} {o : Nat} (hK : KK[o]? = some (.inl 7)) (hR : (RR h1 h2 o 29).isSome = true) : Rn sc d 154 142 L (.ref o :: st) (cS f g h1 h2) r ↔ Rn sc d 154 145 L (.ref (rf h1 h2 o 29) :: st) (cS f g h1 h2) r := r_getR2 d154_142 (ci := 7) (k := 29) (by decide +kernel) (by decide +kernel) (fun _ => rfl) hK hR
theorem d154_145 : decode (mC 154) 145 = .ok (.iload_n 3, 1) := by decide +kernel
theorem x154_145 {sc : aSc} {d : Nat} {r : aRes} {a0 : Value} {a1 : Value} {a2 : Value} {x3 : Int32} {a4 : Value} {st : List Value} {σ : aS} : Rn sc d 154 145 [a0, a1, a2, .int x3, a4] st σ r ↔ Rn sc d 154 146 [a0, a1, a2, .int x3, a4] (.int x3 :: st) σ r := r_iload_n d154_145 rfl
theorem d154_146 : decode (mC 154) 146 = .ok (.iaload, 1) := by decide +kernel
theorem x154_146 {sc : aSc} {d : Nat} {r : aRes} {L : List Value} {st : List Value} {f : Nat → Nat → Int32} {g : Nat → Nat → Int64} {h1 h2 : Nat} {a : Nat} {i : Int32} (h17 : 17 ≤ a) (hA : isT9 .int a) (hi : inb i (aln a) = true) : Rn sc d 154 146 L (.int i :: .ref a :: st) (cS f g h1 h2) r ↔ Rn sc d 154 147 L (.int (f a i.toNatClampNeg) :: st) (cS f g h1 h2) r := r_iald d154_146 h17 hA hi
theorem d154_147 : decode (mC 154) 147 = .ok (.bipush 10, 2) := by decide +kernel
theorem x154_147 {sc : aSc} {d : Nat} {r : aRes} {L : List Value} {st : List Value} {σ : aS} : Rn sc d 154 147 L st σ r ↔ Rn sc d 154 149 L (.int 10 :: st) σ r := r_bipush d154_147 (by decide)
theorem d154_149 : decode (mC 154) 149 = .ok (.irem, 1) := by decide +kernel
theorem x154_149 {sc : aSc} {d : Nat} {r : aRes} {L : List Value} {st : List Value} {σ : aS} {x y : Int32} (hy : ¬ y = 0) : Rn sc d 154 149 L (.int y :: .int x :: st) σ r ↔ Rn sc d 154 150 L (.int (x % y) :: st) σ r := r_irem d154_149 hy
theorem d154_150 : decode (mC 154) 150 = .ok (.invokevirtual 313, 3) := by decide +kernel
theorem x154_150 {sc : aSc} {d : Nat} {r : aRes} {L : List Value} {f : Nat → Nat → Int32} {g : Nat → Nat → Int64} {h1 h2 : Nat} {y0 : Int32} {z0 : Int32} {z1 : Int32} {z2 : Int32} {z3 : Nat} {o : Nat} (hK : KK[o]? = some (.inl 7)) : Rn sc d 154 150 L [.int y0, .ref o, .int z0, .int z1, .int z2, .ref z3] (cS f g h1 h2) r ↔ ∃ (σ3 : aS) (v : Option Value), Cl sc d 138 [.ref o, .int y0] (cS f g h1 h2) (σ3, v) ∧ Rn sc d 154 153 L (v.toList ++ [.int z0, .int z1, .int z2, .ref z3]) σ3 r := r_callV (vs := [.int y0]) d154_150 (j := 138) rfl ⟨rfl, by decide, rfl, rfl⟩ (Nat.le_of_ble_eq_true rfl) hK
theorem d154_153 : decode (mC 154) 153 = .ok (.iadd, 1) := by decide +kernel
theorem x154_153 {sc : aSc} {d : Nat} {r : aRes} {L : List Value} {st : List Value} {σ : aS} {x y : Int32} : Rn sc d 154 153 L (.int y :: .int x :: st) σ r ↔ Rn sc d 154 154 L (.int (x + y) :: st) σ r := r_iadd d154_153
theorem d154_154 : decode (mC 154) 154 = .ok (.goto 4, 3) := by decide +kernel
theorem x154_154 {sc : aSc} {d : Nat} {r : aRes} {L : List Value} {st : List Value} {σ : aS} : Rn sc d 154 154 L st σ r ↔ Rn sc d 154 158 L st σ r := r_goto d154_154 rfl
theorem d154_157 : decode (mC 154) 157 = .ok (.iconst 0, 1) := by decide +kernel
theorem x154_157 {sc : aSc} {d : Nat} {r : aRes} {L : List Value} {st : List Value} {σ : aS} : Rn sc d 154 157 L st σ r ↔ Rn sc d 154 158 L (.int 0 :: st) σ r := r_iconst d154_157 (by decide)
theorem d154_158 : decode (mC 154) 158 = .ok (.iadd, 1) := by decide +kernel
theorem x154_158 {sc : aSc} {d : Nat} {r : aRes} {L : List Value} {st : List Value} {σ : aS} {x y : Int32} : Rn sc d 154 158 L (.int y :: .int x :: st) σ r ↔ Rn sc d 154 159 L (.int (x + y) :: st) σ r := r_iadd d154_158
theorem d154_159 : decode (mC 154) 159 = .ok (.iastore, 1) := by decide +kernel
theorem x154_159 {sc : aSc} {d : Nat} {r : aRes} {L : List Value} {st : List Value} {f : Nat → Nat → Int32} {g : Nat → Nat → Int64} {h1 h2 : Nat} {a : Nat} {i : Int32} {x : Int32} (h17 : 17 ≤ a) (hA : isT9 .int a) (hi : inb i (aln a) = true) : Rn sc d 154 159 L (.int x :: .int i :: .ref a :: st) (cS f g h1 h2) r ↔ Rn sc d 154 160 L st (cS (u2 f a i.toNatClampNeg x) g h1 h2) r := r_iast d154_159 h17 hA hi
theorem d154_160 : decode (mC 154) 160 = .ok (.iload 4, 2) := by decide +kernel
theorem x154_160 {sc : aSc} {d : Nat} {r : aRes} {a0 : Value} {a1 : Value} {a2 : Value} {a3 : Value} {x4 : Int32} {st : List Value} {σ : aS} : Rn sc d 154 160 [a0, a1, a2, a3, .int x4] st σ r ↔ Rn sc d 154 162 [a0, a1, a2, a3, .int x4] (.int x4 :: st) σ r := r_iload d154_160 rfl
theorem d154_162 : decode (mC 154) 162 = .ok (.ifCond .eq 25, 3) := by decide +kernel
theorem x154_162 {sc : aSc} {d : Nat} {r : aRes} {L : List Value} {st : List Value} {σ : aS} {x : Int32} : Rn sc d 154 162 L (.int x :: st) σ r ↔ if x = 0 then Rn sc d 154 187 L st σ r else Rn sc d 154 165 L st σ r := r_if_eq d154_162 rfl
theorem d154_165 : decode (mC 154) 165 = .ok (.aload_n 0, 1) := by decide +kernel
theorem x154_165 {sc : aSc} {d : Nat} {r : aRes} {x0 : Nat} {a1 : Value} {a2 : Value} {a3 : Value} {a4 : Value} {st : List Value} {σ : aS} : Rn sc d 154 165 [.ref x0, a1, a2, a3, a4] st σ r ↔ Rn sc d 154 166 [.ref x0, a1, a2, a3, a4] (.ref x0 :: st) σ r := r_aload_n d154_165 rfl
theorem d154_166 : decode (mC 154) 166 = .ok (.aload_n 0, 1) := by decide +kernel
theorem x154_166 {sc : aSc} {d : Nat} {r : aRes} {x0 : Nat} {a1 : Value} {a2 : Value} {a3 : Value} {a4 : Value} {st : List Value} {σ : aS} : Rn sc d 154 166 [.ref x0, a1, a2, a3, a4] st σ r ↔ Rn sc d 154 167 [.ref x0, a1, a2, a3, a4] (.ref x0 :: st) σ r := r_aload_n d154_166 rfl
theorem d154_167 : decode (mC 154) 167 = .ok (.getfield 99, 3) := by decide +kernel
theorem x154_167 {sc : aSc} {d : Nat} {r : aRes} {L : List Value} {st : List Value} {f : Nat → Nat → Int32} {g : Nat → Nat → Int64} {h1 h2 : Nat} {o : Nat} (hK : KK[o]? = some (.inl 7)) (hR : (RR h1 h2 o 29).isSome = true) : Rn sc d 154 167 L (.ref o :: st) (cS f g h1 h2) r ↔ Rn sc d 154 170 L (.ref (rf h1 h2 o 29) :: st) (cS f g h1 h2) r := r_getR2 d154_167 (ci := 7) (k := 29) (by decide +kernel) (by decide +kernel) (fun _ => rfl) hK hR
theorem d154_170 : decode (mC 154) 170 = .ok (.iload_n 3, 1) := by decide +kernel
theorem x154_170 {sc : aSc} {d : Nat} {r : aRes} {a0 : Value} {a1 : Value} {a2 : Value} {x3 : Int32} {a4 : Value} {st : List Value} {σ : aS} : Rn sc d 154 170 [a0, a1, a2, .int x3, a4] st σ r ↔ Rn sc d 154 171 [a0, a1, a2, .int x3, a4] (.int x3 :: st) σ r := r_iload_n d154_170 rfl
theorem d154_171 : decode (mC 154) 171 = .ok (.iaload, 1) := by decide +kernel
theorem x154_171 {sc : aSc} {d : Nat} {r : aRes} {L : List Value} {st : List Value} {f : Nat → Nat → Int32} {g : Nat → Nat → Int64} {h1 h2 : Nat} {a : Nat} {i : Int32} (h17 : 17 ≤ a) (hA : isT9 .int a) (hi : inb i (aln a) = true) : Rn sc d 154 171 L (.int i :: .ref a :: st) (cS f g h1 h2) r ↔ Rn sc d 154 172 L (.int (f a i.toNatClampNeg) :: st) (cS f g h1 h2) r := r_iald d154_171 h17 hA hi
theorem d154_172 : decode (mC 154) 172 = .ok (.bipush 10, 2) := by decide +kernel
theorem x154_172 {sc : aSc} {d : Nat} {r : aRes} {L : List Value} {st : List Value} {σ : aS} : Rn sc d 154 172 L st σ r ↔ Rn sc d 154 174 L (.int 10 :: st) σ r := r_bipush d154_172 (by decide)
theorem d154_174 : decode (mC 154) 174 = .ok (.idiv, 1) := by decide +kernel
theorem x154_174 {sc : aSc} {d : Nat} {r : aRes} {L : List Value} {st : List Value} {σ : aS} {x y : Int32} (hy : ¬ y = 0) : Rn sc d 154 174 L (.int y :: .int x :: st) σ r ↔ Rn sc d 154 175 L (.int (x / y) :: st) σ r := r_idiv d154_174 hy
theorem d154_175 : decode (mC 154) 175 = .ok (.aload_n 0, 1) := by decide +kernel
theorem x154_175 {sc : aSc} {d : Nat} {r : aRes} {x0 : Nat} {a1 : Value} {a2 : Value} {a3 : Value} {a4 : Value} {st : List Value} {σ : aS} : Rn sc d 154 175 [.ref x0, a1, a2, a3, a4] st σ r ↔ Rn sc d 154 176 [.ref x0, a1, a2, a3, a4] (.ref x0 :: st) σ r := r_aload_n d154_175 rfl
theorem d154_176 : decode (mC 154) 176 = .ok (.getfield 99, 3) := by decide +kernel
theorem x154_176 {sc : aSc} {d : Nat} {r : aRes} {L : List Value} {st : List Value} {f : Nat → Nat → Int32} {g : Nat → Nat → Int64} {h1 h2 : Nat} {o : Nat} (hK : KK[o]? = some (.inl 7)) (hR : (RR h1 h2 o 29).isSome = true) : Rn sc d 154 176 L (.ref o :: st) (cS f g h1 h2) r ↔ Rn sc d 154 179 L (.ref (rf h1 h2 o 29) :: st) (cS f g h1 h2) r := r_getR2 d154_176 (ci := 7) (k := 29) (by decide +kernel) (by decide +kernel) (fun _ => rfl) hK hR
theorem d154_179 : decode (mC 154) 179 = .ok (.iload_n 3, 1) := by decide +kernel
theorem x154_179 {sc : aSc} {d : Nat} {r : aRes} {a0 : Value} {a1 : Value} {a2 : Value} {x3 : Int32} {a4 : Value} {st : List Value} {σ : aS} : Rn sc d 154 179 [a0, a1, a2, .int x3, a4] st σ r ↔ Rn sc d 154 180 [a0, a1, a2, .int x3, a4] (.int x3 :: st) σ r := r_iload_n d154_179 rfl
theorem d154_180 : decode (mC 154) 180 = .ok (.iaload, 1) := by decide +kernel
theorem x154_180 {sc : aSc} {d : Nat} {r : aRes} {L : List Value} {st : List Value} {f : Nat → Nat → Int32} {g : Nat → Nat → Int64} {h1 h2 : Nat} {a : Nat} {i : Int32} (h17 : 17 ≤ a) (hA : isT9 .int a) (hi : inb i (aln a) = true) : Rn sc d 154 180 L (.int i :: .ref a :: st) (cS f g h1 h2) r ↔ Rn sc d 154 181 L (.int (f a i.toNatClampNeg) :: st) (cS f g h1 h2) r := r_iald d154_180 h17 hA hi
theorem d154_181 : decode (mC 154) 181 = .ok (.bipush 10, 2) := by decide +kernel
theorem x154_181 {sc : aSc} {d : Nat} {r : aRes} {L : List Value} {st : List Value} {σ : aS} : Rn sc d 154 181 L st σ r ↔ Rn sc d 154 183 L (.int 10 :: st) σ r := r_bipush d154_181 (by decide)
theorem d154_183 : decode (mC 154) 183 = .ok (.irem, 1) := by decide +kernel
theorem x154_183 {sc : aSc} {d : Nat} {r : aRes} {L : List Value} {st : List Value} {σ : aS} {x y : Int32} (hy : ¬ y = 0) : Rn sc d 154 183 L (.int y :: .int x :: st) σ r ↔ Rn sc d 154 184 L (.int (x % y) :: st) σ r := r_irem d154_183 hy
theorem d154_184 : decode (mC 154) 184 = .ok (.invokevirtual 328, 3) := by decide +kernel
theorem x154_184 {sc : aSc} {d : Nat} {r : aRes} {L : List Value} {f : Nat → Nat → Int32} {g : Nat → Nat → Int64} {h1 h2 : Nat} {y0 : Int32} {y1 : Int32}  {o : Nat} (hK : KK[o]? = some (.inl 7)) : Rn sc d 154 184 L [.int y0, .int y1, .ref o] (cS f g h1 h2) r ↔ ∃ (σ3 : aS) (v : Option Value), Cl sc d 142 [.ref o, .int y1, .int y0] (cS f g h1 h2) (σ3, v) ∧ Rn sc d 154 187 L (v.toList ++ []) σ3 r := r_callV (vs := [.int y0, .int y1]) d154_184 (j := 142) rfl ⟨rfl, by decide, rfl, rfl⟩ (Nat.le_of_ble_eq_true rfl) hK
theorem d154_187 : decode (mC 154) 187 = .ok (.iload_n 3, 1) := by decide +kernel
theorem x154_187 {sc : aSc} {d : Nat} {r : aRes} {a0 : Value} {a1 : Value} {a2 : Value} {x3 : Int32} {a4 : Value} {st : List Value} {σ : aS} : Rn sc d 154 187 [a0, a1, a2, .int x3, a4] st σ r ↔ Rn sc d 154 188 [a0, a1, a2, .int x3, a4] (.int x3 :: st) σ r := r_iload_n d154_187 rfl
theorem d154_188 : decode (mC 154) 188 = .ok (.iload_n 1, 1) := by decide +kernel
theorem x154_188 {sc : aSc} {d : Nat} {r : aRes} {a0 : Value} {x1 : Int32} {a2 : Value} {a3 : Value} {a4 : Value} {st : List Value} {σ : aS} : Rn sc d 154 188 [a0, .int x1, a2, a3, a4] st σ r ↔ Rn sc d 154 189 [a0, .int x1, a2, a3, a4] (.int x1 :: st) σ r := r_iload_n d154_188 rfl
theorem d154_189 : decode (mC 154) 189 = .ok (.iconst 1, 1) := by decide +kernel
theorem x154_189 {sc : aSc} {d : Nat} {r : aRes} {L : List Value} {st : List Value} {σ : aS} : Rn sc d 154 189 L st σ r ↔ Rn sc d 154 190 L (.int 1 :: st) σ r := r_iconst d154_189 (by decide)
theorem d154_190 : decode (mC 154) 190 = .ok (.isub, 1) := by decide +kernel
theorem x154_190 {sc : aSc} {d : Nat} {r : aRes} {L : List Value} {st : List Value} {σ : aS} {x y : Int32} : Rn sc d 154 190 L (.int y :: .int x :: st) σ r ↔ Rn sc d 154 191 L (.int (x - y) :: st) σ r := r_isub d154_190
theorem d154_191 : decode (mC 154) 191 = .ok (.if_icmp .ne 11, 3) := by decide +kernel
theorem x154_191 {sc : aSc} {d : Nat} {r : aRes} {L : List Value} {st : List Value} {σ : aS} {x y : Int32} : Rn sc d 154 191 L (.int y :: .int x :: st) σ r ↔ if x = y then Rn sc d 154 194 L st σ r else Rn sc d 154 202 L st σ r := r_icmp_ne d154_191 rfl
theorem d154_194 : decode (mC 154) 194 = .ok (.aload_n 0, 1) := by decide +kernel
theorem x154_194 {sc : aSc} {d : Nat} {r : aRes} {x0 : Nat} {a1 : Value} {a2 : Value} {a3 : Value} {a4 : Value} {st : List Value} {σ : aS} : Rn sc d 154 194 [.ref x0, a1, a2, a3, a4] st σ r ↔ Rn sc d 154 195 [.ref x0, a1, a2, a3, a4] (.ref x0 :: st) σ r := r_aload_n d154_194 rfl
theorem d154_195 : decode (mC 154) 195 = .ok (.iload_n 1, 1) := by decide +kernel
theorem x154_195 {sc : aSc} {d : Nat} {r : aRes} {a0 : Value} {x1 : Int32} {a2 : Value} {a3 : Value} {a4 : Value} {st : List Value} {σ : aS} : Rn sc d 154 195 [a0, .int x1, a2, a3, a4] st σ r ↔ Rn sc d 154 196 [a0, .int x1, a2, a3, a4] (.int x1 :: st) σ r := r_iload_n d154_195 rfl
theorem d154_196 : decode (mC 154) 196 = .ok (.invokevirtual 332, 3) := by decide +kernel
theorem x154_196 {sc : aSc} {d : Nat} {r : aRes} {L : List Value} {f : Nat → Nat → Int32} {g : Nat → Nat → Int64} {h1 h2 : Nat} {y0 : Int32}  {o : Nat} (hK : KK[o]? = some (.inl 7)) : Rn sc d 154 196 L [.int y0, .ref o] (cS f g h1 h2) r ↔ ∃ (σ3 : aS) (v : Option Value), Cl sc d 152 [.ref o, .int y0] (cS f g h1 h2) (σ3, v) ∧ Rn sc d 154 199 L (v.toList ++ []) σ3 r := r_callV (vs := [.int y0]) d154_196 (j := 152) rfl ⟨rfl, by decide, rfl, rfl⟩ (Nat.le_of_ble_eq_true rfl) hK
theorem d154_199 : decode (mC 154) 199 = .ok (.goto 13, 3) := by decide +kernel
theorem x154_199 {sc : aSc} {d : Nat} {r : aRes} {L : List Value} {st : List Value} {σ : aS} : Rn sc d 154 199 L st σ r ↔ Rn sc d 154 212 L st σ r := r_goto d154_199 rfl
theorem d154_202 : decode (mC 154) 202 = .ok (.iinc 3 1, 3) := by decide +kernel
theorem x154_202 {sc : aSc} {d : Nat} {r : aRes} {a0 : Value} {a1 : Value} {x2 : Int32} {x3 : Int32} {a4 : Value} {st : List Value} {σ : aS} : Rn sc d 154 202 [a0, a1, .int x2, .int x3, a4] st σ r ↔ Rn sc d 154 205 [a0, a1, .int x2, .int (x3 + 1), a4] st σ r := r_iinc d154_202 (Nat.le_of_ble_eq_true rfl) rfl rfl (by decide)
theorem d154_205 : decode (mC 154) 205 = .ok (.aload_n 0, 1) := by decide +kernel
theorem x154_205 {sc : aSc} {d : Nat} {r : aRes} {x0 : Nat} {a1 : Value} {a2 : Value} {a3 : Value} {a4 : Value} {st : List Value} {σ : aS} : Rn sc d 154 205 [.ref x0, a1, a2, a3, a4] st σ r ↔ Rn sc d 154 206 [.ref x0, a1, a2, a3, a4] (.ref x0 :: st) σ r := r_aload_n d154_205 rfl
theorem d154_206 : decode (mC 154) 206 = .ok (.getfield 99, 3) := by decide +kernel
theorem x154_206 {sc : aSc} {d : Nat} {r : aRes} {L : List Value} {st : List Value} {f : Nat → Nat → Int32} {g : Nat → Nat → Int64} {h1 h2 : Nat} {o : Nat} (hK : KK[o]? = some (.inl 7)) (hR : (RR h1 h2 o 29).isSome = true) : Rn sc d 154 206 L (.ref o :: st) (cS f g h1 h2) r ↔ Rn sc d 154 209 L (.ref (rf h1 h2 o 29) :: st) (cS f g h1 h2) r := r_getR2 d154_206 (ci := 7) (k := 29) (by decide +kernel) (by decide +kernel) (fun _ => rfl) hK hR
theorem d154_209 : decode (mC 154) 209 = .ok (.iload_n 3, 1) := by decide +kernel
theorem x154_209 {sc : aSc} {d : Nat} {r : aRes} {a0 : Value} {a1 : Value} {a2 : Value} {x3 : Int32} {a4 : Value} {st : List Value} {σ : aS} : Rn sc d 154 209 [a0, a1, a2, .int x3, a4] st σ r ↔ Rn sc d 154 210 [a0, a1, a2, .int x3, a4] (.int x3 :: st) σ r := r_iload_n d154_209 rfl
theorem d154_210 : decode (mC 154) 210 = .ok (.iconst (-1), 1) := by decide +kernel
theorem x154_210 {sc : aSc} {d : Nat} {r : aRes} {L : List Value} {st : List Value} {σ : aS} : Rn sc d 154 210 L st σ r ↔ Rn sc d 154 211 L (.int (-1) :: st) σ r := r_iconst d154_210 (by decide)
theorem d154_211 : decode (mC 154) 211 = .ok (.iastore, 1) := by decide +kernel
theorem x154_211 {sc : aSc} {d : Nat} {r : aRes} {L : List Value} {st : List Value} {f : Nat → Nat → Int32} {g : Nat → Nat → Int64} {h1 h2 : Nat} {a : Nat} {i : Int32} {x : Int32} (h17 : 17 ≤ a) (hA : isT9 .int a) (hi : inb i (aln a) = true) : Rn sc d 154 211 L (.int x :: .int i :: .ref a :: st) (cS f g h1 h2) r ↔ Rn sc d 154 212 L st (cS (u2 f a i.toNatClampNeg x) g h1 h2) r := r_iast d154_211 h17 hA hi
theorem d154_212 : decode (mC 154) 212 = .ok (.goto (-174), 3) := by decide +kernel
theorem x154_212 {sc : aSc} {d : Nat} {r : aRes} {L : List Value} {st : List Value} {σ : aS} : Rn sc d 154 212 L st σ r ↔ Rn sc d 154 38 L st σ r := r_goto d154_212 rfl
theorem d154_215 : decode (mC 154) 215 = .ok (.aload_n 0, 1) := by decide +kernel
theorem x154_215 {sc : aSc} {d : Nat} {r : aRes} {x0 : Nat} {a1 : Value} {a2 : Value} {a3 : Value} {a4 : Value} {st : List Value} {σ : aS} : Rn sc d 154 215 [.ref x0, a1, a2, a3, a4] st σ r ↔ Rn sc d 154 216 [.ref x0, a1, a2, a3, a4] (.ref x0 :: st) σ r := r_aload_n d154_215 rfl
theorem d154_216 : decode (mC 154) 216 = .ok (.iload_n 2, 1) := by decide +kernel
theorem x154_216 {sc : aSc} {d : Nat} {r : aRes} {a0 : Value} {a1 : Value} {x2 : Int32} {a3 : Value} {a4 : Value} {st : List Value} {σ : aS} : Rn sc d 154 216 [a0, a1, .int x2, a3, a4] st σ r ↔ Rn sc d 154 217 [a0, a1, .int x2, a3, a4] (.int x2 :: st) σ r := r_iload_n d154_216 rfl
theorem d154_217 : decode (mC 154) 217 = .ok (.putfield 16, 3) := by decide +kernel
theorem x154_217 {sc : aSc} {d : Nat} {r : aRes} {L : List Value} {st : List Value} {f : Nat → Nat → Int32} {g : Nat → Nat → Int64} {h1 h2 : Nat} {o : Nat} {v : Int32} (h17 : 17 ≤ o) (hK : KK[o]? = some (.inl 7)) : Rn sc d 154 217 L (.int v :: .ref o :: st) (cS f g h1 h2) r ↔ Rn sc d 154 220 L st (cS (u2 f o 2 v) g h1 h2) r := r_putI d154_217 (ci := 7) (k := 2) rfl (by decide) h17 hK
theorem d154_220 : decode (mC 154) 220 = .ok (.return_, 1) := by decide +kernel
theorem x154_220 {sc : aSc} {d : Nat} {r : aRes} {L : List Value} {σ : aS} : Rn sc d 154 220 L [] σ r ↔ r = (σ, none) := r_vret d154_220 rfl
theorem d155_0 : decode (mC 155) 0 = .ok (.aload_n 0, 1) := by decide +kernel
theorem x155_0 {sc : aSc} {d : Nat} {r : aRes} {x0 : Nat} {a1 : Value} {a2 : Value} {st : List Value} {σ : aS} : Rn sc d 155 0 [.ref x0, a1, a2] st σ r ↔ Rn sc d 155 1 [.ref x0, a1, a2] (.ref x0 :: st) σ r := r_aload_n d155_0 rfl
theorem d155_1 : decode (mC 155) 1 = .ok (.iload_n 2, 1) := by decide +kernel
theorem x155_1 {sc : aSc} {d : Nat} {r : aRes} {a0 : Value} {a1 : Value} {x2 : Int32} {st : List Value} {σ : aS} : Rn sc d 155 1 [a0, a1, .int x2] st σ r ↔ Rn sc d 155 2 [a0, a1, .int x2] (.int x2 :: st) σ r := r_iload_n d155_1 rfl
theorem d155_2 : decode (mC 155) 2 = .ok (.iconst 0, 1) := by decide +kernel
theorem x155_2 {sc : aSc} {d : Nat} {r : aRes} {L : List Value} {st : List Value} {σ : aS} : Rn sc d 155 2 L st σ r ↔ Rn sc d 155 3 L (.int 0 :: st) σ r := r_iconst d155_2 (by decide)
theorem d155_3 : decode (mC 155) 3 = .ok (.iconst 1, 1) := by decide +kernel
theorem x155_3 {sc : aSc} {d : Nat} {r : aRes} {L : List Value} {st : List Value} {σ : aS} : Rn sc d 155 3 L st σ r ↔ Rn sc d 155 4 L (.int 1 :: st) σ r := r_iconst d155_3 (by decide)
theorem d155_4 : decode (mC 155) 4 = .ok (.invokevirtual 227, 3) := by decide +kernel
theorem x155_4 {sc : aSc} {d : Nat} {r : aRes} {L : List Value} {f : Nat → Nat → Int32} {g : Nat → Nat → Int64} {h1 h2 : Nat} {y0 : Int32} {y1 : Int32} {y2 : Int32}  {o : Nat} (hK : KK[o]? = some (.inl 7)) : Rn sc d 155 4 L [.int y0, .int y1, .int y2, .ref o] (cS f g h1 h2) r ↔ ∃ (σ3 : aS) (v : Option Value), Cl sc d 108 [.ref o, .int y2, .int y1, .int y0] (cS f g h1 h2) (σ3, v) ∧ Rn sc d 155 7 L (v.toList ++ []) σ3 r := r_callV (vs := [.int y0, .int y1, .int y2]) d155_4 (j := 108) rfl ⟨rfl, by decide, rfl, rfl⟩ (Nat.le_of_ble_eq_true rfl) hK
theorem d155_7 : decode (mC 155) 7 = .ok (.ifCond .ne 17, 3) := by decide +kernel
theorem x155_7 {sc : aSc} {d : Nat} {r : aRes} {L : List Value} {st : List Value} {σ : aS} {x : Int32} : Rn sc d 155 7 L (.int x :: st) σ r ↔ if x = 0 then Rn sc d 155 10 L st σ r else Rn sc d 155 24 L st σ r := r_if_ne d155_7 rfl
theorem d155_10 : decode (mC 155) 10 = .ok (.aload_n 0, 1) := by decide +kernel
theorem x155_10 {sc : aSc} {d : Nat} {r : aRes} {x0 : Nat} {a1 : Value} {a2 : Value} {st : List Value} {σ : aS} : Rn sc d 155 10 [.ref x0, a1, a2] st σ r ↔ Rn sc d 155 11 [.ref x0, a1, a2] (.ref x0 :: st) σ r := r_aload_n d155_10 rfl
theorem d155_11 : decode (mC 155) 11 = .ok (.iload_n 2, 1) := by decide +kernel
theorem x155_11 {sc : aSc} {d : Nat} {r : aRes} {a0 : Value} {a1 : Value} {x2 : Int32} {st : List Value} {σ : aS} : Rn sc d 155 11 [a0, a1, .int x2] st σ r ↔ Rn sc d 155 12 [a0, a1, .int x2] (.int x2 :: st) σ r := r_iload_n d155_11 rfl
theorem d155_12 : decode (mC 155) 12 = .ok (.bipush 10, 2) := by decide +kernel
theorem x155_12 {sc : aSc} {d : Nat} {r : aRes} {L : List Value} {st : List Value} {σ : aS} : Rn sc d 155 12 L st σ r ↔ Rn sc d 155 14 L (.int 10 :: st) σ r := r_bipush d155_12 (by decide)
theorem d155_14 : decode (mC 155) 14 = .ok (.bipush 13, 2) := by decide +kernel
theorem x155_14 {sc : aSc} {d : Nat} {r : aRes} {L : List Value} {st : List Value} {σ : aS} : Rn sc d 155 14 L st σ r ↔ Rn sc d 155 16 L (.int 13 :: st) σ r := r_bipush d155_14 (by decide)
theorem d155_16 : decode (mC 155) 16 = .ok (.invokevirtual 227, 3) := by decide +kernel
theorem x155_16 {sc : aSc} {d : Nat} {r : aRes} {L : List Value} {f : Nat → Nat → Int32} {g : Nat → Nat → Int64} {h1 h2 : Nat} {y0 : Int32} {y1 : Int32} {y2 : Int32}  {o : Nat} (hK : KK[o]? = some (.inl 7)) : Rn sc d 155 16 L [.int y0, .int y1, .int y2, .ref o] (cS f g h1 h2) r ↔ ∃ (σ3 : aS) (v : Option Value), Cl sc d 108 [.ref o, .int y2, .int y1, .int y0] (cS f g h1 h2) (σ3, v) ∧ Rn sc d 155 19 L (v.toList ++ []) σ3 r := r_callV (vs := [.int y0, .int y1, .int y2]) d155_16 (j := 108) rfl ⟨rfl, by decide, rfl, rfl⟩ (Nat.le_of_ble_eq_true rfl) hK
theorem d155_19 : decode (mC 155) 19 = .ok (.ifCond .ne 5, 3) := by decide +kernel
theorem x155_19 {sc : aSc} {d : Nat} {r : aRes} {L : List Value} {st : List Value} {σ : aS} {x : Int32} : Rn sc d 155 19 L (.int x :: st) σ r ↔ if x = 0 then Rn sc d 155 22 L st σ r else Rn sc d 155 24 L st σ r := r_if_ne d155_19 rfl
theorem d155_22 : decode (mC 155) 22 = .ok (.iconst (-1), 1) := by decide +kernel
theorem x155_22 {sc : aSc} {d : Nat} {r : aRes} {L : List Value} {st : List Value} {σ : aS} : Rn sc d 155 22 L st σ r ↔ Rn sc d 155 23 L (.int (-1) :: st) σ r := r_iconst d155_22 (by decide)
theorem d155_23 : decode (mC 155) 23 = .ok (.ireturn, 1) := by decide +kernel
theorem x155_23 {sc : aSc} {d : Nat} {r : aRes} {L : List Value} {σ : aS} {x : Int32} : Rn sc d 155 23 L [.int x] σ r ↔ r = (σ, some (.int x)) := r_iret d155_23 rfl rfl
theorem d155_24 : decode (mC 155) 24 = .ok (.aload_n 0, 1) := by decide +kernel
theorem x155_24 {sc : aSc} {d : Nat} {r : aRes} {x0 : Nat} {a1 : Value} {a2 : Value} {st : List Value} {σ : aS} : Rn sc d 155 24 [.ref x0, a1, a2] st σ r ↔ Rn sc d 155 25 [.ref x0, a1, a2] (.ref x0 :: st) σ r := r_aload_n d155_24 rfl
theorem d155_25 : decode (mC 155) 25 = .ok (.iload_n 1, 1) := by decide +kernel
theorem x155_25 {sc : aSc} {d : Nat} {r : aRes} {a0 : Value} {x1 : Int32} {a2 : Value} {st : List Value} {σ : aS} : Rn sc d 155 25 [a0, .int x1, a2] st σ r ↔ Rn sc d 155 26 [a0, .int x1, a2] (.int x1 :: st) σ r := r_iload_n d155_25 rfl
theorem d155_26 : decode (mC 155) 26 = .ok (.iconst 0, 1) := by decide +kernel
theorem x155_26 {sc : aSc} {d : Nat} {r : aRes} {L : List Value} {st : List Value} {σ : aS} : Rn sc d 155 26 L st σ r ↔ Rn sc d 155 27 L (.int 0 :: st) σ r := r_iconst d155_26 (by decide)
theorem d155_27 : decode (mC 155) 27 = .ok (.iconst 4, 1) := by decide +kernel
theorem x155_27 {sc : aSc} {d : Nat} {r : aRes} {L : List Value} {st : List Value} {σ : aS} : Rn sc d 155 27 L st σ r ↔ Rn sc d 155 28 L (.int 4 :: st) σ r := r_iconst d155_27 (by decide)
theorem d155_28 : decode (mC 155) 28 = .ok (.invokevirtual 227, 3) := by decide +kernel
theorem x155_28 {sc : aSc} {d : Nat} {r : aRes} {L : List Value} {f : Nat → Nat → Int32} {g : Nat → Nat → Int64} {h1 h2 : Nat} {y0 : Int32} {y1 : Int32} {y2 : Int32}  {o : Nat} (hK : KK[o]? = some (.inl 7)) : Rn sc d 155 28 L [.int y0, .int y1, .int y2, .ref o] (cS f g h1 h2) r ↔ ∃ (σ3 : aS) (v : Option Value), Cl sc d 108 [.ref o, .int y2, .int y1, .int y0] (cS f g h1 h2) (σ3, v) ∧ Rn sc d 155 31 L (v.toList ++ []) σ3 r := r_callV (vs := [.int y0, .int y1, .int y2]) d155_28 (j := 108) rfl ⟨rfl, by decide, rfl, rfl⟩ (Nat.le_of_ble_eq_true rfl) hK
theorem d155_31 : decode (mC 155) 31 = .ok (.ifCond .ne 6, 3) := by decide +kernel
theorem x155_31 {sc : aSc} {d : Nat} {r : aRes} {L : List Value} {st : List Value} {σ : aS} {x : Int32} : Rn sc d 155 31 L (.int x :: st) σ r ↔ if x = 0 then Rn sc d 155 34 L st σ r else Rn sc d 155 37 L st σ r := r_if_ne d155_31 rfl
theorem d155_34 : decode (mC 155) 34 = .ok (.bipush (-2), 2) := by decide +kernel
theorem x155_34 {sc : aSc} {d : Nat} {r : aRes} {L : List Value} {st : List Value} {σ : aS} : Rn sc d 155 34 L st σ r ↔ Rn sc d 155 36 L (.int (-2) :: st) σ r := r_bipush d155_34 (by decide)
theorem d155_36 : decode (mC 155) 36 = .ok (.ireturn, 1) := by decide +kernel
theorem x155_36 {sc : aSc} {d : Nat} {r : aRes} {L : List Value} {σ : aS} {x : Int32} : Rn sc d 155 36 L [.int x] σ r ↔ r = (σ, some (.int x)) := r_iret d155_36 rfl rfl
theorem d155_37 : decode (mC 155) 37 = .ok (.aload_n 0, 1) := by decide +kernel
theorem x155_37 {sc : aSc} {d : Nat} {r : aRes} {x0 : Nat} {a1 : Value} {a2 : Value} {st : List Value} {σ : aS} : Rn sc d 155 37 [.ref x0, a1, a2] st σ r ↔ Rn sc d 155 38 [.ref x0, a1, a2] (.ref x0 :: st) σ r := r_aload_n d155_37 rfl
theorem d155_38 : decode (mC 155) 38 = .ok (.iload_n 1, 1) := by decide +kernel
theorem x155_38 {sc : aSc} {d : Nat} {r : aRes} {a0 : Value} {x1 : Int32} {a2 : Value} {st : List Value} {σ : aS} : Rn sc d 155 38 [a0, .int x1, a2] st σ r ↔ Rn sc d 155 39 [a0, .int x1, a2] (.int x1 :: st) σ r := r_iload_n d155_38 rfl
theorem d155_39 : decode (mC 155) 39 = .ok (.invokevirtual 341, 3) := by decide +kernel
theorem x155_39 {sc : aSc} {d : Nat} {r : aRes} {L : List Value} {f : Nat → Nat → Int32} {g : Nat → Nat → Int64} {h1 h2 : Nat} {y0 : Int32}  {o : Nat} (hK : KK[o]? = some (.inl 7)) : Rn sc d 155 39 L [.int y0, .ref o] (cS f g h1 h2) r ↔ ∃ (σ3 : aS) (v : Option Value), Cl sc d 154 [.ref o, .int y0] (cS f g h1 h2) (σ3, v) ∧ Rn sc d 155 42 L (v.toList ++ []) σ3 r := r_callV (vs := [.int y0]) d155_39 (j := 154) rfl ⟨rfl, by decide, rfl, rfl⟩ (Nat.le_of_ble_eq_true rfl) hK
theorem d155_42 : decode (mC 155) 42 = .ok (.iload_n 2, 1) := by decide +kernel
theorem x155_42 {sc : aSc} {d : Nat} {r : aRes} {a0 : Value} {a1 : Value} {x2 : Int32} {st : List Value} {σ : aS} : Rn sc d 155 42 [a0, a1, .int x2] st σ r ↔ Rn sc d 155 43 [a0, a1, .int x2] (.int x2 :: st) σ r := r_iload_n d155_42 rfl
theorem d155_43 : decode (mC 155) 43 = .ok (.iconst 2, 1) := by decide +kernel
theorem x155_43 {sc : aSc} {d : Nat} {r : aRes} {L : List Value} {st : List Value} {σ : aS} : Rn sc d 155 43 L st σ r ↔ Rn sc d 155 44 L (.int 2 :: st) σ r := r_iconst d155_43 (by decide)
theorem d155_44 : decode (mC 155) 44 = .ok (.if_icmp .ge 19, 3) := by decide +kernel
theorem x155_44 {sc : aSc} {d : Nat} {r : aRes} {L : List Value} {st : List Value} {σ : aS} {x y : Int32} : Rn sc d 155 44 L (.int y :: .int x :: st) σ r ↔ if x < y then Rn sc d 155 47 L st σ r else Rn sc d 155 63 L st σ r := r_icmp_ge d155_44 rfl
theorem d155_47 : decode (mC 155) 47 = .ok (.iload_n 2, 1) := by decide +kernel
theorem x155_47 {sc : aSc} {d : Nat} {r : aRes} {a0 : Value} {a1 : Value} {x2 : Int32} {st : List Value} {σ : aS} : Rn sc d 155 47 [a0, a1, .int x2] st σ r ↔ Rn sc d 155 48 [a0, a1, .int x2] (.int x2 :: st) σ r := r_iload_n d155_47 rfl
theorem d155_48 : decode (mC 155) 48 = .ok (.ifCond .ne 10, 3) := by decide +kernel
theorem x155_48 {sc : aSc} {d : Nat} {r : aRes} {L : List Value} {st : List Value} {σ : aS} {x : Int32} : Rn sc d 155 48 L (.int x :: st) σ r ↔ if x = 0 then Rn sc d 155 51 L st σ r else Rn sc d 155 58 L st σ r := r_if_ne d155_48 rfl
theorem d155_51 : decode (mC 155) 51 = .ok (.aload_n 0, 1) := by decide +kernel
theorem x155_51 {sc : aSc} {d : Nat} {r : aRes} {x0 : Nat} {a1 : Value} {a2 : Value} {st : List Value} {σ : aS} : Rn sc d 155 51 [.ref x0, a1, a2] st σ r ↔ Rn sc d 155 52 [.ref x0, a1, a2] (.ref x0 :: st) σ r := r_aload_n d155_51 rfl
theorem d155_52 : decode (mC 155) 52 = .ok (.getfield 108, 3) := by decide +kernel
theorem x155_52 {sc : aSc} {d : Nat} {r : aRes} {L : List Value} {st : List Value} {f : Nat → Nat → Int32} {g : Nat → Nat → Int64} {h1 h2 : Nat} {o : Nat} (h17 : 17 ≤ o) (hK : KK[o]? = some (.inl 7)) : Rn sc d 155 52 L (.ref o :: st) (cS f g h1 h2) r ↔ Rn sc d 155 55 L (.int (f o 32) :: st) (cS f g h1 h2) r := r_getI d155_52 (ci := 7) (k := 32) (by decide +kernel) (by decide +kernel) (fun _ => rfl) h17 hK
theorem d155_55 : decode (mC 155) 55 = .ok (.goto 7, 3) := by decide +kernel
theorem x155_55 {sc : aSc} {d : Nat} {r : aRes} {L : List Value} {st : List Value} {σ : aS} : Rn sc d 155 55 L st σ r ↔ Rn sc d 155 62 L st σ r := r_goto d155_55 rfl
theorem d155_58 : decode (mC 155) 58 = .ok (.aload_n 0, 1) := by decide +kernel
theorem x155_58 {sc : aSc} {d : Nat} {r : aRes} {x0 : Nat} {a1 : Value} {a2 : Value} {st : List Value} {σ : aS} : Rn sc d 155 58 [.ref x0, a1, a2] st σ r ↔ Rn sc d 155 59 [.ref x0, a1, a2] (.ref x0 :: st) σ r := r_aload_n d155_58 rfl
theorem d155_59 : decode (mC 155) 59 = .ok (.getfield 111, 3) := by decide +kernel
theorem x155_59 {sc : aSc} {d : Nat} {r : aRes} {L : List Value} {st : List Value} {f : Nat → Nat → Int32} {g : Nat → Nat → Int64} {h1 h2 : Nat} {o : Nat} (h17 : 17 ≤ o) (hK : KK[o]? = some (.inl 7)) : Rn sc d 155 59 L (.ref o :: st) (cS f g h1 h2) r ↔ Rn sc d 155 62 L (.int (f o 33) :: st) (cS f g h1 h2) r := r_getI d155_59 (ci := 7) (k := 33) (by decide +kernel) (by decide +kernel) (fun _ => rfl) h17 hK
theorem d155_62 : decode (mC 155) 62 = .ok (.ireturn, 1) := by decide +kernel
theorem x155_62 {sc : aSc} {d : Nat} {r : aRes} {L : List Value} {σ : aS} {x : Int32} : Rn sc d 155 62 L [.int x] σ r ↔ r = (σ, some (.int x)) := r_iret d155_62 rfl rfl
theorem d155_63 : decode (mC 155) 63 = .ok (.iload_n 2, 1) := by decide +kernel
theorem x155_63 {sc : aSc} {d : Nat} {r : aRes} {a0 : Value} {a1 : Value} {x2 : Int32} {st : List Value} {σ : aS} : Rn sc d 155 63 [a0, a1, .int x2] st σ r ↔ Rn sc d 155 64 [a0, a1, .int x2] (.int x2 :: st) σ r := r_iload_n d155_63 rfl
theorem d155_64 : decode (mC 155) 64 = .ok (.bipush 10, 2) := by decide +kernel
theorem x155_64 {sc : aSc} {d : Nat} {r : aRes} {L : List Value} {st : List Value} {σ : aS} : Rn sc d 155 64 L st σ r ↔ Rn sc d 155 66 L (.int 10 :: st) σ r := r_bipush d155_64 (by decide)
theorem d155_66 : decode (mC 155) 66 = .ok (.isub, 1) := by decide +kernel
theorem x155_66 {sc : aSc} {d : Nat} {r : aRes} {L : List Value} {st : List Value} {σ : aS} {x y : Int32} : Rn sc d 155 66 L (.int y :: .int x :: st) σ r ↔ Rn sc d 155 67 L (.int (x - y) :: st) σ r := r_isub d155_66
theorem d155_67 : decode (mC 155) 67 = .ok (.iload_n 1, 1) := by decide +kernel
theorem x155_67 {sc : aSc} {d : Nat} {r : aRes} {a0 : Value} {x1 : Int32} {a2 : Value} {st : List Value} {σ : aS} : Rn sc d 155 67 [a0, .int x1, a2] st σ r ↔ Rn sc d 155 68 [a0, .int x1, a2] (.int x1 :: st) σ r := r_iload_n d155_67 rfl
theorem d155_68 : decode (mC 155) 68 = .ok (.if_icmp .ge 15, 3) := by decide +kernel
theorem x155_68 {sc : aSc} {d : Nat} {r : aRes} {L : List Value} {st : List Value} {σ : aS} {x y : Int32} : Rn sc d 155 68 L (.int y :: .int x :: st) σ r ↔ if x < y then Rn sc d 155 71 L st σ r else Rn sc d 155 83 L st σ r := r_icmp_ge d155_68 rfl
theorem d155_71 : decode (mC 155) 71 = .ok (.aload_n 0, 1) := by decide +kernel
theorem x155_71 {sc : aSc} {d : Nat} {r : aRes} {x0 : Nat} {a1 : Value} {a2 : Value} {st : List Value} {σ : aS} : Rn sc d 155 71 [.ref x0, a1, a2] st σ r ↔ Rn sc d 155 72 [.ref x0, a1, a2] (.ref x0 :: st) σ r := r_aload_n d155_71 rfl
theorem d155_72 : decode (mC 155) 72 = .ok (.getfield 102, 3) := by decide +kernel
theorem x155_72 {sc : aSc} {d : Nat} {r : aRes} {L : List Value} {st : List Value} {f : Nat → Nat → Int32} {g : Nat → Nat → Int64} {h1 h2 : Nat} {o : Nat} (hK : KK[o]? = some (.inl 7)) (hR : (RR h1 h2 o 30).isSome = true) : Rn sc d 155 72 L (.ref o :: st) (cS f g h1 h2) r ↔ Rn sc d 155 75 L (.ref (rf h1 h2 o 30) :: st) (cS f g h1 h2) r := r_getR2 d155_72 (ci := 7) (k := 30) (by decide +kernel) (by decide +kernel) (fun _ => rfl) hK hR
theorem d155_75 : decode (mC 155) 75 = .ok (.iload_n 2, 1) := by decide +kernel
theorem x155_75 {sc : aSc} {d : Nat} {r : aRes} {a0 : Value} {a1 : Value} {x2 : Int32} {st : List Value} {σ : aS} : Rn sc d 155 75 [a0, a1, .int x2] st σ r ↔ Rn sc d 155 76 [a0, a1, .int x2] (.int x2 :: st) σ r := r_iload_n d155_75 rfl
theorem d155_76 : decode (mC 155) 76 = .ok (.bipush 10, 2) := by decide +kernel
theorem x155_76 {sc : aSc} {d : Nat} {r : aRes} {L : List Value} {st : List Value} {σ : aS} : Rn sc d 155 76 L st σ r ↔ Rn sc d 155 78 L (.int 10 :: st) σ r := r_bipush d155_76 (by decide)
theorem d155_78 : decode (mC 155) 78 = .ok (.isub, 1) := by decide +kernel
theorem x155_78 {sc : aSc} {d : Nat} {r : aRes} {L : List Value} {st : List Value} {σ : aS} {x y : Int32} : Rn sc d 155 78 L (.int y :: .int x :: st) σ r ↔ Rn sc d 155 79 L (.int (x - y) :: st) σ r := r_isub d155_78
theorem d155_79 : decode (mC 155) 79 = .ok (.iaload, 1) := by decide +kernel
theorem x155_79 {sc : aSc} {d : Nat} {r : aRes} {L : List Value} {st : List Value} {f : Nat → Nat → Int32} {g : Nat → Nat → Int64} {h1 h2 : Nat} {a : Nat} {i : Int32} (h17 : 17 ≤ a) (hA : isT9 .int a) (hi : inb i (aln a) = true) : Rn sc d 155 79 L (.int i :: .ref a :: st) (cS f g h1 h2) r ↔ Rn sc d 155 80 L (.int (f a i.toNatClampNeg) :: st) (cS f g h1 h2) r := r_iald d155_79 h17 hA hi
theorem d155_80 : decode (mC 155) 80 = .ok (.goto 5, 3) := by decide +kernel
theorem x155_80 {sc : aSc} {d : Nat} {r : aRes} {L : List Value} {st : List Value} {σ : aS} : Rn sc d 155 80 L st σ r ↔ Rn sc d 155 85 L st σ r := r_goto d155_80 rfl
theorem d155_83 : decode (mC 155) 83 = .ok (.bipush (-5), 2) := by decide +kernel
theorem x155_83 {sc : aSc} {d : Nat} {r : aRes} {L : List Value} {st : List Value} {σ : aS} : Rn sc d 155 83 L st σ r ↔ Rn sc d 155 85 L (.int (-5) :: st) σ r := r_bipush d155_83 (by decide)
theorem d155_85 : decode (mC 155) 85 = .ok (.ireturn, 1) := by decide +kernel
theorem x155_85 {sc : aSc} {d : Nat} {r : aRes} {L : List Value} {σ : aS} {x : Int32} : Rn sc d 155 85 L [.int x] σ r ↔ r = (σ, some (.int x)) := r_iret d155_85 rfl rfl
theorem d156_0 : decode (mC 156) 0 = .ok (.aload_n 0, 1) := by decide +kernel
theorem x156_0 {sc : aSc} {d : Nat} {r : aRes} {x0 : Nat} {a1 : Value} {a2 : Value} {a3 : Value} {a4 : Value} {a5 : Value} {st : List Value} {σ : aS} : Rn sc d 156 0 [.ref x0, a1, a2, a3, a4, a5] st σ r ↔ Rn sc d 156 1 [.ref x0, a1, a2, a3, a4, a5] (.ref x0 :: st) σ r := r_aload_n d156_0 rfl
theorem d156_1 : decode (mC 156) 1 = .ok (.getfield 16, 3) := by decide +kernel
theorem x156_1 {sc : aSc} {d : Nat} {r : aRes} {L : List Value} {st : List Value} {f : Nat → Nat → Int32} {g : Nat → Nat → Int64} {h1 h2 : Nat} {o : Nat} (h17 : 17 ≤ o) (hK : KK[o]? = some (.inl 7)) : Rn sc d 156 1 L (.ref o :: st) (cS f g h1 h2) r ↔ Rn sc d 156 4 L (.int (f o 2) :: st) (cS f g h1 h2) r := r_getI d156_1 (ci := 7) (k := 2) rfl (by decide) (fun _ => rfl) h17 hK
theorem d156_4 : decode (mC 156) 4 = .ok (.istore_n 1, 1) := by decide +kernel
theorem x156_4 {sc : aSc} {d : Nat} {r : aRes} {x0 : Nat} {a1 : Value} {a2 : Value} {a3 : Value} {a4 : Value} {a5 : Value} {st : List Value} {σ : aS} {y : Int32} : Rn sc d 156 4 [.ref x0, a1, a2, a3, a4, a5] (.int y :: st) σ r ↔ Rn sc d 156 5 [.ref x0, .int y, a2, a3, a4, a5] st σ r := r_istore_n d156_4 (Nat.le_of_ble_eq_true rfl) rfl
theorem d156_5 : decode (mC 156) 5 = .ok (.iconst 1, 1) := by decide +kernel
theorem x156_5 {sc : aSc} {d : Nat} {r : aRes} {L : List Value} {st : List Value} {σ : aS} : Rn sc d 156 5 L st σ r ↔ Rn sc d 156 6 L (.int 1 :: st) σ r := r_iconst d156_5 (by decide)
theorem d156_6 : decode (mC 156) 6 = .ok (.aload_n 0, 1) := by decide +kernel
theorem x156_6 {sc : aSc} {d : Nat} {r : aRes} {x0 : Nat} {a1 : Value} {a2 : Value} {a3 : Value} {a4 : Value} {a5 : Value} {st : List Value} {σ : aS} : Rn sc d 156 6 [.ref x0, a1, a2, a3, a4, a5] st σ r ↔ Rn sc d 156 7 [.ref x0, a1, a2, a3, a4, a5] (.ref x0 :: st) σ r := r_aload_n d156_6 rfl
theorem d156_7 : decode (mC 156) 7 = .ok (.getfield 7, 3) := by decide +kernel
theorem x156_7 {sc : aSc} {d : Nat} {r : aRes} {L : List Value} {st : List Value} {f : Nat → Nat → Int32} {g : Nat → Nat → Int64} {h1 h2 : Nat} {o : Nat} (h17 : 17 ≤ o) (hK : KK[o]? = some (.inl 7)) : Rn sc d 156 7 L (.ref o :: st) (cS f g h1 h2) r ↔ Rn sc d 156 10 L (.int (f o 0) :: st) (cS f g h1 h2) r := r_getI d156_7 (ci := 7) (k := 0) rfl (by decide) (fun _ => rfl) h17 hK
theorem d156_10 : decode (mC 156) 10 = .ok (.ishl, 1) := by decide +kernel
theorem x156_10 {sc : aSc} {d : Nat} {r : aRes} {L : List Value} {st : List Value} {σ : aS} {x y : Int32} : Rn sc d 156 10 L (.int y :: .int x :: st) σ r ↔ Rn sc d 156 11 L (.int (x <<< (y &&& 31)) :: st) σ r := r_ishl d156_10
theorem d156_11 : decode (mC 156) 11 = .ok (.iconst 1, 1) := by decide +kernel
theorem x156_11 {sc : aSc} {d : Nat} {r : aRes} {L : List Value} {st : List Value} {σ : aS} : Rn sc d 156 11 L st σ r ↔ Rn sc d 156 12 L (.int 1 :: st) σ r := r_iconst d156_11 (by decide)
theorem d156_12 : decode (mC 156) 12 = .ok (.isub, 1) := by decide +kernel
theorem x156_12 {sc : aSc} {d : Nat} {r : aRes} {L : List Value} {st : List Value} {σ : aS} {x y : Int32} : Rn sc d 156 12 L (.int y :: .int x :: st) σ r ↔ Rn sc d 156 13 L (.int (x - y) :: st) σ r := r_isub d156_12
theorem d156_13 : decode (mC 156) 13 = .ok (.istore_n 2, 1) := by decide +kernel
theorem x156_13 {sc : aSc} {d : Nat} {r : aRes} {a0 : Value} {x1 : Int32} {a2 : Value} {a3 : Value} {a4 : Value} {a5 : Value} {st : List Value} {σ : aS} {y : Int32} : Rn sc d 156 13 [a0, .int x1, a2, a3, a4, a5] (.int y :: st) σ r ↔ Rn sc d 156 14 [a0, .int x1, .int y, a3, a4, a5] st σ r := r_istore_n d156_13 (Nat.le_of_ble_eq_true rfl) rfl
theorem d156_14 : decode (mC 156) 14 = .ok (.iconst 0, 1) := by decide +kernel
theorem x156_14 {sc : aSc} {d : Nat} {r : aRes} {L : List Value} {st : List Value} {σ : aS} : Rn sc d 156 14 L st σ r ↔ Rn sc d 156 15 L (.int 0 :: st) σ r := r_iconst d156_14 (by decide)
theorem d156_15 : decode (mC 156) 15 = .ok (.istore_n 3, 1) := by decide +kernel
theorem x156_15 {sc : aSc} {d : Nat} {r : aRes} {a0 : Value} {a1 : Value} {x2 : Int32} {a3 : Value} {a4 : Value} {a5 : Value} {st : List Value} {σ : aS} {y : Int32} : Rn sc d 156 15 [a0, a1, .int x2, a3, a4, a5] (.int y :: st) σ r ↔ Rn sc d 156 16 [a0, a1, .int x2, .int y, a4, a5] st σ r := r_istore_n d156_15 (Nat.le_of_ble_eq_true rfl) rfl
theorem d156_16 : decode (mC 156) 16 = .ok (.iload_n 3, 1) := by decide +kernel
theorem x156_16 {sc : aSc} {d : Nat} {r : aRes} {a0 : Value} {a1 : Value} {a2 : Value} {x3 : Int32} {a4 : Value} {a5 : Value} {st : List Value} {σ : aS} : Rn sc d 156 16 [a0, a1, a2, .int x3, a4, a5] st σ r ↔ Rn sc d 156 17 [a0, a1, a2, .int x3, a4, a5] (.int x3 :: st) σ r := r_iload_n d156_16 rfl
theorem d156_17 : decode (mC 156) 17 = .ok (.bipush 12, 2) := by decide +kernel
theorem x156_17 {sc : aSc} {d : Nat} {r : aRes} {L : List Value} {st : List Value} {σ : aS} : Rn sc d 156 17 L st σ r ↔ Rn sc d 156 19 L (.int 12 :: st) σ r := r_bipush d156_17 (by decide)
theorem d156_19 : decode (mC 156) 19 = .ok (.if_icmp .ge 80, 3) := by decide +kernel
theorem x156_19 {sc : aSc} {d : Nat} {r : aRes} {L : List Value} {st : List Value} {σ : aS} {x y : Int32} : Rn sc d 156 19 L (.int y :: .int x :: st) σ r ↔ if x < y then Rn sc d 156 22 L st σ r else Rn sc d 156 99 L st σ r := r_icmp_ge d156_19 rfl
theorem d156_22 : decode (mC 156) 22 = .ok (.aload_n 0, 1) := by decide +kernel
theorem x156_22 {sc : aSc} {d : Nat} {r : aRes} {x0 : Nat} {a1 : Value} {a2 : Value} {a3 : Value} {a4 : Value} {a5 : Value} {st : List Value} {σ : aS} : Rn sc d 156 22 [.ref x0, a1, a2, a3, a4, a5] st σ r ↔ Rn sc d 156 23 [.ref x0, a1, a2, a3, a4, a5] (.ref x0 :: st) σ r := r_aload_n d156_22 rfl
theorem d156_23 : decode (mC 156) 23 = .ok (.iload_n 1, 1) := by decide +kernel
theorem x156_23 {sc : aSc} {d : Nat} {r : aRes} {a0 : Value} {x1 : Int32} {a2 : Value} {a3 : Value} {a4 : Value} {a5 : Value} {st : List Value} {σ : aS} : Rn sc d 156 23 [a0, .int x1, a2, a3, a4, a5] st σ r ↔ Rn sc d 156 24 [a0, .int x1, a2, a3, a4, a5] (.int x1 :: st) σ r := r_iload_n d156_23 rfl
theorem d156_24 : decode (mC 156) 24 = .ok (.iload_n 3, 1) := by decide +kernel
theorem x156_24 {sc : aSc} {d : Nat} {r : aRes} {a0 : Value} {a1 : Value} {a2 : Value} {x3 : Int32} {a4 : Value} {a5 : Value} {st : List Value} {σ : aS} : Rn sc d 156 24 [a0, a1, a2, .int x3, a4, a5] st σ r ↔ Rn sc d 156 25 [a0, a1, a2, .int x3, a4, a5] (.int x3 :: st) σ r := r_iload_n d156_24 rfl
theorem d156_25 : decode (mC 156) 25 = .ok (.iadd, 1) := by decide +kernel
theorem x156_25 {sc : aSc} {d : Nat} {r : aRes} {L : List Value} {st : List Value} {σ : aS} {x y : Int32} : Rn sc d 156 25 L (.int y :: .int x :: st) σ r ↔ Rn sc d 156 26 L (.int (x + y) :: st) σ r := r_iadd d156_25
theorem d156_26 : decode (mC 156) 26 = .ok (.putfield 16, 3) := by decide +kernel
theorem x156_26 {sc : aSc} {d : Nat} {r : aRes} {L : List Value} {st : List Value} {f : Nat → Nat → Int32} {g : Nat → Nat → Int64} {h1 h2 : Nat} {o : Nat} {v : Int32} (h17 : 17 ≤ o) (hK : KK[o]? = some (.inl 7)) : Rn sc d 156 26 L (.int v :: .ref o :: st) (cS f g h1 h2) r ↔ Rn sc d 156 29 L st (cS (u2 f o 2 v) g h1 h2) r := r_putI d156_26 (ci := 7) (k := 2) rfl (by decide) h17 hK
theorem d156_29 : decode (mC 156) 29 = .ok (.iconst 0, 1) := by decide +kernel
theorem x156_29 {sc : aSc} {d : Nat} {r : aRes} {L : List Value} {st : List Value} {σ : aS} : Rn sc d 156 29 L st σ r ↔ Rn sc d 156 30 L (.int 0 :: st) σ r := r_iconst d156_29 (by decide)
theorem d156_30 : decode (mC 156) 30 = .ok (.istore 4, 2) := by decide +kernel
theorem x156_30 {sc : aSc} {d : Nat} {r : aRes} {a0 : Value} {a1 : Value} {a2 : Value} {x3 : Int32} {a4 : Value} {a5 : Value} {st : List Value} {σ : aS} {y : Int32} : Rn sc d 156 30 [a0, a1, a2, .int x3, a4, a5] (.int y :: st) σ r ↔ Rn sc d 156 32 [a0, a1, a2, .int x3, .int y, a5] st σ r := r_istore d156_30 (Nat.le_of_ble_eq_true rfl) rfl
theorem d156_32 : decode (mC 156) 32 = .ok (.iload 4, 2) := by decide +kernel
theorem x156_32 {sc : aSc} {d : Nat} {r : aRes} {a0 : Value} {a1 : Value} {a2 : Value} {a3 : Value} {x4 : Int32} {a5 : Value} {st : List Value} {σ : aS} : Rn sc d 156 32 [a0, a1, a2, a3, .int x4, a5] st σ r ↔ Rn sc d 156 34 [a0, a1, a2, a3, .int x4, a5] (.int x4 :: st) σ r := r_iload d156_32 rfl
theorem d156_34 : decode (mC 156) 34 = .ok (.aload_n 0, 1) := by decide +kernel
theorem x156_34 {sc : aSc} {d : Nat} {r : aRes} {x0 : Nat} {a1 : Value} {a2 : Value} {a3 : Value} {a4 : Value} {a5 : Value} {st : List Value} {σ : aS} : Rn sc d 156 34 [.ref x0, a1, a2, a3, a4, a5] st σ r ↔ Rn sc d 156 35 [.ref x0, a1, a2, a3, a4, a5] (.ref x0 :: st) σ r := r_aload_n d156_34 rfl
theorem d156_35 : decode (mC 156) 35 = .ok (.getfield 7, 3) := by decide +kernel
theorem x156_35 {sc : aSc} {d : Nat} {r : aRes} {L : List Value} {st : List Value} {f : Nat → Nat → Int32} {g : Nat → Nat → Int64} {h1 h2 : Nat} {o : Nat} (h17 : 17 ≤ o) (hK : KK[o]? = some (.inl 7)) : Rn sc d 156 35 L (.ref o :: st) (cS f g h1 h2) r ↔ Rn sc d 156 38 L (.int (f o 0) :: st) (cS f g h1 h2) r := r_getI d156_35 (ci := 7) (k := 0) rfl (by decide) (fun _ => rfl) h17 hK
theorem d156_38 : decode (mC 156) 38 = .ok (.if_icmp .ge 55, 3) := by decide +kernel
theorem x156_38 {sc : aSc} {d : Nat} {r : aRes} {L : List Value} {st : List Value} {σ : aS} {x y : Int32} : Rn sc d 156 38 L (.int y :: .int x :: st) σ r ↔ if x < y then Rn sc d 156 41 L st σ r else Rn sc d 156 93 L st σ r := r_icmp_ge d156_38 rfl
theorem d156_41 : decode (mC 156) 41 = .ok (.iload 4, 2) := by decide +kernel
theorem x156_41 {sc : aSc} {d : Nat} {r : aRes} {a0 : Value} {a1 : Value} {a2 : Value} {a3 : Value} {x4 : Int32} {a5 : Value} {st : List Value} {σ : aS} : Rn sc d 156 41 [a0, a1, a2, a3, .int x4, a5] st σ r ↔ Rn sc d 156 43 [a0, a1, a2, a3, .int x4, a5] (.int x4 :: st) σ r := r_iload d156_41 rfl
theorem d156_43 : decode (mC 156) 43 = .ok (.iconst 1, 1) := by decide +kernel
theorem x156_43 {sc : aSc} {d : Nat} {r : aRes} {L : List Value} {st : List Value} {σ : aS} : Rn sc d 156 43 L st σ r ↔ Rn sc d 156 44 L (.int 1 :: st) σ r := r_iconst d156_43 (by decide)
theorem d156_44 : decode (mC 156) 44 = .ok (.iadd, 1) := by decide +kernel
theorem x156_44 {sc : aSc} {d : Nat} {r : aRes} {L : List Value} {st : List Value} {σ : aS} {x y : Int32} : Rn sc d 156 44 L (.int y :: .int x :: st) σ r ↔ Rn sc d 156 45 L (.int (x + y) :: st) σ r := r_iadd d156_44
theorem d156_45 : decode (mC 156) 45 = .ok (.istore 5, 2) := by decide +kernel
theorem x156_45 {sc : aSc} {d : Nat} {r : aRes} {a0 : Value} {a1 : Value} {a2 : Value} {a3 : Value} {x4 : Int32} {a5 : Value} {st : List Value} {σ : aS} {y : Int32} : Rn sc d 156 45 [a0, a1, a2, a3, .int x4, a5] (.int y :: st) σ r ↔ Rn sc d 156 47 [a0, a1, a2, a3, .int x4, .int y] st σ r := r_istore d156_45 (Nat.le_of_ble_eq_true rfl) rfl
theorem d156_47 : decode (mC 156) 47 = .ok (.iload 5, 2) := by decide +kernel
theorem x156_47 {sc : aSc} {d : Nat} {r : aRes} {a0 : Value} {a1 : Value} {a2 : Value} {a3 : Value} {a4 : Value} {x5 : Int32} {st : List Value} {σ : aS} : Rn sc d 156 47 [a0, a1, a2, a3, a4, .int x5] st σ r ↔ Rn sc d 156 49 [a0, a1, a2, a3, a4, .int x5] (.int x5 :: st) σ r := r_iload d156_47 rfl
theorem d156_49 : decode (mC 156) 49 = .ok (.aload_n 0, 1) := by decide +kernel
theorem x156_49 {sc : aSc} {d : Nat} {r : aRes} {x0 : Nat} {a1 : Value} {a2 : Value} {a3 : Value} {a4 : Value} {a5 : Value} {st : List Value} {σ : aS} : Rn sc d 156 49 [.ref x0, a1, a2, a3, a4, a5] st σ r ↔ Rn sc d 156 50 [.ref x0, a1, a2, a3, a4, a5] (.ref x0 :: st) σ r := r_aload_n d156_49 rfl
theorem d156_50 : decode (mC 156) 50 = .ok (.getfield 7, 3) := by decide +kernel
theorem x156_50 {sc : aSc} {d : Nat} {r : aRes} {L : List Value} {st : List Value} {f : Nat → Nat → Int32} {g : Nat → Nat → Int64} {h1 h2 : Nat} {o : Nat} (h17 : 17 ≤ o) (hK : KK[o]? = some (.inl 7)) : Rn sc d 156 50 L (.ref o :: st) (cS f g h1 h2) r ↔ Rn sc d 156 53 L (.int (f o 0) :: st) (cS f g h1 h2) r := r_getI d156_50 (ci := 7) (k := 0) rfl (by decide) (fun _ => rfl) h17 hK
theorem d156_53 : decode (mC 156) 53 = .ok (.if_icmp .ge 34, 3) := by decide +kernel
theorem x156_53 {sc : aSc} {d : Nat} {r : aRes} {L : List Value} {st : List Value} {σ : aS} {x y : Int32} : Rn sc d 156 53 L (.int y :: .int x :: st) σ r ↔ if x < y then Rn sc d 156 56 L st σ r else Rn sc d 156 87 L st σ r := r_icmp_ge d156_53 rfl
theorem d156_56 : decode (mC 156) 56 = .ok (.aload_n 0, 1) := by decide +kernel
theorem x156_56 {sc : aSc} {d : Nat} {r : aRes} {x0 : Nat} {a1 : Value} {a2 : Value} {a3 : Value} {a4 : Value} {a5 : Value} {st : List Value} {σ : aS} : Rn sc d 156 56 [.ref x0, a1, a2, a3, a4, a5] st σ r ↔ Rn sc d 156 57 [.ref x0, a1, a2, a3, a4, a5] (.ref x0 :: st) σ r := r_aload_n d156_56 rfl
theorem d156_57 : decode (mC 156) 57 = .ok (.iload 4, 2) := by decide +kernel
theorem x156_57 {sc : aSc} {d : Nat} {r : aRes} {a0 : Value} {a1 : Value} {a2 : Value} {a3 : Value} {x4 : Int32} {a5 : Value} {st : List Value} {σ : aS} : Rn sc d 156 57 [a0, a1, a2, a3, .int x4, a5] st σ r ↔ Rn sc d 156 59 [a0, a1, a2, a3, .int x4, a5] (.int x4 :: st) σ r := r_iload d156_57 rfl
theorem d156_59 : decode (mC 156) 59 = .ok (.iload 5, 2) := by decide +kernel
theorem x156_59 {sc : aSc} {d : Nat} {r : aRes} {a0 : Value} {a1 : Value} {a2 : Value} {a3 : Value} {a4 : Value} {x5 : Int32} {st : List Value} {σ : aS} : Rn sc d 156 59 [a0, a1, a2, a3, a4, .int x5] st σ r ↔ Rn sc d 156 61 [a0, a1, a2, a3, a4, .int x5] (.int x5 :: st) σ r := r_iload d156_59 rfl
theorem d156_61 : decode (mC 156) 61 = .ok (.invokevirtual 322, 3) := by decide +kernel
theorem x156_61 {sc : aSc} {d : Nat} {r : aRes} {L : List Value} {f : Nat → Nat → Int32} {g : Nat → Nat → Int64} {h1 h2 : Nat} {y0 : Int32} {y1 : Int32}  {o : Nat} (hK : KK[o]? = some (.inl 7)) : Rn sc d 156 61 L [.int y0, .int y1, .ref o] (cS f g h1 h2) r ↔ ∃ (σ3 : aS) (v : Option Value), Cl sc d 141 [.ref o, .int y1, .int y0] (cS f g h1 h2) (σ3, v) ∧ Rn sc d 156 64 L (v.toList ++ []) σ3 r := r_callV (vs := [.int y0, .int y1]) d156_61 (j := 141) rfl ⟨rfl, by decide, rfl, rfl⟩ (Nat.le_of_ble_eq_true rfl) hK
theorem d156_64 : decode (mC 156) 64 = .ok (.ifCond .eq 17, 3) := by decide +kernel
theorem x156_64 {sc : aSc} {d : Nat} {r : aRes} {L : List Value} {st : List Value} {σ : aS} {x : Int32} : Rn sc d 156 64 L (.int x :: st) σ r ↔ if x = 0 then Rn sc d 156 81 L st σ r else Rn sc d 156 67 L st σ r := r_if_eq d156_64 rfl
theorem d156_67 : decode (mC 156) 67 = .ok (.iload_n 2, 1) := by decide +kernel
theorem x156_67 {sc : aSc} {d : Nat} {r : aRes} {a0 : Value} {a1 : Value} {x2 : Int32} {a3 : Value} {a4 : Value} {a5 : Value} {st : List Value} {σ : aS} : Rn sc d 156 67 [a0, a1, .int x2, a3, a4, a5] st σ r ↔ Rn sc d 156 68 [a0, a1, .int x2, a3, a4, a5] (.int x2 :: st) σ r := r_iload_n d156_67 rfl
theorem d156_68 : decode (mC 156) 68 = .ok (.iconst 1, 1) := by decide +kernel
theorem x156_68 {sc : aSc} {d : Nat} {r : aRes} {L : List Value} {st : List Value} {σ : aS} : Rn sc d 156 68 L st σ r ↔ Rn sc d 156 69 L (.int 1 :: st) σ r := r_iconst d156_68 (by decide)
theorem d156_69 : decode (mC 156) 69 = .ok (.iload 4, 2) := by decide +kernel
theorem x156_69 {sc : aSc} {d : Nat} {r : aRes} {a0 : Value} {a1 : Value} {a2 : Value} {a3 : Value} {x4 : Int32} {a5 : Value} {st : List Value} {σ : aS} : Rn sc d 156 69 [a0, a1, a2, a3, .int x4, a5] st σ r ↔ Rn sc d 156 71 [a0, a1, a2, a3, .int x4, a5] (.int x4 :: st) σ r := r_iload d156_69 rfl
theorem d156_71 : decode (mC 156) 71 = .ok (.ishl, 1) := by decide +kernel
theorem x156_71 {sc : aSc} {d : Nat} {r : aRes} {L : List Value} {st : List Value} {σ : aS} {x y : Int32} : Rn sc d 156 71 L (.int y :: .int x :: st) σ r ↔ Rn sc d 156 72 L (.int (x <<< (y &&& 31)) :: st) σ r := r_ishl d156_71
theorem d156_72 : decode (mC 156) 72 = .ok (.iconst 1, 1) := by decide +kernel
theorem x156_72 {sc : aSc} {d : Nat} {r : aRes} {L : List Value} {st : List Value} {σ : aS} : Rn sc d 156 72 L st σ r ↔ Rn sc d 156 73 L (.int 1 :: st) σ r := r_iconst d156_72 (by decide)
theorem d156_73 : decode (mC 156) 73 = .ok (.iload 5, 2) := by decide +kernel
theorem x156_73 {sc : aSc} {d : Nat} {r : aRes} {a0 : Value} {a1 : Value} {a2 : Value} {a3 : Value} {a4 : Value} {x5 : Int32} {st : List Value} {σ : aS} : Rn sc d 156 73 [a0, a1, a2, a3, a4, .int x5] st σ r ↔ Rn sc d 156 75 [a0, a1, a2, a3, a4, .int x5] (.int x5 :: st) σ r := r_iload d156_73 rfl
theorem d156_75 : decode (mC 156) 75 = .ok (.ishl, 1) := by decide +kernel
theorem x156_75 {sc : aSc} {d : Nat} {r : aRes} {L : List Value} {st : List Value} {σ : aS} {x y : Int32} : Rn sc d 156 75 L (.int y :: .int x :: st) σ r ↔ Rn sc d 156 76 L (.int (x <<< (y &&& 31)) :: st) σ r := r_ishl d156_75
theorem d156_76 : decode (mC 156) 76 = .ok (.ior, 1) := by decide +kernel
theorem x156_76 {sc : aSc} {d : Nat} {r : aRes} {L : List Value} {st : List Value} {σ : aS} {x y : Int32} : Rn sc d 156 76 L (.int y :: .int x :: st) σ r ↔ Rn sc d 156 77 L (.int (x ||| y) :: st) σ r := r_ior d156_76
theorem d156_77 : decode (mC 156) 77 = .ok (.iconst (-1), 1) := by decide +kernel
theorem x156_77 {sc : aSc} {d : Nat} {r : aRes} {L : List Value} {st : List Value} {σ : aS} : Rn sc d 156 77 L st σ r ↔ Rn sc d 156 78 L (.int (-1) :: st) σ r := r_iconst d156_77 (by decide)
theorem d156_78 : decode (mC 156) 78 = .ok (.ixor, 1) := by decide +kernel
theorem x156_78 {sc : aSc} {d : Nat} {r : aRes} {L : List Value} {st : List Value} {σ : aS} {x y : Int32} : Rn sc d 156 78 L (.int y :: .int x :: st) σ r ↔ Rn sc d 156 79 L (.int (x ^^^ y) :: st) σ r := r_ixor d156_78
theorem d156_79 : decode (mC 156) 79 = .ok (.iand, 1) := by decide +kernel
theorem x156_79 {sc : aSc} {d : Nat} {r : aRes} {L : List Value} {st : List Value} {σ : aS} {x y : Int32} : Rn sc d 156 79 L (.int y :: .int x :: st) σ r ↔ Rn sc d 156 80 L (.int (x &&& y) :: st) σ r := r_iand d156_79
theorem d156_80 : decode (mC 156) 80 = .ok (.istore_n 2, 1) := by decide +kernel
theorem x156_80 {sc : aSc} {d : Nat} {r : aRes} {a0 : Value} {x1 : Int32} {a2 : Value} {a3 : Value} {a4 : Value} {a5 : Value} {st : List Value} {σ : aS} {y : Int32} : Rn sc d 156 80 [a0, .int x1, a2, a3, a4, a5] (.int y :: st) σ r ↔ Rn sc d 156 81 [a0, .int x1, .int y, a3, a4, a5] st σ r := r_istore_n d156_80 (Nat.le_of_ble_eq_true rfl) rfl
theorem d156_81 : decode (mC 156) 81 = .ok (.iinc 5 1, 3) := by decide +kernel
theorem x156_81 {sc : aSc} {d : Nat} {r : aRes} {a0 : Value} {a1 : Value} {a2 : Value} {a3 : Value} {x4 : Int32} {x5 : Int32} {st : List Value} {σ : aS} : Rn sc d 156 81 [a0, a1, a2, a3, .int x4, .int x5] st σ r ↔ Rn sc d 156 84 [a0, a1, a2, a3, .int x4, .int (x5 + 1)] st σ r := r_iinc d156_81 (Nat.le_of_ble_eq_true rfl) rfl rfl (by decide)
theorem d156_84 : decode (mC 156) 84 = .ok (.goto (-37), 3) := by decide +kernel
theorem x156_84 {sc : aSc} {d : Nat} {r : aRes} {L : List Value} {st : List Value} {σ : aS} : Rn sc d 156 84 L st σ r ↔ Rn sc d 156 47 L st σ r := r_goto d156_84 rfl
theorem d156_87 : decode (mC 156) 87 = .ok (.iinc 4 1, 3) := by decide +kernel
theorem x156_87 {sc : aSc} {d : Nat} {r : aRes} {a0 : Value} {a1 : Value} {a2 : Value} {x3 : Int32} {x4 : Int32} {a5 : Value} {st : List Value} {σ : aS} : Rn sc d 156 87 [a0, a1, a2, .int x3, .int x4, a5] st σ r ↔ Rn sc d 156 90 [a0, a1, a2, .int x3, .int (x4 + 1), a5] st σ r := r_iinc d156_87 (Nat.le_of_ble_eq_true rfl) rfl rfl (by decide)
theorem d156_90 : decode (mC 156) 90 = .ok (.goto (-58), 3) := by decide +kernel
theorem x156_90 {sc : aSc} {d : Nat} {r : aRes} {L : List Value} {st : List Value} {σ : aS} : Rn sc d 156 90 L st σ r ↔ Rn sc d 156 32 L st σ r := r_goto d156_90 rfl
theorem d156_93 : decode (mC 156) 93 = .ok (.iinc 3 1, 3) := by decide +kernel
theorem x156_93 {sc : aSc} {d : Nat} {r : aRes} {a0 : Value} {a1 : Value} {x2 : Int32} {x3 : Int32} {a4 : Value} {a5 : Value} {st : List Value} {σ : aS} : Rn sc d 156 93 [a0, a1, .int x2, .int x3, a4, a5] st σ r ↔ Rn sc d 156 96 [a0, a1, .int x2, .int (x3 + 1), a4, a5] st σ r := r_iinc d156_93 (Nat.le_of_ble_eq_true rfl) rfl rfl (by decide)
theorem d156_96 : decode (mC 156) 96 = .ok (.goto (-80), 3) := by decide +kernel
theorem x156_96 {sc : aSc} {d : Nat} {r : aRes} {L : List Value} {st : List Value} {σ : aS} : Rn sc d 156 96 L st σ r ↔ Rn sc d 156 16 L st σ r := r_goto d156_96 rfl
theorem d156_99 : decode (mC 156) 99 = .ok (.aload_n 0, 1) := by decide +kernel
theorem x156_99 {sc : aSc} {d : Nat} {r : aRes} {x0 : Nat} {a1 : Value} {a2 : Value} {a3 : Value} {a4 : Value} {a5 : Value} {st : List Value} {σ : aS} : Rn sc d 156 99 [.ref x0, a1, a2, a3, a4, a5] st σ r ↔ Rn sc d 156 100 [.ref x0, a1, a2, a3, a4, a5] (.ref x0 :: st) σ r := r_aload_n d156_99 rfl
theorem d156_100 : decode (mC 156) 100 = .ok (.iload_n 1, 1) := by decide +kernel
theorem x156_100 {sc : aSc} {d : Nat} {r : aRes} {a0 : Value} {x1 : Int32} {a2 : Value} {a3 : Value} {a4 : Value} {a5 : Value} {st : List Value} {σ : aS} : Rn sc d 156 100 [a0, .int x1, a2, a3, a4, a5] st σ r ↔ Rn sc d 156 101 [a0, .int x1, a2, a3, a4, a5] (.int x1 :: st) σ r := r_iload_n d156_100 rfl
theorem d156_101 : decode (mC 156) 101 = .ok (.putfield 16, 3) := by decide +kernel
theorem x156_101 {sc : aSc} {d : Nat} {r : aRes} {L : List Value} {st : List Value} {f : Nat → Nat → Int32} {g : Nat → Nat → Int64} {h1 h2 : Nat} {o : Nat} {v : Int32} (h17 : 17 ≤ o) (hK : KK[o]? = some (.inl 7)) : Rn sc d 156 101 L (.int v :: .ref o :: st) (cS f g h1 h2) r ↔ Rn sc d 156 104 L st (cS (u2 f o 2 v) g h1 h2) r := r_putI d156_101 (ci := 7) (k := 2) rfl (by decide) h17 hK
theorem d156_104 : decode (mC 156) 104 = .ok (.iload_n 2, 1) := by decide +kernel
theorem x156_104 {sc : aSc} {d : Nat} {r : aRes} {a0 : Value} {a1 : Value} {x2 : Int32} {a3 : Value} {a4 : Value} {a5 : Value} {st : List Value} {σ : aS} : Rn sc d 156 104 [a0, a1, .int x2, a3, a4, a5] st σ r ↔ Rn sc d 156 105 [a0, a1, .int x2, a3, a4, a5] (.int x2 :: st) σ r := r_iload_n d156_104 rfl
theorem d156_105 : decode (mC 156) 105 = .ok (.ireturn, 1) := by decide +kernel
theorem x156_105 {sc : aSc} {d : Nat} {r : aRes} {L : List Value} {σ : aS} {x : Int32} : Rn sc d 156 105 L [.int x] σ r ↔ r = (σ, some (.int x)) := r_iret d156_105 rfl rfl
theorem d157_0 : decode (mC 157) 0 = .ok (.aload_n 0, 1) := by decide +kernel
theorem x157_0 {sc : aSc} {d : Nat} {r : aRes} {x0 : Nat} {a1 : Value} {a2 : Value} {a3 : Value} {a4 : Value} {a5 : Value} {st : List Value} {σ : aS} : Rn sc d 157 0 [.ref x0, a1, a2, a3, a4, a5] st σ r ↔ Rn sc d 157 1 [.ref x0, a1, a2, a3, a4, a5] (.ref x0 :: st) σ r := r_aload_n d157_0 rfl
theorem d157_1 : decode (mC 157) 1 = .ok (.iload_n 1, 1) := by decide +kernel
theorem x157_1 {sc : aSc} {d : Nat} {r : aRes} {a0 : Value} {x1 : Int32} {a2 : Value} {a3 : Value} {a4 : Value} {a5 : Value} {st : List Value} {σ : aS} : Rn sc d 157 1 [a0, .int x1, a2, a3, a4, a5] st σ r ↔ Rn sc d 157 2 [a0, .int x1, a2, a3, a4, a5] (.int x1 :: st) σ r := r_iload_n d157_1 rfl
theorem d157_2 : decode (mC 157) 2 = .ok (.invokevirtual 231, 3) := by decide +kernel
theorem x157_2 {sc : aSc} {d : Nat} {r : aRes} {L : List Value} {f : Nat → Nat → Int32} {g : Nat → Nat → Int64} {h1 h2 : Nat} {y0 : Int32}  {o : Nat} (hK : KK[o]? = some (.inl 7)) : Rn sc d 157 2 L [.int y0, .ref o] (cS f g h1 h2) r ↔ ∃ (σ3 : aS) (v : Option Value), Cl sc d 109 [.ref o, .int y0] (cS f g h1 h2) (σ3, v) ∧ Rn sc d 157 5 L (v.toList ++ []) σ3 r := r_callV (vs := [.int y0]) d157_2 (j := 109) rfl ⟨rfl, by decide, rfl, rfl⟩ (Nat.le_of_ble_eq_true rfl) hK
theorem d157_5 : decode (mC 157) 5 = .ok (.ifCond .eq 11, 3) := by decide +kernel
theorem x157_5 {sc : aSc} {d : Nat} {r : aRes} {L : List Value} {st : List Value} {σ : aS} {x : Int32} : Rn sc d 157 5 L (.int x :: st) σ r ↔ if x = 0 then Rn sc d 157 16 L st σ r else Rn sc d 157 8 L st σ r := r_if_eq d157_5 rfl
theorem d157_8 : decode (mC 157) 8 = .ok (.aload_n 0, 1) := by decide +kernel
theorem x157_8 {sc : aSc} {d : Nat} {r : aRes} {x0 : Nat} {a1 : Value} {a2 : Value} {a3 : Value} {a4 : Value} {a5 : Value} {st : List Value} {σ : aS} : Rn sc d 157 8 [.ref x0, a1, a2, a3, a4, a5] st σ r ↔ Rn sc d 157 9 [.ref x0, a1, a2, a3, a4, a5] (.ref x0 :: st) σ r := r_aload_n d157_8 rfl
theorem d157_9 : decode (mC 157) 9 = .ok (.iload_n 2, 1) := by decide +kernel
theorem x157_9 {sc : aSc} {d : Nat} {r : aRes} {a0 : Value} {a1 : Value} {x2 : Int32} {a3 : Value} {a4 : Value} {a5 : Value} {st : List Value} {σ : aS} : Rn sc d 157 9 [a0, a1, .int x2, a3, a4, a5] st σ r ↔ Rn sc d 157 10 [a0, a1, .int x2, a3, a4, a5] (.int x2 :: st) σ r := r_iload_n d157_9 rfl
theorem d157_10 : decode (mC 157) 10 = .ok (.invokevirtual 231, 3) := by decide +kernel
theorem x157_10 {sc : aSc} {d : Nat} {r : aRes} {L : List Value} {f : Nat → Nat → Int32} {g : Nat → Nat → Int64} {h1 h2 : Nat} {y0 : Int32}  {o : Nat} (hK : KK[o]? = some (.inl 7)) : Rn sc d 157 10 L [.int y0, .ref o] (cS f g h1 h2) r ↔ ∃ (σ3 : aS) (v : Option Value), Cl sc d 109 [.ref o, .int y0] (cS f g h1 h2) (σ3, v) ∧ Rn sc d 157 13 L (v.toList ++ []) σ3 r := r_callV (vs := [.int y0]) d157_10 (j := 109) rfl ⟨rfl, by decide, rfl, rfl⟩ (Nat.le_of_ble_eq_true rfl) hK
theorem d157_13 : decode (mC 157) 13 = .ok (.ifCond .ne 5, 3) := by decide +kernel
theorem x157_13 {sc : aSc} {d : Nat} {r : aRes} {L : List Value} {st : List Value} {σ : aS} {x : Int32} : Rn sc d 157 13 L (.int x :: st) σ r ↔ if x = 0 then Rn sc d 157 16 L st σ r else Rn sc d 157 18 L st σ r := r_if_ne d157_13 rfl
theorem d157_16 : decode (mC 157) 16 = .ok (.iconst (-1), 1) := by decide +kernel
theorem x157_16 {sc : aSc} {d : Nat} {r : aRes} {L : List Value} {st : List Value} {σ : aS} : Rn sc d 157 16 L st σ r ↔ Rn sc d 157 17 L (.int (-1) :: st) σ r := r_iconst d157_16 (by decide)
theorem d157_17 : decode (mC 157) 17 = .ok (.ireturn, 1) := by decide +kernel
theorem x157_17 {sc : aSc} {d : Nat} {r : aRes} {L : List Value} {σ : aS} {x : Int32} : Rn sc d 157 17 L [.int x] σ r ↔ r = (σ, some (.int x)) := r_iret d157_17 rfl rfl
theorem d157_18 : decode (mC 157) 18 = .ok (.iload_n 1, 1) := by decide +kernel
theorem x157_18 {sc : aSc} {d : Nat} {r : aRes} {a0 : Value} {x1 : Int32} {a2 : Value} {a3 : Value} {a4 : Value} {a5 : Value} {st : List Value} {σ : aS} : Rn sc d 157 18 [a0, .int x1, a2, a3, a4, a5] st σ r ↔ Rn sc d 157 19 [a0, .int x1, a2, a3, a4, a5] (.int x1 :: st) σ r := r_iload_n d157_18 rfl
theorem d157_19 : decode (mC 157) 19 = .ok (.iload_n 2, 1) := by decide +kernel
theorem x157_19 {sc : aSc} {d : Nat} {r : aRes} {a0 : Value} {a1 : Value} {x2 : Int32} {a3 : Value} {a4 : Value} {a5 : Value} {st : List Value} {σ : aS} : Rn sc d 157 19 [a0, a1, .int x2, a3, a4, a5] st σ r ↔ Rn sc d 157 20 [a0, a1, .int x2, a3, a4, a5] (.int x2 :: st) σ r := r_iload_n d157_19 rfl
theorem d157_20 : decode (mC 157) 20 = .ok (.if_icmp .ne 6, 3) := by decide +kernel
theorem x157_20 {sc : aSc} {d : Nat} {r : aRes} {L : List Value} {st : List Value} {σ : aS} {x y : Int32} : Rn sc d 157 20 L (.int y :: .int x :: st) σ r ↔ if x = y then Rn sc d 157 23 L st σ r else Rn sc d 157 26 L st σ r := r_icmp_ne d157_20 rfl
theorem d157_23 : decode (mC 157) 23 = .ok (.bipush (-2), 2) := by decide +kernel
theorem x157_23 {sc : aSc} {d : Nat} {r : aRes} {L : List Value} {st : List Value} {σ : aS} : Rn sc d 157 23 L st σ r ↔ Rn sc d 157 25 L (.int (-2) :: st) σ r := r_bipush d157_23 (by decide)
theorem d157_25 : decode (mC 157) 25 = .ok (.ireturn, 1) := by decide +kernel
theorem x157_25 {sc : aSc} {d : Nat} {r : aRes} {L : List Value} {σ : aS} {x : Int32} : Rn sc d 157 25 L [.int x] σ r ↔ r = (σ, some (.int x)) := r_iret d157_25 rfl rfl
theorem d157_26 : decode (mC 157) 26 = .ok (.aload_n 0, 1) := by decide +kernel
theorem x157_26 {sc : aSc} {d : Nat} {r : aRes} {x0 : Nat} {a1 : Value} {a2 : Value} {a3 : Value} {a4 : Value} {a5 : Value} {st : List Value} {σ : aS} : Rn sc d 157 26 [.ref x0, a1, a2, a3, a4, a5] st σ r ↔ Rn sc d 157 27 [.ref x0, a1, a2, a3, a4, a5] (.ref x0 :: st) σ r := r_aload_n d157_26 rfl
theorem d157_27 : decode (mC 157) 27 = .ok (.getfield 16, 3) := by decide +kernel
theorem x157_27 {sc : aSc} {d : Nat} {r : aRes} {L : List Value} {st : List Value} {f : Nat → Nat → Int32} {g : Nat → Nat → Int64} {h1 h2 : Nat} {o : Nat} (h17 : 17 ≤ o) (hK : KK[o]? = some (.inl 7)) : Rn sc d 157 27 L (.ref o :: st) (cS f g h1 h2) r ↔ Rn sc d 157 30 L (.int (f o 2) :: st) (cS f g h1 h2) r := r_getI d157_27 (ci := 7) (k := 2) rfl (by decide) (fun _ => rfl) h17 hK
theorem d157_30 : decode (mC 157) 30 = .ok (.istore_n 3, 1) := by decide +kernel
theorem x157_30 {sc : aSc} {d : Nat} {r : aRes} {a0 : Value} {a1 : Value} {x2 : Int32} {a3 : Value} {a4 : Value} {a5 : Value} {st : List Value} {σ : aS} {y : Int32} : Rn sc d 157 30 [a0, a1, .int x2, a3, a4, a5] (.int y :: st) σ r ↔ Rn sc d 157 31 [a0, a1, .int x2, .int y, a4, a5] st σ r := r_istore_n d157_30 (Nat.le_of_ble_eq_true rfl) rfl
theorem d157_31 : decode (mC 157) 31 = .ok (.bipush (-5), 2) := by decide +kernel
theorem x157_31 {sc : aSc} {d : Nat} {r : aRes} {L : List Value} {st : List Value} {σ : aS} : Rn sc d 157 31 L st σ r ↔ Rn sc d 157 33 L (.int (-5) :: st) σ r := r_bipush d157_31 (by decide)
theorem d157_33 : decode (mC 157) 33 = .ok (.istore 4, 2) := by decide +kernel
theorem x157_33 {sc : aSc} {d : Nat} {r : aRes} {a0 : Value} {a1 : Value} {a2 : Value} {x3 : Int32} {a4 : Value} {a5 : Value} {st : List Value} {σ : aS} {y : Int32} : Rn sc d 157 33 [a0, a1, a2, .int x3, a4, a5] (.int y :: st) σ r ↔ Rn sc d 157 35 [a0, a1, a2, .int x3, .int y, a5] st σ r := r_istore d157_33 (Nat.le_of_ble_eq_true rfl) rfl
theorem d157_35 : decode (mC 157) 35 = .ok (.iconst 0, 1) := by decide +kernel
theorem x157_35 {sc : aSc} {d : Nat} {r : aRes} {L : List Value} {st : List Value} {σ : aS} : Rn sc d 157 35 L st σ r ↔ Rn sc d 157 36 L (.int 0 :: st) σ r := r_iconst d157_35 (by decide)
theorem d157_36 : decode (mC 157) 36 = .ok (.istore 5, 2) := by decide +kernel
theorem x157_36 {sc : aSc} {d : Nat} {r : aRes} {a0 : Value} {a1 : Value} {a2 : Value} {a3 : Value} {x4 : Int32} {a5 : Value} {st : List Value} {σ : aS} {y : Int32} : Rn sc d 157 36 [a0, a1, a2, a3, .int x4, a5] (.int y :: st) σ r ↔ Rn sc d 157 38 [a0, a1, a2, a3, .int x4, .int y] st σ r := r_istore d157_36 (Nat.le_of_ble_eq_true rfl) rfl
theorem d157_38 : decode (mC 157) 38 = .ok (.iload 5, 2) := by decide +kernel
theorem x157_38 {sc : aSc} {d : Nat} {r : aRes} {a0 : Value} {a1 : Value} {a2 : Value} {a3 : Value} {a4 : Value} {x5 : Int32} {st : List Value} {σ : aS} : Rn sc d 157 38 [a0, a1, a2, a3, a4, .int x5] st σ r ↔ Rn sc d 157 40 [a0, a1, a2, a3, a4, .int x5] (.int x5 :: st) σ r := r_iload d157_38 rfl
theorem d157_40 : decode (mC 157) 40 = .ok (.bipush 60, 2) := by decide +kernel
theorem x157_40 {sc : aSc} {d : Nat} {r : aRes} {L : List Value} {st : List Value} {σ : aS} : Rn sc d 157 40 L st σ r ↔ Rn sc d 157 42 L (.int 60 :: st) σ r := r_bipush d157_40 (by decide)
theorem d157_42 : decode (mC 157) 42 = .ok (.if_icmp .ge 40, 3) := by decide +kernel
theorem x157_42 {sc : aSc} {d : Nat} {r : aRes} {L : List Value} {st : List Value} {σ : aS} {x y : Int32} : Rn sc d 157 42 L (.int y :: .int x :: st) σ r ↔ if x < y then Rn sc d 157 45 L st σ r else Rn sc d 157 82 L st σ r := r_icmp_ge d157_42 rfl
theorem d157_45 : decode (mC 157) 45 = .ok (.iload 4, 2) := by decide +kernel
theorem x157_45 {sc : aSc} {d : Nat} {r : aRes} {a0 : Value} {a1 : Value} {a2 : Value} {a3 : Value} {x4 : Int32} {a5 : Value} {st : List Value} {σ : aS} : Rn sc d 157 45 [a0, a1, a2, a3, .int x4, a5] st σ r ↔ Rn sc d 157 47 [a0, a1, a2, a3, .int x4, a5] (.int x4 :: st) σ r := r_iload d157_45 rfl
theorem d157_47 : decode (mC 157) 47 = .ok (.ifCond .ge 35, 3) := by decide +kernel
theorem x157_47 {sc : aSc} {d : Nat} {r : aRes} {L : List Value} {st : List Value} {σ : aS} {x : Int32} : Rn sc d 157 47 L (.int x :: st) σ r ↔ if x < 0 then Rn sc d 157 50 L st σ r else Rn sc d 157 82 L st σ r := r_if_ge d157_47 rfl
theorem d157_50 : decode (mC 157) 50 = .ok (.aload_n 0, 1) := by decide +kernel
theorem x157_50 {sc : aSc} {d : Nat} {r : aRes} {x0 : Nat} {a1 : Value} {a2 : Value} {a3 : Value} {a4 : Value} {a5 : Value} {st : List Value} {σ : aS} : Rn sc d 157 50 [.ref x0, a1, a2, a3, a4, a5] st σ r ↔ Rn sc d 157 51 [.ref x0, a1, a2, a3, a4, a5] (.ref x0 :: st) σ r := r_aload_n d157_50 rfl
theorem d157_51 : decode (mC 157) 51 = .ok (.iload_n 3, 1) := by decide +kernel
theorem x157_51 {sc : aSc} {d : Nat} {r : aRes} {a0 : Value} {a1 : Value} {a2 : Value} {x3 : Int32} {a4 : Value} {a5 : Value} {st : List Value} {σ : aS} : Rn sc d 157 51 [a0, a1, a2, .int x3, a4, a5] st σ r ↔ Rn sc d 157 52 [a0, a1, a2, .int x3, a4, a5] (.int x3 :: st) σ r := r_iload_n d157_51 rfl
theorem d157_52 : decode (mC 157) 52 = .ok (.iload 5, 2) := by decide +kernel
theorem x157_52 {sc : aSc} {d : Nat} {r : aRes} {a0 : Value} {a1 : Value} {a2 : Value} {a3 : Value} {a4 : Value} {x5 : Int32} {st : List Value} {σ : aS} : Rn sc d 157 52 [a0, a1, a2, a3, a4, .int x5] st σ r ↔ Rn sc d 157 54 [a0, a1, a2, a3, a4, .int x5] (.int x5 :: st) σ r := r_iload d157_52 rfl
theorem d157_54 : decode (mC 157) 54 = .ok (.iadd, 1) := by decide +kernel
theorem x157_54 {sc : aSc} {d : Nat} {r : aRes} {L : List Value} {st : List Value} {σ : aS} {x y : Int32} : Rn sc d 157 54 L (.int y :: .int x :: st) σ r ↔ Rn sc d 157 55 L (.int (x + y) :: st) σ r := r_iadd d157_54
theorem d157_55 : decode (mC 157) 55 = .ok (.putfield 16, 3) := by decide +kernel
theorem x157_55 {sc : aSc} {d : Nat} {r : aRes} {L : List Value} {st : List Value} {f : Nat → Nat → Int32} {g : Nat → Nat → Int64} {h1 h2 : Nat} {o : Nat} {v : Int32} (h17 : 17 ≤ o) (hK : KK[o]? = some (.inl 7)) : Rn sc d 157 55 L (.int v :: .ref o :: st) (cS f g h1 h2) r ↔ Rn sc d 157 58 L st (cS (u2 f o 2 v) g h1 h2) r := r_putI d157_55 (ci := 7) (k := 2) rfl (by decide) h17 hK
theorem d157_58 : decode (mC 157) 58 = .ok (.aload_n 0, 1) := by decide +kernel
theorem x157_58 {sc : aSc} {d : Nat} {r : aRes} {x0 : Nat} {a1 : Value} {a2 : Value} {a3 : Value} {a4 : Value} {a5 : Value} {st : List Value} {σ : aS} : Rn sc d 157 58 [.ref x0, a1, a2, a3, a4, a5] st σ r ↔ Rn sc d 157 59 [.ref x0, a1, a2, a3, a4, a5] (.ref x0 :: st) σ r := r_aload_n d157_58 rfl
theorem d157_59 : decode (mC 157) 59 = .ok (.iload_n 1, 1) := by decide +kernel
theorem x157_59 {sc : aSc} {d : Nat} {r : aRes} {a0 : Value} {x1 : Int32} {a2 : Value} {a3 : Value} {a4 : Value} {a5 : Value} {st : List Value} {σ : aS} : Rn sc d 157 59 [a0, .int x1, a2, a3, a4, a5] st σ r ↔ Rn sc d 157 60 [a0, .int x1, a2, a3, a4, a5] (.int x1 :: st) σ r := r_iload_n d157_59 rfl
theorem d157_60 : decode (mC 157) 60 = .ok (.iload_n 2, 1) := by decide +kernel
theorem x157_60 {sc : aSc} {d : Nat} {r : aRes} {a0 : Value} {a1 : Value} {x2 : Int32} {a3 : Value} {a4 : Value} {a5 : Value} {st : List Value} {σ : aS} : Rn sc d 157 60 [a0, a1, .int x2, a3, a4, a5] st σ r ↔ Rn sc d 157 61 [a0, a1, .int x2, a3, a4, a5] (.int x2 :: st) σ r := r_iload_n d157_60 rfl
theorem d157_61 : decode (mC 157) 61 = .ok (.invokevirtual 322, 3) := by decide +kernel
theorem x157_61 {sc : aSc} {d : Nat} {r : aRes} {L : List Value} {f : Nat → Nat → Int32} {g : Nat → Nat → Int64} {h1 h2 : Nat} {y0 : Int32} {y1 : Int32}  {o : Nat} (hK : KK[o]? = some (.inl 7)) : Rn sc d 157 61 L [.int y0, .int y1, .ref o] (cS f g h1 h2) r ↔ ∃ (σ3 : aS) (v : Option Value), Cl sc d 141 [.ref o, .int y1, .int y0] (cS f g h1 h2) (σ3, v) ∧ Rn sc d 157 64 L (v.toList ++ []) σ3 r := r_callV (vs := [.int y0, .int y1]) d157_61 (j := 141) rfl ⟨rfl, by decide, rfl, rfl⟩ (Nat.le_of_ble_eq_true rfl) hK
theorem d157_64 : decode (mC 157) 64 = .ok (.ifCond .eq 8, 3) := by decide +kernel
theorem x157_64 {sc : aSc} {d : Nat} {r : aRes} {L : List Value} {st : List Value} {σ : aS} {x : Int32} : Rn sc d 157 64 L (.int x :: st) σ r ↔ if x = 0 then Rn sc d 157 72 L st σ r else Rn sc d 157 67 L st σ r := r_if_eq d157_64 rfl
theorem d157_67 : decode (mC 157) 67 = .ok (.iload 5, 2) := by decide +kernel
theorem x157_67 {sc : aSc} {d : Nat} {r : aRes} {a0 : Value} {a1 : Value} {a2 : Value} {a3 : Value} {a4 : Value} {x5 : Int32} {st : List Value} {σ : aS} : Rn sc d 157 67 [a0, a1, a2, a3, a4, .int x5] st σ r ↔ Rn sc d 157 69 [a0, a1, a2, a3, a4, .int x5] (.int x5 :: st) σ r := r_iload d157_67 rfl
theorem d157_69 : decode (mC 157) 69 = .ok (.goto 5, 3) := by decide +kernel
theorem x157_69 {sc : aSc} {d : Nat} {r : aRes} {L : List Value} {st : List Value} {σ : aS} : Rn sc d 157 69 L st σ r ↔ Rn sc d 157 74 L st σ r := r_goto d157_69 rfl
theorem d157_72 : decode (mC 157) 72 = .ok (.bipush (-5), 2) := by decide +kernel
theorem x157_72 {sc : aSc} {d : Nat} {r : aRes} {L : List Value} {st : List Value} {σ : aS} : Rn sc d 157 72 L st σ r ↔ Rn sc d 157 74 L (.int (-5) :: st) σ r := r_bipush d157_72 (by decide)
theorem d157_74 : decode (mC 157) 74 = .ok (.istore 4, 2) := by decide +kernel
theorem x157_74 {sc : aSc} {d : Nat} {r : aRes} {a0 : Value} {a1 : Value} {a2 : Value} {x3 : Int32} {a4 : Value} {a5 : Value} {st : List Value} {σ : aS} {y : Int32} : Rn sc d 157 74 [a0, a1, a2, .int x3, a4, a5] (.int y :: st) σ r ↔ Rn sc d 157 76 [a0, a1, a2, .int x3, .int y, a5] st σ r := r_istore d157_74 (Nat.le_of_ble_eq_true rfl) rfl
theorem d157_76 : decode (mC 157) 76 = .ok (.iinc 5 1, 3) := by decide +kernel
theorem x157_76 {sc : aSc} {d : Nat} {r : aRes} {a0 : Value} {a1 : Value} {a2 : Value} {a3 : Value} {x4 : Int32} {x5 : Int32} {st : List Value} {σ : aS} : Rn sc d 157 76 [a0, a1, a2, a3, .int x4, .int x5] st σ r ↔ Rn sc d 157 79 [a0, a1, a2, a3, .int x4, .int (x5 + 1)] st σ r := r_iinc d157_76 (Nat.le_of_ble_eq_true rfl) rfl rfl (by decide)
theorem d157_79 : decode (mC 157) 79 = .ok (.goto (-41), 3) := by decide +kernel
theorem x157_79 {sc : aSc} {d : Nat} {r : aRes} {L : List Value} {st : List Value} {σ : aS} : Rn sc d 157 79 L st σ r ↔ Rn sc d 157 38 L st σ r := r_goto d157_79 rfl
theorem d157_82 : decode (mC 157) 82 = .ok (.aload_n 0, 1) := by decide +kernel
theorem x157_82 {sc : aSc} {d : Nat} {r : aRes} {x0 : Nat} {a1 : Value} {a2 : Value} {a3 : Value} {a4 : Value} {a5 : Value} {st : List Value} {σ : aS} : Rn sc d 157 82 [.ref x0, a1, a2, a3, a4, a5] st σ r ↔ Rn sc d 157 83 [.ref x0, a1, a2, a3, a4, a5] (.ref x0 :: st) σ r := r_aload_n d157_82 rfl
theorem d157_83 : decode (mC 157) 83 = .ok (.iload_n 3, 1) := by decide +kernel
theorem x157_83 {sc : aSc} {d : Nat} {r : aRes} {a0 : Value} {a1 : Value} {a2 : Value} {x3 : Int32} {a4 : Value} {a5 : Value} {st : List Value} {σ : aS} : Rn sc d 157 83 [a0, a1, a2, .int x3, a4, a5] st σ r ↔ Rn sc d 157 84 [a0, a1, a2, .int x3, a4, a5] (.int x3 :: st) σ r := r_iload_n d157_83 rfl
theorem d157_84 : decode (mC 157) 84 = .ok (.putfield 16, 3) := by decide +kernel
theorem x157_84 {sc : aSc} {d : Nat} {r : aRes} {L : List Value} {st : List Value} {f : Nat → Nat → Int32} {g : Nat → Nat → Int64} {h1 h2 : Nat} {o : Nat} {v : Int32} (h17 : 17 ≤ o) (hK : KK[o]? = some (.inl 7)) : Rn sc d 157 84 L (.int v :: .ref o :: st) (cS f g h1 h2) r ↔ Rn sc d 157 87 L st (cS (u2 f o 2 v) g h1 h2) r := r_putI d157_84 (ci := 7) (k := 2) rfl (by decide) h17 hK
theorem d157_87 : decode (mC 157) 87 = .ok (.iload 4, 2) := by decide +kernel
theorem x157_87 {sc : aSc} {d : Nat} {r : aRes} {a0 : Value} {a1 : Value} {a2 : Value} {a3 : Value} {x4 : Int32} {a5 : Value} {st : List Value} {σ : aS} : Rn sc d 157 87 [a0, a1, a2, a3, .int x4, a5] st σ r ↔ Rn sc d 157 89 [a0, a1, a2, a3, .int x4, a5] (.int x4 :: st) σ r := r_iload d157_87 rfl
theorem d157_89 : decode (mC 157) 89 = .ok (.ireturn, 1) := by decide +kernel
theorem x157_89 {sc : aSc} {d : Nat} {r : aRes} {L : List Value} {σ : aS} {x : Int32} : Rn sc d 157 89 L [.int x] σ r ↔ r = (σ, some (.int x)) := r_iret d157_89 rfl rfl
theorem d158_0 : decode (mC 158) 0 = .ok (.aload_n 0, 1) := by decide +kernel
theorem x158_0 {sc : aSc} {d : Nat} {r : aRes} {x0 : Nat} {a1 : Value} {a2 : Value} {a3 : Value} {a4 : Value} {a5 : Value} {st : List Value} {σ : aS} : Rn sc d 158 0 [.ref x0, a1, a2, a3, a4, a5] st σ r ↔ Rn sc d 158 1 [.ref x0, a1, a2, a3, a4, a5] (.ref x0 :: st) σ r := r_aload_n d158_0 rfl
theorem d158_1 : decode (mC 158) 1 = .ok (.iconst 0, 1) := by decide +kernel
theorem x158_1 {sc : aSc} {d : Nat} {r : aRes} {L : List Value} {st : List Value} {σ : aS} : Rn sc d 158 1 L st σ r ↔ Rn sc d 158 2 L (.int 0 :: st) σ r := r_iconst d158_1 (by decide)
theorem d158_2 : decode (mC 158) 2 = .ok (.putfield 114, 3) := by decide +kernel
theorem x158_2 {sc : aSc} {d : Nat} {r : aRes} {L : List Value} {st : List Value} {f : Nat → Nat → Int32} {g : Nat → Nat → Int64} {h1 h2 : Nat} {o : Nat} {v : Int32} (h17 : 17 ≤ o) (hK : KK[o]? = some (.inl 7)) : Rn sc d 158 2 L (.int v :: .ref o :: st) (cS f g h1 h2) r ↔ Rn sc d 158 5 L st (cS (u2 f o 34 v) g h1 h2) r := r_putI d158_2 (ci := 7) (k := 34) (by decide +kernel) (by decide +kernel) h17 hK
theorem d158_5 : decode (mC 158) 5 = .ok (.aload_n 0, 1) := by decide +kernel
theorem x158_5 {sc : aSc} {d : Nat} {r : aRes} {x0 : Nat} {a1 : Value} {a2 : Value} {a3 : Value} {a4 : Value} {a5 : Value} {st : List Value} {σ : aS} : Rn sc d 158 5 [.ref x0, a1, a2, a3, a4, a5] st σ r ↔ Rn sc d 158 6 [.ref x0, a1, a2, a3, a4, a5] (.ref x0 :: st) σ r := r_aload_n d158_5 rfl
theorem d158_6 : decode (mC 158) 6 = .ok (.bipush (-5), 2) := by decide +kernel
theorem x158_6 {sc : aSc} {d : Nat} {r : aRes} {L : List Value} {st : List Value} {σ : aS} : Rn sc d 158 6 L st σ r ↔ Rn sc d 158 8 L (.int (-5) :: st) σ r := r_bipush d158_6 (by decide)
theorem d158_8 : decode (mC 158) 8 = .ok (.putfield 117, 3) := by decide +kernel
theorem x158_8 {sc : aSc} {d : Nat} {r : aRes} {L : List Value} {st : List Value} {f : Nat → Nat → Int32} {g : Nat → Nat → Int64} {h1 h2 : Nat} {o : Nat} {v : Int32} (h17 : 17 ≤ o) (hK : KK[o]? = some (.inl 7)) : Rn sc d 158 8 L (.int v :: .ref o :: st) (cS f g h1 h2) r ↔ Rn sc d 158 11 L st (cS (u2 f o 35 v) g h1 h2) r := r_putI d158_8 (ci := 7) (k := 35) (by decide +kernel) (by decide +kernel) h17 hK
theorem d158_11 : decode (mC 158) 11 = .ok (.aload_n 0, 1) := by decide +kernel
theorem x158_11 {sc : aSc} {d : Nat} {r : aRes} {x0 : Nat} {a1 : Value} {a2 : Value} {a3 : Value} {a4 : Value} {a5 : Value} {st : List Value} {σ : aS} : Rn sc d 158 11 [.ref x0, a1, a2, a3, a4, a5] st σ r ↔ Rn sc d 158 12 [.ref x0, a1, a2, a3, a4, a5] (.ref x0 :: st) σ r := r_aload_n d158_11 rfl
theorem d158_12 : decode (mC 158) 12 = .ok (.iconst 0, 1) := by decide +kernel
theorem x158_12 {sc : aSc} {d : Nat} {r : aRes} {L : List Value} {st : List Value} {σ : aS} : Rn sc d 158 12 L st σ r ↔ Rn sc d 158 13 L (.int 0 :: st) σ r := r_iconst d158_12 (by decide)
theorem d158_13 : decode (mC 158) 13 = .ok (.putfield 120, 3) := by decide +kernel
theorem x158_13 {sc : aSc} {d : Nat} {r : aRes} {L : List Value} {st : List Value} {f : Nat → Nat → Int32} {g : Nat → Nat → Int64} {h1 h2 : Nat} {o : Nat} {v : Int32} (h17 : 17 ≤ o) (hK : KK[o]? = some (.inl 7)) : Rn sc d 158 13 L (.int v :: .ref o :: st) (cS f g h1 h2) r ↔ Rn sc d 158 16 L st (cS (u2 f o 36 v) g h1 h2) r := r_putI d158_13 (ci := 7) (k := 36) (by decide +kernel) (by decide +kernel) h17 hK
theorem d158_16 : decode (mC 158) 16 = .ok (.aload_n 0, 1) := by decide +kernel
theorem x158_16 {sc : aSc} {d : Nat} {r : aRes} {x0 : Nat} {a1 : Value} {a2 : Value} {a3 : Value} {a4 : Value} {a5 : Value} {st : List Value} {σ : aS} : Rn sc d 158 16 [.ref x0, a1, a2, a3, a4, a5] st σ r ↔ Rn sc d 158 17 [.ref x0, a1, a2, a3, a4, a5] (.ref x0 :: st) σ r := r_aload_n d158_16 rfl
theorem d158_17 : decode (mC 158) 17 = .ok (.getfield 16, 3) := by decide +kernel
theorem x158_17 {sc : aSc} {d : Nat} {r : aRes} {L : List Value} {st : List Value} {f : Nat → Nat → Int32} {g : Nat → Nat → Int64} {h1 h2 : Nat} {o : Nat} (h17 : 17 ≤ o) (hK : KK[o]? = some (.inl 7)) : Rn sc d 158 17 L (.ref o :: st) (cS f g h1 h2) r ↔ Rn sc d 158 20 L (.int (f o 2) :: st) (cS f g h1 h2) r := r_getI d158_17 (ci := 7) (k := 2) rfl (by decide) (fun _ => rfl) h17 hK
theorem d158_20 : decode (mC 158) 20 = .ok (.istore_n 3, 1) := by decide +kernel
theorem x158_20 {sc : aSc} {d : Nat} {r : aRes} {a0 : Value} {a1 : Value} {x2 : Int32} {a3 : Value} {a4 : Value} {a5 : Value} {st : List Value} {σ : aS} {y : Int32} : Rn sc d 158 20 [a0, a1, .int x2, a3, a4, a5] (.int y :: st) σ r ↔ Rn sc d 158 21 [a0, a1, .int x2, .int y, a4, a5] st σ r := r_istore_n d158_20 (Nat.le_of_ble_eq_true rfl) rfl
theorem d158_21 : decode (mC 158) 21 = .ok (.aload_n 0, 1) := by decide +kernel
theorem x158_21 {sc : aSc} {d : Nat} {r : aRes} {x0 : Nat} {a1 : Value} {a2 : Value} {a3 : Value} {a4 : Value} {a5 : Value} {st : List Value} {σ : aS} : Rn sc d 158 21 [.ref x0, a1, a2, a3, a4, a5] st σ r ↔ Rn sc d 158 22 [.ref x0, a1, a2, a3, a4, a5] (.ref x0 :: st) σ r := r_aload_n d158_21 rfl
theorem d158_22 : decode (mC 158) 22 = .ok (.getfield 13, 3) := by decide +kernel
theorem x158_22 {sc : aSc} {d : Nat} {r : aRes} {L : List Value} {st : List Value} {f : Nat → Nat → Int32} {g : Nat → Nat → Int64} {h1 h2 : Nat} {o : Nat} (h17 : 17 ≤ o) (hK : KK[o]? = some (.inl 7)) : Rn sc d 158 22 L (.ref o :: st) (cS f g h1 h2) r ↔ Rn sc d 158 25 L (.int (f o 1) :: st) (cS f g h1 h2) r := r_getI d158_22 (ci := 7) (k := 1) rfl (by decide) (fun _ => rfl) h17 hK
theorem d158_25 : decode (mC 158) 25 = .ok (.istore 4, 2) := by decide +kernel
theorem x158_25 {sc : aSc} {d : Nat} {r : aRes} {a0 : Value} {a1 : Value} {a2 : Value} {x3 : Int32} {a4 : Value} {a5 : Value} {st : List Value} {σ : aS} {y : Int32} : Rn sc d 158 25 [a0, a1, a2, .int x3, a4, a5] (.int y :: st) σ r ↔ Rn sc d 158 27 [a0, a1, a2, .int x3, .int y, a5] st σ r := r_istore d158_25 (Nat.le_of_ble_eq_true rfl) rfl
theorem d158_27 : decode (mC 158) 27 = .ok (.iconst 0, 1) := by decide +kernel
theorem x158_27 {sc : aSc} {d : Nat} {r : aRes} {L : List Value} {st : List Value} {σ : aS} : Rn sc d 158 27 L st σ r ↔ Rn sc d 158 28 L (.int 0 :: st) σ r := r_iconst d158_27 (by decide)
theorem d158_28 : decode (mC 158) 28 = .ok (.istore 5, 2) := by decide +kernel
theorem x158_28 {sc : aSc} {d : Nat} {r : aRes} {a0 : Value} {a1 : Value} {a2 : Value} {a3 : Value} {x4 : Int32} {a5 : Value} {st : List Value} {σ : aS} {y : Int32} : Rn sc d 158 28 [a0, a1, a2, a3, .int x4, a5] (.int y :: st) σ r ↔ Rn sc d 158 30 [a0, a1, a2, a3, .int x4, .int y] st σ r := r_istore d158_28 (Nat.le_of_ble_eq_true rfl) rfl
theorem d158_30 : decode (mC 158) 30 = .ok (.aload_n 0, 1) := by decide +kernel
theorem x158_30 {sc : aSc} {d : Nat} {r : aRes} {x0 : Nat} {a1 : Value} {a2 : Value} {a3 : Value} {a4 : Value} {a5 : Value} {st : List Value} {σ : aS} : Rn sc d 158 30 [.ref x0, a1, a2, a3, a4, a5] st σ r ↔ Rn sc d 158 31 [.ref x0, a1, a2, a3, a4, a5] (.ref x0 :: st) σ r := r_aload_n d158_30 rfl
theorem d158_31 : decode (mC 158) 31 = .ok (.getfield 99, 3) := by decide +kernel
theorem x158_31 {sc : aSc} {d : Nat} {r : aRes} {L : List Value} {st : List Value} {f : Nat → Nat → Int32} {g : Nat → Nat → Int64} {h1 h2 : Nat} {o : Nat} (hK : KK[o]? = some (.inl 7)) (hR : (RR h1 h2 o 29).isSome = true) : Rn sc d 158 31 L (.ref o :: st) (cS f g h1 h2) r ↔ Rn sc d 158 34 L (.ref (rf h1 h2 o 29) :: st) (cS f g h1 h2) r := r_getR2 d158_31 (ci := 7) (k := 29) (by decide +kernel) (by decide +kernel) (fun _ => rfl) hK hR
theorem d158_34 : decode (mC 158) 34 = .ok (.iconst 0, 1) := by decide +kernel
theorem x158_34 {sc : aSc} {d : Nat} {r : aRes} {L : List Value} {st : List Value} {σ : aS} : Rn sc d 158 34 L st σ r ↔ Rn sc d 158 35 L (.int 0 :: st) σ r := r_iconst d158_34 (by decide)
theorem d158_35 : decode (mC 158) 35 = .ok (.iconst (-1), 1) := by decide +kernel
theorem x158_35 {sc : aSc} {d : Nat} {r : aRes} {L : List Value} {st : List Value} {σ : aS} : Rn sc d 158 35 L st σ r ↔ Rn sc d 158 36 L (.int (-1) :: st) σ r := r_iconst d158_35 (by decide)
theorem d158_36 : decode (mC 158) 36 = .ok (.iastore, 1) := by decide +kernel
theorem x158_36 {sc : aSc} {d : Nat} {r : aRes} {L : List Value} {st : List Value} {f : Nat → Nat → Int32} {g : Nat → Nat → Int64} {h1 h2 : Nat} {a : Nat} {i : Int32} {x : Int32} (h17 : 17 ≤ a) (hA : isT9 .int a) (hi : inb i (aln a) = true) : Rn sc d 158 36 L (.int x :: .int i :: .ref a :: st) (cS f g h1 h2) r ↔ Rn sc d 158 37 L st (cS (u2 f a i.toNatClampNeg x) g h1 h2) r := r_iast d158_36 h17 hA hi
theorem d158_37 : decode (mC 158) 37 = .ok (.iload_n 1, 1) := by decide +kernel
theorem x158_37 {sc : aSc} {d : Nat} {r : aRes} {a0 : Value} {x1 : Int32} {a2 : Value} {a3 : Value} {a4 : Value} {a5 : Value} {st : List Value} {σ : aS} : Rn sc d 158 37 [a0, .int x1, a2, a3, a4, a5] st σ r ↔ Rn sc d 158 38 [a0, .int x1, a2, a3, a4, a5] (.int x1 :: st) σ r := r_iload_n d158_37 rfl
theorem d158_38 : decode (mC 158) 38 = .ok (.ifCond .ne 39, 3) := by decide +kernel
theorem x158_38 {sc : aSc} {d : Nat} {r : aRes} {L : List Value} {st : List Value} {σ : aS} {x : Int32} : Rn sc d 158 38 L (.int x :: st) σ r ↔ if x = 0 then Rn sc d 158 41 L st σ r else Rn sc d 158 77 L st σ r := r_if_ne d158_38 rfl
theorem d158_41 : decode (mC 158) 41 = .ok (.aload_n 0, 1) := by decide +kernel
theorem x158_41 {sc : aSc} {d : Nat} {r : aRes} {x0 : Nat} {a1 : Value} {a2 : Value} {a3 : Value} {a4 : Value} {a5 : Value} {st : List Value} {σ : aS} : Rn sc d 158 41 [.ref x0, a1, a2, a3, a4, a5] st σ r ↔ Rn sc d 158 42 [.ref x0, a1, a2, a3, a4, a5] (.ref x0 :: st) σ r := r_aload_n d158_41 rfl
theorem d158_42 : decode (mC 158) 42 = .ok (.aload_n 0, 1) := by decide +kernel
theorem x158_42 {sc : aSc} {d : Nat} {r : aRes} {x0 : Nat} {a1 : Value} {a2 : Value} {a3 : Value} {a4 : Value} {a5 : Value} {st : List Value} {σ : aS} : Rn sc d 158 42 [.ref x0, a1, a2, a3, a4, a5] st σ r ↔ Rn sc d 158 43 [.ref x0, a1, a2, a3, a4, a5] (.ref x0 :: st) σ r := r_aload_n d158_42 rfl
theorem d158_43 : decode (mC 158) 43 = .ok (.getfield 13, 3) := by decide +kernel
theorem x158_43 {sc : aSc} {d : Nat} {r : aRes} {L : List Value} {st : List Value} {f : Nat → Nat → Int32} {g : Nat → Nat → Int64} {h1 h2 : Nat} {o : Nat} (h17 : 17 ≤ o) (hK : KK[o]? = some (.inl 7)) : Rn sc d 158 43 L (.ref o :: st) (cS f g h1 h2) r ↔ Rn sc d 158 46 L (.int (f o 1) :: st) (cS f g h1 h2) r := r_getI d158_43 (ci := 7) (k := 1) rfl (by decide) (fun _ => rfl) h17 hK
theorem d158_46 : decode (mC 158) 46 = .ok (.iload_n 2, 1) := by decide +kernel
theorem x158_46 {sc : aSc} {d : Nat} {r : aRes} {a0 : Value} {a1 : Value} {x2 : Int32} {a3 : Value} {a4 : Value} {a5 : Value} {st : List Value} {σ : aS} : Rn sc d 158 46 [a0, a1, .int x2, a3, a4, a5] st σ r ↔ Rn sc d 158 47 [a0, a1, .int x2, a3, a4, a5] (.int x2 :: st) σ r := r_iload_n d158_46 rfl
theorem d158_47 : decode (mC 158) 47 = .ok (.if_icmp .ne 7, 3) := by decide +kernel
theorem x158_47 {sc : aSc} {d : Nat} {r : aRes} {L : List Value} {st : List Value} {σ : aS} {x y : Int32} : Rn sc d 158 47 L (.int y :: .int x :: st) σ r ↔ if x = y then Rn sc d 158 50 L st σ r else Rn sc d 158 54 L st σ r := r_icmp_ne d158_47 rfl
theorem d158_50 : decode (mC 158) 50 = .ok (.iconst 1, 1) := by decide +kernel
theorem x158_50 {sc : aSc} {d : Nat} {r : aRes} {L : List Value} {st : List Value} {σ : aS} : Rn sc d 158 50 L st σ r ↔ Rn sc d 158 51 L (.int 1 :: st) σ r := r_iconst d158_50 (by decide)
theorem d158_51 : decode (mC 158) 51 = .ok (.goto 4, 3) := by decide +kernel
theorem x158_51 {sc : aSc} {d : Nat} {r : aRes} {L : List Value} {st : List Value} {σ : aS} : Rn sc d 158 51 L st σ r ↔ Rn sc d 158 55 L st σ r := r_goto d158_51 rfl
theorem d158_54 : decode (mC 158) 54 = .ok (.iconst 0, 1) := by decide +kernel
theorem x158_54 {sc : aSc} {d : Nat} {r : aRes} {L : List Value} {st : List Value} {σ : aS} : Rn sc d 158 54 L st σ r ↔ Rn sc d 158 55 L (.int 0 :: st) σ r := r_iconst d158_54 (by decide)
theorem d158_55 : decode (mC 158) 55 = .ok (.putfield 114, 3) := by decide +kernel
theorem x158_55 {sc : aSc} {d : Nat} {r : aRes} {L : List Value} {st : List Value} {f : Nat → Nat → Int32} {g : Nat → Nat → Int64} {h1 h2 : Nat} {o : Nat} {v : Int32} (h17 : 17 ≤ o) (hK : KK[o]? = some (.inl 7)) : Rn sc d 158 55 L (.int v :: .ref o :: st) (cS f g h1 h2) r ↔ Rn sc d 158 58 L st (cS (u2 f o 34 v) g h1 h2) r := r_putI d158_55 (ci := 7) (k := 34) (by decide +kernel) (by decide +kernel) h17 hK
theorem d158_58 : decode (mC 158) 58 = .ok (.aload_n 0, 1) := by decide +kernel
theorem x158_58 {sc : aSc} {d : Nat} {r : aRes} {x0 : Nat} {a1 : Value} {a2 : Value} {a3 : Value} {a4 : Value} {a5 : Value} {st : List Value} {σ : aS} : Rn sc d 158 58 [.ref x0, a1, a2, a3, a4, a5] st σ r ↔ Rn sc d 158 59 [.ref x0, a1, a2, a3, a4, a5] (.ref x0 :: st) σ r := r_aload_n d158_58 rfl
theorem d158_59 : decode (mC 158) 59 = .ok (.aload_n 0, 1) := by decide +kernel
theorem x158_59 {sc : aSc} {d : Nat} {r : aRes} {x0 : Nat} {a1 : Value} {a2 : Value} {a3 : Value} {a4 : Value} {a5 : Value} {st : List Value} {σ : aS} : Rn sc d 158 59 [.ref x0, a1, a2, a3, a4, a5] st σ r ↔ Rn sc d 158 60 [.ref x0, a1, a2, a3, a4, a5] (.ref x0 :: st) σ r := r_aload_n d158_59 rfl
theorem d158_60 : decode (mC 158) 60 = .ok (.getfield 13, 3) := by decide +kernel
theorem x158_60 {sc : aSc} {d : Nat} {r : aRes} {L : List Value} {st : List Value} {f : Nat → Nat → Int32} {g : Nat → Nat → Int64} {h1 h2 : Nat} {o : Nat} (h17 : 17 ≤ o) (hK : KK[o]? = some (.inl 7)) : Rn sc d 158 60 L (.ref o :: st) (cS f g h1 h2) r ↔ Rn sc d 158 63 L (.int (f o 1) :: st) (cS f g h1 h2) r := r_getI d158_60 (ci := 7) (k := 1) rfl (by decide) (fun _ => rfl) h17 hK
theorem d158_63 : decode (mC 158) 63 = .ok (.iload_n 2, 1) := by decide +kernel
theorem x158_63 {sc : aSc} {d : Nat} {r : aRes} {a0 : Value} {a1 : Value} {x2 : Int32} {a3 : Value} {a4 : Value} {a5 : Value} {st : List Value} {σ : aS} : Rn sc d 158 63 [a0, a1, .int x2, a3, a4, a5] st σ r ↔ Rn sc d 158 64 [a0, a1, .int x2, a3, a4, a5] (.int x2 :: st) σ r := r_iload_n d158_63 rfl
theorem d158_64 : decode (mC 158) 64 = .ok (.if_icmp .ne 8, 3) := by decide +kernel
theorem x158_64 {sc : aSc} {d : Nat} {r : aRes} {L : List Value} {st : List Value} {σ : aS} {x y : Int32} : Rn sc d 158 64 L (.int y :: .int x :: st) σ r ↔ if x = y then Rn sc d 158 67 L st σ r else Rn sc d 158 72 L st σ r := r_icmp_ne d158_64 rfl
theorem d158_67 : decode (mC 158) 67 = .ok (.bipush 99, 2) := by decide +kernel
theorem x158_67 {sc : aSc} {d : Nat} {r : aRes} {L : List Value} {st : List Value} {σ : aS} : Rn sc d 158 67 L st σ r ↔ Rn sc d 158 69 L (.int 99 :: st) σ r := r_bipush d158_67 (by decide)
theorem d158_69 : decode (mC 158) 69 = .ok (.goto 5, 3) := by decide +kernel
theorem x158_69 {sc : aSc} {d : Nat} {r : aRes} {L : List Value} {st : List Value} {σ : aS} : Rn sc d 158 69 L st σ r ↔ Rn sc d 158 74 L st σ r := r_goto d158_69 rfl
theorem d158_72 : decode (mC 158) 72 = .ok (.bipush (-5), 2) := by decide +kernel
theorem x158_72 {sc : aSc} {d : Nat} {r : aRes} {L : List Value} {st : List Value} {σ : aS} : Rn sc d 158 72 L st σ r ↔ Rn sc d 158 74 L (.int (-5) :: st) σ r := r_bipush d158_72 (by decide)
theorem d158_74 : decode (mC 158) 74 = .ok (.putfield 117, 3) := by decide +kernel
theorem x158_74 {sc : aSc} {d : Nat} {r : aRes} {L : List Value} {st : List Value} {f : Nat → Nat → Int32} {g : Nat → Nat → Int64} {h1 h2 : Nat} {o : Nat} {v : Int32} (h17 : 17 ≤ o) (hK : KK[o]? = some (.inl 7)) : Rn sc d 158 74 L (.int v :: .ref o :: st) (cS f g h1 h2) r ↔ Rn sc d 158 77 L st (cS (u2 f o 35 v) g h1 h2) r := r_putI d158_74 (ci := 7) (k := 35) (by decide +kernel) (by decide +kernel) h17 hK
theorem d158_77 : decode (mC 158) 77 = .ok (.iload_n 1, 1) := by decide +kernel
theorem x158_77 {sc : aSc} {d : Nat} {r : aRes} {a0 : Value} {x1 : Int32} {a2 : Value} {a3 : Value} {a4 : Value} {a5 : Value} {st : List Value} {σ : aS} : Rn sc d 158 77 [a0, .int x1, a2, a3, a4, a5] st σ r ↔ Rn sc d 158 78 [a0, .int x1, a2, a3, a4, a5] (.int x1 :: st) σ r := r_iload_n d158_77 rfl
theorem d158_78 : decode (mC 158) 78 = .ok (.ifCond .le 174, 3) := by decide +kernel
theorem x158_78 {sc : aSc} {d : Nat} {r : aRes} {L : List Value} {st : List Value} {σ : aS} {x : Int32} : Rn sc d 158 78 L (.int x :: st) σ r ↔ if 0 < x then Rn sc d 158 81 L st σ r else Rn sc d 158 252 L st σ r := r_if_le d158_78 rfl
theorem d158_81 : decode (mC 158) 81 = .ok (.iload 5, 2) := by decide +kernel
theorem x158_81 {sc : aSc} {d : Nat} {r : aRes} {a0 : Value} {a1 : Value} {a2 : Value} {a3 : Value} {a4 : Value} {x5 : Int32} {st : List Value} {σ : aS} : Rn sc d 158 81 [a0, a1, a2, a3, a4, .int x5] st σ r ↔ Rn sc d 158 83 [a0, a1, a2, a3, a4, .int x5] (.int x5 :: st) σ r := r_iload d158_81 rfl
theorem d158_83 : decode (mC 158) 83 = .ok (.ifCond .lt 169, 3) := by decide +kernel
theorem x158_83 {sc : aSc} {d : Nat} {r : aRes} {L : List Value} {st : List Value} {σ : aS} {x : Int32} : Rn sc d 158 83 L (.int x :: st) σ r ↔ if x < 0 then Rn sc d 158 252 L st σ r else Rn sc d 158 86 L st σ r := r_if_lt d158_83 rfl
theorem d158_86 : decode (mC 158) 86 = .ok (.aload_n 0, 1) := by decide +kernel
theorem x158_86 {sc : aSc} {d : Nat} {r : aRes} {x0 : Nat} {a1 : Value} {a2 : Value} {a3 : Value} {a4 : Value} {a5 : Value} {st : List Value} {σ : aS} : Rn sc d 158 86 [.ref x0, a1, a2, a3, a4, a5] st σ r ↔ Rn sc d 158 87 [.ref x0, a1, a2, a3, a4, a5] (.ref x0 :: st) σ r := r_aload_n d158_86 rfl
theorem d158_87 : decode (mC 158) 87 = .ok (.iload_n 3, 1) := by decide +kernel
theorem x158_87 {sc : aSc} {d : Nat} {r : aRes} {a0 : Value} {a1 : Value} {a2 : Value} {x3 : Int32} {a4 : Value} {a5 : Value} {st : List Value} {σ : aS} : Rn sc d 158 87 [a0, a1, a2, .int x3, a4, a5] st σ r ↔ Rn sc d 158 88 [a0, a1, a2, .int x3, a4, a5] (.int x3 :: st) σ r := r_iload_n d158_87 rfl
theorem d158_88 : decode (mC 158) 88 = .ok (.iload 5, 2) := by decide +kernel
theorem x158_88 {sc : aSc} {d : Nat} {r : aRes} {a0 : Value} {a1 : Value} {a2 : Value} {a3 : Value} {a4 : Value} {x5 : Int32} {st : List Value} {σ : aS} : Rn sc d 158 88 [a0, a1, a2, a3, a4, .int x5] st σ r ↔ Rn sc d 158 90 [a0, a1, a2, a3, a4, .int x5] (.int x5 :: st) σ r := r_iload d158_88 rfl
theorem d158_90 : decode (mC 158) 90 = .ok (.iadd, 1) := by decide +kernel
theorem x158_90 {sc : aSc} {d : Nat} {r : aRes} {L : List Value} {st : List Value} {σ : aS} {x y : Int32} : Rn sc d 158 90 L (.int y :: .int x :: st) σ r ↔ Rn sc d 158 91 L (.int (x + y) :: st) σ r := r_iadd d158_90
theorem d158_91 : decode (mC 158) 91 = .ok (.putfield 16, 3) := by decide +kernel
theorem x158_91 {sc : aSc} {d : Nat} {r : aRes} {L : List Value} {st : List Value} {f : Nat → Nat → Int32} {g : Nat → Nat → Int64} {h1 h2 : Nat} {o : Nat} {v : Int32} (h17 : 17 ≤ o) (hK : KK[o]? = some (.inl 7)) : Rn sc d 158 91 L (.int v :: .ref o :: st) (cS f g h1 h2) r ↔ Rn sc d 158 94 L st (cS (u2 f o 2 v) g h1 h2) r := r_putI d158_91 (ci := 7) (k := 2) rfl (by decide) h17 hK
theorem d158_94 : decode (mC 158) 94 = .ok (.aload_n 0, 1) := by decide +kernel
theorem x158_94 {sc : aSc} {d : Nat} {r : aRes} {x0 : Nat} {a1 : Value} {a2 : Value} {a3 : Value} {a4 : Value} {a5 : Value} {st : List Value} {σ : aS} : Rn sc d 158 94 [.ref x0, a1, a2, a3, a4, a5] st σ r ↔ Rn sc d 158 95 [.ref x0, a1, a2, a3, a4, a5] (.ref x0 :: st) σ r := r_aload_n d158_94 rfl
theorem d158_95 : decode (mC 158) 95 = .ok (.iload 5, 2) := by decide +kernel
theorem x158_95 {sc : aSc} {d : Nat} {r : aRes} {a0 : Value} {a1 : Value} {a2 : Value} {a3 : Value} {a4 : Value} {x5 : Int32} {st : List Value} {σ : aS} : Rn sc d 158 95 [a0, a1, a2, a3, a4, .int x5] st σ r ↔ Rn sc d 158 97 [a0, a1, a2, a3, a4, .int x5] (.int x5 :: st) σ r := r_iload d158_95 rfl
theorem d158_97 : decode (mC 158) 97 = .ok (.invokevirtual 335, 3) := by decide +kernel
theorem x158_97 {sc : aSc} {d : Nat} {r : aRes} {L : List Value} {f : Nat → Nat → Int32} {g : Nat → Nat → Int64} {h1 h2 : Nat} {y0 : Int32}  {o : Nat} (hK : KK[o]? = some (.inl 7)) : Rn sc d 158 97 L [.int y0, .ref o] (cS f g h1 h2) r ↔ ∃ (σ3 : aS) (v : Option Value), Cl sc d 153 [.ref o, .int y0] (cS f g h1 h2) (σ3, v) ∧ Rn sc d 158 100 L (v.toList ++ []) σ3 r := r_callV (vs := [.int y0]) d158_97 (j := 153) (by decide +kernel) ⟨rfl, by decide, rfl, rfl⟩ (Nat.le_of_ble_eq_true rfl) hK
theorem d158_100 : decode (mC 158) 100 = .ok (.aload_n 0, 1) := by decide +kernel
theorem x158_100 {sc : aSc} {d : Nat} {r : aRes} {x0 : Nat} {a1 : Value} {a2 : Value} {a3 : Value} {a4 : Value} {a5 : Value} {st : List Value} {σ : aS} : Rn sc d 158 100 [.ref x0, a1, a2, a3, a4, a5] st σ r ↔ Rn sc d 158 101 [.ref x0, a1, a2, a3, a4, a5] (.ref x0 :: st) σ r := r_aload_n d158_100 rfl
theorem d158_101 : decode (mC 158) 101 = .ok (.getfield 99, 3) := by decide +kernel
theorem x158_101 {sc : aSc} {d : Nat} {r : aRes} {L : List Value} {st : List Value} {f : Nat → Nat → Int32} {g : Nat → Nat → Int64} {h1 h2 : Nat} {o : Nat} (hK : KK[o]? = some (.inl 7)) (hR : (RR h1 h2 o 29).isSome = true) : Rn sc d 158 101 L (.ref o :: st) (cS f g h1 h2) r ↔ Rn sc d 158 104 L (.ref (rf h1 h2 o 29) :: st) (cS f g h1 h2) r := r_getR2 d158_101 (ci := 7) (k := 29) (by decide +kernel) (by decide +kernel) (fun _ => rfl) hK hR
theorem d158_104 : decode (mC 158) 104 = .ok (.iload 5, 2) := by decide +kernel
theorem x158_104 {sc : aSc} {d : Nat} {r : aRes} {a0 : Value} {a1 : Value} {a2 : Value} {a3 : Value} {a4 : Value} {x5 : Int32} {st : List Value} {σ : aS} : Rn sc d 158 104 [a0, a1, a2, a3, a4, .int x5] st σ r ↔ Rn sc d 158 106 [a0, a1, a2, a3, a4, .int x5] (.int x5 :: st) σ r := r_iload d158_104 rfl
theorem d158_106 : decode (mC 158) 106 = .ok (.aload_n 0, 1) := by decide +kernel
theorem x158_106 {sc : aSc} {d : Nat} {r : aRes} {x0 : Nat} {a1 : Value} {a2 : Value} {a3 : Value} {a4 : Value} {a5 : Value} {st : List Value} {σ : aS} : Rn sc d 158 106 [.ref x0, a1, a2, a3, a4, a5] st σ r ↔ Rn sc d 158 107 [.ref x0, a1, a2, a3, a4, a5] (.ref x0 :: st) σ r := r_aload_n d158_106 rfl
theorem d158_107 : decode (mC 158) 107 = .ok (.aload_n 0, 1) := by decide +kernel
theorem x158_107 {sc : aSc} {d : Nat} {r : aRes} {x0 : Nat} {a1 : Value} {a2 : Value} {a3 : Value} {a4 : Value} {a5 : Value} {st : List Value} {σ : aS} : Rn sc d 158 107 [.ref x0, a1, a2, a3, a4, a5] st σ r ↔ Rn sc d 158 108 [.ref x0, a1, a2, a3, a4, a5] (.ref x0 :: st) σ r := r_aload_n d158_107 rfl
theorem d158_108 : decode (mC 158) 108 = .ok (.getfield 99, 3) := by decide +kernel
theorem x158_108 {sc : aSc} {d : Nat} {r : aRes} {L : List Value} {st : List Value} {f : Nat → Nat → Int32} {g : Nat → Nat → Int64} {h1 h2 : Nat} {o : Nat} (hK : KK[o]? = some (.inl 7)) (hR : (RR h1 h2 o 29).isSome = true) : Rn sc d 158 108 L (.ref o :: st) (cS f g h1 h2) r ↔ Rn sc d 158 111 L (.ref (rf h1 h2 o 29) :: st) (cS f g h1 h2) r := r_getR2 d158_108 (ci := 7) (k := 29) (by decide +kernel) (by decide +kernel) (fun _ => rfl) hK hR
theorem d158_111 : decode (mC 158) 111 = .ok (.iload 5, 2) := by decide +kernel
theorem x158_111 {sc : aSc} {d : Nat} {r : aRes} {a0 : Value} {a1 : Value} {a2 : Value} {a3 : Value} {a4 : Value} {x5 : Int32} {st : List Value} {σ : aS} : Rn sc d 158 111 [a0, a1, a2, a3, a4, .int x5] st σ r ↔ Rn sc d 158 113 [a0, a1, a2, a3, a4, .int x5] (.int x5 :: st) σ r := r_iload d158_111 rfl
theorem d158_113 : decode (mC 158) 113 = .ok (.iaload, 1) := by decide +kernel
theorem x158_113 {sc : aSc} {d : Nat} {r : aRes} {L : List Value} {st : List Value} {f : Nat → Nat → Int32} {g : Nat → Nat → Int64} {h1 h2 : Nat} {a : Nat} {i : Int32} (h17 : 17 ≤ a) (hA : isT9 .int a) (hi : inb i (aln a) = true) : Rn sc d 158 113 L (.int i :: .ref a :: st) (cS f g h1 h2) r ↔ Rn sc d 158 114 L (.int (f a i.toNatClampNeg) :: st) (cS f g h1 h2) r := r_iald d158_113 h17 hA hi
theorem d158_114 : decode (mC 158) 114 = .ok (.invokevirtual 338, 3) := by decide +kernel
theorem x158_114 {sc : aSc} {d : Nat} {r : aRes} {L : List Value} {f : Nat → Nat → Int32} {g : Nat → Nat → Int64} {h1 h2 : Nat} {y0 : Int32} {z0 : Int32} {z1 : Nat} {o : Nat} (hK : KK[o]? = some (.inl 7)) : Rn sc d 158 114 L [.int y0, .ref o, .int z0, .ref z1] (cS f g h1 h2) r ↔ ∃ (σ3 : aS) (v : Option Value), Cl sc d 151 [.ref o, .int y0] (cS f g h1 h2) (σ3, v) ∧ Rn sc d 158 117 L (v.toList ++ [.int z0, .ref z1]) σ3 r := r_callV (vs := [.int y0]) d158_114 (j := 151) (by decide +kernel) ⟨rfl, by decide, rfl, rfl⟩ (Nat.le_of_ble_eq_true rfl) hK
theorem d158_117 : decode (mC 158) 117 = .ok (.iastore, 1) := by decide +kernel
theorem x158_117 {sc : aSc} {d : Nat} {r : aRes} {L : List Value} {st : List Value} {f : Nat → Nat → Int32} {g : Nat → Nat → Int64} {h1 h2 : Nat} {a : Nat} {i : Int32} {x : Int32} (h17 : 17 ≤ a) (hA : isT9 .int a) (hi : inb i (aln a) = true) : Rn sc d 158 117 L (.int x :: .int i :: .ref a :: st) (cS f g h1 h2) r ↔ Rn sc d 158 118 L st (cS (u2 f a i.toNatClampNeg x) g h1 h2) r := r_iast d158_117 h17 hA hi
theorem d158_118 : decode (mC 158) 118 = .ok (.aload_n 0, 1) := by decide +kernel
theorem x158_118 {sc : aSc} {d : Nat} {r : aRes} {x0 : Nat} {a1 : Value} {a2 : Value} {a3 : Value} {a4 : Value} {a5 : Value} {st : List Value} {σ : aS} : Rn sc d 158 118 [.ref x0, a1, a2, a3, a4, a5] st σ r ↔ Rn sc d 158 119 [.ref x0, a1, a2, a3, a4, a5] (.ref x0 :: st) σ r := r_aload_n d158_118 rfl
theorem d158_119 : decode (mC 158) 119 = .ok (.getfield 99, 3) := by decide +kernel
theorem x158_119 {sc : aSc} {d : Nat} {r : aRes} {L : List Value} {st : List Value} {f : Nat → Nat → Int32} {g : Nat → Nat → Int64} {h1 h2 : Nat} {o : Nat} (hK : KK[o]? = some (.inl 7)) (hR : (RR h1 h2 o 29).isSome = true) : Rn sc d 158 119 L (.ref o :: st) (cS f g h1 h2) r ↔ Rn sc d 158 122 L (.ref (rf h1 h2 o 29) :: st) (cS f g h1 h2) r := r_getR2 d158_119 (ci := 7) (k := 29) (by decide +kernel) (by decide +kernel) (fun _ => rfl) hK hR
theorem d158_122 : decode (mC 158) 122 = .ok (.iload 5, 2) := by decide +kernel
theorem x158_122 {sc : aSc} {d : Nat} {r : aRes} {a0 : Value} {a1 : Value} {a2 : Value} {a3 : Value} {a4 : Value} {x5 : Int32} {st : List Value} {σ : aS} : Rn sc d 158 122 [a0, a1, a2, a3, a4, .int x5] st σ r ↔ Rn sc d 158 124 [a0, a1, a2, a3, a4, .int x5] (.int x5 :: st) σ r := r_iload d158_122 rfl
theorem d158_124 : decode (mC 158) 124 = .ok (.iaload, 1) := by decide +kernel
theorem x158_124 {sc : aSc} {d : Nat} {r : aRes} {L : List Value} {st : List Value} {f : Nat → Nat → Int32} {g : Nat → Nat → Int64} {h1 h2 : Nat} {a : Nat} {i : Int32} (h17 : 17 ≤ a) (hA : isT9 .int a) (hi : inb i (aln a) = true) : Rn sc d 158 124 L (.int i :: .ref a :: st) (cS f g h1 h2) r ↔ Rn sc d 158 125 L (.int (f a i.toNatClampNeg) :: st) (cS f g h1 h2) r := r_iald d158_124 h17 hA hi
theorem d158_125 : decode (mC 158) 125 = .ok (.bipush 98, 2) := by decide +kernel
theorem x158_125 {sc : aSc} {d : Nat} {r : aRes} {L : List Value} {st : List Value} {σ : aS} : Rn sc d 158 125 L st σ r ↔ Rn sc d 158 127 L (.int 98 :: st) σ r := r_bipush d158_125 (by decide)
theorem d158_127 : decode (mC 158) 127 = .ok (.if_icmp .le 18, 3) := by decide +kernel
theorem x158_127 {sc : aSc} {d : Nat} {r : aRes} {L : List Value} {st : List Value} {σ : aS} {x y : Int32} : Rn sc d 158 127 L (.int y :: .int x :: st) σ r ↔ if y < x then Rn sc d 158 130 L st σ r else Rn sc d 158 145 L st σ r := r_icmp_le d158_127 rfl
theorem d158_130 : decode (mC 158) 130 = .ok (.aload_n 0, 1) := by decide +kernel
theorem x158_130 {sc : aSc} {d : Nat} {r : aRes} {x0 : Nat} {a1 : Value} {a2 : Value} {a3 : Value} {a4 : Value} {a5 : Value} {st : List Value} {σ : aS} : Rn sc d 158 130 [.ref x0, a1, a2, a3, a4, a5] st σ r ↔ Rn sc d 158 131 [.ref x0, a1, a2, a3, a4, a5] (.ref x0 :: st) σ r := r_aload_n d158_130 rfl
theorem d158_131 : decode (mC 158) 131 = .ok (.getfield 99, 3) := by decide +kernel
theorem x158_131 {sc : aSc} {d : Nat} {r : aRes} {L : List Value} {st : List Value} {f : Nat → Nat → Int32} {g : Nat → Nat → Int64} {h1 h2 : Nat} {o : Nat} (hK : KK[o]? = some (.inl 7)) (hR : (RR h1 h2 o 29).isSome = true) : Rn sc d 158 131 L (.ref o :: st) (cS f g h1 h2) r ↔ Rn sc d 158 134 L (.ref (rf h1 h2 o 29) :: st) (cS f g h1 h2) r := r_getR2 d158_131 (ci := 7) (k := 29) (by decide +kernel) (by decide +kernel) (fun _ => rfl) hK hR
theorem d158_134 : decode (mC 158) 134 = .ok (.iload 5, 2) := by decide +kernel
theorem x158_134 {sc : aSc} {d : Nat} {r : aRes} {a0 : Value} {a1 : Value} {a2 : Value} {a3 : Value} {a4 : Value} {x5 : Int32} {st : List Value} {σ : aS} : Rn sc d 158 134 [a0, a1, a2, a3, a4, .int x5] st σ r ↔ Rn sc d 158 136 [a0, a1, a2, a3, a4, .int x5] (.int x5 :: st) σ r := r_iload d158_134 rfl
theorem d158_136 : decode (mC 158) 136 = .ok (.bipush 99, 2) := by decide +kernel
theorem x158_136 {sc : aSc} {d : Nat} {r : aRes} {L : List Value} {st : List Value} {σ : aS} : Rn sc d 158 136 L st σ r ↔ Rn sc d 158 138 L (.int 99 :: st) σ r := r_bipush d158_136 (by decide)
theorem d158_138 : decode (mC 158) 138 = .ok (.iastore, 1) := by decide +kernel
theorem x158_138 {sc : aSc} {d : Nat} {r : aRes} {L : List Value} {st : List Value} {f : Nat → Nat → Int32} {g : Nat → Nat → Int64} {h1 h2 : Nat} {a : Nat} {i : Int32} {x : Int32} (h17 : 17 ≤ a) (hA : isT9 .int a) (hi : inb i (aln a) = true) : Rn sc d 158 138 L (.int x :: .int i :: .ref a :: st) (cS f g h1 h2) r ↔ Rn sc d 158 139 L st (cS (u2 f a i.toNatClampNeg x) g h1 h2) r := r_iast d158_138 h17 hA hi
theorem d158_139 : decode (mC 158) 139 = .ok (.iinc 5 (-1), 3) := by decide +kernel
theorem x158_139 {sc : aSc} {d : Nat} {r : aRes} {a0 : Value} {a1 : Value} {a2 : Value} {a3 : Value} {x4 : Int32} {x5 : Int32} {st : List Value} {σ : aS} : Rn sc d 158 139 [a0, a1, a2, a3, .int x4, .int x5] st σ r ↔ Rn sc d 158 142 [a0, a1, a2, a3, .int x4, .int (x5 + (-1))] st σ r := r_iinc d158_139 (Nat.le_of_ble_eq_true rfl) rfl rfl (by decide)
theorem d158_142 : decode (mC 158) 142 = .ok (.goto (-65), 3) := by decide +kernel
theorem x158_142 {sc : aSc} {d : Nat} {r : aRes} {L : List Value} {st : List Value} {σ : aS} : Rn sc d 158 142 L st σ r ↔ Rn sc d 158 77 L st σ r := r_goto d158_142 rfl
theorem d158_145 : decode (mC 158) 145 = .ok (.aload_n 0, 1) := by decide +kernel
theorem x158_145 {sc : aSc} {d : Nat} {r : aRes} {x0 : Nat} {a1 : Value} {a2 : Value} {a3 : Value} {a4 : Value} {a5 : Value} {st : List Value} {σ : aS} : Rn sc d 158 145 [.ref x0, a1, a2, a3, a4, a5] st σ r ↔ Rn sc d 158 146 [.ref x0, a1, a2, a3, a4, a5] (.ref x0 :: st) σ r := r_aload_n d158_145 rfl
theorem d158_146 : decode (mC 158) 146 = .ok (.aload_n 0, 1) := by decide +kernel
theorem x158_146 {sc : aSc} {d : Nat} {r : aRes} {x0 : Nat} {a1 : Value} {a2 : Value} {a3 : Value} {a4 : Value} {a5 : Value} {st : List Value} {σ : aS} : Rn sc d 158 146 [.ref x0, a1, a2, a3, a4, a5] st σ r ↔ Rn sc d 158 147 [.ref x0, a1, a2, a3, a4, a5] (.ref x0 :: st) σ r := r_aload_n d158_146 rfl
theorem d158_147 : decode (mC 158) 147 = .ok (.getfield 99, 3) := by decide +kernel
theorem x158_147 {sc : aSc} {d : Nat} {r : aRes} {L : List Value} {st : List Value} {f : Nat → Nat → Int32} {g : Nat → Nat → Int64} {h1 h2 : Nat} {o : Nat} (hK : KK[o]? = some (.inl 7)) (hR : (RR h1 h2 o 29).isSome = true) : Rn sc d 158 147 L (.ref o :: st) (cS f g h1 h2) r ↔ Rn sc d 158 150 L (.ref (rf h1 h2 o 29) :: st) (cS f g h1 h2) r := r_getR2 d158_147 (ci := 7) (k := 29) (by decide +kernel) (by decide +kernel) (fun _ => rfl) hK hR
theorem d158_150 : decode (mC 158) 150 = .ok (.iload 5, 2) := by decide +kernel
theorem x158_150 {sc : aSc} {d : Nat} {r : aRes} {a0 : Value} {a1 : Value} {a2 : Value} {a3 : Value} {a4 : Value} {x5 : Int32} {st : List Value} {σ : aS} : Rn sc d 158 150 [a0, a1, a2, a3, a4, .int x5] st σ r ↔ Rn sc d 158 152 [a0, a1, a2, a3, a4, .int x5] (.int x5 :: st) σ r := r_iload d158_150 rfl
theorem d158_152 : decode (mC 158) 152 = .ok (.iaload, 1) := by decide +kernel
theorem x158_152 {sc : aSc} {d : Nat} {r : aRes} {L : List Value} {st : List Value} {f : Nat → Nat → Int32} {g : Nat → Nat → Int64} {h1 h2 : Nat} {a : Nat} {i : Int32} (h17 : 17 ≤ a) (hA : isT9 .int a) (hi : inb i (aln a) = true) : Rn sc d 158 152 L (.int i :: .ref a :: st) (cS f g h1 h2) r ↔ Rn sc d 158 153 L (.int (f a i.toNatClampNeg) :: st) (cS f g h1 h2) r := r_iald d158_152 h17 hA hi
theorem d158_153 : decode (mC 158) 153 = .ok (.bipush 10, 2) := by decide +kernel
theorem x158_153 {sc : aSc} {d : Nat} {r : aRes} {L : List Value} {st : List Value} {σ : aS} : Rn sc d 158 153 L st σ r ↔ Rn sc d 158 155 L (.int 10 :: st) σ r := r_bipush d158_153 (by decide)
theorem d158_155 : decode (mC 158) 155 = .ok (.idiv, 1) := by decide +kernel
theorem x158_155 {sc : aSc} {d : Nat} {r : aRes} {L : List Value} {st : List Value} {σ : aS} {x y : Int32} (hy : ¬ y = 0) : Rn sc d 158 155 L (.int y :: .int x :: st) σ r ↔ Rn sc d 158 156 L (.int (x / y) :: st) σ r := r_idiv d158_155 hy
theorem d158_156 : decode (mC 158) 156 = .ok (.aload_n 0, 1) := by decide +kernel
theorem x158_156 {sc : aSc} {d : Nat} {r : aRes} {x0 : Nat} {a1 : Value} {a2 : Value} {a3 : Value} {a4 : Value} {a5 : Value} {st : List Value} {σ : aS} : Rn sc d 158 156 [.ref x0, a1, a2, a3, a4, a5] st σ r ↔ Rn sc d 158 157 [.ref x0, a1, a2, a3, a4, a5] (.ref x0 :: st) σ r := r_aload_n d158_156 rfl
theorem d158_157 : decode (mC 158) 157 = .ok (.getfield 99, 3) := by decide +kernel
theorem x158_157 {sc : aSc} {d : Nat} {r : aRes} {L : List Value} {st : List Value} {f : Nat → Nat → Int32} {g : Nat → Nat → Int64} {h1 h2 : Nat} {o : Nat} (hK : KK[o]? = some (.inl 7)) (hR : (RR h1 h2 o 29).isSome = true) : Rn sc d 158 157 L (.ref o :: st) (cS f g h1 h2) r ↔ Rn sc d 158 160 L (.ref (rf h1 h2 o 29) :: st) (cS f g h1 h2) r := r_getR2 d158_157 (ci := 7) (k := 29) (by decide +kernel) (by decide +kernel) (fun _ => rfl) hK hR
theorem d158_160 : decode (mC 158) 160 = .ok (.iload 5, 2) := by decide +kernel
theorem x158_160 {sc : aSc} {d : Nat} {r : aRes} {a0 : Value} {a1 : Value} {a2 : Value} {a3 : Value} {a4 : Value} {x5 : Int32} {st : List Value} {σ : aS} : Rn sc d 158 160 [a0, a1, a2, a3, a4, .int x5] st σ r ↔ Rn sc d 158 162 [a0, a1, a2, a3, a4, .int x5] (.int x5 :: st) σ r := r_iload d158_160 rfl
theorem d158_162 : decode (mC 158) 162 = .ok (.iaload, 1) := by decide +kernel
theorem x158_162 {sc : aSc} {d : Nat} {r : aRes} {L : List Value} {st : List Value} {f : Nat → Nat → Int32} {g : Nat → Nat → Int64} {h1 h2 : Nat} {a : Nat} {i : Int32} (h17 : 17 ≤ a) (hA : isT9 .int a) (hi : inb i (aln a) = true) : Rn sc d 158 162 L (.int i :: .ref a :: st) (cS f g h1 h2) r ↔ Rn sc d 158 163 L (.int (f a i.toNatClampNeg) :: st) (cS f g h1 h2) r := r_iald d158_162 h17 hA hi
theorem d158_163 : decode (mC 158) 163 = .ok (.bipush 10, 2) := by decide +kernel
theorem x158_163 {sc : aSc} {d : Nat} {r : aRes} {L : List Value} {st : List Value} {σ : aS} : Rn sc d 158 163 L st σ r ↔ Rn sc d 158 165 L (.int 10 :: st) σ r := r_bipush d158_163 (by decide)
theorem d158_165 : decode (mC 158) 165 = .ok (.irem, 1) := by decide +kernel
theorem x158_165 {sc : aSc} {d : Nat} {r : aRes} {L : List Value} {st : List Value} {σ : aS} {x y : Int32} (hy : ¬ y = 0) : Rn sc d 158 165 L (.int y :: .int x :: st) σ r ↔ Rn sc d 158 166 L (.int (x % y) :: st) σ r := r_irem d158_165 hy
theorem d158_166 : decode (mC 158) 166 = .ok (.invokevirtual 328, 3) := by decide +kernel
theorem x158_166 {sc : aSc} {d : Nat} {r : aRes} {L : List Value} {f : Nat → Nat → Int32} {g : Nat → Nat → Int64} {h1 h2 : Nat} {y0 : Int32} {y1 : Int32}  {o : Nat} (hK : KK[o]? = some (.inl 7)) : Rn sc d 158 166 L [.int y0, .int y1, .ref o] (cS f g h1 h2) r ↔ ∃ (σ3 : aS) (v : Option Value), Cl sc d 142 [.ref o, .int y1, .int y0] (cS f g h1 h2) (σ3, v) ∧ Rn sc d 158 169 L (v.toList ++ []) σ3 r := r_callV (vs := [.int y0, .int y1]) d158_166 (j := 142) (by decide +kernel) ⟨rfl, by decide, rfl, rfl⟩ (Nat.le_of_ble_eq_true rfl) hK
theorem d158_169 : decode (mC 158) 169 = .ok (.aload_n 0, 1) := by decide +kernel
theorem x158_169 {sc : aSc} {d : Nat} {r : aRes} {x0 : Nat} {a1 : Value} {a2 : Value} {a3 : Value} {a4 : Value} {a5 : Value} {st : List Value} {σ : aS} : Rn sc d 158 169 [.ref x0, a1, a2, a3, a4, a5] st σ r ↔ Rn sc d 158 170 [.ref x0, a1, a2, a3, a4, a5] (.ref x0 :: st) σ r := r_aload_n d158_169 rfl
theorem d158_170 : decode (mC 158) 170 = .ok (.dup, 1) := by decide +kernel
theorem x158_170 {sc : aSc} {d : Nat} {r : aRes} {L : List Value} {st : List Value} {σ : aS} {y : Nat} : Rn sc d 158 170 L (.ref y :: st) σ r ↔ Rn sc d 158 171 L (.ref y :: .ref y :: st) σ r := r_dup d158_170 rfl
theorem d158_171 : decode (mC 158) 171 = .ok (.getfield 120, 3) := by decide +kernel
theorem x158_171 {sc : aSc} {d : Nat} {r : aRes} {L : List Value} {st : List Value} {f : Nat → Nat → Int32} {g : Nat → Nat → Int64} {h1 h2 : Nat} {o : Nat} (h17 : 17 ≤ o) (hK : KK[o]? = some (.inl 7)) : Rn sc d 158 171 L (.ref o :: st) (cS f g h1 h2) r ↔ Rn sc d 158 174 L (.int (f o 36) :: st) (cS f g h1 h2) r := r_getI d158_171 (ci := 7) (k := 36) (by decide +kernel) (by decide +kernel) (fun _ => rfl) h17 hK
theorem d158_174 : decode (mC 158) 174 = .ok (.aload_n 0, 1) := by decide +kernel
theorem x158_174 {sc : aSc} {d : Nat} {r : aRes} {x0 : Nat} {a1 : Value} {a2 : Value} {a3 : Value} {a4 : Value} {a5 : Value} {st : List Value} {σ : aS} : Rn sc d 158 174 [.ref x0, a1, a2, a3, a4, a5] st σ r ↔ Rn sc d 158 175 [.ref x0, a1, a2, a3, a4, a5] (.ref x0 :: st) σ r := r_aload_n d158_174 rfl
theorem d158_175 : decode (mC 158) 175 = .ok (.getfield 13, 3) := by decide +kernel
theorem x158_175 {sc : aSc} {d : Nat} {r : aRes} {L : List Value} {st : List Value} {f : Nat → Nat → Int32} {g : Nat → Nat → Int64} {h1 h2 : Nat} {o : Nat} (h17 : 17 ≤ o) (hK : KK[o]? = some (.inl 7)) : Rn sc d 158 175 L (.ref o :: st) (cS f g h1 h2) r ↔ Rn sc d 158 178 L (.int (f o 1) :: st) (cS f g h1 h2) r := r_getI d158_175 (ci := 7) (k := 1) rfl (by decide) (fun _ => rfl) h17 hK
theorem d158_178 : decode (mC 158) 178 = .ok (.iload 4, 2) := by decide +kernel
theorem x158_178 {sc : aSc} {d : Nat} {r : aRes} {a0 : Value} {a1 : Value} {a2 : Value} {a3 : Value} {x4 : Int32} {a5 : Value} {st : List Value} {σ : aS} : Rn sc d 158 178 [a0, a1, a2, a3, .int x4, a5] st σ r ↔ Rn sc d 158 180 [a0, a1, a2, a3, .int x4, a5] (.int x4 :: st) σ r := r_iload d158_178 rfl
theorem d158_180 : decode (mC 158) 180 = .ok (.ixor, 1) := by decide +kernel
theorem x158_180 {sc : aSc} {d : Nat} {r : aRes} {L : List Value} {st : List Value} {σ : aS} {x y : Int32} : Rn sc d 158 180 L (.int y :: .int x :: st) σ r ↔ Rn sc d 158 181 L (.int (x ^^^ y) :: st) σ r := r_ixor d158_180
theorem d158_181 : decode (mC 158) 181 = .ok (.ior, 1) := by decide +kernel
theorem x158_181 {sc : aSc} {d : Nat} {r : aRes} {L : List Value} {st : List Value} {σ : aS} {x y : Int32} : Rn sc d 158 181 L (.int y :: .int x :: st) σ r ↔ Rn sc d 158 182 L (.int (x ||| y) :: st) σ r := r_ior d158_181
theorem d158_182 : decode (mC 158) 182 = .ok (.putfield 120, 3) := by decide +kernel
theorem x158_182 {sc : aSc} {d : Nat} {r : aRes} {L : List Value} {st : List Value} {f : Nat → Nat → Int32} {g : Nat → Nat → Int64} {h1 h2 : Nat} {o : Nat} {v : Int32} (h17 : 17 ≤ o) (hK : KK[o]? = some (.inl 7)) : Rn sc d 158 182 L (.int v :: .ref o :: st) (cS f g h1 h2) r ↔ Rn sc d 158 185 L st (cS (u2 f o 36 v) g h1 h2) r := r_putI d158_182 (ci := 7) (k := 36) (by decide +kernel) (by decide +kernel) h17 hK
theorem d158_185 : decode (mC 158) 185 = .ok (.iload 5, 2) := by decide +kernel
theorem x158_185 {sc : aSc} {d : Nat} {r : aRes} {a0 : Value} {a1 : Value} {a2 : Value} {a3 : Value} {a4 : Value} {x5 : Int32} {st : List Value} {σ : aS} : Rn sc d 158 185 [a0, a1, a2, a3, a4, .int x5] st σ r ↔ Rn sc d 158 187 [a0, a1, a2, a3, a4, .int x5] (.int x5 :: st) σ r := r_iload d158_185 rfl
theorem d158_187 : decode (mC 158) 187 = .ok (.iload_n 1, 1) := by decide +kernel
theorem x158_187 {sc : aSc} {d : Nat} {r : aRes} {a0 : Value} {x1 : Int32} {a2 : Value} {a3 : Value} {a4 : Value} {a5 : Value} {st : List Value} {σ : aS} : Rn sc d 158 187 [a0, .int x1, a2, a3, a4, a5] st σ r ↔ Rn sc d 158 188 [a0, .int x1, a2, a3, a4, a5] (.int x1 :: st) σ r := r_iload_n d158_187 rfl
theorem d158_188 : decode (mC 158) 188 = .ok (.iconst 1, 1) := by decide +kernel
theorem x158_188 {sc : aSc} {d : Nat} {r : aRes} {L : List Value} {st : List Value} {σ : aS} : Rn sc d 158 188 L st σ r ↔ Rn sc d 158 189 L (.int 1 :: st) σ r := r_iconst d158_188 (by decide)
theorem d158_189 : decode (mC 158) 189 = .ok (.isub, 1) := by decide +kernel
theorem x158_189 {sc : aSc} {d : Nat} {r : aRes} {L : List Value} {st : List Value} {σ : aS} {x y : Int32} : Rn sc d 158 189 L (.int y :: .int x :: st) σ r ↔ Rn sc d 158 190 L (.int (x - y) :: st) σ r := r_isub d158_189
theorem d158_190 : decode (mC 158) 190 = .ok (.if_icmp .ne 48, 3) := by decide +kernel
theorem x158_190 {sc : aSc} {d : Nat} {r : aRes} {L : List Value} {st : List Value} {σ : aS} {x y : Int32} : Rn sc d 158 190 L (.int y :: .int x :: st) σ r ↔ if x = y then Rn sc d 158 193 L st σ r else Rn sc d 158 238 L st σ r := r_icmp_ne d158_190 rfl
theorem d158_193 : decode (mC 158) 193 = .ok (.aload_n 0, 1) := by decide +kernel
theorem x158_193 {sc : aSc} {d : Nat} {r : aRes} {x0 : Nat} {a1 : Value} {a2 : Value} {a3 : Value} {a4 : Value} {a5 : Value} {st : List Value} {σ : aS} : Rn sc d 158 193 [.ref x0, a1, a2, a3, a4, a5] st σ r ↔ Rn sc d 158 194 [.ref x0, a1, a2, a3, a4, a5] (.ref x0 :: st) σ r := r_aload_n d158_193 rfl
theorem d158_194 : decode (mC 158) 194 = .ok (.getfield 13, 3) := by decide +kernel
theorem x158_194 {sc : aSc} {d : Nat} {r : aRes} {L : List Value} {st : List Value} {f : Nat → Nat → Int32} {g : Nat → Nat → Int64} {h1 h2 : Nat} {o : Nat} (h17 : 17 ≤ o) (hK : KK[o]? = some (.inl 7)) : Rn sc d 158 194 L (.ref o :: st) (cS f g h1 h2) r ↔ Rn sc d 158 197 L (.int (f o 1) :: st) (cS f g h1 h2) r := r_getI d158_194 (ci := 7) (k := 1) rfl (by decide) (fun _ => rfl) h17 hK
theorem d158_197 : decode (mC 158) 197 = .ok (.iload_n 2, 1) := by decide +kernel
theorem x158_197 {sc : aSc} {d : Nat} {r : aRes} {a0 : Value} {a1 : Value} {x2 : Int32} {a3 : Value} {a4 : Value} {a5 : Value} {st : List Value} {σ : aS} : Rn sc d 158 197 [a0, a1, .int x2, a3, a4, a5] st σ r ↔ Rn sc d 158 198 [a0, a1, .int x2, a3, a4, a5] (.int x2 :: st) σ r := r_iload_n d158_197 rfl
theorem d158_198 : decode (mC 158) 198 = .ok (.if_icmp .ne (-121), 3) := by decide +kernel
theorem x158_198 {sc : aSc} {d : Nat} {r : aRes} {L : List Value} {st : List Value} {σ : aS} {x y : Int32} : Rn sc d 158 198 L (.int y :: .int x :: st) σ r ↔ if x = y then Rn sc d 158 201 L st σ r else Rn sc d 158 77 L st σ r := r_icmp_ne d158_198 rfl
theorem d158_201 : decode (mC 158) 201 = .ok (.aload_n 0, 1) := by decide +kernel
theorem x158_201 {sc : aSc} {d : Nat} {r : aRes} {x0 : Nat} {a1 : Value} {a2 : Value} {a3 : Value} {a4 : Value} {a5 : Value} {st : List Value} {σ : aS} : Rn sc d 158 201 [.ref x0, a1, a2, a3, a4, a5] st σ r ↔ Rn sc d 158 202 [.ref x0, a1, a2, a3, a4, a5] (.ref x0 :: st) σ r := r_aload_n d158_201 rfl
theorem d158_202 : decode (mC 158) 202 = .ok (.aload_n 0, 1) := by decide +kernel
theorem x158_202 {sc : aSc} {d : Nat} {r : aRes} {x0 : Nat} {a1 : Value} {a2 : Value} {a3 : Value} {a4 : Value} {a5 : Value} {st : List Value} {σ : aS} : Rn sc d 158 202 [.ref x0, a1, a2, a3, a4, a5] st σ r ↔ Rn sc d 158 203 [.ref x0, a1, a2, a3, a4, a5] (.ref x0 :: st) σ r := r_aload_n d158_202 rfl
theorem d158_203 : decode (mC 158) 203 = .ok (.getfield 114, 3) := by decide +kernel
theorem x158_203 {sc : aSc} {d : Nat} {r : aRes} {L : List Value} {st : List Value} {f : Nat → Nat → Int32} {g : Nat → Nat → Int64} {h1 h2 : Nat} {o : Nat} (h17 : 17 ≤ o) (hK : KK[o]? = some (.inl 7)) : Rn sc d 158 203 L (.ref o :: st) (cS f g h1 h2) r ↔ Rn sc d 158 206 L (.int (f o 34) :: st) (cS f g h1 h2) r := r_getI d158_203 (ci := 7) (k := 34) (by decide +kernel) (by decide +kernel) (fun _ => rfl) h17 hK
theorem d158_206 : decode (mC 158) 206 = .ok (.ifCond .ne 12, 3) := by decide +kernel
theorem x158_206 {sc : aSc} {d : Nat} {r : aRes} {L : List Value} {st : List Value} {σ : aS} {x : Int32} : Rn sc d 158 206 L (.int x :: st) σ r ↔ if x = 0 then Rn sc d 158 209 L st σ r else Rn sc d 158 218 L st σ r := r_if_ne d158_206 rfl
theorem d158_209 : decode (mC 158) 209 = .ok (.aload_n 0, 1) := by decide +kernel
theorem x158_209 {sc : aSc} {d : Nat} {r : aRes} {x0 : Nat} {a1 : Value} {a2 : Value} {a3 : Value} {a4 : Value} {a5 : Value} {st : List Value} {σ : aS} : Rn sc d 158 209 [.ref x0, a1, a2, a3, a4, a5] st σ r ↔ Rn sc d 158 210 [.ref x0, a1, a2, a3, a4, a5] (.ref x0 :: st) σ r := r_aload_n d158_209 rfl
theorem d158_210 : decode (mC 158) 210 = .ok (.getfield 99, 3) := by decide +kernel
theorem x158_210 {sc : aSc} {d : Nat} {r : aRes} {L : List Value} {st : List Value} {f : Nat → Nat → Int32} {g : Nat → Nat → Int64} {h1 h2 : Nat} {o : Nat} (hK : KK[o]? = some (.inl 7)) (hR : (RR h1 h2 o 29).isSome = true) : Rn sc d 158 210 L (.ref o :: st) (cS f g h1 h2) r ↔ Rn sc d 158 213 L (.ref (rf h1 h2 o 29) :: st) (cS f g h1 h2) r := r_getR2 d158_210 (ci := 7) (k := 29) (by decide +kernel) (by decide +kernel) (fun _ => rfl) hK hR
theorem d158_213 : decode (mC 158) 213 = .ok (.iconst 0, 1) := by decide +kernel
theorem x158_213 {sc : aSc} {d : Nat} {r : aRes} {L : List Value} {st : List Value} {σ : aS} : Rn sc d 158 213 L st σ r ↔ Rn sc d 158 214 L (.int 0 :: st) σ r := r_iconst d158_213 (by decide)
theorem d158_214 : decode (mC 158) 214 = .ok (.iaload, 1) := by decide +kernel
theorem x158_214 {sc : aSc} {d : Nat} {r : aRes} {L : List Value} {st : List Value} {f : Nat → Nat → Int32} {g : Nat → Nat → Int64} {h1 h2 : Nat} {a : Nat} {i : Int32} (h17 : 17 ≤ a) (hA : isT9 .int a) (hi : inb i (aln a) = true) : Rn sc d 158 214 L (.int i :: .ref a :: st) (cS f g h1 h2) r ↔ Rn sc d 158 215 L (.int (f a i.toNatClampNeg) :: st) (cS f g h1 h2) r := r_iald d158_214 h17 hA hi
theorem d158_215 : decode (mC 158) 215 = .ok (.goto 7, 3) := by decide +kernel
theorem x158_215 {sc : aSc} {d : Nat} {r : aRes} {L : List Value} {st : List Value} {σ : aS} : Rn sc d 158 215 L st σ r ↔ Rn sc d 158 222 L st σ r := r_goto d158_215 rfl
theorem d158_218 : decode (mC 158) 218 = .ok (.aload_n 0, 1) := by decide +kernel
theorem x158_218 {sc : aSc} {d : Nat} {r : aRes} {x0 : Nat} {a1 : Value} {a2 : Value} {a3 : Value} {a4 : Value} {a5 : Value} {st : List Value} {σ : aS} : Rn sc d 158 218 [.ref x0, a1, a2, a3, a4, a5] st σ r ↔ Rn sc d 158 219 [.ref x0, a1, a2, a3, a4, a5] (.ref x0 :: st) σ r := r_aload_n d158_218 rfl
theorem d158_219 : decode (mC 158) 219 = .ok (.getfield 117, 3) := by decide +kernel
theorem x158_219 {sc : aSc} {d : Nat} {r : aRes} {L : List Value} {st : List Value} {f : Nat → Nat → Int32} {g : Nat → Nat → Int64} {h1 h2 : Nat} {o : Nat} (h17 : 17 ≤ o) (hK : KK[o]? = some (.inl 7)) : Rn sc d 158 219 L (.ref o :: st) (cS f g h1 h2) r ↔ Rn sc d 158 222 L (.int (f o 35) :: st) (cS f g h1 h2) r := r_getI d158_219 (ci := 7) (k := 35) (by decide +kernel) (by decide +kernel) (fun _ => rfl) h17 hK
theorem d158_222 : decode (mC 158) 222 = .ok (.putfield 117, 3) := by decide +kernel
theorem x158_222 {sc : aSc} {d : Nat} {r : aRes} {L : List Value} {st : List Value} {f : Nat → Nat → Int32} {g : Nat → Nat → Int64} {h1 h2 : Nat} {o : Nat} {v : Int32} (h17 : 17 ≤ o) (hK : KK[o]? = some (.inl 7)) : Rn sc d 158 222 L (.int v :: .ref o :: st) (cS f g h1 h2) r ↔ Rn sc d 158 225 L st (cS (u2 f o 35 v) g h1 h2) r := r_putI d158_222 (ci := 7) (k := 35) (by decide +kernel) (by decide +kernel) h17 hK
theorem d158_225 : decode (mC 158) 225 = .ok (.aload_n 0, 1) := by decide +kernel
theorem x158_225 {sc : aSc} {d : Nat} {r : aRes} {x0 : Nat} {a1 : Value} {a2 : Value} {a3 : Value} {a4 : Value} {a5 : Value} {st : List Value} {σ : aS} : Rn sc d 158 225 [.ref x0, a1, a2, a3, a4, a5] st σ r ↔ Rn sc d 158 226 [.ref x0, a1, a2, a3, a4, a5] (.ref x0 :: st) σ r := r_aload_n d158_225 rfl
theorem d158_226 : decode (mC 158) 226 = .ok (.dup, 1) := by decide +kernel
theorem x158_226 {sc : aSc} {d : Nat} {r : aRes} {L : List Value} {st : List Value} {σ : aS} {y : Nat} : Rn sc d 158 226 L (.ref y :: st) σ r ↔ Rn sc d 158 227 L (.ref y :: .ref y :: st) σ r := r_dup d158_226 rfl
theorem d158_227 : decode (mC 158) 227 = .ok (.getfield 114, 3) := by decide +kernel
theorem x158_227 {sc : aSc} {d : Nat} {r : aRes} {L : List Value} {st : List Value} {f : Nat → Nat → Int32} {g : Nat → Nat → Int64} {h1 h2 : Nat} {o : Nat} (h17 : 17 ≤ o) (hK : KK[o]? = some (.inl 7)) : Rn sc d 158 227 L (.ref o :: st) (cS f g h1 h2) r ↔ Rn sc d 158 230 L (.int (f o 34) :: st) (cS f g h1 h2) r := r_getI d158_227 (ci := 7) (k := 34) (by decide +kernel) (by decide +kernel) (fun _ => rfl) h17 hK
theorem d158_230 : decode (mC 158) 230 = .ok (.iconst 1, 1) := by decide +kernel
theorem x158_230 {sc : aSc} {d : Nat} {r : aRes} {L : List Value} {st : List Value} {σ : aS} : Rn sc d 158 230 L st σ r ↔ Rn sc d 158 231 L (.int 1 :: st) σ r := r_iconst d158_230 (by decide)
theorem d158_231 : decode (mC 158) 231 = .ok (.iadd, 1) := by decide +kernel
theorem x158_231 {sc : aSc} {d : Nat} {r : aRes} {L : List Value} {st : List Value} {σ : aS} {x y : Int32} : Rn sc d 158 231 L (.int y :: .int x :: st) σ r ↔ Rn sc d 158 232 L (.int (x + y) :: st) σ r := r_iadd d158_231
theorem d158_232 : decode (mC 158) 232 = .ok (.putfield 114, 3) := by decide +kernel
theorem x158_232 {sc : aSc} {d : Nat} {r : aRes} {L : List Value} {st : List Value} {f : Nat → Nat → Int32} {g : Nat → Nat → Int64} {h1 h2 : Nat} {o : Nat} {v : Int32} (h17 : 17 ≤ o) (hK : KK[o]? = some (.inl 7)) : Rn sc d 158 232 L (.int v :: .ref o :: st) (cS f g h1 h2) r ↔ Rn sc d 158 235 L st (cS (u2 f o 34 v) g h1 h2) r := r_putI d158_232 (ci := 7) (k := 34) (by decide +kernel) (by decide +kernel) h17 hK
theorem d158_235 : decode (mC 158) 235 = .ok (.goto (-158), 3) := by decide +kernel
theorem x158_235 {sc : aSc} {d : Nat} {r : aRes} {L : List Value} {st : List Value} {σ : aS} : Rn sc d 158 235 L st σ r ↔ Rn sc d 158 77 L st σ r := r_goto d158_235 rfl
theorem d158_238 : decode (mC 158) 238 = .ok (.iinc 5 1, 3) := by decide +kernel
theorem x158_238 {sc : aSc} {d : Nat} {r : aRes} {a0 : Value} {a1 : Value} {a2 : Value} {a3 : Value} {x4 : Int32} {x5 : Int32} {st : List Value} {σ : aS} : Rn sc d 158 238 [a0, a1, a2, a3, .int x4, .int x5] st σ r ↔ Rn sc d 158 241 [a0, a1, a2, a3, .int x4, .int (x5 + 1)] st σ r := r_iinc d158_238 (Nat.le_of_ble_eq_true rfl) rfl rfl (by decide)
theorem d158_241 : decode (mC 158) 241 = .ok (.aload_n 0, 1) := by decide +kernel
theorem x158_241 {sc : aSc} {d : Nat} {r : aRes} {x0 : Nat} {a1 : Value} {a2 : Value} {a3 : Value} {a4 : Value} {a5 : Value} {st : List Value} {σ : aS} : Rn sc d 158 241 [.ref x0, a1, a2, a3, a4, a5] st σ r ↔ Rn sc d 158 242 [.ref x0, a1, a2, a3, a4, a5] (.ref x0 :: st) σ r := r_aload_n d158_241 rfl
theorem d158_242 : decode (mC 158) 242 = .ok (.getfield 99, 3) := by decide +kernel
theorem x158_242 {sc : aSc} {d : Nat} {r : aRes} {L : List Value} {st : List Value} {f : Nat → Nat → Int32} {g : Nat → Nat → Int64} {h1 h2 : Nat} {o : Nat} (hK : KK[o]? = some (.inl 7)) (hR : (RR h1 h2 o 29).isSome = true) : Rn sc d 158 242 L (.ref o :: st) (cS f g h1 h2) r ↔ Rn sc d 158 245 L (.ref (rf h1 h2 o 29) :: st) (cS f g h1 h2) r := r_getR2 d158_242 (ci := 7) (k := 29) (by decide +kernel) (by decide +kernel) (fun _ => rfl) hK hR
theorem d158_245 : decode (mC 158) 245 = .ok (.iload 5, 2) := by decide +kernel
theorem x158_245 {sc : aSc} {d : Nat} {r : aRes} {a0 : Value} {a1 : Value} {a2 : Value} {a3 : Value} {a4 : Value} {x5 : Int32} {st : List Value} {σ : aS} : Rn sc d 158 245 [a0, a1, a2, a3, a4, .int x5] st σ r ↔ Rn sc d 158 247 [a0, a1, a2, a3, a4, .int x5] (.int x5 :: st) σ r := r_iload d158_245 rfl
theorem d158_247 : decode (mC 158) 247 = .ok (.iconst (-1), 1) := by decide +kernel
theorem x158_247 {sc : aSc} {d : Nat} {r : aRes} {L : List Value} {st : List Value} {σ : aS} : Rn sc d 158 247 L st σ r ↔ Rn sc d 158 248 L (.int (-1) :: st) σ r := r_iconst d158_247 (by decide)
theorem d158_248 : decode (mC 158) 248 = .ok (.iastore, 1) := by decide +kernel
theorem x158_248 {sc : aSc} {d : Nat} {r : aRes} {L : List Value} {st : List Value} {f : Nat → Nat → Int32} {g : Nat → Nat → Int64} {h1 h2 : Nat} {a : Nat} {i : Int32} {x : Int32} (h17 : 17 ≤ a) (hA : isT9 .int a) (hi : inb i (aln a) = true) : Rn sc d 158 248 L (.int x :: .int i :: .ref a :: st) (cS f g h1 h2) r ↔ Rn sc d 158 249 L st (cS (u2 f a i.toNatClampNeg x) g h1 h2) r := r_iast d158_248 h17 hA hi
theorem d158_249 : decode (mC 158) 249 = .ok (.goto (-172), 3) := by decide +kernel
theorem x158_249 {sc : aSc} {d : Nat} {r : aRes} {L : List Value} {st : List Value} {σ : aS} : Rn sc d 158 249 L st σ r ↔ Rn sc d 158 77 L st σ r := r_goto d158_249 rfl
theorem d158_252 : decode (mC 158) 252 = .ok (.aload_n 0, 1) := by decide +kernel
theorem x158_252 {sc : aSc} {d : Nat} {r : aRes} {x0 : Nat} {a1 : Value} {a2 : Value} {a3 : Value} {a4 : Value} {a5 : Value} {st : List Value} {σ : aS} : Rn sc d 158 252 [.ref x0, a1, a2, a3, a4, a5] st σ r ↔ Rn sc d 158 253 [.ref x0, a1, a2, a3, a4, a5] (.ref x0 :: st) σ r := r_aload_n d158_252 rfl
theorem d158_253 : decode (mC 158) 253 = .ok (.iload_n 3, 1) := by decide +kernel
theorem x158_253 {sc : aSc} {d : Nat} {r : aRes} {a0 : Value} {a1 : Value} {a2 : Value} {x3 : Int32} {a4 : Value} {a5 : Value} {st : List Value} {σ : aS} : Rn sc d 158 253 [a0, a1, a2, .int x3, a4, a5] st σ r ↔ Rn sc d 158 254 [a0, a1, a2, .int x3, a4, a5] (.int x3 :: st) σ r := r_iload_n d158_253 rfl
theorem d158_254 : decode (mC 158) 254 = .ok (.putfield 16, 3) := by decide +kernel
theorem x158_254 {sc : aSc} {d : Nat} {r : aRes} {L : List Value} {st : List Value} {f : Nat → Nat → Int32} {g : Nat → Nat → Int64} {h1 h2 : Nat} {o : Nat} {v : Int32} (h17 : 17 ≤ o) (hK : KK[o]? = some (.inl 7)) : Rn sc d 158 254 L (.int v :: .ref o :: st) (cS f g h1 h2) r ↔ Rn sc d 158 257 L st (cS (u2 f o 2 v) g h1 h2) r := r_putI d158_254 (ci := 7) (k := 2) rfl (by decide) h17 hK
theorem d158_257 : decode (mC 158) 257 = .ok (.return_, 1) := by decide +kernel
theorem x158_257 {sc : aSc} {d : Nat} {r : aRes} {L : List Value} {σ : aS} : Rn sc d 158 257 L [] σ r ↔ r = (σ, none) := r_vret d158_257 rfl
theorem d159_0 : decode (mC 159) 0 = .ok (.aload_n 0, 1) := by decide +kernel
theorem x159_0 {sc : aSc} {d : Nat} {r : aRes} {x0 : Nat} {a1 : Value} {a2 : Value} {st : List Value} {σ : aS} : Rn sc d 159 0 [.ref x0, a1, a2] st σ r ↔ Rn sc d 159 1 [.ref x0, a1, a2] (.ref x0 :: st) σ r := r_aload_n d159_0 rfl
theorem d159_1 : decode (mC 159) 1 = .ok (.iload_n 1, 1) := by decide +kernel
theorem x159_1 {sc : aSc} {d : Nat} {r : aRes} {a0 : Value} {x1 : Int32} {a2 : Value} {st : List Value} {σ : aS} : Rn sc d 159 1 [a0, .int x1, a2] st σ r ↔ Rn sc d 159 2 [a0, .int x1, a2] (.int x1 :: st) σ r := r_iload_n d159_1 rfl
theorem d159_2 : decode (mC 159) 2 = .ok (.invokevirtual 231, 3) := by decide +kernel
theorem x159_2 {sc : aSc} {d : Nat} {r : aRes} {L : List Value} {f : Nat → Nat → Int32} {g : Nat → Nat → Int64} {h1 h2 : Nat} {y0 : Int32}  {o : Nat} (hK : KK[o]? = some (.inl 7)) : Rn sc d 159 2 L [.int y0, .ref o] (cS f g h1 h2) r ↔ ∃ (σ3 : aS) (v : Option Value), Cl sc d 109 [.ref o, .int y0] (cS f g h1 h2) (σ3, v) ∧ Rn sc d 159 5 L (v.toList ++ []) σ3 r := r_callV (vs := [.int y0]) d159_2 (j := 109) (by decide +kernel) ⟨rfl, by decide, rfl, rfl⟩ (Nat.le_of_ble_eq_true rfl) hK
theorem d159_5 : decode (mC 159) 5 = .ok (.ifCond .ne 5, 3) := by decide +kernel
theorem x159_5 {sc : aSc} {d : Nat} {r : aRes} {L : List Value} {st : List Value} {σ : aS} {x : Int32} : Rn sc d 159 5 L (.int x :: st) σ r ↔ if x = 0 then Rn sc d 159 8 L st σ r else Rn sc d 159 10 L st σ r := r_if_ne d159_5 rfl
theorem d159_8 : decode (mC 159) 8 = .ok (.iconst (-1), 1) := by decide +kernel
theorem x159_8 {sc : aSc} {d : Nat} {r : aRes} {L : List Value} {st : List Value} {σ : aS} : Rn sc d 159 8 L st σ r ↔ Rn sc d 159 9 L (.int (-1) :: st) σ r := r_iconst d159_8 (by decide)
theorem d159_9 : decode (mC 159) 9 = .ok (.ireturn, 1) := by decide +kernel
theorem x159_9 {sc : aSc} {d : Nat} {r : aRes} {L : List Value} {σ : aS} {x : Int32} : Rn sc d 159 9 L [.int x] σ r ↔ r = (σ, some (.int x)) := r_iret d159_9 rfl rfl
theorem d159_10 : decode (mC 159) 10 = .ok (.aload_n 0, 1) := by decide +kernel
theorem x159_10 {sc : aSc} {d : Nat} {r : aRes} {x0 : Nat} {a1 : Value} {a2 : Value} {st : List Value} {σ : aS} : Rn sc d 159 10 [.ref x0, a1, a2] st σ r ↔ Rn sc d 159 11 [.ref x0, a1, a2] (.ref x0 :: st) σ r := r_aload_n d159_10 rfl
theorem d159_11 : decode (mC 159) 11 = .ok (.iload_n 2, 1) := by decide +kernel
theorem x159_11 {sc : aSc} {d : Nat} {r : aRes} {a0 : Value} {a1 : Value} {x2 : Int32} {st : List Value} {σ : aS} : Rn sc d 159 11 [a0, a1, .int x2] st σ r ↔ Rn sc d 159 12 [a0, a1, .int x2] (.int x2 :: st) σ r := r_iload_n d159_11 rfl
theorem d159_12 : decode (mC 159) 12 = .ok (.iconst 0, 1) := by decide +kernel
theorem x159_12 {sc : aSc} {d : Nat} {r : aRes} {L : List Value} {st : List Value} {σ : aS} : Rn sc d 159 12 L st σ r ↔ Rn sc d 159 13 L (.int 0 :: st) σ r := r_iconst d159_12 (by decide)
theorem d159_13 : decode (mC 159) 13 = .ok (.iconst 3, 1) := by decide +kernel
theorem x159_13 {sc : aSc} {d : Nat} {r : aRes} {L : List Value} {st : List Value} {σ : aS} : Rn sc d 159 13 L st σ r ↔ Rn sc d 159 14 L (.int 3 :: st) σ r := r_iconst d159_13 (by decide)
theorem d159_14 : decode (mC 159) 14 = .ok (.invokevirtual 227, 3) := by decide +kernel
theorem x159_14 {sc : aSc} {d : Nat} {r : aRes} {L : List Value} {f : Nat → Nat → Int32} {g : Nat → Nat → Int64} {h1 h2 : Nat} {y0 : Int32} {y1 : Int32} {y2 : Int32}  {o : Nat} (hK : KK[o]? = some (.inl 7)) : Rn sc d 159 14 L [.int y0, .int y1, .int y2, .ref o] (cS f g h1 h2) r ↔ ∃ (σ3 : aS) (v : Option Value), Cl sc d 108 [.ref o, .int y2, .int y1, .int y0] (cS f g h1 h2) (σ3, v) ∧ Rn sc d 159 17 L (v.toList ++ []) σ3 r := r_callV (vs := [.int y0, .int y1, .int y2]) d159_14 (j := 108) (by decide +kernel) ⟨rfl, by decide, rfl, rfl⟩ (Nat.le_of_ble_eq_true rfl) hK
theorem d159_17 : decode (mC 159) 17 = .ok (.ifCond .ne 6, 3) := by decide +kernel
theorem x159_17 {sc : aSc} {d : Nat} {r : aRes} {L : List Value} {st : List Value} {σ : aS} {x : Int32} : Rn sc d 159 17 L (.int x :: st) σ r ↔ if x = 0 then Rn sc d 159 20 L st σ r else Rn sc d 159 23 L st σ r := r_if_ne d159_17 rfl
theorem d159_20 : decode (mC 159) 20 = .ok (.bipush (-2), 2) := by decide +kernel
theorem x159_20 {sc : aSc} {d : Nat} {r : aRes} {L : List Value} {st : List Value} {σ : aS} : Rn sc d 159 20 L st σ r ↔ Rn sc d 159 22 L (.int (-2) :: st) σ r := r_bipush d159_20 (by decide)
theorem d159_22 : decode (mC 159) 22 = .ok (.ireturn, 1) := by decide +kernel
theorem x159_22 {sc : aSc} {d : Nat} {r : aRes} {L : List Value} {σ : aS} {x : Int32} : Rn sc d 159 22 L [.int x] σ r ↔ r = (σ, some (.int x)) := r_iret d159_22 rfl rfl
theorem d159_23 : decode (mC 159) 23 = .ok (.aload_n 0, 1) := by decide +kernel
theorem x159_23 {sc : aSc} {d : Nat} {r : aRes} {x0 : Nat} {a1 : Value} {a2 : Value} {st : List Value} {σ : aS} : Rn sc d 159 23 [.ref x0, a1, a2] st σ r ↔ Rn sc d 159 24 [.ref x0, a1, a2] (.ref x0 :: st) σ r := r_aload_n d159_23 rfl
theorem d159_24 : decode (mC 159) 24 = .ok (.iload_n 2, 1) := by decide +kernel
theorem x159_24 {sc : aSc} {d : Nat} {r : aRes} {a0 : Value} {a1 : Value} {x2 : Int32} {st : List Value} {σ : aS} : Rn sc d 159 24 [a0, a1, .int x2] st σ r ↔ Rn sc d 159 25 [a0, a1, .int x2] (.int x2 :: st) σ r := r_iload_n d159_24 rfl
theorem d159_25 : decode (mC 159) 25 = .ok (.iconst 0, 1) := by decide +kernel
theorem x159_25 {sc : aSc} {d : Nat} {r : aRes} {L : List Value} {st : List Value} {σ : aS} : Rn sc d 159 25 L st σ r ↔ Rn sc d 159 26 L (.int 0 :: st) σ r := r_iconst d159_25 (by decide)
theorem d159_26 : decode (mC 159) 26 = .ok (.invokevirtual 344, 3) := by decide +kernel
theorem x159_26 {sc : aSc} {d : Nat} {r : aRes} {L : List Value} {f : Nat → Nat → Int32} {g : Nat → Nat → Int64} {h1 h2 : Nat} {y0 : Int32} {y1 : Int32}  {o : Nat} (hK : KK[o]? = some (.inl 7)) : Rn sc d 159 26 L [.int y0, .int y1, .ref o] (cS f g h1 h2) r ↔ ∃ (σ3 : aS) (v : Option Value), Cl sc d 158 [.ref o, .int y1, .int y0] (cS f g h1 h2) (σ3, v) ∧ Rn sc d 159 29 L (v.toList ++ []) σ3 r := r_callV (vs := [.int y0, .int y1]) d159_26 (j := 158) (by decide +kernel) ⟨rfl, by decide, rfl, rfl⟩ (Nat.le_of_ble_eq_true rfl) hK
theorem d159_29 : decode (mC 159) 29 = .ok (.aload_n 0, 1) := by decide +kernel
theorem x159_29 {sc : aSc} {d : Nat} {r : aRes} {x0 : Nat} {a1 : Value} {a2 : Value} {st : List Value} {σ : aS} : Rn sc d 159 29 [.ref x0, a1, a2] st σ r ↔ Rn sc d 159 30 [.ref x0, a1, a2] (.ref x0 :: st) σ r := r_aload_n d159_29 rfl
theorem d159_30 : decode (mC 159) 30 = .ok (.getfield 120, 3) := by decide +kernel
theorem x159_30 {sc : aSc} {d : Nat} {r : aRes} {L : List Value} {st : List Value} {f : Nat → Nat → Int32} {g : Nat → Nat → Int64} {h1 h2 : Nat} {o : Nat} (h17 : 17 ≤ o) (hK : KK[o]? = some (.inl 7)) : Rn sc d 159 30 L (.ref o :: st) (cS f g h1 h2) r ↔ Rn sc d 159 33 L (.int (f o 36) :: st) (cS f g h1 h2) r := r_getI d159_30 (ci := 7) (k := 36) (by decide +kernel) (by decide +kernel) (fun _ => rfl) h17 hK
theorem d159_33 : decode (mC 159) 33 = .ok (.iload_n 1, 1) := by decide +kernel
theorem x159_33 {sc : aSc} {d : Nat} {r : aRes} {a0 : Value} {x1 : Int32} {a2 : Value} {st : List Value} {σ : aS} : Rn sc d 159 33 [a0, .int x1, a2] st σ r ↔ Rn sc d 159 34 [a0, .int x1, a2] (.int x1 :: st) σ r := r_iload_n d159_33 rfl
theorem d159_34 : decode (mC 159) 34 = .ok (.ishr, 1) := by decide +kernel
theorem x159_34 {sc : aSc} {d : Nat} {r : aRes} {L : List Value} {st : List Value} {σ : aS} {x y : Int32} : Rn sc d 159 34 L (.int y :: .int x :: st) σ r ↔ Rn sc d 159 35 L (.int (x >>> (y &&& 31)) :: st) σ r := r_ishr d159_34
theorem d159_35 : decode (mC 159) 35 = .ok (.iconst 1, 1) := by decide +kernel
theorem x159_35 {sc : aSc} {d : Nat} {r : aRes} {L : List Value} {st : List Value} {σ : aS} : Rn sc d 159 35 L st σ r ↔ Rn sc d 159 36 L (.int 1 :: st) σ r := r_iconst d159_35 (by decide)
theorem d159_36 : decode (mC 159) 36 = .ok (.iand, 1) := by decide +kernel
theorem x159_36 {sc : aSc} {d : Nat} {r : aRes} {L : List Value} {st : List Value} {σ : aS} {x y : Int32} : Rn sc d 159 36 L (.int y :: .int x :: st) σ r ↔ Rn sc d 159 37 L (.int (x &&& y) :: st) σ r := r_iand d159_36
theorem d159_37 : decode (mC 159) 37 = .ok (.ireturn, 1) := by decide +kernel
theorem x159_37 {sc : aSc} {d : Nat} {r : aRes} {L : List Value} {σ : aS} {x : Int32} : Rn sc d 159 37 L [.int x] σ r ↔ r = (σ, some (.int x)) := r_iret d159_37 rfl rfl
theorem d160_0 : decode (mC 160) 0 = .ok (.aload_n 0, 1) := by decide +kernel
theorem x160_0 {sc : aSc} {d : Nat} {r : aRes} {x0 : Nat} {a1 : Value} {a2 : Value} {st : List Value} {σ : aS} : Rn sc d 160 0 [.ref x0, a1, a2] st σ r ↔ Rn sc d 160 1 [.ref x0, a1, a2] (.ref x0 :: st) σ r := r_aload_n d160_0 rfl
theorem d160_1 : decode (mC 160) 1 = .ok (.iload_n 1, 1) := by decide +kernel
theorem x160_1 {sc : aSc} {d : Nat} {r : aRes} {a0 : Value} {x1 : Int32} {a2 : Value} {st : List Value} {σ : aS} : Rn sc d 160 1 [a0, .int x1, a2] st σ r ↔ Rn sc d 160 2 [a0, .int x1, a2] (.int x1 :: st) σ r := r_iload_n d160_1 rfl
theorem d160_2 : decode (mC 160) 2 = .ok (.iconst 0, 1) := by decide +kernel
theorem x160_2 {sc : aSc} {d : Nat} {r : aRes} {L : List Value} {st : List Value} {σ : aS} : Rn sc d 160 2 L st σ r ↔ Rn sc d 160 3 L (.int 0 :: st) σ r := r_iconst d160_2 (by decide)
theorem d160_3 : decode (mC 160) 3 = .ok (.iconst 1, 1) := by decide +kernel
theorem x160_3 {sc : aSc} {d : Nat} {r : aRes} {L : List Value} {st : List Value} {σ : aS} : Rn sc d 160 3 L st σ r ↔ Rn sc d 160 4 L (.int 1 :: st) σ r := r_iconst d160_3 (by decide)
theorem d160_4 : decode (mC 160) 4 = .ok (.aload_n 0, 1) := by decide +kernel
theorem x160_4 {sc : aSc} {d : Nat} {r : aRes} {x0 : Nat} {a1 : Value} {a2 : Value} {st : List Value} {σ : aS} : Rn sc d 160 4 [.ref x0, a1, a2] st σ r ↔ Rn sc d 160 5 [.ref x0, a1, a2] (.ref x0 :: st) σ r := r_aload_n d160_4 rfl
theorem d160_5 : decode (mC 160) 5 = .ok (.getfield 7, 3) := by decide +kernel
theorem x160_5 {sc : aSc} {d : Nat} {r : aRes} {L : List Value} {st : List Value} {f : Nat → Nat → Int32} {g : Nat → Nat → Int64} {h1 h2 : Nat} {o : Nat} (h17 : 17 ≤ o) (hK : KK[o]? = some (.inl 7)) : Rn sc d 160 5 L (.ref o :: st) (cS f g h1 h2) r ↔ Rn sc d 160 8 L (.int (f o 0) :: st) (cS f g h1 h2) r := r_getI d160_5 (ci := 7) (k := 0) rfl (by decide) (fun _ => rfl) h17 hK
theorem d160_8 : decode (mC 160) 8 = .ok (.ishl, 1) := by decide +kernel
theorem x160_8 {sc : aSc} {d : Nat} {r : aRes} {L : List Value} {st : List Value} {σ : aS} {x y : Int32} : Rn sc d 160 8 L (.int y :: .int x :: st) σ r ↔ Rn sc d 160 9 L (.int (x <<< (y &&& 31)) :: st) σ r := r_ishl d160_8
theorem d160_9 : decode (mC 160) 9 = .ok (.iconst 1, 1) := by decide +kernel
theorem x160_9 {sc : aSc} {d : Nat} {r : aRes} {L : List Value} {st : List Value} {σ : aS} : Rn sc d 160 9 L st σ r ↔ Rn sc d 160 10 L (.int 1 :: st) σ r := r_iconst d160_9 (by decide)
theorem d160_10 : decode (mC 160) 10 = .ok (.isub, 1) := by decide +kernel
theorem x160_10 {sc : aSc} {d : Nat} {r : aRes} {L : List Value} {st : List Value} {σ : aS} {x y : Int32} : Rn sc d 160 10 L (.int y :: .int x :: st) σ r ↔ Rn sc d 160 11 L (.int (x - y) :: st) σ r := r_isub d160_10
theorem d160_11 : decode (mC 160) 11 = .ok (.invokevirtual 227, 3) := by decide +kernel
theorem x160_11 {sc : aSc} {d : Nat} {r : aRes} {L : List Value} {f : Nat → Nat → Int32} {g : Nat → Nat → Int64} {h1 h2 : Nat} {y0 : Int32} {y1 : Int32} {y2 : Int32}  {o : Nat} (hK : KK[o]? = some (.inl 7)) : Rn sc d 160 11 L [.int y0, .int y1, .int y2, .ref o] (cS f g h1 h2) r ↔ ∃ (σ3 : aS) (v : Option Value), Cl sc d 108 [.ref o, .int y2, .int y1, .int y0] (cS f g h1 h2) (σ3, v) ∧ Rn sc d 160 14 L (v.toList ++ []) σ3 r := r_callV (vs := [.int y0, .int y1, .int y2]) d160_11 (j := 108) (by decide +kernel) ⟨rfl, by decide, rfl, rfl⟩ (Nat.le_of_ble_eq_true rfl) hK
theorem d160_14 : decode (mC 160) 14 = .ok (.ifCond .ne 6, 3) := by decide +kernel
theorem x160_14 {sc : aSc} {d : Nat} {r : aRes} {L : List Value} {st : List Value} {σ : aS} {x : Int32} : Rn sc d 160 14 L (.int x :: st) σ r ↔ if x = 0 then Rn sc d 160 17 L st σ r else Rn sc d 160 20 L st σ r := r_if_ne d160_14 rfl
theorem d160_17 : decode (mC 160) 17 = .ok (.bipush (-2), 2) := by decide +kernel
theorem x160_17 {sc : aSc} {d : Nat} {r : aRes} {L : List Value} {st : List Value} {σ : aS} : Rn sc d 160 17 L st σ r ↔ Rn sc d 160 19 L (.int (-2) :: st) σ r := r_bipush d160_17 (by decide)
theorem d160_19 : decode (mC 160) 19 = .ok (.ireturn, 1) := by decide +kernel
theorem x160_19 {sc : aSc} {d : Nat} {r : aRes} {L : List Value} {σ : aS} {x : Int32} : Rn sc d 160 19 L [.int x] σ r ↔ r = (σ, some (.int x)) := r_iret d160_19 rfl rfl
theorem d160_20 : decode (mC 160) 20 = .ok (.aload_n 0, 1) := by decide +kernel
theorem x160_20 {sc : aSc} {d : Nat} {r : aRes} {x0 : Nat} {a1 : Value} {a2 : Value} {st : List Value} {σ : aS} : Rn sc d 160 20 [.ref x0, a1, a2] st σ r ↔ Rn sc d 160 21 [.ref x0, a1, a2] (.ref x0 :: st) σ r := r_aload_n d160_20 rfl
theorem d160_21 : decode (mC 160) 21 = .ok (.getfield 123, 3) := by decide +kernel
theorem x160_21 {sc : aSc} {d : Nat} {r : aRes} {L : List Value} {st : List Value} {f : Nat → Nat → Int32} {g : Nat → Nat → Int64} {h1 h2 : Nat} {o : Nat} (h17 : 17 ≤ o) (hK : KK[o]? = some (.inl 7)) : Rn sc d 160 21 L (.ref o :: st) (cS f g h1 h2) r ↔ Rn sc d 160 24 L (.int (f o 37) :: st) (cS f g h1 h2) r := r_getI d160_21 (ci := 7) (k := 37) (by decide +kernel) (by decide +kernel) (fun _ => rfl) h17 hK
theorem d160_24 : decode (mC 160) 24 = .ok (.istore_n 2, 1) := by decide +kernel
theorem x160_24 {sc : aSc} {d : Nat} {r : aRes} {a0 : Value} {x1 : Int32} {a2 : Value} {st : List Value} {σ : aS} {y : Int32} : Rn sc d 160 24 [a0, .int x1, a2] (.int y :: st) σ r ↔ Rn sc d 160 25 [a0, .int x1, .int y] st σ r := r_istore_n d160_24 (Nat.le_of_ble_eq_true rfl) rfl
theorem d160_25 : decode (mC 160) 25 = .ok (.aload_n 0, 1) := by decide +kernel
theorem x160_25 {sc : aSc} {d : Nat} {r : aRes} {x0 : Nat} {a1 : Value} {a2 : Value} {st : List Value} {σ : aS} : Rn sc d 160 25 [.ref x0, a1, a2] st σ r ↔ Rn sc d 160 26 [.ref x0, a1, a2] (.ref x0 :: st) σ r := r_aload_n d160_25 rfl
theorem d160_26 : decode (mC 160) 26 = .ok (.iload_n 1, 1) := by decide +kernel
theorem x160_26 {sc : aSc} {d : Nat} {r : aRes} {a0 : Value} {x1 : Int32} {a2 : Value} {st : List Value} {σ : aS} : Rn sc d 160 26 [a0, .int x1, a2] st σ r ↔ Rn sc d 160 27 [a0, .int x1, a2] (.int x1 :: st) σ r := r_iload_n d160_26 rfl
theorem d160_27 : decode (mC 160) 27 = .ok (.putfield 123, 3) := by decide +kernel
theorem x160_27 {sc : aSc} {d : Nat} {r : aRes} {L : List Value} {st : List Value} {f : Nat → Nat → Int32} {g : Nat → Nat → Int64} {h1 h2 : Nat} {o : Nat} {v : Int32} (h17 : 17 ≤ o) (hK : KK[o]? = some (.inl 7)) : Rn sc d 160 27 L (.int v :: .ref o :: st) (cS f g h1 h2) r ↔ Rn sc d 160 30 L st (cS (u2 f o 37 v) g h1 h2) r := r_putI d160_27 (ci := 7) (k := 37) (by decide +kernel) (by decide +kernel) h17 hK
theorem d160_30 : decode (mC 160) 30 = .ok (.iload_n 2, 1) := by decide +kernel
theorem x160_30 {sc : aSc} {d : Nat} {r : aRes} {a0 : Value} {a1 : Value} {x2 : Int32} {st : List Value} {σ : aS} : Rn sc d 160 30 [a0, a1, .int x2] st σ r ↔ Rn sc d 160 31 [a0, a1, .int x2] (.int x2 :: st) σ r := r_iload_n d160_30 rfl
theorem d160_31 : decode (mC 160) 31 = .ok (.ireturn, 1) := by decide +kernel
theorem x160_31 {sc : aSc} {d : Nat} {r : aRes} {L : List Value} {σ : aS} {x : Int32} : Rn sc d 160 31 L [.int x] σ r ↔ r = (σ, some (.int x)) := r_iret d160_31 rfl rfl
theorem d161_0 : decode (mC 161) 0 = .ok (.aload_n 0, 1) := by decide +kernel
theorem x161_0 {sc : aSc} {d : Nat} {r : aRes} {x0 : Nat} {a1 : Value} {a2 : Value} {st : List Value} {σ : aS} : Rn sc d 161 0 [.ref x0, a1, a2] st σ r ↔ Rn sc d 161 1 [.ref x0, a1, a2] (.ref x0 :: st) σ r := r_aload_n d161_0 rfl
theorem d161_1 : decode (mC 161) 1 = .ok (.iload_n 2, 1) := by decide +kernel
theorem x161_1 {sc : aSc} {d : Nat} {r : aRes} {a0 : Value} {a1 : Value} {x2 : Int32} {st : List Value} {σ : aS} : Rn sc d 161 1 [a0, a1, .int x2] st σ r ↔ Rn sc d 161 2 [a0, a1, .int x2] (.int x2 :: st) σ r := r_iload_n d161_1 rfl
theorem d161_2 : decode (mC 161) 2 = .ok (.iconst 0, 1) := by decide +kernel
theorem x161_2 {sc : aSc} {d : Nat} {r : aRes} {L : List Value} {st : List Value} {σ : aS} : Rn sc d 161 2 L st σ r ↔ Rn sc d 161 3 L (.int 0 :: st) σ r := r_iconst d161_2 (by decide)
theorem d161_3 : decode (mC 161) 3 = .ok (.iconst 1, 1) := by decide +kernel
theorem x161_3 {sc : aSc} {d : Nat} {r : aRes} {L : List Value} {st : List Value} {σ : aS} : Rn sc d 161 3 L st σ r ↔ Rn sc d 161 4 L (.int 1 :: st) σ r := r_iconst d161_3 (by decide)
theorem d161_4 : decode (mC 161) 4 = .ok (.invokevirtual 227, 3) := by decide +kernel
theorem x161_4 {sc : aSc} {d : Nat} {r : aRes} {L : List Value} {f : Nat → Nat → Int32} {g : Nat → Nat → Int64} {h1 h2 : Nat} {y0 : Int32} {y1 : Int32} {y2 : Int32}  {o : Nat} (hK : KK[o]? = some (.inl 7)) : Rn sc d 161 4 L [.int y0, .int y1, .int y2, .ref o] (cS f g h1 h2) r ↔ ∃ (σ3 : aS) (v : Option Value), Cl sc d 108 [.ref o, .int y2, .int y1, .int y0] (cS f g h1 h2) (σ3, v) ∧ Rn sc d 161 7 L (v.toList ++ []) σ3 r := r_callV (vs := [.int y0, .int y1, .int y2]) d161_4 (j := 108) (by decide +kernel) ⟨rfl, by decide, rfl, rfl⟩ (Nat.le_of_ble_eq_true rfl) hK
theorem d161_7 : decode (mC 161) 7 = .ok (.ifCond .ne 5, 3) := by decide +kernel
theorem x161_7 {sc : aSc} {d : Nat} {r : aRes} {L : List Value} {st : List Value} {σ : aS} {x : Int32} : Rn sc d 161 7 L (.int x :: st) σ r ↔ if x = 0 then Rn sc d 161 10 L st σ r else Rn sc d 161 12 L st σ r := r_if_ne d161_7 rfl
theorem d161_10 : decode (mC 161) 10 = .ok (.iconst (-1), 1) := by decide +kernel
theorem x161_10 {sc : aSc} {d : Nat} {r : aRes} {L : List Value} {st : List Value} {σ : aS} : Rn sc d 161 10 L st σ r ↔ Rn sc d 161 11 L (.int (-1) :: st) σ r := r_iconst d161_10 (by decide)
theorem d161_11 : decode (mC 161) 11 = .ok (.ireturn, 1) := by decide +kernel
theorem x161_11 {sc : aSc} {d : Nat} {r : aRes} {L : List Value} {σ : aS} {x : Int32} : Rn sc d 161 11 L [.int x] σ r ↔ r = (σ, some (.int x)) := r_iret d161_11 rfl rfl
theorem d161_12 : decode (mC 161) 12 = .ok (.aload_n 0, 1) := by decide +kernel
theorem x161_12 {sc : aSc} {d : Nat} {r : aRes} {x0 : Nat} {a1 : Value} {a2 : Value} {st : List Value} {σ : aS} : Rn sc d 161 12 [.ref x0, a1, a2] st σ r ↔ Rn sc d 161 13 [.ref x0, a1, a2] (.ref x0 :: st) σ r := r_aload_n d161_12 rfl
theorem d161_13 : decode (mC 161) 13 = .ok (.iload_n 1, 1) := by decide +kernel
theorem x161_13 {sc : aSc} {d : Nat} {r : aRes} {a0 : Value} {x1 : Int32} {a2 : Value} {st : List Value} {σ : aS} : Rn sc d 161 13 [a0, .int x1, a2] st σ r ↔ Rn sc d 161 14 [a0, .int x1, a2] (.int x1 :: st) σ r := r_iload_n d161_13 rfl
theorem d161_14 : decode (mC 161) 14 = .ok (.iconst 0, 1) := by decide +kernel
theorem x161_14 {sc : aSc} {d : Nat} {r : aRes} {L : List Value} {st : List Value} {σ : aS} : Rn sc d 161 14 L st σ r ↔ Rn sc d 161 15 L (.int 0 :: st) σ r := r_iconst d161_14 (by decide)
theorem d161_15 : decode (mC 161) 15 = .ok (.iconst 3, 1) := by decide +kernel
theorem x161_15 {sc : aSc} {d : Nat} {r : aRes} {L : List Value} {st : List Value} {σ : aS} : Rn sc d 161 15 L st σ r ↔ Rn sc d 161 16 L (.int 3 :: st) σ r := r_iconst d161_15 (by decide)
theorem d161_16 : decode (mC 161) 16 = .ok (.invokevirtual 227, 3) := by decide +kernel
theorem x161_16 {sc : aSc} {d : Nat} {r : aRes} {L : List Value} {f : Nat → Nat → Int32} {g : Nat → Nat → Int64} {h1 h2 : Nat} {y0 : Int32} {y1 : Int32} {y2 : Int32}  {o : Nat} (hK : KK[o]? = some (.inl 7)) : Rn sc d 161 16 L [.int y0, .int y1, .int y2, .ref o] (cS f g h1 h2) r ↔ ∃ (σ3 : aS) (v : Option Value), Cl sc d 108 [.ref o, .int y2, .int y1, .int y0] (cS f g h1 h2) (σ3, v) ∧ Rn sc d 161 19 L (v.toList ++ []) σ3 r := r_callV (vs := [.int y0, .int y1, .int y2]) d161_16 (j := 108) (by decide +kernel) ⟨rfl, by decide, rfl, rfl⟩ (Nat.le_of_ble_eq_true rfl) hK
theorem d161_19 : decode (mC 161) 19 = .ok (.ifCond .ne 6, 3) := by decide +kernel
theorem x161_19 {sc : aSc} {d : Nat} {r : aRes} {L : List Value} {st : List Value} {σ : aS} {x : Int32} : Rn sc d 161 19 L (.int x :: st) σ r ↔ if x = 0 then Rn sc d 161 22 L st σ r else Rn sc d 161 25 L st σ r := r_if_ne d161_19 rfl
theorem d161_22 : decode (mC 161) 22 = .ok (.bipush (-2), 2) := by decide +kernel
theorem x161_22 {sc : aSc} {d : Nat} {r : aRes} {L : List Value} {st : List Value} {σ : aS} : Rn sc d 161 22 L st σ r ↔ Rn sc d 161 24 L (.int (-2) :: st) σ r := r_bipush d161_22 (by decide)
theorem d161_24 : decode (mC 161) 24 = .ok (.ireturn, 1) := by decide +kernel
theorem x161_24 {sc : aSc} {d : Nat} {r : aRes} {L : List Value} {σ : aS} {x : Int32} : Rn sc d 161 24 L [.int x] σ r ↔ r = (σ, some (.int x)) := r_iret d161_24 rfl rfl
theorem d161_25 : decode (mC 161) 25 = .ok (.aload_n 0, 1) := by decide +kernel
theorem x161_25 {sc : aSc} {d : Nat} {r : aRes} {x0 : Nat} {a1 : Value} {a2 : Value} {st : List Value} {σ : aS} : Rn sc d 161 25 [.ref x0, a1, a2] st σ r ↔ Rn sc d 161 26 [.ref x0, a1, a2] (.ref x0 :: st) σ r := r_aload_n d161_25 rfl
theorem d161_26 : decode (mC 161) 26 = .ok (.iload_n 1, 1) := by decide +kernel
theorem x161_26 {sc : aSc} {d : Nat} {r : aRes} {a0 : Value} {x1 : Int32} {a2 : Value} {st : List Value} {σ : aS} : Rn sc d 161 26 [a0, .int x1, a2] st σ r ↔ Rn sc d 161 27 [a0, .int x1, a2] (.int x1 :: st) σ r := r_iload_n d161_26 rfl
theorem d161_27 : decode (mC 161) 27 = .ok (.aload_n 0, 1) := by decide +kernel
theorem x161_27 {sc : aSc} {d : Nat} {r : aRes} {x0 : Nat} {a1 : Value} {a2 : Value} {st : List Value} {σ : aS} : Rn sc d 161 27 [.ref x0, a1, a2] st σ r ↔ Rn sc d 161 28 [.ref x0, a1, a2] (.ref x0 :: st) σ r := r_aload_n d161_27 rfl
theorem d161_28 : decode (mC 161) 28 = .ok (.getfield 123, 3) := by decide +kernel
theorem x161_28 {sc : aSc} {d : Nat} {r : aRes} {L : List Value} {st : List Value} {f : Nat → Nat → Int32} {g : Nat → Nat → Int64} {h1 h2 : Nat} {o : Nat} (h17 : 17 ≤ o) (hK : KK[o]? = some (.inl 7)) : Rn sc d 161 28 L (.ref o :: st) (cS f g h1 h2) r ↔ Rn sc d 161 31 L (.int (f o 37) :: st) (cS f g h1 h2) r := r_getI d161_28 (ci := 7) (k := 37) (by decide +kernel) (by decide +kernel) (fun _ => rfl) h17 hK
theorem d161_31 : decode (mC 161) 31 = .ok (.invokevirtual 344, 3) := by decide +kernel
theorem x161_31 {sc : aSc} {d : Nat} {r : aRes} {L : List Value} {f : Nat → Nat → Int32} {g : Nat → Nat → Int64} {h1 h2 : Nat} {y0 : Int32} {y1 : Int32}  {o : Nat} (hK : KK[o]? = some (.inl 7)) : Rn sc d 161 31 L [.int y0, .int y1, .ref o] (cS f g h1 h2) r ↔ ∃ (σ3 : aS) (v : Option Value), Cl sc d 158 [.ref o, .int y1, .int y0] (cS f g h1 h2) (σ3, v) ∧ Rn sc d 161 34 L (v.toList ++ []) σ3 r := r_callV (vs := [.int y0, .int y1]) d161_31 (j := 158) (by decide +kernel) ⟨rfl, by decide, rfl, rfl⟩ (Nat.le_of_ble_eq_true rfl) hK
theorem d161_34 : decode (mC 161) 34 = .ok (.iload_n 2, 1) := by decide +kernel
theorem x161_34 {sc : aSc} {d : Nat} {r : aRes} {a0 : Value} {a1 : Value} {x2 : Int32} {st : List Value} {σ : aS} : Rn sc d 161 34 [a0, a1, .int x2] st σ r ↔ Rn sc d 161 35 [a0, a1, .int x2] (.int x2 :: st) σ r := r_iload_n d161_34 rfl
theorem d161_35 : decode (mC 161) 35 = .ok (.ifCond .ne 10, 3) := by decide +kernel
theorem x161_35 {sc : aSc} {d : Nat} {r : aRes} {L : List Value} {st : List Value} {σ : aS} {x : Int32} : Rn sc d 161 35 L (.int x :: st) σ r ↔ if x = 0 then Rn sc d 161 38 L st σ r else Rn sc d 161 45 L st σ r := r_if_ne d161_35 rfl
theorem d161_38 : decode (mC 161) 38 = .ok (.aload_n 0, 1) := by decide +kernel
theorem x161_38 {sc : aSc} {d : Nat} {r : aRes} {x0 : Nat} {a1 : Value} {a2 : Value} {st : List Value} {σ : aS} : Rn sc d 161 38 [.ref x0, a1, a2] st σ r ↔ Rn sc d 161 39 [.ref x0, a1, a2] (.ref x0 :: st) σ r := r_aload_n d161_38 rfl
theorem d161_39 : decode (mC 161) 39 = .ok (.getfield 114, 3) := by decide +kernel
theorem x161_39 {sc : aSc} {d : Nat} {r : aRes} {L : List Value} {st : List Value} {f : Nat → Nat → Int32} {g : Nat → Nat → Int64} {h1 h2 : Nat} {o : Nat} (h17 : 17 ≤ o) (hK : KK[o]? = some (.inl 7)) : Rn sc d 161 39 L (.ref o :: st) (cS f g h1 h2) r ↔ Rn sc d 161 42 L (.int (f o 34) :: st) (cS f g h1 h2) r := r_getI d161_39 (ci := 7) (k := 34) (by decide +kernel) (by decide +kernel) (fun _ => rfl) h17 hK
theorem d161_42 : decode (mC 161) 42 = .ok (.goto 7, 3) := by decide +kernel
theorem x161_42 {sc : aSc} {d : Nat} {r : aRes} {L : List Value} {st : List Value} {σ : aS} : Rn sc d 161 42 L st σ r ↔ Rn sc d 161 49 L st σ r := r_goto d161_42 rfl
theorem d161_45 : decode (mC 161) 45 = .ok (.aload_n 0, 1) := by decide +kernel
theorem x161_45 {sc : aSc} {d : Nat} {r : aRes} {x0 : Nat} {a1 : Value} {a2 : Value} {st : List Value} {σ : aS} : Rn sc d 161 45 [.ref x0, a1, a2] st σ r ↔ Rn sc d 161 46 [.ref x0, a1, a2] (.ref x0 :: st) σ r := r_aload_n d161_45 rfl
theorem d161_46 : decode (mC 161) 46 = .ok (.getfield 117, 3) := by decide +kernel
theorem x161_46 {sc : aSc} {d : Nat} {r : aRes} {L : List Value} {st : List Value} {f : Nat → Nat → Int32} {g : Nat → Nat → Int64} {h1 h2 : Nat} {o : Nat} (h17 : 17 ≤ o) (hK : KK[o]? = some (.inl 7)) : Rn sc d 161 46 L (.ref o :: st) (cS f g h1 h2) r ↔ Rn sc d 161 49 L (.int (f o 35) :: st) (cS f g h1 h2) r := r_getI d161_46 (ci := 7) (k := 35) (by decide +kernel) (by decide +kernel) (fun _ => rfl) h17 hK
theorem d161_49 : decode (mC 161) 49 = .ok (.ireturn, 1) := by decide +kernel
theorem x161_49 {sc : aSc} {d : Nat} {r : aRes} {L : List Value} {σ : aS} {x : Int32} : Rn sc d 161 49 L [.int x] σ r ↔ r = (σ, some (.int x)) := r_iret d161_49 rfl rfl
theorem d162_0 : decode (mC 162) 0 = .ok (.aload_n 0, 1) := by decide +kernel
theorem x162_0 {sc : aSc} {d : Nat} {r : aRes} {x0 : Nat} {a1 : Value} {a2 : Value} {a3 : Value} {a4 : Value} {a5 : Value} {a6 : Value} {st : List Value} {σ : aS} : Rn sc d 162 0 [.ref x0, a1, a2, a3, a4, a5, a6] st σ r ↔ Rn sc d 162 1 [.ref x0, a1, a2, a3, a4, a5, a6] (.ref x0 :: st) σ r := r_aload_n d162_0 rfl
theorem d162_1 : decode (mC 162) 1 = .ok (.invokevirtual 319, 3) := by decide +kernel
theorem x162_1 {sc : aSc} {d : Nat} {r : aRes} {L : List Value} {f : Nat → Nat → Int32} {g : Nat → Nat → Int64} {h1 h2 : Nat}   {o : Nat} (hK : KK[o]? = some (.inl 7)) : Rn sc d 162 1 L [.ref o] (cS f g h1 h2) r ↔ ∃ (σ3 : aS) (v : Option Value), Cl sc d 143 [.ref o] (cS f g h1 h2) (σ3, v) ∧ Rn sc d 162 4 L (v.toList ++ []) σ3 r := r_callV (vs := []) d162_1 (j := 143) (by decide +kernel) ⟨rfl, by decide, rfl, rfl⟩ (Nat.le_of_ble_eq_true rfl) hK
theorem d162_4 : decode (mC 162) 4 = .ok (.istore 5, 2) := by decide +kernel
theorem x162_4 {sc : aSc} {d : Nat} {r : aRes} {a0 : Value} {a1 : Value} {a2 : Value} {a3 : Value} {x4 : Int32} {a5 : Value} {a6 : Value} {st : List Value} {σ : aS} {y : Int32} : Rn sc d 162 4 [a0, a1, a2, a3, .int x4, a5, a6] (.int y :: st) σ r ↔ Rn sc d 162 6 [a0, a1, a2, a3, .int x4, .int y, a6] st σ r := r_istore d162_4 (Nat.le_of_ble_eq_true rfl) rfl
theorem d162_6 : decode (mC 162) 6 = .ok (.aload_n 0, 1) := by decide +kernel
theorem x162_6 {sc : aSc} {d : Nat} {r : aRes} {x0 : Nat} {a1 : Value} {a2 : Value} {a3 : Value} {a4 : Value} {a5 : Value} {a6 : Value} {st : List Value} {σ : aS} : Rn sc d 162 6 [.ref x0, a1, a2, a3, a4, a5, a6] st σ r ↔ Rn sc d 162 7 [.ref x0, a1, a2, a3, a4, a5, a6] (.ref x0 :: st) σ r := r_aload_n d162_6 rfl
theorem d162_7 : decode (mC 162) 7 = .ok (.iload_n 1, 1) := by decide +kernel
theorem x162_7 {sc : aSc} {d : Nat} {r : aRes} {a0 : Value} {x1 : Int32} {a2 : Value} {a3 : Value} {a4 : Value} {a5 : Value} {a6 : Value} {st : List Value} {σ : aS} : Rn sc d 162 7 [a0, .int x1, a2, a3, a4, a5, a6] st σ r ↔ Rn sc d 162 8 [a0, .int x1, a2, a3, a4, a5, a6] (.int x1 :: st) σ r := r_iload_n d162_7 rfl
theorem d162_8 : decode (mC 162) 8 = .ok (.iload_n 2, 1) := by decide +kernel
theorem x162_8 {sc : aSc} {d : Nat} {r : aRes} {a0 : Value} {a1 : Value} {x2 : Int32} {a3 : Value} {a4 : Value} {a5 : Value} {a6 : Value} {st : List Value} {σ : aS} : Rn sc d 162 8 [a0, a1, .int x2, a3, a4, a5, a6] st σ r ↔ Rn sc d 162 9 [a0, a1, .int x2, a3, a4, a5, a6] (.int x2 :: st) σ r := r_iload_n d162_8 rfl
theorem d162_9 : decode (mC 162) 9 = .ok (.invokevirtual 328, 3) := by decide +kernel
theorem x162_9 {sc : aSc} {d : Nat} {r : aRes} {L : List Value} {f : Nat → Nat → Int32} {g : Nat → Nat → Int64} {h1 h2 : Nat} {y0 : Int32} {y1 : Int32}  {o : Nat} (hK : KK[o]? = some (.inl 7)) : Rn sc d 162 9 L [.int y0, .int y1, .ref o] (cS f g h1 h2) r ↔ ∃ (σ3 : aS) (v : Option Value), Cl sc d 142 [.ref o, .int y1, .int y0] (cS f g h1 h2) (σ3, v) ∧ Rn sc d 162 12 L (v.toList ++ []) σ3 r := r_callV (vs := [.int y0, .int y1]) d162_9 (j := 142) (by decide +kernel) ⟨rfl, by decide, rfl, rfl⟩ (Nat.le_of_ble_eq_true rfl) hK
theorem d162_12 : decode (mC 162) 12 = .ok (.aload_n 0, 1) := by decide +kernel
theorem x162_12 {sc : aSc} {d : Nat} {r : aRes} {x0 : Nat} {a1 : Value} {a2 : Value} {a3 : Value} {a4 : Value} {a5 : Value} {a6 : Value} {st : List Value} {σ : aS} : Rn sc d 162 12 [.ref x0, a1, a2, a3, a4, a5, a6] st σ r ↔ Rn sc d 162 13 [.ref x0, a1, a2, a3, a4, a5, a6] (.ref x0 :: st) σ r := r_aload_n d162_12 rfl
theorem d162_13 : decode (mC 162) 13 = .ok (.iload_n 3, 1) := by decide +kernel
theorem x162_13 {sc : aSc} {d : Nat} {r : aRes} {a0 : Value} {a1 : Value} {a2 : Value} {x3 : Int32} {a4 : Value} {a5 : Value} {a6 : Value} {st : List Value} {σ : aS} : Rn sc d 162 13 [a0, a1, a2, .int x3, a4, a5, a6] st σ r ↔ Rn sc d 162 14 [a0, a1, a2, .int x3, a4, a5, a6] (.int x3 :: st) σ r := r_iload_n d162_13 rfl
theorem d162_14 : decode (mC 162) 14 = .ok (.iload 4, 2) := by decide +kernel
theorem x162_14 {sc : aSc} {d : Nat} {r : aRes} {a0 : Value} {a1 : Value} {a2 : Value} {a3 : Value} {x4 : Int32} {a5 : Value} {a6 : Value} {st : List Value} {σ : aS} : Rn sc d 162 14 [a0, a1, a2, a3, .int x4, a5, a6] st σ r ↔ Rn sc d 162 16 [a0, a1, a2, a3, .int x4, a5, a6] (.int x4 :: st) σ r := r_iload d162_14 rfl
theorem d162_16 : decode (mC 162) 16 = .ok (.invokevirtual 328, 3) := by decide +kernel
theorem x162_16 {sc : aSc} {d : Nat} {r : aRes} {L : List Value} {f : Nat → Nat → Int32} {g : Nat → Nat → Int64} {h1 h2 : Nat} {y0 : Int32} {y1 : Int32}  {o : Nat} (hK : KK[o]? = some (.inl 7)) : Rn sc d 162 16 L [.int y0, .int y1, .ref o] (cS f g h1 h2) r ↔ ∃ (σ3 : aS) (v : Option Value), Cl sc d 142 [.ref o, .int y1, .int y0] (cS f g h1 h2) (σ3, v) ∧ Rn sc d 162 19 L (v.toList ++ []) σ3 r := r_callV (vs := [.int y0, .int y1]) d162_16 (j := 142) (by decide +kernel) ⟨rfl, by decide, rfl, rfl⟩ (Nat.le_of_ble_eq_true rfl) hK
theorem d162_19 : decode (mC 162) 19 = .ok (.aload_n 0, 1) := by decide +kernel
theorem x162_19 {sc : aSc} {d : Nat} {r : aRes} {x0 : Nat} {a1 : Value} {a2 : Value} {a3 : Value} {a4 : Value} {a5 : Value} {a6 : Value} {st : List Value} {σ : aS} : Rn sc d 162 19 [.ref x0, a1, a2, a3, a4, a5, a6] st σ r ↔ Rn sc d 162 20 [.ref x0, a1, a2, a3, a4, a5, a6] (.ref x0 :: st) σ r := r_aload_n d162_19 rfl
theorem d162_20 : decode (mC 162) 20 = .ok (.invokevirtual 319, 3) := by decide +kernel
theorem x162_20 {sc : aSc} {d : Nat} {r : aRes} {L : List Value} {f : Nat → Nat → Int32} {g : Nat → Nat → Int64} {h1 h2 : Nat}   {o : Nat} (hK : KK[o]? = some (.inl 7)) : Rn sc d 162 20 L [.ref o] (cS f g h1 h2) r ↔ ∃ (σ3 : aS) (v : Option Value), Cl sc d 143 [.ref o] (cS f g h1 h2) (σ3, v) ∧ Rn sc d 162 23 L (v.toList ++ []) σ3 r := r_callV (vs := []) d162_20 (j := 143) (by decide +kernel) ⟨rfl, by decide, rfl, rfl⟩ (Nat.le_of_ble_eq_true rfl) hK
theorem d162_23 : decode (mC 162) 23 = .ok (.iload 5, 2) := by decide +kernel
theorem x162_23 {sc : aSc} {d : Nat} {r : aRes} {a0 : Value} {a1 : Value} {a2 : Value} {a3 : Value} {a4 : Value} {x5 : Int32} {a6 : Value} {st : List Value} {σ : aS} : Rn sc d 162 23 [a0, a1, a2, a3, a4, .int x5, a6] st σ r ↔ Rn sc d 162 25 [a0, a1, a2, a3, a4, .int x5, a6] (.int x5 :: st) σ r := r_iload d162_23 rfl
theorem d162_25 : decode (mC 162) 25 = .ok (.isub, 1) := by decide +kernel
theorem x162_25 {sc : aSc} {d : Nat} {r : aRes} {L : List Value} {st : List Value} {σ : aS} {x y : Int32} : Rn sc d 162 25 L (.int y :: .int x :: st) σ r ↔ Rn sc d 162 26 L (.int (x - y) :: st) σ r := r_isub d162_25
theorem d162_26 : decode (mC 162) 26 = .ok (.istore 6, 2) := by decide +kernel
theorem x162_26 {sc : aSc} {d : Nat} {r : aRes} {a0 : Value} {a1 : Value} {a2 : Value} {a3 : Value} {a4 : Value} {x5 : Int32} {a6 : Value} {st : List Value} {σ : aS} {y : Int32} : Rn sc d 162 26 [a0, a1, a2, a3, a4, .int x5, a6] (.int y :: st) σ r ↔ Rn sc d 162 28 [a0, a1, a2, a3, a4, .int x5, .int y] st σ r := r_istore d162_26 (Nat.le_of_ble_eq_true rfl) rfl
theorem d162_28 : decode (mC 162) 28 = .ok (.aload_n 0, 1) := by decide +kernel
theorem x162_28 {sc : aSc} {d : Nat} {r : aRes} {x0 : Nat} {a1 : Value} {a2 : Value} {a3 : Value} {a4 : Value} {a5 : Value} {a6 : Value} {st : List Value} {σ : aS} : Rn sc d 162 28 [.ref x0, a1, a2, a3, a4, a5, a6] st σ r ↔ Rn sc d 162 29 [.ref x0, a1, a2, a3, a4, a5, a6] (.ref x0 :: st) σ r := r_aload_n d162_28 rfl
theorem d162_29 : decode (mC 162) 29 = .ok (.iload_n 1, 1) := by decide +kernel
theorem x162_29 {sc : aSc} {d : Nat} {r : aRes} {a0 : Value} {x1 : Int32} {a2 : Value} {a3 : Value} {a4 : Value} {a5 : Value} {a6 : Value} {st : List Value} {σ : aS} : Rn sc d 162 29 [a0, .int x1, a2, a3, a4, a5, a6] st σ r ↔ Rn sc d 162 30 [a0, .int x1, a2, a3, a4, a5, a6] (.int x1 :: st) σ r := r_iload_n d162_29 rfl
theorem d162_30 : decode (mC 162) 30 = .ok (.iload_n 2, 1) := by decide +kernel
theorem x162_30 {sc : aSc} {d : Nat} {r : aRes} {a0 : Value} {a1 : Value} {x2 : Int32} {a3 : Value} {a4 : Value} {a5 : Value} {a6 : Value} {st : List Value} {σ : aS} : Rn sc d 162 30 [a0, a1, .int x2, a3, a4, a5, a6] st σ r ↔ Rn sc d 162 31 [a0, a1, .int x2, a3, a4, a5, a6] (.int x2 :: st) σ r := r_iload_n d162_30 rfl
theorem d162_31 : decode (mC 162) 31 = .ok (.invokevirtual 328, 3) := by decide +kernel
theorem x162_31 {sc : aSc} {d : Nat} {r : aRes} {L : List Value} {f : Nat → Nat → Int32} {g : Nat → Nat → Int64} {h1 h2 : Nat} {y0 : Int32} {y1 : Int32}  {o : Nat} (hK : KK[o]? = some (.inl 7)) : Rn sc d 162 31 L [.int y0, .int y1, .ref o] (cS f g h1 h2) r ↔ ∃ (σ3 : aS) (v : Option Value), Cl sc d 142 [.ref o, .int y1, .int y0] (cS f g h1 h2) (σ3, v) ∧ Rn sc d 162 34 L (v.toList ++ []) σ3 r := r_callV (vs := [.int y0, .int y1]) d162_31 (j := 142) (by decide +kernel) ⟨rfl, by decide, rfl, rfl⟩ (Nat.le_of_ble_eq_true rfl) hK
theorem d162_34 : decode (mC 162) 34 = .ok (.aload_n 0, 1) := by decide +kernel
theorem x162_34 {sc : aSc} {d : Nat} {r : aRes} {x0 : Nat} {a1 : Value} {a2 : Value} {a3 : Value} {a4 : Value} {a5 : Value} {a6 : Value} {st : List Value} {σ : aS} : Rn sc d 162 34 [.ref x0, a1, a2, a3, a4, a5, a6] st σ r ↔ Rn sc d 162 35 [.ref x0, a1, a2, a3, a4, a5, a6] (.ref x0 :: st) σ r := r_aload_n d162_34 rfl
theorem d162_35 : decode (mC 162) 35 = .ok (.iload_n 3, 1) := by decide +kernel
theorem x162_35 {sc : aSc} {d : Nat} {r : aRes} {a0 : Value} {a1 : Value} {a2 : Value} {x3 : Int32} {a4 : Value} {a5 : Value} {a6 : Value} {st : List Value} {σ : aS} : Rn sc d 162 35 [a0, a1, a2, .int x3, a4, a5, a6] st σ r ↔ Rn sc d 162 36 [a0, a1, a2, .int x3, a4, a5, a6] (.int x3 :: st) σ r := r_iload_n d162_35 rfl
theorem d162_36 : decode (mC 162) 36 = .ok (.iload 4, 2) := by decide +kernel
theorem x162_36 {sc : aSc} {d : Nat} {r : aRes} {a0 : Value} {a1 : Value} {a2 : Value} {a3 : Value} {x4 : Int32} {a5 : Value} {a6 : Value} {st : List Value} {σ : aS} : Rn sc d 162 36 [a0, a1, a2, a3, .int x4, a5, a6] st σ r ↔ Rn sc d 162 38 [a0, a1, a2, a3, .int x4, a5, a6] (.int x4 :: st) σ r := r_iload d162_36 rfl
theorem d162_38 : decode (mC 162) 38 = .ok (.invokevirtual 328, 3) := by decide +kernel
theorem x162_38 {sc : aSc} {d : Nat} {r : aRes} {L : List Value} {f : Nat → Nat → Int32} {g : Nat → Nat → Int64} {h1 h2 : Nat} {y0 : Int32} {y1 : Int32}  {o : Nat} (hK : KK[o]? = some (.inl 7)) : Rn sc d 162 38 L [.int y0, .int y1, .ref o] (cS f g h1 h2) r ↔ ∃ (σ3 : aS) (v : Option Value), Cl sc d 142 [.ref o, .int y1, .int y0] (cS f g h1 h2) (σ3, v) ∧ Rn sc d 162 41 L (v.toList ++ []) σ3 r := r_callV (vs := [.int y0, .int y1]) d162_38 (j := 142) (by decide +kernel) ⟨rfl, by decide, rfl, rfl⟩ (Nat.le_of_ble_eq_true rfl) hK
theorem d162_41 : decode (mC 162) 41 = .ok (.aload_n 0, 1) := by decide +kernel
theorem x162_41 {sc : aSc} {d : Nat} {r : aRes} {x0 : Nat} {a1 : Value} {a2 : Value} {a3 : Value} {a4 : Value} {a5 : Value} {a6 : Value} {st : List Value} {σ : aS} : Rn sc d 162 41 [.ref x0, a1, a2, a3, a4, a5, a6] st σ r ↔ Rn sc d 162 42 [.ref x0, a1, a2, a3, a4, a5, a6] (.ref x0 :: st) σ r := r_aload_n d162_41 rfl
theorem d162_42 : decode (mC 162) 42 = .ok (.aload_n 0, 1) := by decide +kernel
theorem x162_42 {sc : aSc} {d : Nat} {r : aRes} {x0 : Nat} {a1 : Value} {a2 : Value} {a3 : Value} {a4 : Value} {a5 : Value} {a6 : Value} {st : List Value} {σ : aS} : Rn sc d 162 42 [.ref x0, a1, a2, a3, a4, a5, a6] st σ r ↔ Rn sc d 162 43 [.ref x0, a1, a2, a3, a4, a5, a6] (.ref x0 :: st) σ r := r_aload_n d162_42 rfl
theorem d162_43 : decode (mC 162) 43 = .ok (.getfield 126, 3) := by decide +kernel
theorem x162_43 {sc : aSc} {d : Nat} {r : aRes} {L : List Value} {st : List Value} {f : Nat → Nat → Int32} {g : Nat → Nat → Int64} {h1 h2 : Nat} {o : Nat} (h17 : 17 ≤ o) (hK : KK[o]? = some (.inl 7)) : Rn sc d 162 43 L (.ref o :: st) (cS f g h1 h2) r ↔ Rn sc d 162 46 L (.int (f o 38) :: st) (cS f g h1 h2) r := r_getI d162_43 (ci := 7) (k := 38) (by decide +kernel) (by decide +kernel) (fun _ => rfl) h17 hK
theorem d162_46 : decode (mC 162) 46 = .ok (.ifCond .eq 12, 3) := by decide +kernel
theorem x162_46 {sc : aSc} {d : Nat} {r : aRes} {L : List Value} {st : List Value} {σ : aS} {x : Int32} : Rn sc d 162 46 L (.int x :: st) σ r ↔ if x = 0 then Rn sc d 162 58 L st σ r else Rn sc d 162 49 L st σ r := r_if_eq d162_46 rfl
theorem d162_49 : decode (mC 162) 49 = .ok (.iload 6, 2) := by decide +kernel
theorem x162_49 {sc : aSc} {d : Nat} {r : aRes} {a0 : Value} {a1 : Value} {a2 : Value} {a3 : Value} {a4 : Value} {a5 : Value} {x6 : Int32} {st : List Value} {σ : aS} : Rn sc d 162 49 [a0, a1, a2, a3, a4, a5, .int x6] st σ r ↔ Rn sc d 162 51 [a0, a1, a2, a3, a4, a5, .int x6] (.int x6 :: st) σ r := r_iload d162_49 rfl
theorem d162_51 : decode (mC 162) 51 = .ok (.aload_n 0, 1) := by decide +kernel
theorem x162_51 {sc : aSc} {d : Nat} {r : aRes} {x0 : Nat} {a1 : Value} {a2 : Value} {a3 : Value} {a4 : Value} {a5 : Value} {a6 : Value} {st : List Value} {σ : aS} : Rn sc d 162 51 [.ref x0, a1, a2, a3, a4, a5, a6] st σ r ↔ Rn sc d 162 52 [.ref x0, a1, a2, a3, a4, a5, a6] (.ref x0 :: st) σ r := r_aload_n d162_51 rfl
theorem d162_52 : decode (mC 162) 52 = .ok (.getfield 129, 3) := by decide +kernel
theorem x162_52 {sc : aSc} {d : Nat} {r : aRes} {L : List Value} {st : List Value} {f : Nat → Nat → Int32} {g : Nat → Nat → Int64} {h1 h2 : Nat} {o : Nat} (h17 : 17 ≤ o) (hK : KK[o]? = some (.inl 7)) : Rn sc d 162 52 L (.ref o :: st) (cS f g h1 h2) r ↔ Rn sc d 162 55 L (.int (f o 39) :: st) (cS f g h1 h2) r := r_getI d162_52 (ci := 7) (k := 39) (by decide +kernel) (by decide +kernel) (fun _ => rfl) h17 hK
theorem d162_55 : decode (mC 162) 55 = .ok (.if_icmp .le 8, 3) := by decide +kernel
theorem x162_55 {sc : aSc} {d : Nat} {r : aRes} {L : List Value} {st : List Value} {σ : aS} {x y : Int32} : Rn sc d 162 55 L (.int y :: .int x :: st) σ r ↔ if y < x then Rn sc d 162 58 L st σ r else Rn sc d 162 63 L st σ r := r_icmp_le d162_55 rfl
theorem d162_58 : decode (mC 162) 58 = .ok (.iload 6, 2) := by decide +kernel
theorem x162_58 {sc : aSc} {d : Nat} {r : aRes} {a0 : Value} {a1 : Value} {a2 : Value} {a3 : Value} {a4 : Value} {a5 : Value} {x6 : Int32} {st : List Value} {σ : aS} : Rn sc d 162 58 [a0, a1, a2, a3, a4, a5, .int x6] st σ r ↔ Rn sc d 162 60 [a0, a1, a2, a3, a4, a5, .int x6] (.int x6 :: st) σ r := r_iload d162_58 rfl
theorem d162_60 : decode (mC 162) 60 = .ok (.goto 7, 3) := by decide +kernel
theorem x162_60 {sc : aSc} {d : Nat} {r : aRes} {L : List Value} {st : List Value} {σ : aS} : Rn sc d 162 60 L st σ r ↔ Rn sc d 162 67 L st σ r := r_goto d162_60 rfl
theorem d162_63 : decode (mC 162) 63 = .ok (.aload_n 0, 1) := by decide +kernel
theorem x162_63 {sc : aSc} {d : Nat} {r : aRes} {x0 : Nat} {a1 : Value} {a2 : Value} {a3 : Value} {a4 : Value} {a5 : Value} {a6 : Value} {st : List Value} {σ : aS} : Rn sc d 162 63 [.ref x0, a1, a2, a3, a4, a5, a6] st σ r ↔ Rn sc d 162 64 [.ref x0, a1, a2, a3, a4, a5, a6] (.ref x0 :: st) σ r := r_aload_n d162_63 rfl
theorem d162_64 : decode (mC 162) 64 = .ok (.getfield 129, 3) := by decide +kernel
theorem x162_64 {sc : aSc} {d : Nat} {r : aRes} {L : List Value} {st : List Value} {f : Nat → Nat → Int32} {g : Nat → Nat → Int64} {h1 h2 : Nat} {o : Nat} (h17 : 17 ≤ o) (hK : KK[o]? = some (.inl 7)) : Rn sc d 162 64 L (.ref o :: st) (cS f g h1 h2) r ↔ Rn sc d 162 67 L (.int (f o 39) :: st) (cS f g h1 h2) r := r_getI d162_64 (ci := 7) (k := 39) (by decide +kernel) (by decide +kernel) (fun _ => rfl) h17 hK
theorem d162_67 : decode (mC 162) 67 = .ok (.putfield 129, 3) := by decide +kernel
theorem x162_67 {sc : aSc} {d : Nat} {r : aRes} {L : List Value} {st : List Value} {f : Nat → Nat → Int32} {g : Nat → Nat → Int64} {h1 h2 : Nat} {o : Nat} {v : Int32} (h17 : 17 ≤ o) (hK : KK[o]? = some (.inl 7)) : Rn sc d 162 67 L (.int v :: .ref o :: st) (cS f g h1 h2) r ↔ Rn sc d 162 70 L st (cS (u2 f o 39 v) g h1 h2) r := r_putI d162_67 (ci := 7) (k := 39) (by decide +kernel) (by decide +kernel) h17 hK
theorem d162_70 : decode (mC 162) 70 = .ok (.aload_n 0, 1) := by decide +kernel
theorem x162_70 {sc : aSc} {d : Nat} {r : aRes} {x0 : Nat} {a1 : Value} {a2 : Value} {a3 : Value} {a4 : Value} {a5 : Value} {a6 : Value} {st : List Value} {σ : aS} : Rn sc d 162 70 [.ref x0, a1, a2, a3, a4, a5, a6] st σ r ↔ Rn sc d 162 71 [.ref x0, a1, a2, a3, a4, a5, a6] (.ref x0 :: st) σ r := r_aload_n d162_70 rfl
theorem d162_71 : decode (mC 162) 71 = .ok (.dup, 1) := by decide +kernel
theorem x162_71 {sc : aSc} {d : Nat} {r : aRes} {L : List Value} {st : List Value} {σ : aS} {y : Nat} : Rn sc d 162 71 L (.ref y :: st) σ r ↔ Rn sc d 162 72 L (.ref y :: .ref y :: st) σ r := r_dup d162_71 rfl
theorem d162_72 : decode (mC 162) 72 = .ok (.getfield 126, 3) := by decide +kernel
theorem x162_72 {sc : aSc} {d : Nat} {r : aRes} {L : List Value} {st : List Value} {f : Nat → Nat → Int32} {g : Nat → Nat → Int64} {h1 h2 : Nat} {o : Nat} (h17 : 17 ≤ o) (hK : KK[o]? = some (.inl 7)) : Rn sc d 162 72 L (.ref o :: st) (cS f g h1 h2) r ↔ Rn sc d 162 75 L (.int (f o 38) :: st) (cS f g h1 h2) r := r_getI d162_72 (ci := 7) (k := 38) (by decide +kernel) (by decide +kernel) (fun _ => rfl) h17 hK
theorem d162_75 : decode (mC 162) 75 = .ok (.iconst 1, 1) := by decide +kernel
theorem x162_75 {sc : aSc} {d : Nat} {r : aRes} {L : List Value} {st : List Value} {σ : aS} : Rn sc d 162 75 L st σ r ↔ Rn sc d 162 76 L (.int 1 :: st) σ r := r_iconst d162_75 (by decide)
theorem d162_76 : decode (mC 162) 76 = .ok (.iadd, 1) := by decide +kernel
theorem x162_76 {sc : aSc} {d : Nat} {r : aRes} {L : List Value} {st : List Value} {σ : aS} {x y : Int32} : Rn sc d 162 76 L (.int y :: .int x :: st) σ r ↔ Rn sc d 162 77 L (.int (x + y) :: st) σ r := r_iadd d162_76
theorem d162_77 : decode (mC 162) 77 = .ok (.putfield 126, 3) := by decide +kernel
theorem x162_77 {sc : aSc} {d : Nat} {r : aRes} {L : List Value} {st : List Value} {f : Nat → Nat → Int32} {g : Nat → Nat → Int64} {h1 h2 : Nat} {o : Nat} {v : Int32} (h17 : 17 ≤ o) (hK : KK[o]? = some (.inl 7)) : Rn sc d 162 77 L (.int v :: .ref o :: st) (cS f g h1 h2) r ↔ Rn sc d 162 80 L st (cS (u2 f o 38 v) g h1 h2) r := r_putI d162_77 (ci := 7) (k := 38) (by decide +kernel) (by decide +kernel) h17 hK
theorem d162_80 : decode (mC 162) 80 = .ok (.return_, 1) := by decide +kernel
theorem x162_80 {sc : aSc} {d : Nat} {r : aRes} {L : List Value} {σ : aS} : Rn sc d 162 80 L [] σ r ↔ r = (σ, none) := r_vret d162_80 rfl
theorem d163_0 : decode (mC 163) 0 = .ok (.iload_n 1, 1) := by decide +kernel
theorem x163_0 {sc : aSc} {d : Nat} {r : aRes} {a0 : Value} {x1 : Int32} {a2 : Value} {a3 : Value} {a4 : Value} {st : List Value} {σ : aS} : Rn sc d 163 0 [a0, .int x1, a2, a3, a4] st σ r ↔ Rn sc d 163 1 [a0, .int x1, a2, a3, a4] (.int x1 :: st) σ r := r_iload_n d163_0 rfl
theorem d163_1 : decode (mC 163) 1 = .ok (.iconst 1, 1) := by decide +kernel
theorem x163_1 {sc : aSc} {d : Nat} {r : aRes} {L : List Value} {st : List Value} {σ : aS} : Rn sc d 163 1 L st σ r ↔ Rn sc d 163 2 L (.int 1 :: st) σ r := r_iconst d163_1 (by decide)
theorem d163_2 : decode (mC 163) 2 = .ok (.iadd, 1) := by decide +kernel
theorem x163_2 {sc : aSc} {d : Nat} {r : aRes} {L : List Value} {st : List Value} {σ : aS} {x y : Int32} : Rn sc d 163 2 L (.int y :: .int x :: st) σ r ↔ Rn sc d 163 3 L (.int (x + y) :: st) σ r := r_iadd d163_2
theorem d163_3 : decode (mC 163) 3 = .ok (.istore_n 3, 1) := by decide +kernel
theorem x163_3 {sc : aSc} {d : Nat} {r : aRes} {a0 : Value} {a1 : Value} {x2 : Int32} {a3 : Value} {a4 : Value} {st : List Value} {σ : aS} {y : Int32} : Rn sc d 163 3 [a0, a1, .int x2, a3, a4] (.int y :: st) σ r ↔ Rn sc d 163 4 [a0, a1, .int x2, .int y, a4] st σ r := r_istore_n d163_3 (Nat.le_of_ble_eq_true rfl) rfl
theorem d163_4 : decode (mC 163) 4 = .ok (.iload_n 3, 1) := by decide +kernel
theorem x163_4 {sc : aSc} {d : Nat} {r : aRes} {a0 : Value} {a1 : Value} {a2 : Value} {x3 : Int32} {a4 : Value} {st : List Value} {σ : aS} : Rn sc d 163 4 [a0, a1, a2, .int x3, a4] st σ r ↔ Rn sc d 163 5 [a0, a1, a2, .int x3, a4] (.int x3 :: st) σ r := r_iload_n d163_4 rfl
theorem d163_5 : decode (mC 163) 5 = .ok (.aload_n 0, 1) := by decide +kernel
theorem x163_5 {sc : aSc} {d : Nat} {r : aRes} {x0 : Nat} {a1 : Value} {a2 : Value} {a3 : Value} {a4 : Value} {st : List Value} {σ : aS} : Rn sc d 163 5 [.ref x0, a1, a2, a3, a4] st σ r ↔ Rn sc d 163 6 [.ref x0, a1, a2, a3, a4] (.ref x0 :: st) σ r := r_aload_n d163_5 rfl
theorem d163_6 : decode (mC 163) 6 = .ok (.getfield 7, 3) := by decide +kernel
theorem x163_6 {sc : aSc} {d : Nat} {r : aRes} {L : List Value} {st : List Value} {f : Nat → Nat → Int32} {g : Nat → Nat → Int64} {h1 h2 : Nat} {o : Nat} (h17 : 17 ≤ o) (hK : KK[o]? = some (.inl 7)) : Rn sc d 163 6 L (.ref o :: st) (cS f g h1 h2) r ↔ Rn sc d 163 9 L (.int (f o 0) :: st) (cS f g h1 h2) r := r_getI d163_6 (ci := 7) (k := 0) rfl (by decide) (fun _ => rfl) h17 hK
theorem d163_9 : decode (mC 163) 9 = .ok (.if_icmp .ge 59, 3) := by decide +kernel
theorem x163_9 {sc : aSc} {d : Nat} {r : aRes} {L : List Value} {st : List Value} {σ : aS} {x y : Int32} : Rn sc d 163 9 L (.int y :: .int x :: st) σ r ↔ if x < y then Rn sc d 163 12 L st σ r else Rn sc d 163 68 L st σ r := r_icmp_ge d163_9 rfl
theorem d163_12 : decode (mC 163) 12 = .ok (.iload_n 3, 1) := by decide +kernel
theorem x163_12 {sc : aSc} {d : Nat} {r : aRes} {a0 : Value} {a1 : Value} {a2 : Value} {x3 : Int32} {a4 : Value} {st : List Value} {σ : aS} : Rn sc d 163 12 [a0, a1, a2, .int x3, a4] st σ r ↔ Rn sc d 163 13 [a0, a1, a2, .int x3, a4] (.int x3 :: st) σ r := r_iload_n d163_12 rfl
theorem d163_13 : decode (mC 163) 13 = .ok (.iconst 1, 1) := by decide +kernel
theorem x163_13 {sc : aSc} {d : Nat} {r : aRes} {L : List Value} {st : List Value} {σ : aS} : Rn sc d 163 13 L st σ r ↔ Rn sc d 163 14 L (.int 1 :: st) σ r := r_iconst d163_13 (by decide)
theorem d163_14 : decode (mC 163) 14 = .ok (.iadd, 1) := by decide +kernel
theorem x163_14 {sc : aSc} {d : Nat} {r : aRes} {L : List Value} {st : List Value} {σ : aS} {x y : Int32} : Rn sc d 163 14 L (.int y :: .int x :: st) σ r ↔ Rn sc d 163 15 L (.int (x + y) :: st) σ r := r_iadd d163_14
theorem d163_15 : decode (mC 163) 15 = .ok (.istore 4, 2) := by decide +kernel
theorem x163_15 {sc : aSc} {d : Nat} {r : aRes} {a0 : Value} {a1 : Value} {a2 : Value} {x3 : Int32} {a4 : Value} {st : List Value} {σ : aS} {y : Int32} : Rn sc d 163 15 [a0, a1, a2, .int x3, a4] (.int y :: st) σ r ↔ Rn sc d 163 17 [a0, a1, a2, .int x3, .int y] st σ r := r_istore d163_15 (Nat.le_of_ble_eq_true rfl) rfl
theorem d163_17 : decode (mC 163) 17 = .ok (.iload 4, 2) := by decide +kernel
theorem x163_17 {sc : aSc} {d : Nat} {r : aRes} {a0 : Value} {a1 : Value} {a2 : Value} {a3 : Value} {x4 : Int32} {st : List Value} {σ : aS} : Rn sc d 163 17 [a0, a1, a2, a3, .int x4] st σ r ↔ Rn sc d 163 19 [a0, a1, a2, a3, .int x4] (.int x4 :: st) σ r := r_iload d163_17 rfl
theorem d163_19 : decode (mC 163) 19 = .ok (.aload_n 0, 1) := by decide +kernel
theorem x163_19 {sc : aSc} {d : Nat} {r : aRes} {x0 : Nat} {a1 : Value} {a2 : Value} {a3 : Value} {a4 : Value} {st : List Value} {σ : aS} : Rn sc d 163 19 [.ref x0, a1, a2, a3, a4] st σ r ↔ Rn sc d 163 20 [.ref x0, a1, a2, a3, a4] (.ref x0 :: st) σ r := r_aload_n d163_19 rfl
theorem d163_20 : decode (mC 163) 20 = .ok (.getfield 7, 3) := by decide +kernel
theorem x163_20 {sc : aSc} {d : Nat} {r : aRes} {L : List Value} {st : List Value} {f : Nat → Nat → Int32} {g : Nat → Nat → Int64} {h1 h2 : Nat} {o : Nat} (h17 : 17 ≤ o) (hK : KK[o]? = some (.inl 7)) : Rn sc d 163 20 L (.ref o :: st) (cS f g h1 h2) r ↔ Rn sc d 163 23 L (.int (f o 0) :: st) (cS f g h1 h2) r := r_getI d163_20 (ci := 7) (k := 0) rfl (by decide) (fun _ => rfl) h17 hK
theorem d163_23 : decode (mC 163) 23 = .ok (.if_icmp .ge 39, 3) := by decide +kernel
theorem x163_23 {sc : aSc} {d : Nat} {r : aRes} {L : List Value} {st : List Value} {σ : aS} {x y : Int32} : Rn sc d 163 23 L (.int y :: .int x :: st) σ r ↔ if x < y then Rn sc d 163 26 L st σ r else Rn sc d 163 62 L st σ r := r_icmp_ge d163_23 rfl
theorem d163_26 : decode (mC 163) 26 = .ok (.iload_n 3, 1) := by decide +kernel
theorem x163_26 {sc : aSc} {d : Nat} {r : aRes} {a0 : Value} {a1 : Value} {a2 : Value} {x3 : Int32} {a4 : Value} {st : List Value} {σ : aS} : Rn sc d 163 26 [a0, a1, a2, .int x3, a4] st σ r ↔ Rn sc d 163 27 [a0, a1, a2, .int x3, a4] (.int x3 :: st) σ r := r_iload_n d163_26 rfl
theorem d163_27 : decode (mC 163) 27 = .ok (.iload_n 2, 1) := by decide +kernel
theorem x163_27 {sc : aSc} {d : Nat} {r : aRes} {a0 : Value} {a1 : Value} {x2 : Int32} {a3 : Value} {a4 : Value} {st : List Value} {σ : aS} : Rn sc d 163 27 [a0, a1, .int x2, a3, a4] st σ r ↔ Rn sc d 163 28 [a0, a1, .int x2, a3, a4] (.int x2 :: st) σ r := r_iload_n d163_27 rfl
theorem d163_28 : decode (mC 163) 28 = .ok (.if_icmp .eq 28, 3) := by decide +kernel
theorem x163_28 {sc : aSc} {d : Nat} {r : aRes} {L : List Value} {st : List Value} {σ : aS} {x y : Int32} : Rn sc d 163 28 L (.int y :: .int x :: st) σ r ↔ if x = y then Rn sc d 163 56 L st σ r else Rn sc d 163 31 L st σ r := r_icmp_eq d163_28 rfl
theorem d163_31 : decode (mC 163) 31 = .ok (.iload 4, 2) := by decide +kernel
theorem x163_31 {sc : aSc} {d : Nat} {r : aRes} {a0 : Value} {a1 : Value} {a2 : Value} {a3 : Value} {x4 : Int32} {st : List Value} {σ : aS} : Rn sc d 163 31 [a0, a1, a2, a3, .int x4] st σ r ↔ Rn sc d 163 33 [a0, a1, a2, a3, .int x4] (.int x4 :: st) σ r := r_iload d163_31 rfl
theorem d163_33 : decode (mC 163) 33 = .ok (.iload_n 2, 1) := by decide +kernel
theorem x163_33 {sc : aSc} {d : Nat} {r : aRes} {a0 : Value} {a1 : Value} {x2 : Int32} {a3 : Value} {a4 : Value} {st : List Value} {σ : aS} : Rn sc d 163 33 [a0, a1, .int x2, a3, a4] st σ r ↔ Rn sc d 163 34 [a0, a1, .int x2, a3, a4] (.int x2 :: st) σ r := r_iload_n d163_33 rfl
theorem d163_34 : decode (mC 163) 34 = .ok (.if_icmp .eq 22, 3) := by decide +kernel
theorem x163_34 {sc : aSc} {d : Nat} {r : aRes} {L : List Value} {st : List Value} {σ : aS} {x y : Int32} : Rn sc d 163 34 L (.int y :: .int x :: st) σ r ↔ if x = y then Rn sc d 163 56 L st σ r else Rn sc d 163 37 L st σ r := r_icmp_eq d163_34 rfl
theorem d163_37 : decode (mC 163) 37 = .ok (.aload_n 0, 1) := by decide +kernel
theorem x163_37 {sc : aSc} {d : Nat} {r : aRes} {x0 : Nat} {a1 : Value} {a2 : Value} {a3 : Value} {a4 : Value} {st : List Value} {σ : aS} : Rn sc d 163 37 [.ref x0, a1, a2, a3, a4] st σ r ↔ Rn sc d 163 38 [.ref x0, a1, a2, a3, a4] (.ref x0 :: st) σ r := r_aload_n d163_37 rfl
theorem d163_38 : decode (mC 163) 38 = .ok (.iload_n 3, 1) := by decide +kernel
theorem x163_38 {sc : aSc} {d : Nat} {r : aRes} {a0 : Value} {a1 : Value} {a2 : Value} {x3 : Int32} {a4 : Value} {st : List Value} {σ : aS} : Rn sc d 163 38 [a0, a1, a2, .int x3, a4] st σ r ↔ Rn sc d 163 39 [a0, a1, a2, .int x3, a4] (.int x3 :: st) σ r := r_iload_n d163_38 rfl
theorem d163_39 : decode (mC 163) 39 = .ok (.iload 4, 2) := by decide +kernel
theorem x163_39 {sc : aSc} {d : Nat} {r : aRes} {a0 : Value} {a1 : Value} {a2 : Value} {a3 : Value} {x4 : Int32} {st : List Value} {σ : aS} : Rn sc d 163 39 [a0, a1, a2, a3, .int x4] st σ r ↔ Rn sc d 163 41 [a0, a1, a2, a3, .int x4] (.int x4 :: st) σ r := r_iload d163_39 rfl
theorem d163_41 : decode (mC 163) 41 = .ok (.invokevirtual 322, 3) := by decide +kernel
theorem x163_41 {sc : aSc} {d : Nat} {r : aRes} {L : List Value} {f : Nat → Nat → Int32} {g : Nat → Nat → Int64} {h1 h2 : Nat} {y0 : Int32} {y1 : Int32}  {o : Nat} (hK : KK[o]? = some (.inl 7)) : Rn sc d 163 41 L [.int y0, .int y1, .ref o] (cS f g h1 h2) r ↔ ∃ (σ3 : aS) (v : Option Value), Cl sc d 141 [.ref o, .int y1, .int y0] (cS f g h1 h2) (σ3, v) ∧ Rn sc d 163 44 L (v.toList ++ []) σ3 r := r_callV (vs := [.int y0, .int y1]) d163_41 (j := 141) (by decide +kernel) ⟨rfl, by decide, rfl, rfl⟩ (Nat.le_of_ble_eq_true rfl) hK
theorem d163_44 : decode (mC 163) 44 = .ok (.ifCond .eq 12, 3) := by decide +kernel
theorem x163_44 {sc : aSc} {d : Nat} {r : aRes} {L : List Value} {st : List Value} {σ : aS} {x : Int32} : Rn sc d 163 44 L (.int x :: st) σ r ↔ if x = 0 then Rn sc d 163 56 L st σ r else Rn sc d 163 47 L st σ r := r_if_eq d163_44 rfl
theorem d163_47 : decode (mC 163) 47 = .ok (.aload_n 0, 1) := by decide +kernel
theorem x163_47 {sc : aSc} {d : Nat} {r : aRes} {x0 : Nat} {a1 : Value} {a2 : Value} {a3 : Value} {a4 : Value} {st : List Value} {σ : aS} : Rn sc d 163 47 [.ref x0, a1, a2, a3, a4] st σ r ↔ Rn sc d 163 48 [.ref x0, a1, a2, a3, a4] (.ref x0 :: st) σ r := r_aload_n d163_47 rfl
theorem d163_48 : decode (mC 163) 48 = .ok (.iload_n 1, 1) := by decide +kernel
theorem x163_48 {sc : aSc} {d : Nat} {r : aRes} {a0 : Value} {x1 : Int32} {a2 : Value} {a3 : Value} {a4 : Value} {st : List Value} {σ : aS} : Rn sc d 163 48 [a0, .int x1, a2, a3, a4] st σ r ↔ Rn sc d 163 49 [a0, .int x1, a2, a3, a4] (.int x1 :: st) σ r := r_iload_n d163_48 rfl
theorem d163_49 : decode (mC 163) 49 = .ok (.iload_n 2, 1) := by decide +kernel
theorem x163_49 {sc : aSc} {d : Nat} {r : aRes} {a0 : Value} {a1 : Value} {x2 : Int32} {a3 : Value} {a4 : Value} {st : List Value} {σ : aS} : Rn sc d 163 49 [a0, a1, .int x2, a3, a4] st σ r ↔ Rn sc d 163 50 [a0, a1, .int x2, a3, a4] (.int x2 :: st) σ r := r_iload_n d163_49 rfl
theorem d163_50 : decode (mC 163) 50 = .ok (.iload_n 3, 1) := by decide +kernel
theorem x163_50 {sc : aSc} {d : Nat} {r : aRes} {a0 : Value} {a1 : Value} {a2 : Value} {x3 : Int32} {a4 : Value} {st : List Value} {σ : aS} : Rn sc d 163 50 [a0, a1, a2, .int x3, a4] st σ r ↔ Rn sc d 163 51 [a0, a1, a2, .int x3, a4] (.int x3 :: st) σ r := r_iload_n d163_50 rfl
theorem d163_51 : decode (mC 163) 51 = .ok (.iload 4, 2) := by decide +kernel
theorem x163_51 {sc : aSc} {d : Nat} {r : aRes} {a0 : Value} {a1 : Value} {a2 : Value} {a3 : Value} {x4 : Int32} {st : List Value} {σ : aS} : Rn sc d 163 51 [a0, a1, a2, a3, .int x4] st σ r ↔ Rn sc d 163 53 [a0, a1, a2, a3, .int x4] (.int x4 :: st) σ r := r_iload d163_51 rfl
theorem d163_53 : decode (mC 163) 53 = .ok (.invokevirtual 347, 3) := by decide +kernel
theorem x163_53 {sc : aSc} {d : Nat} {r : aRes} {L : List Value} {f : Nat → Nat → Int32} {g : Nat → Nat → Int64} {h1 h2 : Nat} {y0 : Int32} {y1 : Int32} {y2 : Int32} {y3 : Int32}  {o : Nat} (hK : KK[o]? = some (.inl 7)) : Rn sc d 163 53 L [.int y0, .int y1, .int y2, .int y3, .ref o] (cS f g h1 h2) r ↔ ∃ (σ3 : aS) (v : Option Value), Cl sc d 162 [.ref o, .int y3, .int y2, .int y1, .int y0] (cS f g h1 h2) (σ3, v) ∧ Rn sc d 163 56 L (v.toList ++ []) σ3 r := r_callV (vs := [.int y0, .int y1, .int y2, .int y3]) d163_53 (j := 162) (by decide +kernel) ⟨rfl, by decide, rfl, rfl⟩ (Nat.le_of_ble_eq_true rfl) hK
theorem d163_56 : decode (mC 163) 56 = .ok (.iinc 4 1, 3) := by decide +kernel
theorem x163_56 {sc : aSc} {d : Nat} {r : aRes} {a0 : Value} {a1 : Value} {a2 : Value} {x3 : Int32} {x4 : Int32} {st : List Value} {σ : aS} : Rn sc d 163 56 [a0, a1, a2, .int x3, .int x4] st σ r ↔ Rn sc d 163 59 [a0, a1, a2, .int x3, .int (x4 + 1)] st σ r := r_iinc d163_56 (Nat.le_of_ble_eq_true rfl) rfl rfl (by decide)
theorem d163_59 : decode (mC 163) 59 = .ok (.goto (-42), 3) := by decide +kernel
theorem x163_59 {sc : aSc} {d : Nat} {r : aRes} {L : List Value} {st : List Value} {σ : aS} : Rn sc d 163 59 L st σ r ↔ Rn sc d 163 17 L st σ r := r_goto d163_59 rfl
theorem d163_62 : decode (mC 163) 62 = .ok (.iinc 3 1, 3) := by decide +kernel
theorem x163_62 {sc : aSc} {d : Nat} {r : aRes} {a0 : Value} {a1 : Value} {x2 : Int32} {x3 : Int32} {a4 : Value} {st : List Value} {σ : aS} : Rn sc d 163 62 [a0, a1, .int x2, .int x3, a4] st σ r ↔ Rn sc d 163 65 [a0, a1, .int x2, .int (x3 + 1), a4] st σ r := r_iinc d163_62 (Nat.le_of_ble_eq_true rfl) rfl rfl (by decide)
theorem d163_65 : decode (mC 163) 65 = .ok (.goto (-61), 3) := by decide +kernel
theorem x163_65 {sc : aSc} {d : Nat} {r : aRes} {L : List Value} {st : List Value} {σ : aS} : Rn sc d 163 65 L st σ r ↔ Rn sc d 163 4 L st σ r := r_goto d163_65 rfl
theorem d163_68 : decode (mC 163) 68 = .ok (.return_, 1) := by decide +kernel
theorem x163_68 {sc : aSc} {d : Nat} {r : aRes} {L : List Value} {σ : aS} : Rn sc d 163 68 L [] σ r ↔ r = (σ, none) := r_vret d163_68 rfl
theorem d164_0 : decode (mC 164) 0 = .ok (.aload_n 0, 1) := by decide +kernel
theorem x164_0 {sc : aSc} {d : Nat} {r : aRes} {x0 : Nat} {a1 : Value} {a2 : Value} {a3 : Value} {st : List Value} {σ : aS} : Rn sc d 164 0 [.ref x0, a1, a2, a3] st σ r ↔ Rn sc d 164 1 [.ref x0, a1, a2, a3] (.ref x0 :: st) σ r := r_aload_n d164_0 rfl
theorem d164_1 : decode (mC 164) 1 = .ok (.iload_n 1, 1) := by decide +kernel
theorem x164_1 {sc : aSc} {d : Nat} {r : aRes} {a0 : Value} {x1 : Int32} {a2 : Value} {a3 : Value} {st : List Value} {σ : aS} : Rn sc d 164 1 [a0, .int x1, a2, a3] st σ r ↔ Rn sc d 164 2 [a0, .int x1, a2, a3] (.int x1 :: st) σ r := r_iload_n d164_1 rfl
theorem d164_2 : decode (mC 164) 2 = .ok (.iconst 0, 1) := by decide +kernel
theorem x164_2 {sc : aSc} {d : Nat} {r : aRes} {L : List Value} {st : List Value} {σ : aS} : Rn sc d 164 2 L st σ r ↔ Rn sc d 164 3 L (.int 0 :: st) σ r := r_iconst d164_2 (by decide)
theorem d164_3 : decode (mC 164) 3 = .ok (.iconst 1, 1) := by decide +kernel
theorem x164_3 {sc : aSc} {d : Nat} {r : aRes} {L : List Value} {st : List Value} {σ : aS} : Rn sc d 164 3 L st σ r ↔ Rn sc d 164 4 L (.int 1 :: st) σ r := r_iconst d164_3 (by decide)
theorem d164_4 : decode (mC 164) 4 = .ok (.invokevirtual 227, 3) := by decide +kernel
theorem x164_4 {sc : aSc} {d : Nat} {r : aRes} {L : List Value} {f : Nat → Nat → Int32} {g : Nat → Nat → Int64} {h1 h2 : Nat} {y0 : Int32} {y1 : Int32} {y2 : Int32}  {o : Nat} (hK : KK[o]? = some (.inl 7)) : Rn sc d 164 4 L [.int y0, .int y1, .int y2, .ref o] (cS f g h1 h2) r ↔ ∃ (σ3 : aS) (v : Option Value), Cl sc d 108 [.ref o, .int y2, .int y1, .int y0] (cS f g h1 h2) (σ3, v) ∧ Rn sc d 164 7 L (v.toList ++ []) σ3 r := r_callV (vs := [.int y0, .int y1, .int y2]) d164_4 (j := 108) (by decide +kernel) ⟨rfl, by decide, rfl, rfl⟩ (Nat.le_of_ble_eq_true rfl) hK
theorem d164_7 : decode (mC 164) 7 = .ok (.ifCond .ne 7, 3) := by decide +kernel
theorem x164_7 {sc : aSc} {d : Nat} {r : aRes} {L : List Value} {st : List Value} {σ : aS} {x : Int32} : Rn sc d 164 7 L (.int x :: st) σ r ↔ if x = 0 then Rn sc d 164 10 L st σ r else Rn sc d 164 14 L st σ r := r_if_ne d164_7 rfl
theorem d164_10 : decode (mC 164) 10 = .ok (.sipush (-1002), 3) := by decide +kernel
theorem x164_10 {sc : aSc} {d : Nat} {r : aRes} {L : List Value} {st : List Value} {σ : aS} : Rn sc d 164 10 L st σ r ↔ Rn sc d 164 13 L (.int (-1002) :: st) σ r := r_sipush d164_10 (by decide)
theorem d164_13 : decode (mC 164) 13 = .ok (.ireturn, 1) := by decide +kernel
theorem x164_13 {sc : aSc} {d : Nat} {r : aRes} {L : List Value} {σ : aS} {x : Int32} : Rn sc d 164 13 L [.int x] σ r ↔ r = (σ, some (.int x)) := r_iret d164_13 rfl rfl
theorem d164_14 : decode (mC 164) 14 = .ok (.aload_n 0, 1) := by decide +kernel
theorem x164_14 {sc : aSc} {d : Nat} {r : aRes} {x0 : Nat} {a1 : Value} {a2 : Value} {a3 : Value} {st : List Value} {σ : aS} : Rn sc d 164 14 [.ref x0, a1, a2, a3] st σ r ↔ Rn sc d 164 15 [.ref x0, a1, a2, a3] (.ref x0 :: st) σ r := r_aload_n d164_14 rfl
theorem d164_15 : decode (mC 164) 15 = .ok (.iconst 0, 1) := by decide +kernel
theorem x164_15 {sc : aSc} {d : Nat} {r : aRes} {L : List Value} {st : List Value} {σ : aS} : Rn sc d 164 15 L st σ r ↔ Rn sc d 164 16 L (.int 0 :: st) σ r := r_iconst d164_15 (by decide)
theorem d164_16 : decode (mC 164) 16 = .ok (.putfield 126, 3) := by decide +kernel
theorem x164_16 {sc : aSc} {d : Nat} {r : aRes} {L : List Value} {st : List Value} {f : Nat → Nat → Int32} {g : Nat → Nat → Int64} {h1 h2 : Nat} {o : Nat} {v : Int32} (h17 : 17 ≤ o) (hK : KK[o]? = some (.inl 7)) : Rn sc d 164 16 L (.int v :: .ref o :: st) (cS f g h1 h2) r ↔ Rn sc d 164 19 L st (cS (u2 f o 38 v) g h1 h2) r := r_putI d164_16 (ci := 7) (k := 38) (by decide +kernel) (by decide +kernel) h17 hK
theorem d164_19 : decode (mC 164) 19 = .ok (.iconst 0, 1) := by decide +kernel
theorem x164_19 {sc : aSc} {d : Nat} {r : aRes} {L : List Value} {st : List Value} {σ : aS} : Rn sc d 164 19 L st σ r ↔ Rn sc d 164 20 L (.int 0 :: st) σ r := r_iconst d164_19 (by decide)
theorem d164_20 : decode (mC 164) 20 = .ok (.istore_n 2, 1) := by decide +kernel
theorem x164_20 {sc : aSc} {d : Nat} {r : aRes} {a0 : Value} {x1 : Int32} {a2 : Value} {a3 : Value} {st : List Value} {σ : aS} {y : Int32} : Rn sc d 164 20 [a0, .int x1, a2, a3] (.int y :: st) σ r ↔ Rn sc d 164 21 [a0, .int x1, .int y, a3] st σ r := r_istore_n d164_20 (Nat.le_of_ble_eq_true rfl) rfl
theorem d164_21 : decode (mC 164) 21 = .ok (.iload_n 2, 1) := by decide +kernel
theorem x164_21 {sc : aSc} {d : Nat} {r : aRes} {a0 : Value} {a1 : Value} {x2 : Int32} {a3 : Value} {st : List Value} {σ : aS} : Rn sc d 164 21 [a0, a1, .int x2, a3] st σ r ↔ Rn sc d 164 22 [a0, a1, .int x2, a3] (.int x2 :: st) σ r := r_iload_n d164_21 rfl
theorem d164_22 : decode (mC 164) 22 = .ok (.aload_n 0, 1) := by decide +kernel
theorem x164_22 {sc : aSc} {d : Nat} {r : aRes} {x0 : Nat} {a1 : Value} {a2 : Value} {a3 : Value} {st : List Value} {σ : aS} : Rn sc d 164 22 [.ref x0, a1, a2, a3] st σ r ↔ Rn sc d 164 23 [.ref x0, a1, a2, a3] (.ref x0 :: st) σ r := r_aload_n d164_22 rfl
theorem d164_23 : decode (mC 164) 23 = .ok (.getfield 7, 3) := by decide +kernel
theorem x164_23 {sc : aSc} {d : Nat} {r : aRes} {L : List Value} {st : List Value} {f : Nat → Nat → Int32} {g : Nat → Nat → Int64} {h1 h2 : Nat} {o : Nat} (h17 : 17 ≤ o) (hK : KK[o]? = some (.inl 7)) : Rn sc d 164 23 L (.ref o :: st) (cS f g h1 h2) r ↔ Rn sc d 164 26 L (.int (f o 0) :: st) (cS f g h1 h2) r := r_getI d164_23 (ci := 7) (k := 0) rfl (by decide) (fun _ => rfl) h17 hK
theorem d164_26 : decode (mC 164) 26 = .ok (.if_icmp .ge 42, 3) := by decide +kernel
theorem x164_26 {sc : aSc} {d : Nat} {r : aRes} {L : List Value} {st : List Value} {σ : aS} {x y : Int32} : Rn sc d 164 26 L (.int y :: .int x :: st) σ r ↔ if x < y then Rn sc d 164 29 L st σ r else Rn sc d 164 68 L st σ r := r_icmp_ge d164_26 rfl
theorem d164_29 : decode (mC 164) 29 = .ok (.iload_n 2, 1) := by decide +kernel
theorem x164_29 {sc : aSc} {d : Nat} {r : aRes} {a0 : Value} {a1 : Value} {x2 : Int32} {a3 : Value} {st : List Value} {σ : aS} : Rn sc d 164 29 [a0, a1, .int x2, a3] st σ r ↔ Rn sc d 164 30 [a0, a1, .int x2, a3] (.int x2 :: st) σ r := r_iload_n d164_29 rfl
theorem d164_30 : decode (mC 164) 30 = .ok (.iconst 1, 1) := by decide +kernel
theorem x164_30 {sc : aSc} {d : Nat} {r : aRes} {L : List Value} {st : List Value} {σ : aS} : Rn sc d 164 30 L st σ r ↔ Rn sc d 164 31 L (.int 1 :: st) σ r := r_iconst d164_30 (by decide)
theorem d164_31 : decode (mC 164) 31 = .ok (.iadd, 1) := by decide +kernel
theorem x164_31 {sc : aSc} {d : Nat} {r : aRes} {L : List Value} {st : List Value} {σ : aS} {x y : Int32} : Rn sc d 164 31 L (.int y :: .int x :: st) σ r ↔ Rn sc d 164 32 L (.int (x + y) :: st) σ r := r_iadd d164_31
theorem d164_32 : decode (mC 164) 32 = .ok (.istore_n 3, 1) := by decide +kernel
theorem x164_32 {sc : aSc} {d : Nat} {r : aRes} {a0 : Value} {a1 : Value} {x2 : Int32} {a3 : Value} {st : List Value} {σ : aS} {y : Int32} : Rn sc d 164 32 [a0, a1, .int x2, a3] (.int y :: st) σ r ↔ Rn sc d 164 33 [a0, a1, .int x2, .int y] st σ r := r_istore_n d164_32 (Nat.le_of_ble_eq_true rfl) rfl
theorem d164_33 : decode (mC 164) 33 = .ok (.iload_n 3, 1) := by decide +kernel
theorem x164_33 {sc : aSc} {d : Nat} {r : aRes} {a0 : Value} {a1 : Value} {a2 : Value} {x3 : Int32} {st : List Value} {σ : aS} : Rn sc d 164 33 [a0, a1, a2, .int x3] st σ r ↔ Rn sc d 164 34 [a0, a1, a2, .int x3] (.int x3 :: st) σ r := r_iload_n d164_33 rfl
theorem d164_34 : decode (mC 164) 34 = .ok (.aload_n 0, 1) := by decide +kernel
theorem x164_34 {sc : aSc} {d : Nat} {r : aRes} {x0 : Nat} {a1 : Value} {a2 : Value} {a3 : Value} {st : List Value} {σ : aS} : Rn sc d 164 34 [.ref x0, a1, a2, a3] st σ r ↔ Rn sc d 164 35 [.ref x0, a1, a2, a3] (.ref x0 :: st) σ r := r_aload_n d164_34 rfl
theorem d164_35 : decode (mC 164) 35 = .ok (.getfield 7, 3) := by decide +kernel
theorem x164_35 {sc : aSc} {d : Nat} {r : aRes} {L : List Value} {st : List Value} {f : Nat → Nat → Int32} {g : Nat → Nat → Int64} {h1 h2 : Nat} {o : Nat} (h17 : 17 ≤ o) (hK : KK[o]? = some (.inl 7)) : Rn sc d 164 35 L (.ref o :: st) (cS f g h1 h2) r ↔ Rn sc d 164 38 L (.int (f o 0) :: st) (cS f g h1 h2) r := r_getI d164_35 (ci := 7) (k := 0) rfl (by decide) (fun _ => rfl) h17 hK
theorem d164_38 : decode (mC 164) 38 = .ok (.if_icmp .ge 24, 3) := by decide +kernel
theorem x164_38 {sc : aSc} {d : Nat} {r : aRes} {L : List Value} {st : List Value} {σ : aS} {x y : Int32} : Rn sc d 164 38 L (.int y :: .int x :: st) σ r ↔ if x < y then Rn sc d 164 41 L st σ r else Rn sc d 164 62 L st σ r := r_icmp_ge d164_38 rfl
theorem d164_41 : decode (mC 164) 41 = .ok (.aload_n 0, 1) := by decide +kernel
theorem x164_41 {sc : aSc} {d : Nat} {r : aRes} {x0 : Nat} {a1 : Value} {a2 : Value} {a3 : Value} {st : List Value} {σ : aS} : Rn sc d 164 41 [.ref x0, a1, a2, a3] st σ r ↔ Rn sc d 164 42 [.ref x0, a1, a2, a3] (.ref x0 :: st) σ r := r_aload_n d164_41 rfl
theorem d164_42 : decode (mC 164) 42 = .ok (.iload_n 2, 1) := by decide +kernel
theorem x164_42 {sc : aSc} {d : Nat} {r : aRes} {a0 : Value} {a1 : Value} {x2 : Int32} {a3 : Value} {st : List Value} {σ : aS} : Rn sc d 164 42 [a0, a1, .int x2, a3] st σ r ↔ Rn sc d 164 43 [a0, a1, .int x2, a3] (.int x2 :: st) σ r := r_iload_n d164_42 rfl
theorem d164_43 : decode (mC 164) 43 = .ok (.iload_n 3, 1) := by decide +kernel
theorem x164_43 {sc : aSc} {d : Nat} {r : aRes} {a0 : Value} {a1 : Value} {a2 : Value} {x3 : Int32} {st : List Value} {σ : aS} : Rn sc d 164 43 [a0, a1, a2, .int x3] st σ r ↔ Rn sc d 164 44 [a0, a1, a2, .int x3] (.int x3 :: st) σ r := r_iload_n d164_43 rfl
theorem d164_44 : decode (mC 164) 44 = .ok (.invokevirtual 322, 3) := by decide +kernel
theorem x164_44 {sc : aSc} {d : Nat} {r : aRes} {L : List Value} {f : Nat → Nat → Int32} {g : Nat → Nat → Int64} {h1 h2 : Nat} {y0 : Int32} {y1 : Int32}  {o : Nat} (hK : KK[o]? = some (.inl 7)) : Rn sc d 164 44 L [.int y0, .int y1, .ref o] (cS f g h1 h2) r ↔ ∃ (σ3 : aS) (v : Option Value), Cl sc d 141 [.ref o, .int y1, .int y0] (cS f g h1 h2) (σ3, v) ∧ Rn sc d 164 47 L (v.toList ++ []) σ3 r := r_callV (vs := [.int y0, .int y1]) d164_44 (j := 141) (by decide +kernel) ⟨rfl, by decide, rfl, rfl⟩ (Nat.le_of_ble_eq_true rfl) hK
theorem d164_47 : decode (mC 164) 47 = .ok (.ifCond .eq 9, 3) := by decide +kernel
theorem x164_47 {sc : aSc} {d : Nat} {r : aRes} {L : List Value} {st : List Value} {σ : aS} {x : Int32} : Rn sc d 164 47 L (.int x :: st) σ r ↔ if x = 0 then Rn sc d 164 56 L st σ r else Rn sc d 164 50 L st σ r := r_if_eq d164_47 rfl
theorem d164_50 : decode (mC 164) 50 = .ok (.aload_n 0, 1) := by decide +kernel
theorem x164_50 {sc : aSc} {d : Nat} {r : aRes} {x0 : Nat} {a1 : Value} {a2 : Value} {a3 : Value} {st : List Value} {σ : aS} : Rn sc d 164 50 [.ref x0, a1, a2, a3] st σ r ↔ Rn sc d 164 51 [.ref x0, a1, a2, a3] (.ref x0 :: st) σ r := r_aload_n d164_50 rfl
theorem d164_51 : decode (mC 164) 51 = .ok (.iload_n 2, 1) := by decide +kernel
theorem x164_51 {sc : aSc} {d : Nat} {r : aRes} {a0 : Value} {a1 : Value} {x2 : Int32} {a3 : Value} {st : List Value} {σ : aS} : Rn sc d 164 51 [a0, a1, .int x2, a3] st σ r ↔ Rn sc d 164 52 [a0, a1, .int x2, a3] (.int x2 :: st) σ r := r_iload_n d164_51 rfl
theorem d164_52 : decode (mC 164) 52 = .ok (.iload_n 3, 1) := by decide +kernel
theorem x164_52 {sc : aSc} {d : Nat} {r : aRes} {a0 : Value} {a1 : Value} {a2 : Value} {x3 : Int32} {st : List Value} {σ : aS} : Rn sc d 164 52 [a0, a1, a2, .int x3] st σ r ↔ Rn sc d 164 53 [a0, a1, a2, .int x3] (.int x3 :: st) σ r := r_iload_n d164_52 rfl
theorem d164_53 : decode (mC 164) 53 = .ok (.invokevirtual 351, 3) := by decide +kernel
theorem x164_53 {sc : aSc} {d : Nat} {r : aRes} {L : List Value} {f : Nat → Nat → Int32} {g : Nat → Nat → Int64} {h1 h2 : Nat} {y0 : Int32} {y1 : Int32}  {o : Nat} (hK : KK[o]? = some (.inl 7)) : Rn sc d 164 53 L [.int y0, .int y1, .ref o] (cS f g h1 h2) r ↔ ∃ (σ3 : aS) (v : Option Value), Cl sc d 163 [.ref o, .int y1, .int y0] (cS f g h1 h2) (σ3, v) ∧ Rn sc d 164 56 L (v.toList ++ []) σ3 r := r_callV (vs := [.int y0, .int y1]) d164_53 (j := 163) (by decide +kernel) ⟨rfl, by decide, rfl, rfl⟩ (Nat.le_of_ble_eq_true rfl) hK
theorem d164_56 : decode (mC 164) 56 = .ok (.iinc 3 1, 3) := by decide +kernel
theorem x164_56 {sc : aSc} {d : Nat} {r : aRes} {a0 : Value} {a1 : Value} {x2 : Int32} {x3 : Int32} {st : List Value} {σ : aS} : Rn sc d 164 56 [a0, a1, .int x2, .int x3] st σ r ↔ Rn sc d 164 59 [a0, a1, .int x2, .int (x3 + 1)] st σ r := r_iinc d164_56 (Nat.le_of_ble_eq_true rfl) rfl rfl (by decide)
theorem d164_59 : decode (mC 164) 59 = .ok (.goto (-26), 3) := by decide +kernel
theorem x164_59 {sc : aSc} {d : Nat} {r : aRes} {L : List Value} {st : List Value} {σ : aS} : Rn sc d 164 59 L st σ r ↔ Rn sc d 164 33 L st σ r := r_goto d164_59 rfl
theorem d164_62 : decode (mC 164) 62 = .ok (.iinc 2 1, 3) := by decide +kernel
theorem x164_62 {sc : aSc} {d : Nat} {r : aRes} {a0 : Value} {x1 : Int32} {x2 : Int32} {a3 : Value} {st : List Value} {σ : aS} : Rn sc d 164 62 [a0, .int x1, .int x2, a3] st σ r ↔ Rn sc d 164 65 [a0, .int x1, .int (x2 + 1), a3] st σ r := r_iinc d164_62 (Nat.le_of_ble_eq_true rfl) rfl rfl (by decide)
theorem d164_65 : decode (mC 164) 65 = .ok (.goto (-44), 3) := by decide +kernel
theorem x164_65 {sc : aSc} {d : Nat} {r : aRes} {L : List Value} {st : List Value} {σ : aS} : Rn sc d 164 65 L st σ r ↔ Rn sc d 164 21 L st σ r := r_goto d164_65 rfl
theorem d164_68 : decode (mC 164) 68 = .ok (.iload_n 1, 1) := by decide +kernel
theorem x164_68 {sc : aSc} {d : Nat} {r : aRes} {a0 : Value} {x1 : Int32} {a2 : Value} {a3 : Value} {st : List Value} {σ : aS} : Rn sc d 164 68 [a0, .int x1, a2, a3] st σ r ↔ Rn sc d 164 69 [a0, .int x1, a2, a3] (.int x1 :: st) σ r := r_iload_n d164_68 rfl
theorem d164_69 : decode (mC 164) 69 = .ok (.ifCond .ne 10, 3) := by decide +kernel
theorem x164_69 {sc : aSc} {d : Nat} {r : aRes} {L : List Value} {st : List Value} {σ : aS} {x : Int32} : Rn sc d 164 69 L (.int x :: st) σ r ↔ if x = 0 then Rn sc d 164 72 L st σ r else Rn sc d 164 79 L st σ r := r_if_ne d164_69 rfl
theorem d164_72 : decode (mC 164) 72 = .ok (.aload_n 0, 1) := by decide +kernel
theorem x164_72 {sc : aSc} {d : Nat} {r : aRes} {x0 : Nat} {a1 : Value} {a2 : Value} {a3 : Value} {st : List Value} {σ : aS} : Rn sc d 164 72 [.ref x0, a1, a2, a3] st σ r ↔ Rn sc d 164 73 [.ref x0, a1, a2, a3] (.ref x0 :: st) σ r := r_aload_n d164_72 rfl
theorem d164_73 : decode (mC 164) 73 = .ok (.getfield 126, 3) := by decide +kernel
theorem x164_73 {sc : aSc} {d : Nat} {r : aRes} {L : List Value} {st : List Value} {f : Nat → Nat → Int32} {g : Nat → Nat → Int64} {h1 h2 : Nat} {o : Nat} (h17 : 17 ≤ o) (hK : KK[o]? = some (.inl 7)) : Rn sc d 164 73 L (.ref o :: st) (cS f g h1 h2) r ↔ Rn sc d 164 76 L (.int (f o 38) :: st) (cS f g h1 h2) r := r_getI d164_73 (ci := 7) (k := 38) (by decide +kernel) (by decide +kernel) (fun _ => rfl) h17 hK
theorem d164_76 : decode (mC 164) 76 = .ok (.goto 20, 3) := by decide +kernel
theorem x164_76 {sc : aSc} {d : Nat} {r : aRes} {L : List Value} {st : List Value} {σ : aS} : Rn sc d 164 76 L st σ r ↔ Rn sc d 164 96 L st σ r := r_goto d164_76 rfl
theorem d164_79 : decode (mC 164) 79 = .ok (.aload_n 0, 1) := by decide +kernel
theorem x164_79 {sc : aSc} {d : Nat} {r : aRes} {x0 : Nat} {a1 : Value} {a2 : Value} {a3 : Value} {st : List Value} {σ : aS} : Rn sc d 164 79 [.ref x0, a1, a2, a3] st σ r ↔ Rn sc d 164 80 [.ref x0, a1, a2, a3] (.ref x0 :: st) σ r := r_aload_n d164_79 rfl
theorem d164_80 : decode (mC 164) 80 = .ok (.getfield 126, 3) := by decide +kernel
theorem x164_80 {sc : aSc} {d : Nat} {r : aRes} {L : List Value} {st : List Value} {f : Nat → Nat → Int32} {g : Nat → Nat → Int64} {h1 h2 : Nat} {o : Nat} (h17 : 17 ≤ o) (hK : KK[o]? = some (.inl 7)) : Rn sc d 164 80 L (.ref o :: st) (cS f g h1 h2) r ↔ Rn sc d 164 83 L (.int (f o 38) :: st) (cS f g h1 h2) r := r_getI d164_80 (ci := 7) (k := 38) (by decide +kernel) (by decide +kernel) (fun _ => rfl) h17 hK
theorem d164_83 : decode (mC 164) 83 = .ok (.ifCond .ne 9, 3) := by decide +kernel
theorem x164_83 {sc : aSc} {d : Nat} {r : aRes} {L : List Value} {st : List Value} {σ : aS} {x : Int32} : Rn sc d 164 83 L (.int x :: st) σ r ↔ if x = 0 then Rn sc d 164 86 L st σ r else Rn sc d 164 92 L st σ r := r_if_ne d164_83 rfl
theorem d164_86 : decode (mC 164) 86 = .ok (.sipush (-1001), 3) := by decide +kernel
theorem x164_86 {sc : aSc} {d : Nat} {r : aRes} {L : List Value} {st : List Value} {σ : aS} : Rn sc d 164 86 L st σ r ↔ Rn sc d 164 89 L (.int (-1001) :: st) σ r := r_sipush d164_86 (by decide)
theorem d164_89 : decode (mC 164) 89 = .ok (.goto 7, 3) := by decide +kernel
theorem x164_89 {sc : aSc} {d : Nat} {r : aRes} {L : List Value} {st : List Value} {σ : aS} : Rn sc d 164 89 L st σ r ↔ Rn sc d 164 96 L st σ r := r_goto d164_89 rfl
theorem d164_92 : decode (mC 164) 92 = .ok (.aload_n 0, 1) := by decide +kernel
theorem x164_92 {sc : aSc} {d : Nat} {r : aRes} {x0 : Nat} {a1 : Value} {a2 : Value} {a3 : Value} {st : List Value} {σ : aS} : Rn sc d 164 92 [.ref x0, a1, a2, a3] st σ r ↔ Rn sc d 164 93 [.ref x0, a1, a2, a3] (.ref x0 :: st) σ r := r_aload_n d164_92 rfl
theorem d164_93 : decode (mC 164) 93 = .ok (.getfield 129, 3) := by decide +kernel
theorem x164_93 {sc : aSc} {d : Nat} {r : aRes} {L : List Value} {st : List Value} {f : Nat → Nat → Int32} {g : Nat → Nat → Int64} {h1 h2 : Nat} {o : Nat} (h17 : 17 ≤ o) (hK : KK[o]? = some (.inl 7)) : Rn sc d 164 93 L (.ref o :: st) (cS f g h1 h2) r ↔ Rn sc d 164 96 L (.int (f o 39) :: st) (cS f g h1 h2) r := r_getI d164_93 (ci := 7) (k := 39) (by decide +kernel) (by decide +kernel) (fun _ => rfl) h17 hK
theorem d164_96 : decode (mC 164) 96 = .ok (.ireturn, 1) := by decide +kernel
theorem x164_96 {sc : aSc} {d : Nat} {r : aRes} {L : List Value} {σ : aS} {x : Int32} : Rn sc d 164 96 L [.int x] σ r ↔ r = (σ, some (.int x)) := r_iret d164_96 rfl rfl
theorem d165_0 : decode (mC 165) 0 = .ok (.aload_n 0, 1) := by decide +kernel
theorem x165_0 {sc : aSc} {d : Nat} {r : aRes} {x0 : Nat} {a1 : Value} {a2 : Value} {st : List Value} {σ : aS} : Rn sc d 165 0 [.ref x0, a1, a2] st σ r ↔ Rn sc d 165 1 [.ref x0, a1, a2] (.ref x0 :: st) σ r := r_aload_n d165_0 rfl
theorem d165_1 : decode (mC 165) 1 = .ok (.iload_n 1, 1) := by decide +kernel
theorem x165_1 {sc : aSc} {d : Nat} {r : aRes} {a0 : Value} {x1 : Int32} {a2 : Value} {st : List Value} {σ : aS} : Rn sc d 165 1 [a0, .int x1, a2] st σ r ↔ Rn sc d 165 2 [a0, .int x1, a2] (.int x1 :: st) σ r := r_iload_n d165_1 rfl
theorem d165_2 : decode (mC 165) 2 = .ok (.invokevirtual 231, 3) := by decide +kernel
theorem x165_2 {sc : aSc} {d : Nat} {r : aRes} {L : List Value} {f : Nat → Nat → Int32} {g : Nat → Nat → Int64} {h1 h2 : Nat} {y0 : Int32}  {o : Nat} (hK : KK[o]? = some (.inl 7)) : Rn sc d 165 2 L [.int y0, .ref o] (cS f g h1 h2) r ↔ ∃ (σ3 : aS) (v : Option Value), Cl sc d 109 [.ref o, .int y0] (cS f g h1 h2) (σ3, v) ∧ Rn sc d 165 5 L (v.toList ++ []) σ3 r := r_callV (vs := [.int y0]) d165_2 (j := 109) (by decide +kernel) ⟨rfl, by decide, rfl, rfl⟩ (Nat.le_of_ble_eq_true rfl) hK
theorem d165_5 : decode (mC 165) 5 = .ok (.ifCond .ne 7, 3) := by decide +kernel
theorem x165_5 {sc : aSc} {d : Nat} {r : aRes} {L : List Value} {st : List Value} {σ : aS} {x : Int32} : Rn sc d 165 5 L (.int x :: st) σ r ↔ if x = 0 then Rn sc d 165 8 L st σ r else Rn sc d 165 12 L st σ r := r_if_ne d165_5 rfl
theorem d165_8 : decode (mC 165) 8 = .ok (.sipush (-1001), 3) := by decide +kernel
theorem x165_8 {sc : aSc} {d : Nat} {r : aRes} {L : List Value} {st : List Value} {σ : aS} : Rn sc d 165 8 L st σ r ↔ Rn sc d 165 11 L (.int (-1001) :: st) σ r := r_sipush d165_8 (by decide)
theorem d165_11 : decode (mC 165) 11 = .ok (.ireturn, 1) := by decide +kernel
theorem x165_11 {sc : aSc} {d : Nat} {r : aRes} {L : List Value} {σ : aS} {x : Int32} : Rn sc d 165 11 L [.int x] σ r ↔ r = (σ, some (.int x)) := r_iret d165_11 rfl rfl
theorem d165_12 : decode (mC 165) 12 = .ok (.aload_n 0, 1) := by decide +kernel
theorem x165_12 {sc : aSc} {d : Nat} {r : aRes} {x0 : Nat} {a1 : Value} {a2 : Value} {st : List Value} {σ : aS} : Rn sc d 165 12 [.ref x0, a1, a2] st σ r ↔ Rn sc d 165 13 [.ref x0, a1, a2] (.ref x0 :: st) σ r := r_aload_n d165_12 rfl
theorem d165_13 : decode (mC 165) 13 = .ok (.iconst 2, 1) := by decide +kernel
theorem x165_13 {sc : aSc} {d : Nat} {r : aRes} {L : List Value} {st : List Value} {σ : aS} : Rn sc d 165 13 L st σ r ↔ Rn sc d 165 14 L (.int 2 :: st) σ r := r_iconst d165_13 (by decide)
theorem d165_14 : decode (mC 165) 14 = .ok (.invokevirtual 341, 3) := by decide +kernel
theorem x165_14 {sc : aSc} {d : Nat} {r : aRes} {L : List Value} {f : Nat → Nat → Int32} {g : Nat → Nat → Int64} {h1 h2 : Nat} {y0 : Int32}  {o : Nat} (hK : KK[o]? = some (.inl 7)) : Rn sc d 165 14 L [.int y0, .ref o] (cS f g h1 h2) r ↔ ∃ (σ3 : aS) (v : Option Value), Cl sc d 154 [.ref o, .int y0] (cS f g h1 h2) (σ3, v) ∧ Rn sc d 165 17 L (v.toList ++ []) σ3 r := r_callV (vs := [.int y0]) d165_14 (j := 154) (by decide +kernel) ⟨rfl, by decide, rfl, rfl⟩ (Nat.le_of_ble_eq_true rfl) hK
theorem d165_17 : decode (mC 165) 17 = .ok (.aload_n 0, 1) := by decide +kernel
theorem x165_17 {sc : aSc} {d : Nat} {r : aRes} {x0 : Nat} {a1 : Value} {a2 : Value} {st : List Value} {σ : aS} : Rn sc d 165 17 [.ref x0, a1, a2] st σ r ↔ Rn sc d 165 18 [.ref x0, a1, a2] (.ref x0 :: st) σ r := r_aload_n d165_17 rfl
theorem d165_18 : decode (mC 165) 18 = .ok (.getfield 108, 3) := by decide +kernel
theorem x165_18 {sc : aSc} {d : Nat} {r : aRes} {L : List Value} {st : List Value} {f : Nat → Nat → Int32} {g : Nat → Nat → Int64} {h1 h2 : Nat} {o : Nat} (h17 : 17 ≤ o) (hK : KK[o]? = some (.inl 7)) : Rn sc d 165 18 L (.ref o :: st) (cS f g h1 h2) r ↔ Rn sc d 165 21 L (.int (f o 32) :: st) (cS f g h1 h2) r := r_getI d165_18 (ci := 7) (k := 32) (by decide +kernel) (by decide +kernel) (fun _ => rfl) h17 hK
theorem d165_21 : decode (mC 165) 21 = .ok (.istore_n 2, 1) := by decide +kernel
theorem x165_21 {sc : aSc} {d : Nat} {r : aRes} {a0 : Value} {x1 : Int32} {a2 : Value} {st : List Value} {σ : aS} {y : Int32} : Rn sc d 165 21 [a0, .int x1, a2] (.int y :: st) σ r ↔ Rn sc d 165 22 [a0, .int x1, .int y] st σ r := r_istore_n d165_21 (Nat.le_of_ble_eq_true rfl) rfl
theorem d165_22 : decode (mC 165) 22 = .ok (.aload_n 0, 1) := by decide +kernel
theorem x165_22 {sc : aSc} {d : Nat} {r : aRes} {x0 : Nat} {a1 : Value} {a2 : Value} {st : List Value} {σ : aS} : Rn sc d 165 22 [.ref x0, a1, a2] st σ r ↔ Rn sc d 165 23 [.ref x0, a1, a2] (.ref x0 :: st) σ r := r_aload_n d165_22 rfl
theorem d165_23 : decode (mC 165) 23 = .ok (.iload_n 1, 1) := by decide +kernel
theorem x165_23 {sc : aSc} {d : Nat} {r : aRes} {a0 : Value} {x1 : Int32} {a2 : Value} {st : List Value} {σ : aS} : Rn sc d 165 23 [a0, .int x1, a2] st σ r ↔ Rn sc d 165 24 [a0, .int x1, a2] (.int x1 :: st) σ r := r_iload_n d165_23 rfl
theorem d165_24 : decode (mC 165) 24 = .ok (.putfield 22, 3) := by decide +kernel
theorem x165_24 {sc : aSc} {d : Nat} {r : aRes} {L : List Value} {st : List Value} {f : Nat → Nat → Int32} {g : Nat → Nat → Int64} {h1 h2 : Nat} {o : Nat} {v : Int32} (h17 : 17 ≤ o) (hK : KK[o]? = some (.inl 7)) : Rn sc d 165 24 L (.int v :: .ref o :: st) (cS f g h1 h2) r ↔ Rn sc d 165 27 L st (cS (u2 f o 4 v) g h1 h2) r := r_putI d165_24 (ci := 7) (k := 4) rfl (by decide) h17 hK
theorem d165_27 : decode (mC 165) 27 = .ok (.aload_n 0, 1) := by decide +kernel
theorem x165_27 {sc : aSc} {d : Nat} {r : aRes} {x0 : Nat} {a1 : Value} {a2 : Value} {st : List Value} {σ : aS} : Rn sc d 165 27 [.ref x0, a1, a2] st σ r ↔ Rn sc d 165 28 [.ref x0, a1, a2] (.ref x0 :: st) σ r := r_aload_n d165_27 rfl
theorem d165_28 : decode (mC 165) 28 = .ok (.iconst 2, 1) := by decide +kernel
theorem x165_28 {sc : aSc} {d : Nat} {r : aRes} {L : List Value} {st : List Value} {σ : aS} : Rn sc d 165 28 L st σ r ↔ Rn sc d 165 29 L (.int 2 :: st) σ r := r_iconst d165_28 (by decide)
theorem d165_29 : decode (mC 165) 29 = .ok (.invokevirtual 341, 3) := by decide +kernel
theorem x165_29 {sc : aSc} {d : Nat} {r : aRes} {L : List Value} {f : Nat → Nat → Int32} {g : Nat → Nat → Int64} {h1 h2 : Nat} {y0 : Int32}  {o : Nat} (hK : KK[o]? = some (.inl 7)) : Rn sc d 165 29 L [.int y0, .ref o] (cS f g h1 h2) r ↔ ∃ (σ3 : aS) (v : Option Value), Cl sc d 154 [.ref o, .int y0] (cS f g h1 h2) (σ3, v) ∧ Rn sc d 165 32 L (v.toList ++ []) σ3 r := r_callV (vs := [.int y0]) d165_29 (j := 154) (by decide +kernel) ⟨rfl, by decide, rfl, rfl⟩ (Nat.le_of_ble_eq_true rfl) hK
theorem d165_32 : decode (mC 165) 32 = .ok (.aload_n 0, 1) := by decide +kernel
theorem x165_32 {sc : aSc} {d : Nat} {r : aRes} {x0 : Nat} {a1 : Value} {a2 : Value} {st : List Value} {σ : aS} : Rn sc d 165 32 [.ref x0, a1, a2] st σ r ↔ Rn sc d 165 33 [.ref x0, a1, a2] (.ref x0 :: st) σ r := r_aload_n d165_32 rfl
theorem d165_33 : decode (mC 165) 33 = .ok (.iconst (-1), 1) := by decide +kernel
theorem x165_33 {sc : aSc} {d : Nat} {r : aRes} {L : List Value} {st : List Value} {σ : aS} : Rn sc d 165 33 L st σ r ↔ Rn sc d 165 34 L (.int (-1) :: st) σ r := r_iconst d165_33 (by decide)
theorem d165_34 : decode (mC 165) 34 = .ok (.putfield 22, 3) := by decide +kernel
theorem x165_34 {sc : aSc} {d : Nat} {r : aRes} {L : List Value} {st : List Value} {f : Nat → Nat → Int32} {g : Nat → Nat → Int64} {h1 h2 : Nat} {o : Nat} {v : Int32} (h17 : 17 ≤ o) (hK : KK[o]? = some (.inl 7)) : Rn sc d 165 34 L (.int v :: .ref o :: st) (cS f g h1 h2) r ↔ Rn sc d 165 37 L st (cS (u2 f o 4 v) g h1 h2) r := r_putI d165_34 (ci := 7) (k := 4) rfl (by decide) h17 hK
theorem d165_37 : decode (mC 165) 37 = .ok (.iload_n 2, 1) := by decide +kernel
theorem x165_37 {sc : aSc} {d : Nat} {r : aRes} {a0 : Value} {a1 : Value} {x2 : Int32} {st : List Value} {σ : aS} : Rn sc d 165 37 [a0, a1, .int x2] st σ r ↔ Rn sc d 165 38 [a0, a1, .int x2] (.int x2 :: st) σ r := r_iload_n d165_37 rfl
theorem d165_38 : decode (mC 165) 38 = .ok (.aload_n 0, 1) := by decide +kernel
theorem x165_38 {sc : aSc} {d : Nat} {r : aRes} {x0 : Nat} {a1 : Value} {a2 : Value} {st : List Value} {σ : aS} : Rn sc d 165 38 [.ref x0, a1, a2] st σ r ↔ Rn sc d 165 39 [.ref x0, a1, a2] (.ref x0 :: st) σ r := r_aload_n d165_38 rfl
theorem d165_39 : decode (mC 165) 39 = .ok (.getfield 108, 3) := by decide +kernel
theorem x165_39 {sc : aSc} {d : Nat} {r : aRes} {L : List Value} {st : List Value} {f : Nat → Nat → Int32} {g : Nat → Nat → Int64} {h1 h2 : Nat} {o : Nat} (h17 : 17 ≤ o) (hK : KK[o]? = some (.inl 7)) : Rn sc d 165 39 L (.ref o :: st) (cS f g h1 h2) r ↔ Rn sc d 165 42 L (.int (f o 32) :: st) (cS f g h1 h2) r := r_getI d165_39 (ci := 7) (k := 32) (by decide +kernel) (by decide +kernel) (fun _ => rfl) h17 hK
theorem d165_42 : decode (mC 165) 42 = .ok (.isub, 1) := by decide +kernel
theorem x165_42 {sc : aSc} {d : Nat} {r : aRes} {L : List Value} {st : List Value} {σ : aS} {x y : Int32} : Rn sc d 165 42 L (.int y :: .int x :: st) σ r ↔ Rn sc d 165 43 L (.int (x - y) :: st) σ r := r_isub d165_42
theorem d165_43 : decode (mC 165) 43 = .ok (.ireturn, 1) := by decide +kernel
theorem x165_43 {sc : aSc} {d : Nat} {r : aRes} {L : List Value} {σ : aS} {x : Int32} : Rn sc d 165 43 L [.int x] σ r ↔ r = (σ, some (.int x)) := r_iret d165_43 rfl rfl
theorem d166_0 : decode (mC 166) 0 = .ok (.iload_n 1, 1) := by decide +kernel
theorem x166_0 {sc : aSc} {d : Nat} {r : aRes} {a0 : Value} {x1 : Int32} {a2 : Value} {st : List Value} {σ : aS} : Rn sc d 166 0 [a0, .int x1, a2] st σ r ↔ Rn sc d 166 1 [a0, .int x1, a2] (.int x1 :: st) σ r := r_iload_n d166_0 rfl
theorem d166_1 : decode (mC 166) 1 = .ok (.iconst (-1), 1) := by decide +kernel
theorem x166_1 {sc : aSc} {d : Nat} {r : aRes} {L : List Value} {st : List Value} {σ : aS} : Rn sc d 166 1 L st σ r ↔ Rn sc d 166 2 L (.int (-1) :: st) σ r := r_iconst d166_1 (by decide)
theorem d166_2 : decode (mC 166) 2 = .ok (.if_icmp .ne 10, 3) := by decide +kernel
theorem x166_2 {sc : aSc} {d : Nat} {r : aRes} {L : List Value} {st : List Value} {σ : aS} {x y : Int32} : Rn sc d 166 2 L (.int y :: .int x :: st) σ r ↔ if x = y then Rn sc d 166 5 L st σ r else Rn sc d 166 12 L st σ r := r_icmp_ne d166_2 rfl
theorem d166_5 : decode (mC 166) 5 = .ok (.aload_n 0, 1) := by decide +kernel
theorem x166_5 {sc : aSc} {d : Nat} {r : aRes} {x0 : Nat} {a1 : Value} {a2 : Value} {st : List Value} {σ : aS} : Rn sc d 166 5 [.ref x0, a1, a2] st σ r ↔ Rn sc d 166 6 [.ref x0, a1, a2] (.ref x0 :: st) σ r := r_aload_n d166_5 rfl
theorem d166_6 : decode (mC 166) 6 = .ok (.iconst 0, 1) := by decide +kernel
theorem x166_6 {sc : aSc} {d : Nat} {r : aRes} {L : List Value} {st : List Value} {σ : aS} : Rn sc d 166 6 L st σ r ↔ Rn sc d 166 7 L (.int 0 :: st) σ r := r_iconst d166_6 (by decide)
theorem d166_7 : decode (mC 166) 7 = .ok (.putfield 132, 3) := by decide +kernel
theorem x166_7 {sc : aSc} {d : Nat} {r : aRes} {L : List Value} {st : List Value} {f : Nat → Nat → Int32} {g : Nat → Nat → Int64} {h1 h2 : Nat} {o : Nat} {v : Int32} (h17 : 17 ≤ o) (hK : KK[o]? = some (.inl 7)) : Rn sc d 166 7 L (.int v :: .ref o :: st) (cS f g h1 h2) r ↔ Rn sc d 166 10 L st (cS (u2 f o 40 v) g h1 h2) r := r_putI d166_7 (ci := 7) (k := 40) (by decide +kernel) (by decide +kernel) h17 hK
theorem d166_10 : decode (mC 166) 10 = .ok (.iconst 0, 1) := by decide +kernel
theorem x166_10 {sc : aSc} {d : Nat} {r : aRes} {L : List Value} {st : List Value} {σ : aS} : Rn sc d 166 10 L st σ r ↔ Rn sc d 166 11 L (.int 0 :: st) σ r := r_iconst d166_10 (by decide)
theorem d166_11 : decode (mC 166) 11 = .ok (.ireturn, 1) := by decide +kernel
theorem x166_11 {sc : aSc} {d : Nat} {r : aRes} {L : List Value} {σ : aS} {x : Int32} : Rn sc d 166 11 L [.int x] σ r ↔ r = (σ, some (.int x)) := r_iret d166_11 rfl rfl
theorem d166_12 : decode (mC 166) 12 = .ok (.aload_n 0, 1) := by decide +kernel
theorem x166_12 {sc : aSc} {d : Nat} {r : aRes} {x0 : Nat} {a1 : Value} {a2 : Value} {st : List Value} {σ : aS} : Rn sc d 166 12 [.ref x0, a1, a2] st σ r ↔ Rn sc d 166 13 [.ref x0, a1, a2] (.ref x0 :: st) σ r := r_aload_n d166_12 rfl
theorem d166_13 : decode (mC 166) 13 = .ok (.iload_n 1, 1) := by decide +kernel
theorem x166_13 {sc : aSc} {d : Nat} {r : aRes} {a0 : Value} {x1 : Int32} {a2 : Value} {st : List Value} {σ : aS} : Rn sc d 166 13 [a0, .int x1, a2] st σ r ↔ Rn sc d 166 14 [a0, .int x1, a2] (.int x1 :: st) σ r := r_iload_n d166_13 rfl
theorem d166_14 : decode (mC 166) 14 = .ok (.invokevirtual 231, 3) := by decide +kernel
theorem x166_14 {sc : aSc} {d : Nat} {r : aRes} {L : List Value} {f : Nat → Nat → Int32} {g : Nat → Nat → Int64} {h1 h2 : Nat} {y0 : Int32}  {o : Nat} (hK : KK[o]? = some (.inl 7)) : Rn sc d 166 14 L [.int y0, .ref o] (cS f g h1 h2) r ↔ ∃ (σ3 : aS) (v : Option Value), Cl sc d 109 [.ref o, .int y0] (cS f g h1 h2) (σ3, v) ∧ Rn sc d 166 17 L (v.toList ++ []) σ3 r := r_callV (vs := [.int y0]) d166_14 (j := 109) (by decide +kernel) ⟨rfl, by decide, rfl, rfl⟩ (Nat.le_of_ble_eq_true rfl) hK
theorem d166_17 : decode (mC 166) 17 = .ok (.ifCond .eq 11, 3) := by decide +kernel
theorem x166_17 {sc : aSc} {d : Nat} {r : aRes} {L : List Value} {st : List Value} {σ : aS} {x : Int32} : Rn sc d 166 17 L (.int x :: st) σ r ↔ if x = 0 then Rn sc d 166 28 L st σ r else Rn sc d 166 20 L st σ r := r_if_eq d166_17 rfl
theorem d166_20 : decode (mC 166) 20 = .ok (.aload_n 0, 1) := by decide +kernel
theorem x166_20 {sc : aSc} {d : Nat} {r : aRes} {x0 : Nat} {a1 : Value} {a2 : Value} {st : List Value} {σ : aS} : Rn sc d 166 20 [.ref x0, a1, a2] st σ r ↔ Rn sc d 166 21 [.ref x0, a1, a2] (.ref x0 :: st) σ r := r_aload_n d166_20 rfl
theorem d166_21 : decode (mC 166) 21 = .ok (.iload_n 2, 1) := by decide +kernel
theorem x166_21 {sc : aSc} {d : Nat} {r : aRes} {a0 : Value} {a1 : Value} {x2 : Int32} {st : List Value} {σ : aS} : Rn sc d 166 21 [a0, a1, .int x2] st σ r ↔ Rn sc d 166 22 [a0, a1, .int x2] (.int x2 :: st) σ r := r_iload_n d166_21 rfl
theorem d166_22 : decode (mC 166) 22 = .ok (.invokevirtual 231, 3) := by decide +kernel
theorem x166_22 {sc : aSc} {d : Nat} {r : aRes} {L : List Value} {f : Nat → Nat → Int32} {g : Nat → Nat → Int64} {h1 h2 : Nat} {y0 : Int32}  {o : Nat} (hK : KK[o]? = some (.inl 7)) : Rn sc d 166 22 L [.int y0, .ref o] (cS f g h1 h2) r ↔ ∃ (σ3 : aS) (v : Option Value), Cl sc d 109 [.ref o, .int y0] (cS f g h1 h2) (σ3, v) ∧ Rn sc d 166 25 L (v.toList ++ []) σ3 r := r_callV (vs := [.int y0]) d166_22 (j := 109) (by decide +kernel) ⟨rfl, by decide, rfl, rfl⟩ (Nat.le_of_ble_eq_true rfl) hK
theorem d166_25 : decode (mC 166) 25 = .ok (.ifCond .ne 5, 3) := by decide +kernel
theorem x166_25 {sc : aSc} {d : Nat} {r : aRes} {L : List Value} {st : List Value} {σ : aS} {x : Int32} : Rn sc d 166 25 L (.int x :: st) σ r ↔ if x = 0 then Rn sc d 166 28 L st σ r else Rn sc d 166 30 L st σ r := r_if_ne d166_25 rfl
theorem d166_28 : decode (mC 166) 28 = .ok (.iconst (-1), 1) := by decide +kernel
theorem x166_28 {sc : aSc} {d : Nat} {r : aRes} {L : List Value} {st : List Value} {σ : aS} : Rn sc d 166 28 L st σ r ↔ Rn sc d 166 29 L (.int (-1) :: st) σ r := r_iconst d166_28 (by decide)
theorem d166_29 : decode (mC 166) 29 = .ok (.ireturn, 1) := by decide +kernel
theorem x166_29 {sc : aSc} {d : Nat} {r : aRes} {L : List Value} {σ : aS} {x : Int32} : Rn sc d 166 29 L [.int x] σ r ↔ r = (σ, some (.int x)) := r_iret d166_29 rfl rfl
theorem d166_30 : decode (mC 166) 30 = .ok (.iload_n 1, 1) := by decide +kernel
theorem x166_30 {sc : aSc} {d : Nat} {r : aRes} {a0 : Value} {x1 : Int32} {a2 : Value} {st : List Value} {σ : aS} : Rn sc d 166 30 [a0, .int x1, a2] st σ r ↔ Rn sc d 166 31 [a0, .int x1, a2] (.int x1 :: st) σ r := r_iload_n d166_30 rfl
theorem d166_31 : decode (mC 166) 31 = .ok (.iload_n 2, 1) := by decide +kernel
theorem x166_31 {sc : aSc} {d : Nat} {r : aRes} {a0 : Value} {a1 : Value} {x2 : Int32} {st : List Value} {σ : aS} : Rn sc d 166 31 [a0, a1, .int x2] st σ r ↔ Rn sc d 166 32 [a0, a1, .int x2] (.int x2 :: st) σ r := r_iload_n d166_31 rfl
theorem d166_32 : decode (mC 166) 32 = .ok (.if_icmp .ne 6, 3) := by decide +kernel
theorem x166_32 {sc : aSc} {d : Nat} {r : aRes} {L : List Value} {st : List Value} {σ : aS} {x y : Int32} : Rn sc d 166 32 L (.int y :: .int x :: st) σ r ↔ if x = y then Rn sc d 166 35 L st σ r else Rn sc d 166 38 L st σ r := r_icmp_ne d166_32 rfl
theorem d166_35 : decode (mC 166) 35 = .ok (.bipush (-2), 2) := by decide +kernel
theorem x166_35 {sc : aSc} {d : Nat} {r : aRes} {L : List Value} {st : List Value} {σ : aS} : Rn sc d 166 35 L st σ r ↔ Rn sc d 166 37 L (.int (-2) :: st) σ r := r_bipush d166_35 (by decide)
theorem d166_37 : decode (mC 166) 37 = .ok (.ireturn, 1) := by decide +kernel
theorem x166_37 {sc : aSc} {d : Nat} {r : aRes} {L : List Value} {σ : aS} {x : Int32} : Rn sc d 166 37 L [.int x] σ r ↔ r = (σ, some (.int x)) := r_iret d166_37 rfl rfl
theorem d166_38 : decode (mC 166) 38 = .ok (.aload_n 0, 1) := by decide +kernel
theorem x166_38 {sc : aSc} {d : Nat} {r : aRes} {x0 : Nat} {a1 : Value} {a2 : Value} {st : List Value} {σ : aS} : Rn sc d 166 38 [.ref x0, a1, a2] st σ r ↔ Rn sc d 166 39 [.ref x0, a1, a2] (.ref x0 :: st) σ r := r_aload_n d166_38 rfl
theorem d166_39 : decode (mC 166) 39 = .ok (.getfield 132, 3) := by decide +kernel
theorem x166_39 {sc : aSc} {d : Nat} {r : aRes} {L : List Value} {st : List Value} {f : Nat → Nat → Int32} {g : Nat → Nat → Int64} {h1 h2 : Nat} {o : Nat} (h17 : 17 ≤ o) (hK : KK[o]? = some (.inl 7)) : Rn sc d 166 39 L (.ref o :: st) (cS f g h1 h2) r ↔ Rn sc d 166 42 L (.int (f o 40) :: st) (cS f g h1 h2) r := r_getI d166_39 (ci := 7) (k := 40) (by decide +kernel) (by decide +kernel) (fun _ => rfl) h17 hK
theorem d166_42 : decode (mC 166) 42 = .ok (.bipush 12, 2) := by decide +kernel
theorem x166_42 {sc : aSc} {d : Nat} {r : aRes} {L : List Value} {st : List Value} {σ : aS} : Rn sc d 166 42 L st σ r ↔ Rn sc d 166 44 L (.int 12 :: st) σ r := r_bipush d166_42 (by decide)
theorem d166_44 : decode (mC 166) 44 = .ok (.if_icmp .ne 6, 3) := by decide +kernel
theorem x166_44 {sc : aSc} {d : Nat} {r : aRes} {L : List Value} {st : List Value} {σ : aS} {x y : Int32} : Rn sc d 166 44 L (.int y :: .int x :: st) σ r ↔ if x = y then Rn sc d 166 47 L st σ r else Rn sc d 166 50 L st σ r := r_icmp_ne d166_44 rfl
theorem d166_47 : decode (mC 166) 47 = .ok (.bipush (-4), 2) := by decide +kernel
theorem x166_47 {sc : aSc} {d : Nat} {r : aRes} {L : List Value} {st : List Value} {σ : aS} : Rn sc d 166 47 L st σ r ↔ Rn sc d 166 49 L (.int (-4) :: st) σ r := r_bipush d166_47 (by decide)
theorem d166_49 : decode (mC 166) 49 = .ok (.ireturn, 1) := by decide +kernel
theorem x166_49 {sc : aSc} {d : Nat} {r : aRes} {L : List Value} {σ : aS} {x : Int32} : Rn sc d 166 49 L [.int x] σ r ↔ r = (σ, some (.int x)) := r_iret d166_49 rfl rfl
theorem d166_50 : decode (mC 166) 50 = .ok (.aload_n 0, 1) := by decide +kernel
theorem x166_50 {sc : aSc} {d : Nat} {r : aRes} {x0 : Nat} {a1 : Value} {a2 : Value} {st : List Value} {σ : aS} : Rn sc d 166 50 [.ref x0, a1, a2] st σ r ↔ Rn sc d 166 51 [.ref x0, a1, a2] (.ref x0 :: st) σ r := r_aload_n d166_50 rfl
theorem d166_51 : decode (mC 166) 51 = .ok (.getfield 135, 3) := by decide +kernel
theorem x166_51 {sc : aSc} {d : Nat} {r : aRes} {L : List Value} {st : List Value} {f : Nat → Nat → Int32} {g : Nat → Nat → Int64} {h1 h2 : Nat} {o : Nat} (hK : KK[o]? = some (.inl 7)) (hR : (RR h1 h2 o 41).isSome = true) : Rn sc d 166 51 L (.ref o :: st) (cS f g h1 h2) r ↔ Rn sc d 166 54 L (.ref (rf h1 h2 o 41) :: st) (cS f g h1 h2) r := r_getR2 d166_51 (ci := 7) (k := 41) (by decide +kernel) (by decide +kernel) (fun _ => rfl) hK hR
theorem d166_54 : decode (mC 166) 54 = .ok (.aload_n 0, 1) := by decide +kernel
theorem x166_54 {sc : aSc} {d : Nat} {r : aRes} {x0 : Nat} {a1 : Value} {a2 : Value} {st : List Value} {σ : aS} : Rn sc d 166 54 [.ref x0, a1, a2] st σ r ↔ Rn sc d 166 55 [.ref x0, a1, a2] (.ref x0 :: st) σ r := r_aload_n d166_54 rfl
theorem d166_55 : decode (mC 166) 55 = .ok (.getfield 132, 3) := by decide +kernel
theorem x166_55 {sc : aSc} {d : Nat} {r : aRes} {L : List Value} {st : List Value} {f : Nat → Nat → Int32} {g : Nat → Nat → Int64} {h1 h2 : Nat} {o : Nat} (h17 : 17 ≤ o) (hK : KK[o]? = some (.inl 7)) : Rn sc d 166 55 L (.ref o :: st) (cS f g h1 h2) r ↔ Rn sc d 166 58 L (.int (f o 40) :: st) (cS f g h1 h2) r := r_getI d166_55 (ci := 7) (k := 40) (by decide +kernel) (by decide +kernel) (fun _ => rfl) h17 hK
theorem d166_58 : decode (mC 166) 58 = .ok (.iload_n 1, 1) := by decide +kernel
theorem x166_58 {sc : aSc} {d : Nat} {r : aRes} {a0 : Value} {x1 : Int32} {a2 : Value} {st : List Value} {σ : aS} : Rn sc d 166 58 [a0, .int x1, a2] st σ r ↔ Rn sc d 166 59 [a0, .int x1, a2] (.int x1 :: st) σ r := r_iload_n d166_58 rfl
theorem d166_59 : decode (mC 166) 59 = .ok (.iastore, 1) := by decide +kernel
theorem x166_59 {sc : aSc} {d : Nat} {r : aRes} {L : List Value} {st : List Value} {f : Nat → Nat → Int32} {g : Nat → Nat → Int64} {h1 h2 : Nat} {a : Nat} {i : Int32} {x : Int32} (h17 : 17 ≤ a) (hA : isT9 .int a) (hi : inb i (aln a) = true) : Rn sc d 166 59 L (.int x :: .int i :: .ref a :: st) (cS f g h1 h2) r ↔ Rn sc d 166 60 L st (cS (u2 f a i.toNatClampNeg x) g h1 h2) r := r_iast d166_59 h17 hA hi
theorem d166_60 : decode (mC 166) 60 = .ok (.aload_n 0, 1) := by decide +kernel
theorem x166_60 {sc : aSc} {d : Nat} {r : aRes} {x0 : Nat} {a1 : Value} {a2 : Value} {st : List Value} {σ : aS} : Rn sc d 166 60 [.ref x0, a1, a2] st σ r ↔ Rn sc d 166 61 [.ref x0, a1, a2] (.ref x0 :: st) σ r := r_aload_n d166_60 rfl
theorem d166_61 : decode (mC 166) 61 = .ok (.getfield 138, 3) := by decide +kernel
theorem x166_61 {sc : aSc} {d : Nat} {r : aRes} {L : List Value} {st : List Value} {f : Nat → Nat → Int32} {g : Nat → Nat → Int64} {h1 h2 : Nat} {o : Nat} (hK : KK[o]? = some (.inl 7)) (hR : (RR h1 h2 o 42).isSome = true) : Rn sc d 166 61 L (.ref o :: st) (cS f g h1 h2) r ↔ Rn sc d 166 64 L (.ref (rf h1 h2 o 42) :: st) (cS f g h1 h2) r := r_getR2 d166_61 (ci := 7) (k := 42) (by decide +kernel) (by decide +kernel) (fun _ => rfl) hK hR
theorem d166_64 : decode (mC 166) 64 = .ok (.aload_n 0, 1) := by decide +kernel
theorem x166_64 {sc : aSc} {d : Nat} {r : aRes} {x0 : Nat} {a1 : Value} {a2 : Value} {st : List Value} {σ : aS} : Rn sc d 166 64 [.ref x0, a1, a2] st σ r ↔ Rn sc d 166 65 [.ref x0, a1, a2] (.ref x0 :: st) σ r := r_aload_n d166_64 rfl
theorem d166_65 : decode (mC 166) 65 = .ok (.getfield 132, 3) := by decide +kernel
theorem x166_65 {sc : aSc} {d : Nat} {r : aRes} {L : List Value} {st : List Value} {f : Nat → Nat → Int32} {g : Nat → Nat → Int64} {h1 h2 : Nat} {o : Nat} (h17 : 17 ≤ o) (hK : KK[o]? = some (.inl 7)) : Rn sc d 166 65 L (.ref o :: st) (cS f g h1 h2) r ↔ Rn sc d 166 68 L (.int (f o 40) :: st) (cS f g h1 h2) r := r_getI d166_65 (ci := 7) (k := 40) (by decide +kernel) (by decide +kernel) (fun _ => rfl) h17 hK
theorem d166_68 : decode (mC 166) 68 = .ok (.iload_n 2, 1) := by decide +kernel
theorem x166_68 {sc : aSc} {d : Nat} {r : aRes} {a0 : Value} {a1 : Value} {x2 : Int32} {st : List Value} {σ : aS} : Rn sc d 166 68 [a0, a1, .int x2] st σ r ↔ Rn sc d 166 69 [a0, a1, .int x2] (.int x2 :: st) σ r := r_iload_n d166_68 rfl
theorem d166_69 : decode (mC 166) 69 = .ok (.iastore, 1) := by decide +kernel
theorem x166_69 {sc : aSc} {d : Nat} {r : aRes} {L : List Value} {st : List Value} {f : Nat → Nat → Int32} {g : Nat → Nat → Int64} {h1 h2 : Nat} {a : Nat} {i : Int32} {x : Int32} (h17 : 17 ≤ a) (hA : isT9 .int a) (hi : inb i (aln a) = true) : Rn sc d 166 69 L (.int x :: .int i :: .ref a :: st) (cS f g h1 h2) r ↔ Rn sc d 166 70 L st (cS (u2 f a i.toNatClampNeg x) g h1 h2) r := r_iast d166_69 h17 hA hi
theorem d166_70 : decode (mC 166) 70 = .ok (.aload_n 0, 1) := by decide +kernel
theorem x166_70 {sc : aSc} {d : Nat} {r : aRes} {x0 : Nat} {a1 : Value} {a2 : Value} {st : List Value} {σ : aS} : Rn sc d 166 70 [.ref x0, a1, a2] st σ r ↔ Rn sc d 166 71 [.ref x0, a1, a2] (.ref x0 :: st) σ r := r_aload_n d166_70 rfl
theorem d166_71 : decode (mC 166) 71 = .ok (.dup, 1) := by decide +kernel
theorem x166_71 {sc : aSc} {d : Nat} {r : aRes} {L : List Value} {st : List Value} {σ : aS} {y : Nat} : Rn sc d 166 71 L (.ref y :: st) σ r ↔ Rn sc d 166 72 L (.ref y :: .ref y :: st) σ r := r_dup d166_71 rfl
theorem d166_72 : decode (mC 166) 72 = .ok (.getfield 132, 3) := by decide +kernel
theorem x166_72 {sc : aSc} {d : Nat} {r : aRes} {L : List Value} {st : List Value} {f : Nat → Nat → Int32} {g : Nat → Nat → Int64} {h1 h2 : Nat} {o : Nat} (h17 : 17 ≤ o) (hK : KK[o]? = some (.inl 7)) : Rn sc d 166 72 L (.ref o :: st) (cS f g h1 h2) r ↔ Rn sc d 166 75 L (.int (f o 40) :: st) (cS f g h1 h2) r := r_getI d166_72 (ci := 7) (k := 40) (by decide +kernel) (by decide +kernel) (fun _ => rfl) h17 hK
theorem d166_75 : decode (mC 166) 75 = .ok (.iconst 1, 1) := by decide +kernel
theorem x166_75 {sc : aSc} {d : Nat} {r : aRes} {L : List Value} {st : List Value} {σ : aS} : Rn sc d 166 75 L st σ r ↔ Rn sc d 166 76 L (.int 1 :: st) σ r := r_iconst d166_75 (by decide)
theorem d166_76 : decode (mC 166) 76 = .ok (.iadd, 1) := by decide +kernel
theorem x166_76 {sc : aSc} {d : Nat} {r : aRes} {L : List Value} {st : List Value} {σ : aS} {x y : Int32} : Rn sc d 166 76 L (.int y :: .int x :: st) σ r ↔ Rn sc d 166 77 L (.int (x + y) :: st) σ r := r_iadd d166_76
theorem d166_77 : decode (mC 166) 77 = .ok (.putfield 132, 3) := by decide +kernel
theorem x166_77 {sc : aSc} {d : Nat} {r : aRes} {L : List Value} {st : List Value} {f : Nat → Nat → Int32} {g : Nat → Nat → Int64} {h1 h2 : Nat} {o : Nat} {v : Int32} (h17 : 17 ≤ o) (hK : KK[o]? = some (.inl 7)) : Rn sc d 166 77 L (.int v :: .ref o :: st) (cS f g h1 h2) r ↔ Rn sc d 166 80 L st (cS (u2 f o 40 v) g h1 h2) r := r_putI d166_77 (ci := 7) (k := 40) (by decide +kernel) (by decide +kernel) h17 hK
theorem d166_80 : decode (mC 166) 80 = .ok (.aload_n 0, 1) := by decide +kernel
theorem x166_80 {sc : aSc} {d : Nat} {r : aRes} {x0 : Nat} {a1 : Value} {a2 : Value} {st : List Value} {σ : aS} : Rn sc d 166 80 [.ref x0, a1, a2] st σ r ↔ Rn sc d 166 81 [.ref x0, a1, a2] (.ref x0 :: st) σ r := r_aload_n d166_80 rfl
theorem d166_81 : decode (mC 166) 81 = .ok (.getfield 132, 3) := by decide +kernel
theorem x166_81 {sc : aSc} {d : Nat} {r : aRes} {L : List Value} {st : List Value} {f : Nat → Nat → Int32} {g : Nat → Nat → Int64} {h1 h2 : Nat} {o : Nat} (h17 : 17 ≤ o) (hK : KK[o]? = some (.inl 7)) : Rn sc d 166 81 L (.ref o :: st) (cS f g h1 h2) r ↔ Rn sc d 166 84 L (.int (f o 40) :: st) (cS f g h1 h2) r := r_getI d166_81 (ci := 7) (k := 40) (by decide +kernel) (by decide +kernel) (fun _ => rfl) h17 hK
theorem d166_84 : decode (mC 166) 84 = .ok (.ireturn, 1) := by decide +kernel
theorem x166_84 {sc : aSc} {d : Nat} {r : aRes} {L : List Value} {σ : aS} {x : Int32} : Rn sc d 166 84 L [.int x] σ r ↔ r = (σ, some (.int x)) := r_iret d166_84 rfl rfl
theorem d167_0 : decode (mC 167) 0 = .ok (.aload_n 0, 1) := by decide +kernel
theorem x167_0 {sc : aSc} {d : Nat} {r : aRes} {x0 : Nat} {a1 : Value} {a2 : Value} {a3 : Value} {a4 : Value} {a5 : Value} {a6 : Value} {a7 : Value} {a8 : Value} {a9 : Value} {st : List Value} {σ : aS} : Rn sc d 167 0 [.ref x0, a1, a2, a3, a4, a5, a6, a7, a8, a9] st σ r ↔ Rn sc d 167 1 [.ref x0, a1, a2, a3, a4, a5, a6, a7, a8, a9] (.ref x0 :: st) σ r := r_aload_n d167_0 rfl
theorem d167_1 : decode (mC 167) 1 = .ok (.iload_n 1, 1) := by decide +kernel
theorem x167_1 {sc : aSc} {d : Nat} {r : aRes} {a0 : Value} {x1 : Int32} {a2 : Value} {a3 : Value} {a4 : Value} {a5 : Value} {a6 : Value} {a7 : Value} {a8 : Value} {a9 : Value} {st : List Value} {σ : aS} : Rn sc d 167 1 [a0, .int x1, a2, a3, a4, a5, a6, a7, a8, a9] st σ r ↔ Rn sc d 167 2 [a0, .int x1, a2, a3, a4, a5, a6, a7, a8, a9] (.int x1 :: st) σ r := r_iload_n d167_1 rfl
theorem d167_2 : decode (mC 167) 2 = .ok (.iconst 0, 1) := by decide +kernel
theorem x167_2 {sc : aSc} {d : Nat} {r : aRes} {L : List Value} {st : List Value} {σ : aS} : Rn sc d 167 2 L st σ r ↔ Rn sc d 167 3 L (.int 0 :: st) σ r := r_iconst d167_2 (by decide)
theorem d167_3 : decode (mC 167) 3 = .ok (.iconst 2, 1) := by decide +kernel
theorem x167_3 {sc : aSc} {d : Nat} {r : aRes} {L : List Value} {st : List Value} {σ : aS} : Rn sc d 167 3 L st σ r ↔ Rn sc d 167 4 L (.int 2 :: st) σ r := r_iconst d167_3 (by decide)
theorem d167_4 : decode (mC 167) 4 = .ok (.invokevirtual 227, 3) := by decide +kernel
theorem x167_4 {sc : aSc} {d : Nat} {r : aRes} {L : List Value} {f : Nat → Nat → Int32} {g : Nat → Nat → Int64} {h1 h2 : Nat} {y0 : Int32} {y1 : Int32} {y2 : Int32}  {o : Nat} (hK : KK[o]? = some (.inl 7)) : Rn sc d 167 4 L [.int y0, .int y1, .int y2, .ref o] (cS f g h1 h2) r ↔ ∃ (σ3 : aS) (v : Option Value), Cl sc d 108 [.ref o, .int y2, .int y1, .int y0] (cS f g h1 h2) (σ3, v) ∧ Rn sc d 167 7 L (v.toList ++ []) σ3 r := r_callV (vs := [.int y0, .int y1, .int y2]) d167_4 (j := 108) (by decide +kernel) ⟨rfl, by decide, rfl, rfl⟩ (Nat.le_of_ble_eq_true rfl) hK
theorem d167_7 : decode (mC 167) 7 = .ok (.ifCond .ne 5, 3) := by decide +kernel
theorem x167_7 {sc : aSc} {d : Nat} {r : aRes} {L : List Value} {st : List Value} {σ : aS} {x : Int32} : Rn sc d 167 7 L (.int x :: st) σ r ↔ if x = 0 then Rn sc d 167 10 L st σ r else Rn sc d 167 12 L st σ r := r_if_ne d167_7 rfl
theorem d167_10 : decode (mC 167) 10 = .ok (.iconst (-1), 1) := by decide +kernel
theorem x167_10 {sc : aSc} {d : Nat} {r : aRes} {L : List Value} {st : List Value} {σ : aS} : Rn sc d 167 10 L st σ r ↔ Rn sc d 167 11 L (.int (-1) :: st) σ r := r_iconst d167_10 (by decide)
theorem d167_11 : decode (mC 167) 11 = .ok (.ireturn, 1) := by decide +kernel
theorem x167_11 {sc : aSc} {d : Nat} {r : aRes} {L : List Value} {σ : aS} {x : Int32} : Rn sc d 167 11 L [.int x] σ r ↔ r = (σ, some (.int x)) := r_iret d167_11 rfl rfl
theorem d167_12 : decode (mC 167) 12 = .ok (.aload_n 0, 1) := by decide +kernel
theorem x167_12 {sc : aSc} {d : Nat} {r : aRes} {x0 : Nat} {a1 : Value} {a2 : Value} {a3 : Value} {a4 : Value} {a5 : Value} {a6 : Value} {a7 : Value} {a8 : Value} {a9 : Value} {st : List Value} {σ : aS} : Rn sc d 167 12 [.ref x0, a1, a2, a3, a4, a5, a6, a7, a8, a9] st σ r ↔ Rn sc d 167 13 [.ref x0, a1, a2, a3, a4, a5, a6, a7, a8, a9] (.ref x0 :: st) σ r := r_aload_n d167_12 rfl
theorem d167_13 : decode (mC 167) 13 = .ok (.getfield 16, 3) := by decide +kernel
theorem x167_13 {sc : aSc} {d : Nat} {r : aRes} {L : List Value} {st : List Value} {f : Nat → Nat → Int32} {g : Nat → Nat → Int64} {h1 h2 : Nat} {o : Nat} (h17 : 17 ≤ o) (hK : KK[o]? = some (.inl 7)) : Rn sc d 167 13 L (.ref o :: st) (cS f g h1 h2) r ↔ Rn sc d 167 16 L (.int (f o 2) :: st) (cS f g h1 h2) r := r_getI d167_13 (ci := 7) (k := 2) rfl (by decide) (fun _ => rfl) h17 hK
theorem d167_16 : decode (mC 167) 16 = .ok (.istore_n 2, 1) := by decide +kernel
theorem x167_16 {sc : aSc} {d : Nat} {r : aRes} {a0 : Value} {x1 : Int32} {a2 : Value} {a3 : Value} {a4 : Value} {a5 : Value} {a6 : Value} {a7 : Value} {a8 : Value} {a9 : Value} {st : List Value} {σ : aS} {y : Int32} : Rn sc d 167 16 [a0, .int x1, a2, a3, a4, a5, a6, a7, a8, a9] (.int y :: st) σ r ↔ Rn sc d 167 17 [a0, .int x1, .int y, a3, a4, a5, a6, a7, a8, a9] st σ r := r_istore_n d167_16 (Nat.le_of_ble_eq_true rfl) rfl
theorem d167_17 : decode (mC 167) 17 = .ok (.aload_n 0, 1) := by decide +kernel
theorem x167_17 {sc : aSc} {d : Nat} {r : aRes} {x0 : Nat} {a1 : Value} {a2 : Value} {a3 : Value} {a4 : Value} {a5 : Value} {a6 : Value} {a7 : Value} {a8 : Value} {a9 : Value} {st : List Value} {σ : aS} : Rn sc d 167 17 [.ref x0, a1, a2, a3, a4, a5, a6, a7, a8, a9] st σ r ↔ Rn sc d 167 18 [.ref x0, a1, a2, a3, a4, a5, a6, a7, a8, a9] (.ref x0 :: st) σ r := r_aload_n d167_17 rfl
theorem d167_18 : decode (mC 167) 18 = .ok (.getfield 13, 3) := by decide +kernel
theorem x167_18 {sc : aSc} {d : Nat} {r : aRes} {L : List Value} {st : List Value} {f : Nat → Nat → Int32} {g : Nat → Nat → Int64} {h1 h2 : Nat} {o : Nat} (h17 : 17 ≤ o) (hK : KK[o]? = some (.inl 7)) : Rn sc d 167 18 L (.ref o :: st) (cS f g h1 h2) r ↔ Rn sc d 167 21 L (.int (f o 1) :: st) (cS f g h1 h2) r := r_getI d167_18 (ci := 7) (k := 1) rfl (by decide) (fun _ => rfl) h17 hK
theorem d167_21 : decode (mC 167) 21 = .ok (.istore_n 3, 1) := by decide +kernel
theorem x167_21 {sc : aSc} {d : Nat} {r : aRes} {a0 : Value} {a1 : Value} {x2 : Int32} {a3 : Value} {a4 : Value} {a5 : Value} {a6 : Value} {a7 : Value} {a8 : Value} {a9 : Value} {st : List Value} {σ : aS} {y : Int32} : Rn sc d 167 21 [a0, a1, .int x2, a3, a4, a5, a6, a7, a8, a9] (.int y :: st) σ r ↔ Rn sc d 167 22 [a0, a1, .int x2, .int y, a4, a5, a6, a7, a8, a9] st σ r := r_istore_n d167_21 (Nat.le_of_ble_eq_true rfl) rfl
theorem d167_22 : decode (mC 167) 22 = .ok (.aload_n 0, 1) := by decide +kernel
theorem x167_22 {sc : aSc} {d : Nat} {r : aRes} {x0 : Nat} {a1 : Value} {a2 : Value} {a3 : Value} {a4 : Value} {a5 : Value} {a6 : Value} {a7 : Value} {a8 : Value} {a9 : Value} {st : List Value} {σ : aS} : Rn sc d 167 22 [.ref x0, a1, a2, a3, a4, a5, a6, a7, a8, a9] st σ r ↔ Rn sc d 167 23 [.ref x0, a1, a2, a3, a4, a5, a6, a7, a8, a9] (.ref x0 :: st) σ r := r_aload_n d167_22 rfl
theorem d167_23 : decode (mC 167) 23 = .ok (.getfield 19, 3) := by decide +kernel
theorem x167_23 {sc : aSc} {d : Nat} {r : aRes} {L : List Value} {st : List Value} {f : Nat → Nat → Int32} {g : Nat → Nat → Int64} {h1 h2 : Nat} {o : Nat} (h17 : 17 ≤ o) (hK : KK[o]? = some (.inl 7)) : Rn sc d 167 23 L (.ref o :: st) (cS f g h1 h2) r ↔ Rn sc d 167 26 L (.int (f o 3) :: st) (cS f g h1 h2) r := r_getI d167_23 (ci := 7) (k := 3) rfl (by decide) (fun _ => rfl) h17 hK
theorem d167_26 : decode (mC 167) 26 = .ok (.istore 4, 2) := by decide +kernel
theorem x167_26 {sc : aSc} {d : Nat} {r : aRes} {a0 : Value} {a1 : Value} {a2 : Value} {x3 : Int32} {a4 : Value} {a5 : Value} {a6 : Value} {a7 : Value} {a8 : Value} {a9 : Value} {st : List Value} {σ : aS} {y : Int32} : Rn sc d 167 26 [a0, a1, a2, .int x3, a4, a5, a6, a7, a8, a9] (.int y :: st) σ r ↔ Rn sc d 167 28 [a0, a1, a2, .int x3, .int y, a5, a6, a7, a8, a9] st σ r := r_istore d167_26 (Nat.le_of_ble_eq_true rfl) rfl
theorem d167_28 : decode (mC 167) 28 = .ok (.iconst 0, 1) := by decide +kernel
theorem x167_28 {sc : aSc} {d : Nat} {r : aRes} {L : List Value} {st : List Value} {σ : aS} : Rn sc d 167 28 L st σ r ↔ Rn sc d 167 29 L (.int 0 :: st) σ r := r_iconst d167_28 (by decide)
theorem d167_29 : decode (mC 167) 29 = .ok (.istore 5, 2) := by decide +kernel
theorem x167_29 {sc : aSc} {d : Nat} {r : aRes} {a0 : Value} {a1 : Value} {a2 : Value} {a3 : Value} {x4 : Int32} {a5 : Value} {a6 : Value} {a7 : Value} {a8 : Value} {a9 : Value} {st : List Value} {σ : aS} {y : Int32} : Rn sc d 167 29 [a0, a1, a2, a3, .int x4, a5, a6, a7, a8, a9] (.int y :: st) σ r ↔ Rn sc d 167 31 [a0, a1, a2, a3, .int x4, .int y, a6, a7, a8, a9] st σ r := r_istore d167_29 (Nat.le_of_ble_eq_true rfl) rfl
theorem d167_31 : decode (mC 167) 31 = .ok (.bipush (-5), 2) := by decide +kernel
theorem x167_31 {sc : aSc} {d : Nat} {r : aRes} {L : List Value} {st : List Value} {σ : aS} : Rn sc d 167 31 L st σ r ↔ Rn sc d 167 33 L (.int (-5) :: st) σ r := r_bipush d167_31 (by decide)
theorem d167_33 : decode (mC 167) 33 = .ok (.istore 6, 2) := by decide +kernel
theorem x167_33 {sc : aSc} {d : Nat} {r : aRes} {a0 : Value} {a1 : Value} {a2 : Value} {a3 : Value} {a4 : Value} {x5 : Int32} {a6 : Value} {a7 : Value} {a8 : Value} {a9 : Value} {st : List Value} {σ : aS} {y : Int32} : Rn sc d 167 33 [a0, a1, a2, a3, a4, .int x5, a6, a7, a8, a9] (.int y :: st) σ r ↔ Rn sc d 167 35 [a0, a1, a2, a3, a4, .int x5, .int y, a7, a8, a9] st σ r := r_istore d167_33 (Nat.le_of_ble_eq_true rfl) rfl
theorem d167_35 : decode (mC 167) 35 = .ok (.iconst 0, 1) := by decide +kernel
theorem x167_35 {sc : aSc} {d : Nat} {r : aRes} {L : List Value} {st : List Value} {σ : aS} : Rn sc d 167 35 L st σ r ↔ Rn sc d 167 36 L (.int 0 :: st) σ r := r_iconst d167_35 (by decide)
theorem d167_36 : decode (mC 167) 36 = .ok (.istore 7, 2) := by decide +kernel
theorem x167_36 {sc : aSc} {d : Nat} {r : aRes} {a0 : Value} {a1 : Value} {a2 : Value} {a3 : Value} {a4 : Value} {a5 : Value} {x6 : Int32} {a7 : Value} {a8 : Value} {a9 : Value} {st : List Value} {σ : aS} {y : Int32} : Rn sc d 167 36 [a0, a1, a2, a3, a4, a5, .int x6, a7, a8, a9] (.int y :: st) σ r ↔ Rn sc d 167 38 [a0, a1, a2, a3, a4, a5, .int x6, .int y, a8, a9] st σ r := r_istore d167_36 (Nat.le_of_ble_eq_true rfl) rfl
theorem d167_38 : decode (mC 167) 38 = .ok (.iload 7, 2) := by decide +kernel
theorem x167_38 {sc : aSc} {d : Nat} {r : aRes} {a0 : Value} {a1 : Value} {a2 : Value} {a3 : Value} {a4 : Value} {a5 : Value} {a6 : Value} {x7 : Int32} {a8 : Value} {a9 : Value} {st : List Value} {σ : aS} : Rn sc d 167 38 [a0, a1, a2, a3, a4, a5, a6, .int x7, a8, a9] st σ r ↔ Rn sc d 167 40 [a0, a1, a2, a3, a4, a5, a6, .int x7, a8, a9] (.int x7 :: st) σ r := r_iload d167_38 rfl
theorem d167_40 : decode (mC 167) 40 = .ok (.aload_n 0, 1) := by decide +kernel
theorem x167_40 {sc : aSc} {d : Nat} {r : aRes} {x0 : Nat} {a1 : Value} {a2 : Value} {a3 : Value} {a4 : Value} {a5 : Value} {a6 : Value} {a7 : Value} {a8 : Value} {a9 : Value} {st : List Value} {σ : aS} : Rn sc d 167 40 [.ref x0, a1, a2, a3, a4, a5, a6, a7, a8, a9] st σ r ↔ Rn sc d 167 41 [.ref x0, a1, a2, a3, a4, a5, a6, a7, a8, a9] (.ref x0 :: st) σ r := r_aload_n d167_40 rfl
theorem d167_41 : decode (mC 167) 41 = .ok (.getfield 132, 3) := by decide +kernel
theorem x167_41 {sc : aSc} {d : Nat} {r : aRes} {L : List Value} {st : List Value} {f : Nat → Nat → Int32} {g : Nat → Nat → Int64} {h1 h2 : Nat} {o : Nat} (h17 : 17 ≤ o) (hK : KK[o]? = some (.inl 7)) : Rn sc d 167 41 L (.ref o :: st) (cS f g h1 h2) r ↔ Rn sc d 167 44 L (.int (f o 40) :: st) (cS f g h1 h2) r := r_getI d167_41 (ci := 7) (k := 40) (by decide +kernel) (by decide +kernel) (fun _ => rfl) h17 hK
theorem d167_44 : decode (mC 167) 44 = .ok (.if_icmp .ge 95, 3) := by decide +kernel
theorem x167_44 {sc : aSc} {d : Nat} {r : aRes} {L : List Value} {st : List Value} {σ : aS} {x y : Int32} : Rn sc d 167 44 L (.int y :: .int x :: st) σ r ↔ if x < y then Rn sc d 167 47 L st σ r else Rn sc d 167 139 L st σ r := r_icmp_ge d167_44 rfl
theorem d167_47 : decode (mC 167) 47 = .ok (.aload_n 0, 1) := by decide +kernel
theorem x167_47 {sc : aSc} {d : Nat} {r : aRes} {x0 : Nat} {a1 : Value} {a2 : Value} {a3 : Value} {a4 : Value} {a5 : Value} {a6 : Value} {a7 : Value} {a8 : Value} {a9 : Value} {st : List Value} {σ : aS} : Rn sc d 167 47 [.ref x0, a1, a2, a3, a4, a5, a6, a7, a8, a9] st σ r ↔ Rn sc d 167 48 [.ref x0, a1, a2, a3, a4, a5, a6, a7, a8, a9] (.ref x0 :: st) σ r := r_aload_n d167_47 rfl
theorem d167_48 : decode (mC 167) 48 = .ok (.iload_n 2, 1) := by decide +kernel
theorem x167_48 {sc : aSc} {d : Nat} {r : aRes} {a0 : Value} {a1 : Value} {x2 : Int32} {a3 : Value} {a4 : Value} {a5 : Value} {a6 : Value} {a7 : Value} {a8 : Value} {a9 : Value} {st : List Value} {σ : aS} : Rn sc d 167 48 [a0, a1, .int x2, a3, a4, a5, a6, a7, a8, a9] st σ r ↔ Rn sc d 167 49 [a0, a1, .int x2, a3, a4, a5, a6, a7, a8, a9] (.int x2 :: st) σ r := r_iload_n d167_48 rfl
theorem d167_49 : decode (mC 167) 49 = .ok (.iload 7, 2) := by decide +kernel
theorem x167_49 {sc : aSc} {d : Nat} {r : aRes} {a0 : Value} {a1 : Value} {a2 : Value} {a3 : Value} {a4 : Value} {a5 : Value} {a6 : Value} {x7 : Int32} {a8 : Value} {a9 : Value} {st : List Value} {σ : aS} : Rn sc d 167 49 [a0, a1, a2, a3, a4, a5, a6, .int x7, a8, a9] st σ r ↔ Rn sc d 167 51 [a0, a1, a2, a3, a4, a5, a6, .int x7, a8, a9] (.int x7 :: st) σ r := r_iload d167_49 rfl
theorem d167_51 : decode (mC 167) 51 = .ok (.iadd, 1) := by decide +kernel
theorem x167_51 {sc : aSc} {d : Nat} {r : aRes} {L : List Value} {st : List Value} {σ : aS} {x y : Int32} : Rn sc d 167 51 L (.int y :: .int x :: st) σ r ↔ Rn sc d 167 52 L (.int (x + y) :: st) σ r := r_iadd d167_51
theorem d167_52 : decode (mC 167) 52 = .ok (.putfield 16, 3) := by decide +kernel
theorem x167_52 {sc : aSc} {d : Nat} {r : aRes} {L : List Value} {st : List Value} {f : Nat → Nat → Int32} {g : Nat → Nat → Int64} {h1 h2 : Nat} {o : Nat} {v : Int32} (h17 : 17 ≤ o) (hK : KK[o]? = some (.inl 7)) : Rn sc d 167 52 L (.int v :: .ref o :: st) (cS f g h1 h2) r ↔ Rn sc d 167 55 L st (cS (u2 f o 2 v) g h1 h2) r := r_putI d167_52 (ci := 7) (k := 2) rfl (by decide) h17 hK
theorem d167_55 : decode (mC 167) 55 = .ok (.aload_n 0, 1) := by decide +kernel
theorem x167_55 {sc : aSc} {d : Nat} {r : aRes} {x0 : Nat} {a1 : Value} {a2 : Value} {a3 : Value} {a4 : Value} {a5 : Value} {a6 : Value} {a7 : Value} {a8 : Value} {a9 : Value} {st : List Value} {σ : aS} : Rn sc d 167 55 [.ref x0, a1, a2, a3, a4, a5, a6, a7, a8, a9] st σ r ↔ Rn sc d 167 56 [.ref x0, a1, a2, a3, a4, a5, a6, a7, a8, a9] (.ref x0 :: st) σ r := r_aload_n d167_55 rfl
theorem d167_56 : decode (mC 167) 56 = .ok (.getfield 135, 3) := by decide +kernel
theorem x167_56 {sc : aSc} {d : Nat} {r : aRes} {L : List Value} {st : List Value} {f : Nat → Nat → Int32} {g : Nat → Nat → Int64} {h1 h2 : Nat} {o : Nat} (hK : KK[o]? = some (.inl 7)) (hR : (RR h1 h2 o 41).isSome = true) : Rn sc d 167 56 L (.ref o :: st) (cS f g h1 h2) r ↔ Rn sc d 167 59 L (.ref (rf h1 h2 o 41) :: st) (cS f g h1 h2) r := r_getR2 d167_56 (ci := 7) (k := 41) (by decide +kernel) (by decide +kernel) (fun _ => rfl) hK hR
theorem d167_59 : decode (mC 167) 59 = .ok (.iload 7, 2) := by decide +kernel
theorem x167_59 {sc : aSc} {d : Nat} {r : aRes} {a0 : Value} {a1 : Value} {a2 : Value} {a3 : Value} {a4 : Value} {a5 : Value} {a6 : Value} {x7 : Int32} {a8 : Value} {a9 : Value} {st : List Value} {σ : aS} : Rn sc d 167 59 [a0, a1, a2, a3, a4, a5, a6, .int x7, a8, a9] st σ r ↔ Rn sc d 167 61 [a0, a1, a2, a3, a4, a5, a6, .int x7, a8, a9] (.int x7 :: st) σ r := r_iload d167_59 rfl
theorem d167_61 : decode (mC 167) 61 = .ok (.iaload, 1) := by decide +kernel
theorem x167_61 {sc : aSc} {d : Nat} {r : aRes} {L : List Value} {st : List Value} {f : Nat → Nat → Int32} {g : Nat → Nat → Int64} {h1 h2 : Nat} {a : Nat} {i : Int32} (h17 : 17 ≤ a) (hA : isT9 .int a) (hi : inb i (aln a) = true) : Rn sc d 167 61 L (.int i :: .ref a :: st) (cS f g h1 h2) r ↔ Rn sc d 167 62 L (.int (f a i.toNatClampNeg) :: st) (cS f g h1 h2) r := r_iald d167_61 h17 hA hi
theorem d167_62 : decode (mC 167) 62 = .ok (.istore 8, 2) := by decide +kernel
theorem x167_62 {sc : aSc} {d : Nat} {r : aRes} {a0 : Value} {a1 : Value} {a2 : Value} {a3 : Value} {a4 : Value} {a5 : Value} {a6 : Value} {x7 : Int32} {a8 : Value} {a9 : Value} {st : List Value} {σ : aS} {y : Int32} : Rn sc d 167 62 [a0, a1, a2, a3, a4, a5, a6, .int x7, a8, a9] (.int y :: st) σ r ↔ Rn sc d 167 64 [a0, a1, a2, a3, a4, a5, a6, .int x7, .int y, a9] st σ r := r_istore d167_62 (Nat.le_of_ble_eq_true rfl) rfl
theorem d167_64 : decode (mC 167) 64 = .ok (.aload_n 0, 1) := by decide +kernel
theorem x167_64 {sc : aSc} {d : Nat} {r : aRes} {x0 : Nat} {a1 : Value} {a2 : Value} {a3 : Value} {a4 : Value} {a5 : Value} {a6 : Value} {a7 : Value} {a8 : Value} {a9 : Value} {st : List Value} {σ : aS} : Rn sc d 167 64 [.ref x0, a1, a2, a3, a4, a5, a6, a7, a8, a9] st σ r ↔ Rn sc d 167 65 [.ref x0, a1, a2, a3, a4, a5, a6, a7, a8, a9] (.ref x0 :: st) σ r := r_aload_n d167_64 rfl
theorem d167_65 : decode (mC 167) 65 = .ok (.getfield 138, 3) := by decide +kernel
theorem x167_65 {sc : aSc} {d : Nat} {r : aRes} {L : List Value} {st : List Value} {f : Nat → Nat → Int32} {g : Nat → Nat → Int64} {h1 h2 : Nat} {o : Nat} (hK : KK[o]? = some (.inl 7)) (hR : (RR h1 h2 o 42).isSome = true) : Rn sc d 167 65 L (.ref o :: st) (cS f g h1 h2) r ↔ Rn sc d 167 68 L (.ref (rf h1 h2 o 42) :: st) (cS f g h1 h2) r := r_getR2 d167_65 (ci := 7) (k := 42) (by decide +kernel) (by decide +kernel) (fun _ => rfl) hK hR
theorem d167_68 : decode (mC 167) 68 = .ok (.iload 7, 2) := by decide +kernel
theorem x167_68 {sc : aSc} {d : Nat} {r : aRes} {a0 : Value} {a1 : Value} {a2 : Value} {a3 : Value} {a4 : Value} {a5 : Value} {a6 : Value} {x7 : Int32} {a8 : Value} {a9 : Value} {st : List Value} {σ : aS} : Rn sc d 167 68 [a0, a1, a2, a3, a4, a5, a6, .int x7, a8, a9] st σ r ↔ Rn sc d 167 70 [a0, a1, a2, a3, a4, a5, a6, .int x7, a8, a9] (.int x7 :: st) σ r := r_iload d167_68 rfl
theorem d167_70 : decode (mC 167) 70 = .ok (.iaload, 1) := by decide +kernel
theorem x167_70 {sc : aSc} {d : Nat} {r : aRes} {L : List Value} {st : List Value} {f : Nat → Nat → Int32} {g : Nat → Nat → Int64} {h1 h2 : Nat} {a : Nat} {i : Int32} (h17 : 17 ≤ a) (hA : isT9 .int a) (hi : inb i (aln a) = true) : Rn sc d 167 70 L (.int i :: .ref a :: st) (cS f g h1 h2) r ↔ Rn sc d 167 71 L (.int (f a i.toNatClampNeg) :: st) (cS f g h1 h2) r := r_iald d167_70 h17 hA hi
theorem d167_71 : decode (mC 167) 71 = .ok (.istore 9, 2) := by decide +kernel
theorem x167_71 {sc : aSc} {d : Nat} {r : aRes} {a0 : Value} {a1 : Value} {a2 : Value} {a3 : Value} {a4 : Value} {a5 : Value} {a6 : Value} {a7 : Value} {x8 : Int32} {a9 : Value} {st : List Value} {σ : aS} {y : Int32} : Rn sc d 167 71 [a0, a1, a2, a3, a4, a5, a6, a7, .int x8, a9] (.int y :: st) σ r ↔ Rn sc d 167 73 [a0, a1, a2, a3, a4, a5, a6, a7, .int x8, .int y] st σ r := r_istore d167_71 (Nat.le_of_ble_eq_true rfl) rfl
theorem d167_73 : decode (mC 167) 73 = .ok (.aload_n 0, 1) := by decide +kernel
theorem x167_73 {sc : aSc} {d : Nat} {r : aRes} {x0 : Nat} {a1 : Value} {a2 : Value} {a3 : Value} {a4 : Value} {a5 : Value} {a6 : Value} {a7 : Value} {a8 : Value} {a9 : Value} {st : List Value} {σ : aS} : Rn sc d 167 73 [.ref x0, a1, a2, a3, a4, a5, a6, a7, a8, a9] st σ r ↔ Rn sc d 167 74 [.ref x0, a1, a2, a3, a4, a5, a6, a7, a8, a9] (.ref x0 :: st) σ r := r_aload_n d167_73 rfl
theorem d167_74 : decode (mC 167) 74 = .ok (.iload 8, 2) := by decide +kernel
theorem x167_74 {sc : aSc} {d : Nat} {r : aRes} {a0 : Value} {a1 : Value} {a2 : Value} {a3 : Value} {a4 : Value} {a5 : Value} {a6 : Value} {a7 : Value} {x8 : Int32} {a9 : Value} {st : List Value} {σ : aS} : Rn sc d 167 74 [a0, a1, a2, a3, a4, a5, a6, a7, .int x8, a9] st σ r ↔ Rn sc d 167 76 [a0, a1, a2, a3, a4, a5, a6, a7, .int x8, a9] (.int x8 :: st) σ r := r_iload d167_74 rfl
theorem d167_76 : decode (mC 167) 76 = .ok (.iload 9, 2) := by decide +kernel
theorem x167_76 {sc : aSc} {d : Nat} {r : aRes} {a0 : Value} {a1 : Value} {a2 : Value} {a3 : Value} {a4 : Value} {a5 : Value} {a6 : Value} {a7 : Value} {a8 : Value} {x9 : Int32} {st : List Value} {σ : aS} : Rn sc d 167 76 [a0, a1, a2, a3, a4, a5, a6, a7, a8, .int x9] st σ r ↔ Rn sc d 167 78 [a0, a1, a2, a3, a4, a5, a6, a7, a8, .int x9] (.int x9 :: st) σ r := r_iload d167_76 rfl
theorem d167_78 : decode (mC 167) 78 = .ok (.invokevirtual 322, 3) := by decide +kernel
theorem x167_78 {sc : aSc} {d : Nat} {r : aRes} {L : List Value} {f : Nat → Nat → Int32} {g : Nat → Nat → Int64} {h1 h2 : Nat} {y0 : Int32} {y1 : Int32}  {o : Nat} (hK : KK[o]? = some (.inl 7)) : Rn sc d 167 78 L [.int y0, .int y1, .ref o] (cS f g h1 h2) r ↔ ∃ (σ3 : aS) (v : Option Value), Cl sc d 141 [.ref o, .int y1, .int y0] (cS f g h1 h2) (σ3, v) ∧ Rn sc d 167 81 L (v.toList ++ []) σ3 r := r_callV (vs := [.int y0, .int y1]) d167_78 (j := 141) (by decide +kernel) ⟨rfl, by decide, rfl, rfl⟩ (Nat.le_of_ble_eq_true rfl) hK
theorem d167_81 : decode (mC 167) 81 = .ok (.ifCond .eq 35, 3) := by decide +kernel
theorem x167_81 {sc : aSc} {d : Nat} {r : aRes} {L : List Value} {st : List Value} {σ : aS} {x : Int32} : Rn sc d 167 81 L (.int x :: st) σ r ↔ if x = 0 then Rn sc d 167 116 L st σ r else Rn sc d 167 84 L st σ r := r_if_eq d167_81 rfl
theorem d167_84 : decode (mC 167) 84 = .ok (.aload_n 0, 1) := by decide +kernel
theorem x167_84 {sc : aSc} {d : Nat} {r : aRes} {x0 : Nat} {a1 : Value} {a2 : Value} {a3 : Value} {a4 : Value} {a5 : Value} {a6 : Value} {a7 : Value} {a8 : Value} {a9 : Value} {st : List Value} {σ : aS} : Rn sc d 167 84 [.ref x0, a1, a2, a3, a4, a5, a6, a7, a8, a9] st σ r ↔ Rn sc d 167 85 [.ref x0, a1, a2, a3, a4, a5, a6, a7, a8, a9] (.ref x0 :: st) σ r := r_aload_n d167_84 rfl
theorem d167_85 : decode (mC 167) 85 = .ok (.iload 4, 2) := by decide +kernel
theorem x167_85 {sc : aSc} {d : Nat} {r : aRes} {a0 : Value} {a1 : Value} {a2 : Value} {a3 : Value} {x4 : Int32} {a5 : Value} {a6 : Value} {a7 : Value} {a8 : Value} {a9 : Value} {st : List Value} {σ : aS} : Rn sc d 167 85 [a0, a1, a2, a3, .int x4, a5, a6, a7, a8, a9] st σ r ↔ Rn sc d 167 87 [a0, a1, a2, a3, .int x4, a5, a6, a7, a8, a9] (.int x4 :: st) σ r := r_iload d167_85 rfl
theorem d167_87 : decode (mC 167) 87 = .ok (.aload_n 0, 1) := by decide +kernel
theorem x167_87 {sc : aSc} {d : Nat} {r : aRes} {x0 : Nat} {a1 : Value} {a2 : Value} {a3 : Value} {a4 : Value} {a5 : Value} {a6 : Value} {a7 : Value} {a8 : Value} {a9 : Value} {st : List Value} {σ : aS} : Rn sc d 167 87 [.ref x0, a1, a2, a3, a4, a5, a6, a7, a8, a9] st σ r ↔ Rn sc d 167 88 [.ref x0, a1, a2, a3, a4, a5, a6, a7, a8, a9] (.ref x0 :: st) σ r := r_aload_n d167_87 rfl
theorem d167_88 : decode (mC 167) 88 = .ok (.iload 8, 2) := by decide +kernel
theorem x167_88 {sc : aSc} {d : Nat} {r : aRes} {a0 : Value} {a1 : Value} {a2 : Value} {a3 : Value} {a4 : Value} {a5 : Value} {a6 : Value} {a7 : Value} {x8 : Int32} {a9 : Value} {st : List Value} {σ : aS} : Rn sc d 167 88 [a0, a1, a2, a3, a4, a5, a6, a7, .int x8, a9] st σ r ↔ Rn sc d 167 90 [a0, a1, a2, a3, a4, a5, a6, a7, .int x8, a9] (.int x8 :: st) σ r := r_iload d167_88 rfl
theorem d167_90 : decode (mC 167) 90 = .ok (.invokevirtual 313, 3) := by decide +kernel
theorem x167_90 {sc : aSc} {d : Nat} {r : aRes} {L : List Value} {f : Nat → Nat → Int32} {g : Nat → Nat → Int64} {h1 h2 : Nat} {y0 : Int32} {z0 : Int32} {z1 : Nat} {o : Nat} (hK : KK[o]? = some (.inl 7)) : Rn sc d 167 90 L [.int y0, .ref o, .int z0, .ref z1] (cS f g h1 h2) r ↔ ∃ (σ3 : aS) (v : Option Value), Cl sc d 138 [.ref o, .int y0] (cS f g h1 h2) (σ3, v) ∧ Rn sc d 167 93 L (v.toList ++ [.int z0, .ref z1]) σ3 r := r_callV (vs := [.int y0]) d167_90 (j := 138) (by decide +kernel) ⟨rfl, by decide, rfl, rfl⟩ (Nat.le_of_ble_eq_true rfl) hK
theorem d167_93 : decode (mC 167) 93 = .ok (.aload_n 0, 1) := by decide +kernel
theorem x167_93 {sc : aSc} {d : Nat} {r : aRes} {x0 : Nat} {a1 : Value} {a2 : Value} {a3 : Value} {a4 : Value} {a5 : Value} {a6 : Value} {a7 : Value} {a8 : Value} {a9 : Value} {st : List Value} {σ : aS} : Rn sc d 167 93 [.ref x0, a1, a2, a3, a4, a5, a6, a7, a8, a9] st σ r ↔ Rn sc d 167 94 [.ref x0, a1, a2, a3, a4, a5, a6, a7, a8, a9] (.ref x0 :: st) σ r := r_aload_n d167_93 rfl
theorem d167_94 : decode (mC 167) 94 = .ok (.iload 9, 2) := by decide +kernel
theorem x167_94 {sc : aSc} {d : Nat} {r : aRes} {a0 : Value} {a1 : Value} {a2 : Value} {a3 : Value} {a4 : Value} {a5 : Value} {a6 : Value} {a7 : Value} {a8 : Value} {x9 : Int32} {st : List Value} {σ : aS} : Rn sc d 167 94 [a0, a1, a2, a3, a4, a5, a6, a7, a8, .int x9] st σ r ↔ Rn sc d 167 96 [a0, a1, a2, a3, a4, a5, a6, a7, a8, .int x9] (.int x9 :: st) σ r := r_iload d167_94 rfl
theorem d167_96 : decode (mC 167) 96 = .ok (.invokevirtual 313, 3) := by decide +kernel
theorem x167_96 {sc : aSc} {d : Nat} {r : aRes} {L : List Value} {f : Nat → Nat → Int32} {g : Nat → Nat → Int64} {h1 h2 : Nat} {y0 : Int32} {z0 : Int32} {z1 : Int32} {z2 : Nat} {o : Nat} (hK : KK[o]? = some (.inl 7)) : Rn sc d 167 96 L [.int y0, .ref o, .int z0, .int z1, .ref z2] (cS f g h1 h2) r ↔ ∃ (σ3 : aS) (v : Option Value), Cl sc d 138 [.ref o, .int y0] (cS f g h1 h2) (σ3, v) ∧ Rn sc d 167 99 L (v.toList ++ [.int z0, .int z1, .ref z2]) σ3 r := r_callV (vs := [.int y0]) d167_96 (j := 138) (by decide +kernel) ⟨rfl, by decide, rfl, rfl⟩ (Nat.le_of_ble_eq_true rfl) hK
theorem d167_99 : decode (mC 167) 99 = .ok (.iadd, 1) := by decide +kernel
theorem x167_99 {sc : aSc} {d : Nat} {r : aRes} {L : List Value} {st : List Value} {σ : aS} {x y : Int32} : Rn sc d 167 99 L (.int y :: .int x :: st) σ r ↔ Rn sc d 167 100 L (.int (x + y) :: st) σ r := r_iadd d167_99
theorem d167_100 : decode (mC 167) 100 = .ok (.invokevirtual 325, 3) := by decide +kernel
theorem x167_100 {sc : aSc} {d : Nat} {r : aRes} {L : List Value} {f : Nat → Nat → Int32} {g : Nat → Nat → Int64} {h1 h2 : Nat} {y0 : Int32} {y1 : Int32}  {o : Nat} (hK : KK[o]? = some (.inl 7)) : Rn sc d 167 100 L [.int y0, .int y1, .ref o] (cS f g h1 h2) r ↔ ∃ (σ3 : aS) (v : Option Value), Cl sc d 146 [.ref o, .int y1, .int y0] (cS f g h1 h2) (σ3, v) ∧ Rn sc d 167 103 L (v.toList ++ []) σ3 r := r_callV (vs := [.int y0, .int y1]) d167_100 (j := 146) (by decide +kernel) ⟨rfl, by decide, rfl, rfl⟩ (Nat.le_of_ble_eq_true rfl) hK
theorem d167_103 : decode (mC 167) 103 = .ok (.istore 4, 2) := by decide +kernel
theorem x167_103 {sc : aSc} {d : Nat} {r : aRes} {a0 : Value} {a1 : Value} {a2 : Value} {x3 : Int32} {a4 : Value} {a5 : Value} {a6 : Value} {a7 : Value} {a8 : Value} {a9 : Value} {st : List Value} {σ : aS} {y : Int32} : Rn sc d 167 103 [a0, a1, a2, .int x3, a4, a5, a6, a7, a8, a9] (.int y :: st) σ r ↔ Rn sc d 167 105 [a0, a1, a2, .int x3, .int y, a5, a6, a7, a8, a9] st σ r := r_istore d167_103 (Nat.le_of_ble_eq_true rfl) rfl
theorem d167_105 : decode (mC 167) 105 = .ok (.aload_n 0, 1) := by decide +kernel
theorem x167_105 {sc : aSc} {d : Nat} {r : aRes} {x0 : Nat} {a1 : Value} {a2 : Value} {a3 : Value} {a4 : Value} {a5 : Value} {a6 : Value} {a7 : Value} {a8 : Value} {a9 : Value} {st : List Value} {σ : aS} : Rn sc d 167 105 [.ref x0, a1, a2, a3, a4, a5, a6, a7, a8, a9] st σ r ↔ Rn sc d 167 106 [.ref x0, a1, a2, a3, a4, a5, a6, a7, a8, a9] (.ref x0 :: st) σ r := r_aload_n d167_105 rfl
theorem d167_106 : decode (mC 167) 106 = .ok (.iload 8, 2) := by decide +kernel
theorem x167_106 {sc : aSc} {d : Nat} {r : aRes} {a0 : Value} {a1 : Value} {a2 : Value} {a3 : Value} {a4 : Value} {a5 : Value} {a6 : Value} {a7 : Value} {x8 : Int32} {a9 : Value} {st : List Value} {σ : aS} : Rn sc d 167 106 [a0, a1, a2, a3, a4, a5, a6, a7, .int x8, a9] st σ r ↔ Rn sc d 167 108 [a0, a1, a2, a3, a4, a5, a6, a7, .int x8, a9] (.int x8 :: st) σ r := r_iload d167_106 rfl
theorem d167_108 : decode (mC 167) 108 = .ok (.iload 9, 2) := by decide +kernel
theorem x167_108 {sc : aSc} {d : Nat} {r : aRes} {a0 : Value} {a1 : Value} {a2 : Value} {a3 : Value} {a4 : Value} {a5 : Value} {a6 : Value} {a7 : Value} {a8 : Value} {x9 : Int32} {st : List Value} {σ : aS} : Rn sc d 167 108 [a0, a1, a2, a3, a4, a5, a6, a7, a8, .int x9] st σ r ↔ Rn sc d 167 110 [a0, a1, a2, a3, a4, a5, a6, a7, a8, .int x9] (.int x9 :: st) σ r := r_iload d167_108 rfl
theorem d167_110 : decode (mC 167) 110 = .ok (.invokevirtual 328, 3) := by decide +kernel
theorem x167_110 {sc : aSc} {d : Nat} {r : aRes} {L : List Value} {f : Nat → Nat → Int32} {g : Nat → Nat → Int64} {h1 h2 : Nat} {y0 : Int32} {y1 : Int32}  {o : Nat} (hK : KK[o]? = some (.inl 7)) : Rn sc d 167 110 L [.int y0, .int y1, .ref o] (cS f g h1 h2) r ↔ ∃ (σ3 : aS) (v : Option Value), Cl sc d 142 [.ref o, .int y1, .int y0] (cS f g h1 h2) (σ3, v) ∧ Rn sc d 167 113 L (v.toList ++ []) σ3 r := r_callV (vs := [.int y0, .int y1]) d167_110 (j := 142) (by decide +kernel) ⟨rfl, by decide, rfl, rfl⟩ (Nat.le_of_ble_eq_true rfl) hK
theorem d167_113 : decode (mC 167) 113 = .ok (.goto 20, 3) := by decide +kernel
theorem x167_113 {sc : aSc} {d : Nat} {r : aRes} {L : List Value} {st : List Value} {σ : aS} : Rn sc d 167 113 L st σ r ↔ Rn sc d 167 133 L st σ r := r_goto d167_113 rfl
theorem d167_116 : decode (mC 167) 116 = .ok (.iload 5, 2) := by decide +kernel
theorem x167_116 {sc : aSc} {d : Nat} {r : aRes} {a0 : Value} {a1 : Value} {a2 : Value} {a3 : Value} {a4 : Value} {x5 : Int32} {a6 : Value} {a7 : Value} {a8 : Value} {a9 : Value} {st : List Value} {σ : aS} : Rn sc d 167 116 [a0, a1, a2, a3, a4, .int x5, a6, a7, a8, a9] st σ r ↔ Rn sc d 167 118 [a0, a1, a2, a3, a4, .int x5, a6, a7, a8, a9] (.int x5 :: st) σ r := r_iload d167_116 rfl
theorem d167_118 : decode (mC 167) 118 = .ok (.ifCond .ne 8, 3) := by decide +kernel
theorem x167_118 {sc : aSc} {d : Nat} {r : aRes} {L : List Value} {st : List Value} {σ : aS} {x : Int32} : Rn sc d 167 118 L (.int x :: st) σ r ↔ if x = 0 then Rn sc d 167 121 L st σ r else Rn sc d 167 126 L st σ r := r_if_ne d167_118 rfl
theorem d167_121 : decode (mC 167) 121 = .ok (.iload 7, 2) := by decide +kernel
theorem x167_121 {sc : aSc} {d : Nat} {r : aRes} {a0 : Value} {a1 : Value} {a2 : Value} {a3 : Value} {a4 : Value} {a5 : Value} {a6 : Value} {x7 : Int32} {a8 : Value} {a9 : Value} {st : List Value} {σ : aS} : Rn sc d 167 121 [a0, a1, a2, a3, a4, a5, a6, .int x7, a8, a9] st σ r ↔ Rn sc d 167 123 [a0, a1, a2, a3, a4, a5, a6, .int x7, a8, a9] (.int x7 :: st) σ r := r_iload d167_121 rfl
theorem d167_123 : decode (mC 167) 123 = .ok (.goto 5, 3) := by decide +kernel
theorem x167_123 {sc : aSc} {d : Nat} {r : aRes} {L : List Value} {st : List Value} {σ : aS} : Rn sc d 167 123 L st σ r ↔ Rn sc d 167 128 L st σ r := r_goto d167_123 rfl
theorem d167_126 : decode (mC 167) 126 = .ok (.iload 6, 2) := by decide +kernel
theorem x167_126 {sc : aSc} {d : Nat} {r : aRes} {a0 : Value} {a1 : Value} {a2 : Value} {a3 : Value} {a4 : Value} {a5 : Value} {x6 : Int32} {a7 : Value} {a8 : Value} {a9 : Value} {st : List Value} {σ : aS} : Rn sc d 167 126 [a0, a1, a2, a3, a4, a5, .int x6, a7, a8, a9] st σ r ↔ Rn sc d 167 128 [a0, a1, a2, a3, a4, a5, .int x6, a7, a8, a9] (.int x6 :: st) σ r := r_iload d167_126 rfl
theorem d167_128 : decode (mC 167) 128 = .ok (.istore 6, 2) := by decide +kernel
theorem x167_128 {sc : aSc} {d : Nat} {r : aRes} {a0 : Value} {a1 : Value} {a2 : Value} {a3 : Value} {a4 : Value} {x5 : Int32} {a6 : Value} {a7 : Value} {a8 : Value} {a9 : Value} {st : List Value} {σ : aS} {y : Int32} : Rn sc d 167 128 [a0, a1, a2, a3, a4, .int x5, a6, a7, a8, a9] (.int y :: st) σ r ↔ Rn sc d 167 130 [a0, a1, a2, a3, a4, .int x5, .int y, a7, a8, a9] st σ r := r_istore d167_128 (Nat.le_of_ble_eq_true rfl) rfl
theorem d167_130 : decode (mC 167) 130 = .ok (.iinc 5 1, 3) := by decide +kernel
theorem x167_130 {sc : aSc} {d : Nat} {r : aRes} {a0 : Value} {a1 : Value} {a2 : Value} {a3 : Value} {x4 : Int32} {x5 : Int32} {a6 : Value} {a7 : Value} {a8 : Value} {a9 : Value} {st : List Value} {σ : aS} : Rn sc d 167 130 [a0, a1, a2, a3, .int x4, .int x5, a6, a7, a8, a9] st σ r ↔ Rn sc d 167 133 [a0, a1, a2, a3, .int x4, .int (x5 + 1), a6, a7, a8, a9] st σ r := r_iinc d167_130 (Nat.le_of_ble_eq_true rfl) rfl rfl (by decide)
theorem d167_133 : decode (mC 167) 133 = .ok (.iinc 7 1, 3) := by decide +kernel
theorem x167_133 {sc : aSc} {d : Nat} {r : aRes} {a0 : Value} {a1 : Value} {a2 : Value} {a3 : Value} {a4 : Value} {a5 : Value} {x6 : Int32} {x7 : Int32} {a8 : Value} {a9 : Value} {st : List Value} {σ : aS} : Rn sc d 167 133 [a0, a1, a2, a3, a4, a5, .int x6, .int x7, a8, a9] st σ r ↔ Rn sc d 167 136 [a0, a1, a2, a3, a4, a5, .int x6, .int (x7 + 1), a8, a9] st σ r := r_iinc d167_133 (Nat.le_of_ble_eq_true rfl) rfl rfl (by decide)
theorem d167_136 : decode (mC 167) 136 = .ok (.goto (-98), 3) := by decide +kernel
theorem x167_136 {sc : aSc} {d : Nat} {r : aRes} {L : List Value} {st : List Value} {σ : aS} : Rn sc d 167 136 L st σ r ↔ Rn sc d 167 38 L st σ r := r_goto d167_136 rfl
theorem d167_139 : decode (mC 167) 139 = .ok (.aload_n 0, 1) := by decide +kernel
theorem x167_139 {sc : aSc} {d : Nat} {r : aRes} {x0 : Nat} {a1 : Value} {a2 : Value} {a3 : Value} {a4 : Value} {a5 : Value} {a6 : Value} {a7 : Value} {a8 : Value} {a9 : Value} {st : List Value} {σ : aS} : Rn sc d 167 139 [.ref x0, a1, a2, a3, a4, a5, a6, a7, a8, a9] st σ r ↔ Rn sc d 167 140 [.ref x0, a1, a2, a3, a4, a5, a6, a7, a8, a9] (.ref x0 :: st) σ r := r_aload_n d167_139 rfl
theorem d167_140 : decode (mC 167) 140 = .ok (.iload_n 2, 1) := by decide +kernel
theorem x167_140 {sc : aSc} {d : Nat} {r : aRes} {a0 : Value} {a1 : Value} {x2 : Int32} {a3 : Value} {a4 : Value} {a5 : Value} {a6 : Value} {a7 : Value} {a8 : Value} {a9 : Value} {st : List Value} {σ : aS} : Rn sc d 167 140 [a0, a1, .int x2, a3, a4, a5, a6, a7, a8, a9] st σ r ↔ Rn sc d 167 141 [a0, a1, .int x2, a3, a4, a5, a6, a7, a8, a9] (.int x2 :: st) σ r := r_iload_n d167_140 rfl
theorem d167_141 : decode (mC 167) 141 = .ok (.putfield 16, 3) := by decide +kernel
theorem x167_141 {sc : aSc} {d : Nat} {r : aRes} {L : List Value} {st : List Value} {f : Nat → Nat → Int32} {g : Nat → Nat → Int64} {h1 h2 : Nat} {o : Nat} {v : Int32} (h17 : 17 ≤ o) (hK : KK[o]? = some (.inl 7)) : Rn sc d 167 141 L (.int v :: .ref o :: st) (cS f g h1 h2) r ↔ Rn sc d 167 144 L st (cS (u2 f o 2 v) g h1 h2) r := r_putI d167_141 (ci := 7) (k := 2) rfl (by decide) h17 hK
theorem d167_144 : decode (mC 167) 144 = .ok (.aload_n 0, 1) := by decide +kernel
theorem x167_144 {sc : aSc} {d : Nat} {r : aRes} {x0 : Nat} {a1 : Value} {a2 : Value} {a3 : Value} {a4 : Value} {a5 : Value} {a6 : Value} {a7 : Value} {a8 : Value} {a9 : Value} {st : List Value} {σ : aS} : Rn sc d 167 144 [.ref x0, a1, a2, a3, a4, a5, a6, a7, a8, a9] st σ r ↔ Rn sc d 167 145 [.ref x0, a1, a2, a3, a4, a5, a6, a7, a8, a9] (.ref x0 :: st) σ r := r_aload_n d167_144 rfl
theorem d167_145 : decode (mC 167) 145 = .ok (.iload_n 3, 1) := by decide +kernel
theorem x167_145 {sc : aSc} {d : Nat} {r : aRes} {a0 : Value} {a1 : Value} {a2 : Value} {x3 : Int32} {a4 : Value} {a5 : Value} {a6 : Value} {a7 : Value} {a8 : Value} {a9 : Value} {st : List Value} {σ : aS} : Rn sc d 167 145 [a0, a1, a2, .int x3, a4, a5, a6, a7, a8, a9] st σ r ↔ Rn sc d 167 146 [a0, a1, a2, .int x3, a4, a5, a6, a7, a8, a9] (.int x3 :: st) σ r := r_iload_n d167_145 rfl
theorem d167_146 : decode (mC 167) 146 = .ok (.putfield 13, 3) := by decide +kernel
theorem x167_146 {sc : aSc} {d : Nat} {r : aRes} {L : List Value} {st : List Value} {f : Nat → Nat → Int32} {g : Nat → Nat → Int64} {h1 h2 : Nat} {o : Nat} {v : Int32} (h17 : 17 ≤ o) (hK : KK[o]? = some (.inl 7)) : Rn sc d 167 146 L (.int v :: .ref o :: st) (cS f g h1 h2) r ↔ Rn sc d 167 149 L st (cS (u2 f o 1 v) g h1 h2) r := r_putI d167_146 (ci := 7) (k := 1) rfl (by decide) h17 hK
theorem d167_149 : decode (mC 167) 149 = .ok (.iload_n 1, 1) := by decide +kernel
theorem x167_149 {sc : aSc} {d : Nat} {r : aRes} {a0 : Value} {x1 : Int32} {a2 : Value} {a3 : Value} {a4 : Value} {a5 : Value} {a6 : Value} {a7 : Value} {a8 : Value} {a9 : Value} {st : List Value} {σ : aS} : Rn sc d 167 149 [a0, .int x1, a2, a3, a4, a5, a6, a7, a8, a9] st σ r ↔ Rn sc d 167 150 [a0, .int x1, a2, a3, a4, a5, a6, a7, a8, a9] (.int x1 :: st) σ r := r_iload_n d167_149 rfl
theorem d167_150 : decode (mC 167) 150 = .ok (.ifCond .ne 8, 3) := by decide +kernel
theorem x167_150 {sc : aSc} {d : Nat} {r : aRes} {L : List Value} {st : List Value} {σ : aS} {x : Int32} : Rn sc d 167 150 L (.int x :: st) σ r ↔ if x = 0 then Rn sc d 167 153 L st σ r else Rn sc d 167 158 L st σ r := r_if_ne d167_150 rfl
theorem d167_153 : decode (mC 167) 153 = .ok (.iload 4, 2) := by decide +kernel
theorem x167_153 {sc : aSc} {d : Nat} {r : aRes} {a0 : Value} {a1 : Value} {a2 : Value} {a3 : Value} {x4 : Int32} {a5 : Value} {a6 : Value} {a7 : Value} {a8 : Value} {a9 : Value} {st : List Value} {σ : aS} : Rn sc d 167 153 [a0, a1, a2, a3, .int x4, a5, a6, a7, a8, a9] st σ r ↔ Rn sc d 167 155 [a0, a1, a2, a3, .int x4, a5, a6, a7, a8, a9] (.int x4 :: st) σ r := r_iload d167_153 rfl
theorem d167_155 : decode (mC 167) 155 = .ok (.goto 15, 3) := by decide +kernel
theorem x167_155 {sc : aSc} {d : Nat} {r : aRes} {L : List Value} {st : List Value} {σ : aS} : Rn sc d 167 155 L st σ r ↔ Rn sc d 167 170 L st σ r := r_goto d167_155 rfl
theorem d167_158 : decode (mC 167) 158 = .ok (.iload_n 1, 1) := by decide +kernel
theorem x167_158 {sc : aSc} {d : Nat} {r : aRes} {a0 : Value} {x1 : Int32} {a2 : Value} {a3 : Value} {a4 : Value} {a5 : Value} {a6 : Value} {a7 : Value} {a8 : Value} {a9 : Value} {st : List Value} {σ : aS} : Rn sc d 167 158 [a0, .int x1, a2, a3, a4, a5, a6, a7, a8, a9] st σ r ↔ Rn sc d 167 159 [a0, .int x1, a2, a3, a4, a5, a6, a7, a8, a9] (.int x1 :: st) σ r := r_iload_n d167_158 rfl
theorem d167_159 : decode (mC 167) 159 = .ok (.iconst 1, 1) := by decide +kernel
theorem x167_159 {sc : aSc} {d : Nat} {r : aRes} {L : List Value} {st : List Value} {σ : aS} : Rn sc d 167 159 L st σ r ↔ Rn sc d 167 160 L (.int 1 :: st) σ r := r_iconst d167_159 (by decide)
theorem d167_160 : decode (mC 167) 160 = .ok (.if_icmp .ne 8, 3) := by decide +kernel
theorem x167_160 {sc : aSc} {d : Nat} {r : aRes} {L : List Value} {st : List Value} {σ : aS} {x y : Int32} : Rn sc d 167 160 L (.int y :: .int x :: st) σ r ↔ if x = y then Rn sc d 167 163 L st σ r else Rn sc d 167 168 L st σ r := r_icmp_ne d167_160 rfl
theorem d167_163 : decode (mC 167) 163 = .ok (.iload 5, 2) := by decide +kernel
theorem x167_163 {sc : aSc} {d : Nat} {r : aRes} {a0 : Value} {a1 : Value} {a2 : Value} {a3 : Value} {a4 : Value} {x5 : Int32} {a6 : Value} {a7 : Value} {a8 : Value} {a9 : Value} {st : List Value} {σ : aS} : Rn sc d 167 163 [a0, a1, a2, a3, a4, .int x5, a6, a7, a8, a9] st σ r ↔ Rn sc d 167 165 [a0, a1, a2, a3, a4, .int x5, a6, a7, a8, a9] (.int x5 :: st) σ r := r_iload d167_163 rfl
theorem d167_165 : decode (mC 167) 165 = .ok (.goto 5, 3) := by decide +kernel
theorem x167_165 {sc : aSc} {d : Nat} {r : aRes} {L : List Value} {st : List Value} {σ : aS} : Rn sc d 167 165 L st σ r ↔ Rn sc d 167 170 L st σ r := r_goto d167_165 rfl
theorem d167_168 : decode (mC 167) 168 = .ok (.iload 6, 2) := by decide +kernel
theorem x167_168 {sc : aSc} {d : Nat} {r : aRes} {a0 : Value} {a1 : Value} {a2 : Value} {a3 : Value} {a4 : Value} {a5 : Value} {x6 : Int32} {a7 : Value} {a8 : Value} {a9 : Value} {st : List Value} {σ : aS} : Rn sc d 167 168 [a0, a1, a2, a3, a4, a5, .int x6, a7, a8, a9] st σ r ↔ Rn sc d 167 170 [a0, a1, a2, a3, a4, a5, .int x6, a7, a8, a9] (.int x6 :: st) σ r := r_iload d167_168 rfl
theorem d167_170 : decode (mC 167) 170 = .ok (.ireturn, 1) := by decide +kernel
theorem x167_170 {sc : aSc} {d : Nat} {r : aRes} {L : List Value} {σ : aS} {x : Int32} : Rn sc d 167 170 L [.int x] σ r ↔ r = (σ, some (.int x)) := r_iret d167_170 rfl rfl
theorem d168_0 : decode (mC 168) 0 = .ok (.iload_n 1, 1) := by decide +kernel
theorem x168_0 {sc : aSc} {d : Nat} {r : aRes} {a0 : Value} {x1 : Int32} {a2 : Value} {a3 : Value} {a4 : Value} {a5 : Value} {st : List Value} {σ : aS} : Rn sc d 168 0 [a0, .int x1, a2, a3, a4, a5] st σ r ↔ Rn sc d 168 1 [a0, .int x1, a2, a3, a4, a5] (.int x1 :: st) σ r := r_iload_n d168_0 rfl
theorem d168_1 : decode (mC 168) 1 = .ok (.istore_n 3, 1) := by decide +kernel
theorem x168_1 {sc : aSc} {d : Nat} {r : aRes} {a0 : Value} {a1 : Value} {x2 : Int32} {a3 : Value} {a4 : Value} {a5 : Value} {st : List Value} {σ : aS} {y : Int32} : Rn sc d 168 1 [a0, a1, .int x2, a3, a4, a5] (.int y :: st) σ r ↔ Rn sc d 168 2 [a0, a1, .int x2, .int y, a4, a5] st σ r := r_istore_n d168_1 (Nat.le_of_ble_eq_true rfl) rfl
theorem d168_2 : decode (mC 168) 2 = .ok (.iload_n 2, 1) := by decide +kernel
theorem x168_2 {sc : aSc} {d : Nat} {r : aRes} {a0 : Value} {a1 : Value} {x2 : Int32} {a3 : Value} {a4 : Value} {a5 : Value} {st : List Value} {σ : aS} : Rn sc d 168 2 [a0, a1, .int x2, a3, a4, a5] st σ r ↔ Rn sc d 168 3 [a0, a1, .int x2, a3, a4, a5] (.int x2 :: st) σ r := r_iload_n d168_2 rfl
theorem d168_3 : decode (mC 168) 3 = .ok (.istore 4, 2) := by decide +kernel
theorem x168_3 {sc : aSc} {d : Nat} {r : aRes} {a0 : Value} {a1 : Value} {a2 : Value} {x3 : Int32} {a4 : Value} {a5 : Value} {st : List Value} {σ : aS} {y : Int32} : Rn sc d 168 3 [a0, a1, a2, .int x3, a4, a5] (.int y :: st) σ r ↔ Rn sc d 168 5 [a0, a1, a2, .int x3, .int y, a5] st σ r := r_istore d168_3 (Nat.le_of_ble_eq_true rfl) rfl
theorem d168_5 : decode (mC 168) 5 = .ok (.iload 4, 2) := by decide +kernel
theorem x168_5 {sc : aSc} {d : Nat} {r : aRes} {a0 : Value} {a1 : Value} {a2 : Value} {a3 : Value} {x4 : Int32} {a5 : Value} {st : List Value} {σ : aS} : Rn sc d 168 5 [a0, a1, a2, a3, .int x4, a5] st σ r ↔ Rn sc d 168 7 [a0, a1, a2, a3, .int x4, a5] (.int x4 :: st) σ r := r_iload d168_5 rfl
theorem d168_7 : decode (mC 168) 7 = .ok (.ifCond .eq 19, 3) := by decide +kernel
theorem x168_7 {sc : aSc} {d : Nat} {r : aRes} {L : List Value} {st : List Value} {σ : aS} {x : Int32} : Rn sc d 168 7 L (.int x :: st) σ r ↔ if x = 0 then Rn sc d 168 26 L st σ r else Rn sc d 168 10 L st σ r := r_if_eq d168_7 rfl
theorem d168_10 : decode (mC 168) 10 = .ok (.iload_n 3, 1) := by decide +kernel
theorem x168_10 {sc : aSc} {d : Nat} {r : aRes} {a0 : Value} {a1 : Value} {a2 : Value} {x3 : Int32} {a4 : Value} {a5 : Value} {st : List Value} {σ : aS} : Rn sc d 168 10 [a0, a1, a2, .int x3, a4, a5] st σ r ↔ Rn sc d 168 11 [a0, a1, a2, .int x3, a4, a5] (.int x3 :: st) σ r := r_iload_n d168_10 rfl
theorem d168_11 : decode (mC 168) 11 = .ok (.iload 4, 2) := by decide +kernel
theorem x168_11 {sc : aSc} {d : Nat} {r : aRes} {a0 : Value} {a1 : Value} {a2 : Value} {a3 : Value} {x4 : Int32} {a5 : Value} {st : List Value} {σ : aS} : Rn sc d 168 11 [a0, a1, a2, a3, .int x4, a5] st σ r ↔ Rn sc d 168 13 [a0, a1, a2, a3, .int x4, a5] (.int x4 :: st) σ r := r_iload d168_11 rfl
theorem d168_13 : decode (mC 168) 13 = .ok (.irem, 1) := by decide +kernel
theorem x168_13 {sc : aSc} {d : Nat} {r : aRes} {L : List Value} {st : List Value} {σ : aS} {x y : Int32} (hy : ¬ y = 0) : Rn sc d 168 13 L (.int y :: .int x :: st) σ r ↔ Rn sc d 168 14 L (.int (x % y) :: st) σ r := r_irem d168_13 hy
theorem d168_14 : decode (mC 168) 14 = .ok (.istore 5, 2) := by decide +kernel
theorem x168_14 {sc : aSc} {d : Nat} {r : aRes} {a0 : Value} {a1 : Value} {a2 : Value} {a3 : Value} {x4 : Int32} {a5 : Value} {st : List Value} {σ : aS} {y : Int32} : Rn sc d 168 14 [a0, a1, a2, a3, .int x4, a5] (.int y :: st) σ r ↔ Rn sc d 168 16 [a0, a1, a2, a3, .int x4, .int y] st σ r := r_istore d168_14 (Nat.le_of_ble_eq_true rfl) rfl
theorem d168_16 : decode (mC 168) 16 = .ok (.iload 4, 2) := by decide +kernel
theorem x168_16 {sc : aSc} {d : Nat} {r : aRes} {a0 : Value} {a1 : Value} {a2 : Value} {a3 : Value} {x4 : Int32} {a5 : Value} {st : List Value} {σ : aS} : Rn sc d 168 16 [a0, a1, a2, a3, .int x4, a5] st σ r ↔ Rn sc d 168 18 [a0, a1, a2, a3, .int x4, a5] (.int x4 :: st) σ r := r_iload d168_16 rfl
theorem d168_18 : decode (mC 168) 18 = .ok (.istore_n 3, 1) := by decide +kernel
theorem x168_18 {sc : aSc} {d : Nat} {r : aRes} {a0 : Value} {a1 : Value} {x2 : Int32} {a3 : Value} {a4 : Value} {a5 : Value} {st : List Value} {σ : aS} {y : Int32} : Rn sc d 168 18 [a0, a1, .int x2, a3, a4, a5] (.int y :: st) σ r ↔ Rn sc d 168 19 [a0, a1, .int x2, .int y, a4, a5] st σ r := r_istore_n d168_18 (Nat.le_of_ble_eq_true rfl) rfl
theorem d168_19 : decode (mC 168) 19 = .ok (.iload 5, 2) := by decide +kernel
theorem x168_19 {sc : aSc} {d : Nat} {r : aRes} {a0 : Value} {a1 : Value} {a2 : Value} {a3 : Value} {a4 : Value} {x5 : Int32} {st : List Value} {σ : aS} : Rn sc d 168 19 [a0, a1, a2, a3, a4, .int x5] st σ r ↔ Rn sc d 168 21 [a0, a1, a2, a3, a4, .int x5] (.int x5 :: st) σ r := r_iload d168_19 rfl
theorem d168_21 : decode (mC 168) 21 = .ok (.istore 4, 2) := by decide +kernel
theorem x168_21 {sc : aSc} {d : Nat} {r : aRes} {a0 : Value} {a1 : Value} {a2 : Value} {x3 : Int32} {a4 : Value} {a5 : Value} {st : List Value} {σ : aS} {y : Int32} : Rn sc d 168 21 [a0, a1, a2, .int x3, a4, a5] (.int y :: st) σ r ↔ Rn sc d 168 23 [a0, a1, a2, .int x3, .int y, a5] st σ r := r_istore d168_21 (Nat.le_of_ble_eq_true rfl) rfl
theorem d168_23 : decode (mC 168) 23 = .ok (.goto (-18), 3) := by decide +kernel
theorem x168_23 {sc : aSc} {d : Nat} {r : aRes} {L : List Value} {st : List Value} {σ : aS} : Rn sc d 168 23 L st σ r ↔ Rn sc d 168 5 L st σ r := r_goto d168_23 rfl
theorem d168_26 : decode (mC 168) 26 = .ok (.iload_n 3, 1) := by decide +kernel
theorem x168_26 {sc : aSc} {d : Nat} {r : aRes} {a0 : Value} {a1 : Value} {a2 : Value} {x3 : Int32} {a4 : Value} {a5 : Value} {st : List Value} {σ : aS} : Rn sc d 168 26 [a0, a1, a2, .int x3, a4, a5] st σ r ↔ Rn sc d 168 27 [a0, a1, a2, .int x3, a4, a5] (.int x3 :: st) σ r := r_iload_n d168_26 rfl
theorem d168_27 : decode (mC 168) 27 = .ok (.ireturn, 1) := by decide +kernel
theorem x168_27 {sc : aSc} {d : Nat} {r : aRes} {L : List Value} {σ : aS} {x : Int32} : Rn sc d 168 27 L [.int x] σ r ↔ r = (σ, some (.int x)) := r_iret d168_27 rfl rfl
theorem d169_0 : decode (mC 169) 0 = .ok (.aload_n 0, 1) := by decide +kernel
theorem x169_0 {sc : aSc} {d : Nat} {r : aRes} {x0 : Nat} {a1 : Value} {a2 : Value} {a3 : Value} {a4 : Value} {st : List Value} {σ : aS} : Rn sc d 169 0 [.ref x0, a1, a2, a3, a4] st σ r ↔ Rn sc d 169 1 [.ref x0, a1, a2, a3, a4] (.ref x0 :: st) σ r := r_aload_n d169_0 rfl
theorem d169_1 : decode (mC 169) 1 = .ok (.iload_n 1, 1) := by decide +kernel
theorem x169_1 {sc : aSc} {d : Nat} {r : aRes} {a0 : Value} {x1 : Int32} {a2 : Value} {a3 : Value} {a4 : Value} {st : List Value} {σ : aS} : Rn sc d 169 1 [a0, .int x1, a2, a3, a4] st σ r ↔ Rn sc d 169 2 [a0, .int x1, a2, a3, a4] (.int x1 :: st) σ r := r_iload_n d169_1 rfl
theorem d169_2 : decode (mC 169) 2 = .ok (.iload_n 2, 1) := by decide +kernel
theorem x169_2 {sc : aSc} {d : Nat} {r : aRes} {a0 : Value} {a1 : Value} {x2 : Int32} {a3 : Value} {a4 : Value} {st : List Value} {σ : aS} : Rn sc d 169 2 [a0, a1, .int x2, a3, a4] st σ r ↔ Rn sc d 169 3 [a0, a1, .int x2, a3, a4] (.int x2 :: st) σ r := r_iload_n d169_2 rfl
theorem d169_3 : decode (mC 169) 3 = .ok (.invokevirtual 354, 3) := by decide +kernel
theorem x169_3 {sc : aSc} {d : Nat} {r : aRes} {L : List Value} {f : Nat → Nat → Int32} {g : Nat → Nat → Int64} {h1 h2 : Nat} {y0 : Int32} {y1 : Int32}  {o : Nat} (hK : KK[o]? = some (.inl 7)) : Rn sc d 169 3 L [.int y0, .int y1, .ref o] (cS f g h1 h2) r ↔ ∃ (σ3 : aS) (v : Option Value), Cl sc d 168 [.ref o, .int y1, .int y0] (cS f g h1 h2) (σ3, v) ∧ Rn sc d 169 6 L (v.toList ++ []) σ3 r := r_callV (vs := [.int y0, .int y1]) d169_3 (j := 168) (by decide +kernel) ⟨rfl, by decide, rfl, rfl⟩ (Nat.le_of_ble_eq_true rfl) hK
theorem d169_6 : decode (mC 169) 6 = .ok (.istore 4, 2) := by decide +kernel
theorem x169_6 {sc : aSc} {d : Nat} {r : aRes} {a0 : Value} {a1 : Value} {a2 : Value} {x3 : Int32} {a4 : Value} {st : List Value} {σ : aS} {y : Int32} : Rn sc d 169 6 [a0, a1, a2, .int x3, a4] (.int y :: st) σ r ↔ Rn sc d 169 8 [a0, a1, a2, .int x3, .int y] st σ r := r_istore d169_6 (Nat.le_of_ble_eq_true rfl) rfl
theorem d169_8 : decode (mC 169) 8 = .ok (.iload_n 3, 1) := by decide +kernel
theorem x169_8 {sc : aSc} {d : Nat} {r : aRes} {a0 : Value} {a1 : Value} {a2 : Value} {x3 : Int32} {a4 : Value} {st : List Value} {σ : aS} : Rn sc d 169 8 [a0, a1, a2, .int x3, a4] st σ r ↔ Rn sc d 169 9 [a0, a1, a2, .int x3, a4] (.int x3 :: st) σ r := r_iload_n d169_8 rfl
theorem d169_9 : decode (mC 169) 9 = .ok (.ifCond .ne 11, 3) := by decide +kernel
theorem x169_9 {sc : aSc} {d : Nat} {r : aRes} {L : List Value} {st : List Value} {σ : aS} {x : Int32} : Rn sc d 169 9 L (.int x :: st) σ r ↔ if x = 0 then Rn sc d 169 12 L st σ r else Rn sc d 169 20 L st σ r := r_if_ne d169_9 rfl
theorem d169_12 : decode (mC 169) 12 = .ok (.iload_n 1, 1) := by decide +kernel
theorem x169_12 {sc : aSc} {d : Nat} {r : aRes} {a0 : Value} {x1 : Int32} {a2 : Value} {a3 : Value} {a4 : Value} {st : List Value} {σ : aS} : Rn sc d 169 12 [a0, .int x1, a2, a3, a4] st σ r ↔ Rn sc d 169 13 [a0, .int x1, a2, a3, a4] (.int x1 :: st) σ r := r_iload_n d169_12 rfl
theorem d169_13 : decode (mC 169) 13 = .ok (.iload 4, 2) := by decide +kernel
theorem x169_13 {sc : aSc} {d : Nat} {r : aRes} {a0 : Value} {a1 : Value} {a2 : Value} {a3 : Value} {x4 : Int32} {st : List Value} {σ : aS} : Rn sc d 169 13 [a0, a1, a2, a3, .int x4] st σ r ↔ Rn sc d 169 15 [a0, a1, a2, a3, .int x4] (.int x4 :: st) σ r := r_iload d169_13 rfl
theorem d169_15 : decode (mC 169) 15 = .ok (.idiv, 1) := by decide +kernel
theorem x169_15 {sc : aSc} {d : Nat} {r : aRes} {L : List Value} {st : List Value} {σ : aS} {x y : Int32} (hy : ¬ y = 0) : Rn sc d 169 15 L (.int y :: .int x :: st) σ r ↔ Rn sc d 169 16 L (.int (x / y) :: st) σ r := r_idiv d169_15 hy
theorem d169_16 : decode (mC 169) 16 = .ok (.i2l, 1) := by decide +kernel
theorem x169_16 {sc : aSc} {d : Nat} {r : aRes} {L : List Value} {st : List Value} {σ : aS} {x : Int32} : Rn sc d 169 16 L (.int x :: st) σ r ↔ Rn sc d 169 17 L (.long x.toInt64 :: st) σ r := r_i2l d169_16
theorem d169_17 : decode (mC 169) 17 = .ok (.goto 8, 3) := by decide +kernel
theorem x169_17 {sc : aSc} {d : Nat} {r : aRes} {L : List Value} {st : List Value} {σ : aS} : Rn sc d 169 17 L st σ r ↔ Rn sc d 169 25 L st σ r := r_goto d169_17 rfl
theorem d169_20 : decode (mC 169) 20 = .ok (.iload_n 2, 1) := by decide +kernel
theorem x169_20 {sc : aSc} {d : Nat} {r : aRes} {a0 : Value} {a1 : Value} {x2 : Int32} {a3 : Value} {a4 : Value} {st : List Value} {σ : aS} : Rn sc d 169 20 [a0, a1, .int x2, a3, a4] st σ r ↔ Rn sc d 169 21 [a0, a1, .int x2, a3, a4] (.int x2 :: st) σ r := r_iload_n d169_20 rfl
theorem d169_21 : decode (mC 169) 21 = .ok (.iload 4, 2) := by decide +kernel
theorem x169_21 {sc : aSc} {d : Nat} {r : aRes} {a0 : Value} {a1 : Value} {a2 : Value} {a3 : Value} {x4 : Int32} {st : List Value} {σ : aS} : Rn sc d 169 21 [a0, a1, a2, a3, .int x4] st σ r ↔ Rn sc d 169 23 [a0, a1, a2, a3, .int x4] (.int x4 :: st) σ r := r_iload d169_21 rfl
theorem d169_23 : decode (mC 169) 23 = .ok (.idiv, 1) := by decide +kernel
theorem x169_23 {sc : aSc} {d : Nat} {r : aRes} {L : List Value} {st : List Value} {σ : aS} {x y : Int32} (hy : ¬ y = 0) : Rn sc d 169 23 L (.int y :: .int x :: st) σ r ↔ Rn sc d 169 24 L (.int (x / y) :: st) σ r := r_idiv d169_23 hy
theorem d169_24 : decode (mC 169) 24 = .ok (.i2l, 1) := by decide +kernel
theorem x169_24 {sc : aSc} {d : Nat} {r : aRes} {L : List Value} {st : List Value} {σ : aS} {x : Int32} : Rn sc d 169 24 L (.int x :: st) σ r ↔ Rn sc d 169 25 L (.long x.toInt64 :: st) σ r := r_i2l d169_24
theorem d169_25 : decode (mC 169) 25 = .ok (.lreturn, 1) := by decide +kernel
theorem x169_25 {sc : aSc} {d : Nat} {r : aRes} {L : List Value} {σ : aS} {x : Int64} : Rn sc d 169 25 L [.long x] σ r ↔ r = (σ, some (.long x)) := r_lret d169_25 rfl
theorem d170_0 : decode (mC 170) 0 = .ok (.aload_n 0, 1) := by decide +kernel
theorem x170_0 {sc : aSc} {d : Nat} {r : aRes} {x0 : Nat} {a1 : Value} {a2 : Value} {a3 : Value} {a4 : Value} {a5 : Value} {st : List Value} {σ : aS} : Rn sc d 170 0 [.ref x0, a1, a2, a3, a4, a5] st σ r ↔ Rn sc d 170 1 [.ref x0, a1, a2, a3, a4, a5] (.ref x0 :: st) σ r := r_aload_n d170_0 rfl
theorem d170_1 : decode (mC 170) 1 = .ok (.iload_n 1, 1) := by decide +kernel
theorem x170_1 {sc : aSc} {d : Nat} {r : aRes} {a0 : Value} {x1 : Int32} {a2 : Value} {a3 : Value} {a4 : Value} {a5 : Value} {st : List Value} {σ : aS} : Rn sc d 170 1 [a0, .int x1, a2, a3, a4, a5] st σ r ↔ Rn sc d 170 2 [a0, .int x1, a2, a3, a4, a5] (.int x1 :: st) σ r := r_iload_n d170_1 rfl
theorem d170_2 : decode (mC 170) 2 = .ok (.invokevirtual 231, 3) := by decide +kernel
theorem x170_2 {sc : aSc} {d : Nat} {r : aRes} {L : List Value} {f : Nat → Nat → Int32} {g : Nat → Nat → Int64} {h1 h2 : Nat} {y0 : Int32}  {o : Nat} (hK : KK[o]? = some (.inl 7)) : Rn sc d 170 2 L [.int y0, .ref o] (cS f g h1 h2) r ↔ ∃ (σ3 : aS) (v : Option Value), Cl sc d 109 [.ref o, .int y0] (cS f g h1 h2) (σ3, v) ∧ Rn sc d 170 5 L (v.toList ++ []) σ3 r := r_callV (vs := [.int y0]) d170_2 (j := 109) (by decide +kernel) ⟨rfl, by decide, rfl, rfl⟩ (Nat.le_of_ble_eq_true rfl) hK
theorem d170_5 : decode (mC 170) 5 = .ok (.ifCond .eq 30, 3) := by decide +kernel
theorem x170_5 {sc : aSc} {d : Nat} {r : aRes} {L : List Value} {st : List Value} {σ : aS} {x : Int32} : Rn sc d 170 5 L (.int x :: st) σ r ↔ if x = 0 then Rn sc d 170 35 L st σ r else Rn sc d 170 8 L st σ r := r_if_eq d170_5 rfl
theorem d170_8 : decode (mC 170) 8 = .ok (.aload_n 0, 1) := by decide +kernel
theorem x170_8 {sc : aSc} {d : Nat} {r : aRes} {x0 : Nat} {a1 : Value} {a2 : Value} {a3 : Value} {a4 : Value} {a5 : Value} {st : List Value} {σ : aS} : Rn sc d 170 8 [.ref x0, a1, a2, a3, a4, a5] st σ r ↔ Rn sc d 170 9 [.ref x0, a1, a2, a3, a4, a5] (.ref x0 :: st) σ r := r_aload_n d170_8 rfl
theorem d170_9 : decode (mC 170) 9 = .ok (.iload_n 2, 1) := by decide +kernel
theorem x170_9 {sc : aSc} {d : Nat} {r : aRes} {a0 : Value} {a1 : Value} {x2 : Int32} {a3 : Value} {a4 : Value} {a5 : Value} {st : List Value} {σ : aS} : Rn sc d 170 9 [a0, a1, .int x2, a3, a4, a5] st σ r ↔ Rn sc d 170 10 [a0, a1, .int x2, a3, a4, a5] (.int x2 :: st) σ r := r_iload_n d170_9 rfl
theorem d170_10 : decode (mC 170) 10 = .ok (.invokevirtual 231, 3) := by decide +kernel
theorem x170_10 {sc : aSc} {d : Nat} {r : aRes} {L : List Value} {f : Nat → Nat → Int32} {g : Nat → Nat → Int64} {h1 h2 : Nat} {y0 : Int32}  {o : Nat} (hK : KK[o]? = some (.inl 7)) : Rn sc d 170 10 L [.int y0, .ref o] (cS f g h1 h2) r ↔ ∃ (σ3 : aS) (v : Option Value), Cl sc d 109 [.ref o, .int y0] (cS f g h1 h2) (σ3, v) ∧ Rn sc d 170 13 L (v.toList ++ []) σ3 r := r_callV (vs := [.int y0]) d170_10 (j := 109) (by decide +kernel) ⟨rfl, by decide, rfl, rfl⟩ (Nat.le_of_ble_eq_true rfl) hK
theorem d170_13 : decode (mC 170) 13 = .ok (.ifCond .eq 22, 3) := by decide +kernel
theorem x170_13 {sc : aSc} {d : Nat} {r : aRes} {L : List Value} {st : List Value} {σ : aS} {x : Int32} : Rn sc d 170 13 L (.int x :: st) σ r ↔ if x = 0 then Rn sc d 170 35 L st σ r else Rn sc d 170 16 L st σ r := r_if_eq d170_13 rfl
theorem d170_16 : decode (mC 170) 16 = .ok (.aload_n 0, 1) := by decide +kernel
theorem x170_16 {sc : aSc} {d : Nat} {r : aRes} {x0 : Nat} {a1 : Value} {a2 : Value} {a3 : Value} {a4 : Value} {a5 : Value} {st : List Value} {σ : aS} : Rn sc d 170 16 [.ref x0, a1, a2, a3, a4, a5] st σ r ↔ Rn sc d 170 17 [.ref x0, a1, a2, a3, a4, a5] (.ref x0 :: st) σ r := r_aload_n d170_16 rfl
theorem d170_17 : decode (mC 170) 17 = .ok (.iload_n 3, 1) := by decide +kernel
theorem x170_17 {sc : aSc} {d : Nat} {r : aRes} {a0 : Value} {a1 : Value} {a2 : Value} {x3 : Int32} {a4 : Value} {a5 : Value} {st : List Value} {σ : aS} : Rn sc d 170 17 [a0, a1, a2, .int x3, a4, a5] st σ r ↔ Rn sc d 170 18 [a0, a1, a2, .int x3, a4, a5] (.int x3 :: st) σ r := r_iload_n d170_17 rfl
theorem d170_18 : decode (mC 170) 18 = .ok (.iconst 0, 1) := by decide +kernel
theorem x170_18 {sc : aSc} {d : Nat} {r : aRes} {L : List Value} {st : List Value} {σ : aS} : Rn sc d 170 18 L st σ r ↔ Rn sc d 170 19 L (.int 0 :: st) σ r := r_iconst d170_18 (by decide)
theorem d170_19 : decode (mC 170) 19 = .ok (.iconst 1, 1) := by decide +kernel
theorem x170_19 {sc : aSc} {d : Nat} {r : aRes} {L : List Value} {st : List Value} {σ : aS} : Rn sc d 170 19 L st σ r ↔ Rn sc d 170 20 L (.int 1 :: st) σ r := r_iconst d170_19 (by decide)
theorem d170_20 : decode (mC 170) 20 = .ok (.invokevirtual 227, 3) := by decide +kernel
theorem x170_20 {sc : aSc} {d : Nat} {r : aRes} {L : List Value} {f : Nat → Nat → Int32} {g : Nat → Nat → Int64} {h1 h2 : Nat} {y0 : Int32} {y1 : Int32} {y2 : Int32}  {o : Nat} (hK : KK[o]? = some (.inl 7)) : Rn sc d 170 20 L [.int y0, .int y1, .int y2, .ref o] (cS f g h1 h2) r ↔ ∃ (σ3 : aS) (v : Option Value), Cl sc d 108 [.ref o, .int y2, .int y1, .int y0] (cS f g h1 h2) (σ3, v) ∧ Rn sc d 170 23 L (v.toList ++ []) σ3 r := r_callV (vs := [.int y0, .int y1, .int y2]) d170_20 (j := 108) (by decide +kernel) ⟨rfl, by decide, rfl, rfl⟩ (Nat.le_of_ble_eq_true rfl) hK
theorem d170_23 : decode (mC 170) 23 = .ok (.ifCond .eq 12, 3) := by decide +kernel
theorem x170_23 {sc : aSc} {d : Nat} {r : aRes} {L : List Value} {st : List Value} {σ : aS} {x : Int32} : Rn sc d 170 23 L (.int x :: st) σ r ↔ if x = 0 then Rn sc d 170 35 L st σ r else Rn sc d 170 26 L st σ r := r_if_eq d170_23 rfl
theorem d170_26 : decode (mC 170) 26 = .ok (.aload_n 0, 1) := by decide +kernel
theorem x170_26 {sc : aSc} {d : Nat} {r : aRes} {x0 : Nat} {a1 : Value} {a2 : Value} {a3 : Value} {a4 : Value} {a5 : Value} {st : List Value} {σ : aS} : Rn sc d 170 26 [.ref x0, a1, a2, a3, a4, a5] st σ r ↔ Rn sc d 170 27 [.ref x0, a1, a2, a3, a4, a5] (.ref x0 :: st) σ r := r_aload_n d170_26 rfl
theorem d170_27 : decode (mC 170) 27 = .ok (.iload_n 1, 1) := by decide +kernel
theorem x170_27 {sc : aSc} {d : Nat} {r : aRes} {a0 : Value} {x1 : Int32} {a2 : Value} {a3 : Value} {a4 : Value} {a5 : Value} {st : List Value} {σ : aS} : Rn sc d 170 27 [a0, .int x1, a2, a3, a4, a5] st σ r ↔ Rn sc d 170 28 [a0, .int x1, a2, a3, a4, a5] (.int x1 :: st) σ r := r_iload_n d170_27 rfl
theorem d170_28 : decode (mC 170) 28 = .ok (.iload_n 2, 1) := by decide +kernel
theorem x170_28 {sc : aSc} {d : Nat} {r : aRes} {a0 : Value} {a1 : Value} {x2 : Int32} {a3 : Value} {a4 : Value} {a5 : Value} {st : List Value} {σ : aS} : Rn sc d 170 28 [a0, a1, .int x2, a3, a4, a5] st σ r ↔ Rn sc d 170 29 [a0, a1, .int x2, a3, a4, a5] (.int x2 :: st) σ r := r_iload_n d170_28 rfl
theorem d170_29 : decode (mC 170) 29 = .ok (.invokevirtual 310, 3) := by decide +kernel
theorem x170_29 {sc : aSc} {d : Nat} {r : aRes} {L : List Value} {f : Nat → Nat → Int32} {g : Nat → Nat → Int64} {h1 h2 : Nat} {y0 : Int32} {y1 : Int32}  {o : Nat} (hK : KK[o]? = some (.inl 7)) : Rn sc d 170 29 L [.int y0, .int y1, .ref o] (cS f g h1 h2) r ↔ ∃ (σ3 : aS) (v : Option Value), Cl sc d 139 [.ref o, .int y1, .int y0] (cS f g h1 h2) (σ3, v) ∧ Rn sc d 170 32 L (v.toList ++ []) σ3 r := r_callV (vs := [.int y0, .int y1]) d170_29 (j := 139) (by decide +kernel) ⟨rfl, by decide, rfl, rfl⟩ (Nat.le_of_ble_eq_true rfl) hK
theorem d170_32 : decode (mC 170) 32 = .ok (.ifCond .ne 7, 3) := by decide +kernel
theorem x170_32 {sc : aSc} {d : Nat} {r : aRes} {L : List Value} {st : List Value} {σ : aS} {x : Int32} : Rn sc d 170 32 L (.int x :: st) σ r ↔ if x = 0 then Rn sc d 170 35 L st σ r else Rn sc d 170 39 L st σ r := r_if_ne d170_32 rfl
theorem d170_35 : decode (mC 170) 35 = .ok (.ldc2_w 357, 3) := by decide +kernel
theorem x170_35 {sc : aSc} {d : Nat} {r : aRes} {L : List Value} {st : List Value} {σ : aS} : Rn sc d 170 35 L st σ r ↔ Rn sc d 170 38 L (.long (-9223372036854775808) :: st) σ r := r_ldc2_w d170_35 rfl
theorem d170_38 : decode (mC 170) 38 = .ok (.lreturn, 1) := by decide +kernel
theorem x170_38 {sc : aSc} {d : Nat} {r : aRes} {L : List Value} {σ : aS} {x : Int64} : Rn sc d 170 38 L [.long x] σ r ↔ r = (σ, some (.long x)) := r_lret d170_38 rfl
theorem d170_39 : decode (mC 170) 39 = .ok (.iconst 0, 1) := by decide +kernel
theorem x170_39 {sc : aSc} {d : Nat} {r : aRes} {L : List Value} {st : List Value} {σ : aS} : Rn sc d 170 39 L st σ r ↔ Rn sc d 170 40 L (.int 0 :: st) σ r := r_iconst d170_39 (by decide)
theorem d170_40 : decode (mC 170) 40 = .ok (.istore 4, 2) := by decide +kernel
theorem x170_40 {sc : aSc} {d : Nat} {r : aRes} {a0 : Value} {a1 : Value} {a2 : Value} {x3 : Int32} {a4 : Value} {a5 : Value} {st : List Value} {σ : aS} {y : Int32} : Rn sc d 170 40 [a0, a1, a2, .int x3, a4, a5] (.int y :: st) σ r ↔ Rn sc d 170 42 [a0, a1, a2, .int x3, .int y, a5] st σ r := r_istore d170_40 (Nat.le_of_ble_eq_true rfl) rfl
theorem d170_42 : decode (mC 170) 42 = .ok (.iconst 0, 1) := by decide +kernel
theorem x170_42 {sc : aSc} {d : Nat} {r : aRes} {L : List Value} {st : List Value} {σ : aS} : Rn sc d 170 42 L st σ r ↔ Rn sc d 170 43 L (.int 0 :: st) σ r := r_iconst d170_42 (by decide)
theorem d170_43 : decode (mC 170) 43 = .ok (.istore 5, 2) := by decide +kernel
theorem x170_43 {sc : aSc} {d : Nat} {r : aRes} {a0 : Value} {a1 : Value} {a2 : Value} {a3 : Value} {x4 : Int32} {a5 : Value} {st : List Value} {σ : aS} {y : Int32} : Rn sc d 170 43 [a0, a1, a2, a3, .int x4, a5] (.int y :: st) σ r ↔ Rn sc d 170 45 [a0, a1, a2, a3, .int x4, .int y] st σ r := r_istore d170_43 (Nat.le_of_ble_eq_true rfl) rfl
theorem d170_45 : decode (mC 170) 45 = .ok (.iload 5, 2) := by decide +kernel
theorem x170_45 {sc : aSc} {d : Nat} {r : aRes} {a0 : Value} {a1 : Value} {a2 : Value} {a3 : Value} {a4 : Value} {x5 : Int32} {st : List Value} {σ : aS} : Rn sc d 170 45 [a0, a1, a2, a3, a4, .int x5] st σ r ↔ Rn sc d 170 47 [a0, a1, a2, a3, a4, .int x5] (.int x5 :: st) σ r := r_iload d170_45 rfl
theorem d170_47 : decode (mC 170) 47 = .ok (.bipush 10, 2) := by decide +kernel
theorem x170_47 {sc : aSc} {d : Nat} {r : aRes} {L : List Value} {st : List Value} {σ : aS} : Rn sc d 170 47 L st σ r ↔ Rn sc d 170 49 L (.int 10 :: st) σ r := r_bipush d170_47 (by decide)
theorem d170_49 : decode (mC 170) 49 = .ok (.if_icmp .ge 39, 3) := by decide +kernel
theorem x170_49 {sc : aSc} {d : Nat} {r : aRes} {L : List Value} {st : List Value} {σ : aS} {x y : Int32} : Rn sc d 170 49 L (.int y :: .int x :: st) σ r ↔ if x < y then Rn sc d 170 52 L st σ r else Rn sc d 170 88 L st σ r := r_icmp_ge d170_49 rfl
theorem d170_52 : decode (mC 170) 52 = .ok (.iload 4, 2) := by decide +kernel
theorem x170_52 {sc : aSc} {d : Nat} {r : aRes} {a0 : Value} {a1 : Value} {a2 : Value} {a3 : Value} {x4 : Int32} {a5 : Value} {st : List Value} {σ : aS} : Rn sc d 170 52 [a0, a1, a2, a3, .int x4, a5] st σ r ↔ Rn sc d 170 54 [a0, a1, a2, a3, .int x4, a5] (.int x4 :: st) σ r := r_iload d170_52 rfl
theorem d170_54 : decode (mC 170) 54 = .ok (.aload_n 0, 1) := by decide +kernel
theorem x170_54 {sc : aSc} {d : Nat} {r : aRes} {x0 : Nat} {a1 : Value} {a2 : Value} {a3 : Value} {a4 : Value} {a5 : Value} {st : List Value} {σ : aS} : Rn sc d 170 54 [.ref x0, a1, a2, a3, a4, a5] st σ r ↔ Rn sc d 170 55 [.ref x0, a1, a2, a3, a4, a5] (.ref x0 :: st) σ r := r_aload_n d170_54 rfl
theorem d170_55 : decode (mC 170) 55 = .ok (.aload_n 0, 1) := by decide +kernel
theorem x170_55 {sc : aSc} {d : Nat} {r : aRes} {x0 : Nat} {a1 : Value} {a2 : Value} {a3 : Value} {a4 : Value} {a5 : Value} {st : List Value} {σ : aS} : Rn sc d 170 55 [.ref x0, a1, a2, a3, a4, a5] st σ r ↔ Rn sc d 170 56 [.ref x0, a1, a2, a3, a4, a5] (.ref x0 :: st) σ r := r_aload_n d170_55 rfl
theorem d170_56 : decode (mC 170) 56 = .ok (.iload_n 1, 1) := by decide +kernel
theorem x170_56 {sc : aSc} {d : Nat} {r : aRes} {a0 : Value} {x1 : Int32} {a2 : Value} {a3 : Value} {a4 : Value} {a5 : Value} {st : List Value} {σ : aS} : Rn sc d 170 56 [a0, .int x1, a2, a3, a4, a5] st σ r ↔ Rn sc d 170 57 [a0, .int x1, a2, a3, a4, a5] (.int x1 :: st) σ r := r_iload_n d170_56 rfl
theorem d170_57 : decode (mC 170) 57 = .ok (.invokevirtual 313, 3) := by decide +kernel
theorem x170_57 {sc : aSc} {d : Nat} {r : aRes} {L : List Value} {f : Nat → Nat → Int32} {g : Nat → Nat → Int64} {h1 h2 : Nat} {y0 : Int32} {z0 : Nat} {z1 : Int32} {o : Nat} (hK : KK[o]? = some (.inl 7)) : Rn sc d 170 57 L [.int y0, .ref o, .ref z0, .int z1] (cS f g h1 h2) r ↔ ∃ (σ3 : aS) (v : Option Value), Cl sc d 138 [.ref o, .int y0] (cS f g h1 h2) (σ3, v) ∧ Rn sc d 170 60 L (v.toList ++ [.ref z0, .int z1]) σ3 r := r_callV (vs := [.int y0]) d170_57 (j := 138) (by decide +kernel) ⟨rfl, by decide, rfl, rfl⟩ (Nat.le_of_ble_eq_true rfl) hK
theorem d170_60 : decode (mC 170) 60 = .ok (.iload 5, 2) := by decide +kernel
theorem x170_60 {sc : aSc} {d : Nat} {r : aRes} {a0 : Value} {a1 : Value} {a2 : Value} {a3 : Value} {a4 : Value} {x5 : Int32} {st : List Value} {σ : aS} : Rn sc d 170 60 [a0, a1, a2, a3, a4, .int x5] st σ r ↔ Rn sc d 170 62 [a0, a1, a2, a3, a4, .int x5] (.int x5 :: st) σ r := r_iload d170_60 rfl
theorem d170_62 : decode (mC 170) 62 = .ok (.iadd, 1) := by decide +kernel
theorem x170_62 {sc : aSc} {d : Nat} {r : aRes} {L : List Value} {st : List Value} {σ : aS} {x y : Int32} : Rn sc d 170 62 L (.int y :: .int x :: st) σ r ↔ Rn sc d 170 63 L (.int (x + y) :: st) σ r := r_iadd d170_62
theorem d170_63 : decode (mC 170) 63 = .ok (.aload_n 0, 1) := by decide +kernel
theorem x170_63 {sc : aSc} {d : Nat} {r : aRes} {x0 : Nat} {a1 : Value} {a2 : Value} {a3 : Value} {a4 : Value} {a5 : Value} {st : List Value} {σ : aS} : Rn sc d 170 63 [.ref x0, a1, a2, a3, a4, a5] st σ r ↔ Rn sc d 170 64 [.ref x0, a1, a2, a3, a4, a5] (.ref x0 :: st) σ r := r_aload_n d170_63 rfl
theorem d170_64 : decode (mC 170) 64 = .ok (.iload_n 2, 1) := by decide +kernel
theorem x170_64 {sc : aSc} {d : Nat} {r : aRes} {a0 : Value} {a1 : Value} {x2 : Int32} {a3 : Value} {a4 : Value} {a5 : Value} {st : List Value} {σ : aS} : Rn sc d 170 64 [a0, a1, .int x2, a3, a4, a5] st σ r ↔ Rn sc d 170 65 [a0, a1, .int x2, a3, a4, a5] (.int x2 :: st) σ r := r_iload_n d170_64 rfl
theorem d170_65 : decode (mC 170) 65 = .ok (.invokevirtual 313, 3) := by decide +kernel
theorem x170_65 {sc : aSc} {d : Nat} {r : aRes} {L : List Value} {f : Nat → Nat → Int32} {g : Nat → Nat → Int64} {h1 h2 : Nat} {y0 : Int32} {z0 : Int32} {z1 : Nat} {z2 : Int32} {o : Nat} (hK : KK[o]? = some (.inl 7)) : Rn sc d 170 65 L [.int y0, .ref o, .int z0, .ref z1, .int z2] (cS f g h1 h2) r ↔ ∃ (σ3 : aS) (v : Option Value), Cl sc d 138 [.ref o, .int y0] (cS f g h1 h2) (σ3, v) ∧ Rn sc d 170 68 L (v.toList ++ [.int z0, .ref z1, .int z2]) σ3 r := r_callV (vs := [.int y0]) d170_65 (j := 138) (by decide +kernel) ⟨rfl, by decide, rfl, rfl⟩ (Nat.le_of_ble_eq_true rfl) hK
theorem d170_68 : decode (mC 170) 68 = .ok (.invokevirtual 316, 3) := by decide +kernel
theorem x170_68 {sc : aSc} {d : Nat} {r : aRes} {L : List Value} {f : Nat → Nat → Int32} {g : Nat → Nat → Int64} {h1 h2 : Nat} {y0 : Int32} {y1 : Int32} {z0 : Int32} {o : Nat} (hK : KK[o]? = some (.inl 7)) : Rn sc d 170 68 L [.int y0, .int y1, .ref o, .int z0] (cS f g h1 h2) r ↔ ∃ (σ3 : aS) (v : Option Value), Cl sc d 140 [.ref o, .int y1, .int y0] (cS f g h1 h2) (σ3, v) ∧ Rn sc d 170 71 L (v.toList ++ [.int z0]) σ3 r := r_callV (vs := [.int y0, .int y1]) d170_68 (j := 140) (by decide +kernel) ⟨rfl, by decide, rfl, rfl⟩ (Nat.le_of_ble_eq_true rfl) hK
theorem d170_71 : decode (mC 170) 71 = .ok (.ifCond .eq 7, 3) := by decide +kernel
theorem x170_71 {sc : aSc} {d : Nat} {r : aRes} {L : List Value} {st : List Value} {σ : aS} {x : Int32} : Rn sc d 170 71 L (.int x :: st) σ r ↔ if x = 0 then Rn sc d 170 78 L st σ r else Rn sc d 170 74 L st σ r := r_if_eq d170_71 rfl
theorem d170_74 : decode (mC 170) 74 = .ok (.iconst 1, 1) := by decide +kernel
theorem x170_74 {sc : aSc} {d : Nat} {r : aRes} {L : List Value} {st : List Value} {σ : aS} : Rn sc d 170 74 L st σ r ↔ Rn sc d 170 75 L (.int 1 :: st) σ r := r_iconst d170_74 (by decide)
theorem d170_75 : decode (mC 170) 75 = .ok (.goto 4, 3) := by decide +kernel
theorem x170_75 {sc : aSc} {d : Nat} {r : aRes} {L : List Value} {st : List Value} {σ : aS} : Rn sc d 170 75 L st σ r ↔ Rn sc d 170 79 L st σ r := r_goto d170_75 rfl
theorem d170_78 : decode (mC 170) 78 = .ok (.iconst 0, 1) := by decide +kernel
theorem x170_78 {sc : aSc} {d : Nat} {r : aRes} {L : List Value} {st : List Value} {σ : aS} : Rn sc d 170 78 L st σ r ↔ Rn sc d 170 79 L (.int 0 :: st) σ r := r_iconst d170_78 (by decide)
theorem d170_79 : decode (mC 170) 79 = .ok (.iadd, 1) := by decide +kernel
theorem x170_79 {sc : aSc} {d : Nat} {r : aRes} {L : List Value} {st : List Value} {σ : aS} {x y : Int32} : Rn sc d 170 79 L (.int y :: .int x :: st) σ r ↔ Rn sc d 170 80 L (.int (x + y) :: st) σ r := r_iadd d170_79
theorem d170_80 : decode (mC 170) 80 = .ok (.istore 4, 2) := by decide +kernel
theorem x170_80 {sc : aSc} {d : Nat} {r : aRes} {a0 : Value} {a1 : Value} {a2 : Value} {x3 : Int32} {a4 : Value} {a5 : Value} {st : List Value} {σ : aS} {y : Int32} : Rn sc d 170 80 [a0, a1, a2, .int x3, a4, a5] (.int y :: st) σ r ↔ Rn sc d 170 82 [a0, a1, a2, .int x3, .int y, a5] st σ r := r_istore d170_80 (Nat.le_of_ble_eq_true rfl) rfl
theorem d170_82 : decode (mC 170) 82 = .ok (.iinc 5 1, 3) := by decide +kernel
theorem x170_82 {sc : aSc} {d : Nat} {r : aRes} {a0 : Value} {a1 : Value} {a2 : Value} {a3 : Value} {x4 : Int32} {x5 : Int32} {st : List Value} {σ : aS} : Rn sc d 170 82 [a0, a1, a2, a3, .int x4, .int x5] st σ r ↔ Rn sc d 170 85 [a0, a1, a2, a3, .int x4, .int (x5 + 1)] st σ r := r_iinc d170_82 (Nat.le_of_ble_eq_true rfl) rfl rfl (by decide)
theorem d170_85 : decode (mC 170) 85 = .ok (.goto (-40), 3) := by decide +kernel
theorem x170_85 {sc : aSc} {d : Nat} {r : aRes} {L : List Value} {st : List Value} {σ : aS} : Rn sc d 170 85 L st σ r ↔ Rn sc d 170 45 L st σ r := r_goto d170_85 rfl
theorem d170_88 : decode (mC 170) 88 = .ok (.aload_n 0, 1) := by decide +kernel
theorem x170_88 {sc : aSc} {d : Nat} {r : aRes} {x0 : Nat} {a1 : Value} {a2 : Value} {a3 : Value} {a4 : Value} {a5 : Value} {st : List Value} {σ : aS} : Rn sc d 170 88 [.ref x0, a1, a2, a3, a4, a5] st σ r ↔ Rn sc d 170 89 [.ref x0, a1, a2, a3, a4, a5] (.ref x0 :: st) σ r := r_aload_n d170_88 rfl
theorem d170_89 : decode (mC 170) 89 = .ok (.iload 4, 2) := by decide +kernel
theorem x170_89 {sc : aSc} {d : Nat} {r : aRes} {a0 : Value} {a1 : Value} {a2 : Value} {a3 : Value} {x4 : Int32} {a5 : Value} {st : List Value} {σ : aS} : Rn sc d 170 89 [a0, a1, a2, a3, .int x4, a5] st σ r ↔ Rn sc d 170 91 [a0, a1, a2, a3, .int x4, a5] (.int x4 :: st) σ r := r_iload d170_89 rfl
theorem d170_91 : decode (mC 170) 91 = .ok (.bipush 10, 2) := by decide +kernel
theorem x170_91 {sc : aSc} {d : Nat} {r : aRes} {L : List Value} {st : List Value} {σ : aS} : Rn sc d 170 91 L st σ r ↔ Rn sc d 170 93 L (.int 10 :: st) σ r := r_bipush d170_91 (by decide)
theorem d170_93 : decode (mC 170) 93 = .ok (.iload_n 3, 1) := by decide +kernel
theorem x170_93 {sc : aSc} {d : Nat} {r : aRes} {a0 : Value} {a1 : Value} {a2 : Value} {x3 : Int32} {a4 : Value} {a5 : Value} {st : List Value} {σ : aS} : Rn sc d 170 93 [a0, a1, a2, .int x3, a4, a5] st σ r ↔ Rn sc d 170 94 [a0, a1, a2, .int x3, a4, a5] (.int x3 :: st) σ r := r_iload_n d170_93 rfl
theorem d170_94 : decode (mC 170) 94 = .ok (.invokevirtual 359, 3) := by decide +kernel
theorem x170_94 {sc : aSc} {d : Nat} {r : aRes} {L : List Value} {f : Nat → Nat → Int32} {g : Nat → Nat → Int64} {h1 h2 : Nat} {y0 : Int32} {y1 : Int32} {y2 : Int32}  {o : Nat} (hK : KK[o]? = some (.inl 7)) : Rn sc d 170 94 L [.int y0, .int y1, .int y2, .ref o] (cS f g h1 h2) r ↔ ∃ (σ3 : aS) (v : Option Value), Cl sc d 169 [.ref o, .int y2, .int y1, .int y0] (cS f g h1 h2) (σ3, v) ∧ Rn sc d 170 97 L (v.toList ++ []) σ3 r := r_callV (vs := [.int y0, .int y1, .int y2]) d170_94 (j := 169) (by decide +kernel) ⟨rfl, by decide, rfl, rfl⟩ (Nat.le_of_ble_eq_true rfl) hK
theorem d170_97 : decode (mC 170) 97 = .ok (.lreturn, 1) := by decide +kernel
theorem x170_97 {sc : aSc} {d : Nat} {r : aRes} {L : List Value} {σ : aS} {x : Int64} : Rn sc d 170 97 L [.long x] σ r ↔ r = (σ, some (.long x)) := r_lret d170_97 rfl
theorem d171_0 : decode (mC 171) 0 = .ok (.aload_n 0, 1) := by decide +kernel
theorem x171_0 {sc : aSc} {d : Nat} {r : aRes} {x0 : Nat} {a1 : Value} {a2 : Value} {a3 : Value} {st : List Value} {σ : aS} : Rn sc d 171 0 [.ref x0, a1, a2, a3] st σ r ↔ Rn sc d 171 1 [.ref x0, a1, a2, a3] (.ref x0 :: st) σ r := r_aload_n d171_0 rfl
theorem d171_1 : decode (mC 171) 1 = .ok (.iload_n 1, 1) := by decide +kernel
theorem x171_1 {sc : aSc} {d : Nat} {r : aRes} {a0 : Value} {x1 : Int32} {a2 : Value} {a3 : Value} {st : List Value} {σ : aS} : Rn sc d 171 1 [a0, .int x1, a2, a3] st σ r ↔ Rn sc d 171 2 [a0, .int x1, a2, a3] (.int x1 :: st) σ r := r_iload_n d171_1 rfl
theorem d171_2 : decode (mC 171) 2 = .ok (.iconst 0, 1) := by decide +kernel
theorem x171_2 {sc : aSc} {d : Nat} {r : aRes} {L : List Value} {st : List Value} {σ : aS} : Rn sc d 171 2 L st σ r ↔ Rn sc d 171 3 L (.int 0 :: st) σ r := r_iconst d171_2 (by decide)
theorem d171_3 : decode (mC 171) 3 = .ok (.iconst 1, 1) := by decide +kernel
theorem x171_3 {sc : aSc} {d : Nat} {r : aRes} {L : List Value} {st : List Value} {σ : aS} : Rn sc d 171 3 L st σ r ↔ Rn sc d 171 4 L (.int 1 :: st) σ r := r_iconst d171_3 (by decide)
theorem d171_4 : decode (mC 171) 4 = .ok (.invokevirtual 227, 3) := by decide +kernel
theorem x171_4 {sc : aSc} {d : Nat} {r : aRes} {L : List Value} {f : Nat → Nat → Int32} {g : Nat → Nat → Int64} {h1 h2 : Nat} {y0 : Int32} {y1 : Int32} {y2 : Int32}  {o : Nat} (hK : KK[o]? = some (.inl 7)) : Rn sc d 171 4 L [.int y0, .int y1, .int y2, .ref o] (cS f g h1 h2) r ↔ ∃ (σ3 : aS) (v : Option Value), Cl sc d 108 [.ref o, .int y2, .int y1, .int y0] (cS f g h1 h2) (σ3, v) ∧ Rn sc d 171 7 L (v.toList ++ []) σ3 r := r_callV (vs := [.int y0, .int y1, .int y2]) d171_4 (j := 108) (by decide +kernel) ⟨rfl, by decide, rfl, rfl⟩ (Nat.le_of_ble_eq_true rfl) hK
theorem d171_7 : decode (mC 171) 7 = .ok (.ifCond .eq 10, 3) := by decide +kernel
theorem x171_7 {sc : aSc} {d : Nat} {r : aRes} {L : List Value} {st : List Value} {σ : aS} {x : Int32} : Rn sc d 171 7 L (.int x :: st) σ r ↔ if x = 0 then Rn sc d 171 17 L st σ r else Rn sc d 171 10 L st σ r := r_if_eq d171_7 rfl
theorem d171_10 : decode (mC 171) 10 = .ok (.aload_n 0, 1) := by decide +kernel
theorem x171_10 {sc : aSc} {d : Nat} {r : aRes} {x0 : Nat} {a1 : Value} {a2 : Value} {a3 : Value} {st : List Value} {σ : aS} : Rn sc d 171 10 [.ref x0, a1, a2, a3] st σ r ↔ Rn sc d 171 11 [.ref x0, a1, a2, a3] (.ref x0 :: st) σ r := r_aload_n d171_10 rfl
theorem d171_11 : decode (mC 171) 11 = .ok (.getfield 7, 3) := by decide +kernel
theorem x171_11 {sc : aSc} {d : Nat} {r : aRes} {L : List Value} {st : List Value} {f : Nat → Nat → Int32} {g : Nat → Nat → Int64} {h1 h2 : Nat} {o : Nat} (h17 : 17 ≤ o) (hK : KK[o]? = some (.inl 7)) : Rn sc d 171 11 L (.ref o :: st) (cS f g h1 h2) r ↔ Rn sc d 171 14 L (.int (f o 0) :: st) (cS f g h1 h2) r := r_getI d171_11 (ci := 7) (k := 0) rfl (by decide) (fun _ => rfl) h17 hK
theorem d171_14 : decode (mC 171) 14 = .ok (.ifCond .ne 7, 3) := by decide +kernel
theorem x171_14 {sc : aSc} {d : Nat} {r : aRes} {L : List Value} {st : List Value} {σ : aS} {x : Int32} : Rn sc d 171 14 L (.int x :: st) σ r ↔ if x = 0 then Rn sc d 171 17 L st σ r else Rn sc d 171 21 L st σ r := r_if_ne d171_14 rfl
theorem d171_17 : decode (mC 171) 17 = .ok (.ldc2_w 357, 3) := by decide +kernel
theorem x171_17 {sc : aSc} {d : Nat} {r : aRes} {L : List Value} {st : List Value} {σ : aS} : Rn sc d 171 17 L st σ r ↔ Rn sc d 171 20 L (.long (-9223372036854775808) :: st) σ r := r_ldc2_w d171_17 rfl
theorem d171_20 : decode (mC 171) 20 = .ok (.lreturn, 1) := by decide +kernel
theorem x171_20 {sc : aSc} {d : Nat} {r : aRes} {L : List Value} {σ : aS} {x : Int64} : Rn sc d 171 20 L [.long x] σ r ↔ r = (σ, some (.long x)) := r_lret d171_20 rfl
theorem d171_21 : decode (mC 171) 21 = .ok (.iconst 0, 1) := by decide +kernel
theorem x171_21 {sc : aSc} {d : Nat} {r : aRes} {L : List Value} {st : List Value} {σ : aS} : Rn sc d 171 21 L st σ r ↔ Rn sc d 171 22 L (.int 0 :: st) σ r := r_iconst d171_21 (by decide)
theorem d171_22 : decode (mC 171) 22 = .ok (.istore_n 2, 1) := by decide +kernel
theorem x171_22 {sc : aSc} {d : Nat} {r : aRes} {a0 : Value} {x1 : Int32} {a2 : Value} {a3 : Value} {st : List Value} {σ : aS} {y : Int32} : Rn sc d 171 22 [a0, .int x1, a2, a3] (.int y :: st) σ r ↔ Rn sc d 171 23 [a0, .int x1, .int y, a3] st σ r := r_istore_n d171_22 (Nat.le_of_ble_eq_true rfl) rfl
theorem d171_23 : decode (mC 171) 23 = .ok (.iconst 0, 1) := by decide +kernel
theorem x171_23 {sc : aSc} {d : Nat} {r : aRes} {L : List Value} {st : List Value} {σ : aS} : Rn sc d 171 23 L st σ r ↔ Rn sc d 171 24 L (.int 0 :: st) σ r := r_iconst d171_23 (by decide)
theorem d171_24 : decode (mC 171) 24 = .ok (.istore_n 3, 1) := by decide +kernel
theorem x171_24 {sc : aSc} {d : Nat} {r : aRes} {a0 : Value} {a1 : Value} {x2 : Int32} {a3 : Value} {st : List Value} {σ : aS} {y : Int32} : Rn sc d 171 24 [a0, a1, .int x2, a3] (.int y :: st) σ r ↔ Rn sc d 171 25 [a0, a1, .int x2, .int y] st σ r := r_istore_n d171_24 (Nat.le_of_ble_eq_true rfl) rfl
theorem d171_25 : decode (mC 171) 25 = .ok (.iload_n 3, 1) := by decide +kernel
theorem x171_25 {sc : aSc} {d : Nat} {r : aRes} {a0 : Value} {a1 : Value} {a2 : Value} {x3 : Int32} {st : List Value} {σ : aS} : Rn sc d 171 25 [a0, a1, a2, .int x3] st σ r ↔ Rn sc d 171 26 [a0, a1, a2, .int x3] (.int x3 :: st) σ r := r_iload_n d171_25 rfl
theorem d171_26 : decode (mC 171) 26 = .ok (.aload_n 0, 1) := by decide +kernel
theorem x171_26 {sc : aSc} {d : Nat} {r : aRes} {x0 : Nat} {a1 : Value} {a2 : Value} {a3 : Value} {st : List Value} {σ : aS} : Rn sc d 171 26 [.ref x0, a1, a2, a3] st σ r ↔ Rn sc d 171 27 [.ref x0, a1, a2, a3] (.ref x0 :: st) σ r := r_aload_n d171_26 rfl
theorem d171_27 : decode (mC 171) 27 = .ok (.getfield 7, 3) := by decide +kernel
theorem x171_27 {sc : aSc} {d : Nat} {r : aRes} {L : List Value} {st : List Value} {f : Nat → Nat → Int32} {g : Nat → Nat → Int64} {h1 h2 : Nat} {o : Nat} (h17 : 17 ≤ o) (hK : KK[o]? = some (.inl 7)) : Rn sc d 171 27 L (.ref o :: st) (cS f g h1 h2) r ↔ Rn sc d 171 30 L (.int (f o 0) :: st) (cS f g h1 h2) r := r_getI d171_27 (ci := 7) (k := 0) rfl (by decide) (fun _ => rfl) h17 hK
theorem d171_30 : decode (mC 171) 30 = .ok (.if_icmp .ge 17, 3) := by decide +kernel
theorem x171_30 {sc : aSc} {d : Nat} {r : aRes} {L : List Value} {st : List Value} {σ : aS} {x y : Int32} : Rn sc d 171 30 L (.int y :: .int x :: st) σ r ↔ if x < y then Rn sc d 171 33 L st σ r else Rn sc d 171 47 L st σ r := r_icmp_ge d171_30 rfl
theorem d171_33 : decode (mC 171) 33 = .ok (.iload_n 2, 1) := by decide +kernel
theorem x171_33 {sc : aSc} {d : Nat} {r : aRes} {a0 : Value} {a1 : Value} {x2 : Int32} {a3 : Value} {st : List Value} {σ : aS} : Rn sc d 171 33 [a0, a1, .int x2, a3] st σ r ↔ Rn sc d 171 34 [a0, a1, .int x2, a3] (.int x2 :: st) σ r := r_iload_n d171_33 rfl
theorem d171_34 : decode (mC 171) 34 = .ok (.aload_n 0, 1) := by decide +kernel
theorem x171_34 {sc : aSc} {d : Nat} {r : aRes} {x0 : Nat} {a1 : Value} {a2 : Value} {a3 : Value} {st : List Value} {σ : aS} : Rn sc d 171 34 [.ref x0, a1, a2, a3] st σ r ↔ Rn sc d 171 35 [.ref x0, a1, a2, a3] (.ref x0 :: st) σ r := r_aload_n d171_34 rfl
theorem d171_35 : decode (mC 171) 35 = .ok (.iload_n 3, 1) := by decide +kernel
theorem x171_35 {sc : aSc} {d : Nat} {r : aRes} {a0 : Value} {a1 : Value} {a2 : Value} {x3 : Int32} {st : List Value} {σ : aS} : Rn sc d 171 35 [a0, a1, a2, .int x3] st σ r ↔ Rn sc d 171 36 [a0, a1, a2, .int x3] (.int x3 :: st) σ r := r_iload_n d171_35 rfl
theorem d171_36 : decode (mC 171) 36 = .ok (.invokevirtual 313, 3) := by decide +kernel
theorem x171_36 {sc : aSc} {d : Nat} {r : aRes} {L : List Value} {f : Nat → Nat → Int32} {g : Nat → Nat → Int64} {h1 h2 : Nat} {y0 : Int32} {z0 : Int32} {o : Nat} (hK : KK[o]? = some (.inl 7)) : Rn sc d 171 36 L [.int y0, .ref o, .int z0] (cS f g h1 h2) r ↔ ∃ (σ3 : aS) (v : Option Value), Cl sc d 138 [.ref o, .int y0] (cS f g h1 h2) (σ3, v) ∧ Rn sc d 171 39 L (v.toList ++ [.int z0]) σ3 r := r_callV (vs := [.int y0]) d171_36 (j := 138) (by decide +kernel) ⟨rfl, by decide, rfl, rfl⟩ (Nat.le_of_ble_eq_true rfl) hK
theorem d171_39 : decode (mC 171) 39 = .ok (.iadd, 1) := by decide +kernel
theorem x171_39 {sc : aSc} {d : Nat} {r : aRes} {L : List Value} {st : List Value} {σ : aS} {x y : Int32} : Rn sc d 171 39 L (.int y :: .int x :: st) σ r ↔ Rn sc d 171 40 L (.int (x + y) :: st) σ r := r_iadd d171_39
theorem d171_40 : decode (mC 171) 40 = .ok (.istore_n 2, 1) := by decide +kernel
theorem x171_40 {sc : aSc} {d : Nat} {r : aRes} {a0 : Value} {x1 : Int32} {a2 : Value} {a3 : Value} {st : List Value} {σ : aS} {y : Int32} : Rn sc d 171 40 [a0, .int x1, a2, a3] (.int y :: st) σ r ↔ Rn sc d 171 41 [a0, .int x1, .int y, a3] st σ r := r_istore_n d171_40 (Nat.le_of_ble_eq_true rfl) rfl
theorem d171_41 : decode (mC 171) 41 = .ok (.iinc 3 1, 3) := by decide +kernel
theorem x171_41 {sc : aSc} {d : Nat} {r : aRes} {a0 : Value} {a1 : Value} {x2 : Int32} {x3 : Int32} {st : List Value} {σ : aS} : Rn sc d 171 41 [a0, a1, .int x2, .int x3] st σ r ↔ Rn sc d 171 44 [a0, a1, .int x2, .int (x3 + 1)] st σ r := r_iinc d171_41 (Nat.le_of_ble_eq_true rfl) rfl rfl (by decide)
theorem d171_44 : decode (mC 171) 44 = .ok (.goto (-19), 3) := by decide +kernel
theorem x171_44 {sc : aSc} {d : Nat} {r : aRes} {L : List Value} {st : List Value} {σ : aS} : Rn sc d 171 44 L st σ r ↔ Rn sc d 171 25 L st σ r := r_goto d171_44 rfl
theorem d171_47 : decode (mC 171) 47 = .ok (.aload_n 0, 1) := by decide +kernel
theorem x171_47 {sc : aSc} {d : Nat} {r : aRes} {x0 : Nat} {a1 : Value} {a2 : Value} {a3 : Value} {st : List Value} {σ : aS} : Rn sc d 171 47 [.ref x0, a1, a2, a3] st σ r ↔ Rn sc d 171 48 [.ref x0, a1, a2, a3] (.ref x0 :: st) σ r := r_aload_n d171_47 rfl
theorem d171_48 : decode (mC 171) 48 = .ok (.iload_n 2, 1) := by decide +kernel
theorem x171_48 {sc : aSc} {d : Nat} {r : aRes} {a0 : Value} {a1 : Value} {x2 : Int32} {a3 : Value} {st : List Value} {σ : aS} : Rn sc d 171 48 [a0, a1, .int x2, a3] st σ r ↔ Rn sc d 171 49 [a0, a1, .int x2, a3] (.int x2 :: st) σ r := r_iload_n d171_48 rfl
theorem d171_49 : decode (mC 171) 49 = .ok (.aload_n 0, 1) := by decide +kernel
theorem x171_49 {sc : aSc} {d : Nat} {r : aRes} {x0 : Nat} {a1 : Value} {a2 : Value} {a3 : Value} {st : List Value} {σ : aS} : Rn sc d 171 49 [.ref x0, a1, a2, a3] st σ r ↔ Rn sc d 171 50 [.ref x0, a1, a2, a3] (.ref x0 :: st) σ r := r_aload_n d171_49 rfl
theorem d171_50 : decode (mC 171) 50 = .ok (.getfield 7, 3) := by decide +kernel
theorem x171_50 {sc : aSc} {d : Nat} {r : aRes} {L : List Value} {st : List Value} {f : Nat → Nat → Int32} {g : Nat → Nat → Int64} {h1 h2 : Nat} {o : Nat} (h17 : 17 ≤ o) (hK : KK[o]? = some (.inl 7)) : Rn sc d 171 50 L (.ref o :: st) (cS f g h1 h2) r ↔ Rn sc d 171 53 L (.int (f o 0) :: st) (cS f g h1 h2) r := r_getI d171_50 (ci := 7) (k := 0) rfl (by decide) (fun _ => rfl) h17 hK
theorem d171_53 : decode (mC 171) 53 = .ok (.iload_n 1, 1) := by decide +kernel
theorem x171_53 {sc : aSc} {d : Nat} {r : aRes} {a0 : Value} {x1 : Int32} {a2 : Value} {a3 : Value} {st : List Value} {σ : aS} : Rn sc d 171 53 [a0, .int x1, a2, a3] st σ r ↔ Rn sc d 171 54 [a0, .int x1, a2, a3] (.int x1 :: st) σ r := r_iload_n d171_53 rfl
theorem d171_54 : decode (mC 171) 54 = .ok (.invokevirtual 359, 3) := by decide +kernel
theorem x171_54 {sc : aSc} {d : Nat} {r : aRes} {L : List Value} {f : Nat → Nat → Int32} {g : Nat → Nat → Int64} {h1 h2 : Nat} {y0 : Int32} {y1 : Int32} {y2 : Int32}  {o : Nat} (hK : KK[o]? = some (.inl 7)) : Rn sc d 171 54 L [.int y0, .int y1, .int y2, .ref o] (cS f g h1 h2) r ↔ ∃ (σ3 : aS) (v : Option Value), Cl sc d 169 [.ref o, .int y2, .int y1, .int y0] (cS f g h1 h2) (σ3, v) ∧ Rn sc d 171 57 L (v.toList ++ []) σ3 r := r_callV (vs := [.int y0, .int y1, .int y2]) d171_54 (j := 169) (by decide +kernel) ⟨rfl, by decide, rfl, rfl⟩ (Nat.le_of_ble_eq_true rfl) hK
theorem d171_57 : decode (mC 171) 57 = .ok (.lreturn, 1) := by decide +kernel
theorem x171_57 {sc : aSc} {d : Nat} {r : aRes} {L : List Value} {σ : aS} {x : Int64} : Rn sc d 171 57 L [.long x] σ r ↔ r = (σ, some (.long x)) := r_lret d171_57 rfl
theorem d172_0 : decode (mC 172) 0 = .ok (.iload_n 1, 1) := by decide +kernel
theorem x172_0 {sc : aSc} {d : Nat} {r : aRes} {a0 : Value} {x1 : Int32} {a2 : Value} {st : List Value} {σ : aS} : Rn sc d 172 0 [a0, .int x1, a2] st σ r ↔ Rn sc d 172 1 [a0, .int x1, a2] (.int x1 :: st) σ r := r_iload_n d172_0 rfl
theorem d172_1 : decode (mC 172) 1 = .ok (.iconst (-1), 1) := by decide +kernel
theorem x172_1 {sc : aSc} {d : Nat} {r : aRes} {L : List Value} {st : List Value} {σ : aS} : Rn sc d 172 1 L st σ r ↔ Rn sc d 172 2 L (.int (-1) :: st) σ r := r_iconst d172_1 (by decide)
theorem d172_2 : decode (mC 172) 2 = .ok (.if_icmp .ne 10, 3) := by decide +kernel
theorem x172_2 {sc : aSc} {d : Nat} {r : aRes} {L : List Value} {st : List Value} {σ : aS} {x y : Int32} : Rn sc d 172 2 L (.int y :: .int x :: st) σ r ↔ if x = y then Rn sc d 172 5 L st σ r else Rn sc d 172 12 L st σ r := r_icmp_ne d172_2 rfl
theorem d172_5 : decode (mC 172) 5 = .ok (.aload_n 0, 1) := by decide +kernel
theorem x172_5 {sc : aSc} {d : Nat} {r : aRes} {x0 : Nat} {a1 : Value} {a2 : Value} {st : List Value} {σ : aS} : Rn sc d 172 5 [.ref x0, a1, a2] st σ r ↔ Rn sc d 172 6 [.ref x0, a1, a2] (.ref x0 :: st) σ r := r_aload_n d172_5 rfl
theorem d172_6 : decode (mC 172) 6 = .ok (.iconst 0, 1) := by decide +kernel
theorem x172_6 {sc : aSc} {d : Nat} {r : aRes} {L : List Value} {st : List Value} {σ : aS} : Rn sc d 172 6 L st σ r ↔ Rn sc d 172 7 L (.int 0 :: st) σ r := r_iconst d172_6 (by decide)
theorem d172_7 : decode (mC 172) 7 = .ok (.putfield 141, 3) := by decide +kernel
theorem x172_7 {sc : aSc} {d : Nat} {r : aRes} {L : List Value} {st : List Value} {f : Nat → Nat → Int32} {g : Nat → Nat → Int64} {h1 h2 : Nat} {o : Nat} {v : Int32} (h17 : 17 ≤ o) (hK : KK[o]? = some (.inl 7)) : Rn sc d 172 7 L (.int v :: .ref o :: st) (cS f g h1 h2) r ↔ Rn sc d 172 10 L st (cS (u2 f o 43 v) g h1 h2) r := r_putI d172_7 (ci := 7) (k := 43) (by decide +kernel) (by decide +kernel) h17 hK
theorem d172_10 : decode (mC 172) 10 = .ok (.iconst 0, 1) := by decide +kernel
theorem x172_10 {sc : aSc} {d : Nat} {r : aRes} {L : List Value} {st : List Value} {σ : aS} : Rn sc d 172 10 L st σ r ↔ Rn sc d 172 11 L (.int 0 :: st) σ r := r_iconst d172_10 (by decide)
theorem d172_11 : decode (mC 172) 11 = .ok (.ireturn, 1) := by decide +kernel
theorem x172_11 {sc : aSc} {d : Nat} {r : aRes} {L : List Value} {σ : aS} {x : Int32} : Rn sc d 172 11 L [.int x] σ r ↔ r = (σ, some (.int x)) := r_iret d172_11 rfl rfl
theorem d172_12 : decode (mC 172) 12 = .ok (.aload_n 0, 1) := by decide +kernel
theorem x172_12 {sc : aSc} {d : Nat} {r : aRes} {x0 : Nat} {a1 : Value} {a2 : Value} {st : List Value} {σ : aS} : Rn sc d 172 12 [.ref x0, a1, a2] st σ r ↔ Rn sc d 172 13 [.ref x0, a1, a2] (.ref x0 :: st) σ r := r_aload_n d172_12 rfl
theorem d172_13 : decode (mC 172) 13 = .ok (.iload_n 1, 1) := by decide +kernel
theorem x172_13 {sc : aSc} {d : Nat} {r : aRes} {a0 : Value} {x1 : Int32} {a2 : Value} {st : List Value} {σ : aS} : Rn sc d 172 13 [a0, .int x1, a2] st σ r ↔ Rn sc d 172 14 [a0, .int x1, a2] (.int x1 :: st) σ r := r_iload_n d172_13 rfl
theorem d172_14 : decode (mC 172) 14 = .ok (.invokevirtual 231, 3) := by decide +kernel
theorem x172_14 {sc : aSc} {d : Nat} {r : aRes} {L : List Value} {f : Nat → Nat → Int32} {g : Nat → Nat → Int64} {h1 h2 : Nat} {y0 : Int32}  {o : Nat} (hK : KK[o]? = some (.inl 7)) : Rn sc d 172 14 L [.int y0, .ref o] (cS f g h1 h2) r ↔ ∃ (σ3 : aS) (v : Option Value), Cl sc d 109 [.ref o, .int y0] (cS f g h1 h2) (σ3, v) ∧ Rn sc d 172 17 L (v.toList ++ []) σ3 r := r_callV (vs := [.int y0]) d172_14 (j := 109) (by decide +kernel) ⟨rfl, by decide, rfl, rfl⟩ (Nat.le_of_ble_eq_true rfl) hK
theorem d172_17 : decode (mC 172) 17 = .ok (.ifCond .ne 5, 3) := by decide +kernel
theorem x172_17 {sc : aSc} {d : Nat} {r : aRes} {L : List Value} {st : List Value} {σ : aS} {x : Int32} : Rn sc d 172 17 L (.int x :: st) σ r ↔ if x = 0 then Rn sc d 172 20 L st σ r else Rn sc d 172 22 L st σ r := r_if_ne d172_17 rfl
theorem d172_20 : decode (mC 172) 20 = .ok (.iconst (-1), 1) := by decide +kernel
theorem x172_20 {sc : aSc} {d : Nat} {r : aRes} {L : List Value} {st : List Value} {σ : aS} : Rn sc d 172 20 L st σ r ↔ Rn sc d 172 21 L (.int (-1) :: st) σ r := r_iconst d172_20 (by decide)
theorem d172_21 : decode (mC 172) 21 = .ok (.ireturn, 1) := by decide +kernel
theorem x172_21 {sc : aSc} {d : Nat} {r : aRes} {L : List Value} {σ : aS} {x : Int32} : Rn sc d 172 21 L [.int x] σ r ↔ r = (σ, some (.int x)) := r_iret d172_21 rfl rfl
theorem d172_22 : decode (mC 172) 22 = .ok (.aload_n 0, 1) := by decide +kernel
theorem x172_22 {sc : aSc} {d : Nat} {r : aRes} {x0 : Nat} {a1 : Value} {a2 : Value} {st : List Value} {σ : aS} : Rn sc d 172 22 [.ref x0, a1, a2] st σ r ↔ Rn sc d 172 23 [.ref x0, a1, a2] (.ref x0 :: st) σ r := r_aload_n d172_22 rfl
theorem d172_23 : decode (mC 172) 23 = .ok (.iload_n 2, 1) := by decide +kernel
theorem x172_23 {sc : aSc} {d : Nat} {r : aRes} {a0 : Value} {a1 : Value} {x2 : Int32} {st : List Value} {σ : aS} : Rn sc d 172 23 [a0, a1, .int x2] st σ r ↔ Rn sc d 172 24 [a0, a1, .int x2] (.int x2 :: st) σ r := r_iload_n d172_23 rfl
theorem d172_24 : decode (mC 172) 24 = .ok (.iconst 0, 1) := by decide +kernel
theorem x172_24 {sc : aSc} {d : Nat} {r : aRes} {L : List Value} {st : List Value} {σ : aS} : Rn sc d 172 24 L st σ r ↔ Rn sc d 172 25 L (.int 0 :: st) σ r := r_iconst d172_24 (by decide)
theorem d172_25 : decode (mC 172) 25 = .ok (.sipush 999, 3) := by decide +kernel
theorem x172_25 {sc : aSc} {d : Nat} {r : aRes} {L : List Value} {st : List Value} {σ : aS} : Rn sc d 172 25 L st σ r ↔ Rn sc d 172 28 L (.int 999 :: st) σ r := r_sipush d172_25 (by decide)
theorem d172_28 : decode (mC 172) 28 = .ok (.invokevirtual 227, 3) := by decide +kernel
theorem x172_28 {sc : aSc} {d : Nat} {r : aRes} {L : List Value} {f : Nat → Nat → Int32} {g : Nat → Nat → Int64} {h1 h2 : Nat} {y0 : Int32} {y1 : Int32} {y2 : Int32}  {o : Nat} (hK : KK[o]? = some (.inl 7)) : Rn sc d 172 28 L [.int y0, .int y1, .int y2, .ref o] (cS f g h1 h2) r ↔ ∃ (σ3 : aS) (v : Option Value), Cl sc d 108 [.ref o, .int y2, .int y1, .int y0] (cS f g h1 h2) (σ3, v) ∧ Rn sc d 172 31 L (v.toList ++ []) σ3 r := r_callV (vs := [.int y0, .int y1, .int y2]) d172_28 (j := 108) (by decide +kernel) ⟨rfl, by decide, rfl, rfl⟩ (Nat.le_of_ble_eq_true rfl) hK
theorem d172_31 : decode (mC 172) 31 = .ok (.ifCond .ne 6, 3) := by decide +kernel
theorem x172_31 {sc : aSc} {d : Nat} {r : aRes} {L : List Value} {st : List Value} {σ : aS} {x : Int32} : Rn sc d 172 31 L (.int x :: st) σ r ↔ if x = 0 then Rn sc d 172 34 L st σ r else Rn sc d 172 37 L st σ r := r_if_ne d172_31 rfl
theorem d172_34 : decode (mC 172) 34 = .ok (.bipush (-2), 2) := by decide +kernel
theorem x172_34 {sc : aSc} {d : Nat} {r : aRes} {L : List Value} {st : List Value} {σ : aS} : Rn sc d 172 34 L st σ r ↔ Rn sc d 172 36 L (.int (-2) :: st) σ r := r_bipush d172_34 (by decide)
theorem d172_36 : decode (mC 172) 36 = .ok (.ireturn, 1) := by decide +kernel
theorem x172_36 {sc : aSc} {d : Nat} {r : aRes} {L : List Value} {σ : aS} {x : Int32} : Rn sc d 172 36 L [.int x] σ r ↔ r = (σ, some (.int x)) := r_iret d172_36 rfl rfl
theorem d172_37 : decode (mC 172) 37 = .ok (.aload_n 0, 1) := by decide +kernel
theorem x172_37 {sc : aSc} {d : Nat} {r : aRes} {x0 : Nat} {a1 : Value} {a2 : Value} {st : List Value} {σ : aS} : Rn sc d 172 37 [.ref x0, a1, a2] st σ r ↔ Rn sc d 172 38 [.ref x0, a1, a2] (.ref x0 :: st) σ r := r_aload_n d172_37 rfl
theorem d172_38 : decode (mC 172) 38 = .ok (.getfield 141, 3) := by decide +kernel
theorem x172_38 {sc : aSc} {d : Nat} {r : aRes} {L : List Value} {st : List Value} {f : Nat → Nat → Int32} {g : Nat → Nat → Int64} {h1 h2 : Nat} {o : Nat} (h17 : 17 ≤ o) (hK : KK[o]? = some (.inl 7)) : Rn sc d 172 38 L (.ref o :: st) (cS f g h1 h2) r ↔ Rn sc d 172 41 L (.int (f o 43) :: st) (cS f g h1 h2) r := r_getI d172_38 (ci := 7) (k := 43) (by decide +kernel) (by decide +kernel) (fun _ => rfl) h17 hK
theorem d172_41 : decode (mC 172) 41 = .ok (.bipush 12, 2) := by decide +kernel
theorem x172_41 {sc : aSc} {d : Nat} {r : aRes} {L : List Value} {st : List Value} {σ : aS} : Rn sc d 172 41 L st σ r ↔ Rn sc d 172 43 L (.int 12 :: st) σ r := r_bipush d172_41 (by decide)
theorem d172_43 : decode (mC 172) 43 = .ok (.if_icmp .ne 6, 3) := by decide +kernel
theorem x172_43 {sc : aSc} {d : Nat} {r : aRes} {L : List Value} {st : List Value} {σ : aS} {x y : Int32} : Rn sc d 172 43 L (.int y :: .int x :: st) σ r ↔ if x = y then Rn sc d 172 46 L st σ r else Rn sc d 172 49 L st σ r := r_icmp_ne d172_43 rfl
theorem d172_46 : decode (mC 172) 46 = .ok (.bipush (-4), 2) := by decide +kernel
theorem x172_46 {sc : aSc} {d : Nat} {r : aRes} {L : List Value} {st : List Value} {σ : aS} : Rn sc d 172 46 L st σ r ↔ Rn sc d 172 48 L (.int (-4) :: st) σ r := r_bipush d172_46 (by decide)
theorem d172_48 : decode (mC 172) 48 = .ok (.ireturn, 1) := by decide +kernel
theorem x172_48 {sc : aSc} {d : Nat} {r : aRes} {L : List Value} {σ : aS} {x : Int32} : Rn sc d 172 48 L [.int x] σ r ↔ r = (σ, some (.int x)) := r_iret d172_48 rfl rfl
theorem d172_49 : decode (mC 172) 49 = .ok (.aload_n 0, 1) := by decide +kernel
theorem x172_49 {sc : aSc} {d : Nat} {r : aRes} {x0 : Nat} {a1 : Value} {a2 : Value} {st : List Value} {σ : aS} : Rn sc d 172 49 [.ref x0, a1, a2] st σ r ↔ Rn sc d 172 50 [.ref x0, a1, a2] (.ref x0 :: st) σ r := r_aload_n d172_49 rfl
theorem d172_50 : decode (mC 172) 50 = .ok (.getfield 144, 3) := by decide +kernel
theorem x172_50 {sc : aSc} {d : Nat} {r : aRes} {L : List Value} {st : List Value} {f : Nat → Nat → Int32} {g : Nat → Nat → Int64} {h1 h2 : Nat} {o : Nat} (hK : KK[o]? = some (.inl 7)) (hR : (RR h1 h2 o 44).isSome = true) : Rn sc d 172 50 L (.ref o :: st) (cS f g h1 h2) r ↔ Rn sc d 172 53 L (.ref (rf h1 h2 o 44) :: st) (cS f g h1 h2) r := r_getR2 d172_50 (ci := 7) (k := 44) (by decide +kernel) (by decide +kernel) (fun _ => rfl) hK hR
theorem d172_53 : decode (mC 172) 53 = .ok (.aload_n 0, 1) := by decide +kernel
theorem x172_53 {sc : aSc} {d : Nat} {r : aRes} {x0 : Nat} {a1 : Value} {a2 : Value} {st : List Value} {σ : aS} : Rn sc d 172 53 [.ref x0, a1, a2] st σ r ↔ Rn sc d 172 54 [.ref x0, a1, a2] (.ref x0 :: st) σ r := r_aload_n d172_53 rfl
theorem d172_54 : decode (mC 172) 54 = .ok (.getfield 141, 3) := by decide +kernel
theorem x172_54 {sc : aSc} {d : Nat} {r : aRes} {L : List Value} {st : List Value} {f : Nat → Nat → Int32} {g : Nat → Nat → Int64} {h1 h2 : Nat} {o : Nat} (h17 : 17 ≤ o) (hK : KK[o]? = some (.inl 7)) : Rn sc d 172 54 L (.ref o :: st) (cS f g h1 h2) r ↔ Rn sc d 172 57 L (.int (f o 43) :: st) (cS f g h1 h2) r := r_getI d172_54 (ci := 7) (k := 43) (by decide +kernel) (by decide +kernel) (fun _ => rfl) h17 hK
theorem d172_57 : decode (mC 172) 57 = .ok (.iload_n 1, 1) := by decide +kernel
theorem x172_57 {sc : aSc} {d : Nat} {r : aRes} {a0 : Value} {x1 : Int32} {a2 : Value} {st : List Value} {σ : aS} : Rn sc d 172 57 [a0, .int x1, a2] st σ r ↔ Rn sc d 172 58 [a0, .int x1, a2] (.int x1 :: st) σ r := r_iload_n d172_57 rfl
theorem d172_58 : decode (mC 172) 58 = .ok (.iastore, 1) := by decide +kernel
theorem x172_58 {sc : aSc} {d : Nat} {r : aRes} {L : List Value} {st : List Value} {f : Nat → Nat → Int32} {g : Nat → Nat → Int64} {h1 h2 : Nat} {a : Nat} {i : Int32} {x : Int32} (h17 : 17 ≤ a) (hA : isT9 .int a) (hi : inb i (aln a) = true) : Rn sc d 172 58 L (.int x :: .int i :: .ref a :: st) (cS f g h1 h2) r ↔ Rn sc d 172 59 L st (cS (u2 f a i.toNatClampNeg x) g h1 h2) r := r_iast d172_58 h17 hA hi
theorem d172_59 : decode (mC 172) 59 = .ok (.aload_n 0, 1) := by decide +kernel
theorem x172_59 {sc : aSc} {d : Nat} {r : aRes} {x0 : Nat} {a1 : Value} {a2 : Value} {st : List Value} {σ : aS} : Rn sc d 172 59 [.ref x0, a1, a2] st σ r ↔ Rn sc d 172 60 [.ref x0, a1, a2] (.ref x0 :: st) σ r := r_aload_n d172_59 rfl
theorem d172_60 : decode (mC 172) 60 = .ok (.getfield 147, 3) := by decide +kernel
theorem x172_60 {sc : aSc} {d : Nat} {r : aRes} {L : List Value} {st : List Value} {f : Nat → Nat → Int32} {g : Nat → Nat → Int64} {h1 h2 : Nat} {o : Nat} (hK : KK[o]? = some (.inl 7)) (hR : (RR h1 h2 o 45).isSome = true) : Rn sc d 172 60 L (.ref o :: st) (cS f g h1 h2) r ↔ Rn sc d 172 63 L (.ref (rf h1 h2 o 45) :: st) (cS f g h1 h2) r := r_getR2 d172_60 (ci := 7) (k := 45) (by decide +kernel) (by decide +kernel) (fun _ => rfl) hK hR
theorem d172_63 : decode (mC 172) 63 = .ok (.aload_n 0, 1) := by decide +kernel
theorem x172_63 {sc : aSc} {d : Nat} {r : aRes} {x0 : Nat} {a1 : Value} {a2 : Value} {st : List Value} {σ : aS} : Rn sc d 172 63 [.ref x0, a1, a2] st σ r ↔ Rn sc d 172 64 [.ref x0, a1, a2] (.ref x0 :: st) σ r := r_aload_n d172_63 rfl
theorem d172_64 : decode (mC 172) 64 = .ok (.getfield 141, 3) := by decide +kernel
theorem x172_64 {sc : aSc} {d : Nat} {r : aRes} {L : List Value} {st : List Value} {f : Nat → Nat → Int32} {g : Nat → Nat → Int64} {h1 h2 : Nat} {o : Nat} (h17 : 17 ≤ o) (hK : KK[o]? = some (.inl 7)) : Rn sc d 172 64 L (.ref o :: st) (cS f g h1 h2) r ↔ Rn sc d 172 67 L (.int (f o 43) :: st) (cS f g h1 h2) r := r_getI d172_64 (ci := 7) (k := 43) (by decide +kernel) (by decide +kernel) (fun _ => rfl) h17 hK
theorem d172_67 : decode (mC 172) 67 = .ok (.iload_n 2, 1) := by decide +kernel
theorem x172_67 {sc : aSc} {d : Nat} {r : aRes} {a0 : Value} {a1 : Value} {x2 : Int32} {st : List Value} {σ : aS} : Rn sc d 172 67 [a0, a1, .int x2] st σ r ↔ Rn sc d 172 68 [a0, a1, .int x2] (.int x2 :: st) σ r := r_iload_n d172_67 rfl
theorem d172_68 : decode (mC 172) 68 = .ok (.iastore, 1) := by decide +kernel
theorem x172_68 {sc : aSc} {d : Nat} {r : aRes} {L : List Value} {st : List Value} {f : Nat → Nat → Int32} {g : Nat → Nat → Int64} {h1 h2 : Nat} {a : Nat} {i : Int32} {x : Int32} (h17 : 17 ≤ a) (hA : isT9 .int a) (hi : inb i (aln a) = true) : Rn sc d 172 68 L (.int x :: .int i :: .ref a :: st) (cS f g h1 h2) r ↔ Rn sc d 172 69 L st (cS (u2 f a i.toNatClampNeg x) g h1 h2) r := r_iast d172_68 h17 hA hi
theorem d172_69 : decode (mC 172) 69 = .ok (.aload_n 0, 1) := by decide +kernel
theorem x172_69 {sc : aSc} {d : Nat} {r : aRes} {x0 : Nat} {a1 : Value} {a2 : Value} {st : List Value} {σ : aS} : Rn sc d 172 69 [.ref x0, a1, a2] st σ r ↔ Rn sc d 172 70 [.ref x0, a1, a2] (.ref x0 :: st) σ r := r_aload_n d172_69 rfl
theorem d172_70 : decode (mC 172) 70 = .ok (.dup, 1) := by decide +kernel
theorem x172_70 {sc : aSc} {d : Nat} {r : aRes} {L : List Value} {st : List Value} {σ : aS} {y : Nat} : Rn sc d 172 70 L (.ref y :: st) σ r ↔ Rn sc d 172 71 L (.ref y :: .ref y :: st) σ r := r_dup d172_70 rfl
theorem d172_71 : decode (mC 172) 71 = .ok (.getfield 141, 3) := by decide +kernel
theorem x172_71 {sc : aSc} {d : Nat} {r : aRes} {L : List Value} {st : List Value} {f : Nat → Nat → Int32} {g : Nat → Nat → Int64} {h1 h2 : Nat} {o : Nat} (h17 : 17 ≤ o) (hK : KK[o]? = some (.inl 7)) : Rn sc d 172 71 L (.ref o :: st) (cS f g h1 h2) r ↔ Rn sc d 172 74 L (.int (f o 43) :: st) (cS f g h1 h2) r := r_getI d172_71 (ci := 7) (k := 43) (by decide +kernel) (by decide +kernel) (fun _ => rfl) h17 hK
theorem d172_74 : decode (mC 172) 74 = .ok (.iconst 1, 1) := by decide +kernel
theorem x172_74 {sc : aSc} {d : Nat} {r : aRes} {L : List Value} {st : List Value} {σ : aS} : Rn sc d 172 74 L st σ r ↔ Rn sc d 172 75 L (.int 1 :: st) σ r := r_iconst d172_74 (by decide)
theorem d172_75 : decode (mC 172) 75 = .ok (.iadd, 1) := by decide +kernel
theorem x172_75 {sc : aSc} {d : Nat} {r : aRes} {L : List Value} {st : List Value} {σ : aS} {x y : Int32} : Rn sc d 172 75 L (.int y :: .int x :: st) σ r ↔ Rn sc d 172 76 L (.int (x + y) :: st) σ r := r_iadd d172_75
theorem d172_76 : decode (mC 172) 76 = .ok (.putfield 141, 3) := by decide +kernel
theorem x172_76 {sc : aSc} {d : Nat} {r : aRes} {L : List Value} {st : List Value} {f : Nat → Nat → Int32} {g : Nat → Nat → Int64} {h1 h2 : Nat} {o : Nat} {v : Int32} (h17 : 17 ≤ o) (hK : KK[o]? = some (.inl 7)) : Rn sc d 172 76 L (.int v :: .ref o :: st) (cS f g h1 h2) r ↔ Rn sc d 172 79 L st (cS (u2 f o 43 v) g h1 h2) r := r_putI d172_76 (ci := 7) (k := 43) (by decide +kernel) (by decide +kernel) h17 hK
theorem d172_79 : decode (mC 172) 79 = .ok (.aload_n 0, 1) := by decide +kernel
theorem x172_79 {sc : aSc} {d : Nat} {r : aRes} {x0 : Nat} {a1 : Value} {a2 : Value} {st : List Value} {σ : aS} : Rn sc d 172 79 [.ref x0, a1, a2] st σ r ↔ Rn sc d 172 80 [.ref x0, a1, a2] (.ref x0 :: st) σ r := r_aload_n d172_79 rfl
theorem d172_80 : decode (mC 172) 80 = .ok (.getfield 141, 3) := by decide +kernel
theorem x172_80 {sc : aSc} {d : Nat} {r : aRes} {L : List Value} {st : List Value} {f : Nat → Nat → Int32} {g : Nat → Nat → Int64} {h1 h2 : Nat} {o : Nat} (h17 : 17 ≤ o) (hK : KK[o]? = some (.inl 7)) : Rn sc d 172 80 L (.ref o :: st) (cS f g h1 h2) r ↔ Rn sc d 172 83 L (.int (f o 43) :: st) (cS f g h1 h2) r := r_getI d172_80 (ci := 7) (k := 43) (by decide +kernel) (by decide +kernel) (fun _ => rfl) h17 hK
theorem d172_83 : decode (mC 172) 83 = .ok (.ireturn, 1) := by decide +kernel
theorem x172_83 {sc : aSc} {d : Nat} {r : aRes} {L : List Value} {σ : aS} {x : Int32} : Rn sc d 172 83 L [.int x] σ r ↔ r = (σ, some (.int x)) := r_iret d172_83 rfl rfl
theorem d173_0 : decode (mC 173) 0 = .ok (.iconst 0, 1) := by decide +kernel
theorem x173_0 {sc : aSc} {d : Nat} {r : aRes} {L : List Value} {st : List Value} {σ : aS} : Rn sc d 173 0 L st σ r ↔ Rn sc d 173 1 L (.int 0 :: st) σ r := r_iconst d173_0 (by decide)
theorem d173_1 : decode (mC 173) 1 = .ok (.istore_n 1, 1) := by decide +kernel
theorem x173_1 {sc : aSc} {d : Nat} {r : aRes} {x0 : Nat} {a1 : Value} {st : List Value} {σ : aS} {y : Int32} : Rn sc d 173 1 [.ref x0, a1] (.int y :: st) σ r ↔ Rn sc d 173 2 [.ref x0, .int y] st σ r := r_istore_n d173_1 (Nat.le_of_ble_eq_true rfl) rfl
theorem d173_2 : decode (mC 173) 2 = .ok (.iload_n 1, 1) := by decide +kernel
theorem x173_2 {sc : aSc} {d : Nat} {r : aRes} {a0 : Value} {x1 : Int32} {st : List Value} {σ : aS} : Rn sc d 173 2 [a0, .int x1] st σ r ↔ Rn sc d 173 3 [a0, .int x1] (.int x1 :: st) σ r := r_iload_n d173_2 rfl
theorem d173_3 : decode (mC 173) 3 = .ok (.aload_n 0, 1) := by decide +kernel
theorem x173_3 {sc : aSc} {d : Nat} {r : aRes} {x0 : Nat} {a1 : Value} {st : List Value} {σ : aS} : Rn sc d 173 3 [.ref x0, a1] st σ r ↔ Rn sc d 173 4 [.ref x0, a1] (.ref x0 :: st) σ r := r_aload_n d173_3 rfl
theorem d173_4 : decode (mC 173) 4 = .ok (.getfield 141, 3) := by decide +kernel
theorem x173_4 {sc : aSc} {d : Nat} {r : aRes} {L : List Value} {st : List Value} {f : Nat → Nat → Int32} {g : Nat → Nat → Int64} {h1 h2 : Nat} {o : Nat} (h17 : 17 ≤ o) (hK : KK[o]? = some (.inl 7)) : Rn sc d 173 4 L (.ref o :: st) (cS f g h1 h2) r ↔ Rn sc d 173 7 L (.int (f o 43) :: st) (cS f g h1 h2) r := r_getI d173_4 (ci := 7) (k := 43) (by decide +kernel) (by decide +kernel) (fun _ => rfl) h17 hK
theorem d173_7 : decode (mC 173) 7 = .ok (.if_icmp .ge 30, 3) := by decide +kernel
theorem x173_7 {sc : aSc} {d : Nat} {r : aRes} {L : List Value} {st : List Value} {σ : aS} {x y : Int32} : Rn sc d 173 7 L (.int y :: .int x :: st) σ r ↔ if x < y then Rn sc d 173 10 L st σ r else Rn sc d 173 37 L st σ r := r_icmp_ge d173_7 rfl
theorem d173_10 : decode (mC 173) 10 = .ok (.aload_n 0, 1) := by decide +kernel
theorem x173_10 {sc : aSc} {d : Nat} {r : aRes} {x0 : Nat} {a1 : Value} {st : List Value} {σ : aS} : Rn sc d 173 10 [.ref x0, a1] st σ r ↔ Rn sc d 173 11 [.ref x0, a1] (.ref x0 :: st) σ r := r_aload_n d173_10 rfl
theorem d173_11 : decode (mC 173) 11 = .ok (.aload_n 0, 1) := by decide +kernel
theorem x173_11 {sc : aSc} {d : Nat} {r : aRes} {x0 : Nat} {a1 : Value} {st : List Value} {σ : aS} : Rn sc d 173 11 [.ref x0, a1] st σ r ↔ Rn sc d 173 12 [.ref x0, a1] (.ref x0 :: st) σ r := r_aload_n d173_11 rfl
theorem d173_12 : decode (mC 173) 12 = .ok (.getfield 144, 3) := by decide +kernel
theorem x173_12 {sc : aSc} {d : Nat} {r : aRes} {L : List Value} {st : List Value} {f : Nat → Nat → Int32} {g : Nat → Nat → Int64} {h1 h2 : Nat} {o : Nat} (hK : KK[o]? = some (.inl 7)) (hR : (RR h1 h2 o 44).isSome = true) : Rn sc d 173 12 L (.ref o :: st) (cS f g h1 h2) r ↔ Rn sc d 173 15 L (.ref (rf h1 h2 o 44) :: st) (cS f g h1 h2) r := r_getR2 d173_12 (ci := 7) (k := 44) (by decide +kernel) (by decide +kernel) (fun _ => rfl) hK hR
theorem d173_15 : decode (mC 173) 15 = .ok (.iload_n 1, 1) := by decide +kernel
theorem x173_15 {sc : aSc} {d : Nat} {r : aRes} {a0 : Value} {x1 : Int32} {st : List Value} {σ : aS} : Rn sc d 173 15 [a0, .int x1] st σ r ↔ Rn sc d 173 16 [a0, .int x1] (.int x1 :: st) σ r := r_iload_n d173_15 rfl
theorem d173_16 : decode (mC 173) 16 = .ok (.iaload, 1) := by decide +kernel
theorem x173_16 {sc : aSc} {d : Nat} {r : aRes} {L : List Value} {st : List Value} {f : Nat → Nat → Int32} {g : Nat → Nat → Int64} {h1 h2 : Nat} {a : Nat} {i : Int32} (h17 : 17 ≤ a) (hA : isT9 .int a) (hi : inb i (aln a) = true) : Rn sc d 173 16 L (.int i :: .ref a :: st) (cS f g h1 h2) r ↔ Rn sc d 173 17 L (.int (f a i.toNatClampNeg) :: st) (cS f g h1 h2) r := r_iald d173_16 h17 hA hi
theorem d173_17 : decode (mC 173) 17 = .ok (.invokevirtual 313, 3) := by decide +kernel
theorem x173_17 {sc : aSc} {d : Nat} {r : aRes} {L : List Value} {f : Nat → Nat → Int32} {g : Nat → Nat → Int64} {h1 h2 : Nat} {y0 : Int32}  {o : Nat} (hK : KK[o]? = some (.inl 7)) : Rn sc d 173 17 L [.int y0, .ref o] (cS f g h1 h2) r ↔ ∃ (σ3 : aS) (v : Option Value), Cl sc d 138 [.ref o, .int y0] (cS f g h1 h2) (σ3, v) ∧ Rn sc d 173 20 L (v.toList ++ []) σ3 r := r_callV (vs := [.int y0]) d173_17 (j := 138) (by decide +kernel) ⟨rfl, by decide, rfl, rfl⟩ (Nat.le_of_ble_eq_true rfl) hK
theorem d173_20 : decode (mC 173) 20 = .ok (.aload_n 0, 1) := by decide +kernel
theorem x173_20 {sc : aSc} {d : Nat} {r : aRes} {x0 : Nat} {a1 : Value} {st : List Value} {σ : aS} : Rn sc d 173 20 [.ref x0, a1] st σ r ↔ Rn sc d 173 21 [.ref x0, a1] (.ref x0 :: st) σ r := r_aload_n d173_20 rfl
theorem d173_21 : decode (mC 173) 21 = .ok (.getfield 147, 3) := by decide +kernel
theorem x173_21 {sc : aSc} {d : Nat} {r : aRes} {L : List Value} {st : List Value} {f : Nat → Nat → Int32} {g : Nat → Nat → Int64} {h1 h2 : Nat} {o : Nat} (hK : KK[o]? = some (.inl 7)) (hR : (RR h1 h2 o 45).isSome = true) : Rn sc d 173 21 L (.ref o :: st) (cS f g h1 h2) r ↔ Rn sc d 173 24 L (.ref (rf h1 h2 o 45) :: st) (cS f g h1 h2) r := r_getR2 d173_21 (ci := 7) (k := 45) (by decide +kernel) (by decide +kernel) (fun _ => rfl) hK hR
theorem d173_24 : decode (mC 173) 24 = .ok (.iload_n 1, 1) := by decide +kernel
theorem x173_24 {sc : aSc} {d : Nat} {r : aRes} {a0 : Value} {x1 : Int32} {st : List Value} {σ : aS} : Rn sc d 173 24 [a0, .int x1] st σ r ↔ Rn sc d 173 25 [a0, .int x1] (.int x1 :: st) σ r := r_iload_n d173_24 rfl
theorem d173_25 : decode (mC 173) 25 = .ok (.iaload, 1) := by decide +kernel
theorem x173_25 {sc : aSc} {d : Nat} {r : aRes} {L : List Value} {st : List Value} {f : Nat → Nat → Int32} {g : Nat → Nat → Int64} {h1 h2 : Nat} {a : Nat} {i : Int32} (h17 : 17 ≤ a) (hA : isT9 .int a) (hi : inb i (aln a) = true) : Rn sc d 173 25 L (.int i :: .ref a :: st) (cS f g h1 h2) r ↔ Rn sc d 173 26 L (.int (f a i.toNatClampNeg) :: st) (cS f g h1 h2) r := r_iald d173_25 h17 hA hi
theorem d173_26 : decode (mC 173) 26 = .ok (.if_icmp .eq 5, 3) := by decide +kernel
theorem x173_26 {sc : aSc} {d : Nat} {r : aRes} {L : List Value} {st : List Value} {σ : aS} {x y : Int32} : Rn sc d 173 26 L (.int y :: .int x :: st) σ r ↔ if x = y then Rn sc d 173 31 L st σ r else Rn sc d 173 29 L st σ r := r_icmp_eq d173_26 rfl
theorem d173_29 : decode (mC 173) 29 = .ok (.iload_n 1, 1) := by decide +kernel
theorem x173_29 {sc : aSc} {d : Nat} {r : aRes} {a0 : Value} {x1 : Int32} {st : List Value} {σ : aS} : Rn sc d 173 29 [a0, .int x1] st σ r ↔ Rn sc d 173 30 [a0, .int x1] (.int x1 :: st) σ r := r_iload_n d173_29 rfl
theorem d173_30 : decode (mC 173) 30 = .ok (.ireturn, 1) := by decide +kernel
theorem x173_30 {sc : aSc} {d : Nat} {r : aRes} {L : List Value} {σ : aS} {x : Int32} : Rn sc d 173 30 L [.int x] σ r ↔ r = (σ, some (.int x)) := r_iret d173_30 rfl rfl
theorem d173_31 : decode (mC 173) 31 = .ok (.iinc 1 1, 3) := by decide +kernel
theorem x173_31 {sc : aSc} {d : Nat} {r : aRes} {x0 : Nat} {x1 : Int32} {st : List Value} {σ : aS} : Rn sc d 173 31 [.ref x0, .int x1] st σ r ↔ Rn sc d 173 34 [.ref x0, .int (x1 + 1)] st σ r := r_iinc d173_31 (Nat.le_of_ble_eq_true rfl) rfl rfl (by decide)
theorem d173_34 : decode (mC 173) 34 = .ok (.goto (-32), 3) := by decide +kernel
theorem x173_34 {sc : aSc} {d : Nat} {r : aRes} {L : List Value} {st : List Value} {σ : aS} : Rn sc d 173 34 L st σ r ↔ Rn sc d 173 2 L st σ r := r_goto d173_34 rfl
theorem d173_37 : decode (mC 173) 37 = .ok (.bipush (-5), 2) := by decide +kernel
theorem x173_37 {sc : aSc} {d : Nat} {r : aRes} {L : List Value} {st : List Value} {σ : aS} : Rn sc d 173 37 L st σ r ↔ Rn sc d 173 39 L (.int (-5) :: st) σ r := r_bipush d173_37 (by decide)
theorem d173_39 : decode (mC 173) 39 = .ok (.ireturn, 1) := by decide +kernel
theorem x173_39 {sc : aSc} {d : Nat} {r : aRes} {L : List Value} {σ : aS} {x : Int32} : Rn sc d 173 39 L [.int x] σ r ↔ r = (σ, some (.int x)) := r_iret d173_39 rfl rfl
theorem d174_0 : decode (mC 174) 0 = .ok (.aload_n 0, 1) := by decide +kernel
theorem x174_0 {sc : aSc} {d : Nat} {r : aRes} {x0 : Nat} {a1 : Value} {a2 : Value} {a3 : Value} {st : List Value} {σ : aS} : Rn sc d 174 0 [.ref x0, a1, a2, a3] st σ r ↔ Rn sc d 174 1 [.ref x0, a1, a2, a3] (.ref x0 :: st) σ r := r_aload_n d174_0 rfl
theorem d174_1 : decode (mC 174) 1 = .ok (.iload_n 1, 1) := by decide +kernel
theorem x174_1 {sc : aSc} {d : Nat} {r : aRes} {a0 : Value} {x1 : Int32} {a2 : Value} {a3 : Value} {st : List Value} {σ : aS} : Rn sc d 174 1 [a0, .int x1, a2, a3] st σ r ↔ Rn sc d 174 2 [a0, .int x1, a2, a3] (.int x1 :: st) σ r := r_iload_n d174_1 rfl
theorem d174_2 : decode (mC 174) 2 = .ok (.invokevirtual 363, 3) := by decide +kernel
theorem x174_2 {sc : aSc} {d : Nat} {r : aRes} {L : List Value} {f : Nat → Nat → Int32} {g : Nat → Nat → Int64} {h1 h2 : Nat} {y0 : Int32}  {o : Nat} (hK : KK[o]? = some (.inl 7)) : Rn sc d 174 2 L [.int y0, .ref o] (cS f g h1 h2) r ↔ ∃ (σ3 : aS) (v : Option Value), Cl sc d 189 [.ref o, .int y0] (cS f g h1 h2) (σ3, v) ∧ Rn sc d 174 5 L (v.toList ++ []) σ3 r := r_callV (vs := [.int y0]) d174_2 (j := 189) (by decide +kernel) ⟨rfl, by decide, rfl, rfl⟩ (Nat.le_of_ble_eq_true rfl) hK
theorem d174_5 : decode (mC 174) 5 = .ok (.ifCond .ne 5, 3) := by decide +kernel
theorem x174_5 {sc : aSc} {d : Nat} {r : aRes} {L : List Value} {st : List Value} {σ : aS} {x : Int32} : Rn sc d 174 5 L (.int x :: st) σ r ↔ if x = 0 then Rn sc d 174 8 L st σ r else Rn sc d 174 10 L st σ r := r_if_ne d174_5 rfl
theorem d174_8 : decode (mC 174) 8 = .ok (.iconst (-1), 1) := by decide +kernel
theorem x174_8 {sc : aSc} {d : Nat} {r : aRes} {L : List Value} {st : List Value} {σ : aS} : Rn sc d 174 8 L st σ r ↔ Rn sc d 174 9 L (.int (-1) :: st) σ r := r_iconst d174_8 (by decide)
theorem d174_9 : decode (mC 174) 9 = .ok (.ireturn, 1) := by decide +kernel
theorem x174_9 {sc : aSc} {d : Nat} {r : aRes} {L : List Value} {σ : aS} {x : Int32} : Rn sc d 174 9 L [.int x] σ r ↔ r = (σ, some (.int x)) := r_iret d174_9 rfl rfl
theorem d174_10 : decode (mC 174) 10 = .ok (.aload_n 0, 1) := by decide +kernel
theorem x174_10 {sc : aSc} {d : Nat} {r : aRes} {x0 : Nat} {a1 : Value} {a2 : Value} {a3 : Value} {st : List Value} {σ : aS} : Rn sc d 174 10 [.ref x0, a1, a2, a3] st σ r ↔ Rn sc d 174 11 [.ref x0, a1, a2, a3] (.ref x0 :: st) σ r := r_aload_n d174_10 rfl
theorem d174_11 : decode (mC 174) 11 = .ok (.getfield 214, 3) := by decide +kernel
theorem x174_11 {sc : aSc} {d : Nat} {r : aRes} {L : List Value} {st : List Value} {f : Nat → Nat → Int32} {g : Nat → Nat → Int64} {h1 h2 : Nat} {o : Nat} (hK : KK[o]? = some (.inl 7)) (hR : (RR h1 h2 o 67).isSome = true) : Rn sc d 174 11 L (.ref o :: st) (cS f g h1 h2) r ↔ Rn sc d 174 14 L (.ref (rf h1 h2 o 67) :: st) (cS f g h1 h2) r := r_getR2 d174_11 (ci := 7) (k := 67) (by decide +kernel) (by decide +kernel) (fun _ => rfl) hK hR
theorem d174_14 : decode (mC 174) 14 = .ok (.iload_n 1, 1) := by decide +kernel
theorem x174_14 {sc : aSc} {d : Nat} {r : aRes} {a0 : Value} {x1 : Int32} {a2 : Value} {a3 : Value} {st : List Value} {σ : aS} : Rn sc d 174 14 [a0, .int x1, a2, a3] st σ r ↔ Rn sc d 174 15 [a0, .int x1, a2, a3] (.int x1 :: st) σ r := r_iload_n d174_14 rfl
theorem d174_15 : decode (mC 174) 15 = .ok (.iaload, 1) := by decide +kernel
theorem x174_15 {sc : aSc} {d : Nat} {r : aRes} {L : List Value} {st : List Value} {f : Nat → Nat → Int32} {g : Nat → Nat → Int64} {h1 h2 : Nat} {a : Nat} {i : Int32} (h17 : 17 ≤ a) (hA : isT9 .int a) (hi : inb i (aln a) = true) : Rn sc d 174 15 L (.int i :: .ref a :: st) (cS f g h1 h2) r ↔ Rn sc d 174 16 L (.int (f a i.toNatClampNeg) :: st) (cS f g h1 h2) r := r_iald d174_15 h17 hA hi
theorem d174_16 : decode (mC 174) 16 = .ok (.ifCond .le 6, 3) := by decide +kernel
theorem x174_16 {sc : aSc} {d : Nat} {r : aRes} {L : List Value} {st : List Value} {σ : aS} {x : Int32} : Rn sc d 174 16 L (.int x :: st) σ r ↔ if 0 < x then Rn sc d 174 19 L st σ r else Rn sc d 174 22 L st σ r := r_if_le d174_16 rfl
theorem d174_19 : decode (mC 174) 19 = .ok (.bipush (-12), 2) := by decide +kernel
theorem x174_19 {sc : aSc} {d : Nat} {r : aRes} {L : List Value} {st : List Value} {σ : aS} : Rn sc d 174 19 L st σ r ↔ Rn sc d 174 21 L (.int (-12) :: st) σ r := r_bipush d174_19 (by decide)
theorem d174_21 : decode (mC 174) 21 = .ok (.ireturn, 1) := by decide +kernel
theorem x174_21 {sc : aSc} {d : Nat} {r : aRes} {L : List Value} {σ : aS} {x : Int32} : Rn sc d 174 21 L [.int x] σ r ↔ r = (σ, some (.int x)) := r_iret d174_21 rfl rfl
theorem d174_22 : decode (mC 174) 22 = .ok (.iconst 0, 1) := by decide +kernel
theorem x174_22 {sc : aSc} {d : Nat} {r : aRes} {L : List Value} {st : List Value} {σ : aS} : Rn sc d 174 22 L st σ r ↔ Rn sc d 174 23 L (.int 0 :: st) σ r := r_iconst d174_22 (by decide)
theorem d174_23 : decode (mC 174) 23 = .ok (.istore_n 3, 1) := by decide +kernel
theorem x174_23 {sc : aSc} {d : Nat} {r : aRes} {a0 : Value} {a1 : Value} {x2 : Int32} {a3 : Value} {st : List Value} {σ : aS} {y : Int32} : Rn sc d 174 23 [a0, a1, .int x2, a3] (.int y :: st) σ r ↔ Rn sc d 174 24 [a0, a1, .int x2, .int y] st σ r := r_istore_n d174_23 (Nat.le_of_ble_eq_true rfl) rfl
theorem d174_24 : decode (mC 174) 24 = .ok (.iload_n 3, 1) := by decide +kernel
theorem x174_24 {sc : aSc} {d : Nat} {r : aRes} {a0 : Value} {a1 : Value} {a2 : Value} {x3 : Int32} {st : List Value} {σ : aS} : Rn sc d 174 24 [a0, a1, a2, .int x3] st σ r ↔ Rn sc d 174 25 [a0, a1, a2, .int x3] (.int x3 :: st) σ r := r_iload_n d174_24 rfl
theorem d174_25 : decode (mC 174) 25 = .ok (.aload_n 0, 1) := by decide +kernel
theorem x174_25 {sc : aSc} {d : Nat} {r : aRes} {x0 : Nat} {a1 : Value} {a2 : Value} {a3 : Value} {st : List Value} {σ : aS} : Rn sc d 174 25 [.ref x0, a1, a2, a3] st σ r ↔ Rn sc d 174 26 [.ref x0, a1, a2, a3] (.ref x0 :: st) σ r := r_aload_n d174_25 rfl
theorem d174_26 : decode (mC 174) 26 = .ok (.getfield 7, 3) := by decide +kernel
theorem x174_26 {sc : aSc} {d : Nat} {r : aRes} {L : List Value} {st : List Value} {f : Nat → Nat → Int32} {g : Nat → Nat → Int64} {h1 h2 : Nat} {o : Nat} (h17 : 17 ≤ o) (hK : KK[o]? = some (.inl 7)) : Rn sc d 174 26 L (.ref o :: st) (cS f g h1 h2) r ↔ Rn sc d 174 29 L (.int (f o 0) :: st) (cS f g h1 h2) r := r_getI d174_26 (ci := 7) (k := 0) rfl (by decide) (fun _ => rfl) h17 hK
theorem d174_29 : decode (mC 174) 29 = .ok (.if_icmp .ge 69, 3) := by decide +kernel
theorem x174_29 {sc : aSc} {d : Nat} {r : aRes} {L : List Value} {st : List Value} {σ : aS} {x y : Int32} : Rn sc d 174 29 L (.int y :: .int x :: st) σ r ↔ if x < y then Rn sc d 174 32 L st σ r else Rn sc d 174 98 L st σ r := r_icmp_ge d174_29 rfl
theorem d174_32 : decode (mC 174) 32 = .ok (.aload_n 0, 1) := by decide +kernel
theorem x174_32 {sc : aSc} {d : Nat} {r : aRes} {x0 : Nat} {a1 : Value} {a2 : Value} {a3 : Value} {st : List Value} {σ : aS} : Rn sc d 174 32 [.ref x0, a1, a2, a3] st σ r ↔ Rn sc d 174 33 [.ref x0, a1, a2, a3] (.ref x0 :: st) σ r := r_aload_n d174_32 rfl
theorem d174_33 : decode (mC 174) 33 = .ok (.getfield 214, 3) := by decide +kernel
theorem x174_33 {sc : aSc} {d : Nat} {r : aRes} {L : List Value} {st : List Value} {f : Nat → Nat → Int32} {g : Nat → Nat → Int64} {h1 h2 : Nat} {o : Nat} (hK : KK[o]? = some (.inl 7)) (hR : (RR h1 h2 o 67).isSome = true) : Rn sc d 174 33 L (.ref o :: st) (cS f g h1 h2) r ↔ Rn sc d 174 36 L (.ref (rf h1 h2 o 67) :: st) (cS f g h1 h2) r := r_getR2 d174_33 (ci := 7) (k := 67) (by decide +kernel) (by decide +kernel) (fun _ => rfl) hK hR
theorem d174_36 : decode (mC 174) 36 = .ok (.iload_n 1, 1) := by decide +kernel
theorem x174_36 {sc : aSc} {d : Nat} {r : aRes} {a0 : Value} {x1 : Int32} {a2 : Value} {a3 : Value} {st : List Value} {σ : aS} : Rn sc d 174 36 [a0, .int x1, a2, a3] st σ r ↔ Rn sc d 174 37 [a0, .int x1, a2, a3] (.int x1 :: st) σ r := r_iload_n d174_36 rfl
theorem d174_37 : decode (mC 174) 37 = .ok (.iaload, 1) := by decide +kernel
theorem x174_37 {sc : aSc} {d : Nat} {r : aRes} {L : List Value} {st : List Value} {f : Nat → Nat → Int32} {g : Nat → Nat → Int64} {h1 h2 : Nat} {a : Nat} {i : Int32} (h17 : 17 ≤ a) (hA : isT9 .int a) (hi : inb i (aln a) = true) : Rn sc d 174 37 L (.int i :: .ref a :: st) (cS f g h1 h2) r ↔ Rn sc d 174 38 L (.int (f a i.toNatClampNeg) :: st) (cS f g h1 h2) r := r_iald d174_37 h17 hA hi
theorem d174_38 : decode (mC 174) 38 = .ok (.ifCond .lt 21, 3) := by decide +kernel
theorem x174_38 {sc : aSc} {d : Nat} {r : aRes} {L : List Value} {st : List Value} {σ : aS} {x : Int32} : Rn sc d 174 38 L (.int x :: st) σ r ↔ if x < 0 then Rn sc d 174 59 L st σ r else Rn sc d 174 41 L st σ r := r_if_lt d174_38 rfl
theorem d174_41 : decode (mC 174) 41 = .ok (.iload_n 2, 1) := by decide +kernel
theorem x174_41 {sc : aSc} {d : Nat} {r : aRes} {a0 : Value} {a1 : Value} {x2 : Int32} {a3 : Value} {st : List Value} {σ : aS} : Rn sc d 174 41 [a0, a1, .int x2, a3] st σ r ↔ Rn sc d 174 42 [a0, a1, .int x2, a3] (.int x2 :: st) σ r := r_iload_n d174_41 rfl
theorem d174_42 : decode (mC 174) 42 = .ok (.ifCond .lt 17, 3) := by decide +kernel
theorem x174_42 {sc : aSc} {d : Nat} {r : aRes} {L : List Value} {st : List Value} {σ : aS} {x : Int32} : Rn sc d 174 42 L (.int x :: st) σ r ↔ if x < 0 then Rn sc d 174 59 L st σ r else Rn sc d 174 45 L st σ r := r_if_lt d174_42 rfl
theorem d174_45 : decode (mC 174) 45 = .ok (.iload_n 2, 1) := by decide +kernel
theorem x174_45 {sc : aSc} {d : Nat} {r : aRes} {a0 : Value} {a1 : Value} {x2 : Int32} {a3 : Value} {st : List Value} {σ : aS} : Rn sc d 174 45 [a0, a1, .int x2, a3] st σ r ↔ Rn sc d 174 46 [a0, a1, .int x2, a3] (.int x2 :: st) σ r := r_iload_n d174_45 rfl
theorem d174_46 : decode (mC 174) 46 = .ok (.aload_n 0, 1) := by decide +kernel
theorem x174_46 {sc : aSc} {d : Nat} {r : aRes} {x0 : Nat} {a1 : Value} {a2 : Value} {a3 : Value} {st : List Value} {σ : aS} : Rn sc d 174 46 [.ref x0, a1, a2, a3] st σ r ↔ Rn sc d 174 47 [.ref x0, a1, a2, a3] (.ref x0 :: st) σ r := r_aload_n d174_46 rfl
theorem d174_47 : decode (mC 174) 47 = .ok (.getfield 217, 3) := by decide +kernel
theorem x174_47 {sc : aSc} {d : Nat} {r : aRes} {L : List Value} {st : List Value} {f : Nat → Nat → Int32} {g : Nat → Nat → Int64} {h1 h2 : Nat} {o : Nat} (hK : KK[o]? = some (.inl 7)) (hR : (RR h1 h2 o 68).isSome = true) : Rn sc d 174 47 L (.ref o :: st) (cS f g h1 h2) r ↔ Rn sc d 174 50 L (.ref (rf h1 h2 o 68) :: st) (cS f g h1 h2) r := r_getR2 d174_47 (ci := 7) (k := 68) (by decide +kernel) (by decide +kernel) (fun _ => rfl) hK hR
theorem d174_50 : decode (mC 174) 50 = .ok (.iload_n 1, 1) := by decide +kernel
theorem x174_50 {sc : aSc} {d : Nat} {r : aRes} {a0 : Value} {x1 : Int32} {a2 : Value} {a3 : Value} {st : List Value} {σ : aS} : Rn sc d 174 50 [a0, .int x1, a2, a3] st σ r ↔ Rn sc d 174 51 [a0, .int x1, a2, a3] (.int x1 :: st) σ r := r_iload_n d174_50 rfl
theorem d174_51 : decode (mC 174) 51 = .ok (.iaload, 1) := by decide +kernel
theorem x174_51 {sc : aSc} {d : Nat} {r : aRes} {L : List Value} {st : List Value} {f : Nat → Nat → Int32} {g : Nat → Nat → Int64} {h1 h2 : Nat} {a : Nat} {i : Int32} (h17 : 17 ≤ a) (hA : isT9 .int a) (hi : inb i (aln a) = true) : Rn sc d 174 51 L (.int i :: .ref a :: st) (cS f g h1 h2) r ↔ Rn sc d 174 52 L (.int (f a i.toNatClampNeg) :: st) (cS f g h1 h2) r := r_iald d174_51 h17 hA hi
theorem d174_52 : decode (mC 174) 52 = .ok (.iload_n 3, 1) := by decide +kernel
theorem x174_52 {sc : aSc} {d : Nat} {r : aRes} {a0 : Value} {a1 : Value} {a2 : Value} {x3 : Int32} {st : List Value} {σ : aS} : Rn sc d 174 52 [a0, a1, a2, .int x3] st σ r ↔ Rn sc d 174 53 [a0, a1, a2, .int x3] (.int x3 :: st) σ r := r_iload_n d174_52 rfl
theorem d174_53 : decode (mC 174) 53 = .ok (.isub, 1) := by decide +kernel
theorem x174_53 {sc : aSc} {d : Nat} {r : aRes} {L : List Value} {st : List Value} {σ : aS} {x y : Int32} : Rn sc d 174 53 L (.int y :: .int x :: st) σ r ↔ Rn sc d 174 54 L (.int (x - y) :: st) σ r := r_isub d174_53
theorem d174_54 : decode (mC 174) 54 = .ok (.iconst 1, 1) := by decide +kernel
theorem x174_54 {sc : aSc} {d : Nat} {r : aRes} {L : List Value} {st : List Value} {σ : aS} : Rn sc d 174 54 L st σ r ↔ Rn sc d 174 55 L (.int 1 :: st) σ r := r_iconst d174_54 (by decide)
theorem d174_55 : decode (mC 174) 55 = .ok (.isub, 1) := by decide +kernel
theorem x174_55 {sc : aSc} {d : Nat} {r : aRes} {L : List Value} {st : List Value} {σ : aS} {x y : Int32} : Rn sc d 174 55 L (.int y :: .int x :: st) σ r ↔ Rn sc d 174 56 L (.int (x - y) :: st) σ r := r_isub d174_55
theorem d174_56 : decode (mC 174) 56 = .ok (.if_icmp .le 8, 3) := by decide +kernel
theorem x174_56 {sc : aSc} {d : Nat} {r : aRes} {L : List Value} {st : List Value} {σ : aS} {x y : Int32} : Rn sc d 174 56 L (.int y :: .int x :: st) σ r ↔ if y < x then Rn sc d 174 59 L st σ r else Rn sc d 174 64 L st σ r := r_icmp_le d174_56 rfl
theorem d174_59 : decode (mC 174) 59 = .ok (.bipush 100, 2) := by decide +kernel
theorem x174_59 {sc : aSc} {d : Nat} {r : aRes} {L : List Value} {st : List Value} {σ : aS} : Rn sc d 174 59 L st σ r ↔ Rn sc d 174 61 L (.int 100 :: st) σ r := r_bipush d174_59 (by decide)
theorem d174_61 : decode (mC 174) 61 = .ok (.iload_n 3, 1) := by decide +kernel
theorem x174_61 {sc : aSc} {d : Nat} {r : aRes} {a0 : Value} {a1 : Value} {a2 : Value} {x3 : Int32} {st : List Value} {σ : aS} : Rn sc d 174 61 [a0, a1, a2, .int x3] st σ r ↔ Rn sc d 174 62 [a0, a1, a2, .int x3] (.int x3 :: st) σ r := r_iload_n d174_61 rfl
theorem d174_62 : decode (mC 174) 62 = .ok (.iadd, 1) := by decide +kernel
theorem x174_62 {sc : aSc} {d : Nat} {r : aRes} {L : List Value} {st : List Value} {σ : aS} {x y : Int32} : Rn sc d 174 62 L (.int y :: .int x :: st) σ r ↔ Rn sc d 174 63 L (.int (x + y) :: st) σ r := r_iadd d174_62
theorem d174_63 : decode (mC 174) 63 = .ok (.ireturn, 1) := by decide +kernel
theorem x174_63 {sc : aSc} {d : Nat} {r : aRes} {L : List Value} {σ : aS} {x : Int32} : Rn sc d 174 63 L [.int x] σ r ↔ r = (σ, some (.int x)) := r_iret d174_63 rfl rfl
theorem d174_64 : decode (mC 174) 64 = .ok (.aload_n 0, 1) := by decide +kernel
theorem x174_64 {sc : aSc} {d : Nat} {r : aRes} {x0 : Nat} {a1 : Value} {a2 : Value} {a3 : Value} {st : List Value} {σ : aS} : Rn sc d 174 64 [.ref x0, a1, a2, a3] st σ r ↔ Rn sc d 174 65 [.ref x0, a1, a2, a3] (.ref x0 :: st) σ r := r_aload_n d174_64 rfl
theorem d174_65 : decode (mC 174) 65 = .ok (.getfield 220, 3) := by decide +kernel
theorem x174_65 {sc : aSc} {d : Nat} {r : aRes} {L : List Value} {st : List Value} {f : Nat → Nat → Int32} {g : Nat → Nat → Int64} {h1 h2 : Nat} {o : Nat} (hK : KK[o]? = some (.inl 7)) (hR : (RR h1 h2 o 69).isSome = true) : Rn sc d 174 65 L (.ref o :: st) (cS f g h1 h2) r ↔ Rn sc d 174 68 L (.ref (rf h1 h2 o 69) :: st) (cS f g h1 h2) r := r_getR2 d174_65 (ci := 7) (k := 69) (by decide +kernel) (by decide +kernel) (fun _ => rfl) hK hR
theorem d174_68 : decode (mC 174) 68 = .ok (.bipush 60, 2) := by decide +kernel
theorem x174_68 {sc : aSc} {d : Nat} {r : aRes} {L : List Value} {st : List Value} {σ : aS} : Rn sc d 174 68 L st σ r ↔ Rn sc d 174 70 L (.int 60 :: st) σ r := r_bipush d174_68 (by decide)
theorem d174_70 : decode (mC 174) 70 = .ok (.iload_n 1, 1) := by decide +kernel
theorem x174_70 {sc : aSc} {d : Nat} {r : aRes} {a0 : Value} {x1 : Int32} {a2 : Value} {a3 : Value} {st : List Value} {σ : aS} : Rn sc d 174 70 [a0, .int x1, a2, a3] st σ r ↔ Rn sc d 174 71 [a0, .int x1, a2, a3] (.int x1 :: st) σ r := r_iload_n d174_70 rfl
theorem d174_71 : decode (mC 174) 71 = .ok (.imul, 1) := by decide +kernel
theorem x174_71 {sc : aSc} {d : Nat} {r : aRes} {L : List Value} {st : List Value} {σ : aS} {x y : Int32} : Rn sc d 174 71 L (.int y :: .int x :: st) σ r ↔ Rn sc d 174 72 L (.int (x * y) :: st) σ r := r_imul d174_71
theorem d174_72 : decode (mC 174) 72 = .ok (.iload_n 2, 1) := by decide +kernel
theorem x174_72 {sc : aSc} {d : Nat} {r : aRes} {a0 : Value} {a1 : Value} {x2 : Int32} {a3 : Value} {st : List Value} {σ : aS} : Rn sc d 174 72 [a0, a1, .int x2, a3] st σ r ↔ Rn sc d 174 73 [a0, a1, .int x2, a3] (.int x2 :: st) σ r := r_iload_n d174_72 rfl
theorem d174_73 : decode (mC 174) 73 = .ok (.iadd, 1) := by decide +kernel
theorem x174_73 {sc : aSc} {d : Nat} {r : aRes} {L : List Value} {st : List Value} {σ : aS} {x y : Int32} : Rn sc d 174 73 L (.int y :: .int x :: st) σ r ↔ Rn sc d 174 74 L (.int (x + y) :: st) σ r := r_iadd d174_73
theorem d174_74 : decode (mC 174) 74 = .ok (.iload_n 3, 1) := by decide +kernel
theorem x174_74 {sc : aSc} {d : Nat} {r : aRes} {a0 : Value} {a1 : Value} {a2 : Value} {x3 : Int32} {st : List Value} {σ : aS} : Rn sc d 174 74 [a0, a1, a2, .int x3] st σ r ↔ Rn sc d 174 75 [a0, a1, a2, .int x3] (.int x3 :: st) σ r := r_iload_n d174_74 rfl
theorem d174_75 : decode (mC 174) 75 = .ok (.iadd, 1) := by decide +kernel
theorem x174_75 {sc : aSc} {d : Nat} {r : aRes} {L : List Value} {st : List Value} {σ : aS} {x y : Int32} : Rn sc d 174 75 L (.int y :: .int x :: st) σ r ↔ Rn sc d 174 76 L (.int (x + y) :: st) σ r := r_iadd d174_75
theorem d174_76 : decode (mC 174) 76 = .ok (.laload, 1) := by decide +kernel
theorem x174_76 {sc : aSc} {d : Nat} {r : aRes} {L : List Value} {st : List Value} {f : Nat → Nat → Int32} {g : Nat → Nat → Int64} {h1 h2 : Nat} {a : Nat} {i : Int32} (h17 : 17 ≤ a) (hA : isT9 .long a) (hi : inb i (aln a) = true) : Rn sc d 174 76 L (.int i :: .ref a :: st) (cS f g h1 h2) r ↔ Rn sc d 174 77 L (.long (g a i.toNatClampNeg) :: st) (cS f g h1 h2) r := r_lald d174_76 h17 hA hi
theorem d174_77 : decode (mC 174) 77 = .ok (.aload_n 0, 1) := by decide +kernel
theorem x174_77 {sc : aSc} {d : Nat} {r : aRes} {x0 : Nat} {a1 : Value} {a2 : Value} {a3 : Value} {st : List Value} {σ : aS} : Rn sc d 174 77 [.ref x0, a1, a2, a3] st σ r ↔ Rn sc d 174 78 [.ref x0, a1, a2, a3] (.ref x0 :: st) σ r := r_aload_n d174_77 rfl
theorem d174_78 : decode (mC 174) 78 = .ok (.getfield 13, 3) := by decide +kernel
theorem x174_78 {sc : aSc} {d : Nat} {r : aRes} {L : List Value} {st : List Value} {f : Nat → Nat → Int32} {g : Nat → Nat → Int64} {h1 h2 : Nat} {o : Nat} (h17 : 17 ≤ o) (hK : KK[o]? = some (.inl 7)) : Rn sc d 174 78 L (.ref o :: st) (cS f g h1 h2) r ↔ Rn sc d 174 81 L (.int (f o 1) :: st) (cS f g h1 h2) r := r_getI d174_78 (ci := 7) (k := 1) rfl (by decide) (fun _ => rfl) h17 hK
theorem d174_81 : decode (mC 174) 81 = .ok (.iload_n 3, 1) := by decide +kernel
theorem x174_81 {sc : aSc} {d : Nat} {r : aRes} {a0 : Value} {a1 : Value} {a2 : Value} {x3 : Int32} {st : List Value} {σ : aS} : Rn sc d 174 81 [a0, a1, a2, .int x3] st σ r ↔ Rn sc d 174 82 [a0, a1, a2, .int x3] (.int x3 :: st) σ r := r_iload_n d174_81 rfl
theorem d174_82 : decode (mC 174) 82 = .ok (.ishr, 1) := by decide +kernel
theorem x174_82 {sc : aSc} {d : Nat} {r : aRes} {L : List Value} {st : List Value} {σ : aS} {x y : Int32} : Rn sc d 174 82 L (.int y :: .int x :: st) σ r ↔ Rn sc d 174 83 L (.int (x >>> (y &&& 31)) :: st) σ r := r_ishr d174_82
theorem d174_83 : decode (mC 174) 83 = .ok (.iconst 1, 1) := by decide +kernel
theorem x174_83 {sc : aSc} {d : Nat} {r : aRes} {L : List Value} {st : List Value} {σ : aS} : Rn sc d 174 83 L st σ r ↔ Rn sc d 174 84 L (.int 1 :: st) σ r := r_iconst d174_83 (by decide)
theorem d174_84 : decode (mC 174) 84 = .ok (.iand, 1) := by decide +kernel
theorem x174_84 {sc : aSc} {d : Nat} {r : aRes} {L : List Value} {st : List Value} {σ : aS} {x y : Int32} : Rn sc d 174 84 L (.int y :: .int x :: st) σ r ↔ Rn sc d 174 85 L (.int (x &&& y) :: st) σ r := r_iand d174_84
theorem d174_85 : decode (mC 174) 85 = .ok (.i2l, 1) := by decide +kernel
theorem x174_85 {sc : aSc} {d : Nat} {r : aRes} {L : List Value} {st : List Value} {σ : aS} {x : Int32} : Rn sc d 174 85 L (.int x :: st) σ r ↔ Rn sc d 174 86 L (.long x.toInt64 :: st) σ r := r_i2l d174_85
theorem d174_86 : decode (mC 174) 86 = .ok (.lcmp, 1) := by decide +kernel
theorem x174_86 {sc : aSc} {d : Nat} {r : aRes} {L : List Value} {st : List Value} {σ : aS} {x y : Int64} : Rn sc d 174 86 L (.long y :: .long x :: st) σ r ↔ Rn sc d 174 87 L (.int (lg_cmp x y) :: st) σ r := r_lcmp d174_86
theorem d174_87 : decode (mC 174) 87 = .ok (.ifCond .eq 5, 3) := by decide +kernel
theorem x174_87 {sc : aSc} {d : Nat} {r : aRes} {L : List Value} {st : List Value} {σ : aS} {x : Int32} : Rn sc d 174 87 L (.int x :: st) σ r ↔ if x = 0 then Rn sc d 174 92 L st σ r else Rn sc d 174 90 L st σ r := r_if_eq d174_87 rfl
theorem d174_90 : decode (mC 174) 90 = .ok (.iload_n 3, 1) := by decide +kernel
theorem x174_90 {sc : aSc} {d : Nat} {r : aRes} {a0 : Value} {a1 : Value} {a2 : Value} {x3 : Int32} {st : List Value} {σ : aS} : Rn sc d 174 90 [a0, a1, a2, .int x3] st σ r ↔ Rn sc d 174 91 [a0, a1, a2, .int x3] (.int x3 :: st) σ r := r_iload_n d174_90 rfl
theorem d174_91 : decode (mC 174) 91 = .ok (.ireturn, 1) := by decide +kernel
theorem x174_91 {sc : aSc} {d : Nat} {r : aRes} {L : List Value} {σ : aS} {x : Int32} : Rn sc d 174 91 L [.int x] σ r ↔ r = (σ, some (.int x)) := r_iret d174_91 rfl rfl
theorem d174_92 : decode (mC 174) 92 = .ok (.iinc 3 1, 3) := by decide +kernel
theorem x174_92 {sc : aSc} {d : Nat} {r : aRes} {a0 : Value} {a1 : Value} {x2 : Int32} {x3 : Int32} {st : List Value} {σ : aS} : Rn sc d 174 92 [a0, a1, .int x2, .int x3] st σ r ↔ Rn sc d 174 95 [a0, a1, .int x2, .int (x3 + 1)] st σ r := r_iinc d174_92 (Nat.le_of_ble_eq_true rfl) rfl rfl (by decide)
theorem d174_95 : decode (mC 174) 95 = .ok (.goto (-71), 3) := by decide +kernel
theorem x174_95 {sc : aSc} {d : Nat} {r : aRes} {L : List Value} {st : List Value} {σ : aS} : Rn sc d 174 95 L st σ r ↔ Rn sc d 174 24 L st σ r := r_goto d174_95 rfl
theorem d174_98 : decode (mC 174) 98 = .ok (.bipush (-5), 2) := by decide +kernel
theorem x174_98 {sc : aSc} {d : Nat} {r : aRes} {L : List Value} {st : List Value} {σ : aS} : Rn sc d 174 98 L st σ r ↔ Rn sc d 174 100 L (.int (-5) :: st) σ r := r_bipush d174_98 (by decide)
theorem d174_100 : decode (mC 174) 100 = .ok (.ireturn, 1) := by decide +kernel
theorem x174_100 {sc : aSc} {d : Nat} {r : aRes} {L : List Value} {σ : aS} {x : Int32} : Rn sc d 174 100 L [.int x] σ r ↔ r = (σ, some (.int x)) := r_iret d174_100 rfl rfl
theorem d175_0 : decode (mC 175) 0 = .ok (.aload_n 0, 1) := by decide +kernel
theorem x175_0 {sc : aSc} {d : Nat} {r : aRes} {x0 : Nat} {a1 : Value} {st : List Value} {σ : aS} : Rn sc d 175 0 [.ref x0, a1] st σ r ↔ Rn sc d 175 1 [.ref x0, a1] (.ref x0 :: st) σ r := r_aload_n d175_0 rfl
theorem d175_1 : decode (mC 175) 1 = .ok (.iconst 1, 1) := by decide +kernel
theorem x175_1 {sc : aSc} {d : Nat} {r : aRes} {L : List Value} {st : List Value} {σ : aS} : Rn sc d 175 1 L st σ r ↔ Rn sc d 175 2 L (.int 1 :: st) σ r := r_iconst d175_1 (by decide)
theorem d175_2 : decode (mC 175) 2 = .ok (.putfield 150, 3) := by decide +kernel
theorem x175_2 {sc : aSc} {d : Nat} {r : aRes} {L : List Value} {st : List Value} {f : Nat → Nat → Int32} {g : Nat → Nat → Int64} {h1 h2 : Nat} {o : Nat} (h17 : 17 ≤ o) (hK : KK[o]? = some (.inl 7)) : Rn sc d 175 2 L (.int 1 :: .ref o :: st) (cS f g h1 h2) r ↔ Rn sc d 175 5 L st (cS (u2 f o 46 1) g h1 h2) r := r_putZ d175_2 (ci := 7) (k := 46) (by decide +kernel) (by decide +kernel) h17 hK rfl
theorem d175_5 : decode (mC 175) 5 = .ok (.aload_n 0, 1) := by decide +kernel
theorem x175_5 {sc : aSc} {d : Nat} {r : aRes} {x0 : Nat} {a1 : Value} {st : List Value} {σ : aS} : Rn sc d 175 5 [.ref x0, a1] st σ r ↔ Rn sc d 175 6 [.ref x0, a1] (.ref x0 :: st) σ r := r_aload_n d175_5 rfl
theorem d175_6 : decode (mC 175) 6 = .ok (.aload_n 0, 1) := by decide +kernel
theorem x175_6 {sc : aSc} {d : Nat} {r : aRes} {x0 : Nat} {a1 : Value} {st : List Value} {σ : aS} : Rn sc d 175 6 [.ref x0, a1] st σ r ↔ Rn sc d 175 7 [.ref x0, a1] (.ref x0 :: st) σ r := r_aload_n d175_6 rfl
theorem d175_7 : decode (mC 175) 7 = .ok (.getfield 47, 3) := by decide +kernel
theorem x175_7 {sc : aSc} {d : Nat} {r : aRes} {L : List Value} {st : List Value} {f : Nat → Nat → Int32} {g : Nat → Nat → Int64} {h1 h2 : Nat} {o : Nat} (h17 : 17 ≤ o) (hK : KK[o]? = some (.inl 7)) : Rn sc d 175 7 L (.ref o :: st) (cS f g h1 h2) r ↔ Rn sc d 175 10 L (.int (f o 12) :: st) (cS f g h1 h2) r := r_getI d175_7 (ci := 7) (k := 12) rfl (by decide) (fun _ => rfl) h17 hK
theorem d175_10 : decode (mC 175) 10 = .ok (.putfield 154, 3) := by decide +kernel
theorem x175_10 {sc : aSc} {d : Nat} {r : aRes} {L : List Value} {st : List Value} {f : Nat → Nat → Int32} {g : Nat → Nat → Int64} {h1 h2 : Nat} {o : Nat} {v : Int32} (h17 : 17 ≤ o) (hK : KK[o]? = some (.inl 7)) : Rn sc d 175 10 L (.int v :: .ref o :: st) (cS f g h1 h2) r ↔ Rn sc d 175 13 L st (cS (u2 f o 47 v) g h1 h2) r := r_putI d175_10 (ci := 7) (k := 47) (by decide +kernel) (by decide +kernel) h17 hK
theorem d175_13 : decode (mC 175) 13 = .ok (.aload_n 0, 1) := by decide +kernel
theorem x175_13 {sc : aSc} {d : Nat} {r : aRes} {x0 : Nat} {a1 : Value} {st : List Value} {σ : aS} : Rn sc d 175 13 [.ref x0, a1] st σ r ↔ Rn sc d 175 14 [.ref x0, a1] (.ref x0 :: st) σ r := r_aload_n d175_13 rfl
theorem d175_14 : decode (mC 175) 14 = .ok (.aload_n 0, 1) := by decide +kernel
theorem x175_14 {sc : aSc} {d : Nat} {r : aRes} {x0 : Nat} {a1 : Value} {st : List Value} {σ : aS} : Rn sc d 175 14 [.ref x0, a1] st σ r ↔ Rn sc d 175 15 [.ref x0, a1] (.ref x0 :: st) σ r := r_aload_n d175_14 rfl
theorem d175_15 : decode (mC 175) 15 = .ok (.getfield 7, 3) := by decide +kernel
theorem x175_15 {sc : aSc} {d : Nat} {r : aRes} {L : List Value} {st : List Value} {f : Nat → Nat → Int32} {g : Nat → Nat → Int64} {h1 h2 : Nat} {o : Nat} (h17 : 17 ≤ o) (hK : KK[o]? = some (.inl 7)) : Rn sc d 175 15 L (.ref o :: st) (cS f g h1 h2) r ↔ Rn sc d 175 18 L (.int (f o 0) :: st) (cS f g h1 h2) r := r_getI d175_15 (ci := 7) (k := 0) rfl (by decide) (fun _ => rfl) h17 hK
theorem d175_18 : decode (mC 175) 18 = .ok (.putfield 157, 3) := by decide +kernel
theorem x175_18 {sc : aSc} {d : Nat} {r : aRes} {L : List Value} {st : List Value} {f : Nat → Nat → Int32} {g : Nat → Nat → Int64} {h1 h2 : Nat} {o : Nat} {v : Int32} (h17 : 17 ≤ o) (hK : KK[o]? = some (.inl 7)) : Rn sc d 175 18 L (.int v :: .ref o :: st) (cS f g h1 h2) r ↔ Rn sc d 175 21 L st (cS (u2 f o 48 v) g h1 h2) r := r_putI d175_18 (ci := 7) (k := 48) (by decide +kernel) (by decide +kernel) h17 hK
theorem d175_21 : decode (mC 175) 21 = .ok (.aload_n 0, 1) := by decide +kernel
theorem x175_21 {sc : aSc} {d : Nat} {r : aRes} {x0 : Nat} {a1 : Value} {st : List Value} {σ : aS} : Rn sc d 175 21 [.ref x0, a1] st σ r ↔ Rn sc d 175 22 [.ref x0, a1] (.ref x0 :: st) σ r := r_aload_n d175_21 rfl
theorem d175_22 : decode (mC 175) 22 = .ok (.aload_n 0, 1) := by decide +kernel
theorem x175_22 {sc : aSc} {d : Nat} {r : aRes} {x0 : Nat} {a1 : Value} {st : List Value} {σ : aS} : Rn sc d 175 22 [.ref x0, a1] st σ r ↔ Rn sc d 175 23 [.ref x0, a1] (.ref x0 :: st) σ r := r_aload_n d175_22 rfl
theorem d175_23 : decode (mC 175) 23 = .ok (.getfield 13, 3) := by decide +kernel
theorem x175_23 {sc : aSc} {d : Nat} {r : aRes} {L : List Value} {st : List Value} {f : Nat → Nat → Int32} {g : Nat → Nat → Int64} {h1 h2 : Nat} {o : Nat} (h17 : 17 ≤ o) (hK : KK[o]? = some (.inl 7)) : Rn sc d 175 23 L (.ref o :: st) (cS f g h1 h2) r ↔ Rn sc d 175 26 L (.int (f o 1) :: st) (cS f g h1 h2) r := r_getI d175_23 (ci := 7) (k := 1) rfl (by decide) (fun _ => rfl) h17 hK
theorem d175_26 : decode (mC 175) 26 = .ok (.putfield 160, 3) := by decide +kernel
theorem x175_26 {sc : aSc} {d : Nat} {r : aRes} {L : List Value} {st : List Value} {f : Nat → Nat → Int32} {g : Nat → Nat → Int64} {h1 h2 : Nat} {o : Nat} {v : Int32} (h17 : 17 ≤ o) (hK : KK[o]? = some (.inl 7)) : Rn sc d 175 26 L (.int v :: .ref o :: st) (cS f g h1 h2) r ↔ Rn sc d 175 29 L st (cS (u2 f o 49 v) g h1 h2) r := r_putI d175_26 (ci := 7) (k := 49) (by decide +kernel) (by decide +kernel) h17 hK
theorem d175_29 : decode (mC 175) 29 = .ok (.aload_n 0, 1) := by decide +kernel
theorem x175_29 {sc : aSc} {d : Nat} {r : aRes} {x0 : Nat} {a1 : Value} {st : List Value} {σ : aS} : Rn sc d 175 29 [.ref x0, a1] st σ r ↔ Rn sc d 175 30 [.ref x0, a1] (.ref x0 :: st) σ r := r_aload_n d175_29 rfl
theorem d175_30 : decode (mC 175) 30 = .ok (.aload_n 0, 1) := by decide +kernel
theorem x175_30 {sc : aSc} {d : Nat} {r : aRes} {x0 : Nat} {a1 : Value} {st : List Value} {σ : aS} : Rn sc d 175 30 [.ref x0, a1] st σ r ↔ Rn sc d 175 31 [.ref x0, a1] (.ref x0 :: st) σ r := r_aload_n d175_30 rfl
theorem d175_31 : decode (mC 175) 31 = .ok (.getfield 16, 3) := by decide +kernel
theorem x175_31 {sc : aSc} {d : Nat} {r : aRes} {L : List Value} {st : List Value} {f : Nat → Nat → Int32} {g : Nat → Nat → Int64} {h1 h2 : Nat} {o : Nat} (h17 : 17 ≤ o) (hK : KK[o]? = some (.inl 7)) : Rn sc d 175 31 L (.ref o :: st) (cS f g h1 h2) r ↔ Rn sc d 175 34 L (.int (f o 2) :: st) (cS f g h1 h2) r := r_getI d175_31 (ci := 7) (k := 2) rfl (by decide) (fun _ => rfl) h17 hK
theorem d175_34 : decode (mC 175) 34 = .ok (.putfield 163, 3) := by decide +kernel
theorem x175_34 {sc : aSc} {d : Nat} {r : aRes} {L : List Value} {st : List Value} {f : Nat → Nat → Int32} {g : Nat → Nat → Int64} {h1 h2 : Nat} {o : Nat} {v : Int32} (h17 : 17 ≤ o) (hK : KK[o]? = some (.inl 7)) : Rn sc d 175 34 L (.int v :: .ref o :: st) (cS f g h1 h2) r ↔ Rn sc d 175 37 L st (cS (u2 f o 50 v) g h1 h2) r := r_putI d175_34 (ci := 7) (k := 50) (by decide +kernel) (by decide +kernel) h17 hK
theorem d175_37 : decode (mC 175) 37 = .ok (.aload_n 0, 1) := by decide +kernel
theorem x175_37 {sc : aSc} {d : Nat} {r : aRes} {x0 : Nat} {a1 : Value} {st : List Value} {σ : aS} : Rn sc d 175 37 [.ref x0, a1] st σ r ↔ Rn sc d 175 38 [.ref x0, a1] (.ref x0 :: st) σ r := r_aload_n d175_37 rfl
theorem d175_38 : decode (mC 175) 38 = .ok (.aload_n 0, 1) := by decide +kernel
theorem x175_38 {sc : aSc} {d : Nat} {r : aRes} {x0 : Nat} {a1 : Value} {st : List Value} {σ : aS} : Rn sc d 175 38 [.ref x0, a1] st σ r ↔ Rn sc d 175 39 [.ref x0, a1] (.ref x0 :: st) σ r := r_aload_n d175_38 rfl
theorem d175_39 : decode (mC 175) 39 = .ok (.getfield 19, 3) := by decide +kernel
theorem x175_39 {sc : aSc} {d : Nat} {r : aRes} {L : List Value} {st : List Value} {f : Nat → Nat → Int32} {g : Nat → Nat → Int64} {h1 h2 : Nat} {o : Nat} (h17 : 17 ≤ o) (hK : KK[o]? = some (.inl 7)) : Rn sc d 175 39 L (.ref o :: st) (cS f g h1 h2) r ↔ Rn sc d 175 42 L (.int (f o 3) :: st) (cS f g h1 h2) r := r_getI d175_39 (ci := 7) (k := 3) rfl (by decide) (fun _ => rfl) h17 hK
theorem d175_42 : decode (mC 175) 42 = .ok (.putfield 166, 3) := by decide +kernel
theorem x175_42 {sc : aSc} {d : Nat} {r : aRes} {L : List Value} {st : List Value} {f : Nat → Nat → Int32} {g : Nat → Nat → Int64} {h1 h2 : Nat} {o : Nat} {v : Int32} (h17 : 17 ≤ o) (hK : KK[o]? = some (.inl 7)) : Rn sc d 175 42 L (.int v :: .ref o :: st) (cS f g h1 h2) r ↔ Rn sc d 175 45 L st (cS (u2 f o 51 v) g h1 h2) r := r_putI d175_42 (ci := 7) (k := 51) (by decide +kernel) (by decide +kernel) h17 hK
theorem d175_45 : decode (mC 175) 45 = .ok (.aload_n 0, 1) := by decide +kernel
theorem x175_45 {sc : aSc} {d : Nat} {r : aRes} {x0 : Nat} {a1 : Value} {st : List Value} {σ : aS} : Rn sc d 175 45 [.ref x0, a1] st σ r ↔ Rn sc d 175 46 [.ref x0, a1] (.ref x0 :: st) σ r := r_aload_n d175_45 rfl
theorem d175_46 : decode (mC 175) 46 = .ok (.aload_n 0, 1) := by decide +kernel
theorem x175_46 {sc : aSc} {d : Nat} {r : aRes} {x0 : Nat} {a1 : Value} {st : List Value} {σ : aS} : Rn sc d 175 46 [.ref x0, a1] st σ r ↔ Rn sc d 175 47 [.ref x0, a1] (.ref x0 :: st) σ r := r_aload_n d175_46 rfl
theorem d175_47 : decode (mC 175) 47 = .ok (.getfield 123, 3) := by decide +kernel
theorem x175_47 {sc : aSc} {d : Nat} {r : aRes} {L : List Value} {st : List Value} {f : Nat → Nat → Int32} {g : Nat → Nat → Int64} {h1 h2 : Nat} {o : Nat} (h17 : 17 ≤ o) (hK : KK[o]? = some (.inl 7)) : Rn sc d 175 47 L (.ref o :: st) (cS f g h1 h2) r ↔ Rn sc d 175 50 L (.int (f o 37) :: st) (cS f g h1 h2) r := r_getI d175_47 (ci := 7) (k := 37) (by decide +kernel) (by decide +kernel) (fun _ => rfl) h17 hK
theorem d175_50 : decode (mC 175) 50 = .ok (.putfield 169, 3) := by decide +kernel
theorem x175_50 {sc : aSc} {d : Nat} {r : aRes} {L : List Value} {st : List Value} {f : Nat → Nat → Int32} {g : Nat → Nat → Int64} {h1 h2 : Nat} {o : Nat} {v : Int32} (h17 : 17 ≤ o) (hK : KK[o]? = some (.inl 7)) : Rn sc d 175 50 L (.int v :: .ref o :: st) (cS f g h1 h2) r ↔ Rn sc d 175 53 L st (cS (u2 f o 52 v) g h1 h2) r := r_putI d175_50 (ci := 7) (k := 52) (by decide +kernel) (by decide +kernel) h17 hK
theorem d175_53 : decode (mC 175) 53 = .ok (.aload_n 0, 1) := by decide +kernel
theorem x175_53 {sc : aSc} {d : Nat} {r : aRes} {x0 : Nat} {a1 : Value} {st : List Value} {σ : aS} : Rn sc d 175 53 [.ref x0, a1] st σ r ↔ Rn sc d 175 54 [.ref x0, a1] (.ref x0 :: st) σ r := r_aload_n d175_53 rfl
theorem d175_54 : decode (mC 175) 54 = .ok (.aload_n 0, 1) := by decide +kernel
theorem x175_54 {sc : aSc} {d : Nat} {r : aRes} {x0 : Nat} {a1 : Value} {st : List Value} {σ : aS} : Rn sc d 175 54 [.ref x0, a1] st σ r ↔ Rn sc d 175 55 [.ref x0, a1] (.ref x0 :: st) σ r := r_aload_n d175_54 rfl
theorem d175_55 : decode (mC 175) 55 = .ok (.getfield 132, 3) := by decide +kernel
theorem x175_55 {sc : aSc} {d : Nat} {r : aRes} {L : List Value} {st : List Value} {f : Nat → Nat → Int32} {g : Nat → Nat → Int64} {h1 h2 : Nat} {o : Nat} (h17 : 17 ≤ o) (hK : KK[o]? = some (.inl 7)) : Rn sc d 175 55 L (.ref o :: st) (cS f g h1 h2) r ↔ Rn sc d 175 58 L (.int (f o 40) :: st) (cS f g h1 h2) r := r_getI d175_55 (ci := 7) (k := 40) (by decide +kernel) (by decide +kernel) (fun _ => rfl) h17 hK
theorem d175_58 : decode (mC 175) 58 = .ok (.putfield 172, 3) := by decide +kernel
theorem x175_58 {sc : aSc} {d : Nat} {r : aRes} {L : List Value} {st : List Value} {f : Nat → Nat → Int32} {g : Nat → Nat → Int64} {h1 h2 : Nat} {o : Nat} {v : Int32} (h17 : 17 ≤ o) (hK : KK[o]? = some (.inl 7)) : Rn sc d 175 58 L (.int v :: .ref o :: st) (cS f g h1 h2) r ↔ Rn sc d 175 61 L st (cS (u2 f o 53 v) g h1 h2) r := r_putI d175_58 (ci := 7) (k := 53) (by decide +kernel) (by decide +kernel) h17 hK
theorem d175_61 : decode (mC 175) 61 = .ok (.aload_n 0, 1) := by decide +kernel
theorem x175_61 {sc : aSc} {d : Nat} {r : aRes} {x0 : Nat} {a1 : Value} {st : List Value} {σ : aS} : Rn sc d 175 61 [.ref x0, a1] st σ r ↔ Rn sc d 175 62 [.ref x0, a1] (.ref x0 :: st) σ r := r_aload_n d175_61 rfl
theorem d175_62 : decode (mC 175) 62 = .ok (.aload_n 0, 1) := by decide +kernel
theorem x175_62 {sc : aSc} {d : Nat} {r : aRes} {x0 : Nat} {a1 : Value} {st : List Value} {σ : aS} : Rn sc d 175 62 [.ref x0, a1] st σ r ↔ Rn sc d 175 63 [.ref x0, a1] (.ref x0 :: st) σ r := r_aload_n d175_62 rfl
theorem d175_63 : decode (mC 175) 63 = .ok (.getfield 141, 3) := by decide +kernel
theorem x175_63 {sc : aSc} {d : Nat} {r : aRes} {L : List Value} {st : List Value} {f : Nat → Nat → Int32} {g : Nat → Nat → Int64} {h1 h2 : Nat} {o : Nat} (h17 : 17 ≤ o) (hK : KK[o]? = some (.inl 7)) : Rn sc d 175 63 L (.ref o :: st) (cS f g h1 h2) r ↔ Rn sc d 175 66 L (.int (f o 43) :: st) (cS f g h1 h2) r := r_getI d175_63 (ci := 7) (k := 43) (by decide +kernel) (by decide +kernel) (fun _ => rfl) h17 hK
theorem d175_66 : decode (mC 175) 66 = .ok (.putfield 175, 3) := by decide +kernel
theorem x175_66 {sc : aSc} {d : Nat} {r : aRes} {L : List Value} {st : List Value} {f : Nat → Nat → Int32} {g : Nat → Nat → Int64} {h1 h2 : Nat} {o : Nat} {v : Int32} (h17 : 17 ≤ o) (hK : KK[o]? = some (.inl 7)) : Rn sc d 175 66 L (.int v :: .ref o :: st) (cS f g h1 h2) r ↔ Rn sc d 175 69 L st (cS (u2 f o 54 v) g h1 h2) r := r_putI d175_66 (ci := 7) (k := 54) (by decide +kernel) (by decide +kernel) h17 hK
theorem d175_69 : decode (mC 175) 69 = .ok (.iconst 0, 1) := by decide +kernel
theorem x175_69 {sc : aSc} {d : Nat} {r : aRes} {L : List Value} {st : List Value} {σ : aS} : Rn sc d 175 69 L st σ r ↔ Rn sc d 175 70 L (.int 0 :: st) σ r := r_iconst d175_69 (by decide)
theorem d175_70 : decode (mC 175) 70 = .ok (.istore_n 1, 1) := by decide +kernel
theorem x175_70 {sc : aSc} {d : Nat} {r : aRes} {x0 : Nat} {a1 : Value} {st : List Value} {σ : aS} {y : Int32} : Rn sc d 175 70 [.ref x0, a1] (.int y :: st) σ r ↔ Rn sc d 175 71 [.ref x0, .int y] st σ r := r_istore_n d175_70 (Nat.le_of_ble_eq_true rfl) rfl
theorem d175_71 : decode (mC 175) 71 = .ok (.iload_n 1, 1) := by decide +kernel
theorem x175_71 {sc : aSc} {d : Nat} {r : aRes} {a0 : Value} {x1 : Int32} {st : List Value} {σ : aS} : Rn sc d 175 71 [a0, .int x1] st σ r ↔ Rn sc d 175 72 [a0, .int x1] (.int x1 :: st) σ r := r_iload_n d175_71 rfl
theorem d175_72 : decode (mC 175) 72 = .ok (.bipush 7, 2) := by decide +kernel
theorem x175_72 {sc : aSc} {d : Nat} {r : aRes} {L : List Value} {st : List Value} {σ : aS} : Rn sc d 175 72 L st σ r ↔ Rn sc d 175 74 L (.int 7 :: st) σ r := r_bipush d175_72 (by decide)
theorem d175_74 : decode (mC 175) 74 = .ok (.if_icmp .ge 69, 3) := by decide +kernel
theorem x175_74 {sc : aSc} {d : Nat} {r : aRes} {L : List Value} {st : List Value} {σ : aS} {x y : Int32} : Rn sc d 175 74 L (.int y :: .int x :: st) σ r ↔ if x < y then Rn sc d 175 77 L st σ r else Rn sc d 175 143 L st σ r := r_icmp_ge d175_74 rfl
theorem d175_77 : decode (mC 175) 77 = .ok (.aload_n 0, 1) := by decide +kernel
theorem x175_77 {sc : aSc} {d : Nat} {r : aRes} {x0 : Nat} {a1 : Value} {st : List Value} {σ : aS} : Rn sc d 175 77 [.ref x0, a1] st σ r ↔ Rn sc d 175 78 [.ref x0, a1] (.ref x0 :: st) σ r := r_aload_n d175_77 rfl
theorem d175_78 : decode (mC 175) 78 = .ok (.getfield 178, 3) := by decide +kernel
theorem x175_78 {sc : aSc} {d : Nat} {r : aRes} {L : List Value} {st : List Value} {f : Nat → Nat → Int32} {g : Nat → Nat → Int64} {h1 h2 : Nat} {o : Nat} (hK : KK[o]? = some (.inl 7)) (hR : (RR h1 h2 o 55).isSome = true) : Rn sc d 175 78 L (.ref o :: st) (cS f g h1 h2) r ↔ Rn sc d 175 81 L (.ref (rf h1 h2 o 55) :: st) (cS f g h1 h2) r := r_getR2 d175_78 (ci := 7) (k := 55) (by decide +kernel) (by decide +kernel) (fun _ => rfl) hK hR
theorem d175_81 : decode (mC 175) 81 = .ok (.iload_n 1, 1) := by decide +kernel
theorem x175_81 {sc : aSc} {d : Nat} {r : aRes} {a0 : Value} {x1 : Int32} {st : List Value} {σ : aS} : Rn sc d 175 81 [a0, .int x1] st σ r ↔ Rn sc d 175 82 [a0, .int x1] (.int x1 :: st) σ r := r_iload_n d175_81 rfl
theorem d175_82 : decode (mC 175) 82 = .ok (.aload_n 0, 1) := by decide +kernel
theorem x175_82 {sc : aSc} {d : Nat} {r : aRes} {x0 : Nat} {a1 : Value} {st : List Value} {σ : aS} : Rn sc d 175 82 [.ref x0, a1] st σ r ↔ Rn sc d 175 83 [.ref x0, a1] (.ref x0 :: st) σ r := r_aload_n d175_82 rfl
theorem d175_83 : decode (mC 175) 83 = .ok (.getfield 25, 3) := by decide +kernel
theorem x175_83 {sc : aSc} {d : Nat} {r : aRes} {L : List Value} {st : List Value} {f : Nat → Nat → Int32} {g : Nat → Nat → Int64} {h1 h2 : Nat} {o : Nat} (hK : KK[o]? = some (.inl 7)) (hR : (RR h1 h2 o 5).isSome = true) : Rn sc d 175 83 L (.ref o :: st) (cS f g h1 h2) r ↔ Rn sc d 175 86 L (.ref (rf h1 h2 o 5) :: st) (cS f g h1 h2) r := r_getR2 d175_83 (ci := 7) (k := 5) rfl (by decide) (fun _ => rfl) hK hR
theorem d175_86 : decode (mC 175) 86 = .ok (.iload_n 1, 1) := by decide +kernel
theorem x175_86 {sc : aSc} {d : Nat} {r : aRes} {a0 : Value} {x1 : Int32} {st : List Value} {σ : aS} : Rn sc d 175 86 [a0, .int x1] st σ r ↔ Rn sc d 175 87 [a0, .int x1] (.int x1 :: st) σ r := r_iload_n d175_86 rfl
theorem d175_87 : decode (mC 175) 87 = .ok (.iaload, 1) := by decide +kernel
theorem x175_87 {sc : aSc} {d : Nat} {r : aRes} {L : List Value} {st : List Value} {f : Nat → Nat → Int32} {g : Nat → Nat → Int64} {h1 h2 : Nat} {a : Nat} {i : Int32} (h17 : 17 ≤ a) (hA : isT9 .int a) (hi : inb i (aln a) = true) : Rn sc d 175 87 L (.int i :: .ref a :: st) (cS f g h1 h2) r ↔ Rn sc d 175 88 L (.int (f a i.toNatClampNeg) :: st) (cS f g h1 h2) r := r_iald d175_87 h17 hA hi
theorem d175_88 : decode (mC 175) 88 = .ok (.iastore, 1) := by decide +kernel
theorem x175_88 {sc : aSc} {d : Nat} {r : aRes} {L : List Value} {st : List Value} {f : Nat → Nat → Int32} {g : Nat → Nat → Int64} {h1 h2 : Nat} {a : Nat} {i : Int32} {x : Int32} (h17 : 17 ≤ a) (hA : isT9 .int a) (hi : inb i (aln a) = true) : Rn sc d 175 88 L (.int x :: .int i :: .ref a :: st) (cS f g h1 h2) r ↔ Rn sc d 175 89 L st (cS (u2 f a i.toNatClampNeg x) g h1 h2) r := r_iast d175_88 h17 hA hi
theorem d175_89 : decode (mC 175) 89 = .ok (.aload_n 0, 1) := by decide +kernel
theorem x175_89 {sc : aSc} {d : Nat} {r : aRes} {x0 : Nat} {a1 : Value} {st : List Value} {σ : aS} : Rn sc d 175 89 [.ref x0, a1] st σ r ↔ Rn sc d 175 90 [.ref x0, a1] (.ref x0 :: st) σ r := r_aload_n d175_89 rfl
theorem d175_90 : decode (mC 175) 90 = .ok (.getfield 181, 3) := by decide +kernel
theorem x175_90 {sc : aSc} {d : Nat} {r : aRes} {L : List Value} {st : List Value} {f : Nat → Nat → Int32} {g : Nat → Nat → Int64} {h1 h2 : Nat} {o : Nat} (hK : KK[o]? = some (.inl 7)) (hR : (RR h1 h2 o 56).isSome = true) : Rn sc d 175 90 L (.ref o :: st) (cS f g h1 h2) r ↔ Rn sc d 175 93 L (.ref (rf h1 h2 o 56) :: st) (cS f g h1 h2) r := r_getR2 d175_90 (ci := 7) (k := 56) (by decide +kernel) (by decide +kernel) (fun _ => rfl) hK hR
theorem d175_93 : decode (mC 175) 93 = .ok (.iload_n 1, 1) := by decide +kernel
theorem x175_93 {sc : aSc} {d : Nat} {r : aRes} {a0 : Value} {x1 : Int32} {st : List Value} {σ : aS} : Rn sc d 175 93 [a0, .int x1] st σ r ↔ Rn sc d 175 94 [a0, .int x1] (.int x1 :: st) σ r := r_iload_n d175_93 rfl
theorem d175_94 : decode (mC 175) 94 = .ok (.aload_n 0, 1) := by decide +kernel
theorem x175_94 {sc : aSc} {d : Nat} {r : aRes} {x0 : Nat} {a1 : Value} {st : List Value} {σ : aS} : Rn sc d 175 94 [.ref x0, a1] st σ r ↔ Rn sc d 175 95 [.ref x0, a1] (.ref x0 :: st) σ r := r_aload_n d175_94 rfl
theorem d175_95 : decode (mC 175) 95 = .ok (.getfield 29, 3) := by decide +kernel
theorem x175_95 {sc : aSc} {d : Nat} {r : aRes} {L : List Value} {st : List Value} {f : Nat → Nat → Int32} {g : Nat → Nat → Int64} {h1 h2 : Nat} {o : Nat} (hK : KK[o]? = some (.inl 7)) (hR : (RR h1 h2 o 6).isSome = true) : Rn sc d 175 95 L (.ref o :: st) (cS f g h1 h2) r ↔ Rn sc d 175 98 L (.ref (rf h1 h2 o 6) :: st) (cS f g h1 h2) r := r_getR2 d175_95 (ci := 7) (k := 6) rfl (by decide) (fun _ => rfl) hK hR
theorem d175_98 : decode (mC 175) 98 = .ok (.iload_n 1, 1) := by decide +kernel
theorem x175_98 {sc : aSc} {d : Nat} {r : aRes} {a0 : Value} {x1 : Int32} {st : List Value} {σ : aS} : Rn sc d 175 98 [a0, .int x1] st σ r ↔ Rn sc d 175 99 [a0, .int x1] (.int x1 :: st) σ r := r_iload_n d175_98 rfl
theorem d175_99 : decode (mC 175) 99 = .ok (.iaload, 1) := by decide +kernel
theorem x175_99 {sc : aSc} {d : Nat} {r : aRes} {L : List Value} {st : List Value} {f : Nat → Nat → Int32} {g : Nat → Nat → Int64} {h1 h2 : Nat} {a : Nat} {i : Int32} (h17 : 17 ≤ a) (hA : isT9 .int a) (hi : inb i (aln a) = true) : Rn sc d 175 99 L (.int i :: .ref a :: st) (cS f g h1 h2) r ↔ Rn sc d 175 100 L (.int (f a i.toNatClampNeg) :: st) (cS f g h1 h2) r := r_iald d175_99 h17 hA hi
theorem d175_100 : decode (mC 175) 100 = .ok (.iastore, 1) := by decide +kernel
theorem x175_100 {sc : aSc} {d : Nat} {r : aRes} {L : List Value} {st : List Value} {f : Nat → Nat → Int32} {g : Nat → Nat → Int64} {h1 h2 : Nat} {a : Nat} {i : Int32} {x : Int32} (h17 : 17 ≤ a) (hA : isT9 .int a) (hi : inb i (aln a) = true) : Rn sc d 175 100 L (.int x :: .int i :: .ref a :: st) (cS f g h1 h2) r ↔ Rn sc d 175 101 L st (cS (u2 f a i.toNatClampNeg x) g h1 h2) r := r_iast d175_100 h17 hA hi
theorem d175_101 : decode (mC 175) 101 = .ok (.aload_n 0, 1) := by decide +kernel
theorem x175_101 {sc : aSc} {d : Nat} {r : aRes} {x0 : Nat} {a1 : Value} {st : List Value} {σ : aS} : Rn sc d 175 101 [.ref x0, a1] st σ r ↔ Rn sc d 175 102 [.ref x0, a1] (.ref x0 :: st) σ r := r_aload_n d175_101 rfl
theorem d175_102 : decode (mC 175) 102 = .ok (.getfield 184, 3) := by decide +kernel
theorem x175_102 {sc : aSc} {d : Nat} {r : aRes} {L : List Value} {st : List Value} {f : Nat → Nat → Int32} {g : Nat → Nat → Int64} {h1 h2 : Nat} {o : Nat} (hK : KK[o]? = some (.inl 7)) (hR : (RR h1 h2 o 57).isSome = true) : Rn sc d 175 102 L (.ref o :: st) (cS f g h1 h2) r ↔ Rn sc d 175 105 L (.ref (rf h1 h2 o 57) :: st) (cS f g h1 h2) r := r_getR2 d175_102 (ci := 7) (k := 57) (by decide +kernel) (by decide +kernel) (fun _ => rfl) hK hR
theorem d175_105 : decode (mC 175) 105 = .ok (.iload_n 1, 1) := by decide +kernel
theorem x175_105 {sc : aSc} {d : Nat} {r : aRes} {a0 : Value} {x1 : Int32} {st : List Value} {σ : aS} : Rn sc d 175 105 [a0, .int x1] st σ r ↔ Rn sc d 175 106 [a0, .int x1] (.int x1 :: st) σ r := r_iload_n d175_105 rfl
theorem d175_106 : decode (mC 175) 106 = .ok (.aload_n 0, 1) := by decide +kernel
theorem x175_106 {sc : aSc} {d : Nat} {r : aRes} {x0 : Nat} {a1 : Value} {st : List Value} {σ : aS} : Rn sc d 175 106 [.ref x0, a1] st σ r ↔ Rn sc d 175 107 [.ref x0, a1] (.ref x0 :: st) σ r := r_aload_n d175_106 rfl
theorem d175_107 : decode (mC 175) 107 = .ok (.getfield 32, 3) := by decide +kernel
theorem x175_107 {sc : aSc} {d : Nat} {r : aRes} {L : List Value} {st : List Value} {f : Nat → Nat → Int32} {g : Nat → Nat → Int64} {h1 h2 : Nat} {o : Nat} (hK : KK[o]? = some (.inl 7)) (hR : (RR h1 h2 o 7).isSome = true) : Rn sc d 175 107 L (.ref o :: st) (cS f g h1 h2) r ↔ Rn sc d 175 110 L (.ref (rf h1 h2 o 7) :: st) (cS f g h1 h2) r := r_getR2 d175_107 (ci := 7) (k := 7) rfl (by decide) (fun _ => rfl) hK hR
theorem d175_110 : decode (mC 175) 110 = .ok (.iload_n 1, 1) := by decide +kernel
theorem x175_110 {sc : aSc} {d : Nat} {r : aRes} {a0 : Value} {x1 : Int32} {st : List Value} {σ : aS} : Rn sc d 175 110 [a0, .int x1] st σ r ↔ Rn sc d 175 111 [a0, .int x1] (.int x1 :: st) σ r := r_iload_n d175_110 rfl
theorem d175_111 : decode (mC 175) 111 = .ok (.iaload, 1) := by decide +kernel
theorem x175_111 {sc : aSc} {d : Nat} {r : aRes} {L : List Value} {st : List Value} {f : Nat → Nat → Int32} {g : Nat → Nat → Int64} {h1 h2 : Nat} {a : Nat} {i : Int32} (h17 : 17 ≤ a) (hA : isT9 .int a) (hi : inb i (aln a) = true) : Rn sc d 175 111 L (.int i :: .ref a :: st) (cS f g h1 h2) r ↔ Rn sc d 175 112 L (.int (f a i.toNatClampNeg) :: st) (cS f g h1 h2) r := r_iald d175_111 h17 hA hi
theorem d175_112 : decode (mC 175) 112 = .ok (.iastore, 1) := by decide +kernel
theorem x175_112 {sc : aSc} {d : Nat} {r : aRes} {L : List Value} {st : List Value} {f : Nat → Nat → Int32} {g : Nat → Nat → Int64} {h1 h2 : Nat} {a : Nat} {i : Int32} {x : Int32} (h17 : 17 ≤ a) (hA : isT9 .int a) (hi : inb i (aln a) = true) : Rn sc d 175 112 L (.int x :: .int i :: .ref a :: st) (cS f g h1 h2) r ↔ Rn sc d 175 113 L st (cS (u2 f a i.toNatClampNeg x) g h1 h2) r := r_iast d175_112 h17 hA hi
theorem d175_113 : decode (mC 175) 113 = .ok (.aload_n 0, 1) := by decide +kernel
theorem x175_113 {sc : aSc} {d : Nat} {r : aRes} {x0 : Nat} {a1 : Value} {st : List Value} {σ : aS} : Rn sc d 175 113 [.ref x0, a1] st σ r ↔ Rn sc d 175 114 [.ref x0, a1] (.ref x0 :: st) σ r := r_aload_n d175_113 rfl
theorem d175_114 : decode (mC 175) 114 = .ok (.getfield 187, 3) := by decide +kernel
theorem x175_114 {sc : aSc} {d : Nat} {r : aRes} {L : List Value} {st : List Value} {f : Nat → Nat → Int32} {g : Nat → Nat → Int64} {h1 h2 : Nat} {o : Nat} (hK : KK[o]? = some (.inl 7)) (hR : (RR h1 h2 o 58).isSome = true) : Rn sc d 175 114 L (.ref o :: st) (cS f g h1 h2) r ↔ Rn sc d 175 117 L (.ref (rf h1 h2 o 58) :: st) (cS f g h1 h2) r := r_getR2 d175_114 (ci := 7) (k := 58) (by decide +kernel) (by decide +kernel) (fun _ => rfl) hK hR
theorem d175_117 : decode (mC 175) 117 = .ok (.iload_n 1, 1) := by decide +kernel
theorem x175_117 {sc : aSc} {d : Nat} {r : aRes} {a0 : Value} {x1 : Int32} {st : List Value} {σ : aS} : Rn sc d 175 117 [a0, .int x1] st σ r ↔ Rn sc d 175 118 [a0, .int x1] (.int x1 :: st) σ r := r_iload_n d175_117 rfl
theorem d175_118 : decode (mC 175) 118 = .ok (.aload_n 0, 1) := by decide +kernel
theorem x175_118 {sc : aSc} {d : Nat} {r : aRes} {x0 : Nat} {a1 : Value} {st : List Value} {σ : aS} : Rn sc d 175 118 [.ref x0, a1] st σ r ↔ Rn sc d 175 119 [.ref x0, a1] (.ref x0 :: st) σ r := r_aload_n d175_118 rfl
theorem d175_119 : decode (mC 175) 119 = .ok (.getfield 35, 3) := by decide +kernel
theorem x175_119 {sc : aSc} {d : Nat} {r : aRes} {L : List Value} {st : List Value} {f : Nat → Nat → Int32} {g : Nat → Nat → Int64} {h1 h2 : Nat} {o : Nat} (hK : KK[o]? = some (.inl 7)) (hR : (RR h1 h2 o 8).isSome = true) : Rn sc d 175 119 L (.ref o :: st) (cS f g h1 h2) r ↔ Rn sc d 175 122 L (.ref (rf h1 h2 o 8) :: st) (cS f g h1 h2) r := r_getR2 d175_119 (ci := 7) (k := 8) rfl (by decide) (fun _ => rfl) hK hR
theorem d175_122 : decode (mC 175) 122 = .ok (.iload_n 1, 1) := by decide +kernel
theorem x175_122 {sc : aSc} {d : Nat} {r : aRes} {a0 : Value} {x1 : Int32} {st : List Value} {σ : aS} : Rn sc d 175 122 [a0, .int x1] st σ r ↔ Rn sc d 175 123 [a0, .int x1] (.int x1 :: st) σ r := r_iload_n d175_122 rfl
theorem d175_123 : decode (mC 175) 123 = .ok (.iaload, 1) := by decide +kernel
theorem x175_123 {sc : aSc} {d : Nat} {r : aRes} {L : List Value} {st : List Value} {f : Nat → Nat → Int32} {g : Nat → Nat → Int64} {h1 h2 : Nat} {a : Nat} {i : Int32} (h17 : 17 ≤ a) (hA : isT9 .int a) (hi : inb i (aln a) = true) : Rn sc d 175 123 L (.int i :: .ref a :: st) (cS f g h1 h2) r ↔ Rn sc d 175 124 L (.int (f a i.toNatClampNeg) :: st) (cS f g h1 h2) r := r_iald d175_123 h17 hA hi
theorem d175_124 : decode (mC 175) 124 = .ok (.iastore, 1) := by decide +kernel
theorem x175_124 {sc : aSc} {d : Nat} {r : aRes} {L : List Value} {st : List Value} {f : Nat → Nat → Int32} {g : Nat → Nat → Int64} {h1 h2 : Nat} {a : Nat} {i : Int32} {x : Int32} (h17 : 17 ≤ a) (hA : isT9 .int a) (hi : inb i (aln a) = true) : Rn sc d 175 124 L (.int x :: .int i :: .ref a :: st) (cS f g h1 h2) r ↔ Rn sc d 175 125 L st (cS (u2 f a i.toNatClampNeg x) g h1 h2) r := r_iast d175_124 h17 hA hi
theorem d175_125 : decode (mC 175) 125 = .ok (.aload_n 0, 1) := by decide +kernel
theorem x175_125 {sc : aSc} {d : Nat} {r : aRes} {x0 : Nat} {a1 : Value} {st : List Value} {σ : aS} : Rn sc d 175 125 [.ref x0, a1] st σ r ↔ Rn sc d 175 126 [.ref x0, a1] (.ref x0 :: st) σ r := r_aload_n d175_125 rfl
theorem d175_126 : decode (mC 175) 126 = .ok (.getfield 190, 3) := by decide +kernel
theorem x175_126 {sc : aSc} {d : Nat} {r : aRes} {L : List Value} {st : List Value} {f : Nat → Nat → Int32} {g : Nat → Nat → Int64} {h1 h2 : Nat} {o : Nat} (hK : KK[o]? = some (.inl 7)) (hR : (RR h1 h2 o 59).isSome = true) : Rn sc d 175 126 L (.ref o :: st) (cS f g h1 h2) r ↔ Rn sc d 175 129 L (.ref (rf h1 h2 o 59) :: st) (cS f g h1 h2) r := r_getR2 d175_126 (ci := 7) (k := 59) (by decide +kernel) (by decide +kernel) (fun _ => rfl) hK hR
theorem d175_129 : decode (mC 175) 129 = .ok (.iload_n 1, 1) := by decide +kernel
theorem x175_129 {sc : aSc} {d : Nat} {r : aRes} {a0 : Value} {x1 : Int32} {st : List Value} {σ : aS} : Rn sc d 175 129 [a0, .int x1] st σ r ↔ Rn sc d 175 130 [a0, .int x1] (.int x1 :: st) σ r := r_iload_n d175_129 rfl
theorem d175_130 : decode (mC 175) 130 = .ok (.aload_n 0, 1) := by decide +kernel
theorem x175_130 {sc : aSc} {d : Nat} {r : aRes} {x0 : Nat} {a1 : Value} {st : List Value} {σ : aS} : Rn sc d 175 130 [.ref x0, a1] st σ r ↔ Rn sc d 175 131 [.ref x0, a1] (.ref x0 :: st) σ r := r_aload_n d175_130 rfl
theorem d175_131 : decode (mC 175) 131 = .ok (.getfield 38, 3) := by decide +kernel
theorem x175_131 {sc : aSc} {d : Nat} {r : aRes} {L : List Value} {st : List Value} {f : Nat → Nat → Int32} {g : Nat → Nat → Int64} {h1 h2 : Nat} {o : Nat} (hK : KK[o]? = some (.inl 7)) (hR : (RR h1 h2 o 9).isSome = true) : Rn sc d 175 131 L (.ref o :: st) (cS f g h1 h2) r ↔ Rn sc d 175 134 L (.ref (rf h1 h2 o 9) :: st) (cS f g h1 h2) r := r_getR2 d175_131 (ci := 7) (k := 9) rfl (by decide) (fun _ => rfl) hK hR
theorem d175_134 : decode (mC 175) 134 = .ok (.iload_n 1, 1) := by decide +kernel
theorem x175_134 {sc : aSc} {d : Nat} {r : aRes} {a0 : Value} {x1 : Int32} {st : List Value} {σ : aS} : Rn sc d 175 134 [a0, .int x1] st σ r ↔ Rn sc d 175 135 [a0, .int x1] (.int x1 :: st) σ r := r_iload_n d175_134 rfl
theorem d175_135 : decode (mC 175) 135 = .ok (.iaload, 1) := by decide +kernel
theorem x175_135 {sc : aSc} {d : Nat} {r : aRes} {L : List Value} {st : List Value} {f : Nat → Nat → Int32} {g : Nat → Nat → Int64} {h1 h2 : Nat} {a : Nat} {i : Int32} (h17 : 17 ≤ a) (hA : isT9 .int a) (hi : inb i (aln a) = true) : Rn sc d 175 135 L (.int i :: .ref a :: st) (cS f g h1 h2) r ↔ Rn sc d 175 136 L (.int (f a i.toNatClampNeg) :: st) (cS f g h1 h2) r := r_iald d175_135 h17 hA hi
theorem d175_136 : decode (mC 175) 136 = .ok (.iastore, 1) := by decide +kernel
theorem x175_136 {sc : aSc} {d : Nat} {r : aRes} {L : List Value} {st : List Value} {f : Nat → Nat → Int32} {g : Nat → Nat → Int64} {h1 h2 : Nat} {a : Nat} {i : Int32} {x : Int32} (h17 : 17 ≤ a) (hA : isT9 .int a) (hi : inb i (aln a) = true) : Rn sc d 175 136 L (.int x :: .int i :: .ref a :: st) (cS f g h1 h2) r ↔ Rn sc d 175 137 L st (cS (u2 f a i.toNatClampNeg x) g h1 h2) r := r_iast d175_136 h17 hA hi
theorem d175_137 : decode (mC 175) 137 = .ok (.iinc 1 1, 3) := by decide +kernel
theorem x175_137 {sc : aSc} {d : Nat} {r : aRes} {x0 : Nat} {x1 : Int32} {st : List Value} {σ : aS} : Rn sc d 175 137 [.ref x0, .int x1] st σ r ↔ Rn sc d 175 140 [.ref x0, .int (x1 + 1)] st σ r := r_iinc d175_137 (Nat.le_of_ble_eq_true rfl) rfl rfl (by decide)
theorem d175_140 : decode (mC 175) 140 = .ok (.goto (-69), 3) := by decide +kernel
theorem x175_140 {sc : aSc} {d : Nat} {r : aRes} {L : List Value} {st : List Value} {σ : aS} : Rn sc d 175 140 L st σ r ↔ Rn sc d 175 71 L st σ r := r_goto d175_140 rfl
theorem d175_143 : decode (mC 175) 143 = .ok (.iconst 0, 1) := by decide +kernel
theorem x175_143 {sc : aSc} {d : Nat} {r : aRes} {L : List Value} {st : List Value} {σ : aS} : Rn sc d 175 143 L st σ r ↔ Rn sc d 175 144 L (.int 0 :: st) σ r := r_iconst d175_143 (by decide)
theorem d175_144 : decode (mC 175) 144 = .ok (.istore_n 1, 1) := by decide +kernel
theorem x175_144 {sc : aSc} {d : Nat} {r : aRes} {x0 : Nat} {a1 : Value} {st : List Value} {σ : aS} {y : Int32} : Rn sc d 175 144 [.ref x0, a1] (.int y :: st) σ r ↔ Rn sc d 175 145 [.ref x0, .int y] st σ r := r_istore_n d175_144 (Nat.le_of_ble_eq_true rfl) rfl
theorem d175_145 : decode (mC 175) 145 = .ok (.iload_n 1, 1) := by decide +kernel
theorem x175_145 {sc : aSc} {d : Nat} {r : aRes} {a0 : Value} {x1 : Int32} {st : List Value} {σ : aS} : Rn sc d 175 145 [a0, .int x1] st σ r ↔ Rn sc d 175 146 [a0, .int x1] (.int x1 :: st) σ r := r_iload_n d175_145 rfl
theorem d175_146 : decode (mC 175) 146 = .ok (.bipush 28, 2) := by decide +kernel
theorem x175_146 {sc : aSc} {d : Nat} {r : aRes} {L : List Value} {st : List Value} {σ : aS} : Rn sc d 175 146 L st σ r ↔ Rn sc d 175 148 L (.int 28 :: st) σ r := r_bipush d175_146 (by decide)
theorem d175_148 : decode (mC 175) 148 = .ok (.if_icmp .ge 21, 3) := by decide +kernel
theorem x175_148 {sc : aSc} {d : Nat} {r : aRes} {L : List Value} {st : List Value} {σ : aS} {x y : Int32} : Rn sc d 175 148 L (.int y :: .int x :: st) σ r ↔ if x < y then Rn sc d 175 151 L st σ r else Rn sc d 175 169 L st σ r := r_icmp_ge d175_148 rfl
theorem d175_151 : decode (mC 175) 151 = .ok (.aload_n 0, 1) := by decide +kernel
theorem x175_151 {sc : aSc} {d : Nat} {r : aRes} {x0 : Nat} {a1 : Value} {st : List Value} {σ : aS} : Rn sc d 175 151 [.ref x0, a1] st σ r ↔ Rn sc d 175 152 [.ref x0, a1] (.ref x0 :: st) σ r := r_aload_n d175_151 rfl
theorem d175_152 : decode (mC 175) 152 = .ok (.getfield 193, 3) := by decide +kernel
theorem x175_152 {sc : aSc} {d : Nat} {r : aRes} {L : List Value} {st : List Value} {f : Nat → Nat → Int32} {g : Nat → Nat → Int64} {h1 h2 : Nat} {o : Nat} (hK : KK[o]? = some (.inl 7)) (hR : (RR h1 h2 o 60).isSome = true) : Rn sc d 175 152 L (.ref o :: st) (cS f g h1 h2) r ↔ Rn sc d 175 155 L (.ref (rf h1 h2 o 60) :: st) (cS f g h1 h2) r := r_getR2 d175_152 (ci := 7) (k := 60) (by decide +kernel) (by decide +kernel) (fun _ => rfl) hK hR
theorem d175_155 : decode (mC 175) 155 = .ok (.iload_n 1, 1) := by decide +kernel
theorem x175_155 {sc : aSc} {d : Nat} {r : aRes} {a0 : Value} {x1 : Int32} {st : List Value} {σ : aS} : Rn sc d 175 155 [a0, .int x1] st σ r ↔ Rn sc d 175 156 [a0, .int x1] (.int x1 :: st) σ r := r_iload_n d175_155 rfl
theorem d175_156 : decode (mC 175) 156 = .ok (.aload_n 0, 1) := by decide +kernel
theorem x175_156 {sc : aSc} {d : Nat} {r : aRes} {x0 : Nat} {a1 : Value} {st : List Value} {σ : aS} : Rn sc d 175 156 [.ref x0, a1] st σ r ↔ Rn sc d 175 157 [.ref x0, a1] (.ref x0 :: st) σ r := r_aload_n d175_156 rfl
theorem d175_157 : decode (mC 175) 157 = .ok (.getfield 41, 3) := by decide +kernel
theorem x175_157 {sc : aSc} {d : Nat} {r : aRes} {L : List Value} {st : List Value} {f : Nat → Nat → Int32} {g : Nat → Nat → Int64} {h1 h2 : Nat} {o : Nat} (hK : KK[o]? = some (.inl 7)) (hR : (RR h1 h2 o 10).isSome = true) : Rn sc d 175 157 L (.ref o :: st) (cS f g h1 h2) r ↔ Rn sc d 175 160 L (.ref (rf h1 h2 o 10) :: st) (cS f g h1 h2) r := r_getR2 d175_157 (ci := 7) (k := 10) rfl (by decide) (fun _ => rfl) hK hR
theorem d175_160 : decode (mC 175) 160 = .ok (.iload_n 1, 1) := by decide +kernel
theorem x175_160 {sc : aSc} {d : Nat} {r : aRes} {a0 : Value} {x1 : Int32} {st : List Value} {σ : aS} : Rn sc d 175 160 [a0, .int x1] st σ r ↔ Rn sc d 175 161 [a0, .int x1] (.int x1 :: st) σ r := r_iload_n d175_160 rfl
theorem d175_161 : decode (mC 175) 161 = .ok (.iaload, 1) := by decide +kernel
theorem x175_161 {sc : aSc} {d : Nat} {r : aRes} {L : List Value} {st : List Value} {f : Nat → Nat → Int32} {g : Nat → Nat → Int64} {h1 h2 : Nat} {a : Nat} {i : Int32} (h17 : 17 ≤ a) (hA : isT9 .int a) (hi : inb i (aln a) = true) : Rn sc d 175 161 L (.int i :: .ref a :: st) (cS f g h1 h2) r ↔ Rn sc d 175 162 L (.int (f a i.toNatClampNeg) :: st) (cS f g h1 h2) r := r_iald d175_161 h17 hA hi
theorem d175_162 : decode (mC 175) 162 = .ok (.iastore, 1) := by decide +kernel
theorem x175_162 {sc : aSc} {d : Nat} {r : aRes} {L : List Value} {st : List Value} {f : Nat → Nat → Int32} {g : Nat → Nat → Int64} {h1 h2 : Nat} {a : Nat} {i : Int32} {x : Int32} (h17 : 17 ≤ a) (hA : isT9 .int a) (hi : inb i (aln a) = true) : Rn sc d 175 162 L (.int x :: .int i :: .ref a :: st) (cS f g h1 h2) r ↔ Rn sc d 175 163 L st (cS (u2 f a i.toNatClampNeg x) g h1 h2) r := r_iast d175_162 h17 hA hi
theorem d175_163 : decode (mC 175) 163 = .ok (.iinc 1 1, 3) := by decide +kernel
theorem x175_163 {sc : aSc} {d : Nat} {r : aRes} {x0 : Nat} {x1 : Int32} {st : List Value} {σ : aS} : Rn sc d 175 163 [.ref x0, .int x1] st σ r ↔ Rn sc d 175 166 [.ref x0, .int (x1 + 1)] st σ r := r_iinc d175_163 (Nat.le_of_ble_eq_true rfl) rfl rfl (by decide)
theorem d175_166 : decode (mC 175) 166 = .ok (.goto (-21), 3) := by decide +kernel
theorem x175_166 {sc : aSc} {d : Nat} {r : aRes} {L : List Value} {st : List Value} {σ : aS} : Rn sc d 175 166 L st σ r ↔ Rn sc d 175 145 L st σ r := r_goto d175_166 rfl
theorem d175_169 : decode (mC 175) 169 = .ok (.iconst 0, 1) := by decide +kernel
theorem x175_169 {sc : aSc} {d : Nat} {r : aRes} {L : List Value} {st : List Value} {σ : aS} : Rn sc d 175 169 L st σ r ↔ Rn sc d 175 170 L (.int 0 :: st) σ r := r_iconst d175_169 (by decide)
theorem d175_170 : decode (mC 175) 170 = .ok (.istore_n 1, 1) := by decide +kernel
theorem x175_170 {sc : aSc} {d : Nat} {r : aRes} {x0 : Nat} {a1 : Value} {st : List Value} {σ : aS} {y : Int32} : Rn sc d 175 170 [.ref x0, a1] (.int y :: st) σ r ↔ Rn sc d 175 171 [.ref x0, .int y] st σ r := r_istore_n d175_170 (Nat.le_of_ble_eq_true rfl) rfl
theorem d175_171 : decode (mC 175) 171 = .ok (.iload_n 1, 1) := by decide +kernel
theorem x175_171 {sc : aSc} {d : Nat} {r : aRes} {a0 : Value} {x1 : Int32} {st : List Value} {σ : aS} : Rn sc d 175 171 [a0, .int x1] st σ r ↔ Rn sc d 175 172 [a0, .int x1] (.int x1 :: st) σ r := r_iload_n d175_171 rfl
theorem d175_172 : decode (mC 175) 172 = .ok (.bipush 12, 2) := by decide +kernel
theorem x175_172 {sc : aSc} {d : Nat} {r : aRes} {L : List Value} {st : List Value} {σ : aS} : Rn sc d 175 172 L st σ r ↔ Rn sc d 175 174 L (.int 12 :: st) σ r := r_bipush d175_172 (by decide)
theorem d175_174 : decode (mC 175) 174 = .ok (.if_icmp .ge 57, 3) := by decide +kernel
theorem x175_174 {sc : aSc} {d : Nat} {r : aRes} {L : List Value} {st : List Value} {σ : aS} {x y : Int32} : Rn sc d 175 174 L (.int y :: .int x :: st) σ r ↔ if x < y then Rn sc d 175 177 L st σ r else Rn sc d 175 231 L st σ r := r_icmp_ge d175_174 rfl
theorem d175_177 : decode (mC 175) 177 = .ok (.aload_n 0, 1) := by decide +kernel
theorem x175_177 {sc : aSc} {d : Nat} {r : aRes} {x0 : Nat} {a1 : Value} {st : List Value} {σ : aS} : Rn sc d 175 177 [.ref x0, a1] st σ r ↔ Rn sc d 175 178 [.ref x0, a1] (.ref x0 :: st) σ r := r_aload_n d175_177 rfl
theorem d175_178 : decode (mC 175) 178 = .ok (.getfield 196, 3) := by decide +kernel
theorem x175_178 {sc : aSc} {d : Nat} {r : aRes} {L : List Value} {st : List Value} {f : Nat → Nat → Int32} {g : Nat → Nat → Int64} {h1 h2 : Nat} {o : Nat} (hK : KK[o]? = some (.inl 7)) (hR : (RR h1 h2 o 61).isSome = true) : Rn sc d 175 178 L (.ref o :: st) (cS f g h1 h2) r ↔ Rn sc d 175 181 L (.ref (rf h1 h2 o 61) :: st) (cS f g h1 h2) r := r_getR2 d175_178 (ci := 7) (k := 61) (by decide +kernel) (by decide +kernel) (fun _ => rfl) hK hR
theorem d175_181 : decode (mC 175) 181 = .ok (.iload_n 1, 1) := by decide +kernel
theorem x175_181 {sc : aSc} {d : Nat} {r : aRes} {a0 : Value} {x1 : Int32} {st : List Value} {σ : aS} : Rn sc d 175 181 [a0, .int x1] st σ r ↔ Rn sc d 175 182 [a0, .int x1] (.int x1 :: st) σ r := r_iload_n d175_181 rfl
theorem d175_182 : decode (mC 175) 182 = .ok (.aload_n 0, 1) := by decide +kernel
theorem x175_182 {sc : aSc} {d : Nat} {r : aRes} {x0 : Nat} {a1 : Value} {st : List Value} {σ : aS} : Rn sc d 175 182 [.ref x0, a1] st σ r ↔ Rn sc d 175 183 [.ref x0, a1] (.ref x0 :: st) σ r := r_aload_n d175_182 rfl
theorem d175_183 : decode (mC 175) 183 = .ok (.getfield 135, 3) := by decide +kernel
theorem x175_183 {sc : aSc} {d : Nat} {r : aRes} {L : List Value} {st : List Value} {f : Nat → Nat → Int32} {g : Nat → Nat → Int64} {h1 h2 : Nat} {o : Nat} (hK : KK[o]? = some (.inl 7)) (hR : (RR h1 h2 o 41).isSome = true) : Rn sc d 175 183 L (.ref o :: st) (cS f g h1 h2) r ↔ Rn sc d 175 186 L (.ref (rf h1 h2 o 41) :: st) (cS f g h1 h2) r := r_getR2 d175_183 (ci := 7) (k := 41) (by decide +kernel) (by decide +kernel) (fun _ => rfl) hK hR
theorem d175_186 : decode (mC 175) 186 = .ok (.iload_n 1, 1) := by decide +kernel
theorem x175_186 {sc : aSc} {d : Nat} {r : aRes} {a0 : Value} {x1 : Int32} {st : List Value} {σ : aS} : Rn sc d 175 186 [a0, .int x1] st σ r ↔ Rn sc d 175 187 [a0, .int x1] (.int x1 :: st) σ r := r_iload_n d175_186 rfl
theorem d175_187 : decode (mC 175) 187 = .ok (.iaload, 1) := by decide +kernel
theorem x175_187 {sc : aSc} {d : Nat} {r : aRes} {L : List Value} {st : List Value} {f : Nat → Nat → Int32} {g : Nat → Nat → Int64} {h1 h2 : Nat} {a : Nat} {i : Int32} (h17 : 17 ≤ a) (hA : isT9 .int a) (hi : inb i (aln a) = true) : Rn sc d 175 187 L (.int i :: .ref a :: st) (cS f g h1 h2) r ↔ Rn sc d 175 188 L (.int (f a i.toNatClampNeg) :: st) (cS f g h1 h2) r := r_iald d175_187 h17 hA hi
theorem d175_188 : decode (mC 175) 188 = .ok (.iastore, 1) := by decide +kernel
theorem x175_188 {sc : aSc} {d : Nat} {r : aRes} {L : List Value} {st : List Value} {f : Nat → Nat → Int32} {g : Nat → Nat → Int64} {h1 h2 : Nat} {a : Nat} {i : Int32} {x : Int32} (h17 : 17 ≤ a) (hA : isT9 .int a) (hi : inb i (aln a) = true) : Rn sc d 175 188 L (.int x :: .int i :: .ref a :: st) (cS f g h1 h2) r ↔ Rn sc d 175 189 L st (cS (u2 f a i.toNatClampNeg x) g h1 h2) r := r_iast d175_188 h17 hA hi
theorem d175_189 : decode (mC 175) 189 = .ok (.aload_n 0, 1) := by decide +kernel
theorem x175_189 {sc : aSc} {d : Nat} {r : aRes} {x0 : Nat} {a1 : Value} {st : List Value} {σ : aS} : Rn sc d 175 189 [.ref x0, a1] st σ r ↔ Rn sc d 175 190 [.ref x0, a1] (.ref x0 :: st) σ r := r_aload_n d175_189 rfl
theorem d175_190 : decode (mC 175) 190 = .ok (.getfield 199, 3) := by decide +kernel
theorem x175_190 {sc : aSc} {d : Nat} {r : aRes} {L : List Value} {st : List Value} {f : Nat → Nat → Int32} {g : Nat → Nat → Int64} {h1 h2 : Nat} {o : Nat} (hK : KK[o]? = some (.inl 7)) (hR : (RR h1 h2 o 62).isSome = true) : Rn sc d 175 190 L (.ref o :: st) (cS f g h1 h2) r ↔ Rn sc d 175 193 L (.ref (rf h1 h2 o 62) :: st) (cS f g h1 h2) r := r_getR2 d175_190 (ci := 7) (k := 62) (by decide +kernel) (by decide +kernel) (fun _ => rfl) hK hR
theorem d175_193 : decode (mC 175) 193 = .ok (.iload_n 1, 1) := by decide +kernel
theorem x175_193 {sc : aSc} {d : Nat} {r : aRes} {a0 : Value} {x1 : Int32} {st : List Value} {σ : aS} : Rn sc d 175 193 [a0, .int x1] st σ r ↔ Rn sc d 175 194 [a0, .int x1] (.int x1 :: st) σ r := r_iload_n d175_193 rfl
theorem d175_194 : decode (mC 175) 194 = .ok (.aload_n 0, 1) := by decide +kernel
theorem x175_194 {sc : aSc} {d : Nat} {r : aRes} {x0 : Nat} {a1 : Value} {st : List Value} {σ : aS} : Rn sc d 175 194 [.ref x0, a1] st σ r ↔ Rn sc d 175 195 [.ref x0, a1] (.ref x0 :: st) σ r := r_aload_n d175_194 rfl
theorem d175_195 : decode (mC 175) 195 = .ok (.getfield 138, 3) := by decide +kernel
theorem x175_195 {sc : aSc} {d : Nat} {r : aRes} {L : List Value} {st : List Value} {f : Nat → Nat → Int32} {g : Nat → Nat → Int64} {h1 h2 : Nat} {o : Nat} (hK : KK[o]? = some (.inl 7)) (hR : (RR h1 h2 o 42).isSome = true) : Rn sc d 175 195 L (.ref o :: st) (cS f g h1 h2) r ↔ Rn sc d 175 198 L (.ref (rf h1 h2 o 42) :: st) (cS f g h1 h2) r := r_getR2 d175_195 (ci := 7) (k := 42) (by decide +kernel) (by decide +kernel) (fun _ => rfl) hK hR
theorem d175_198 : decode (mC 175) 198 = .ok (.iload_n 1, 1) := by decide +kernel
theorem x175_198 {sc : aSc} {d : Nat} {r : aRes} {a0 : Value} {x1 : Int32} {st : List Value} {σ : aS} : Rn sc d 175 198 [a0, .int x1] st σ r ↔ Rn sc d 175 199 [a0, .int x1] (.int x1 :: st) σ r := r_iload_n d175_198 rfl
theorem d175_199 : decode (mC 175) 199 = .ok (.iaload, 1) := by decide +kernel
theorem x175_199 {sc : aSc} {d : Nat} {r : aRes} {L : List Value} {st : List Value} {f : Nat → Nat → Int32} {g : Nat → Nat → Int64} {h1 h2 : Nat} {a : Nat} {i : Int32} (h17 : 17 ≤ a) (hA : isT9 .int a) (hi : inb i (aln a) = true) : Rn sc d 175 199 L (.int i :: .ref a :: st) (cS f g h1 h2) r ↔ Rn sc d 175 200 L (.int (f a i.toNatClampNeg) :: st) (cS f g h1 h2) r := r_iald d175_199 h17 hA hi
theorem d175_200 : decode (mC 175) 200 = .ok (.iastore, 1) := by decide +kernel
theorem x175_200 {sc : aSc} {d : Nat} {r : aRes} {L : List Value} {st : List Value} {f : Nat → Nat → Int32} {g : Nat → Nat → Int64} {h1 h2 : Nat} {a : Nat} {i : Int32} {x : Int32} (h17 : 17 ≤ a) (hA : isT9 .int a) (hi : inb i (aln a) = true) : Rn sc d 175 200 L (.int x :: .int i :: .ref a :: st) (cS f g h1 h2) r ↔ Rn sc d 175 201 L st (cS (u2 f a i.toNatClampNeg x) g h1 h2) r := r_iast d175_200 h17 hA hi
theorem d175_201 : decode (mC 175) 201 = .ok (.aload_n 0, 1) := by decide +kernel
theorem x175_201 {sc : aSc} {d : Nat} {r : aRes} {x0 : Nat} {a1 : Value} {st : List Value} {σ : aS} : Rn sc d 175 201 [.ref x0, a1] st σ r ↔ Rn sc d 175 202 [.ref x0, a1] (.ref x0 :: st) σ r := r_aload_n d175_201 rfl
theorem d175_202 : decode (mC 175) 202 = .ok (.getfield 202, 3) := by decide +kernel
theorem x175_202 {sc : aSc} {d : Nat} {r : aRes} {L : List Value} {st : List Value} {f : Nat → Nat → Int32} {g : Nat → Nat → Int64} {h1 h2 : Nat} {o : Nat} (hK : KK[o]? = some (.inl 7)) (hR : (RR h1 h2 o 63).isSome = true) : Rn sc d 175 202 L (.ref o :: st) (cS f g h1 h2) r ↔ Rn sc d 175 205 L (.ref (rf h1 h2 o 63) :: st) (cS f g h1 h2) r := r_getR2 d175_202 (ci := 7) (k := 63) (by decide +kernel) (by decide +kernel) (fun _ => rfl) hK hR
theorem d175_205 : decode (mC 175) 205 = .ok (.iload_n 1, 1) := by decide +kernel
theorem x175_205 {sc : aSc} {d : Nat} {r : aRes} {a0 : Value} {x1 : Int32} {st : List Value} {σ : aS} : Rn sc d 175 205 [a0, .int x1] st σ r ↔ Rn sc d 175 206 [a0, .int x1] (.int x1 :: st) σ r := r_iload_n d175_205 rfl
theorem d175_206 : decode (mC 175) 206 = .ok (.aload_n 0, 1) := by decide +kernel
theorem x175_206 {sc : aSc} {d : Nat} {r : aRes} {x0 : Nat} {a1 : Value} {st : List Value} {σ : aS} : Rn sc d 175 206 [.ref x0, a1] st σ r ↔ Rn sc d 175 207 [.ref x0, a1] (.ref x0 :: st) σ r := r_aload_n d175_206 rfl
theorem d175_207 : decode (mC 175) 207 = .ok (.getfield 144, 3) := by decide +kernel
theorem x175_207 {sc : aSc} {d : Nat} {r : aRes} {L : List Value} {st : List Value} {f : Nat → Nat → Int32} {g : Nat → Nat → Int64} {h1 h2 : Nat} {o : Nat} (hK : KK[o]? = some (.inl 7)) (hR : (RR h1 h2 o 44).isSome = true) : Rn sc d 175 207 L (.ref o :: st) (cS f g h1 h2) r ↔ Rn sc d 175 210 L (.ref (rf h1 h2 o 44) :: st) (cS f g h1 h2) r := r_getR2 d175_207 (ci := 7) (k := 44) (by decide +kernel) (by decide +kernel) (fun _ => rfl) hK hR
theorem d175_210 : decode (mC 175) 210 = .ok (.iload_n 1, 1) := by decide +kernel
theorem x175_210 {sc : aSc} {d : Nat} {r : aRes} {a0 : Value} {x1 : Int32} {st : List Value} {σ : aS} : Rn sc d 175 210 [a0, .int x1] st σ r ↔ Rn sc d 175 211 [a0, .int x1] (.int x1 :: st) σ r := r_iload_n d175_210 rfl
theorem d175_211 : decode (mC 175) 211 = .ok (.iaload, 1) := by decide +kernel
theorem x175_211 {sc : aSc} {d : Nat} {r : aRes} {L : List Value} {st : List Value} {f : Nat → Nat → Int32} {g : Nat → Nat → Int64} {h1 h2 : Nat} {a : Nat} {i : Int32} (h17 : 17 ≤ a) (hA : isT9 .int a) (hi : inb i (aln a) = true) : Rn sc d 175 211 L (.int i :: .ref a :: st) (cS f g h1 h2) r ↔ Rn sc d 175 212 L (.int (f a i.toNatClampNeg) :: st) (cS f g h1 h2) r := r_iald d175_211 h17 hA hi
theorem d175_212 : decode (mC 175) 212 = .ok (.iastore, 1) := by decide +kernel
theorem x175_212 {sc : aSc} {d : Nat} {r : aRes} {L : List Value} {st : List Value} {f : Nat → Nat → Int32} {g : Nat → Nat → Int64} {h1 h2 : Nat} {a : Nat} {i : Int32} {x : Int32} (h17 : 17 ≤ a) (hA : isT9 .int a) (hi : inb i (aln a) = true) : Rn sc d 175 212 L (.int x :: .int i :: .ref a :: st) (cS f g h1 h2) r ↔ Rn sc d 175 213 L st (cS (u2 f a i.toNatClampNeg x) g h1 h2) r := r_iast d175_212 h17 hA hi
theorem d175_213 : decode (mC 175) 213 = .ok (.aload_n 0, 1) := by decide +kernel
theorem x175_213 {sc : aSc} {d : Nat} {r : aRes} {x0 : Nat} {a1 : Value} {st : List Value} {σ : aS} : Rn sc d 175 213 [.ref x0, a1] st σ r ↔ Rn sc d 175 214 [.ref x0, a1] (.ref x0 :: st) σ r := r_aload_n d175_213 rfl
theorem d175_214 : decode (mC 175) 214 = .ok (.getfield 205, 3) := by decide +kernel
theorem x175_214 {sc : aSc} {d : Nat} {r : aRes} {L : List Value} {st : List Value} {f : Nat → Nat → Int32} {g : Nat → Nat → Int64} {h1 h2 : Nat} {o : Nat} (hK : KK[o]? = some (.inl 7)) (hR : (RR h1 h2 o 64).isSome = true) : Rn sc d 175 214 L (.ref o :: st) (cS f g h1 h2) r ↔ Rn sc d 175 217 L (.ref (rf h1 h2 o 64) :: st) (cS f g h1 h2) r := r_getR2 d175_214 (ci := 7) (k := 64) (by decide +kernel) (by decide +kernel) (fun _ => rfl) hK hR
theorem d175_217 : decode (mC 175) 217 = .ok (.iload_n 1, 1) := by decide +kernel
theorem x175_217 {sc : aSc} {d : Nat} {r : aRes} {a0 : Value} {x1 : Int32} {st : List Value} {σ : aS} : Rn sc d 175 217 [a0, .int x1] st σ r ↔ Rn sc d 175 218 [a0, .int x1] (.int x1 :: st) σ r := r_iload_n d175_217 rfl
theorem d175_218 : decode (mC 175) 218 = .ok (.aload_n 0, 1) := by decide +kernel
theorem x175_218 {sc : aSc} {d : Nat} {r : aRes} {x0 : Nat} {a1 : Value} {st : List Value} {σ : aS} : Rn sc d 175 218 [.ref x0, a1] st σ r ↔ Rn sc d 175 219 [.ref x0, a1] (.ref x0 :: st) σ r := r_aload_n d175_218 rfl
theorem d175_219 : decode (mC 175) 219 = .ok (.getfield 147, 3) := by decide +kernel
theorem x175_219 {sc : aSc} {d : Nat} {r : aRes} {L : List Value} {st : List Value} {f : Nat → Nat → Int32} {g : Nat → Nat → Int64} {h1 h2 : Nat} {o : Nat} (hK : KK[o]? = some (.inl 7)) (hR : (RR h1 h2 o 45).isSome = true) : Rn sc d 175 219 L (.ref o :: st) (cS f g h1 h2) r ↔ Rn sc d 175 222 L (.ref (rf h1 h2 o 45) :: st) (cS f g h1 h2) r := r_getR2 d175_219 (ci := 7) (k := 45) (by decide +kernel) (by decide +kernel) (fun _ => rfl) hK hR
theorem d175_222 : decode (mC 175) 222 = .ok (.iload_n 1, 1) := by decide +kernel
theorem x175_222 {sc : aSc} {d : Nat} {r : aRes} {a0 : Value} {x1 : Int32} {st : List Value} {σ : aS} : Rn sc d 175 222 [a0, .int x1] st σ r ↔ Rn sc d 175 223 [a0, .int x1] (.int x1 :: st) σ r := r_iload_n d175_222 rfl
theorem d175_223 : decode (mC 175) 223 = .ok (.iaload, 1) := by decide +kernel
theorem x175_223 {sc : aSc} {d : Nat} {r : aRes} {L : List Value} {st : List Value} {f : Nat → Nat → Int32} {g : Nat → Nat → Int64} {h1 h2 : Nat} {a : Nat} {i : Int32} (h17 : 17 ≤ a) (hA : isT9 .int a) (hi : inb i (aln a) = true) : Rn sc d 175 223 L (.int i :: .ref a :: st) (cS f g h1 h2) r ↔ Rn sc d 175 224 L (.int (f a i.toNatClampNeg) :: st) (cS f g h1 h2) r := r_iald d175_223 h17 hA hi
theorem d175_224 : decode (mC 175) 224 = .ok (.iastore, 1) := by decide +kernel
theorem x175_224 {sc : aSc} {d : Nat} {r : aRes} {L : List Value} {st : List Value} {f : Nat → Nat → Int32} {g : Nat → Nat → Int64} {h1 h2 : Nat} {a : Nat} {i : Int32} {x : Int32} (h17 : 17 ≤ a) (hA : isT9 .int a) (hi : inb i (aln a) = true) : Rn sc d 175 224 L (.int x :: .int i :: .ref a :: st) (cS f g h1 h2) r ↔ Rn sc d 175 225 L st (cS (u2 f a i.toNatClampNeg x) g h1 h2) r := r_iast d175_224 h17 hA hi
theorem d175_225 : decode (mC 175) 225 = .ok (.iinc 1 1, 3) := by decide +kernel
theorem x175_225 {sc : aSc} {d : Nat} {r : aRes} {x0 : Nat} {x1 : Int32} {st : List Value} {σ : aS} : Rn sc d 175 225 [.ref x0, .int x1] st σ r ↔ Rn sc d 175 228 [.ref x0, .int (x1 + 1)] st σ r := r_iinc d175_225 (Nat.le_of_ble_eq_true rfl) rfl rfl (by decide)
theorem d175_228 : decode (mC 175) 228 = .ok (.goto (-57), 3) := by decide +kernel
theorem x175_228 {sc : aSc} {d : Nat} {r : aRes} {L : List Value} {st : List Value} {σ : aS} : Rn sc d 175 228 L st σ r ↔ Rn sc d 175 171 L st σ r := r_goto d175_228 rfl
theorem d175_231 : decode (mC 175) 231 = .ok (.aload_n 0, 1) := by decide +kernel
theorem x175_231 {sc : aSc} {d : Nat} {r : aRes} {x0 : Nat} {a1 : Value} {st : List Value} {σ : aS} : Rn sc d 175 231 [.ref x0, a1] st σ r ↔ Rn sc d 175 232 [.ref x0, a1] (.ref x0 :: st) σ r := r_aload_n d175_231 rfl
theorem d175_232 : decode (mC 175) 232 = .ok (.getfield 7, 3) := by decide +kernel
theorem x175_232 {sc : aSc} {d : Nat} {r : aRes} {L : List Value} {st : List Value} {f : Nat → Nat → Int32} {g : Nat → Nat → Int64} {h1 h2 : Nat} {o : Nat} (h17 : 17 ≤ o) (hK : KK[o]? = some (.inl 7)) : Rn sc d 175 232 L (.ref o :: st) (cS f g h1 h2) r ↔ Rn sc d 175 235 L (.int (f o 0) :: st) (cS f g h1 h2) r := r_getI d175_232 (ci := 7) (k := 0) rfl (by decide) (fun _ => rfl) h17 hK
theorem d175_235 : decode (mC 175) 235 = .ok (.ireturn, 1) := by decide +kernel
theorem x175_235 {sc : aSc} {d : Nat} {r : aRes} {L : List Value} {σ : aS} {x : Int32} : Rn sc d 175 235 L [.int x] σ r ↔ r = (σ, some (.int x)) := r_iret d175_235 rfl rfl
theorem d176_0 : decode (mC 176) 0 = .ok (.aload_n 0, 1) := by decide +kernel
theorem x176_0 {sc : aSc} {d : Nat} {r : aRes} {x0 : Nat} {a1 : Value} {st : List Value} {σ : aS} : Rn sc d 176 0 [.ref x0, a1] st σ r ↔ Rn sc d 176 1 [.ref x0, a1] (.ref x0 :: st) σ r := r_aload_n d176_0 rfl
theorem d176_1 : decode (mC 176) 1 = .ok (.getfield 150, 3) := by decide +kernel
theorem x176_1 {sc : aSc} {d : Nat} {r : aRes} {L : List Value} {st : List Value} {f : Nat → Nat → Int32} {g : Nat → Nat → Int64} {h1 h2 : Nat} {o : Nat} (h17 : 17 ≤ o) (hK : KK[o]? = some (.inl 7)) : Rn sc d 176 1 L (.ref o :: st) (cS f g h1 h2) r ↔ Rn sc d 176 4 L (.int (f o 46) :: st) (cS f g h1 h2) r := r_getI d176_1 (ci := 7) (k := 46) (by decide +kernel) (by decide +kernel) (fun _ => rfl) h17 hK
theorem d176_4 : decode (mC 176) 4 = .ok (.ifCond .ne 6, 3) := by decide +kernel
theorem x176_4 {sc : aSc} {d : Nat} {r : aRes} {L : List Value} {st : List Value} {σ : aS} {x : Int32} : Rn sc d 176 4 L (.int x :: st) σ r ↔ if x = 0 then Rn sc d 176 7 L st σ r else Rn sc d 176 10 L st σ r := r_if_ne d176_4 rfl
theorem d176_7 : decode (mC 176) 7 = .ok (.bipush (-3), 2) := by decide +kernel
theorem x176_7 {sc : aSc} {d : Nat} {r : aRes} {L : List Value} {st : List Value} {σ : aS} : Rn sc d 176 7 L st σ r ↔ Rn sc d 176 9 L (.int (-3) :: st) σ r := r_bipush d176_7 (by decide)
theorem d176_9 : decode (mC 176) 9 = .ok (.ireturn, 1) := by decide +kernel
theorem x176_9 {sc : aSc} {d : Nat} {r : aRes} {L : List Value} {σ : aS} {x : Int32} : Rn sc d 176 9 L [.int x] σ r ↔ r = (σ, some (.int x)) := r_iret d176_9 rfl rfl
theorem d176_10 : decode (mC 176) 10 = .ok (.aload_n 0, 1) := by decide +kernel
theorem x176_10 {sc : aSc} {d : Nat} {r : aRes} {x0 : Nat} {a1 : Value} {st : List Value} {σ : aS} : Rn sc d 176 10 [.ref x0, a1] st σ r ↔ Rn sc d 176 11 [.ref x0, a1] (.ref x0 :: st) σ r := r_aload_n d176_10 rfl
theorem d176_11 : decode (mC 176) 11 = .ok (.aload_n 0, 1) := by decide +kernel
theorem x176_11 {sc : aSc} {d : Nat} {r : aRes} {x0 : Nat} {a1 : Value} {st : List Value} {σ : aS} : Rn sc d 176 11 [.ref x0, a1] st σ r ↔ Rn sc d 176 12 [.ref x0, a1] (.ref x0 :: st) σ r := r_aload_n d176_11 rfl
theorem d176_12 : decode (mC 176) 12 = .ok (.getfield 154, 3) := by decide +kernel
theorem x176_12 {sc : aSc} {d : Nat} {r : aRes} {L : List Value} {st : List Value} {f : Nat → Nat → Int32} {g : Nat → Nat → Int64} {h1 h2 : Nat} {o : Nat} (h17 : 17 ≤ o) (hK : KK[o]? = some (.inl 7)) : Rn sc d 176 12 L (.ref o :: st) (cS f g h1 h2) r ↔ Rn sc d 176 15 L (.int (f o 47) :: st) (cS f g h1 h2) r := r_getI d176_12 (ci := 7) (k := 47) (by decide +kernel) (by decide +kernel) (fun _ => rfl) h17 hK
theorem d176_15 : decode (mC 176) 15 = .ok (.putfield 47, 3) := by decide +kernel
theorem x176_15 {sc : aSc} {d : Nat} {r : aRes} {L : List Value} {st : List Value} {f : Nat → Nat → Int32} {g : Nat → Nat → Int64} {h1 h2 : Nat} {o : Nat} {v : Int32} (h17 : 17 ≤ o) (hK : KK[o]? = some (.inl 7)) : Rn sc d 176 15 L (.int v :: .ref o :: st) (cS f g h1 h2) r ↔ Rn sc d 176 18 L st (cS (u2 f o 12 v) g h1 h2) r := r_putI d176_15 (ci := 7) (k := 12) rfl (by decide) h17 hK
theorem d176_18 : decode (mC 176) 18 = .ok (.aload_n 0, 1) := by decide +kernel
theorem x176_18 {sc : aSc} {d : Nat} {r : aRes} {x0 : Nat} {a1 : Value} {st : List Value} {σ : aS} : Rn sc d 176 18 [.ref x0, a1] st σ r ↔ Rn sc d 176 19 [.ref x0, a1] (.ref x0 :: st) σ r := r_aload_n d176_18 rfl
theorem d176_19 : decode (mC 176) 19 = .ok (.aload_n 0, 1) := by decide +kernel
theorem x176_19 {sc : aSc} {d : Nat} {r : aRes} {x0 : Nat} {a1 : Value} {st : List Value} {σ : aS} : Rn sc d 176 19 [.ref x0, a1] st σ r ↔ Rn sc d 176 20 [.ref x0, a1] (.ref x0 :: st) σ r := r_aload_n d176_19 rfl
theorem d176_20 : decode (mC 176) 20 = .ok (.getfield 157, 3) := by decide +kernel
theorem x176_20 {sc : aSc} {d : Nat} {r : aRes} {L : List Value} {st : List Value} {f : Nat → Nat → Int32} {g : Nat → Nat → Int64} {h1 h2 : Nat} {o : Nat} (h17 : 17 ≤ o) (hK : KK[o]? = some (.inl 7)) : Rn sc d 176 20 L (.ref o :: st) (cS f g h1 h2) r ↔ Rn sc d 176 23 L (.int (f o 48) :: st) (cS f g h1 h2) r := r_getI d176_20 (ci := 7) (k := 48) (by decide +kernel) (by decide +kernel) (fun _ => rfl) h17 hK
theorem d176_23 : decode (mC 176) 23 = .ok (.putfield 7, 3) := by decide +kernel
theorem x176_23 {sc : aSc} {d : Nat} {r : aRes} {L : List Value} {st : List Value} {f : Nat → Nat → Int32} {g : Nat → Nat → Int64} {h1 h2 : Nat} {o : Nat} {v : Int32} (h17 : 17 ≤ o) (hK : KK[o]? = some (.inl 7)) : Rn sc d 176 23 L (.int v :: .ref o :: st) (cS f g h1 h2) r ↔ Rn sc d 176 26 L st (cS (u2 f o 0 v) g h1 h2) r := r_putI d176_23 (ci := 7) (k := 0) rfl (by decide) h17 hK
theorem d176_26 : decode (mC 176) 26 = .ok (.aload_n 0, 1) := by decide +kernel
theorem x176_26 {sc : aSc} {d : Nat} {r : aRes} {x0 : Nat} {a1 : Value} {st : List Value} {σ : aS} : Rn sc d 176 26 [.ref x0, a1] st σ r ↔ Rn sc d 176 27 [.ref x0, a1] (.ref x0 :: st) σ r := r_aload_n d176_26 rfl
theorem d176_27 : decode (mC 176) 27 = .ok (.aload_n 0, 1) := by decide +kernel
theorem x176_27 {sc : aSc} {d : Nat} {r : aRes} {x0 : Nat} {a1 : Value} {st : List Value} {σ : aS} : Rn sc d 176 27 [.ref x0, a1] st σ r ↔ Rn sc d 176 28 [.ref x0, a1] (.ref x0 :: st) σ r := r_aload_n d176_27 rfl
theorem d176_28 : decode (mC 176) 28 = .ok (.getfield 160, 3) := by decide +kernel
theorem x176_28 {sc : aSc} {d : Nat} {r : aRes} {L : List Value} {st : List Value} {f : Nat → Nat → Int32} {g : Nat → Nat → Int64} {h1 h2 : Nat} {o : Nat} (h17 : 17 ≤ o) (hK : KK[o]? = some (.inl 7)) : Rn sc d 176 28 L (.ref o :: st) (cS f g h1 h2) r ↔ Rn sc d 176 31 L (.int (f o 49) :: st) (cS f g h1 h2) r := r_getI d176_28 (ci := 7) (k := 49) (by decide +kernel) (by decide +kernel) (fun _ => rfl) h17 hK
theorem d176_31 : decode (mC 176) 31 = .ok (.putfield 13, 3) := by decide +kernel
theorem x176_31 {sc : aSc} {d : Nat} {r : aRes} {L : List Value} {st : List Value} {f : Nat → Nat → Int32} {g : Nat → Nat → Int64} {h1 h2 : Nat} {o : Nat} {v : Int32} (h17 : 17 ≤ o) (hK : KK[o]? = some (.inl 7)) : Rn sc d 176 31 L (.int v :: .ref o :: st) (cS f g h1 h2) r ↔ Rn sc d 176 34 L st (cS (u2 f o 1 v) g h1 h2) r := r_putI d176_31 (ci := 7) (k := 1) rfl (by decide) h17 hK
theorem d176_34 : decode (mC 176) 34 = .ok (.aload_n 0, 1) := by decide +kernel
theorem x176_34 {sc : aSc} {d : Nat} {r : aRes} {x0 : Nat} {a1 : Value} {st : List Value} {σ : aS} : Rn sc d 176 34 [.ref x0, a1] st σ r ↔ Rn sc d 176 35 [.ref x0, a1] (.ref x0 :: st) σ r := r_aload_n d176_34 rfl
theorem d176_35 : decode (mC 176) 35 = .ok (.aload_n 0, 1) := by decide +kernel
theorem x176_35 {sc : aSc} {d : Nat} {r : aRes} {x0 : Nat} {a1 : Value} {st : List Value} {σ : aS} : Rn sc d 176 35 [.ref x0, a1] st σ r ↔ Rn sc d 176 36 [.ref x0, a1] (.ref x0 :: st) σ r := r_aload_n d176_35 rfl
theorem d176_36 : decode (mC 176) 36 = .ok (.getfield 163, 3) := by decide +kernel
theorem x176_36 {sc : aSc} {d : Nat} {r : aRes} {L : List Value} {st : List Value} {f : Nat → Nat → Int32} {g : Nat → Nat → Int64} {h1 h2 : Nat} {o : Nat} (h17 : 17 ≤ o) (hK : KK[o]? = some (.inl 7)) : Rn sc d 176 36 L (.ref o :: st) (cS f g h1 h2) r ↔ Rn sc d 176 39 L (.int (f o 50) :: st) (cS f g h1 h2) r := r_getI d176_36 (ci := 7) (k := 50) (by decide +kernel) (by decide +kernel) (fun _ => rfl) h17 hK
theorem d176_39 : decode (mC 176) 39 = .ok (.putfield 16, 3) := by decide +kernel
theorem x176_39 {sc : aSc} {d : Nat} {r : aRes} {L : List Value} {st : List Value} {f : Nat → Nat → Int32} {g : Nat → Nat → Int64} {h1 h2 : Nat} {o : Nat} {v : Int32} (h17 : 17 ≤ o) (hK : KK[o]? = some (.inl 7)) : Rn sc d 176 39 L (.int v :: .ref o :: st) (cS f g h1 h2) r ↔ Rn sc d 176 42 L st (cS (u2 f o 2 v) g h1 h2) r := r_putI d176_39 (ci := 7) (k := 2) rfl (by decide) h17 hK
theorem d176_42 : decode (mC 176) 42 = .ok (.aload_n 0, 1) := by decide +kernel
theorem x176_42 {sc : aSc} {d : Nat} {r : aRes} {x0 : Nat} {a1 : Value} {st : List Value} {σ : aS} : Rn sc d 176 42 [.ref x0, a1] st σ r ↔ Rn sc d 176 43 [.ref x0, a1] (.ref x0 :: st) σ r := r_aload_n d176_42 rfl
theorem d176_43 : decode (mC 176) 43 = .ok (.aload_n 0, 1) := by decide +kernel
theorem x176_43 {sc : aSc} {d : Nat} {r : aRes} {x0 : Nat} {a1 : Value} {st : List Value} {σ : aS} : Rn sc d 176 43 [.ref x0, a1] st σ r ↔ Rn sc d 176 44 [.ref x0, a1] (.ref x0 :: st) σ r := r_aload_n d176_43 rfl
theorem d176_44 : decode (mC 176) 44 = .ok (.getfield 166, 3) := by decide +kernel
theorem x176_44 {sc : aSc} {d : Nat} {r : aRes} {L : List Value} {st : List Value} {f : Nat → Nat → Int32} {g : Nat → Nat → Int64} {h1 h2 : Nat} {o : Nat} (h17 : 17 ≤ o) (hK : KK[o]? = some (.inl 7)) : Rn sc d 176 44 L (.ref o :: st) (cS f g h1 h2) r ↔ Rn sc d 176 47 L (.int (f o 51) :: st) (cS f g h1 h2) r := r_getI d176_44 (ci := 7) (k := 51) (by decide +kernel) (by decide +kernel) (fun _ => rfl) h17 hK
theorem d176_47 : decode (mC 176) 47 = .ok (.putfield 19, 3) := by decide +kernel
theorem x176_47 {sc : aSc} {d : Nat} {r : aRes} {L : List Value} {st : List Value} {f : Nat → Nat → Int32} {g : Nat → Nat → Int64} {h1 h2 : Nat} {o : Nat} {v : Int32} (h17 : 17 ≤ o) (hK : KK[o]? = some (.inl 7)) : Rn sc d 176 47 L (.int v :: .ref o :: st) (cS f g h1 h2) r ↔ Rn sc d 176 50 L st (cS (u2 f o 3 v) g h1 h2) r := r_putI d176_47 (ci := 7) (k := 3) rfl (by decide) h17 hK
theorem d176_50 : decode (mC 176) 50 = .ok (.aload_n 0, 1) := by decide +kernel
theorem x176_50 {sc : aSc} {d : Nat} {r : aRes} {x0 : Nat} {a1 : Value} {st : List Value} {σ : aS} : Rn sc d 176 50 [.ref x0, a1] st σ r ↔ Rn sc d 176 51 [.ref x0, a1] (.ref x0 :: st) σ r := r_aload_n d176_50 rfl
theorem d176_51 : decode (mC 176) 51 = .ok (.aload_n 0, 1) := by decide +kernel
theorem x176_51 {sc : aSc} {d : Nat} {r : aRes} {x0 : Nat} {a1 : Value} {st : List Value} {σ : aS} : Rn sc d 176 51 [.ref x0, a1] st σ r ↔ Rn sc d 176 52 [.ref x0, a1] (.ref x0 :: st) σ r := r_aload_n d176_51 rfl
theorem d176_52 : decode (mC 176) 52 = .ok (.getfield 169, 3) := by decide +kernel
theorem x176_52 {sc : aSc} {d : Nat} {r : aRes} {L : List Value} {st : List Value} {f : Nat → Nat → Int32} {g : Nat → Nat → Int64} {h1 h2 : Nat} {o : Nat} (h17 : 17 ≤ o) (hK : KK[o]? = some (.inl 7)) : Rn sc d 176 52 L (.ref o :: st) (cS f g h1 h2) r ↔ Rn sc d 176 55 L (.int (f o 52) :: st) (cS f g h1 h2) r := r_getI d176_52 (ci := 7) (k := 52) (by decide +kernel) (by decide +kernel) (fun _ => rfl) h17 hK
theorem d176_55 : decode (mC 176) 55 = .ok (.putfield 123, 3) := by decide +kernel
theorem x176_55 {sc : aSc} {d : Nat} {r : aRes} {L : List Value} {st : List Value} {f : Nat → Nat → Int32} {g : Nat → Nat → Int64} {h1 h2 : Nat} {o : Nat} {v : Int32} (h17 : 17 ≤ o) (hK : KK[o]? = some (.inl 7)) : Rn sc d 176 55 L (.int v :: .ref o :: st) (cS f g h1 h2) r ↔ Rn sc d 176 58 L st (cS (u2 f o 37 v) g h1 h2) r := r_putI d176_55 (ci := 7) (k := 37) (by decide +kernel) (by decide +kernel) h17 hK
theorem d176_58 : decode (mC 176) 58 = .ok (.aload_n 0, 1) := by decide +kernel
theorem x176_58 {sc : aSc} {d : Nat} {r : aRes} {x0 : Nat} {a1 : Value} {st : List Value} {σ : aS} : Rn sc d 176 58 [.ref x0, a1] st σ r ↔ Rn sc d 176 59 [.ref x0, a1] (.ref x0 :: st) σ r := r_aload_n d176_58 rfl
theorem d176_59 : decode (mC 176) 59 = .ok (.aload_n 0, 1) := by decide +kernel
theorem x176_59 {sc : aSc} {d : Nat} {r : aRes} {x0 : Nat} {a1 : Value} {st : List Value} {σ : aS} : Rn sc d 176 59 [.ref x0, a1] st σ r ↔ Rn sc d 176 60 [.ref x0, a1] (.ref x0 :: st) σ r := r_aload_n d176_59 rfl
theorem d176_60 : decode (mC 176) 60 = .ok (.getfield 172, 3) := by decide +kernel
theorem x176_60 {sc : aSc} {d : Nat} {r : aRes} {L : List Value} {st : List Value} {f : Nat → Nat → Int32} {g : Nat → Nat → Int64} {h1 h2 : Nat} {o : Nat} (h17 : 17 ≤ o) (hK : KK[o]? = some (.inl 7)) : Rn sc d 176 60 L (.ref o :: st) (cS f g h1 h2) r ↔ Rn sc d 176 63 L (.int (f o 53) :: st) (cS f g h1 h2) r := r_getI d176_60 (ci := 7) (k := 53) (by decide +kernel) (by decide +kernel) (fun _ => rfl) h17 hK
theorem d176_63 : decode (mC 176) 63 = .ok (.putfield 132, 3) := by decide +kernel
theorem x176_63 {sc : aSc} {d : Nat} {r : aRes} {L : List Value} {st : List Value} {f : Nat → Nat → Int32} {g : Nat → Nat → Int64} {h1 h2 : Nat} {o : Nat} {v : Int32} (h17 : 17 ≤ o) (hK : KK[o]? = some (.inl 7)) : Rn sc d 176 63 L (.int v :: .ref o :: st) (cS f g h1 h2) r ↔ Rn sc d 176 66 L st (cS (u2 f o 40 v) g h1 h2) r := r_putI d176_63 (ci := 7) (k := 40) (by decide +kernel) (by decide +kernel) h17 hK
theorem d176_66 : decode (mC 176) 66 = .ok (.aload_n 0, 1) := by decide +kernel
theorem x176_66 {sc : aSc} {d : Nat} {r : aRes} {x0 : Nat} {a1 : Value} {st : List Value} {σ : aS} : Rn sc d 176 66 [.ref x0, a1] st σ r ↔ Rn sc d 176 67 [.ref x0, a1] (.ref x0 :: st) σ r := r_aload_n d176_66 rfl
theorem d176_67 : decode (mC 176) 67 = .ok (.aload_n 0, 1) := by decide +kernel
theorem x176_67 {sc : aSc} {d : Nat} {r : aRes} {x0 : Nat} {a1 : Value} {st : List Value} {σ : aS} : Rn sc d 176 67 [.ref x0, a1] st σ r ↔ Rn sc d 176 68 [.ref x0, a1] (.ref x0 :: st) σ r := r_aload_n d176_67 rfl
theorem d176_68 : decode (mC 176) 68 = .ok (.getfield 175, 3) := by decide +kernel
theorem x176_68 {sc : aSc} {d : Nat} {r : aRes} {L : List Value} {st : List Value} {f : Nat → Nat → Int32} {g : Nat → Nat → Int64} {h1 h2 : Nat} {o : Nat} (h17 : 17 ≤ o) (hK : KK[o]? = some (.inl 7)) : Rn sc d 176 68 L (.ref o :: st) (cS f g h1 h2) r ↔ Rn sc d 176 71 L (.int (f o 54) :: st) (cS f g h1 h2) r := r_getI d176_68 (ci := 7) (k := 54) (by decide +kernel) (by decide +kernel) (fun _ => rfl) h17 hK
theorem d176_71 : decode (mC 176) 71 = .ok (.putfield 141, 3) := by decide +kernel
theorem x176_71 {sc : aSc} {d : Nat} {r : aRes} {L : List Value} {st : List Value} {f : Nat → Nat → Int32} {g : Nat → Nat → Int64} {h1 h2 : Nat} {o : Nat} {v : Int32} (h17 : 17 ≤ o) (hK : KK[o]? = some (.inl 7)) : Rn sc d 176 71 L (.int v :: .ref o :: st) (cS f g h1 h2) r ↔ Rn sc d 176 74 L st (cS (u2 f o 43 v) g h1 h2) r := r_putI d176_71 (ci := 7) (k := 43) (by decide +kernel) (by decide +kernel) h17 hK
theorem d176_74 : decode (mC 176) 74 = .ok (.iconst 0, 1) := by decide +kernel
theorem x176_74 {sc : aSc} {d : Nat} {r : aRes} {L : List Value} {st : List Value} {σ : aS} : Rn sc d 176 74 L st σ r ↔ Rn sc d 176 75 L (.int 0 :: st) σ r := r_iconst d176_74 (by decide)
theorem d176_75 : decode (mC 176) 75 = .ok (.istore_n 1, 1) := by decide +kernel
theorem x176_75 {sc : aSc} {d : Nat} {r : aRes} {x0 : Nat} {a1 : Value} {st : List Value} {σ : aS} {y : Int32} : Rn sc d 176 75 [.ref x0, a1] (.int y :: st) σ r ↔ Rn sc d 176 76 [.ref x0, .int y] st σ r := r_istore_n d176_75 (Nat.le_of_ble_eq_true rfl) rfl
theorem d176_76 : decode (mC 176) 76 = .ok (.iload_n 1, 1) := by decide +kernel
theorem x176_76 {sc : aSc} {d : Nat} {r : aRes} {a0 : Value} {x1 : Int32} {st : List Value} {σ : aS} : Rn sc d 176 76 [a0, .int x1] st σ r ↔ Rn sc d 176 77 [a0, .int x1] (.int x1 :: st) σ r := r_iload_n d176_76 rfl
theorem d176_77 : decode (mC 176) 77 = .ok (.bipush 7, 2) := by decide +kernel
theorem x176_77 {sc : aSc} {d : Nat} {r : aRes} {L : List Value} {st : List Value} {σ : aS} : Rn sc d 176 77 L st σ r ↔ Rn sc d 176 79 L (.int 7 :: st) σ r := r_bipush d176_77 (by decide)
theorem d176_79 : decode (mC 176) 79 = .ok (.if_icmp .ge 69, 3) := by decide +kernel
theorem x176_79 {sc : aSc} {d : Nat} {r : aRes} {L : List Value} {st : List Value} {σ : aS} {x y : Int32} : Rn sc d 176 79 L (.int y :: .int x :: st) σ r ↔ if x < y then Rn sc d 176 82 L st σ r else Rn sc d 176 148 L st σ r := r_icmp_ge d176_79 rfl
theorem d176_82 : decode (mC 176) 82 = .ok (.aload_n 0, 1) := by decide +kernel
theorem x176_82 {sc : aSc} {d : Nat} {r : aRes} {x0 : Nat} {a1 : Value} {st : List Value} {σ : aS} : Rn sc d 176 82 [.ref x0, a1] st σ r ↔ Rn sc d 176 83 [.ref x0, a1] (.ref x0 :: st) σ r := r_aload_n d176_82 rfl
theorem d176_83 : decode (mC 176) 83 = .ok (.getfield 25, 3) := by decide +kernel
theorem x176_83 {sc : aSc} {d : Nat} {r : aRes} {L : List Value} {st : List Value} {f : Nat → Nat → Int32} {g : Nat → Nat → Int64} {h1 h2 : Nat} {o : Nat} (hK : KK[o]? = some (.inl 7)) (hR : (RR h1 h2 o 5).isSome = true) : Rn sc d 176 83 L (.ref o :: st) (cS f g h1 h2) r ↔ Rn sc d 176 86 L (.ref (rf h1 h2 o 5) :: st) (cS f g h1 h2) r := r_getR2 d176_83 (ci := 7) (k := 5) rfl (by decide) (fun _ => rfl) hK hR
theorem d176_86 : decode (mC 176) 86 = .ok (.iload_n 1, 1) := by decide +kernel
theorem x176_86 {sc : aSc} {d : Nat} {r : aRes} {a0 : Value} {x1 : Int32} {st : List Value} {σ : aS} : Rn sc d 176 86 [a0, .int x1] st σ r ↔ Rn sc d 176 87 [a0, .int x1] (.int x1 :: st) σ r := r_iload_n d176_86 rfl
theorem d176_87 : decode (mC 176) 87 = .ok (.aload_n 0, 1) := by decide +kernel
theorem x176_87 {sc : aSc} {d : Nat} {r : aRes} {x0 : Nat} {a1 : Value} {st : List Value} {σ : aS} : Rn sc d 176 87 [.ref x0, a1] st σ r ↔ Rn sc d 176 88 [.ref x0, a1] (.ref x0 :: st) σ r := r_aload_n d176_87 rfl
theorem d176_88 : decode (mC 176) 88 = .ok (.getfield 178, 3) := by decide +kernel
theorem x176_88 {sc : aSc} {d : Nat} {r : aRes} {L : List Value} {st : List Value} {f : Nat → Nat → Int32} {g : Nat → Nat → Int64} {h1 h2 : Nat} {o : Nat} (hK : KK[o]? = some (.inl 7)) (hR : (RR h1 h2 o 55).isSome = true) : Rn sc d 176 88 L (.ref o :: st) (cS f g h1 h2) r ↔ Rn sc d 176 91 L (.ref (rf h1 h2 o 55) :: st) (cS f g h1 h2) r := r_getR2 d176_88 (ci := 7) (k := 55) (by decide +kernel) (by decide +kernel) (fun _ => rfl) hK hR
theorem d176_91 : decode (mC 176) 91 = .ok (.iload_n 1, 1) := by decide +kernel
theorem x176_91 {sc : aSc} {d : Nat} {r : aRes} {a0 : Value} {x1 : Int32} {st : List Value} {σ : aS} : Rn sc d 176 91 [a0, .int x1] st σ r ↔ Rn sc d 176 92 [a0, .int x1] (.int x1 :: st) σ r := r_iload_n d176_91 rfl
theorem d176_92 : decode (mC 176) 92 = .ok (.iaload, 1) := by decide +kernel
theorem x176_92 {sc : aSc} {d : Nat} {r : aRes} {L : List Value} {st : List Value} {f : Nat → Nat → Int32} {g : Nat → Nat → Int64} {h1 h2 : Nat} {a : Nat} {i : Int32} (h17 : 17 ≤ a) (hA : isT9 .int a) (hi : inb i (aln a) = true) : Rn sc d 176 92 L (.int i :: .ref a :: st) (cS f g h1 h2) r ↔ Rn sc d 176 93 L (.int (f a i.toNatClampNeg) :: st) (cS f g h1 h2) r := r_iald d176_92 h17 hA hi
theorem d176_93 : decode (mC 176) 93 = .ok (.iastore, 1) := by decide +kernel
theorem x176_93 {sc : aSc} {d : Nat} {r : aRes} {L : List Value} {st : List Value} {f : Nat → Nat → Int32} {g : Nat → Nat → Int64} {h1 h2 : Nat} {a : Nat} {i : Int32} {x : Int32} (h17 : 17 ≤ a) (hA : isT9 .int a) (hi : inb i (aln a) = true) : Rn sc d 176 93 L (.int x :: .int i :: .ref a :: st) (cS f g h1 h2) r ↔ Rn sc d 176 94 L st (cS (u2 f a i.toNatClampNeg x) g h1 h2) r := r_iast d176_93 h17 hA hi
theorem d176_94 : decode (mC 176) 94 = .ok (.aload_n 0, 1) := by decide +kernel
theorem x176_94 {sc : aSc} {d : Nat} {r : aRes} {x0 : Nat} {a1 : Value} {st : List Value} {σ : aS} : Rn sc d 176 94 [.ref x0, a1] st σ r ↔ Rn sc d 176 95 [.ref x0, a1] (.ref x0 :: st) σ r := r_aload_n d176_94 rfl
theorem d176_95 : decode (mC 176) 95 = .ok (.getfield 29, 3) := by decide +kernel
theorem x176_95 {sc : aSc} {d : Nat} {r : aRes} {L : List Value} {st : List Value} {f : Nat → Nat → Int32} {g : Nat → Nat → Int64} {h1 h2 : Nat} {o : Nat} (hK : KK[o]? = some (.inl 7)) (hR : (RR h1 h2 o 6).isSome = true) : Rn sc d 176 95 L (.ref o :: st) (cS f g h1 h2) r ↔ Rn sc d 176 98 L (.ref (rf h1 h2 o 6) :: st) (cS f g h1 h2) r := r_getR2 d176_95 (ci := 7) (k := 6) rfl (by decide) (fun _ => rfl) hK hR
theorem d176_98 : decode (mC 176) 98 = .ok (.iload_n 1, 1) := by decide +kernel
theorem x176_98 {sc : aSc} {d : Nat} {r : aRes} {a0 : Value} {x1 : Int32} {st : List Value} {σ : aS} : Rn sc d 176 98 [a0, .int x1] st σ r ↔ Rn sc d 176 99 [a0, .int x1] (.int x1 :: st) σ r := r_iload_n d176_98 rfl
theorem d176_99 : decode (mC 176) 99 = .ok (.aload_n 0, 1) := by decide +kernel
theorem x176_99 {sc : aSc} {d : Nat} {r : aRes} {x0 : Nat} {a1 : Value} {st : List Value} {σ : aS} : Rn sc d 176 99 [.ref x0, a1] st σ r ↔ Rn sc d 176 100 [.ref x0, a1] (.ref x0 :: st) σ r := r_aload_n d176_99 rfl
theorem d176_100 : decode (mC 176) 100 = .ok (.getfield 181, 3) := by decide +kernel
theorem x176_100 {sc : aSc} {d : Nat} {r : aRes} {L : List Value} {st : List Value} {f : Nat → Nat → Int32} {g : Nat → Nat → Int64} {h1 h2 : Nat} {o : Nat} (hK : KK[o]? = some (.inl 7)) (hR : (RR h1 h2 o 56).isSome = true) : Rn sc d 176 100 L (.ref o :: st) (cS f g h1 h2) r ↔ Rn sc d 176 103 L (.ref (rf h1 h2 o 56) :: st) (cS f g h1 h2) r := r_getR2 d176_100 (ci := 7) (k := 56) (by decide +kernel) (by decide +kernel) (fun _ => rfl) hK hR
theorem d176_103 : decode (mC 176) 103 = .ok (.iload_n 1, 1) := by decide +kernel
theorem x176_103 {sc : aSc} {d : Nat} {r : aRes} {a0 : Value} {x1 : Int32} {st : List Value} {σ : aS} : Rn sc d 176 103 [a0, .int x1] st σ r ↔ Rn sc d 176 104 [a0, .int x1] (.int x1 :: st) σ r := r_iload_n d176_103 rfl
theorem d176_104 : decode (mC 176) 104 = .ok (.iaload, 1) := by decide +kernel
theorem x176_104 {sc : aSc} {d : Nat} {r : aRes} {L : List Value} {st : List Value} {f : Nat → Nat → Int32} {g : Nat → Nat → Int64} {h1 h2 : Nat} {a : Nat} {i : Int32} (h17 : 17 ≤ a) (hA : isT9 .int a) (hi : inb i (aln a) = true) : Rn sc d 176 104 L (.int i :: .ref a :: st) (cS f g h1 h2) r ↔ Rn sc d 176 105 L (.int (f a i.toNatClampNeg) :: st) (cS f g h1 h2) r := r_iald d176_104 h17 hA hi
theorem d176_105 : decode (mC 176) 105 = .ok (.iastore, 1) := by decide +kernel
theorem x176_105 {sc : aSc} {d : Nat} {r : aRes} {L : List Value} {st : List Value} {f : Nat → Nat → Int32} {g : Nat → Nat → Int64} {h1 h2 : Nat} {a : Nat} {i : Int32} {x : Int32} (h17 : 17 ≤ a) (hA : isT9 .int a) (hi : inb i (aln a) = true) : Rn sc d 176 105 L (.int x :: .int i :: .ref a :: st) (cS f g h1 h2) r ↔ Rn sc d 176 106 L st (cS (u2 f a i.toNatClampNeg x) g h1 h2) r := r_iast d176_105 h17 hA hi
theorem d176_106 : decode (mC 176) 106 = .ok (.aload_n 0, 1) := by decide +kernel
theorem x176_106 {sc : aSc} {d : Nat} {r : aRes} {x0 : Nat} {a1 : Value} {st : List Value} {σ : aS} : Rn sc d 176 106 [.ref x0, a1] st σ r ↔ Rn sc d 176 107 [.ref x0, a1] (.ref x0 :: st) σ r := r_aload_n d176_106 rfl
theorem d176_107 : decode (mC 176) 107 = .ok (.getfield 32, 3) := by decide +kernel
theorem x176_107 {sc : aSc} {d : Nat} {r : aRes} {L : List Value} {st : List Value} {f : Nat → Nat → Int32} {g : Nat → Nat → Int64} {h1 h2 : Nat} {o : Nat} (hK : KK[o]? = some (.inl 7)) (hR : (RR h1 h2 o 7).isSome = true) : Rn sc d 176 107 L (.ref o :: st) (cS f g h1 h2) r ↔ Rn sc d 176 110 L (.ref (rf h1 h2 o 7) :: st) (cS f g h1 h2) r := r_getR2 d176_107 (ci := 7) (k := 7) rfl (by decide) (fun _ => rfl) hK hR
theorem d176_110 : decode (mC 176) 110 = .ok (.iload_n 1, 1) := by decide +kernel
theorem x176_110 {sc : aSc} {d : Nat} {r : aRes} {a0 : Value} {x1 : Int32} {st : List Value} {σ : aS} : Rn sc d 176 110 [a0, .int x1] st σ r ↔ Rn sc d 176 111 [a0, .int x1] (.int x1 :: st) σ r := r_iload_n d176_110 rfl
theorem d176_111 : decode (mC 176) 111 = .ok (.aload_n 0, 1) := by decide +kernel
theorem x176_111 {sc : aSc} {d : Nat} {r : aRes} {x0 : Nat} {a1 : Value} {st : List Value} {σ : aS} : Rn sc d 176 111 [.ref x0, a1] st σ r ↔ Rn sc d 176 112 [.ref x0, a1] (.ref x0 :: st) σ r := r_aload_n d176_111 rfl
theorem d176_112 : decode (mC 176) 112 = .ok (.getfield 184, 3) := by decide +kernel
theorem x176_112 {sc : aSc} {d : Nat} {r : aRes} {L : List Value} {st : List Value} {f : Nat → Nat → Int32} {g : Nat → Nat → Int64} {h1 h2 : Nat} {o : Nat} (hK : KK[o]? = some (.inl 7)) (hR : (RR h1 h2 o 57).isSome = true) : Rn sc d 176 112 L (.ref o :: st) (cS f g h1 h2) r ↔ Rn sc d 176 115 L (.ref (rf h1 h2 o 57) :: st) (cS f g h1 h2) r := r_getR2 d176_112 (ci := 7) (k := 57) (by decide +kernel) (by decide +kernel) (fun _ => rfl) hK hR
theorem d176_115 : decode (mC 176) 115 = .ok (.iload_n 1, 1) := by decide +kernel
theorem x176_115 {sc : aSc} {d : Nat} {r : aRes} {a0 : Value} {x1 : Int32} {st : List Value} {σ : aS} : Rn sc d 176 115 [a0, .int x1] st σ r ↔ Rn sc d 176 116 [a0, .int x1] (.int x1 :: st) σ r := r_iload_n d176_115 rfl
theorem d176_116 : decode (mC 176) 116 = .ok (.iaload, 1) := by decide +kernel
theorem x176_116 {sc : aSc} {d : Nat} {r : aRes} {L : List Value} {st : List Value} {f : Nat → Nat → Int32} {g : Nat → Nat → Int64} {h1 h2 : Nat} {a : Nat} {i : Int32} (h17 : 17 ≤ a) (hA : isT9 .int a) (hi : inb i (aln a) = true) : Rn sc d 176 116 L (.int i :: .ref a :: st) (cS f g h1 h2) r ↔ Rn sc d 176 117 L (.int (f a i.toNatClampNeg) :: st) (cS f g h1 h2) r := r_iald d176_116 h17 hA hi
theorem d176_117 : decode (mC 176) 117 = .ok (.iastore, 1) := by decide +kernel
theorem x176_117 {sc : aSc} {d : Nat} {r : aRes} {L : List Value} {st : List Value} {f : Nat → Nat → Int32} {g : Nat → Nat → Int64} {h1 h2 : Nat} {a : Nat} {i : Int32} {x : Int32} (h17 : 17 ≤ a) (hA : isT9 .int a) (hi : inb i (aln a) = true) : Rn sc d 176 117 L (.int x :: .int i :: .ref a :: st) (cS f g h1 h2) r ↔ Rn sc d 176 118 L st (cS (u2 f a i.toNatClampNeg x) g h1 h2) r := r_iast d176_117 h17 hA hi
theorem d176_118 : decode (mC 176) 118 = .ok (.aload_n 0, 1) := by decide +kernel
theorem x176_118 {sc : aSc} {d : Nat} {r : aRes} {x0 : Nat} {a1 : Value} {st : List Value} {σ : aS} : Rn sc d 176 118 [.ref x0, a1] st σ r ↔ Rn sc d 176 119 [.ref x0, a1] (.ref x0 :: st) σ r := r_aload_n d176_118 rfl
theorem d176_119 : decode (mC 176) 119 = .ok (.getfield 35, 3) := by decide +kernel
theorem x176_119 {sc : aSc} {d : Nat} {r : aRes} {L : List Value} {st : List Value} {f : Nat → Nat → Int32} {g : Nat → Nat → Int64} {h1 h2 : Nat} {o : Nat} (hK : KK[o]? = some (.inl 7)) (hR : (RR h1 h2 o 8).isSome = true) : Rn sc d 176 119 L (.ref o :: st) (cS f g h1 h2) r ↔ Rn sc d 176 122 L (.ref (rf h1 h2 o 8) :: st) (cS f g h1 h2) r := r_getR2 d176_119 (ci := 7) (k := 8) rfl (by decide) (fun _ => rfl) hK hR
theorem d176_122 : decode (mC 176) 122 = .ok (.iload_n 1, 1) := by decide +kernel
theorem x176_122 {sc : aSc} {d : Nat} {r : aRes} {a0 : Value} {x1 : Int32} {st : List Value} {σ : aS} : Rn sc d 176 122 [a0, .int x1] st σ r ↔ Rn sc d 176 123 [a0, .int x1] (.int x1 :: st) σ r := r_iload_n d176_122 rfl
theorem d176_123 : decode (mC 176) 123 = .ok (.aload_n 0, 1) := by decide +kernel
theorem x176_123 {sc : aSc} {d : Nat} {r : aRes} {x0 : Nat} {a1 : Value} {st : List Value} {σ : aS} : Rn sc d 176 123 [.ref x0, a1] st σ r ↔ Rn sc d 176 124 [.ref x0, a1] (.ref x0 :: st) σ r := r_aload_n d176_123 rfl
theorem d176_124 : decode (mC 176) 124 = .ok (.getfield 187, 3) := by decide +kernel
theorem x176_124 {sc : aSc} {d : Nat} {r : aRes} {L : List Value} {st : List Value} {f : Nat → Nat → Int32} {g : Nat → Nat → Int64} {h1 h2 : Nat} {o : Nat} (hK : KK[o]? = some (.inl 7)) (hR : (RR h1 h2 o 58).isSome = true) : Rn sc d 176 124 L (.ref o :: st) (cS f g h1 h2) r ↔ Rn sc d 176 127 L (.ref (rf h1 h2 o 58) :: st) (cS f g h1 h2) r := r_getR2 d176_124 (ci := 7) (k := 58) (by decide +kernel) (by decide +kernel) (fun _ => rfl) hK hR
theorem d176_127 : decode (mC 176) 127 = .ok (.iload_n 1, 1) := by decide +kernel
theorem x176_127 {sc : aSc} {d : Nat} {r : aRes} {a0 : Value} {x1 : Int32} {st : List Value} {σ : aS} : Rn sc d 176 127 [a0, .int x1] st σ r ↔ Rn sc d 176 128 [a0, .int x1] (.int x1 :: st) σ r := r_iload_n d176_127 rfl
theorem d176_128 : decode (mC 176) 128 = .ok (.iaload, 1) := by decide +kernel
theorem x176_128 {sc : aSc} {d : Nat} {r : aRes} {L : List Value} {st : List Value} {f : Nat → Nat → Int32} {g : Nat → Nat → Int64} {h1 h2 : Nat} {a : Nat} {i : Int32} (h17 : 17 ≤ a) (hA : isT9 .int a) (hi : inb i (aln a) = true) : Rn sc d 176 128 L (.int i :: .ref a :: st) (cS f g h1 h2) r ↔ Rn sc d 176 129 L (.int (f a i.toNatClampNeg) :: st) (cS f g h1 h2) r := r_iald d176_128 h17 hA hi
theorem d176_129 : decode (mC 176) 129 = .ok (.iastore, 1) := by decide +kernel
theorem x176_129 {sc : aSc} {d : Nat} {r : aRes} {L : List Value} {st : List Value} {f : Nat → Nat → Int32} {g : Nat → Nat → Int64} {h1 h2 : Nat} {a : Nat} {i : Int32} {x : Int32} (h17 : 17 ≤ a) (hA : isT9 .int a) (hi : inb i (aln a) = true) : Rn sc d 176 129 L (.int x :: .int i :: .ref a :: st) (cS f g h1 h2) r ↔ Rn sc d 176 130 L st (cS (u2 f a i.toNatClampNeg x) g h1 h2) r := r_iast d176_129 h17 hA hi
theorem d176_130 : decode (mC 176) 130 = .ok (.aload_n 0, 1) := by decide +kernel
theorem x176_130 {sc : aSc} {d : Nat} {r : aRes} {x0 : Nat} {a1 : Value} {st : List Value} {σ : aS} : Rn sc d 176 130 [.ref x0, a1] st σ r ↔ Rn sc d 176 131 [.ref x0, a1] (.ref x0 :: st) σ r := r_aload_n d176_130 rfl
theorem d176_131 : decode (mC 176) 131 = .ok (.getfield 38, 3) := by decide +kernel
theorem x176_131 {sc : aSc} {d : Nat} {r : aRes} {L : List Value} {st : List Value} {f : Nat → Nat → Int32} {g : Nat → Nat → Int64} {h1 h2 : Nat} {o : Nat} (hK : KK[o]? = some (.inl 7)) (hR : (RR h1 h2 o 9).isSome = true) : Rn sc d 176 131 L (.ref o :: st) (cS f g h1 h2) r ↔ Rn sc d 176 134 L (.ref (rf h1 h2 o 9) :: st) (cS f g h1 h2) r := r_getR2 d176_131 (ci := 7) (k := 9) rfl (by decide) (fun _ => rfl) hK hR
theorem d176_134 : decode (mC 176) 134 = .ok (.iload_n 1, 1) := by decide +kernel
theorem x176_134 {sc : aSc} {d : Nat} {r : aRes} {a0 : Value} {x1 : Int32} {st : List Value} {σ : aS} : Rn sc d 176 134 [a0, .int x1] st σ r ↔ Rn sc d 176 135 [a0, .int x1] (.int x1 :: st) σ r := r_iload_n d176_134 rfl
theorem d176_135 : decode (mC 176) 135 = .ok (.aload_n 0, 1) := by decide +kernel
theorem x176_135 {sc : aSc} {d : Nat} {r : aRes} {x0 : Nat} {a1 : Value} {st : List Value} {σ : aS} : Rn sc d 176 135 [.ref x0, a1] st σ r ↔ Rn sc d 176 136 [.ref x0, a1] (.ref x0 :: st) σ r := r_aload_n d176_135 rfl
theorem d176_136 : decode (mC 176) 136 = .ok (.getfield 190, 3) := by decide +kernel
theorem x176_136 {sc : aSc} {d : Nat} {r : aRes} {L : List Value} {st : List Value} {f : Nat → Nat → Int32} {g : Nat → Nat → Int64} {h1 h2 : Nat} {o : Nat} (hK : KK[o]? = some (.inl 7)) (hR : (RR h1 h2 o 59).isSome = true) : Rn sc d 176 136 L (.ref o :: st) (cS f g h1 h2) r ↔ Rn sc d 176 139 L (.ref (rf h1 h2 o 59) :: st) (cS f g h1 h2) r := r_getR2 d176_136 (ci := 7) (k := 59) (by decide +kernel) (by decide +kernel) (fun _ => rfl) hK hR
theorem d176_139 : decode (mC 176) 139 = .ok (.iload_n 1, 1) := by decide +kernel
theorem x176_139 {sc : aSc} {d : Nat} {r : aRes} {a0 : Value} {x1 : Int32} {st : List Value} {σ : aS} : Rn sc d 176 139 [a0, .int x1] st σ r ↔ Rn sc d 176 140 [a0, .int x1] (.int x1 :: st) σ r := r_iload_n d176_139 rfl
theorem d176_140 : decode (mC 176) 140 = .ok (.iaload, 1) := by decide +kernel
theorem x176_140 {sc : aSc} {d : Nat} {r : aRes} {L : List Value} {st : List Value} {f : Nat → Nat → Int32} {g : Nat → Nat → Int64} {h1 h2 : Nat} {a : Nat} {i : Int32} (h17 : 17 ≤ a) (hA : isT9 .int a) (hi : inb i (aln a) = true) : Rn sc d 176 140 L (.int i :: .ref a :: st) (cS f g h1 h2) r ↔ Rn sc d 176 141 L (.int (f a i.toNatClampNeg) :: st) (cS f g h1 h2) r := r_iald d176_140 h17 hA hi
theorem d176_141 : decode (mC 176) 141 = .ok (.iastore, 1) := by decide +kernel
theorem x176_141 {sc : aSc} {d : Nat} {r : aRes} {L : List Value} {st : List Value} {f : Nat → Nat → Int32} {g : Nat → Nat → Int64} {h1 h2 : Nat} {a : Nat} {i : Int32} {x : Int32} (h17 : 17 ≤ a) (hA : isT9 .int a) (hi : inb i (aln a) = true) : Rn sc d 176 141 L (.int x :: .int i :: .ref a :: st) (cS f g h1 h2) r ↔ Rn sc d 176 142 L st (cS (u2 f a i.toNatClampNeg x) g h1 h2) r := r_iast d176_141 h17 hA hi
theorem d176_142 : decode (mC 176) 142 = .ok (.iinc 1 1, 3) := by decide +kernel
theorem x176_142 {sc : aSc} {d : Nat} {r : aRes} {x0 : Nat} {x1 : Int32} {st : List Value} {σ : aS} : Rn sc d 176 142 [.ref x0, .int x1] st σ r ↔ Rn sc d 176 145 [.ref x0, .int (x1 + 1)] st σ r := r_iinc d176_142 (Nat.le_of_ble_eq_true rfl) rfl rfl (by decide)
theorem d176_145 : decode (mC 176) 145 = .ok (.goto (-69), 3) := by decide +kernel
theorem x176_145 {sc : aSc} {d : Nat} {r : aRes} {L : List Value} {st : List Value} {σ : aS} : Rn sc d 176 145 L st σ r ↔ Rn sc d 176 76 L st σ r := r_goto d176_145 rfl
theorem d176_148 : decode (mC 176) 148 = .ok (.iconst 0, 1) := by decide +kernel
theorem x176_148 {sc : aSc} {d : Nat} {r : aRes} {L : List Value} {st : List Value} {σ : aS} : Rn sc d 176 148 L st σ r ↔ Rn sc d 176 149 L (.int 0 :: st) σ r := r_iconst d176_148 (by decide)
theorem d176_149 : decode (mC 176) 149 = .ok (.istore_n 1, 1) := by decide +kernel
theorem x176_149 {sc : aSc} {d : Nat} {r : aRes} {x0 : Nat} {a1 : Value} {st : List Value} {σ : aS} {y : Int32} : Rn sc d 176 149 [.ref x0, a1] (.int y :: st) σ r ↔ Rn sc d 176 150 [.ref x0, .int y] st σ r := r_istore_n d176_149 (Nat.le_of_ble_eq_true rfl) rfl
theorem d176_150 : decode (mC 176) 150 = .ok (.iload_n 1, 1) := by decide +kernel
theorem x176_150 {sc : aSc} {d : Nat} {r : aRes} {a0 : Value} {x1 : Int32} {st : List Value} {σ : aS} : Rn sc d 176 150 [a0, .int x1] st σ r ↔ Rn sc d 176 151 [a0, .int x1] (.int x1 :: st) σ r := r_iload_n d176_150 rfl
theorem d176_151 : decode (mC 176) 151 = .ok (.bipush 28, 2) := by decide +kernel
theorem x176_151 {sc : aSc} {d : Nat} {r : aRes} {L : List Value} {st : List Value} {σ : aS} : Rn sc d 176 151 L st σ r ↔ Rn sc d 176 153 L (.int 28 :: st) σ r := r_bipush d176_151 (by decide)
theorem d176_153 : decode (mC 176) 153 = .ok (.if_icmp .ge 21, 3) := by decide +kernel
theorem x176_153 {sc : aSc} {d : Nat} {r : aRes} {L : List Value} {st : List Value} {σ : aS} {x y : Int32} : Rn sc d 176 153 L (.int y :: .int x :: st) σ r ↔ if x < y then Rn sc d 176 156 L st σ r else Rn sc d 176 174 L st σ r := r_icmp_ge d176_153 rfl
theorem d176_156 : decode (mC 176) 156 = .ok (.aload_n 0, 1) := by decide +kernel
theorem x176_156 {sc : aSc} {d : Nat} {r : aRes} {x0 : Nat} {a1 : Value} {st : List Value} {σ : aS} : Rn sc d 176 156 [.ref x0, a1] st σ r ↔ Rn sc d 176 157 [.ref x0, a1] (.ref x0 :: st) σ r := r_aload_n d176_156 rfl
theorem d176_157 : decode (mC 176) 157 = .ok (.getfield 41, 3) := by decide +kernel
theorem x176_157 {sc : aSc} {d : Nat} {r : aRes} {L : List Value} {st : List Value} {f : Nat → Nat → Int32} {g : Nat → Nat → Int64} {h1 h2 : Nat} {o : Nat} (hK : KK[o]? = some (.inl 7)) (hR : (RR h1 h2 o 10).isSome = true) : Rn sc d 176 157 L (.ref o :: st) (cS f g h1 h2) r ↔ Rn sc d 176 160 L (.ref (rf h1 h2 o 10) :: st) (cS f g h1 h2) r := r_getR2 d176_157 (ci := 7) (k := 10) rfl (by decide) (fun _ => rfl) hK hR
theorem d176_160 : decode (mC 176) 160 = .ok (.iload_n 1, 1) := by decide +kernel
theorem x176_160 {sc : aSc} {d : Nat} {r : aRes} {a0 : Value} {x1 : Int32} {st : List Value} {σ : aS} : Rn sc d 176 160 [a0, .int x1] st σ r ↔ Rn sc d 176 161 [a0, .int x1] (.int x1 :: st) σ r := r_iload_n d176_160 rfl
theorem d176_161 : decode (mC 176) 161 = .ok (.aload_n 0, 1) := by decide +kernel
theorem x176_161 {sc : aSc} {d : Nat} {r : aRes} {x0 : Nat} {a1 : Value} {st : List Value} {σ : aS} : Rn sc d 176 161 [.ref x0, a1] st σ r ↔ Rn sc d 176 162 [.ref x0, a1] (.ref x0 :: st) σ r := r_aload_n d176_161 rfl
theorem d176_162 : decode (mC 176) 162 = .ok (.getfield 193, 3) := by decide +kernel
theorem x176_162 {sc : aSc} {d : Nat} {r : aRes} {L : List Value} {st : List Value} {f : Nat → Nat → Int32} {g : Nat → Nat → Int64} {h1 h2 : Nat} {o : Nat} (hK : KK[o]? = some (.inl 7)) (hR : (RR h1 h2 o 60).isSome = true) : Rn sc d 176 162 L (.ref o :: st) (cS f g h1 h2) r ↔ Rn sc d 176 165 L (.ref (rf h1 h2 o 60) :: st) (cS f g h1 h2) r := r_getR2 d176_162 (ci := 7) (k := 60) (by decide +kernel) (by decide +kernel) (fun _ => rfl) hK hR
theorem d176_165 : decode (mC 176) 165 = .ok (.iload_n 1, 1) := by decide +kernel
theorem x176_165 {sc : aSc} {d : Nat} {r : aRes} {a0 : Value} {x1 : Int32} {st : List Value} {σ : aS} : Rn sc d 176 165 [a0, .int x1] st σ r ↔ Rn sc d 176 166 [a0, .int x1] (.int x1 :: st) σ r := r_iload_n d176_165 rfl
theorem d176_166 : decode (mC 176) 166 = .ok (.iaload, 1) := by decide +kernel
theorem x176_166 {sc : aSc} {d : Nat} {r : aRes} {L : List Value} {st : List Value} {f : Nat → Nat → Int32} {g : Nat → Nat → Int64} {h1 h2 : Nat} {a : Nat} {i : Int32} (h17 : 17 ≤ a) (hA : isT9 .int a) (hi : inb i (aln a) = true) : Rn sc d 176 166 L (.int i :: .ref a :: st) (cS f g h1 h2) r ↔ Rn sc d 176 167 L (.int (f a i.toNatClampNeg) :: st) (cS f g h1 h2) r := r_iald d176_166 h17 hA hi
theorem d176_167 : decode (mC 176) 167 = .ok (.iastore, 1) := by decide +kernel
theorem x176_167 {sc : aSc} {d : Nat} {r : aRes} {L : List Value} {st : List Value} {f : Nat → Nat → Int32} {g : Nat → Nat → Int64} {h1 h2 : Nat} {a : Nat} {i : Int32} {x : Int32} (h17 : 17 ≤ a) (hA : isT9 .int a) (hi : inb i (aln a) = true) : Rn sc d 176 167 L (.int x :: .int i :: .ref a :: st) (cS f g h1 h2) r ↔ Rn sc d 176 168 L st (cS (u2 f a i.toNatClampNeg x) g h1 h2) r := r_iast d176_167 h17 hA hi
theorem d176_168 : decode (mC 176) 168 = .ok (.iinc 1 1, 3) := by decide +kernel
theorem x176_168 {sc : aSc} {d : Nat} {r : aRes} {x0 : Nat} {x1 : Int32} {st : List Value} {σ : aS} : Rn sc d 176 168 [.ref x0, .int x1] st σ r ↔ Rn sc d 176 171 [.ref x0, .int (x1 + 1)] st σ r := r_iinc d176_168 (Nat.le_of_ble_eq_true rfl) rfl rfl (by decide)
theorem d176_171 : decode (mC 176) 171 = .ok (.goto (-21), 3) := by decide +kernel
theorem x176_171 {sc : aSc} {d : Nat} {r : aRes} {L : List Value} {st : List Value} {σ : aS} : Rn sc d 176 171 L st σ r ↔ Rn sc d 176 150 L st σ r := r_goto d176_171 rfl
theorem d176_174 : decode (mC 176) 174 = .ok (.iconst 0, 1) := by decide +kernel
theorem x176_174 {sc : aSc} {d : Nat} {r : aRes} {L : List Value} {st : List Value} {σ : aS} : Rn sc d 176 174 L st σ r ↔ Rn sc d 176 175 L (.int 0 :: st) σ r := r_iconst d176_174 (by decide)
theorem d176_175 : decode (mC 176) 175 = .ok (.istore_n 1, 1) := by decide +kernel
theorem x176_175 {sc : aSc} {d : Nat} {r : aRes} {x0 : Nat} {a1 : Value} {st : List Value} {σ : aS} {y : Int32} : Rn sc d 176 175 [.ref x0, a1] (.int y :: st) σ r ↔ Rn sc d 176 176 [.ref x0, .int y] st σ r := r_istore_n d176_175 (Nat.le_of_ble_eq_true rfl) rfl
theorem d176_176 : decode (mC 176) 176 = .ok (.iload_n 1, 1) := by decide +kernel
theorem x176_176 {sc : aSc} {d : Nat} {r : aRes} {a0 : Value} {x1 : Int32} {st : List Value} {σ : aS} : Rn sc d 176 176 [a0, .int x1] st σ r ↔ Rn sc d 176 177 [a0, .int x1] (.int x1 :: st) σ r := r_iload_n d176_176 rfl
theorem d176_177 : decode (mC 176) 177 = .ok (.bipush 12, 2) := by decide +kernel
theorem x176_177 {sc : aSc} {d : Nat} {r : aRes} {L : List Value} {st : List Value} {σ : aS} : Rn sc d 176 177 L st σ r ↔ Rn sc d 176 179 L (.int 12 :: st) σ r := r_bipush d176_177 (by decide)
theorem d176_179 : decode (mC 176) 179 = .ok (.if_icmp .ge 57, 3) := by decide +kernel
theorem x176_179 {sc : aSc} {d : Nat} {r : aRes} {L : List Value} {st : List Value} {σ : aS} {x y : Int32} : Rn sc d 176 179 L (.int y :: .int x :: st) σ r ↔ if x < y then Rn sc d 176 182 L st σ r else Rn sc d 176 236 L st σ r := r_icmp_ge d176_179 rfl
theorem d176_182 : decode (mC 176) 182 = .ok (.aload_n 0, 1) := by decide +kernel
theorem x176_182 {sc : aSc} {d : Nat} {r : aRes} {x0 : Nat} {a1 : Value} {st : List Value} {σ : aS} : Rn sc d 176 182 [.ref x0, a1] st σ r ↔ Rn sc d 176 183 [.ref x0, a1] (.ref x0 :: st) σ r := r_aload_n d176_182 rfl
theorem d176_183 : decode (mC 176) 183 = .ok (.getfield 135, 3) := by decide +kernel
theorem x176_183 {sc : aSc} {d : Nat} {r : aRes} {L : List Value} {st : List Value} {f : Nat → Nat → Int32} {g : Nat → Nat → Int64} {h1 h2 : Nat} {o : Nat} (hK : KK[o]? = some (.inl 7)) (hR : (RR h1 h2 o 41).isSome = true) : Rn sc d 176 183 L (.ref o :: st) (cS f g h1 h2) r ↔ Rn sc d 176 186 L (.ref (rf h1 h2 o 41) :: st) (cS f g h1 h2) r := r_getR2 d176_183 (ci := 7) (k := 41) (by decide +kernel) (by decide +kernel) (fun _ => rfl) hK hR
theorem d176_186 : decode (mC 176) 186 = .ok (.iload_n 1, 1) := by decide +kernel
theorem x176_186 {sc : aSc} {d : Nat} {r : aRes} {a0 : Value} {x1 : Int32} {st : List Value} {σ : aS} : Rn sc d 176 186 [a0, .int x1] st σ r ↔ Rn sc d 176 187 [a0, .int x1] (.int x1 :: st) σ r := r_iload_n d176_186 rfl
theorem d176_187 : decode (mC 176) 187 = .ok (.aload_n 0, 1) := by decide +kernel
theorem x176_187 {sc : aSc} {d : Nat} {r : aRes} {x0 : Nat} {a1 : Value} {st : List Value} {σ : aS} : Rn sc d 176 187 [.ref x0, a1] st σ r ↔ Rn sc d 176 188 [.ref x0, a1] (.ref x0 :: st) σ r := r_aload_n d176_187 rfl
theorem d176_188 : decode (mC 176) 188 = .ok (.getfield 196, 3) := by decide +kernel
theorem x176_188 {sc : aSc} {d : Nat} {r : aRes} {L : List Value} {st : List Value} {f : Nat → Nat → Int32} {g : Nat → Nat → Int64} {h1 h2 : Nat} {o : Nat} (hK : KK[o]? = some (.inl 7)) (hR : (RR h1 h2 o 61).isSome = true) : Rn sc d 176 188 L (.ref o :: st) (cS f g h1 h2) r ↔ Rn sc d 176 191 L (.ref (rf h1 h2 o 61) :: st) (cS f g h1 h2) r := r_getR2 d176_188 (ci := 7) (k := 61) (by decide +kernel) (by decide +kernel) (fun _ => rfl) hK hR
theorem d176_191 : decode (mC 176) 191 = .ok (.iload_n 1, 1) := by decide +kernel
theorem x176_191 {sc : aSc} {d : Nat} {r : aRes} {a0 : Value} {x1 : Int32} {st : List Value} {σ : aS} : Rn sc d 176 191 [a0, .int x1] st σ r ↔ Rn sc d 176 192 [a0, .int x1] (.int x1 :: st) σ r := r_iload_n d176_191 rfl
theorem d176_192 : decode (mC 176) 192 = .ok (.iaload, 1) := by decide +kernel
theorem x176_192 {sc : aSc} {d : Nat} {r : aRes} {L : List Value} {st : List Value} {f : Nat → Nat → Int32} {g : Nat → Nat → Int64} {h1 h2 : Nat} {a : Nat} {i : Int32} (h17 : 17 ≤ a) (hA : isT9 .int a) (hi : inb i (aln a) = true) : Rn sc d 176 192 L (.int i :: .ref a :: st) (cS f g h1 h2) r ↔ Rn sc d 176 193 L (.int (f a i.toNatClampNeg) :: st) (cS f g h1 h2) r := r_iald d176_192 h17 hA hi
theorem d176_193 : decode (mC 176) 193 = .ok (.iastore, 1) := by decide +kernel
theorem x176_193 {sc : aSc} {d : Nat} {r : aRes} {L : List Value} {st : List Value} {f : Nat → Nat → Int32} {g : Nat → Nat → Int64} {h1 h2 : Nat} {a : Nat} {i : Int32} {x : Int32} (h17 : 17 ≤ a) (hA : isT9 .int a) (hi : inb i (aln a) = true) : Rn sc d 176 193 L (.int x :: .int i :: .ref a :: st) (cS f g h1 h2) r ↔ Rn sc d 176 194 L st (cS (u2 f a i.toNatClampNeg x) g h1 h2) r := r_iast d176_193 h17 hA hi
theorem d176_194 : decode (mC 176) 194 = .ok (.aload_n 0, 1) := by decide +kernel
theorem x176_194 {sc : aSc} {d : Nat} {r : aRes} {x0 : Nat} {a1 : Value} {st : List Value} {σ : aS} : Rn sc d 176 194 [.ref x0, a1] st σ r ↔ Rn sc d 176 195 [.ref x0, a1] (.ref x0 :: st) σ r := r_aload_n d176_194 rfl
theorem d176_195 : decode (mC 176) 195 = .ok (.getfield 138, 3) := by decide +kernel
theorem x176_195 {sc : aSc} {d : Nat} {r : aRes} {L : List Value} {st : List Value} {f : Nat → Nat → Int32} {g : Nat → Nat → Int64} {h1 h2 : Nat} {o : Nat} (hK : KK[o]? = some (.inl 7)) (hR : (RR h1 h2 o 42).isSome = true) : Rn sc d 176 195 L (.ref o :: st) (cS f g h1 h2) r ↔ Rn sc d 176 198 L (.ref (rf h1 h2 o 42) :: st) (cS f g h1 h2) r := r_getR2 d176_195 (ci := 7) (k := 42) (by decide +kernel) (by decide +kernel) (fun _ => rfl) hK hR
theorem d176_198 : decode (mC 176) 198 = .ok (.iload_n 1, 1) := by decide +kernel
theorem x176_198 {sc : aSc} {d : Nat} {r : aRes} {a0 : Value} {x1 : Int32} {st : List Value} {σ : aS} : Rn sc d 176 198 [a0, .int x1] st σ r ↔ Rn sc d 176 199 [a0, .int x1] (.int x1 :: st) σ r := r_iload_n d176_198 rfl
theorem d176_199 : decode (mC 176) 199 = .ok (.aload_n 0, 1) := by decide +kernel
theorem x176_199 {sc : aSc} {d : Nat} {r : aRes} {x0 : Nat} {a1 : Value} {st : List Value} {σ : aS} : Rn sc d 176 199 [.ref x0, a1] st σ r ↔ Rn sc d 176 200 [.ref x0, a1] (.ref x0 :: st) σ r := r_aload_n d176_199 rfl
theorem d176_200 : decode (mC 176) 200 = .ok (.getfield 199, 3) := by decide +kernel
theorem x176_200 {sc : aSc} {d : Nat} {r : aRes} {L : List Value} {st : List Value} {f : Nat → Nat → Int32} {g : Nat → Nat → Int64} {h1 h2 : Nat} {o : Nat} (hK : KK[o]? = some (.inl 7)) (hR : (RR h1 h2 o 62).isSome = true) : Rn sc d 176 200 L (.ref o :: st) (cS f g h1 h2) r ↔ Rn sc d 176 203 L (.ref (rf h1 h2 o 62) :: st) (cS f g h1 h2) r := r_getR2 d176_200 (ci := 7) (k := 62) (by decide +kernel) (by decide +kernel) (fun _ => rfl) hK hR
theorem d176_203 : decode (mC 176) 203 = .ok (.iload_n 1, 1) := by decide +kernel
theorem x176_203 {sc : aSc} {d : Nat} {r : aRes} {a0 : Value} {x1 : Int32} {st : List Value} {σ : aS} : Rn sc d 176 203 [a0, .int x1] st σ r ↔ Rn sc d 176 204 [a0, .int x1] (.int x1 :: st) σ r := r_iload_n d176_203 rfl
theorem d176_204 : decode (mC 176) 204 = .ok (.iaload, 1) := by decide +kernel
theorem x176_204 {sc : aSc} {d : Nat} {r : aRes} {L : List Value} {st : List Value} {f : Nat → Nat → Int32} {g : Nat → Nat → Int64} {h1 h2 : Nat} {a : Nat} {i : Int32} (h17 : 17 ≤ a) (hA : isT9 .int a) (hi : inb i (aln a) = true) : Rn sc d 176 204 L (.int i :: .ref a :: st) (cS f g h1 h2) r ↔ Rn sc d 176 205 L (.int (f a i.toNatClampNeg) :: st) (cS f g h1 h2) r := r_iald d176_204 h17 hA hi
theorem d176_205 : decode (mC 176) 205 = .ok (.iastore, 1) := by decide +kernel
theorem x176_205 {sc : aSc} {d : Nat} {r : aRes} {L : List Value} {st : List Value} {f : Nat → Nat → Int32} {g : Nat → Nat → Int64} {h1 h2 : Nat} {a : Nat} {i : Int32} {x : Int32} (h17 : 17 ≤ a) (hA : isT9 .int a) (hi : inb i (aln a) = true) : Rn sc d 176 205 L (.int x :: .int i :: .ref a :: st) (cS f g h1 h2) r ↔ Rn sc d 176 206 L st (cS (u2 f a i.toNatClampNeg x) g h1 h2) r := r_iast d176_205 h17 hA hi
theorem d176_206 : decode (mC 176) 206 = .ok (.aload_n 0, 1) := by decide +kernel
theorem x176_206 {sc : aSc} {d : Nat} {r : aRes} {x0 : Nat} {a1 : Value} {st : List Value} {σ : aS} : Rn sc d 176 206 [.ref x0, a1] st σ r ↔ Rn sc d 176 207 [.ref x0, a1] (.ref x0 :: st) σ r := r_aload_n d176_206 rfl
theorem d176_207 : decode (mC 176) 207 = .ok (.getfield 144, 3) := by decide +kernel
theorem x176_207 {sc : aSc} {d : Nat} {r : aRes} {L : List Value} {st : List Value} {f : Nat → Nat → Int32} {g : Nat → Nat → Int64} {h1 h2 : Nat} {o : Nat} (hK : KK[o]? = some (.inl 7)) (hR : (RR h1 h2 o 44).isSome = true) : Rn sc d 176 207 L (.ref o :: st) (cS f g h1 h2) r ↔ Rn sc d 176 210 L (.ref (rf h1 h2 o 44) :: st) (cS f g h1 h2) r := r_getR2 d176_207 (ci := 7) (k := 44) (by decide +kernel) (by decide +kernel) (fun _ => rfl) hK hR
theorem d176_210 : decode (mC 176) 210 = .ok (.iload_n 1, 1) := by decide +kernel
theorem x176_210 {sc : aSc} {d : Nat} {r : aRes} {a0 : Value} {x1 : Int32} {st : List Value} {σ : aS} : Rn sc d 176 210 [a0, .int x1] st σ r ↔ Rn sc d 176 211 [a0, .int x1] (.int x1 :: st) σ r := r_iload_n d176_210 rfl
theorem d176_211 : decode (mC 176) 211 = .ok (.aload_n 0, 1) := by decide +kernel
theorem x176_211 {sc : aSc} {d : Nat} {r : aRes} {x0 : Nat} {a1 : Value} {st : List Value} {σ : aS} : Rn sc d 176 211 [.ref x0, a1] st σ r ↔ Rn sc d 176 212 [.ref x0, a1] (.ref x0 :: st) σ r := r_aload_n d176_211 rfl
theorem d176_212 : decode (mC 176) 212 = .ok (.getfield 202, 3) := by decide +kernel
theorem x176_212 {sc : aSc} {d : Nat} {r : aRes} {L : List Value} {st : List Value} {f : Nat → Nat → Int32} {g : Nat → Nat → Int64} {h1 h2 : Nat} {o : Nat} (hK : KK[o]? = some (.inl 7)) (hR : (RR h1 h2 o 63).isSome = true) : Rn sc d 176 212 L (.ref o :: st) (cS f g h1 h2) r ↔ Rn sc d 176 215 L (.ref (rf h1 h2 o 63) :: st) (cS f g h1 h2) r := r_getR2 d176_212 (ci := 7) (k := 63) (by decide +kernel) (by decide +kernel) (fun _ => rfl) hK hR
theorem d176_215 : decode (mC 176) 215 = .ok (.iload_n 1, 1) := by decide +kernel
theorem x176_215 {sc : aSc} {d : Nat} {r : aRes} {a0 : Value} {x1 : Int32} {st : List Value} {σ : aS} : Rn sc d 176 215 [a0, .int x1] st σ r ↔ Rn sc d 176 216 [a0, .int x1] (.int x1 :: st) σ r := r_iload_n d176_215 rfl
theorem d176_216 : decode (mC 176) 216 = .ok (.iaload, 1) := by decide +kernel
theorem x176_216 {sc : aSc} {d : Nat} {r : aRes} {L : List Value} {st : List Value} {f : Nat → Nat → Int32} {g : Nat → Nat → Int64} {h1 h2 : Nat} {a : Nat} {i : Int32} (h17 : 17 ≤ a) (hA : isT9 .int a) (hi : inb i (aln a) = true) : Rn sc d 176 216 L (.int i :: .ref a :: st) (cS f g h1 h2) r ↔ Rn sc d 176 217 L (.int (f a i.toNatClampNeg) :: st) (cS f g h1 h2) r := r_iald d176_216 h17 hA hi
theorem d176_217 : decode (mC 176) 217 = .ok (.iastore, 1) := by decide +kernel
theorem x176_217 {sc : aSc} {d : Nat} {r : aRes} {L : List Value} {st : List Value} {f : Nat → Nat → Int32} {g : Nat → Nat → Int64} {h1 h2 : Nat} {a : Nat} {i : Int32} {x : Int32} (h17 : 17 ≤ a) (hA : isT9 .int a) (hi : inb i (aln a) = true) : Rn sc d 176 217 L (.int x :: .int i :: .ref a :: st) (cS f g h1 h2) r ↔ Rn sc d 176 218 L st (cS (u2 f a i.toNatClampNeg x) g h1 h2) r := r_iast d176_217 h17 hA hi
theorem d176_218 : decode (mC 176) 218 = .ok (.aload_n 0, 1) := by decide +kernel
theorem x176_218 {sc : aSc} {d : Nat} {r : aRes} {x0 : Nat} {a1 : Value} {st : List Value} {σ : aS} : Rn sc d 176 218 [.ref x0, a1] st σ r ↔ Rn sc d 176 219 [.ref x0, a1] (.ref x0 :: st) σ r := r_aload_n d176_218 rfl
theorem d176_219 : decode (mC 176) 219 = .ok (.getfield 147, 3) := by decide +kernel
theorem x176_219 {sc : aSc} {d : Nat} {r : aRes} {L : List Value} {st : List Value} {f : Nat → Nat → Int32} {g : Nat → Nat → Int64} {h1 h2 : Nat} {o : Nat} (hK : KK[o]? = some (.inl 7)) (hR : (RR h1 h2 o 45).isSome = true) : Rn sc d 176 219 L (.ref o :: st) (cS f g h1 h2) r ↔ Rn sc d 176 222 L (.ref (rf h1 h2 o 45) :: st) (cS f g h1 h2) r := r_getR2 d176_219 (ci := 7) (k := 45) (by decide +kernel) (by decide +kernel) (fun _ => rfl) hK hR
theorem d176_222 : decode (mC 176) 222 = .ok (.iload_n 1, 1) := by decide +kernel
theorem x176_222 {sc : aSc} {d : Nat} {r : aRes} {a0 : Value} {x1 : Int32} {st : List Value} {σ : aS} : Rn sc d 176 222 [a0, .int x1] st σ r ↔ Rn sc d 176 223 [a0, .int x1] (.int x1 :: st) σ r := r_iload_n d176_222 rfl
theorem d176_223 : decode (mC 176) 223 = .ok (.aload_n 0, 1) := by decide +kernel
theorem x176_223 {sc : aSc} {d : Nat} {r : aRes} {x0 : Nat} {a1 : Value} {st : List Value} {σ : aS} : Rn sc d 176 223 [.ref x0, a1] st σ r ↔ Rn sc d 176 224 [.ref x0, a1] (.ref x0 :: st) σ r := r_aload_n d176_223 rfl
theorem d176_224 : decode (mC 176) 224 = .ok (.getfield 205, 3) := by decide +kernel
theorem x176_224 {sc : aSc} {d : Nat} {r : aRes} {L : List Value} {st : List Value} {f : Nat → Nat → Int32} {g : Nat → Nat → Int64} {h1 h2 : Nat} {o : Nat} (hK : KK[o]? = some (.inl 7)) (hR : (RR h1 h2 o 64).isSome = true) : Rn sc d 176 224 L (.ref o :: st) (cS f g h1 h2) r ↔ Rn sc d 176 227 L (.ref (rf h1 h2 o 64) :: st) (cS f g h1 h2) r := r_getR2 d176_224 (ci := 7) (k := 64) (by decide +kernel) (by decide +kernel) (fun _ => rfl) hK hR
theorem d176_227 : decode (mC 176) 227 = .ok (.iload_n 1, 1) := by decide +kernel
theorem x176_227 {sc : aSc} {d : Nat} {r : aRes} {a0 : Value} {x1 : Int32} {st : List Value} {σ : aS} : Rn sc d 176 227 [a0, .int x1] st σ r ↔ Rn sc d 176 228 [a0, .int x1] (.int x1 :: st) σ r := r_iload_n d176_227 rfl
theorem d176_228 : decode (mC 176) 228 = .ok (.iaload, 1) := by decide +kernel
theorem x176_228 {sc : aSc} {d : Nat} {r : aRes} {L : List Value} {st : List Value} {f : Nat → Nat → Int32} {g : Nat → Nat → Int64} {h1 h2 : Nat} {a : Nat} {i : Int32} (h17 : 17 ≤ a) (hA : isT9 .int a) (hi : inb i (aln a) = true) : Rn sc d 176 228 L (.int i :: .ref a :: st) (cS f g h1 h2) r ↔ Rn sc d 176 229 L (.int (f a i.toNatClampNeg) :: st) (cS f g h1 h2) r := r_iald d176_228 h17 hA hi
theorem d176_229 : decode (mC 176) 229 = .ok (.iastore, 1) := by decide +kernel
theorem x176_229 {sc : aSc} {d : Nat} {r : aRes} {L : List Value} {st : List Value} {f : Nat → Nat → Int32} {g : Nat → Nat → Int64} {h1 h2 : Nat} {a : Nat} {i : Int32} {x : Int32} (h17 : 17 ≤ a) (hA : isT9 .int a) (hi : inb i (aln a) = true) : Rn sc d 176 229 L (.int x :: .int i :: .ref a :: st) (cS f g h1 h2) r ↔ Rn sc d 176 230 L st (cS (u2 f a i.toNatClampNeg x) g h1 h2) r := r_iast d176_229 h17 hA hi
theorem d176_230 : decode (mC 176) 230 = .ok (.iinc 1 1, 3) := by decide +kernel
theorem x176_230 {sc : aSc} {d : Nat} {r : aRes} {x0 : Nat} {x1 : Int32} {st : List Value} {σ : aS} : Rn sc d 176 230 [.ref x0, .int x1] st σ r ↔ Rn sc d 176 233 [.ref x0, .int (x1 + 1)] st σ r := r_iinc d176_230 (Nat.le_of_ble_eq_true rfl) rfl rfl (by decide)
theorem d176_233 : decode (mC 176) 233 = .ok (.goto (-57), 3) := by decide +kernel
theorem x176_233 {sc : aSc} {d : Nat} {r : aRes} {L : List Value} {st : List Value} {σ : aS} : Rn sc d 176 233 L st σ r ↔ Rn sc d 176 176 L st σ r := r_goto d176_233 rfl
theorem d176_236 : decode (mC 176) 236 = .ok (.aload_n 0, 1) := by decide +kernel
theorem x176_236 {sc : aSc} {d : Nat} {r : aRes} {x0 : Nat} {a1 : Value} {st : List Value} {σ : aS} : Rn sc d 176 236 [.ref x0, a1] st σ r ↔ Rn sc d 176 237 [.ref x0, a1] (.ref x0 :: st) σ r := r_aload_n d176_236 rfl
theorem d176_237 : decode (mC 176) 237 = .ok (.getfield 7, 3) := by decide +kernel
theorem x176_237 {sc : aSc} {d : Nat} {r : aRes} {L : List Value} {st : List Value} {f : Nat → Nat → Int32} {g : Nat → Nat → Int64} {h1 h2 : Nat} {o : Nat} (h17 : 17 ≤ o) (hK : KK[o]? = some (.inl 7)) : Rn sc d 176 237 L (.ref o :: st) (cS f g h1 h2) r ↔ Rn sc d 176 240 L (.int (f o 0) :: st) (cS f g h1 h2) r := r_getI d176_237 (ci := 7) (k := 0) rfl (by decide) (fun _ => rfl) h17 hK
theorem d176_240 : decode (mC 176) 240 = .ok (.ireturn, 1) := by decide +kernel
theorem x176_240 {sc : aSc} {d : Nat} {r : aRes} {L : List Value} {σ : aS} {x : Int32} : Rn sc d 176 240 L [.int x] σ r ↔ r = (σ, some (.int x)) := r_iret d176_240 rfl rfl
