/-! a row an instruction (written by wip/whole/mk16.py) -/
theorem d177_0 : decode (mC 177) 0 = .ok (.aload_n 0, 1) := by decide +kernel
theorem x177_0 {sc : aSc} {d : Nat} {r : aRes} {x0 : Nat} {a1 : Value} {st : List Value} {σ : aS} : Rn sc d 177 0 [.ref x0, a1] st σ r ↔ Rn sc d 177 1 [.ref x0, a1] (.ref x0 :: st) σ r := r_aload_n d177_0 rfl
theorem d177_1 : decode (mC 177) 1 = .ok (.getfield 208, 3) := by decide +kernel
theorem x177_1 {sc : aSc} {d : Nat} {r : aRes} {L : List Value} {st : List Value} {f : Nat → Nat → Int32} {g : Nat → Nat → Int64} {h1 h2 : Nat} {o : Nat} (h17 : 17 ≤ o) (hK : KK[o]? = some (.inl 7)) : Rn sc d 177 1 L (.ref o :: st) (cS f g h1 h2) r ↔ Rn sc d 177 4 L (.int (f o 65) :: st) (cS f g h1 h2) r := r_getI d177_1 (ci := 7) (k := 65) (by decide +kernel) (by decide +kernel) (fun _ => rfl) h17 hK
theorem d177_4 : decode (mC 177) 4 = .ok (.bipush 20, 2) := by decide +kernel
theorem x177_4 {sc : aSc} {d : Nat} {r : aRes} {L : List Value} {st : List Value} {σ : aS} : Rn sc d 177 4 L st σ r ↔ Rn sc d 177 6 L (.int 20 :: st) σ r := r_bipush d177_4 (by decide)
theorem d177_6 : decode (mC 177) 6 = .ok (.if_icmp .ge 13, 3) := by decide +kernel
theorem x177_6 {sc : aSc} {d : Nat} {r : aRes} {L : List Value} {st : List Value} {σ : aS} {x y : Int32} : Rn sc d 177 6 L (.int y :: .int x :: st) σ r ↔ if x < y then Rn sc d 177 9 L st σ r else Rn sc d 177 19 L st σ r := r_icmp_ge d177_6 rfl
theorem d177_9 : decode (mC 177) 9 = .ok (.aload_n 0, 1) := by decide +kernel
theorem x177_9 {sc : aSc} {d : Nat} {r : aRes} {x0 : Nat} {a1 : Value} {st : List Value} {σ : aS} : Rn sc d 177 9 [.ref x0, a1] st σ r ↔ Rn sc d 177 10 [.ref x0, a1] (.ref x0 :: st) σ r := r_aload_n d177_9 rfl
theorem d177_10 : decode (mC 177) 10 = .ok (.getfield 211, 3) := by decide +kernel
theorem x177_10 {sc : aSc} {d : Nat} {r : aRes} {L : List Value} {st : List Value} {f : Nat → Nat → Int32} {g : Nat → Nat → Int64} {h1 h2 : Nat} {o : Nat} (hK : KK[o]? = some (.inl 7)) (hR : (RR h1 h2 o 66).isSome = true) : Rn sc d 177 10 L (.ref o :: st) (cS f g h1 h2) r ↔ Rn sc d 177 13 L (.ref (rf h1 h2 o 66) :: st) (cS f g h1 h2) r := r_getR2 d177_10 (ci := 7) (k := 66) (by decide +kernel) (by decide +kernel) (fun _ => rfl) hK hR
theorem d177_13 : decode (mC 177) 13 = .ok (.aload_n 0, 1) := by decide +kernel
theorem x177_13 {sc : aSc} {d : Nat} {r : aRes} {x0 : Nat} {a1 : Value} {st : List Value} {σ : aS} : Rn sc d 177 13 [.ref x0, a1] st σ r ↔ Rn sc d 177 14 [.ref x0, a1] (.ref x0 :: st) σ r := r_aload_n d177_13 rfl
theorem d177_14 : decode (mC 177) 14 = .ok (.getfield 208, 3) := by decide +kernel
theorem x177_14 {sc : aSc} {d : Nat} {r : aRes} {L : List Value} {st : List Value} {f : Nat → Nat → Int32} {g : Nat → Nat → Int64} {h1 h2 : Nat} {o : Nat} (h17 : 17 ≤ o) (hK : KK[o]? = some (.inl 7)) : Rn sc d 177 14 L (.ref o :: st) (cS f g h1 h2) r ↔ Rn sc d 177 17 L (.int (f o 65) :: st) (cS f g h1 h2) r := r_getI d177_14 (ci := 7) (k := 65) (by decide +kernel) (by decide +kernel) (fun _ => rfl) h17 hK
theorem d177_17 : decode (mC 177) 17 = .ok (.iload_n 1, 1) := by decide +kernel
theorem x177_17 {sc : aSc} {d : Nat} {r : aRes} {a0 : Value} {x1 : Int32} {st : List Value} {σ : aS} : Rn sc d 177 17 [a0, .int x1] st σ r ↔ Rn sc d 177 18 [a0, .int x1] (.int x1 :: st) σ r := r_iload_n d177_17 rfl
theorem d177_18 : decode (mC 177) 18 = .ok (.iastore, 1) := by decide +kernel
theorem x177_18 {sc : aSc} {d : Nat} {r : aRes} {L : List Value} {st : List Value} {f : Nat → Nat → Int32} {g : Nat → Nat → Int64} {h1 h2 : Nat} {a : Nat} {i : Int32} {x : Int32} (h17 : 17 ≤ a) (hA : isT9 .int a) (hi : inb i (aln a) = true) : Rn sc d 177 18 L (.int x :: .int i :: .ref a :: st) (cS f g h1 h2) r ↔ Rn sc d 177 19 L st (cS (u2 f a i.toNatClampNeg x) g h1 h2) r := r_iast d177_18 h17 hA hi
theorem d177_19 : decode (mC 177) 19 = .ok (.aload_n 0, 1) := by decide +kernel
theorem x177_19 {sc : aSc} {d : Nat} {r : aRes} {x0 : Nat} {a1 : Value} {st : List Value} {σ : aS} : Rn sc d 177 19 [.ref x0, a1] st σ r ↔ Rn sc d 177 20 [.ref x0, a1] (.ref x0 :: st) σ r := r_aload_n d177_19 rfl
theorem d177_20 : decode (mC 177) 20 = .ok (.dup, 1) := by decide +kernel
theorem x177_20 {sc : aSc} {d : Nat} {r : aRes} {L : List Value} {st : List Value} {σ : aS} {y : Nat} : Rn sc d 177 20 L (.ref y :: st) σ r ↔ Rn sc d 177 21 L (.ref y :: .ref y :: st) σ r := r_dup d177_20 rfl
theorem d177_21 : decode (mC 177) 21 = .ok (.getfield 208, 3) := by decide +kernel
theorem x177_21 {sc : aSc} {d : Nat} {r : aRes} {L : List Value} {st : List Value} {f : Nat → Nat → Int32} {g : Nat → Nat → Int64} {h1 h2 : Nat} {o : Nat} (h17 : 17 ≤ o) (hK : KK[o]? = some (.inl 7)) : Rn sc d 177 21 L (.ref o :: st) (cS f g h1 h2) r ↔ Rn sc d 177 24 L (.int (f o 65) :: st) (cS f g h1 h2) r := r_getI d177_21 (ci := 7) (k := 65) (by decide +kernel) (by decide +kernel) (fun _ => rfl) h17 hK
theorem d177_24 : decode (mC 177) 24 = .ok (.iconst 1, 1) := by decide +kernel
theorem x177_24 {sc : aSc} {d : Nat} {r : aRes} {L : List Value} {st : List Value} {σ : aS} : Rn sc d 177 24 L st σ r ↔ Rn sc d 177 25 L (.int 1 :: st) σ r := r_iconst d177_24 (by decide)
theorem d177_25 : decode (mC 177) 25 = .ok (.iadd, 1) := by decide +kernel
theorem x177_25 {sc : aSc} {d : Nat} {r : aRes} {L : List Value} {st : List Value} {σ : aS} {x y : Int32} : Rn sc d 177 25 L (.int y :: .int x :: st) σ r ↔ Rn sc d 177 26 L (.int (x + y) :: st) σ r := r_iadd d177_25
theorem d177_26 : decode (mC 177) 26 = .ok (.putfield 208, 3) := by decide +kernel
theorem x177_26 {sc : aSc} {d : Nat} {r : aRes} {L : List Value} {st : List Value} {f : Nat → Nat → Int32} {g : Nat → Nat → Int64} {h1 h2 : Nat} {o : Nat} {v : Int32} (h17 : 17 ≤ o) (hK : KK[o]? = some (.inl 7)) : Rn sc d 177 26 L (.int v :: .ref o :: st) (cS f g h1 h2) r ↔ Rn sc d 177 29 L st (cS (u2 f o 65 v) g h1 h2) r := r_putI d177_26 (ci := 7) (k := 65) (by decide +kernel) (by decide +kernel) h17 hK
theorem d177_29 : decode (mC 177) 29 = .ok (.return_, 1) := by decide +kernel
theorem x177_29 {sc : aSc} {d : Nat} {r : aRes} {L : List Value} {σ : aS} : Rn sc d 177 29 L [] σ r ↔ r = (σ, none) := r_vret d177_29 rfl
theorem d178_0 : decode (mC 178) 0 = .ok (.aload_n 0, 1) := by decide +kernel
theorem x178_0 {sc : aSc} {d : Nat} {r : aRes} {x0 : Nat} {a1 : Value} {a2 : Value} {st : List Value} {σ : aS} : Rn sc d 178 0 [.ref x0, a1, a2] st σ r ↔ Rn sc d 178 1 [.ref x0, a1, a2] (.ref x0 :: st) σ r := r_aload_n d178_0 rfl
theorem d178_1 : decode (mC 178) 1 = .ok (.bipush 10, 2) := by decide +kernel
theorem x178_1 {sc : aSc} {d : Nat} {r : aRes} {L : List Value} {st : List Value} {σ : aS} : Rn sc d 178 1 L st σ r ↔ Rn sc d 178 3 L (.int 10 :: st) σ r := r_bipush d178_1 (by decide)
theorem d178_3 : decode (mC 178) 3 = .ok (.invokevirtual 366, 3) := by decide +kernel
theorem x178_3 {sc : aSc} {d : Nat} {r : aRes} {L : List Value} {f : Nat → Nat → Int32} {g : Nat → Nat → Int64} {h1 h2 : Nat} {y0 : Int32}  {o : Nat} (hK : KK[o]? = some (.inl 7)) : Rn sc d 178 3 L [.int y0, .ref o] (cS f g h1 h2) r ↔ ∃ (σ3 : aS) (v : Option Value), Cl sc d 177 [.ref o, .int y0] (cS f g h1 h2) (σ3, v) ∧ Rn sc d 178 6 L (v.toList ++ []) σ3 r := r_callV (vs := [.int y0]) d178_3 (j := 177) (by decide +kernel) ⟨rfl, by decide, rfl, rfl⟩ (Nat.le_of_ble_eq_true rfl) hK
theorem d178_6 : decode (mC 178) 6 = .ok (.iload_n 2, 1) := by decide +kernel
theorem x178_6 {sc : aSc} {d : Nat} {r : aRes} {a0 : Value} {a1 : Value} {x2 : Int32} {st : List Value} {σ : aS} : Rn sc d 178 6 [a0, a1, .int x2] st σ r ↔ Rn sc d 178 7 [a0, a1, .int x2] (.int x2 :: st) σ r := r_iload_n d178_6 rfl
theorem d178_7 : decode (mC 178) 7 = .ok (.iload_n 1, 1) := by decide +kernel
theorem x178_7 {sc : aSc} {d : Nat} {r : aRes} {a0 : Value} {x1 : Int32} {a2 : Value} {st : List Value} {σ : aS} : Rn sc d 178 7 [a0, .int x1, a2] st σ r ↔ Rn sc d 178 8 [a0, .int x1, a2] (.int x1 :: st) σ r := r_iload_n d178_7 rfl
theorem d178_8 : decode (mC 178) 8 = .ok (.iadd, 1) := by decide +kernel
theorem x178_8 {sc : aSc} {d : Nat} {r : aRes} {L : List Value} {st : List Value} {σ : aS} {x y : Int32} : Rn sc d 178 8 L (.int y :: .int x :: st) σ r ↔ Rn sc d 178 9 L (.int (x + y) :: st) σ r := r_iadd d178_8
theorem d178_9 : decode (mC 178) 9 = .ok (.ireturn, 1) := by decide +kernel
theorem x178_9 {sc : aSc} {d : Nat} {r : aRes} {L : List Value} {σ : aS} {x : Int32} : Rn sc d 178 9 L [.int x] σ r ↔ r = (σ, some (.int x)) := r_iret d178_9 rfl rfl
theorem d179_0 : decode (mC 179) 0 = .ok (.aload_n 0, 1) := by decide +kernel
theorem x179_0 {sc : aSc} {d : Nat} {r : aRes} {x0 : Nat} {a1 : Value} {a2 : Value} {st : List Value} {σ : aS} : Rn sc d 179 0 [.ref x0, a1, a2] st σ r ↔ Rn sc d 179 1 [.ref x0, a1, a2] (.ref x0 :: st) σ r := r_aload_n d179_0 rfl
theorem d179_1 : decode (mC 179) 1 = .ok (.getfield 25, 3) := by decide +kernel
theorem x179_1 {sc : aSc} {d : Nat} {r : aRes} {L : List Value} {st : List Value} {f : Nat → Nat → Int32} {g : Nat → Nat → Int64} {h1 h2 : Nat} {o : Nat} (hK : KK[o]? = some (.inl 7)) (hR : (RR h1 h2 o 5).isSome = true) : Rn sc d 179 1 L (.ref o :: st) (cS f g h1 h2) r ↔ Rn sc d 179 4 L (.ref (rf h1 h2 o 5) :: st) (cS f g h1 h2) r := r_getR2 d179_1 (ci := 7) (k := 5) rfl (by decide) (fun _ => rfl) hK hR
theorem d179_4 : decode (mC 179) 4 = .ok (.iload_n 1, 1) := by decide +kernel
theorem x179_4 {sc : aSc} {d : Nat} {r : aRes} {a0 : Value} {x1 : Int32} {a2 : Value} {st : List Value} {σ : aS} : Rn sc d 179 4 [a0, .int x1, a2] st σ r ↔ Rn sc d 179 5 [a0, .int x1, a2] (.int x1 :: st) σ r := r_iload_n d179_4 rfl
theorem d179_5 : decode (mC 179) 5 = .ok (.iaload, 1) := by decide +kernel
theorem x179_5 {sc : aSc} {d : Nat} {r : aRes} {L : List Value} {st : List Value} {f : Nat → Nat → Int32} {g : Nat → Nat → Int64} {h1 h2 : Nat} {a : Nat} {i : Int32} (h17 : 17 ≤ a) (hA : isT9 .int a) (hi : inb i (aln a) = true) : Rn sc d 179 5 L (.int i :: .ref a :: st) (cS f g h1 h2) r ↔ Rn sc d 179 6 L (.int (f a i.toNatClampNeg) :: st) (cS f g h1 h2) r := r_iald d179_5 h17 hA hi
theorem d179_6 : decode (mC 179) 6 = .ok (.tableswitch 83 2 6 #[34, 83, 49, 34, 63], 34) := by decide +kernel
theorem x179_6 {sc : aSc} {d : Nat} {r : aRes} {L : List Value} {st : List Value} {σ : aS} {x : Int32} : Rn sc d 179 6 L (.int x :: st) σ r ↔ (if x = 2 then Rn sc d 179 40 L st σ r else (if x = 3 then Rn sc d 179 89 L st σ r else (if x = 4 then Rn sc d 179 55 L st σ r else (if x = 5 then Rn sc d 179 40 L st σ r else (if x = 6 then Rn sc d 179 69 L st σ r else Rn sc d 179 89 L st σ r))))) := by
  by_cases c0 : x = 2
  · subst c0; simp only [if_pos]; exact r_tsw d179_6 (t := 40) rfl
  rw [if_neg c0]
  by_cases c1 : x = 3
  · subst c1; simp only [if_pos]; exact r_tsw d179_6 (t := 89) rfl
  rw [if_neg c1]
  by_cases c2 : x = 4
  · subst c2; simp only [if_pos]; exact r_tsw d179_6 (t := 55) rfl
  rw [if_neg c2]
  by_cases c3 : x = 5
  · subst c3; simp only [if_pos]; exact r_tsw d179_6 (t := 40) rfl
  rw [if_neg c3]
  by_cases c4 : x = 6
  · subst c4; simp only [if_pos]; exact r_tsw d179_6 (t := 69) rfl
  rw [if_neg c4]
  refine r_tswd d179_6 ?_ rfl
  have e0 : x.toInt ≠ 2 := fun z => c0 (Int32.toInt_inj.mp z)
  have e1 : x.toInt ≠ 3 := fun z => c1 (Int32.toInt_inj.mp z)
  have e2 : x.toInt ≠ 4 := fun z => c2 (Int32.toInt_inj.mp z)
  have e3 : x.toInt ≠ 5 := fun z => c3 (Int32.toInt_inj.mp z)
  have e4 : x.toInt ≠ 6 := fun z => c4 (Int32.toInt_inj.mp z)
  omega
theorem d179_40 : decode (mC 179) 40 = .ok (.aload_n 0, 1) := by decide +kernel
theorem x179_40 {sc : aSc} {d : Nat} {r : aRes} {x0 : Nat} {a1 : Value} {a2 : Value} {st : List Value} {σ : aS} : Rn sc d 179 40 [.ref x0, a1, a2] st σ r ↔ Rn sc d 179 41 [.ref x0, a1, a2] (.ref x0 :: st) σ r := r_aload_n d179_40 rfl
theorem d179_41 : decode (mC 179) 41 = .ok (.bipush 30, 2) := by decide +kernel
theorem x179_41 {sc : aSc} {d : Nat} {r : aRes} {L : List Value} {st : List Value} {σ : aS} : Rn sc d 179 41 L st σ r ↔ Rn sc d 179 43 L (.int 30 :: st) σ r := r_bipush d179_41 (by decide)
theorem d179_43 : decode (mC 179) 43 = .ok (.invokevirtual 366, 3) := by decide +kernel
theorem x179_43 {sc : aSc} {d : Nat} {r : aRes} {L : List Value} {f : Nat → Nat → Int32} {g : Nat → Nat → Int64} {h1 h2 : Nat} {y0 : Int32}  {o : Nat} (hK : KK[o]? = some (.inl 7)) : Rn sc d 179 43 L [.int y0, .ref o] (cS f g h1 h2) r ↔ ∃ (σ3 : aS) (v : Option Value), Cl sc d 177 [.ref o, .int y0] (cS f g h1 h2) (σ3, v) ∧ Rn sc d 179 46 L (v.toList ++ []) σ3 r := r_callV (vs := [.int y0]) d179_43 (j := 177) (by decide +kernel) ⟨rfl, by decide, rfl, rfl⟩ (Nat.le_of_ble_eq_true rfl) hK
theorem d179_46 : decode (mC 179) 46 = .ok (.aload_n 0, 1) := by decide +kernel
theorem x179_46 {sc : aSc} {d : Nat} {r : aRes} {x0 : Nat} {a1 : Value} {a2 : Value} {st : List Value} {σ : aS} : Rn sc d 179 46 [.ref x0, a1, a2] st σ r ↔ Rn sc d 179 47 [.ref x0, a1, a2] (.ref x0 :: st) σ r := r_aload_n d179_46 rfl
theorem d179_47 : decode (mC 179) 47 = .ok (.iload_n 1, 1) := by decide +kernel
theorem x179_47 {sc : aSc} {d : Nat} {r : aRes} {a0 : Value} {x1 : Int32} {a2 : Value} {st : List Value} {σ : aS} : Rn sc d 179 47 [a0, .int x1, a2] st σ r ↔ Rn sc d 179 48 [a0, .int x1, a2] (.int x1 :: st) σ r := r_iload_n d179_47 rfl
theorem d179_48 : decode (mC 179) 48 = .ok (.iload_n 2, 1) := by decide +kernel
theorem x179_48 {sc : aSc} {d : Nat} {r : aRes} {a0 : Value} {a1 : Value} {x2 : Int32} {st : List Value} {σ : aS} : Rn sc d 179 48 [a0, a1, .int x2] st σ r ↔ Rn sc d 179 49 [a0, a1, .int x2] (.int x2 :: st) σ r := r_iload_n d179_48 rfl
theorem d179_49 : decode (mC 179) 49 = .ok (.iconst 3, 1) := by decide +kernel
theorem x179_49 {sc : aSc} {d : Nat} {r : aRes} {L : List Value} {st : List Value} {σ : aS} : Rn sc d 179 49 L st σ r ↔ Rn sc d 179 50 L (.int 3 :: st) σ r := r_iconst d179_49 (by decide)
theorem d179_50 : decode (mC 179) 50 = .ok (.imul, 1) := by decide +kernel
theorem x179_50 {sc : aSc} {d : Nat} {r : aRes} {L : List Value} {st : List Value} {σ : aS} {x y : Int32} : Rn sc d 179 50 L (.int y :: .int x :: st) σ r ↔ Rn sc d 179 51 L (.int (x * y) :: st) σ r := r_imul d179_50
theorem d179_51 : decode (mC 179) 51 = .ok (.invokevirtual 369, 3) := by decide +kernel
theorem x179_51 {sc : aSc} {d : Nat} {r : aRes} {L : List Value} {f : Nat → Nat → Int32} {g : Nat → Nat → Int64} {h1 h2 : Nat} {y0 : Int32} {y1 : Int32}  {o : Nat} (hK : KK[o]? = some (.inl 7)) : Rn sc d 179 51 L [.int y0, .int y1, .ref o] (cS f g h1 h2) r ↔ ∃ (σ3 : aS) (v : Option Value), Cl sc d 178 [.ref o, .int y1, .int y0] (cS f g h1 h2) (σ3, v) ∧ Rn sc d 179 54 L (v.toList ++ []) σ3 r := r_callV (vs := [.int y0, .int y1]) d179_51 (j := 178) (by decide +kernel) ⟨rfl, by decide, rfl, rfl⟩ (Nat.le_of_ble_eq_true rfl) hK
theorem d179_54 : decode (mC 179) 54 = .ok (.ireturn, 1) := by decide +kernel
theorem x179_54 {sc : aSc} {d : Nat} {r : aRes} {L : List Value} {σ : aS} {x : Int32} : Rn sc d 179 54 L [.int x] σ r ↔ r = (σ, some (.int x)) := r_iret d179_54 rfl rfl
theorem d179_55 : decode (mC 179) 55 = .ok (.aload_n 0, 1) := by decide +kernel
theorem x179_55 {sc : aSc} {d : Nat} {r : aRes} {x0 : Nat} {a1 : Value} {a2 : Value} {st : List Value} {σ : aS} : Rn sc d 179 55 [.ref x0, a1, a2] st σ r ↔ Rn sc d 179 56 [.ref x0, a1, a2] (.ref x0 :: st) σ r := r_aload_n d179_55 rfl
theorem d179_56 : decode (mC 179) 56 = .ok (.bipush 50, 2) := by decide +kernel
theorem x179_56 {sc : aSc} {d : Nat} {r : aRes} {L : List Value} {st : List Value} {σ : aS} : Rn sc d 179 56 L st σ r ↔ Rn sc d 179 58 L (.int 50 :: st) σ r := r_bipush d179_56 (by decide)
theorem d179_58 : decode (mC 179) 58 = .ok (.invokevirtual 366, 3) := by decide +kernel
theorem x179_58 {sc : aSc} {d : Nat} {r : aRes} {L : List Value} {f : Nat → Nat → Int32} {g : Nat → Nat → Int64} {h1 h2 : Nat} {y0 : Int32}  {o : Nat} (hK : KK[o]? = some (.inl 7)) : Rn sc d 179 58 L [.int y0, .ref o] (cS f g h1 h2) r ↔ ∃ (σ3 : aS) (v : Option Value), Cl sc d 177 [.ref o, .int y0] (cS f g h1 h2) (σ3, v) ∧ Rn sc d 179 61 L (v.toList ++ []) σ3 r := r_callV (vs := [.int y0]) d179_58 (j := 177) (by decide +kernel) ⟨rfl, by decide, rfl, rfl⟩ (Nat.le_of_ble_eq_true rfl) hK
theorem d179_61 : decode (mC 179) 61 = .ok (.aload_n 0, 1) := by decide +kernel
theorem x179_61 {sc : aSc} {d : Nat} {r : aRes} {x0 : Nat} {a1 : Value} {a2 : Value} {st : List Value} {σ : aS} : Rn sc d 179 61 [.ref x0, a1, a2] st σ r ↔ Rn sc d 179 62 [.ref x0, a1, a2] (.ref x0 :: st) σ r := r_aload_n d179_61 rfl
theorem d179_62 : decode (mC 179) 62 = .ok (.iload_n 1, 1) := by decide +kernel
theorem x179_62 {sc : aSc} {d : Nat} {r : aRes} {a0 : Value} {x1 : Int32} {a2 : Value} {st : List Value} {σ : aS} : Rn sc d 179 62 [a0, .int x1, a2] st σ r ↔ Rn sc d 179 63 [a0, .int x1, a2] (.int x1 :: st) σ r := r_iload_n d179_62 rfl
theorem d179_63 : decode (mC 179) 63 = .ok (.iload_n 2, 1) := by decide +kernel
theorem x179_63 {sc : aSc} {d : Nat} {r : aRes} {a0 : Value} {a1 : Value} {x2 : Int32} {st : List Value} {σ : aS} : Rn sc d 179 63 [a0, a1, .int x2] st σ r ↔ Rn sc d 179 64 [a0, a1, .int x2] (.int x2 :: st) σ r := r_iload_n d179_63 rfl
theorem d179_64 : decode (mC 179) 64 = .ok (.invokevirtual 369, 3) := by decide +kernel
theorem x179_64 {sc : aSc} {d : Nat} {r : aRes} {L : List Value} {f : Nat → Nat → Int32} {g : Nat → Nat → Int64} {h1 h2 : Nat} {y0 : Int32} {y1 : Int32}  {o : Nat} (hK : KK[o]? = some (.inl 7)) : Rn sc d 179 64 L [.int y0, .int y1, .ref o] (cS f g h1 h2) r ↔ ∃ (σ3 : aS) (v : Option Value), Cl sc d 178 [.ref o, .int y1, .int y0] (cS f g h1 h2) (σ3, v) ∧ Rn sc d 179 67 L (v.toList ++ []) σ3 r := r_callV (vs := [.int y0, .int y1]) d179_64 (j := 178) (by decide +kernel) ⟨rfl, by decide, rfl, rfl⟩ (Nat.le_of_ble_eq_true rfl) hK
theorem d179_67 : decode (mC 179) 67 = .ok (.ineg, 1) := by decide +kernel
theorem x179_67 {sc : aSc} {d : Nat} {r : aRes} {L : List Value} {st : List Value} {σ : aS} {x : Int32} : Rn sc d 179 67 L (.int x :: st) σ r ↔ Rn sc d 179 68 L (.int (-x) :: st) σ r := r_ineg d179_67
theorem d179_68 : decode (mC 179) 68 = .ok (.ireturn, 1) := by decide +kernel
theorem x179_68 {sc : aSc} {d : Nat} {r : aRes} {L : List Value} {σ : aS} {x : Int32} : Rn sc d 179 68 L [.int x] σ r ↔ r = (σ, some (.int x)) := r_iret d179_68 rfl rfl
theorem d179_69 : decode (mC 179) 69 = .ok (.aload_n 0, 1) := by decide +kernel
theorem x179_69 {sc : aSc} {d : Nat} {r : aRes} {x0 : Nat} {a1 : Value} {a2 : Value} {st : List Value} {σ : aS} : Rn sc d 179 69 [.ref x0, a1, a2] st σ r ↔ Rn sc d 179 70 [.ref x0, a1, a2] (.ref x0 :: st) σ r := r_aload_n d179_69 rfl
theorem d179_70 : decode (mC 179) 70 = .ok (.bipush 71, 2) := by decide +kernel
theorem x179_70 {sc : aSc} {d : Nat} {r : aRes} {L : List Value} {st : List Value} {σ : aS} : Rn sc d 179 70 L st σ r ↔ Rn sc d 179 72 L (.int 71 :: st) σ r := r_bipush d179_70 (by decide)
theorem d179_72 : decode (mC 179) 72 = .ok (.invokevirtual 366, 3) := by decide +kernel
theorem x179_72 {sc : aSc} {d : Nat} {r : aRes} {L : List Value} {f : Nat → Nat → Int32} {g : Nat → Nat → Int64} {h1 h2 : Nat} {y0 : Int32}  {o : Nat} (hK : KK[o]? = some (.inl 7)) : Rn sc d 179 72 L [.int y0, .ref o] (cS f g h1 h2) r ↔ ∃ (σ3 : aS) (v : Option Value), Cl sc d 177 [.ref o, .int y0] (cS f g h1 h2) (σ3, v) ∧ Rn sc d 179 75 L (v.toList ++ []) σ3 r := r_callV (vs := [.int y0]) d179_72 (j := 177) (by decide +kernel) ⟨rfl, by decide, rfl, rfl⟩ (Nat.le_of_ble_eq_true rfl) hK
theorem d179_75 : decode (mC 179) 75 = .ok (.aload_n 0, 1) := by decide +kernel
theorem x179_75 {sc : aSc} {d : Nat} {r : aRes} {x0 : Nat} {a1 : Value} {a2 : Value} {st : List Value} {σ : aS} : Rn sc d 179 75 [.ref x0, a1, a2] st σ r ↔ Rn sc d 179 76 [.ref x0, a1, a2] (.ref x0 :: st) σ r := r_aload_n d179_75 rfl
theorem d179_76 : decode (mC 179) 76 = .ok (.iload_n 1, 1) := by decide +kernel
theorem x179_76 {sc : aSc} {d : Nat} {r : aRes} {a0 : Value} {x1 : Int32} {a2 : Value} {st : List Value} {σ : aS} : Rn sc d 179 76 [a0, .int x1, a2] st σ r ↔ Rn sc d 179 77 [a0, .int x1, a2] (.int x1 :: st) σ r := r_iload_n d179_76 rfl
theorem d179_77 : decode (mC 179) 77 = .ok (.iload_n 2, 1) := by decide +kernel
theorem x179_77 {sc : aSc} {d : Nat} {r : aRes} {a0 : Value} {a1 : Value} {x2 : Int32} {st : List Value} {σ : aS} : Rn sc d 179 77 [a0, a1, .int x2] st σ r ↔ Rn sc d 179 78 [a0, a1, .int x2] (.int x2 :: st) σ r := r_iload_n d179_77 rfl
theorem d179_78 : decode (mC 179) 78 = .ok (.invokevirtual 369, 3) := by decide +kernel
theorem x179_78 {sc : aSc} {d : Nat} {r : aRes} {L : List Value} {f : Nat → Nat → Int32} {g : Nat → Nat → Int64} {h1 h2 : Nat} {y0 : Int32} {y1 : Int32}  {o : Nat} (hK : KK[o]? = some (.inl 7)) : Rn sc d 179 78 L [.int y0, .int y1, .ref o] (cS f g h1 h2) r ↔ ∃ (σ3 : aS) (v : Option Value), Cl sc d 178 [.ref o, .int y1, .int y0] (cS f g h1 h2) (σ3, v) ∧ Rn sc d 179 81 L (v.toList ++ []) σ3 r := r_callV (vs := [.int y0, .int y1]) d179_78 (j := 178) (by decide +kernel) ⟨rfl, by decide, rfl, rfl⟩ (Nat.le_of_ble_eq_true rfl) hK
theorem d179_81 : decode (mC 179) 81 = .ok (.aload_n 0, 1) := by decide +kernel
theorem x179_81 {sc : aSc} {d : Nat} {r : aRes} {x0 : Nat} {a1 : Value} {a2 : Value} {st : List Value} {σ : aS} : Rn sc d 179 81 [.ref x0, a1, a2] st σ r ↔ Rn sc d 179 82 [.ref x0, a1, a2] (.ref x0 :: st) σ r := r_aload_n d179_81 rfl
theorem d179_82 : decode (mC 179) 82 = .ok (.getfield 29, 3) := by decide +kernel
theorem x179_82 {sc : aSc} {d : Nat} {r : aRes} {L : List Value} {st : List Value} {f : Nat → Nat → Int32} {g : Nat → Nat → Int64} {h1 h2 : Nat} {o : Nat} (hK : KK[o]? = some (.inl 7)) (hR : (RR h1 h2 o 6).isSome = true) : Rn sc d 179 82 L (.ref o :: st) (cS f g h1 h2) r ↔ Rn sc d 179 85 L (.ref (rf h1 h2 o 6) :: st) (cS f g h1 h2) r := r_getR2 d179_82 (ci := 7) (k := 6) rfl (by decide) (fun _ => rfl) hK hR
theorem d179_85 : decode (mC 179) 85 = .ok (.iload_n 1, 1) := by decide +kernel
theorem x179_85 {sc : aSc} {d : Nat} {r : aRes} {a0 : Value} {x1 : Int32} {a2 : Value} {st : List Value} {σ : aS} : Rn sc d 179 85 [a0, .int x1, a2] st σ r ↔ Rn sc d 179 86 [a0, .int x1, a2] (.int x1 :: st) σ r := r_iload_n d179_85 rfl
theorem d179_86 : decode (mC 179) 86 = .ok (.iaload, 1) := by decide +kernel
theorem x179_86 {sc : aSc} {d : Nat} {r : aRes} {L : List Value} {st : List Value} {f : Nat → Nat → Int32} {g : Nat → Nat → Int64} {h1 h2 : Nat} {a : Nat} {i : Int32} (h17 : 17 ≤ a) (hA : isT9 .int a) (hi : inb i (aln a) = true) : Rn sc d 179 86 L (.int i :: .ref a :: st) (cS f g h1 h2) r ↔ Rn sc d 179 87 L (.int (f a i.toNatClampNeg) :: st) (cS f g h1 h2) r := r_iald d179_86 h17 hA hi
theorem d179_87 : decode (mC 179) 87 = .ok (.ixor, 1) := by decide +kernel
theorem x179_87 {sc : aSc} {d : Nat} {r : aRes} {L : List Value} {st : List Value} {σ : aS} {x y : Int32} : Rn sc d 179 87 L (.int y :: .int x :: st) σ r ↔ Rn sc d 179 88 L (.int (x ^^^ y) :: st) σ r := r_ixor d179_87
theorem d179_88 : decode (mC 179) 88 = .ok (.ireturn, 1) := by decide +kernel
theorem x179_88 {sc : aSc} {d : Nat} {r : aRes} {L : List Value} {σ : aS} {x : Int32} : Rn sc d 179 88 L [.int x] σ r ↔ r = (σ, some (.int x)) := r_iret d179_88 rfl rfl
theorem d179_89 : decode (mC 179) 89 = .ok (.aload_n 0, 1) := by decide +kernel
theorem x179_89 {sc : aSc} {d : Nat} {r : aRes} {x0 : Nat} {a1 : Value} {a2 : Value} {st : List Value} {σ : aS} : Rn sc d 179 89 [.ref x0, a1, a2] st σ r ↔ Rn sc d 179 90 [.ref x0, a1, a2] (.ref x0 :: st) σ r := r_aload_n d179_89 rfl
theorem d179_90 : decode (mC 179) 90 = .ok (.iload_n 1, 1) := by decide +kernel
theorem x179_90 {sc : aSc} {d : Nat} {r : aRes} {a0 : Value} {x1 : Int32} {a2 : Value} {st : List Value} {σ : aS} : Rn sc d 179 90 [a0, .int x1, a2] st σ r ↔ Rn sc d 179 91 [a0, .int x1, a2] (.int x1 :: st) σ r := r_iload_n d179_90 rfl
theorem d179_91 : decode (mC 179) 91 = .ok (.iload_n 2, 1) := by decide +kernel
theorem x179_91 {sc : aSc} {d : Nat} {r : aRes} {a0 : Value} {a1 : Value} {x2 : Int32} {st : List Value} {σ : aS} : Rn sc d 179 91 [a0, a1, .int x2] st σ r ↔ Rn sc d 179 92 [a0, a1, .int x2] (.int x2 :: st) σ r := r_iload_n d179_91 rfl
theorem d179_92 : decode (mC 179) 92 = .ok (.invokevirtual 369, 3) := by decide +kernel
theorem x179_92 {sc : aSc} {d : Nat} {r : aRes} {L : List Value} {f : Nat → Nat → Int32} {g : Nat → Nat → Int64} {h1 h2 : Nat} {y0 : Int32} {y1 : Int32}  {o : Nat} (hK : KK[o]? = some (.inl 7)) : Rn sc d 179 92 L [.int y0, .int y1, .ref o] (cS f g h1 h2) r ↔ ∃ (σ3 : aS) (v : Option Value), Cl sc d 178 [.ref o, .int y1, .int y0] (cS f g h1 h2) (σ3, v) ∧ Rn sc d 179 95 L (v.toList ++ []) σ3 r := r_callV (vs := [.int y0, .int y1]) d179_92 (j := 178) (by decide +kernel) ⟨rfl, by decide, rfl, rfl⟩ (Nat.le_of_ble_eq_true rfl) hK
theorem d179_95 : decode (mC 179) 95 = .ok (.ireturn, 1) := by decide +kernel
theorem x179_95 {sc : aSc} {d : Nat} {r : aRes} {L : List Value} {σ : aS} {x : Int32} : Rn sc d 179 95 L [.int x] σ r ↔ r = (σ, some (.int x)) := r_iret d179_95 rfl rfl
theorem d180_0 : decode (mC 180) 0 = .ok (.aload_n 0, 1) := by decide +kernel
theorem x180_0 {sc : aSc} {d : Nat} {r : aRes} {x0 : Nat} {a1 : Value} {a2 : Value} {st : List Value} {σ : aS} : Rn sc d 180 0 [.ref x0, a1, a2] st σ r ↔ Rn sc d 180 1 [.ref x0, a1, a2] (.ref x0 :: st) σ r := r_aload_n d180_0 rfl
theorem d180_1 : decode (mC 180) 1 = .ok (.bipush 11, 2) := by decide +kernel
theorem x180_1 {sc : aSc} {d : Nat} {r : aRes} {L : List Value} {st : List Value} {σ : aS} : Rn sc d 180 1 L st σ r ↔ Rn sc d 180 3 L (.int 11 :: st) σ r := r_bipush d180_1 (by decide)
theorem d180_3 : decode (mC 180) 3 = .ok (.invokevirtual 366, 3) := by decide +kernel
theorem x180_3 {sc : aSc} {d : Nat} {r : aRes} {L : List Value} {f : Nat → Nat → Int32} {g : Nat → Nat → Int64} {h1 h2 : Nat} {y0 : Int32}  {o : Nat} (hK : KK[o]? = some (.inl 7)) : Rn sc d 180 3 L [.int y0, .ref o] (cS f g h1 h2) r ↔ ∃ (σ3 : aS) (v : Option Value), Cl sc d 177 [.ref o, .int y0] (cS f g h1 h2) (σ3, v) ∧ Rn sc d 180 6 L (v.toList ++ []) σ3 r := r_callV (vs := [.int y0]) d180_3 (j := 177) (by decide +kernel) ⟨rfl, by decide, rfl, rfl⟩ (Nat.le_of_ble_eq_true rfl) hK
theorem d180_6 : decode (mC 180) 6 = .ok (.aload_n 0, 1) := by decide +kernel
theorem x180_6 {sc : aSc} {d : Nat} {r : aRes} {x0 : Nat} {a1 : Value} {a2 : Value} {st : List Value} {σ : aS} : Rn sc d 180 6 [.ref x0, a1, a2] st σ r ↔ Rn sc d 180 7 [.ref x0, a1, a2] (.ref x0 :: st) σ r := r_aload_n d180_6 rfl
theorem d180_7 : decode (mC 180) 7 = .ok (.iload_n 1, 1) := by decide +kernel
theorem x180_7 {sc : aSc} {d : Nat} {r : aRes} {a0 : Value} {x1 : Int32} {a2 : Value} {st : List Value} {σ : aS} : Rn sc d 180 7 [a0, .int x1, a2] st σ r ↔ Rn sc d 180 8 [a0, .int x1, a2] (.int x1 :: st) σ r := r_iload_n d180_7 rfl
theorem d180_8 : decode (mC 180) 8 = .ok (.iload_n 2, 1) := by decide +kernel
theorem x180_8 {sc : aSc} {d : Nat} {r : aRes} {a0 : Value} {a1 : Value} {x2 : Int32} {st : List Value} {σ : aS} : Rn sc d 180 8 [a0, a1, .int x2] st σ r ↔ Rn sc d 180 9 [a0, a1, .int x2] (.int x2 :: st) σ r := r_iload_n d180_8 rfl
theorem d180_9 : decode (mC 180) 9 = .ok (.invokevirtual 372, 3) := by decide +kernel
theorem x180_9 {sc : aSc} {d : Nat} {r : aRes} {L : List Value} {f : Nat → Nat → Int32} {g : Nat → Nat → Int64} {h1 h2 : Nat} {y0 : Int32} {y1 : Int32}  {o : Nat} (hK : KK[o]? = some (.inl 7)) : Rn sc d 180 9 L [.int y0, .int y1, .ref o] (cS f g h1 h2) r ↔ ∃ (σ3 : aS) (v : Option Value), Cl sc d 179 [.ref o, .int y1, .int y0] (cS f g h1 h2) (σ3, v) ∧ Rn sc d 180 12 L (v.toList ++ []) σ3 r := r_callV (vs := [.int y0, .int y1]) d180_9 (j := 179) (by decide +kernel) ⟨rfl, by decide, rfl, rfl⟩ (Nat.le_of_ble_eq_true rfl) hK
theorem d180_12 : decode (mC 180) 12 = .ok (.aload_n 0, 1) := by decide +kernel
theorem x180_12 {sc : aSc} {d : Nat} {r : aRes} {x0 : Nat} {a1 : Value} {a2 : Value} {st : List Value} {σ : aS} : Rn sc d 180 12 [.ref x0, a1, a2] st σ r ↔ Rn sc d 180 13 [.ref x0, a1, a2] (.ref x0 :: st) σ r := r_aload_n d180_12 rfl
theorem d180_13 : decode (mC 180) 13 = .ok (.getfield 29, 3) := by decide +kernel
theorem x180_13 {sc : aSc} {d : Nat} {r : aRes} {L : List Value} {st : List Value} {f : Nat → Nat → Int32} {g : Nat → Nat → Int64} {h1 h2 : Nat} {o : Nat} (hK : KK[o]? = some (.inl 7)) (hR : (RR h1 h2 o 6).isSome = true) : Rn sc d 180 13 L (.ref o :: st) (cS f g h1 h2) r ↔ Rn sc d 180 16 L (.ref (rf h1 h2 o 6) :: st) (cS f g h1 h2) r := r_getR2 d180_13 (ci := 7) (k := 6) rfl (by decide) (fun _ => rfl) hK hR
theorem d180_16 : decode (mC 180) 16 = .ok (.iload_n 1, 1) := by decide +kernel
theorem x180_16 {sc : aSc} {d : Nat} {r : aRes} {a0 : Value} {x1 : Int32} {a2 : Value} {st : List Value} {σ : aS} : Rn sc d 180 16 [a0, .int x1, a2] st σ r ↔ Rn sc d 180 17 [a0, .int x1, a2] (.int x1 :: st) σ r := r_iload_n d180_16 rfl
theorem d180_17 : decode (mC 180) 17 = .ok (.iaload, 1) := by decide +kernel
theorem x180_17 {sc : aSc} {d : Nat} {r : aRes} {L : List Value} {st : List Value} {f : Nat → Nat → Int32} {g : Nat → Nat → Int64} {h1 h2 : Nat} {a : Nat} {i : Int32} (h17 : 17 ≤ a) (hA : isT9 .int a) (hi : inb i (aln a) = true) : Rn sc d 180 17 L (.int i :: .ref a :: st) (cS f g h1 h2) r ↔ Rn sc d 180 18 L (.int (f a i.toNatClampNeg) :: st) (cS f g h1 h2) r := r_iald d180_17 h17 hA hi
theorem d180_18 : decode (mC 180) 18 = .ok (.isub, 1) := by decide +kernel
theorem x180_18 {sc : aSc} {d : Nat} {r : aRes} {L : List Value} {st : List Value} {σ : aS} {x y : Int32} : Rn sc d 180 18 L (.int y :: .int x :: st) σ r ↔ Rn sc d 180 19 L (.int (x - y) :: st) σ r := r_isub d180_18
theorem d180_19 : decode (mC 180) 19 = .ok (.ireturn, 1) := by decide +kernel
theorem x180_19 {sc : aSc} {d : Nat} {r : aRes} {L : List Value} {σ : aS} {x : Int32} : Rn sc d 180 19 L [.int x] σ r ↔ r = (σ, some (.int x)) := r_iret d180_19 rfl rfl
theorem d181_0 : decode (mC 181) 0 = .ok (.aload_n 0, 1) := by decide +kernel
theorem x181_0 {sc : aSc} {d : Nat} {r : aRes} {x0 : Nat} {a1 : Value} {a2 : Value} {st : List Value} {σ : aS} : Rn sc d 181 0 [.ref x0, a1, a2] st σ r ↔ Rn sc d 181 1 [.ref x0, a1, a2] (.ref x0 :: st) σ r := r_aload_n d181_0 rfl
theorem d181_1 : decode (mC 181) 1 = .ok (.bipush 20, 2) := by decide +kernel
theorem x181_1 {sc : aSc} {d : Nat} {r : aRes} {L : List Value} {st : List Value} {σ : aS} : Rn sc d 181 1 L st σ r ↔ Rn sc d 181 3 L (.int 20 :: st) σ r := r_bipush d181_1 (by decide)
theorem d181_3 : decode (mC 181) 3 = .ok (.invokevirtual 366, 3) := by decide +kernel
theorem x181_3 {sc : aSc} {d : Nat} {r : aRes} {L : List Value} {f : Nat → Nat → Int32} {g : Nat → Nat → Int64} {h1 h2 : Nat} {y0 : Int32}  {o : Nat} (hK : KK[o]? = some (.inl 7)) : Rn sc d 181 3 L [.int y0, .ref o] (cS f g h1 h2) r ↔ ∃ (σ3 : aS) (v : Option Value), Cl sc d 177 [.ref o, .int y0] (cS f g h1 h2) (σ3, v) ∧ Rn sc d 181 6 L (v.toList ++ []) σ3 r := r_callV (vs := [.int y0]) d181_3 (j := 177) (by decide +kernel) ⟨rfl, by decide, rfl, rfl⟩ (Nat.le_of_ble_eq_true rfl) hK
theorem d181_6 : decode (mC 181) 6 = .ok (.aload_n 0, 1) := by decide +kernel
theorem x181_6 {sc : aSc} {d : Nat} {r : aRes} {x0 : Nat} {a1 : Value} {a2 : Value} {st : List Value} {σ : aS} : Rn sc d 181 6 [.ref x0, a1, a2] st σ r ↔ Rn sc d 181 7 [.ref x0, a1, a2] (.ref x0 :: st) σ r := r_aload_n d181_6 rfl
theorem d181_7 : decode (mC 181) 7 = .ok (.iload_n 1, 1) := by decide +kernel
theorem x181_7 {sc : aSc} {d : Nat} {r : aRes} {a0 : Value} {x1 : Int32} {a2 : Value} {st : List Value} {σ : aS} : Rn sc d 181 7 [a0, .int x1, a2] st σ r ↔ Rn sc d 181 8 [a0, .int x1, a2] (.int x1 :: st) σ r := r_iload_n d181_7 rfl
theorem d181_8 : decode (mC 181) 8 = .ok (.iload_n 2, 1) := by decide +kernel
theorem x181_8 {sc : aSc} {d : Nat} {r : aRes} {a0 : Value} {a1 : Value} {x2 : Int32} {st : List Value} {σ : aS} : Rn sc d 181 8 [a0, a1, .int x2] st σ r ↔ Rn sc d 181 9 [a0, a1, .int x2] (.int x2 :: st) σ r := r_iload_n d181_8 rfl
theorem d181_9 : decode (mC 181) 9 = .ok (.invokevirtual 375, 3) := by decide +kernel
theorem x181_9 {sc : aSc} {d : Nat} {r : aRes} {L : List Value} {f : Nat → Nat → Int32} {g : Nat → Nat → Int64} {h1 h2 : Nat} {y0 : Int32} {y1 : Int32}  {o : Nat} (hK : KK[o]? = some (.inl 7)) : Rn sc d 181 9 L [.int y0, .int y1, .ref o] (cS f g h1 h2) r ↔ ∃ (σ3 : aS) (v : Option Value), Cl sc d 180 [.ref o, .int y1, .int y0] (cS f g h1 h2) (σ3, v) ∧ Rn sc d 181 12 L (v.toList ++ []) σ3 r := r_callV (vs := [.int y0, .int y1]) d181_9 (j := 180) (by decide +kernel) ⟨rfl, by decide, rfl, rfl⟩ (Nat.le_of_ble_eq_true rfl) hK
theorem d181_12 : decode (mC 181) 12 = .ok (.bipush 6, 2) := by decide +kernel
theorem x181_12 {sc : aSc} {d : Nat} {r : aRes} {L : List Value} {st : List Value} {σ : aS} : Rn sc d 181 12 L st σ r ↔ Rn sc d 181 14 L (.int 6 :: st) σ r := r_bipush d181_12 (by decide)
theorem d181_14 : decode (mC 181) 14 = .ok (.ixor, 1) := by decide +kernel
theorem x181_14 {sc : aSc} {d : Nat} {r : aRes} {L : List Value} {st : List Value} {σ : aS} {x y : Int32} : Rn sc d 181 14 L (.int y :: .int x :: st) σ r ↔ Rn sc d 181 15 L (.int (x ^^^ y) :: st) σ r := r_ixor d181_14
theorem d181_15 : decode (mC 181) 15 = .ok (.ireturn, 1) := by decide +kernel
theorem x181_15 {sc : aSc} {d : Nat} {r : aRes} {L : List Value} {σ : aS} {x : Int32} : Rn sc d 181 15 L [.int x] σ r ↔ r = (σ, some (.int x)) := r_iret d181_15 rfl rfl
theorem d182_0 : decode (mC 182) 0 = .ok (.aload_n 0, 1) := by decide +kernel
theorem x182_0 {sc : aSc} {d : Nat} {r : aRes} {x0 : Nat} {a1 : Value} {a2 : Value} {a3 : Value} {st : List Value} {σ : aS} : Rn sc d 182 0 [.ref x0, a1, a2, a3] st σ r ↔ Rn sc d 182 1 [.ref x0, a1, a2, a3] (.ref x0 :: st) σ r := r_aload_n d182_0 rfl
theorem d182_1 : decode (mC 182) 1 = .ok (.getfield 25, 3) := by decide +kernel
theorem x182_1 {sc : aSc} {d : Nat} {r : aRes} {L : List Value} {st : List Value} {f : Nat → Nat → Int32} {g : Nat → Nat → Int64} {h1 h2 : Nat} {o : Nat} (hK : KK[o]? = some (.inl 7)) (hR : (RR h1 h2 o 5).isSome = true) : Rn sc d 182 1 L (.ref o :: st) (cS f g h1 h2) r ↔ Rn sc d 182 4 L (.ref (rf h1 h2 o 5) :: st) (cS f g h1 h2) r := r_getR2 d182_1 (ci := 7) (k := 5) rfl (by decide) (fun _ => rfl) hK hR
theorem d182_4 : decode (mC 182) 4 = .ok (.iload_n 1, 1) := by decide +kernel
theorem x182_4 {sc : aSc} {d : Nat} {r : aRes} {a0 : Value} {x1 : Int32} {a2 : Value} {a3 : Value} {st : List Value} {σ : aS} : Rn sc d 182 4 [a0, .int x1, a2, a3] st σ r ↔ Rn sc d 182 5 [a0, .int x1, a2, a3] (.int x1 :: st) σ r := r_iload_n d182_4 rfl
theorem d182_5 : decode (mC 182) 5 = .ok (.iaload, 1) := by decide +kernel
theorem x182_5 {sc : aSc} {d : Nat} {r : aRes} {L : List Value} {st : List Value} {f : Nat → Nat → Int32} {g : Nat → Nat → Int64} {h1 h2 : Nat} {a : Nat} {i : Int32} (h17 : 17 ≤ a) (hA : isT9 .int a) (hi : inb i (aln a) = true) : Rn sc d 182 5 L (.int i :: .ref a :: st) (cS f g h1 h2) r ↔ Rn sc d 182 6 L (.int (f a i.toNatClampNeg) :: st) (cS f g h1 h2) r := r_iald d182_5 h17 hA hi
theorem d182_6 : decode (mC 182) 6 = .ok (.lookupswitch 78 #[(1, 34), (4, 41), (6, 56)], 34) := by decide +kernel
theorem x182_6 {sc : aSc} {d : Nat} {r : aRes} {L : List Value} {st : List Value} {σ : aS} {x : Int32} : Rn sc d 182 6 L (.int x :: st) σ r ↔ (if x = 1 then Rn sc d 182 40 L st σ r else (if x = 4 then Rn sc d 182 47 L st σ r else (if x = 6 then Rn sc d 182 62 L st σ r else Rn sc d 182 84 L st σ r))) := by
  by_cases c0 : x = 1
  · subst c0; simp only [if_pos]; exact r_lsw d182_6 (t := 40) rfl
  rw [if_neg c0]
  by_cases c1 : x = 4
  · subst c1; simp only [if_pos]; exact r_lsw d182_6 (t := 47) rfl
  rw [if_neg c1]
  by_cases c2 : x = 6
  · subst c2; simp only [if_pos]; exact r_lsw d182_6 (t := 62) rfl
  rw [if_neg c2]
  refine r_lsw d182_6 (t := 84) ?_
  have e0 : x.toInt ≠ 1 := fun z => c0 (Int32.toInt_inj.mp z)
  have e1 : x.toInt ≠ 4 := fun z => c1 (Int32.toInt_inj.mp z)
  have e2 : x.toInt ≠ 6 := fun z => c2 (Int32.toInt_inj.mp z)
  simp [lwt, Op.lookupswitch.offset, jt, e0, Ne.symm e0, e1, Ne.symm e1, e2, Ne.symm e2]
theorem d182_40 : decode (mC 182) 40 = .ok (.aload_n 0, 1) := by decide +kernel
theorem x182_40 {sc : aSc} {d : Nat} {r : aRes} {x0 : Nat} {a1 : Value} {a2 : Value} {a3 : Value} {st : List Value} {σ : aS} : Rn sc d 182 40 [.ref x0, a1, a2, a3] st σ r ↔ Rn sc d 182 41 [.ref x0, a1, a2, a3] (.ref x0 :: st) σ r := r_aload_n d182_40 rfl
theorem d182_41 : decode (mC 182) 41 = .ok (.iload_n 1, 1) := by decide +kernel
theorem x182_41 {sc : aSc} {d : Nat} {r : aRes} {a0 : Value} {x1 : Int32} {a2 : Value} {a3 : Value} {st : List Value} {σ : aS} : Rn sc d 182 41 [a0, .int x1, a2, a3] st σ r ↔ Rn sc d 182 42 [a0, .int x1, a2, a3] (.int x1 :: st) σ r := r_iload_n d182_41 rfl
theorem d182_42 : decode (mC 182) 42 = .ok (.iload_n 2, 1) := by decide +kernel
theorem x182_42 {sc : aSc} {d : Nat} {r : aRes} {a0 : Value} {a1 : Value} {x2 : Int32} {a3 : Value} {st : List Value} {σ : aS} : Rn sc d 182 42 [a0, a1, .int x2, a3] st σ r ↔ Rn sc d 182 43 [a0, a1, .int x2, a3] (.int x2 :: st) σ r := r_iload_n d182_42 rfl
theorem d182_43 : decode (mC 182) 43 = .ok (.invokevirtual 378, 3) := by decide +kernel
theorem x182_43 {sc : aSc} {d : Nat} {r : aRes} {L : List Value} {f : Nat → Nat → Int32} {g : Nat → Nat → Int64} {h1 h2 : Nat} {y0 : Int32} {y1 : Int32}  {o : Nat} (hK : KK[o]? = some (.inl 7)) : Rn sc d 182 43 L [.int y0, .int y1, .ref o] (cS f g h1 h2) r ↔ ∃ (σ3 : aS) (v : Option Value), Cl sc d 181 [.ref o, .int y1, .int y0] (cS f g h1 h2) (σ3, v) ∧ Rn sc d 182 46 L (v.toList ++ []) σ3 r := r_callV (vs := [.int y0, .int y1]) d182_43 (j := 181) (by decide +kernel) ⟨rfl, by decide, rfl, rfl⟩ (Nat.le_of_ble_eq_true rfl) hK
theorem d182_46 : decode (mC 182) 46 = .ok (.ireturn, 1) := by decide +kernel
theorem x182_46 {sc : aSc} {d : Nat} {r : aRes} {L : List Value} {σ : aS} {x : Int32} : Rn sc d 182 46 L [.int x] σ r ↔ r = (σ, some (.int x)) := r_iret d182_46 rfl rfl
theorem d182_47 : decode (mC 182) 47 = .ok (.aload_n 0, 1) := by decide +kernel
theorem x182_47 {sc : aSc} {d : Nat} {r : aRes} {x0 : Nat} {a1 : Value} {a2 : Value} {a3 : Value} {st : List Value} {σ : aS} : Rn sc d 182 47 [.ref x0, a1, a2, a3] st σ r ↔ Rn sc d 182 48 [.ref x0, a1, a2, a3] (.ref x0 :: st) σ r := r_aload_n d182_47 rfl
theorem d182_48 : decode (mC 182) 48 = .ok (.bipush 51, 2) := by decide +kernel
theorem x182_48 {sc : aSc} {d : Nat} {r : aRes} {L : List Value} {st : List Value} {σ : aS} : Rn sc d 182 48 L st σ r ↔ Rn sc d 182 50 L (.int 51 :: st) σ r := r_bipush d182_48 (by decide)
theorem d182_50 : decode (mC 182) 50 = .ok (.invokevirtual 366, 3) := by decide +kernel
theorem x182_50 {sc : aSc} {d : Nat} {r : aRes} {L : List Value} {f : Nat → Nat → Int32} {g : Nat → Nat → Int64} {h1 h2 : Nat} {y0 : Int32}  {o : Nat} (hK : KK[o]? = some (.inl 7)) : Rn sc d 182 50 L [.int y0, .ref o] (cS f g h1 h2) r ↔ ∃ (σ3 : aS) (v : Option Value), Cl sc d 177 [.ref o, .int y0] (cS f g h1 h2) (σ3, v) ∧ Rn sc d 182 53 L (v.toList ++ []) σ3 r := r_callV (vs := [.int y0]) d182_50 (j := 177) (by decide +kernel) ⟨rfl, by decide, rfl, rfl⟩ (Nat.le_of_ble_eq_true rfl) hK
theorem d182_53 : decode (mC 182) 53 = .ok (.aload_n 0, 1) := by decide +kernel
theorem x182_53 {sc : aSc} {d : Nat} {r : aRes} {x0 : Nat} {a1 : Value} {a2 : Value} {a3 : Value} {st : List Value} {σ : aS} : Rn sc d 182 53 [.ref x0, a1, a2, a3] st σ r ↔ Rn sc d 182 54 [.ref x0, a1, a2, a3] (.ref x0 :: st) σ r := r_aload_n d182_53 rfl
theorem d182_54 : decode (mC 182) 54 = .ok (.iload_n 1, 1) := by decide +kernel
theorem x182_54 {sc : aSc} {d : Nat} {r : aRes} {a0 : Value} {x1 : Int32} {a2 : Value} {a3 : Value} {st : List Value} {σ : aS} : Rn sc d 182 54 [a0, .int x1, a2, a3] st σ r ↔ Rn sc d 182 55 [a0, .int x1, a2, a3] (.int x1 :: st) σ r := r_iload_n d182_54 rfl
theorem d182_55 : decode (mC 182) 55 = .ok (.iload_n 2, 1) := by decide +kernel
theorem x182_55 {sc : aSc} {d : Nat} {r : aRes} {a0 : Value} {a1 : Value} {x2 : Int32} {a3 : Value} {st : List Value} {σ : aS} : Rn sc d 182 55 [a0, a1, .int x2, a3] st σ r ↔ Rn sc d 182 56 [a0, a1, .int x2, a3] (.int x2 :: st) σ r := r_iload_n d182_55 rfl
theorem d182_56 : decode (mC 182) 56 = .ok (.iconst 1, 1) := by decide +kernel
theorem x182_56 {sc : aSc} {d : Nat} {r : aRes} {L : List Value} {st : List Value} {σ : aS} : Rn sc d 182 56 L st σ r ↔ Rn sc d 182 57 L (.int 1 :: st) σ r := r_iconst d182_56 (by decide)
theorem d182_57 : decode (mC 182) 57 = .ok (.iadd, 1) := by decide +kernel
theorem x182_57 {sc : aSc} {d : Nat} {r : aRes} {L : List Value} {st : List Value} {σ : aS} {x y : Int32} : Rn sc d 182 57 L (.int y :: .int x :: st) σ r ↔ Rn sc d 182 58 L (.int (x + y) :: st) σ r := r_iadd d182_57
theorem d182_58 : decode (mC 182) 58 = .ok (.invokevirtual 378, 3) := by decide +kernel
theorem x182_58 {sc : aSc} {d : Nat} {r : aRes} {L : List Value} {f : Nat → Nat → Int32} {g : Nat → Nat → Int64} {h1 h2 : Nat} {y0 : Int32} {y1 : Int32}  {o : Nat} (hK : KK[o]? = some (.inl 7)) : Rn sc d 182 58 L [.int y0, .int y1, .ref o] (cS f g h1 h2) r ↔ ∃ (σ3 : aS) (v : Option Value), Cl sc d 181 [.ref o, .int y1, .int y0] (cS f g h1 h2) (σ3, v) ∧ Rn sc d 182 61 L (v.toList ++ []) σ3 r := r_callV (vs := [.int y0, .int y1]) d182_58 (j := 181) (by decide +kernel) ⟨rfl, by decide, rfl, rfl⟩ (Nat.le_of_ble_eq_true rfl) hK
theorem d182_61 : decode (mC 182) 61 = .ok (.ireturn, 1) := by decide +kernel
theorem x182_61 {sc : aSc} {d : Nat} {r : aRes} {L : List Value} {σ : aS} {x : Int32} : Rn sc d 182 61 L [.int x] σ r ↔ r = (σ, some (.int x)) := r_iret d182_61 rfl rfl
theorem d182_62 : decode (mC 182) 62 = .ok (.aload_n 0, 1) := by decide +kernel
theorem x182_62 {sc : aSc} {d : Nat} {r : aRes} {x0 : Nat} {a1 : Value} {a2 : Value} {a3 : Value} {st : List Value} {σ : aS} : Rn sc d 182 62 [.ref x0, a1, a2, a3] st σ r ↔ Rn sc d 182 63 [.ref x0, a1, a2, a3] (.ref x0 :: st) σ r := r_aload_n d182_62 rfl
theorem d182_63 : decode (mC 182) 63 = .ok (.bipush 70, 2) := by decide +kernel
theorem x182_63 {sc : aSc} {d : Nat} {r : aRes} {L : List Value} {st : List Value} {σ : aS} : Rn sc d 182 63 L st σ r ↔ Rn sc d 182 65 L (.int 70 :: st) σ r := r_bipush d182_63 (by decide)
theorem d182_65 : decode (mC 182) 65 = .ok (.invokevirtual 366, 3) := by decide +kernel
theorem x182_65 {sc : aSc} {d : Nat} {r : aRes} {L : List Value} {f : Nat → Nat → Int32} {g : Nat → Nat → Int64} {h1 h2 : Nat} {y0 : Int32}  {o : Nat} (hK : KK[o]? = some (.inl 7)) : Rn sc d 182 65 L [.int y0, .ref o] (cS f g h1 h2) r ↔ ∃ (σ3 : aS) (v : Option Value), Cl sc d 177 [.ref o, .int y0] (cS f g h1 h2) (σ3, v) ∧ Rn sc d 182 68 L (v.toList ++ []) σ3 r := r_callV (vs := [.int y0]) d182_65 (j := 177) (by decide +kernel) ⟨rfl, by decide, rfl, rfl⟩ (Nat.le_of_ble_eq_true rfl) hK
theorem d182_68 : decode (mC 182) 68 = .ok (.aload_n 0, 1) := by decide +kernel
theorem x182_68 {sc : aSc} {d : Nat} {r : aRes} {x0 : Nat} {a1 : Value} {a2 : Value} {a3 : Value} {st : List Value} {σ : aS} : Rn sc d 182 68 [.ref x0, a1, a2, a3] st σ r ↔ Rn sc d 182 69 [.ref x0, a1, a2, a3] (.ref x0 :: st) σ r := r_aload_n d182_68 rfl
theorem d182_69 : decode (mC 182) 69 = .ok (.iload_n 1, 1) := by decide +kernel
theorem x182_69 {sc : aSc} {d : Nat} {r : aRes} {a0 : Value} {x1 : Int32} {a2 : Value} {a3 : Value} {st : List Value} {σ : aS} : Rn sc d 182 69 [a0, .int x1, a2, a3] st σ r ↔ Rn sc d 182 70 [a0, .int x1, a2, a3] (.int x1 :: st) σ r := r_iload_n d182_69 rfl
theorem d182_70 : decode (mC 182) 70 = .ok (.iload_n 2, 1) := by decide +kernel
theorem x182_70 {sc : aSc} {d : Nat} {r : aRes} {a0 : Value} {a1 : Value} {x2 : Int32} {a3 : Value} {st : List Value} {σ : aS} : Rn sc d 182 70 [a0, a1, .int x2, a3] st σ r ↔ Rn sc d 182 71 [a0, a1, .int x2, a3] (.int x2 :: st) σ r := r_iload_n d182_70 rfl
theorem d182_71 : decode (mC 182) 71 = .ok (.invokevirtual 375, 3) := by decide +kernel
theorem x182_71 {sc : aSc} {d : Nat} {r : aRes} {L : List Value} {f : Nat → Nat → Int32} {g : Nat → Nat → Int64} {h1 h2 : Nat} {y0 : Int32} {y1 : Int32}  {o : Nat} (hK : KK[o]? = some (.inl 7)) : Rn sc d 182 71 L [.int y0, .int y1, .ref o] (cS f g h1 h2) r ↔ ∃ (σ3 : aS) (v : Option Value), Cl sc d 180 [.ref o, .int y1, .int y0] (cS f g h1 h2) (σ3, v) ∧ Rn sc d 182 74 L (v.toList ++ []) σ3 r := r_callV (vs := [.int y0, .int y1]) d182_71 (j := 180) (by decide +kernel) ⟨rfl, by decide, rfl, rfl⟩ (Nat.le_of_ble_eq_true rfl) hK
theorem d182_74 : decode (mC 182) 74 = .ok (.istore_n 3, 1) := by decide +kernel
theorem x182_74 {sc : aSc} {d : Nat} {r : aRes} {a0 : Value} {a1 : Value} {x2 : Int32} {a3 : Value} {st : List Value} {σ : aS} {y : Int32} : Rn sc d 182 74 [a0, a1, .int x2, a3] (.int y :: st) σ r ↔ Rn sc d 182 75 [a0, a1, .int x2, .int y] st σ r := r_istore_n d182_74 (Nat.le_of_ble_eq_true rfl) rfl
theorem d182_75 : decode (mC 182) 75 = .ok (.iload_n 3, 1) := by decide +kernel
theorem x182_75 {sc : aSc} {d : Nat} {r : aRes} {a0 : Value} {a1 : Value} {a2 : Value} {x3 : Int32} {st : List Value} {σ : aS} : Rn sc d 182 75 [a0, a1, a2, .int x3] st σ r ↔ Rn sc d 182 76 [a0, a1, a2, .int x3] (.int x3 :: st) σ r := r_iload_n d182_75 rfl
theorem d182_76 : decode (mC 182) 76 = .ok (.aload_n 0, 1) := by decide +kernel
theorem x182_76 {sc : aSc} {d : Nat} {r : aRes} {x0 : Nat} {a1 : Value} {a2 : Value} {a3 : Value} {st : List Value} {σ : aS} : Rn sc d 182 76 [.ref x0, a1, a2, a3] st σ r ↔ Rn sc d 182 77 [.ref x0, a1, a2, a3] (.ref x0 :: st) σ r := r_aload_n d182_76 rfl
theorem d182_77 : decode (mC 182) 77 = .ok (.iload_n 1, 1) := by decide +kernel
theorem x182_77 {sc : aSc} {d : Nat} {r : aRes} {a0 : Value} {x1 : Int32} {a2 : Value} {a3 : Value} {st : List Value} {σ : aS} : Rn sc d 182 77 [a0, .int x1, a2, a3] st σ r ↔ Rn sc d 182 78 [a0, .int x1, a2, a3] (.int x1 :: st) σ r := r_iload_n d182_77 rfl
theorem d182_78 : decode (mC 182) 78 = .ok (.iconst 2, 1) := by decide +kernel
theorem x182_78 {sc : aSc} {d : Nat} {r : aRes} {L : List Value} {st : List Value} {σ : aS} : Rn sc d 182 78 L st σ r ↔ Rn sc d 182 79 L (.int 2 :: st) σ r := r_iconst d182_78 (by decide)
theorem d182_79 : decode (mC 182) 79 = .ok (.invokevirtual 369, 3) := by decide +kernel
theorem x182_79 {sc : aSc} {d : Nat} {r : aRes} {L : List Value} {f : Nat → Nat → Int32} {g : Nat → Nat → Int64} {h1 h2 : Nat} {y0 : Int32} {y1 : Int32} {z0 : Int32} {o : Nat} (hK : KK[o]? = some (.inl 7)) : Rn sc d 182 79 L [.int y0, .int y1, .ref o, .int z0] (cS f g h1 h2) r ↔ ∃ (σ3 : aS) (v : Option Value), Cl sc d 178 [.ref o, .int y1, .int y0] (cS f g h1 h2) (σ3, v) ∧ Rn sc d 182 82 L (v.toList ++ [.int z0]) σ3 r := r_callV (vs := [.int y0, .int y1]) d182_79 (j := 178) (by decide +kernel) ⟨rfl, by decide, rfl, rfl⟩ (Nat.le_of_ble_eq_true rfl) hK
theorem d182_82 : decode (mC 182) 82 = .ok (.iadd, 1) := by decide +kernel
theorem x182_82 {sc : aSc} {d : Nat} {r : aRes} {L : List Value} {st : List Value} {σ : aS} {x y : Int32} : Rn sc d 182 82 L (.int y :: .int x :: st) σ r ↔ Rn sc d 182 83 L (.int (x + y) :: st) σ r := r_iadd d182_82
theorem d182_83 : decode (mC 182) 83 = .ok (.ireturn, 1) := by decide +kernel
theorem x182_83 {sc : aSc} {d : Nat} {r : aRes} {L : List Value} {σ : aS} {x : Int32} : Rn sc d 182 83 L [.int x] σ r ↔ r = (σ, some (.int x)) := r_iret d182_83 rfl rfl
theorem d182_84 : decode (mC 182) 84 = .ok (.aload_n 0, 1) := by decide +kernel
theorem x182_84 {sc : aSc} {d : Nat} {r : aRes} {x0 : Nat} {a1 : Value} {a2 : Value} {a3 : Value} {st : List Value} {σ : aS} : Rn sc d 182 84 [.ref x0, a1, a2, a3] st σ r ↔ Rn sc d 182 85 [.ref x0, a1, a2, a3] (.ref x0 :: st) σ r := r_aload_n d182_84 rfl
theorem d182_85 : decode (mC 182) 85 = .ok (.iload_n 1, 1) := by decide +kernel
theorem x182_85 {sc : aSc} {d : Nat} {r : aRes} {a0 : Value} {x1 : Int32} {a2 : Value} {a3 : Value} {st : List Value} {σ : aS} : Rn sc d 182 85 [a0, .int x1, a2, a3] st σ r ↔ Rn sc d 182 86 [a0, .int x1, a2, a3] (.int x1 :: st) σ r := r_iload_n d182_85 rfl
theorem d182_86 : decode (mC 182) 86 = .ok (.iload_n 2, 1) := by decide +kernel
theorem x182_86 {sc : aSc} {d : Nat} {r : aRes} {a0 : Value} {a1 : Value} {x2 : Int32} {a3 : Value} {st : List Value} {σ : aS} : Rn sc d 182 86 [a0, a1, .int x2, a3] st σ r ↔ Rn sc d 182 87 [a0, a1, .int x2, a3] (.int x2 :: st) σ r := r_iload_n d182_86 rfl
theorem d182_87 : decode (mC 182) 87 = .ok (.invokevirtual 375, 3) := by decide +kernel
theorem x182_87 {sc : aSc} {d : Nat} {r : aRes} {L : List Value} {f : Nat → Nat → Int32} {g : Nat → Nat → Int64} {h1 h2 : Nat} {y0 : Int32} {y1 : Int32}  {o : Nat} (hK : KK[o]? = some (.inl 7)) : Rn sc d 182 87 L [.int y0, .int y1, .ref o] (cS f g h1 h2) r ↔ ∃ (σ3 : aS) (v : Option Value), Cl sc d 180 [.ref o, .int y1, .int y0] (cS f g h1 h2) (σ3, v) ∧ Rn sc d 182 90 L (v.toList ++ []) σ3 r := r_callV (vs := [.int y0, .int y1]) d182_87 (j := 180) (by decide +kernel) ⟨rfl, by decide, rfl, rfl⟩ (Nat.le_of_ble_eq_true rfl) hK
theorem d182_90 : decode (mC 182) 90 = .ok (.ireturn, 1) := by decide +kernel
theorem x182_90 {sc : aSc} {d : Nat} {r : aRes} {L : List Value} {σ : aS} {x : Int32} : Rn sc d 182 90 L [.int x] σ r ↔ r = (σ, some (.int x)) := r_iret d182_90 rfl rfl
theorem d183_0 : decode (mC 183) 0 = .ok (.aload_n 0, 1) := by decide +kernel
theorem x183_0 {sc : aSc} {d : Nat} {r : aRes} {x0 : Nat} {a1 : Value} {a2 : Value} {st : List Value} {σ : aS} : Rn sc d 183 0 [.ref x0, a1, a2] st σ r ↔ Rn sc d 183 1 [.ref x0, a1, a2] (.ref x0 :: st) σ r := r_aload_n d183_0 rfl
theorem d183_1 : decode (mC 183) 1 = .ok (.bipush 12, 2) := by decide +kernel
theorem x183_1 {sc : aSc} {d : Nat} {r : aRes} {L : List Value} {st : List Value} {σ : aS} : Rn sc d 183 1 L st σ r ↔ Rn sc d 183 3 L (.int 12 :: st) σ r := r_bipush d183_1 (by decide)
theorem d183_3 : decode (mC 183) 3 = .ok (.invokevirtual 366, 3) := by decide +kernel
theorem x183_3 {sc : aSc} {d : Nat} {r : aRes} {L : List Value} {f : Nat → Nat → Int32} {g : Nat → Nat → Int64} {h1 h2 : Nat} {y0 : Int32}  {o : Nat} (hK : KK[o]? = some (.inl 7)) : Rn sc d 183 3 L [.int y0, .ref o] (cS f g h1 h2) r ↔ ∃ (σ3 : aS) (v : Option Value), Cl sc d 177 [.ref o, .int y0] (cS f g h1 h2) (σ3, v) ∧ Rn sc d 183 6 L (v.toList ++ []) σ3 r := r_callV (vs := [.int y0]) d183_3 (j := 177) (by decide +kernel) ⟨rfl, by decide, rfl, rfl⟩ (Nat.le_of_ble_eq_true rfl) hK
theorem d183_6 : decode (mC 183) 6 = .ok (.aload_n 0, 1) := by decide +kernel
theorem x183_6 {sc : aSc} {d : Nat} {r : aRes} {x0 : Nat} {a1 : Value} {a2 : Value} {st : List Value} {σ : aS} : Rn sc d 183 6 [.ref x0, a1, a2] st σ r ↔ Rn sc d 183 7 [.ref x0, a1, a2] (.ref x0 :: st) σ r := r_aload_n d183_6 rfl
theorem d183_7 : decode (mC 183) 7 = .ok (.iload_n 1, 1) := by decide +kernel
theorem x183_7 {sc : aSc} {d : Nat} {r : aRes} {a0 : Value} {x1 : Int32} {a2 : Value} {st : List Value} {σ : aS} : Rn sc d 183 7 [a0, .int x1, a2] st σ r ↔ Rn sc d 183 8 [a0, .int x1, a2] (.int x1 :: st) σ r := r_iload_n d183_7 rfl
theorem d183_8 : decode (mC 183) 8 = .ok (.iload_n 2, 1) := by decide +kernel
theorem x183_8 {sc : aSc} {d : Nat} {r : aRes} {a0 : Value} {a1 : Value} {x2 : Int32} {st : List Value} {σ : aS} : Rn sc d 183 8 [a0, a1, .int x2] st σ r ↔ Rn sc d 183 9 [a0, a1, .int x2] (.int x2 :: st) σ r := r_iload_n d183_8 rfl
theorem d183_9 : decode (mC 183) 9 = .ok (.invokevirtual 381, 3) := by decide +kernel
theorem x183_9 {sc : aSc} {d : Nat} {r : aRes} {L : List Value} {f : Nat → Nat → Int32} {g : Nat → Nat → Int64} {h1 h2 : Nat} {y0 : Int32} {y1 : Int32}  {o : Nat} (hK : KK[o]? = some (.inl 7)) : Rn sc d 183 9 L [.int y0, .int y1, .ref o] (cS f g h1 h2) r ↔ ∃ (σ3 : aS) (v : Option Value), Cl sc d 182 [.ref o, .int y1, .int y0] (cS f g h1 h2) (σ3, v) ∧ Rn sc d 183 12 L (v.toList ++ []) σ3 r := r_callV (vs := [.int y0, .int y1]) d183_9 (j := 182) (by decide +kernel) ⟨rfl, by decide, rfl, rfl⟩ (Nat.le_of_ble_eq_true rfl) hK
theorem d183_12 : decode (mC 183) 12 = .ok (.iconst 2, 1) := by decide +kernel
theorem x183_12 {sc : aSc} {d : Nat} {r : aRes} {L : List Value} {st : List Value} {σ : aS} : Rn sc d 183 12 L st σ r ↔ Rn sc d 183 13 L (.int 2 :: st) σ r := r_iconst d183_12 (by decide)
theorem d183_13 : decode (mC 183) 13 = .ok (.imul, 1) := by decide +kernel
theorem x183_13 {sc : aSc} {d : Nat} {r : aRes} {L : List Value} {st : List Value} {σ : aS} {x y : Int32} : Rn sc d 183 13 L (.int y :: .int x :: st) σ r ↔ Rn sc d 183 14 L (.int (x * y) :: st) σ r := r_imul d183_13
theorem d183_14 : decode (mC 183) 14 = .ok (.ireturn, 1) := by decide +kernel
theorem x183_14 {sc : aSc} {d : Nat} {r : aRes} {L : List Value} {σ : aS} {x : Int32} : Rn sc d 183 14 L [.int x] σ r ↔ r = (σ, some (.int x)) := r_iret d183_14 rfl rfl
theorem d184_0 : decode (mC 184) 0 = .ok (.aload_n 0, 1) := by decide +kernel
theorem x184_0 {sc : aSc} {d : Nat} {r : aRes} {x0 : Nat} {a1 : Value} {a2 : Value} {a3 : Value} {st : List Value} {σ : aS} : Rn sc d 184 0 [.ref x0, a1, a2, a3] st σ r ↔ Rn sc d 184 1 [.ref x0, a1, a2, a3] (.ref x0 :: st) σ r := r_aload_n d184_0 rfl
theorem d184_1 : decode (mC 184) 1 = .ok (.getfield 25, 3) := by decide +kernel
theorem x184_1 {sc : aSc} {d : Nat} {r : aRes} {L : List Value} {st : List Value} {f : Nat → Nat → Int32} {g : Nat → Nat → Int64} {h1 h2 : Nat} {o : Nat} (hK : KK[o]? = some (.inl 7)) (hR : (RR h1 h2 o 5).isSome = true) : Rn sc d 184 1 L (.ref o :: st) (cS f g h1 h2) r ↔ Rn sc d 184 4 L (.ref (rf h1 h2 o 5) :: st) (cS f g h1 h2) r := r_getR2 d184_1 (ci := 7) (k := 5) rfl (by decide) (fun _ => rfl) hK hR
theorem d184_4 : decode (mC 184) 4 = .ok (.iload_n 1, 1) := by decide +kernel
theorem x184_4 {sc : aSc} {d : Nat} {r : aRes} {a0 : Value} {x1 : Int32} {a2 : Value} {a3 : Value} {st : List Value} {σ : aS} : Rn sc d 184 4 [a0, .int x1, a2, a3] st σ r ↔ Rn sc d 184 5 [a0, .int x1, a2, a3] (.int x1 :: st) σ r := r_iload_n d184_4 rfl
theorem d184_5 : decode (mC 184) 5 = .ok (.iaload, 1) := by decide +kernel
theorem x184_5 {sc : aSc} {d : Nat} {r : aRes} {L : List Value} {st : List Value} {f : Nat → Nat → Int32} {g : Nat → Nat → Int64} {h1 h2 : Nat} {a : Nat} {i : Int32} (h17 : 17 ≤ a) (hA : isT9 .int a) (hi : inb i (aln a) = true) : Rn sc d 184 5 L (.int i :: .ref a :: st) (cS f g h1 h2) r ↔ Rn sc d 184 6 L (.int (f a i.toNatClampNeg) :: st) (cS f g h1 h2) r := r_iald d184_5 h17 hA hi
theorem d184_6 : decode (mC 184) 6 = .ok (.tableswitch 67 3 6 #[30, 67, 52, 30], 30) := by decide +kernel
theorem x184_6 {sc : aSc} {d : Nat} {r : aRes} {L : List Value} {st : List Value} {σ : aS} {x : Int32} : Rn sc d 184 6 L (.int x :: st) σ r ↔ (if x = 3 then Rn sc d 184 36 L st σ r else (if x = 4 then Rn sc d 184 73 L st σ r else (if x = 5 then Rn sc d 184 58 L st σ r else (if x = 6 then Rn sc d 184 36 L st σ r else Rn sc d 184 73 L st σ r)))) := by
  by_cases c0 : x = 3
  · subst c0; simp only [if_pos]; exact r_tsw d184_6 (t := 36) rfl
  rw [if_neg c0]
  by_cases c1 : x = 4
  · subst c1; simp only [if_pos]; exact r_tsw d184_6 (t := 73) rfl
  rw [if_neg c1]
  by_cases c2 : x = 5
  · subst c2; simp only [if_pos]; exact r_tsw d184_6 (t := 58) rfl
  rw [if_neg c2]
  by_cases c3 : x = 6
  · subst c3; simp only [if_pos]; exact r_tsw d184_6 (t := 36) rfl
  rw [if_neg c3]
  refine r_tswd d184_6 ?_ rfl
  have e0 : x.toInt ≠ 3 := fun z => c0 (Int32.toInt_inj.mp z)
  have e1 : x.toInt ≠ 4 := fun z => c1 (Int32.toInt_inj.mp z)
  have e2 : x.toInt ≠ 5 := fun z => c2 (Int32.toInt_inj.mp z)
  have e3 : x.toInt ≠ 6 := fun z => c3 (Int32.toInt_inj.mp z)
  omega
theorem d184_36 : decode (mC 184) 36 = .ok (.aload_n 0, 1) := by decide +kernel
theorem x184_36 {sc : aSc} {d : Nat} {r : aRes} {x0 : Nat} {a1 : Value} {a2 : Value} {a3 : Value} {st : List Value} {σ : aS} : Rn sc d 184 36 [.ref x0, a1, a2, a3] st σ r ↔ Rn sc d 184 37 [.ref x0, a1, a2, a3] (.ref x0 :: st) σ r := r_aload_n d184_36 rfl
theorem d184_37 : decode (mC 184) 37 = .ok (.bipush 40, 2) := by decide +kernel
theorem x184_37 {sc : aSc} {d : Nat} {r : aRes} {L : List Value} {st : List Value} {σ : aS} : Rn sc d 184 37 L st σ r ↔ Rn sc d 184 39 L (.int 40 :: st) σ r := r_bipush d184_37 (by decide)
theorem d184_39 : decode (mC 184) 39 = .ok (.invokevirtual 366, 3) := by decide +kernel
theorem x184_39 {sc : aSc} {d : Nat} {r : aRes} {L : List Value} {f : Nat → Nat → Int32} {g : Nat → Nat → Int64} {h1 h2 : Nat} {y0 : Int32}  {o : Nat} (hK : KK[o]? = some (.inl 7)) : Rn sc d 184 39 L [.int y0, .ref o] (cS f g h1 h2) r ↔ ∃ (σ3 : aS) (v : Option Value), Cl sc d 177 [.ref o, .int y0] (cS f g h1 h2) (σ3, v) ∧ Rn sc d 184 42 L (v.toList ++ []) σ3 r := r_callV (vs := [.int y0]) d184_39 (j := 177) (by decide +kernel) ⟨rfl, by decide, rfl, rfl⟩ (Nat.le_of_ble_eq_true rfl) hK
theorem d184_42 : decode (mC 184) 42 = .ok (.aload_n 0, 1) := by decide +kernel
theorem x184_42 {sc : aSc} {d : Nat} {r : aRes} {x0 : Nat} {a1 : Value} {a2 : Value} {a3 : Value} {st : List Value} {σ : aS} : Rn sc d 184 42 [.ref x0, a1, a2, a3] st σ r ↔ Rn sc d 184 43 [.ref x0, a1, a2, a3] (.ref x0 :: st) σ r := r_aload_n d184_42 rfl
theorem d184_43 : decode (mC 184) 43 = .ok (.iload_n 1, 1) := by decide +kernel
theorem x184_43 {sc : aSc} {d : Nat} {r : aRes} {a0 : Value} {x1 : Int32} {a2 : Value} {a3 : Value} {st : List Value} {σ : aS} : Rn sc d 184 43 [a0, .int x1, a2, a3] st σ r ↔ Rn sc d 184 44 [a0, .int x1, a2, a3] (.int x1 :: st) σ r := r_iload_n d184_43 rfl
theorem d184_44 : decode (mC 184) 44 = .ok (.iload_n 2, 1) := by decide +kernel
theorem x184_44 {sc : aSc} {d : Nat} {r : aRes} {a0 : Value} {a1 : Value} {x2 : Int32} {a3 : Value} {st : List Value} {σ : aS} : Rn sc d 184 44 [a0, a1, .int x2, a3] st σ r ↔ Rn sc d 184 45 [a0, a1, .int x2, a3] (.int x2 :: st) σ r := r_iload_n d184_44 rfl
theorem d184_45 : decode (mC 184) 45 = .ok (.invokevirtual 384, 3) := by decide +kernel
theorem x184_45 {sc : aSc} {d : Nat} {r : aRes} {L : List Value} {f : Nat → Nat → Int32} {g : Nat → Nat → Int64} {h1 h2 : Nat} {y0 : Int32} {y1 : Int32}  {o : Nat} (hK : KK[o]? = some (.inl 7)) : Rn sc d 184 45 L [.int y0, .int y1, .ref o] (cS f g h1 h2) r ↔ ∃ (σ3 : aS) (v : Option Value), Cl sc d 183 [.ref o, .int y1, .int y0] (cS f g h1 h2) (σ3, v) ∧ Rn sc d 184 48 L (v.toList ++ []) σ3 r := r_callV (vs := [.int y0, .int y1]) d184_45 (j := 183) (by decide +kernel) ⟨rfl, by decide, rfl, rfl⟩ (Nat.le_of_ble_eq_true rfl) hK
theorem d184_48 : decode (mC 184) 48 = .ok (.istore_n 3, 1) := by decide +kernel
theorem x184_48 {sc : aSc} {d : Nat} {r : aRes} {a0 : Value} {a1 : Value} {x2 : Int32} {a3 : Value} {st : List Value} {σ : aS} {y : Int32} : Rn sc d 184 48 [a0, a1, .int x2, a3] (.int y :: st) σ r ↔ Rn sc d 184 49 [a0, a1, .int x2, .int y] st σ r := r_istore_n d184_48 (Nat.le_of_ble_eq_true rfl) rfl
theorem d184_49 : decode (mC 184) 49 = .ok (.iload_n 3, 1) := by decide +kernel
theorem x184_49 {sc : aSc} {d : Nat} {r : aRes} {a0 : Value} {a1 : Value} {a2 : Value} {x3 : Int32} {st : List Value} {σ : aS} : Rn sc d 184 49 [a0, a1, a2, .int x3] st σ r ↔ Rn sc d 184 50 [a0, a1, a2, .int x3] (.int x3 :: st) σ r := r_iload_n d184_49 rfl
theorem d184_50 : decode (mC 184) 50 = .ok (.aload_n 0, 1) := by decide +kernel
theorem x184_50 {sc : aSc} {d : Nat} {r : aRes} {x0 : Nat} {a1 : Value} {a2 : Value} {a3 : Value} {st : List Value} {σ : aS} : Rn sc d 184 50 [.ref x0, a1, a2, a3] st σ r ↔ Rn sc d 184 51 [.ref x0, a1, a2, a3] (.ref x0 :: st) σ r := r_aload_n d184_50 rfl
theorem d184_51 : decode (mC 184) 51 = .ok (.iload_n 1, 1) := by decide +kernel
theorem x184_51 {sc : aSc} {d : Nat} {r : aRes} {a0 : Value} {x1 : Int32} {a2 : Value} {a3 : Value} {st : List Value} {σ : aS} : Rn sc d 184 51 [a0, .int x1, a2, a3] st σ r ↔ Rn sc d 184 52 [a0, .int x1, a2, a3] (.int x1 :: st) σ r := r_iload_n d184_51 rfl
theorem d184_52 : decode (mC 184) 52 = .ok (.iconst 1, 1) := by decide +kernel
theorem x184_52 {sc : aSc} {d : Nat} {r : aRes} {L : List Value} {st : List Value} {σ : aS} : Rn sc d 184 52 L st σ r ↔ Rn sc d 184 53 L (.int 1 :: st) σ r := r_iconst d184_52 (by decide)
theorem d184_53 : decode (mC 184) 53 = .ok (.invokevirtual 381, 3) := by decide +kernel
theorem x184_53 {sc : aSc} {d : Nat} {r : aRes} {L : List Value} {f : Nat → Nat → Int32} {g : Nat → Nat → Int64} {h1 h2 : Nat} {y0 : Int32} {y1 : Int32} {z0 : Int32} {o : Nat} (hK : KK[o]? = some (.inl 7)) : Rn sc d 184 53 L [.int y0, .int y1, .ref o, .int z0] (cS f g h1 h2) r ↔ ∃ (σ3 : aS) (v : Option Value), Cl sc d 182 [.ref o, .int y1, .int y0] (cS f g h1 h2) (σ3, v) ∧ Rn sc d 184 56 L (v.toList ++ [.int z0]) σ3 r := r_callV (vs := [.int y0, .int y1]) d184_53 (j := 182) (by decide +kernel) ⟨rfl, by decide, rfl, rfl⟩ (Nat.le_of_ble_eq_true rfl) hK
theorem d184_56 : decode (mC 184) 56 = .ok (.iadd, 1) := by decide +kernel
theorem x184_56 {sc : aSc} {d : Nat} {r : aRes} {L : List Value} {st : List Value} {σ : aS} {x y : Int32} : Rn sc d 184 56 L (.int y :: .int x :: st) σ r ↔ Rn sc d 184 57 L (.int (x + y) :: st) σ r := r_iadd d184_56
theorem d184_57 : decode (mC 184) 57 = .ok (.ireturn, 1) := by decide +kernel
theorem x184_57 {sc : aSc} {d : Nat} {r : aRes} {L : List Value} {σ : aS} {x : Int32} : Rn sc d 184 57 L [.int x] σ r ↔ r = (σ, some (.int x)) := r_iret d184_57 rfl rfl
theorem d184_58 : decode (mC 184) 58 = .ok (.aload_n 0, 1) := by decide +kernel
theorem x184_58 {sc : aSc} {d : Nat} {r : aRes} {x0 : Nat} {a1 : Value} {a2 : Value} {a3 : Value} {st : List Value} {σ : aS} : Rn sc d 184 58 [.ref x0, a1, a2, a3] st σ r ↔ Rn sc d 184 59 [.ref x0, a1, a2, a3] (.ref x0 :: st) σ r := r_aload_n d184_58 rfl
theorem d184_59 : decode (mC 184) 59 = .ok (.bipush 60, 2) := by decide +kernel
theorem x184_59 {sc : aSc} {d : Nat} {r : aRes} {L : List Value} {st : List Value} {σ : aS} : Rn sc d 184 59 L st σ r ↔ Rn sc d 184 61 L (.int 60 :: st) σ r := r_bipush d184_59 (by decide)
theorem d184_61 : decode (mC 184) 61 = .ok (.invokevirtual 366, 3) := by decide +kernel
theorem x184_61 {sc : aSc} {d : Nat} {r : aRes} {L : List Value} {f : Nat → Nat → Int32} {g : Nat → Nat → Int64} {h1 h2 : Nat} {y0 : Int32}  {o : Nat} (hK : KK[o]? = some (.inl 7)) : Rn sc d 184 61 L [.int y0, .ref o] (cS f g h1 h2) r ↔ ∃ (σ3 : aS) (v : Option Value), Cl sc d 177 [.ref o, .int y0] (cS f g h1 h2) (σ3, v) ∧ Rn sc d 184 64 L (v.toList ++ []) σ3 r := r_callV (vs := [.int y0]) d184_61 (j := 177) (by decide +kernel) ⟨rfl, by decide, rfl, rfl⟩ (Nat.le_of_ble_eq_true rfl) hK
theorem d184_64 : decode (mC 184) 64 = .ok (.aload_n 0, 1) := by decide +kernel
theorem x184_64 {sc : aSc} {d : Nat} {r : aRes} {x0 : Nat} {a1 : Value} {a2 : Value} {a3 : Value} {st : List Value} {σ : aS} : Rn sc d 184 64 [.ref x0, a1, a2, a3] st σ r ↔ Rn sc d 184 65 [.ref x0, a1, a2, a3] (.ref x0 :: st) σ r := r_aload_n d184_64 rfl
theorem d184_65 : decode (mC 184) 65 = .ok (.iload_n 1, 1) := by decide +kernel
theorem x184_65 {sc : aSc} {d : Nat} {r : aRes} {a0 : Value} {x1 : Int32} {a2 : Value} {a3 : Value} {st : List Value} {σ : aS} : Rn sc d 184 65 [a0, .int x1, a2, a3] st σ r ↔ Rn sc d 184 66 [a0, .int x1, a2, a3] (.int x1 :: st) σ r := r_iload_n d184_65 rfl
theorem d184_66 : decode (mC 184) 66 = .ok (.iload_n 2, 1) := by decide +kernel
theorem x184_66 {sc : aSc} {d : Nat} {r : aRes} {a0 : Value} {a1 : Value} {x2 : Int32} {a3 : Value} {st : List Value} {σ : aS} : Rn sc d 184 66 [a0, a1, .int x2, a3] st σ r ↔ Rn sc d 184 67 [a0, a1, .int x2, a3] (.int x2 :: st) σ r := r_iload_n d184_66 rfl
theorem d184_67 : decode (mC 184) 67 = .ok (.iload_n 1, 1) := by decide +kernel
theorem x184_67 {sc : aSc} {d : Nat} {r : aRes} {a0 : Value} {x1 : Int32} {a2 : Value} {a3 : Value} {st : List Value} {σ : aS} : Rn sc d 184 67 [a0, .int x1, a2, a3] st σ r ↔ Rn sc d 184 68 [a0, .int x1, a2, a3] (.int x1 :: st) σ r := r_iload_n d184_67 rfl
theorem d184_68 : decode (mC 184) 68 = .ok (.isub, 1) := by decide +kernel
theorem x184_68 {sc : aSc} {d : Nat} {r : aRes} {L : List Value} {st : List Value} {σ : aS} {x y : Int32} : Rn sc d 184 68 L (.int y :: .int x :: st) σ r ↔ Rn sc d 184 69 L (.int (x - y) :: st) σ r := r_isub d184_68
theorem d184_69 : decode (mC 184) 69 = .ok (.invokevirtual 384, 3) := by decide +kernel
theorem x184_69 {sc : aSc} {d : Nat} {r : aRes} {L : List Value} {f : Nat → Nat → Int32} {g : Nat → Nat → Int64} {h1 h2 : Nat} {y0 : Int32} {y1 : Int32}  {o : Nat} (hK : KK[o]? = some (.inl 7)) : Rn sc d 184 69 L [.int y0, .int y1, .ref o] (cS f g h1 h2) r ↔ ∃ (σ3 : aS) (v : Option Value), Cl sc d 183 [.ref o, .int y1, .int y0] (cS f g h1 h2) (σ3, v) ∧ Rn sc d 184 72 L (v.toList ++ []) σ3 r := r_callV (vs := [.int y0, .int y1]) d184_69 (j := 183) (by decide +kernel) ⟨rfl, by decide, rfl, rfl⟩ (Nat.le_of_ble_eq_true rfl) hK
theorem d184_72 : decode (mC 184) 72 = .ok (.ireturn, 1) := by decide +kernel
theorem x184_72 {sc : aSc} {d : Nat} {r : aRes} {L : List Value} {σ : aS} {x : Int32} : Rn sc d 184 72 L [.int x] σ r ↔ r = (σ, some (.int x)) := r_iret d184_72 rfl rfl
theorem d184_73 : decode (mC 184) 73 = .ok (.aload_n 0, 1) := by decide +kernel
theorem x184_73 {sc : aSc} {d : Nat} {r : aRes} {x0 : Nat} {a1 : Value} {a2 : Value} {a3 : Value} {st : List Value} {σ : aS} : Rn sc d 184 73 [.ref x0, a1, a2, a3] st σ r ↔ Rn sc d 184 74 [.ref x0, a1, a2, a3] (.ref x0 :: st) σ r := r_aload_n d184_73 rfl
theorem d184_74 : decode (mC 184) 74 = .ok (.iload_n 1, 1) := by decide +kernel
theorem x184_74 {sc : aSc} {d : Nat} {r : aRes} {a0 : Value} {x1 : Int32} {a2 : Value} {a3 : Value} {st : List Value} {σ : aS} : Rn sc d 184 74 [a0, .int x1, a2, a3] st σ r ↔ Rn sc d 184 75 [a0, .int x1, a2, a3] (.int x1 :: st) σ r := r_iload_n d184_74 rfl
theorem d184_75 : decode (mC 184) 75 = .ok (.iload_n 2, 1) := by decide +kernel
theorem x184_75 {sc : aSc} {d : Nat} {r : aRes} {a0 : Value} {a1 : Value} {x2 : Int32} {a3 : Value} {st : List Value} {σ : aS} : Rn sc d 184 75 [a0, a1, .int x2, a3] st σ r ↔ Rn sc d 184 76 [a0, a1, .int x2, a3] (.int x2 :: st) σ r := r_iload_n d184_75 rfl
theorem d184_76 : decode (mC 184) 76 = .ok (.invokevirtual 384, 3) := by decide +kernel
theorem x184_76 {sc : aSc} {d : Nat} {r : aRes} {L : List Value} {f : Nat → Nat → Int32} {g : Nat → Nat → Int64} {h1 h2 : Nat} {y0 : Int32} {y1 : Int32}  {o : Nat} (hK : KK[o]? = some (.inl 7)) : Rn sc d 184 76 L [.int y0, .int y1, .ref o] (cS f g h1 h2) r ↔ ∃ (σ3 : aS) (v : Option Value), Cl sc d 183 [.ref o, .int y1, .int y0] (cS f g h1 h2) (σ3, v) ∧ Rn sc d 184 79 L (v.toList ++ []) σ3 r := r_callV (vs := [.int y0, .int y1]) d184_76 (j := 183) (by decide +kernel) ⟨rfl, by decide, rfl, rfl⟩ (Nat.le_of_ble_eq_true rfl) hK
theorem d184_79 : decode (mC 184) 79 = .ok (.ireturn, 1) := by decide +kernel
theorem x184_79 {sc : aSc} {d : Nat} {r : aRes} {L : List Value} {σ : aS} {x : Int32} : Rn sc d 184 79 L [.int x] σ r ↔ r = (σ, some (.int x)) := r_iret d184_79 rfl rfl
theorem d185_0 : decode (mC 185) 0 = .ok (.aload_n 0, 1) := by decide +kernel
theorem x185_0 {sc : aSc} {d : Nat} {r : aRes} {x0 : Nat} {a1 : Value} {a2 : Value} {a3 : Value} {st : List Value} {σ : aS} : Rn sc d 185 0 [.ref x0, a1, a2, a3] st σ r ↔ Rn sc d 185 1 [.ref x0, a1, a2, a3] (.ref x0 :: st) σ r := r_aload_n d185_0 rfl
theorem d185_1 : decode (mC 185) 1 = .ok (.iconst 0, 1) := by decide +kernel
theorem x185_1 {sc : aSc} {d : Nat} {r : aRes} {L : List Value} {st : List Value} {σ : aS} : Rn sc d 185 1 L st σ r ↔ Rn sc d 185 2 L (.int 0 :: st) σ r := r_iconst d185_1 (by decide)
theorem d185_2 : decode (mC 185) 2 = .ok (.putfield 208, 3) := by decide +kernel
theorem x185_2 {sc : aSc} {d : Nat} {r : aRes} {L : List Value} {st : List Value} {f : Nat → Nat → Int32} {g : Nat → Nat → Int64} {h1 h2 : Nat} {o : Nat} {v : Int32} (h17 : 17 ≤ o) (hK : KK[o]? = some (.inl 7)) : Rn sc d 185 2 L (.int v :: .ref o :: st) (cS f g h1 h2) r ↔ Rn sc d 185 5 L st (cS (u2 f o 65 v) g h1 h2) r := r_putI d185_2 (ci := 7) (k := 65) (by decide +kernel) (by decide +kernel) h17 hK
theorem d185_5 : decode (mC 185) 5 = .ok (.aload_n 0, 1) := by decide +kernel
theorem x185_5 {sc : aSc} {d : Nat} {r : aRes} {x0 : Nat} {a1 : Value} {a2 : Value} {a3 : Value} {st : List Value} {σ : aS} : Rn sc d 185 5 [.ref x0, a1, a2, a3] st σ r ↔ Rn sc d 185 6 [.ref x0, a1, a2, a3] (.ref x0 :: st) σ r := r_aload_n d185_5 rfl
theorem d185_6 : decode (mC 185) 6 = .ok (.iload_n 1, 1) := by decide +kernel
theorem x185_6 {sc : aSc} {d : Nat} {r : aRes} {a0 : Value} {x1 : Int32} {a2 : Value} {a3 : Value} {st : List Value} {σ : aS} : Rn sc d 185 6 [a0, .int x1, a2, a3] st σ r ↔ Rn sc d 185 7 [a0, .int x1, a2, a3] (.int x1 :: st) σ r := r_iload_n d185_6 rfl
theorem d185_7 : decode (mC 185) 7 = .ok (.invokevirtual 231, 3) := by decide +kernel
theorem x185_7 {sc : aSc} {d : Nat} {r : aRes} {L : List Value} {f : Nat → Nat → Int32} {g : Nat → Nat → Int64} {h1 h2 : Nat} {y0 : Int32}  {o : Nat} (hK : KK[o]? = some (.inl 7)) : Rn sc d 185 7 L [.int y0, .ref o] (cS f g h1 h2) r ↔ ∃ (σ3 : aS) (v : Option Value), Cl sc d 109 [.ref o, .int y0] (cS f g h1 h2) (σ3, v) ∧ Rn sc d 185 10 L (v.toList ++ []) σ3 r := r_callV (vs := [.int y0]) d185_7 (j := 109) (by decide +kernel) ⟨rfl, by decide, rfl, rfl⟩ (Nat.le_of_ble_eq_true rfl) hK
theorem d185_10 : decode (mC 185) 10 = .ok (.ifCond .eq 13, 3) := by decide +kernel
theorem x185_10 {sc : aSc} {d : Nat} {r : aRes} {L : List Value} {st : List Value} {σ : aS} {x : Int32} : Rn sc d 185 10 L (.int x :: st) σ r ↔ if x = 0 then Rn sc d 185 23 L st σ r else Rn sc d 185 13 L st σ r := r_if_eq d185_10 rfl
theorem d185_13 : decode (mC 185) 13 = .ok (.aload_n 0, 1) := by decide +kernel
theorem x185_13 {sc : aSc} {d : Nat} {r : aRes} {x0 : Nat} {a1 : Value} {a2 : Value} {a3 : Value} {st : List Value} {σ : aS} : Rn sc d 185 13 [.ref x0, a1, a2, a3] st σ r ↔ Rn sc d 185 14 [.ref x0, a1, a2, a3] (.ref x0 :: st) σ r := r_aload_n d185_13 rfl
theorem d185_14 : decode (mC 185) 14 = .ok (.iload_n 2, 1) := by decide +kernel
theorem x185_14 {sc : aSc} {d : Nat} {r : aRes} {a0 : Value} {a1 : Value} {x2 : Int32} {a3 : Value} {st : List Value} {σ : aS} : Rn sc d 185 14 [a0, a1, .int x2, a3] st σ r ↔ Rn sc d 185 15 [a0, a1, .int x2, a3] (.int x2 :: st) σ r := r_iload_n d185_14 rfl
theorem d185_15 : decode (mC 185) 15 = .ok (.iconst 0, 1) := by decide +kernel
theorem x185_15 {sc : aSc} {d : Nat} {r : aRes} {L : List Value} {st : List Value} {σ : aS} : Rn sc d 185 15 L st σ r ↔ Rn sc d 185 16 L (.int 0 :: st) σ r := r_iconst d185_15 (by decide)
theorem d185_16 : decode (mC 185) 16 = .ok (.iconst 2, 1) := by decide +kernel
theorem x185_16 {sc : aSc} {d : Nat} {r : aRes} {L : List Value} {st : List Value} {σ : aS} : Rn sc d 185 16 L st σ r ↔ Rn sc d 185 17 L (.int 2 :: st) σ r := r_iconst d185_16 (by decide)
theorem d185_17 : decode (mC 185) 17 = .ok (.invokevirtual 227, 3) := by decide +kernel
theorem x185_17 {sc : aSc} {d : Nat} {r : aRes} {L : List Value} {f : Nat → Nat → Int32} {g : Nat → Nat → Int64} {h1 h2 : Nat} {y0 : Int32} {y1 : Int32} {y2 : Int32}  {o : Nat} (hK : KK[o]? = some (.inl 7)) : Rn sc d 185 17 L [.int y0, .int y1, .int y2, .ref o] (cS f g h1 h2) r ↔ ∃ (σ3 : aS) (v : Option Value), Cl sc d 108 [.ref o, .int y2, .int y1, .int y0] (cS f g h1 h2) (σ3, v) ∧ Rn sc d 185 20 L (v.toList ++ []) σ3 r := r_callV (vs := [.int y0, .int y1, .int y2]) d185_17 (j := 108) (by decide +kernel) ⟨rfl, by decide, rfl, rfl⟩ (Nat.le_of_ble_eq_true rfl) hK
theorem d185_20 : decode (mC 185) 20 = .ok (.ifCond .ne 5, 3) := by decide +kernel
theorem x185_20 {sc : aSc} {d : Nat} {r : aRes} {L : List Value} {st : List Value} {σ : aS} {x : Int32} : Rn sc d 185 20 L (.int x :: st) σ r ↔ if x = 0 then Rn sc d 185 23 L st σ r else Rn sc d 185 25 L st σ r := r_if_ne d185_20 rfl
theorem d185_23 : decode (mC 185) 23 = .ok (.iconst 0, 1) := by decide +kernel
theorem x185_23 {sc : aSc} {d : Nat} {r : aRes} {L : List Value} {st : List Value} {σ : aS} : Rn sc d 185 23 L st σ r ↔ Rn sc d 185 24 L (.int 0 :: st) σ r := r_iconst d185_23 (by decide)
theorem d185_24 : decode (mC 185) 24 = .ok (.ireturn, 1) := by decide +kernel
theorem x185_24 {sc : aSc} {d : Nat} {r : aRes} {L : List Value} {σ : aS} {x : Int32} : Rn sc d 185 24 L [.int x] σ r ↔ r = (σ, some (.int x)) := r_iret d185_24 rfl rfl
theorem d185_25 : decode (mC 185) 25 = .ok (.iload_n 2, 1) := by decide +kernel
theorem x185_25 {sc : aSc} {d : Nat} {r : aRes} {a0 : Value} {a1 : Value} {x2 : Int32} {a3 : Value} {st : List Value} {σ : aS} : Rn sc d 185 25 [a0, a1, .int x2, a3] st σ r ↔ Rn sc d 185 26 [a0, a1, .int x2, a3] (.int x2 :: st) σ r := r_iload_n d185_25 rfl
theorem d185_26 : decode (mC 185) 26 = .ok (.ifCond .ne 12, 3) := by decide +kernel
theorem x185_26 {sc : aSc} {d : Nat} {r : aRes} {L : List Value} {st : List Value} {σ : aS} {x : Int32} : Rn sc d 185 26 L (.int x :: st) σ r ↔ if x = 0 then Rn sc d 185 29 L st σ r else Rn sc d 185 38 L st σ r := r_if_ne d185_26 rfl
theorem d185_29 : decode (mC 185) 29 = .ok (.aload_n 0, 1) := by decide +kernel
theorem x185_29 {sc : aSc} {d : Nat} {r : aRes} {x0 : Nat} {a1 : Value} {a2 : Value} {a3 : Value} {st : List Value} {σ : aS} : Rn sc d 185 29 [.ref x0, a1, a2, a3] st σ r ↔ Rn sc d 185 30 [.ref x0, a1, a2, a3] (.ref x0 :: st) σ r := r_aload_n d185_29 rfl
theorem d185_30 : decode (mC 185) 30 = .ok (.iload_n 1, 1) := by decide +kernel
theorem x185_30 {sc : aSc} {d : Nat} {r : aRes} {a0 : Value} {x1 : Int32} {a2 : Value} {a3 : Value} {st : List Value} {σ : aS} : Rn sc d 185 30 [a0, .int x1, a2, a3] st σ r ↔ Rn sc d 185 31 [a0, .int x1, a2, a3] (.int x1 :: st) σ r := r_iload_n d185_30 rfl
theorem d185_31 : decode (mC 185) 31 = .ok (.iload_n 3, 1) := by decide +kernel
theorem x185_31 {sc : aSc} {d : Nat} {r : aRes} {a0 : Value} {a1 : Value} {a2 : Value} {x3 : Int32} {st : List Value} {σ : aS} : Rn sc d 185 31 [a0, a1, a2, .int x3] st σ r ↔ Rn sc d 185 32 [a0, a1, a2, .int x3] (.int x3 :: st) σ r := r_iload_n d185_31 rfl
theorem d185_32 : decode (mC 185) 32 = .ok (.invokevirtual 372, 3) := by decide +kernel
theorem x185_32 {sc : aSc} {d : Nat} {r : aRes} {L : List Value} {f : Nat → Nat → Int32} {g : Nat → Nat → Int64} {h1 h2 : Nat} {y0 : Int32} {y1 : Int32}  {o : Nat} (hK : KK[o]? = some (.inl 7)) : Rn sc d 185 32 L [.int y0, .int y1, .ref o] (cS f g h1 h2) r ↔ ∃ (σ3 : aS) (v : Option Value), Cl sc d 179 [.ref o, .int y1, .int y0] (cS f g h1 h2) (σ3, v) ∧ Rn sc d 185 35 L (v.toList ++ []) σ3 r := r_callV (vs := [.int y0, .int y1]) d185_32 (j := 179) (by decide +kernel) ⟨rfl, by decide, rfl, rfl⟩ (Nat.le_of_ble_eq_true rfl) hK
theorem d185_35 : decode (mC 185) 35 = .ok (.goto 23, 3) := by decide +kernel
theorem x185_35 {sc : aSc} {d : Nat} {r : aRes} {L : List Value} {st : List Value} {σ : aS} : Rn sc d 185 35 L st σ r ↔ Rn sc d 185 58 L st σ r := r_goto d185_35 rfl
theorem d185_38 : decode (mC 185) 38 = .ok (.iload_n 2, 1) := by decide +kernel
theorem x185_38 {sc : aSc} {d : Nat} {r : aRes} {a0 : Value} {a1 : Value} {x2 : Int32} {a3 : Value} {st : List Value} {σ : aS} : Rn sc d 185 38 [a0, a1, .int x2, a3] st σ r ↔ Rn sc d 185 39 [a0, a1, .int x2, a3] (.int x2 :: st) σ r := r_iload_n d185_38 rfl
theorem d185_39 : decode (mC 185) 39 = .ok (.iconst 1, 1) := by decide +kernel
theorem x185_39 {sc : aSc} {d : Nat} {r : aRes} {L : List Value} {st : List Value} {σ : aS} : Rn sc d 185 39 L st σ r ↔ Rn sc d 185 40 L (.int 1 :: st) σ r := r_iconst d185_39 (by decide)
theorem d185_40 : decode (mC 185) 40 = .ok (.if_icmp .ne 12, 3) := by decide +kernel
theorem x185_40 {sc : aSc} {d : Nat} {r : aRes} {L : List Value} {st : List Value} {σ : aS} {x y : Int32} : Rn sc d 185 40 L (.int y :: .int x :: st) σ r ↔ if x = y then Rn sc d 185 43 L st σ r else Rn sc d 185 52 L st σ r := r_icmp_ne d185_40 rfl
theorem d185_43 : decode (mC 185) 43 = .ok (.aload_n 0, 1) := by decide +kernel
theorem x185_43 {sc : aSc} {d : Nat} {r : aRes} {x0 : Nat} {a1 : Value} {a2 : Value} {a3 : Value} {st : List Value} {σ : aS} : Rn sc d 185 43 [.ref x0, a1, a2, a3] st σ r ↔ Rn sc d 185 44 [.ref x0, a1, a2, a3] (.ref x0 :: st) σ r := r_aload_n d185_43 rfl
theorem d185_44 : decode (mC 185) 44 = .ok (.iload_n 1, 1) := by decide +kernel
theorem x185_44 {sc : aSc} {d : Nat} {r : aRes} {a0 : Value} {x1 : Int32} {a2 : Value} {a3 : Value} {st : List Value} {σ : aS} : Rn sc d 185 44 [a0, .int x1, a2, a3] st σ r ↔ Rn sc d 185 45 [a0, .int x1, a2, a3] (.int x1 :: st) σ r := r_iload_n d185_44 rfl
theorem d185_45 : decode (mC 185) 45 = .ok (.iload_n 3, 1) := by decide +kernel
theorem x185_45 {sc : aSc} {d : Nat} {r : aRes} {a0 : Value} {a1 : Value} {a2 : Value} {x3 : Int32} {st : List Value} {σ : aS} : Rn sc d 185 45 [a0, a1, a2, .int x3] st σ r ↔ Rn sc d 185 46 [a0, a1, a2, .int x3] (.int x3 :: st) σ r := r_iload_n d185_45 rfl
theorem d185_46 : decode (mC 185) 46 = .ok (.invokevirtual 381, 3) := by decide +kernel
theorem x185_46 {sc : aSc} {d : Nat} {r : aRes} {L : List Value} {f : Nat → Nat → Int32} {g : Nat → Nat → Int64} {h1 h2 : Nat} {y0 : Int32} {y1 : Int32}  {o : Nat} (hK : KK[o]? = some (.inl 7)) : Rn sc d 185 46 L [.int y0, .int y1, .ref o] (cS f g h1 h2) r ↔ ∃ (σ3 : aS) (v : Option Value), Cl sc d 182 [.ref o, .int y1, .int y0] (cS f g h1 h2) (σ3, v) ∧ Rn sc d 185 49 L (v.toList ++ []) σ3 r := r_callV (vs := [.int y0, .int y1]) d185_46 (j := 182) (by decide +kernel) ⟨rfl, by decide, rfl, rfl⟩ (Nat.le_of_ble_eq_true rfl) hK
theorem d185_49 : decode (mC 185) 49 = .ok (.goto 9, 3) := by decide +kernel
theorem x185_49 {sc : aSc} {d : Nat} {r : aRes} {L : List Value} {st : List Value} {σ : aS} : Rn sc d 185 49 L st σ r ↔ Rn sc d 185 58 L st σ r := r_goto d185_49 rfl
theorem d185_52 : decode (mC 185) 52 = .ok (.aload_n 0, 1) := by decide +kernel
theorem x185_52 {sc : aSc} {d : Nat} {r : aRes} {x0 : Nat} {a1 : Value} {a2 : Value} {a3 : Value} {st : List Value} {σ : aS} : Rn sc d 185 52 [.ref x0, a1, a2, a3] st σ r ↔ Rn sc d 185 53 [.ref x0, a1, a2, a3] (.ref x0 :: st) σ r := r_aload_n d185_52 rfl
theorem d185_53 : decode (mC 185) 53 = .ok (.iload_n 1, 1) := by decide +kernel
theorem x185_53 {sc : aSc} {d : Nat} {r : aRes} {a0 : Value} {x1 : Int32} {a2 : Value} {a3 : Value} {st : List Value} {σ : aS} : Rn sc d 185 53 [a0, .int x1, a2, a3] st σ r ↔ Rn sc d 185 54 [a0, .int x1, a2, a3] (.int x1 :: st) σ r := r_iload_n d185_53 rfl
theorem d185_54 : decode (mC 185) 54 = .ok (.iload_n 3, 1) := by decide +kernel
theorem x185_54 {sc : aSc} {d : Nat} {r : aRes} {a0 : Value} {a1 : Value} {a2 : Value} {x3 : Int32} {st : List Value} {σ : aS} : Rn sc d 185 54 [a0, a1, a2, .int x3] st σ r ↔ Rn sc d 185 55 [a0, a1, a2, .int x3] (.int x3 :: st) σ r := r_iload_n d185_54 rfl
theorem d185_55 : decode (mC 185) 55 = .ok (.invokevirtual 387, 3) := by decide +kernel
theorem x185_55 {sc : aSc} {d : Nat} {r : aRes} {L : List Value} {f : Nat → Nat → Int32} {g : Nat → Nat → Int64} {h1 h2 : Nat} {y0 : Int32} {y1 : Int32}  {o : Nat} (hK : KK[o]? = some (.inl 7)) : Rn sc d 185 55 L [.int y0, .int y1, .ref o] (cS f g h1 h2) r ↔ ∃ (σ3 : aS) (v : Option Value), Cl sc d 184 [.ref o, .int y1, .int y0] (cS f g h1 h2) (σ3, v) ∧ Rn sc d 185 58 L (v.toList ++ []) σ3 r := r_callV (vs := [.int y0, .int y1]) d185_55 (j := 184) (by decide +kernel) ⟨rfl, by decide, rfl, rfl⟩ (Nat.le_of_ble_eq_true rfl) hK
theorem d185_58 : decode (mC 185) 58 = .ok (.ireturn, 1) := by decide +kernel
theorem x185_58 {sc : aSc} {d : Nat} {r : aRes} {L : List Value} {σ : aS} {x : Int32} : Rn sc d 185 58 L [.int x] σ r ↔ r = (σ, some (.int x)) := r_iret d185_58 rfl rfl
theorem d186_0 : decode (mC 186) 0 = .ok (.aload_n 0, 1) := by decide +kernel
theorem x186_0 {sc : aSc} {d : Nat} {r : aRes} {x0 : Nat} {a1 : Value} {st : List Value} {σ : aS} : Rn sc d 186 0 [.ref x0, a1] st σ r ↔ Rn sc d 186 1 [.ref x0, a1] (.ref x0 :: st) σ r := r_aload_n d186_0 rfl
theorem d186_1 : decode (mC 186) 1 = .ok (.iload_n 1, 1) := by decide +kernel
theorem x186_1 {sc : aSc} {d : Nat} {r : aRes} {a0 : Value} {x1 : Int32} {st : List Value} {σ : aS} : Rn sc d 186 1 [a0, .int x1] st σ r ↔ Rn sc d 186 2 [a0, .int x1] (.int x1 :: st) σ r := r_iload_n d186_1 rfl
theorem d186_2 : decode (mC 186) 2 = .ok (.iconst 0, 1) := by decide +kernel
theorem x186_2 {sc : aSc} {d : Nat} {r : aRes} {L : List Value} {st : List Value} {σ : aS} : Rn sc d 186 2 L st σ r ↔ Rn sc d 186 3 L (.int 0 :: st) σ r := r_iconst d186_2 (by decide)
theorem d186_3 : decode (mC 186) 3 = .ok (.bipush 19, 2) := by decide +kernel
theorem x186_3 {sc : aSc} {d : Nat} {r : aRes} {L : List Value} {st : List Value} {σ : aS} : Rn sc d 186 3 L st σ r ↔ Rn sc d 186 5 L (.int 19 :: st) σ r := r_bipush d186_3 (by decide)
theorem d186_5 : decode (mC 186) 5 = .ok (.invokevirtual 227, 3) := by decide +kernel
theorem x186_5 {sc : aSc} {d : Nat} {r : aRes} {L : List Value} {f : Nat → Nat → Int32} {g : Nat → Nat → Int64} {h1 h2 : Nat} {y0 : Int32} {y1 : Int32} {y2 : Int32}  {o : Nat} (hK : KK[o]? = some (.inl 7)) : Rn sc d 186 5 L [.int y0, .int y1, .int y2, .ref o] (cS f g h1 h2) r ↔ ∃ (σ3 : aS) (v : Option Value), Cl sc d 108 [.ref o, .int y2, .int y1, .int y0] (cS f g h1 h2) (σ3, v) ∧ Rn sc d 186 8 L (v.toList ++ []) σ3 r := r_callV (vs := [.int y0, .int y1, .int y2]) d186_5 (j := 108) (by decide +kernel) ⟨rfl, by decide, rfl, rfl⟩ (Nat.le_of_ble_eq_true rfl) hK
theorem d186_8 : decode (mC 186) 8 = .ok (.ifCond .eq 20, 3) := by decide +kernel
theorem x186_8 {sc : aSc} {d : Nat} {r : aRes} {L : List Value} {st : List Value} {σ : aS} {x : Int32} : Rn sc d 186 8 L (.int x :: st) σ r ↔ if x = 0 then Rn sc d 186 28 L st σ r else Rn sc d 186 11 L st σ r := r_if_eq d186_8 rfl
theorem d186_11 : decode (mC 186) 11 = .ok (.iload_n 1, 1) := by decide +kernel
theorem x186_11 {sc : aSc} {d : Nat} {r : aRes} {a0 : Value} {x1 : Int32} {st : List Value} {σ : aS} : Rn sc d 186 11 [a0, .int x1] st σ r ↔ Rn sc d 186 12 [a0, .int x1] (.int x1 :: st) σ r := r_iload_n d186_11 rfl
theorem d186_12 : decode (mC 186) 12 = .ok (.aload_n 0, 1) := by decide +kernel
theorem x186_12 {sc : aSc} {d : Nat} {r : aRes} {x0 : Nat} {a1 : Value} {st : List Value} {σ : aS} : Rn sc d 186 12 [.ref x0, a1] st σ r ↔ Rn sc d 186 13 [.ref x0, a1] (.ref x0 :: st) σ r := r_aload_n d186_12 rfl
theorem d186_13 : decode (mC 186) 13 = .ok (.getfield 208, 3) := by decide +kernel
theorem x186_13 {sc : aSc} {d : Nat} {r : aRes} {L : List Value} {st : List Value} {f : Nat → Nat → Int32} {g : Nat → Nat → Int64} {h1 h2 : Nat} {o : Nat} (h17 : 17 ≤ o) (hK : KK[o]? = some (.inl 7)) : Rn sc d 186 13 L (.ref o :: st) (cS f g h1 h2) r ↔ Rn sc d 186 16 L (.int (f o 65) :: st) (cS f g h1 h2) r := r_getI d186_13 (ci := 7) (k := 65) (by decide +kernel) (by decide +kernel) (fun _ => rfl) h17 hK
theorem d186_16 : decode (mC 186) 16 = .ok (.if_icmp .ge 12, 3) := by decide +kernel
theorem x186_16 {sc : aSc} {d : Nat} {r : aRes} {L : List Value} {st : List Value} {σ : aS} {x y : Int32} : Rn sc d 186 16 L (.int y :: .int x :: st) σ r ↔ if x < y then Rn sc d 186 19 L st σ r else Rn sc d 186 28 L st σ r := r_icmp_ge d186_16 rfl
theorem d186_19 : decode (mC 186) 19 = .ok (.aload_n 0, 1) := by decide +kernel
theorem x186_19 {sc : aSc} {d : Nat} {r : aRes} {x0 : Nat} {a1 : Value} {st : List Value} {σ : aS} : Rn sc d 186 19 [.ref x0, a1] st σ r ↔ Rn sc d 186 20 [.ref x0, a1] (.ref x0 :: st) σ r := r_aload_n d186_19 rfl
theorem d186_20 : decode (mC 186) 20 = .ok (.getfield 211, 3) := by decide +kernel
theorem x186_20 {sc : aSc} {d : Nat} {r : aRes} {L : List Value} {st : List Value} {f : Nat → Nat → Int32} {g : Nat → Nat → Int64} {h1 h2 : Nat} {o : Nat} (hK : KK[o]? = some (.inl 7)) (hR : (RR h1 h2 o 66).isSome = true) : Rn sc d 186 20 L (.ref o :: st) (cS f g h1 h2) r ↔ Rn sc d 186 23 L (.ref (rf h1 h2 o 66) :: st) (cS f g h1 h2) r := r_getR2 d186_20 (ci := 7) (k := 66) (by decide +kernel) (by decide +kernel) (fun _ => rfl) hK hR
theorem d186_23 : decode (mC 186) 23 = .ok (.iload_n 1, 1) := by decide +kernel
theorem x186_23 {sc : aSc} {d : Nat} {r : aRes} {a0 : Value} {x1 : Int32} {st : List Value} {σ : aS} : Rn sc d 186 23 [a0, .int x1] st σ r ↔ Rn sc d 186 24 [a0, .int x1] (.int x1 :: st) σ r := r_iload_n d186_23 rfl
theorem d186_24 : decode (mC 186) 24 = .ok (.iaload, 1) := by decide +kernel
theorem x186_24 {sc : aSc} {d : Nat} {r : aRes} {L : List Value} {st : List Value} {f : Nat → Nat → Int32} {g : Nat → Nat → Int64} {h1 h2 : Nat} {a : Nat} {i : Int32} (h17 : 17 ≤ a) (hA : isT9 .int a) (hi : inb i (aln a) = true) : Rn sc d 186 24 L (.int i :: .ref a :: st) (cS f g h1 h2) r ↔ Rn sc d 186 25 L (.int (f a i.toNatClampNeg) :: st) (cS f g h1 h2) r := r_iald d186_24 h17 hA hi
theorem d186_25 : decode (mC 186) 25 = .ok (.goto 4, 3) := by decide +kernel
theorem x186_25 {sc : aSc} {d : Nat} {r : aRes} {L : List Value} {st : List Value} {σ : aS} : Rn sc d 186 25 L st σ r ↔ Rn sc d 186 29 L st σ r := r_goto d186_25 rfl
theorem d186_28 : decode (mC 186) 28 = .ok (.iconst (-1), 1) := by decide +kernel
theorem x186_28 {sc : aSc} {d : Nat} {r : aRes} {L : List Value} {st : List Value} {σ : aS} : Rn sc d 186 28 L st σ r ↔ Rn sc d 186 29 L (.int (-1) :: st) σ r := r_iconst d186_28 (by decide)
theorem d186_29 : decode (mC 186) 29 = .ok (.ireturn, 1) := by decide +kernel
theorem x186_29 {sc : aSc} {d : Nat} {r : aRes} {L : List Value} {σ : aS} {x : Int32} : Rn sc d 186 29 L [.int x] σ r ↔ r = (σ, some (.int x)) := r_iret d186_29 rfl rfl
theorem d187_0 : decode (mC 187) 0 = .ok (.aload_n 0, 1) := by decide +kernel
theorem x187_0 {sc : aSc} {d : Nat} {r : aRes} {x0 : Nat} {a1 : Value} {a2 : Value} {a3 : Value} {st : List Value} {σ : aS} : Rn sc d 187 0 [.ref x0, a1, a2, a3] st σ r ↔ Rn sc d 187 1 [.ref x0, a1, a2, a3] (.ref x0 :: st) σ r := r_aload_n d187_0 rfl
theorem d187_1 : decode (mC 187) 1 = .ok (.iload_n 2, 1) := by decide +kernel
theorem x187_1 {sc : aSc} {d : Nat} {r : aRes} {a0 : Value} {a1 : Value} {x2 : Int32} {a3 : Value} {st : List Value} {σ : aS} : Rn sc d 187 1 [a0, a1, .int x2, a3] st σ r ↔ Rn sc d 187 2 [a0, a1, .int x2, a3] (.int x2 :: st) σ r := r_iload_n d187_1 rfl
theorem d187_2 : decode (mC 187) 2 = .ok (.iconst 0, 1) := by decide +kernel
theorem x187_2 {sc : aSc} {d : Nat} {r : aRes} {L : List Value} {st : List Value} {σ : aS} : Rn sc d 187 2 L st σ r ↔ Rn sc d 187 3 L (.int 0 :: st) σ r := r_iconst d187_2 (by decide)
theorem d187_3 : decode (mC 187) 3 = .ok (.bipush 6, 2) := by decide +kernel
theorem x187_3 {sc : aSc} {d : Nat} {r : aRes} {L : List Value} {st : List Value} {σ : aS} : Rn sc d 187 3 L st σ r ↔ Rn sc d 187 5 L (.int 6 :: st) σ r := r_bipush d187_3 (by decide)
theorem d187_5 : decode (mC 187) 5 = .ok (.invokevirtual 227, 3) := by decide +kernel
theorem x187_5 {sc : aSc} {d : Nat} {r : aRes} {L : List Value} {f : Nat → Nat → Int32} {g : Nat → Nat → Int64} {h1 h2 : Nat} {y0 : Int32} {y1 : Int32} {y2 : Int32}  {o : Nat} (hK : KK[o]? = some (.inl 7)) : Rn sc d 187 5 L [.int y0, .int y1, .int y2, .ref o] (cS f g h1 h2) r ↔ ∃ (σ3 : aS) (v : Option Value), Cl sc d 108 [.ref o, .int y2, .int y1, .int y0] (cS f g h1 h2) (σ3, v) ∧ Rn sc d 187 8 L (v.toList ++ []) σ3 r := r_callV (vs := [.int y0, .int y1, .int y2]) d187_5 (j := 108) (by decide +kernel) ⟨rfl, by decide, rfl, rfl⟩ (Nat.le_of_ble_eq_true rfl) hK
theorem d187_8 : decode (mC 187) 8 = .ok (.ifCond .ne 6, 3) := by decide +kernel
theorem x187_8 {sc : aSc} {d : Nat} {r : aRes} {L : List Value} {st : List Value} {σ : aS} {x : Int32} : Rn sc d 187 8 L (.int x :: st) σ r ↔ if x = 0 then Rn sc d 187 11 L st σ r else Rn sc d 187 14 L st σ r := r_if_ne d187_8 rfl
theorem d187_11 : decode (mC 187) 11 = .ok (.bipush (-2), 2) := by decide +kernel
theorem x187_11 {sc : aSc} {d : Nat} {r : aRes} {L : List Value} {st : List Value} {σ : aS} : Rn sc d 187 11 L st σ r ↔ Rn sc d 187 13 L (.int (-2) :: st) σ r := r_bipush d187_11 (by decide)
theorem d187_13 : decode (mC 187) 13 = .ok (.ireturn, 1) := by decide +kernel
theorem x187_13 {sc : aSc} {d : Nat} {r : aRes} {L : List Value} {σ : aS} {x : Int32} : Rn sc d 187 13 L [.int x] σ r ↔ r = (σ, some (.int x)) := r_iret d187_13 rfl rfl
theorem d187_14 : decode (mC 187) 14 = .ok (.aload_n 0, 1) := by decide +kernel
theorem x187_14 {sc : aSc} {d : Nat} {r : aRes} {x0 : Nat} {a1 : Value} {a2 : Value} {a3 : Value} {st : List Value} {σ : aS} : Rn sc d 187 14 [.ref x0, a1, a2, a3] st σ r ↔ Rn sc d 187 15 [.ref x0, a1, a2, a3] (.ref x0 :: st) σ r := r_aload_n d187_14 rfl
theorem d187_15 : decode (mC 187) 15 = .ok (.iload_n 1, 1) := by decide +kernel
theorem x187_15 {sc : aSc} {d : Nat} {r : aRes} {a0 : Value} {x1 : Int32} {a2 : Value} {a3 : Value} {st : List Value} {σ : aS} : Rn sc d 187 15 [a0, .int x1, a2, a3] st σ r ↔ Rn sc d 187 16 [a0, .int x1, a2, a3] (.int x1 :: st) σ r := r_iload_n d187_15 rfl
theorem d187_16 : decode (mC 187) 16 = .ok (.invokevirtual 231, 3) := by decide +kernel
theorem x187_16 {sc : aSc} {d : Nat} {r : aRes} {L : List Value} {f : Nat → Nat → Int32} {g : Nat → Nat → Int64} {h1 h2 : Nat} {y0 : Int32}  {o : Nat} (hK : KK[o]? = some (.inl 7)) : Rn sc d 187 16 L [.int y0, .ref o] (cS f g h1 h2) r ↔ ∃ (σ3 : aS) (v : Option Value), Cl sc d 109 [.ref o, .int y0] (cS f g h1 h2) (σ3, v) ∧ Rn sc d 187 19 L (v.toList ++ []) σ3 r := r_callV (vs := [.int y0]) d187_16 (j := 109) (by decide +kernel) ⟨rfl, by decide, rfl, rfl⟩ (Nat.le_of_ble_eq_true rfl) hK
theorem d187_19 : decode (mC 187) 19 = .ok (.ifCond .ne 6, 3) := by decide +kernel
theorem x187_19 {sc : aSc} {d : Nat} {r : aRes} {L : List Value} {st : List Value} {σ : aS} {x : Int32} : Rn sc d 187 19 L (.int x :: st) σ r ↔ if x = 0 then Rn sc d 187 22 L st σ r else Rn sc d 187 25 L st σ r := r_if_ne d187_19 rfl
theorem d187_22 : decode (mC 187) 22 = .ok (.bipush (-11), 2) := by decide +kernel
theorem x187_22 {sc : aSc} {d : Nat} {r : aRes} {L : List Value} {st : List Value} {σ : aS} : Rn sc d 187 22 L st σ r ↔ Rn sc d 187 24 L (.int (-11) :: st) σ r := r_bipush d187_22 (by decide)
theorem d187_24 : decode (mC 187) 24 = .ok (.ireturn, 1) := by decide +kernel
theorem x187_24 {sc : aSc} {d : Nat} {r : aRes} {L : List Value} {σ : aS} {x : Int32} : Rn sc d 187 24 L [.int x] σ r ↔ r = (σ, some (.int x)) := r_iret d187_24 rfl rfl
theorem d187_25 : decode (mC 187) 25 = .ok (.aload_n 0, 1) := by decide +kernel
theorem x187_25 {sc : aSc} {d : Nat} {r : aRes} {x0 : Nat} {a1 : Value} {a2 : Value} {a3 : Value} {st : List Value} {σ : aS} : Rn sc d 187 25 [.ref x0, a1, a2, a3] st σ r ↔ Rn sc d 187 26 [.ref x0, a1, a2, a3] (.ref x0 :: st) σ r := r_aload_n d187_25 rfl
theorem d187_26 : decode (mC 187) 26 = .ok (.getfield 25, 3) := by decide +kernel
theorem x187_26 {sc : aSc} {d : Nat} {r : aRes} {L : List Value} {st : List Value} {f : Nat → Nat → Int32} {g : Nat → Nat → Int64} {h1 h2 : Nat} {o : Nat} (hK : KK[o]? = some (.inl 7)) (hR : (RR h1 h2 o 5).isSome = true) : Rn sc d 187 26 L (.ref o :: st) (cS f g h1 h2) r ↔ Rn sc d 187 29 L (.ref (rf h1 h2 o 5) :: st) (cS f g h1 h2) r := r_getR2 d187_26 (ci := 7) (k := 5) rfl (by decide) (fun _ => rfl) hK hR
theorem d187_29 : decode (mC 187) 29 = .ok (.iload_n 1, 1) := by decide +kernel
theorem x187_29 {sc : aSc} {d : Nat} {r : aRes} {a0 : Value} {x1 : Int32} {a2 : Value} {a3 : Value} {st : List Value} {σ : aS} : Rn sc d 187 29 [a0, .int x1, a2, a3] st σ r ↔ Rn sc d 187 30 [a0, .int x1, a2, a3] (.int x1 :: st) σ r := r_iload_n d187_29 rfl
theorem d187_30 : decode (mC 187) 30 = .ok (.iaload, 1) := by decide +kernel
theorem x187_30 {sc : aSc} {d : Nat} {r : aRes} {L : List Value} {st : List Value} {f : Nat → Nat → Int32} {g : Nat → Nat → Int64} {h1 h2 : Nat} {a : Nat} {i : Int32} (h17 : 17 ≤ a) (hA : isT9 .int a) (hi : inb i (aln a) = true) : Rn sc d 187 30 L (.int i :: .ref a :: st) (cS f g h1 h2) r ↔ Rn sc d 187 31 L (.int (f a i.toNatClampNeg) :: st) (cS f g h1 h2) r := r_iald d187_30 h17 hA hi
theorem d187_31 : decode (mC 187) 31 = .ok (.istore_n 3, 1) := by decide +kernel
theorem x187_31 {sc : aSc} {d : Nat} {r : aRes} {a0 : Value} {a1 : Value} {x2 : Int32} {a3 : Value} {st : List Value} {σ : aS} {y : Int32} : Rn sc d 187 31 [a0, a1, .int x2, a3] (.int y :: st) σ r ↔ Rn sc d 187 32 [a0, a1, .int x2, .int y] st σ r := r_istore_n d187_31 (Nat.le_of_ble_eq_true rfl) rfl
theorem d187_32 : decode (mC 187) 32 = .ok (.iload_n 2, 1) := by decide +kernel
theorem x187_32 {sc : aSc} {d : Nat} {r : aRes} {a0 : Value} {a1 : Value} {x2 : Int32} {a3 : Value} {st : List Value} {σ : aS} : Rn sc d 187 32 [a0, a1, .int x2, a3] st σ r ↔ Rn sc d 187 33 [a0, a1, .int x2, a3] (.int x2 :: st) σ r := r_iload_n d187_32 rfl
theorem d187_33 : decode (mC 187) 33 = .ok (.ifCond .eq 39, 3) := by decide +kernel
theorem x187_33 {sc : aSc} {d : Nat} {r : aRes} {L : List Value} {st : List Value} {σ : aS} {x : Int32} : Rn sc d 187 33 L (.int x :: st) σ r ↔ if x = 0 then Rn sc d 187 72 L st σ r else Rn sc d 187 36 L st σ r := r_if_eq d187_33 rfl
theorem d187_36 : decode (mC 187) 36 = .ok (.iload_n 3, 1) := by decide +kernel
theorem x187_36 {sc : aSc} {d : Nat} {r : aRes} {a0 : Value} {a1 : Value} {a2 : Value} {x3 : Int32} {st : List Value} {σ : aS} : Rn sc d 187 36 [a0, a1, a2, .int x3] st σ r ↔ Rn sc d 187 37 [a0, a1, a2, .int x3] (.int x3 :: st) σ r := r_iload_n d187_36 rfl
theorem d187_37 : decode (mC 187) 37 = .ok (.iload_n 2, 1) := by decide +kernel
theorem x187_37 {sc : aSc} {d : Nat} {r : aRes} {a0 : Value} {a1 : Value} {x2 : Int32} {a3 : Value} {st : List Value} {σ : aS} : Rn sc d 187 37 [a0, a1, .int x2, a3] st σ r ↔ Rn sc d 187 38 [a0, a1, .int x2, a3] (.int x2 :: st) σ r := r_iload_n d187_37 rfl
theorem d187_38 : decode (mC 187) 38 = .ok (.if_icmp .eq 34, 3) := by decide +kernel
theorem x187_38 {sc : aSc} {d : Nat} {r : aRes} {L : List Value} {st : List Value} {σ : aS} {x y : Int32} : Rn sc d 187 38 L (.int y :: .int x :: st) σ r ↔ if x = y then Rn sc d 187 72 L st σ r else Rn sc d 187 41 L st σ r := r_icmp_eq d187_38 rfl
theorem d187_41 : decode (mC 187) 41 = .ok (.iload_n 2, 1) := by decide +kernel
theorem x187_41 {sc : aSc} {d : Nat} {r : aRes} {a0 : Value} {a1 : Value} {x2 : Int32} {a3 : Value} {st : List Value} {σ : aS} : Rn sc d 187 41 [a0, a1, .int x2, a3] st σ r ↔ Rn sc d 187 42 [a0, a1, .int x2, a3] (.int x2 :: st) σ r := r_iload_n d187_41 rfl
theorem d187_42 : decode (mC 187) 42 = .ok (.iconst 1, 1) := by decide +kernel
theorem x187_42 {sc : aSc} {d : Nat} {r : aRes} {L : List Value} {st : List Value} {σ : aS} : Rn sc d 187 42 L st σ r ↔ Rn sc d 187 43 L (.int 1 :: st) σ r := r_iconst d187_42 (by decide)
theorem d187_43 : decode (mC 187) 43 = .ok (.if_icmp .ne 8, 3) := by decide +kernel
theorem x187_43 {sc : aSc} {d : Nat} {r : aRes} {L : List Value} {st : List Value} {σ : aS} {x y : Int32} : Rn sc d 187 43 L (.int y :: .int x :: st) σ r ↔ if x = y then Rn sc d 187 46 L st σ r else Rn sc d 187 51 L st σ r := r_icmp_ne d187_43 rfl
theorem d187_46 : decode (mC 187) 46 = .ok (.iload_n 3, 1) := by decide +kernel
theorem x187_46 {sc : aSc} {d : Nat} {r : aRes} {a0 : Value} {a1 : Value} {a2 : Value} {x3 : Int32} {st : List Value} {σ : aS} : Rn sc d 187 46 [a0, a1, a2, .int x3] st σ r ↔ Rn sc d 187 47 [a0, a1, a2, .int x3] (.int x3 :: st) σ r := r_iload_n d187_46 rfl
theorem d187_47 : decode (mC 187) 47 = .ok (.iconst 4, 1) := by decide +kernel
theorem x187_47 {sc : aSc} {d : Nat} {r : aRes} {L : List Value} {st : List Value} {σ : aS} : Rn sc d 187 47 L st σ r ↔ Rn sc d 187 48 L (.int 4 :: st) σ r := r_iconst d187_47 (by decide)
theorem d187_48 : decode (mC 187) 48 = .ok (.if_icmp .eq 24, 3) := by decide +kernel
theorem x187_48 {sc : aSc} {d : Nat} {r : aRes} {L : List Value} {st : List Value} {σ : aS} {x y : Int32} : Rn sc d 187 48 L (.int y :: .int x :: st) σ r ↔ if x = y then Rn sc d 187 72 L st σ r else Rn sc d 187 51 L st σ r := r_icmp_eq d187_48 rfl
theorem d187_51 : decode (mC 187) 51 = .ok (.iload_n 2, 1) := by decide +kernel
theorem x187_51 {sc : aSc} {d : Nat} {r : aRes} {a0 : Value} {a1 : Value} {x2 : Int32} {a3 : Value} {st : List Value} {σ : aS} : Rn sc d 187 51 [a0, a1, .int x2, a3] st σ r ↔ Rn sc d 187 52 [a0, a1, .int x2, a3] (.int x2 :: st) σ r := r_iload_n d187_51 rfl
theorem d187_52 : decode (mC 187) 52 = .ok (.iconst 2, 1) := by decide +kernel
theorem x187_52 {sc : aSc} {d : Nat} {r : aRes} {L : List Value} {st : List Value} {σ : aS} : Rn sc d 187 52 L st σ r ↔ Rn sc d 187 53 L (.int 2 :: st) σ r := r_iconst d187_52 (by decide)
theorem d187_53 : decode (mC 187) 53 = .ok (.if_icmp .ne 8, 3) := by decide +kernel
theorem x187_53 {sc : aSc} {d : Nat} {r : aRes} {L : List Value} {st : List Value} {σ : aS} {x y : Int32} : Rn sc d 187 53 L (.int y :: .int x :: st) σ r ↔ if x = y then Rn sc d 187 56 L st σ r else Rn sc d 187 61 L st σ r := r_icmp_ne d187_53 rfl
theorem d187_56 : decode (mC 187) 56 = .ok (.iload_n 3, 1) := by decide +kernel
theorem x187_56 {sc : aSc} {d : Nat} {r : aRes} {a0 : Value} {a1 : Value} {a2 : Value} {x3 : Int32} {st : List Value} {σ : aS} : Rn sc d 187 56 [a0, a1, a2, .int x3] st σ r ↔ Rn sc d 187 57 [a0, a1, a2, .int x3] (.int x3 :: st) σ r := r_iload_n d187_56 rfl
theorem d187_57 : decode (mC 187) 57 = .ok (.iconst 5, 1) := by decide +kernel
theorem x187_57 {sc : aSc} {d : Nat} {r : aRes} {L : List Value} {st : List Value} {σ : aS} : Rn sc d 187 57 L st σ r ↔ Rn sc d 187 58 L (.int 5 :: st) σ r := r_iconst d187_57 (by decide)
theorem d187_58 : decode (mC 187) 58 = .ok (.if_icmp .eq 14, 3) := by decide +kernel
theorem x187_58 {sc : aSc} {d : Nat} {r : aRes} {L : List Value} {st : List Value} {σ : aS} {x y : Int32} : Rn sc d 187 58 L (.int y :: .int x :: st) σ r ↔ if x = y then Rn sc d 187 72 L st σ r else Rn sc d 187 61 L st σ r := r_icmp_eq d187_58 rfl
theorem d187_61 : decode (mC 187) 61 = .ok (.iload_n 2, 1) := by decide +kernel
theorem x187_61 {sc : aSc} {d : Nat} {r : aRes} {a0 : Value} {a1 : Value} {x2 : Int32} {a3 : Value} {st : List Value} {σ : aS} : Rn sc d 187 61 [a0, a1, .int x2, a3] st σ r ↔ Rn sc d 187 62 [a0, a1, .int x2, a3] (.int x2 :: st) σ r := r_iload_n d187_61 rfl
theorem d187_62 : decode (mC 187) 62 = .ok (.iconst 3, 1) := by decide +kernel
theorem x187_62 {sc : aSc} {d : Nat} {r : aRes} {L : List Value} {st : List Value} {σ : aS} : Rn sc d 187 62 L st σ r ↔ Rn sc d 187 63 L (.int 3 :: st) σ r := r_iconst d187_62 (by decide)
theorem d187_63 : decode (mC 187) 63 = .ok (.if_icmp .ne 13, 3) := by decide +kernel
theorem x187_63 {sc : aSc} {d : Nat} {r : aRes} {L : List Value} {st : List Value} {σ : aS} {x y : Int32} : Rn sc d 187 63 L (.int y :: .int x :: st) σ r ↔ if x = y then Rn sc d 187 66 L st σ r else Rn sc d 187 76 L st σ r := r_icmp_ne d187_63 rfl
theorem d187_66 : decode (mC 187) 66 = .ok (.iload_n 3, 1) := by decide +kernel
theorem x187_66 {sc : aSc} {d : Nat} {r : aRes} {a0 : Value} {a1 : Value} {a2 : Value} {x3 : Int32} {st : List Value} {σ : aS} : Rn sc d 187 66 [a0, a1, a2, .int x3] st σ r ↔ Rn sc d 187 67 [a0, a1, a2, .int x3] (.int x3 :: st) σ r := r_iload_n d187_66 rfl
theorem d187_67 : decode (mC 187) 67 = .ok (.bipush 6, 2) := by decide +kernel
theorem x187_67 {sc : aSc} {d : Nat} {r : aRes} {L : List Value} {st : List Value} {σ : aS} : Rn sc d 187 67 L st σ r ↔ Rn sc d 187 69 L (.int 6 :: st) σ r := r_bipush d187_67 (by decide)
theorem d187_69 : decode (mC 187) 69 = .ok (.if_icmp .ne 7, 3) := by decide +kernel
theorem x187_69 {sc : aSc} {d : Nat} {r : aRes} {L : List Value} {st : List Value} {σ : aS} {x y : Int32} : Rn sc d 187 69 L (.int y :: .int x :: st) σ r ↔ if x = y then Rn sc d 187 72 L st σ r else Rn sc d 187 76 L st σ r := r_icmp_ne d187_69 rfl
theorem d187_72 : decode (mC 187) 72 = .ok (.iload_n 3, 1) := by decide +kernel
theorem x187_72 {sc : aSc} {d : Nat} {r : aRes} {a0 : Value} {a1 : Value} {a2 : Value} {x3 : Int32} {st : List Value} {σ : aS} : Rn sc d 187 72 [a0, a1, a2, .int x3] st σ r ↔ Rn sc d 187 73 [a0, a1, a2, .int x3] (.int x3 :: st) σ r := r_iload_n d187_72 rfl
theorem d187_73 : decode (mC 187) 73 = .ok (.goto 5, 3) := by decide +kernel
theorem x187_73 {sc : aSc} {d : Nat} {r : aRes} {L : List Value} {st : List Value} {σ : aS} : Rn sc d 187 73 L st σ r ↔ Rn sc d 187 78 L st σ r := r_goto d187_73 rfl
theorem d187_76 : decode (mC 187) 76 = .ok (.bipush (-12), 2) := by decide +kernel
theorem x187_76 {sc : aSc} {d : Nat} {r : aRes} {L : List Value} {st : List Value} {σ : aS} : Rn sc d 187 76 L st σ r ↔ Rn sc d 187 78 L (.int (-12) :: st) σ r := r_bipush d187_76 (by decide)
theorem d187_78 : decode (mC 187) 78 = .ok (.ireturn, 1) := by decide +kernel
theorem x187_78 {sc : aSc} {d : Nat} {r : aRes} {L : List Value} {σ : aS} {x : Int32} : Rn sc d 187 78 L [.int x] σ r ↔ r = (σ, some (.int x)) := r_iret d187_78 rfl rfl
theorem d188_0 : decode (mC 188) 0 = .ok (.iload_n 1, 1) := by decide +kernel
theorem x188_0 {sc : aSc} {d : Nat} {r : aRes} {a0 : Value} {x1 : Int32} {st : List Value} {σ : aS} : Rn sc d 188 0 [a0, .int x1] st σ r ↔ Rn sc d 188 1 [a0, .int x1] (.int x1 :: st) σ r := r_iload_n d188_0 rfl
theorem d188_1 : decode (mC 188) 1 = .ok (.tableswitch 69 0 5 #[39, 44, 49, 54, 59, 64], 39) := by decide +kernel
theorem x188_1 {sc : aSc} {d : Nat} {r : aRes} {L : List Value} {st : List Value} {σ : aS} {x : Int32} : Rn sc d 188 1 L (.int x :: st) σ r ↔ (if x = 0 then Rn sc d 188 40 L st σ r else (if x = 1 then Rn sc d 188 45 L st σ r else (if x = 2 then Rn sc d 188 50 L st σ r else (if x = 3 then Rn sc d 188 55 L st σ r else (if x = 4 then Rn sc d 188 60 L st σ r else (if x = 5 then Rn sc d 188 65 L st σ r else Rn sc d 188 70 L st σ r)))))) := by
  by_cases c0 : x = 0
  · subst c0; simp only [if_pos]; exact r_tsw d188_1 (t := 40) rfl
  rw [if_neg c0]
  by_cases c1 : x = 1
  · subst c1; simp only [if_pos]; exact r_tsw d188_1 (t := 45) rfl
  rw [if_neg c1]
  by_cases c2 : x = 2
  · subst c2; simp only [if_pos]; exact r_tsw d188_1 (t := 50) rfl
  rw [if_neg c2]
  by_cases c3 : x = 3
  · subst c3; simp only [if_pos]; exact r_tsw d188_1 (t := 55) rfl
  rw [if_neg c3]
  by_cases c4 : x = 4
  · subst c4; simp only [if_pos]; exact r_tsw d188_1 (t := 60) rfl
  rw [if_neg c4]
  by_cases c5 : x = 5
  · subst c5; simp only [if_pos]; exact r_tsw d188_1 (t := 65) rfl
  rw [if_neg c5]
  refine r_tswd d188_1 ?_ rfl
  have e0 : x.toInt ≠ 0 := fun z => c0 (Int32.toInt_inj.mp z)
  have e1 : x.toInt ≠ 1 := fun z => c1 (Int32.toInt_inj.mp z)
  have e2 : x.toInt ≠ 2 := fun z => c2 (Int32.toInt_inj.mp z)
  have e3 : x.toInt ≠ 3 := fun z => c3 (Int32.toInt_inj.mp z)
  have e4 : x.toInt ≠ 4 := fun z => c4 (Int32.toInt_inj.mp z)
  have e5 : x.toInt ≠ 5 := fun z => c5 (Int32.toInt_inj.mp z)
  omega
theorem d188_40 : decode (mC 188) 40 = .ok (.aload_n 0, 1) := by decide +kernel
theorem x188_40 {sc : aSc} {d : Nat} {r : aRes} {x0 : Nat} {a1 : Value} {st : List Value} {σ : aS} : Rn sc d 188 40 [.ref x0, a1] st σ r ↔ Rn sc d 188 41 [.ref x0, a1] (.ref x0 :: st) σ r := r_aload_n d188_40 rfl
theorem d188_41 : decode (mC 188) 41 = .ok (.getfield 7, 3) := by decide +kernel
theorem x188_41 {sc : aSc} {d : Nat} {r : aRes} {L : List Value} {st : List Value} {f : Nat → Nat → Int32} {g : Nat → Nat → Int64} {h1 h2 : Nat} {o : Nat} (h17 : 17 ≤ o) (hK : KK[o]? = some (.inl 7)) : Rn sc d 188 41 L (.ref o :: st) (cS f g h1 h2) r ↔ Rn sc d 188 44 L (.int (f o 0) :: st) (cS f g h1 h2) r := r_getI d188_41 (ci := 7) (k := 0) rfl (by decide) (fun _ => rfl) h17 hK
theorem d188_44 : decode (mC 188) 44 = .ok (.ireturn, 1) := by decide +kernel
theorem x188_44 {sc : aSc} {d : Nat} {r : aRes} {L : List Value} {σ : aS} {x : Int32} : Rn sc d 188 44 L [.int x] σ r ↔ r = (σ, some (.int x)) := r_iret d188_44 rfl rfl
theorem d188_45 : decode (mC 188) 45 = .ok (.aload_n 0, 1) := by decide +kernel
theorem x188_45 {sc : aSc} {d : Nat} {r : aRes} {x0 : Nat} {a1 : Value} {st : List Value} {σ : aS} : Rn sc d 188 45 [.ref x0, a1] st σ r ↔ Rn sc d 188 46 [.ref x0, a1] (.ref x0 :: st) σ r := r_aload_n d188_45 rfl
theorem d188_46 : decode (mC 188) 46 = .ok (.getfield 44, 3) := by decide +kernel
theorem x188_46 {sc : aSc} {d : Nat} {r : aRes} {L : List Value} {st : List Value} {f : Nat → Nat → Int32} {g : Nat → Nat → Int64} {h1 h2 : Nat} {o : Nat} (h17 : 17 ≤ o) (hK : KK[o]? = some (.inl 7)) : Rn sc d 188 46 L (.ref o :: st) (cS f g h1 h2) r ↔ Rn sc d 188 49 L (.int (f o 11) :: st) (cS f g h1 h2) r := r_getI d188_46 (ci := 7) (k := 11) rfl (by decide) (fun _ => rfl) h17 hK
theorem d188_49 : decode (mC 188) 49 = .ok (.ireturn, 1) := by decide +kernel
theorem x188_49 {sc : aSc} {d : Nat} {r : aRes} {L : List Value} {σ : aS} {x : Int32} : Rn sc d 188 49 L [.int x] σ r ↔ r = (σ, some (.int x)) := r_iret d188_49 rfl rfl
theorem d188_50 : decode (mC 188) 50 = .ok (.aload_n 0, 1) := by decide +kernel
theorem x188_50 {sc : aSc} {d : Nat} {r : aRes} {x0 : Nat} {a1 : Value} {st : List Value} {σ : aS} : Rn sc d 188 50 [.ref x0, a1] st σ r ↔ Rn sc d 188 51 [.ref x0, a1] (.ref x0 :: st) σ r := r_aload_n d188_50 rfl
theorem d188_51 : decode (mC 188) 51 = .ok (.getfield 132, 3) := by decide +kernel
theorem x188_51 {sc : aSc} {d : Nat} {r : aRes} {L : List Value} {st : List Value} {f : Nat → Nat → Int32} {g : Nat → Nat → Int64} {h1 h2 : Nat} {o : Nat} (h17 : 17 ≤ o) (hK : KK[o]? = some (.inl 7)) : Rn sc d 188 51 L (.ref o :: st) (cS f g h1 h2) r ↔ Rn sc d 188 54 L (.int (f o 40) :: st) (cS f g h1 h2) r := r_getI d188_51 (ci := 7) (k := 40) (by decide +kernel) (by decide +kernel) (fun _ => rfl) h17 hK
theorem d188_54 : decode (mC 188) 54 = .ok (.ireturn, 1) := by decide +kernel
theorem x188_54 {sc : aSc} {d : Nat} {r : aRes} {L : List Value} {σ : aS} {x : Int32} : Rn sc d 188 54 L [.int x] σ r ↔ r = (σ, some (.int x)) := r_iret d188_54 rfl rfl
theorem d188_55 : decode (mC 188) 55 = .ok (.aload_n 0, 1) := by decide +kernel
theorem x188_55 {sc : aSc} {d : Nat} {r : aRes} {x0 : Nat} {a1 : Value} {st : List Value} {σ : aS} : Rn sc d 188 55 [.ref x0, a1] st σ r ↔ Rn sc d 188 56 [.ref x0, a1] (.ref x0 :: st) σ r := r_aload_n d188_55 rfl
theorem d188_56 : decode (mC 188) 56 = .ok (.getfield 141, 3) := by decide +kernel
theorem x188_56 {sc : aSc} {d : Nat} {r : aRes} {L : List Value} {st : List Value} {f : Nat → Nat → Int32} {g : Nat → Nat → Int64} {h1 h2 : Nat} {o : Nat} (h17 : 17 ≤ o) (hK : KK[o]? = some (.inl 7)) : Rn sc d 188 56 L (.ref o :: st) (cS f g h1 h2) r ↔ Rn sc d 188 59 L (.int (f o 43) :: st) (cS f g h1 h2) r := r_getI d188_56 (ci := 7) (k := 43) (by decide +kernel) (by decide +kernel) (fun _ => rfl) h17 hK
theorem d188_59 : decode (mC 188) 59 = .ok (.ireturn, 1) := by decide +kernel
theorem x188_59 {sc : aSc} {d : Nat} {r : aRes} {L : List Value} {σ : aS} {x : Int32} : Rn sc d 188 59 L [.int x] σ r ↔ r = (σ, some (.int x)) := r_iret d188_59 rfl rfl
theorem d188_60 : decode (mC 188) 60 = .ok (.aload_n 0, 1) := by decide +kernel
theorem x188_60 {sc : aSc} {d : Nat} {r : aRes} {x0 : Nat} {a1 : Value} {st : List Value} {σ : aS} : Rn sc d 188 60 [.ref x0, a1] st σ r ↔ Rn sc d 188 61 [.ref x0, a1] (.ref x0 :: st) σ r := r_aload_n d188_60 rfl
theorem d188_61 : decode (mC 188) 61 = .ok (.getfield 50, 3) := by decide +kernel
theorem x188_61 {sc : aSc} {d : Nat} {r : aRes} {L : List Value} {st : List Value} {f : Nat → Nat → Int32} {g : Nat → Nat → Int64} {h1 h2 : Nat} {o : Nat} (h17 : 17 ≤ o) (hK : KK[o]? = some (.inl 7)) : Rn sc d 188 61 L (.ref o :: st) (cS f g h1 h2) r ↔ Rn sc d 188 64 L (.int (f o 13) :: st) (cS f g h1 h2) r := r_getI d188_61 (ci := 7) (k := 13) rfl (by decide) (fun _ => rfl) h17 hK
theorem d188_64 : decode (mC 188) 64 = .ok (.ireturn, 1) := by decide +kernel
theorem x188_64 {sc : aSc} {d : Nat} {r : aRes} {L : List Value} {σ : aS} {x : Int32} : Rn sc d 188 64 L [.int x] σ r ↔ r = (σ, some (.int x)) := r_iret d188_64 rfl rfl
theorem d188_65 : decode (mC 188) 65 = .ok (.aload_n 0, 1) := by decide +kernel
theorem x188_65 {sc : aSc} {d : Nat} {r : aRes} {x0 : Nat} {a1 : Value} {st : List Value} {σ : aS} : Rn sc d 188 65 [.ref x0, a1] st σ r ↔ Rn sc d 188 66 [.ref x0, a1] (.ref x0 :: st) σ r := r_aload_n d188_65 rfl
theorem d188_66 : decode (mC 188) 66 = .ok (.getfield 208, 3) := by decide +kernel
theorem x188_66 {sc : aSc} {d : Nat} {r : aRes} {L : List Value} {st : List Value} {f : Nat → Nat → Int32} {g : Nat → Nat → Int64} {h1 h2 : Nat} {o : Nat} (h17 : 17 ≤ o) (hK : KK[o]? = some (.inl 7)) : Rn sc d 188 66 L (.ref o :: st) (cS f g h1 h2) r ↔ Rn sc d 188 69 L (.int (f o 65) :: st) (cS f g h1 h2) r := r_getI d188_66 (ci := 7) (k := 65) (by decide +kernel) (by decide +kernel) (fun _ => rfl) h17 hK
theorem d188_69 : decode (mC 188) 69 = .ok (.ireturn, 1) := by decide +kernel
theorem x188_69 {sc : aSc} {d : Nat} {r : aRes} {L : List Value} {σ : aS} {x : Int32} : Rn sc d 188 69 L [.int x] σ r ↔ r = (σ, some (.int x)) := r_iret d188_69 rfl rfl
theorem d188_70 : decode (mC 188) 70 = .ok (.bipush (-2), 2) := by decide +kernel
theorem x188_70 {sc : aSc} {d : Nat} {r : aRes} {L : List Value} {st : List Value} {σ : aS} : Rn sc d 188 70 L st σ r ↔ Rn sc d 188 72 L (.int (-2) :: st) σ r := r_bipush d188_70 (by decide)
theorem d188_72 : decode (mC 188) 72 = .ok (.ireturn, 1) := by decide +kernel
theorem x188_72 {sc : aSc} {d : Nat} {r : aRes} {L : List Value} {σ : aS} {x : Int32} : Rn sc d 188 72 L [.int x] σ r ↔ r = (σ, some (.int x)) := r_iret d188_72 rfl rfl
theorem d189_0 : decode (mC 189) 0 = .ok (.aload_n 0, 1) := by decide +kernel
theorem x189_0 {sc : aSc} {d : Nat} {r : aRes} {x0 : Nat} {a1 : Value} {st : List Value} {σ : aS} : Rn sc d 189 0 [.ref x0, a1] st σ r ↔ Rn sc d 189 1 [.ref x0, a1] (.ref x0 :: st) σ r := r_aload_n d189_0 rfl
theorem d189_1 : decode (mC 189) 1 = .ok (.iload_n 1, 1) := by decide +kernel
theorem x189_1 {sc : aSc} {d : Nat} {r : aRes} {a0 : Value} {x1 : Int32} {st : List Value} {σ : aS} : Rn sc d 189 1 [a0, .int x1] st σ r ↔ Rn sc d 189 2 [a0, .int x1] (.int x1 :: st) σ r := r_iload_n d189_1 rfl
theorem d189_2 : decode (mC 189) 2 = .ok (.iconst 0, 1) := by decide +kernel
theorem x189_2 {sc : aSc} {d : Nat} {r : aRes} {L : List Value} {st : List Value} {σ : aS} : Rn sc d 189 2 L st σ r ↔ Rn sc d 189 3 L (.int 0 :: st) σ r := r_iconst d189_2 (by decide)
theorem d189_3 : decode (mC 189) 3 = .ok (.iconst 5, 1) := by decide +kernel
theorem x189_3 {sc : aSc} {d : Nat} {r : aRes} {L : List Value} {st : List Value} {σ : aS} : Rn sc d 189 3 L st σ r ↔ Rn sc d 189 4 L (.int 5 :: st) σ r := r_iconst d189_3 (by decide)
theorem d189_4 : decode (mC 189) 4 = .ok (.invokevirtual 227, 3) := by decide +kernel
theorem x189_4 {sc : aSc} {d : Nat} {r : aRes} {L : List Value} {f : Nat → Nat → Int32} {g : Nat → Nat → Int64} {h1 h2 : Nat} {y0 : Int32} {y1 : Int32} {y2 : Int32}  {o : Nat} (hK : KK[o]? = some (.inl 7)) : Rn sc d 189 4 L [.int y0, .int y1, .int y2, .ref o] (cS f g h1 h2) r ↔ ∃ (σ3 : aS) (v : Option Value), Cl sc d 108 [.ref o, .int y2, .int y1, .int y0] (cS f g h1 h2) (σ3, v) ∧ Rn sc d 189 7 L (v.toList ++ []) σ3 r := r_callV (vs := [.int y0, .int y1, .int y2]) d189_4 (j := 108) (by decide +kernel) ⟨rfl, by decide, rfl, rfl⟩ (Nat.le_of_ble_eq_true rfl) hK
theorem d189_7 : decode (mC 189) 7 = .ok (.ireturn, 1) := by decide +kernel
theorem x189_7 {sc : aSc} {d : Nat} {r : aRes} {L : List Value} {σ : aS} {x : Int32} (hn : x &&& 1 = x) : Rn sc d 189 7 L [.int x] σ r ↔ r = (σ, some (.int x)) := r_iret d189_7 rfl (congrArg Value.int hn)
theorem d190_0 : decode (mC 190) 0 = .ok (.aload_n 0, 1) := by decide +kernel
theorem x190_0 {sc : aSc} {d : Nat} {r : aRes} {x0 : Nat} {a1 : Value} {a2 : Value} {a3 : Value} {a4 : Value} {st : List Value} {σ : aS} : Rn sc d 190 0 [.ref x0, a1, a2, a3, a4] st σ r ↔ Rn sc d 190 1 [.ref x0, a1, a2, a3, a4] (.ref x0 :: st) σ r := r_aload_n d190_0 rfl
theorem d190_1 : decode (mC 190) 1 = .ok (.iload_n 1, 1) := by decide +kernel
theorem x190_1 {sc : aSc} {d : Nat} {r : aRes} {a0 : Value} {x1 : Int32} {a2 : Value} {a3 : Value} {a4 : Value} {st : List Value} {σ : aS} : Rn sc d 190 1 [a0, .int x1, a2, a3, a4] st σ r ↔ Rn sc d 190 2 [a0, .int x1, a2, a3, a4] (.int x1 :: st) σ r := r_iload_n d190_1 rfl
theorem d190_2 : decode (mC 190) 2 = .ok (.invokevirtual 363, 3) := by decide +kernel
theorem x190_2 {sc : aSc} {d : Nat} {r : aRes} {L : List Value} {f : Nat → Nat → Int32} {g : Nat → Nat → Int64} {h1 h2 : Nat} {y0 : Int32}  {o : Nat} (hK : KK[o]? = some (.inl 7)) : Rn sc d 190 2 L [.int y0, .ref o] (cS f g h1 h2) r ↔ ∃ (σ3 : aS) (v : Option Value), Cl sc d 189 [.ref o, .int y0] (cS f g h1 h2) (σ3, v) ∧ Rn sc d 190 5 L (v.toList ++ []) σ3 r := r_callV (vs := [.int y0]) d190_2 (j := 189) (by decide +kernel) ⟨rfl, by decide, rfl, rfl⟩ (Nat.le_of_ble_eq_true rfl) hK
theorem d190_5 : decode (mC 190) 5 = .ok (.ifCond .ne 5, 3) := by decide +kernel
theorem x190_5 {sc : aSc} {d : Nat} {r : aRes} {L : List Value} {st : List Value} {σ : aS} {x : Int32} : Rn sc d 190 5 L (.int x :: st) σ r ↔ if x = 0 then Rn sc d 190 8 L st σ r else Rn sc d 190 10 L st σ r := r_if_ne d190_5 rfl
theorem d190_8 : decode (mC 190) 8 = .ok (.iconst (-1), 1) := by decide +kernel
theorem x190_8 {sc : aSc} {d : Nat} {r : aRes} {L : List Value} {st : List Value} {σ : aS} : Rn sc d 190 8 L st σ r ↔ Rn sc d 190 9 L (.int (-1) :: st) σ r := r_iconst d190_8 (by decide)
theorem d190_9 : decode (mC 190) 9 = .ok (.ireturn, 1) := by decide +kernel
theorem x190_9 {sc : aSc} {d : Nat} {r : aRes} {L : List Value} {σ : aS} {x : Int32} : Rn sc d 190 9 L [.int x] σ r ↔ r = (σ, some (.int x)) := r_iret d190_9 rfl rfl
theorem d190_10 : decode (mC 190) 10 = .ok (.aload_n 0, 1) := by decide +kernel
theorem x190_10 {sc : aSc} {d : Nat} {r : aRes} {x0 : Nat} {a1 : Value} {a2 : Value} {a3 : Value} {a4 : Value} {st : List Value} {σ : aS} : Rn sc d 190 10 [.ref x0, a1, a2, a3, a4] st σ r ↔ Rn sc d 190 11 [.ref x0, a1, a2, a3, a4] (.ref x0 :: st) σ r := r_aload_n d190_10 rfl
theorem d190_11 : decode (mC 190) 11 = .ok (.iload_n 2, 1) := by decide +kernel
theorem x190_11 {sc : aSc} {d : Nat} {r : aRes} {a0 : Value} {a1 : Value} {x2 : Int32} {a3 : Value} {a4 : Value} {st : List Value} {σ : aS} : Rn sc d 190 11 [a0, a1, .int x2, a3, a4] st σ r ↔ Rn sc d 190 12 [a0, a1, .int x2, a3, a4] (.int x2 :: st) σ r := r_iload_n d190_11 rfl
theorem d190_12 : decode (mC 190) 12 = .ok (.iconst (-1), 1) := by decide +kernel
theorem x190_12 {sc : aSc} {d : Nat} {r : aRes} {L : List Value} {st : List Value} {σ : aS} : Rn sc d 190 12 L st σ r ↔ Rn sc d 190 13 L (.int (-1) :: st) σ r := r_iconst d190_12 (by decide)
theorem d190_13 : decode (mC 190) 13 = .ok (.iconst 4, 1) := by decide +kernel
theorem x190_13 {sc : aSc} {d : Nat} {r : aRes} {L : List Value} {st : List Value} {σ : aS} : Rn sc d 190 13 L st σ r ↔ Rn sc d 190 14 L (.int 4 :: st) σ r := r_iconst d190_13 (by decide)
theorem d190_14 : decode (mC 190) 14 = .ok (.invokevirtual 227, 3) := by decide +kernel
theorem x190_14 {sc : aSc} {d : Nat} {r : aRes} {L : List Value} {f : Nat → Nat → Int32} {g : Nat → Nat → Int64} {h1 h2 : Nat} {y0 : Int32} {y1 : Int32} {y2 : Int32}  {o : Nat} (hK : KK[o]? = some (.inl 7)) : Rn sc d 190 14 L [.int y0, .int y1, .int y2, .ref o] (cS f g h1 h2) r ↔ ∃ (σ3 : aS) (v : Option Value), Cl sc d 108 [.ref o, .int y2, .int y1, .int y0] (cS f g h1 h2) (σ3, v) ∧ Rn sc d 190 17 L (v.toList ++ []) σ3 r := r_callV (vs := [.int y0, .int y1, .int y2]) d190_14 (j := 108) (by decide +kernel) ⟨rfl, by decide, rfl, rfl⟩ (Nat.le_of_ble_eq_true rfl) hK
theorem d190_17 : decode (mC 190) 17 = .ok (.ifCond .eq 13, 3) := by decide +kernel
theorem x190_17 {sc : aSc} {d : Nat} {r : aRes} {L : List Value} {st : List Value} {σ : aS} {x : Int32} : Rn sc d 190 17 L (.int x :: st) σ r ↔ if x = 0 then Rn sc d 190 30 L st σ r else Rn sc d 190 20 L st σ r := r_if_eq d190_17 rfl
theorem d190_20 : decode (mC 190) 20 = .ok (.iload_n 2, 1) := by decide +kernel
theorem x190_20 {sc : aSc} {d : Nat} {r : aRes} {a0 : Value} {a1 : Value} {x2 : Int32} {a3 : Value} {a4 : Value} {st : List Value} {σ : aS} : Rn sc d 190 20 [a0, a1, .int x2, a3, a4] st σ r ↔ Rn sc d 190 21 [a0, a1, .int x2, a3, a4] (.int x2 :: st) σ r := r_iload_n d190_20 rfl
theorem d190_21 : decode (mC 190) 21 = .ok (.ifCond .lt 12, 3) := by decide +kernel
theorem x190_21 {sc : aSc} {d : Nat} {r : aRes} {L : List Value} {st : List Value} {σ : aS} {x : Int32} : Rn sc d 190 21 L (.int x :: st) σ r ↔ if x < 0 then Rn sc d 190 33 L st σ r else Rn sc d 190 24 L st σ r := r_if_lt d190_21 rfl
theorem d190_24 : decode (mC 190) 24 = .ok (.iload_n 3, 1) := by decide +kernel
theorem x190_24 {sc : aSc} {d : Nat} {r : aRes} {a0 : Value} {a1 : Value} {a2 : Value} {x3 : Int32} {a4 : Value} {st : List Value} {σ : aS} : Rn sc d 190 24 [a0, a1, a2, .int x3, a4] st σ r ↔ Rn sc d 190 25 [a0, a1, a2, .int x3, a4] (.int x3 :: st) σ r := r_iload_n d190_24 rfl
theorem d190_25 : decode (mC 190) 25 = .ok (.bipush 60, 2) := by decide +kernel
theorem x190_25 {sc : aSc} {d : Nat} {r : aRes} {L : List Value} {st : List Value} {σ : aS} : Rn sc d 190 25 L st σ r ↔ Rn sc d 190 27 L (.int 60 :: st) σ r := r_bipush d190_25 (by decide)
theorem d190_27 : decode (mC 190) 27 = .ok (.if_icmp .le 6, 3) := by decide +kernel
theorem x190_27 {sc : aSc} {d : Nat} {r : aRes} {L : List Value} {st : List Value} {σ : aS} {x y : Int32} : Rn sc d 190 27 L (.int y :: .int x :: st) σ r ↔ if y < x then Rn sc d 190 30 L st σ r else Rn sc d 190 33 L st σ r := r_icmp_le d190_27 rfl
theorem d190_30 : decode (mC 190) 30 = .ok (.bipush (-2), 2) := by decide +kernel
theorem x190_30 {sc : aSc} {d : Nat} {r : aRes} {L : List Value} {st : List Value} {σ : aS} : Rn sc d 190 30 L st σ r ↔ Rn sc d 190 32 L (.int (-2) :: st) σ r := r_bipush d190_30 (by decide)
theorem d190_32 : decode (mC 190) 32 = .ok (.ireturn, 1) := by decide +kernel
theorem x190_32 {sc : aSc} {d : Nat} {r : aRes} {L : List Value} {σ : aS} {x : Int32} : Rn sc d 190 32 L [.int x] σ r ↔ r = (σ, some (.int x)) := r_iret d190_32 rfl rfl
theorem d190_33 : decode (mC 190) 33 = .ok (.iload_n 2, 1) := by decide +kernel
theorem x190_33 {sc : aSc} {d : Nat} {r : aRes} {a0 : Value} {a1 : Value} {x2 : Int32} {a3 : Value} {a4 : Value} {st : List Value} {σ : aS} : Rn sc d 190 33 [a0, a1, .int x2, a3, a4] st σ r ↔ Rn sc d 190 34 [a0, a1, .int x2, a3, a4] (.int x2 :: st) σ r := r_iload_n d190_33 rfl
theorem d190_34 : decode (mC 190) 34 = .ok (.ifCond .lt 10, 3) := by decide +kernel
theorem x190_34 {sc : aSc} {d : Nat} {r : aRes} {L : List Value} {st : List Value} {σ : aS} {x : Int32} : Rn sc d 190 34 L (.int x :: st) σ r ↔ if x < 0 then Rn sc d 190 44 L st σ r else Rn sc d 190 37 L st σ r := r_if_lt d190_34 rfl
theorem d190_37 : decode (mC 190) 37 = .ok (.iload_n 3, 1) := by decide +kernel
theorem x190_37 {sc : aSc} {d : Nat} {r : aRes} {a0 : Value} {a1 : Value} {a2 : Value} {x3 : Int32} {a4 : Value} {st : List Value} {σ : aS} : Rn sc d 190 37 [a0, a1, a2, .int x3, a4] st σ r ↔ Rn sc d 190 38 [a0, a1, a2, .int x3, a4] (.int x3 :: st) σ r := r_iload_n d190_37 rfl
theorem d190_38 : decode (mC 190) 38 = .ok (.ifCond .ge 6, 3) := by decide +kernel
theorem x190_38 {sc : aSc} {d : Nat} {r : aRes} {L : List Value} {st : List Value} {σ : aS} {x : Int32} : Rn sc d 190 38 L (.int x :: st) σ r ↔ if x < 0 then Rn sc d 190 41 L st σ r else Rn sc d 190 44 L st σ r := r_if_ge d190_38 rfl
theorem d190_41 : decode (mC 190) 41 = .ok (.bipush (-14), 2) := by decide +kernel
theorem x190_41 {sc : aSc} {d : Nat} {r : aRes} {L : List Value} {st : List Value} {σ : aS} : Rn sc d 190 41 L st σ r ↔ Rn sc d 190 43 L (.int (-14) :: st) σ r := r_bipush d190_41 (by decide)
theorem d190_43 : decode (mC 190) 43 = .ok (.ireturn, 1) := by decide +kernel
theorem x190_43 {sc : aSc} {d : Nat} {r : aRes} {L : List Value} {σ : aS} {x : Int32} : Rn sc d 190 43 L [.int x] σ r ↔ r = (σ, some (.int x)) := r_iret d190_43 rfl rfl
theorem d190_44 : decode (mC 190) 44 = .ok (.aload_n 0, 1) := by decide +kernel
theorem x190_44 {sc : aSc} {d : Nat} {r : aRes} {x0 : Nat} {a1 : Value} {a2 : Value} {a3 : Value} {a4 : Value} {st : List Value} {σ : aS} : Rn sc d 190 44 [.ref x0, a1, a2, a3, a4] st σ r ↔ Rn sc d 190 45 [.ref x0, a1, a2, a3, a4] (.ref x0 :: st) σ r := r_aload_n d190_44 rfl
theorem d190_45 : decode (mC 190) 45 = .ok (.getfield 214, 3) := by decide +kernel
theorem x190_45 {sc : aSc} {d : Nat} {r : aRes} {L : List Value} {st : List Value} {f : Nat → Nat → Int32} {g : Nat → Nat → Int64} {h1 h2 : Nat} {o : Nat} (hK : KK[o]? = some (.inl 7)) (hR : (RR h1 h2 o 67).isSome = true) : Rn sc d 190 45 L (.ref o :: st) (cS f g h1 h2) r ↔ Rn sc d 190 48 L (.ref (rf h1 h2 o 67) :: st) (cS f g h1 h2) r := r_getR2 d190_45 (ci := 7) (k := 67) (by decide +kernel) (by decide +kernel) (fun _ => rfl) hK hR
theorem d190_48 : decode (mC 190) 48 = .ok (.iload_n 1, 1) := by decide +kernel
theorem x190_48 {sc : aSc} {d : Nat} {r : aRes} {a0 : Value} {x1 : Int32} {a2 : Value} {a3 : Value} {a4 : Value} {st : List Value} {σ : aS} : Rn sc d 190 48 [a0, .int x1, a2, a3, a4] st σ r ↔ Rn sc d 190 49 [a0, .int x1, a2, a3, a4] (.int x1 :: st) σ r := r_iload_n d190_48 rfl
theorem d190_49 : decode (mC 190) 49 = .ok (.iload_n 2, 1) := by decide +kernel
theorem x190_49 {sc : aSc} {d : Nat} {r : aRes} {a0 : Value} {a1 : Value} {x2 : Int32} {a3 : Value} {a4 : Value} {st : List Value} {σ : aS} : Rn sc d 190 49 [a0, a1, .int x2, a3, a4] st σ r ↔ Rn sc d 190 50 [a0, a1, .int x2, a3, a4] (.int x2 :: st) σ r := r_iload_n d190_49 rfl
theorem d190_50 : decode (mC 190) 50 = .ok (.iastore, 1) := by decide +kernel
theorem x190_50 {sc : aSc} {d : Nat} {r : aRes} {L : List Value} {st : List Value} {f : Nat → Nat → Int32} {g : Nat → Nat → Int64} {h1 h2 : Nat} {a : Nat} {i : Int32} {x : Int32} (h17 : 17 ≤ a) (hA : isT9 .int a) (hi : inb i (aln a) = true) : Rn sc d 190 50 L (.int x :: .int i :: .ref a :: st) (cS f g h1 h2) r ↔ Rn sc d 190 51 L st (cS (u2 f a i.toNatClampNeg x) g h1 h2) r := r_iast d190_50 h17 hA hi
theorem d190_51 : decode (mC 190) 51 = .ok (.aload_n 0, 1) := by decide +kernel
theorem x190_51 {sc : aSc} {d : Nat} {r : aRes} {x0 : Nat} {a1 : Value} {a2 : Value} {a3 : Value} {a4 : Value} {st : List Value} {σ : aS} : Rn sc d 190 51 [.ref x0, a1, a2, a3, a4] st σ r ↔ Rn sc d 190 52 [.ref x0, a1, a2, a3, a4] (.ref x0 :: st) σ r := r_aload_n d190_51 rfl
theorem d190_52 : decode (mC 190) 52 = .ok (.getfield 217, 3) := by decide +kernel
theorem x190_52 {sc : aSc} {d : Nat} {r : aRes} {L : List Value} {st : List Value} {f : Nat → Nat → Int32} {g : Nat → Nat → Int64} {h1 h2 : Nat} {o : Nat} (hK : KK[o]? = some (.inl 7)) (hR : (RR h1 h2 o 68).isSome = true) : Rn sc d 190 52 L (.ref o :: st) (cS f g h1 h2) r ↔ Rn sc d 190 55 L (.ref (rf h1 h2 o 68) :: st) (cS f g h1 h2) r := r_getR2 d190_52 (ci := 7) (k := 68) (by decide +kernel) (by decide +kernel) (fun _ => rfl) hK hR
theorem d190_55 : decode (mC 190) 55 = .ok (.iload_n 1, 1) := by decide +kernel
theorem x190_55 {sc : aSc} {d : Nat} {r : aRes} {a0 : Value} {x1 : Int32} {a2 : Value} {a3 : Value} {a4 : Value} {st : List Value} {σ : aS} : Rn sc d 190 55 [a0, .int x1, a2, a3, a4] st σ r ↔ Rn sc d 190 56 [a0, .int x1, a2, a3, a4] (.int x1 :: st) σ r := r_iload_n d190_55 rfl
theorem d190_56 : decode (mC 190) 56 = .ok (.iload_n 2, 1) := by decide +kernel
theorem x190_56 {sc : aSc} {d : Nat} {r : aRes} {a0 : Value} {a1 : Value} {x2 : Int32} {a3 : Value} {a4 : Value} {st : List Value} {σ : aS} : Rn sc d 190 56 [a0, a1, .int x2, a3, a4] st σ r ↔ Rn sc d 190 57 [a0, a1, .int x2, a3, a4] (.int x2 :: st) σ r := r_iload_n d190_56 rfl
theorem d190_57 : decode (mC 190) 57 = .ok (.ifCond .ge 7, 3) := by decide +kernel
theorem x190_57 {sc : aSc} {d : Nat} {r : aRes} {L : List Value} {st : List Value} {σ : aS} {x : Int32} : Rn sc d 190 57 L (.int x :: st) σ r ↔ if x < 0 then Rn sc d 190 60 L st σ r else Rn sc d 190 64 L st σ r := r_if_ge d190_57 rfl
theorem d190_60 : decode (mC 190) 60 = .ok (.iconst 0, 1) := by decide +kernel
theorem x190_60 {sc : aSc} {d : Nat} {r : aRes} {L : List Value} {st : List Value} {σ : aS} : Rn sc d 190 60 L st σ r ↔ Rn sc d 190 61 L (.int 0 :: st) σ r := r_iconst d190_60 (by decide)
theorem d190_61 : decode (mC 190) 61 = .ok (.goto 4, 3) := by decide +kernel
theorem x190_61 {sc : aSc} {d : Nat} {r : aRes} {L : List Value} {st : List Value} {σ : aS} : Rn sc d 190 61 L st σ r ↔ Rn sc d 190 65 L st σ r := r_goto d190_61 rfl
theorem d190_64 : decode (mC 190) 64 = .ok (.iload_n 3, 1) := by decide +kernel
theorem x190_64 {sc : aSc} {d : Nat} {r : aRes} {a0 : Value} {a1 : Value} {a2 : Value} {x3 : Int32} {a4 : Value} {st : List Value} {σ : aS} : Rn sc d 190 64 [a0, a1, a2, .int x3, a4] st σ r ↔ Rn sc d 190 65 [a0, a1, a2, .int x3, a4] (.int x3 :: st) σ r := r_iload_n d190_64 rfl
theorem d190_65 : decode (mC 190) 65 = .ok (.iastore, 1) := by decide +kernel
theorem x190_65 {sc : aSc} {d : Nat} {r : aRes} {L : List Value} {st : List Value} {f : Nat → Nat → Int32} {g : Nat → Nat → Int64} {h1 h2 : Nat} {a : Nat} {i : Int32} {x : Int32} (h17 : 17 ≤ a) (hA : isT9 .int a) (hi : inb i (aln a) = true) : Rn sc d 190 65 L (.int x :: .int i :: .ref a :: st) (cS f g h1 h2) r ↔ Rn sc d 190 66 L st (cS (u2 f a i.toNatClampNeg x) g h1 h2) r := r_iast d190_65 h17 hA hi
theorem d190_66 : decode (mC 190) 66 = .ok (.iconst 0, 1) := by decide +kernel
theorem x190_66 {sc : aSc} {d : Nat} {r : aRes} {L : List Value} {st : List Value} {σ : aS} : Rn sc d 190 66 L st σ r ↔ Rn sc d 190 67 L (.int 0 :: st) σ r := r_iconst d190_66 (by decide)
theorem d190_67 : decode (mC 190) 67 = .ok (.istore 4, 2) := by decide +kernel
theorem x190_67 {sc : aSc} {d : Nat} {r : aRes} {a0 : Value} {a1 : Value} {a2 : Value} {x3 : Int32} {a4 : Value} {st : List Value} {σ : aS} {y : Int32} : Rn sc d 190 67 [a0, a1, a2, .int x3, a4] (.int y :: st) σ r ↔ Rn sc d 190 69 [a0, a1, a2, .int x3, .int y] st σ r := r_istore d190_67 (Nat.le_of_ble_eq_true rfl) rfl
theorem d190_69 : decode (mC 190) 69 = .ok (.iload 4, 2) := by decide +kernel
theorem x190_69 {sc : aSc} {d : Nat} {r : aRes} {a0 : Value} {a1 : Value} {a2 : Value} {a3 : Value} {x4 : Int32} {st : List Value} {σ : aS} : Rn sc d 190 69 [a0, a1, a2, a3, .int x4] st σ r ↔ Rn sc d 190 71 [a0, a1, a2, a3, .int x4] (.int x4 :: st) σ r := r_iload d190_69 rfl
theorem d190_71 : decode (mC 190) 71 = .ok (.bipush 60, 2) := by decide +kernel
theorem x190_71 {sc : aSc} {d : Nat} {r : aRes} {L : List Value} {st : List Value} {σ : aS} : Rn sc d 190 71 L st σ r ↔ Rn sc d 190 73 L (.int 60 :: st) σ r := r_bipush d190_71 (by decide)
theorem d190_73 : decode (mC 190) 73 = .ok (.if_icmp .ge 22, 3) := by decide +kernel
theorem x190_73 {sc : aSc} {d : Nat} {r : aRes} {L : List Value} {st : List Value} {σ : aS} {x y : Int32} : Rn sc d 190 73 L (.int y :: .int x :: st) σ r ↔ if x < y then Rn sc d 190 76 L st σ r else Rn sc d 190 95 L st σ r := r_icmp_ge d190_73 rfl
theorem d190_76 : decode (mC 190) 76 = .ok (.aload_n 0, 1) := by decide +kernel
theorem x190_76 {sc : aSc} {d : Nat} {r : aRes} {x0 : Nat} {a1 : Value} {a2 : Value} {a3 : Value} {a4 : Value} {st : List Value} {σ : aS} : Rn sc d 190 76 [.ref x0, a1, a2, a3, a4] st σ r ↔ Rn sc d 190 77 [.ref x0, a1, a2, a3, a4] (.ref x0 :: st) σ r := r_aload_n d190_76 rfl
theorem d190_77 : decode (mC 190) 77 = .ok (.getfield 220, 3) := by decide +kernel
theorem x190_77 {sc : aSc} {d : Nat} {r : aRes} {L : List Value} {st : List Value} {f : Nat → Nat → Int32} {g : Nat → Nat → Int64} {h1 h2 : Nat} {o : Nat} (hK : KK[o]? = some (.inl 7)) (hR : (RR h1 h2 o 69).isSome = true) : Rn sc d 190 77 L (.ref o :: st) (cS f g h1 h2) r ↔ Rn sc d 190 80 L (.ref (rf h1 h2 o 69) :: st) (cS f g h1 h2) r := r_getR2 d190_77 (ci := 7) (k := 69) (by decide +kernel) (by decide +kernel) (fun _ => rfl) hK hR
theorem d190_80 : decode (mC 190) 80 = .ok (.bipush 60, 2) := by decide +kernel
theorem x190_80 {sc : aSc} {d : Nat} {r : aRes} {L : List Value} {st : List Value} {σ : aS} : Rn sc d 190 80 L st σ r ↔ Rn sc d 190 82 L (.int 60 :: st) σ r := r_bipush d190_80 (by decide)
theorem d190_82 : decode (mC 190) 82 = .ok (.iload_n 1, 1) := by decide +kernel
theorem x190_82 {sc : aSc} {d : Nat} {r : aRes} {a0 : Value} {x1 : Int32} {a2 : Value} {a3 : Value} {a4 : Value} {st : List Value} {σ : aS} : Rn sc d 190 82 [a0, .int x1, a2, a3, a4] st σ r ↔ Rn sc d 190 83 [a0, .int x1, a2, a3, a4] (.int x1 :: st) σ r := r_iload_n d190_82 rfl
theorem d190_83 : decode (mC 190) 83 = .ok (.imul, 1) := by decide +kernel
theorem x190_83 {sc : aSc} {d : Nat} {r : aRes} {L : List Value} {st : List Value} {σ : aS} {x y : Int32} : Rn sc d 190 83 L (.int y :: .int x :: st) σ r ↔ Rn sc d 190 84 L (.int (x * y) :: st) σ r := r_imul d190_83
theorem d190_84 : decode (mC 190) 84 = .ok (.iload 4, 2) := by decide +kernel
theorem x190_84 {sc : aSc} {d : Nat} {r : aRes} {a0 : Value} {a1 : Value} {a2 : Value} {a3 : Value} {x4 : Int32} {st : List Value} {σ : aS} : Rn sc d 190 84 [a0, a1, a2, a3, .int x4] st σ r ↔ Rn sc d 190 86 [a0, a1, a2, a3, .int x4] (.int x4 :: st) σ r := r_iload d190_84 rfl
theorem d190_86 : decode (mC 190) 86 = .ok (.iadd, 1) := by decide +kernel
theorem x190_86 {sc : aSc} {d : Nat} {r : aRes} {L : List Value} {st : List Value} {σ : aS} {x y : Int32} : Rn sc d 190 86 L (.int y :: .int x :: st) σ r ↔ Rn sc d 190 87 L (.int (x + y) :: st) σ r := r_iadd d190_86
theorem d190_87 : decode (mC 190) 87 = .ok (.lconst 0, 1) := by decide +kernel
theorem x190_87 {sc : aSc} {d : Nat} {r : aRes} {L : List Value} {st : List Value} {σ : aS} : Rn sc d 190 87 L st σ r ↔ Rn sc d 190 88 L (.long 0 :: st) σ r := r_lconst d190_87 (by decide)
theorem d190_88 : decode (mC 190) 88 = .ok (.lastore, 1) := by decide +kernel
theorem x190_88 {sc : aSc} {d : Nat} {r : aRes} {L : List Value} {st : List Value} {f : Nat → Nat → Int32} {g : Nat → Nat → Int64} {h1 h2 : Nat} {a : Nat} {i : Int32} {x : Int64} (h17 : 17 ≤ a) (hA : isT9 .long a) (hi : inb i (aln a) = true) : Rn sc d 190 88 L (.long x :: .int i :: .ref a :: st) (cS f g h1 h2) r ↔ Rn sc d 190 89 L st (cS f (u2 g a i.toNatClampNeg x) h1 h2) r := r_last d190_88 h17 hA hi
theorem d190_89 : decode (mC 190) 89 = .ok (.iinc 4 1, 3) := by decide +kernel
theorem x190_89 {sc : aSc} {d : Nat} {r : aRes} {a0 : Value} {a1 : Value} {a2 : Value} {x3 : Int32} {x4 : Int32} {st : List Value} {σ : aS} : Rn sc d 190 89 [a0, a1, a2, .int x3, .int x4] st σ r ↔ Rn sc d 190 92 [a0, a1, a2, .int x3, .int (x4 + 1)] st σ r := r_iinc d190_89 (Nat.le_of_ble_eq_true rfl) rfl rfl (by decide)
theorem d190_92 : decode (mC 190) 92 = .ok (.goto (-23), 3) := by decide +kernel
theorem x190_92 {sc : aSc} {d : Nat} {r : aRes} {L : List Value} {st : List Value} {σ : aS} : Rn sc d 190 92 L st σ r ↔ Rn sc d 190 69 L st σ r := r_goto d190_92 rfl
theorem d190_95 : decode (mC 190) 95 = .ok (.iconst 1, 1) := by decide +kernel
theorem x190_95 {sc : aSc} {d : Nat} {r : aRes} {L : List Value} {st : List Value} {σ : aS} : Rn sc d 190 95 L st σ r ↔ Rn sc d 190 96 L (.int 1 :: st) σ r := r_iconst d190_95 (by decide)
theorem d190_96 : decode (mC 190) 96 = .ok (.ireturn, 1) := by decide +kernel
theorem x190_96 {sc : aSc} {d : Nat} {r : aRes} {L : List Value} {σ : aS} {x : Int32} : Rn sc d 190 96 L [.int x] σ r ↔ r = (σ, some (.int x)) := r_iret d190_96 rfl rfl
theorem d191_0 : decode (mC 191) 0 = .ok (.iload_n 1, 1) := by decide +kernel
theorem x191_0 {sc : aSc} {d : Nat} {r : aRes} {a0 : Value} {x1 : Int32} {a2 : Value} {a3 : Value} {st : List Value} {σ : aS} : Rn sc d 191 0 [a0, .int x1, a2, a3] st σ r ↔ Rn sc d 191 1 [a0, .int x1, a2, a3] (.int x1 :: st) σ r := r_iload_n d191_0 rfl
theorem d191_1 : decode (mC 191) 1 = .ok (.ifCond .ne 10, 3) := by decide +kernel
theorem x191_1 {sc : aSc} {d : Nat} {r : aRes} {L : List Value} {st : List Value} {σ : aS} {x : Int32} : Rn sc d 191 1 L (.int x :: st) σ r ↔ if x = 0 then Rn sc d 191 4 L st σ r else Rn sc d 191 11 L st σ r := r_if_ne d191_1 rfl
theorem d191_4 : decode (mC 191) 4 = .ok (.lload_n 2, 1) := by decide +kernel
theorem x191_4 {sc : aSc} {d : Nat} {r : aRes} {a0 : Value} {a1 : Value} {x2 : Int64} {a3 : Value} {st : List Value} {σ : aS} : Rn sc d 191 4 [a0, a1, .long x2, a3] st σ r ↔ Rn sc d 191 5 [a0, a1, .long x2, a3] (.long x2 :: st) σ r := r_lload_n d191_4 rfl
theorem d191_5 : decode (mC 191) 5 = .ok (.l2i, 1) := by decide +kernel
theorem x191_5 {sc : aSc} {d : Nat} {r : aRes} {L : List Value} {st : List Value} {σ : aS} {x : Int64} : Rn sc d 191 5 L (.long x :: st) σ r ↔ Rn sc d 191 6 L (.int x.toInt32 :: st) σ r := r_l2i d191_5
theorem d191_6 : decode (mC 191) 6 = .ok (.i2b, 1) := by decide +kernel
theorem x191_6 {sc : aSc} {d : Nat} {r : aRes} {L : List Value} {st : List Value} {σ : aS} {x : Int32} : Rn sc d 191 6 L (.int x :: st) σ r ↔ Rn sc d 191 7 L (.int x.toInt8.toInt32 :: st) σ r := r_i2b d191_6
theorem d191_7 : decode (mC 191) 7 = .ok (.i2l, 1) := by decide +kernel
theorem x191_7 {sc : aSc} {d : Nat} {r : aRes} {L : List Value} {st : List Value} {σ : aS} {x : Int32} : Rn sc d 191 7 L (.int x :: st) σ r ↔ Rn sc d 191 8 L (.long x.toInt64 :: st) σ r := r_i2l d191_7
theorem d191_8 : decode (mC 191) 8 = .ok (.goto 46, 3) := by decide +kernel
theorem x191_8 {sc : aSc} {d : Nat} {r : aRes} {L : List Value} {st : List Value} {σ : aS} : Rn sc d 191 8 L st σ r ↔ Rn sc d 191 54 L st σ r := r_goto d191_8 rfl
theorem d191_11 : decode (mC 191) 11 = .ok (.iload_n 1, 1) := by decide +kernel
theorem x191_11 {sc : aSc} {d : Nat} {r : aRes} {a0 : Value} {x1 : Int32} {a2 : Value} {a3 : Value} {st : List Value} {σ : aS} : Rn sc d 191 11 [a0, .int x1, a2, a3] st σ r ↔ Rn sc d 191 12 [a0, .int x1, a2, a3] (.int x1 :: st) σ r := r_iload_n d191_11 rfl
theorem d191_12 : decode (mC 191) 12 = .ok (.iconst 1, 1) := by decide +kernel
theorem x191_12 {sc : aSc} {d : Nat} {r : aRes} {L : List Value} {st : List Value} {σ : aS} : Rn sc d 191 12 L st σ r ↔ Rn sc d 191 13 L (.int 1 :: st) σ r := r_iconst d191_12 (by decide)
theorem d191_13 : decode (mC 191) 13 = .ok (.if_icmp .ne 10, 3) := by decide +kernel
theorem x191_13 {sc : aSc} {d : Nat} {r : aRes} {L : List Value} {st : List Value} {σ : aS} {x y : Int32} : Rn sc d 191 13 L (.int y :: .int x :: st) σ r ↔ if x = y then Rn sc d 191 16 L st σ r else Rn sc d 191 23 L st σ r := r_icmp_ne d191_13 rfl
theorem d191_16 : decode (mC 191) 16 = .ok (.lload_n 2, 1) := by decide +kernel
theorem x191_16 {sc : aSc} {d : Nat} {r : aRes} {a0 : Value} {a1 : Value} {x2 : Int64} {a3 : Value} {st : List Value} {σ : aS} : Rn sc d 191 16 [a0, a1, .long x2, a3] st σ r ↔ Rn sc d 191 17 [a0, a1, .long x2, a3] (.long x2 :: st) σ r := r_lload_n d191_16 rfl
theorem d191_17 : decode (mC 191) 17 = .ok (.l2i, 1) := by decide +kernel
theorem x191_17 {sc : aSc} {d : Nat} {r : aRes} {L : List Value} {st : List Value} {σ : aS} {x : Int64} : Rn sc d 191 17 L (.long x :: st) σ r ↔ Rn sc d 191 18 L (.int x.toInt32 :: st) σ r := r_l2i d191_17
theorem d191_18 : decode (mC 191) 18 = .ok (.i2s, 1) := by decide +kernel
theorem x191_18 {sc : aSc} {d : Nat} {r : aRes} {L : List Value} {st : List Value} {σ : aS} {x : Int32} : Rn sc d 191 18 L (.int x :: st) σ r ↔ Rn sc d 191 19 L (.int x.toInt16.toInt32 :: st) σ r := r_i2s d191_18
theorem d191_19 : decode (mC 191) 19 = .ok (.i2l, 1) := by decide +kernel
theorem x191_19 {sc : aSc} {d : Nat} {r : aRes} {L : List Value} {st : List Value} {σ : aS} {x : Int32} : Rn sc d 191 19 L (.int x :: st) σ r ↔ Rn sc d 191 20 L (.long x.toInt64 :: st) σ r := r_i2l d191_19
theorem d191_20 : decode (mC 191) 20 = .ok (.goto 34, 3) := by decide +kernel
theorem x191_20 {sc : aSc} {d : Nat} {r : aRes} {L : List Value} {st : List Value} {σ : aS} : Rn sc d 191 20 L st σ r ↔ Rn sc d 191 54 L st σ r := r_goto d191_20 rfl
theorem d191_23 : decode (mC 191) 23 = .ok (.iload_n 1, 1) := by decide +kernel
theorem x191_23 {sc : aSc} {d : Nat} {r : aRes} {a0 : Value} {x1 : Int32} {a2 : Value} {a3 : Value} {st : List Value} {σ : aS} : Rn sc d 191 23 [a0, .int x1, a2, a3] st σ r ↔ Rn sc d 191 24 [a0, .int x1, a2, a3] (.int x1 :: st) σ r := r_iload_n d191_23 rfl
theorem d191_24 : decode (mC 191) 24 = .ok (.iconst 2, 1) := by decide +kernel
theorem x191_24 {sc : aSc} {d : Nat} {r : aRes} {L : List Value} {st : List Value} {σ : aS} : Rn sc d 191 24 L st σ r ↔ Rn sc d 191 25 L (.int 2 :: st) σ r := r_iconst d191_24 (by decide)
theorem d191_25 : decode (mC 191) 25 = .ok (.if_icmp .ne 9, 3) := by decide +kernel
theorem x191_25 {sc : aSc} {d : Nat} {r : aRes} {L : List Value} {st : List Value} {σ : aS} {x y : Int32} : Rn sc d 191 25 L (.int y :: .int x :: st) σ r ↔ if x = y then Rn sc d 191 28 L st σ r else Rn sc d 191 34 L st σ r := r_icmp_ne d191_25 rfl
theorem d191_28 : decode (mC 191) 28 = .ok (.lload_n 2, 1) := by decide +kernel
theorem x191_28 {sc : aSc} {d : Nat} {r : aRes} {a0 : Value} {a1 : Value} {x2 : Int64} {a3 : Value} {st : List Value} {σ : aS} : Rn sc d 191 28 [a0, a1, .long x2, a3] st σ r ↔ Rn sc d 191 29 [a0, a1, .long x2, a3] (.long x2 :: st) σ r := r_lload_n d191_28 rfl
theorem d191_29 : decode (mC 191) 29 = .ok (.l2i, 1) := by decide +kernel
theorem x191_29 {sc : aSc} {d : Nat} {r : aRes} {L : List Value} {st : List Value} {σ : aS} {x : Int64} : Rn sc d 191 29 L (.long x :: st) σ r ↔ Rn sc d 191 30 L (.int x.toInt32 :: st) σ r := r_l2i d191_29
theorem d191_30 : decode (mC 191) 30 = .ok (.i2l, 1) := by decide +kernel
theorem x191_30 {sc : aSc} {d : Nat} {r : aRes} {L : List Value} {st : List Value} {σ : aS} {x : Int32} : Rn sc d 191 30 L (.int x :: st) σ r ↔ Rn sc d 191 31 L (.long x.toInt64 :: st) σ r := r_i2l d191_30
theorem d191_31 : decode (mC 191) 31 = .ok (.goto 23, 3) := by decide +kernel
theorem x191_31 {sc : aSc} {d : Nat} {r : aRes} {L : List Value} {st : List Value} {σ : aS} : Rn sc d 191 31 L st σ r ↔ Rn sc d 191 54 L st σ r := r_goto d191_31 rfl
theorem d191_34 : decode (mC 191) 34 = .ok (.iload_n 1, 1) := by decide +kernel
theorem x191_34 {sc : aSc} {d : Nat} {r : aRes} {a0 : Value} {x1 : Int32} {a2 : Value} {a3 : Value} {st : List Value} {σ : aS} : Rn sc d 191 34 [a0, .int x1, a2, a3] st σ r ↔ Rn sc d 191 35 [a0, .int x1, a2, a3] (.int x1 :: st) σ r := r_iload_n d191_34 rfl
theorem d191_35 : decode (mC 191) 35 = .ok (.iconst 4, 1) := by decide +kernel
theorem x191_35 {sc : aSc} {d : Nat} {r : aRes} {L : List Value} {st : List Value} {σ : aS} : Rn sc d 191 35 L st σ r ↔ Rn sc d 191 36 L (.int 4 :: st) σ r := r_iconst d191_35 (by decide)
theorem d191_36 : decode (mC 191) 36 = .ok (.if_icmp .ne 17, 3) := by decide +kernel
theorem x191_36 {sc : aSc} {d : Nat} {r : aRes} {L : List Value} {st : List Value} {σ : aS} {x y : Int32} : Rn sc d 191 36 L (.int y :: .int x :: st) σ r ↔ if x = y then Rn sc d 191 39 L st σ r else Rn sc d 191 53 L st σ r := r_icmp_ne d191_36 rfl
theorem d191_39 : decode (mC 191) 39 = .ok (.lload_n 2, 1) := by decide +kernel
theorem x191_39 {sc : aSc} {d : Nat} {r : aRes} {a0 : Value} {a1 : Value} {x2 : Int64} {a3 : Value} {st : List Value} {σ : aS} : Rn sc d 191 39 [a0, a1, .long x2, a3] st σ r ↔ Rn sc d 191 40 [a0, a1, .long x2, a3] (.long x2 :: st) σ r := r_lload_n d191_39 rfl
theorem d191_40 : decode (mC 191) 40 = .ok (.lconst 0, 1) := by decide +kernel
theorem x191_40 {sc : aSc} {d : Nat} {r : aRes} {L : List Value} {st : List Value} {σ : aS} : Rn sc d 191 40 L st σ r ↔ Rn sc d 191 41 L (.long 0 :: st) σ r := r_lconst d191_40 (by decide)
theorem d191_41 : decode (mC 191) 41 = .ok (.lcmp, 1) := by decide +kernel
theorem x191_41 {sc : aSc} {d : Nat} {r : aRes} {L : List Value} {st : List Value} {σ : aS} {x y : Int64} : Rn sc d 191 41 L (.long y :: .long x :: st) σ r ↔ Rn sc d 191 42 L (.int (lg_cmp x y) :: st) σ r := r_lcmp d191_41
theorem d191_42 : decode (mC 191) 42 = .ok (.ifCond .eq 7, 3) := by decide +kernel
theorem x191_42 {sc : aSc} {d : Nat} {r : aRes} {L : List Value} {st : List Value} {σ : aS} {x : Int32} : Rn sc d 191 42 L (.int x :: st) σ r ↔ if x = 0 then Rn sc d 191 49 L st σ r else Rn sc d 191 45 L st σ r := r_if_eq d191_42 rfl
theorem d191_45 : decode (mC 191) 45 = .ok (.lconst 1, 1) := by decide +kernel
theorem x191_45 {sc : aSc} {d : Nat} {r : aRes} {L : List Value} {st : List Value} {σ : aS} : Rn sc d 191 45 L st σ r ↔ Rn sc d 191 46 L (.long 1 :: st) σ r := r_lconst d191_45 (by decide)
theorem d191_46 : decode (mC 191) 46 = .ok (.goto 8, 3) := by decide +kernel
theorem x191_46 {sc : aSc} {d : Nat} {r : aRes} {L : List Value} {st : List Value} {σ : aS} : Rn sc d 191 46 L st σ r ↔ Rn sc d 191 54 L st σ r := r_goto d191_46 rfl
theorem d191_49 : decode (mC 191) 49 = .ok (.lconst 0, 1) := by decide +kernel
theorem x191_49 {sc : aSc} {d : Nat} {r : aRes} {L : List Value} {st : List Value} {σ : aS} : Rn sc d 191 49 L st σ r ↔ Rn sc d 191 50 L (.long 0 :: st) σ r := r_lconst d191_49 (by decide)
theorem d191_50 : decode (mC 191) 50 = .ok (.goto 4, 3) := by decide +kernel
theorem x191_50 {sc : aSc} {d : Nat} {r : aRes} {L : List Value} {st : List Value} {σ : aS} : Rn sc d 191 50 L st σ r ↔ Rn sc d 191 54 L st σ r := r_goto d191_50 rfl
theorem d191_53 : decode (mC 191) 53 = .ok (.lload_n 2, 1) := by decide +kernel
theorem x191_53 {sc : aSc} {d : Nat} {r : aRes} {a0 : Value} {a1 : Value} {x2 : Int64} {a3 : Value} {st : List Value} {σ : aS} : Rn sc d 191 53 [a0, a1, .long x2, a3] st σ r ↔ Rn sc d 191 54 [a0, a1, .long x2, a3] (.long x2 :: st) σ r := r_lload_n d191_53 rfl
theorem d191_54 : decode (mC 191) 54 = .ok (.lreturn, 1) := by decide +kernel
theorem x191_54 {sc : aSc} {d : Nat} {r : aRes} {L : List Value} {σ : aS} {x : Int64} : Rn sc d 191 54 L [.long x] σ r ↔ r = (σ, some (.long x)) := r_lret d191_54 rfl
theorem d192_0 : decode (mC 192) 0 = .ok (.aload_n 0, 1) := by decide +kernel
theorem x192_0 {sc : aSc} {d : Nat} {r : aRes} {x0 : Nat} {a1 : Value} {a2 : Value} {a3 : Value} {a4 : Value} {st : List Value} {σ : aS} : Rn sc d 192 0 [.ref x0, a1, a2, a3, a4] st σ r ↔ Rn sc d 192 1 [.ref x0, a1, a2, a3, a4] (.ref x0 :: st) σ r := r_aload_n d192_0 rfl
theorem d192_1 : decode (mC 192) 1 = .ok (.iload_n 1, 1) := by decide +kernel
theorem x192_1 {sc : aSc} {d : Nat} {r : aRes} {a0 : Value} {x1 : Int32} {a2 : Value} {a3 : Value} {a4 : Value} {st : List Value} {σ : aS} : Rn sc d 192 1 [a0, .int x1, a2, a3, a4] st σ r ↔ Rn sc d 192 2 [a0, .int x1, a2, a3, a4] (.int x1 :: st) σ r := r_iload_n d192_1 rfl
theorem d192_2 : decode (mC 192) 2 = .ok (.invokevirtual 363, 3) := by decide +kernel
theorem x192_2 {sc : aSc} {d : Nat} {r : aRes} {L : List Value} {f : Nat → Nat → Int32} {g : Nat → Nat → Int64} {h1 h2 : Nat} {y0 : Int32}  {o : Nat} (hK : KK[o]? = some (.inl 7)) : Rn sc d 192 2 L [.int y0, .ref o] (cS f g h1 h2) r ↔ ∃ (σ3 : aS) (v : Option Value), Cl sc d 189 [.ref o, .int y0] (cS f g h1 h2) (σ3, v) ∧ Rn sc d 192 5 L (v.toList ++ []) σ3 r := r_callV (vs := [.int y0]) d192_2 (j := 189) (by decide +kernel) ⟨rfl, by decide, rfl, rfl⟩ (Nat.le_of_ble_eq_true rfl) hK
theorem d192_5 : decode (mC 192) 5 = .ok (.ifCond .ne 5, 3) := by decide +kernel
theorem x192_5 {sc : aSc} {d : Nat} {r : aRes} {L : List Value} {st : List Value} {σ : aS} {x : Int32} : Rn sc d 192 5 L (.int x :: st) σ r ↔ if x = 0 then Rn sc d 192 8 L st σ r else Rn sc d 192 10 L st σ r := r_if_ne d192_5 rfl
theorem d192_8 : decode (mC 192) 8 = .ok (.iconst (-1), 1) := by decide +kernel
theorem x192_8 {sc : aSc} {d : Nat} {r : aRes} {L : List Value} {st : List Value} {σ : aS} : Rn sc d 192 8 L st σ r ↔ Rn sc d 192 9 L (.int (-1) :: st) σ r := r_iconst d192_8 (by decide)
theorem d192_9 : decode (mC 192) 9 = .ok (.ireturn, 1) := by decide +kernel
theorem x192_9 {sc : aSc} {d : Nat} {r : aRes} {L : List Value} {σ : aS} {x : Int32} : Rn sc d 192 9 L [.int x] σ r ↔ r = (σ, some (.int x)) := r_iret d192_9 rfl rfl
theorem d192_10 : decode (mC 192) 10 = .ok (.aload_n 0, 1) := by decide +kernel
theorem x192_10 {sc : aSc} {d : Nat} {r : aRes} {x0 : Nat} {a1 : Value} {a2 : Value} {a3 : Value} {a4 : Value} {st : List Value} {σ : aS} : Rn sc d 192 10 [.ref x0, a1, a2, a3, a4] st σ r ↔ Rn sc d 192 11 [.ref x0, a1, a2, a3, a4] (.ref x0 :: st) σ r := r_aload_n d192_10 rfl
theorem d192_11 : decode (mC 192) 11 = .ok (.getfield 214, 3) := by decide +kernel
theorem x192_11 {sc : aSc} {d : Nat} {r : aRes} {L : List Value} {st : List Value} {f : Nat → Nat → Int32} {g : Nat → Nat → Int64} {h1 h2 : Nat} {o : Nat} (hK : KK[o]? = some (.inl 7)) (hR : (RR h1 h2 o 67).isSome = true) : Rn sc d 192 11 L (.ref o :: st) (cS f g h1 h2) r ↔ Rn sc d 192 14 L (.ref (rf h1 h2 o 67) :: st) (cS f g h1 h2) r := r_getR2 d192_11 (ci := 7) (k := 67) (by decide +kernel) (by decide +kernel) (fun _ => rfl) hK hR
theorem d192_14 : decode (mC 192) 14 = .ok (.iload_n 1, 1) := by decide +kernel
theorem x192_14 {sc : aSc} {d : Nat} {r : aRes} {a0 : Value} {x1 : Int32} {a2 : Value} {a3 : Value} {a4 : Value} {st : List Value} {σ : aS} : Rn sc d 192 14 [a0, .int x1, a2, a3, a4] st σ r ↔ Rn sc d 192 15 [a0, .int x1, a2, a3, a4] (.int x1 :: st) σ r := r_iload_n d192_14 rfl
theorem d192_15 : decode (mC 192) 15 = .ok (.iaload, 1) := by decide +kernel
theorem x192_15 {sc : aSc} {d : Nat} {r : aRes} {L : List Value} {st : List Value} {f : Nat → Nat → Int32} {g : Nat → Nat → Int64} {h1 h2 : Nat} {a : Nat} {i : Int32} (h17 : 17 ≤ a) (hA : isT9 .int a) (hi : inb i (aln a) = true) : Rn sc d 192 15 L (.int i :: .ref a :: st) (cS f g h1 h2) r ↔ Rn sc d 192 16 L (.int (f a i.toNatClampNeg) :: st) (cS f g h1 h2) r := r_iald d192_15 h17 hA hi
theorem d192_16 : decode (mC 192) 16 = .ok (.ifCond .ge 6, 3) := by decide +kernel
theorem x192_16 {sc : aSc} {d : Nat} {r : aRes} {L : List Value} {st : List Value} {σ : aS} {x : Int32} : Rn sc d 192 16 L (.int x :: st) σ r ↔ if x < 0 then Rn sc d 192 19 L st σ r else Rn sc d 192 22 L st σ r := r_if_ge d192_16 rfl
theorem d192_19 : decode (mC 192) 19 = .ok (.bipush (-11), 2) := by decide +kernel
theorem x192_19 {sc : aSc} {d : Nat} {r : aRes} {L : List Value} {st : List Value} {σ : aS} : Rn sc d 192 19 L st σ r ↔ Rn sc d 192 21 L (.int (-11) :: st) σ r := r_bipush d192_19 (by decide)
theorem d192_21 : decode (mC 192) 21 = .ok (.ireturn, 1) := by decide +kernel
theorem x192_21 {sc : aSc} {d : Nat} {r : aRes} {L : List Value} {σ : aS} {x : Int32} : Rn sc d 192 21 L [.int x] σ r ↔ r = (σ, some (.int x)) := r_iret d192_21 rfl rfl
theorem d192_22 : decode (mC 192) 22 = .ok (.aload_n 0, 1) := by decide +kernel
theorem x192_22 {sc : aSc} {d : Nat} {r : aRes} {x0 : Nat} {a1 : Value} {a2 : Value} {a3 : Value} {a4 : Value} {st : List Value} {σ : aS} : Rn sc d 192 22 [.ref x0, a1, a2, a3, a4] st σ r ↔ Rn sc d 192 23 [.ref x0, a1, a2, a3, a4] (.ref x0 :: st) σ r := r_aload_n d192_22 rfl
theorem d192_23 : decode (mC 192) 23 = .ok (.iload_n 2, 1) := by decide +kernel
theorem x192_23 {sc : aSc} {d : Nat} {r : aRes} {a0 : Value} {a1 : Value} {x2 : Int32} {a3 : Value} {a4 : Value} {st : List Value} {σ : aS} : Rn sc d 192 23 [a0, a1, .int x2, a3, a4] st σ r ↔ Rn sc d 192 24 [a0, a1, .int x2, a3, a4] (.int x2 :: st) σ r := r_iload_n d192_23 rfl
theorem d192_24 : decode (mC 192) 24 = .ok (.iconst 0, 1) := by decide +kernel
theorem x192_24 {sc : aSc} {d : Nat} {r : aRes} {L : List Value} {st : List Value} {σ : aS} : Rn sc d 192 24 L st σ r ↔ Rn sc d 192 25 L (.int 0 :: st) σ r := r_iconst d192_24 (by decide)
theorem d192_25 : decode (mC 192) 25 = .ok (.aload_n 0, 1) := by decide +kernel
theorem x192_25 {sc : aSc} {d : Nat} {r : aRes} {x0 : Nat} {a1 : Value} {a2 : Value} {a3 : Value} {a4 : Value} {st : List Value} {σ : aS} : Rn sc d 192 25 [.ref x0, a1, a2, a3, a4] st σ r ↔ Rn sc d 192 26 [.ref x0, a1, a2, a3, a4] (.ref x0 :: st) σ r := r_aload_n d192_25 rfl
theorem d192_26 : decode (mC 192) 26 = .ok (.getfield 217, 3) := by decide +kernel
theorem x192_26 {sc : aSc} {d : Nat} {r : aRes} {L : List Value} {st : List Value} {f : Nat → Nat → Int32} {g : Nat → Nat → Int64} {h1 h2 : Nat} {o : Nat} (hK : KK[o]? = some (.inl 7)) (hR : (RR h1 h2 o 68).isSome = true) : Rn sc d 192 26 L (.ref o :: st) (cS f g h1 h2) r ↔ Rn sc d 192 29 L (.ref (rf h1 h2 o 68) :: st) (cS f g h1 h2) r := r_getR2 d192_26 (ci := 7) (k := 68) (by decide +kernel) (by decide +kernel) (fun _ => rfl) hK hR
theorem d192_29 : decode (mC 192) 29 = .ok (.iload_n 1, 1) := by decide +kernel
theorem x192_29 {sc : aSc} {d : Nat} {r : aRes} {a0 : Value} {x1 : Int32} {a2 : Value} {a3 : Value} {a4 : Value} {st : List Value} {σ : aS} : Rn sc d 192 29 [a0, .int x1, a2, a3, a4] st σ r ↔ Rn sc d 192 30 [a0, .int x1, a2, a3, a4] (.int x1 :: st) σ r := r_iload_n d192_29 rfl
theorem d192_30 : decode (mC 192) 30 = .ok (.iaload, 1) := by decide +kernel
theorem x192_30 {sc : aSc} {d : Nat} {r : aRes} {L : List Value} {st : List Value} {f : Nat → Nat → Int32} {g : Nat → Nat → Int64} {h1 h2 : Nat} {a : Nat} {i : Int32} (h17 : 17 ≤ a) (hA : isT9 .int a) (hi : inb i (aln a) = true) : Rn sc d 192 30 L (.int i :: .ref a :: st) (cS f g h1 h2) r ↔ Rn sc d 192 31 L (.int (f a i.toNatClampNeg) :: st) (cS f g h1 h2) r := r_iald d192_30 h17 hA hi
theorem d192_31 : decode (mC 192) 31 = .ok (.iconst 1, 1) := by decide +kernel
theorem x192_31 {sc : aSc} {d : Nat} {r : aRes} {L : List Value} {st : List Value} {σ : aS} : Rn sc d 192 31 L st σ r ↔ Rn sc d 192 32 L (.int 1 :: st) σ r := r_iconst d192_31 (by decide)
theorem d192_32 : decode (mC 192) 32 = .ok (.isub, 1) := by decide +kernel
theorem x192_32 {sc : aSc} {d : Nat} {r : aRes} {L : List Value} {st : List Value} {σ : aS} {x y : Int32} : Rn sc d 192 32 L (.int y :: .int x :: st) σ r ↔ Rn sc d 192 33 L (.int (x - y) :: st) σ r := r_isub d192_32
theorem d192_33 : decode (mC 192) 33 = .ok (.invokevirtual 227, 3) := by decide +kernel
theorem x192_33 {sc : aSc} {d : Nat} {r : aRes} {L : List Value} {f : Nat → Nat → Int32} {g : Nat → Nat → Int64} {h1 h2 : Nat} {y0 : Int32} {y1 : Int32} {y2 : Int32}  {o : Nat} (hK : KK[o]? = some (.inl 7)) : Rn sc d 192 33 L [.int y0, .int y1, .int y2, .ref o] (cS f g h1 h2) r ↔ ∃ (σ3 : aS) (v : Option Value), Cl sc d 108 [.ref o, .int y2, .int y1, .int y0] (cS f g h1 h2) (σ3, v) ∧ Rn sc d 192 36 L (v.toList ++ []) σ3 r := r_callV (vs := [.int y0, .int y1, .int y2]) d192_33 (j := 108) (by decide +kernel) ⟨rfl, by decide, rfl, rfl⟩ (Nat.le_of_ble_eq_true rfl) hK
theorem d192_36 : decode (mC 192) 36 = .ok (.ifCond .ne 6, 3) := by decide +kernel
theorem x192_36 {sc : aSc} {d : Nat} {r : aRes} {L : List Value} {st : List Value} {σ : aS} {x : Int32} : Rn sc d 192 36 L (.int x :: st) σ r ↔ if x = 0 then Rn sc d 192 39 L st σ r else Rn sc d 192 42 L st σ r := r_if_ne d192_36 rfl
theorem d192_39 : decode (mC 192) 39 = .ok (.bipush (-13), 2) := by decide +kernel
theorem x192_39 {sc : aSc} {d : Nat} {r : aRes} {L : List Value} {st : List Value} {σ : aS} : Rn sc d 192 39 L st σ r ↔ Rn sc d 192 41 L (.int (-13) :: st) σ r := r_bipush d192_39 (by decide)
theorem d192_41 : decode (mC 192) 41 = .ok (.ireturn, 1) := by decide +kernel
theorem x192_41 {sc : aSc} {d : Nat} {r : aRes} {L : List Value} {σ : aS} {x : Int32} : Rn sc d 192 41 L [.int x] σ r ↔ r = (σ, some (.int x)) := r_iret d192_41 rfl rfl
theorem d192_42 : decode (mC 192) 42 = .ok (.aload_n 0, 1) := by decide +kernel
theorem x192_42 {sc : aSc} {d : Nat} {r : aRes} {x0 : Nat} {a1 : Value} {a2 : Value} {a3 : Value} {a4 : Value} {st : List Value} {σ : aS} : Rn sc d 192 42 [.ref x0, a1, a2, a3, a4] st σ r ↔ Rn sc d 192 43 [.ref x0, a1, a2, a3, a4] (.ref x0 :: st) σ r := r_aload_n d192_42 rfl
theorem d192_43 : decode (mC 192) 43 = .ok (.getfield 220, 3) := by decide +kernel
theorem x192_43 {sc : aSc} {d : Nat} {r : aRes} {L : List Value} {st : List Value} {f : Nat → Nat → Int32} {g : Nat → Nat → Int64} {h1 h2 : Nat} {o : Nat} (hK : KK[o]? = some (.inl 7)) (hR : (RR h1 h2 o 69).isSome = true) : Rn sc d 192 43 L (.ref o :: st) (cS f g h1 h2) r ↔ Rn sc d 192 46 L (.ref (rf h1 h2 o 69) :: st) (cS f g h1 h2) r := r_getR2 d192_43 (ci := 7) (k := 69) (by decide +kernel) (by decide +kernel) (fun _ => rfl) hK hR
theorem d192_46 : decode (mC 192) 46 = .ok (.bipush 60, 2) := by decide +kernel
theorem x192_46 {sc : aSc} {d : Nat} {r : aRes} {L : List Value} {st : List Value} {σ : aS} : Rn sc d 192 46 L st σ r ↔ Rn sc d 192 48 L (.int 60 :: st) σ r := r_bipush d192_46 (by decide)
theorem d192_48 : decode (mC 192) 48 = .ok (.iload_n 1, 1) := by decide +kernel
theorem x192_48 {sc : aSc} {d : Nat} {r : aRes} {a0 : Value} {x1 : Int32} {a2 : Value} {a3 : Value} {a4 : Value} {st : List Value} {σ : aS} : Rn sc d 192 48 [a0, .int x1, a2, a3, a4] st σ r ↔ Rn sc d 192 49 [a0, .int x1, a2, a3, a4] (.int x1 :: st) σ r := r_iload_n d192_48 rfl
theorem d192_49 : decode (mC 192) 49 = .ok (.imul, 1) := by decide +kernel
theorem x192_49 {sc : aSc} {d : Nat} {r : aRes} {L : List Value} {st : List Value} {σ : aS} {x y : Int32} : Rn sc d 192 49 L (.int y :: .int x :: st) σ r ↔ Rn sc d 192 50 L (.int (x * y) :: st) σ r := r_imul d192_49
theorem d192_50 : decode (mC 192) 50 = .ok (.iload_n 2, 1) := by decide +kernel
theorem x192_50 {sc : aSc} {d : Nat} {r : aRes} {a0 : Value} {a1 : Value} {x2 : Int32} {a3 : Value} {a4 : Value} {st : List Value} {σ : aS} : Rn sc d 192 50 [a0, a1, .int x2, a3, a4] st σ r ↔ Rn sc d 192 51 [a0, a1, .int x2, a3, a4] (.int x2 :: st) σ r := r_iload_n d192_50 rfl
theorem d192_51 : decode (mC 192) 51 = .ok (.iadd, 1) := by decide +kernel
theorem x192_51 {sc : aSc} {d : Nat} {r : aRes} {L : List Value} {st : List Value} {σ : aS} {x y : Int32} : Rn sc d 192 51 L (.int y :: .int x :: st) σ r ↔ Rn sc d 192 52 L (.int (x + y) :: st) σ r := r_iadd d192_51
theorem d192_52 : decode (mC 192) 52 = .ok (.aload_n 0, 1) := by decide +kernel
theorem x192_52 {sc : aSc} {d : Nat} {r : aRes} {x0 : Nat} {a1 : Value} {a2 : Value} {a3 : Value} {a4 : Value} {st : List Value} {σ : aS} : Rn sc d 192 52 [.ref x0, a1, a2, a3, a4] st σ r ↔ Rn sc d 192 53 [.ref x0, a1, a2, a3, a4] (.ref x0 :: st) σ r := r_aload_n d192_52 rfl
theorem d192_53 : decode (mC 192) 53 = .ok (.aload_n 0, 1) := by decide +kernel
theorem x192_53 {sc : aSc} {d : Nat} {r : aRes} {x0 : Nat} {a1 : Value} {a2 : Value} {a3 : Value} {a4 : Value} {st : List Value} {σ : aS} : Rn sc d 192 53 [.ref x0, a1, a2, a3, a4] st σ r ↔ Rn sc d 192 54 [.ref x0, a1, a2, a3, a4] (.ref x0 :: st) σ r := r_aload_n d192_53 rfl
theorem d192_54 : decode (mC 192) 54 = .ok (.getfield 214, 3) := by decide +kernel
theorem x192_54 {sc : aSc} {d : Nat} {r : aRes} {L : List Value} {st : List Value} {f : Nat → Nat → Int32} {g : Nat → Nat → Int64} {h1 h2 : Nat} {o : Nat} (hK : KK[o]? = some (.inl 7)) (hR : (RR h1 h2 o 67).isSome = true) : Rn sc d 192 54 L (.ref o :: st) (cS f g h1 h2) r ↔ Rn sc d 192 57 L (.ref (rf h1 h2 o 67) :: st) (cS f g h1 h2) r := r_getR2 d192_54 (ci := 7) (k := 67) (by decide +kernel) (by decide +kernel) (fun _ => rfl) hK hR
theorem d192_57 : decode (mC 192) 57 = .ok (.iload_n 1, 1) := by decide +kernel
theorem x192_57 {sc : aSc} {d : Nat} {r : aRes} {a0 : Value} {x1 : Int32} {a2 : Value} {a3 : Value} {a4 : Value} {st : List Value} {σ : aS} : Rn sc d 192 57 [a0, .int x1, a2, a3, a4] st σ r ↔ Rn sc d 192 58 [a0, .int x1, a2, a3, a4] (.int x1 :: st) σ r := r_iload_n d192_57 rfl
theorem d192_58 : decode (mC 192) 58 = .ok (.iaload, 1) := by decide +kernel
theorem x192_58 {sc : aSc} {d : Nat} {r : aRes} {L : List Value} {st : List Value} {f : Nat → Nat → Int32} {g : Nat → Nat → Int64} {h1 h2 : Nat} {a : Nat} {i : Int32} (h17 : 17 ≤ a) (hA : isT9 .int a) (hi : inb i (aln a) = true) : Rn sc d 192 58 L (.int i :: .ref a :: st) (cS f g h1 h2) r ↔ Rn sc d 192 59 L (.int (f a i.toNatClampNeg) :: st) (cS f g h1 h2) r := r_iald d192_58 h17 hA hi
theorem d192_59 : decode (mC 192) 59 = .ok (.lload_n 3, 1) := by decide +kernel
theorem x192_59 {sc : aSc} {d : Nat} {r : aRes} {a0 : Value} {a1 : Value} {a2 : Value} {x3 : Int64} {a4 : Value} {st : List Value} {σ : aS} : Rn sc d 192 59 [a0, a1, a2, .long x3, a4] st σ r ↔ Rn sc d 192 60 [a0, a1, a2, .long x3, a4] (.long x3 :: st) σ r := r_lload_n d192_59 rfl
theorem d192_60 : decode (mC 192) 60 = .ok (.invokevirtual 390, 3) := by decide +kernel
theorem x192_60 {sc : aSc} {d : Nat} {r : aRes} {L : List Value} {f : Nat → Nat → Int32} {g : Nat → Nat → Int64} {h1 h2 : Nat} {y0 : Int64} {y1 : Int32} {z0 : Int32} {z1 : Nat} {o : Nat} (hK : KK[o]? = some (.inl 7)) : Rn sc d 192 60 L [.long y0, .int y1, .ref o, .int z0, .ref z1] (cS f g h1 h2) r ↔ ∃ (σ3 : aS) (v : Option Value), Cl sc d 191 [.ref o, .int y1, .long y0] (cS f g h1 h2) (σ3, v) ∧ Rn sc d 192 63 L (v.toList ++ [.int z0, .ref z1]) σ3 r := r_callV (vs := [.long y0, .int y1]) d192_60 (j := 191) (by decide +kernel) ⟨rfl, by decide, rfl, rfl⟩ (Nat.le_of_ble_eq_true rfl) hK
theorem d192_63 : decode (mC 192) 63 = .ok (.lastore, 1) := by decide +kernel
theorem x192_63 {sc : aSc} {d : Nat} {r : aRes} {L : List Value} {st : List Value} {f : Nat → Nat → Int32} {g : Nat → Nat → Int64} {h1 h2 : Nat} {a : Nat} {i : Int32} {x : Int64} (h17 : 17 ≤ a) (hA : isT9 .long a) (hi : inb i (aln a) = true) : Rn sc d 192 63 L (.long x :: .int i :: .ref a :: st) (cS f g h1 h2) r ↔ Rn sc d 192 64 L st (cS f (u2 g a i.toNatClampNeg x) h1 h2) r := r_last d192_63 h17 hA hi
theorem d192_64 : decode (mC 192) 64 = .ok (.iconst 1, 1) := by decide +kernel
theorem x192_64 {sc : aSc} {d : Nat} {r : aRes} {L : List Value} {st : List Value} {σ : aS} : Rn sc d 192 64 L st σ r ↔ Rn sc d 192 65 L (.int 1 :: st) σ r := r_iconst d192_64 (by decide)
theorem d192_65 : decode (mC 192) 65 = .ok (.ireturn, 1) := by decide +kernel
theorem x192_65 {sc : aSc} {d : Nat} {r : aRes} {L : List Value} {σ : aS} {x : Int32} : Rn sc d 192 65 L [.int x] σ r ↔ r = (σ, some (.int x)) := r_iret d192_65 rfl rfl
theorem d193_0 : decode (mC 193) 0 = .ok (.aload_n 0, 1) := by decide +kernel
theorem x193_0 {sc : aSc} {d : Nat} {r : aRes} {x0 : Nat} {a1 : Value} {a2 : Value} {st : List Value} {σ : aS} : Rn sc d 193 0 [.ref x0, a1, a2] st σ r ↔ Rn sc d 193 1 [.ref x0, a1, a2] (.ref x0 :: st) σ r := r_aload_n d193_0 rfl
theorem d193_1 : decode (mC 193) 1 = .ok (.iload_n 1, 1) := by decide +kernel
theorem x193_1 {sc : aSc} {d : Nat} {r : aRes} {a0 : Value} {x1 : Int32} {a2 : Value} {st : List Value} {σ : aS} : Rn sc d 193 1 [a0, .int x1, a2] st σ r ↔ Rn sc d 193 2 [a0, .int x1, a2] (.int x1 :: st) σ r := r_iload_n d193_1 rfl
theorem d193_2 : decode (mC 193) 2 = .ok (.invokevirtual 363, 3) := by decide +kernel
theorem x193_2 {sc : aSc} {d : Nat} {r : aRes} {L : List Value} {f : Nat → Nat → Int32} {g : Nat → Nat → Int64} {h1 h2 : Nat} {y0 : Int32}  {o : Nat} (hK : KK[o]? = some (.inl 7)) : Rn sc d 193 2 L [.int y0, .ref o] (cS f g h1 h2) r ↔ ∃ (σ3 : aS) (v : Option Value), Cl sc d 189 [.ref o, .int y0] (cS f g h1 h2) (σ3, v) ∧ Rn sc d 193 5 L (v.toList ++ []) σ3 r := r_callV (vs := [.int y0]) d193_2 (j := 189) (by decide +kernel) ⟨rfl, by decide, rfl, rfl⟩ (Nat.le_of_ble_eq_true rfl) hK
theorem d193_5 : decode (mC 193) 5 = .ok (.ifCond .eq 29, 3) := by decide +kernel
theorem x193_5 {sc : aSc} {d : Nat} {r : aRes} {L : List Value} {st : List Value} {σ : aS} {x : Int32} : Rn sc d 193 5 L (.int x :: st) σ r ↔ if x = 0 then Rn sc d 193 34 L st σ r else Rn sc d 193 8 L st σ r := r_if_eq d193_5 rfl
theorem d193_8 : decode (mC 193) 8 = .ok (.aload_n 0, 1) := by decide +kernel
theorem x193_8 {sc : aSc} {d : Nat} {r : aRes} {x0 : Nat} {a1 : Value} {a2 : Value} {st : List Value} {σ : aS} : Rn sc d 193 8 [.ref x0, a1, a2] st σ r ↔ Rn sc d 193 9 [.ref x0, a1, a2] (.ref x0 :: st) σ r := r_aload_n d193_8 rfl
theorem d193_9 : decode (mC 193) 9 = .ok (.getfield 214, 3) := by decide +kernel
theorem x193_9 {sc : aSc} {d : Nat} {r : aRes} {L : List Value} {st : List Value} {f : Nat → Nat → Int32} {g : Nat → Nat → Int64} {h1 h2 : Nat} {o : Nat} (hK : KK[o]? = some (.inl 7)) (hR : (RR h1 h2 o 67).isSome = true) : Rn sc d 193 9 L (.ref o :: st) (cS f g h1 h2) r ↔ Rn sc d 193 12 L (.ref (rf h1 h2 o 67) :: st) (cS f g h1 h2) r := r_getR2 d193_9 (ci := 7) (k := 67) (by decide +kernel) (by decide +kernel) (fun _ => rfl) hK hR
theorem d193_12 : decode (mC 193) 12 = .ok (.iload_n 1, 1) := by decide +kernel
theorem x193_12 {sc : aSc} {d : Nat} {r : aRes} {a0 : Value} {x1 : Int32} {a2 : Value} {st : List Value} {σ : aS} : Rn sc d 193 12 [a0, .int x1, a2] st σ r ↔ Rn sc d 193 13 [a0, .int x1, a2] (.int x1 :: st) σ r := r_iload_n d193_12 rfl
theorem d193_13 : decode (mC 193) 13 = .ok (.iaload, 1) := by decide +kernel
theorem x193_13 {sc : aSc} {d : Nat} {r : aRes} {L : List Value} {st : List Value} {f : Nat → Nat → Int32} {g : Nat → Nat → Int64} {h1 h2 : Nat} {a : Nat} {i : Int32} (h17 : 17 ≤ a) (hA : isT9 .int a) (hi : inb i (aln a) = true) : Rn sc d 193 13 L (.int i :: .ref a :: st) (cS f g h1 h2) r ↔ Rn sc d 193 14 L (.int (f a i.toNatClampNeg) :: st) (cS f g h1 h2) r := r_iald d193_13 h17 hA hi
theorem d193_14 : decode (mC 193) 14 = .ok (.ifCond .lt 20, 3) := by decide +kernel
theorem x193_14 {sc : aSc} {d : Nat} {r : aRes} {L : List Value} {st : List Value} {σ : aS} {x : Int32} : Rn sc d 193 14 L (.int x :: st) σ r ↔ if x < 0 then Rn sc d 193 34 L st σ r else Rn sc d 193 17 L st σ r := r_if_lt d193_14 rfl
theorem d193_17 : decode (mC 193) 17 = .ok (.aload_n 0, 1) := by decide +kernel
theorem x193_17 {sc : aSc} {d : Nat} {r : aRes} {x0 : Nat} {a1 : Value} {a2 : Value} {st : List Value} {σ : aS} : Rn sc d 193 17 [.ref x0, a1, a2] st σ r ↔ Rn sc d 193 18 [.ref x0, a1, a2] (.ref x0 :: st) σ r := r_aload_n d193_17 rfl
theorem d193_18 : decode (mC 193) 18 = .ok (.iload_n 2, 1) := by decide +kernel
theorem x193_18 {sc : aSc} {d : Nat} {r : aRes} {a0 : Value} {a1 : Value} {x2 : Int32} {st : List Value} {σ : aS} : Rn sc d 193 18 [a0, a1, .int x2] st σ r ↔ Rn sc d 193 19 [a0, a1, .int x2] (.int x2 :: st) σ r := r_iload_n d193_18 rfl
theorem d193_19 : decode (mC 193) 19 = .ok (.iconst 0, 1) := by decide +kernel
theorem x193_19 {sc : aSc} {d : Nat} {r : aRes} {L : List Value} {st : List Value} {σ : aS} : Rn sc d 193 19 L st σ r ↔ Rn sc d 193 20 L (.int 0 :: st) σ r := r_iconst d193_19 (by decide)
theorem d193_20 : decode (mC 193) 20 = .ok (.aload_n 0, 1) := by decide +kernel
theorem x193_20 {sc : aSc} {d : Nat} {r : aRes} {x0 : Nat} {a1 : Value} {a2 : Value} {st : List Value} {σ : aS} : Rn sc d 193 20 [.ref x0, a1, a2] st σ r ↔ Rn sc d 193 21 [.ref x0, a1, a2] (.ref x0 :: st) σ r := r_aload_n d193_20 rfl
theorem d193_21 : decode (mC 193) 21 = .ok (.getfield 217, 3) := by decide +kernel
theorem x193_21 {sc : aSc} {d : Nat} {r : aRes} {L : List Value} {st : List Value} {f : Nat → Nat → Int32} {g : Nat → Nat → Int64} {h1 h2 : Nat} {o : Nat} (hK : KK[o]? = some (.inl 7)) (hR : (RR h1 h2 o 68).isSome = true) : Rn sc d 193 21 L (.ref o :: st) (cS f g h1 h2) r ↔ Rn sc d 193 24 L (.ref (rf h1 h2 o 68) :: st) (cS f g h1 h2) r := r_getR2 d193_21 (ci := 7) (k := 68) (by decide +kernel) (by decide +kernel) (fun _ => rfl) hK hR
theorem d193_24 : decode (mC 193) 24 = .ok (.iload_n 1, 1) := by decide +kernel
theorem x193_24 {sc : aSc} {d : Nat} {r : aRes} {a0 : Value} {x1 : Int32} {a2 : Value} {st : List Value} {σ : aS} : Rn sc d 193 24 [a0, .int x1, a2] st σ r ↔ Rn sc d 193 25 [a0, .int x1, a2] (.int x1 :: st) σ r := r_iload_n d193_24 rfl
theorem d193_25 : decode (mC 193) 25 = .ok (.iaload, 1) := by decide +kernel
theorem x193_25 {sc : aSc} {d : Nat} {r : aRes} {L : List Value} {st : List Value} {f : Nat → Nat → Int32} {g : Nat → Nat → Int64} {h1 h2 : Nat} {a : Nat} {i : Int32} (h17 : 17 ≤ a) (hA : isT9 .int a) (hi : inb i (aln a) = true) : Rn sc d 193 25 L (.int i :: .ref a :: st) (cS f g h1 h2) r ↔ Rn sc d 193 26 L (.int (f a i.toNatClampNeg) :: st) (cS f g h1 h2) r := r_iald d193_25 h17 hA hi
theorem d193_26 : decode (mC 193) 26 = .ok (.iconst 1, 1) := by decide +kernel
theorem x193_26 {sc : aSc} {d : Nat} {r : aRes} {L : List Value} {st : List Value} {σ : aS} : Rn sc d 193 26 L st σ r ↔ Rn sc d 193 27 L (.int 1 :: st) σ r := r_iconst d193_26 (by decide)
theorem d193_27 : decode (mC 193) 27 = .ok (.isub, 1) := by decide +kernel
theorem x193_27 {sc : aSc} {d : Nat} {r : aRes} {L : List Value} {st : List Value} {σ : aS} {x y : Int32} : Rn sc d 193 27 L (.int y :: .int x :: st) σ r ↔ Rn sc d 193 28 L (.int (x - y) :: st) σ r := r_isub d193_27
theorem d193_28 : decode (mC 193) 28 = .ok (.invokevirtual 227, 3) := by decide +kernel
theorem x193_28 {sc : aSc} {d : Nat} {r : aRes} {L : List Value} {f : Nat → Nat → Int32} {g : Nat → Nat → Int64} {h1 h2 : Nat} {y0 : Int32} {y1 : Int32} {y2 : Int32}  {o : Nat} (hK : KK[o]? = some (.inl 7)) : Rn sc d 193 28 L [.int y0, .int y1, .int y2, .ref o] (cS f g h1 h2) r ↔ ∃ (σ3 : aS) (v : Option Value), Cl sc d 108 [.ref o, .int y2, .int y1, .int y0] (cS f g h1 h2) (σ3, v) ∧ Rn sc d 193 31 L (v.toList ++ []) σ3 r := r_callV (vs := [.int y0, .int y1, .int y2]) d193_28 (j := 108) (by decide +kernel) ⟨rfl, by decide, rfl, rfl⟩ (Nat.le_of_ble_eq_true rfl) hK
theorem d193_31 : decode (mC 193) 31 = .ok (.ifCond .ne 9, 3) := by decide +kernel
theorem x193_31 {sc : aSc} {d : Nat} {r : aRes} {L : List Value} {st : List Value} {σ : aS} {x : Int32} : Rn sc d 193 31 L (.int x :: st) σ r ↔ if x = 0 then Rn sc d 193 34 L st σ r else Rn sc d 193 40 L st σ r := r_if_ne d193_31 rfl
theorem d193_34 : decode (mC 193) 34 = .ok (.ldc2_w 357, 3) := by decide +kernel
theorem x193_34 {sc : aSc} {d : Nat} {r : aRes} {L : List Value} {st : List Value} {σ : aS} : Rn sc d 193 34 L st σ r ↔ Rn sc d 193 37 L (.long (-9223372036854775808) :: st) σ r := r_ldc2_w d193_34 rfl
theorem d193_37 : decode (mC 193) 37 = .ok (.goto 14, 3) := by decide +kernel
theorem x193_37 {sc : aSc} {d : Nat} {r : aRes} {L : List Value} {st : List Value} {σ : aS} : Rn sc d 193 37 L st σ r ↔ Rn sc d 193 51 L st σ r := r_goto d193_37 rfl
theorem d193_40 : decode (mC 193) 40 = .ok (.aload_n 0, 1) := by decide +kernel
theorem x193_40 {sc : aSc} {d : Nat} {r : aRes} {x0 : Nat} {a1 : Value} {a2 : Value} {st : List Value} {σ : aS} : Rn sc d 193 40 [.ref x0, a1, a2] st σ r ↔ Rn sc d 193 41 [.ref x0, a1, a2] (.ref x0 :: st) σ r := r_aload_n d193_40 rfl
theorem d193_41 : decode (mC 193) 41 = .ok (.getfield 220, 3) := by decide +kernel
theorem x193_41 {sc : aSc} {d : Nat} {r : aRes} {L : List Value} {st : List Value} {f : Nat → Nat → Int32} {g : Nat → Nat → Int64} {h1 h2 : Nat} {o : Nat} (hK : KK[o]? = some (.inl 7)) (hR : (RR h1 h2 o 69).isSome = true) : Rn sc d 193 41 L (.ref o :: st) (cS f g h1 h2) r ↔ Rn sc d 193 44 L (.ref (rf h1 h2 o 69) :: st) (cS f g h1 h2) r := r_getR2 d193_41 (ci := 7) (k := 69) (by decide +kernel) (by decide +kernel) (fun _ => rfl) hK hR
theorem d193_44 : decode (mC 193) 44 = .ok (.bipush 60, 2) := by decide +kernel
theorem x193_44 {sc : aSc} {d : Nat} {r : aRes} {L : List Value} {st : List Value} {σ : aS} : Rn sc d 193 44 L st σ r ↔ Rn sc d 193 46 L (.int 60 :: st) σ r := r_bipush d193_44 (by decide)
theorem d193_46 : decode (mC 193) 46 = .ok (.iload_n 1, 1) := by decide +kernel
theorem x193_46 {sc : aSc} {d : Nat} {r : aRes} {a0 : Value} {x1 : Int32} {a2 : Value} {st : List Value} {σ : aS} : Rn sc d 193 46 [a0, .int x1, a2] st σ r ↔ Rn sc d 193 47 [a0, .int x1, a2] (.int x1 :: st) σ r := r_iload_n d193_46 rfl
theorem d193_47 : decode (mC 193) 47 = .ok (.imul, 1) := by decide +kernel
theorem x193_47 {sc : aSc} {d : Nat} {r : aRes} {L : List Value} {st : List Value} {σ : aS} {x y : Int32} : Rn sc d 193 47 L (.int y :: .int x :: st) σ r ↔ Rn sc d 193 48 L (.int (x * y) :: st) σ r := r_imul d193_47
theorem d193_48 : decode (mC 193) 48 = .ok (.iload_n 2, 1) := by decide +kernel
theorem x193_48 {sc : aSc} {d : Nat} {r : aRes} {a0 : Value} {a1 : Value} {x2 : Int32} {st : List Value} {σ : aS} : Rn sc d 193 48 [a0, a1, .int x2] st σ r ↔ Rn sc d 193 49 [a0, a1, .int x2] (.int x2 :: st) σ r := r_iload_n d193_48 rfl
theorem d193_49 : decode (mC 193) 49 = .ok (.iadd, 1) := by decide +kernel
theorem x193_49 {sc : aSc} {d : Nat} {r : aRes} {L : List Value} {st : List Value} {σ : aS} {x y : Int32} : Rn sc d 193 49 L (.int y :: .int x :: st) σ r ↔ Rn sc d 193 50 L (.int (x + y) :: st) σ r := r_iadd d193_49
theorem d193_50 : decode (mC 193) 50 = .ok (.laload, 1) := by decide +kernel
theorem x193_50 {sc : aSc} {d : Nat} {r : aRes} {L : List Value} {st : List Value} {f : Nat → Nat → Int32} {g : Nat → Nat → Int64} {h1 h2 : Nat} {a : Nat} {i : Int32} (h17 : 17 ≤ a) (hA : isT9 .long a) (hi : inb i (aln a) = true) : Rn sc d 193 50 L (.int i :: .ref a :: st) (cS f g h1 h2) r ↔ Rn sc d 193 51 L (.long (g a i.toNatClampNeg) :: st) (cS f g h1 h2) r := r_lald d193_50 h17 hA hi
theorem d193_51 : decode (mC 193) 51 = .ok (.lreturn, 1) := by decide +kernel
theorem x193_51 {sc : aSc} {d : Nat} {r : aRes} {L : List Value} {σ : aS} {x : Int64} : Rn sc d 193 51 L [.long x] σ r ↔ r = (σ, some (.long x)) := r_lret d193_51 rfl
theorem d194_0 : decode (mC 194) 0 = .ok (.aload_n 0, 1) := by decide +kernel
theorem x194_0 {sc : aSc} {d : Nat} {r : aRes} {x0 : Nat} {a1 : Value} {a2 : Value} {a3 : Value} {a4 : Value} {a5 : Value} {a6 : Value} {st : List Value} {σ : aS} : Rn sc d 194 0 [.ref x0, a1, a2, a3, a4, a5, a6] st σ r ↔ Rn sc d 194 1 [.ref x0, a1, a2, a3, a4, a5, a6] (.ref x0 :: st) σ r := r_aload_n d194_0 rfl
theorem d194_1 : decode (mC 194) 1 = .ok (.iload_n 1, 1) := by decide +kernel
theorem x194_1 {sc : aSc} {d : Nat} {r : aRes} {a0 : Value} {x1 : Int32} {a2 : Value} {a3 : Value} {a4 : Value} {a5 : Value} {a6 : Value} {st : List Value} {σ : aS} : Rn sc d 194 1 [a0, .int x1, a2, a3, a4, a5, a6] st σ r ↔ Rn sc d 194 2 [a0, .int x1, a2, a3, a4, a5, a6] (.int x1 :: st) σ r := r_iload_n d194_1 rfl
theorem d194_2 : decode (mC 194) 2 = .ok (.invokevirtual 363, 3) := by decide +kernel
theorem x194_2 {sc : aSc} {d : Nat} {r : aRes} {L : List Value} {f : Nat → Nat → Int32} {g : Nat → Nat → Int64} {h1 h2 : Nat} {y0 : Int32}  {o : Nat} (hK : KK[o]? = some (.inl 7)) : Rn sc d 194 2 L [.int y0, .ref o] (cS f g h1 h2) r ↔ ∃ (σ3 : aS) (v : Option Value), Cl sc d 189 [.ref o, .int y0] (cS f g h1 h2) (σ3, v) ∧ Rn sc d 194 5 L (v.toList ++ []) σ3 r := r_callV (vs := [.int y0]) d194_2 (j := 189) (by decide +kernel) ⟨rfl, by decide, rfl, rfl⟩ (Nat.le_of_ble_eq_true rfl) hK
theorem d194_5 : decode (mC 194) 5 = .ok (.ifCond .eq 11, 3) := by decide +kernel
theorem x194_5 {sc : aSc} {d : Nat} {r : aRes} {L : List Value} {st : List Value} {σ : aS} {x : Int32} : Rn sc d 194 5 L (.int x :: st) σ r ↔ if x = 0 then Rn sc d 194 16 L st σ r else Rn sc d 194 8 L st σ r := r_if_eq d194_5 rfl
theorem d194_8 : decode (mC 194) 8 = .ok (.aload_n 0, 1) := by decide +kernel
theorem x194_8 {sc : aSc} {d : Nat} {r : aRes} {x0 : Nat} {a1 : Value} {a2 : Value} {a3 : Value} {a4 : Value} {a5 : Value} {a6 : Value} {st : List Value} {σ : aS} : Rn sc d 194 8 [.ref x0, a1, a2, a3, a4, a5, a6] st σ r ↔ Rn sc d 194 9 [.ref x0, a1, a2, a3, a4, a5, a6] (.ref x0 :: st) σ r := r_aload_n d194_8 rfl
theorem d194_9 : decode (mC 194) 9 = .ok (.iload_n 3, 1) := by decide +kernel
theorem x194_9 {sc : aSc} {d : Nat} {r : aRes} {a0 : Value} {a1 : Value} {a2 : Value} {x3 : Int32} {a4 : Value} {a5 : Value} {a6 : Value} {st : List Value} {σ : aS} : Rn sc d 194 9 [a0, a1, a2, .int x3, a4, a5, a6] st σ r ↔ Rn sc d 194 10 [a0, a1, a2, .int x3, a4, a5, a6] (.int x3 :: st) σ r := r_iload_n d194_9 rfl
theorem d194_10 : decode (mC 194) 10 = .ok (.invokevirtual 363, 3) := by decide +kernel
theorem x194_10 {sc : aSc} {d : Nat} {r : aRes} {L : List Value} {f : Nat → Nat → Int32} {g : Nat → Nat → Int64} {h1 h2 : Nat} {y0 : Int32}  {o : Nat} (hK : KK[o]? = some (.inl 7)) : Rn sc d 194 10 L [.int y0, .ref o] (cS f g h1 h2) r ↔ ∃ (σ3 : aS) (v : Option Value), Cl sc d 189 [.ref o, .int y0] (cS f g h1 h2) (σ3, v) ∧ Rn sc d 194 13 L (v.toList ++ []) σ3 r := r_callV (vs := [.int y0]) d194_10 (j := 189) (by decide +kernel) ⟨rfl, by decide, rfl, rfl⟩ (Nat.le_of_ble_eq_true rfl) hK
theorem d194_13 : decode (mC 194) 13 = .ok (.ifCond .ne 5, 3) := by decide +kernel
theorem x194_13 {sc : aSc} {d : Nat} {r : aRes} {L : List Value} {st : List Value} {σ : aS} {x : Int32} : Rn sc d 194 13 L (.int x :: st) σ r ↔ if x = 0 then Rn sc d 194 16 L st σ r else Rn sc d 194 18 L st σ r := r_if_ne d194_13 rfl
theorem d194_16 : decode (mC 194) 16 = .ok (.iconst (-1), 1) := by decide +kernel
theorem x194_16 {sc : aSc} {d : Nat} {r : aRes} {L : List Value} {st : List Value} {σ : aS} : Rn sc d 194 16 L st σ r ↔ Rn sc d 194 17 L (.int (-1) :: st) σ r := r_iconst d194_16 (by decide)
theorem d194_17 : decode (mC 194) 17 = .ok (.ireturn, 1) := by decide +kernel
theorem x194_17 {sc : aSc} {d : Nat} {r : aRes} {L : List Value} {σ : aS} {x : Int32} : Rn sc d 194 17 L [.int x] σ r ↔ r = (σ, some (.int x)) := r_iret d194_17 rfl rfl
theorem d194_18 : decode (mC 194) 18 = .ok (.aload_n 0, 1) := by decide +kernel
theorem x194_18 {sc : aSc} {d : Nat} {r : aRes} {x0 : Nat} {a1 : Value} {a2 : Value} {a3 : Value} {a4 : Value} {a5 : Value} {a6 : Value} {st : List Value} {σ : aS} : Rn sc d 194 18 [.ref x0, a1, a2, a3, a4, a5, a6] st σ r ↔ Rn sc d 194 19 [.ref x0, a1, a2, a3, a4, a5, a6] (.ref x0 :: st) σ r := r_aload_n d194_18 rfl
theorem d194_19 : decode (mC 194) 19 = .ok (.getfield 214, 3) := by decide +kernel
theorem x194_19 {sc : aSc} {d : Nat} {r : aRes} {L : List Value} {st : List Value} {f : Nat → Nat → Int32} {g : Nat → Nat → Int64} {h1 h2 : Nat} {o : Nat} (hK : KK[o]? = some (.inl 7)) (hR : (RR h1 h2 o 67).isSome = true) : Rn sc d 194 19 L (.ref o :: st) (cS f g h1 h2) r ↔ Rn sc d 194 22 L (.ref (rf h1 h2 o 67) :: st) (cS f g h1 h2) r := r_getR2 d194_19 (ci := 7) (k := 67) (by decide +kernel) (by decide +kernel) (fun _ => rfl) hK hR
theorem d194_22 : decode (mC 194) 22 = .ok (.iload_n 1, 1) := by decide +kernel
theorem x194_22 {sc : aSc} {d : Nat} {r : aRes} {a0 : Value} {x1 : Int32} {a2 : Value} {a3 : Value} {a4 : Value} {a5 : Value} {a6 : Value} {st : List Value} {σ : aS} : Rn sc d 194 22 [a0, .int x1, a2, a3, a4, a5, a6] st σ r ↔ Rn sc d 194 23 [a0, .int x1, a2, a3, a4, a5, a6] (.int x1 :: st) σ r := r_iload_n d194_22 rfl
theorem d194_23 : decode (mC 194) 23 = .ok (.iaload, 1) := by decide +kernel
theorem x194_23 {sc : aSc} {d : Nat} {r : aRes} {L : List Value} {st : List Value} {f : Nat → Nat → Int32} {g : Nat → Nat → Int64} {h1 h2 : Nat} {a : Nat} {i : Int32} (h17 : 17 ≤ a) (hA : isT9 .int a) (hi : inb i (aln a) = true) : Rn sc d 194 23 L (.int i :: .ref a :: st) (cS f g h1 h2) r ↔ Rn sc d 194 24 L (.int (f a i.toNatClampNeg) :: st) (cS f g h1 h2) r := r_iald d194_23 h17 hA hi
theorem d194_24 : decode (mC 194) 24 = .ok (.ifCond .lt 12, 3) := by decide +kernel
theorem x194_24 {sc : aSc} {d : Nat} {r : aRes} {L : List Value} {st : List Value} {σ : aS} {x : Int32} : Rn sc d 194 24 L (.int x :: st) σ r ↔ if x < 0 then Rn sc d 194 36 L st σ r else Rn sc d 194 27 L st σ r := r_if_lt d194_24 rfl
theorem d194_27 : decode (mC 194) 27 = .ok (.aload_n 0, 1) := by decide +kernel
theorem x194_27 {sc : aSc} {d : Nat} {r : aRes} {x0 : Nat} {a1 : Value} {a2 : Value} {a3 : Value} {a4 : Value} {a5 : Value} {a6 : Value} {st : List Value} {σ : aS} : Rn sc d 194 27 [.ref x0, a1, a2, a3, a4, a5, a6] st σ r ↔ Rn sc d 194 28 [.ref x0, a1, a2, a3, a4, a5, a6] (.ref x0 :: st) σ r := r_aload_n d194_27 rfl
theorem d194_28 : decode (mC 194) 28 = .ok (.getfield 214, 3) := by decide +kernel
theorem x194_28 {sc : aSc} {d : Nat} {r : aRes} {L : List Value} {st : List Value} {f : Nat → Nat → Int32} {g : Nat → Nat → Int64} {h1 h2 : Nat} {o : Nat} (hK : KK[o]? = some (.inl 7)) (hR : (RR h1 h2 o 67).isSome = true) : Rn sc d 194 28 L (.ref o :: st) (cS f g h1 h2) r ↔ Rn sc d 194 31 L (.ref (rf h1 h2 o 67) :: st) (cS f g h1 h2) r := r_getR2 d194_28 (ci := 7) (k := 67) (by decide +kernel) (by decide +kernel) (fun _ => rfl) hK hR
theorem d194_31 : decode (mC 194) 31 = .ok (.iload_n 3, 1) := by decide +kernel
theorem x194_31 {sc : aSc} {d : Nat} {r : aRes} {a0 : Value} {a1 : Value} {a2 : Value} {x3 : Int32} {a4 : Value} {a5 : Value} {a6 : Value} {st : List Value} {σ : aS} : Rn sc d 194 31 [a0, a1, a2, .int x3, a4, a5, a6] st σ r ↔ Rn sc d 194 32 [a0, a1, a2, .int x3, a4, a5, a6] (.int x3 :: st) σ r := r_iload_n d194_31 rfl
theorem d194_32 : decode (mC 194) 32 = .ok (.iaload, 1) := by decide +kernel
theorem x194_32 {sc : aSc} {d : Nat} {r : aRes} {L : List Value} {st : List Value} {f : Nat → Nat → Int32} {g : Nat → Nat → Int64} {h1 h2 : Nat} {a : Nat} {i : Int32} (h17 : 17 ≤ a) (hA : isT9 .int a) (hi : inb i (aln a) = true) : Rn sc d 194 32 L (.int i :: .ref a :: st) (cS f g h1 h2) r ↔ Rn sc d 194 33 L (.int (f a i.toNatClampNeg) :: st) (cS f g h1 h2) r := r_iald d194_32 h17 hA hi
theorem d194_33 : decode (mC 194) 33 = .ok (.ifCond .ge 6, 3) := by decide +kernel
theorem x194_33 {sc : aSc} {d : Nat} {r : aRes} {L : List Value} {st : List Value} {σ : aS} {x : Int32} : Rn sc d 194 33 L (.int x :: st) σ r ↔ if x < 0 then Rn sc d 194 36 L st σ r else Rn sc d 194 39 L st σ r := r_if_ge d194_33 rfl
theorem d194_36 : decode (mC 194) 36 = .ok (.bipush (-11), 2) := by decide +kernel
theorem x194_36 {sc : aSc} {d : Nat} {r : aRes} {L : List Value} {st : List Value} {σ : aS} : Rn sc d 194 36 L st σ r ↔ Rn sc d 194 38 L (.int (-11) :: st) σ r := r_bipush d194_36 (by decide)
theorem d194_38 : decode (mC 194) 38 = .ok (.ireturn, 1) := by decide +kernel
theorem x194_38 {sc : aSc} {d : Nat} {r : aRes} {L : List Value} {σ : aS} {x : Int32} : Rn sc d 194 38 L [.int x] σ r ↔ r = (σ, some (.int x)) := r_iret d194_38 rfl rfl
theorem d194_39 : decode (mC 194) 39 = .ok (.aload_n 0, 1) := by decide +kernel
theorem x194_39 {sc : aSc} {d : Nat} {r : aRes} {x0 : Nat} {a1 : Value} {a2 : Value} {a3 : Value} {a4 : Value} {a5 : Value} {a6 : Value} {st : List Value} {σ : aS} : Rn sc d 194 39 [.ref x0, a1, a2, a3, a4, a5, a6] st σ r ↔ Rn sc d 194 40 [.ref x0, a1, a2, a3, a4, a5, a6] (.ref x0 :: st) σ r := r_aload_n d194_39 rfl
theorem d194_40 : decode (mC 194) 40 = .ok (.getfield 214, 3) := by decide +kernel
theorem x194_40 {sc : aSc} {d : Nat} {r : aRes} {L : List Value} {st : List Value} {f : Nat → Nat → Int32} {g : Nat → Nat → Int64} {h1 h2 : Nat} {o : Nat} (hK : KK[o]? = some (.inl 7)) (hR : (RR h1 h2 o 67).isSome = true) : Rn sc d 194 40 L (.ref o :: st) (cS f g h1 h2) r ↔ Rn sc d 194 43 L (.ref (rf h1 h2 o 67) :: st) (cS f g h1 h2) r := r_getR2 d194_40 (ci := 7) (k := 67) (by decide +kernel) (by decide +kernel) (fun _ => rfl) hK hR
theorem d194_43 : decode (mC 194) 43 = .ok (.iload_n 1, 1) := by decide +kernel
theorem x194_43 {sc : aSc} {d : Nat} {r : aRes} {a0 : Value} {x1 : Int32} {a2 : Value} {a3 : Value} {a4 : Value} {a5 : Value} {a6 : Value} {st : List Value} {σ : aS} : Rn sc d 194 43 [a0, .int x1, a2, a3, a4, a5, a6] st σ r ↔ Rn sc d 194 44 [a0, .int x1, a2, a3, a4, a5, a6] (.int x1 :: st) σ r := r_iload_n d194_43 rfl
theorem d194_44 : decode (mC 194) 44 = .ok (.iaload, 1) := by decide +kernel
theorem x194_44 {sc : aSc} {d : Nat} {r : aRes} {L : List Value} {st : List Value} {f : Nat → Nat → Int32} {g : Nat → Nat → Int64} {h1 h2 : Nat} {a : Nat} {i : Int32} (h17 : 17 ≤ a) (hA : isT9 .int a) (hi : inb i (aln a) = true) : Rn sc d 194 44 L (.int i :: .ref a :: st) (cS f g h1 h2) r ↔ Rn sc d 194 45 L (.int (f a i.toNatClampNeg) :: st) (cS f g h1 h2) r := r_iald d194_44 h17 hA hi
theorem d194_45 : decode (mC 194) 45 = .ok (.aload_n 0, 1) := by decide +kernel
theorem x194_45 {sc : aSc} {d : Nat} {r : aRes} {x0 : Nat} {a1 : Value} {a2 : Value} {a3 : Value} {a4 : Value} {a5 : Value} {a6 : Value} {st : List Value} {σ : aS} : Rn sc d 194 45 [.ref x0, a1, a2, a3, a4, a5, a6] st σ r ↔ Rn sc d 194 46 [.ref x0, a1, a2, a3, a4, a5, a6] (.ref x0 :: st) σ r := r_aload_n d194_45 rfl
theorem d194_46 : decode (mC 194) 46 = .ok (.getfield 214, 3) := by decide +kernel
theorem x194_46 {sc : aSc} {d : Nat} {r : aRes} {L : List Value} {st : List Value} {f : Nat → Nat → Int32} {g : Nat → Nat → Int64} {h1 h2 : Nat} {o : Nat} (hK : KK[o]? = some (.inl 7)) (hR : (RR h1 h2 o 67).isSome = true) : Rn sc d 194 46 L (.ref o :: st) (cS f g h1 h2) r ↔ Rn sc d 194 49 L (.ref (rf h1 h2 o 67) :: st) (cS f g h1 h2) r := r_getR2 d194_46 (ci := 7) (k := 67) (by decide +kernel) (by decide +kernel) (fun _ => rfl) hK hR
theorem d194_49 : decode (mC 194) 49 = .ok (.iload_n 3, 1) := by decide +kernel
theorem x194_49 {sc : aSc} {d : Nat} {r : aRes} {a0 : Value} {a1 : Value} {a2 : Value} {x3 : Int32} {a4 : Value} {a5 : Value} {a6 : Value} {st : List Value} {σ : aS} : Rn sc d 194 49 [a0, a1, a2, .int x3, a4, a5, a6] st σ r ↔ Rn sc d 194 50 [a0, a1, a2, .int x3, a4, a5, a6] (.int x3 :: st) σ r := r_iload_n d194_49 rfl
theorem d194_50 : decode (mC 194) 50 = .ok (.iaload, 1) := by decide +kernel
theorem x194_50 {sc : aSc} {d : Nat} {r : aRes} {L : List Value} {st : List Value} {f : Nat → Nat → Int32} {g : Nat → Nat → Int64} {h1 h2 : Nat} {a : Nat} {i : Int32} (h17 : 17 ≤ a) (hA : isT9 .int a) (hi : inb i (aln a) = true) : Rn sc d 194 50 L (.int i :: .ref a :: st) (cS f g h1 h2) r ↔ Rn sc d 194 51 L (.int (f a i.toNatClampNeg) :: st) (cS f g h1 h2) r := r_iald d194_50 h17 hA hi
theorem d194_51 : decode (mC 194) 51 = .ok (.if_icmp .eq 6, 3) := by decide +kernel
theorem x194_51 {sc : aSc} {d : Nat} {r : aRes} {L : List Value} {st : List Value} {σ : aS} {x y : Int32} : Rn sc d 194 51 L (.int y :: .int x :: st) σ r ↔ if x = y then Rn sc d 194 57 L st σ r else Rn sc d 194 54 L st σ r := r_icmp_eq d194_51 rfl
theorem d194_54 : decode (mC 194) 54 = .ok (.bipush (-12), 2) := by decide +kernel
theorem x194_54 {sc : aSc} {d : Nat} {r : aRes} {L : List Value} {st : List Value} {σ : aS} : Rn sc d 194 54 L st σ r ↔ Rn sc d 194 56 L (.int (-12) :: st) σ r := r_bipush d194_54 (by decide)
theorem d194_56 : decode (mC 194) 56 = .ok (.ireturn, 1) := by decide +kernel
theorem x194_56 {sc : aSc} {d : Nat} {r : aRes} {L : List Value} {σ : aS} {x : Int32} : Rn sc d 194 56 L [.int x] σ r ↔ r = (σ, some (.int x)) := r_iret d194_56 rfl rfl
theorem d194_57 : decode (mC 194) 57 = .ok (.iload 5, 2) := by decide +kernel
theorem x194_57 {sc : aSc} {d : Nat} {r : aRes} {a0 : Value} {a1 : Value} {a2 : Value} {a3 : Value} {a4 : Value} {x5 : Int32} {a6 : Value} {st : List Value} {σ : aS} : Rn sc d 194 57 [a0, a1, a2, a3, a4, .int x5, a6] st σ r ↔ Rn sc d 194 59 [a0, a1, a2, a3, a4, .int x5, a6] (.int x5 :: st) σ r := r_iload d194_57 rfl
theorem d194_59 : decode (mC 194) 59 = .ok (.ifCond .lt 39, 3) := by decide +kernel
theorem x194_59 {sc : aSc} {d : Nat} {r : aRes} {L : List Value} {st : List Value} {σ : aS} {x : Int32} : Rn sc d 194 59 L (.int x :: st) σ r ↔ if x < 0 then Rn sc d 194 98 L st σ r else Rn sc d 194 62 L st σ r := r_if_lt d194_59 rfl
theorem d194_62 : decode (mC 194) 62 = .ok (.iload_n 2, 1) := by decide +kernel
theorem x194_62 {sc : aSc} {d : Nat} {r : aRes} {a0 : Value} {a1 : Value} {x2 : Int32} {a3 : Value} {a4 : Value} {a5 : Value} {a6 : Value} {st : List Value} {σ : aS} : Rn sc d 194 62 [a0, a1, .int x2, a3, a4, a5, a6] st σ r ↔ Rn sc d 194 63 [a0, a1, .int x2, a3, a4, a5, a6] (.int x2 :: st) σ r := r_iload_n d194_62 rfl
theorem d194_63 : decode (mC 194) 63 = .ok (.ifCond .lt 35, 3) := by decide +kernel
theorem x194_63 {sc : aSc} {d : Nat} {r : aRes} {L : List Value} {st : List Value} {σ : aS} {x : Int32} : Rn sc d 194 63 L (.int x :: st) σ r ↔ if x < 0 then Rn sc d 194 98 L st σ r else Rn sc d 194 66 L st σ r := r_if_lt d194_63 rfl
theorem d194_66 : decode (mC 194) 66 = .ok (.iload 4, 2) := by decide +kernel
theorem x194_66 {sc : aSc} {d : Nat} {r : aRes} {a0 : Value} {a1 : Value} {a2 : Value} {a3 : Value} {x4 : Int32} {a5 : Value} {a6 : Value} {st : List Value} {σ : aS} : Rn sc d 194 66 [a0, a1, a2, a3, .int x4, a5, a6] st σ r ↔ Rn sc d 194 68 [a0, a1, a2, a3, .int x4, a5, a6] (.int x4 :: st) σ r := r_iload d194_66 rfl
theorem d194_68 : decode (mC 194) 68 = .ok (.ifCond .lt 30, 3) := by decide +kernel
theorem x194_68 {sc : aSc} {d : Nat} {r : aRes} {L : List Value} {st : List Value} {σ : aS} {x : Int32} : Rn sc d 194 68 L (.int x :: st) σ r ↔ if x < 0 then Rn sc d 194 98 L st σ r else Rn sc d 194 71 L st σ r := r_if_lt d194_68 rfl
theorem d194_71 : decode (mC 194) 71 = .ok (.iload_n 2, 1) := by decide +kernel
theorem x194_71 {sc : aSc} {d : Nat} {r : aRes} {a0 : Value} {a1 : Value} {x2 : Int32} {a3 : Value} {a4 : Value} {a5 : Value} {a6 : Value} {st : List Value} {σ : aS} : Rn sc d 194 71 [a0, a1, .int x2, a3, a4, a5, a6] st σ r ↔ Rn sc d 194 72 [a0, a1, .int x2, a3, a4, a5, a6] (.int x2 :: st) σ r := r_iload_n d194_71 rfl
theorem d194_72 : decode (mC 194) 72 = .ok (.aload_n 0, 1) := by decide +kernel
theorem x194_72 {sc : aSc} {d : Nat} {r : aRes} {x0 : Nat} {a1 : Value} {a2 : Value} {a3 : Value} {a4 : Value} {a5 : Value} {a6 : Value} {st : List Value} {σ : aS} : Rn sc d 194 72 [.ref x0, a1, a2, a3, a4, a5, a6] st σ r ↔ Rn sc d 194 73 [.ref x0, a1, a2, a3, a4, a5, a6] (.ref x0 :: st) σ r := r_aload_n d194_72 rfl
theorem d194_73 : decode (mC 194) 73 = .ok (.getfield 217, 3) := by decide +kernel
theorem x194_73 {sc : aSc} {d : Nat} {r : aRes} {L : List Value} {st : List Value} {f : Nat → Nat → Int32} {g : Nat → Nat → Int64} {h1 h2 : Nat} {o : Nat} (hK : KK[o]? = some (.inl 7)) (hR : (RR h1 h2 o 68).isSome = true) : Rn sc d 194 73 L (.ref o :: st) (cS f g h1 h2) r ↔ Rn sc d 194 76 L (.ref (rf h1 h2 o 68) :: st) (cS f g h1 h2) r := r_getR2 d194_73 (ci := 7) (k := 68) (by decide +kernel) (by decide +kernel) (fun _ => rfl) hK hR
theorem d194_76 : decode (mC 194) 76 = .ok (.iload_n 1, 1) := by decide +kernel
theorem x194_76 {sc : aSc} {d : Nat} {r : aRes} {a0 : Value} {x1 : Int32} {a2 : Value} {a3 : Value} {a4 : Value} {a5 : Value} {a6 : Value} {st : List Value} {σ : aS} : Rn sc d 194 76 [a0, .int x1, a2, a3, a4, a5, a6] st σ r ↔ Rn sc d 194 77 [a0, .int x1, a2, a3, a4, a5, a6] (.int x1 :: st) σ r := r_iload_n d194_76 rfl
theorem d194_77 : decode (mC 194) 77 = .ok (.iaload, 1) := by decide +kernel
theorem x194_77 {sc : aSc} {d : Nat} {r : aRes} {L : List Value} {st : List Value} {f : Nat → Nat → Int32} {g : Nat → Nat → Int64} {h1 h2 : Nat} {a : Nat} {i : Int32} (h17 : 17 ≤ a) (hA : isT9 .int a) (hi : inb i (aln a) = true) : Rn sc d 194 77 L (.int i :: .ref a :: st) (cS f g h1 h2) r ↔ Rn sc d 194 78 L (.int (f a i.toNatClampNeg) :: st) (cS f g h1 h2) r := r_iald d194_77 h17 hA hi
theorem d194_78 : decode (mC 194) 78 = .ok (.iload 5, 2) := by decide +kernel
theorem x194_78 {sc : aSc} {d : Nat} {r : aRes} {a0 : Value} {a1 : Value} {a2 : Value} {a3 : Value} {a4 : Value} {x5 : Int32} {a6 : Value} {st : List Value} {σ : aS} : Rn sc d 194 78 [a0, a1, a2, a3, a4, .int x5, a6] st σ r ↔ Rn sc d 194 80 [a0, a1, a2, a3, a4, .int x5, a6] (.int x5 :: st) σ r := r_iload d194_78 rfl
theorem d194_80 : decode (mC 194) 80 = .ok (.isub, 1) := by decide +kernel
theorem x194_80 {sc : aSc} {d : Nat} {r : aRes} {L : List Value} {st : List Value} {σ : aS} {x y : Int32} : Rn sc d 194 80 L (.int y :: .int x :: st) σ r ↔ Rn sc d 194 81 L (.int (x - y) :: st) σ r := r_isub d194_80
theorem d194_81 : decode (mC 194) 81 = .ok (.if_icmp .gt 17, 3) := by decide +kernel
theorem x194_81 {sc : aSc} {d : Nat} {r : aRes} {L : List Value} {st : List Value} {σ : aS} {x y : Int32} : Rn sc d 194 81 L (.int y :: .int x :: st) σ r ↔ if y < x then Rn sc d 194 98 L st σ r else Rn sc d 194 84 L st σ r := r_icmp_gt d194_81 rfl
theorem d194_84 : decode (mC 194) 84 = .ok (.iload 4, 2) := by decide +kernel
theorem x194_84 {sc : aSc} {d : Nat} {r : aRes} {a0 : Value} {a1 : Value} {a2 : Value} {a3 : Value} {x4 : Int32} {a5 : Value} {a6 : Value} {st : List Value} {σ : aS} : Rn sc d 194 84 [a0, a1, a2, a3, .int x4, a5, a6] st σ r ↔ Rn sc d 194 86 [a0, a1, a2, a3, .int x4, a5, a6] (.int x4 :: st) σ r := r_iload d194_84 rfl
theorem d194_86 : decode (mC 194) 86 = .ok (.aload_n 0, 1) := by decide +kernel
theorem x194_86 {sc : aSc} {d : Nat} {r : aRes} {x0 : Nat} {a1 : Value} {a2 : Value} {a3 : Value} {a4 : Value} {a5 : Value} {a6 : Value} {st : List Value} {σ : aS} : Rn sc d 194 86 [.ref x0, a1, a2, a3, a4, a5, a6] st σ r ↔ Rn sc d 194 87 [.ref x0, a1, a2, a3, a4, a5, a6] (.ref x0 :: st) σ r := r_aload_n d194_86 rfl
theorem d194_87 : decode (mC 194) 87 = .ok (.getfield 217, 3) := by decide +kernel
theorem x194_87 {sc : aSc} {d : Nat} {r : aRes} {L : List Value} {st : List Value} {f : Nat → Nat → Int32} {g : Nat → Nat → Int64} {h1 h2 : Nat} {o : Nat} (hK : KK[o]? = some (.inl 7)) (hR : (RR h1 h2 o 68).isSome = true) : Rn sc d 194 87 L (.ref o :: st) (cS f g h1 h2) r ↔ Rn sc d 194 90 L (.ref (rf h1 h2 o 68) :: st) (cS f g h1 h2) r := r_getR2 d194_87 (ci := 7) (k := 68) (by decide +kernel) (by decide +kernel) (fun _ => rfl) hK hR
theorem d194_90 : decode (mC 194) 90 = .ok (.iload_n 3, 1) := by decide +kernel
theorem x194_90 {sc : aSc} {d : Nat} {r : aRes} {a0 : Value} {a1 : Value} {a2 : Value} {x3 : Int32} {a4 : Value} {a5 : Value} {a6 : Value} {st : List Value} {σ : aS} : Rn sc d 194 90 [a0, a1, a2, .int x3, a4, a5, a6] st σ r ↔ Rn sc d 194 91 [a0, a1, a2, .int x3, a4, a5, a6] (.int x3 :: st) σ r := r_iload_n d194_90 rfl
theorem d194_91 : decode (mC 194) 91 = .ok (.iaload, 1) := by decide +kernel
theorem x194_91 {sc : aSc} {d : Nat} {r : aRes} {L : List Value} {st : List Value} {f : Nat → Nat → Int32} {g : Nat → Nat → Int64} {h1 h2 : Nat} {a : Nat} {i : Int32} (h17 : 17 ≤ a) (hA : isT9 .int a) (hi : inb i (aln a) = true) : Rn sc d 194 91 L (.int i :: .ref a :: st) (cS f g h1 h2) r ↔ Rn sc d 194 92 L (.int (f a i.toNatClampNeg) :: st) (cS f g h1 h2) r := r_iald d194_91 h17 hA hi
theorem d194_92 : decode (mC 194) 92 = .ok (.iload 5, 2) := by decide +kernel
theorem x194_92 {sc : aSc} {d : Nat} {r : aRes} {a0 : Value} {a1 : Value} {a2 : Value} {a3 : Value} {a4 : Value} {x5 : Int32} {a6 : Value} {st : List Value} {σ : aS} : Rn sc d 194 92 [a0, a1, a2, a3, a4, .int x5, a6] st σ r ↔ Rn sc d 194 94 [a0, a1, a2, a3, a4, .int x5, a6] (.int x5 :: st) σ r := r_iload d194_92 rfl
theorem d194_94 : decode (mC 194) 94 = .ok (.isub, 1) := by decide +kernel
theorem x194_94 {sc : aSc} {d : Nat} {r : aRes} {L : List Value} {st : List Value} {σ : aS} {x y : Int32} : Rn sc d 194 94 L (.int y :: .int x :: st) σ r ↔ Rn sc d 194 95 L (.int (x - y) :: st) σ r := r_isub d194_94
theorem d194_95 : decode (mC 194) 95 = .ok (.if_icmp .le 6, 3) := by decide +kernel
theorem x194_95 {sc : aSc} {d : Nat} {r : aRes} {L : List Value} {st : List Value} {σ : aS} {x y : Int32} : Rn sc d 194 95 L (.int y :: .int x :: st) σ r ↔ if y < x then Rn sc d 194 98 L st σ r else Rn sc d 194 101 L st σ r := r_icmp_le d194_95 rfl
theorem d194_98 : decode (mC 194) 98 = .ok (.bipush (-13), 2) := by decide +kernel
theorem x194_98 {sc : aSc} {d : Nat} {r : aRes} {L : List Value} {st : List Value} {σ : aS} : Rn sc d 194 98 L st σ r ↔ Rn sc d 194 100 L (.int (-13) :: st) σ r := r_bipush d194_98 (by decide)
theorem d194_100 : decode (mC 194) 100 = .ok (.ireturn, 1) := by decide +kernel
theorem x194_100 {sc : aSc} {d : Nat} {r : aRes} {L : List Value} {σ : aS} {x : Int32} : Rn sc d 194 100 L [.int x] σ r ↔ r = (σ, some (.int x)) := r_iret d194_100 rfl rfl
theorem d194_101 : decode (mC 194) 101 = .ok (.iconst 0, 1) := by decide +kernel
theorem x194_101 {sc : aSc} {d : Nat} {r : aRes} {L : List Value} {st : List Value} {σ : aS} : Rn sc d 194 101 L st σ r ↔ Rn sc d 194 102 L (.int 0 :: st) σ r := r_iconst d194_101 (by decide)
theorem d194_102 : decode (mC 194) 102 = .ok (.istore 6, 2) := by decide +kernel
theorem x194_102 {sc : aSc} {d : Nat} {r : aRes} {a0 : Value} {a1 : Value} {a2 : Value} {a3 : Value} {a4 : Value} {x5 : Int32} {a6 : Value} {st : List Value} {σ : aS} {y : Int32} : Rn sc d 194 102 [a0, a1, a2, a3, a4, .int x5, a6] (.int y :: st) σ r ↔ Rn sc d 194 104 [a0, a1, a2, a3, a4, .int x5, .int y] st σ r := r_istore d194_102 (Nat.le_of_ble_eq_true rfl) rfl
theorem d194_104 : decode (mC 194) 104 = .ok (.iload 6, 2) := by decide +kernel
theorem x194_104 {sc : aSc} {d : Nat} {r : aRes} {a0 : Value} {a1 : Value} {a2 : Value} {a3 : Value} {a4 : Value} {a5 : Value} {x6 : Int32} {st : List Value} {σ : aS} : Rn sc d 194 104 [a0, a1, a2, a3, a4, a5, .int x6] st σ r ↔ Rn sc d 194 106 [a0, a1, a2, a3, a4, a5, .int x6] (.int x6 :: st) σ r := r_iload d194_104 rfl
theorem d194_106 : decode (mC 194) 106 = .ok (.iload 5, 2) := by decide +kernel
theorem x194_106 {sc : aSc} {d : Nat} {r : aRes} {a0 : Value} {a1 : Value} {a2 : Value} {a3 : Value} {a4 : Value} {x5 : Int32} {a6 : Value} {st : List Value} {σ : aS} : Rn sc d 194 106 [a0, a1, a2, a3, a4, .int x5, a6] st σ r ↔ Rn sc d 194 108 [a0, a1, a2, a3, a4, .int x5, a6] (.int x5 :: st) σ r := r_iload d194_106 rfl
theorem d194_108 : decode (mC 194) 108 = .ok (.if_icmp .ge 30, 3) := by decide +kernel
theorem x194_108 {sc : aSc} {d : Nat} {r : aRes} {L : List Value} {st : List Value} {σ : aS} {x y : Int32} : Rn sc d 194 108 L (.int y :: .int x :: st) σ r ↔ if x < y then Rn sc d 194 111 L st σ r else Rn sc d 194 138 L st σ r := r_icmp_ge d194_108 rfl
theorem d194_111 : decode (mC 194) 111 = .ok (.aload_n 0, 1) := by decide +kernel
theorem x194_111 {sc : aSc} {d : Nat} {r : aRes} {x0 : Nat} {a1 : Value} {a2 : Value} {a3 : Value} {a4 : Value} {a5 : Value} {a6 : Value} {st : List Value} {σ : aS} : Rn sc d 194 111 [.ref x0, a1, a2, a3, a4, a5, a6] st σ r ↔ Rn sc d 194 112 [.ref x0, a1, a2, a3, a4, a5, a6] (.ref x0 :: st) σ r := r_aload_n d194_111 rfl
theorem d194_112 : decode (mC 194) 112 = .ok (.getfield 224, 3) := by decide +kernel
theorem x194_112 {sc : aSc} {d : Nat} {r : aRes} {L : List Value} {st : List Value} {f : Nat → Nat → Int32} {g : Nat → Nat → Int64} {h1 h2 : Nat} {o : Nat} (hK : KK[o]? = some (.inl 7)) (hR : (RR h1 h2 o 70).isSome = true) : Rn sc d 194 112 L (.ref o :: st) (cS f g h1 h2) r ↔ Rn sc d 194 115 L (.ref (rf h1 h2 o 70) :: st) (cS f g h1 h2) r := r_getR2 d194_112 (ci := 7) (k := 70) (by decide +kernel) (by decide +kernel) (fun _ => rfl) hK hR
theorem d194_115 : decode (mC 194) 115 = .ok (.iload 6, 2) := by decide +kernel
theorem x194_115 {sc : aSc} {d : Nat} {r : aRes} {a0 : Value} {a1 : Value} {a2 : Value} {a3 : Value} {a4 : Value} {a5 : Value} {x6 : Int32} {st : List Value} {σ : aS} : Rn sc d 194 115 [a0, a1, a2, a3, a4, a5, .int x6] st σ r ↔ Rn sc d 194 117 [a0, a1, a2, a3, a4, a5, .int x6] (.int x6 :: st) σ r := r_iload d194_115 rfl
theorem d194_117 : decode (mC 194) 117 = .ok (.aload_n 0, 1) := by decide +kernel
theorem x194_117 {sc : aSc} {d : Nat} {r : aRes} {x0 : Nat} {a1 : Value} {a2 : Value} {a3 : Value} {a4 : Value} {a5 : Value} {a6 : Value} {st : List Value} {σ : aS} : Rn sc d 194 117 [.ref x0, a1, a2, a3, a4, a5, a6] st σ r ↔ Rn sc d 194 118 [.ref x0, a1, a2, a3, a4, a5, a6] (.ref x0 :: st) σ r := r_aload_n d194_117 rfl
theorem d194_118 : decode (mC 194) 118 = .ok (.getfield 220, 3) := by decide +kernel
theorem x194_118 {sc : aSc} {d : Nat} {r : aRes} {L : List Value} {st : List Value} {f : Nat → Nat → Int32} {g : Nat → Nat → Int64} {h1 h2 : Nat} {o : Nat} (hK : KK[o]? = some (.inl 7)) (hR : (RR h1 h2 o 69).isSome = true) : Rn sc d 194 118 L (.ref o :: st) (cS f g h1 h2) r ↔ Rn sc d 194 121 L (.ref (rf h1 h2 o 69) :: st) (cS f g h1 h2) r := r_getR2 d194_118 (ci := 7) (k := 69) (by decide +kernel) (by decide +kernel) (fun _ => rfl) hK hR
theorem d194_121 : decode (mC 194) 121 = .ok (.bipush 60, 2) := by decide +kernel
theorem x194_121 {sc : aSc} {d : Nat} {r : aRes} {L : List Value} {st : List Value} {σ : aS} : Rn sc d 194 121 L st σ r ↔ Rn sc d 194 123 L (.int 60 :: st) σ r := r_bipush d194_121 (by decide)
theorem d194_123 : decode (mC 194) 123 = .ok (.iload_n 1, 1) := by decide +kernel
theorem x194_123 {sc : aSc} {d : Nat} {r : aRes} {a0 : Value} {x1 : Int32} {a2 : Value} {a3 : Value} {a4 : Value} {a5 : Value} {a6 : Value} {st : List Value} {σ : aS} : Rn sc d 194 123 [a0, .int x1, a2, a3, a4, a5, a6] st σ r ↔ Rn sc d 194 124 [a0, .int x1, a2, a3, a4, a5, a6] (.int x1 :: st) σ r := r_iload_n d194_123 rfl
theorem d194_124 : decode (mC 194) 124 = .ok (.imul, 1) := by decide +kernel
theorem x194_124 {sc : aSc} {d : Nat} {r : aRes} {L : List Value} {st : List Value} {σ : aS} {x y : Int32} : Rn sc d 194 124 L (.int y :: .int x :: st) σ r ↔ Rn sc d 194 125 L (.int (x * y) :: st) σ r := r_imul d194_124
theorem d194_125 : decode (mC 194) 125 = .ok (.iload_n 2, 1) := by decide +kernel
theorem x194_125 {sc : aSc} {d : Nat} {r : aRes} {a0 : Value} {a1 : Value} {x2 : Int32} {a3 : Value} {a4 : Value} {a5 : Value} {a6 : Value} {st : List Value} {σ : aS} : Rn sc d 194 125 [a0, a1, .int x2, a3, a4, a5, a6] st σ r ↔ Rn sc d 194 126 [a0, a1, .int x2, a3, a4, a5, a6] (.int x2 :: st) σ r := r_iload_n d194_125 rfl
theorem d194_126 : decode (mC 194) 126 = .ok (.iadd, 1) := by decide +kernel
theorem x194_126 {sc : aSc} {d : Nat} {r : aRes} {L : List Value} {st : List Value} {σ : aS} {x y : Int32} : Rn sc d 194 126 L (.int y :: .int x :: st) σ r ↔ Rn sc d 194 127 L (.int (x + y) :: st) σ r := r_iadd d194_126
theorem d194_127 : decode (mC 194) 127 = .ok (.iload 6, 2) := by decide +kernel
theorem x194_127 {sc : aSc} {d : Nat} {r : aRes} {a0 : Value} {a1 : Value} {a2 : Value} {a3 : Value} {a4 : Value} {a5 : Value} {x6 : Int32} {st : List Value} {σ : aS} : Rn sc d 194 127 [a0, a1, a2, a3, a4, a5, .int x6] st σ r ↔ Rn sc d 194 129 [a0, a1, a2, a3, a4, a5, .int x6] (.int x6 :: st) σ r := r_iload d194_127 rfl
theorem d194_129 : decode (mC 194) 129 = .ok (.iadd, 1) := by decide +kernel
theorem x194_129 {sc : aSc} {d : Nat} {r : aRes} {L : List Value} {st : List Value} {σ : aS} {x y : Int32} : Rn sc d 194 129 L (.int y :: .int x :: st) σ r ↔ Rn sc d 194 130 L (.int (x + y) :: st) σ r := r_iadd d194_129
theorem d194_130 : decode (mC 194) 130 = .ok (.laload, 1) := by decide +kernel
theorem x194_130 {sc : aSc} {d : Nat} {r : aRes} {L : List Value} {st : List Value} {f : Nat → Nat → Int32} {g : Nat → Nat → Int64} {h1 h2 : Nat} {a : Nat} {i : Int32} (h17 : 17 ≤ a) (hA : isT9 .long a) (hi : inb i (aln a) = true) : Rn sc d 194 130 L (.int i :: .ref a :: st) (cS f g h1 h2) r ↔ Rn sc d 194 131 L (.long (g a i.toNatClampNeg) :: st) (cS f g h1 h2) r := r_lald d194_130 h17 hA hi
theorem d194_131 : decode (mC 194) 131 = .ok (.lastore, 1) := by decide +kernel
theorem x194_131 {sc : aSc} {d : Nat} {r : aRes} {L : List Value} {st : List Value} {f : Nat → Nat → Int32} {g : Nat → Nat → Int64} {h1 h2 : Nat} {a : Nat} {i : Int32} {x : Int64} (h17 : 17 ≤ a) (hA : isT9 .long a) (hi : inb i (aln a) = true) : Rn sc d 194 131 L (.long x :: .int i :: .ref a :: st) (cS f g h1 h2) r ↔ Rn sc d 194 132 L st (cS f (u2 g a i.toNatClampNeg x) h1 h2) r := r_last d194_131 h17 hA hi
theorem d194_132 : decode (mC 194) 132 = .ok (.iinc 6 1, 3) := by decide +kernel
theorem x194_132 {sc : aSc} {d : Nat} {r : aRes} {a0 : Value} {a1 : Value} {a2 : Value} {a3 : Value} {a4 : Value} {x5 : Int32} {x6 : Int32} {st : List Value} {σ : aS} : Rn sc d 194 132 [a0, a1, a2, a3, a4, .int x5, .int x6] st σ r ↔ Rn sc d 194 135 [a0, a1, a2, a3, a4, .int x5, .int (x6 + 1)] st σ r := r_iinc d194_132 (Nat.le_of_ble_eq_true rfl) rfl rfl (by decide)
theorem d194_135 : decode (mC 194) 135 = .ok (.goto (-31), 3) := by decide +kernel
theorem x194_135 {sc : aSc} {d : Nat} {r : aRes} {L : List Value} {st : List Value} {σ : aS} : Rn sc d 194 135 L st σ r ↔ Rn sc d 194 104 L st σ r := r_goto d194_135 rfl
theorem d194_138 : decode (mC 194) 138 = .ok (.iconst 0, 1) := by decide +kernel
theorem x194_138 {sc : aSc} {d : Nat} {r : aRes} {L : List Value} {st : List Value} {σ : aS} : Rn sc d 194 138 L st σ r ↔ Rn sc d 194 139 L (.int 0 :: st) σ r := r_iconst d194_138 (by decide)
theorem d194_139 : decode (mC 194) 139 = .ok (.istore 6, 2) := by decide +kernel
theorem x194_139 {sc : aSc} {d : Nat} {r : aRes} {a0 : Value} {a1 : Value} {a2 : Value} {a3 : Value} {a4 : Value} {x5 : Int32} {a6 : Value} {st : List Value} {σ : aS} {y : Int32} : Rn sc d 194 139 [a0, a1, a2, a3, a4, .int x5, a6] (.int y :: st) σ r ↔ Rn sc d 194 141 [a0, a1, a2, a3, a4, .int x5, .int y] st σ r := r_istore d194_139 (Nat.le_of_ble_eq_true rfl) rfl
theorem d194_141 : decode (mC 194) 141 = .ok (.iload 6, 2) := by decide +kernel
theorem x194_141 {sc : aSc} {d : Nat} {r : aRes} {a0 : Value} {a1 : Value} {a2 : Value} {a3 : Value} {a4 : Value} {a5 : Value} {x6 : Int32} {st : List Value} {σ : aS} : Rn sc d 194 141 [a0, a1, a2, a3, a4, a5, .int x6] st σ r ↔ Rn sc d 194 143 [a0, a1, a2, a3, a4, a5, .int x6] (.int x6 :: st) σ r := r_iload d194_141 rfl
theorem d194_143 : decode (mC 194) 143 = .ok (.iload 5, 2) := by decide +kernel
theorem x194_143 {sc : aSc} {d : Nat} {r : aRes} {a0 : Value} {a1 : Value} {a2 : Value} {a3 : Value} {a4 : Value} {x5 : Int32} {a6 : Value} {st : List Value} {σ : aS} : Rn sc d 194 143 [a0, a1, a2, a3, a4, .int x5, a6] st σ r ↔ Rn sc d 194 145 [a0, a1, a2, a3, a4, .int x5, a6] (.int x5 :: st) σ r := r_iload d194_143 rfl
theorem d194_145 : decode (mC 194) 145 = .ok (.if_icmp .ge 31, 3) := by decide +kernel
theorem x194_145 {sc : aSc} {d : Nat} {r : aRes} {L : List Value} {st : List Value} {σ : aS} {x y : Int32} : Rn sc d 194 145 L (.int y :: .int x :: st) σ r ↔ if x < y then Rn sc d 194 148 L st σ r else Rn sc d 194 176 L st σ r := r_icmp_ge d194_145 rfl
theorem d194_148 : decode (mC 194) 148 = .ok (.aload_n 0, 1) := by decide +kernel
theorem x194_148 {sc : aSc} {d : Nat} {r : aRes} {x0 : Nat} {a1 : Value} {a2 : Value} {a3 : Value} {a4 : Value} {a5 : Value} {a6 : Value} {st : List Value} {σ : aS} : Rn sc d 194 148 [.ref x0, a1, a2, a3, a4, a5, a6] st σ r ↔ Rn sc d 194 149 [.ref x0, a1, a2, a3, a4, a5, a6] (.ref x0 :: st) σ r := r_aload_n d194_148 rfl
theorem d194_149 : decode (mC 194) 149 = .ok (.getfield 220, 3) := by decide +kernel
theorem x194_149 {sc : aSc} {d : Nat} {r : aRes} {L : List Value} {st : List Value} {f : Nat → Nat → Int32} {g : Nat → Nat → Int64} {h1 h2 : Nat} {o : Nat} (hK : KK[o]? = some (.inl 7)) (hR : (RR h1 h2 o 69).isSome = true) : Rn sc d 194 149 L (.ref o :: st) (cS f g h1 h2) r ↔ Rn sc d 194 152 L (.ref (rf h1 h2 o 69) :: st) (cS f g h1 h2) r := r_getR2 d194_149 (ci := 7) (k := 69) (by decide +kernel) (by decide +kernel) (fun _ => rfl) hK hR
theorem d194_152 : decode (mC 194) 152 = .ok (.bipush 60, 2) := by decide +kernel
theorem x194_152 {sc : aSc} {d : Nat} {r : aRes} {L : List Value} {st : List Value} {σ : aS} : Rn sc d 194 152 L st σ r ↔ Rn sc d 194 154 L (.int 60 :: st) σ r := r_bipush d194_152 (by decide)
theorem d194_154 : decode (mC 194) 154 = .ok (.iload_n 3, 1) := by decide +kernel
theorem x194_154 {sc : aSc} {d : Nat} {r : aRes} {a0 : Value} {a1 : Value} {a2 : Value} {x3 : Int32} {a4 : Value} {a5 : Value} {a6 : Value} {st : List Value} {σ : aS} : Rn sc d 194 154 [a0, a1, a2, .int x3, a4, a5, a6] st σ r ↔ Rn sc d 194 155 [a0, a1, a2, .int x3, a4, a5, a6] (.int x3 :: st) σ r := r_iload_n d194_154 rfl
theorem d194_155 : decode (mC 194) 155 = .ok (.imul, 1) := by decide +kernel
theorem x194_155 {sc : aSc} {d : Nat} {r : aRes} {L : List Value} {st : List Value} {σ : aS} {x y : Int32} : Rn sc d 194 155 L (.int y :: .int x :: st) σ r ↔ Rn sc d 194 156 L (.int (x * y) :: st) σ r := r_imul d194_155
theorem d194_156 : decode (mC 194) 156 = .ok (.iload 4, 2) := by decide +kernel
theorem x194_156 {sc : aSc} {d : Nat} {r : aRes} {a0 : Value} {a1 : Value} {a2 : Value} {a3 : Value} {x4 : Int32} {a5 : Value} {a6 : Value} {st : List Value} {σ : aS} : Rn sc d 194 156 [a0, a1, a2, a3, .int x4, a5, a6] st σ r ↔ Rn sc d 194 158 [a0, a1, a2, a3, .int x4, a5, a6] (.int x4 :: st) σ r := r_iload d194_156 rfl
theorem d194_158 : decode (mC 194) 158 = .ok (.iadd, 1) := by decide +kernel
theorem x194_158 {sc : aSc} {d : Nat} {r : aRes} {L : List Value} {st : List Value} {σ : aS} {x y : Int32} : Rn sc d 194 158 L (.int y :: .int x :: st) σ r ↔ Rn sc d 194 159 L (.int (x + y) :: st) σ r := r_iadd d194_158
theorem d194_159 : decode (mC 194) 159 = .ok (.iload 6, 2) := by decide +kernel
theorem x194_159 {sc : aSc} {d : Nat} {r : aRes} {a0 : Value} {a1 : Value} {a2 : Value} {a3 : Value} {a4 : Value} {a5 : Value} {x6 : Int32} {st : List Value} {σ : aS} : Rn sc d 194 159 [a0, a1, a2, a3, a4, a5, .int x6] st σ r ↔ Rn sc d 194 161 [a0, a1, a2, a3, a4, a5, .int x6] (.int x6 :: st) σ r := r_iload d194_159 rfl
theorem d194_161 : decode (mC 194) 161 = .ok (.iadd, 1) := by decide +kernel
theorem x194_161 {sc : aSc} {d : Nat} {r : aRes} {L : List Value} {st : List Value} {σ : aS} {x y : Int32} : Rn sc d 194 161 L (.int y :: .int x :: st) σ r ↔ Rn sc d 194 162 L (.int (x + y) :: st) σ r := r_iadd d194_161
theorem d194_162 : decode (mC 194) 162 = .ok (.aload_n 0, 1) := by decide +kernel
theorem x194_162 {sc : aSc} {d : Nat} {r : aRes} {x0 : Nat} {a1 : Value} {a2 : Value} {a3 : Value} {a4 : Value} {a5 : Value} {a6 : Value} {st : List Value} {σ : aS} : Rn sc d 194 162 [.ref x0, a1, a2, a3, a4, a5, a6] st σ r ↔ Rn sc d 194 163 [.ref x0, a1, a2, a3, a4, a5, a6] (.ref x0 :: st) σ r := r_aload_n d194_162 rfl
theorem d194_163 : decode (mC 194) 163 = .ok (.getfield 224, 3) := by decide +kernel
theorem x194_163 {sc : aSc} {d : Nat} {r : aRes} {L : List Value} {st : List Value} {f : Nat → Nat → Int32} {g : Nat → Nat → Int64} {h1 h2 : Nat} {o : Nat} (hK : KK[o]? = some (.inl 7)) (hR : (RR h1 h2 o 70).isSome = true) : Rn sc d 194 163 L (.ref o :: st) (cS f g h1 h2) r ↔ Rn sc d 194 166 L (.ref (rf h1 h2 o 70) :: st) (cS f g h1 h2) r := r_getR2 d194_163 (ci := 7) (k := 70) (by decide +kernel) (by decide +kernel) (fun _ => rfl) hK hR
theorem d194_166 : decode (mC 194) 166 = .ok (.iload 6, 2) := by decide +kernel
theorem x194_166 {sc : aSc} {d : Nat} {r : aRes} {a0 : Value} {a1 : Value} {a2 : Value} {a3 : Value} {a4 : Value} {a5 : Value} {x6 : Int32} {st : List Value} {σ : aS} : Rn sc d 194 166 [a0, a1, a2, a3, a4, a5, .int x6] st σ r ↔ Rn sc d 194 168 [a0, a1, a2, a3, a4, a5, .int x6] (.int x6 :: st) σ r := r_iload d194_166 rfl
theorem d194_168 : decode (mC 194) 168 = .ok (.laload, 1) := by decide +kernel
theorem x194_168 {sc : aSc} {d : Nat} {r : aRes} {L : List Value} {st : List Value} {f : Nat → Nat → Int32} {g : Nat → Nat → Int64} {h1 h2 : Nat} {a : Nat} {i : Int32} (h17 : 17 ≤ a) (hA : isT9 .long a) (hi : inb i (aln a) = true) : Rn sc d 194 168 L (.int i :: .ref a :: st) (cS f g h1 h2) r ↔ Rn sc d 194 169 L (.long (g a i.toNatClampNeg) :: st) (cS f g h1 h2) r := r_lald d194_168 h17 hA hi
theorem d194_169 : decode (mC 194) 169 = .ok (.lastore, 1) := by decide +kernel
theorem x194_169 {sc : aSc} {d : Nat} {r : aRes} {L : List Value} {st : List Value} {f : Nat → Nat → Int32} {g : Nat → Nat → Int64} {h1 h2 : Nat} {a : Nat} {i : Int32} {x : Int64} (h17 : 17 ≤ a) (hA : isT9 .long a) (hi : inb i (aln a) = true) : Rn sc d 194 169 L (.long x :: .int i :: .ref a :: st) (cS f g h1 h2) r ↔ Rn sc d 194 170 L st (cS f (u2 g a i.toNatClampNeg x) h1 h2) r := r_last d194_169 h17 hA hi
theorem d194_170 : decode (mC 194) 170 = .ok (.iinc 6 1, 3) := by decide +kernel
theorem x194_170 {sc : aSc} {d : Nat} {r : aRes} {a0 : Value} {a1 : Value} {a2 : Value} {a3 : Value} {a4 : Value} {x5 : Int32} {x6 : Int32} {st : List Value} {σ : aS} : Rn sc d 194 170 [a0, a1, a2, a3, a4, .int x5, .int x6] st σ r ↔ Rn sc d 194 173 [a0, a1, a2, a3, a4, .int x5, .int (x6 + 1)] st σ r := r_iinc d194_170 (Nat.le_of_ble_eq_true rfl) rfl rfl (by decide)
theorem d194_173 : decode (mC 194) 173 = .ok (.goto (-32), 3) := by decide +kernel
theorem x194_173 {sc : aSc} {d : Nat} {r : aRes} {L : List Value} {st : List Value} {σ : aS} : Rn sc d 194 173 L st σ r ↔ Rn sc d 194 141 L st σ r := r_goto d194_173 rfl
theorem d194_176 : decode (mC 194) 176 = .ok (.iload 5, 2) := by decide +kernel
theorem x194_176 {sc : aSc} {d : Nat} {r : aRes} {a0 : Value} {a1 : Value} {a2 : Value} {a3 : Value} {a4 : Value} {x5 : Int32} {a6 : Value} {st : List Value} {σ : aS} : Rn sc d 194 176 [a0, a1, a2, a3, a4, .int x5, a6] st σ r ↔ Rn sc d 194 178 [a0, a1, a2, a3, a4, .int x5, a6] (.int x5 :: st) σ r := r_iload d194_176 rfl
theorem d194_178 : decode (mC 194) 178 = .ok (.ireturn, 1) := by decide +kernel
theorem x194_178 {sc : aSc} {d : Nat} {r : aRes} {L : List Value} {σ : aS} {x : Int32} : Rn sc d 194 178 L [.int x] σ r ↔ r = (σ, some (.int x)) := r_iret d194_178 rfl rfl
theorem d195_0 : decode (mC 195) 0 = .ok (.aload_n 0, 1) := by decide +kernel
theorem x195_0 {sc : aSc} {d : Nat} {r : aRes} {x0 : Nat} {st : List Value} {σ : aS} : Rn sc d 195 0 [.ref x0] st σ r ↔ Rn sc d 195 1 [.ref x0] (.ref x0 :: st) σ r := r_aload_n d195_0 rfl
theorem d195_1 : decode (mC 195) 1 = .ok (.getfield 9, 3) := by decide +kernel
theorem x195_1 {sc : aSc} {d : Nat} {r : aRes} {L : List Value} {st : List Value} {f : Nat → Nat → Int32} {g : Nat → Nat → Int64} {h1 h2 : Nat} {q : Nat} (h5 : 5 ≤ q) (h11 : q < 11) (hK : KK[q]? = some (.inl 8)) : Rn sc d 195 1 L (.ref q :: st) (cS f g h1 h2) r ↔ Rn sc d 195 4 L (.ref (q + 6) :: st) (cS f g h1 h2) r := r_getS0 d195_1 (by decide +kernel) h5 h11 hK
theorem d195_4 : decode (mC 195) 4 = .ok (.arraylength, 1) := by decide +kernel
theorem x195_4 {sc : aSc} {d : Nat} {r : aRes} {L : List Value} {st : List Value} {f : Nat → Nat → Int32} {g : Nat → Nat → Int64} {h1 h2 : Nat} {a : Nat} (h0 : ¬ a = 0) (hA : isA a) : Rn sc d 195 4 L (.ref a :: st) (cS f g h1 h2) r ↔ Rn sc d 195 5 L (.int (nI (aln a)) :: st) (cS f g h1 h2) r := r_alen2 d195_4 h0 hA
theorem d195_5 : decode (mC 195) 5 = .ok (.aload_n 0, 1) := by decide +kernel
theorem x195_5 {sc : aSc} {d : Nat} {r : aRes} {x0 : Nat} {st : List Value} {σ : aS} : Rn sc d 195 5 [.ref x0] st σ r ↔ Rn sc d 195 6 [.ref x0] (.ref x0 :: st) σ r := r_aload_n d195_5 rfl
theorem d195_6 : decode (mC 195) 6 = .ok (.invokevirtual 335, 3) := by decide +kernel
theorem x195_6 {sc : aSc} {d : Nat} {r : aRes} {L : List Value} {f : Nat → Nat → Int32} {g : Nat → Nat → Int64} {h1 h2 : Nat}  {z0 : Int32} {o : Nat} (hK : KK[o]? = some (.inl 8)) : Rn sc d 195 6 L [.ref o, .int z0] (cS f g h1 h2) r ↔ ∃ (σ3 : aS) (v : Option Value), Cl sc d 199 [.ref o] (cS f g h1 h2) (σ3, v) ∧ Rn sc d 195 9 L (v.toList ++ [.int z0]) σ3 r := r_callV (vs := []) d195_6 (j := 199) (by decide +kernel) ⟨rfl, by decide, rfl, rfl⟩ (Nat.le_of_ble_eq_true rfl) hK
theorem d195_9 : decode (mC 195) 9 = .ok (.ishr, 1) := by decide +kernel
theorem x195_9 {sc : aSc} {d : Nat} {r : aRes} {L : List Value} {st : List Value} {σ : aS} {x y : Int32} : Rn sc d 195 9 L (.int y :: .int x :: st) σ r ↔ Rn sc d 195 10 L (.int (x >>> (y &&& 31)) :: st) σ r := r_ishr d195_9
theorem d195_10 : decode (mC 195) 10 = .ok (.ireturn, 1) := by decide +kernel
theorem x195_10 {sc : aSc} {d : Nat} {r : aRes} {L : List Value} {σ : aS} {x : Int32} : Rn sc d 195 10 L [.int x] σ r ↔ r = (σ, some (.int x)) := r_iret d195_10 rfl rfl
theorem d196_0 : decode (mC 196) 0 = .ok (.aload_n 0, 1) := by decide +kernel
theorem x196_0 {sc : aSc} {d : Nat} {r : aRes} {x0 : Nat} {a1 : Value} {st : List Value} {σ : aS} : Rn sc d 196 0 [.ref x0, a1] st σ r ↔ Rn sc d 196 1 [.ref x0, a1] (.ref x0 :: st) σ r := r_aload_n d196_0 rfl
theorem d196_1 : decode (mC 196) 1 = .ok (.invokevirtual 492, 3) := by decide +kernel
theorem x196_1 {sc : aSc} {d : Nat} {r : aRes} {L : List Value} {f : Nat → Nat → Int32} {g : Nat → Nat → Int64} {h1 h2 : Nat}   {o : Nat} (hK : KK[o]? = some (.inl 8)) : Rn sc d 196 1 L [.ref o] (cS f g h1 h2) r ↔ ∃ (σ3 : aS) (v : Option Value), Cl sc d 200 [.ref o] (cS f g h1 h2) (σ3, v) ∧ Rn sc d 196 4 L (v.toList ++ []) σ3 r := r_callV (vs := []) d196_1 (j := 200) (by decide +kernel) ⟨rfl, by decide, rfl, rfl⟩ (Nat.le_of_ble_eq_true rfl) hK
theorem d196_4 : decode (mC 196) 4 = .ok (.ifCond .eq 12, 3) := by decide +kernel
theorem x196_4 {sc : aSc} {d : Nat} {r : aRes} {L : List Value} {st : List Value} {σ : aS} {x : Int32} : Rn sc d 196 4 L (.int x :: st) σ r ↔ if x = 0 then Rn sc d 196 16 L st σ r else Rn sc d 196 7 L st σ r := r_if_eq d196_4 rfl
theorem d196_7 : decode (mC 196) 7 = .ok (.aload_n 0, 1) := by decide +kernel
theorem x196_7 {sc : aSc} {d : Nat} {r : aRes} {x0 : Nat} {a1 : Value} {st : List Value} {σ : aS} : Rn sc d 196 7 [.ref x0, a1] st σ r ↔ Rn sc d 196 8 [.ref x0, a1] (.ref x0 :: st) σ r := r_aload_n d196_7 rfl
theorem d196_8 : decode (mC 196) 8 = .ok (.getfield 9, 3) := by decide +kernel
theorem x196_8 {sc : aSc} {d : Nat} {r : aRes} {L : List Value} {st : List Value} {f : Nat → Nat → Int32} {g : Nat → Nat → Int64} {h1 h2 : Nat} {q : Nat} (h5 : 5 ≤ q) (h11 : q < 11) (hK : KK[q]? = some (.inl 8)) : Rn sc d 196 8 L (.ref q :: st) (cS f g h1 h2) r ↔ Rn sc d 196 11 L (.ref (q + 6) :: st) (cS f g h1 h2) r := r_getS0 d196_8 (by decide +kernel) h5 h11 hK
theorem d196_11 : decode (mC 196) 11 = .ok (.iload_n 1, 1) := by decide +kernel
theorem x196_11 {sc : aSc} {d : Nat} {r : aRes} {a0 : Value} {x1 : Int32} {st : List Value} {σ : aS} : Rn sc d 196 11 [a0, .int x1] st σ r ↔ Rn sc d 196 12 [a0, .int x1] (.int x1 :: st) σ r := r_iload_n d196_11 rfl
theorem d196_12 : decode (mC 196) 12 = .ok (.invokestatic 495, 3) := by decide +kernel
theorem x196_12 {sc : aSc} {d : Nat} {r : aRes} {L : List Value} {σ : aS} {y0 : Int32} {y1 : Nat}  : Rn sc d 196 12 L [.int y0, .ref y1] σ r ↔ ∃ (σ3 : aS) (v : Option Value), Cl sc d 202 [.ref y1, .int y0] σ (σ3, v) ∧ Rn sc d 196 15 L (v.toList ++ []) σ3 r := r_callS (vs := [.int y0, .ref y1]) d196_12 (by decide +kernel) (j := 202) (by decide +kernel) ⟨rfl, by decide, rfl, rfl⟩ (Nat.le_of_ble_eq_true rfl)
theorem d196_15 : decode (mC 196) 15 = .ok (.ireturn, 1) := by decide +kernel
theorem x196_15 {sc : aSc} {d : Nat} {r : aRes} {L : List Value} {σ : aS} {x : Int32} (hn : x.toUInt32.toUInt16.toUInt32.toInt32 = x) : Rn sc d 196 15 L [.int x] σ r ↔ r = (σ, some (.int x)) := r_iret d196_15 rfl (congrArg Value.int hn)
theorem d196_16 : decode (mC 196) 16 = .ok (.aload_n 0, 1) := by decide +kernel
theorem x196_16 {sc : aSc} {d : Nat} {r : aRes} {x0 : Nat} {a1 : Value} {st : List Value} {σ : aS} : Rn sc d 196 16 [.ref x0, a1] st σ r ↔ Rn sc d 196 17 [.ref x0, a1] (.ref x0 :: st) σ r := r_aload_n d196_16 rfl
theorem d196_17 : decode (mC 196) 17 = .ok (.getfield 9, 3) := by decide +kernel
theorem x196_17 {sc : aSc} {d : Nat} {r : aRes} {L : List Value} {st : List Value} {f : Nat → Nat → Int32} {g : Nat → Nat → Int64} {h1 h2 : Nat} {q : Nat} (h5 : 5 ≤ q) (h11 : q < 11) (hK : KK[q]? = some (.inl 8)) : Rn sc d 196 17 L (.ref q :: st) (cS f g h1 h2) r ↔ Rn sc d 196 20 L (.ref (q + 6) :: st) (cS f g h1 h2) r := r_getS0 d196_17 (by decide +kernel) h5 h11 hK
theorem d196_20 : decode (mC 196) 20 = .ok (.iload_n 1, 1) := by decide +kernel
theorem x196_20 {sc : aSc} {d : Nat} {r : aRes} {a0 : Value} {x1 : Int32} {st : List Value} {σ : aS} : Rn sc d 196 20 [a0, .int x1] st σ r ↔ Rn sc d 196 21 [a0, .int x1] (.int x1 :: st) σ r := r_iload_n d196_20 rfl
theorem d196_21 : decode (mC 196) 21 = .ok (.invokestatic 498, 3) := by decide +kernel
theorem d197_0 : decode (mC 197) 0 = .ok (.aload_n 0, 1) := by decide +kernel
theorem x197_0 {sc : aSc} {d : Nat} {r : aRes} {x0 : Nat} {a1 : Value} {st : List Value} {σ : aS} : Rn sc d 197 0 [.ref x0, a1] st σ r ↔ Rn sc d 197 1 [.ref x0, a1] (.ref x0 :: st) σ r := r_aload_n d197_0 rfl
theorem d197_1 : decode (mC 197) 1 = .ok (.iload_n 1, 1) := by decide +kernel
theorem x197_1 {sc : aSc} {d : Nat} {r : aRes} {a0 : Value} {x1 : Int32} {st : List Value} {σ : aS} : Rn sc d 197 1 [a0, .int x1] st σ r ↔ Rn sc d 197 2 [a0, .int x1] (.int x1 :: st) σ r := r_iload_n d197_1 rfl
theorem d197_2 : decode (mC 197) 2 = .ok (.iconst 0, 1) := by decide +kernel
theorem x197_2 {sc : aSc} {d : Nat} {r : aRes} {L : List Value} {st : List Value} {σ : aS} : Rn sc d 197 2 L st σ r ↔ Rn sc d 197 3 L (.int 0 :: st) σ r := r_iconst d197_2 (by decide)
theorem d197_3 : decode (mC 197) 3 = .ok (.invokevirtual 633, 3) := by decide +kernel
theorem x197_3 {sc : aSc} {d : Nat} {r : aRes} {L : List Value} {f : Nat → Nat → Int32} {g : Nat → Nat → Int64} {h1 h2 : Nat} {y0 : Int32} {y1 : Int32}  {o : Nat} (hK : KK[o]? = some (.inl 8)) : Rn sc d 197 3 L [.int y0, .int y1, .ref o] (cS f g h1 h2) r ↔ ∃ (σ3 : aS) (v : Option Value), Cl sc d 198 [.ref o, .int y1, .int y0] (cS f g h1 h2) (σ3, v) ∧ Rn sc d 197 6 L (v.toList ++ []) σ3 r := r_callV (vs := [.int y0, .int y1]) d197_3 (j := 198) (by decide +kernel) ⟨rfl, by decide, rfl, rfl⟩ (Nat.le_of_ble_eq_true rfl) hK
theorem d197_6 : decode (mC 197) 6 = .ok (.ireturn, 1) := by decide +kernel
theorem x197_6 {sc : aSc} {d : Nat} {r : aRes} {L : List Value} {σ : aS} {x : Int32} : Rn sc d 197 6 L [.int x] σ r ↔ r = (σ, some (.int x)) := r_iret d197_6 rfl rfl
theorem d198_0 : decode (mC 198) 0 = .ok (.aload_n 0, 1) := by decide +kernel
theorem x198_0 {sc : aSc} {d : Nat} {r : aRes} {x0 : Nat} {a1 : Value} {a2 : Value} {st : List Value} {σ : aS} : Rn sc d 198 0 [.ref x0, a1, a2] st σ r ↔ Rn sc d 198 1 [.ref x0, a1, a2] (.ref x0 :: st) σ r := r_aload_n d198_0 rfl
theorem d198_1 : decode (mC 198) 1 = .ok (.invokevirtual 492, 3) := by decide +kernel
theorem x198_1 {sc : aSc} {d : Nat} {r : aRes} {L : List Value} {f : Nat → Nat → Int32} {g : Nat → Nat → Int64} {h1 h2 : Nat}   {o : Nat} (hK : KK[o]? = some (.inl 8)) : Rn sc d 198 1 L [.ref o] (cS f g h1 h2) r ↔ ∃ (σ3 : aS) (v : Option Value), Cl sc d 200 [.ref o] (cS f g h1 h2) (σ3, v) ∧ Rn sc d 198 4 L (v.toList ++ []) σ3 r := r_callV (vs := []) d198_1 (j := 200) (by decide +kernel) ⟨rfl, by decide, rfl, rfl⟩ (Nat.le_of_ble_eq_true rfl) hK
theorem d198_4 : decode (mC 198) 4 = .ok (.ifCond .eq 19, 3) := by decide +kernel
theorem x198_4 {sc : aSc} {d : Nat} {r : aRes} {L : List Value} {st : List Value} {σ : aS} {x : Int32} : Rn sc d 198 4 L (.int x :: st) σ r ↔ if x = 0 then Rn sc d 198 23 L st σ r else Rn sc d 198 7 L st σ r := r_if_eq d198_4 rfl
theorem d198_7 : decode (mC 198) 7 = .ok (.aload_n 0, 1) := by decide +kernel
theorem x198_7 {sc : aSc} {d : Nat} {r : aRes} {x0 : Nat} {a1 : Value} {a2 : Value} {st : List Value} {σ : aS} : Rn sc d 198 7 [.ref x0, a1, a2] st σ r ↔ Rn sc d 198 8 [.ref x0, a1, a2] (.ref x0 :: st) σ r := r_aload_n d198_7 rfl
theorem d198_8 : decode (mC 198) 8 = .ok (.getfield 9, 3) := by decide +kernel
theorem x198_8 {sc : aSc} {d : Nat} {r : aRes} {L : List Value} {st : List Value} {f : Nat → Nat → Int32} {g : Nat → Nat → Int64} {h1 h2 : Nat} {q : Nat} (h5 : 5 ≤ q) (h11 : q < 11) (hK : KK[q]? = some (.inl 8)) : Rn sc d 198 8 L (.ref q :: st) (cS f g h1 h2) r ↔ Rn sc d 198 11 L (.ref (q + 6) :: st) (cS f g h1 h2) r := r_getS0 d198_8 (by decide +kernel) h5 h11 hK
theorem d198_11 : decode (mC 198) 11 = .ok (.iload_n 1, 1) := by decide +kernel
theorem x198_11 {sc : aSc} {d : Nat} {r : aRes} {a0 : Value} {x1 : Int32} {a2 : Value} {st : List Value} {σ : aS} : Rn sc d 198 11 [a0, .int x1, a2] st σ r ↔ Rn sc d 198 12 [a0, .int x1, a2] (.int x1 :: st) σ r := r_iload_n d198_11 rfl
theorem d198_12 : decode (mC 198) 12 = .ok (.iload_n 2, 1) := by decide +kernel
theorem x198_12 {sc : aSc} {d : Nat} {r : aRes} {a0 : Value} {a1 : Value} {x2 : Int32} {st : List Value} {σ : aS} : Rn sc d 198 12 [a0, a1, .int x2] st σ r ↔ Rn sc d 198 13 [a0, a1, .int x2] (.int x2 :: st) σ r := r_iload_n d198_12 rfl
theorem d198_13 : decode (mC 198) 13 = .ok (.aload_n 0, 1) := by decide +kernel
theorem x198_13 {sc : aSc} {d : Nat} {r : aRes} {x0 : Nat} {a1 : Value} {a2 : Value} {st : List Value} {σ : aS} : Rn sc d 198 13 [.ref x0, a1, a2] st σ r ↔ Rn sc d 198 14 [.ref x0, a1, a2] (.ref x0 :: st) σ r := r_aload_n d198_13 rfl
theorem d198_14 : decode (mC 198) 14 = .ok (.invokevirtual 505, 3) := by decide +kernel
theorem x198_14 {sc : aSc} {d : Nat} {r : aRes} {L : List Value} {f : Nat → Nat → Int32} {g : Nat → Nat → Int64} {h1 h2 : Nat}  {z0 : Int32} {z1 : Int32} {z2 : Nat} {o : Nat} (hK : KK[o]? = some (.inl 8)) : Rn sc d 198 14 L [.ref o, .int z0, .int z1, .ref z2] (cS f g h1 h2) r ↔ ∃ (σ3 : aS) (v : Option Value), Cl sc d 195 [.ref o] (cS f g h1 h2) (σ3, v) ∧ Rn sc d 198 17 L (v.toList ++ [.int z0, .int z1, .ref z2]) σ3 r := r_callV (vs := []) d198_14 (j := 195) (by decide +kernel) ⟨rfl, by decide, rfl, rfl⟩ (Nat.le_of_ble_eq_true rfl) hK
theorem d198_17 : decode (mC 198) 17 = .ok (.invokestatic 637, 3) := by decide +kernel
theorem x198_17 {sc : aSc} {d : Nat} {r : aRes} {L : List Value} {σ : aS} {y0 : Int32} {y1 : Int32} {y2 : Int32} {y3 : Nat}  : Rn sc d 198 17 L [.int y0, .int y1, .int y2, .ref y3] σ r ↔ ∃ (σ3 : aS) (v : Option Value), Cl sc d 204 [.ref y3, .int y2, .int y1, .int y0] σ (σ3, v) ∧ Rn sc d 198 20 L (v.toList ++ []) σ3 r := r_callS (vs := [.int y0, .int y1, .int y2, .ref y3]) d198_17 (by decide +kernel) (j := 204) (by decide +kernel) ⟨rfl, by decide, rfl, rfl⟩ (Nat.le_of_ble_eq_true rfl)
theorem d198_20 : decode (mC 198) 20 = .ok (.goto 16, 3) := by decide +kernel
theorem x198_20 {sc : aSc} {d : Nat} {r : aRes} {L : List Value} {st : List Value} {σ : aS} : Rn sc d 198 20 L st σ r ↔ Rn sc d 198 36 L st σ r := r_goto d198_20 rfl
theorem d198_23 : decode (mC 198) 23 = .ok (.aload_n 0, 1) := by decide +kernel
theorem x198_23 {sc : aSc} {d : Nat} {r : aRes} {x0 : Nat} {a1 : Value} {a2 : Value} {st : List Value} {σ : aS} : Rn sc d 198 23 [.ref x0, a1, a2] st σ r ↔ Rn sc d 198 24 [.ref x0, a1, a2] (.ref x0 :: st) σ r := r_aload_n d198_23 rfl
theorem d198_24 : decode (mC 198) 24 = .ok (.getfield 9, 3) := by decide +kernel
theorem x198_24 {sc : aSc} {d : Nat} {r : aRes} {L : List Value} {st : List Value} {f : Nat → Nat → Int32} {g : Nat → Nat → Int64} {h1 h2 : Nat} {q : Nat} (h5 : 5 ≤ q) (h11 : q < 11) (hK : KK[q]? = some (.inl 8)) : Rn sc d 198 24 L (.ref q :: st) (cS f g h1 h2) r ↔ Rn sc d 198 27 L (.ref (q + 6) :: st) (cS f g h1 h2) r := r_getS0 d198_24 (by decide +kernel) h5 h11 hK
theorem d198_27 : decode (mC 198) 27 = .ok (.iload_n 1, 1) := by decide +kernel
theorem x198_27 {sc : aSc} {d : Nat} {r : aRes} {a0 : Value} {x1 : Int32} {a2 : Value} {st : List Value} {σ : aS} : Rn sc d 198 27 [a0, .int x1, a2] st σ r ↔ Rn sc d 198 28 [a0, .int x1, a2] (.int x1 :: st) σ r := r_iload_n d198_27 rfl
theorem d198_28 : decode (mC 198) 28 = .ok (.iload_n 2, 1) := by decide +kernel
theorem x198_28 {sc : aSc} {d : Nat} {r : aRes} {a0 : Value} {a1 : Value} {x2 : Int32} {st : List Value} {σ : aS} : Rn sc d 198 28 [a0, a1, .int x2] st σ r ↔ Rn sc d 198 29 [a0, a1, .int x2] (.int x2 :: st) σ r := r_iload_n d198_28 rfl
theorem d198_29 : decode (mC 198) 29 = .ok (.aload_n 0, 1) := by decide +kernel
theorem x198_29 {sc : aSc} {d : Nat} {r : aRes} {x0 : Nat} {a1 : Value} {a2 : Value} {st : List Value} {σ : aS} : Rn sc d 198 29 [.ref x0, a1, a2] st σ r ↔ Rn sc d 198 30 [.ref x0, a1, a2] (.ref x0 :: st) σ r := r_aload_n d198_29 rfl
theorem d198_30 : decode (mC 198) 30 = .ok (.invokevirtual 505, 3) := by decide +kernel
theorem x198_30 {sc : aSc} {d : Nat} {r : aRes} {L : List Value} {f : Nat → Nat → Int32} {g : Nat → Nat → Int64} {h1 h2 : Nat}  {z0 : Int32} {z1 : Int32} {z2 : Nat} {o : Nat} (hK : KK[o]? = some (.inl 8)) : Rn sc d 198 30 L [.ref o, .int z0, .int z1, .ref z2] (cS f g h1 h2) r ↔ ∃ (σ3 : aS) (v : Option Value), Cl sc d 195 [.ref o] (cS f g h1 h2) (σ3, v) ∧ Rn sc d 198 33 L (v.toList ++ [.int z0, .int z1, .ref z2]) σ3 r := r_callV (vs := []) d198_30 (j := 195) (by decide +kernel) ⟨rfl, by decide, rfl, rfl⟩ (Nat.le_of_ble_eq_true rfl) hK
theorem d198_33 : decode (mC 198) 33 = .ok (.invokestatic 640, 3) := by decide +kernel
theorem d198_36 : decode (mC 198) 36 = .ok (.ireturn, 1) := by decide +kernel
theorem x198_36 {sc : aSc} {d : Nat} {r : aRes} {L : List Value} {σ : aS} {x : Int32} : Rn sc d 198 36 L [.int x] σ r ↔ r = (σ, some (.int x)) := r_iret d198_36 rfl rfl
theorem d199_0 : decode (mC 199) 0 = .ok (.getstatic 38, 3) := by decide +kernel
theorem x199_0 {sc : aSc} {d : Nat} {r : aRes} {L : List Value} {st : List Value} {σ : aS} : Rn sc d 199 0 L st σ r ↔ Rn sc d 199 3 L (.int 1 :: st) σ r := r_getstatic d199_0 (k := 4) (by decide +kernel)
theorem d199_3 : decode (mC 199) 3 = .ok (.ifCond .eq 10, 3) := by decide +kernel
theorem x199_3 {sc : aSc} {d : Nat} {r : aRes} {L : List Value} {st : List Value} {σ : aS} {x : Int32} : Rn sc d 199 3 L (.int x :: st) σ r ↔ if x = 0 then Rn sc d 199 13 L st σ r else Rn sc d 199 6 L st σ r := r_if_eq d199_3 rfl
theorem d199_6 : decode (mC 199) 6 = .ok (.aload_n 0, 1) := by decide +kernel
theorem x199_6 {sc : aSc} {d : Nat} {r : aRes} {x0 : Nat} {st : List Value} {σ : aS} : Rn sc d 199 6 [.ref x0] st σ r ↔ Rn sc d 199 7 [.ref x0] (.ref x0 :: st) σ r := r_aload_n d199_6 rfl
theorem d199_7 : decode (mC 199) 7 = .ok (.getfield 15, 3) := by decide +kernel
theorem x199_7 {sc : aSc} {d : Nat} {r : aRes} {L : List Value} {st : List Value} {f : Nat → Nat → Int32} {g : Nat → Nat → Int64} {h1 h2 : Nat} {q : Nat} (h5 : 5 ≤ q) (h11 : q < 11) (hK : KK[q]? = some (.inl 8)) : Rn sc d 199 7 L (.ref q :: st) (cS f g h1 h2) r ↔ Rn sc d 199 10 L (.int 0 :: st) (cS f g h1 h2) r := r_getS1 d199_7 (by decide +kernel) h5 h11 hK
theorem d199_10 : decode (mC 199) 10 = .ok (.goto 4, 3) := by decide +kernel
theorem x199_10 {sc : aSc} {d : Nat} {r : aRes} {L : List Value} {st : List Value} {σ : aS} : Rn sc d 199 10 L st σ r ↔ Rn sc d 199 14 L st σ r := r_goto d199_10 rfl
theorem d199_13 : decode (mC 199) 13 = .ok (.iconst 1, 1) := by decide +kernel
theorem x199_13 {sc : aSc} {d : Nat} {r : aRes} {L : List Value} {st : List Value} {σ : aS} : Rn sc d 199 13 L st σ r ↔ Rn sc d 199 14 L (.int 1 :: st) σ r := r_iconst d199_13 (by decide)
theorem d199_14 : decode (mC 199) 14 = .ok (.ireturn, 1) := by decide +kernel
theorem x199_14 {sc : aSc} {d : Nat} {r : aRes} {L : List Value} {σ : aS} {x : Int32} (hn : x.toInt8.toInt32 = x) : Rn sc d 199 14 L [.int x] σ r ↔ r = (σ, some (.int x)) := r_iret d199_14 rfl (congrArg Value.int hn)
theorem d200_0 : decode (mC 200) 0 = .ok (.getstatic 38, 3) := by decide +kernel
theorem x200_0 {sc : aSc} {d : Nat} {r : aRes} {L : List Value} {st : List Value} {σ : aS} : Rn sc d 200 0 L st σ r ↔ Rn sc d 200 3 L (.int 1 :: st) σ r := r_getstatic d200_0 (k := 4) (by decide +kernel)
theorem d200_3 : decode (mC 200) 3 = .ok (.ifCond .eq 14, 3) := by decide +kernel
theorem x200_3 {sc : aSc} {d : Nat} {r : aRes} {L : List Value} {st : List Value} {σ : aS} {x : Int32} : Rn sc d 200 3 L (.int x :: st) σ r ↔ if x = 0 then Rn sc d 200 17 L st σ r else Rn sc d 200 6 L st σ r := r_if_eq d200_3 rfl
theorem d200_6 : decode (mC 200) 6 = .ok (.aload_n 0, 1) := by decide +kernel
theorem x200_6 {sc : aSc} {d : Nat} {r : aRes} {x0 : Nat} {st : List Value} {σ : aS} : Rn sc d 200 6 [.ref x0] st σ r ↔ Rn sc d 200 7 [.ref x0] (.ref x0 :: st) σ r := r_aload_n d200_6 rfl
theorem d200_7 : decode (mC 200) 7 = .ok (.getfield 15, 3) := by decide +kernel
theorem x200_7 {sc : aSc} {d : Nat} {r : aRes} {L : List Value} {st : List Value} {f : Nat → Nat → Int32} {g : Nat → Nat → Int64} {h1 h2 : Nat} {q : Nat} (h5 : 5 ≤ q) (h11 : q < 11) (hK : KK[q]? = some (.inl 8)) : Rn sc d 200 7 L (.ref q :: st) (cS f g h1 h2) r ↔ Rn sc d 200 10 L (.int 0 :: st) (cS f g h1 h2) r := r_getS1 d200_7 (by decide +kernel) h5 h11 hK
theorem d200_10 : decode (mC 200) 10 = .ok (.ifCond .ne 7, 3) := by decide +kernel
theorem x200_10 {sc : aSc} {d : Nat} {r : aRes} {L : List Value} {st : List Value} {σ : aS} {x : Int32} : Rn sc d 200 10 L (.int x :: st) σ r ↔ if x = 0 then Rn sc d 200 13 L st σ r else Rn sc d 200 17 L st σ r := r_if_ne d200_10 rfl
theorem d200_13 : decode (mC 200) 13 = .ok (.iconst 1, 1) := by decide +kernel
theorem x200_13 {sc : aSc} {d : Nat} {r : aRes} {L : List Value} {st : List Value} {σ : aS} : Rn sc d 200 13 L st σ r ↔ Rn sc d 200 14 L (.int 1 :: st) σ r := r_iconst d200_13 (by decide)
theorem d200_14 : decode (mC 200) 14 = .ok (.goto 4, 3) := by decide +kernel
theorem x200_14 {sc : aSc} {d : Nat} {r : aRes} {L : List Value} {st : List Value} {σ : aS} : Rn sc d 200 14 L st σ r ↔ Rn sc d 200 18 L st σ r := r_goto d200_14 rfl
theorem d200_17 : decode (mC 200) 17 = .ok (.iconst 0, 1) := by decide +kernel
theorem x200_17 {sc : aSc} {d : Nat} {r : aRes} {L : List Value} {st : List Value} {σ : aS} : Rn sc d 200 17 L st σ r ↔ Rn sc d 200 18 L (.int 0 :: st) σ r := r_iconst d200_17 (by decide)
theorem d200_18 : decode (mC 200) 18 = .ok (.ireturn, 1) := by decide +kernel
theorem x200_18 {sc : aSc} {d : Nat} {r : aRes} {L : List Value} {σ : aS} {x : Int32} (hn : x &&& 1 = x) : Rn sc d 200 18 L [.int x] σ r ↔ r = (σ, some (.int x)) := r_iret d200_18 rfl (congrArg Value.int hn)
theorem d201_0 : decode (mC 201) 0 = .ok (.iload_n 0, 1) := by decide +kernel
theorem x201_0 {sc : aSc} {d : Nat} {r : aRes} {x0 : Int32} {a1 : Value} {st : List Value} {σ : aS} : Rn sc d 201 0 [.int x0, a1] st σ r ↔ Rn sc d 201 1 [.int x0, a1] (.int x0 :: st) σ r := r_iload_n d201_0 rfl
theorem d201_1 : decode (mC 201) 1 = .ok (.iload_n 1, 1) := by decide +kernel
theorem x201_1 {sc : aSc} {d : Nat} {r : aRes} {a0 : Value} {x1 : Int32} {st : List Value} {σ : aS} : Rn sc d 201 1 [a0, .int x1] st σ r ↔ Rn sc d 201 2 [a0, .int x1] (.int x1 :: st) σ r := r_iload_n d201_1 rfl
theorem d201_2 : decode (mC 201) 2 = .ok (.getstatic 1053, 3) := by decide +kernel
theorem x201_2 {sc : aSc} {d : Nat} {r : aRes} {L : List Value} {st : List Value} {σ : aS} : Rn sc d 201 2 L st σ r ↔ Rn sc d 201 5 L (.retAddr 0 :: st) σ r := r_getstatic d201_2 (k := 5) (by decide +kernel)
theorem d201_5 : decode (mC 201) 5 = .ok (.invokestatic 1059, 3) := by decide +kernel
theorem x201_5 {sc : aSc} {d : Nat} {r : aRes} {L : List Value} {σ : aS} {y1 : Int32} {y2 : Int32}  : Rn sc d 201 5 L [.retAddr 0, .int y1, .int y2] σ r ↔ ∃ (σ3 : aS) (v : Option Value), Cl sc d 206 [.int y2, .int y1, .retAddr 0] σ (σ3, v) ∧ Rn sc d 201 8 L (v.toList ++ []) σ3 r := r_callS (vs := [.retAddr 0, .int y1, .int y2]) d201_5 (by decide +kernel) (j := 206) (by decide +kernel) ⟨rfl, by decide, rfl, rfl⟩ (Nat.le_of_ble_eq_true rfl)
theorem d201_8 : decode (mC 201) 8 = .ok (.pop, 1) := by decide +kernel
theorem x201_8 {sc : aSc} {d : Nat} {r : aRes} {L : List Value} {st : List Value} {σ : aS} {y : Int32} : Rn sc d 201 8 L (.int y :: st) σ r ↔ Rn sc d 201 9 L st σ r := r_pop d201_8 rfl
theorem d201_9 : decode (mC 201) 9 = .ok (.return_, 1) := by decide +kernel
theorem x201_9 {sc : aSc} {d : Nat} {r : aRes} {L : List Value} {σ : aS} : Rn sc d 201 9 L [] σ r ↔ r = (σ, none) := r_vret d201_9 rfl
theorem d202_0 : decode (mC 202) 0 = .ok (.iload_n 1, 1) := by decide +kernel
theorem x202_0 {sc : aSc} {d : Nat} {r : aRes} {a0 : Value} {x1 : Int32} {st : List Value} {σ : aS} : Rn sc d 202 0 [a0, .int x1] st σ r ↔ Rn sc d 202 1 [a0, .int x1] (.int x1 :: st) σ r := r_iload_n d202_0 rfl
theorem d202_1 : decode (mC 202) 1 = .ok (.aload_n 0, 1) := by decide +kernel
theorem x202_1 {sc : aSc} {d : Nat} {r : aRes} {x0 : Nat} {a1 : Value} {st : List Value} {σ : aS} : Rn sc d 202 1 [.ref x0, a1] st σ r ↔ Rn sc d 202 2 [.ref x0, a1] (.ref x0 :: st) σ r := r_aload_n d202_1 rfl
theorem d202_2 : decode (mC 202) 2 = .ok (.arraylength, 1) := by decide +kernel
theorem x202_2 {sc : aSc} {d : Nat} {r : aRes} {L : List Value} {st : List Value} {f : Nat → Nat → Int32} {g : Nat → Nat → Int64} {h1 h2 : Nat} {a : Nat} (h0 : ¬ a = 0) (hA : isA a) : Rn sc d 202 2 L (.ref a :: st) (cS f g h1 h2) r ↔ Rn sc d 202 3 L (.int (nI (aln a)) :: st) (cS f g h1 h2) r := r_alen2 d202_2 h0 hA
theorem d202_3 : decode (mC 202) 3 = .ok (.invokestatic 9, 3) := by decide +kernel
theorem x202_3 {sc : aSc} {d : Nat} {r : aRes} {L : List Value} {σ : aS} {y0 : Int32} {y1 : Int32}  : Rn sc d 202 3 L [.int y0, .int y1] σ r ↔ ∃ (σ3 : aS) (v : Option Value), Cl sc d 201 [.int y1, .int y0] σ (σ3, v) ∧ Rn sc d 202 6 L (v.toList ++ []) σ3 r := r_callS (vs := [.int y0, .int y1]) d202_3 (by decide +kernel) (j := 201) (by decide +kernel) ⟨rfl, by decide, rfl, rfl⟩ (Nat.le_of_ble_eq_true rfl)
theorem d202_6 : decode (mC 202) 6 = .ok (.aload_n 0, 1) := by decide +kernel
theorem x202_6 {sc : aSc} {d : Nat} {r : aRes} {x0 : Nat} {a1 : Value} {st : List Value} {σ : aS} : Rn sc d 202 6 [.ref x0, a1] st σ r ↔ Rn sc d 202 7 [.ref x0, a1] (.ref x0 :: st) σ r := r_aload_n d202_6 rfl
theorem d202_7 : decode (mC 202) 7 = .ok (.iload_n 1, 1) := by decide +kernel
theorem x202_7 {sc : aSc} {d : Nat} {r : aRes} {a0 : Value} {x1 : Int32} {st : List Value} {σ : aS} : Rn sc d 202 7 [a0, .int x1] st σ r ↔ Rn sc d 202 8 [a0, .int x1] (.int x1 :: st) σ r := r_iload_n d202_7 rfl
theorem d202_8 : decode (mC 202) 8 = .ok (.baload, 1) := by decide +kernel
theorem x202_8 {sc : aSc} {d : Nat} {r : aRes} {L : List Value} {st : List Value} {f : Nat → Nat → Int32} {g : Nat → Nat → Int64} {h1 h2 : Nat} {a : Nat} {i : Int32} (h0 : ¬ a = 0) (h17 : a < 17) (hA : isT9 .byte a) (hi : inb i (aln a) = true) : Rn sc d 202 8 L (.int i :: .ref a :: st) (cS f g h1 h2) r ↔ Rn sc d 202 9 L (.int (fI a i.toNatClampNeg) :: st) (cS f g h1 h2) r := r_bald0 d202_8 h0 h17 hA hi
theorem d202_9 : decode (mC 202) 9 = .ok (.sipush 255, 3) := by decide +kernel
theorem x202_9 {sc : aSc} {d : Nat} {r : aRes} {L : List Value} {st : List Value} {σ : aS} : Rn sc d 202 9 L st σ r ↔ Rn sc d 202 12 L (.int 255 :: st) σ r := r_sipush d202_9 (by decide)
theorem d202_12 : decode (mC 202) 12 = .ok (.iand, 1) := by decide +kernel
theorem x202_12 {sc : aSc} {d : Nat} {r : aRes} {L : List Value} {st : List Value} {σ : aS} {x y : Int32} : Rn sc d 202 12 L (.int y :: .int x :: st) σ r ↔ Rn sc d 202 13 L (.int (x &&& y) :: st) σ r := r_iand d202_12
theorem d202_13 : decode (mC 202) 13 = .ok (.i2c, 1) := by decide +kernel
theorem x202_13 {sc : aSc} {d : Nat} {r : aRes} {L : List Value} {st : List Value} {σ : aS} {x : Int32} : Rn sc d 202 13 L (.int x :: st) σ r ↔ Rn sc d 202 14 L (.int (x.toUInt32 % 65536).toInt32 :: st) σ r := r_i2c d202_13
theorem d202_14 : decode (mC 202) 14 = .ok (.ireturn, 1) := by decide +kernel
theorem x202_14 {sc : aSc} {d : Nat} {r : aRes} {L : List Value} {σ : aS} {x : Int32} (hn : x.toUInt32.toUInt16.toUInt32.toInt32 = x) : Rn sc d 202 14 L [.int x] σ r ↔ r = (σ, some (.int x)) := r_iret d202_14 rfl (congrArg Value.int hn)
theorem d203_0 : decode (mC 203) 0 = .ok (.iload_n 0, 1) := by decide +kernel
theorem x203_0 {sc : aSc} {d : Nat} {r : aRes} {x0 : Int32} {st : List Value} {σ : aS} : Rn sc d 203 0 [.int x0] st σ r ↔ Rn sc d 203 1 [.int x0] (.int x0 :: st) σ r := r_iload_n d203_0 rfl
theorem d203_1 : decode (mC 203) 1 = .ok (.ifCond .lt 14, 3) := by decide +kernel
theorem x203_1 {sc : aSc} {d : Nat} {r : aRes} {L : List Value} {st : List Value} {σ : aS} {x : Int32} : Rn sc d 203 1 L (.int x :: st) σ r ↔ if x < 0 then Rn sc d 203 15 L st σ r else Rn sc d 203 4 L st σ r := r_if_lt d203_1 rfl
theorem d203_4 : decode (mC 203) 4 = .ok (.iload_n 0, 1) := by decide +kernel
theorem x203_4 {sc : aSc} {d : Nat} {r : aRes} {x0 : Int32} {st : List Value} {σ : aS} : Rn sc d 203 4 [.int x0] st σ r ↔ Rn sc d 203 5 [.int x0] (.int x0 :: st) σ r := r_iload_n d203_4 rfl
theorem d203_5 : decode (mC 203) 5 = .ok (.sipush 255, 3) := by decide +kernel
theorem x203_5 {sc : aSc} {d : Nat} {r : aRes} {L : List Value} {st : List Value} {σ : aS} : Rn sc d 203 5 L st σ r ↔ Rn sc d 203 8 L (.int 255 :: st) σ r := r_sipush d203_5 (by decide)
theorem d203_8 : decode (mC 203) 8 = .ok (.if_icmp .gt 7, 3) := by decide +kernel
theorem x203_8 {sc : aSc} {d : Nat} {r : aRes} {L : List Value} {st : List Value} {σ : aS} {x y : Int32} : Rn sc d 203 8 L (.int y :: .int x :: st) σ r ↔ if y < x then Rn sc d 203 15 L st σ r else Rn sc d 203 11 L st σ r := r_icmp_gt d203_8 rfl
theorem d203_11 : decode (mC 203) 11 = .ok (.iconst 1, 1) := by decide +kernel
theorem x203_11 {sc : aSc} {d : Nat} {r : aRes} {L : List Value} {st : List Value} {σ : aS} : Rn sc d 203 11 L st σ r ↔ Rn sc d 203 12 L (.int 1 :: st) σ r := r_iconst d203_11 (by decide)
theorem d203_12 : decode (mC 203) 12 = .ok (.goto 4, 3) := by decide +kernel
theorem x203_12 {sc : aSc} {d : Nat} {r : aRes} {L : List Value} {st : List Value} {σ : aS} : Rn sc d 203 12 L st σ r ↔ Rn sc d 203 16 L st σ r := r_goto d203_12 rfl
theorem d203_15 : decode (mC 203) 15 = .ok (.iconst 0, 1) := by decide +kernel
theorem x203_15 {sc : aSc} {d : Nat} {r : aRes} {L : List Value} {st : List Value} {σ : aS} : Rn sc d 203 15 L st σ r ↔ Rn sc d 203 16 L (.int 0 :: st) σ r := r_iconst d203_15 (by decide)
theorem d203_16 : decode (mC 203) 16 = .ok (.ireturn, 1) := by decide +kernel
theorem x203_16 {sc : aSc} {d : Nat} {r : aRes} {L : List Value} {σ : aS} {x : Int32} (hn : x &&& 1 = x) : Rn sc d 203 16 L [.int x] σ r ↔ r = (σ, some (.int x)) := r_iret d203_16 rfl (congrArg Value.int hn)
theorem d204_0 : decode (mC 204) 0 = .ok (.iload_n 1, 1) := by decide +kernel
theorem x204_0 {sc : aSc} {d : Nat} {r : aRes} {a0 : Value} {x1 : Int32} {a2 : Value} {a3 : Value} {st : List Value} {σ : aS} : Rn sc d 204 0 [a0, .int x1, a2, a3] st σ r ↔ Rn sc d 204 1 [a0, .int x1, a2, a3] (.int x1 :: st) σ r := r_iload_n d204_0 rfl
theorem d204_1 : decode (mC 204) 1 = .ok (.invokestatic 88, 3) := by decide +kernel
theorem x204_1 {sc : aSc} {d : Nat} {r : aRes} {L : List Value} {σ : aS} {y0 : Int32}  : Rn sc d 204 1 L [.int y0] σ r ↔ ∃ (σ3 : aS) (v : Option Value), Cl sc d 203 [.int y0] σ (σ3, v) ∧ Rn sc d 204 4 L (v.toList ++ []) σ3 r := r_callS (vs := [.int y0]) d204_1 (by decide +kernel) (j := 203) (by decide +kernel) ⟨rfl, by decide, rfl, rfl⟩ (Nat.le_of_ble_eq_true rfl)
theorem d204_4 : decode (mC 204) 4 = .ok (.ifCond .ne 5, 3) := by decide +kernel
theorem x204_4 {sc : aSc} {d : Nat} {r : aRes} {L : List Value} {st : List Value} {σ : aS} {x : Int32} : Rn sc d 204 4 L (.int x :: st) σ r ↔ if x = 0 then Rn sc d 204 7 L st σ r else Rn sc d 204 9 L st σ r := r_if_ne d204_4 rfl
theorem d204_7 : decode (mC 204) 7 = .ok (.iconst (-1), 1) := by decide +kernel
theorem x204_7 {sc : aSc} {d : Nat} {r : aRes} {L : List Value} {st : List Value} {σ : aS} : Rn sc d 204 7 L st σ r ↔ Rn sc d 204 8 L (.int (-1) :: st) σ r := r_iconst d204_7 (by decide)
theorem d204_8 : decode (mC 204) 8 = .ok (.ireturn, 1) := by decide +kernel
theorem x204_8 {sc : aSc} {d : Nat} {r : aRes} {L : List Value} {σ : aS} {x : Int32} : Rn sc d 204 8 L [.int x] σ r ↔ r = (σ, some (.int x)) := r_iret d204_8 rfl rfl
theorem d204_9 : decode (mC 204) 9 = .ok (.iload_n 2, 1) := by decide +kernel
theorem x204_9 {sc : aSc} {d : Nat} {r : aRes} {a0 : Value} {a1 : Value} {x2 : Int32} {a3 : Value} {st : List Value} {σ : aS} : Rn sc d 204 9 [a0, a1, .int x2, a3] st σ r ↔ Rn sc d 204 10 [a0, a1, .int x2, a3] (.int x2 :: st) σ r := r_iload_n d204_9 rfl
theorem d204_10 : decode (mC 204) 10 = .ok (.iconst 0, 1) := by decide +kernel
theorem x204_10 {sc : aSc} {d : Nat} {r : aRes} {L : List Value} {st : List Value} {σ : aS} : Rn sc d 204 10 L st σ r ↔ Rn sc d 204 11 L (.int 0 :: st) σ r := r_iconst d204_10 (by decide)
theorem d204_11 : decode (mC 204) 11 = .ok (.invokestatic 92, 3) := by decide +kernel
theorem x204_11 {sc : aSc} {d : Nat} {r : aRes} {L : List Value} {σ : aS} {y0 : Int32} {y1 : Int32}  : Rn sc d 204 11 L [.int y0, .int y1] σ r ↔ ∃ (σ3 : aS) (v : Option Value), Cl sc d 207 [.int y1, .int y0] σ (σ3, v) ∧ Rn sc d 204 14 L (v.toList ++ []) σ3 r := r_callS (vs := [.int y0, .int y1]) d204_11 (by decide +kernel) (j := 207) (by decide +kernel) ⟨rfl, by decide, rfl, rfl⟩ (Nat.le_of_ble_eq_true rfl)
theorem d204_14 : decode (mC 204) 14 = .ok (.istore_n 2, 1) := by decide +kernel
theorem x204_14 {sc : aSc} {d : Nat} {r : aRes} {a0 : Value} {x1 : Int32} {a2 : Value} {a3 : Value} {st : List Value} {σ : aS} {y : Int32} : Rn sc d 204 14 [a0, .int x1, a2, a3] (.int y :: st) σ r ↔ Rn sc d 204 15 [a0, .int x1, .int y, a3] st σ r := r_istore_n d204_14 (Nat.le_of_ble_eq_true rfl) rfl
theorem d204_15 : decode (mC 204) 15 = .ok (.iload_n 3, 1) := by decide +kernel
theorem x204_15 {sc : aSc} {d : Nat} {r : aRes} {a0 : Value} {a1 : Value} {a2 : Value} {x3 : Int32} {st : List Value} {σ : aS} : Rn sc d 204 15 [a0, a1, a2, .int x3] st σ r ↔ Rn sc d 204 16 [a0, a1, a2, .int x3] (.int x3 :: st) σ r := r_iload_n d204_15 rfl
theorem d204_16 : decode (mC 204) 16 = .ok (.aload_n 0, 1) := by decide +kernel
theorem x204_16 {sc : aSc} {d : Nat} {r : aRes} {x0 : Nat} {a1 : Value} {a2 : Value} {a3 : Value} {st : List Value} {σ : aS} : Rn sc d 204 16 [.ref x0, a1, a2, a3] st σ r ↔ Rn sc d 204 17 [.ref x0, a1, a2, a3] (.ref x0 :: st) σ r := r_aload_n d204_16 rfl
theorem d204_17 : decode (mC 204) 17 = .ok (.arraylength, 1) := by decide +kernel
theorem x204_17 {sc : aSc} {d : Nat} {r : aRes} {L : List Value} {st : List Value} {f : Nat → Nat → Int32} {g : Nat → Nat → Int64} {h1 h2 : Nat} {a : Nat} (h0 : ¬ a = 0) (hA : isA a) : Rn sc d 204 17 L (.ref a :: st) (cS f g h1 h2) r ↔ Rn sc d 204 18 L (.int (nI (aln a)) :: st) (cS f g h1 h2) r := r_alen2 d204_17 h0 hA
theorem d204_18 : decode (mC 204) 18 = .ok (.invokestatic 38, 3) := by decide +kernel
theorem x204_18 {sc : aSc} {d : Nat} {r : aRes} {L : List Value} {σ : aS} {y0 : Int32} {y1 : Int32}  : Rn sc d 204 18 L [.int y0, .int y1] σ r ↔ ∃ (σ3 : aS) (v : Option Value), Cl sc d 208 [.int y1, .int y0] σ (σ3, v) ∧ Rn sc d 204 21 L (v.toList ++ []) σ3 r := r_callS (vs := [.int y0, .int y1]) d204_18 (by decide +kernel) (j := 208) (by decide +kernel) ⟨rfl, by decide, rfl, rfl⟩ (Nat.le_of_ble_eq_true rfl)
theorem d204_21 : decode (mC 204) 21 = .ok (.istore_n 3, 1) := by decide +kernel
theorem x204_21 {sc : aSc} {d : Nat} {r : aRes} {a0 : Value} {a1 : Value} {x2 : Int32} {a3 : Value} {st : List Value} {σ : aS} {y : Int32} : Rn sc d 204 21 [a0, a1, .int x2, a3] (.int y :: st) σ r ↔ Rn sc d 204 22 [a0, a1, .int x2, .int y] st σ r := r_istore_n d204_21 (Nat.le_of_ble_eq_true rfl) rfl
theorem d204_22 : decode (mC 204) 22 = .ok (.iload_n 2, 1) := by decide +kernel
theorem x204_22 {sc : aSc} {d : Nat} {r : aRes} {a0 : Value} {a1 : Value} {x2 : Int32} {a3 : Value} {st : List Value} {σ : aS} : Rn sc d 204 22 [a0, a1, .int x2, a3] st σ r ↔ Rn sc d 204 23 [a0, a1, .int x2, a3] (.int x2 :: st) σ r := r_iload_n d204_22 rfl
theorem d204_23 : decode (mC 204) 23 = .ok (.iload_n 3, 1) := by decide +kernel
theorem x204_23 {sc : aSc} {d : Nat} {r : aRes} {a0 : Value} {a1 : Value} {a2 : Value} {x3 : Int32} {st : List Value} {σ : aS} : Rn sc d 204 23 [a0, a1, a2, .int x3] st σ r ↔ Rn sc d 204 24 [a0, a1, a2, .int x3] (.int x3 :: st) σ r := r_iload_n d204_23 rfl
theorem d204_24 : decode (mC 204) 24 = .ok (.if_icmp .lt 5, 3) := by decide +kernel
theorem x204_24 {sc : aSc} {d : Nat} {r : aRes} {L : List Value} {st : List Value} {σ : aS} {x y : Int32} : Rn sc d 204 24 L (.int y :: .int x :: st) σ r ↔ if x < y then Rn sc d 204 29 L st σ r else Rn sc d 204 27 L st σ r := r_icmp_lt d204_24 rfl
theorem d204_27 : decode (mC 204) 27 = .ok (.iconst (-1), 1) := by decide +kernel
theorem x204_27 {sc : aSc} {d : Nat} {r : aRes} {L : List Value} {st : List Value} {σ : aS} : Rn sc d 204 27 L st σ r ↔ Rn sc d 204 28 L (.int (-1) :: st) σ r := r_iconst d204_27 (by decide)
theorem d204_28 : decode (mC 204) 28 = .ok (.ireturn, 1) := by decide +kernel
theorem x204_28 {sc : aSc} {d : Nat} {r : aRes} {L : List Value} {σ : aS} {x : Int32} : Rn sc d 204 28 L [.int x] σ r ↔ r = (σ, some (.int x)) := r_iret d204_28 rfl rfl
theorem d204_29 : decode (mC 204) 29 = .ok (.aload_n 0, 1) := by decide +kernel
theorem x204_29 {sc : aSc} {d : Nat} {r : aRes} {x0 : Nat} {a1 : Value} {a2 : Value} {a3 : Value} {st : List Value} {σ : aS} : Rn sc d 204 29 [.ref x0, a1, a2, a3] st σ r ↔ Rn sc d 204 30 [.ref x0, a1, a2, a3] (.ref x0 :: st) σ r := r_aload_n d204_29 rfl
theorem d204_30 : decode (mC 204) 30 = .ok (.iload_n 1, 1) := by decide +kernel
theorem x204_30 {sc : aSc} {d : Nat} {r : aRes} {a0 : Value} {x1 : Int32} {a2 : Value} {a3 : Value} {st : List Value} {σ : aS} : Rn sc d 204 30 [a0, .int x1, a2, a3] st σ r ↔ Rn sc d 204 31 [a0, .int x1, a2, a3] (.int x1 :: st) σ r := r_iload_n d204_30 rfl
theorem d204_31 : decode (mC 204) 31 = .ok (.iload_n 2, 1) := by decide +kernel
theorem x204_31 {sc : aSc} {d : Nat} {r : aRes} {a0 : Value} {a1 : Value} {x2 : Int32} {a3 : Value} {st : List Value} {σ : aS} : Rn sc d 204 31 [a0, a1, .int x2, a3] st σ r ↔ Rn sc d 204 32 [a0, a1, .int x2, a3] (.int x2 :: st) σ r := r_iload_n d204_31 rfl
theorem d204_32 : decode (mC 204) 32 = .ok (.iload_n 3, 1) := by decide +kernel
theorem x204_32 {sc : aSc} {d : Nat} {r : aRes} {a0 : Value} {a1 : Value} {a2 : Value} {x3 : Int32} {st : List Value} {σ : aS} : Rn sc d 204 32 [a0, a1, a2, .int x3] st σ r ↔ Rn sc d 204 33 [a0, a1, a2, .int x3] (.int x3 :: st) σ r := r_iload_n d204_32 rfl
theorem d204_33 : decode (mC 204) 33 = .ok (.invokestatic 95, 3) := by decide +kernel
theorem x204_33 {sc : aSc} {d : Nat} {r : aRes} {L : List Value} {σ : aS} {y0 : Int32} {y1 : Int32} {y2 : Int32} {y3 : Nat}  : Rn sc d 204 33 L [.int y0, .int y1, .int y2, .ref y3] σ r ↔ ∃ (σ3 : aS) (v : Option Value), Cl sc d 205 [.ref y3, .int y2, .int y1, .int y0] σ (σ3, v) ∧ Rn sc d 204 36 L (v.toList ++ []) σ3 r := r_callS (vs := [.int y0, .int y1, .int y2, .ref y3]) d204_33 (by decide +kernel) (j := 205) (by decide +kernel) ⟨rfl, by decide, rfl, rfl⟩ (Nat.le_of_ble_eq_true rfl)
theorem d204_36 : decode (mC 204) 36 = .ok (.ireturn, 1) := by decide +kernel
theorem x204_36 {sc : aSc} {d : Nat} {r : aRes} {L : List Value} {σ : aS} {x : Int32} : Rn sc d 204 36 L [.int x] σ r ↔ r = (σ, some (.int x)) := r_iret d204_36 rfl rfl
theorem d205_0 : decode (mC 205) 0 = .ok (.iload_n 1, 1) := by decide +kernel
theorem x205_0 {sc : aSc} {d : Nat} {r : aRes} {a0 : Value} {x1 : Int32} {a2 : Value} {a3 : Value} {a4 : Value} {a5 : Value} {st : List Value} {σ : aS} : Rn sc d 205 0 [a0, .int x1, a2, a3, a4, a5] st σ r ↔ Rn sc d 205 1 [a0, .int x1, a2, a3, a4, a5] (.int x1 :: st) σ r := r_iload_n d205_0 rfl
theorem d205_1 : decode (mC 205) 1 = .ok (.i2b, 1) := by decide +kernel
theorem x205_1 {sc : aSc} {d : Nat} {r : aRes} {L : List Value} {st : List Value} {σ : aS} {x : Int32} : Rn sc d 205 1 L (.int x :: st) σ r ↔ Rn sc d 205 2 L (.int x.toInt8.toInt32 :: st) σ r := r_i2b d205_1
theorem d205_2 : decode (mC 205) 2 = .ok (.istore 4, 2) := by decide +kernel
theorem x205_2 {sc : aSc} {d : Nat} {r : aRes} {a0 : Value} {a1 : Value} {a2 : Value} {x3 : Int32} {a4 : Value} {a5 : Value} {st : List Value} {σ : aS} {y : Int32} : Rn sc d 205 2 [a0, a1, a2, .int x3, a4, a5] (.int y :: st) σ r ↔ Rn sc d 205 4 [a0, a1, a2, .int x3, .int y, a5] st σ r := r_istore d205_2 (Nat.le_of_ble_eq_true rfl) rfl
theorem d205_4 : decode (mC 205) 4 = .ok (.iload_n 2, 1) := by decide +kernel
theorem x205_4 {sc : aSc} {d : Nat} {r : aRes} {a0 : Value} {a1 : Value} {x2 : Int32} {a3 : Value} {a4 : Value} {a5 : Value} {st : List Value} {σ : aS} : Rn sc d 205 4 [a0, a1, .int x2, a3, a4, a5] st σ r ↔ Rn sc d 205 5 [a0, a1, .int x2, a3, a4, a5] (.int x2 :: st) σ r := r_iload_n d205_4 rfl
theorem d205_5 : decode (mC 205) 5 = .ok (.istore 5, 2) := by decide +kernel
theorem x205_5 {sc : aSc} {d : Nat} {r : aRes} {a0 : Value} {a1 : Value} {a2 : Value} {a3 : Value} {x4 : Int32} {a5 : Value} {st : List Value} {σ : aS} {y : Int32} : Rn sc d 205 5 [a0, a1, a2, a3, .int x4, a5] (.int y :: st) σ r ↔ Rn sc d 205 7 [a0, a1, a2, a3, .int x4, .int y] st σ r := r_istore d205_5 (Nat.le_of_ble_eq_true rfl) rfl
theorem d205_7 : decode (mC 205) 7 = .ok (.iload 5, 2) := by decide +kernel
theorem x205_7 {sc : aSc} {d : Nat} {r : aRes} {a0 : Value} {a1 : Value} {a2 : Value} {a3 : Value} {a4 : Value} {x5 : Int32} {st : List Value} {σ : aS} : Rn sc d 205 7 [a0, a1, a2, a3, a4, .int x5] st σ r ↔ Rn sc d 205 9 [a0, a1, a2, a3, a4, .int x5] (.int x5 :: st) σ r := r_iload d205_7 rfl
theorem d205_9 : decode (mC 205) 9 = .ok (.iload_n 3, 1) := by decide +kernel
theorem x205_9 {sc : aSc} {d : Nat} {r : aRes} {a0 : Value} {a1 : Value} {a2 : Value} {x3 : Int32} {a4 : Value} {a5 : Value} {st : List Value} {σ : aS} : Rn sc d 205 9 [a0, a1, a2, .int x3, a4, a5] st σ r ↔ Rn sc d 205 10 [a0, a1, a2, .int x3, a4, a5] (.int x3 :: st) σ r := r_iload_n d205_9 rfl
theorem d205_10 : decode (mC 205) 10 = .ok (.if_icmp .ge 21, 3) := by decide +kernel
theorem x205_10 {sc : aSc} {d : Nat} {r : aRes} {L : List Value} {st : List Value} {σ : aS} {x y : Int32} : Rn sc d 205 10 L (.int y :: .int x :: st) σ r ↔ if x < y then Rn sc d 205 13 L st σ r else Rn sc d 205 31 L st σ r := r_icmp_ge d205_10 rfl
theorem d205_13 : decode (mC 205) 13 = .ok (.aload_n 0, 1) := by decide +kernel
theorem x205_13 {sc : aSc} {d : Nat} {r : aRes} {x0 : Nat} {a1 : Value} {a2 : Value} {a3 : Value} {a4 : Value} {a5 : Value} {st : List Value} {σ : aS} : Rn sc d 205 13 [.ref x0, a1, a2, a3, a4, a5] st σ r ↔ Rn sc d 205 14 [.ref x0, a1, a2, a3, a4, a5] (.ref x0 :: st) σ r := r_aload_n d205_13 rfl
theorem d205_14 : decode (mC 205) 14 = .ok (.iload 5, 2) := by decide +kernel
theorem x205_14 {sc : aSc} {d : Nat} {r : aRes} {a0 : Value} {a1 : Value} {a2 : Value} {a3 : Value} {a4 : Value} {x5 : Int32} {st : List Value} {σ : aS} : Rn sc d 205 14 [a0, a1, a2, a3, a4, .int x5] st σ r ↔ Rn sc d 205 16 [a0, a1, a2, a3, a4, .int x5] (.int x5 :: st) σ r := r_iload d205_14 rfl
theorem d205_16 : decode (mC 205) 16 = .ok (.baload, 1) := by decide +kernel
theorem x205_16 {sc : aSc} {d : Nat} {r : aRes} {L : List Value} {st : List Value} {f : Nat → Nat → Int32} {g : Nat → Nat → Int64} {h1 h2 : Nat} {a : Nat} {i : Int32} (h0 : ¬ a = 0) (h17 : a < 17) (hA : isT9 .byte a) (hi : inb i (aln a) = true) : Rn sc d 205 16 L (.int i :: .ref a :: st) (cS f g h1 h2) r ↔ Rn sc d 205 17 L (.int (fI a i.toNatClampNeg) :: st) (cS f g h1 h2) r := r_bald0 d205_16 h0 h17 hA hi
theorem d205_17 : decode (mC 205) 17 = .ok (.iload 4, 2) := by decide +kernel
theorem x205_17 {sc : aSc} {d : Nat} {r : aRes} {a0 : Value} {a1 : Value} {a2 : Value} {a3 : Value} {x4 : Int32} {a5 : Value} {st : List Value} {σ : aS} : Rn sc d 205 17 [a0, a1, a2, a3, .int x4, a5] st σ r ↔ Rn sc d 205 19 [a0, a1, a2, a3, .int x4, a5] (.int x4 :: st) σ r := r_iload d205_17 rfl
theorem d205_19 : decode (mC 205) 19 = .ok (.if_icmp .ne 6, 3) := by decide +kernel
theorem x205_19 {sc : aSc} {d : Nat} {r : aRes} {L : List Value} {st : List Value} {σ : aS} {x y : Int32} : Rn sc d 205 19 L (.int y :: .int x :: st) σ r ↔ if x = y then Rn sc d 205 22 L st σ r else Rn sc d 205 25 L st σ r := r_icmp_ne d205_19 rfl
theorem d205_22 : decode (mC 205) 22 = .ok (.iload 5, 2) := by decide +kernel
theorem x205_22 {sc : aSc} {d : Nat} {r : aRes} {a0 : Value} {a1 : Value} {a2 : Value} {a3 : Value} {a4 : Value} {x5 : Int32} {st : List Value} {σ : aS} : Rn sc d 205 22 [a0, a1, a2, a3, a4, .int x5] st σ r ↔ Rn sc d 205 24 [a0, a1, a2, a3, a4, .int x5] (.int x5 :: st) σ r := r_iload d205_22 rfl
theorem d205_24 : decode (mC 205) 24 = .ok (.ireturn, 1) := by decide +kernel
theorem x205_24 {sc : aSc} {d : Nat} {r : aRes} {L : List Value} {σ : aS} {x : Int32} : Rn sc d 205 24 L [.int x] σ r ↔ r = (σ, some (.int x)) := r_iret d205_24 rfl rfl
theorem d205_25 : decode (mC 205) 25 = .ok (.iinc 5 1, 3) := by decide +kernel
theorem x205_25 {sc : aSc} {d : Nat} {r : aRes} {a0 : Value} {a1 : Value} {a2 : Value} {a3 : Value} {x4 : Int32} {x5 : Int32} {st : List Value} {σ : aS} : Rn sc d 205 25 [a0, a1, a2, a3, .int x4, .int x5] st σ r ↔ Rn sc d 205 28 [a0, a1, a2, a3, .int x4, .int (x5 + 1)] st σ r := r_iinc d205_25 (Nat.le_of_ble_eq_true rfl) rfl rfl (by decide)
theorem d205_28 : decode (mC 205) 28 = .ok (.goto (-21), 3) := by decide +kernel
theorem x205_28 {sc : aSc} {d : Nat} {r : aRes} {L : List Value} {st : List Value} {σ : aS} : Rn sc d 205 28 L st σ r ↔ Rn sc d 205 7 L st σ r := r_goto d205_28 rfl
theorem d205_31 : decode (mC 205) 31 = .ok (.iconst (-1), 1) := by decide +kernel
theorem x205_31 {sc : aSc} {d : Nat} {r : aRes} {L : List Value} {st : List Value} {σ : aS} : Rn sc d 205 31 L st σ r ↔ Rn sc d 205 32 L (.int (-1) :: st) σ r := r_iconst d205_31 (by decide)
theorem d205_32 : decode (mC 205) 32 = .ok (.ireturn, 1) := by decide +kernel
theorem x205_32 {sc : aSc} {d : Nat} {r : aRes} {L : List Value} {σ : aS} {x : Int32} : Rn sc d 205 32 L [.int x] σ r ↔ r = (σ, some (.int x)) := r_iret d205_32 rfl rfl
theorem d206_0 : decode (mC 206) 0 = .ok (.iload_n 0, 1) := by decide +kernel
theorem x206_0 {sc : aSc} {d : Nat} {r : aRes} {x0 : Int32} {a1 : Value} {a2 : Value} {st : List Value} {σ : aS} : Rn sc d 206 0 [.int x0, a1, a2] st σ r ↔ Rn sc d 206 1 [.int x0, a1, a2] (.int x0 :: st) σ r := r_iload_n d206_0 rfl
theorem d206_1 : decode (mC 206) 1 = .ok (.ifCond .lt 8, 3) := by decide +kernel
theorem x206_1 {sc : aSc} {d : Nat} {r : aRes} {L : List Value} {st : List Value} {σ : aS} {x : Int32} : Rn sc d 206 1 L (.int x :: st) σ r ↔ if x < 0 then Rn sc d 206 9 L st σ r else Rn sc d 206 4 L st σ r := r_if_lt d206_1 rfl
theorem d206_4 : decode (mC 206) 4 = .ok (.iload_n 0, 1) := by decide +kernel
theorem x206_4 {sc : aSc} {d : Nat} {r : aRes} {x0 : Int32} {a1 : Value} {a2 : Value} {st : List Value} {σ : aS} : Rn sc d 206 4 [.int x0, a1, a2] st σ r ↔ Rn sc d 206 5 [.int x0, a1, a2] (.int x0 :: st) σ r := r_iload_n d206_4 rfl
theorem d206_5 : decode (mC 206) 5 = .ok (.iload_n 1, 1) := by decide +kernel
theorem x206_5 {sc : aSc} {d : Nat} {r : aRes} {a0 : Value} {x1 : Int32} {a2 : Value} {st : List Value} {σ : aS} : Rn sc d 206 5 [a0, .int x1, a2] st σ r ↔ Rn sc d 206 6 [a0, .int x1, a2] (.int x1 :: st) σ r := r_iload_n d206_5 rfl
theorem d206_6 : decode (mC 206) 6 = .ok (.if_icmp .lt 10, 3) := by decide +kernel
theorem x206_6 {sc : aSc} {d : Nat} {r : aRes} {L : List Value} {st : List Value} {σ : aS} {x y : Int32} : Rn sc d 206 6 L (.int y :: .int x :: st) σ r ↔ if x < y then Rn sc d 206 16 L st σ r else Rn sc d 206 9 L st σ r := r_icmp_lt d206_6 rfl
theorem d206_9 : decode (mC 206) 9 = .ok (.aload_n 2, 1) := by decide +kernel
theorem x206_9 {sc : aSc} {d : Nat} {r : aRes} {a0 : Value} {a1 : Value} {x2 : Nat} {st : List Value} {σ : aS} : Rn sc d 206 9 [a0, a1, .ref x2] st σ r ↔ Rn sc d 206 10 [a0, a1, .ref x2] (.ref x2 :: st) σ r := r_aload_n d206_9 rfl
theorem d206_10 : decode (mC 206) 10 = .ok (.iload_n 0, 1) := by decide +kernel
theorem x206_10 {sc : aSc} {d : Nat} {r : aRes} {x0 : Int32} {a1 : Value} {a2 : Value} {st : List Value} {σ : aS} : Rn sc d 206 10 [.int x0, a1, a2] st σ r ↔ Rn sc d 206 11 [.int x0, a1, a2] (.int x0 :: st) σ r := r_iload_n d206_10 rfl
theorem d206_11 : decode (mC 206) 11 = .ok (.iload_n 1, 1) := by decide +kernel
theorem x206_11 {sc : aSc} {d : Nat} {r : aRes} {a0 : Value} {x1 : Int32} {a2 : Value} {st : List Value} {σ : aS} : Rn sc d 206 11 [a0, .int x1, a2] st σ r ↔ Rn sc d 206 12 [a0, .int x1, a2] (.int x1 :: st) σ r := r_iload_n d206_11 rfl
theorem d206_12 : decode (mC 206) 12 = .ok (.invokestatic 95, 3) := by decide +kernel
theorem d206_16 : decode (mC 206) 16 = .ok (.iload_n 0, 1) := by decide +kernel
theorem x206_16 {sc : aSc} {d : Nat} {r : aRes} {x0 : Int32} {a1 : Value} {a2 : Value} {st : List Value} {σ : aS} : Rn sc d 206 16 [.int x0, a1, a2] st σ r ↔ Rn sc d 206 17 [.int x0, a1, a2] (.int x0 :: st) σ r := r_iload_n d206_16 rfl
theorem d206_17 : decode (mC 206) 17 = .ok (.ireturn, 1) := by decide +kernel
theorem x206_17 {sc : aSc} {d : Nat} {r : aRes} {L : List Value} {σ : aS} {x : Int32} : Rn sc d 206 17 L [.int x] σ r ↔ r = (σ, some (.int x)) := r_iret d206_17 rfl rfl
theorem d207_0 : decode (mC 207) 0 = .ok (.iload_n 0, 1) := by decide +kernel
theorem x207_0 {sc : aSc} {d : Nat} {r : aRes} {x0 : Int32} {a1 : Value} {st : List Value} {σ : aS} : Rn sc d 207 0 [.int x0, a1] st σ r ↔ Rn sc d 207 1 [.int x0, a1] (.int x0 :: st) σ r := r_iload_n d207_0 rfl
theorem d207_1 : decode (mC 207) 1 = .ok (.iload_n 1, 1) := by decide +kernel
theorem x207_1 {sc : aSc} {d : Nat} {r : aRes} {a0 : Value} {x1 : Int32} {st : List Value} {σ : aS} : Rn sc d 207 1 [a0, .int x1] st σ r ↔ Rn sc d 207 2 [a0, .int x1] (.int x1 :: st) σ r := r_iload_n d207_1 rfl
theorem d207_2 : decode (mC 207) 2 = .ok (.if_icmp .lt 7, 3) := by decide +kernel
theorem x207_2 {sc : aSc} {d : Nat} {r : aRes} {L : List Value} {st : List Value} {σ : aS} {x y : Int32} : Rn sc d 207 2 L (.int y :: .int x :: st) σ r ↔ if x < y then Rn sc d 207 9 L st σ r else Rn sc d 207 5 L st σ r := r_icmp_lt d207_2 rfl
theorem d207_5 : decode (mC 207) 5 = .ok (.iload_n 0, 1) := by decide +kernel
theorem x207_5 {sc : aSc} {d : Nat} {r : aRes} {x0 : Int32} {a1 : Value} {st : List Value} {σ : aS} : Rn sc d 207 5 [.int x0, a1] st σ r ↔ Rn sc d 207 6 [.int x0, a1] (.int x0 :: st) σ r := r_iload_n d207_5 rfl
theorem d207_6 : decode (mC 207) 6 = .ok (.goto 4, 3) := by decide +kernel
theorem x207_6 {sc : aSc} {d : Nat} {r : aRes} {L : List Value} {st : List Value} {σ : aS} : Rn sc d 207 6 L st σ r ↔ Rn sc d 207 10 L st σ r := r_goto d207_6 rfl
theorem d207_9 : decode (mC 207) 9 = .ok (.iload_n 1, 1) := by decide +kernel
theorem x207_9 {sc : aSc} {d : Nat} {r : aRes} {a0 : Value} {x1 : Int32} {st : List Value} {σ : aS} : Rn sc d 207 9 [a0, .int x1] st σ r ↔ Rn sc d 207 10 [a0, .int x1] (.int x1 :: st) σ r := r_iload_n d207_9 rfl
theorem d207_10 : decode (mC 207) 10 = .ok (.ireturn, 1) := by decide +kernel
theorem x207_10 {sc : aSc} {d : Nat} {r : aRes} {L : List Value} {σ : aS} {x : Int32} : Rn sc d 207 10 L [.int x] σ r ↔ r = (σ, some (.int x)) := r_iret d207_10 rfl rfl
theorem d208_0 : decode (mC 208) 0 = .ok (.iload_n 0, 1) := by decide +kernel
theorem x208_0 {sc : aSc} {d : Nat} {r : aRes} {x0 : Int32} {a1 : Value} {st : List Value} {σ : aS} : Rn sc d 208 0 [.int x0, a1] st σ r ↔ Rn sc d 208 1 [.int x0, a1] (.int x0 :: st) σ r := r_iload_n d208_0 rfl
theorem d208_1 : decode (mC 208) 1 = .ok (.iload_n 1, 1) := by decide +kernel
theorem x208_1 {sc : aSc} {d : Nat} {r : aRes} {a0 : Value} {x1 : Int32} {st : List Value} {σ : aS} : Rn sc d 208 1 [a0, .int x1] st σ r ↔ Rn sc d 208 2 [a0, .int x1] (.int x1 :: st) σ r := r_iload_n d208_1 rfl
theorem d208_2 : decode (mC 208) 2 = .ok (.if_icmp .gt 7, 3) := by decide +kernel
theorem x208_2 {sc : aSc} {d : Nat} {r : aRes} {L : List Value} {st : List Value} {σ : aS} {x y : Int32} : Rn sc d 208 2 L (.int y :: .int x :: st) σ r ↔ if y < x then Rn sc d 208 9 L st σ r else Rn sc d 208 5 L st σ r := r_icmp_gt d208_2 rfl
theorem d208_5 : decode (mC 208) 5 = .ok (.iload_n 0, 1) := by decide +kernel
theorem x208_5 {sc : aSc} {d : Nat} {r : aRes} {x0 : Int32} {a1 : Value} {st : List Value} {σ : aS} : Rn sc d 208 5 [.int x0, a1] st σ r ↔ Rn sc d 208 6 [.int x0, a1] (.int x0 :: st) σ r := r_iload_n d208_5 rfl
theorem d208_6 : decode (mC 208) 6 = .ok (.goto 4, 3) := by decide +kernel
theorem x208_6 {sc : aSc} {d : Nat} {r : aRes} {L : List Value} {st : List Value} {σ : aS} : Rn sc d 208 6 L st σ r ↔ Rn sc d 208 10 L st σ r := r_goto d208_6 rfl
theorem d208_9 : decode (mC 208) 9 = .ok (.iload_n 1, 1) := by decide +kernel
theorem x208_9 {sc : aSc} {d : Nat} {r : aRes} {a0 : Value} {x1 : Int32} {st : List Value} {σ : aS} : Rn sc d 208 9 [a0, .int x1] st σ r ↔ Rn sc d 208 10 [a0, .int x1] (.int x1 :: st) σ r := r_iload_n d208_9 rfl
theorem d208_10 : decode (mC 208) 10 = .ok (.ireturn, 1) := by decide +kernel
theorem x208_10 {sc : aSc} {d : Nat} {r : aRes} {L : List Value} {σ : aS} {x : Int32} : Rn sc d 208 10 L [.int x] σ r ↔ r = (σ, some (.int x)) := r_iret d208_10 rfl rfl
theorem d209_0 : decode (mC 209) 0 = .ok (.iload_n 0, 1) := by decide +kernel
theorem x209_0 {sc : aSc} {d : Nat} {r : aRes} {x0 : Int32} {st : List Value} {σ : aS} : Rn sc d 209 0 [.int x0] st σ r ↔ Rn sc d 209 1 [.int x0] (.int x0 :: st) σ r := r_iload_n d209_0 rfl
theorem d209_1 : decode (mC 209) 1 = .ok (.ifCond .ge 8, 3) := by decide +kernel
theorem x209_1 {sc : aSc} {d : Nat} {r : aRes} {L : List Value} {st : List Value} {σ : aS} {x : Int32} : Rn sc d 209 1 L (.int x :: st) σ r ↔ if x < 0 then Rn sc d 209 4 L st σ r else Rn sc d 209 9 L st σ r := r_if_ge d209_1 rfl
theorem d209_4 : decode (mC 209) 4 = .ok (.iload_n 0, 1) := by decide +kernel
theorem x209_4 {sc : aSc} {d : Nat} {r : aRes} {x0 : Int32} {st : List Value} {σ : aS} : Rn sc d 209 4 [.int x0] st σ r ↔ Rn sc d 209 5 [.int x0] (.int x0 :: st) σ r := r_iload_n d209_4 rfl
theorem d209_5 : decode (mC 209) 5 = .ok (.ineg, 1) := by decide +kernel
theorem x209_5 {sc : aSc} {d : Nat} {r : aRes} {L : List Value} {st : List Value} {σ : aS} {x : Int32} : Rn sc d 209 5 L (.int x :: st) σ r ↔ Rn sc d 209 6 L (.int (-x) :: st) σ r := r_ineg d209_5
theorem d209_6 : decode (mC 209) 6 = .ok (.goto 4, 3) := by decide +kernel
theorem x209_6 {sc : aSc} {d : Nat} {r : aRes} {L : List Value} {st : List Value} {σ : aS} : Rn sc d 209 6 L st σ r ↔ Rn sc d 209 10 L st σ r := r_goto d209_6 rfl
theorem d209_9 : decode (mC 209) 9 = .ok (.iload_n 0, 1) := by decide +kernel
theorem x209_9 {sc : aSc} {d : Nat} {r : aRes} {x0 : Int32} {st : List Value} {σ : aS} : Rn sc d 209 9 [.int x0] st σ r ↔ Rn sc d 209 10 [.int x0] (.int x0 :: st) σ r := r_iload_n d209_9 rfl
theorem d209_10 : decode (mC 209) 10 = .ok (.ireturn, 1) := by decide +kernel
theorem x209_10 {sc : aSc} {d : Nat} {r : aRes} {L : List Value} {σ : aS} {x : Int32} : Rn sc d 209 10 L [.int x] σ r ↔ r = (σ, some (.int x)) := r_iret d209_10 rfl rfl
theorem d210_0 : decode (mC 210) 0 = .ok (.iload_n 0, 1) := by decide +kernel
theorem x210_0 {sc : aSc} {d : Nat} {r : aRes} {x0 : Int32} {st : List Value} {σ : aS} : Rn sc d 210 0 [.int x0] st σ r ↔ Rn sc d 210 1 [.int x0] (.int x0 :: st) σ r := r_iload_n d210_0 rfl
theorem d210_1 : decode (mC 210) 1 = .ok (.iload_n 0, 1) := by decide +kernel
theorem x210_1 {sc : aSc} {d : Nat} {r : aRes} {x0 : Int32} {st : List Value} {σ : aS} : Rn sc d 210 1 [.int x0] st σ r ↔ Rn sc d 210 2 [.int x0] (.int x0 :: st) σ r := r_iload_n d210_1 rfl
theorem d210_2 : decode (mC 210) 2 = .ok (.iconst 1, 1) := by decide +kernel
theorem x210_2 {sc : aSc} {d : Nat} {r : aRes} {L : List Value} {st : List Value} {σ : aS} : Rn sc d 210 2 L st σ r ↔ Rn sc d 210 3 L (.int 1 :: st) σ r := r_iconst d210_2 (by decide)
theorem d210_3 : decode (mC 210) 3 = .ok (.iushr, 1) := by decide +kernel
theorem x210_3 {sc : aSc} {d : Nat} {r : aRes} {L : List Value} {st : List Value} {σ : aS} {x y : Int32} : Rn sc d 210 3 L (.int y :: .int x :: st) σ r ↔ Rn sc d 210 4 L (.int (x.toUInt32 >>> (y.toUInt32 &&& Int32.toUInt32 31)).toInt32 :: st) σ r := r_iushr d210_3
theorem d210_4 : decode (mC 210) 4 = .ok (.ldc_w 265, 3) := by decide +kernel
theorem x210_4 {sc : aSc} {d : Nat} {r : aRes} {L : List Value} {st : List Value} {σ : aS} : Rn sc d 210 4 L st σ r ↔ Rn sc d 210 7 L (.int (1431655765) :: st) σ r := r_ldc_w d210_4 rfl
theorem d210_7 : decode (mC 210) 7 = .ok (.iand, 1) := by decide +kernel
theorem x210_7 {sc : aSc} {d : Nat} {r : aRes} {L : List Value} {st : List Value} {σ : aS} {x y : Int32} : Rn sc d 210 7 L (.int y :: .int x :: st) σ r ↔ Rn sc d 210 8 L (.int (x &&& y) :: st) σ r := r_iand d210_7
theorem d210_8 : decode (mC 210) 8 = .ok (.isub, 1) := by decide +kernel
theorem x210_8 {sc : aSc} {d : Nat} {r : aRes} {L : List Value} {st : List Value} {σ : aS} {x y : Int32} : Rn sc d 210 8 L (.int y :: .int x :: st) σ r ↔ Rn sc d 210 9 L (.int (x - y) :: st) σ r := r_isub d210_8
theorem d210_9 : decode (mC 210) 9 = .ok (.istore_n 0, 1) := by decide +kernel
theorem x210_9 {sc : aSc} {d : Nat} {r : aRes} {a0 : Value} {st : List Value} {σ : aS} {y : Int32} : Rn sc d 210 9 [a0] (.int y :: st) σ r ↔ Rn sc d 210 10 [.int y] st σ r := r_istore_n d210_9 (Nat.le_of_ble_eq_true rfl) rfl
theorem d210_10 : decode (mC 210) 10 = .ok (.iload_n 0, 1) := by decide +kernel
theorem x210_10 {sc : aSc} {d : Nat} {r : aRes} {x0 : Int32} {st : List Value} {σ : aS} : Rn sc d 210 10 [.int x0] st σ r ↔ Rn sc d 210 11 [.int x0] (.int x0 :: st) σ r := r_iload_n d210_10 rfl
theorem d210_11 : decode (mC 210) 11 = .ok (.ldc_w 266, 3) := by decide +kernel
theorem x210_11 {sc : aSc} {d : Nat} {r : aRes} {L : List Value} {st : List Value} {σ : aS} : Rn sc d 210 11 L st σ r ↔ Rn sc d 210 14 L (.int (858993459) :: st) σ r := r_ldc_w d210_11 rfl
theorem d210_14 : decode (mC 210) 14 = .ok (.iand, 1) := by decide +kernel
theorem x210_14 {sc : aSc} {d : Nat} {r : aRes} {L : List Value} {st : List Value} {σ : aS} {x y : Int32} : Rn sc d 210 14 L (.int y :: .int x :: st) σ r ↔ Rn sc d 210 15 L (.int (x &&& y) :: st) σ r := r_iand d210_14
theorem d210_15 : decode (mC 210) 15 = .ok (.iload_n 0, 1) := by decide +kernel
theorem x210_15 {sc : aSc} {d : Nat} {r : aRes} {x0 : Int32} {st : List Value} {σ : aS} : Rn sc d 210 15 [.int x0] st σ r ↔ Rn sc d 210 16 [.int x0] (.int x0 :: st) σ r := r_iload_n d210_15 rfl
theorem d210_16 : decode (mC 210) 16 = .ok (.iconst 2, 1) := by decide +kernel
theorem x210_16 {sc : aSc} {d : Nat} {r : aRes} {L : List Value} {st : List Value} {σ : aS} : Rn sc d 210 16 L st σ r ↔ Rn sc d 210 17 L (.int 2 :: st) σ r := r_iconst d210_16 (by decide)
theorem d210_17 : decode (mC 210) 17 = .ok (.iushr, 1) := by decide +kernel
theorem x210_17 {sc : aSc} {d : Nat} {r : aRes} {L : List Value} {st : List Value} {σ : aS} {x y : Int32} : Rn sc d 210 17 L (.int y :: .int x :: st) σ r ↔ Rn sc d 210 18 L (.int (x.toUInt32 >>> (y.toUInt32 &&& Int32.toUInt32 31)).toInt32 :: st) σ r := r_iushr d210_17
theorem d210_18 : decode (mC 210) 18 = .ok (.ldc_w 266, 3) := by decide +kernel
theorem x210_18 {sc : aSc} {d : Nat} {r : aRes} {L : List Value} {st : List Value} {σ : aS} : Rn sc d 210 18 L st σ r ↔ Rn sc d 210 21 L (.int (858993459) :: st) σ r := r_ldc_w d210_18 rfl
theorem d210_21 : decode (mC 210) 21 = .ok (.iand, 1) := by decide +kernel
theorem x210_21 {sc : aSc} {d : Nat} {r : aRes} {L : List Value} {st : List Value} {σ : aS} {x y : Int32} : Rn sc d 210 21 L (.int y :: .int x :: st) σ r ↔ Rn sc d 210 22 L (.int (x &&& y) :: st) σ r := r_iand d210_21
theorem d210_22 : decode (mC 210) 22 = .ok (.iadd, 1) := by decide +kernel
theorem x210_22 {sc : aSc} {d : Nat} {r : aRes} {L : List Value} {st : List Value} {σ : aS} {x y : Int32} : Rn sc d 210 22 L (.int y :: .int x :: st) σ r ↔ Rn sc d 210 23 L (.int (x + y) :: st) σ r := r_iadd d210_22
theorem d210_23 : decode (mC 210) 23 = .ok (.istore_n 0, 1) := by decide +kernel
theorem x210_23 {sc : aSc} {d : Nat} {r : aRes} {a0 : Value} {st : List Value} {σ : aS} {y : Int32} : Rn sc d 210 23 [a0] (.int y :: st) σ r ↔ Rn sc d 210 24 [.int y] st σ r := r_istore_n d210_23 (Nat.le_of_ble_eq_true rfl) rfl
theorem d210_24 : decode (mC 210) 24 = .ok (.iload_n 0, 1) := by decide +kernel
theorem x210_24 {sc : aSc} {d : Nat} {r : aRes} {x0 : Int32} {st : List Value} {σ : aS} : Rn sc d 210 24 [.int x0] st σ r ↔ Rn sc d 210 25 [.int x0] (.int x0 :: st) σ r := r_iload_n d210_24 rfl
theorem d210_25 : decode (mC 210) 25 = .ok (.iload_n 0, 1) := by decide +kernel
theorem x210_25 {sc : aSc} {d : Nat} {r : aRes} {x0 : Int32} {st : List Value} {σ : aS} : Rn sc d 210 25 [.int x0] st σ r ↔ Rn sc d 210 26 [.int x0] (.int x0 :: st) σ r := r_iload_n d210_25 rfl
theorem d210_26 : decode (mC 210) 26 = .ok (.iconst 4, 1) := by decide +kernel
theorem x210_26 {sc : aSc} {d : Nat} {r : aRes} {L : List Value} {st : List Value} {σ : aS} : Rn sc d 210 26 L st σ r ↔ Rn sc d 210 27 L (.int 4 :: st) σ r := r_iconst d210_26 (by decide)
theorem d210_27 : decode (mC 210) 27 = .ok (.iushr, 1) := by decide +kernel
theorem x210_27 {sc : aSc} {d : Nat} {r : aRes} {L : List Value} {st : List Value} {σ : aS} {x y : Int32} : Rn sc d 210 27 L (.int y :: .int x :: st) σ r ↔ Rn sc d 210 28 L (.int (x.toUInt32 >>> (y.toUInt32 &&& Int32.toUInt32 31)).toInt32 :: st) σ r := r_iushr d210_27
theorem d210_28 : decode (mC 210) 28 = .ok (.iadd, 1) := by decide +kernel
theorem x210_28 {sc : aSc} {d : Nat} {r : aRes} {L : List Value} {st : List Value} {σ : aS} {x y : Int32} : Rn sc d 210 28 L (.int y :: .int x :: st) σ r ↔ Rn sc d 210 29 L (.int (x + y) :: st) σ r := r_iadd d210_28
theorem d210_29 : decode (mC 210) 29 = .ok (.ldc_w 267, 3) := by decide +kernel
theorem x210_29 {sc : aSc} {d : Nat} {r : aRes} {L : List Value} {st : List Value} {σ : aS} : Rn sc d 210 29 L st σ r ↔ Rn sc d 210 32 L (.int (252645135) :: st) σ r := r_ldc_w d210_29 rfl
theorem d210_32 : decode (mC 210) 32 = .ok (.iand, 1) := by decide +kernel
theorem x210_32 {sc : aSc} {d : Nat} {r : aRes} {L : List Value} {st : List Value} {σ : aS} {x y : Int32} : Rn sc d 210 32 L (.int y :: .int x :: st) σ r ↔ Rn sc d 210 33 L (.int (x &&& y) :: st) σ r := r_iand d210_32
theorem d210_33 : decode (mC 210) 33 = .ok (.istore_n 0, 1) := by decide +kernel
theorem x210_33 {sc : aSc} {d : Nat} {r : aRes} {a0 : Value} {st : List Value} {σ : aS} {y : Int32} : Rn sc d 210 33 [a0] (.int y :: st) σ r ↔ Rn sc d 210 34 [.int y] st σ r := r_istore_n d210_33 (Nat.le_of_ble_eq_true rfl) rfl
theorem d210_34 : decode (mC 210) 34 = .ok (.iload_n 0, 1) := by decide +kernel
theorem x210_34 {sc : aSc} {d : Nat} {r : aRes} {x0 : Int32} {st : List Value} {σ : aS} : Rn sc d 210 34 [.int x0] st σ r ↔ Rn sc d 210 35 [.int x0] (.int x0 :: st) σ r := r_iload_n d210_34 rfl
theorem d210_35 : decode (mC 210) 35 = .ok (.iload_n 0, 1) := by decide +kernel
theorem x210_35 {sc : aSc} {d : Nat} {r : aRes} {x0 : Int32} {st : List Value} {σ : aS} : Rn sc d 210 35 [.int x0] st σ r ↔ Rn sc d 210 36 [.int x0] (.int x0 :: st) σ r := r_iload_n d210_35 rfl
theorem d210_36 : decode (mC 210) 36 = .ok (.bipush 8, 2) := by decide +kernel
theorem x210_36 {sc : aSc} {d : Nat} {r : aRes} {L : List Value} {st : List Value} {σ : aS} : Rn sc d 210 36 L st σ r ↔ Rn sc d 210 38 L (.int 8 :: st) σ r := r_bipush d210_36 (by decide)
theorem d210_38 : decode (mC 210) 38 = .ok (.iushr, 1) := by decide +kernel
theorem x210_38 {sc : aSc} {d : Nat} {r : aRes} {L : List Value} {st : List Value} {σ : aS} {x y : Int32} : Rn sc d 210 38 L (.int y :: .int x :: st) σ r ↔ Rn sc d 210 39 L (.int (x.toUInt32 >>> (y.toUInt32 &&& Int32.toUInt32 31)).toInt32 :: st) σ r := r_iushr d210_38
theorem d210_39 : decode (mC 210) 39 = .ok (.iadd, 1) := by decide +kernel
theorem x210_39 {sc : aSc} {d : Nat} {r : aRes} {L : List Value} {st : List Value} {σ : aS} {x y : Int32} : Rn sc d 210 39 L (.int y :: .int x :: st) σ r ↔ Rn sc d 210 40 L (.int (x + y) :: st) σ r := r_iadd d210_39
theorem d210_40 : decode (mC 210) 40 = .ok (.istore_n 0, 1) := by decide +kernel
theorem x210_40 {sc : aSc} {d : Nat} {r : aRes} {a0 : Value} {st : List Value} {σ : aS} {y : Int32} : Rn sc d 210 40 [a0] (.int y :: st) σ r ↔ Rn sc d 210 41 [.int y] st σ r := r_istore_n d210_40 (Nat.le_of_ble_eq_true rfl) rfl
theorem d210_41 : decode (mC 210) 41 = .ok (.iload_n 0, 1) := by decide +kernel
theorem x210_41 {sc : aSc} {d : Nat} {r : aRes} {x0 : Int32} {st : List Value} {σ : aS} : Rn sc d 210 41 [.int x0] st σ r ↔ Rn sc d 210 42 [.int x0] (.int x0 :: st) σ r := r_iload_n d210_41 rfl
theorem d210_42 : decode (mC 210) 42 = .ok (.iload_n 0, 1) := by decide +kernel
theorem x210_42 {sc : aSc} {d : Nat} {r : aRes} {x0 : Int32} {st : List Value} {σ : aS} : Rn sc d 210 42 [.int x0] st σ r ↔ Rn sc d 210 43 [.int x0] (.int x0 :: st) σ r := r_iload_n d210_42 rfl
theorem d210_43 : decode (mC 210) 43 = .ok (.bipush 16, 2) := by decide +kernel
theorem x210_43 {sc : aSc} {d : Nat} {r : aRes} {L : List Value} {st : List Value} {σ : aS} : Rn sc d 210 43 L st σ r ↔ Rn sc d 210 45 L (.int 16 :: st) σ r := r_bipush d210_43 (by decide)
theorem d210_45 : decode (mC 210) 45 = .ok (.iushr, 1) := by decide +kernel
theorem x210_45 {sc : aSc} {d : Nat} {r : aRes} {L : List Value} {st : List Value} {σ : aS} {x y : Int32} : Rn sc d 210 45 L (.int y :: .int x :: st) σ r ↔ Rn sc d 210 46 L (.int (x.toUInt32 >>> (y.toUInt32 &&& Int32.toUInt32 31)).toInt32 :: st) σ r := r_iushr d210_45
theorem d210_46 : decode (mC 210) 46 = .ok (.iadd, 1) := by decide +kernel
theorem x210_46 {sc : aSc} {d : Nat} {r : aRes} {L : List Value} {st : List Value} {σ : aS} {x y : Int32} : Rn sc d 210 46 L (.int y :: .int x :: st) σ r ↔ Rn sc d 210 47 L (.int (x + y) :: st) σ r := r_iadd d210_46
theorem d210_47 : decode (mC 210) 47 = .ok (.istore_n 0, 1) := by decide +kernel
theorem x210_47 {sc : aSc} {d : Nat} {r : aRes} {a0 : Value} {st : List Value} {σ : aS} {y : Int32} : Rn sc d 210 47 [a0] (.int y :: st) σ r ↔ Rn sc d 210 48 [.int y] st σ r := r_istore_n d210_47 (Nat.le_of_ble_eq_true rfl) rfl
theorem d210_48 : decode (mC 210) 48 = .ok (.iload_n 0, 1) := by decide +kernel
theorem x210_48 {sc : aSc} {d : Nat} {r : aRes} {x0 : Int32} {st : List Value} {σ : aS} : Rn sc d 210 48 [.int x0] st σ r ↔ Rn sc d 210 49 [.int x0] (.int x0 :: st) σ r := r_iload_n d210_48 rfl
theorem d210_49 : decode (mC 210) 49 = .ok (.bipush 63, 2) := by decide +kernel
theorem x210_49 {sc : aSc} {d : Nat} {r : aRes} {L : List Value} {st : List Value} {σ : aS} : Rn sc d 210 49 L st σ r ↔ Rn sc d 210 51 L (.int 63 :: st) σ r := r_bipush d210_49 (by decide)
theorem d210_51 : decode (mC 210) 51 = .ok (.iand, 1) := by decide +kernel
theorem x210_51 {sc : aSc} {d : Nat} {r : aRes} {L : List Value} {st : List Value} {σ : aS} {x y : Int32} : Rn sc d 210 51 L (.int y :: .int x :: st) σ r ↔ Rn sc d 210 52 L (.int (x &&& y) :: st) σ r := r_iand d210_51
theorem d210_52 : decode (mC 210) 52 = .ok (.ireturn, 1) := by decide +kernel
theorem x210_52 {sc : aSc} {d : Nat} {r : aRes} {L : List Value} {σ : aS} {x : Int32} : Rn sc d 210 52 L [.int x] σ r ↔ r = (σ, some (.int x)) := r_iret d210_52 rfl rfl
