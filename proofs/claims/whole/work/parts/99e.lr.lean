/-! a row an instruction of the law's loop (written by wip/whole/mk99e.py) -/
theorem r_scl {n : Nat} {xs : Nat → Int32} {d m pc : Nat} {L st : List Value} {σ : aS} {r : aRes} (hd : decode (mC m) pc = .ok (.arraylength, 1)) : Rn (some (n, xs)) d m pc L (.ref 0 :: st) σ r ↔ Rn (some (n, xs)) d m (pc + 1) L (.int (nI n) :: st) σ r := Rn_next (stp_of hd (by simp only [stpI, if_pos]; rfl))
theorem r_sci {n : Nat} {xs : Nat → Int32} {d m pc : Nat} {L st : List Value} {σ : aS} {r : aRes} {i : Int32} (hd : decode (mC m) pc = .ok (.iaload, 1)) (hi : inb i n = true) : Rn (some (n, xs)) d m pc L (.int i :: .ref 0 :: st) σ r ↔ Rn (some (n, xs)) d m (pc + 1) L (.int (xs i.toNatClampNeg) :: st) σ r := by
  have e : arI (some (n, xs)) σ 0 = some (n, xs) := rfl
  exact Rn_next (stp_of hd (by simp only [stpI, if_pos, e, hi]; rfl))
theorem d212_18 : decode (mC 212) 18 = .ok (.iload_n 3, 1) := by decide +kernel
theorem x212_18 {sc : aSc} {d : Nat} {r : aRes} {a0 : Value} {a1 : Value} {a2 : Value} {x3 : Int32} {st : List Value} {σ : aS} : Rn sc d 212 18 [a0, a1, a2, .int x3] st σ r ↔ Rn sc d 212 19 [a0, a1, a2, .int x3] (.int x3 :: st) σ r := r_iload_n d212_18 rfl
theorem d212_19 : decode (mC 212) 19 = .ok (.aload_n 0, 1) := by decide +kernel
theorem x212_19 {sc : aSc} {d : Nat} {r : aRes} {x0 : Nat} {a1 : Value} {a2 : Value} {a3 : Value} {st : List Value} {σ : aS} : Rn sc d 212 19 [.ref x0, a1, a2, a3] st σ r ↔ Rn sc d 212 20 [.ref x0, a1, a2, a3] (.ref x0 :: st) σ r := r_aload_n d212_19 rfl
theorem d212_20 : decode (mC 212) 20 = .ok (.arraylength, 1) := by decide +kernel
theorem d212_21 : decode (mC 212) 21 = .ok (.bipush 7, 2) := by decide +kernel
theorem x212_21 {sc : aSc} {d : Nat} {r : aRes} {L : List Value} {st : List Value} {σ : aS} : Rn sc d 212 21 L st σ r ↔ Rn sc d 212 23 L (.int 7 :: st) σ r := r_bipush d212_21 (by decide)
theorem d212_23 : decode (mC 212) 23 = .ok (.isub, 1) := by decide +kernel
theorem x212_23 {sc : aSc} {d : Nat} {r : aRes} {L : List Value} {st : List Value} {σ : aS} {x y : Int32} : Rn sc d 212 23 L (.int y :: .int x :: st) σ r ↔ Rn sc d 212 24 L (.int (x - y) :: st) σ r := r_isub d212_23
theorem d212_24 : decode (mC 212) 24 = .ok (.if_icmp .gt 1317, 3) := by decide +kernel
theorem x212_24 {sc : aSc} {d : Nat} {r : aRes} {L : List Value} {st : List Value} {σ : aS} {x y : Int32} : Rn sc d 212 24 L (.int y :: .int x :: st) σ r ↔ if y < x then Rn sc d 212 1341 L st σ r else Rn sc d 212 27 L st σ r := r_icmp_gt d212_24 rfl
theorem d212_27 : decode (mC 212) 27 = .ok (.aload_n 0, 1) := by decide +kernel
theorem x212_27 {sc : aSc} {d : Nat} {r : aRes} {x0 : Nat} {a1 : Value} {a2 : Value} {a3 : Value} {st : List Value} {σ : aS} : Rn sc d 212 27 [.ref x0, a1, a2, a3] st σ r ↔ Rn sc d 212 28 [.ref x0, a1, a2, a3] (.ref x0 :: st) σ r := r_aload_n d212_27 rfl
theorem d212_28 : decode (mC 212) 28 = .ok (.iload_n 3, 1) := by decide +kernel
theorem x212_28 {sc : aSc} {d : Nat} {r : aRes} {a0 : Value} {a1 : Value} {a2 : Value} {x3 : Int32} {st : List Value} {σ : aS} : Rn sc d 212 28 [a0, a1, a2, .int x3] st σ r ↔ Rn sc d 212 29 [a0, a1, a2, .int x3] (.int x3 :: st) σ r := r_iload_n d212_28 rfl
theorem d212_29 : decode (mC 212) 29 = .ok (.iaload, 1) := by decide +kernel
theorem d212_30 : decode (mC 212) 30 = .ok (.bipush 63, 2) := by decide +kernel
theorem x212_30 {sc : aSc} {d : Nat} {r : aRes} {L : List Value} {st : List Value} {σ : aS} : Rn sc d 212 30 L st σ r ↔ Rn sc d 212 32 L (.int 63 :: st) σ r := r_bipush d212_30 (by decide)
theorem d212_32 : decode (mC 212) 32 = .ok (.iand, 1) := by decide +kernel
theorem x212_32 {sc : aSc} {d : Nat} {r : aRes} {L : List Value} {st : List Value} {σ : aS} {x y : Int32} : Rn sc d 212 32 L (.int y :: .int x :: st) σ r ↔ Rn sc d 212 33 L (.int (x &&& y) :: st) σ r := r_iand d212_32
theorem d212_33 : decode (mC 212) 33 = .ok (.tableswitch 1302 0 35 #[159, 234, 267, 310, 353, 376, 389, 412, 445, 458, 481, 524, 557, 570, 603, 636, 659, 692, 715, 738, 771, 794, 838, 862, 895, 908, 941, 954, 967, 1010, 1033, 1066, 1089, 1132, 1205, 1239], 159) := by decide +kernel
theorem x212_33 {sc : aSc} {d : Nat} {r : aRes} {L : List Value} {st : List Value} {σ : aS} {x : Int32} : Rn sc d 212 33 L (.int x :: st) σ r ↔ (if x = 0 then Rn sc d 212 192 L st σ r else (if x = 1 then Rn sc d 212 267 L st σ r else (if x = 2 then Rn sc d 212 300 L st σ r else (if x = 3 then Rn sc d 212 343 L st σ r else (if x = 4 then Rn sc d 212 386 L st σ r else (if x = 5 then Rn sc d 212 409 L st σ r else (if x = 6 then Rn sc d 212 422 L st σ r else (if x = 7 then Rn sc d 212 445 L st σ r else (if x = 8 then Rn sc d 212 478 L st σ r else (if x = 9 then Rn sc d 212 491 L st σ r else (if x = 10 then Rn sc d 212 514 L st σ r else (if x = 11 then Rn sc d 212 557 L st σ r else (if x = 12 then Rn sc d 212 590 L st σ r else (if x = 13 then Rn sc d 212 603 L st σ r else (if x = 14 then Rn sc d 212 636 L st σ r else (if x = 15 then Rn sc d 212 669 L st σ r else (if x = 16 then Rn sc d 212 692 L st σ r else (if x = 17 then Rn sc d 212 725 L st σ r else (if x = 18 then Rn sc d 212 748 L st σ r else (if x = 19 then Rn sc d 212 771 L st σ r else (if x = 20 then Rn sc d 212 804 L st σ r else (if x = 21 then Rn sc d 212 827 L st σ r else (if x = 22 then Rn sc d 212 871 L st σ r else (if x = 23 then Rn sc d 212 895 L st σ r else (if x = 24 then Rn sc d 212 928 L st σ r else (if x = 25 then Rn sc d 212 941 L st σ r else (if x = 26 then Rn sc d 212 974 L st σ r else (if x = 27 then Rn sc d 212 987 L st σ r else (if x = 28 then Rn sc d 212 1000 L st σ r else (if x = 29 then Rn sc d 212 1043 L st σ r else (if x = 30 then Rn sc d 212 1066 L st σ r else (if x = 31 then Rn sc d 212 1099 L st σ r else (if x = 32 then Rn sc d 212 1122 L st σ r else (if x = 33 then Rn sc d 212 1165 L st σ r else (if x = 34 then Rn sc d 212 1238 L st σ r else (if x = 35 then Rn sc d 212 1272 L st σ r else Rn sc d 212 1335 L st σ r)))))))))))))))))))))))))))))))))))) := by
  by_cases c0 : x = 0
  · subst c0; simp only [if_pos]; exact r_tsw d212_33 (t := 192) rfl
  rw [if_neg c0]
  by_cases c1 : x = 1
  · subst c1; simp only [if_pos]; exact r_tsw d212_33 (t := 267) rfl
  rw [if_neg c1]
  by_cases c2 : x = 2
  · subst c2; simp only [if_pos]; exact r_tsw d212_33 (t := 300) rfl
  rw [if_neg c2]
  by_cases c3 : x = 3
  · subst c3; simp only [if_pos]; exact r_tsw d212_33 (t := 343) rfl
  rw [if_neg c3]
  by_cases c4 : x = 4
  · subst c4; simp only [if_pos]; exact r_tsw d212_33 (t := 386) rfl
  rw [if_neg c4]
  by_cases c5 : x = 5
  · subst c5; simp only [if_pos]; exact r_tsw d212_33 (t := 409) rfl
  rw [if_neg c5]
  by_cases c6 : x = 6
  · subst c6; simp only [if_pos]; exact r_tsw d212_33 (t := 422) rfl
  rw [if_neg c6]
  by_cases c7 : x = 7
  · subst c7; simp only [if_pos]; exact r_tsw d212_33 (t := 445) rfl
  rw [if_neg c7]
  by_cases c8 : x = 8
  · subst c8; simp only [if_pos]; exact r_tsw d212_33 (t := 478) rfl
  rw [if_neg c8]
  by_cases c9 : x = 9
  · subst c9; simp only [if_pos]; exact r_tsw d212_33 (t := 491) rfl
  rw [if_neg c9]
  by_cases c10 : x = 10
  · subst c10; simp only [if_pos]; exact r_tsw d212_33 (t := 514) rfl
  rw [if_neg c10]
  by_cases c11 : x = 11
  · subst c11; simp only [if_pos]; exact r_tsw d212_33 (t := 557) rfl
  rw [if_neg c11]
  by_cases c12 : x = 12
  · subst c12; simp only [if_pos]; exact r_tsw d212_33 (t := 590) rfl
  rw [if_neg c12]
  by_cases c13 : x = 13
  · subst c13; simp only [if_pos]; exact r_tsw d212_33 (t := 603) rfl
  rw [if_neg c13]
  by_cases c14 : x = 14
  · subst c14; simp only [if_pos]; exact r_tsw d212_33 (t := 636) rfl
  rw [if_neg c14]
  by_cases c15 : x = 15
  · subst c15; simp only [if_pos]; exact r_tsw d212_33 (t := 669) rfl
  rw [if_neg c15]
  by_cases c16 : x = 16
  · subst c16; simp only [if_pos]; exact r_tsw d212_33 (t := 692) rfl
  rw [if_neg c16]
  by_cases c17 : x = 17
  · subst c17; simp only [if_pos]; exact r_tsw d212_33 (t := 725) rfl
  rw [if_neg c17]
  by_cases c18 : x = 18
  · subst c18; simp only [if_pos]; exact r_tsw d212_33 (t := 748) rfl
  rw [if_neg c18]
  by_cases c19 : x = 19
  · subst c19; simp only [if_pos]; exact r_tsw d212_33 (t := 771) rfl
  rw [if_neg c19]
  by_cases c20 : x = 20
  · subst c20; simp only [if_pos]; exact r_tsw d212_33 (t := 804) rfl
  rw [if_neg c20]
  by_cases c21 : x = 21
  · subst c21; simp only [if_pos]; exact r_tsw d212_33 (t := 827) rfl
  rw [if_neg c21]
  by_cases c22 : x = 22
  · subst c22; simp only [if_pos]; exact r_tsw d212_33 (t := 871) rfl
  rw [if_neg c22]
  by_cases c23 : x = 23
  · subst c23; simp only [if_pos]; exact r_tsw d212_33 (t := 895) rfl
  rw [if_neg c23]
  by_cases c24 : x = 24
  · subst c24; simp only [if_pos]; exact r_tsw d212_33 (t := 928) rfl
  rw [if_neg c24]
  by_cases c25 : x = 25
  · subst c25; simp only [if_pos]; exact r_tsw d212_33 (t := 941) rfl
  rw [if_neg c25]
  by_cases c26 : x = 26
  · subst c26; simp only [if_pos]; exact r_tsw d212_33 (t := 974) rfl
  rw [if_neg c26]
  by_cases c27 : x = 27
  · subst c27; simp only [if_pos]; exact r_tsw d212_33 (t := 987) rfl
  rw [if_neg c27]
  by_cases c28 : x = 28
  · subst c28; simp only [if_pos]; exact r_tsw d212_33 (t := 1000) rfl
  rw [if_neg c28]
  by_cases c29 : x = 29
  · subst c29; simp only [if_pos]; exact r_tsw d212_33 (t := 1043) rfl
  rw [if_neg c29]
  by_cases c30 : x = 30
  · subst c30; simp only [if_pos]; exact r_tsw d212_33 (t := 1066) rfl
  rw [if_neg c30]
  by_cases c31 : x = 31
  · subst c31; simp only [if_pos]; exact r_tsw d212_33 (t := 1099) rfl
  rw [if_neg c31]
  by_cases c32 : x = 32
  · subst c32; simp only [if_pos]; exact r_tsw d212_33 (t := 1122) rfl
  rw [if_neg c32]
  by_cases c33 : x = 33
  · subst c33; simp only [if_pos]; exact r_tsw d212_33 (t := 1165) rfl
  rw [if_neg c33]
  by_cases c34 : x = 34
  · subst c34; simp only [if_pos]; exact r_tsw d212_33 (t := 1238) rfl
  rw [if_neg c34]
  by_cases c35 : x = 35
  · subst c35; simp only [if_pos]; exact r_tsw d212_33 (t := 1272) rfl
  rw [if_neg c35]
  refine r_tswd d212_33 ?_ rfl
  have e0 : x.toInt ≠ 0 := fun z => c0 (Int32.toInt_inj.mp z)
  have e1 : x.toInt ≠ 1 := fun z => c1 (Int32.toInt_inj.mp z)
  have e2 : x.toInt ≠ 2 := fun z => c2 (Int32.toInt_inj.mp z)
  have e3 : x.toInt ≠ 3 := fun z => c3 (Int32.toInt_inj.mp z)
  have e4 : x.toInt ≠ 4 := fun z => c4 (Int32.toInt_inj.mp z)
  have e5 : x.toInt ≠ 5 := fun z => c5 (Int32.toInt_inj.mp z)
  have e6 : x.toInt ≠ 6 := fun z => c6 (Int32.toInt_inj.mp z)
  have e7 : x.toInt ≠ 7 := fun z => c7 (Int32.toInt_inj.mp z)
  have e8 : x.toInt ≠ 8 := fun z => c8 (Int32.toInt_inj.mp z)
  have e9 : x.toInt ≠ 9 := fun z => c9 (Int32.toInt_inj.mp z)
  have e10 : x.toInt ≠ 10 := fun z => c10 (Int32.toInt_inj.mp z)
  have e11 : x.toInt ≠ 11 := fun z => c11 (Int32.toInt_inj.mp z)
  have e12 : x.toInt ≠ 12 := fun z => c12 (Int32.toInt_inj.mp z)
  have e13 : x.toInt ≠ 13 := fun z => c13 (Int32.toInt_inj.mp z)
  have e14 : x.toInt ≠ 14 := fun z => c14 (Int32.toInt_inj.mp z)
  have e15 : x.toInt ≠ 15 := fun z => c15 (Int32.toInt_inj.mp z)
  have e16 : x.toInt ≠ 16 := fun z => c16 (Int32.toInt_inj.mp z)
  have e17 : x.toInt ≠ 17 := fun z => c17 (Int32.toInt_inj.mp z)
  have e18 : x.toInt ≠ 18 := fun z => c18 (Int32.toInt_inj.mp z)
  have e19 : x.toInt ≠ 19 := fun z => c19 (Int32.toInt_inj.mp z)
  have e20 : x.toInt ≠ 20 := fun z => c20 (Int32.toInt_inj.mp z)
  have e21 : x.toInt ≠ 21 := fun z => c21 (Int32.toInt_inj.mp z)
  have e22 : x.toInt ≠ 22 := fun z => c22 (Int32.toInt_inj.mp z)
  have e23 : x.toInt ≠ 23 := fun z => c23 (Int32.toInt_inj.mp z)
  have e24 : x.toInt ≠ 24 := fun z => c24 (Int32.toInt_inj.mp z)
  have e25 : x.toInt ≠ 25 := fun z => c25 (Int32.toInt_inj.mp z)
  have e26 : x.toInt ≠ 26 := fun z => c26 (Int32.toInt_inj.mp z)
  have e27 : x.toInt ≠ 27 := fun z => c27 (Int32.toInt_inj.mp z)
  have e28 : x.toInt ≠ 28 := fun z => c28 (Int32.toInt_inj.mp z)
  have e29 : x.toInt ≠ 29 := fun z => c29 (Int32.toInt_inj.mp z)
  have e30 : x.toInt ≠ 30 := fun z => c30 (Int32.toInt_inj.mp z)
  have e31 : x.toInt ≠ 31 := fun z => c31 (Int32.toInt_inj.mp z)
  have e32 : x.toInt ≠ 32 := fun z => c32 (Int32.toInt_inj.mp z)
  have e33 : x.toInt ≠ 33 := fun z => c33 (Int32.toInt_inj.mp z)
  have e34 : x.toInt ≠ 34 := fun z => c34 (Int32.toInt_inj.mp z)
  have e35 : x.toInt ≠ 35 := fun z => c35 (Int32.toInt_inj.mp z)
  omega
theorem d212_192 : decode (mC 212) 192 = .ok (.aload_n 1, 1) := by decide +kernel
theorem x212_192 {sc : aSc} {d : Nat} {r : aRes} {a0 : Value} {x1 : Nat} {a2 : Value} {a3 : Value} {st : List Value} {σ : aS} : Rn sc d 212 192 [a0, .ref x1, a2, a3] st σ r ↔ Rn sc d 212 193 [a0, .ref x1, a2, a3] (.ref x1 :: st) σ r := r_aload_n d212_192 rfl
theorem d212_193 : decode (mC 212) 193 = .ok (.aload_n 0, 1) := by decide +kernel
theorem x212_193 {sc : aSc} {d : Nat} {r : aRes} {x0 : Nat} {a1 : Value} {a2 : Value} {a3 : Value} {st : List Value} {σ : aS} : Rn sc d 212 193 [.ref x0, a1, a2, a3] st σ r ↔ Rn sc d 212 194 [.ref x0, a1, a2, a3] (.ref x0 :: st) σ r := r_aload_n d212_193 rfl
theorem d212_194 : decode (mC 212) 194 = .ok (.iload_n 3, 1) := by decide +kernel
theorem x212_194 {sc : aSc} {d : Nat} {r : aRes} {a0 : Value} {a1 : Value} {a2 : Value} {x3 : Int32} {st : List Value} {σ : aS} : Rn sc d 212 194 [a0, a1, a2, .int x3] st σ r ↔ Rn sc d 212 195 [a0, a1, a2, .int x3] (.int x3 :: st) σ r := r_iload_n d212_194 rfl
theorem d212_195 : decode (mC 212) 195 = .ok (.iconst 1, 1) := by decide +kernel
theorem x212_195 {sc : aSc} {d : Nat} {r : aRes} {L : List Value} {st : List Value} {σ : aS} : Rn sc d 212 195 L st σ r ↔ Rn sc d 212 196 L (.int 1 :: st) σ r := r_iconst d212_195 (by decide)
theorem d212_196 : decode (mC 212) 196 = .ok (.iadd, 1) := by decide +kernel
theorem x212_196 {sc : aSc} {d : Nat} {r : aRes} {L : List Value} {st : List Value} {σ : aS} {x y : Int32} : Rn sc d 212 196 L (.int y :: .int x :: st) σ r ↔ Rn sc d 212 197 L (.int (x + y) :: st) σ r := r_iadd d212_196
theorem d212_197 : decode (mC 212) 197 = .ok (.iaload, 1) := by decide +kernel
theorem d212_198 : decode (mC 212) 198 = .ok (.aload_n 0, 1) := by decide +kernel
theorem x212_198 {sc : aSc} {d : Nat} {r : aRes} {x0 : Nat} {a1 : Value} {a2 : Value} {a3 : Value} {st : List Value} {σ : aS} : Rn sc d 212 198 [.ref x0, a1, a2, a3] st σ r ↔ Rn sc d 212 199 [.ref x0, a1, a2, a3] (.ref x0 :: st) σ r := r_aload_n d212_198 rfl
theorem d212_199 : decode (mC 212) 199 = .ok (.iload_n 3, 1) := by decide +kernel
theorem x212_199 {sc : aSc} {d : Nat} {r : aRes} {a0 : Value} {a1 : Value} {a2 : Value} {x3 : Int32} {st : List Value} {σ : aS} : Rn sc d 212 199 [a0, a1, a2, .int x3] st σ r ↔ Rn sc d 212 200 [a0, a1, a2, .int x3] (.int x3 :: st) σ r := r_iload_n d212_199 rfl
theorem d212_200 : decode (mC 212) 200 = .ok (.iconst 2, 1) := by decide +kernel
theorem x212_200 {sc : aSc} {d : Nat} {r : aRes} {L : List Value} {st : List Value} {σ : aS} : Rn sc d 212 200 L st σ r ↔ Rn sc d 212 201 L (.int 2 :: st) σ r := r_iconst d212_200 (by decide)
theorem d212_201 : decode (mC 212) 201 = .ok (.iadd, 1) := by decide +kernel
theorem x212_201 {sc : aSc} {d : Nat} {r : aRes} {L : List Value} {st : List Value} {σ : aS} {x y : Int32} : Rn sc d 212 201 L (.int y :: .int x :: st) σ r ↔ Rn sc d 212 202 L (.int (x + y) :: st) σ r := r_iadd d212_201
theorem d212_202 : decode (mC 212) 202 = .ok (.iaload, 1) := by decide +kernel
theorem d212_203 : decode (mC 212) 203 = .ok (.aload_n 0, 1) := by decide +kernel
theorem x212_203 {sc : aSc} {d : Nat} {r : aRes} {x0 : Nat} {a1 : Value} {a2 : Value} {a3 : Value} {st : List Value} {σ : aS} : Rn sc d 212 203 [.ref x0, a1, a2, a3] st σ r ↔ Rn sc d 212 204 [.ref x0, a1, a2, a3] (.ref x0 :: st) σ r := r_aload_n d212_203 rfl
theorem d212_204 : decode (mC 212) 204 = .ok (.iload_n 3, 1) := by decide +kernel
theorem x212_204 {sc : aSc} {d : Nat} {r : aRes} {a0 : Value} {a1 : Value} {a2 : Value} {x3 : Int32} {st : List Value} {σ : aS} : Rn sc d 212 204 [a0, a1, a2, .int x3] st σ r ↔ Rn sc d 212 205 [a0, a1, a2, .int x3] (.int x3 :: st) σ r := r_iload_n d212_204 rfl
theorem d212_205 : decode (mC 212) 205 = .ok (.iconst 3, 1) := by decide +kernel
theorem x212_205 {sc : aSc} {d : Nat} {r : aRes} {L : List Value} {st : List Value} {σ : aS} : Rn sc d 212 205 L st σ r ↔ Rn sc d 212 206 L (.int 3 :: st) σ r := r_iconst d212_205 (by decide)
theorem d212_206 : decode (mC 212) 206 = .ok (.iadd, 1) := by decide +kernel
theorem x212_206 {sc : aSc} {d : Nat} {r : aRes} {L : List Value} {st : List Value} {σ : aS} {x y : Int32} : Rn sc d 212 206 L (.int y :: .int x :: st) σ r ↔ Rn sc d 212 207 L (.int (x + y) :: st) σ r := r_iadd d212_206
theorem d212_207 : decode (mC 212) 207 = .ok (.iaload, 1) := by decide +kernel
theorem d212_208 : decode (mC 212) 208 = .ok (.aload_n 0, 1) := by decide +kernel
theorem x212_208 {sc : aSc} {d : Nat} {r : aRes} {x0 : Nat} {a1 : Value} {a2 : Value} {a3 : Value} {st : List Value} {σ : aS} : Rn sc d 212 208 [.ref x0, a1, a2, a3] st σ r ↔ Rn sc d 212 209 [.ref x0, a1, a2, a3] (.ref x0 :: st) σ r := r_aload_n d212_208 rfl
theorem d212_209 : decode (mC 212) 209 = .ok (.iload_n 3, 1) := by decide +kernel
theorem x212_209 {sc : aSc} {d : Nat} {r : aRes} {a0 : Value} {a1 : Value} {a2 : Value} {x3 : Int32} {st : List Value} {σ : aS} : Rn sc d 212 209 [a0, a1, a2, .int x3] st σ r ↔ Rn sc d 212 210 [a0, a1, a2, .int x3] (.int x3 :: st) σ r := r_iload_n d212_209 rfl
theorem d212_210 : decode (mC 212) 210 = .ok (.iconst 4, 1) := by decide +kernel
theorem x212_210 {sc : aSc} {d : Nat} {r : aRes} {L : List Value} {st : List Value} {σ : aS} : Rn sc d 212 210 L st σ r ↔ Rn sc d 212 211 L (.int 4 :: st) σ r := r_iconst d212_210 (by decide)
theorem d212_211 : decode (mC 212) 211 = .ok (.iadd, 1) := by decide +kernel
theorem x212_211 {sc : aSc} {d : Nat} {r : aRes} {L : List Value} {st : List Value} {σ : aS} {x y : Int32} : Rn sc d 212 211 L (.int y :: .int x :: st) σ r ↔ Rn sc d 212 212 L (.int (x + y) :: st) σ r := r_iadd d212_211
theorem d212_212 : decode (mC 212) 212 = .ok (.iaload, 1) := by decide +kernel
theorem d212_213 : decode (mC 212) 213 = .ok (.aload_n 0, 1) := by decide +kernel
theorem x212_213 {sc : aSc} {d : Nat} {r : aRes} {x0 : Nat} {a1 : Value} {a2 : Value} {a3 : Value} {st : List Value} {σ : aS} : Rn sc d 212 213 [.ref x0, a1, a2, a3] st σ r ↔ Rn sc d 212 214 [.ref x0, a1, a2, a3] (.ref x0 :: st) σ r := r_aload_n d212_213 rfl
theorem d212_214 : decode (mC 212) 214 = .ok (.iload_n 3, 1) := by decide +kernel
theorem x212_214 {sc : aSc} {d : Nat} {r : aRes} {a0 : Value} {a1 : Value} {a2 : Value} {x3 : Int32} {st : List Value} {σ : aS} : Rn sc d 212 214 [a0, a1, a2, .int x3] st σ r ↔ Rn sc d 212 215 [a0, a1, a2, .int x3] (.int x3 :: st) σ r := r_iload_n d212_214 rfl
theorem d212_215 : decode (mC 212) 215 = .ok (.iconst 5, 1) := by decide +kernel
theorem x212_215 {sc : aSc} {d : Nat} {r : aRes} {L : List Value} {st : List Value} {σ : aS} : Rn sc d 212 215 L st σ r ↔ Rn sc d 212 216 L (.int 5 :: st) σ r := r_iconst d212_215 (by decide)
theorem d212_216 : decode (mC 212) 216 = .ok (.iadd, 1) := by decide +kernel
theorem x212_216 {sc : aSc} {d : Nat} {r : aRes} {L : List Value} {st : List Value} {σ : aS} {x y : Int32} : Rn sc d 212 216 L (.int y :: .int x :: st) σ r ↔ Rn sc d 212 217 L (.int (x + y) :: st) σ r := r_iadd d212_216
theorem d212_217 : decode (mC 212) 217 = .ok (.iaload, 1) := by decide +kernel
theorem d212_218 : decode (mC 212) 218 = .ok (.aload_n 0, 1) := by decide +kernel
theorem x212_218 {sc : aSc} {d : Nat} {r : aRes} {x0 : Nat} {a1 : Value} {a2 : Value} {a3 : Value} {st : List Value} {σ : aS} : Rn sc d 212 218 [.ref x0, a1, a2, a3] st σ r ↔ Rn sc d 212 219 [.ref x0, a1, a2, a3] (.ref x0 :: st) σ r := r_aload_n d212_218 rfl
theorem d212_219 : decode (mC 212) 219 = .ok (.iload_n 3, 1) := by decide +kernel
theorem x212_219 {sc : aSc} {d : Nat} {r : aRes} {a0 : Value} {a1 : Value} {a2 : Value} {x3 : Int32} {st : List Value} {σ : aS} : Rn sc d 212 219 [a0, a1, a2, .int x3] st σ r ↔ Rn sc d 212 220 [a0, a1, a2, .int x3] (.int x3 :: st) σ r := r_iload_n d212_219 rfl
theorem d212_220 : decode (mC 212) 220 = .ok (.bipush 6, 2) := by decide +kernel
theorem x212_220 {sc : aSc} {d : Nat} {r : aRes} {L : List Value} {st : List Value} {σ : aS} : Rn sc d 212 220 L st σ r ↔ Rn sc d 212 222 L (.int 6 :: st) σ r := r_bipush d212_220 (by decide)
theorem d212_222 : decode (mC 212) 222 = .ok (.iadd, 1) := by decide +kernel
theorem x212_222 {sc : aSc} {d : Nat} {r : aRes} {L : List Value} {st : List Value} {σ : aS} {x y : Int32} : Rn sc d 212 222 L (.int y :: .int x :: st) σ r ↔ Rn sc d 212 223 L (.int (x + y) :: st) σ r := r_iadd d212_222
theorem d212_223 : decode (mC 212) 223 = .ok (.iaload, 1) := by decide +kernel
theorem d212_224 : decode (mC 212) 224 = .ok (.invokevirtual 13, 3) := by decide +kernel
theorem x212_224 {sc : aSc} {d : Nat} {r : aRes} {L : List Value} {f : Nat → Nat → Int32} {g : Nat → Nat → Int64} {h1 h2 : Nat} {y0 : Int32} {y1 : Int32} {y2 : Int32} {y3 : Int32} {y4 : Int32} {y5 : Int32}  {o : Nat} (hK : KK[o]? = some (.inl 6)) : Rn sc d 212 224 L [.int y0, .int y1, .int y2, .int y3, .int y4, .int y5, .ref o] (cS f g h1 h2) r ↔ ∃ (σ3 : aS) (v : Option Value), Cl sc d 66 [.ref o, .int y5, .int y4, .int y3, .int y2, .int y1, .int y0] (cS f g h1 h2) (σ3, v) ∧ Rn sc d 212 227 L (v.toList ++ []) σ3 r := r_callV (vs := [.int y0, .int y1, .int y2, .int y3, .int y4, .int y5]) d212_224 (j := 66) (by decide +kernel) ⟨rfl, by decide, rfl, rfl⟩ (Nat.le_of_ble_eq_true rfl) hK
theorem d212_227 : decode (mC 212) 227 = .ok (.aload_n 2, 1) := by decide +kernel
theorem x212_227 {sc : aSc} {d : Nat} {r : aRes} {a0 : Value} {a1 : Value} {x2 : Nat} {a3 : Value} {st : List Value} {σ : aS} : Rn sc d 212 227 [a0, a1, .ref x2, a3] st σ r ↔ Rn sc d 212 228 [a0, a1, .ref x2, a3] (.ref x2 :: st) σ r := r_aload_n d212_227 rfl
theorem d212_228 : decode (mC 212) 228 = .ok (.aload_n 0, 1) := by decide +kernel
theorem x212_228 {sc : aSc} {d : Nat} {r : aRes} {x0 : Nat} {a1 : Value} {a2 : Value} {a3 : Value} {st : List Value} {σ : aS} : Rn sc d 212 228 [.ref x0, a1, a2, a3] st σ r ↔ Rn sc d 212 229 [.ref x0, a1, a2, a3] (.ref x0 :: st) σ r := r_aload_n d212_228 rfl
theorem d212_229 : decode (mC 212) 229 = .ok (.iload_n 3, 1) := by decide +kernel
theorem x212_229 {sc : aSc} {d : Nat} {r : aRes} {a0 : Value} {a1 : Value} {a2 : Value} {x3 : Int32} {st : List Value} {σ : aS} : Rn sc d 212 229 [a0, a1, a2, .int x3] st σ r ↔ Rn sc d 212 230 [a0, a1, a2, .int x3] (.int x3 :: st) σ r := r_iload_n d212_229 rfl
theorem d212_230 : decode (mC 212) 230 = .ok (.iconst 1, 1) := by decide +kernel
theorem x212_230 {sc : aSc} {d : Nat} {r : aRes} {L : List Value} {st : List Value} {σ : aS} : Rn sc d 212 230 L st σ r ↔ Rn sc d 212 231 L (.int 1 :: st) σ r := r_iconst d212_230 (by decide)
theorem d212_231 : decode (mC 212) 231 = .ok (.iadd, 1) := by decide +kernel
theorem x212_231 {sc : aSc} {d : Nat} {r : aRes} {L : List Value} {st : List Value} {σ : aS} {x y : Int32} : Rn sc d 212 231 L (.int y :: .int x :: st) σ r ↔ Rn sc d 212 232 L (.int (x + y) :: st) σ r := r_iadd d212_231
theorem d212_232 : decode (mC 212) 232 = .ok (.iaload, 1) := by decide +kernel
theorem d212_233 : decode (mC 212) 233 = .ok (.aload_n 0, 1) := by decide +kernel
theorem x212_233 {sc : aSc} {d : Nat} {r : aRes} {x0 : Nat} {a1 : Value} {a2 : Value} {a3 : Value} {st : List Value} {σ : aS} : Rn sc d 212 233 [.ref x0, a1, a2, a3] st σ r ↔ Rn sc d 212 234 [.ref x0, a1, a2, a3] (.ref x0 :: st) σ r := r_aload_n d212_233 rfl
theorem d212_234 : decode (mC 212) 234 = .ok (.iload_n 3, 1) := by decide +kernel
theorem x212_234 {sc : aSc} {d : Nat} {r : aRes} {a0 : Value} {a1 : Value} {a2 : Value} {x3 : Int32} {st : List Value} {σ : aS} : Rn sc d 212 234 [a0, a1, a2, .int x3] st σ r ↔ Rn sc d 212 235 [a0, a1, a2, .int x3] (.int x3 :: st) σ r := r_iload_n d212_234 rfl
theorem d212_235 : decode (mC 212) 235 = .ok (.iconst 2, 1) := by decide +kernel
theorem x212_235 {sc : aSc} {d : Nat} {r : aRes} {L : List Value} {st : List Value} {σ : aS} : Rn sc d 212 235 L st σ r ↔ Rn sc d 212 236 L (.int 2 :: st) σ r := r_iconst d212_235 (by decide)
theorem d212_236 : decode (mC 212) 236 = .ok (.iadd, 1) := by decide +kernel
theorem x212_236 {sc : aSc} {d : Nat} {r : aRes} {L : List Value} {st : List Value} {σ : aS} {x y : Int32} : Rn sc d 212 236 L (.int y :: .int x :: st) σ r ↔ Rn sc d 212 237 L (.int (x + y) :: st) σ r := r_iadd d212_236
theorem d212_237 : decode (mC 212) 237 = .ok (.iaload, 1) := by decide +kernel
theorem d212_238 : decode (mC 212) 238 = .ok (.aload_n 0, 1) := by decide +kernel
theorem x212_238 {sc : aSc} {d : Nat} {r : aRes} {x0 : Nat} {a1 : Value} {a2 : Value} {a3 : Value} {st : List Value} {σ : aS} : Rn sc d 212 238 [.ref x0, a1, a2, a3] st σ r ↔ Rn sc d 212 239 [.ref x0, a1, a2, a3] (.ref x0 :: st) σ r := r_aload_n d212_238 rfl
theorem d212_239 : decode (mC 212) 239 = .ok (.iload_n 3, 1) := by decide +kernel
theorem x212_239 {sc : aSc} {d : Nat} {r : aRes} {a0 : Value} {a1 : Value} {a2 : Value} {x3 : Int32} {st : List Value} {σ : aS} : Rn sc d 212 239 [a0, a1, a2, .int x3] st σ r ↔ Rn sc d 212 240 [a0, a1, a2, .int x3] (.int x3 :: st) σ r := r_iload_n d212_239 rfl
theorem d212_240 : decode (mC 212) 240 = .ok (.iconst 3, 1) := by decide +kernel
theorem x212_240 {sc : aSc} {d : Nat} {r : aRes} {L : List Value} {st : List Value} {σ : aS} : Rn sc d 212 240 L st σ r ↔ Rn sc d 212 241 L (.int 3 :: st) σ r := r_iconst d212_240 (by decide)
theorem d212_241 : decode (mC 212) 241 = .ok (.iadd, 1) := by decide +kernel
theorem x212_241 {sc : aSc} {d : Nat} {r : aRes} {L : List Value} {st : List Value} {σ : aS} {x y : Int32} : Rn sc d 212 241 L (.int y :: .int x :: st) σ r ↔ Rn sc d 212 242 L (.int (x + y) :: st) σ r := r_iadd d212_241
theorem d212_242 : decode (mC 212) 242 = .ok (.iaload, 1) := by decide +kernel
theorem d212_243 : decode (mC 212) 243 = .ok (.aload_n 0, 1) := by decide +kernel
theorem x212_243 {sc : aSc} {d : Nat} {r : aRes} {x0 : Nat} {a1 : Value} {a2 : Value} {a3 : Value} {st : List Value} {σ : aS} : Rn sc d 212 243 [.ref x0, a1, a2, a3] st σ r ↔ Rn sc d 212 244 [.ref x0, a1, a2, a3] (.ref x0 :: st) σ r := r_aload_n d212_243 rfl
theorem d212_244 : decode (mC 212) 244 = .ok (.iload_n 3, 1) := by decide +kernel
theorem x212_244 {sc : aSc} {d : Nat} {r : aRes} {a0 : Value} {a1 : Value} {a2 : Value} {x3 : Int32} {st : List Value} {σ : aS} : Rn sc d 212 244 [a0, a1, a2, .int x3] st σ r ↔ Rn sc d 212 245 [a0, a1, a2, .int x3] (.int x3 :: st) σ r := r_iload_n d212_244 rfl
theorem d212_245 : decode (mC 212) 245 = .ok (.iconst 4, 1) := by decide +kernel
theorem x212_245 {sc : aSc} {d : Nat} {r : aRes} {L : List Value} {st : List Value} {σ : aS} : Rn sc d 212 245 L st σ r ↔ Rn sc d 212 246 L (.int 4 :: st) σ r := r_iconst d212_245 (by decide)
theorem d212_246 : decode (mC 212) 246 = .ok (.iadd, 1) := by decide +kernel
theorem x212_246 {sc : aSc} {d : Nat} {r : aRes} {L : List Value} {st : List Value} {σ : aS} {x y : Int32} : Rn sc d 212 246 L (.int y :: .int x :: st) σ r ↔ Rn sc d 212 247 L (.int (x + y) :: st) σ r := r_iadd d212_246
theorem d212_247 : decode (mC 212) 247 = .ok (.iaload, 1) := by decide +kernel
theorem d212_248 : decode (mC 212) 248 = .ok (.aload_n 0, 1) := by decide +kernel
theorem x212_248 {sc : aSc} {d : Nat} {r : aRes} {x0 : Nat} {a1 : Value} {a2 : Value} {a3 : Value} {st : List Value} {σ : aS} : Rn sc d 212 248 [.ref x0, a1, a2, a3] st σ r ↔ Rn sc d 212 249 [.ref x0, a1, a2, a3] (.ref x0 :: st) σ r := r_aload_n d212_248 rfl
theorem d212_249 : decode (mC 212) 249 = .ok (.iload_n 3, 1) := by decide +kernel
theorem x212_249 {sc : aSc} {d : Nat} {r : aRes} {a0 : Value} {a1 : Value} {a2 : Value} {x3 : Int32} {st : List Value} {σ : aS} : Rn sc d 212 249 [a0, a1, a2, .int x3] st σ r ↔ Rn sc d 212 250 [a0, a1, a2, .int x3] (.int x3 :: st) σ r := r_iload_n d212_249 rfl
theorem d212_250 : decode (mC 212) 250 = .ok (.iconst 5, 1) := by decide +kernel
theorem x212_250 {sc : aSc} {d : Nat} {r : aRes} {L : List Value} {st : List Value} {σ : aS} : Rn sc d 212 250 L st σ r ↔ Rn sc d 212 251 L (.int 5 :: st) σ r := r_iconst d212_250 (by decide)
theorem d212_251 : decode (mC 212) 251 = .ok (.iadd, 1) := by decide +kernel
theorem x212_251 {sc : aSc} {d : Nat} {r : aRes} {L : List Value} {st : List Value} {σ : aS} {x y : Int32} : Rn sc d 212 251 L (.int y :: .int x :: st) σ r ↔ Rn sc d 212 252 L (.int (x + y) :: st) σ r := r_iadd d212_251
theorem d212_252 : decode (mC 212) 252 = .ok (.iaload, 1) := by decide +kernel
theorem d212_253 : decode (mC 212) 253 = .ok (.aload_n 0, 1) := by decide +kernel
theorem x212_253 {sc : aSc} {d : Nat} {r : aRes} {x0 : Nat} {a1 : Value} {a2 : Value} {a3 : Value} {st : List Value} {σ : aS} : Rn sc d 212 253 [.ref x0, a1, a2, a3] st σ r ↔ Rn sc d 212 254 [.ref x0, a1, a2, a3] (.ref x0 :: st) σ r := r_aload_n d212_253 rfl
theorem d212_254 : decode (mC 212) 254 = .ok (.iload_n 3, 1) := by decide +kernel
theorem x212_254 {sc : aSc} {d : Nat} {r : aRes} {a0 : Value} {a1 : Value} {a2 : Value} {x3 : Int32} {st : List Value} {σ : aS} : Rn sc d 212 254 [a0, a1, a2, .int x3] st σ r ↔ Rn sc d 212 255 [a0, a1, a2, .int x3] (.int x3 :: st) σ r := r_iload_n d212_254 rfl
theorem d212_255 : decode (mC 212) 255 = .ok (.bipush 6, 2) := by decide +kernel
theorem x212_255 {sc : aSc} {d : Nat} {r : aRes} {L : List Value} {st : List Value} {σ : aS} : Rn sc d 212 255 L st σ r ↔ Rn sc d 212 257 L (.int 6 :: st) σ r := r_bipush d212_255 (by decide)
theorem d212_257 : decode (mC 212) 257 = .ok (.iadd, 1) := by decide +kernel
theorem x212_257 {sc : aSc} {d : Nat} {r : aRes} {L : List Value} {st : List Value} {σ : aS} {x y : Int32} : Rn sc d 212 257 L (.int y :: .int x :: st) σ r ↔ Rn sc d 212 258 L (.int (x + y) :: st) σ r := r_iadd d212_257
theorem d212_258 : decode (mC 212) 258 = .ok (.iaload, 1) := by decide +kernel
theorem d212_259 : decode (mC 212) 259 = .ok (.invokevirtual 17, 3) := by decide +kernel
theorem x212_259 {sc : aSc} {d : Nat} {r : aRes} {L : List Value} {f : Nat → Nat → Int32} {g : Nat → Nat → Int64} {h1 h2 : Nat} {y0 : Int32} {y1 : Int32} {y2 : Int32} {y3 : Int32} {y4 : Int32} {y5 : Int32} {z0 : Int32} {o : Nat} (hK : KK[o]? = some (.inl 7)) : Rn sc d 212 259 L [.int y0, .int y1, .int y2, .int y3, .int y4, .int y5, .ref o, .int z0] (cS f g h1 h2) r ↔ ∃ (σ3 : aS) (v : Option Value), Cl sc d 110 [.ref o, .int y5, .int y4, .int y3, .int y2, .int y1, .int y0] (cS f g h1 h2) (σ3, v) ∧ Rn sc d 212 262 L (v.toList ++ [.int z0]) σ3 r := r_callV (vs := [.int y0, .int y1, .int y2, .int y3, .int y4, .int y5]) d212_259 (j := 110) (by decide +kernel) ⟨rfl, by decide, rfl, rfl⟩ (Nat.le_of_ble_eq_true rfl) hK
theorem d212_262 : decode (mC 212) 262 = .ok (.if_icmp .eq 1073, 3) := by decide +kernel
theorem x212_262 {sc : aSc} {d : Nat} {r : aRes} {L : List Value} {st : List Value} {σ : aS} {x y : Int32} : Rn sc d 212 262 L (.int y :: .int x :: st) σ r ↔ if x = y then Rn sc d 212 1335 L st σ r else Rn sc d 212 265 L st σ r := r_icmp_eq d212_262 rfl
theorem d212_265 : decode (mC 212) 265 = .ok (.iconst 0, 1) := by decide +kernel
theorem x212_265 {sc : aSc} {d : Nat} {r : aRes} {L : List Value} {st : List Value} {σ : aS} : Rn sc d 212 265 L st σ r ↔ Rn sc d 212 266 L (.int 0 :: st) σ r := r_iconst d212_265 (by decide)
theorem d212_266 : decode (mC 212) 266 = .ok (.ireturn, 1) := by decide +kernel
theorem d212_267 : decode (mC 212) 267 = .ok (.aload_n 1, 1) := by decide +kernel
theorem x212_267 {sc : aSc} {d : Nat} {r : aRes} {a0 : Value} {x1 : Nat} {a2 : Value} {a3 : Value} {st : List Value} {σ : aS} : Rn sc d 212 267 [a0, .ref x1, a2, a3] st σ r ↔ Rn sc d 212 268 [a0, .ref x1, a2, a3] (.ref x1 :: st) σ r := r_aload_n d212_267 rfl
theorem d212_268 : decode (mC 212) 268 = .ok (.aload_n 0, 1) := by decide +kernel
theorem x212_268 {sc : aSc} {d : Nat} {r : aRes} {x0 : Nat} {a1 : Value} {a2 : Value} {a3 : Value} {st : List Value} {σ : aS} : Rn sc d 212 268 [.ref x0, a1, a2, a3] st σ r ↔ Rn sc d 212 269 [.ref x0, a1, a2, a3] (.ref x0 :: st) σ r := r_aload_n d212_268 rfl
theorem d212_269 : decode (mC 212) 269 = .ok (.iload_n 3, 1) := by decide +kernel
theorem x212_269 {sc : aSc} {d : Nat} {r : aRes} {a0 : Value} {a1 : Value} {a2 : Value} {x3 : Int32} {st : List Value} {σ : aS} : Rn sc d 212 269 [a0, a1, a2, .int x3] st σ r ↔ Rn sc d 212 270 [a0, a1, a2, .int x3] (.int x3 :: st) σ r := r_iload_n d212_269 rfl
theorem d212_270 : decode (mC 212) 270 = .ok (.iconst 1, 1) := by decide +kernel
theorem x212_270 {sc : aSc} {d : Nat} {r : aRes} {L : List Value} {st : List Value} {σ : aS} : Rn sc d 212 270 L st σ r ↔ Rn sc d 212 271 L (.int 1 :: st) σ r := r_iconst d212_270 (by decide)
theorem d212_271 : decode (mC 212) 271 = .ok (.iadd, 1) := by decide +kernel
theorem x212_271 {sc : aSc} {d : Nat} {r : aRes} {L : List Value} {st : List Value} {σ : aS} {x y : Int32} : Rn sc d 212 271 L (.int y :: .int x :: st) σ r ↔ Rn sc d 212 272 L (.int (x + y) :: st) σ r := r_iadd d212_271
theorem d212_272 : decode (mC 212) 272 = .ok (.iaload, 1) := by decide +kernel
theorem d212_273 : decode (mC 212) 273 = .ok (.aload_n 0, 1) := by decide +kernel
theorem x212_273 {sc : aSc} {d : Nat} {r : aRes} {x0 : Nat} {a1 : Value} {a2 : Value} {a3 : Value} {st : List Value} {σ : aS} : Rn sc d 212 273 [.ref x0, a1, a2, a3] st σ r ↔ Rn sc d 212 274 [.ref x0, a1, a2, a3] (.ref x0 :: st) σ r := r_aload_n d212_273 rfl
theorem d212_274 : decode (mC 212) 274 = .ok (.iload_n 3, 1) := by decide +kernel
theorem x212_274 {sc : aSc} {d : Nat} {r : aRes} {a0 : Value} {a1 : Value} {a2 : Value} {x3 : Int32} {st : List Value} {σ : aS} : Rn sc d 212 274 [a0, a1, a2, .int x3] st σ r ↔ Rn sc d 212 275 [a0, a1, a2, .int x3] (.int x3 :: st) σ r := r_iload_n d212_274 rfl
theorem d212_275 : decode (mC 212) 275 = .ok (.iconst 2, 1) := by decide +kernel
theorem x212_275 {sc : aSc} {d : Nat} {r : aRes} {L : List Value} {st : List Value} {σ : aS} : Rn sc d 212 275 L st σ r ↔ Rn sc d 212 276 L (.int 2 :: st) σ r := r_iconst d212_275 (by decide)
theorem d212_276 : decode (mC 212) 276 = .ok (.iadd, 1) := by decide +kernel
theorem x212_276 {sc : aSc} {d : Nat} {r : aRes} {L : List Value} {st : List Value} {σ : aS} {x y : Int32} : Rn sc d 212 276 L (.int y :: .int x :: st) σ r ↔ Rn sc d 212 277 L (.int (x + y) :: st) σ r := r_iadd d212_276
theorem d212_277 : decode (mC 212) 277 = .ok (.iaload, 1) := by decide +kernel
theorem d212_278 : decode (mC 212) 278 = .ok (.invokevirtual 18, 3) := by decide +kernel
theorem x212_278 {sc : aSc} {d : Nat} {r : aRes} {L : List Value} {f : Nat → Nat → Int32} {g : Nat → Nat → Int64} {h1 h2 : Nat} {y0 : Int32} {y1 : Int32}  {o : Nat} (hK : KK[o]? = some (.inl 6)) : Rn sc d 212 278 L [.int y0, .int y1, .ref o] (cS f g h1 h2) r ↔ ∃ (σ3 : aS) (v : Option Value), Cl sc d 67 [.ref o, .int y1, .int y0] (cS f g h1 h2) (σ3, v) ∧ Rn sc d 212 281 L (v.toList ++ []) σ3 r := r_callV (vs := [.int y0, .int y1]) d212_278 (j := 67) (by decide +kernel) ⟨rfl, by decide, rfl, rfl⟩ (Nat.le_of_ble_eq_true rfl) hK
theorem d212_281 : decode (mC 212) 281 = .ok (.aload_n 2, 1) := by decide +kernel
theorem x212_281 {sc : aSc} {d : Nat} {r : aRes} {a0 : Value} {a1 : Value} {x2 : Nat} {a3 : Value} {st : List Value} {σ : aS} : Rn sc d 212 281 [a0, a1, .ref x2, a3] st σ r ↔ Rn sc d 212 282 [a0, a1, .ref x2, a3] (.ref x2 :: st) σ r := r_aload_n d212_281 rfl
theorem d212_282 : decode (mC 212) 282 = .ok (.aload_n 0, 1) := by decide +kernel
theorem x212_282 {sc : aSc} {d : Nat} {r : aRes} {x0 : Nat} {a1 : Value} {a2 : Value} {a3 : Value} {st : List Value} {σ : aS} : Rn sc d 212 282 [.ref x0, a1, a2, a3] st σ r ↔ Rn sc d 212 283 [.ref x0, a1, a2, a3] (.ref x0 :: st) σ r := r_aload_n d212_282 rfl
theorem d212_283 : decode (mC 212) 283 = .ok (.iload_n 3, 1) := by decide +kernel
theorem x212_283 {sc : aSc} {d : Nat} {r : aRes} {a0 : Value} {a1 : Value} {a2 : Value} {x3 : Int32} {st : List Value} {σ : aS} : Rn sc d 212 283 [a0, a1, a2, .int x3] st σ r ↔ Rn sc d 212 284 [a0, a1, a2, .int x3] (.int x3 :: st) σ r := r_iload_n d212_283 rfl
theorem d212_284 : decode (mC 212) 284 = .ok (.iconst 1, 1) := by decide +kernel
theorem x212_284 {sc : aSc} {d : Nat} {r : aRes} {L : List Value} {st : List Value} {σ : aS} : Rn sc d 212 284 L st σ r ↔ Rn sc d 212 285 L (.int 1 :: st) σ r := r_iconst d212_284 (by decide)
theorem d212_285 : decode (mC 212) 285 = .ok (.iadd, 1) := by decide +kernel
theorem x212_285 {sc : aSc} {d : Nat} {r : aRes} {L : List Value} {st : List Value} {σ : aS} {x y : Int32} : Rn sc d 212 285 L (.int y :: .int x :: st) σ r ↔ Rn sc d 212 286 L (.int (x + y) :: st) σ r := r_iadd d212_285
theorem d212_286 : decode (mC 212) 286 = .ok (.iaload, 1) := by decide +kernel
theorem d212_287 : decode (mC 212) 287 = .ok (.aload_n 0, 1) := by decide +kernel
theorem x212_287 {sc : aSc} {d : Nat} {r : aRes} {x0 : Nat} {a1 : Value} {a2 : Value} {a3 : Value} {st : List Value} {σ : aS} : Rn sc d 212 287 [.ref x0, a1, a2, a3] st σ r ↔ Rn sc d 212 288 [.ref x0, a1, a2, a3] (.ref x0 :: st) σ r := r_aload_n d212_287 rfl
theorem d212_288 : decode (mC 212) 288 = .ok (.iload_n 3, 1) := by decide +kernel
theorem x212_288 {sc : aSc} {d : Nat} {r : aRes} {a0 : Value} {a1 : Value} {a2 : Value} {x3 : Int32} {st : List Value} {σ : aS} : Rn sc d 212 288 [a0, a1, a2, .int x3] st σ r ↔ Rn sc d 212 289 [a0, a1, a2, .int x3] (.int x3 :: st) σ r := r_iload_n d212_288 rfl
theorem d212_289 : decode (mC 212) 289 = .ok (.iconst 2, 1) := by decide +kernel
theorem x212_289 {sc : aSc} {d : Nat} {r : aRes} {L : List Value} {st : List Value} {σ : aS} : Rn sc d 212 289 L st σ r ↔ Rn sc d 212 290 L (.int 2 :: st) σ r := r_iconst d212_289 (by decide)
theorem d212_290 : decode (mC 212) 290 = .ok (.iadd, 1) := by decide +kernel
theorem x212_290 {sc : aSc} {d : Nat} {r : aRes} {L : List Value} {st : List Value} {σ : aS} {x y : Int32} : Rn sc d 212 290 L (.int y :: .int x :: st) σ r ↔ Rn sc d 212 291 L (.int (x + y) :: st) σ r := r_iadd d212_290
theorem d212_291 : decode (mC 212) 291 = .ok (.iaload, 1) := by decide +kernel
theorem d212_292 : decode (mC 212) 292 = .ok (.invokevirtual 22, 3) := by decide +kernel
theorem x212_292 {sc : aSc} {d : Nat} {r : aRes} {L : List Value} {f : Nat → Nat → Int32} {g : Nat → Nat → Int64} {h1 h2 : Nat} {y0 : Int32} {y1 : Int32} {z0 : Int32} {o : Nat} (hK : KK[o]? = some (.inl 7)) : Rn sc d 212 292 L [.int y0, .int y1, .ref o, .int z0] (cS f g h1 h2) r ↔ ∃ (σ3 : aS) (v : Option Value), Cl sc d 144 [.ref o, .int y1, .int y0] (cS f g h1 h2) (σ3, v) ∧ Rn sc d 212 295 L (v.toList ++ [.int z0]) σ3 r := r_callV (vs := [.int y0, .int y1]) d212_292 (j := 144) (by decide +kernel) ⟨rfl, by decide, rfl, rfl⟩ (Nat.le_of_ble_eq_true rfl) hK
theorem d212_295 : decode (mC 212) 295 = .ok (.if_icmp .eq 1040, 3) := by decide +kernel
theorem x212_295 {sc : aSc} {d : Nat} {r : aRes} {L : List Value} {st : List Value} {σ : aS} {x y : Int32} : Rn sc d 212 295 L (.int y :: .int x :: st) σ r ↔ if x = y then Rn sc d 212 1335 L st σ r else Rn sc d 212 298 L st σ r := r_icmp_eq d212_295 rfl
theorem d212_298 : decode (mC 212) 298 = .ok (.iconst 0, 1) := by decide +kernel
theorem x212_298 {sc : aSc} {d : Nat} {r : aRes} {L : List Value} {st : List Value} {σ : aS} : Rn sc d 212 298 L st σ r ↔ Rn sc d 212 299 L (.int 0 :: st) σ r := r_iconst d212_298 (by decide)
theorem d212_299 : decode (mC 212) 299 = .ok (.ireturn, 1) := by decide +kernel
theorem d212_300 : decode (mC 212) 300 = .ok (.aload_n 1, 1) := by decide +kernel
theorem x212_300 {sc : aSc} {d : Nat} {r : aRes} {a0 : Value} {x1 : Nat} {a2 : Value} {a3 : Value} {st : List Value} {σ : aS} : Rn sc d 212 300 [a0, .ref x1, a2, a3] st σ r ↔ Rn sc d 212 301 [a0, .ref x1, a2, a3] (.ref x1 :: st) σ r := r_aload_n d212_300 rfl
theorem d212_301 : decode (mC 212) 301 = .ok (.aload_n 0, 1) := by decide +kernel
theorem x212_301 {sc : aSc} {d : Nat} {r : aRes} {x0 : Nat} {a1 : Value} {a2 : Value} {a3 : Value} {st : List Value} {σ : aS} : Rn sc d 212 301 [.ref x0, a1, a2, a3] st σ r ↔ Rn sc d 212 302 [.ref x0, a1, a2, a3] (.ref x0 :: st) σ r := r_aload_n d212_301 rfl
theorem d212_302 : decode (mC 212) 302 = .ok (.iload_n 3, 1) := by decide +kernel
theorem x212_302 {sc : aSc} {d : Nat} {r : aRes} {a0 : Value} {a1 : Value} {a2 : Value} {x3 : Int32} {st : List Value} {σ : aS} : Rn sc d 212 302 [a0, a1, a2, .int x3] st σ r ↔ Rn sc d 212 303 [a0, a1, a2, .int x3] (.int x3 :: st) σ r := r_iload_n d212_302 rfl
theorem d212_303 : decode (mC 212) 303 = .ok (.iconst 1, 1) := by decide +kernel
theorem x212_303 {sc : aSc} {d : Nat} {r : aRes} {L : List Value} {st : List Value} {σ : aS} : Rn sc d 212 303 L st σ r ↔ Rn sc d 212 304 L (.int 1 :: st) σ r := r_iconst d212_303 (by decide)
theorem d212_304 : decode (mC 212) 304 = .ok (.iadd, 1) := by decide +kernel
theorem x212_304 {sc : aSc} {d : Nat} {r : aRes} {L : List Value} {st : List Value} {σ : aS} {x y : Int32} : Rn sc d 212 304 L (.int y :: .int x :: st) σ r ↔ Rn sc d 212 305 L (.int (x + y) :: st) σ r := r_iadd d212_304
theorem d212_305 : decode (mC 212) 305 = .ok (.iaload, 1) := by decide +kernel
theorem d212_306 : decode (mC 212) 306 = .ok (.aload_n 0, 1) := by decide +kernel
theorem x212_306 {sc : aSc} {d : Nat} {r : aRes} {x0 : Nat} {a1 : Value} {a2 : Value} {a3 : Value} {st : List Value} {σ : aS} : Rn sc d 212 306 [.ref x0, a1, a2, a3] st σ r ↔ Rn sc d 212 307 [.ref x0, a1, a2, a3] (.ref x0 :: st) σ r := r_aload_n d212_306 rfl
theorem d212_307 : decode (mC 212) 307 = .ok (.iload_n 3, 1) := by decide +kernel
theorem x212_307 {sc : aSc} {d : Nat} {r : aRes} {a0 : Value} {a1 : Value} {a2 : Value} {x3 : Int32} {st : List Value} {σ : aS} : Rn sc d 212 307 [a0, a1, a2, .int x3] st σ r ↔ Rn sc d 212 308 [a0, a1, a2, .int x3] (.int x3 :: st) σ r := r_iload_n d212_307 rfl
theorem d212_308 : decode (mC 212) 308 = .ok (.iconst 2, 1) := by decide +kernel
theorem x212_308 {sc : aSc} {d : Nat} {r : aRes} {L : List Value} {st : List Value} {σ : aS} : Rn sc d 212 308 L st σ r ↔ Rn sc d 212 309 L (.int 2 :: st) σ r := r_iconst d212_308 (by decide)
theorem d212_309 : decode (mC 212) 309 = .ok (.iadd, 1) := by decide +kernel
theorem x212_309 {sc : aSc} {d : Nat} {r : aRes} {L : List Value} {st : List Value} {σ : aS} {x y : Int32} : Rn sc d 212 309 L (.int y :: .int x :: st) σ r ↔ Rn sc d 212 310 L (.int (x + y) :: st) σ r := r_iadd d212_309
theorem d212_310 : decode (mC 212) 310 = .ok (.iaload, 1) := by decide +kernel
theorem d212_311 : decode (mC 212) 311 = .ok (.aload_n 0, 1) := by decide +kernel
theorem x212_311 {sc : aSc} {d : Nat} {r : aRes} {x0 : Nat} {a1 : Value} {a2 : Value} {a3 : Value} {st : List Value} {σ : aS} : Rn sc d 212 311 [.ref x0, a1, a2, a3] st σ r ↔ Rn sc d 212 312 [.ref x0, a1, a2, a3] (.ref x0 :: st) σ r := r_aload_n d212_311 rfl
theorem d212_312 : decode (mC 212) 312 = .ok (.iload_n 3, 1) := by decide +kernel
theorem x212_312 {sc : aSc} {d : Nat} {r : aRes} {a0 : Value} {a1 : Value} {a2 : Value} {x3 : Int32} {st : List Value} {σ : aS} : Rn sc d 212 312 [a0, a1, a2, .int x3] st σ r ↔ Rn sc d 212 313 [a0, a1, a2, .int x3] (.int x3 :: st) σ r := r_iload_n d212_312 rfl
theorem d212_313 : decode (mC 212) 313 = .ok (.iconst 3, 1) := by decide +kernel
theorem x212_313 {sc : aSc} {d : Nat} {r : aRes} {L : List Value} {st : List Value} {σ : aS} : Rn sc d 212 313 L st σ r ↔ Rn sc d 212 314 L (.int 3 :: st) σ r := r_iconst d212_313 (by decide)
theorem d212_314 : decode (mC 212) 314 = .ok (.iadd, 1) := by decide +kernel
theorem x212_314 {sc : aSc} {d : Nat} {r : aRes} {L : List Value} {st : List Value} {σ : aS} {x y : Int32} : Rn sc d 212 314 L (.int y :: .int x :: st) σ r ↔ Rn sc d 212 315 L (.int (x + y) :: st) σ r := r_iadd d212_314
theorem d212_315 : decode (mC 212) 315 = .ok (.iaload, 1) := by decide +kernel
theorem d212_316 : decode (mC 212) 316 = .ok (.invokevirtual 23, 3) := by decide +kernel
theorem x212_316 {sc : aSc} {d : Nat} {r : aRes} {L : List Value} {f : Nat → Nat → Int32} {g : Nat → Nat → Int64} {h1 h2 : Nat} {y0 : Int32} {y1 : Int32} {y2 : Int32}  {o : Nat} (hK : KK[o]? = some (.inl 6)) : Rn sc d 212 316 L [.int y0, .int y1, .int y2, .ref o] (cS f g h1 h2) r ↔ ∃ (σ3 : aS) (v : Option Value), Cl sc d 68 [.ref o, .int y2, .int y1, .int y0] (cS f g h1 h2) (σ3, v) ∧ Rn sc d 212 319 L (v.toList ++ []) σ3 r := r_callV (vs := [.int y0, .int y1, .int y2]) d212_316 (j := 68) (by decide +kernel) ⟨rfl, by decide, rfl, rfl⟩ (Nat.le_of_ble_eq_true rfl) hK
theorem d212_319 : decode (mC 212) 319 = .ok (.aload_n 2, 1) := by decide +kernel
theorem x212_319 {sc : aSc} {d : Nat} {r : aRes} {a0 : Value} {a1 : Value} {x2 : Nat} {a3 : Value} {st : List Value} {σ : aS} : Rn sc d 212 319 [a0, a1, .ref x2, a3] st σ r ↔ Rn sc d 212 320 [a0, a1, .ref x2, a3] (.ref x2 :: st) σ r := r_aload_n d212_319 rfl
theorem d212_320 : decode (mC 212) 320 = .ok (.aload_n 0, 1) := by decide +kernel
theorem x212_320 {sc : aSc} {d : Nat} {r : aRes} {x0 : Nat} {a1 : Value} {a2 : Value} {a3 : Value} {st : List Value} {σ : aS} : Rn sc d 212 320 [.ref x0, a1, a2, a3] st σ r ↔ Rn sc d 212 321 [.ref x0, a1, a2, a3] (.ref x0 :: st) σ r := r_aload_n d212_320 rfl
theorem d212_321 : decode (mC 212) 321 = .ok (.iload_n 3, 1) := by decide +kernel
theorem x212_321 {sc : aSc} {d : Nat} {r : aRes} {a0 : Value} {a1 : Value} {a2 : Value} {x3 : Int32} {st : List Value} {σ : aS} : Rn sc d 212 321 [a0, a1, a2, .int x3] st σ r ↔ Rn sc d 212 322 [a0, a1, a2, .int x3] (.int x3 :: st) σ r := r_iload_n d212_321 rfl
theorem d212_322 : decode (mC 212) 322 = .ok (.iconst 1, 1) := by decide +kernel
theorem x212_322 {sc : aSc} {d : Nat} {r : aRes} {L : List Value} {st : List Value} {σ : aS} : Rn sc d 212 322 L st σ r ↔ Rn sc d 212 323 L (.int 1 :: st) σ r := r_iconst d212_322 (by decide)
theorem d212_323 : decode (mC 212) 323 = .ok (.iadd, 1) := by decide +kernel
theorem x212_323 {sc : aSc} {d : Nat} {r : aRes} {L : List Value} {st : List Value} {σ : aS} {x y : Int32} : Rn sc d 212 323 L (.int y :: .int x :: st) σ r ↔ Rn sc d 212 324 L (.int (x + y) :: st) σ r := r_iadd d212_323
theorem d212_324 : decode (mC 212) 324 = .ok (.iaload, 1) := by decide +kernel
theorem d212_325 : decode (mC 212) 325 = .ok (.aload_n 0, 1) := by decide +kernel
theorem x212_325 {sc : aSc} {d : Nat} {r : aRes} {x0 : Nat} {a1 : Value} {a2 : Value} {a3 : Value} {st : List Value} {σ : aS} : Rn sc d 212 325 [.ref x0, a1, a2, a3] st σ r ↔ Rn sc d 212 326 [.ref x0, a1, a2, a3] (.ref x0 :: st) σ r := r_aload_n d212_325 rfl
theorem d212_326 : decode (mC 212) 326 = .ok (.iload_n 3, 1) := by decide +kernel
theorem x212_326 {sc : aSc} {d : Nat} {r : aRes} {a0 : Value} {a1 : Value} {a2 : Value} {x3 : Int32} {st : List Value} {σ : aS} : Rn sc d 212 326 [a0, a1, a2, .int x3] st σ r ↔ Rn sc d 212 327 [a0, a1, a2, .int x3] (.int x3 :: st) σ r := r_iload_n d212_326 rfl
theorem d212_327 : decode (mC 212) 327 = .ok (.iconst 2, 1) := by decide +kernel
theorem x212_327 {sc : aSc} {d : Nat} {r : aRes} {L : List Value} {st : List Value} {σ : aS} : Rn sc d 212 327 L st σ r ↔ Rn sc d 212 328 L (.int 2 :: st) σ r := r_iconst d212_327 (by decide)
theorem d212_328 : decode (mC 212) 328 = .ok (.iadd, 1) := by decide +kernel
theorem x212_328 {sc : aSc} {d : Nat} {r : aRes} {L : List Value} {st : List Value} {σ : aS} {x y : Int32} : Rn sc d 212 328 L (.int y :: .int x :: st) σ r ↔ Rn sc d 212 329 L (.int (x + y) :: st) σ r := r_iadd d212_328
theorem d212_329 : decode (mC 212) 329 = .ok (.iaload, 1) := by decide +kernel
theorem d212_330 : decode (mC 212) 330 = .ok (.aload_n 0, 1) := by decide +kernel
theorem x212_330 {sc : aSc} {d : Nat} {r : aRes} {x0 : Nat} {a1 : Value} {a2 : Value} {a3 : Value} {st : List Value} {σ : aS} : Rn sc d 212 330 [.ref x0, a1, a2, a3] st σ r ↔ Rn sc d 212 331 [.ref x0, a1, a2, a3] (.ref x0 :: st) σ r := r_aload_n d212_330 rfl
theorem d212_331 : decode (mC 212) 331 = .ok (.iload_n 3, 1) := by decide +kernel
theorem x212_331 {sc : aSc} {d : Nat} {r : aRes} {a0 : Value} {a1 : Value} {a2 : Value} {x3 : Int32} {st : List Value} {σ : aS} : Rn sc d 212 331 [a0, a1, a2, .int x3] st σ r ↔ Rn sc d 212 332 [a0, a1, a2, .int x3] (.int x3 :: st) σ r := r_iload_n d212_331 rfl
theorem d212_332 : decode (mC 212) 332 = .ok (.iconst 3, 1) := by decide +kernel
theorem x212_332 {sc : aSc} {d : Nat} {r : aRes} {L : List Value} {st : List Value} {σ : aS} : Rn sc d 212 332 L st σ r ↔ Rn sc d 212 333 L (.int 3 :: st) σ r := r_iconst d212_332 (by decide)
theorem d212_333 : decode (mC 212) 333 = .ok (.iadd, 1) := by decide +kernel
theorem x212_333 {sc : aSc} {d : Nat} {r : aRes} {L : List Value} {st : List Value} {σ : aS} {x y : Int32} : Rn sc d 212 333 L (.int y :: .int x :: st) σ r ↔ Rn sc d 212 334 L (.int (x + y) :: st) σ r := r_iadd d212_333
theorem d212_334 : decode (mC 212) 334 = .ok (.iaload, 1) := by decide +kernel
theorem d212_335 : decode (mC 212) 335 = .ok (.invokevirtual 27, 3) := by decide +kernel
theorem x212_335 {sc : aSc} {d : Nat} {r : aRes} {L : List Value} {f : Nat → Nat → Int32} {g : Nat → Nat → Int64} {h1 h2 : Nat} {y0 : Int32} {y1 : Int32} {y2 : Int32} {z0 : Int32} {o : Nat} (hK : KK[o]? = some (.inl 7)) : Rn sc d 212 335 L [.int y0, .int y1, .int y2, .ref o, .int z0] (cS f g h1 h2) r ↔ ∃ (σ3 : aS) (v : Option Value), Cl sc d 111 [.ref o, .int y2, .int y1, .int y0] (cS f g h1 h2) (σ3, v) ∧ Rn sc d 212 338 L (v.toList ++ [.int z0]) σ3 r := r_callV (vs := [.int y0, .int y1, .int y2]) d212_335 (j := 111) (by decide +kernel) ⟨rfl, by decide, rfl, rfl⟩ (Nat.le_of_ble_eq_true rfl) hK
theorem d212_338 : decode (mC 212) 338 = .ok (.if_icmp .eq 997, 3) := by decide +kernel
theorem x212_338 {sc : aSc} {d : Nat} {r : aRes} {L : List Value} {st : List Value} {σ : aS} {x y : Int32} : Rn sc d 212 338 L (.int y :: .int x :: st) σ r ↔ if x = y then Rn sc d 212 1335 L st σ r else Rn sc d 212 341 L st σ r := r_icmp_eq d212_338 rfl
theorem d212_341 : decode (mC 212) 341 = .ok (.iconst 0, 1) := by decide +kernel
theorem x212_341 {sc : aSc} {d : Nat} {r : aRes} {L : List Value} {st : List Value} {σ : aS} : Rn sc d 212 341 L st σ r ↔ Rn sc d 212 342 L (.int 0 :: st) σ r := r_iconst d212_341 (by decide)
theorem d212_342 : decode (mC 212) 342 = .ok (.ireturn, 1) := by decide +kernel
theorem d212_343 : decode (mC 212) 343 = .ok (.aload_n 1, 1) := by decide +kernel
theorem x212_343 {sc : aSc} {d : Nat} {r : aRes} {a0 : Value} {x1 : Nat} {a2 : Value} {a3 : Value} {st : List Value} {σ : aS} : Rn sc d 212 343 [a0, .ref x1, a2, a3] st σ r ↔ Rn sc d 212 344 [a0, .ref x1, a2, a3] (.ref x1 :: st) σ r := r_aload_n d212_343 rfl
theorem d212_344 : decode (mC 212) 344 = .ok (.aload_n 0, 1) := by decide +kernel
theorem x212_344 {sc : aSc} {d : Nat} {r : aRes} {x0 : Nat} {a1 : Value} {a2 : Value} {a3 : Value} {st : List Value} {σ : aS} : Rn sc d 212 344 [.ref x0, a1, a2, a3] st σ r ↔ Rn sc d 212 345 [.ref x0, a1, a2, a3] (.ref x0 :: st) σ r := r_aload_n d212_344 rfl
theorem d212_345 : decode (mC 212) 345 = .ok (.iload_n 3, 1) := by decide +kernel
theorem x212_345 {sc : aSc} {d : Nat} {r : aRes} {a0 : Value} {a1 : Value} {a2 : Value} {x3 : Int32} {st : List Value} {σ : aS} : Rn sc d 212 345 [a0, a1, a2, .int x3] st σ r ↔ Rn sc d 212 346 [a0, a1, a2, .int x3] (.int x3 :: st) σ r := r_iload_n d212_345 rfl
theorem d212_346 : decode (mC 212) 346 = .ok (.iconst 1, 1) := by decide +kernel
theorem x212_346 {sc : aSc} {d : Nat} {r : aRes} {L : List Value} {st : List Value} {σ : aS} : Rn sc d 212 346 L st σ r ↔ Rn sc d 212 347 L (.int 1 :: st) σ r := r_iconst d212_346 (by decide)
theorem d212_347 : decode (mC 212) 347 = .ok (.iadd, 1) := by decide +kernel
theorem x212_347 {sc : aSc} {d : Nat} {r : aRes} {L : List Value} {st : List Value} {σ : aS} {x y : Int32} : Rn sc d 212 347 L (.int y :: .int x :: st) σ r ↔ Rn sc d 212 348 L (.int (x + y) :: st) σ r := r_iadd d212_347
theorem d212_348 : decode (mC 212) 348 = .ok (.iaload, 1) := by decide +kernel
theorem d212_349 : decode (mC 212) 349 = .ok (.aload_n 0, 1) := by decide +kernel
theorem x212_349 {sc : aSc} {d : Nat} {r : aRes} {x0 : Nat} {a1 : Value} {a2 : Value} {a3 : Value} {st : List Value} {σ : aS} : Rn sc d 212 349 [.ref x0, a1, a2, a3] st σ r ↔ Rn sc d 212 350 [.ref x0, a1, a2, a3] (.ref x0 :: st) σ r := r_aload_n d212_349 rfl
theorem d212_350 : decode (mC 212) 350 = .ok (.iload_n 3, 1) := by decide +kernel
theorem x212_350 {sc : aSc} {d : Nat} {r : aRes} {a0 : Value} {a1 : Value} {a2 : Value} {x3 : Int32} {st : List Value} {σ : aS} : Rn sc d 212 350 [a0, a1, a2, .int x3] st σ r ↔ Rn sc d 212 351 [a0, a1, a2, .int x3] (.int x3 :: st) σ r := r_iload_n d212_350 rfl
theorem d212_351 : decode (mC 212) 351 = .ok (.iconst 2, 1) := by decide +kernel
theorem x212_351 {sc : aSc} {d : Nat} {r : aRes} {L : List Value} {st : List Value} {σ : aS} : Rn sc d 212 351 L st σ r ↔ Rn sc d 212 352 L (.int 2 :: st) σ r := r_iconst d212_351 (by decide)
theorem d212_352 : decode (mC 212) 352 = .ok (.iadd, 1) := by decide +kernel
theorem x212_352 {sc : aSc} {d : Nat} {r : aRes} {L : List Value} {st : List Value} {σ : aS} {x y : Int32} : Rn sc d 212 352 L (.int y :: .int x :: st) σ r ↔ Rn sc d 212 353 L (.int (x + y) :: st) σ r := r_iadd d212_352
theorem d212_353 : decode (mC 212) 353 = .ok (.iaload, 1) := by decide +kernel
theorem d212_354 : decode (mC 212) 354 = .ok (.aload_n 0, 1) := by decide +kernel
theorem x212_354 {sc : aSc} {d : Nat} {r : aRes} {x0 : Nat} {a1 : Value} {a2 : Value} {a3 : Value} {st : List Value} {σ : aS} : Rn sc d 212 354 [.ref x0, a1, a2, a3] st σ r ↔ Rn sc d 212 355 [.ref x0, a1, a2, a3] (.ref x0 :: st) σ r := r_aload_n d212_354 rfl
theorem d212_355 : decode (mC 212) 355 = .ok (.iload_n 3, 1) := by decide +kernel
theorem x212_355 {sc : aSc} {d : Nat} {r : aRes} {a0 : Value} {a1 : Value} {a2 : Value} {x3 : Int32} {st : List Value} {σ : aS} : Rn sc d 212 355 [a0, a1, a2, .int x3] st σ r ↔ Rn sc d 212 356 [a0, a1, a2, .int x3] (.int x3 :: st) σ r := r_iload_n d212_355 rfl
theorem d212_356 : decode (mC 212) 356 = .ok (.iconst 3, 1) := by decide +kernel
theorem x212_356 {sc : aSc} {d : Nat} {r : aRes} {L : List Value} {st : List Value} {σ : aS} : Rn sc d 212 356 L st σ r ↔ Rn sc d 212 357 L (.int 3 :: st) σ r := r_iconst d212_356 (by decide)
theorem d212_357 : decode (mC 212) 357 = .ok (.iadd, 1) := by decide +kernel
theorem x212_357 {sc : aSc} {d : Nat} {r : aRes} {L : List Value} {st : List Value} {σ : aS} {x y : Int32} : Rn sc d 212 357 L (.int y :: .int x :: st) σ r ↔ Rn sc d 212 358 L (.int (x + y) :: st) σ r := r_iadd d212_357
theorem d212_358 : decode (mC 212) 358 = .ok (.iaload, 1) := by decide +kernel
theorem d212_359 : decode (mC 212) 359 = .ok (.invokevirtual 28, 3) := by decide +kernel
theorem x212_359 {sc : aSc} {d : Nat} {r : aRes} {L : List Value} {f : Nat → Nat → Int32} {g : Nat → Nat → Int64} {h1 h2 : Nat} {y0 : Int32} {y1 : Int32} {y2 : Int32}  {o : Nat} (hK : KK[o]? = some (.inl 6)) : Rn sc d 212 359 L [.int y0, .int y1, .int y2, .ref o] (cS f g h1 h2) r ↔ ∃ (σ3 : aS) (v : Option Value), Cl sc d 69 [.ref o, .int y2, .int y1, .int y0] (cS f g h1 h2) (σ3, v) ∧ Rn sc d 212 362 L (v.toList ++ []) σ3 r := r_callV (vs := [.int y0, .int y1, .int y2]) d212_359 (j := 69) (by decide +kernel) ⟨rfl, by decide, rfl, rfl⟩ (Nat.le_of_ble_eq_true rfl) hK
theorem d212_362 : decode (mC 212) 362 = .ok (.aload_n 2, 1) := by decide +kernel
theorem x212_362 {sc : aSc} {d : Nat} {r : aRes} {a0 : Value} {a1 : Value} {x2 : Nat} {a3 : Value} {st : List Value} {σ : aS} : Rn sc d 212 362 [a0, a1, .ref x2, a3] st σ r ↔ Rn sc d 212 363 [a0, a1, .ref x2, a3] (.ref x2 :: st) σ r := r_aload_n d212_362 rfl
theorem d212_363 : decode (mC 212) 363 = .ok (.aload_n 0, 1) := by decide +kernel
theorem x212_363 {sc : aSc} {d : Nat} {r : aRes} {x0 : Nat} {a1 : Value} {a2 : Value} {a3 : Value} {st : List Value} {σ : aS} : Rn sc d 212 363 [.ref x0, a1, a2, a3] st σ r ↔ Rn sc d 212 364 [.ref x0, a1, a2, a3] (.ref x0 :: st) σ r := r_aload_n d212_363 rfl
theorem d212_364 : decode (mC 212) 364 = .ok (.iload_n 3, 1) := by decide +kernel
theorem x212_364 {sc : aSc} {d : Nat} {r : aRes} {a0 : Value} {a1 : Value} {a2 : Value} {x3 : Int32} {st : List Value} {σ : aS} : Rn sc d 212 364 [a0, a1, a2, .int x3] st σ r ↔ Rn sc d 212 365 [a0, a1, a2, .int x3] (.int x3 :: st) σ r := r_iload_n d212_364 rfl
theorem d212_365 : decode (mC 212) 365 = .ok (.iconst 1, 1) := by decide +kernel
theorem x212_365 {sc : aSc} {d : Nat} {r : aRes} {L : List Value} {st : List Value} {σ : aS} : Rn sc d 212 365 L st σ r ↔ Rn sc d 212 366 L (.int 1 :: st) σ r := r_iconst d212_365 (by decide)
theorem d212_366 : decode (mC 212) 366 = .ok (.iadd, 1) := by decide +kernel
theorem x212_366 {sc : aSc} {d : Nat} {r : aRes} {L : List Value} {st : List Value} {σ : aS} {x y : Int32} : Rn sc d 212 366 L (.int y :: .int x :: st) σ r ↔ Rn sc d 212 367 L (.int (x + y) :: st) σ r := r_iadd d212_366
theorem d212_367 : decode (mC 212) 367 = .ok (.iaload, 1) := by decide +kernel
theorem d212_368 : decode (mC 212) 368 = .ok (.aload_n 0, 1) := by decide +kernel
theorem x212_368 {sc : aSc} {d : Nat} {r : aRes} {x0 : Nat} {a1 : Value} {a2 : Value} {a3 : Value} {st : List Value} {σ : aS} : Rn sc d 212 368 [.ref x0, a1, a2, a3] st σ r ↔ Rn sc d 212 369 [.ref x0, a1, a2, a3] (.ref x0 :: st) σ r := r_aload_n d212_368 rfl
theorem d212_369 : decode (mC 212) 369 = .ok (.iload_n 3, 1) := by decide +kernel
theorem x212_369 {sc : aSc} {d : Nat} {r : aRes} {a0 : Value} {a1 : Value} {a2 : Value} {x3 : Int32} {st : List Value} {σ : aS} : Rn sc d 212 369 [a0, a1, a2, .int x3] st σ r ↔ Rn sc d 212 370 [a0, a1, a2, .int x3] (.int x3 :: st) σ r := r_iload_n d212_369 rfl
theorem d212_370 : decode (mC 212) 370 = .ok (.iconst 2, 1) := by decide +kernel
theorem x212_370 {sc : aSc} {d : Nat} {r : aRes} {L : List Value} {st : List Value} {σ : aS} : Rn sc d 212 370 L st σ r ↔ Rn sc d 212 371 L (.int 2 :: st) σ r := r_iconst d212_370 (by decide)
theorem d212_371 : decode (mC 212) 371 = .ok (.iadd, 1) := by decide +kernel
theorem x212_371 {sc : aSc} {d : Nat} {r : aRes} {L : List Value} {st : List Value} {σ : aS} {x y : Int32} : Rn sc d 212 371 L (.int y :: .int x :: st) σ r ↔ Rn sc d 212 372 L (.int (x + y) :: st) σ r := r_iadd d212_371
theorem d212_372 : decode (mC 212) 372 = .ok (.iaload, 1) := by decide +kernel
theorem d212_373 : decode (mC 212) 373 = .ok (.aload_n 0, 1) := by decide +kernel
theorem x212_373 {sc : aSc} {d : Nat} {r : aRes} {x0 : Nat} {a1 : Value} {a2 : Value} {a3 : Value} {st : List Value} {σ : aS} : Rn sc d 212 373 [.ref x0, a1, a2, a3] st σ r ↔ Rn sc d 212 374 [.ref x0, a1, a2, a3] (.ref x0 :: st) σ r := r_aload_n d212_373 rfl
theorem d212_374 : decode (mC 212) 374 = .ok (.iload_n 3, 1) := by decide +kernel
theorem x212_374 {sc : aSc} {d : Nat} {r : aRes} {a0 : Value} {a1 : Value} {a2 : Value} {x3 : Int32} {st : List Value} {σ : aS} : Rn sc d 212 374 [a0, a1, a2, .int x3] st σ r ↔ Rn sc d 212 375 [a0, a1, a2, .int x3] (.int x3 :: st) σ r := r_iload_n d212_374 rfl
theorem d212_375 : decode (mC 212) 375 = .ok (.iconst 3, 1) := by decide +kernel
theorem x212_375 {sc : aSc} {d : Nat} {r : aRes} {L : List Value} {st : List Value} {σ : aS} : Rn sc d 212 375 L st σ r ↔ Rn sc d 212 376 L (.int 3 :: st) σ r := r_iconst d212_375 (by decide)
theorem d212_376 : decode (mC 212) 376 = .ok (.iadd, 1) := by decide +kernel
theorem x212_376 {sc : aSc} {d : Nat} {r : aRes} {L : List Value} {st : List Value} {σ : aS} {x y : Int32} : Rn sc d 212 376 L (.int y :: .int x :: st) σ r ↔ Rn sc d 212 377 L (.int (x + y) :: st) σ r := r_iadd d212_376
theorem d212_377 : decode (mC 212) 377 = .ok (.iaload, 1) := by decide +kernel
theorem d212_378 : decode (mC 212) 378 = .ok (.invokevirtual 31, 3) := by decide +kernel
theorem x212_378 {sc : aSc} {d : Nat} {r : aRes} {L : List Value} {f : Nat → Nat → Int32} {g : Nat → Nat → Int64} {h1 h2 : Nat} {y0 : Int32} {y1 : Int32} {y2 : Int32} {z0 : Int32} {o : Nat} (hK : KK[o]? = some (.inl 7)) : Rn sc d 212 378 L [.int y0, .int y1, .int y2, .ref o, .int z0] (cS f g h1 h2) r ↔ ∃ (σ3 : aS) (v : Option Value), Cl sc d 112 [.ref o, .int y2, .int y1, .int y0] (cS f g h1 h2) (σ3, v) ∧ Rn sc d 212 381 L (v.toList ++ [.int z0]) σ3 r := r_callV (vs := [.int y0, .int y1, .int y2]) d212_378 (j := 112) (by decide +kernel) ⟨rfl, by decide, rfl, rfl⟩ (Nat.le_of_ble_eq_true rfl) hK
theorem d212_381 : decode (mC 212) 381 = .ok (.if_icmp .eq 954, 3) := by decide +kernel
theorem x212_381 {sc : aSc} {d : Nat} {r : aRes} {L : List Value} {st : List Value} {σ : aS} {x y : Int32} : Rn sc d 212 381 L (.int y :: .int x :: st) σ r ↔ if x = y then Rn sc d 212 1335 L st σ r else Rn sc d 212 384 L st σ r := r_icmp_eq d212_381 rfl
theorem d212_384 : decode (mC 212) 384 = .ok (.iconst 0, 1) := by decide +kernel
theorem x212_384 {sc : aSc} {d : Nat} {r : aRes} {L : List Value} {st : List Value} {σ : aS} : Rn sc d 212 384 L st σ r ↔ Rn sc d 212 385 L (.int 0 :: st) σ r := r_iconst d212_384 (by decide)
theorem d212_385 : decode (mC 212) 385 = .ok (.ireturn, 1) := by decide +kernel
theorem d212_386 : decode (mC 212) 386 = .ok (.aload_n 1, 1) := by decide +kernel
theorem x212_386 {sc : aSc} {d : Nat} {r : aRes} {a0 : Value} {x1 : Nat} {a2 : Value} {a3 : Value} {st : List Value} {σ : aS} : Rn sc d 212 386 [a0, .ref x1, a2, a3] st σ r ↔ Rn sc d 212 387 [a0, .ref x1, a2, a3] (.ref x1 :: st) σ r := r_aload_n d212_386 rfl
theorem d212_387 : decode (mC 212) 387 = .ok (.aload_n 0, 1) := by decide +kernel
theorem x212_387 {sc : aSc} {d : Nat} {r : aRes} {x0 : Nat} {a1 : Value} {a2 : Value} {a3 : Value} {st : List Value} {σ : aS} : Rn sc d 212 387 [.ref x0, a1, a2, a3] st σ r ↔ Rn sc d 212 388 [.ref x0, a1, a2, a3] (.ref x0 :: st) σ r := r_aload_n d212_387 rfl
theorem d212_388 : decode (mC 212) 388 = .ok (.iload_n 3, 1) := by decide +kernel
theorem x212_388 {sc : aSc} {d : Nat} {r : aRes} {a0 : Value} {a1 : Value} {a2 : Value} {x3 : Int32} {st : List Value} {σ : aS} : Rn sc d 212 388 [a0, a1, a2, .int x3] st σ r ↔ Rn sc d 212 389 [a0, a1, a2, .int x3] (.int x3 :: st) σ r := r_iload_n d212_388 rfl
theorem d212_389 : decode (mC 212) 389 = .ok (.iconst 1, 1) := by decide +kernel
theorem x212_389 {sc : aSc} {d : Nat} {r : aRes} {L : List Value} {st : List Value} {σ : aS} : Rn sc d 212 389 L st σ r ↔ Rn sc d 212 390 L (.int 1 :: st) σ r := r_iconst d212_389 (by decide)
theorem d212_390 : decode (mC 212) 390 = .ok (.iadd, 1) := by decide +kernel
theorem x212_390 {sc : aSc} {d : Nat} {r : aRes} {L : List Value} {st : List Value} {σ : aS} {x y : Int32} : Rn sc d 212 390 L (.int y :: .int x :: st) σ r ↔ Rn sc d 212 391 L (.int (x + y) :: st) σ r := r_iadd d212_390
theorem d212_391 : decode (mC 212) 391 = .ok (.iaload, 1) := by decide +kernel
theorem d212_392 : decode (mC 212) 392 = .ok (.invokevirtual 32, 3) := by decide +kernel
theorem x212_392 {sc : aSc} {d : Nat} {r : aRes} {L : List Value} {f : Nat → Nat → Int32} {g : Nat → Nat → Int64} {h1 h2 : Nat} {y0 : Int32}  {o : Nat} (hK : KK[o]? = some (.inl 6)) : Rn sc d 212 392 L [.int y0, .ref o] (cS f g h1 h2) r ↔ ∃ (σ3 : aS) (v : Option Value), Cl sc d 70 [.ref o, .int y0] (cS f g h1 h2) (σ3, v) ∧ Rn sc d 212 395 L (v.toList ++ []) σ3 r := r_callV (vs := [.int y0]) d212_392 (j := 70) (by decide +kernel) ⟨rfl, by decide, rfl, rfl⟩ (Nat.le_of_ble_eq_true rfl) hK
theorem d212_395 : decode (mC 212) 395 = .ok (.aload_n 2, 1) := by decide +kernel
theorem x212_395 {sc : aSc} {d : Nat} {r : aRes} {a0 : Value} {a1 : Value} {x2 : Nat} {a3 : Value} {st : List Value} {σ : aS} : Rn sc d 212 395 [a0, a1, .ref x2, a3] st σ r ↔ Rn sc d 212 396 [a0, a1, .ref x2, a3] (.ref x2 :: st) σ r := r_aload_n d212_395 rfl
theorem d212_396 : decode (mC 212) 396 = .ok (.aload_n 0, 1) := by decide +kernel
theorem x212_396 {sc : aSc} {d : Nat} {r : aRes} {x0 : Nat} {a1 : Value} {a2 : Value} {a3 : Value} {st : List Value} {σ : aS} : Rn sc d 212 396 [.ref x0, a1, a2, a3] st σ r ↔ Rn sc d 212 397 [.ref x0, a1, a2, a3] (.ref x0 :: st) σ r := r_aload_n d212_396 rfl
theorem d212_397 : decode (mC 212) 397 = .ok (.iload_n 3, 1) := by decide +kernel
theorem x212_397 {sc : aSc} {d : Nat} {r : aRes} {a0 : Value} {a1 : Value} {a2 : Value} {x3 : Int32} {st : List Value} {σ : aS} : Rn sc d 212 397 [a0, a1, a2, .int x3] st σ r ↔ Rn sc d 212 398 [a0, a1, a2, .int x3] (.int x3 :: st) σ r := r_iload_n d212_397 rfl
theorem d212_398 : decode (mC 212) 398 = .ok (.iconst 1, 1) := by decide +kernel
theorem x212_398 {sc : aSc} {d : Nat} {r : aRes} {L : List Value} {st : List Value} {σ : aS} : Rn sc d 212 398 L st σ r ↔ Rn sc d 212 399 L (.int 1 :: st) σ r := r_iconst d212_398 (by decide)
theorem d212_399 : decode (mC 212) 399 = .ok (.iadd, 1) := by decide +kernel
theorem x212_399 {sc : aSc} {d : Nat} {r : aRes} {L : List Value} {st : List Value} {σ : aS} {x y : Int32} : Rn sc d 212 399 L (.int y :: .int x :: st) σ r ↔ Rn sc d 212 400 L (.int (x + y) :: st) σ r := r_iadd d212_399
theorem d212_400 : decode (mC 212) 400 = .ok (.iaload, 1) := by decide +kernel
theorem d212_401 : decode (mC 212) 401 = .ok (.invokevirtual 36, 3) := by decide +kernel
theorem x212_401 {sc : aSc} {d : Nat} {r : aRes} {L : List Value} {f : Nat → Nat → Int32} {g : Nat → Nat → Int64} {h1 h2 : Nat} {y0 : Int32} {z0 : Int32} {o : Nat} (hK : KK[o]? = some (.inl 7)) : Rn sc d 212 401 L [.int y0, .ref o, .int z0] (cS f g h1 h2) r ↔ ∃ (σ3 : aS) (v : Option Value), Cl sc d 113 [.ref o, .int y0] (cS f g h1 h2) (σ3, v) ∧ Rn sc d 212 404 L (v.toList ++ [.int z0]) σ3 r := r_callV (vs := [.int y0]) d212_401 (j := 113) (by decide +kernel) ⟨rfl, by decide, rfl, rfl⟩ (Nat.le_of_ble_eq_true rfl) hK
theorem d212_404 : decode (mC 212) 404 = .ok (.if_icmp .eq 931, 3) := by decide +kernel
theorem x212_404 {sc : aSc} {d : Nat} {r : aRes} {L : List Value} {st : List Value} {σ : aS} {x y : Int32} : Rn sc d 212 404 L (.int y :: .int x :: st) σ r ↔ if x = y then Rn sc d 212 1335 L st σ r else Rn sc d 212 407 L st σ r := r_icmp_eq d212_404 rfl
theorem d212_407 : decode (mC 212) 407 = .ok (.iconst 0, 1) := by decide +kernel
theorem x212_407 {sc : aSc} {d : Nat} {r : aRes} {L : List Value} {st : List Value} {σ : aS} : Rn sc d 212 407 L st σ r ↔ Rn sc d 212 408 L (.int 0 :: st) σ r := r_iconst d212_407 (by decide)
theorem d212_408 : decode (mC 212) 408 = .ok (.ireturn, 1) := by decide +kernel
theorem d212_409 : decode (mC 212) 409 = .ok (.aload_n 1, 1) := by decide +kernel
theorem x212_409 {sc : aSc} {d : Nat} {r : aRes} {a0 : Value} {x1 : Nat} {a2 : Value} {a3 : Value} {st : List Value} {σ : aS} : Rn sc d 212 409 [a0, .ref x1, a2, a3] st σ r ↔ Rn sc d 212 410 [a0, .ref x1, a2, a3] (.ref x1 :: st) σ r := r_aload_n d212_409 rfl
theorem d212_410 : decode (mC 212) 410 = .ok (.invokevirtual 37, 3) := by decide +kernel
theorem x212_410 {sc : aSc} {d : Nat} {r : aRes} {L : List Value} {f : Nat → Nat → Int32} {g : Nat → Nat → Int64} {h1 h2 : Nat}   {o : Nat} (hK : KK[o]? = some (.inl 6)) : Rn sc d 212 410 L [.ref o] (cS f g h1 h2) r ↔ ∃ (σ3 : aS) (v : Option Value), Cl sc d 71 [.ref o] (cS f g h1 h2) (σ3, v) ∧ Rn sc d 212 413 L (v.toList ++ []) σ3 r := r_callV (vs := []) d212_410 (j := 71) (by decide +kernel) ⟨rfl, by decide, rfl, rfl⟩ (Nat.le_of_ble_eq_true rfl) hK
theorem d212_413 : decode (mC 212) 413 = .ok (.aload_n 2, 1) := by decide +kernel
theorem x212_413 {sc : aSc} {d : Nat} {r : aRes} {a0 : Value} {a1 : Value} {x2 : Nat} {a3 : Value} {st : List Value} {σ : aS} : Rn sc d 212 413 [a0, a1, .ref x2, a3] st σ r ↔ Rn sc d 212 414 [a0, a1, .ref x2, a3] (.ref x2 :: st) σ r := r_aload_n d212_413 rfl
theorem d212_414 : decode (mC 212) 414 = .ok (.invokevirtual 41, 3) := by decide +kernel
theorem x212_414 {sc : aSc} {d : Nat} {r : aRes} {L : List Value} {f : Nat → Nat → Int32} {g : Nat → Nat → Int64} {h1 h2 : Nat}  {z0 : Int32} {o : Nat} (hK : KK[o]? = some (.inl 7)) : Rn sc d 212 414 L [.ref o, .int z0] (cS f g h1 h2) r ↔ ∃ (σ3 : aS) (v : Option Value), Cl sc d 129 [.ref o] (cS f g h1 h2) (σ3, v) ∧ Rn sc d 212 417 L (v.toList ++ [.int z0]) σ3 r := r_callV (vs := []) d212_414 (j := 129) (by decide +kernel) ⟨rfl, by decide, rfl, rfl⟩ (Nat.le_of_ble_eq_true rfl) hK
theorem d212_417 : decode (mC 212) 417 = .ok (.if_icmp .eq 918, 3) := by decide +kernel
theorem x212_417 {sc : aSc} {d : Nat} {r : aRes} {L : List Value} {st : List Value} {σ : aS} {x y : Int32} : Rn sc d 212 417 L (.int y :: .int x :: st) σ r ↔ if x = y then Rn sc d 212 1335 L st σ r else Rn sc d 212 420 L st σ r := r_icmp_eq d212_417 rfl
theorem d212_420 : decode (mC 212) 420 = .ok (.iconst 0, 1) := by decide +kernel
theorem x212_420 {sc : aSc} {d : Nat} {r : aRes} {L : List Value} {st : List Value} {σ : aS} : Rn sc d 212 420 L st σ r ↔ Rn sc d 212 421 L (.int 0 :: st) σ r := r_iconst d212_420 (by decide)
theorem d212_421 : decode (mC 212) 421 = .ok (.ireturn, 1) := by decide +kernel
theorem d212_422 : decode (mC 212) 422 = .ok (.aload_n 1, 1) := by decide +kernel
theorem x212_422 {sc : aSc} {d : Nat} {r : aRes} {a0 : Value} {x1 : Nat} {a2 : Value} {a3 : Value} {st : List Value} {σ : aS} : Rn sc d 212 422 [a0, .ref x1, a2, a3] st σ r ↔ Rn sc d 212 423 [a0, .ref x1, a2, a3] (.ref x1 :: st) σ r := r_aload_n d212_422 rfl
theorem d212_423 : decode (mC 212) 423 = .ok (.aload_n 0, 1) := by decide +kernel
theorem x212_423 {sc : aSc} {d : Nat} {r : aRes} {x0 : Nat} {a1 : Value} {a2 : Value} {a3 : Value} {st : List Value} {σ : aS} : Rn sc d 212 423 [.ref x0, a1, a2, a3] st σ r ↔ Rn sc d 212 424 [.ref x0, a1, a2, a3] (.ref x0 :: st) σ r := r_aload_n d212_423 rfl
theorem d212_424 : decode (mC 212) 424 = .ok (.iload_n 3, 1) := by decide +kernel
theorem x212_424 {sc : aSc} {d : Nat} {r : aRes} {a0 : Value} {a1 : Value} {a2 : Value} {x3 : Int32} {st : List Value} {σ : aS} : Rn sc d 212 424 [a0, a1, a2, .int x3] st σ r ↔ Rn sc d 212 425 [a0, a1, a2, .int x3] (.int x3 :: st) σ r := r_iload_n d212_424 rfl
theorem d212_425 : decode (mC 212) 425 = .ok (.iconst 1, 1) := by decide +kernel
theorem x212_425 {sc : aSc} {d : Nat} {r : aRes} {L : List Value} {st : List Value} {σ : aS} : Rn sc d 212 425 L st σ r ↔ Rn sc d 212 426 L (.int 1 :: st) σ r := r_iconst d212_425 (by decide)
theorem d212_426 : decode (mC 212) 426 = .ok (.iadd, 1) := by decide +kernel
theorem x212_426 {sc : aSc} {d : Nat} {r : aRes} {L : List Value} {st : List Value} {σ : aS} {x y : Int32} : Rn sc d 212 426 L (.int y :: .int x :: st) σ r ↔ Rn sc d 212 427 L (.int (x + y) :: st) σ r := r_iadd d212_426
theorem d212_427 : decode (mC 212) 427 = .ok (.iaload, 1) := by decide +kernel
theorem d212_428 : decode (mC 212) 428 = .ok (.invokevirtual 42, 3) := by decide +kernel
theorem x212_428 {sc : aSc} {d : Nat} {r : aRes} {L : List Value} {f : Nat → Nat → Int32} {g : Nat → Nat → Int64} {h1 h2 : Nat} {y0 : Int32}  {o : Nat} (hK : KK[o]? = some (.inl 6)) : Rn sc d 212 428 L [.int y0, .ref o] (cS f g h1 h2) r ↔ ∃ (σ3 : aS) (v : Option Value), Cl sc d 72 [.ref o, .int y0] (cS f g h1 h2) (σ3, v) ∧ Rn sc d 212 431 L (v.toList ++ []) σ3 r := r_callV (vs := [.int y0]) d212_428 (j := 72) (by decide +kernel) ⟨rfl, by decide, rfl, rfl⟩ (Nat.le_of_ble_eq_true rfl) hK
theorem d212_431 : decode (mC 212) 431 = .ok (.aload_n 2, 1) := by decide +kernel
theorem x212_431 {sc : aSc} {d : Nat} {r : aRes} {a0 : Value} {a1 : Value} {x2 : Nat} {a3 : Value} {st : List Value} {σ : aS} : Rn sc d 212 431 [a0, a1, .ref x2, a3] st σ r ↔ Rn sc d 212 432 [a0, a1, .ref x2, a3] (.ref x2 :: st) σ r := r_aload_n d212_431 rfl
theorem d212_432 : decode (mC 212) 432 = .ok (.aload_n 0, 1) := by decide +kernel
theorem x212_432 {sc : aSc} {d : Nat} {r : aRes} {x0 : Nat} {a1 : Value} {a2 : Value} {a3 : Value} {st : List Value} {σ : aS} : Rn sc d 212 432 [.ref x0, a1, a2, a3] st σ r ↔ Rn sc d 212 433 [.ref x0, a1, a2, a3] (.ref x0 :: st) σ r := r_aload_n d212_432 rfl
theorem d212_433 : decode (mC 212) 433 = .ok (.iload_n 3, 1) := by decide +kernel
theorem x212_433 {sc : aSc} {d : Nat} {r : aRes} {a0 : Value} {a1 : Value} {a2 : Value} {x3 : Int32} {st : List Value} {σ : aS} : Rn sc d 212 433 [a0, a1, a2, .int x3] st σ r ↔ Rn sc d 212 434 [a0, a1, a2, .int x3] (.int x3 :: st) σ r := r_iload_n d212_433 rfl
theorem d212_434 : decode (mC 212) 434 = .ok (.iconst 1, 1) := by decide +kernel
theorem x212_434 {sc : aSc} {d : Nat} {r : aRes} {L : List Value} {st : List Value} {σ : aS} : Rn sc d 212 434 L st σ r ↔ Rn sc d 212 435 L (.int 1 :: st) σ r := r_iconst d212_434 (by decide)
theorem d212_435 : decode (mC 212) 435 = .ok (.iadd, 1) := by decide +kernel
theorem x212_435 {sc : aSc} {d : Nat} {r : aRes} {L : List Value} {st : List Value} {σ : aS} {x y : Int32} : Rn sc d 212 435 L (.int y :: .int x :: st) σ r ↔ Rn sc d 212 436 L (.int (x + y) :: st) σ r := r_iadd d212_435
theorem d212_436 : decode (mC 212) 436 = .ok (.iaload, 1) := by decide +kernel
theorem d212_437 : decode (mC 212) 437 = .ok (.invokevirtual 45, 3) := by decide +kernel
theorem x212_437 {sc : aSc} {d : Nat} {r : aRes} {L : List Value} {f : Nat → Nat → Int32} {g : Nat → Nat → Int64} {h1 h2 : Nat} {y0 : Int32} {z0 : Int32} {o : Nat} (hK : KK[o]? = some (.inl 7)) : Rn sc d 212 437 L [.int y0, .ref o, .int z0] (cS f g h1 h2) r ↔ ∃ (σ3 : aS) (v : Option Value), Cl sc d 145 [.ref o, .int y0] (cS f g h1 h2) (σ3, v) ∧ Rn sc d 212 440 L (v.toList ++ [.int z0]) σ3 r := r_callV (vs := [.int y0]) d212_437 (j := 145) (by decide +kernel) ⟨rfl, by decide, rfl, rfl⟩ (Nat.le_of_ble_eq_true rfl) hK
theorem d212_440 : decode (mC 212) 440 = .ok (.if_icmp .eq 895, 3) := by decide +kernel
theorem x212_440 {sc : aSc} {d : Nat} {r : aRes} {L : List Value} {st : List Value} {σ : aS} {x y : Int32} : Rn sc d 212 440 L (.int y :: .int x :: st) σ r ↔ if x = y then Rn sc d 212 1335 L st σ r else Rn sc d 212 443 L st σ r := r_icmp_eq d212_440 rfl
theorem d212_443 : decode (mC 212) 443 = .ok (.iconst 0, 1) := by decide +kernel
theorem x212_443 {sc : aSc} {d : Nat} {r : aRes} {L : List Value} {st : List Value} {σ : aS} : Rn sc d 212 443 L st σ r ↔ Rn sc d 212 444 L (.int 0 :: st) σ r := r_iconst d212_443 (by decide)
theorem d212_444 : decode (mC 212) 444 = .ok (.ireturn, 1) := by decide +kernel
theorem d212_445 : decode (mC 212) 445 = .ok (.aload_n 1, 1) := by decide +kernel
theorem x212_445 {sc : aSc} {d : Nat} {r : aRes} {a0 : Value} {x1 : Nat} {a2 : Value} {a3 : Value} {st : List Value} {σ : aS} : Rn sc d 212 445 [a0, .ref x1, a2, a3] st σ r ↔ Rn sc d 212 446 [a0, .ref x1, a2, a3] (.ref x1 :: st) σ r := r_aload_n d212_445 rfl
theorem d212_446 : decode (mC 212) 446 = .ok (.aload_n 0, 1) := by decide +kernel
theorem x212_446 {sc : aSc} {d : Nat} {r : aRes} {x0 : Nat} {a1 : Value} {a2 : Value} {a3 : Value} {st : List Value} {σ : aS} : Rn sc d 212 446 [.ref x0, a1, a2, a3] st σ r ↔ Rn sc d 212 447 [.ref x0, a1, a2, a3] (.ref x0 :: st) σ r := r_aload_n d212_446 rfl
theorem d212_447 : decode (mC 212) 447 = .ok (.iload_n 3, 1) := by decide +kernel
theorem x212_447 {sc : aSc} {d : Nat} {r : aRes} {a0 : Value} {a1 : Value} {a2 : Value} {x3 : Int32} {st : List Value} {σ : aS} : Rn sc d 212 447 [a0, a1, a2, .int x3] st σ r ↔ Rn sc d 212 448 [a0, a1, a2, .int x3] (.int x3 :: st) σ r := r_iload_n d212_447 rfl
theorem d212_448 : decode (mC 212) 448 = .ok (.iconst 1, 1) := by decide +kernel
theorem x212_448 {sc : aSc} {d : Nat} {r : aRes} {L : List Value} {st : List Value} {σ : aS} : Rn sc d 212 448 L st σ r ↔ Rn sc d 212 449 L (.int 1 :: st) σ r := r_iconst d212_448 (by decide)
theorem d212_449 : decode (mC 212) 449 = .ok (.iadd, 1) := by decide +kernel
theorem x212_449 {sc : aSc} {d : Nat} {r : aRes} {L : List Value} {st : List Value} {σ : aS} {x y : Int32} : Rn sc d 212 449 L (.int y :: .int x :: st) σ r ↔ Rn sc d 212 450 L (.int (x + y) :: st) σ r := r_iadd d212_449
theorem d212_450 : decode (mC 212) 450 = .ok (.iaload, 1) := by decide +kernel
theorem d212_451 : decode (mC 212) 451 = .ok (.aload_n 0, 1) := by decide +kernel
theorem x212_451 {sc : aSc} {d : Nat} {r : aRes} {x0 : Nat} {a1 : Value} {a2 : Value} {a3 : Value} {st : List Value} {σ : aS} : Rn sc d 212 451 [.ref x0, a1, a2, a3] st σ r ↔ Rn sc d 212 452 [.ref x0, a1, a2, a3] (.ref x0 :: st) σ r := r_aload_n d212_451 rfl
theorem d212_452 : decode (mC 212) 452 = .ok (.iload_n 3, 1) := by decide +kernel
theorem x212_452 {sc : aSc} {d : Nat} {r : aRes} {a0 : Value} {a1 : Value} {a2 : Value} {x3 : Int32} {st : List Value} {σ : aS} : Rn sc d 212 452 [a0, a1, a2, .int x3] st σ r ↔ Rn sc d 212 453 [a0, a1, a2, .int x3] (.int x3 :: st) σ r := r_iload_n d212_452 rfl
theorem d212_453 : decode (mC 212) 453 = .ok (.iconst 2, 1) := by decide +kernel
theorem x212_453 {sc : aSc} {d : Nat} {r : aRes} {L : List Value} {st : List Value} {σ : aS} : Rn sc d 212 453 L st σ r ↔ Rn sc d 212 454 L (.int 2 :: st) σ r := r_iconst d212_453 (by decide)
theorem d212_454 : decode (mC 212) 454 = .ok (.iadd, 1) := by decide +kernel
theorem x212_454 {sc : aSc} {d : Nat} {r : aRes} {L : List Value} {st : List Value} {σ : aS} {x y : Int32} : Rn sc d 212 454 L (.int y :: .int x :: st) σ r ↔ Rn sc d 212 455 L (.int (x + y) :: st) σ r := r_iadd d212_454
theorem d212_455 : decode (mC 212) 455 = .ok (.iaload, 1) := by decide +kernel
theorem d212_456 : decode (mC 212) 456 = .ok (.invokevirtual 46, 3) := by decide +kernel
theorem x212_456 {sc : aSc} {d : Nat} {r : aRes} {L : List Value} {f : Nat → Nat → Int32} {g : Nat → Nat → Int64} {h1 h2 : Nat} {y0 : Int32} {y1 : Int32}  {o : Nat} (hK : KK[o]? = some (.inl 6)) : Rn sc d 212 456 L [.int y0, .int y1, .ref o] (cS f g h1 h2) r ↔ ∃ (σ3 : aS) (v : Option Value), Cl sc d 73 [.ref o, .int y1, .int y0] (cS f g h1 h2) (σ3, v) ∧ Rn sc d 212 459 L (v.toList ++ []) σ3 r := r_callV (vs := [.int y0, .int y1]) d212_456 (j := 73) (by decide +kernel) ⟨rfl, by decide, rfl, rfl⟩ (Nat.le_of_ble_eq_true rfl) hK
theorem d212_459 : decode (mC 212) 459 = .ok (.aload_n 2, 1) := by decide +kernel
theorem x212_459 {sc : aSc} {d : Nat} {r : aRes} {a0 : Value} {a1 : Value} {x2 : Nat} {a3 : Value} {st : List Value} {σ : aS} : Rn sc d 212 459 [a0, a1, .ref x2, a3] st σ r ↔ Rn sc d 212 460 [a0, a1, .ref x2, a3] (.ref x2 :: st) σ r := r_aload_n d212_459 rfl
theorem d212_460 : decode (mC 212) 460 = .ok (.aload_n 0, 1) := by decide +kernel
theorem x212_460 {sc : aSc} {d : Nat} {r : aRes} {x0 : Nat} {a1 : Value} {a2 : Value} {a3 : Value} {st : List Value} {σ : aS} : Rn sc d 212 460 [.ref x0, a1, a2, a3] st σ r ↔ Rn sc d 212 461 [.ref x0, a1, a2, a3] (.ref x0 :: st) σ r := r_aload_n d212_460 rfl
theorem d212_461 : decode (mC 212) 461 = .ok (.iload_n 3, 1) := by decide +kernel
theorem x212_461 {sc : aSc} {d : Nat} {r : aRes} {a0 : Value} {a1 : Value} {a2 : Value} {x3 : Int32} {st : List Value} {σ : aS} : Rn sc d 212 461 [a0, a1, a2, .int x3] st σ r ↔ Rn sc d 212 462 [a0, a1, a2, .int x3] (.int x3 :: st) σ r := r_iload_n d212_461 rfl
theorem d212_462 : decode (mC 212) 462 = .ok (.iconst 1, 1) := by decide +kernel
theorem x212_462 {sc : aSc} {d : Nat} {r : aRes} {L : List Value} {st : List Value} {σ : aS} : Rn sc d 212 462 L st σ r ↔ Rn sc d 212 463 L (.int 1 :: st) σ r := r_iconst d212_462 (by decide)
theorem d212_463 : decode (mC 212) 463 = .ok (.iadd, 1) := by decide +kernel
theorem x212_463 {sc : aSc} {d : Nat} {r : aRes} {L : List Value} {st : List Value} {σ : aS} {x y : Int32} : Rn sc d 212 463 L (.int y :: .int x :: st) σ r ↔ Rn sc d 212 464 L (.int (x + y) :: st) σ r := r_iadd d212_463
theorem d212_464 : decode (mC 212) 464 = .ok (.iaload, 1) := by decide +kernel
theorem d212_465 : decode (mC 212) 465 = .ok (.aload_n 0, 1) := by decide +kernel
theorem x212_465 {sc : aSc} {d : Nat} {r : aRes} {x0 : Nat} {a1 : Value} {a2 : Value} {a3 : Value} {st : List Value} {σ : aS} : Rn sc d 212 465 [.ref x0, a1, a2, a3] st σ r ↔ Rn sc d 212 466 [.ref x0, a1, a2, a3] (.ref x0 :: st) σ r := r_aload_n d212_465 rfl
theorem d212_466 : decode (mC 212) 466 = .ok (.iload_n 3, 1) := by decide +kernel
theorem x212_466 {sc : aSc} {d : Nat} {r : aRes} {a0 : Value} {a1 : Value} {a2 : Value} {x3 : Int32} {st : List Value} {σ : aS} : Rn sc d 212 466 [a0, a1, a2, .int x3] st σ r ↔ Rn sc d 212 467 [a0, a1, a2, .int x3] (.int x3 :: st) σ r := r_iload_n d212_466 rfl
theorem d212_467 : decode (mC 212) 467 = .ok (.iconst 2, 1) := by decide +kernel
theorem x212_467 {sc : aSc} {d : Nat} {r : aRes} {L : List Value} {st : List Value} {σ : aS} : Rn sc d 212 467 L st σ r ↔ Rn sc d 212 468 L (.int 2 :: st) σ r := r_iconst d212_467 (by decide)
theorem d212_468 : decode (mC 212) 468 = .ok (.iadd, 1) := by decide +kernel
theorem x212_468 {sc : aSc} {d : Nat} {r : aRes} {L : List Value} {st : List Value} {σ : aS} {x y : Int32} : Rn sc d 212 468 L (.int y :: .int x :: st) σ r ↔ Rn sc d 212 469 L (.int (x + y) :: st) σ r := r_iadd d212_468
theorem d212_469 : decode (mC 212) 469 = .ok (.iaload, 1) := by decide +kernel
theorem d212_470 : decode (mC 212) 470 = .ok (.invokevirtual 49, 3) := by decide +kernel
theorem x212_470 {sc : aSc} {d : Nat} {r : aRes} {L : List Value} {f : Nat → Nat → Int32} {g : Nat → Nat → Int64} {h1 h2 : Nat} {y0 : Int32} {y1 : Int32} {z0 : Int32} {o : Nat} (hK : KK[o]? = some (.inl 7)) : Rn sc d 212 470 L [.int y0, .int y1, .ref o, .int z0] (cS f g h1 h2) r ↔ ∃ (σ3 : aS) (v : Option Value), Cl sc d 147 [.ref o, .int y1, .int y0] (cS f g h1 h2) (σ3, v) ∧ Rn sc d 212 473 L (v.toList ++ [.int z0]) σ3 r := r_callV (vs := [.int y0, .int y1]) d212_470 (j := 147) (by decide +kernel) ⟨rfl, by decide, rfl, rfl⟩ (Nat.le_of_ble_eq_true rfl) hK
theorem d212_473 : decode (mC 212) 473 = .ok (.if_icmp .eq 862, 3) := by decide +kernel
theorem x212_473 {sc : aSc} {d : Nat} {r : aRes} {L : List Value} {st : List Value} {σ : aS} {x y : Int32} : Rn sc d 212 473 L (.int y :: .int x :: st) σ r ↔ if x = y then Rn sc d 212 1335 L st σ r else Rn sc d 212 476 L st σ r := r_icmp_eq d212_473 rfl
theorem d212_476 : decode (mC 212) 476 = .ok (.iconst 0, 1) := by decide +kernel
theorem x212_476 {sc : aSc} {d : Nat} {r : aRes} {L : List Value} {st : List Value} {σ : aS} : Rn sc d 212 476 L st σ r ↔ Rn sc d 212 477 L (.int 0 :: st) σ r := r_iconst d212_476 (by decide)
theorem d212_477 : decode (mC 212) 477 = .ok (.ireturn, 1) := by decide +kernel
theorem d212_478 : decode (mC 212) 478 = .ok (.aload_n 1, 1) := by decide +kernel
theorem x212_478 {sc : aSc} {d : Nat} {r : aRes} {a0 : Value} {x1 : Nat} {a2 : Value} {a3 : Value} {st : List Value} {σ : aS} : Rn sc d 212 478 [a0, .ref x1, a2, a3] st σ r ↔ Rn sc d 212 479 [a0, .ref x1, a2, a3] (.ref x1 :: st) σ r := r_aload_n d212_478 rfl
theorem d212_479 : decode (mC 212) 479 = .ok (.invokevirtual 50, 3) := by decide +kernel
theorem x212_479 {sc : aSc} {d : Nat} {r : aRes} {L : List Value} {f : Nat → Nat → Int32} {g : Nat → Nat → Int64} {h1 h2 : Nat}   {o : Nat} (hK : KK[o]? = some (.inl 6)) : Rn sc d 212 479 L [.ref o] (cS f g h1 h2) r ↔ ∃ (σ3 : aS) (v : Option Value), Cl sc d 74 [.ref o] (cS f g h1 h2) (σ3, v) ∧ Rn sc d 212 482 L (v.toList ++ []) σ3 r := r_callV (vs := []) d212_479 (j := 74) (by decide +kernel) ⟨rfl, by decide, rfl, rfl⟩ (Nat.le_of_ble_eq_true rfl) hK
theorem d212_482 : decode (mC 212) 482 = .ok (.aload_n 2, 1) := by decide +kernel
theorem x212_482 {sc : aSc} {d : Nat} {r : aRes} {a0 : Value} {a1 : Value} {x2 : Nat} {a3 : Value} {st : List Value} {σ : aS} : Rn sc d 212 482 [a0, a1, .ref x2, a3] st σ r ↔ Rn sc d 212 483 [a0, a1, .ref x2, a3] (.ref x2 :: st) σ r := r_aload_n d212_482 rfl
theorem d212_483 : decode (mC 212) 483 = .ok (.invokevirtual 53, 3) := by decide +kernel
theorem x212_483 {sc : aSc} {d : Nat} {r : aRes} {L : List Value} {f : Nat → Nat → Int32} {g : Nat → Nat → Int64} {h1 h2 : Nat}  {z0 : Int32} {o : Nat} (hK : KK[o]? = some (.inl 7)) : Rn sc d 212 483 L [.ref o, .int z0] (cS f g h1 h2) r ↔ ∃ (σ3 : aS) (v : Option Value), Cl sc d 148 [.ref o] (cS f g h1 h2) (σ3, v) ∧ Rn sc d 212 486 L (v.toList ++ [.int z0]) σ3 r := r_callV (vs := []) d212_483 (j := 148) (by decide +kernel) ⟨rfl, by decide, rfl, rfl⟩ (Nat.le_of_ble_eq_true rfl) hK
theorem d212_486 : decode (mC 212) 486 = .ok (.if_icmp .eq 849, 3) := by decide +kernel
theorem x212_486 {sc : aSc} {d : Nat} {r : aRes} {L : List Value} {st : List Value} {σ : aS} {x y : Int32} : Rn sc d 212 486 L (.int y :: .int x :: st) σ r ↔ if x = y then Rn sc d 212 1335 L st σ r else Rn sc d 212 489 L st σ r := r_icmp_eq d212_486 rfl
theorem d212_489 : decode (mC 212) 489 = .ok (.iconst 0, 1) := by decide +kernel
theorem x212_489 {sc : aSc} {d : Nat} {r : aRes} {L : List Value} {st : List Value} {σ : aS} : Rn sc d 212 489 L st σ r ↔ Rn sc d 212 490 L (.int 0 :: st) σ r := r_iconst d212_489 (by decide)
theorem d212_490 : decode (mC 212) 490 = .ok (.ireturn, 1) := by decide +kernel
theorem d212_491 : decode (mC 212) 491 = .ok (.aload_n 1, 1) := by decide +kernel
theorem x212_491 {sc : aSc} {d : Nat} {r : aRes} {a0 : Value} {x1 : Nat} {a2 : Value} {a3 : Value} {st : List Value} {σ : aS} : Rn sc d 212 491 [a0, .ref x1, a2, a3] st σ r ↔ Rn sc d 212 492 [a0, .ref x1, a2, a3] (.ref x1 :: st) σ r := r_aload_n d212_491 rfl
theorem d212_492 : decode (mC 212) 492 = .ok (.aload_n 0, 1) := by decide +kernel
theorem x212_492 {sc : aSc} {d : Nat} {r : aRes} {x0 : Nat} {a1 : Value} {a2 : Value} {a3 : Value} {st : List Value} {σ : aS} : Rn sc d 212 492 [.ref x0, a1, a2, a3] st σ r ↔ Rn sc d 212 493 [.ref x0, a1, a2, a3] (.ref x0 :: st) σ r := r_aload_n d212_492 rfl
theorem d212_493 : decode (mC 212) 493 = .ok (.iload_n 3, 1) := by decide +kernel
theorem x212_493 {sc : aSc} {d : Nat} {r : aRes} {a0 : Value} {a1 : Value} {a2 : Value} {x3 : Int32} {st : List Value} {σ : aS} : Rn sc d 212 493 [a0, a1, a2, .int x3] st σ r ↔ Rn sc d 212 494 [a0, a1, a2, .int x3] (.int x3 :: st) σ r := r_iload_n d212_493 rfl
theorem d212_494 : decode (mC 212) 494 = .ok (.iconst 1, 1) := by decide +kernel
theorem x212_494 {sc : aSc} {d : Nat} {r : aRes} {L : List Value} {st : List Value} {σ : aS} : Rn sc d 212 494 L st σ r ↔ Rn sc d 212 495 L (.int 1 :: st) σ r := r_iconst d212_494 (by decide)
theorem d212_495 : decode (mC 212) 495 = .ok (.iadd, 1) := by decide +kernel
theorem x212_495 {sc : aSc} {d : Nat} {r : aRes} {L : List Value} {st : List Value} {σ : aS} {x y : Int32} : Rn sc d 212 495 L (.int y :: .int x :: st) σ r ↔ Rn sc d 212 496 L (.int (x + y) :: st) σ r := r_iadd d212_495
theorem d212_496 : decode (mC 212) 496 = .ok (.iaload, 1) := by decide +kernel
theorem d212_497 : decode (mC 212) 497 = .ok (.invokevirtual 54, 3) := by decide +kernel
theorem x212_497 {sc : aSc} {d : Nat} {r : aRes} {L : List Value} {f : Nat → Nat → Int32} {g : Nat → Nat → Int64} {h1 h2 : Nat} {y0 : Int32}  {o : Nat} (hK : KK[o]? = some (.inl 6)) : Rn sc d 212 497 L [.int y0, .ref o] (cS f g h1 h2) r ↔ ∃ (σ3 : aS) (v : Option Value), Cl sc d 75 [.ref o, .int y0] (cS f g h1 h2) (σ3, v) ∧ Rn sc d 212 500 L (v.toList ++ []) σ3 r := r_callV (vs := [.int y0]) d212_497 (j := 75) (by decide +kernel) ⟨rfl, by decide, rfl, rfl⟩ (Nat.le_of_ble_eq_true rfl) hK
theorem d212_500 : decode (mC 212) 500 = .ok (.aload_n 2, 1) := by decide +kernel
theorem x212_500 {sc : aSc} {d : Nat} {r : aRes} {a0 : Value} {a1 : Value} {x2 : Nat} {a3 : Value} {st : List Value} {σ : aS} : Rn sc d 212 500 [a0, a1, .ref x2, a3] st σ r ↔ Rn sc d 212 501 [a0, a1, .ref x2, a3] (.ref x2 :: st) σ r := r_aload_n d212_500 rfl
theorem d212_501 : decode (mC 212) 501 = .ok (.aload_n 0, 1) := by decide +kernel
theorem x212_501 {sc : aSc} {d : Nat} {r : aRes} {x0 : Nat} {a1 : Value} {a2 : Value} {a3 : Value} {st : List Value} {σ : aS} : Rn sc d 212 501 [.ref x0, a1, a2, a3] st σ r ↔ Rn sc d 212 502 [.ref x0, a1, a2, a3] (.ref x0 :: st) σ r := r_aload_n d212_501 rfl
theorem d212_502 : decode (mC 212) 502 = .ok (.iload_n 3, 1) := by decide +kernel
theorem x212_502 {sc : aSc} {d : Nat} {r : aRes} {a0 : Value} {a1 : Value} {a2 : Value} {x3 : Int32} {st : List Value} {σ : aS} : Rn sc d 212 502 [a0, a1, a2, .int x3] st σ r ↔ Rn sc d 212 503 [a0, a1, a2, .int x3] (.int x3 :: st) σ r := r_iload_n d212_502 rfl
theorem d212_503 : decode (mC 212) 503 = .ok (.iconst 1, 1) := by decide +kernel
theorem x212_503 {sc : aSc} {d : Nat} {r : aRes} {L : List Value} {st : List Value} {σ : aS} : Rn sc d 212 503 L st σ r ↔ Rn sc d 212 504 L (.int 1 :: st) σ r := r_iconst d212_503 (by decide)
theorem d212_504 : decode (mC 212) 504 = .ok (.iadd, 1) := by decide +kernel
theorem x212_504 {sc : aSc} {d : Nat} {r : aRes} {L : List Value} {st : List Value} {σ : aS} {x y : Int32} : Rn sc d 212 504 L (.int y :: .int x :: st) σ r ↔ Rn sc d 212 505 L (.int (x + y) :: st) σ r := r_iadd d212_504
theorem d212_505 : decode (mC 212) 505 = .ok (.iaload, 1) := by decide +kernel
theorem d212_506 : decode (mC 212) 506 = .ok (.invokevirtual 57, 3) := by decide +kernel
theorem x212_506 {sc : aSc} {d : Nat} {r : aRes} {L : List Value} {f : Nat → Nat → Int32} {g : Nat → Nat → Int64} {h1 h2 : Nat} {y0 : Int32} {z0 : Int32} {o : Nat} (hK : KK[o]? = some (.inl 7)) : Rn sc d 212 506 L [.int y0, .ref o, .int z0] (cS f g h1 h2) r ↔ ∃ (σ3 : aS) (v : Option Value), Cl sc d 149 [.ref o, .int y0] (cS f g h1 h2) (σ3, v) ∧ Rn sc d 212 509 L (v.toList ++ [.int z0]) σ3 r := r_callV (vs := [.int y0]) d212_506 (j := 149) (by decide +kernel) ⟨rfl, by decide, rfl, rfl⟩ (Nat.le_of_ble_eq_true rfl) hK
theorem d212_509 : decode (mC 212) 509 = .ok (.if_icmp .eq 826, 3) := by decide +kernel
theorem x212_509 {sc : aSc} {d : Nat} {r : aRes} {L : List Value} {st : List Value} {σ : aS} {x y : Int32} : Rn sc d 212 509 L (.int y :: .int x :: st) σ r ↔ if x = y then Rn sc d 212 1335 L st σ r else Rn sc d 212 512 L st σ r := r_icmp_eq d212_509 rfl
theorem d212_512 : decode (mC 212) 512 = .ok (.iconst 0, 1) := by decide +kernel
theorem x212_512 {sc : aSc} {d : Nat} {r : aRes} {L : List Value} {st : List Value} {σ : aS} : Rn sc d 212 512 L st σ r ↔ Rn sc d 212 513 L (.int 0 :: st) σ r := r_iconst d212_512 (by decide)
theorem d212_513 : decode (mC 212) 513 = .ok (.ireturn, 1) := by decide +kernel
theorem d212_514 : decode (mC 212) 514 = .ok (.aload_n 1, 1) := by decide +kernel
theorem x212_514 {sc : aSc} {d : Nat} {r : aRes} {a0 : Value} {x1 : Nat} {a2 : Value} {a3 : Value} {st : List Value} {σ : aS} : Rn sc d 212 514 [a0, .ref x1, a2, a3] st σ r ↔ Rn sc d 212 515 [a0, .ref x1, a2, a3] (.ref x1 :: st) σ r := r_aload_n d212_514 rfl
theorem d212_515 : decode (mC 212) 515 = .ok (.aload_n 0, 1) := by decide +kernel
theorem x212_515 {sc : aSc} {d : Nat} {r : aRes} {x0 : Nat} {a1 : Value} {a2 : Value} {a3 : Value} {st : List Value} {σ : aS} : Rn sc d 212 515 [.ref x0, a1, a2, a3] st σ r ↔ Rn sc d 212 516 [.ref x0, a1, a2, a3] (.ref x0 :: st) σ r := r_aload_n d212_515 rfl
theorem d212_516 : decode (mC 212) 516 = .ok (.iload_n 3, 1) := by decide +kernel
theorem x212_516 {sc : aSc} {d : Nat} {r : aRes} {a0 : Value} {a1 : Value} {a2 : Value} {x3 : Int32} {st : List Value} {σ : aS} : Rn sc d 212 516 [a0, a1, a2, .int x3] st σ r ↔ Rn sc d 212 517 [a0, a1, a2, .int x3] (.int x3 :: st) σ r := r_iload_n d212_516 rfl
theorem d212_517 : decode (mC 212) 517 = .ok (.iconst 1, 1) := by decide +kernel
theorem x212_517 {sc : aSc} {d : Nat} {r : aRes} {L : List Value} {st : List Value} {σ : aS} : Rn sc d 212 517 L st σ r ↔ Rn sc d 212 518 L (.int 1 :: st) σ r := r_iconst d212_517 (by decide)
theorem d212_518 : decode (mC 212) 518 = .ok (.iadd, 1) := by decide +kernel
theorem x212_518 {sc : aSc} {d : Nat} {r : aRes} {L : List Value} {st : List Value} {σ : aS} {x y : Int32} : Rn sc d 212 518 L (.int y :: .int x :: st) σ r ↔ Rn sc d 212 519 L (.int (x + y) :: st) σ r := r_iadd d212_518
theorem d212_519 : decode (mC 212) 519 = .ok (.iaload, 1) := by decide +kernel
theorem d212_520 : decode (mC 212) 520 = .ok (.aload_n 0, 1) := by decide +kernel
theorem x212_520 {sc : aSc} {d : Nat} {r : aRes} {x0 : Nat} {a1 : Value} {a2 : Value} {a3 : Value} {st : List Value} {σ : aS} : Rn sc d 212 520 [.ref x0, a1, a2, a3] st σ r ↔ Rn sc d 212 521 [.ref x0, a1, a2, a3] (.ref x0 :: st) σ r := r_aload_n d212_520 rfl
theorem d212_521 : decode (mC 212) 521 = .ok (.iload_n 3, 1) := by decide +kernel
theorem x212_521 {sc : aSc} {d : Nat} {r : aRes} {a0 : Value} {a1 : Value} {a2 : Value} {x3 : Int32} {st : List Value} {σ : aS} : Rn sc d 212 521 [a0, a1, a2, .int x3] st σ r ↔ Rn sc d 212 522 [a0, a1, a2, .int x3] (.int x3 :: st) σ r := r_iload_n d212_521 rfl
theorem d212_522 : decode (mC 212) 522 = .ok (.iconst 2, 1) := by decide +kernel
theorem x212_522 {sc : aSc} {d : Nat} {r : aRes} {L : List Value} {st : List Value} {σ : aS} : Rn sc d 212 522 L st σ r ↔ Rn sc d 212 523 L (.int 2 :: st) σ r := r_iconst d212_522 (by decide)
theorem d212_523 : decode (mC 212) 523 = .ok (.iadd, 1) := by decide +kernel
theorem x212_523 {sc : aSc} {d : Nat} {r : aRes} {L : List Value} {st : List Value} {σ : aS} {x y : Int32} : Rn sc d 212 523 L (.int y :: .int x :: st) σ r ↔ Rn sc d 212 524 L (.int (x + y) :: st) σ r := r_iadd d212_523
theorem d212_524 : decode (mC 212) 524 = .ok (.iaload, 1) := by decide +kernel
theorem d212_525 : decode (mC 212) 525 = .ok (.aload_n 0, 1) := by decide +kernel
theorem x212_525 {sc : aSc} {d : Nat} {r : aRes} {x0 : Nat} {a1 : Value} {a2 : Value} {a3 : Value} {st : List Value} {σ : aS} : Rn sc d 212 525 [.ref x0, a1, a2, a3] st σ r ↔ Rn sc d 212 526 [.ref x0, a1, a2, a3] (.ref x0 :: st) σ r := r_aload_n d212_525 rfl
theorem d212_526 : decode (mC 212) 526 = .ok (.iload_n 3, 1) := by decide +kernel
theorem x212_526 {sc : aSc} {d : Nat} {r : aRes} {a0 : Value} {a1 : Value} {a2 : Value} {x3 : Int32} {st : List Value} {σ : aS} : Rn sc d 212 526 [a0, a1, a2, .int x3] st σ r ↔ Rn sc d 212 527 [a0, a1, a2, .int x3] (.int x3 :: st) σ r := r_iload_n d212_526 rfl
theorem d212_527 : decode (mC 212) 527 = .ok (.iconst 3, 1) := by decide +kernel
theorem x212_527 {sc : aSc} {d : Nat} {r : aRes} {L : List Value} {st : List Value} {σ : aS} : Rn sc d 212 527 L st σ r ↔ Rn sc d 212 528 L (.int 3 :: st) σ r := r_iconst d212_527 (by decide)
theorem d212_528 : decode (mC 212) 528 = .ok (.iadd, 1) := by decide +kernel
theorem x212_528 {sc : aSc} {d : Nat} {r : aRes} {L : List Value} {st : List Value} {σ : aS} {x y : Int32} : Rn sc d 212 528 L (.int y :: .int x :: st) σ r ↔ Rn sc d 212 529 L (.int (x + y) :: st) σ r := r_iadd d212_528
theorem d212_529 : decode (mC 212) 529 = .ok (.iaload, 1) := by decide +kernel
theorem d212_530 : decode (mC 212) 530 = .ok (.invokevirtual 58, 3) := by decide +kernel
theorem x212_530 {sc : aSc} {d : Nat} {r : aRes} {L : List Value} {f : Nat → Nat → Int32} {g : Nat → Nat → Int64} {h1 h2 : Nat} {y0 : Int32} {y1 : Int32} {y2 : Int32}  {o : Nat} (hK : KK[o]? = some (.inl 6)) : Rn sc d 212 530 L [.int y0, .int y1, .int y2, .ref o] (cS f g h1 h2) r ↔ ∃ (σ3 : aS) (v : Option Value), Cl sc d 76 [.ref o, .int y2, .int y1, .int y0] (cS f g h1 h2) (σ3, v) ∧ Rn sc d 212 533 L (v.toList ++ []) σ3 r := r_callV (vs := [.int y0, .int y1, .int y2]) d212_530 (j := 76) (by decide +kernel) ⟨rfl, by decide, rfl, rfl⟩ (Nat.le_of_ble_eq_true rfl) hK
theorem d212_533 : decode (mC 212) 533 = .ok (.aload_n 2, 1) := by decide +kernel
theorem x212_533 {sc : aSc} {d : Nat} {r : aRes} {a0 : Value} {a1 : Value} {x2 : Nat} {a3 : Value} {st : List Value} {σ : aS} : Rn sc d 212 533 [a0, a1, .ref x2, a3] st σ r ↔ Rn sc d 212 534 [a0, a1, .ref x2, a3] (.ref x2 :: st) σ r := r_aload_n d212_533 rfl
theorem d212_534 : decode (mC 212) 534 = .ok (.aload_n 0, 1) := by decide +kernel
theorem x212_534 {sc : aSc} {d : Nat} {r : aRes} {x0 : Nat} {a1 : Value} {a2 : Value} {a3 : Value} {st : List Value} {σ : aS} : Rn sc d 212 534 [.ref x0, a1, a2, a3] st σ r ↔ Rn sc d 212 535 [.ref x0, a1, a2, a3] (.ref x0 :: st) σ r := r_aload_n d212_534 rfl
theorem d212_535 : decode (mC 212) 535 = .ok (.iload_n 3, 1) := by decide +kernel
theorem x212_535 {sc : aSc} {d : Nat} {r : aRes} {a0 : Value} {a1 : Value} {a2 : Value} {x3 : Int32} {st : List Value} {σ : aS} : Rn sc d 212 535 [a0, a1, a2, .int x3] st σ r ↔ Rn sc d 212 536 [a0, a1, a2, .int x3] (.int x3 :: st) σ r := r_iload_n d212_535 rfl
theorem d212_536 : decode (mC 212) 536 = .ok (.iconst 1, 1) := by decide +kernel
theorem x212_536 {sc : aSc} {d : Nat} {r : aRes} {L : List Value} {st : List Value} {σ : aS} : Rn sc d 212 536 L st σ r ↔ Rn sc d 212 537 L (.int 1 :: st) σ r := r_iconst d212_536 (by decide)
theorem d212_537 : decode (mC 212) 537 = .ok (.iadd, 1) := by decide +kernel
theorem x212_537 {sc : aSc} {d : Nat} {r : aRes} {L : List Value} {st : List Value} {σ : aS} {x y : Int32} : Rn sc d 212 537 L (.int y :: .int x :: st) σ r ↔ Rn sc d 212 538 L (.int (x + y) :: st) σ r := r_iadd d212_537
theorem d212_538 : decode (mC 212) 538 = .ok (.iaload, 1) := by decide +kernel
theorem d212_539 : decode (mC 212) 539 = .ok (.aload_n 0, 1) := by decide +kernel
theorem x212_539 {sc : aSc} {d : Nat} {r : aRes} {x0 : Nat} {a1 : Value} {a2 : Value} {a3 : Value} {st : List Value} {σ : aS} : Rn sc d 212 539 [.ref x0, a1, a2, a3] st σ r ↔ Rn sc d 212 540 [.ref x0, a1, a2, a3] (.ref x0 :: st) σ r := r_aload_n d212_539 rfl
theorem d212_540 : decode (mC 212) 540 = .ok (.iload_n 3, 1) := by decide +kernel
theorem x212_540 {sc : aSc} {d : Nat} {r : aRes} {a0 : Value} {a1 : Value} {a2 : Value} {x3 : Int32} {st : List Value} {σ : aS} : Rn sc d 212 540 [a0, a1, a2, .int x3] st σ r ↔ Rn sc d 212 541 [a0, a1, a2, .int x3] (.int x3 :: st) σ r := r_iload_n d212_540 rfl
theorem d212_541 : decode (mC 212) 541 = .ok (.iconst 2, 1) := by decide +kernel
theorem x212_541 {sc : aSc} {d : Nat} {r : aRes} {L : List Value} {st : List Value} {σ : aS} : Rn sc d 212 541 L st σ r ↔ Rn sc d 212 542 L (.int 2 :: st) σ r := r_iconst d212_541 (by decide)
theorem d212_542 : decode (mC 212) 542 = .ok (.iadd, 1) := by decide +kernel
theorem x212_542 {sc : aSc} {d : Nat} {r : aRes} {L : List Value} {st : List Value} {σ : aS} {x y : Int32} : Rn sc d 212 542 L (.int y :: .int x :: st) σ r ↔ Rn sc d 212 543 L (.int (x + y) :: st) σ r := r_iadd d212_542
theorem d212_543 : decode (mC 212) 543 = .ok (.iaload, 1) := by decide +kernel
theorem d212_544 : decode (mC 212) 544 = .ok (.aload_n 0, 1) := by decide +kernel
theorem x212_544 {sc : aSc} {d : Nat} {r : aRes} {x0 : Nat} {a1 : Value} {a2 : Value} {a3 : Value} {st : List Value} {σ : aS} : Rn sc d 212 544 [.ref x0, a1, a2, a3] st σ r ↔ Rn sc d 212 545 [.ref x0, a1, a2, a3] (.ref x0 :: st) σ r := r_aload_n d212_544 rfl
theorem d212_545 : decode (mC 212) 545 = .ok (.iload_n 3, 1) := by decide +kernel
theorem x212_545 {sc : aSc} {d : Nat} {r : aRes} {a0 : Value} {a1 : Value} {a2 : Value} {x3 : Int32} {st : List Value} {σ : aS} : Rn sc d 212 545 [a0, a1, a2, .int x3] st σ r ↔ Rn sc d 212 546 [a0, a1, a2, .int x3] (.int x3 :: st) σ r := r_iload_n d212_545 rfl
theorem d212_546 : decode (mC 212) 546 = .ok (.iconst 3, 1) := by decide +kernel
theorem x212_546 {sc : aSc} {d : Nat} {r : aRes} {L : List Value} {st : List Value} {σ : aS} : Rn sc d 212 546 L st σ r ↔ Rn sc d 212 547 L (.int 3 :: st) σ r := r_iconst d212_546 (by decide)
theorem d212_547 : decode (mC 212) 547 = .ok (.iadd, 1) := by decide +kernel
theorem x212_547 {sc : aSc} {d : Nat} {r : aRes} {L : List Value} {st : List Value} {σ : aS} {x y : Int32} : Rn sc d 212 547 L (.int y :: .int x :: st) σ r ↔ Rn sc d 212 548 L (.int (x + y) :: st) σ r := r_iadd d212_547
theorem d212_548 : decode (mC 212) 548 = .ok (.iaload, 1) := by decide +kernel
theorem d212_549 : decode (mC 212) 549 = .ok (.invokevirtual 61, 3) := by decide +kernel
theorem x212_549 {sc : aSc} {d : Nat} {r : aRes} {L : List Value} {f : Nat → Nat → Int32} {g : Nat → Nat → Int64} {h1 h2 : Nat} {y0 : Int32} {y1 : Int32} {y2 : Int32} {z0 : Int32} {o : Nat} (hK : KK[o]? = some (.inl 7)) : Rn sc d 212 549 L [.int y0, .int y1, .int y2, .ref o, .int z0] (cS f g h1 h2) r ↔ ∃ (σ3 : aS) (v : Option Value), Cl sc d 150 [.ref o, .int y2, .int y1, .int y0] (cS f g h1 h2) (σ3, v) ∧ Rn sc d 212 552 L (v.toList ++ [.int z0]) σ3 r := r_callV (vs := [.int y0, .int y1, .int y2]) d212_549 (j := 150) (by decide +kernel) ⟨rfl, by decide, rfl, rfl⟩ (Nat.le_of_ble_eq_true rfl) hK
theorem d212_552 : decode (mC 212) 552 = .ok (.if_icmp .eq 783, 3) := by decide +kernel
theorem x212_552 {sc : aSc} {d : Nat} {r : aRes} {L : List Value} {st : List Value} {σ : aS} {x y : Int32} : Rn sc d 212 552 L (.int y :: .int x :: st) σ r ↔ if x = y then Rn sc d 212 1335 L st σ r else Rn sc d 212 555 L st σ r := r_icmp_eq d212_552 rfl
theorem d212_555 : decode (mC 212) 555 = .ok (.iconst 0, 1) := by decide +kernel
theorem x212_555 {sc : aSc} {d : Nat} {r : aRes} {L : List Value} {st : List Value} {σ : aS} : Rn sc d 212 555 L st σ r ↔ Rn sc d 212 556 L (.int 0 :: st) σ r := r_iconst d212_555 (by decide)
theorem d212_556 : decode (mC 212) 556 = .ok (.ireturn, 1) := by decide +kernel
theorem d212_557 : decode (mC 212) 557 = .ok (.aload_n 1, 1) := by decide +kernel
theorem x212_557 {sc : aSc} {d : Nat} {r : aRes} {a0 : Value} {x1 : Nat} {a2 : Value} {a3 : Value} {st : List Value} {σ : aS} : Rn sc d 212 557 [a0, .ref x1, a2, a3] st σ r ↔ Rn sc d 212 558 [a0, .ref x1, a2, a3] (.ref x1 :: st) σ r := r_aload_n d212_557 rfl
theorem d212_558 : decode (mC 212) 558 = .ok (.aload_n 0, 1) := by decide +kernel
theorem x212_558 {sc : aSc} {d : Nat} {r : aRes} {x0 : Nat} {a1 : Value} {a2 : Value} {a3 : Value} {st : List Value} {σ : aS} : Rn sc d 212 558 [.ref x0, a1, a2, a3] st σ r ↔ Rn sc d 212 559 [.ref x0, a1, a2, a3] (.ref x0 :: st) σ r := r_aload_n d212_558 rfl
theorem d212_559 : decode (mC 212) 559 = .ok (.iload_n 3, 1) := by decide +kernel
theorem x212_559 {sc : aSc} {d : Nat} {r : aRes} {a0 : Value} {a1 : Value} {a2 : Value} {x3 : Int32} {st : List Value} {σ : aS} : Rn sc d 212 559 [a0, a1, a2, .int x3] st σ r ↔ Rn sc d 212 560 [a0, a1, a2, .int x3] (.int x3 :: st) σ r := r_iload_n d212_559 rfl
theorem d212_560 : decode (mC 212) 560 = .ok (.iconst 1, 1) := by decide +kernel
theorem x212_560 {sc : aSc} {d : Nat} {r : aRes} {L : List Value} {st : List Value} {σ : aS} : Rn sc d 212 560 L st σ r ↔ Rn sc d 212 561 L (.int 1 :: st) σ r := r_iconst d212_560 (by decide)
theorem d212_561 : decode (mC 212) 561 = .ok (.iadd, 1) := by decide +kernel
theorem x212_561 {sc : aSc} {d : Nat} {r : aRes} {L : List Value} {st : List Value} {σ : aS} {x y : Int32} : Rn sc d 212 561 L (.int y :: .int x :: st) σ r ↔ Rn sc d 212 562 L (.int (x + y) :: st) σ r := r_iadd d212_561
theorem d212_562 : decode (mC 212) 562 = .ok (.iaload, 1) := by decide +kernel
theorem d212_563 : decode (mC 212) 563 = .ok (.aload_n 0, 1) := by decide +kernel
theorem x212_563 {sc : aSc} {d : Nat} {r : aRes} {x0 : Nat} {a1 : Value} {a2 : Value} {a3 : Value} {st : List Value} {σ : aS} : Rn sc d 212 563 [.ref x0, a1, a2, a3] st σ r ↔ Rn sc d 212 564 [.ref x0, a1, a2, a3] (.ref x0 :: st) σ r := r_aload_n d212_563 rfl
theorem d212_564 : decode (mC 212) 564 = .ok (.iload_n 3, 1) := by decide +kernel
theorem x212_564 {sc : aSc} {d : Nat} {r : aRes} {a0 : Value} {a1 : Value} {a2 : Value} {x3 : Int32} {st : List Value} {σ : aS} : Rn sc d 212 564 [a0, a1, a2, .int x3] st σ r ↔ Rn sc d 212 565 [a0, a1, a2, .int x3] (.int x3 :: st) σ r := r_iload_n d212_564 rfl
theorem d212_565 : decode (mC 212) 565 = .ok (.iconst 2, 1) := by decide +kernel
theorem x212_565 {sc : aSc} {d : Nat} {r : aRes} {L : List Value} {st : List Value} {σ : aS} : Rn sc d 212 565 L st σ r ↔ Rn sc d 212 566 L (.int 2 :: st) σ r := r_iconst d212_565 (by decide)
theorem d212_566 : decode (mC 212) 566 = .ok (.iadd, 1) := by decide +kernel
theorem x212_566 {sc : aSc} {d : Nat} {r : aRes} {L : List Value} {st : List Value} {σ : aS} {x y : Int32} : Rn sc d 212 566 L (.int y :: .int x :: st) σ r ↔ Rn sc d 212 567 L (.int (x + y) :: st) σ r := r_iadd d212_566
theorem d212_567 : decode (mC 212) 567 = .ok (.iaload, 1) := by decide +kernel
theorem d212_568 : decode (mC 212) 568 = .ok (.invokevirtual 62, 3) := by decide +kernel
theorem x212_568 {sc : aSc} {d : Nat} {r : aRes} {L : List Value} {f : Nat → Nat → Int32} {g : Nat → Nat → Int64} {h1 h2 : Nat} {y0 : Int32} {y1 : Int32}  {o : Nat} (hK : KK[o]? = some (.inl 6)) : Rn sc d 212 568 L [.int y0, .int y1, .ref o] (cS f g h1 h2) r ↔ ∃ (σ3 : aS) (v : Option Value), Cl sc d 77 [.ref o, .int y1, .int y0] (cS f g h1 h2) (σ3, v) ∧ Rn sc d 212 571 L (v.toList ++ []) σ3 r := r_callV (vs := [.int y0, .int y1]) d212_568 (j := 77) (by decide +kernel) ⟨rfl, by decide, rfl, rfl⟩ (Nat.le_of_ble_eq_true rfl) hK
theorem d212_571 : decode (mC 212) 571 = .ok (.aload_n 2, 1) := by decide +kernel
theorem x212_571 {sc : aSc} {d : Nat} {r : aRes} {a0 : Value} {a1 : Value} {x2 : Nat} {a3 : Value} {st : List Value} {σ : aS} : Rn sc d 212 571 [a0, a1, .ref x2, a3] st σ r ↔ Rn sc d 212 572 [a0, a1, .ref x2, a3] (.ref x2 :: st) σ r := r_aload_n d212_571 rfl
theorem d212_572 : decode (mC 212) 572 = .ok (.aload_n 0, 1) := by decide +kernel
theorem x212_572 {sc : aSc} {d : Nat} {r : aRes} {x0 : Nat} {a1 : Value} {a2 : Value} {a3 : Value} {st : List Value} {σ : aS} : Rn sc d 212 572 [.ref x0, a1, a2, a3] st σ r ↔ Rn sc d 212 573 [.ref x0, a1, a2, a3] (.ref x0 :: st) σ r := r_aload_n d212_572 rfl
theorem d212_573 : decode (mC 212) 573 = .ok (.iload_n 3, 1) := by decide +kernel
theorem x212_573 {sc : aSc} {d : Nat} {r : aRes} {a0 : Value} {a1 : Value} {a2 : Value} {x3 : Int32} {st : List Value} {σ : aS} : Rn sc d 212 573 [a0, a1, a2, .int x3] st σ r ↔ Rn sc d 212 574 [a0, a1, a2, .int x3] (.int x3 :: st) σ r := r_iload_n d212_573 rfl
theorem d212_574 : decode (mC 212) 574 = .ok (.iconst 1, 1) := by decide +kernel
theorem x212_574 {sc : aSc} {d : Nat} {r : aRes} {L : List Value} {st : List Value} {σ : aS} : Rn sc d 212 574 L st σ r ↔ Rn sc d 212 575 L (.int 1 :: st) σ r := r_iconst d212_574 (by decide)
theorem d212_575 : decode (mC 212) 575 = .ok (.iadd, 1) := by decide +kernel
theorem x212_575 {sc : aSc} {d : Nat} {r : aRes} {L : List Value} {st : List Value} {σ : aS} {x y : Int32} : Rn sc d 212 575 L (.int y :: .int x :: st) σ r ↔ Rn sc d 212 576 L (.int (x + y) :: st) σ r := r_iadd d212_575
theorem d212_576 : decode (mC 212) 576 = .ok (.iaload, 1) := by decide +kernel
theorem d212_577 : decode (mC 212) 577 = .ok (.aload_n 0, 1) := by decide +kernel
theorem x212_577 {sc : aSc} {d : Nat} {r : aRes} {x0 : Nat} {a1 : Value} {a2 : Value} {a3 : Value} {st : List Value} {σ : aS} : Rn sc d 212 577 [.ref x0, a1, a2, a3] st σ r ↔ Rn sc d 212 578 [.ref x0, a1, a2, a3] (.ref x0 :: st) σ r := r_aload_n d212_577 rfl
theorem d212_578 : decode (mC 212) 578 = .ok (.iload_n 3, 1) := by decide +kernel
theorem x212_578 {sc : aSc} {d : Nat} {r : aRes} {a0 : Value} {a1 : Value} {a2 : Value} {x3 : Int32} {st : List Value} {σ : aS} : Rn sc d 212 578 [a0, a1, a2, .int x3] st σ r ↔ Rn sc d 212 579 [a0, a1, a2, .int x3] (.int x3 :: st) σ r := r_iload_n d212_578 rfl
theorem d212_579 : decode (mC 212) 579 = .ok (.iconst 2, 1) := by decide +kernel
theorem x212_579 {sc : aSc} {d : Nat} {r : aRes} {L : List Value} {st : List Value} {σ : aS} : Rn sc d 212 579 L st σ r ↔ Rn sc d 212 580 L (.int 2 :: st) σ r := r_iconst d212_579 (by decide)
theorem d212_580 : decode (mC 212) 580 = .ok (.iadd, 1) := by decide +kernel
theorem x212_580 {sc : aSc} {d : Nat} {r : aRes} {L : List Value} {st : List Value} {σ : aS} {x y : Int32} : Rn sc d 212 580 L (.int y :: .int x :: st) σ r ↔ Rn sc d 212 581 L (.int (x + y) :: st) σ r := r_iadd d212_580
theorem d212_581 : decode (mC 212) 581 = .ok (.iaload, 1) := by decide +kernel
theorem d212_582 : decode (mC 212) 582 = .ok (.invokevirtual 65, 3) := by decide +kernel
theorem x212_582 {sc : aSc} {d : Nat} {r : aRes} {L : List Value} {f : Nat → Nat → Int32} {g : Nat → Nat → Int64} {h1 h2 : Nat} {y0 : Int32} {y1 : Int32} {z0 : Int32} {o : Nat} (hK : KK[o]? = some (.inl 7)) : Rn sc d 212 582 L [.int y0, .int y1, .ref o, .int z0] (cS f g h1 h2) r ↔ ∃ (σ3 : aS) (v : Option Value), Cl sc d 155 [.ref o, .int y1, .int y0] (cS f g h1 h2) (σ3, v) ∧ Rn sc d 212 585 L (v.toList ++ [.int z0]) σ3 r := r_callV (vs := [.int y0, .int y1]) d212_582 (j := 155) (by decide +kernel) ⟨rfl, by decide, rfl, rfl⟩ (Nat.le_of_ble_eq_true rfl) hK
theorem d212_585 : decode (mC 212) 585 = .ok (.if_icmp .eq 750, 3) := by decide +kernel
theorem x212_585 {sc : aSc} {d : Nat} {r : aRes} {L : List Value} {st : List Value} {σ : aS} {x y : Int32} : Rn sc d 212 585 L (.int y :: .int x :: st) σ r ↔ if x = y then Rn sc d 212 1335 L st σ r else Rn sc d 212 588 L st σ r := r_icmp_eq d212_585 rfl
theorem d212_588 : decode (mC 212) 588 = .ok (.iconst 0, 1) := by decide +kernel
theorem x212_588 {sc : aSc} {d : Nat} {r : aRes} {L : List Value} {st : List Value} {σ : aS} : Rn sc d 212 588 L st σ r ↔ Rn sc d 212 589 L (.int 0 :: st) σ r := r_iconst d212_588 (by decide)
theorem d212_589 : decode (mC 212) 589 = .ok (.ireturn, 1) := by decide +kernel
theorem d212_590 : decode (mC 212) 590 = .ok (.aload_n 1, 1) := by decide +kernel
theorem x212_590 {sc : aSc} {d : Nat} {r : aRes} {a0 : Value} {x1 : Nat} {a2 : Value} {a3 : Value} {st : List Value} {σ : aS} : Rn sc d 212 590 [a0, .ref x1, a2, a3] st σ r ↔ Rn sc d 212 591 [a0, .ref x1, a2, a3] (.ref x1 :: st) σ r := r_aload_n d212_590 rfl
theorem d212_591 : decode (mC 212) 591 = .ok (.invokevirtual 66, 3) := by decide +kernel
theorem x212_591 {sc : aSc} {d : Nat} {r : aRes} {L : List Value} {f : Nat → Nat → Int32} {g : Nat → Nat → Int64} {h1 h2 : Nat}   {o : Nat} (hK : KK[o]? = some (.inl 6)) : Rn sc d 212 591 L [.ref o] (cS f g h1 h2) r ↔ ∃ (σ3 : aS) (v : Option Value), Cl sc d 78 [.ref o] (cS f g h1 h2) (σ3, v) ∧ Rn sc d 212 594 L (v.toList ++ []) σ3 r := r_callV (vs := []) d212_591 (j := 78) (by decide +kernel) ⟨rfl, by decide, rfl, rfl⟩ (Nat.le_of_ble_eq_true rfl) hK
theorem d212_594 : decode (mC 212) 594 = .ok (.aload_n 2, 1) := by decide +kernel
theorem x212_594 {sc : aSc} {d : Nat} {r : aRes} {a0 : Value} {a1 : Value} {x2 : Nat} {a3 : Value} {st : List Value} {σ : aS} : Rn sc d 212 594 [a0, a1, .ref x2, a3] st σ r ↔ Rn sc d 212 595 [a0, a1, .ref x2, a3] (.ref x2 :: st) σ r := r_aload_n d212_594 rfl
theorem d212_595 : decode (mC 212) 595 = .ok (.invokevirtual 69, 3) := by decide +kernel
theorem x212_595 {sc : aSc} {d : Nat} {r : aRes} {L : List Value} {f : Nat → Nat → Int32} {g : Nat → Nat → Int64} {h1 h2 : Nat}  {z0 : Int32} {o : Nat} (hK : KK[o]? = some (.inl 7)) : Rn sc d 212 595 L [.ref o, .int z0] (cS f g h1 h2) r ↔ ∃ (σ3 : aS) (v : Option Value), Cl sc d 156 [.ref o] (cS f g h1 h2) (σ3, v) ∧ Rn sc d 212 598 L (v.toList ++ [.int z0]) σ3 r := r_callV (vs := []) d212_595 (j := 156) (by decide +kernel) ⟨rfl, by decide, rfl, rfl⟩ (Nat.le_of_ble_eq_true rfl) hK
theorem d212_598 : decode (mC 212) 598 = .ok (.if_icmp .eq 737, 3) := by decide +kernel
theorem x212_598 {sc : aSc} {d : Nat} {r : aRes} {L : List Value} {st : List Value} {σ : aS} {x y : Int32} : Rn sc d 212 598 L (.int y :: .int x :: st) σ r ↔ if x = y then Rn sc d 212 1335 L st σ r else Rn sc d 212 601 L st σ r := r_icmp_eq d212_598 rfl
theorem d212_601 : decode (mC 212) 601 = .ok (.iconst 0, 1) := by decide +kernel
theorem x212_601 {sc : aSc} {d : Nat} {r : aRes} {L : List Value} {st : List Value} {σ : aS} : Rn sc d 212 601 L st σ r ↔ Rn sc d 212 602 L (.int 0 :: st) σ r := r_iconst d212_601 (by decide)
theorem d212_602 : decode (mC 212) 602 = .ok (.ireturn, 1) := by decide +kernel
theorem d212_603 : decode (mC 212) 603 = .ok (.aload_n 1, 1) := by decide +kernel
theorem x212_603 {sc : aSc} {d : Nat} {r : aRes} {a0 : Value} {x1 : Nat} {a2 : Value} {a3 : Value} {st : List Value} {σ : aS} : Rn sc d 212 603 [a0, .ref x1, a2, a3] st σ r ↔ Rn sc d 212 604 [a0, .ref x1, a2, a3] (.ref x1 :: st) σ r := r_aload_n d212_603 rfl
theorem d212_604 : decode (mC 212) 604 = .ok (.aload_n 0, 1) := by decide +kernel
theorem x212_604 {sc : aSc} {d : Nat} {r : aRes} {x0 : Nat} {a1 : Value} {a2 : Value} {a3 : Value} {st : List Value} {σ : aS} : Rn sc d 212 604 [.ref x0, a1, a2, a3] st σ r ↔ Rn sc d 212 605 [.ref x0, a1, a2, a3] (.ref x0 :: st) σ r := r_aload_n d212_604 rfl
theorem d212_605 : decode (mC 212) 605 = .ok (.iload_n 3, 1) := by decide +kernel
theorem x212_605 {sc : aSc} {d : Nat} {r : aRes} {a0 : Value} {a1 : Value} {a2 : Value} {x3 : Int32} {st : List Value} {σ : aS} : Rn sc d 212 605 [a0, a1, a2, .int x3] st σ r ↔ Rn sc d 212 606 [a0, a1, a2, .int x3] (.int x3 :: st) σ r := r_iload_n d212_605 rfl
theorem d212_606 : decode (mC 212) 606 = .ok (.iconst 1, 1) := by decide +kernel
theorem x212_606 {sc : aSc} {d : Nat} {r : aRes} {L : List Value} {st : List Value} {σ : aS} : Rn sc d 212 606 L st σ r ↔ Rn sc d 212 607 L (.int 1 :: st) σ r := r_iconst d212_606 (by decide)
theorem d212_607 : decode (mC 212) 607 = .ok (.iadd, 1) := by decide +kernel
theorem x212_607 {sc : aSc} {d : Nat} {r : aRes} {L : List Value} {st : List Value} {σ : aS} {x y : Int32} : Rn sc d 212 607 L (.int y :: .int x :: st) σ r ↔ Rn sc d 212 608 L (.int (x + y) :: st) σ r := r_iadd d212_607
theorem d212_608 : decode (mC 212) 608 = .ok (.iaload, 1) := by decide +kernel
theorem d212_609 : decode (mC 212) 609 = .ok (.aload_n 0, 1) := by decide +kernel
theorem x212_609 {sc : aSc} {d : Nat} {r : aRes} {x0 : Nat} {a1 : Value} {a2 : Value} {a3 : Value} {st : List Value} {σ : aS} : Rn sc d 212 609 [.ref x0, a1, a2, a3] st σ r ↔ Rn sc d 212 610 [.ref x0, a1, a2, a3] (.ref x0 :: st) σ r := r_aload_n d212_609 rfl
theorem d212_610 : decode (mC 212) 610 = .ok (.iload_n 3, 1) := by decide +kernel
theorem x212_610 {sc : aSc} {d : Nat} {r : aRes} {a0 : Value} {a1 : Value} {a2 : Value} {x3 : Int32} {st : List Value} {σ : aS} : Rn sc d 212 610 [a0, a1, a2, .int x3] st σ r ↔ Rn sc d 212 611 [a0, a1, a2, .int x3] (.int x3 :: st) σ r := r_iload_n d212_610 rfl
theorem d212_611 : decode (mC 212) 611 = .ok (.iconst 2, 1) := by decide +kernel
theorem x212_611 {sc : aSc} {d : Nat} {r : aRes} {L : List Value} {st : List Value} {σ : aS} : Rn sc d 212 611 L st σ r ↔ Rn sc d 212 612 L (.int 2 :: st) σ r := r_iconst d212_611 (by decide)
theorem d212_612 : decode (mC 212) 612 = .ok (.iadd, 1) := by decide +kernel
theorem x212_612 {sc : aSc} {d : Nat} {r : aRes} {L : List Value} {st : List Value} {σ : aS} {x y : Int32} : Rn sc d 212 612 L (.int y :: .int x :: st) σ r ↔ Rn sc d 212 613 L (.int (x + y) :: st) σ r := r_iadd d212_612
theorem d212_613 : decode (mC 212) 613 = .ok (.iaload, 1) := by decide +kernel
theorem d212_614 : decode (mC 212) 614 = .ok (.invokevirtual 70, 3) := by decide +kernel
theorem x212_614 {sc : aSc} {d : Nat} {r : aRes} {L : List Value} {f : Nat → Nat → Int32} {g : Nat → Nat → Int64} {h1 h2 : Nat} {y0 : Int32} {y1 : Int32}  {o : Nat} (hK : KK[o]? = some (.inl 6)) : Rn sc d 212 614 L [.int y0, .int y1, .ref o] (cS f g h1 h2) r ↔ ∃ (σ3 : aS) (v : Option Value), Cl sc d 79 [.ref o, .int y1, .int y0] (cS f g h1 h2) (σ3, v) ∧ Rn sc d 212 617 L (v.toList ++ []) σ3 r := r_callV (vs := [.int y0, .int y1]) d212_614 (j := 79) (by decide +kernel) ⟨rfl, by decide, rfl, rfl⟩ (Nat.le_of_ble_eq_true rfl) hK
theorem d212_617 : decode (mC 212) 617 = .ok (.aload_n 2, 1) := by decide +kernel
theorem x212_617 {sc : aSc} {d : Nat} {r : aRes} {a0 : Value} {a1 : Value} {x2 : Nat} {a3 : Value} {st : List Value} {σ : aS} : Rn sc d 212 617 [a0, a1, .ref x2, a3] st σ r ↔ Rn sc d 212 618 [a0, a1, .ref x2, a3] (.ref x2 :: st) σ r := r_aload_n d212_617 rfl
theorem d212_618 : decode (mC 212) 618 = .ok (.aload_n 0, 1) := by decide +kernel
theorem x212_618 {sc : aSc} {d : Nat} {r : aRes} {x0 : Nat} {a1 : Value} {a2 : Value} {a3 : Value} {st : List Value} {σ : aS} : Rn sc d 212 618 [.ref x0, a1, a2, a3] st σ r ↔ Rn sc d 212 619 [.ref x0, a1, a2, a3] (.ref x0 :: st) σ r := r_aload_n d212_618 rfl
theorem d212_619 : decode (mC 212) 619 = .ok (.iload_n 3, 1) := by decide +kernel
theorem x212_619 {sc : aSc} {d : Nat} {r : aRes} {a0 : Value} {a1 : Value} {a2 : Value} {x3 : Int32} {st : List Value} {σ : aS} : Rn sc d 212 619 [a0, a1, a2, .int x3] st σ r ↔ Rn sc d 212 620 [a0, a1, a2, .int x3] (.int x3 :: st) σ r := r_iload_n d212_619 rfl
theorem d212_620 : decode (mC 212) 620 = .ok (.iconst 1, 1) := by decide +kernel
theorem x212_620 {sc : aSc} {d : Nat} {r : aRes} {L : List Value} {st : List Value} {σ : aS} : Rn sc d 212 620 L st σ r ↔ Rn sc d 212 621 L (.int 1 :: st) σ r := r_iconst d212_620 (by decide)
theorem d212_621 : decode (mC 212) 621 = .ok (.iadd, 1) := by decide +kernel
theorem x212_621 {sc : aSc} {d : Nat} {r : aRes} {L : List Value} {st : List Value} {σ : aS} {x y : Int32} : Rn sc d 212 621 L (.int y :: .int x :: st) σ r ↔ Rn sc d 212 622 L (.int (x + y) :: st) σ r := r_iadd d212_621
theorem d212_622 : decode (mC 212) 622 = .ok (.iaload, 1) := by decide +kernel
theorem d212_623 : decode (mC 212) 623 = .ok (.aload_n 0, 1) := by decide +kernel
theorem x212_623 {sc : aSc} {d : Nat} {r : aRes} {x0 : Nat} {a1 : Value} {a2 : Value} {a3 : Value} {st : List Value} {σ : aS} : Rn sc d 212 623 [.ref x0, a1, a2, a3] st σ r ↔ Rn sc d 212 624 [.ref x0, a1, a2, a3] (.ref x0 :: st) σ r := r_aload_n d212_623 rfl
theorem d212_624 : decode (mC 212) 624 = .ok (.iload_n 3, 1) := by decide +kernel
theorem x212_624 {sc : aSc} {d : Nat} {r : aRes} {a0 : Value} {a1 : Value} {a2 : Value} {x3 : Int32} {st : List Value} {σ : aS} : Rn sc d 212 624 [a0, a1, a2, .int x3] st σ r ↔ Rn sc d 212 625 [a0, a1, a2, .int x3] (.int x3 :: st) σ r := r_iload_n d212_624 rfl
theorem d212_625 : decode (mC 212) 625 = .ok (.iconst 2, 1) := by decide +kernel
theorem x212_625 {sc : aSc} {d : Nat} {r : aRes} {L : List Value} {st : List Value} {σ : aS} : Rn sc d 212 625 L st σ r ↔ Rn sc d 212 626 L (.int 2 :: st) σ r := r_iconst d212_625 (by decide)
theorem d212_626 : decode (mC 212) 626 = .ok (.iadd, 1) := by decide +kernel
theorem x212_626 {sc : aSc} {d : Nat} {r : aRes} {L : List Value} {st : List Value} {σ : aS} {x y : Int32} : Rn sc d 212 626 L (.int y :: .int x :: st) σ r ↔ Rn sc d 212 627 L (.int (x + y) :: st) σ r := r_iadd d212_626
theorem d212_627 : decode (mC 212) 627 = .ok (.iaload, 1) := by decide +kernel
theorem d212_628 : decode (mC 212) 628 = .ok (.invokevirtual 73, 3) := by decide +kernel
theorem x212_628 {sc : aSc} {d : Nat} {r : aRes} {L : List Value} {f : Nat → Nat → Int32} {g : Nat → Nat → Int64} {h1 h2 : Nat} {y0 : Int32} {y1 : Int32} {z0 : Int32} {o : Nat} (hK : KK[o]? = some (.inl 7)) : Rn sc d 212 628 L [.int y0, .int y1, .ref o, .int z0] (cS f g h1 h2) r ↔ ∃ (σ3 : aS) (v : Option Value), Cl sc d 157 [.ref o, .int y1, .int y0] (cS f g h1 h2) (σ3, v) ∧ Rn sc d 212 631 L (v.toList ++ [.int z0]) σ3 r := r_callV (vs := [.int y0, .int y1]) d212_628 (j := 157) (by decide +kernel) ⟨rfl, by decide, rfl, rfl⟩ (Nat.le_of_ble_eq_true rfl) hK
theorem d212_631 : decode (mC 212) 631 = .ok (.if_icmp .eq 704, 3) := by decide +kernel
theorem x212_631 {sc : aSc} {d : Nat} {r : aRes} {L : List Value} {st : List Value} {σ : aS} {x y : Int32} : Rn sc d 212 631 L (.int y :: .int x :: st) σ r ↔ if x = y then Rn sc d 212 1335 L st σ r else Rn sc d 212 634 L st σ r := r_icmp_eq d212_631 rfl
theorem d212_634 : decode (mC 212) 634 = .ok (.iconst 0, 1) := by decide +kernel
theorem x212_634 {sc : aSc} {d : Nat} {r : aRes} {L : List Value} {st : List Value} {σ : aS} : Rn sc d 212 634 L st σ r ↔ Rn sc d 212 635 L (.int 0 :: st) σ r := r_iconst d212_634 (by decide)
theorem d212_635 : decode (mC 212) 635 = .ok (.ireturn, 1) := by decide +kernel
theorem d212_636 : decode (mC 212) 636 = .ok (.aload_n 1, 1) := by decide +kernel
theorem x212_636 {sc : aSc} {d : Nat} {r : aRes} {a0 : Value} {x1 : Nat} {a2 : Value} {a3 : Value} {st : List Value} {σ : aS} : Rn sc d 212 636 [a0, .ref x1, a2, a3] st σ r ↔ Rn sc d 212 637 [a0, .ref x1, a2, a3] (.ref x1 :: st) σ r := r_aload_n d212_636 rfl
theorem d212_637 : decode (mC 212) 637 = .ok (.aload_n 0, 1) := by decide +kernel
theorem x212_637 {sc : aSc} {d : Nat} {r : aRes} {x0 : Nat} {a1 : Value} {a2 : Value} {a3 : Value} {st : List Value} {σ : aS} : Rn sc d 212 637 [.ref x0, a1, a2, a3] st σ r ↔ Rn sc d 212 638 [.ref x0, a1, a2, a3] (.ref x0 :: st) σ r := r_aload_n d212_637 rfl
theorem d212_638 : decode (mC 212) 638 = .ok (.iload_n 3, 1) := by decide +kernel
theorem x212_638 {sc : aSc} {d : Nat} {r : aRes} {a0 : Value} {a1 : Value} {a2 : Value} {x3 : Int32} {st : List Value} {σ : aS} : Rn sc d 212 638 [a0, a1, a2, .int x3] st σ r ↔ Rn sc d 212 639 [a0, a1, a2, .int x3] (.int x3 :: st) σ r := r_iload_n d212_638 rfl
theorem d212_639 : decode (mC 212) 639 = .ok (.iconst 1, 1) := by decide +kernel
theorem x212_639 {sc : aSc} {d : Nat} {r : aRes} {L : List Value} {st : List Value} {σ : aS} : Rn sc d 212 639 L st σ r ↔ Rn sc d 212 640 L (.int 1 :: st) σ r := r_iconst d212_639 (by decide)
theorem d212_640 : decode (mC 212) 640 = .ok (.iadd, 1) := by decide +kernel
theorem x212_640 {sc : aSc} {d : Nat} {r : aRes} {L : List Value} {st : List Value} {σ : aS} {x y : Int32} : Rn sc d 212 640 L (.int y :: .int x :: st) σ r ↔ Rn sc d 212 641 L (.int (x + y) :: st) σ r := r_iadd d212_640
theorem d212_641 : decode (mC 212) 641 = .ok (.iaload, 1) := by decide +kernel
theorem d212_642 : decode (mC 212) 642 = .ok (.aload_n 0, 1) := by decide +kernel
theorem x212_642 {sc : aSc} {d : Nat} {r : aRes} {x0 : Nat} {a1 : Value} {a2 : Value} {a3 : Value} {st : List Value} {σ : aS} : Rn sc d 212 642 [.ref x0, a1, a2, a3] st σ r ↔ Rn sc d 212 643 [.ref x0, a1, a2, a3] (.ref x0 :: st) σ r := r_aload_n d212_642 rfl
theorem d212_643 : decode (mC 212) 643 = .ok (.iload_n 3, 1) := by decide +kernel
theorem x212_643 {sc : aSc} {d : Nat} {r : aRes} {a0 : Value} {a1 : Value} {a2 : Value} {x3 : Int32} {st : List Value} {σ : aS} : Rn sc d 212 643 [a0, a1, a2, .int x3] st σ r ↔ Rn sc d 212 644 [a0, a1, a2, .int x3] (.int x3 :: st) σ r := r_iload_n d212_643 rfl
theorem d212_644 : decode (mC 212) 644 = .ok (.iconst 2, 1) := by decide +kernel
theorem x212_644 {sc : aSc} {d : Nat} {r : aRes} {L : List Value} {st : List Value} {σ : aS} : Rn sc d 212 644 L st σ r ↔ Rn sc d 212 645 L (.int 2 :: st) σ r := r_iconst d212_644 (by decide)
theorem d212_645 : decode (mC 212) 645 = .ok (.iadd, 1) := by decide +kernel
theorem x212_645 {sc : aSc} {d : Nat} {r : aRes} {L : List Value} {st : List Value} {σ : aS} {x y : Int32} : Rn sc d 212 645 L (.int y :: .int x :: st) σ r ↔ Rn sc d 212 646 L (.int (x + y) :: st) σ r := r_iadd d212_645
theorem d212_646 : decode (mC 212) 646 = .ok (.iaload, 1) := by decide +kernel
theorem d212_647 : decode (mC 212) 647 = .ok (.invokevirtual 74, 3) := by decide +kernel
theorem x212_647 {sc : aSc} {d : Nat} {r : aRes} {L : List Value} {f : Nat → Nat → Int32} {g : Nat → Nat → Int64} {h1 h2 : Nat} {y0 : Int32} {y1 : Int32}  {o : Nat} (hK : KK[o]? = some (.inl 6)) : Rn sc d 212 647 L [.int y0, .int y1, .ref o] (cS f g h1 h2) r ↔ ∃ (σ3 : aS) (v : Option Value), Cl sc d 80 [.ref o, .int y1, .int y0] (cS f g h1 h2) (σ3, v) ∧ Rn sc d 212 650 L (v.toList ++ []) σ3 r := r_callV (vs := [.int y0, .int y1]) d212_647 (j := 80) (by decide +kernel) ⟨rfl, by decide, rfl, rfl⟩ (Nat.le_of_ble_eq_true rfl) hK
theorem d212_650 : decode (mC 212) 650 = .ok (.aload_n 2, 1) := by decide +kernel
theorem x212_650 {sc : aSc} {d : Nat} {r : aRes} {a0 : Value} {a1 : Value} {x2 : Nat} {a3 : Value} {st : List Value} {σ : aS} : Rn sc d 212 650 [a0, a1, .ref x2, a3] st σ r ↔ Rn sc d 212 651 [a0, a1, .ref x2, a3] (.ref x2 :: st) σ r := r_aload_n d212_650 rfl
theorem d212_651 : decode (mC 212) 651 = .ok (.aload_n 0, 1) := by decide +kernel
theorem x212_651 {sc : aSc} {d : Nat} {r : aRes} {x0 : Nat} {a1 : Value} {a2 : Value} {a3 : Value} {st : List Value} {σ : aS} : Rn sc d 212 651 [.ref x0, a1, a2, a3] st σ r ↔ Rn sc d 212 652 [.ref x0, a1, a2, a3] (.ref x0 :: st) σ r := r_aload_n d212_651 rfl
theorem d212_652 : decode (mC 212) 652 = .ok (.iload_n 3, 1) := by decide +kernel
theorem x212_652 {sc : aSc} {d : Nat} {r : aRes} {a0 : Value} {a1 : Value} {a2 : Value} {x3 : Int32} {st : List Value} {σ : aS} : Rn sc d 212 652 [a0, a1, a2, .int x3] st σ r ↔ Rn sc d 212 653 [a0, a1, a2, .int x3] (.int x3 :: st) σ r := r_iload_n d212_652 rfl
theorem d212_653 : decode (mC 212) 653 = .ok (.iconst 1, 1) := by decide +kernel
theorem x212_653 {sc : aSc} {d : Nat} {r : aRes} {L : List Value} {st : List Value} {σ : aS} : Rn sc d 212 653 L st σ r ↔ Rn sc d 212 654 L (.int 1 :: st) σ r := r_iconst d212_653 (by decide)
theorem d212_654 : decode (mC 212) 654 = .ok (.iadd, 1) := by decide +kernel
theorem x212_654 {sc : aSc} {d : Nat} {r : aRes} {L : List Value} {st : List Value} {σ : aS} {x y : Int32} : Rn sc d 212 654 L (.int y :: .int x :: st) σ r ↔ Rn sc d 212 655 L (.int (x + y) :: st) σ r := r_iadd d212_654
theorem d212_655 : decode (mC 212) 655 = .ok (.iaload, 1) := by decide +kernel
theorem d212_656 : decode (mC 212) 656 = .ok (.aload_n 0, 1) := by decide +kernel
theorem x212_656 {sc : aSc} {d : Nat} {r : aRes} {x0 : Nat} {a1 : Value} {a2 : Value} {a3 : Value} {st : List Value} {σ : aS} : Rn sc d 212 656 [.ref x0, a1, a2, a3] st σ r ↔ Rn sc d 212 657 [.ref x0, a1, a2, a3] (.ref x0 :: st) σ r := r_aload_n d212_656 rfl
theorem d212_657 : decode (mC 212) 657 = .ok (.iload_n 3, 1) := by decide +kernel
theorem x212_657 {sc : aSc} {d : Nat} {r : aRes} {a0 : Value} {a1 : Value} {a2 : Value} {x3 : Int32} {st : List Value} {σ : aS} : Rn sc d 212 657 [a0, a1, a2, .int x3] st σ r ↔ Rn sc d 212 658 [a0, a1, a2, .int x3] (.int x3 :: st) σ r := r_iload_n d212_657 rfl
theorem d212_658 : decode (mC 212) 658 = .ok (.iconst 2, 1) := by decide +kernel
theorem x212_658 {sc : aSc} {d : Nat} {r : aRes} {L : List Value} {st : List Value} {σ : aS} : Rn sc d 212 658 L st σ r ↔ Rn sc d 212 659 L (.int 2 :: st) σ r := r_iconst d212_658 (by decide)
theorem d212_659 : decode (mC 212) 659 = .ok (.iadd, 1) := by decide +kernel
theorem x212_659 {sc : aSc} {d : Nat} {r : aRes} {L : List Value} {st : List Value} {σ : aS} {x y : Int32} : Rn sc d 212 659 L (.int y :: .int x :: st) σ r ↔ Rn sc d 212 660 L (.int (x + y) :: st) σ r := r_iadd d212_659
theorem d212_660 : decode (mC 212) 660 = .ok (.iaload, 1) := by decide +kernel
theorem d212_661 : decode (mC 212) 661 = .ok (.invokevirtual 77, 3) := by decide +kernel
theorem x212_661 {sc : aSc} {d : Nat} {r : aRes} {L : List Value} {f : Nat → Nat → Int32} {g : Nat → Nat → Int64} {h1 h2 : Nat} {y0 : Int32} {y1 : Int32} {z0 : Int32} {o : Nat} (hK : KK[o]? = some (.inl 7)) : Rn sc d 212 661 L [.int y0, .int y1, .ref o, .int z0] (cS f g h1 h2) r ↔ ∃ (σ3 : aS) (v : Option Value), Cl sc d 159 [.ref o, .int y1, .int y0] (cS f g h1 h2) (σ3, v) ∧ Rn sc d 212 664 L (v.toList ++ [.int z0]) σ3 r := r_callV (vs := [.int y0, .int y1]) d212_661 (j := 159) (by decide +kernel) ⟨rfl, by decide, rfl, rfl⟩ (Nat.le_of_ble_eq_true rfl) hK
theorem d212_664 : decode (mC 212) 664 = .ok (.if_icmp .eq 671, 3) := by decide +kernel
theorem x212_664 {sc : aSc} {d : Nat} {r : aRes} {L : List Value} {st : List Value} {σ : aS} {x y : Int32} : Rn sc d 212 664 L (.int y :: .int x :: st) σ r ↔ if x = y then Rn sc d 212 1335 L st σ r else Rn sc d 212 667 L st σ r := r_icmp_eq d212_664 rfl
theorem d212_667 : decode (mC 212) 667 = .ok (.iconst 0, 1) := by decide +kernel
theorem x212_667 {sc : aSc} {d : Nat} {r : aRes} {L : List Value} {st : List Value} {σ : aS} : Rn sc d 212 667 L st σ r ↔ Rn sc d 212 668 L (.int 0 :: st) σ r := r_iconst d212_667 (by decide)
theorem d212_668 : decode (mC 212) 668 = .ok (.ireturn, 1) := by decide +kernel
theorem d212_669 : decode (mC 212) 669 = .ok (.aload_n 1, 1) := by decide +kernel
theorem x212_669 {sc : aSc} {d : Nat} {r : aRes} {a0 : Value} {x1 : Nat} {a2 : Value} {a3 : Value} {st : List Value} {σ : aS} : Rn sc d 212 669 [a0, .ref x1, a2, a3] st σ r ↔ Rn sc d 212 670 [a0, .ref x1, a2, a3] (.ref x1 :: st) σ r := r_aload_n d212_669 rfl
theorem d212_670 : decode (mC 212) 670 = .ok (.aload_n 0, 1) := by decide +kernel
theorem x212_670 {sc : aSc} {d : Nat} {r : aRes} {x0 : Nat} {a1 : Value} {a2 : Value} {a3 : Value} {st : List Value} {σ : aS} : Rn sc d 212 670 [.ref x0, a1, a2, a3] st σ r ↔ Rn sc d 212 671 [.ref x0, a1, a2, a3] (.ref x0 :: st) σ r := r_aload_n d212_670 rfl
theorem d212_671 : decode (mC 212) 671 = .ok (.iload_n 3, 1) := by decide +kernel
theorem x212_671 {sc : aSc} {d : Nat} {r : aRes} {a0 : Value} {a1 : Value} {a2 : Value} {x3 : Int32} {st : List Value} {σ : aS} : Rn sc d 212 671 [a0, a1, a2, .int x3] st σ r ↔ Rn sc d 212 672 [a0, a1, a2, .int x3] (.int x3 :: st) σ r := r_iload_n d212_671 rfl
theorem d212_672 : decode (mC 212) 672 = .ok (.iconst 1, 1) := by decide +kernel
theorem x212_672 {sc : aSc} {d : Nat} {r : aRes} {L : List Value} {st : List Value} {σ : aS} : Rn sc d 212 672 L st σ r ↔ Rn sc d 212 673 L (.int 1 :: st) σ r := r_iconst d212_672 (by decide)
theorem d212_673 : decode (mC 212) 673 = .ok (.iadd, 1) := by decide +kernel
theorem x212_673 {sc : aSc} {d : Nat} {r : aRes} {L : List Value} {st : List Value} {σ : aS} {x y : Int32} : Rn sc d 212 673 L (.int y :: .int x :: st) σ r ↔ Rn sc d 212 674 L (.int (x + y) :: st) σ r := r_iadd d212_673
theorem d212_674 : decode (mC 212) 674 = .ok (.iaload, 1) := by decide +kernel
theorem d212_675 : decode (mC 212) 675 = .ok (.invokevirtual 78, 3) := by decide +kernel
theorem x212_675 {sc : aSc} {d : Nat} {r : aRes} {L : List Value} {f : Nat → Nat → Int32} {g : Nat → Nat → Int64} {h1 h2 : Nat} {y0 : Int32}  {o : Nat} (hK : KK[o]? = some (.inl 6)) : Rn sc d 212 675 L [.int y0, .ref o] (cS f g h1 h2) r ↔ ∃ (σ3 : aS) (v : Option Value), Cl sc d 81 [.ref o, .int y0] (cS f g h1 h2) (σ3, v) ∧ Rn sc d 212 678 L (v.toList ++ []) σ3 r := r_callV (vs := [.int y0]) d212_675 (j := 81) (by decide +kernel) ⟨rfl, by decide, rfl, rfl⟩ (Nat.le_of_ble_eq_true rfl) hK
theorem d212_678 : decode (mC 212) 678 = .ok (.aload_n 2, 1) := by decide +kernel
theorem x212_678 {sc : aSc} {d : Nat} {r : aRes} {a0 : Value} {a1 : Value} {x2 : Nat} {a3 : Value} {st : List Value} {σ : aS} : Rn sc d 212 678 [a0, a1, .ref x2, a3] st σ r ↔ Rn sc d 212 679 [a0, a1, .ref x2, a3] (.ref x2 :: st) σ r := r_aload_n d212_678 rfl
theorem d212_679 : decode (mC 212) 679 = .ok (.aload_n 0, 1) := by decide +kernel
theorem x212_679 {sc : aSc} {d : Nat} {r : aRes} {x0 : Nat} {a1 : Value} {a2 : Value} {a3 : Value} {st : List Value} {σ : aS} : Rn sc d 212 679 [.ref x0, a1, a2, a3] st σ r ↔ Rn sc d 212 680 [.ref x0, a1, a2, a3] (.ref x0 :: st) σ r := r_aload_n d212_679 rfl
theorem d212_680 : decode (mC 212) 680 = .ok (.iload_n 3, 1) := by decide +kernel
theorem x212_680 {sc : aSc} {d : Nat} {r : aRes} {a0 : Value} {a1 : Value} {a2 : Value} {x3 : Int32} {st : List Value} {σ : aS} : Rn sc d 212 680 [a0, a1, a2, .int x3] st σ r ↔ Rn sc d 212 681 [a0, a1, a2, .int x3] (.int x3 :: st) σ r := r_iload_n d212_680 rfl
theorem d212_681 : decode (mC 212) 681 = .ok (.iconst 1, 1) := by decide +kernel
theorem x212_681 {sc : aSc} {d : Nat} {r : aRes} {L : List Value} {st : List Value} {σ : aS} : Rn sc d 212 681 L st σ r ↔ Rn sc d 212 682 L (.int 1 :: st) σ r := r_iconst d212_681 (by decide)
theorem d212_682 : decode (mC 212) 682 = .ok (.iadd, 1) := by decide +kernel
theorem x212_682 {sc : aSc} {d : Nat} {r : aRes} {L : List Value} {st : List Value} {σ : aS} {x y : Int32} : Rn sc d 212 682 L (.int y :: .int x :: st) σ r ↔ Rn sc d 212 683 L (.int (x + y) :: st) σ r := r_iadd d212_682
theorem d212_683 : decode (mC 212) 683 = .ok (.iaload, 1) := by decide +kernel
theorem d212_684 : decode (mC 212) 684 = .ok (.invokevirtual 81, 3) := by decide +kernel
theorem x212_684 {sc : aSc} {d : Nat} {r : aRes} {L : List Value} {f : Nat → Nat → Int32} {g : Nat → Nat → Int64} {h1 h2 : Nat} {y0 : Int32} {z0 : Int32} {o : Nat} (hK : KK[o]? = some (.inl 7)) : Rn sc d 212 684 L [.int y0, .ref o, .int z0] (cS f g h1 h2) r ↔ ∃ (σ3 : aS) (v : Option Value), Cl sc d 160 [.ref o, .int y0] (cS f g h1 h2) (σ3, v) ∧ Rn sc d 212 687 L (v.toList ++ [.int z0]) σ3 r := r_callV (vs := [.int y0]) d212_684 (j := 160) (by decide +kernel) ⟨rfl, by decide, rfl, rfl⟩ (Nat.le_of_ble_eq_true rfl) hK
theorem d212_687 : decode (mC 212) 687 = .ok (.if_icmp .eq 648, 3) := by decide +kernel
theorem x212_687 {sc : aSc} {d : Nat} {r : aRes} {L : List Value} {st : List Value} {σ : aS} {x y : Int32} : Rn sc d 212 687 L (.int y :: .int x :: st) σ r ↔ if x = y then Rn sc d 212 1335 L st σ r else Rn sc d 212 690 L st σ r := r_icmp_eq d212_687 rfl
theorem d212_690 : decode (mC 212) 690 = .ok (.iconst 0, 1) := by decide +kernel
theorem x212_690 {sc : aSc} {d : Nat} {r : aRes} {L : List Value} {st : List Value} {σ : aS} : Rn sc d 212 690 L st σ r ↔ Rn sc d 212 691 L (.int 0 :: st) σ r := r_iconst d212_690 (by decide)
theorem d212_691 : decode (mC 212) 691 = .ok (.ireturn, 1) := by decide +kernel
theorem d212_692 : decode (mC 212) 692 = .ok (.aload_n 1, 1) := by decide +kernel
theorem x212_692 {sc : aSc} {d : Nat} {r : aRes} {a0 : Value} {x1 : Nat} {a2 : Value} {a3 : Value} {st : List Value} {σ : aS} : Rn sc d 212 692 [a0, .ref x1, a2, a3] st σ r ↔ Rn sc d 212 693 [a0, .ref x1, a2, a3] (.ref x1 :: st) σ r := r_aload_n d212_692 rfl
theorem d212_693 : decode (mC 212) 693 = .ok (.aload_n 0, 1) := by decide +kernel
theorem x212_693 {sc : aSc} {d : Nat} {r : aRes} {x0 : Nat} {a1 : Value} {a2 : Value} {a3 : Value} {st : List Value} {σ : aS} : Rn sc d 212 693 [.ref x0, a1, a2, a3] st σ r ↔ Rn sc d 212 694 [.ref x0, a1, a2, a3] (.ref x0 :: st) σ r := r_aload_n d212_693 rfl
theorem d212_694 : decode (mC 212) 694 = .ok (.iload_n 3, 1) := by decide +kernel
theorem x212_694 {sc : aSc} {d : Nat} {r : aRes} {a0 : Value} {a1 : Value} {a2 : Value} {x3 : Int32} {st : List Value} {σ : aS} : Rn sc d 212 694 [a0, a1, a2, .int x3] st σ r ↔ Rn sc d 212 695 [a0, a1, a2, .int x3] (.int x3 :: st) σ r := r_iload_n d212_694 rfl
theorem d212_695 : decode (mC 212) 695 = .ok (.iconst 1, 1) := by decide +kernel
theorem x212_695 {sc : aSc} {d : Nat} {r : aRes} {L : List Value} {st : List Value} {σ : aS} : Rn sc d 212 695 L st σ r ↔ Rn sc d 212 696 L (.int 1 :: st) σ r := r_iconst d212_695 (by decide)
theorem d212_696 : decode (mC 212) 696 = .ok (.iadd, 1) := by decide +kernel
theorem x212_696 {sc : aSc} {d : Nat} {r : aRes} {L : List Value} {st : List Value} {σ : aS} {x y : Int32} : Rn sc d 212 696 L (.int y :: .int x :: st) σ r ↔ Rn sc d 212 697 L (.int (x + y) :: st) σ r := r_iadd d212_696
theorem d212_697 : decode (mC 212) 697 = .ok (.iaload, 1) := by decide +kernel
theorem d212_698 : decode (mC 212) 698 = .ok (.aload_n 0, 1) := by decide +kernel
theorem x212_698 {sc : aSc} {d : Nat} {r : aRes} {x0 : Nat} {a1 : Value} {a2 : Value} {a3 : Value} {st : List Value} {σ : aS} : Rn sc d 212 698 [.ref x0, a1, a2, a3] st σ r ↔ Rn sc d 212 699 [.ref x0, a1, a2, a3] (.ref x0 :: st) σ r := r_aload_n d212_698 rfl
theorem d212_699 : decode (mC 212) 699 = .ok (.iload_n 3, 1) := by decide +kernel
theorem x212_699 {sc : aSc} {d : Nat} {r : aRes} {a0 : Value} {a1 : Value} {a2 : Value} {x3 : Int32} {st : List Value} {σ : aS} : Rn sc d 212 699 [a0, a1, a2, .int x3] st σ r ↔ Rn sc d 212 700 [a0, a1, a2, .int x3] (.int x3 :: st) σ r := r_iload_n d212_699 rfl
theorem d212_700 : decode (mC 212) 700 = .ok (.iconst 2, 1) := by decide +kernel
theorem x212_700 {sc : aSc} {d : Nat} {r : aRes} {L : List Value} {st : List Value} {σ : aS} : Rn sc d 212 700 L st σ r ↔ Rn sc d 212 701 L (.int 2 :: st) σ r := r_iconst d212_700 (by decide)
theorem d212_701 : decode (mC 212) 701 = .ok (.iadd, 1) := by decide +kernel
theorem x212_701 {sc : aSc} {d : Nat} {r : aRes} {L : List Value} {st : List Value} {σ : aS} {x y : Int32} : Rn sc d 212 701 L (.int y :: .int x :: st) σ r ↔ Rn sc d 212 702 L (.int (x + y) :: st) σ r := r_iadd d212_701
theorem d212_702 : decode (mC 212) 702 = .ok (.iaload, 1) := by decide +kernel
theorem d212_703 : decode (mC 212) 703 = .ok (.invokevirtual 82, 3) := by decide +kernel
theorem x212_703 {sc : aSc} {d : Nat} {r : aRes} {L : List Value} {f : Nat → Nat → Int32} {g : Nat → Nat → Int64} {h1 h2 : Nat} {y0 : Int32} {y1 : Int32}  {o : Nat} (hK : KK[o]? = some (.inl 6)) : Rn sc d 212 703 L [.int y0, .int y1, .ref o] (cS f g h1 h2) r ↔ ∃ (σ3 : aS) (v : Option Value), Cl sc d 82 [.ref o, .int y1, .int y0] (cS f g h1 h2) (σ3, v) ∧ Rn sc d 212 706 L (v.toList ++ []) σ3 r := r_callV (vs := [.int y0, .int y1]) d212_703 (j := 82) (by decide +kernel) ⟨rfl, by decide, rfl, rfl⟩ (Nat.le_of_ble_eq_true rfl) hK
theorem d212_706 : decode (mC 212) 706 = .ok (.aload_n 2, 1) := by decide +kernel
theorem x212_706 {sc : aSc} {d : Nat} {r : aRes} {a0 : Value} {a1 : Value} {x2 : Nat} {a3 : Value} {st : List Value} {σ : aS} : Rn sc d 212 706 [a0, a1, .ref x2, a3] st σ r ↔ Rn sc d 212 707 [a0, a1, .ref x2, a3] (.ref x2 :: st) σ r := r_aload_n d212_706 rfl
theorem d212_707 : decode (mC 212) 707 = .ok (.aload_n 0, 1) := by decide +kernel
theorem x212_707 {sc : aSc} {d : Nat} {r : aRes} {x0 : Nat} {a1 : Value} {a2 : Value} {a3 : Value} {st : List Value} {σ : aS} : Rn sc d 212 707 [.ref x0, a1, a2, a3] st σ r ↔ Rn sc d 212 708 [.ref x0, a1, a2, a3] (.ref x0 :: st) σ r := r_aload_n d212_707 rfl
theorem d212_708 : decode (mC 212) 708 = .ok (.iload_n 3, 1) := by decide +kernel
theorem x212_708 {sc : aSc} {d : Nat} {r : aRes} {a0 : Value} {a1 : Value} {a2 : Value} {x3 : Int32} {st : List Value} {σ : aS} : Rn sc d 212 708 [a0, a1, a2, .int x3] st σ r ↔ Rn sc d 212 709 [a0, a1, a2, .int x3] (.int x3 :: st) σ r := r_iload_n d212_708 rfl
theorem d212_709 : decode (mC 212) 709 = .ok (.iconst 1, 1) := by decide +kernel
theorem x212_709 {sc : aSc} {d : Nat} {r : aRes} {L : List Value} {st : List Value} {σ : aS} : Rn sc d 212 709 L st σ r ↔ Rn sc d 212 710 L (.int 1 :: st) σ r := r_iconst d212_709 (by decide)
theorem d212_710 : decode (mC 212) 710 = .ok (.iadd, 1) := by decide +kernel
theorem x212_710 {sc : aSc} {d : Nat} {r : aRes} {L : List Value} {st : List Value} {σ : aS} {x y : Int32} : Rn sc d 212 710 L (.int y :: .int x :: st) σ r ↔ Rn sc d 212 711 L (.int (x + y) :: st) σ r := r_iadd d212_710
theorem d212_711 : decode (mC 212) 711 = .ok (.iaload, 1) := by decide +kernel
theorem d212_712 : decode (mC 212) 712 = .ok (.aload_n 0, 1) := by decide +kernel
theorem x212_712 {sc : aSc} {d : Nat} {r : aRes} {x0 : Nat} {a1 : Value} {a2 : Value} {a3 : Value} {st : List Value} {σ : aS} : Rn sc d 212 712 [.ref x0, a1, a2, a3] st σ r ↔ Rn sc d 212 713 [.ref x0, a1, a2, a3] (.ref x0 :: st) σ r := r_aload_n d212_712 rfl
theorem d212_713 : decode (mC 212) 713 = .ok (.iload_n 3, 1) := by decide +kernel
theorem x212_713 {sc : aSc} {d : Nat} {r : aRes} {a0 : Value} {a1 : Value} {a2 : Value} {x3 : Int32} {st : List Value} {σ : aS} : Rn sc d 212 713 [a0, a1, a2, .int x3] st σ r ↔ Rn sc d 212 714 [a0, a1, a2, .int x3] (.int x3 :: st) σ r := r_iload_n d212_713 rfl
theorem d212_714 : decode (mC 212) 714 = .ok (.iconst 2, 1) := by decide +kernel
theorem x212_714 {sc : aSc} {d : Nat} {r : aRes} {L : List Value} {st : List Value} {σ : aS} : Rn sc d 212 714 L st σ r ↔ Rn sc d 212 715 L (.int 2 :: st) σ r := r_iconst d212_714 (by decide)
theorem d212_715 : decode (mC 212) 715 = .ok (.iadd, 1) := by decide +kernel
theorem x212_715 {sc : aSc} {d : Nat} {r : aRes} {L : List Value} {st : List Value} {σ : aS} {x y : Int32} : Rn sc d 212 715 L (.int y :: .int x :: st) σ r ↔ Rn sc d 212 716 L (.int (x + y) :: st) σ r := r_iadd d212_715
theorem d212_716 : decode (mC 212) 716 = .ok (.iaload, 1) := by decide +kernel
theorem d212_717 : decode (mC 212) 717 = .ok (.invokevirtual 85, 3) := by decide +kernel
theorem x212_717 {sc : aSc} {d : Nat} {r : aRes} {L : List Value} {f : Nat → Nat → Int32} {g : Nat → Nat → Int64} {h1 h2 : Nat} {y0 : Int32} {y1 : Int32} {z0 : Int32} {o : Nat} (hK : KK[o]? = some (.inl 7)) : Rn sc d 212 717 L [.int y0, .int y1, .ref o, .int z0] (cS f g h1 h2) r ↔ ∃ (σ3 : aS) (v : Option Value), Cl sc d 161 [.ref o, .int y1, .int y0] (cS f g h1 h2) (σ3, v) ∧ Rn sc d 212 720 L (v.toList ++ [.int z0]) σ3 r := r_callV (vs := [.int y0, .int y1]) d212_717 (j := 161) (by decide +kernel) ⟨rfl, by decide, rfl, rfl⟩ (Nat.le_of_ble_eq_true rfl) hK
theorem d212_720 : decode (mC 212) 720 = .ok (.if_icmp .eq 615, 3) := by decide +kernel
theorem x212_720 {sc : aSc} {d : Nat} {r : aRes} {L : List Value} {st : List Value} {σ : aS} {x y : Int32} : Rn sc d 212 720 L (.int y :: .int x :: st) σ r ↔ if x = y then Rn sc d 212 1335 L st σ r else Rn sc d 212 723 L st σ r := r_icmp_eq d212_720 rfl
theorem d212_723 : decode (mC 212) 723 = .ok (.iconst 0, 1) := by decide +kernel
theorem x212_723 {sc : aSc} {d : Nat} {r : aRes} {L : List Value} {st : List Value} {σ : aS} : Rn sc d 212 723 L st σ r ↔ Rn sc d 212 724 L (.int 0 :: st) σ r := r_iconst d212_723 (by decide)
theorem d212_724 : decode (mC 212) 724 = .ok (.ireturn, 1) := by decide +kernel
theorem d212_725 : decode (mC 212) 725 = .ok (.aload_n 1, 1) := by decide +kernel
theorem x212_725 {sc : aSc} {d : Nat} {r : aRes} {a0 : Value} {x1 : Nat} {a2 : Value} {a3 : Value} {st : List Value} {σ : aS} : Rn sc d 212 725 [a0, .ref x1, a2, a3] st σ r ↔ Rn sc d 212 726 [a0, .ref x1, a2, a3] (.ref x1 :: st) σ r := r_aload_n d212_725 rfl
theorem d212_726 : decode (mC 212) 726 = .ok (.aload_n 0, 1) := by decide +kernel
theorem x212_726 {sc : aSc} {d : Nat} {r : aRes} {x0 : Nat} {a1 : Value} {a2 : Value} {a3 : Value} {st : List Value} {σ : aS} : Rn sc d 212 726 [.ref x0, a1, a2, a3] st σ r ↔ Rn sc d 212 727 [.ref x0, a1, a2, a3] (.ref x0 :: st) σ r := r_aload_n d212_726 rfl
theorem d212_727 : decode (mC 212) 727 = .ok (.iload_n 3, 1) := by decide +kernel
theorem x212_727 {sc : aSc} {d : Nat} {r : aRes} {a0 : Value} {a1 : Value} {a2 : Value} {x3 : Int32} {st : List Value} {σ : aS} : Rn sc d 212 727 [a0, a1, a2, .int x3] st σ r ↔ Rn sc d 212 728 [a0, a1, a2, .int x3] (.int x3 :: st) σ r := r_iload_n d212_727 rfl
theorem d212_728 : decode (mC 212) 728 = .ok (.iconst 1, 1) := by decide +kernel
theorem x212_728 {sc : aSc} {d : Nat} {r : aRes} {L : List Value} {st : List Value} {σ : aS} : Rn sc d 212 728 L st σ r ↔ Rn sc d 212 729 L (.int 1 :: st) σ r := r_iconst d212_728 (by decide)
theorem d212_729 : decode (mC 212) 729 = .ok (.iadd, 1) := by decide +kernel
theorem x212_729 {sc : aSc} {d : Nat} {r : aRes} {L : List Value} {st : List Value} {σ : aS} {x y : Int32} : Rn sc d 212 729 L (.int y :: .int x :: st) σ r ↔ Rn sc d 212 730 L (.int (x + y) :: st) σ r := r_iadd d212_729
theorem d212_730 : decode (mC 212) 730 = .ok (.iaload, 1) := by decide +kernel
theorem d212_731 : decode (mC 212) 731 = .ok (.invokevirtual 86, 3) := by decide +kernel
theorem x212_731 {sc : aSc} {d : Nat} {r : aRes} {L : List Value} {f : Nat → Nat → Int32} {g : Nat → Nat → Int64} {h1 h2 : Nat} {y0 : Int32}  {o : Nat} (hK : KK[o]? = some (.inl 6)) : Rn sc d 212 731 L [.int y0, .ref o] (cS f g h1 h2) r ↔ ∃ (σ3 : aS) (v : Option Value), Cl sc d 83 [.ref o, .int y0] (cS f g h1 h2) (σ3, v) ∧ Rn sc d 212 734 L (v.toList ++ []) σ3 r := r_callV (vs := [.int y0]) d212_731 (j := 83) (by decide +kernel) ⟨rfl, by decide, rfl, rfl⟩ (Nat.le_of_ble_eq_true rfl) hK
theorem d212_734 : decode (mC 212) 734 = .ok (.aload_n 2, 1) := by decide +kernel
theorem x212_734 {sc : aSc} {d : Nat} {r : aRes} {a0 : Value} {a1 : Value} {x2 : Nat} {a3 : Value} {st : List Value} {σ : aS} : Rn sc d 212 734 [a0, a1, .ref x2, a3] st σ r ↔ Rn sc d 212 735 [a0, a1, .ref x2, a3] (.ref x2 :: st) σ r := r_aload_n d212_734 rfl
theorem d212_735 : decode (mC 212) 735 = .ok (.aload_n 0, 1) := by decide +kernel
theorem x212_735 {sc : aSc} {d : Nat} {r : aRes} {x0 : Nat} {a1 : Value} {a2 : Value} {a3 : Value} {st : List Value} {σ : aS} : Rn sc d 212 735 [.ref x0, a1, a2, a3] st σ r ↔ Rn sc d 212 736 [.ref x0, a1, a2, a3] (.ref x0 :: st) σ r := r_aload_n d212_735 rfl
theorem d212_736 : decode (mC 212) 736 = .ok (.iload_n 3, 1) := by decide +kernel
theorem x212_736 {sc : aSc} {d : Nat} {r : aRes} {a0 : Value} {a1 : Value} {a2 : Value} {x3 : Int32} {st : List Value} {σ : aS} : Rn sc d 212 736 [a0, a1, a2, .int x3] st σ r ↔ Rn sc d 212 737 [a0, a1, a2, .int x3] (.int x3 :: st) σ r := r_iload_n d212_736 rfl
theorem d212_737 : decode (mC 212) 737 = .ok (.iconst 1, 1) := by decide +kernel
theorem x212_737 {sc : aSc} {d : Nat} {r : aRes} {L : List Value} {st : List Value} {σ : aS} : Rn sc d 212 737 L st σ r ↔ Rn sc d 212 738 L (.int 1 :: st) σ r := r_iconst d212_737 (by decide)
theorem d212_738 : decode (mC 212) 738 = .ok (.iadd, 1) := by decide +kernel
theorem x212_738 {sc : aSc} {d : Nat} {r : aRes} {L : List Value} {st : List Value} {σ : aS} {x y : Int32} : Rn sc d 212 738 L (.int y :: .int x :: st) σ r ↔ Rn sc d 212 739 L (.int (x + y) :: st) σ r := r_iadd d212_738
theorem d212_739 : decode (mC 212) 739 = .ok (.iaload, 1) := by decide +kernel
theorem d212_740 : decode (mC 212) 740 = .ok (.invokevirtual 89, 3) := by decide +kernel
theorem x212_740 {sc : aSc} {d : Nat} {r : aRes} {L : List Value} {f : Nat → Nat → Int32} {g : Nat → Nat → Int64} {h1 h2 : Nat} {y0 : Int32} {z0 : Int32} {o : Nat} (hK : KK[o]? = some (.inl 7)) : Rn sc d 212 740 L [.int y0, .ref o, .int z0] (cS f g h1 h2) r ↔ ∃ (σ3 : aS) (v : Option Value), Cl sc d 164 [.ref o, .int y0] (cS f g h1 h2) (σ3, v) ∧ Rn sc d 212 743 L (v.toList ++ [.int z0]) σ3 r := r_callV (vs := [.int y0]) d212_740 (j := 164) (by decide +kernel) ⟨rfl, by decide, rfl, rfl⟩ (Nat.le_of_ble_eq_true rfl) hK
theorem d212_743 : decode (mC 212) 743 = .ok (.if_icmp .eq 592, 3) := by decide +kernel
theorem x212_743 {sc : aSc} {d : Nat} {r : aRes} {L : List Value} {st : List Value} {σ : aS} {x y : Int32} : Rn sc d 212 743 L (.int y :: .int x :: st) σ r ↔ if x = y then Rn sc d 212 1335 L st σ r else Rn sc d 212 746 L st σ r := r_icmp_eq d212_743 rfl
theorem d212_746 : decode (mC 212) 746 = .ok (.iconst 0, 1) := by decide +kernel
theorem x212_746 {sc : aSc} {d : Nat} {r : aRes} {L : List Value} {st : List Value} {σ : aS} : Rn sc d 212 746 L st σ r ↔ Rn sc d 212 747 L (.int 0 :: st) σ r := r_iconst d212_746 (by decide)
theorem d212_747 : decode (mC 212) 747 = .ok (.ireturn, 1) := by decide +kernel
theorem d212_748 : decode (mC 212) 748 = .ok (.aload_n 1, 1) := by decide +kernel
theorem x212_748 {sc : aSc} {d : Nat} {r : aRes} {a0 : Value} {x1 : Nat} {a2 : Value} {a3 : Value} {st : List Value} {σ : aS} : Rn sc d 212 748 [a0, .ref x1, a2, a3] st σ r ↔ Rn sc d 212 749 [a0, .ref x1, a2, a3] (.ref x1 :: st) σ r := r_aload_n d212_748 rfl
theorem d212_749 : decode (mC 212) 749 = .ok (.aload_n 0, 1) := by decide +kernel
theorem x212_749 {sc : aSc} {d : Nat} {r : aRes} {x0 : Nat} {a1 : Value} {a2 : Value} {a3 : Value} {st : List Value} {σ : aS} : Rn sc d 212 749 [.ref x0, a1, a2, a3] st σ r ↔ Rn sc d 212 750 [.ref x0, a1, a2, a3] (.ref x0 :: st) σ r := r_aload_n d212_749 rfl
theorem d212_750 : decode (mC 212) 750 = .ok (.iload_n 3, 1) := by decide +kernel
theorem x212_750 {sc : aSc} {d : Nat} {r : aRes} {a0 : Value} {a1 : Value} {a2 : Value} {x3 : Int32} {st : List Value} {σ : aS} : Rn sc d 212 750 [a0, a1, a2, .int x3] st σ r ↔ Rn sc d 212 751 [a0, a1, a2, .int x3] (.int x3 :: st) σ r := r_iload_n d212_750 rfl
theorem d212_751 : decode (mC 212) 751 = .ok (.iconst 1, 1) := by decide +kernel
theorem x212_751 {sc : aSc} {d : Nat} {r : aRes} {L : List Value} {st : List Value} {σ : aS} : Rn sc d 212 751 L st σ r ↔ Rn sc d 212 752 L (.int 1 :: st) σ r := r_iconst d212_751 (by decide)
theorem d212_752 : decode (mC 212) 752 = .ok (.iadd, 1) := by decide +kernel
theorem x212_752 {sc : aSc} {d : Nat} {r : aRes} {L : List Value} {st : List Value} {σ : aS} {x y : Int32} : Rn sc d 212 752 L (.int y :: .int x :: st) σ r ↔ Rn sc d 212 753 L (.int (x + y) :: st) σ r := r_iadd d212_752
theorem d212_753 : decode (mC 212) 753 = .ok (.iaload, 1) := by decide +kernel
theorem d212_754 : decode (mC 212) 754 = .ok (.invokevirtual 90, 3) := by decide +kernel
theorem x212_754 {sc : aSc} {d : Nat} {r : aRes} {L : List Value} {f : Nat → Nat → Int32} {g : Nat → Nat → Int64} {h1 h2 : Nat} {y0 : Int32}  {o : Nat} (hK : KK[o]? = some (.inl 6)) : Rn sc d 212 754 L [.int y0, .ref o] (cS f g h1 h2) r ↔ ∃ (σ3 : aS) (v : Option Value), Cl sc d 84 [.ref o, .int y0] (cS f g h1 h2) (σ3, v) ∧ Rn sc d 212 757 L (v.toList ++ []) σ3 r := r_callV (vs := [.int y0]) d212_754 (j := 84) (by decide +kernel) ⟨rfl, by decide, rfl, rfl⟩ (Nat.le_of_ble_eq_true rfl) hK
theorem d212_757 : decode (mC 212) 757 = .ok (.aload_n 2, 1) := by decide +kernel
theorem x212_757 {sc : aSc} {d : Nat} {r : aRes} {a0 : Value} {a1 : Value} {x2 : Nat} {a3 : Value} {st : List Value} {σ : aS} : Rn sc d 212 757 [a0, a1, .ref x2, a3] st σ r ↔ Rn sc d 212 758 [a0, a1, .ref x2, a3] (.ref x2 :: st) σ r := r_aload_n d212_757 rfl
theorem d212_758 : decode (mC 212) 758 = .ok (.aload_n 0, 1) := by decide +kernel
theorem x212_758 {sc : aSc} {d : Nat} {r : aRes} {x0 : Nat} {a1 : Value} {a2 : Value} {a3 : Value} {st : List Value} {σ : aS} : Rn sc d 212 758 [.ref x0, a1, a2, a3] st σ r ↔ Rn sc d 212 759 [.ref x0, a1, a2, a3] (.ref x0 :: st) σ r := r_aload_n d212_758 rfl
theorem d212_759 : decode (mC 212) 759 = .ok (.iload_n 3, 1) := by decide +kernel
theorem x212_759 {sc : aSc} {d : Nat} {r : aRes} {a0 : Value} {a1 : Value} {a2 : Value} {x3 : Int32} {st : List Value} {σ : aS} : Rn sc d 212 759 [a0, a1, a2, .int x3] st σ r ↔ Rn sc d 212 760 [a0, a1, a2, .int x3] (.int x3 :: st) σ r := r_iload_n d212_759 rfl
theorem d212_760 : decode (mC 212) 760 = .ok (.iconst 1, 1) := by decide +kernel
theorem x212_760 {sc : aSc} {d : Nat} {r : aRes} {L : List Value} {st : List Value} {σ : aS} : Rn sc d 212 760 L st σ r ↔ Rn sc d 212 761 L (.int 1 :: st) σ r := r_iconst d212_760 (by decide)
theorem d212_761 : decode (mC 212) 761 = .ok (.iadd, 1) := by decide +kernel
theorem x212_761 {sc : aSc} {d : Nat} {r : aRes} {L : List Value} {st : List Value} {σ : aS} {x y : Int32} : Rn sc d 212 761 L (.int y :: .int x :: st) σ r ↔ Rn sc d 212 762 L (.int (x + y) :: st) σ r := r_iadd d212_761
theorem d212_762 : decode (mC 212) 762 = .ok (.iaload, 1) := by decide +kernel
theorem d212_763 : decode (mC 212) 763 = .ok (.invokevirtual 93, 3) := by decide +kernel
theorem x212_763 {sc : aSc} {d : Nat} {r : aRes} {L : List Value} {f : Nat → Nat → Int32} {g : Nat → Nat → Int64} {h1 h2 : Nat} {y0 : Int32} {z0 : Int32} {o : Nat} (hK : KK[o]? = some (.inl 7)) : Rn sc d 212 763 L [.int y0, .ref o, .int z0] (cS f g h1 h2) r ↔ ∃ (σ3 : aS) (v : Option Value), Cl sc d 165 [.ref o, .int y0] (cS f g h1 h2) (σ3, v) ∧ Rn sc d 212 766 L (v.toList ++ [.int z0]) σ3 r := r_callV (vs := [.int y0]) d212_763 (j := 165) (by decide +kernel) ⟨rfl, by decide, rfl, rfl⟩ (Nat.le_of_ble_eq_true rfl) hK
theorem d212_766 : decode (mC 212) 766 = .ok (.if_icmp .eq 569, 3) := by decide +kernel
theorem x212_766 {sc : aSc} {d : Nat} {r : aRes} {L : List Value} {st : List Value} {σ : aS} {x y : Int32} : Rn sc d 212 766 L (.int y :: .int x :: st) σ r ↔ if x = y then Rn sc d 212 1335 L st σ r else Rn sc d 212 769 L st σ r := r_icmp_eq d212_766 rfl
theorem d212_769 : decode (mC 212) 769 = .ok (.iconst 0, 1) := by decide +kernel
theorem x212_769 {sc : aSc} {d : Nat} {r : aRes} {L : List Value} {st : List Value} {σ : aS} : Rn sc d 212 769 L st σ r ↔ Rn sc d 212 770 L (.int 0 :: st) σ r := r_iconst d212_769 (by decide)
theorem d212_770 : decode (mC 212) 770 = .ok (.ireturn, 1) := by decide +kernel
theorem d212_771 : decode (mC 212) 771 = .ok (.aload_n 1, 1) := by decide +kernel
theorem x212_771 {sc : aSc} {d : Nat} {r : aRes} {a0 : Value} {x1 : Nat} {a2 : Value} {a3 : Value} {st : List Value} {σ : aS} : Rn sc d 212 771 [a0, .ref x1, a2, a3] st σ r ↔ Rn sc d 212 772 [a0, .ref x1, a2, a3] (.ref x1 :: st) σ r := r_aload_n d212_771 rfl
theorem d212_772 : decode (mC 212) 772 = .ok (.aload_n 0, 1) := by decide +kernel
theorem x212_772 {sc : aSc} {d : Nat} {r : aRes} {x0 : Nat} {a1 : Value} {a2 : Value} {a3 : Value} {st : List Value} {σ : aS} : Rn sc d 212 772 [.ref x0, a1, a2, a3] st σ r ↔ Rn sc d 212 773 [.ref x0, a1, a2, a3] (.ref x0 :: st) σ r := r_aload_n d212_772 rfl
theorem d212_773 : decode (mC 212) 773 = .ok (.iload_n 3, 1) := by decide +kernel
theorem x212_773 {sc : aSc} {d : Nat} {r : aRes} {a0 : Value} {a1 : Value} {a2 : Value} {x3 : Int32} {st : List Value} {σ : aS} : Rn sc d 212 773 [a0, a1, a2, .int x3] st σ r ↔ Rn sc d 212 774 [a0, a1, a2, .int x3] (.int x3 :: st) σ r := r_iload_n d212_773 rfl
theorem d212_774 : decode (mC 212) 774 = .ok (.iconst 1, 1) := by decide +kernel
theorem x212_774 {sc : aSc} {d : Nat} {r : aRes} {L : List Value} {st : List Value} {σ : aS} : Rn sc d 212 774 L st σ r ↔ Rn sc d 212 775 L (.int 1 :: st) σ r := r_iconst d212_774 (by decide)
theorem d212_775 : decode (mC 212) 775 = .ok (.iadd, 1) := by decide +kernel
theorem x212_775 {sc : aSc} {d : Nat} {r : aRes} {L : List Value} {st : List Value} {σ : aS} {x y : Int32} : Rn sc d 212 775 L (.int y :: .int x :: st) σ r ↔ Rn sc d 212 776 L (.int (x + y) :: st) σ r := r_iadd d212_775
theorem d212_776 : decode (mC 212) 776 = .ok (.iaload, 1) := by decide +kernel
theorem d212_777 : decode (mC 212) 777 = .ok (.aload_n 0, 1) := by decide +kernel
theorem x212_777 {sc : aSc} {d : Nat} {r : aRes} {x0 : Nat} {a1 : Value} {a2 : Value} {a3 : Value} {st : List Value} {σ : aS} : Rn sc d 212 777 [.ref x0, a1, a2, a3] st σ r ↔ Rn sc d 212 778 [.ref x0, a1, a2, a3] (.ref x0 :: st) σ r := r_aload_n d212_777 rfl
theorem d212_778 : decode (mC 212) 778 = .ok (.iload_n 3, 1) := by decide +kernel
theorem x212_778 {sc : aSc} {d : Nat} {r : aRes} {a0 : Value} {a1 : Value} {a2 : Value} {x3 : Int32} {st : List Value} {σ : aS} : Rn sc d 212 778 [a0, a1, a2, .int x3] st σ r ↔ Rn sc d 212 779 [a0, a1, a2, .int x3] (.int x3 :: st) σ r := r_iload_n d212_778 rfl
theorem d212_779 : decode (mC 212) 779 = .ok (.iconst 2, 1) := by decide +kernel
theorem x212_779 {sc : aSc} {d : Nat} {r : aRes} {L : List Value} {st : List Value} {σ : aS} : Rn sc d 212 779 L st σ r ↔ Rn sc d 212 780 L (.int 2 :: st) σ r := r_iconst d212_779 (by decide)
theorem d212_780 : decode (mC 212) 780 = .ok (.iadd, 1) := by decide +kernel
theorem x212_780 {sc : aSc} {d : Nat} {r : aRes} {L : List Value} {st : List Value} {σ : aS} {x y : Int32} : Rn sc d 212 780 L (.int y :: .int x :: st) σ r ↔ Rn sc d 212 781 L (.int (x + y) :: st) σ r := r_iadd d212_780
theorem d212_781 : decode (mC 212) 781 = .ok (.iaload, 1) := by decide +kernel
theorem d212_782 : decode (mC 212) 782 = .ok (.invokevirtual 94, 3) := by decide +kernel
theorem x212_782 {sc : aSc} {d : Nat} {r : aRes} {L : List Value} {f : Nat → Nat → Int32} {g : Nat → Nat → Int64} {h1 h2 : Nat} {y0 : Int32} {y1 : Int32}  {o : Nat} (hK : KK[o]? = some (.inl 6)) : Rn sc d 212 782 L [.int y0, .int y1, .ref o] (cS f g h1 h2) r ↔ ∃ (σ3 : aS) (v : Option Value), Cl sc d 85 [.ref o, .int y1, .int y0] (cS f g h1 h2) (σ3, v) ∧ Rn sc d 212 785 L (v.toList ++ []) σ3 r := r_callV (vs := [.int y0, .int y1]) d212_782 (j := 85) (by decide +kernel) ⟨rfl, by decide, rfl, rfl⟩ (Nat.le_of_ble_eq_true rfl) hK
theorem d212_785 : decode (mC 212) 785 = .ok (.aload_n 2, 1) := by decide +kernel
theorem x212_785 {sc : aSc} {d : Nat} {r : aRes} {a0 : Value} {a1 : Value} {x2 : Nat} {a3 : Value} {st : List Value} {σ : aS} : Rn sc d 212 785 [a0, a1, .ref x2, a3] st σ r ↔ Rn sc d 212 786 [a0, a1, .ref x2, a3] (.ref x2 :: st) σ r := r_aload_n d212_785 rfl
theorem d212_786 : decode (mC 212) 786 = .ok (.aload_n 0, 1) := by decide +kernel
theorem x212_786 {sc : aSc} {d : Nat} {r : aRes} {x0 : Nat} {a1 : Value} {a2 : Value} {a3 : Value} {st : List Value} {σ : aS} : Rn sc d 212 786 [.ref x0, a1, a2, a3] st σ r ↔ Rn sc d 212 787 [.ref x0, a1, a2, a3] (.ref x0 :: st) σ r := r_aload_n d212_786 rfl
theorem d212_787 : decode (mC 212) 787 = .ok (.iload_n 3, 1) := by decide +kernel
theorem x212_787 {sc : aSc} {d : Nat} {r : aRes} {a0 : Value} {a1 : Value} {a2 : Value} {x3 : Int32} {st : List Value} {σ : aS} : Rn sc d 212 787 [a0, a1, a2, .int x3] st σ r ↔ Rn sc d 212 788 [a0, a1, a2, .int x3] (.int x3 :: st) σ r := r_iload_n d212_787 rfl
theorem d212_788 : decode (mC 212) 788 = .ok (.iconst 1, 1) := by decide +kernel
theorem x212_788 {sc : aSc} {d : Nat} {r : aRes} {L : List Value} {st : List Value} {σ : aS} : Rn sc d 212 788 L st σ r ↔ Rn sc d 212 789 L (.int 1 :: st) σ r := r_iconst d212_788 (by decide)
theorem d212_789 : decode (mC 212) 789 = .ok (.iadd, 1) := by decide +kernel
theorem x212_789 {sc : aSc} {d : Nat} {r : aRes} {L : List Value} {st : List Value} {σ : aS} {x y : Int32} : Rn sc d 212 789 L (.int y :: .int x :: st) σ r ↔ Rn sc d 212 790 L (.int (x + y) :: st) σ r := r_iadd d212_789
theorem d212_790 : decode (mC 212) 790 = .ok (.iaload, 1) := by decide +kernel
theorem d212_791 : decode (mC 212) 791 = .ok (.aload_n 0, 1) := by decide +kernel
theorem x212_791 {sc : aSc} {d : Nat} {r : aRes} {x0 : Nat} {a1 : Value} {a2 : Value} {a3 : Value} {st : List Value} {σ : aS} : Rn sc d 212 791 [.ref x0, a1, a2, a3] st σ r ↔ Rn sc d 212 792 [.ref x0, a1, a2, a3] (.ref x0 :: st) σ r := r_aload_n d212_791 rfl
theorem d212_792 : decode (mC 212) 792 = .ok (.iload_n 3, 1) := by decide +kernel
theorem x212_792 {sc : aSc} {d : Nat} {r : aRes} {a0 : Value} {a1 : Value} {a2 : Value} {x3 : Int32} {st : List Value} {σ : aS} : Rn sc d 212 792 [a0, a1, a2, .int x3] st σ r ↔ Rn sc d 212 793 [a0, a1, a2, .int x3] (.int x3 :: st) σ r := r_iload_n d212_792 rfl
theorem d212_793 : decode (mC 212) 793 = .ok (.iconst 2, 1) := by decide +kernel
theorem x212_793 {sc : aSc} {d : Nat} {r : aRes} {L : List Value} {st : List Value} {σ : aS} : Rn sc d 212 793 L st σ r ↔ Rn sc d 212 794 L (.int 2 :: st) σ r := r_iconst d212_793 (by decide)
theorem d212_794 : decode (mC 212) 794 = .ok (.iadd, 1) := by decide +kernel
theorem x212_794 {sc : aSc} {d : Nat} {r : aRes} {L : List Value} {st : List Value} {σ : aS} {x y : Int32} : Rn sc d 212 794 L (.int y :: .int x :: st) σ r ↔ Rn sc d 212 795 L (.int (x + y) :: st) σ r := r_iadd d212_794
theorem d212_795 : decode (mC 212) 795 = .ok (.iaload, 1) := by decide +kernel
theorem d212_796 : decode (mC 212) 796 = .ok (.invokevirtual 97, 3) := by decide +kernel
theorem x212_796 {sc : aSc} {d : Nat} {r : aRes} {L : List Value} {f : Nat → Nat → Int32} {g : Nat → Nat → Int64} {h1 h2 : Nat} {y0 : Int32} {y1 : Int32} {z0 : Int32} {o : Nat} (hK : KK[o]? = some (.inl 7)) : Rn sc d 212 796 L [.int y0, .int y1, .ref o, .int z0] (cS f g h1 h2) r ↔ ∃ (σ3 : aS) (v : Option Value), Cl sc d 166 [.ref o, .int y1, .int y0] (cS f g h1 h2) (σ3, v) ∧ Rn sc d 212 799 L (v.toList ++ [.int z0]) σ3 r := r_callV (vs := [.int y0, .int y1]) d212_796 (j := 166) (by decide +kernel) ⟨rfl, by decide, rfl, rfl⟩ (Nat.le_of_ble_eq_true rfl) hK
theorem d212_799 : decode (mC 212) 799 = .ok (.if_icmp .eq 536, 3) := by decide +kernel
theorem x212_799 {sc : aSc} {d : Nat} {r : aRes} {L : List Value} {st : List Value} {σ : aS} {x y : Int32} : Rn sc d 212 799 L (.int y :: .int x :: st) σ r ↔ if x = y then Rn sc d 212 1335 L st σ r else Rn sc d 212 802 L st σ r := r_icmp_eq d212_799 rfl
theorem d212_802 : decode (mC 212) 802 = .ok (.iconst 0, 1) := by decide +kernel
theorem x212_802 {sc : aSc} {d : Nat} {r : aRes} {L : List Value} {st : List Value} {σ : aS} : Rn sc d 212 802 L st σ r ↔ Rn sc d 212 803 L (.int 0 :: st) σ r := r_iconst d212_802 (by decide)
theorem d212_803 : decode (mC 212) 803 = .ok (.ireturn, 1) := by decide +kernel
theorem d212_804 : decode (mC 212) 804 = .ok (.aload_n 1, 1) := by decide +kernel
theorem x212_804 {sc : aSc} {d : Nat} {r : aRes} {a0 : Value} {x1 : Nat} {a2 : Value} {a3 : Value} {st : List Value} {σ : aS} : Rn sc d 212 804 [a0, .ref x1, a2, a3] st σ r ↔ Rn sc d 212 805 [a0, .ref x1, a2, a3] (.ref x1 :: st) σ r := r_aload_n d212_804 rfl
theorem d212_805 : decode (mC 212) 805 = .ok (.aload_n 0, 1) := by decide +kernel
theorem x212_805 {sc : aSc} {d : Nat} {r : aRes} {x0 : Nat} {a1 : Value} {a2 : Value} {a3 : Value} {st : List Value} {σ : aS} : Rn sc d 212 805 [.ref x0, a1, a2, a3] st σ r ↔ Rn sc d 212 806 [.ref x0, a1, a2, a3] (.ref x0 :: st) σ r := r_aload_n d212_805 rfl
theorem d212_806 : decode (mC 212) 806 = .ok (.iload_n 3, 1) := by decide +kernel
theorem x212_806 {sc : aSc} {d : Nat} {r : aRes} {a0 : Value} {a1 : Value} {a2 : Value} {x3 : Int32} {st : List Value} {σ : aS} : Rn sc d 212 806 [a0, a1, a2, .int x3] st σ r ↔ Rn sc d 212 807 [a0, a1, a2, .int x3] (.int x3 :: st) σ r := r_iload_n d212_806 rfl
theorem d212_807 : decode (mC 212) 807 = .ok (.iconst 1, 1) := by decide +kernel
theorem x212_807 {sc : aSc} {d : Nat} {r : aRes} {L : List Value} {st : List Value} {σ : aS} : Rn sc d 212 807 L st σ r ↔ Rn sc d 212 808 L (.int 1 :: st) σ r := r_iconst d212_807 (by decide)
theorem d212_808 : decode (mC 212) 808 = .ok (.iadd, 1) := by decide +kernel
theorem x212_808 {sc : aSc} {d : Nat} {r : aRes} {L : List Value} {st : List Value} {σ : aS} {x y : Int32} : Rn sc d 212 808 L (.int y :: .int x :: st) σ r ↔ Rn sc d 212 809 L (.int (x + y) :: st) σ r := r_iadd d212_808
theorem d212_809 : decode (mC 212) 809 = .ok (.iaload, 1) := by decide +kernel
theorem d212_810 : decode (mC 212) 810 = .ok (.invokevirtual 98, 3) := by decide +kernel
theorem x212_810 {sc : aSc} {d : Nat} {r : aRes} {L : List Value} {f : Nat → Nat → Int32} {g : Nat → Nat → Int64} {h1 h2 : Nat} {y0 : Int32}  {o : Nat} (hK : KK[o]? = some (.inl 6)) : Rn sc d 212 810 L [.int y0, .ref o] (cS f g h1 h2) r ↔ ∃ (σ3 : aS) (v : Option Value), Cl sc d 86 [.ref o, .int y0] (cS f g h1 h2) (σ3, v) ∧ Rn sc d 212 813 L (v.toList ++ []) σ3 r := r_callV (vs := [.int y0]) d212_810 (j := 86) (by decide +kernel) ⟨rfl, by decide, rfl, rfl⟩ (Nat.le_of_ble_eq_true rfl) hK
theorem d212_813 : decode (mC 212) 813 = .ok (.aload_n 2, 1) := by decide +kernel
theorem x212_813 {sc : aSc} {d : Nat} {r : aRes} {a0 : Value} {a1 : Value} {x2 : Nat} {a3 : Value} {st : List Value} {σ : aS} : Rn sc d 212 813 [a0, a1, .ref x2, a3] st σ r ↔ Rn sc d 212 814 [a0, a1, .ref x2, a3] (.ref x2 :: st) σ r := r_aload_n d212_813 rfl
theorem d212_814 : decode (mC 212) 814 = .ok (.aload_n 0, 1) := by decide +kernel
theorem x212_814 {sc : aSc} {d : Nat} {r : aRes} {x0 : Nat} {a1 : Value} {a2 : Value} {a3 : Value} {st : List Value} {σ : aS} : Rn sc d 212 814 [.ref x0, a1, a2, a3] st σ r ↔ Rn sc d 212 815 [.ref x0, a1, a2, a3] (.ref x0 :: st) σ r := r_aload_n d212_814 rfl
theorem d212_815 : decode (mC 212) 815 = .ok (.iload_n 3, 1) := by decide +kernel
theorem x212_815 {sc : aSc} {d : Nat} {r : aRes} {a0 : Value} {a1 : Value} {a2 : Value} {x3 : Int32} {st : List Value} {σ : aS} : Rn sc d 212 815 [a0, a1, a2, .int x3] st σ r ↔ Rn sc d 212 816 [a0, a1, a2, .int x3] (.int x3 :: st) σ r := r_iload_n d212_815 rfl
theorem d212_816 : decode (mC 212) 816 = .ok (.iconst 1, 1) := by decide +kernel
theorem x212_816 {sc : aSc} {d : Nat} {r : aRes} {L : List Value} {st : List Value} {σ : aS} : Rn sc d 212 816 L st σ r ↔ Rn sc d 212 817 L (.int 1 :: st) σ r := r_iconst d212_816 (by decide)
theorem d212_817 : decode (mC 212) 817 = .ok (.iadd, 1) := by decide +kernel
theorem x212_817 {sc : aSc} {d : Nat} {r : aRes} {L : List Value} {st : List Value} {σ : aS} {x y : Int32} : Rn sc d 212 817 L (.int y :: .int x :: st) σ r ↔ Rn sc d 212 818 L (.int (x + y) :: st) σ r := r_iadd d212_817
theorem d212_818 : decode (mC 212) 818 = .ok (.iaload, 1) := by decide +kernel
theorem d212_819 : decode (mC 212) 819 = .ok (.invokevirtual 101, 3) := by decide +kernel
theorem x212_819 {sc : aSc} {d : Nat} {r : aRes} {L : List Value} {f : Nat → Nat → Int32} {g : Nat → Nat → Int64} {h1 h2 : Nat} {y0 : Int32} {z0 : Int32} {o : Nat} (hK : KK[o]? = some (.inl 7)) : Rn sc d 212 819 L [.int y0, .ref o, .int z0] (cS f g h1 h2) r ↔ ∃ (σ3 : aS) (v : Option Value), Cl sc d 167 [.ref o, .int y0] (cS f g h1 h2) (σ3, v) ∧ Rn sc d 212 822 L (v.toList ++ [.int z0]) σ3 r := r_callV (vs := [.int y0]) d212_819 (j := 167) (by decide +kernel) ⟨rfl, by decide, rfl, rfl⟩ (Nat.le_of_ble_eq_true rfl) hK
theorem d212_822 : decode (mC 212) 822 = .ok (.if_icmp .eq 513, 3) := by decide +kernel
theorem x212_822 {sc : aSc} {d : Nat} {r : aRes} {L : List Value} {st : List Value} {σ : aS} {x y : Int32} : Rn sc d 212 822 L (.int y :: .int x :: st) σ r ↔ if x = y then Rn sc d 212 1335 L st σ r else Rn sc d 212 825 L st σ r := r_icmp_eq d212_822 rfl
theorem d212_825 : decode (mC 212) 825 = .ok (.iconst 0, 1) := by decide +kernel
theorem x212_825 {sc : aSc} {d : Nat} {r : aRes} {L : List Value} {st : List Value} {σ : aS} : Rn sc d 212 825 L st σ r ↔ Rn sc d 212 826 L (.int 0 :: st) σ r := r_iconst d212_825 (by decide)
theorem d212_826 : decode (mC 212) 826 = .ok (.ireturn, 1) := by decide +kernel
theorem d212_827 : decode (mC 212) 827 = .ok (.aload_n 1, 1) := by decide +kernel
theorem x212_827 {sc : aSc} {d : Nat} {r : aRes} {a0 : Value} {x1 : Nat} {a2 : Value} {a3 : Value} {st : List Value} {σ : aS} : Rn sc d 212 827 [a0, .ref x1, a2, a3] st σ r ↔ Rn sc d 212 828 [a0, .ref x1, a2, a3] (.ref x1 :: st) σ r := r_aload_n d212_827 rfl
theorem d212_828 : decode (mC 212) 828 = .ok (.aload_n 0, 1) := by decide +kernel
theorem x212_828 {sc : aSc} {d : Nat} {r : aRes} {x0 : Nat} {a1 : Value} {a2 : Value} {a3 : Value} {st : List Value} {σ : aS} : Rn sc d 212 828 [.ref x0, a1, a2, a3] st σ r ↔ Rn sc d 212 829 [.ref x0, a1, a2, a3] (.ref x0 :: st) σ r := r_aload_n d212_828 rfl
theorem d212_829 : decode (mC 212) 829 = .ok (.iload_n 3, 1) := by decide +kernel
theorem x212_829 {sc : aSc} {d : Nat} {r : aRes} {a0 : Value} {a1 : Value} {a2 : Value} {x3 : Int32} {st : List Value} {σ : aS} : Rn sc d 212 829 [a0, a1, a2, .int x3] st σ r ↔ Rn sc d 212 830 [a0, a1, a2, .int x3] (.int x3 :: st) σ r := r_iload_n d212_829 rfl
theorem d212_830 : decode (mC 212) 830 = .ok (.iconst 1, 1) := by decide +kernel
theorem x212_830 {sc : aSc} {d : Nat} {r : aRes} {L : List Value} {st : List Value} {σ : aS} : Rn sc d 212 830 L st σ r ↔ Rn sc d 212 831 L (.int 1 :: st) σ r := r_iconst d212_830 (by decide)
theorem d212_831 : decode (mC 212) 831 = .ok (.iadd, 1) := by decide +kernel
theorem x212_831 {sc : aSc} {d : Nat} {r : aRes} {L : List Value} {st : List Value} {σ : aS} {x y : Int32} : Rn sc d 212 831 L (.int y :: .int x :: st) σ r ↔ Rn sc d 212 832 L (.int (x + y) :: st) σ r := r_iadd d212_831
theorem d212_832 : decode (mC 212) 832 = .ok (.iaload, 1) := by decide +kernel
theorem d212_833 : decode (mC 212) 833 = .ok (.aload_n 0, 1) := by decide +kernel
theorem x212_833 {sc : aSc} {d : Nat} {r : aRes} {x0 : Nat} {a1 : Value} {a2 : Value} {a3 : Value} {st : List Value} {σ : aS} : Rn sc d 212 833 [.ref x0, a1, a2, a3] st σ r ↔ Rn sc d 212 834 [.ref x0, a1, a2, a3] (.ref x0 :: st) σ r := r_aload_n d212_833 rfl
theorem d212_834 : decode (mC 212) 834 = .ok (.iload_n 3, 1) := by decide +kernel
theorem x212_834 {sc : aSc} {d : Nat} {r : aRes} {a0 : Value} {a1 : Value} {a2 : Value} {x3 : Int32} {st : List Value} {σ : aS} : Rn sc d 212 834 [a0, a1, a2, .int x3] st σ r ↔ Rn sc d 212 835 [a0, a1, a2, .int x3] (.int x3 :: st) σ r := r_iload_n d212_834 rfl
theorem d212_835 : decode (mC 212) 835 = .ok (.iconst 2, 1) := by decide +kernel
theorem x212_835 {sc : aSc} {d : Nat} {r : aRes} {L : List Value} {st : List Value} {σ : aS} : Rn sc d 212 835 L st σ r ↔ Rn sc d 212 836 L (.int 2 :: st) σ r := r_iconst d212_835 (by decide)
theorem d212_836 : decode (mC 212) 836 = .ok (.iadd, 1) := by decide +kernel
theorem x212_836 {sc : aSc} {d : Nat} {r : aRes} {L : List Value} {st : List Value} {σ : aS} {x y : Int32} : Rn sc d 212 836 L (.int y :: .int x :: st) σ r ↔ Rn sc d 212 837 L (.int (x + y) :: st) σ r := r_iadd d212_836
theorem d212_837 : decode (mC 212) 837 = .ok (.iaload, 1) := by decide +kernel
theorem d212_838 : decode (mC 212) 838 = .ok (.aload_n 0, 1) := by decide +kernel
theorem x212_838 {sc : aSc} {d : Nat} {r : aRes} {x0 : Nat} {a1 : Value} {a2 : Value} {a3 : Value} {st : List Value} {σ : aS} : Rn sc d 212 838 [.ref x0, a1, a2, a3] st σ r ↔ Rn sc d 212 839 [.ref x0, a1, a2, a3] (.ref x0 :: st) σ r := r_aload_n d212_838 rfl
theorem d212_839 : decode (mC 212) 839 = .ok (.iload_n 3, 1) := by decide +kernel
theorem x212_839 {sc : aSc} {d : Nat} {r : aRes} {a0 : Value} {a1 : Value} {a2 : Value} {x3 : Int32} {st : List Value} {σ : aS} : Rn sc d 212 839 [a0, a1, a2, .int x3] st σ r ↔ Rn sc d 212 840 [a0, a1, a2, .int x3] (.int x3 :: st) σ r := r_iload_n d212_839 rfl
theorem d212_840 : decode (mC 212) 840 = .ok (.iconst 3, 1) := by decide +kernel
theorem x212_840 {sc : aSc} {d : Nat} {r : aRes} {L : List Value} {st : List Value} {σ : aS} : Rn sc d 212 840 L st σ r ↔ Rn sc d 212 841 L (.int 3 :: st) σ r := r_iconst d212_840 (by decide)
theorem d212_841 : decode (mC 212) 841 = .ok (.iadd, 1) := by decide +kernel
theorem x212_841 {sc : aSc} {d : Nat} {r : aRes} {L : List Value} {st : List Value} {σ : aS} {x y : Int32} : Rn sc d 212 841 L (.int y :: .int x :: st) σ r ↔ Rn sc d 212 842 L (.int (x + y) :: st) σ r := r_iadd d212_841
theorem d212_842 : decode (mC 212) 842 = .ok (.iaload, 1) := by decide +kernel
theorem d212_843 : decode (mC 212) 843 = .ok (.invokevirtual 102, 3) := by decide +kernel
theorem x212_843 {sc : aSc} {d : Nat} {r : aRes} {L : List Value} {f : Nat → Nat → Int32} {g : Nat → Nat → Int64} {h1 h2 : Nat} {y0 : Int32} {y1 : Int32} {y2 : Int32}  {o : Nat} (hK : KK[o]? = some (.inl 6)) : Rn sc d 212 843 L [.int y0, .int y1, .int y2, .ref o] (cS f g h1 h2) r ↔ ∃ (σ3 : aS) (v : Option Value), Cl sc d 87 [.ref o, .int y2, .int y1, .int y0] (cS f g h1 h2) (σ3, v) ∧ Rn sc d 212 846 L (v.toList ++ []) σ3 r := r_callV (vs := [.int y0, .int y1, .int y2]) d212_843 (j := 87) (by decide +kernel) ⟨rfl, by decide, rfl, rfl⟩ (Nat.le_of_ble_eq_true rfl) hK
theorem d212_846 : decode (mC 212) 846 = .ok (.aload_n 2, 1) := by decide +kernel
theorem x212_846 {sc : aSc} {d : Nat} {r : aRes} {a0 : Value} {a1 : Value} {x2 : Nat} {a3 : Value} {st : List Value} {σ : aS} : Rn sc d 212 846 [a0, a1, .ref x2, a3] st σ r ↔ Rn sc d 212 847 [a0, a1, .ref x2, a3] (.ref x2 :: st) σ r := r_aload_n d212_846 rfl
theorem d212_847 : decode (mC 212) 847 = .ok (.aload_n 0, 1) := by decide +kernel
theorem x212_847 {sc : aSc} {d : Nat} {r : aRes} {x0 : Nat} {a1 : Value} {a2 : Value} {a3 : Value} {st : List Value} {σ : aS} : Rn sc d 212 847 [.ref x0, a1, a2, a3] st σ r ↔ Rn sc d 212 848 [.ref x0, a1, a2, a3] (.ref x0 :: st) σ r := r_aload_n d212_847 rfl
theorem d212_848 : decode (mC 212) 848 = .ok (.iload_n 3, 1) := by decide +kernel
theorem x212_848 {sc : aSc} {d : Nat} {r : aRes} {a0 : Value} {a1 : Value} {a2 : Value} {x3 : Int32} {st : List Value} {σ : aS} : Rn sc d 212 848 [a0, a1, a2, .int x3] st σ r ↔ Rn sc d 212 849 [a0, a1, a2, .int x3] (.int x3 :: st) σ r := r_iload_n d212_848 rfl
theorem d212_849 : decode (mC 212) 849 = .ok (.iconst 1, 1) := by decide +kernel
theorem x212_849 {sc : aSc} {d : Nat} {r : aRes} {L : List Value} {st : List Value} {σ : aS} : Rn sc d 212 849 L st σ r ↔ Rn sc d 212 850 L (.int 1 :: st) σ r := r_iconst d212_849 (by decide)
theorem d212_850 : decode (mC 212) 850 = .ok (.iadd, 1) := by decide +kernel
theorem x212_850 {sc : aSc} {d : Nat} {r : aRes} {L : List Value} {st : List Value} {σ : aS} {x y : Int32} : Rn sc d 212 850 L (.int y :: .int x :: st) σ r ↔ Rn sc d 212 851 L (.int (x + y) :: st) σ r := r_iadd d212_850
theorem d212_851 : decode (mC 212) 851 = .ok (.iaload, 1) := by decide +kernel
theorem d212_852 : decode (mC 212) 852 = .ok (.aload_n 0, 1) := by decide +kernel
theorem x212_852 {sc : aSc} {d : Nat} {r : aRes} {x0 : Nat} {a1 : Value} {a2 : Value} {a3 : Value} {st : List Value} {σ : aS} : Rn sc d 212 852 [.ref x0, a1, a2, a3] st σ r ↔ Rn sc d 212 853 [.ref x0, a1, a2, a3] (.ref x0 :: st) σ r := r_aload_n d212_852 rfl
theorem d212_853 : decode (mC 212) 853 = .ok (.iload_n 3, 1) := by decide +kernel
theorem x212_853 {sc : aSc} {d : Nat} {r : aRes} {a0 : Value} {a1 : Value} {a2 : Value} {x3 : Int32} {st : List Value} {σ : aS} : Rn sc d 212 853 [a0, a1, a2, .int x3] st σ r ↔ Rn sc d 212 854 [a0, a1, a2, .int x3] (.int x3 :: st) σ r := r_iload_n d212_853 rfl
theorem d212_854 : decode (mC 212) 854 = .ok (.iconst 2, 1) := by decide +kernel
theorem x212_854 {sc : aSc} {d : Nat} {r : aRes} {L : List Value} {st : List Value} {σ : aS} : Rn sc d 212 854 L st σ r ↔ Rn sc d 212 855 L (.int 2 :: st) σ r := r_iconst d212_854 (by decide)
theorem d212_855 : decode (mC 212) 855 = .ok (.iadd, 1) := by decide +kernel
theorem x212_855 {sc : aSc} {d : Nat} {r : aRes} {L : List Value} {st : List Value} {σ : aS} {x y : Int32} : Rn sc d 212 855 L (.int y :: .int x :: st) σ r ↔ Rn sc d 212 856 L (.int (x + y) :: st) σ r := r_iadd d212_855
theorem d212_856 : decode (mC 212) 856 = .ok (.iaload, 1) := by decide +kernel
theorem d212_857 : decode (mC 212) 857 = .ok (.aload_n 0, 1) := by decide +kernel
theorem x212_857 {sc : aSc} {d : Nat} {r : aRes} {x0 : Nat} {a1 : Value} {a2 : Value} {a3 : Value} {st : List Value} {σ : aS} : Rn sc d 212 857 [.ref x0, a1, a2, a3] st σ r ↔ Rn sc d 212 858 [.ref x0, a1, a2, a3] (.ref x0 :: st) σ r := r_aload_n d212_857 rfl
theorem d212_858 : decode (mC 212) 858 = .ok (.iload_n 3, 1) := by decide +kernel
theorem x212_858 {sc : aSc} {d : Nat} {r : aRes} {a0 : Value} {a1 : Value} {a2 : Value} {x3 : Int32} {st : List Value} {σ : aS} : Rn sc d 212 858 [a0, a1, a2, .int x3] st σ r ↔ Rn sc d 212 859 [a0, a1, a2, .int x3] (.int x3 :: st) σ r := r_iload_n d212_858 rfl
theorem d212_859 : decode (mC 212) 859 = .ok (.iconst 3, 1) := by decide +kernel
theorem x212_859 {sc : aSc} {d : Nat} {r : aRes} {L : List Value} {st : List Value} {σ : aS} : Rn sc d 212 859 L st σ r ↔ Rn sc d 212 860 L (.int 3 :: st) σ r := r_iconst d212_859 (by decide)
theorem d212_860 : decode (mC 212) 860 = .ok (.iadd, 1) := by decide +kernel
theorem x212_860 {sc : aSc} {d : Nat} {r : aRes} {L : List Value} {st : List Value} {σ : aS} {x y : Int32} : Rn sc d 212 860 L (.int y :: .int x :: st) σ r ↔ Rn sc d 212 861 L (.int (x + y) :: st) σ r := r_iadd d212_860
theorem d212_861 : decode (mC 212) 861 = .ok (.iaload, 1) := by decide +kernel
theorem d212_862 : decode (mC 212) 862 = .ok (.invokevirtual 106, 3) := by decide +kernel
theorem x212_862 {sc : aSc} {d : Nat} {r : aRes} {L : List Value} {f : Nat → Nat → Int32} {g : Nat → Nat → Int64} {h1 h2 : Nat} {y0 : Int32} {y1 : Int32} {y2 : Int32} {z0 : Int64} {o : Nat} (hK : KK[o]? = some (.inl 7)) : Rn sc d 212 862 L [.int y0, .int y1, .int y2, .ref o, .long z0] (cS f g h1 h2) r ↔ ∃ (σ3 : aS) (v : Option Value), Cl sc d 170 [.ref o, .int y2, .int y1, .int y0] (cS f g h1 h2) (σ3, v) ∧ Rn sc d 212 865 L (v.toList ++ [.long z0]) σ3 r := r_callV (vs := [.int y0, .int y1, .int y2]) d212_862 (j := 170) (by decide +kernel) ⟨rfl, by decide, rfl, rfl⟩ (Nat.le_of_ble_eq_true rfl) hK
theorem d212_865 : decode (mC 212) 865 = .ok (.lcmp, 1) := by decide +kernel
theorem x212_865 {sc : aSc} {d : Nat} {r : aRes} {L : List Value} {st : List Value} {σ : aS} {x y : Int64} : Rn sc d 212 865 L (.long y :: .long x :: st) σ r ↔ Rn sc d 212 866 L (.int (lg_cmp x y) :: st) σ r := r_lcmp d212_865
theorem d212_866 : decode (mC 212) 866 = .ok (.ifCond .eq 469, 3) := by decide +kernel
theorem x212_866 {sc : aSc} {d : Nat} {r : aRes} {L : List Value} {st : List Value} {σ : aS} {x : Int32} : Rn sc d 212 866 L (.int x :: st) σ r ↔ if x = 0 then Rn sc d 212 1335 L st σ r else Rn sc d 212 869 L st σ r := r_if_eq d212_866 rfl
theorem d212_869 : decode (mC 212) 869 = .ok (.iconst 0, 1) := by decide +kernel
theorem x212_869 {sc : aSc} {d : Nat} {r : aRes} {L : List Value} {st : List Value} {σ : aS} : Rn sc d 212 869 L st σ r ↔ Rn sc d 212 870 L (.int 0 :: st) σ r := r_iconst d212_869 (by decide)
theorem d212_870 : decode (mC 212) 870 = .ok (.ireturn, 1) := by decide +kernel
theorem d212_871 : decode (mC 212) 871 = .ok (.aload_n 1, 1) := by decide +kernel
theorem x212_871 {sc : aSc} {d : Nat} {r : aRes} {a0 : Value} {x1 : Nat} {a2 : Value} {a3 : Value} {st : List Value} {σ : aS} : Rn sc d 212 871 [a0, .ref x1, a2, a3] st σ r ↔ Rn sc d 212 872 [a0, .ref x1, a2, a3] (.ref x1 :: st) σ r := r_aload_n d212_871 rfl
theorem d212_872 : decode (mC 212) 872 = .ok (.aload_n 0, 1) := by decide +kernel
theorem x212_872 {sc : aSc} {d : Nat} {r : aRes} {x0 : Nat} {a1 : Value} {a2 : Value} {a3 : Value} {st : List Value} {σ : aS} : Rn sc d 212 872 [.ref x0, a1, a2, a3] st σ r ↔ Rn sc d 212 873 [.ref x0, a1, a2, a3] (.ref x0 :: st) σ r := r_aload_n d212_872 rfl
theorem d212_873 : decode (mC 212) 873 = .ok (.iload_n 3, 1) := by decide +kernel
theorem x212_873 {sc : aSc} {d : Nat} {r : aRes} {a0 : Value} {a1 : Value} {a2 : Value} {x3 : Int32} {st : List Value} {σ : aS} : Rn sc d 212 873 [a0, a1, a2, .int x3] st σ r ↔ Rn sc d 212 874 [a0, a1, a2, .int x3] (.int x3 :: st) σ r := r_iload_n d212_873 rfl
theorem d212_874 : decode (mC 212) 874 = .ok (.iconst 1, 1) := by decide +kernel
theorem x212_874 {sc : aSc} {d : Nat} {r : aRes} {L : List Value} {st : List Value} {σ : aS} : Rn sc d 212 874 L st σ r ↔ Rn sc d 212 875 L (.int 1 :: st) σ r := r_iconst d212_874 (by decide)
theorem d212_875 : decode (mC 212) 875 = .ok (.iadd, 1) := by decide +kernel
theorem x212_875 {sc : aSc} {d : Nat} {r : aRes} {L : List Value} {st : List Value} {σ : aS} {x y : Int32} : Rn sc d 212 875 L (.int y :: .int x :: st) σ r ↔ Rn sc d 212 876 L (.int (x + y) :: st) σ r := r_iadd d212_875
theorem d212_876 : decode (mC 212) 876 = .ok (.iaload, 1) := by decide +kernel
theorem d212_877 : decode (mC 212) 877 = .ok (.invokevirtual 107, 3) := by decide +kernel
theorem x212_877 {sc : aSc} {d : Nat} {r : aRes} {L : List Value} {f : Nat → Nat → Int32} {g : Nat → Nat → Int64} {h1 h2 : Nat} {y0 : Int32}  {o : Nat} (hK : KK[o]? = some (.inl 6)) : Rn sc d 212 877 L [.int y0, .ref o] (cS f g h1 h2) r ↔ ∃ (σ3 : aS) (v : Option Value), Cl sc d 88 [.ref o, .int y0] (cS f g h1 h2) (σ3, v) ∧ Rn sc d 212 880 L (v.toList ++ []) σ3 r := r_callV (vs := [.int y0]) d212_877 (j := 88) (by decide +kernel) ⟨rfl, by decide, rfl, rfl⟩ (Nat.le_of_ble_eq_true rfl) hK
theorem d212_880 : decode (mC 212) 880 = .ok (.aload_n 2, 1) := by decide +kernel
theorem x212_880 {sc : aSc} {d : Nat} {r : aRes} {a0 : Value} {a1 : Value} {x2 : Nat} {a3 : Value} {st : List Value} {σ : aS} : Rn sc d 212 880 [a0, a1, .ref x2, a3] st σ r ↔ Rn sc d 212 881 [a0, a1, .ref x2, a3] (.ref x2 :: st) σ r := r_aload_n d212_880 rfl
theorem d212_881 : decode (mC 212) 881 = .ok (.aload_n 0, 1) := by decide +kernel
theorem x212_881 {sc : aSc} {d : Nat} {r : aRes} {x0 : Nat} {a1 : Value} {a2 : Value} {a3 : Value} {st : List Value} {σ : aS} : Rn sc d 212 881 [.ref x0, a1, a2, a3] st σ r ↔ Rn sc d 212 882 [.ref x0, a1, a2, a3] (.ref x0 :: st) σ r := r_aload_n d212_881 rfl
theorem d212_882 : decode (mC 212) 882 = .ok (.iload_n 3, 1) := by decide +kernel
theorem x212_882 {sc : aSc} {d : Nat} {r : aRes} {a0 : Value} {a1 : Value} {a2 : Value} {x3 : Int32} {st : List Value} {σ : aS} : Rn sc d 212 882 [a0, a1, a2, .int x3] st σ r ↔ Rn sc d 212 883 [a0, a1, a2, .int x3] (.int x3 :: st) σ r := r_iload_n d212_882 rfl
theorem d212_883 : decode (mC 212) 883 = .ok (.iconst 1, 1) := by decide +kernel
theorem x212_883 {sc : aSc} {d : Nat} {r : aRes} {L : List Value} {st : List Value} {σ : aS} : Rn sc d 212 883 L st σ r ↔ Rn sc d 212 884 L (.int 1 :: st) σ r := r_iconst d212_883 (by decide)
theorem d212_884 : decode (mC 212) 884 = .ok (.iadd, 1) := by decide +kernel
theorem x212_884 {sc : aSc} {d : Nat} {r : aRes} {L : List Value} {st : List Value} {σ : aS} {x y : Int32} : Rn sc d 212 884 L (.int y :: .int x :: st) σ r ↔ Rn sc d 212 885 L (.int (x + y) :: st) σ r := r_iadd d212_884
theorem d212_885 : decode (mC 212) 885 = .ok (.iaload, 1) := by decide +kernel
theorem d212_886 : decode (mC 212) 886 = .ok (.invokevirtual 111, 3) := by decide +kernel
theorem x212_886 {sc : aSc} {d : Nat} {r : aRes} {L : List Value} {f : Nat → Nat → Int32} {g : Nat → Nat → Int64} {h1 h2 : Nat} {y0 : Int32} {z0 : Int64} {o : Nat} (hK : KK[o]? = some (.inl 7)) : Rn sc d 212 886 L [.int y0, .ref o, .long z0] (cS f g h1 h2) r ↔ ∃ (σ3 : aS) (v : Option Value), Cl sc d 171 [.ref o, .int y0] (cS f g h1 h2) (σ3, v) ∧ Rn sc d 212 889 L (v.toList ++ [.long z0]) σ3 r := r_callV (vs := [.int y0]) d212_886 (j := 171) (by decide +kernel) ⟨rfl, by decide, rfl, rfl⟩ (Nat.le_of_ble_eq_true rfl) hK
theorem d212_889 : decode (mC 212) 889 = .ok (.lcmp, 1) := by decide +kernel
theorem x212_889 {sc : aSc} {d : Nat} {r : aRes} {L : List Value} {st : List Value} {σ : aS} {x y : Int64} : Rn sc d 212 889 L (.long y :: .long x :: st) σ r ↔ Rn sc d 212 890 L (.int (lg_cmp x y) :: st) σ r := r_lcmp d212_889
theorem d212_890 : decode (mC 212) 890 = .ok (.ifCond .eq 445, 3) := by decide +kernel
theorem x212_890 {sc : aSc} {d : Nat} {r : aRes} {L : List Value} {st : List Value} {σ : aS} {x : Int32} : Rn sc d 212 890 L (.int x :: st) σ r ↔ if x = 0 then Rn sc d 212 1335 L st σ r else Rn sc d 212 893 L st σ r := r_if_eq d212_890 rfl
theorem d212_893 : decode (mC 212) 893 = .ok (.iconst 0, 1) := by decide +kernel
theorem x212_893 {sc : aSc} {d : Nat} {r : aRes} {L : List Value} {st : List Value} {σ : aS} : Rn sc d 212 893 L st σ r ↔ Rn sc d 212 894 L (.int 0 :: st) σ r := r_iconst d212_893 (by decide)
theorem d212_894 : decode (mC 212) 894 = .ok (.ireturn, 1) := by decide +kernel
theorem d212_895 : decode (mC 212) 895 = .ok (.aload_n 1, 1) := by decide +kernel
theorem x212_895 {sc : aSc} {d : Nat} {r : aRes} {a0 : Value} {x1 : Nat} {a2 : Value} {a3 : Value} {st : List Value} {σ : aS} : Rn sc d 212 895 [a0, .ref x1, a2, a3] st σ r ↔ Rn sc d 212 896 [a0, .ref x1, a2, a3] (.ref x1 :: st) σ r := r_aload_n d212_895 rfl
theorem d212_896 : decode (mC 212) 896 = .ok (.aload_n 0, 1) := by decide +kernel
theorem x212_896 {sc : aSc} {d : Nat} {r : aRes} {x0 : Nat} {a1 : Value} {a2 : Value} {a3 : Value} {st : List Value} {σ : aS} : Rn sc d 212 896 [.ref x0, a1, a2, a3] st σ r ↔ Rn sc d 212 897 [.ref x0, a1, a2, a3] (.ref x0 :: st) σ r := r_aload_n d212_896 rfl
theorem d212_897 : decode (mC 212) 897 = .ok (.iload_n 3, 1) := by decide +kernel
theorem x212_897 {sc : aSc} {d : Nat} {r : aRes} {a0 : Value} {a1 : Value} {a2 : Value} {x3 : Int32} {st : List Value} {σ : aS} : Rn sc d 212 897 [a0, a1, a2, .int x3] st σ r ↔ Rn sc d 212 898 [a0, a1, a2, .int x3] (.int x3 :: st) σ r := r_iload_n d212_897 rfl
theorem d212_898 : decode (mC 212) 898 = .ok (.iconst 1, 1) := by decide +kernel
theorem x212_898 {sc : aSc} {d : Nat} {r : aRes} {L : List Value} {st : List Value} {σ : aS} : Rn sc d 212 898 L st σ r ↔ Rn sc d 212 899 L (.int 1 :: st) σ r := r_iconst d212_898 (by decide)
theorem d212_899 : decode (mC 212) 899 = .ok (.iadd, 1) := by decide +kernel
theorem x212_899 {sc : aSc} {d : Nat} {r : aRes} {L : List Value} {st : List Value} {σ : aS} {x y : Int32} : Rn sc d 212 899 L (.int y :: .int x :: st) σ r ↔ Rn sc d 212 900 L (.int (x + y) :: st) σ r := r_iadd d212_899
theorem d212_900 : decode (mC 212) 900 = .ok (.iaload, 1) := by decide +kernel
theorem d212_901 : decode (mC 212) 901 = .ok (.aload_n 0, 1) := by decide +kernel
theorem x212_901 {sc : aSc} {d : Nat} {r : aRes} {x0 : Nat} {a1 : Value} {a2 : Value} {a3 : Value} {st : List Value} {σ : aS} : Rn sc d 212 901 [.ref x0, a1, a2, a3] st σ r ↔ Rn sc d 212 902 [.ref x0, a1, a2, a3] (.ref x0 :: st) σ r := r_aload_n d212_901 rfl
theorem d212_902 : decode (mC 212) 902 = .ok (.iload_n 3, 1) := by decide +kernel
theorem x212_902 {sc : aSc} {d : Nat} {r : aRes} {a0 : Value} {a1 : Value} {a2 : Value} {x3 : Int32} {st : List Value} {σ : aS} : Rn sc d 212 902 [a0, a1, a2, .int x3] st σ r ↔ Rn sc d 212 903 [a0, a1, a2, .int x3] (.int x3 :: st) σ r := r_iload_n d212_902 rfl
theorem d212_903 : decode (mC 212) 903 = .ok (.iconst 2, 1) := by decide +kernel
theorem x212_903 {sc : aSc} {d : Nat} {r : aRes} {L : List Value} {st : List Value} {σ : aS} : Rn sc d 212 903 L st σ r ↔ Rn sc d 212 904 L (.int 2 :: st) σ r := r_iconst d212_903 (by decide)
theorem d212_904 : decode (mC 212) 904 = .ok (.iadd, 1) := by decide +kernel
theorem x212_904 {sc : aSc} {d : Nat} {r : aRes} {L : List Value} {st : List Value} {σ : aS} {x y : Int32} : Rn sc d 212 904 L (.int y :: .int x :: st) σ r ↔ Rn sc d 212 905 L (.int (x + y) :: st) σ r := r_iadd d212_904
theorem d212_905 : decode (mC 212) 905 = .ok (.iaload, 1) := by decide +kernel
theorem d212_906 : decode (mC 212) 906 = .ok (.invokevirtual 112, 3) := by decide +kernel
theorem x212_906 {sc : aSc} {d : Nat} {r : aRes} {L : List Value} {f : Nat → Nat → Int32} {g : Nat → Nat → Int64} {h1 h2 : Nat} {y0 : Int32} {y1 : Int32}  {o : Nat} (hK : KK[o]? = some (.inl 6)) : Rn sc d 212 906 L [.int y0, .int y1, .ref o] (cS f g h1 h2) r ↔ ∃ (σ3 : aS) (v : Option Value), Cl sc d 89 [.ref o, .int y1, .int y0] (cS f g h1 h2) (σ3, v) ∧ Rn sc d 212 909 L (v.toList ++ []) σ3 r := r_callV (vs := [.int y0, .int y1]) d212_906 (j := 89) (by decide +kernel) ⟨rfl, by decide, rfl, rfl⟩ (Nat.le_of_ble_eq_true rfl) hK
theorem d212_909 : decode (mC 212) 909 = .ok (.aload_n 2, 1) := by decide +kernel
theorem x212_909 {sc : aSc} {d : Nat} {r : aRes} {a0 : Value} {a1 : Value} {x2 : Nat} {a3 : Value} {st : List Value} {σ : aS} : Rn sc d 212 909 [a0, a1, .ref x2, a3] st σ r ↔ Rn sc d 212 910 [a0, a1, .ref x2, a3] (.ref x2 :: st) σ r := r_aload_n d212_909 rfl
theorem d212_910 : decode (mC 212) 910 = .ok (.aload_n 0, 1) := by decide +kernel
theorem x212_910 {sc : aSc} {d : Nat} {r : aRes} {x0 : Nat} {a1 : Value} {a2 : Value} {a3 : Value} {st : List Value} {σ : aS} : Rn sc d 212 910 [.ref x0, a1, a2, a3] st σ r ↔ Rn sc d 212 911 [.ref x0, a1, a2, a3] (.ref x0 :: st) σ r := r_aload_n d212_910 rfl
theorem d212_911 : decode (mC 212) 911 = .ok (.iload_n 3, 1) := by decide +kernel
theorem x212_911 {sc : aSc} {d : Nat} {r : aRes} {a0 : Value} {a1 : Value} {a2 : Value} {x3 : Int32} {st : List Value} {σ : aS} : Rn sc d 212 911 [a0, a1, a2, .int x3] st σ r ↔ Rn sc d 212 912 [a0, a1, a2, .int x3] (.int x3 :: st) σ r := r_iload_n d212_911 rfl
theorem d212_912 : decode (mC 212) 912 = .ok (.iconst 1, 1) := by decide +kernel
theorem x212_912 {sc : aSc} {d : Nat} {r : aRes} {L : List Value} {st : List Value} {σ : aS} : Rn sc d 212 912 L st σ r ↔ Rn sc d 212 913 L (.int 1 :: st) σ r := r_iconst d212_912 (by decide)
theorem d212_913 : decode (mC 212) 913 = .ok (.iadd, 1) := by decide +kernel
theorem x212_913 {sc : aSc} {d : Nat} {r : aRes} {L : List Value} {st : List Value} {σ : aS} {x y : Int32} : Rn sc d 212 913 L (.int y :: .int x :: st) σ r ↔ Rn sc d 212 914 L (.int (x + y) :: st) σ r := r_iadd d212_913
theorem d212_914 : decode (mC 212) 914 = .ok (.iaload, 1) := by decide +kernel
theorem d212_915 : decode (mC 212) 915 = .ok (.aload_n 0, 1) := by decide +kernel
theorem x212_915 {sc : aSc} {d : Nat} {r : aRes} {x0 : Nat} {a1 : Value} {a2 : Value} {a3 : Value} {st : List Value} {σ : aS} : Rn sc d 212 915 [.ref x0, a1, a2, a3] st σ r ↔ Rn sc d 212 916 [.ref x0, a1, a2, a3] (.ref x0 :: st) σ r := r_aload_n d212_915 rfl
theorem d212_916 : decode (mC 212) 916 = .ok (.iload_n 3, 1) := by decide +kernel
theorem x212_916 {sc : aSc} {d : Nat} {r : aRes} {a0 : Value} {a1 : Value} {a2 : Value} {x3 : Int32} {st : List Value} {σ : aS} : Rn sc d 212 916 [a0, a1, a2, .int x3] st σ r ↔ Rn sc d 212 917 [a0, a1, a2, .int x3] (.int x3 :: st) σ r := r_iload_n d212_916 rfl
theorem d212_917 : decode (mC 212) 917 = .ok (.iconst 2, 1) := by decide +kernel
theorem x212_917 {sc : aSc} {d : Nat} {r : aRes} {L : List Value} {st : List Value} {σ : aS} : Rn sc d 212 917 L st σ r ↔ Rn sc d 212 918 L (.int 2 :: st) σ r := r_iconst d212_917 (by decide)
theorem d212_918 : decode (mC 212) 918 = .ok (.iadd, 1) := by decide +kernel
theorem x212_918 {sc : aSc} {d : Nat} {r : aRes} {L : List Value} {st : List Value} {σ : aS} {x y : Int32} : Rn sc d 212 918 L (.int y :: .int x :: st) σ r ↔ Rn sc d 212 919 L (.int (x + y) :: st) σ r := r_iadd d212_918
theorem d212_919 : decode (mC 212) 919 = .ok (.iaload, 1) := by decide +kernel
theorem d212_920 : decode (mC 212) 920 = .ok (.invokevirtual 115, 3) := by decide +kernel
theorem x212_920 {sc : aSc} {d : Nat} {r : aRes} {L : List Value} {f : Nat → Nat → Int32} {g : Nat → Nat → Int64} {h1 h2 : Nat} {y0 : Int32} {y1 : Int32} {z0 : Int32} {o : Nat} (hK : KK[o]? = some (.inl 7)) : Rn sc d 212 920 L [.int y0, .int y1, .ref o, .int z0] (cS f g h1 h2) r ↔ ∃ (σ3 : aS) (v : Option Value), Cl sc d 172 [.ref o, .int y1, .int y0] (cS f g h1 h2) (σ3, v) ∧ Rn sc d 212 923 L (v.toList ++ [.int z0]) σ3 r := r_callV (vs := [.int y0, .int y1]) d212_920 (j := 172) (by decide +kernel) ⟨rfl, by decide, rfl, rfl⟩ (Nat.le_of_ble_eq_true rfl) hK
theorem d212_923 : decode (mC 212) 923 = .ok (.if_icmp .eq 412, 3) := by decide +kernel
theorem x212_923 {sc : aSc} {d : Nat} {r : aRes} {L : List Value} {st : List Value} {σ : aS} {x y : Int32} : Rn sc d 212 923 L (.int y :: .int x :: st) σ r ↔ if x = y then Rn sc d 212 1335 L st σ r else Rn sc d 212 926 L st σ r := r_icmp_eq d212_923 rfl
theorem d212_926 : decode (mC 212) 926 = .ok (.iconst 0, 1) := by decide +kernel
theorem x212_926 {sc : aSc} {d : Nat} {r : aRes} {L : List Value} {st : List Value} {σ : aS} : Rn sc d 212 926 L st σ r ↔ Rn sc d 212 927 L (.int 0 :: st) σ r := r_iconst d212_926 (by decide)
theorem d212_927 : decode (mC 212) 927 = .ok (.ireturn, 1) := by decide +kernel
theorem d212_928 : decode (mC 212) 928 = .ok (.aload_n 1, 1) := by decide +kernel
theorem x212_928 {sc : aSc} {d : Nat} {r : aRes} {a0 : Value} {x1 : Nat} {a2 : Value} {a3 : Value} {st : List Value} {σ : aS} : Rn sc d 212 928 [a0, .ref x1, a2, a3] st σ r ↔ Rn sc d 212 929 [a0, .ref x1, a2, a3] (.ref x1 :: st) σ r := r_aload_n d212_928 rfl
theorem d212_929 : decode (mC 212) 929 = .ok (.invokevirtual 116, 3) := by decide +kernel
theorem x212_929 {sc : aSc} {d : Nat} {r : aRes} {L : List Value} {f : Nat → Nat → Int32} {g : Nat → Nat → Int64} {h1 h2 : Nat}   {o : Nat} (hK : KK[o]? = some (.inl 6)) : Rn sc d 212 929 L [.ref o] (cS f g h1 h2) r ↔ ∃ (σ3 : aS) (v : Option Value), Cl sc d 90 [.ref o] (cS f g h1 h2) (σ3, v) ∧ Rn sc d 212 932 L (v.toList ++ []) σ3 r := r_callV (vs := []) d212_929 (j := 90) (by decide +kernel) ⟨rfl, by decide, rfl, rfl⟩ (Nat.le_of_ble_eq_true rfl) hK
theorem d212_932 : decode (mC 212) 932 = .ok (.aload_n 2, 1) := by decide +kernel
theorem x212_932 {sc : aSc} {d : Nat} {r : aRes} {a0 : Value} {a1 : Value} {x2 : Nat} {a3 : Value} {st : List Value} {σ : aS} : Rn sc d 212 932 [a0, a1, .ref x2, a3] st σ r ↔ Rn sc d 212 933 [a0, a1, .ref x2, a3] (.ref x2 :: st) σ r := r_aload_n d212_932 rfl
theorem d212_933 : decode (mC 212) 933 = .ok (.invokevirtual 119, 3) := by decide +kernel
theorem x212_933 {sc : aSc} {d : Nat} {r : aRes} {L : List Value} {f : Nat → Nat → Int32} {g : Nat → Nat → Int64} {h1 h2 : Nat}  {z0 : Int32} {o : Nat} (hK : KK[o]? = some (.inl 7)) : Rn sc d 212 933 L [.ref o, .int z0] (cS f g h1 h2) r ↔ ∃ (σ3 : aS) (v : Option Value), Cl sc d 173 [.ref o] (cS f g h1 h2) (σ3, v) ∧ Rn sc d 212 936 L (v.toList ++ [.int z0]) σ3 r := r_callV (vs := []) d212_933 (j := 173) (by decide +kernel) ⟨rfl, by decide, rfl, rfl⟩ (Nat.le_of_ble_eq_true rfl) hK
theorem d212_936 : decode (mC 212) 936 = .ok (.if_icmp .eq 399, 3) := by decide +kernel
theorem x212_936 {sc : aSc} {d : Nat} {r : aRes} {L : List Value} {st : List Value} {σ : aS} {x y : Int32} : Rn sc d 212 936 L (.int y :: .int x :: st) σ r ↔ if x = y then Rn sc d 212 1335 L st σ r else Rn sc d 212 939 L st σ r := r_icmp_eq d212_936 rfl
theorem d212_939 : decode (mC 212) 939 = .ok (.iconst 0, 1) := by decide +kernel
theorem x212_939 {sc : aSc} {d : Nat} {r : aRes} {L : List Value} {st : List Value} {σ : aS} : Rn sc d 212 939 L st σ r ↔ Rn sc d 212 940 L (.int 0 :: st) σ r := r_iconst d212_939 (by decide)
theorem d212_940 : decode (mC 212) 940 = .ok (.ireturn, 1) := by decide +kernel
theorem d212_941 : decode (mC 212) 941 = .ok (.aload_n 1, 1) := by decide +kernel
theorem x212_941 {sc : aSc} {d : Nat} {r : aRes} {a0 : Value} {x1 : Nat} {a2 : Value} {a3 : Value} {st : List Value} {σ : aS} : Rn sc d 212 941 [a0, .ref x1, a2, a3] st σ r ↔ Rn sc d 212 942 [a0, .ref x1, a2, a3] (.ref x1 :: st) σ r := r_aload_n d212_941 rfl
theorem d212_942 : decode (mC 212) 942 = .ok (.aload_n 0, 1) := by decide +kernel
theorem x212_942 {sc : aSc} {d : Nat} {r : aRes} {x0 : Nat} {a1 : Value} {a2 : Value} {a3 : Value} {st : List Value} {σ : aS} : Rn sc d 212 942 [.ref x0, a1, a2, a3] st σ r ↔ Rn sc d 212 943 [.ref x0, a1, a2, a3] (.ref x0 :: st) σ r := r_aload_n d212_942 rfl
theorem d212_943 : decode (mC 212) 943 = .ok (.iload_n 3, 1) := by decide +kernel
theorem x212_943 {sc : aSc} {d : Nat} {r : aRes} {a0 : Value} {a1 : Value} {a2 : Value} {x3 : Int32} {st : List Value} {σ : aS} : Rn sc d 212 943 [a0, a1, a2, .int x3] st σ r ↔ Rn sc d 212 944 [a0, a1, a2, .int x3] (.int x3 :: st) σ r := r_iload_n d212_943 rfl
theorem d212_944 : decode (mC 212) 944 = .ok (.iconst 1, 1) := by decide +kernel
theorem x212_944 {sc : aSc} {d : Nat} {r : aRes} {L : List Value} {st : List Value} {σ : aS} : Rn sc d 212 944 L st σ r ↔ Rn sc d 212 945 L (.int 1 :: st) σ r := r_iconst d212_944 (by decide)
theorem d212_945 : decode (mC 212) 945 = .ok (.iadd, 1) := by decide +kernel
theorem x212_945 {sc : aSc} {d : Nat} {r : aRes} {L : List Value} {st : List Value} {σ : aS} {x y : Int32} : Rn sc d 212 945 L (.int y :: .int x :: st) σ r ↔ Rn sc d 212 946 L (.int (x + y) :: st) σ r := r_iadd d212_945
theorem d212_946 : decode (mC 212) 946 = .ok (.iaload, 1) := by decide +kernel
theorem d212_947 : decode (mC 212) 947 = .ok (.aload_n 0, 1) := by decide +kernel
theorem x212_947 {sc : aSc} {d : Nat} {r : aRes} {x0 : Nat} {a1 : Value} {a2 : Value} {a3 : Value} {st : List Value} {σ : aS} : Rn sc d 212 947 [.ref x0, a1, a2, a3] st σ r ↔ Rn sc d 212 948 [.ref x0, a1, a2, a3] (.ref x0 :: st) σ r := r_aload_n d212_947 rfl
theorem d212_948 : decode (mC 212) 948 = .ok (.iload_n 3, 1) := by decide +kernel
theorem x212_948 {sc : aSc} {d : Nat} {r : aRes} {a0 : Value} {a1 : Value} {a2 : Value} {x3 : Int32} {st : List Value} {σ : aS} : Rn sc d 212 948 [a0, a1, a2, .int x3] st σ r ↔ Rn sc d 212 949 [a0, a1, a2, .int x3] (.int x3 :: st) σ r := r_iload_n d212_948 rfl
theorem d212_949 : decode (mC 212) 949 = .ok (.iconst 2, 1) := by decide +kernel
theorem x212_949 {sc : aSc} {d : Nat} {r : aRes} {L : List Value} {st : List Value} {σ : aS} : Rn sc d 212 949 L st σ r ↔ Rn sc d 212 950 L (.int 2 :: st) σ r := r_iconst d212_949 (by decide)
theorem d212_950 : decode (mC 212) 950 = .ok (.iadd, 1) := by decide +kernel
theorem x212_950 {sc : aSc} {d : Nat} {r : aRes} {L : List Value} {st : List Value} {σ : aS} {x y : Int32} : Rn sc d 212 950 L (.int y :: .int x :: st) σ r ↔ Rn sc d 212 951 L (.int (x + y) :: st) σ r := r_iadd d212_950
theorem d212_951 : decode (mC 212) 951 = .ok (.iaload, 1) := by decide +kernel
theorem d212_952 : decode (mC 212) 952 = .ok (.invokevirtual 120, 3) := by decide +kernel
theorem x212_952 {sc : aSc} {d : Nat} {r : aRes} {L : List Value} {f : Nat → Nat → Int32} {g : Nat → Nat → Int64} {h1 h2 : Nat} {y0 : Int32} {y1 : Int32}  {o : Nat} (hK : KK[o]? = some (.inl 6)) : Rn sc d 212 952 L [.int y0, .int y1, .ref o] (cS f g h1 h2) r ↔ ∃ (σ3 : aS) (v : Option Value), Cl sc d 91 [.ref o, .int y1, .int y0] (cS f g h1 h2) (σ3, v) ∧ Rn sc d 212 955 L (v.toList ++ []) σ3 r := r_callV (vs := [.int y0, .int y1]) d212_952 (j := 91) (by decide +kernel) ⟨rfl, by decide, rfl, rfl⟩ (Nat.le_of_ble_eq_true rfl) hK
theorem d212_955 : decode (mC 212) 955 = .ok (.aload_n 2, 1) := by decide +kernel
theorem x212_955 {sc : aSc} {d : Nat} {r : aRes} {a0 : Value} {a1 : Value} {x2 : Nat} {a3 : Value} {st : List Value} {σ : aS} : Rn sc d 212 955 [a0, a1, .ref x2, a3] st σ r ↔ Rn sc d 212 956 [a0, a1, .ref x2, a3] (.ref x2 :: st) σ r := r_aload_n d212_955 rfl
theorem d212_956 : decode (mC 212) 956 = .ok (.aload_n 0, 1) := by decide +kernel
theorem x212_956 {sc : aSc} {d : Nat} {r : aRes} {x0 : Nat} {a1 : Value} {a2 : Value} {a3 : Value} {st : List Value} {σ : aS} : Rn sc d 212 956 [.ref x0, a1, a2, a3] st σ r ↔ Rn sc d 212 957 [.ref x0, a1, a2, a3] (.ref x0 :: st) σ r := r_aload_n d212_956 rfl
theorem d212_957 : decode (mC 212) 957 = .ok (.iload_n 3, 1) := by decide +kernel
theorem x212_957 {sc : aSc} {d : Nat} {r : aRes} {a0 : Value} {a1 : Value} {a2 : Value} {x3 : Int32} {st : List Value} {σ : aS} : Rn sc d 212 957 [a0, a1, a2, .int x3] st σ r ↔ Rn sc d 212 958 [a0, a1, a2, .int x3] (.int x3 :: st) σ r := r_iload_n d212_957 rfl
theorem d212_958 : decode (mC 212) 958 = .ok (.iconst 1, 1) := by decide +kernel
theorem x212_958 {sc : aSc} {d : Nat} {r : aRes} {L : List Value} {st : List Value} {σ : aS} : Rn sc d 212 958 L st σ r ↔ Rn sc d 212 959 L (.int 1 :: st) σ r := r_iconst d212_958 (by decide)
theorem d212_959 : decode (mC 212) 959 = .ok (.iadd, 1) := by decide +kernel
theorem x212_959 {sc : aSc} {d : Nat} {r : aRes} {L : List Value} {st : List Value} {σ : aS} {x y : Int32} : Rn sc d 212 959 L (.int y :: .int x :: st) σ r ↔ Rn sc d 212 960 L (.int (x + y) :: st) σ r := r_iadd d212_959
theorem d212_960 : decode (mC 212) 960 = .ok (.iaload, 1) := by decide +kernel
theorem d212_961 : decode (mC 212) 961 = .ok (.aload_n 0, 1) := by decide +kernel
theorem x212_961 {sc : aSc} {d : Nat} {r : aRes} {x0 : Nat} {a1 : Value} {a2 : Value} {a3 : Value} {st : List Value} {σ : aS} : Rn sc d 212 961 [.ref x0, a1, a2, a3] st σ r ↔ Rn sc d 212 962 [.ref x0, a1, a2, a3] (.ref x0 :: st) σ r := r_aload_n d212_961 rfl
theorem d212_962 : decode (mC 212) 962 = .ok (.iload_n 3, 1) := by decide +kernel
theorem x212_962 {sc : aSc} {d : Nat} {r : aRes} {a0 : Value} {a1 : Value} {a2 : Value} {x3 : Int32} {st : List Value} {σ : aS} : Rn sc d 212 962 [a0, a1, a2, .int x3] st σ r ↔ Rn sc d 212 963 [a0, a1, a2, .int x3] (.int x3 :: st) σ r := r_iload_n d212_962 rfl
theorem d212_963 : decode (mC 212) 963 = .ok (.iconst 2, 1) := by decide +kernel
theorem x212_963 {sc : aSc} {d : Nat} {r : aRes} {L : List Value} {st : List Value} {σ : aS} : Rn sc d 212 963 L st σ r ↔ Rn sc d 212 964 L (.int 2 :: st) σ r := r_iconst d212_963 (by decide)
theorem d212_964 : decode (mC 212) 964 = .ok (.iadd, 1) := by decide +kernel
theorem x212_964 {sc : aSc} {d : Nat} {r : aRes} {L : List Value} {st : List Value} {σ : aS} {x y : Int32} : Rn sc d 212 964 L (.int y :: .int x :: st) σ r ↔ Rn sc d 212 965 L (.int (x + y) :: st) σ r := r_iadd d212_964
theorem d212_965 : decode (mC 212) 965 = .ok (.iaload, 1) := by decide +kernel
theorem d212_966 : decode (mC 212) 966 = .ok (.invokevirtual 123, 3) := by decide +kernel
theorem x212_966 {sc : aSc} {d : Nat} {r : aRes} {L : List Value} {f : Nat → Nat → Int32} {g : Nat → Nat → Int64} {h1 h2 : Nat} {y0 : Int32} {y1 : Int32} {z0 : Int32} {o : Nat} (hK : KK[o]? = some (.inl 7)) : Rn sc d 212 966 L [.int y0, .int y1, .ref o, .int z0] (cS f g h1 h2) r ↔ ∃ (σ3 : aS) (v : Option Value), Cl sc d 174 [.ref o, .int y1, .int y0] (cS f g h1 h2) (σ3, v) ∧ Rn sc d 212 969 L (v.toList ++ [.int z0]) σ3 r := r_callV (vs := [.int y0, .int y1]) d212_966 (j := 174) (by decide +kernel) ⟨rfl, by decide, rfl, rfl⟩ (Nat.le_of_ble_eq_true rfl) hK
theorem d212_969 : decode (mC 212) 969 = .ok (.if_icmp .eq 366, 3) := by decide +kernel
theorem x212_969 {sc : aSc} {d : Nat} {r : aRes} {L : List Value} {st : List Value} {σ : aS} {x y : Int32} : Rn sc d 212 969 L (.int y :: .int x :: st) σ r ↔ if x = y then Rn sc d 212 1335 L st σ r else Rn sc d 212 972 L st σ r := r_icmp_eq d212_969 rfl
theorem d212_972 : decode (mC 212) 972 = .ok (.iconst 0, 1) := by decide +kernel
theorem x212_972 {sc : aSc} {d : Nat} {r : aRes} {L : List Value} {st : List Value} {σ : aS} : Rn sc d 212 972 L st σ r ↔ Rn sc d 212 973 L (.int 0 :: st) σ r := r_iconst d212_972 (by decide)
theorem d212_973 : decode (mC 212) 973 = .ok (.ireturn, 1) := by decide +kernel
theorem d212_974 : decode (mC 212) 974 = .ok (.aload_n 1, 1) := by decide +kernel
theorem x212_974 {sc : aSc} {d : Nat} {r : aRes} {a0 : Value} {x1 : Nat} {a2 : Value} {a3 : Value} {st : List Value} {σ : aS} : Rn sc d 212 974 [a0, .ref x1, a2, a3] st σ r ↔ Rn sc d 212 975 [a0, .ref x1, a2, a3] (.ref x1 :: st) σ r := r_aload_n d212_974 rfl
theorem d212_975 : decode (mC 212) 975 = .ok (.invokevirtual 124, 3) := by decide +kernel
theorem x212_975 {sc : aSc} {d : Nat} {r : aRes} {L : List Value} {f : Nat → Nat → Int32} {g : Nat → Nat → Int64} {h1 h2 : Nat}   {o : Nat} (hK : KK[o]? = some (.inl 6)) : Rn sc d 212 975 L [.ref o] (cS f g h1 h2) r ↔ ∃ (σ3 : aS) (v : Option Value), Cl sc d 92 [.ref o] (cS f g h1 h2) (σ3, v) ∧ Rn sc d 212 978 L (v.toList ++ []) σ3 r := r_callV (vs := []) d212_975 (j := 92) (by decide +kernel) ⟨rfl, by decide, rfl, rfl⟩ (Nat.le_of_ble_eq_true rfl) hK
theorem d212_978 : decode (mC 212) 978 = .ok (.aload_n 2, 1) := by decide +kernel
theorem x212_978 {sc : aSc} {d : Nat} {r : aRes} {a0 : Value} {a1 : Value} {x2 : Nat} {a3 : Value} {st : List Value} {σ : aS} : Rn sc d 212 978 [a0, a1, .ref x2, a3] st σ r ↔ Rn sc d 212 979 [a0, a1, .ref x2, a3] (.ref x2 :: st) σ r := r_aload_n d212_978 rfl
theorem d212_979 : decode (mC 212) 979 = .ok (.invokevirtual 127, 3) := by decide +kernel
theorem x212_979 {sc : aSc} {d : Nat} {r : aRes} {L : List Value} {f : Nat → Nat → Int32} {g : Nat → Nat → Int64} {h1 h2 : Nat}  {z0 : Int32} {o : Nat} (hK : KK[o]? = some (.inl 7)) : Rn sc d 212 979 L [.ref o, .int z0] (cS f g h1 h2) r ↔ ∃ (σ3 : aS) (v : Option Value), Cl sc d 175 [.ref o] (cS f g h1 h2) (σ3, v) ∧ Rn sc d 212 982 L (v.toList ++ [.int z0]) σ3 r := r_callV (vs := []) d212_979 (j := 175) (by decide +kernel) ⟨rfl, by decide, rfl, rfl⟩ (Nat.le_of_ble_eq_true rfl) hK
theorem d212_982 : decode (mC 212) 982 = .ok (.if_icmp .eq 353, 3) := by decide +kernel
theorem x212_982 {sc : aSc} {d : Nat} {r : aRes} {L : List Value} {st : List Value} {σ : aS} {x y : Int32} : Rn sc d 212 982 L (.int y :: .int x :: st) σ r ↔ if x = y then Rn sc d 212 1335 L st σ r else Rn sc d 212 985 L st σ r := r_icmp_eq d212_982 rfl
theorem d212_985 : decode (mC 212) 985 = .ok (.iconst 0, 1) := by decide +kernel
theorem x212_985 {sc : aSc} {d : Nat} {r : aRes} {L : List Value} {st : List Value} {σ : aS} : Rn sc d 212 985 L st σ r ↔ Rn sc d 212 986 L (.int 0 :: st) σ r := r_iconst d212_985 (by decide)
theorem d212_986 : decode (mC 212) 986 = .ok (.ireturn, 1) := by decide +kernel
theorem d212_987 : decode (mC 212) 987 = .ok (.aload_n 1, 1) := by decide +kernel
theorem x212_987 {sc : aSc} {d : Nat} {r : aRes} {a0 : Value} {x1 : Nat} {a2 : Value} {a3 : Value} {st : List Value} {σ : aS} : Rn sc d 212 987 [a0, .ref x1, a2, a3] st σ r ↔ Rn sc d 212 988 [a0, .ref x1, a2, a3] (.ref x1 :: st) σ r := r_aload_n d212_987 rfl
theorem d212_988 : decode (mC 212) 988 = .ok (.invokevirtual 128, 3) := by decide +kernel
theorem x212_988 {sc : aSc} {d : Nat} {r : aRes} {L : List Value} {f : Nat → Nat → Int32} {g : Nat → Nat → Int64} {h1 h2 : Nat}   {o : Nat} (hK : KK[o]? = some (.inl 6)) : Rn sc d 212 988 L [.ref o] (cS f g h1 h2) r ↔ ∃ (σ3 : aS) (v : Option Value), Cl sc d 93 [.ref o] (cS f g h1 h2) (σ3, v) ∧ Rn sc d 212 991 L (v.toList ++ []) σ3 r := r_callV (vs := []) d212_988 (j := 93) (by decide +kernel) ⟨rfl, by decide, rfl, rfl⟩ (Nat.le_of_ble_eq_true rfl) hK
theorem d212_991 : decode (mC 212) 991 = .ok (.aload_n 2, 1) := by decide +kernel
theorem x212_991 {sc : aSc} {d : Nat} {r : aRes} {a0 : Value} {a1 : Value} {x2 : Nat} {a3 : Value} {st : List Value} {σ : aS} : Rn sc d 212 991 [a0, a1, .ref x2, a3] st σ r ↔ Rn sc d 212 992 [a0, a1, .ref x2, a3] (.ref x2 :: st) σ r := r_aload_n d212_991 rfl
theorem d212_992 : decode (mC 212) 992 = .ok (.invokevirtual 131, 3) := by decide +kernel
theorem x212_992 {sc : aSc} {d : Nat} {r : aRes} {L : List Value} {f : Nat → Nat → Int32} {g : Nat → Nat → Int64} {h1 h2 : Nat}  {z0 : Int32} {o : Nat} (hK : KK[o]? = some (.inl 7)) : Rn sc d 212 992 L [.ref o, .int z0] (cS f g h1 h2) r ↔ ∃ (σ3 : aS) (v : Option Value), Cl sc d 176 [.ref o] (cS f g h1 h2) (σ3, v) ∧ Rn sc d 212 995 L (v.toList ++ [.int z0]) σ3 r := r_callV (vs := []) d212_992 (j := 176) (by decide +kernel) ⟨rfl, by decide, rfl, rfl⟩ (Nat.le_of_ble_eq_true rfl) hK
theorem d212_995 : decode (mC 212) 995 = .ok (.if_icmp .eq 340, 3) := by decide +kernel
theorem x212_995 {sc : aSc} {d : Nat} {r : aRes} {L : List Value} {st : List Value} {σ : aS} {x y : Int32} : Rn sc d 212 995 L (.int y :: .int x :: st) σ r ↔ if x = y then Rn sc d 212 1335 L st σ r else Rn sc d 212 998 L st σ r := r_icmp_eq d212_995 rfl
theorem d212_998 : decode (mC 212) 998 = .ok (.iconst 0, 1) := by decide +kernel
theorem x212_998 {sc : aSc} {d : Nat} {r : aRes} {L : List Value} {st : List Value} {σ : aS} : Rn sc d 212 998 L st σ r ↔ Rn sc d 212 999 L (.int 0 :: st) σ r := r_iconst d212_998 (by decide)
theorem d212_999 : decode (mC 212) 999 = .ok (.ireturn, 1) := by decide +kernel
theorem d212_1000 : decode (mC 212) 1000 = .ok (.aload_n 1, 1) := by decide +kernel
theorem x212_1000 {sc : aSc} {d : Nat} {r : aRes} {a0 : Value} {x1 : Nat} {a2 : Value} {a3 : Value} {st : List Value} {σ : aS} : Rn sc d 212 1000 [a0, .ref x1, a2, a3] st σ r ↔ Rn sc d 212 1001 [a0, .ref x1, a2, a3] (.ref x1 :: st) σ r := r_aload_n d212_1000 rfl
theorem d212_1001 : decode (mC 212) 1001 = .ok (.aload_n 0, 1) := by decide +kernel
theorem x212_1001 {sc : aSc} {d : Nat} {r : aRes} {x0 : Nat} {a1 : Value} {a2 : Value} {a3 : Value} {st : List Value} {σ : aS} : Rn sc d 212 1001 [.ref x0, a1, a2, a3] st σ r ↔ Rn sc d 212 1002 [.ref x0, a1, a2, a3] (.ref x0 :: st) σ r := r_aload_n d212_1001 rfl
theorem d212_1002 : decode (mC 212) 1002 = .ok (.iload_n 3, 1) := by decide +kernel
theorem x212_1002 {sc : aSc} {d : Nat} {r : aRes} {a0 : Value} {a1 : Value} {a2 : Value} {x3 : Int32} {st : List Value} {σ : aS} : Rn sc d 212 1002 [a0, a1, a2, .int x3] st σ r ↔ Rn sc d 212 1003 [a0, a1, a2, .int x3] (.int x3 :: st) σ r := r_iload_n d212_1002 rfl
theorem d212_1003 : decode (mC 212) 1003 = .ok (.iconst 1, 1) := by decide +kernel
theorem x212_1003 {sc : aSc} {d : Nat} {r : aRes} {L : List Value} {st : List Value} {σ : aS} : Rn sc d 212 1003 L st σ r ↔ Rn sc d 212 1004 L (.int 1 :: st) σ r := r_iconst d212_1003 (by decide)
theorem d212_1004 : decode (mC 212) 1004 = .ok (.iadd, 1) := by decide +kernel
theorem x212_1004 {sc : aSc} {d : Nat} {r : aRes} {L : List Value} {st : List Value} {σ : aS} {x y : Int32} : Rn sc d 212 1004 L (.int y :: .int x :: st) σ r ↔ Rn sc d 212 1005 L (.int (x + y) :: st) σ r := r_iadd d212_1004
theorem d212_1005 : decode (mC 212) 1005 = .ok (.iaload, 1) := by decide +kernel
theorem d212_1006 : decode (mC 212) 1006 = .ok (.aload_n 0, 1) := by decide +kernel
theorem x212_1006 {sc : aSc} {d : Nat} {r : aRes} {x0 : Nat} {a1 : Value} {a2 : Value} {a3 : Value} {st : List Value} {σ : aS} : Rn sc d 212 1006 [.ref x0, a1, a2, a3] st σ r ↔ Rn sc d 212 1007 [.ref x0, a1, a2, a3] (.ref x0 :: st) σ r := r_aload_n d212_1006 rfl
theorem d212_1007 : decode (mC 212) 1007 = .ok (.iload_n 3, 1) := by decide +kernel
theorem x212_1007 {sc : aSc} {d : Nat} {r : aRes} {a0 : Value} {a1 : Value} {a2 : Value} {x3 : Int32} {st : List Value} {σ : aS} : Rn sc d 212 1007 [a0, a1, a2, .int x3] st σ r ↔ Rn sc d 212 1008 [a0, a1, a2, .int x3] (.int x3 :: st) σ r := r_iload_n d212_1007 rfl
theorem d212_1008 : decode (mC 212) 1008 = .ok (.iconst 2, 1) := by decide +kernel
theorem x212_1008 {sc : aSc} {d : Nat} {r : aRes} {L : List Value} {st : List Value} {σ : aS} : Rn sc d 212 1008 L st σ r ↔ Rn sc d 212 1009 L (.int 2 :: st) σ r := r_iconst d212_1008 (by decide)
theorem d212_1009 : decode (mC 212) 1009 = .ok (.iadd, 1) := by decide +kernel
theorem x212_1009 {sc : aSc} {d : Nat} {r : aRes} {L : List Value} {st : List Value} {σ : aS} {x y : Int32} : Rn sc d 212 1009 L (.int y :: .int x :: st) σ r ↔ Rn sc d 212 1010 L (.int (x + y) :: st) σ r := r_iadd d212_1009
theorem d212_1010 : decode (mC 212) 1010 = .ok (.iaload, 1) := by decide +kernel
theorem d212_1011 : decode (mC 212) 1011 = .ok (.aload_n 0, 1) := by decide +kernel
theorem x212_1011 {sc : aSc} {d : Nat} {r : aRes} {x0 : Nat} {a1 : Value} {a2 : Value} {a3 : Value} {st : List Value} {σ : aS} : Rn sc d 212 1011 [.ref x0, a1, a2, a3] st σ r ↔ Rn sc d 212 1012 [.ref x0, a1, a2, a3] (.ref x0 :: st) σ r := r_aload_n d212_1011 rfl
theorem d212_1012 : decode (mC 212) 1012 = .ok (.iload_n 3, 1) := by decide +kernel
theorem x212_1012 {sc : aSc} {d : Nat} {r : aRes} {a0 : Value} {a1 : Value} {a2 : Value} {x3 : Int32} {st : List Value} {σ : aS} : Rn sc d 212 1012 [a0, a1, a2, .int x3] st σ r ↔ Rn sc d 212 1013 [a0, a1, a2, .int x3] (.int x3 :: st) σ r := r_iload_n d212_1012 rfl
theorem d212_1013 : decode (mC 212) 1013 = .ok (.iconst 3, 1) := by decide +kernel
theorem x212_1013 {sc : aSc} {d : Nat} {r : aRes} {L : List Value} {st : List Value} {σ : aS} : Rn sc d 212 1013 L st σ r ↔ Rn sc d 212 1014 L (.int 3 :: st) σ r := r_iconst d212_1013 (by decide)
theorem d212_1014 : decode (mC 212) 1014 = .ok (.iadd, 1) := by decide +kernel
theorem x212_1014 {sc : aSc} {d : Nat} {r : aRes} {L : List Value} {st : List Value} {σ : aS} {x y : Int32} : Rn sc d 212 1014 L (.int y :: .int x :: st) σ r ↔ Rn sc d 212 1015 L (.int (x + y) :: st) σ r := r_iadd d212_1014
theorem d212_1015 : decode (mC 212) 1015 = .ok (.iaload, 1) := by decide +kernel
theorem d212_1016 : decode (mC 212) 1016 = .ok (.invokevirtual 132, 3) := by decide +kernel
theorem x212_1016 {sc : aSc} {d : Nat} {r : aRes} {L : List Value} {f : Nat → Nat → Int32} {g : Nat → Nat → Int64} {h1 h2 : Nat} {y0 : Int32} {y1 : Int32} {y2 : Int32}  {o : Nat} (hK : KK[o]? = some (.inl 6)) : Rn sc d 212 1016 L [.int y0, .int y1, .int y2, .ref o] (cS f g h1 h2) r ↔ ∃ (σ3 : aS) (v : Option Value), Cl sc d 94 [.ref o, .int y2, .int y1, .int y0] (cS f g h1 h2) (σ3, v) ∧ Rn sc d 212 1019 L (v.toList ++ []) σ3 r := r_callV (vs := [.int y0, .int y1, .int y2]) d212_1016 (j := 94) (by decide +kernel) ⟨rfl, by decide, rfl, rfl⟩ (Nat.le_of_ble_eq_true rfl) hK
theorem d212_1019 : decode (mC 212) 1019 = .ok (.aload_n 2, 1) := by decide +kernel
theorem x212_1019 {sc : aSc} {d : Nat} {r : aRes} {a0 : Value} {a1 : Value} {x2 : Nat} {a3 : Value} {st : List Value} {σ : aS} : Rn sc d 212 1019 [a0, a1, .ref x2, a3] st σ r ↔ Rn sc d 212 1020 [a0, a1, .ref x2, a3] (.ref x2 :: st) σ r := r_aload_n d212_1019 rfl
theorem d212_1020 : decode (mC 212) 1020 = .ok (.aload_n 0, 1) := by decide +kernel
theorem x212_1020 {sc : aSc} {d : Nat} {r : aRes} {x0 : Nat} {a1 : Value} {a2 : Value} {a3 : Value} {st : List Value} {σ : aS} : Rn sc d 212 1020 [.ref x0, a1, a2, a3] st σ r ↔ Rn sc d 212 1021 [.ref x0, a1, a2, a3] (.ref x0 :: st) σ r := r_aload_n d212_1020 rfl
theorem d212_1021 : decode (mC 212) 1021 = .ok (.iload_n 3, 1) := by decide +kernel
theorem x212_1021 {sc : aSc} {d : Nat} {r : aRes} {a0 : Value} {a1 : Value} {a2 : Value} {x3 : Int32} {st : List Value} {σ : aS} : Rn sc d 212 1021 [a0, a1, a2, .int x3] st σ r ↔ Rn sc d 212 1022 [a0, a1, a2, .int x3] (.int x3 :: st) σ r := r_iload_n d212_1021 rfl
theorem d212_1022 : decode (mC 212) 1022 = .ok (.iconst 1, 1) := by decide +kernel
theorem x212_1022 {sc : aSc} {d : Nat} {r : aRes} {L : List Value} {st : List Value} {σ : aS} : Rn sc d 212 1022 L st σ r ↔ Rn sc d 212 1023 L (.int 1 :: st) σ r := r_iconst d212_1022 (by decide)
theorem d212_1023 : decode (mC 212) 1023 = .ok (.iadd, 1) := by decide +kernel
theorem x212_1023 {sc : aSc} {d : Nat} {r : aRes} {L : List Value} {st : List Value} {σ : aS} {x y : Int32} : Rn sc d 212 1023 L (.int y :: .int x :: st) σ r ↔ Rn sc d 212 1024 L (.int (x + y) :: st) σ r := r_iadd d212_1023
theorem d212_1024 : decode (mC 212) 1024 = .ok (.iaload, 1) := by decide +kernel
theorem d212_1025 : decode (mC 212) 1025 = .ok (.aload_n 0, 1) := by decide +kernel
theorem x212_1025 {sc : aSc} {d : Nat} {r : aRes} {x0 : Nat} {a1 : Value} {a2 : Value} {a3 : Value} {st : List Value} {σ : aS} : Rn sc d 212 1025 [.ref x0, a1, a2, a3] st σ r ↔ Rn sc d 212 1026 [.ref x0, a1, a2, a3] (.ref x0 :: st) σ r := r_aload_n d212_1025 rfl
theorem d212_1026 : decode (mC 212) 1026 = .ok (.iload_n 3, 1) := by decide +kernel
theorem x212_1026 {sc : aSc} {d : Nat} {r : aRes} {a0 : Value} {a1 : Value} {a2 : Value} {x3 : Int32} {st : List Value} {σ : aS} : Rn sc d 212 1026 [a0, a1, a2, .int x3] st σ r ↔ Rn sc d 212 1027 [a0, a1, a2, .int x3] (.int x3 :: st) σ r := r_iload_n d212_1026 rfl
theorem d212_1027 : decode (mC 212) 1027 = .ok (.iconst 2, 1) := by decide +kernel
theorem x212_1027 {sc : aSc} {d : Nat} {r : aRes} {L : List Value} {st : List Value} {σ : aS} : Rn sc d 212 1027 L st σ r ↔ Rn sc d 212 1028 L (.int 2 :: st) σ r := r_iconst d212_1027 (by decide)
theorem d212_1028 : decode (mC 212) 1028 = .ok (.iadd, 1) := by decide +kernel
theorem x212_1028 {sc : aSc} {d : Nat} {r : aRes} {L : List Value} {st : List Value} {σ : aS} {x y : Int32} : Rn sc d 212 1028 L (.int y :: .int x :: st) σ r ↔ Rn sc d 212 1029 L (.int (x + y) :: st) σ r := r_iadd d212_1028
theorem d212_1029 : decode (mC 212) 1029 = .ok (.iaload, 1) := by decide +kernel
theorem d212_1030 : decode (mC 212) 1030 = .ok (.aload_n 0, 1) := by decide +kernel
theorem x212_1030 {sc : aSc} {d : Nat} {r : aRes} {x0 : Nat} {a1 : Value} {a2 : Value} {a3 : Value} {st : List Value} {σ : aS} : Rn sc d 212 1030 [.ref x0, a1, a2, a3] st σ r ↔ Rn sc d 212 1031 [.ref x0, a1, a2, a3] (.ref x0 :: st) σ r := r_aload_n d212_1030 rfl
theorem d212_1031 : decode (mC 212) 1031 = .ok (.iload_n 3, 1) := by decide +kernel
theorem x212_1031 {sc : aSc} {d : Nat} {r : aRes} {a0 : Value} {a1 : Value} {a2 : Value} {x3 : Int32} {st : List Value} {σ : aS} : Rn sc d 212 1031 [a0, a1, a2, .int x3] st σ r ↔ Rn sc d 212 1032 [a0, a1, a2, .int x3] (.int x3 :: st) σ r := r_iload_n d212_1031 rfl
theorem d212_1032 : decode (mC 212) 1032 = .ok (.iconst 3, 1) := by decide +kernel
theorem x212_1032 {sc : aSc} {d : Nat} {r : aRes} {L : List Value} {st : List Value} {σ : aS} : Rn sc d 212 1032 L st σ r ↔ Rn sc d 212 1033 L (.int 3 :: st) σ r := r_iconst d212_1032 (by decide)
theorem d212_1033 : decode (mC 212) 1033 = .ok (.iadd, 1) := by decide +kernel
theorem x212_1033 {sc : aSc} {d : Nat} {r : aRes} {L : List Value} {st : List Value} {σ : aS} {x y : Int32} : Rn sc d 212 1033 L (.int y :: .int x :: st) σ r ↔ Rn sc d 212 1034 L (.int (x + y) :: st) σ r := r_iadd d212_1033
theorem d212_1034 : decode (mC 212) 1034 = .ok (.iaload, 1) := by decide +kernel
theorem d212_1035 : decode (mC 212) 1035 = .ok (.invokevirtual 135, 3) := by decide +kernel
theorem x212_1035 {sc : aSc} {d : Nat} {r : aRes} {L : List Value} {f : Nat → Nat → Int32} {g : Nat → Nat → Int64} {h1 h2 : Nat} {y0 : Int32} {y1 : Int32} {y2 : Int32} {z0 : Int32} {o : Nat} (hK : KK[o]? = some (.inl 7)) : Rn sc d 212 1035 L [.int y0, .int y1, .int y2, .ref o, .int z0] (cS f g h1 h2) r ↔ ∃ (σ3 : aS) (v : Option Value), Cl sc d 185 [.ref o, .int y2, .int y1, .int y0] (cS f g h1 h2) (σ3, v) ∧ Rn sc d 212 1038 L (v.toList ++ [.int z0]) σ3 r := r_callV (vs := [.int y0, .int y1, .int y2]) d212_1035 (j := 185) (by decide +kernel) ⟨rfl, by decide, rfl, rfl⟩ (Nat.le_of_ble_eq_true rfl) hK
theorem d212_1038 : decode (mC 212) 1038 = .ok (.if_icmp .eq 297, 3) := by decide +kernel
theorem x212_1038 {sc : aSc} {d : Nat} {r : aRes} {L : List Value} {st : List Value} {σ : aS} {x y : Int32} : Rn sc d 212 1038 L (.int y :: .int x :: st) σ r ↔ if x = y then Rn sc d 212 1335 L st σ r else Rn sc d 212 1041 L st σ r := r_icmp_eq d212_1038 rfl
theorem d212_1041 : decode (mC 212) 1041 = .ok (.iconst 0, 1) := by decide +kernel
theorem x212_1041 {sc : aSc} {d : Nat} {r : aRes} {L : List Value} {st : List Value} {σ : aS} : Rn sc d 212 1041 L st σ r ↔ Rn sc d 212 1042 L (.int 0 :: st) σ r := r_iconst d212_1041 (by decide)
theorem d212_1042 : decode (mC 212) 1042 = .ok (.ireturn, 1) := by decide +kernel
theorem d212_1043 : decode (mC 212) 1043 = .ok (.aload_n 1, 1) := by decide +kernel
theorem x212_1043 {sc : aSc} {d : Nat} {r : aRes} {a0 : Value} {x1 : Nat} {a2 : Value} {a3 : Value} {st : List Value} {σ : aS} : Rn sc d 212 1043 [a0, .ref x1, a2, a3] st σ r ↔ Rn sc d 212 1044 [a0, .ref x1, a2, a3] (.ref x1 :: st) σ r := r_aload_n d212_1043 rfl
theorem d212_1044 : decode (mC 212) 1044 = .ok (.aload_n 0, 1) := by decide +kernel
theorem x212_1044 {sc : aSc} {d : Nat} {r : aRes} {x0 : Nat} {a1 : Value} {a2 : Value} {a3 : Value} {st : List Value} {σ : aS} : Rn sc d 212 1044 [.ref x0, a1, a2, a3] st σ r ↔ Rn sc d 212 1045 [.ref x0, a1, a2, a3] (.ref x0 :: st) σ r := r_aload_n d212_1044 rfl
theorem d212_1045 : decode (mC 212) 1045 = .ok (.iload_n 3, 1) := by decide +kernel
theorem x212_1045 {sc : aSc} {d : Nat} {r : aRes} {a0 : Value} {a1 : Value} {a2 : Value} {x3 : Int32} {st : List Value} {σ : aS} : Rn sc d 212 1045 [a0, a1, a2, .int x3] st σ r ↔ Rn sc d 212 1046 [a0, a1, a2, .int x3] (.int x3 :: st) σ r := r_iload_n d212_1045 rfl
theorem d212_1046 : decode (mC 212) 1046 = .ok (.iconst 1, 1) := by decide +kernel
theorem x212_1046 {sc : aSc} {d : Nat} {r : aRes} {L : List Value} {st : List Value} {σ : aS} : Rn sc d 212 1046 L st σ r ↔ Rn sc d 212 1047 L (.int 1 :: st) σ r := r_iconst d212_1046 (by decide)
theorem d212_1047 : decode (mC 212) 1047 = .ok (.iadd, 1) := by decide +kernel
theorem x212_1047 {sc : aSc} {d : Nat} {r : aRes} {L : List Value} {st : List Value} {σ : aS} {x y : Int32} : Rn sc d 212 1047 L (.int y :: .int x :: st) σ r ↔ Rn sc d 212 1048 L (.int (x + y) :: st) σ r := r_iadd d212_1047
theorem d212_1048 : decode (mC 212) 1048 = .ok (.iaload, 1) := by decide +kernel
theorem d212_1049 : decode (mC 212) 1049 = .ok (.invokevirtual 136, 3) := by decide +kernel
theorem x212_1049 {sc : aSc} {d : Nat} {r : aRes} {L : List Value} {f : Nat → Nat → Int32} {g : Nat → Nat → Int64} {h1 h2 : Nat} {y0 : Int32}  {o : Nat} (hK : KK[o]? = some (.inl 6)) : Rn sc d 212 1049 L [.int y0, .ref o] (cS f g h1 h2) r ↔ ∃ (σ3 : aS) (v : Option Value), Cl sc d 95 [.ref o, .int y0] (cS f g h1 h2) (σ3, v) ∧ Rn sc d 212 1052 L (v.toList ++ []) σ3 r := r_callV (vs := [.int y0]) d212_1049 (j := 95) (by decide +kernel) ⟨rfl, by decide, rfl, rfl⟩ (Nat.le_of_ble_eq_true rfl) hK
theorem d212_1052 : decode (mC 212) 1052 = .ok (.aload_n 2, 1) := by decide +kernel
theorem x212_1052 {sc : aSc} {d : Nat} {r : aRes} {a0 : Value} {a1 : Value} {x2 : Nat} {a3 : Value} {st : List Value} {σ : aS} : Rn sc d 212 1052 [a0, a1, .ref x2, a3] st σ r ↔ Rn sc d 212 1053 [a0, a1, .ref x2, a3] (.ref x2 :: st) σ r := r_aload_n d212_1052 rfl
theorem d212_1053 : decode (mC 212) 1053 = .ok (.aload_n 0, 1) := by decide +kernel
theorem x212_1053 {sc : aSc} {d : Nat} {r : aRes} {x0 : Nat} {a1 : Value} {a2 : Value} {a3 : Value} {st : List Value} {σ : aS} : Rn sc d 212 1053 [.ref x0, a1, a2, a3] st σ r ↔ Rn sc d 212 1054 [.ref x0, a1, a2, a3] (.ref x0 :: st) σ r := r_aload_n d212_1053 rfl
theorem d212_1054 : decode (mC 212) 1054 = .ok (.iload_n 3, 1) := by decide +kernel
theorem x212_1054 {sc : aSc} {d : Nat} {r : aRes} {a0 : Value} {a1 : Value} {a2 : Value} {x3 : Int32} {st : List Value} {σ : aS} : Rn sc d 212 1054 [a0, a1, a2, .int x3] st σ r ↔ Rn sc d 212 1055 [a0, a1, a2, .int x3] (.int x3 :: st) σ r := r_iload_n d212_1054 rfl
theorem d212_1055 : decode (mC 212) 1055 = .ok (.iconst 1, 1) := by decide +kernel
theorem x212_1055 {sc : aSc} {d : Nat} {r : aRes} {L : List Value} {st : List Value} {σ : aS} : Rn sc d 212 1055 L st σ r ↔ Rn sc d 212 1056 L (.int 1 :: st) σ r := r_iconst d212_1055 (by decide)
theorem d212_1056 : decode (mC 212) 1056 = .ok (.iadd, 1) := by decide +kernel
theorem x212_1056 {sc : aSc} {d : Nat} {r : aRes} {L : List Value} {st : List Value} {σ : aS} {x y : Int32} : Rn sc d 212 1056 L (.int y :: .int x :: st) σ r ↔ Rn sc d 212 1057 L (.int (x + y) :: st) σ r := r_iadd d212_1056
theorem d212_1057 : decode (mC 212) 1057 = .ok (.iaload, 1) := by decide +kernel
theorem d212_1058 : decode (mC 212) 1058 = .ok (.invokevirtual 139, 3) := by decide +kernel
theorem x212_1058 {sc : aSc} {d : Nat} {r : aRes} {L : List Value} {f : Nat → Nat → Int32} {g : Nat → Nat → Int64} {h1 h2 : Nat} {y0 : Int32} {z0 : Int32} {o : Nat} (hK : KK[o]? = some (.inl 7)) : Rn sc d 212 1058 L [.int y0, .ref o, .int z0] (cS f g h1 h2) r ↔ ∃ (σ3 : aS) (v : Option Value), Cl sc d 186 [.ref o, .int y0] (cS f g h1 h2) (σ3, v) ∧ Rn sc d 212 1061 L (v.toList ++ [.int z0]) σ3 r := r_callV (vs := [.int y0]) d212_1058 (j := 186) (by decide +kernel) ⟨rfl, by decide, rfl, rfl⟩ (Nat.le_of_ble_eq_true rfl) hK
theorem d212_1061 : decode (mC 212) 1061 = .ok (.if_icmp .eq 274, 3) := by decide +kernel
theorem x212_1061 {sc : aSc} {d : Nat} {r : aRes} {L : List Value} {st : List Value} {σ : aS} {x y : Int32} : Rn sc d 212 1061 L (.int y :: .int x :: st) σ r ↔ if x = y then Rn sc d 212 1335 L st σ r else Rn sc d 212 1064 L st σ r := r_icmp_eq d212_1061 rfl
theorem d212_1064 : decode (mC 212) 1064 = .ok (.iconst 0, 1) := by decide +kernel
theorem x212_1064 {sc : aSc} {d : Nat} {r : aRes} {L : List Value} {st : List Value} {σ : aS} : Rn sc d 212 1064 L st σ r ↔ Rn sc d 212 1065 L (.int 0 :: st) σ r := r_iconst d212_1064 (by decide)
theorem d212_1065 : decode (mC 212) 1065 = .ok (.ireturn, 1) := by decide +kernel
theorem d212_1066 : decode (mC 212) 1066 = .ok (.aload_n 1, 1) := by decide +kernel
theorem x212_1066 {sc : aSc} {d : Nat} {r : aRes} {a0 : Value} {x1 : Nat} {a2 : Value} {a3 : Value} {st : List Value} {σ : aS} : Rn sc d 212 1066 [a0, .ref x1, a2, a3] st σ r ↔ Rn sc d 212 1067 [a0, .ref x1, a2, a3] (.ref x1 :: st) σ r := r_aload_n d212_1066 rfl
theorem d212_1067 : decode (mC 212) 1067 = .ok (.aload_n 0, 1) := by decide +kernel
theorem x212_1067 {sc : aSc} {d : Nat} {r : aRes} {x0 : Nat} {a1 : Value} {a2 : Value} {a3 : Value} {st : List Value} {σ : aS} : Rn sc d 212 1067 [.ref x0, a1, a2, a3] st σ r ↔ Rn sc d 212 1068 [.ref x0, a1, a2, a3] (.ref x0 :: st) σ r := r_aload_n d212_1067 rfl
theorem d212_1068 : decode (mC 212) 1068 = .ok (.iload_n 3, 1) := by decide +kernel
theorem x212_1068 {sc : aSc} {d : Nat} {r : aRes} {a0 : Value} {a1 : Value} {a2 : Value} {x3 : Int32} {st : List Value} {σ : aS} : Rn sc d 212 1068 [a0, a1, a2, .int x3] st σ r ↔ Rn sc d 212 1069 [a0, a1, a2, .int x3] (.int x3 :: st) σ r := r_iload_n d212_1068 rfl
theorem d212_1069 : decode (mC 212) 1069 = .ok (.iconst 1, 1) := by decide +kernel
theorem x212_1069 {sc : aSc} {d : Nat} {r : aRes} {L : List Value} {st : List Value} {σ : aS} : Rn sc d 212 1069 L st σ r ↔ Rn sc d 212 1070 L (.int 1 :: st) σ r := r_iconst d212_1069 (by decide)
theorem d212_1070 : decode (mC 212) 1070 = .ok (.iadd, 1) := by decide +kernel
theorem x212_1070 {sc : aSc} {d : Nat} {r : aRes} {L : List Value} {st : List Value} {σ : aS} {x y : Int32} : Rn sc d 212 1070 L (.int y :: .int x :: st) σ r ↔ Rn sc d 212 1071 L (.int (x + y) :: st) σ r := r_iadd d212_1070
theorem d212_1071 : decode (mC 212) 1071 = .ok (.iaload, 1) := by decide +kernel
theorem d212_1072 : decode (mC 212) 1072 = .ok (.aload_n 0, 1) := by decide +kernel
theorem x212_1072 {sc : aSc} {d : Nat} {r : aRes} {x0 : Nat} {a1 : Value} {a2 : Value} {a3 : Value} {st : List Value} {σ : aS} : Rn sc d 212 1072 [.ref x0, a1, a2, a3] st σ r ↔ Rn sc d 212 1073 [.ref x0, a1, a2, a3] (.ref x0 :: st) σ r := r_aload_n d212_1072 rfl
theorem d212_1073 : decode (mC 212) 1073 = .ok (.iload_n 3, 1) := by decide +kernel
theorem x212_1073 {sc : aSc} {d : Nat} {r : aRes} {a0 : Value} {a1 : Value} {a2 : Value} {x3 : Int32} {st : List Value} {σ : aS} : Rn sc d 212 1073 [a0, a1, a2, .int x3] st σ r ↔ Rn sc d 212 1074 [a0, a1, a2, .int x3] (.int x3 :: st) σ r := r_iload_n d212_1073 rfl
theorem d212_1074 : decode (mC 212) 1074 = .ok (.iconst 2, 1) := by decide +kernel
theorem x212_1074 {sc : aSc} {d : Nat} {r : aRes} {L : List Value} {st : List Value} {σ : aS} : Rn sc d 212 1074 L st σ r ↔ Rn sc d 212 1075 L (.int 2 :: st) σ r := r_iconst d212_1074 (by decide)
theorem d212_1075 : decode (mC 212) 1075 = .ok (.iadd, 1) := by decide +kernel
theorem x212_1075 {sc : aSc} {d : Nat} {r : aRes} {L : List Value} {st : List Value} {σ : aS} {x y : Int32} : Rn sc d 212 1075 L (.int y :: .int x :: st) σ r ↔ Rn sc d 212 1076 L (.int (x + y) :: st) σ r := r_iadd d212_1075
theorem d212_1076 : decode (mC 212) 1076 = .ok (.iaload, 1) := by decide +kernel
theorem d212_1077 : decode (mC 212) 1077 = .ok (.invokevirtual 140, 3) := by decide +kernel
theorem x212_1077 {sc : aSc} {d : Nat} {r : aRes} {L : List Value} {f : Nat → Nat → Int32} {g : Nat → Nat → Int64} {h1 h2 : Nat} {y0 : Int32} {y1 : Int32}  {o : Nat} (hK : KK[o]? = some (.inl 6)) : Rn sc d 212 1077 L [.int y0, .int y1, .ref o] (cS f g h1 h2) r ↔ ∃ (σ3 : aS) (v : Option Value), Cl sc d 96 [.ref o, .int y1, .int y0] (cS f g h1 h2) (σ3, v) ∧ Rn sc d 212 1080 L (v.toList ++ []) σ3 r := r_callV (vs := [.int y0, .int y1]) d212_1077 (j := 96) (by decide +kernel) ⟨rfl, by decide, rfl, rfl⟩ (Nat.le_of_ble_eq_true rfl) hK
theorem d212_1080 : decode (mC 212) 1080 = .ok (.aload_n 2, 1) := by decide +kernel
theorem x212_1080 {sc : aSc} {d : Nat} {r : aRes} {a0 : Value} {a1 : Value} {x2 : Nat} {a3 : Value} {st : List Value} {σ : aS} : Rn sc d 212 1080 [a0, a1, .ref x2, a3] st σ r ↔ Rn sc d 212 1081 [a0, a1, .ref x2, a3] (.ref x2 :: st) σ r := r_aload_n d212_1080 rfl
theorem d212_1081 : decode (mC 212) 1081 = .ok (.aload_n 0, 1) := by decide +kernel
theorem x212_1081 {sc : aSc} {d : Nat} {r : aRes} {x0 : Nat} {a1 : Value} {a2 : Value} {a3 : Value} {st : List Value} {σ : aS} : Rn sc d 212 1081 [.ref x0, a1, a2, a3] st σ r ↔ Rn sc d 212 1082 [.ref x0, a1, a2, a3] (.ref x0 :: st) σ r := r_aload_n d212_1081 rfl
theorem d212_1082 : decode (mC 212) 1082 = .ok (.iload_n 3, 1) := by decide +kernel
theorem x212_1082 {sc : aSc} {d : Nat} {r : aRes} {a0 : Value} {a1 : Value} {a2 : Value} {x3 : Int32} {st : List Value} {σ : aS} : Rn sc d 212 1082 [a0, a1, a2, .int x3] st σ r ↔ Rn sc d 212 1083 [a0, a1, a2, .int x3] (.int x3 :: st) σ r := r_iload_n d212_1082 rfl
theorem d212_1083 : decode (mC 212) 1083 = .ok (.iconst 1, 1) := by decide +kernel
theorem x212_1083 {sc : aSc} {d : Nat} {r : aRes} {L : List Value} {st : List Value} {σ : aS} : Rn sc d 212 1083 L st σ r ↔ Rn sc d 212 1084 L (.int 1 :: st) σ r := r_iconst d212_1083 (by decide)
theorem d212_1084 : decode (mC 212) 1084 = .ok (.iadd, 1) := by decide +kernel
theorem x212_1084 {sc : aSc} {d : Nat} {r : aRes} {L : List Value} {st : List Value} {σ : aS} {x y : Int32} : Rn sc d 212 1084 L (.int y :: .int x :: st) σ r ↔ Rn sc d 212 1085 L (.int (x + y) :: st) σ r := r_iadd d212_1084
theorem d212_1085 : decode (mC 212) 1085 = .ok (.iaload, 1) := by decide +kernel
theorem d212_1086 : decode (mC 212) 1086 = .ok (.aload_n 0, 1) := by decide +kernel
theorem x212_1086 {sc : aSc} {d : Nat} {r : aRes} {x0 : Nat} {a1 : Value} {a2 : Value} {a3 : Value} {st : List Value} {σ : aS} : Rn sc d 212 1086 [.ref x0, a1, a2, a3] st σ r ↔ Rn sc d 212 1087 [.ref x0, a1, a2, a3] (.ref x0 :: st) σ r := r_aload_n d212_1086 rfl
theorem d212_1087 : decode (mC 212) 1087 = .ok (.iload_n 3, 1) := by decide +kernel
theorem x212_1087 {sc : aSc} {d : Nat} {r : aRes} {a0 : Value} {a1 : Value} {a2 : Value} {x3 : Int32} {st : List Value} {σ : aS} : Rn sc d 212 1087 [a0, a1, a2, .int x3] st σ r ↔ Rn sc d 212 1088 [a0, a1, a2, .int x3] (.int x3 :: st) σ r := r_iload_n d212_1087 rfl
theorem d212_1088 : decode (mC 212) 1088 = .ok (.iconst 2, 1) := by decide +kernel
theorem x212_1088 {sc : aSc} {d : Nat} {r : aRes} {L : List Value} {st : List Value} {σ : aS} : Rn sc d 212 1088 L st σ r ↔ Rn sc d 212 1089 L (.int 2 :: st) σ r := r_iconst d212_1088 (by decide)
theorem d212_1089 : decode (mC 212) 1089 = .ok (.iadd, 1) := by decide +kernel
theorem x212_1089 {sc : aSc} {d : Nat} {r : aRes} {L : List Value} {st : List Value} {σ : aS} {x y : Int32} : Rn sc d 212 1089 L (.int y :: .int x :: st) σ r ↔ Rn sc d 212 1090 L (.int (x + y) :: st) σ r := r_iadd d212_1089
theorem d212_1090 : decode (mC 212) 1090 = .ok (.iaload, 1) := by decide +kernel
theorem d212_1091 : decode (mC 212) 1091 = .ok (.invokevirtual 143, 3) := by decide +kernel
theorem x212_1091 {sc : aSc} {d : Nat} {r : aRes} {L : List Value} {f : Nat → Nat → Int32} {g : Nat → Nat → Int64} {h1 h2 : Nat} {y0 : Int32} {y1 : Int32} {z0 : Int32} {o : Nat} (hK : KK[o]? = some (.inl 7)) : Rn sc d 212 1091 L [.int y0, .int y1, .ref o, .int z0] (cS f g h1 h2) r ↔ ∃ (σ3 : aS) (v : Option Value), Cl sc d 187 [.ref o, .int y1, .int y0] (cS f g h1 h2) (σ3, v) ∧ Rn sc d 212 1094 L (v.toList ++ [.int z0]) σ3 r := r_callV (vs := [.int y0, .int y1]) d212_1091 (j := 187) (by decide +kernel) ⟨rfl, by decide, rfl, rfl⟩ (Nat.le_of_ble_eq_true rfl) hK
theorem d212_1094 : decode (mC 212) 1094 = .ok (.if_icmp .eq 241, 3) := by decide +kernel
theorem x212_1094 {sc : aSc} {d : Nat} {r : aRes} {L : List Value} {st : List Value} {σ : aS} {x y : Int32} : Rn sc d 212 1094 L (.int y :: .int x :: st) σ r ↔ if x = y then Rn sc d 212 1335 L st σ r else Rn sc d 212 1097 L st σ r := r_icmp_eq d212_1094 rfl
theorem d212_1097 : decode (mC 212) 1097 = .ok (.iconst 0, 1) := by decide +kernel
theorem x212_1097 {sc : aSc} {d : Nat} {r : aRes} {L : List Value} {st : List Value} {σ : aS} : Rn sc d 212 1097 L st σ r ↔ Rn sc d 212 1098 L (.int 0 :: st) σ r := r_iconst d212_1097 (by decide)
theorem d212_1098 : decode (mC 212) 1098 = .ok (.ireturn, 1) := by decide +kernel
theorem d212_1099 : decode (mC 212) 1099 = .ok (.aload_n 1, 1) := by decide +kernel
theorem x212_1099 {sc : aSc} {d : Nat} {r : aRes} {a0 : Value} {x1 : Nat} {a2 : Value} {a3 : Value} {st : List Value} {σ : aS} : Rn sc d 212 1099 [a0, .ref x1, a2, a3] st σ r ↔ Rn sc d 212 1100 [a0, .ref x1, a2, a3] (.ref x1 :: st) σ r := r_aload_n d212_1099 rfl
theorem d212_1100 : decode (mC 212) 1100 = .ok (.aload_n 0, 1) := by decide +kernel
theorem x212_1100 {sc : aSc} {d : Nat} {r : aRes} {x0 : Nat} {a1 : Value} {a2 : Value} {a3 : Value} {st : List Value} {σ : aS} : Rn sc d 212 1100 [.ref x0, a1, a2, a3] st σ r ↔ Rn sc d 212 1101 [.ref x0, a1, a2, a3] (.ref x0 :: st) σ r := r_aload_n d212_1100 rfl
theorem d212_1101 : decode (mC 212) 1101 = .ok (.iload_n 3, 1) := by decide +kernel
theorem x212_1101 {sc : aSc} {d : Nat} {r : aRes} {a0 : Value} {a1 : Value} {a2 : Value} {x3 : Int32} {st : List Value} {σ : aS} : Rn sc d 212 1101 [a0, a1, a2, .int x3] st σ r ↔ Rn sc d 212 1102 [a0, a1, a2, .int x3] (.int x3 :: st) σ r := r_iload_n d212_1101 rfl
theorem d212_1102 : decode (mC 212) 1102 = .ok (.iconst 1, 1) := by decide +kernel
theorem x212_1102 {sc : aSc} {d : Nat} {r : aRes} {L : List Value} {st : List Value} {σ : aS} : Rn sc d 212 1102 L st σ r ↔ Rn sc d 212 1103 L (.int 1 :: st) σ r := r_iconst d212_1102 (by decide)
theorem d212_1103 : decode (mC 212) 1103 = .ok (.iadd, 1) := by decide +kernel
theorem x212_1103 {sc : aSc} {d : Nat} {r : aRes} {L : List Value} {st : List Value} {σ : aS} {x y : Int32} : Rn sc d 212 1103 L (.int y :: .int x :: st) σ r ↔ Rn sc d 212 1104 L (.int (x + y) :: st) σ r := r_iadd d212_1103
theorem d212_1104 : decode (mC 212) 1104 = .ok (.iaload, 1) := by decide +kernel
theorem d212_1105 : decode (mC 212) 1105 = .ok (.invokevirtual 144, 3) := by decide +kernel
theorem x212_1105 {sc : aSc} {d : Nat} {r : aRes} {L : List Value} {f : Nat → Nat → Int32} {g : Nat → Nat → Int64} {h1 h2 : Nat} {y0 : Int32}  {o : Nat} (hK : KK[o]? = some (.inl 6)) : Rn sc d 212 1105 L [.int y0, .ref o] (cS f g h1 h2) r ↔ ∃ (σ3 : aS) (v : Option Value), Cl sc d 97 [.ref o, .int y0] (cS f g h1 h2) (σ3, v) ∧ Rn sc d 212 1108 L (v.toList ++ []) σ3 r := r_callV (vs := [.int y0]) d212_1105 (j := 97) (by decide +kernel) ⟨rfl, by decide, rfl, rfl⟩ (Nat.le_of_ble_eq_true rfl) hK
theorem d212_1108 : decode (mC 212) 1108 = .ok (.aload_n 2, 1) := by decide +kernel
theorem x212_1108 {sc : aSc} {d : Nat} {r : aRes} {a0 : Value} {a1 : Value} {x2 : Nat} {a3 : Value} {st : List Value} {σ : aS} : Rn sc d 212 1108 [a0, a1, .ref x2, a3] st σ r ↔ Rn sc d 212 1109 [a0, a1, .ref x2, a3] (.ref x2 :: st) σ r := r_aload_n d212_1108 rfl
theorem d212_1109 : decode (mC 212) 1109 = .ok (.aload_n 0, 1) := by decide +kernel
theorem x212_1109 {sc : aSc} {d : Nat} {r : aRes} {x0 : Nat} {a1 : Value} {a2 : Value} {a3 : Value} {st : List Value} {σ : aS} : Rn sc d 212 1109 [.ref x0, a1, a2, a3] st σ r ↔ Rn sc d 212 1110 [.ref x0, a1, a2, a3] (.ref x0 :: st) σ r := r_aload_n d212_1109 rfl
theorem d212_1110 : decode (mC 212) 1110 = .ok (.iload_n 3, 1) := by decide +kernel
theorem x212_1110 {sc : aSc} {d : Nat} {r : aRes} {a0 : Value} {a1 : Value} {a2 : Value} {x3 : Int32} {st : List Value} {σ : aS} : Rn sc d 212 1110 [a0, a1, a2, .int x3] st σ r ↔ Rn sc d 212 1111 [a0, a1, a2, .int x3] (.int x3 :: st) σ r := r_iload_n d212_1110 rfl
theorem d212_1111 : decode (mC 212) 1111 = .ok (.iconst 1, 1) := by decide +kernel
theorem x212_1111 {sc : aSc} {d : Nat} {r : aRes} {L : List Value} {st : List Value} {σ : aS} : Rn sc d 212 1111 L st σ r ↔ Rn sc d 212 1112 L (.int 1 :: st) σ r := r_iconst d212_1111 (by decide)
theorem d212_1112 : decode (mC 212) 1112 = .ok (.iadd, 1) := by decide +kernel
theorem x212_1112 {sc : aSc} {d : Nat} {r : aRes} {L : List Value} {st : List Value} {σ : aS} {x y : Int32} : Rn sc d 212 1112 L (.int y :: .int x :: st) σ r ↔ Rn sc d 212 1113 L (.int (x + y) :: st) σ r := r_iadd d212_1112
theorem d212_1113 : decode (mC 212) 1113 = .ok (.iaload, 1) := by decide +kernel
theorem d212_1114 : decode (mC 212) 1114 = .ok (.invokevirtual 147, 3) := by decide +kernel
theorem x212_1114 {sc : aSc} {d : Nat} {r : aRes} {L : List Value} {f : Nat → Nat → Int32} {g : Nat → Nat → Int64} {h1 h2 : Nat} {y0 : Int32} {z0 : Int32} {o : Nat} (hK : KK[o]? = some (.inl 7)) : Rn sc d 212 1114 L [.int y0, .ref o, .int z0] (cS f g h1 h2) r ↔ ∃ (σ3 : aS) (v : Option Value), Cl sc d 188 [.ref o, .int y0] (cS f g h1 h2) (σ3, v) ∧ Rn sc d 212 1117 L (v.toList ++ [.int z0]) σ3 r := r_callV (vs := [.int y0]) d212_1114 (j := 188) (by decide +kernel) ⟨rfl, by decide, rfl, rfl⟩ (Nat.le_of_ble_eq_true rfl) hK
theorem d212_1117 : decode (mC 212) 1117 = .ok (.if_icmp .eq 218, 3) := by decide +kernel
theorem x212_1117 {sc : aSc} {d : Nat} {r : aRes} {L : List Value} {st : List Value} {σ : aS} {x y : Int32} : Rn sc d 212 1117 L (.int y :: .int x :: st) σ r ↔ if x = y then Rn sc d 212 1335 L st σ r else Rn sc d 212 1120 L st σ r := r_icmp_eq d212_1117 rfl
theorem d212_1120 : decode (mC 212) 1120 = .ok (.iconst 0, 1) := by decide +kernel
theorem x212_1120 {sc : aSc} {d : Nat} {r : aRes} {L : List Value} {st : List Value} {σ : aS} : Rn sc d 212 1120 L st σ r ↔ Rn sc d 212 1121 L (.int 0 :: st) σ r := r_iconst d212_1120 (by decide)
theorem d212_1121 : decode (mC 212) 1121 = .ok (.ireturn, 1) := by decide +kernel
theorem d212_1122 : decode (mC 212) 1122 = .ok (.aload_n 1, 1) := by decide +kernel
theorem x212_1122 {sc : aSc} {d : Nat} {r : aRes} {a0 : Value} {x1 : Nat} {a2 : Value} {a3 : Value} {st : List Value} {σ : aS} : Rn sc d 212 1122 [a0, .ref x1, a2, a3] st σ r ↔ Rn sc d 212 1123 [a0, .ref x1, a2, a3] (.ref x1 :: st) σ r := r_aload_n d212_1122 rfl
theorem d212_1123 : decode (mC 212) 1123 = .ok (.aload_n 0, 1) := by decide +kernel
theorem x212_1123 {sc : aSc} {d : Nat} {r : aRes} {x0 : Nat} {a1 : Value} {a2 : Value} {a3 : Value} {st : List Value} {σ : aS} : Rn sc d 212 1123 [.ref x0, a1, a2, a3] st σ r ↔ Rn sc d 212 1124 [.ref x0, a1, a2, a3] (.ref x0 :: st) σ r := r_aload_n d212_1123 rfl
theorem d212_1124 : decode (mC 212) 1124 = .ok (.iload_n 3, 1) := by decide +kernel
theorem x212_1124 {sc : aSc} {d : Nat} {r : aRes} {a0 : Value} {a1 : Value} {a2 : Value} {x3 : Int32} {st : List Value} {σ : aS} : Rn sc d 212 1124 [a0, a1, a2, .int x3] st σ r ↔ Rn sc d 212 1125 [a0, a1, a2, .int x3] (.int x3 :: st) σ r := r_iload_n d212_1124 rfl
theorem d212_1125 : decode (mC 212) 1125 = .ok (.iconst 1, 1) := by decide +kernel
theorem x212_1125 {sc : aSc} {d : Nat} {r : aRes} {L : List Value} {st : List Value} {σ : aS} : Rn sc d 212 1125 L st σ r ↔ Rn sc d 212 1126 L (.int 1 :: st) σ r := r_iconst d212_1125 (by decide)
theorem d212_1126 : decode (mC 212) 1126 = .ok (.iadd, 1) := by decide +kernel
theorem x212_1126 {sc : aSc} {d : Nat} {r : aRes} {L : List Value} {st : List Value} {σ : aS} {x y : Int32} : Rn sc d 212 1126 L (.int y :: .int x :: st) σ r ↔ Rn sc d 212 1127 L (.int (x + y) :: st) σ r := r_iadd d212_1126
theorem d212_1127 : decode (mC 212) 1127 = .ok (.iaload, 1) := by decide +kernel
theorem d212_1128 : decode (mC 212) 1128 = .ok (.aload_n 0, 1) := by decide +kernel
theorem x212_1128 {sc : aSc} {d : Nat} {r : aRes} {x0 : Nat} {a1 : Value} {a2 : Value} {a3 : Value} {st : List Value} {σ : aS} : Rn sc d 212 1128 [.ref x0, a1, a2, a3] st σ r ↔ Rn sc d 212 1129 [.ref x0, a1, a2, a3] (.ref x0 :: st) σ r := r_aload_n d212_1128 rfl
theorem d212_1129 : decode (mC 212) 1129 = .ok (.iload_n 3, 1) := by decide +kernel
theorem x212_1129 {sc : aSc} {d : Nat} {r : aRes} {a0 : Value} {a1 : Value} {a2 : Value} {x3 : Int32} {st : List Value} {σ : aS} : Rn sc d 212 1129 [a0, a1, a2, .int x3] st σ r ↔ Rn sc d 212 1130 [a0, a1, a2, .int x3] (.int x3 :: st) σ r := r_iload_n d212_1129 rfl
theorem d212_1130 : decode (mC 212) 1130 = .ok (.iconst 2, 1) := by decide +kernel
theorem x212_1130 {sc : aSc} {d : Nat} {r : aRes} {L : List Value} {st : List Value} {σ : aS} : Rn sc d 212 1130 L st σ r ↔ Rn sc d 212 1131 L (.int 2 :: st) σ r := r_iconst d212_1130 (by decide)
theorem d212_1131 : decode (mC 212) 1131 = .ok (.iadd, 1) := by decide +kernel
theorem x212_1131 {sc : aSc} {d : Nat} {r : aRes} {L : List Value} {st : List Value} {σ : aS} {x y : Int32} : Rn sc d 212 1131 L (.int y :: .int x :: st) σ r ↔ Rn sc d 212 1132 L (.int (x + y) :: st) σ r := r_iadd d212_1131
theorem d212_1132 : decode (mC 212) 1132 = .ok (.iaload, 1) := by decide +kernel
theorem d212_1133 : decode (mC 212) 1133 = .ok (.aload_n 0, 1) := by decide +kernel
theorem x212_1133 {sc : aSc} {d : Nat} {r : aRes} {x0 : Nat} {a1 : Value} {a2 : Value} {a3 : Value} {st : List Value} {σ : aS} : Rn sc d 212 1133 [.ref x0, a1, a2, a3] st σ r ↔ Rn sc d 212 1134 [.ref x0, a1, a2, a3] (.ref x0 :: st) σ r := r_aload_n d212_1133 rfl
theorem d212_1134 : decode (mC 212) 1134 = .ok (.iload_n 3, 1) := by decide +kernel
theorem x212_1134 {sc : aSc} {d : Nat} {r : aRes} {a0 : Value} {a1 : Value} {a2 : Value} {x3 : Int32} {st : List Value} {σ : aS} : Rn sc d 212 1134 [a0, a1, a2, .int x3] st σ r ↔ Rn sc d 212 1135 [a0, a1, a2, .int x3] (.int x3 :: st) σ r := r_iload_n d212_1134 rfl
theorem d212_1135 : decode (mC 212) 1135 = .ok (.iconst 3, 1) := by decide +kernel
theorem x212_1135 {sc : aSc} {d : Nat} {r : aRes} {L : List Value} {st : List Value} {σ : aS} : Rn sc d 212 1135 L st σ r ↔ Rn sc d 212 1136 L (.int 3 :: st) σ r := r_iconst d212_1135 (by decide)
theorem d212_1136 : decode (mC 212) 1136 = .ok (.iadd, 1) := by decide +kernel
theorem x212_1136 {sc : aSc} {d : Nat} {r : aRes} {L : List Value} {st : List Value} {σ : aS} {x y : Int32} : Rn sc d 212 1136 L (.int y :: .int x :: st) σ r ↔ Rn sc d 212 1137 L (.int (x + y) :: st) σ r := r_iadd d212_1136
theorem d212_1137 : decode (mC 212) 1137 = .ok (.iaload, 1) := by decide +kernel
theorem d212_1138 : decode (mC 212) 1138 = .ok (.invokevirtual 148, 3) := by decide +kernel
theorem x212_1138 {sc : aSc} {d : Nat} {r : aRes} {L : List Value} {f : Nat → Nat → Int32} {g : Nat → Nat → Int64} {h1 h2 : Nat} {y0 : Int32} {y1 : Int32} {y2 : Int32}  {o : Nat} (hK : KK[o]? = some (.inl 6)) : Rn sc d 212 1138 L [.int y0, .int y1, .int y2, .ref o] (cS f g h1 h2) r ↔ ∃ (σ3 : aS) (v : Option Value), Cl sc d 98 [.ref o, .int y2, .int y1, .int y0] (cS f g h1 h2) (σ3, v) ∧ Rn sc d 212 1141 L (v.toList ++ []) σ3 r := r_callV (vs := [.int y0, .int y1, .int y2]) d212_1138 (j := 98) (by decide +kernel) ⟨rfl, by decide, rfl, rfl⟩ (Nat.le_of_ble_eq_true rfl) hK
theorem d212_1141 : decode (mC 212) 1141 = .ok (.aload_n 2, 1) := by decide +kernel
theorem x212_1141 {sc : aSc} {d : Nat} {r : aRes} {a0 : Value} {a1 : Value} {x2 : Nat} {a3 : Value} {st : List Value} {σ : aS} : Rn sc d 212 1141 [a0, a1, .ref x2, a3] st σ r ↔ Rn sc d 212 1142 [a0, a1, .ref x2, a3] (.ref x2 :: st) σ r := r_aload_n d212_1141 rfl
theorem d212_1142 : decode (mC 212) 1142 = .ok (.aload_n 0, 1) := by decide +kernel
theorem x212_1142 {sc : aSc} {d : Nat} {r : aRes} {x0 : Nat} {a1 : Value} {a2 : Value} {a3 : Value} {st : List Value} {σ : aS} : Rn sc d 212 1142 [.ref x0, a1, a2, a3] st σ r ↔ Rn sc d 212 1143 [.ref x0, a1, a2, a3] (.ref x0 :: st) σ r := r_aload_n d212_1142 rfl
theorem d212_1143 : decode (mC 212) 1143 = .ok (.iload_n 3, 1) := by decide +kernel
theorem x212_1143 {sc : aSc} {d : Nat} {r : aRes} {a0 : Value} {a1 : Value} {a2 : Value} {x3 : Int32} {st : List Value} {σ : aS} : Rn sc d 212 1143 [a0, a1, a2, .int x3] st σ r ↔ Rn sc d 212 1144 [a0, a1, a2, .int x3] (.int x3 :: st) σ r := r_iload_n d212_1143 rfl
theorem d212_1144 : decode (mC 212) 1144 = .ok (.iconst 1, 1) := by decide +kernel
theorem x212_1144 {sc : aSc} {d : Nat} {r : aRes} {L : List Value} {st : List Value} {σ : aS} : Rn sc d 212 1144 L st σ r ↔ Rn sc d 212 1145 L (.int 1 :: st) σ r := r_iconst d212_1144 (by decide)
theorem d212_1145 : decode (mC 212) 1145 = .ok (.iadd, 1) := by decide +kernel
theorem x212_1145 {sc : aSc} {d : Nat} {r : aRes} {L : List Value} {st : List Value} {σ : aS} {x y : Int32} : Rn sc d 212 1145 L (.int y :: .int x :: st) σ r ↔ Rn sc d 212 1146 L (.int (x + y) :: st) σ r := r_iadd d212_1145
theorem d212_1146 : decode (mC 212) 1146 = .ok (.iaload, 1) := by decide +kernel
theorem d212_1147 : decode (mC 212) 1147 = .ok (.aload_n 0, 1) := by decide +kernel
theorem x212_1147 {sc : aSc} {d : Nat} {r : aRes} {x0 : Nat} {a1 : Value} {a2 : Value} {a3 : Value} {st : List Value} {σ : aS} : Rn sc d 212 1147 [.ref x0, a1, a2, a3] st σ r ↔ Rn sc d 212 1148 [.ref x0, a1, a2, a3] (.ref x0 :: st) σ r := r_aload_n d212_1147 rfl
theorem d212_1148 : decode (mC 212) 1148 = .ok (.iload_n 3, 1) := by decide +kernel
theorem x212_1148 {sc : aSc} {d : Nat} {r : aRes} {a0 : Value} {a1 : Value} {a2 : Value} {x3 : Int32} {st : List Value} {σ : aS} : Rn sc d 212 1148 [a0, a1, a2, .int x3] st σ r ↔ Rn sc d 212 1149 [a0, a1, a2, .int x3] (.int x3 :: st) σ r := r_iload_n d212_1148 rfl
theorem d212_1149 : decode (mC 212) 1149 = .ok (.iconst 2, 1) := by decide +kernel
theorem x212_1149 {sc : aSc} {d : Nat} {r : aRes} {L : List Value} {st : List Value} {σ : aS} : Rn sc d 212 1149 L st σ r ↔ Rn sc d 212 1150 L (.int 2 :: st) σ r := r_iconst d212_1149 (by decide)
theorem d212_1150 : decode (mC 212) 1150 = .ok (.iadd, 1) := by decide +kernel
theorem x212_1150 {sc : aSc} {d : Nat} {r : aRes} {L : List Value} {st : List Value} {σ : aS} {x y : Int32} : Rn sc d 212 1150 L (.int y :: .int x :: st) σ r ↔ Rn sc d 212 1151 L (.int (x + y) :: st) σ r := r_iadd d212_1150
theorem d212_1151 : decode (mC 212) 1151 = .ok (.iaload, 1) := by decide +kernel
theorem d212_1152 : decode (mC 212) 1152 = .ok (.aload_n 0, 1) := by decide +kernel
theorem x212_1152 {sc : aSc} {d : Nat} {r : aRes} {x0 : Nat} {a1 : Value} {a2 : Value} {a3 : Value} {st : List Value} {σ : aS} : Rn sc d 212 1152 [.ref x0, a1, a2, a3] st σ r ↔ Rn sc d 212 1153 [.ref x0, a1, a2, a3] (.ref x0 :: st) σ r := r_aload_n d212_1152 rfl
theorem d212_1153 : decode (mC 212) 1153 = .ok (.iload_n 3, 1) := by decide +kernel
theorem x212_1153 {sc : aSc} {d : Nat} {r : aRes} {a0 : Value} {a1 : Value} {a2 : Value} {x3 : Int32} {st : List Value} {σ : aS} : Rn sc d 212 1153 [a0, a1, a2, .int x3] st σ r ↔ Rn sc d 212 1154 [a0, a1, a2, .int x3] (.int x3 :: st) σ r := r_iload_n d212_1153 rfl
theorem d212_1154 : decode (mC 212) 1154 = .ok (.iconst 3, 1) := by decide +kernel
theorem x212_1154 {sc : aSc} {d : Nat} {r : aRes} {L : List Value} {st : List Value} {σ : aS} : Rn sc d 212 1154 L st σ r ↔ Rn sc d 212 1155 L (.int 3 :: st) σ r := r_iconst d212_1154 (by decide)
theorem d212_1155 : decode (mC 212) 1155 = .ok (.iadd, 1) := by decide +kernel
theorem x212_1155 {sc : aSc} {d : Nat} {r : aRes} {L : List Value} {st : List Value} {σ : aS} {x y : Int32} : Rn sc d 212 1155 L (.int y :: .int x :: st) σ r ↔ Rn sc d 212 1156 L (.int (x + y) :: st) σ r := r_iadd d212_1155
theorem d212_1156 : decode (mC 212) 1156 = .ok (.iaload, 1) := by decide +kernel
theorem d212_1157 : decode (mC 212) 1157 = .ok (.invokevirtual 151, 3) := by decide +kernel
theorem x212_1157 {sc : aSc} {d : Nat} {r : aRes} {L : List Value} {f : Nat → Nat → Int32} {g : Nat → Nat → Int64} {h1 h2 : Nat} {y0 : Int32} {y1 : Int32} {y2 : Int32} {z0 : Int32} {o : Nat} (hK : KK[o]? = some (.inl 7)) : Rn sc d 212 1157 L [.int y0, .int y1, .int y2, .ref o, .int z0] (cS f g h1 h2) r ↔ ∃ (σ3 : aS) (v : Option Value), Cl sc d 190 [.ref o, .int y2, .int y1, .int y0] (cS f g h1 h2) (σ3, v) ∧ Rn sc d 212 1160 L (v.toList ++ [.int z0]) σ3 r := r_callV (vs := [.int y0, .int y1, .int y2]) d212_1157 (j := 190) (by decide +kernel) ⟨rfl, by decide, rfl, rfl⟩ (Nat.le_of_ble_eq_true rfl) hK
theorem d212_1160 : decode (mC 212) 1160 = .ok (.if_icmp .eq 175, 3) := by decide +kernel
theorem x212_1160 {sc : aSc} {d : Nat} {r : aRes} {L : List Value} {st : List Value} {σ : aS} {x y : Int32} : Rn sc d 212 1160 L (.int y :: .int x :: st) σ r ↔ if x = y then Rn sc d 212 1335 L st σ r else Rn sc d 212 1163 L st σ r := r_icmp_eq d212_1160 rfl
theorem d212_1163 : decode (mC 212) 1163 = .ok (.iconst 0, 1) := by decide +kernel
theorem x212_1163 {sc : aSc} {d : Nat} {r : aRes} {L : List Value} {st : List Value} {σ : aS} : Rn sc d 212 1163 L st σ r ↔ Rn sc d 212 1164 L (.int 0 :: st) σ r := r_iconst d212_1163 (by decide)
theorem d212_1164 : decode (mC 212) 1164 = .ok (.ireturn, 1) := by decide +kernel
theorem d212_1165 : decode (mC 212) 1165 = .ok (.aload_n 1, 1) := by decide +kernel
theorem x212_1165 {sc : aSc} {d : Nat} {r : aRes} {a0 : Value} {x1 : Nat} {a2 : Value} {a3 : Value} {st : List Value} {σ : aS} : Rn sc d 212 1165 [a0, .ref x1, a2, a3] st σ r ↔ Rn sc d 212 1166 [a0, .ref x1, a2, a3] (.ref x1 :: st) σ r := r_aload_n d212_1165 rfl
theorem d212_1166 : decode (mC 212) 1166 = .ok (.aload_n 0, 1) := by decide +kernel
theorem x212_1166 {sc : aSc} {d : Nat} {r : aRes} {x0 : Nat} {a1 : Value} {a2 : Value} {a3 : Value} {st : List Value} {σ : aS} : Rn sc d 212 1166 [.ref x0, a1, a2, a3] st σ r ↔ Rn sc d 212 1167 [.ref x0, a1, a2, a3] (.ref x0 :: st) σ r := r_aload_n d212_1166 rfl
theorem d212_1167 : decode (mC 212) 1167 = .ok (.iload_n 3, 1) := by decide +kernel
theorem x212_1167 {sc : aSc} {d : Nat} {r : aRes} {a0 : Value} {a1 : Value} {a2 : Value} {x3 : Int32} {st : List Value} {σ : aS} : Rn sc d 212 1167 [a0, a1, a2, .int x3] st σ r ↔ Rn sc d 212 1168 [a0, a1, a2, .int x3] (.int x3 :: st) σ r := r_iload_n d212_1167 rfl
theorem d212_1168 : decode (mC 212) 1168 = .ok (.iconst 1, 1) := by decide +kernel
theorem x212_1168 {sc : aSc} {d : Nat} {r : aRes} {L : List Value} {st : List Value} {σ : aS} : Rn sc d 212 1168 L st σ r ↔ Rn sc d 212 1169 L (.int 1 :: st) σ r := r_iconst d212_1168 (by decide)
theorem d212_1169 : decode (mC 212) 1169 = .ok (.iadd, 1) := by decide +kernel
theorem x212_1169 {sc : aSc} {d : Nat} {r : aRes} {L : List Value} {st : List Value} {σ : aS} {x y : Int32} : Rn sc d 212 1169 L (.int y :: .int x :: st) σ r ↔ Rn sc d 212 1170 L (.int (x + y) :: st) σ r := r_iadd d212_1169
theorem d212_1170 : decode (mC 212) 1170 = .ok (.iaload, 1) := by decide +kernel
theorem d212_1171 : decode (mC 212) 1171 = .ok (.aload_n 0, 1) := by decide +kernel
theorem x212_1171 {sc : aSc} {d : Nat} {r : aRes} {x0 : Nat} {a1 : Value} {a2 : Value} {a3 : Value} {st : List Value} {σ : aS} : Rn sc d 212 1171 [.ref x0, a1, a2, a3] st σ r ↔ Rn sc d 212 1172 [.ref x0, a1, a2, a3] (.ref x0 :: st) σ r := r_aload_n d212_1171 rfl
theorem d212_1172 : decode (mC 212) 1172 = .ok (.iload_n 3, 1) := by decide +kernel
theorem x212_1172 {sc : aSc} {d : Nat} {r : aRes} {a0 : Value} {a1 : Value} {a2 : Value} {x3 : Int32} {st : List Value} {σ : aS} : Rn sc d 212 1172 [a0, a1, a2, .int x3] st σ r ↔ Rn sc d 212 1173 [a0, a1, a2, .int x3] (.int x3 :: st) σ r := r_iload_n d212_1172 rfl
theorem d212_1173 : decode (mC 212) 1173 = .ok (.iconst 2, 1) := by decide +kernel
theorem x212_1173 {sc : aSc} {d : Nat} {r : aRes} {L : List Value} {st : List Value} {σ : aS} : Rn sc d 212 1173 L st σ r ↔ Rn sc d 212 1174 L (.int 2 :: st) σ r := r_iconst d212_1173 (by decide)
theorem d212_1174 : decode (mC 212) 1174 = .ok (.iadd, 1) := by decide +kernel
theorem x212_1174 {sc : aSc} {d : Nat} {r : aRes} {L : List Value} {st : List Value} {σ : aS} {x y : Int32} : Rn sc d 212 1174 L (.int y :: .int x :: st) σ r ↔ Rn sc d 212 1175 L (.int (x + y) :: st) σ r := r_iadd d212_1174
theorem d212_1175 : decode (mC 212) 1175 = .ok (.iaload, 1) := by decide +kernel
theorem d212_1176 : decode (mC 212) 1176 = .ok (.aload_n 0, 1) := by decide +kernel
theorem x212_1176 {sc : aSc} {d : Nat} {r : aRes} {x0 : Nat} {a1 : Value} {a2 : Value} {a3 : Value} {st : List Value} {σ : aS} : Rn sc d 212 1176 [.ref x0, a1, a2, a3] st σ r ↔ Rn sc d 212 1177 [.ref x0, a1, a2, a3] (.ref x0 :: st) σ r := r_aload_n d212_1176 rfl
theorem d212_1177 : decode (mC 212) 1177 = .ok (.iload_n 3, 1) := by decide +kernel
theorem x212_1177 {sc : aSc} {d : Nat} {r : aRes} {a0 : Value} {a1 : Value} {a2 : Value} {x3 : Int32} {st : List Value} {σ : aS} : Rn sc d 212 1177 [a0, a1, a2, .int x3] st σ r ↔ Rn sc d 212 1178 [a0, a1, a2, .int x3] (.int x3 :: st) σ r := r_iload_n d212_1177 rfl
theorem d212_1178 : decode (mC 212) 1178 = .ok (.iconst 3, 1) := by decide +kernel
theorem x212_1178 {sc : aSc} {d : Nat} {r : aRes} {L : List Value} {st : List Value} {σ : aS} : Rn sc d 212 1178 L st σ r ↔ Rn sc d 212 1179 L (.int 3 :: st) σ r := r_iconst d212_1178 (by decide)
theorem d212_1179 : decode (mC 212) 1179 = .ok (.iadd, 1) := by decide +kernel
theorem x212_1179 {sc : aSc} {d : Nat} {r : aRes} {L : List Value} {st : List Value} {σ : aS} {x y : Int32} : Rn sc d 212 1179 L (.int y :: .int x :: st) σ r ↔ Rn sc d 212 1180 L (.int (x + y) :: st) σ r := r_iadd d212_1179
theorem d212_1180 : decode (mC 212) 1180 = .ok (.iaload, 1) := by decide +kernel
theorem d212_1181 : decode (mC 212) 1181 = .ok (.i2l, 1) := by decide +kernel
theorem x212_1181 {sc : aSc} {d : Nat} {r : aRes} {L : List Value} {st : List Value} {σ : aS} {x : Int32} : Rn sc d 212 1181 L (.int x :: st) σ r ↔ Rn sc d 212 1182 L (.long x.toInt64 :: st) σ r := r_i2l d212_1181
theorem d212_1182 : decode (mC 212) 1182 = .ok (.bipush 32, 2) := by decide +kernel
theorem x212_1182 {sc : aSc} {d : Nat} {r : aRes} {L : List Value} {st : List Value} {σ : aS} : Rn sc d 212 1182 L st σ r ↔ Rn sc d 212 1184 L (.int 32 :: st) σ r := r_bipush d212_1182 (by decide)
theorem d212_1184 : decode (mC 212) 1184 = .ok (.lshl, 1) := by decide +kernel
theorem x212_1184 {sc : aSc} {d : Nat} {r : aRes} {L : List Value} {st : List Value} {σ : aS} {x : Int64} {y : Int32} : Rn sc d 212 1184 L (.int y :: .long x :: st) σ r ↔ Rn sc d 212 1185 L (.long (x <<< (y.toInt64 &&& 63)) :: st) σ r := r_lshl d212_1184
theorem d212_1185 : decode (mC 212) 1185 = .ok (.aload_n 0, 1) := by decide +kernel
theorem x212_1185 {sc : aSc} {d : Nat} {r : aRes} {x0 : Nat} {a1 : Value} {a2 : Value} {a3 : Value} {st : List Value} {σ : aS} : Rn sc d 212 1185 [.ref x0, a1, a2, a3] st σ r ↔ Rn sc d 212 1186 [.ref x0, a1, a2, a3] (.ref x0 :: st) σ r := r_aload_n d212_1185 rfl
theorem d212_1186 : decode (mC 212) 1186 = .ok (.iload_n 3, 1) := by decide +kernel
theorem x212_1186 {sc : aSc} {d : Nat} {r : aRes} {a0 : Value} {a1 : Value} {a2 : Value} {x3 : Int32} {st : List Value} {σ : aS} : Rn sc d 212 1186 [a0, a1, a2, .int x3] st σ r ↔ Rn sc d 212 1187 [a0, a1, a2, .int x3] (.int x3 :: st) σ r := r_iload_n d212_1186 rfl
theorem d212_1187 : decode (mC 212) 1187 = .ok (.iconst 4, 1) := by decide +kernel
theorem x212_1187 {sc : aSc} {d : Nat} {r : aRes} {L : List Value} {st : List Value} {σ : aS} : Rn sc d 212 1187 L st σ r ↔ Rn sc d 212 1188 L (.int 4 :: st) σ r := r_iconst d212_1187 (by decide)
theorem d212_1188 : decode (mC 212) 1188 = .ok (.iadd, 1) := by decide +kernel
theorem x212_1188 {sc : aSc} {d : Nat} {r : aRes} {L : List Value} {st : List Value} {σ : aS} {x y : Int32} : Rn sc d 212 1188 L (.int y :: .int x :: st) σ r ↔ Rn sc d 212 1189 L (.int (x + y) :: st) σ r := r_iadd d212_1188
theorem d212_1189 : decode (mC 212) 1189 = .ok (.iaload, 1) := by decide +kernel
theorem d212_1190 : decode (mC 212) 1190 = .ok (.i2l, 1) := by decide +kernel
theorem x212_1190 {sc : aSc} {d : Nat} {r : aRes} {L : List Value} {st : List Value} {σ : aS} {x : Int32} : Rn sc d 212 1190 L (.int x :: st) σ r ↔ Rn sc d 212 1191 L (.long x.toInt64 :: st) σ r := r_i2l d212_1190
theorem d212_1191 : decode (mC 212) 1191 = .ok (.ldc2_w 152, 3) := by decide +kernel
theorem x212_1191 {sc : aSc} {d : Nat} {r : aRes} {L : List Value} {st : List Value} {σ : aS} : Rn sc d 212 1191 L st σ r ↔ Rn sc d 212 1194 L (.long (4294967295) :: st) σ r := r_ldc2_w d212_1191 (by decide +kernel)
theorem d212_1194 : decode (mC 212) 1194 = .ok (.land, 1) := by decide +kernel
theorem x212_1194 {sc : aSc} {d : Nat} {r : aRes} {L : List Value} {st : List Value} {σ : aS} {x y : Int64} : Rn sc d 212 1194 L (.long y :: .long x :: st) σ r ↔ Rn sc d 212 1195 L (.long (x &&& y) :: st) σ r := r_land d212_1194
theorem d212_1195 : decode (mC 212) 1195 = .ok (.lor, 1) := by decide +kernel
theorem x212_1195 {sc : aSc} {d : Nat} {r : aRes} {L : List Value} {st : List Value} {σ : aS} {x y : Int64} : Rn sc d 212 1195 L (.long y :: .long x :: st) σ r ↔ Rn sc d 212 1196 L (.long (x ||| y) :: st) σ r := r_lor d212_1195
theorem d212_1196 : decode (mC 212) 1196 = .ok (.invokevirtual 154, 3) := by decide +kernel
theorem x212_1196 {sc : aSc} {d : Nat} {r : aRes} {L : List Value} {f : Nat → Nat → Int32} {g : Nat → Nat → Int64} {h1 h2 : Nat} {y0 : Int64} {y1 : Int32} {y2 : Int32}  {o : Nat} (hK : KK[o]? = some (.inl 6)) : Rn sc d 212 1196 L [.long y0, .int y1, .int y2, .ref o] (cS f g h1 h2) r ↔ ∃ (σ3 : aS) (v : Option Value), Cl sc d 99 [.ref o, .int y2, .int y1, .long y0] (cS f g h1 h2) (σ3, v) ∧ Rn sc d 212 1199 L (v.toList ++ []) σ3 r := r_callV (vs := [.long y0, .int y1, .int y2]) d212_1196 (j := 99) (by decide +kernel) ⟨rfl, by decide, rfl, rfl⟩ (Nat.le_of_ble_eq_true rfl) hK
theorem d212_1199 : decode (mC 212) 1199 = .ok (.aload_n 2, 1) := by decide +kernel
theorem x212_1199 {sc : aSc} {d : Nat} {r : aRes} {a0 : Value} {a1 : Value} {x2 : Nat} {a3 : Value} {st : List Value} {σ : aS} : Rn sc d 212 1199 [a0, a1, .ref x2, a3] st σ r ↔ Rn sc d 212 1200 [a0, a1, .ref x2, a3] (.ref x2 :: st) σ r := r_aload_n d212_1199 rfl
theorem d212_1200 : decode (mC 212) 1200 = .ok (.aload_n 0, 1) := by decide +kernel
theorem x212_1200 {sc : aSc} {d : Nat} {r : aRes} {x0 : Nat} {a1 : Value} {a2 : Value} {a3 : Value} {st : List Value} {σ : aS} : Rn sc d 212 1200 [.ref x0, a1, a2, a3] st σ r ↔ Rn sc d 212 1201 [.ref x0, a1, a2, a3] (.ref x0 :: st) σ r := r_aload_n d212_1200 rfl
theorem d212_1201 : decode (mC 212) 1201 = .ok (.iload_n 3, 1) := by decide +kernel
theorem x212_1201 {sc : aSc} {d : Nat} {r : aRes} {a0 : Value} {a1 : Value} {a2 : Value} {x3 : Int32} {st : List Value} {σ : aS} : Rn sc d 212 1201 [a0, a1, a2, .int x3] st σ r ↔ Rn sc d 212 1202 [a0, a1, a2, .int x3] (.int x3 :: st) σ r := r_iload_n d212_1201 rfl
theorem d212_1202 : decode (mC 212) 1202 = .ok (.iconst 1, 1) := by decide +kernel
theorem x212_1202 {sc : aSc} {d : Nat} {r : aRes} {L : List Value} {st : List Value} {σ : aS} : Rn sc d 212 1202 L st σ r ↔ Rn sc d 212 1203 L (.int 1 :: st) σ r := r_iconst d212_1202 (by decide)
theorem d212_1203 : decode (mC 212) 1203 = .ok (.iadd, 1) := by decide +kernel
theorem x212_1203 {sc : aSc} {d : Nat} {r : aRes} {L : List Value} {st : List Value} {σ : aS} {x y : Int32} : Rn sc d 212 1203 L (.int y :: .int x :: st) σ r ↔ Rn sc d 212 1204 L (.int (x + y) :: st) σ r := r_iadd d212_1203
theorem d212_1204 : decode (mC 212) 1204 = .ok (.iaload, 1) := by decide +kernel
theorem d212_1205 : decode (mC 212) 1205 = .ok (.aload_n 0, 1) := by decide +kernel
theorem x212_1205 {sc : aSc} {d : Nat} {r : aRes} {x0 : Nat} {a1 : Value} {a2 : Value} {a3 : Value} {st : List Value} {σ : aS} : Rn sc d 212 1205 [.ref x0, a1, a2, a3] st σ r ↔ Rn sc d 212 1206 [.ref x0, a1, a2, a3] (.ref x0 :: st) σ r := r_aload_n d212_1205 rfl
theorem d212_1206 : decode (mC 212) 1206 = .ok (.iload_n 3, 1) := by decide +kernel
theorem x212_1206 {sc : aSc} {d : Nat} {r : aRes} {a0 : Value} {a1 : Value} {a2 : Value} {x3 : Int32} {st : List Value} {σ : aS} : Rn sc d 212 1206 [a0, a1, a2, .int x3] st σ r ↔ Rn sc d 212 1207 [a0, a1, a2, .int x3] (.int x3 :: st) σ r := r_iload_n d212_1206 rfl
theorem d212_1207 : decode (mC 212) 1207 = .ok (.iconst 2, 1) := by decide +kernel
theorem x212_1207 {sc : aSc} {d : Nat} {r : aRes} {L : List Value} {st : List Value} {σ : aS} : Rn sc d 212 1207 L st σ r ↔ Rn sc d 212 1208 L (.int 2 :: st) σ r := r_iconst d212_1207 (by decide)
theorem d212_1208 : decode (mC 212) 1208 = .ok (.iadd, 1) := by decide +kernel
theorem x212_1208 {sc : aSc} {d : Nat} {r : aRes} {L : List Value} {st : List Value} {σ : aS} {x y : Int32} : Rn sc d 212 1208 L (.int y :: .int x :: st) σ r ↔ Rn sc d 212 1209 L (.int (x + y) :: st) σ r := r_iadd d212_1208
theorem d212_1209 : decode (mC 212) 1209 = .ok (.iaload, 1) := by decide +kernel
theorem d212_1210 : decode (mC 212) 1210 = .ok (.aload_n 0, 1) := by decide +kernel
theorem x212_1210 {sc : aSc} {d : Nat} {r : aRes} {x0 : Nat} {a1 : Value} {a2 : Value} {a3 : Value} {st : List Value} {σ : aS} : Rn sc d 212 1210 [.ref x0, a1, a2, a3] st σ r ↔ Rn sc d 212 1211 [.ref x0, a1, a2, a3] (.ref x0 :: st) σ r := r_aload_n d212_1210 rfl
theorem d212_1211 : decode (mC 212) 1211 = .ok (.iload_n 3, 1) := by decide +kernel
theorem x212_1211 {sc : aSc} {d : Nat} {r : aRes} {a0 : Value} {a1 : Value} {a2 : Value} {x3 : Int32} {st : List Value} {σ : aS} : Rn sc d 212 1211 [a0, a1, a2, .int x3] st σ r ↔ Rn sc d 212 1212 [a0, a1, a2, .int x3] (.int x3 :: st) σ r := r_iload_n d212_1211 rfl
theorem d212_1212 : decode (mC 212) 1212 = .ok (.iconst 3, 1) := by decide +kernel
theorem x212_1212 {sc : aSc} {d : Nat} {r : aRes} {L : List Value} {st : List Value} {σ : aS} : Rn sc d 212 1212 L st σ r ↔ Rn sc d 212 1213 L (.int 3 :: st) σ r := r_iconst d212_1212 (by decide)
theorem d212_1213 : decode (mC 212) 1213 = .ok (.iadd, 1) := by decide +kernel
theorem x212_1213 {sc : aSc} {d : Nat} {r : aRes} {L : List Value} {st : List Value} {σ : aS} {x y : Int32} : Rn sc d 212 1213 L (.int y :: .int x :: st) σ r ↔ Rn sc d 212 1214 L (.int (x + y) :: st) σ r := r_iadd d212_1213
theorem d212_1214 : decode (mC 212) 1214 = .ok (.iaload, 1) := by decide +kernel
theorem d212_1215 : decode (mC 212) 1215 = .ok (.i2l, 1) := by decide +kernel
theorem x212_1215 {sc : aSc} {d : Nat} {r : aRes} {L : List Value} {st : List Value} {σ : aS} {x : Int32} : Rn sc d 212 1215 L (.int x :: st) σ r ↔ Rn sc d 212 1216 L (.long x.toInt64 :: st) σ r := r_i2l d212_1215
theorem d212_1216 : decode (mC 212) 1216 = .ok (.bipush 32, 2) := by decide +kernel
theorem x212_1216 {sc : aSc} {d : Nat} {r : aRes} {L : List Value} {st : List Value} {σ : aS} : Rn sc d 212 1216 L st σ r ↔ Rn sc d 212 1218 L (.int 32 :: st) σ r := r_bipush d212_1216 (by decide)
theorem d212_1218 : decode (mC 212) 1218 = .ok (.lshl, 1) := by decide +kernel
theorem x212_1218 {sc : aSc} {d : Nat} {r : aRes} {L : List Value} {st : List Value} {σ : aS} {x : Int64} {y : Int32} : Rn sc d 212 1218 L (.int y :: .long x :: st) σ r ↔ Rn sc d 212 1219 L (.long (x <<< (y.toInt64 &&& 63)) :: st) σ r := r_lshl d212_1218
theorem d212_1219 : decode (mC 212) 1219 = .ok (.aload_n 0, 1) := by decide +kernel
theorem x212_1219 {sc : aSc} {d : Nat} {r : aRes} {x0 : Nat} {a1 : Value} {a2 : Value} {a3 : Value} {st : List Value} {σ : aS} : Rn sc d 212 1219 [.ref x0, a1, a2, a3] st σ r ↔ Rn sc d 212 1220 [.ref x0, a1, a2, a3] (.ref x0 :: st) σ r := r_aload_n d212_1219 rfl
theorem d212_1220 : decode (mC 212) 1220 = .ok (.iload_n 3, 1) := by decide +kernel
theorem x212_1220 {sc : aSc} {d : Nat} {r : aRes} {a0 : Value} {a1 : Value} {a2 : Value} {x3 : Int32} {st : List Value} {σ : aS} : Rn sc d 212 1220 [a0, a1, a2, .int x3] st σ r ↔ Rn sc d 212 1221 [a0, a1, a2, .int x3] (.int x3 :: st) σ r := r_iload_n d212_1220 rfl
theorem d212_1221 : decode (mC 212) 1221 = .ok (.iconst 4, 1) := by decide +kernel
theorem x212_1221 {sc : aSc} {d : Nat} {r : aRes} {L : List Value} {st : List Value} {σ : aS} : Rn sc d 212 1221 L st σ r ↔ Rn sc d 212 1222 L (.int 4 :: st) σ r := r_iconst d212_1221 (by decide)
theorem d212_1222 : decode (mC 212) 1222 = .ok (.iadd, 1) := by decide +kernel
theorem x212_1222 {sc : aSc} {d : Nat} {r : aRes} {L : List Value} {st : List Value} {σ : aS} {x y : Int32} : Rn sc d 212 1222 L (.int y :: .int x :: st) σ r ↔ Rn sc d 212 1223 L (.int (x + y) :: st) σ r := r_iadd d212_1222
theorem d212_1223 : decode (mC 212) 1223 = .ok (.iaload, 1) := by decide +kernel
theorem d212_1224 : decode (mC 212) 1224 = .ok (.i2l, 1) := by decide +kernel
theorem x212_1224 {sc : aSc} {d : Nat} {r : aRes} {L : List Value} {st : List Value} {σ : aS} {x : Int32} : Rn sc d 212 1224 L (.int x :: st) σ r ↔ Rn sc d 212 1225 L (.long x.toInt64 :: st) σ r := r_i2l d212_1224
theorem d212_1225 : decode (mC 212) 1225 = .ok (.ldc2_w 152, 3) := by decide +kernel
theorem x212_1225 {sc : aSc} {d : Nat} {r : aRes} {L : List Value} {st : List Value} {σ : aS} : Rn sc d 212 1225 L st σ r ↔ Rn sc d 212 1228 L (.long (4294967295) :: st) σ r := r_ldc2_w d212_1225 (by decide +kernel)
theorem d212_1228 : decode (mC 212) 1228 = .ok (.land, 1) := by decide +kernel
theorem x212_1228 {sc : aSc} {d : Nat} {r : aRes} {L : List Value} {st : List Value} {σ : aS} {x y : Int64} : Rn sc d 212 1228 L (.long y :: .long x :: st) σ r ↔ Rn sc d 212 1229 L (.long (x &&& y) :: st) σ r := r_land d212_1228
theorem d212_1229 : decode (mC 212) 1229 = .ok (.lor, 1) := by decide +kernel
theorem x212_1229 {sc : aSc} {d : Nat} {r : aRes} {L : List Value} {st : List Value} {σ : aS} {x y : Int64} : Rn sc d 212 1229 L (.long y :: .long x :: st) σ r ↔ Rn sc d 212 1230 L (.long (x ||| y) :: st) σ r := r_lor d212_1229
theorem d212_1230 : decode (mC 212) 1230 = .ok (.invokevirtual 158, 3) := by decide +kernel
theorem x212_1230 {sc : aSc} {d : Nat} {r : aRes} {L : List Value} {f : Nat → Nat → Int32} {g : Nat → Nat → Int64} {h1 h2 : Nat} {y0 : Int64} {y1 : Int32} {y2 : Int32} {z0 : Int32} {o : Nat} (hK : KK[o]? = some (.inl 7)) : Rn sc d 212 1230 L [.long y0, .int y1, .int y2, .ref o, .int z0] (cS f g h1 h2) r ↔ ∃ (σ3 : aS) (v : Option Value), Cl sc d 192 [.ref o, .int y2, .int y1, .long y0] (cS f g h1 h2) (σ3, v) ∧ Rn sc d 212 1233 L (v.toList ++ [.int z0]) σ3 r := r_callV (vs := [.long y0, .int y1, .int y2]) d212_1230 (j := 192) (by decide +kernel) ⟨rfl, by decide, rfl, rfl⟩ (Nat.le_of_ble_eq_true rfl) hK
theorem d212_1233 : decode (mC 212) 1233 = .ok (.if_icmp .eq 102, 3) := by decide +kernel
theorem x212_1233 {sc : aSc} {d : Nat} {r : aRes} {L : List Value} {st : List Value} {σ : aS} {x y : Int32} : Rn sc d 212 1233 L (.int y :: .int x :: st) σ r ↔ if x = y then Rn sc d 212 1335 L st σ r else Rn sc d 212 1236 L st σ r := r_icmp_eq d212_1233 rfl
theorem d212_1236 : decode (mC 212) 1236 = .ok (.iconst 0, 1) := by decide +kernel
theorem x212_1236 {sc : aSc} {d : Nat} {r : aRes} {L : List Value} {st : List Value} {σ : aS} : Rn sc d 212 1236 L st σ r ↔ Rn sc d 212 1237 L (.int 0 :: st) σ r := r_iconst d212_1236 (by decide)
theorem d212_1237 : decode (mC 212) 1237 = .ok (.ireturn, 1) := by decide +kernel
theorem d212_1238 : decode (mC 212) 1238 = .ok (.aload_n 1, 1) := by decide +kernel
theorem x212_1238 {sc : aSc} {d : Nat} {r : aRes} {a0 : Value} {x1 : Nat} {a2 : Value} {a3 : Value} {st : List Value} {σ : aS} : Rn sc d 212 1238 [a0, .ref x1, a2, a3] st σ r ↔ Rn sc d 212 1239 [a0, .ref x1, a2, a3] (.ref x1 :: st) σ r := r_aload_n d212_1238 rfl
theorem d212_1239 : decode (mC 212) 1239 = .ok (.aload_n 0, 1) := by decide +kernel
theorem x212_1239 {sc : aSc} {d : Nat} {r : aRes} {x0 : Nat} {a1 : Value} {a2 : Value} {a3 : Value} {st : List Value} {σ : aS} : Rn sc d 212 1239 [.ref x0, a1, a2, a3] st σ r ↔ Rn sc d 212 1240 [.ref x0, a1, a2, a3] (.ref x0 :: st) σ r := r_aload_n d212_1239 rfl
theorem d212_1240 : decode (mC 212) 1240 = .ok (.iload_n 3, 1) := by decide +kernel
theorem x212_1240 {sc : aSc} {d : Nat} {r : aRes} {a0 : Value} {a1 : Value} {a2 : Value} {x3 : Int32} {st : List Value} {σ : aS} : Rn sc d 212 1240 [a0, a1, a2, .int x3] st σ r ↔ Rn sc d 212 1241 [a0, a1, a2, .int x3] (.int x3 :: st) σ r := r_iload_n d212_1240 rfl
theorem d212_1241 : decode (mC 212) 1241 = .ok (.iconst 1, 1) := by decide +kernel
theorem x212_1241 {sc : aSc} {d : Nat} {r : aRes} {L : List Value} {st : List Value} {σ : aS} : Rn sc d 212 1241 L st σ r ↔ Rn sc d 212 1242 L (.int 1 :: st) σ r := r_iconst d212_1241 (by decide)
theorem d212_1242 : decode (mC 212) 1242 = .ok (.iadd, 1) := by decide +kernel
theorem x212_1242 {sc : aSc} {d : Nat} {r : aRes} {L : List Value} {st : List Value} {σ : aS} {x y : Int32} : Rn sc d 212 1242 L (.int y :: .int x :: st) σ r ↔ Rn sc d 212 1243 L (.int (x + y) :: st) σ r := r_iadd d212_1242
theorem d212_1243 : decode (mC 212) 1243 = .ok (.iaload, 1) := by decide +kernel
theorem d212_1244 : decode (mC 212) 1244 = .ok (.aload_n 0, 1) := by decide +kernel
theorem x212_1244 {sc : aSc} {d : Nat} {r : aRes} {x0 : Nat} {a1 : Value} {a2 : Value} {a3 : Value} {st : List Value} {σ : aS} : Rn sc d 212 1244 [.ref x0, a1, a2, a3] st σ r ↔ Rn sc d 212 1245 [.ref x0, a1, a2, a3] (.ref x0 :: st) σ r := r_aload_n d212_1244 rfl
theorem d212_1245 : decode (mC 212) 1245 = .ok (.iload_n 3, 1) := by decide +kernel
theorem x212_1245 {sc : aSc} {d : Nat} {r : aRes} {a0 : Value} {a1 : Value} {a2 : Value} {x3 : Int32} {st : List Value} {σ : aS} : Rn sc d 212 1245 [a0, a1, a2, .int x3] st σ r ↔ Rn sc d 212 1246 [a0, a1, a2, .int x3] (.int x3 :: st) σ r := r_iload_n d212_1245 rfl
theorem d212_1246 : decode (mC 212) 1246 = .ok (.iconst 2, 1) := by decide +kernel
theorem x212_1246 {sc : aSc} {d : Nat} {r : aRes} {L : List Value} {st : List Value} {σ : aS} : Rn sc d 212 1246 L st σ r ↔ Rn sc d 212 1247 L (.int 2 :: st) σ r := r_iconst d212_1246 (by decide)
theorem d212_1247 : decode (mC 212) 1247 = .ok (.iadd, 1) := by decide +kernel
theorem x212_1247 {sc : aSc} {d : Nat} {r : aRes} {L : List Value} {st : List Value} {σ : aS} {x y : Int32} : Rn sc d 212 1247 L (.int y :: .int x :: st) σ r ↔ Rn sc d 212 1248 L (.int (x + y) :: st) σ r := r_iadd d212_1247
theorem d212_1248 : decode (mC 212) 1248 = .ok (.iaload, 1) := by decide +kernel
theorem d212_1249 : decode (mC 212) 1249 = .ok (.invokevirtual 159, 3) := by decide +kernel
theorem x212_1249 {sc : aSc} {d : Nat} {r : aRes} {L : List Value} {f : Nat → Nat → Int32} {g : Nat → Nat → Int64} {h1 h2 : Nat} {y0 : Int32} {y1 : Int32}  {o : Nat} (hK : KK[o]? = some (.inl 6)) : Rn sc d 212 1249 L [.int y0, .int y1, .ref o] (cS f g h1 h2) r ↔ ∃ (σ3 : aS) (v : Option Value), Cl sc d 100 [.ref o, .int y1, .int y0] (cS f g h1 h2) (σ3, v) ∧ Rn sc d 212 1252 L (v.toList ++ []) σ3 r := r_callV (vs := [.int y0, .int y1]) d212_1249 (j := 100) (by decide +kernel) ⟨rfl, by decide, rfl, rfl⟩ (Nat.le_of_ble_eq_true rfl) hK
theorem d212_1252 : decode (mC 212) 1252 = .ok (.aload_n 2, 1) := by decide +kernel
theorem x212_1252 {sc : aSc} {d : Nat} {r : aRes} {a0 : Value} {a1 : Value} {x2 : Nat} {a3 : Value} {st : List Value} {σ : aS} : Rn sc d 212 1252 [a0, a1, .ref x2, a3] st σ r ↔ Rn sc d 212 1253 [a0, a1, .ref x2, a3] (.ref x2 :: st) σ r := r_aload_n d212_1252 rfl
theorem d212_1253 : decode (mC 212) 1253 = .ok (.aload_n 0, 1) := by decide +kernel
theorem x212_1253 {sc : aSc} {d : Nat} {r : aRes} {x0 : Nat} {a1 : Value} {a2 : Value} {a3 : Value} {st : List Value} {σ : aS} : Rn sc d 212 1253 [.ref x0, a1, a2, a3] st σ r ↔ Rn sc d 212 1254 [.ref x0, a1, a2, a3] (.ref x0 :: st) σ r := r_aload_n d212_1253 rfl
theorem d212_1254 : decode (mC 212) 1254 = .ok (.iload_n 3, 1) := by decide +kernel
theorem x212_1254 {sc : aSc} {d : Nat} {r : aRes} {a0 : Value} {a1 : Value} {a2 : Value} {x3 : Int32} {st : List Value} {σ : aS} : Rn sc d 212 1254 [a0, a1, a2, .int x3] st σ r ↔ Rn sc d 212 1255 [a0, a1, a2, .int x3] (.int x3 :: st) σ r := r_iload_n d212_1254 rfl
theorem d212_1255 : decode (mC 212) 1255 = .ok (.iconst 1, 1) := by decide +kernel
theorem x212_1255 {sc : aSc} {d : Nat} {r : aRes} {L : List Value} {st : List Value} {σ : aS} : Rn sc d 212 1255 L st σ r ↔ Rn sc d 212 1256 L (.int 1 :: st) σ r := r_iconst d212_1255 (by decide)
theorem d212_1256 : decode (mC 212) 1256 = .ok (.iadd, 1) := by decide +kernel
theorem x212_1256 {sc : aSc} {d : Nat} {r : aRes} {L : List Value} {st : List Value} {σ : aS} {x y : Int32} : Rn sc d 212 1256 L (.int y :: .int x :: st) σ r ↔ Rn sc d 212 1257 L (.int (x + y) :: st) σ r := r_iadd d212_1256
theorem d212_1257 : decode (mC 212) 1257 = .ok (.iaload, 1) := by decide +kernel
theorem d212_1258 : decode (mC 212) 1258 = .ok (.aload_n 0, 1) := by decide +kernel
theorem x212_1258 {sc : aSc} {d : Nat} {r : aRes} {x0 : Nat} {a1 : Value} {a2 : Value} {a3 : Value} {st : List Value} {σ : aS} : Rn sc d 212 1258 [.ref x0, a1, a2, a3] st σ r ↔ Rn sc d 212 1259 [.ref x0, a1, a2, a3] (.ref x0 :: st) σ r := r_aload_n d212_1258 rfl
theorem d212_1259 : decode (mC 212) 1259 = .ok (.iload_n 3, 1) := by decide +kernel
theorem x212_1259 {sc : aSc} {d : Nat} {r : aRes} {a0 : Value} {a1 : Value} {a2 : Value} {x3 : Int32} {st : List Value} {σ : aS} : Rn sc d 212 1259 [a0, a1, a2, .int x3] st σ r ↔ Rn sc d 212 1260 [a0, a1, a2, .int x3] (.int x3 :: st) σ r := r_iload_n d212_1259 rfl
theorem d212_1260 : decode (mC 212) 1260 = .ok (.iconst 2, 1) := by decide +kernel
theorem x212_1260 {sc : aSc} {d : Nat} {r : aRes} {L : List Value} {st : List Value} {σ : aS} : Rn sc d 212 1260 L st σ r ↔ Rn sc d 212 1261 L (.int 2 :: st) σ r := r_iconst d212_1260 (by decide)
theorem d212_1261 : decode (mC 212) 1261 = .ok (.iadd, 1) := by decide +kernel
theorem x212_1261 {sc : aSc} {d : Nat} {r : aRes} {L : List Value} {st : List Value} {σ : aS} {x y : Int32} : Rn sc d 212 1261 L (.int y :: .int x :: st) σ r ↔ Rn sc d 212 1262 L (.int (x + y) :: st) σ r := r_iadd d212_1261
theorem d212_1262 : decode (mC 212) 1262 = .ok (.iaload, 1) := by decide +kernel
theorem d212_1263 : decode (mC 212) 1263 = .ok (.invokevirtual 163, 3) := by decide +kernel
theorem x212_1263 {sc : aSc} {d : Nat} {r : aRes} {L : List Value} {f : Nat → Nat → Int32} {g : Nat → Nat → Int64} {h1 h2 : Nat} {y0 : Int32} {y1 : Int32} {z0 : Int64} {o : Nat} (hK : KK[o]? = some (.inl 7)) : Rn sc d 212 1263 L [.int y0, .int y1, .ref o, .long z0] (cS f g h1 h2) r ↔ ∃ (σ3 : aS) (v : Option Value), Cl sc d 193 [.ref o, .int y1, .int y0] (cS f g h1 h2) (σ3, v) ∧ Rn sc d 212 1266 L (v.toList ++ [.long z0]) σ3 r := r_callV (vs := [.int y0, .int y1]) d212_1263 (j := 193) (by decide +kernel) ⟨rfl, by decide, rfl, rfl⟩ (Nat.le_of_ble_eq_true rfl) hK
theorem d212_1266 : decode (mC 212) 1266 = .ok (.lcmp, 1) := by decide +kernel
theorem x212_1266 {sc : aSc} {d : Nat} {r : aRes} {L : List Value} {st : List Value} {σ : aS} {x y : Int64} : Rn sc d 212 1266 L (.long y :: .long x :: st) σ r ↔ Rn sc d 212 1267 L (.int (lg_cmp x y) :: st) σ r := r_lcmp d212_1266
theorem d212_1267 : decode (mC 212) 1267 = .ok (.ifCond .eq 68, 3) := by decide +kernel
theorem x212_1267 {sc : aSc} {d : Nat} {r : aRes} {L : List Value} {st : List Value} {σ : aS} {x : Int32} : Rn sc d 212 1267 L (.int x :: st) σ r ↔ if x = 0 then Rn sc d 212 1335 L st σ r else Rn sc d 212 1270 L st σ r := r_if_eq d212_1267 rfl
theorem d212_1270 : decode (mC 212) 1270 = .ok (.iconst 0, 1) := by decide +kernel
theorem x212_1270 {sc : aSc} {d : Nat} {r : aRes} {L : List Value} {st : List Value} {σ : aS} : Rn sc d 212 1270 L st σ r ↔ Rn sc d 212 1271 L (.int 0 :: st) σ r := r_iconst d212_1270 (by decide)
theorem d212_1271 : decode (mC 212) 1271 = .ok (.ireturn, 1) := by decide +kernel
theorem d212_1272 : decode (mC 212) 1272 = .ok (.aload_n 1, 1) := by decide +kernel
theorem x212_1272 {sc : aSc} {d : Nat} {r : aRes} {a0 : Value} {x1 : Nat} {a2 : Value} {a3 : Value} {st : List Value} {σ : aS} : Rn sc d 212 1272 [a0, .ref x1, a2, a3] st σ r ↔ Rn sc d 212 1273 [a0, .ref x1, a2, a3] (.ref x1 :: st) σ r := r_aload_n d212_1272 rfl
theorem d212_1273 : decode (mC 212) 1273 = .ok (.aload_n 0, 1) := by decide +kernel
theorem x212_1273 {sc : aSc} {d : Nat} {r : aRes} {x0 : Nat} {a1 : Value} {a2 : Value} {a3 : Value} {st : List Value} {σ : aS} : Rn sc d 212 1273 [.ref x0, a1, a2, a3] st σ r ↔ Rn sc d 212 1274 [.ref x0, a1, a2, a3] (.ref x0 :: st) σ r := r_aload_n d212_1273 rfl
theorem d212_1274 : decode (mC 212) 1274 = .ok (.iload_n 3, 1) := by decide +kernel
theorem x212_1274 {sc : aSc} {d : Nat} {r : aRes} {a0 : Value} {a1 : Value} {a2 : Value} {x3 : Int32} {st : List Value} {σ : aS} : Rn sc d 212 1274 [a0, a1, a2, .int x3] st σ r ↔ Rn sc d 212 1275 [a0, a1, a2, .int x3] (.int x3 :: st) σ r := r_iload_n d212_1274 rfl
theorem d212_1275 : decode (mC 212) 1275 = .ok (.iconst 1, 1) := by decide +kernel
theorem x212_1275 {sc : aSc} {d : Nat} {r : aRes} {L : List Value} {st : List Value} {σ : aS} : Rn sc d 212 1275 L st σ r ↔ Rn sc d 212 1276 L (.int 1 :: st) σ r := r_iconst d212_1275 (by decide)
theorem d212_1276 : decode (mC 212) 1276 = .ok (.iadd, 1) := by decide +kernel
theorem x212_1276 {sc : aSc} {d : Nat} {r : aRes} {L : List Value} {st : List Value} {σ : aS} {x y : Int32} : Rn sc d 212 1276 L (.int y :: .int x :: st) σ r ↔ Rn sc d 212 1277 L (.int (x + y) :: st) σ r := r_iadd d212_1276
theorem d212_1277 : decode (mC 212) 1277 = .ok (.iaload, 1) := by decide +kernel
theorem d212_1278 : decode (mC 212) 1278 = .ok (.aload_n 0, 1) := by decide +kernel
theorem x212_1278 {sc : aSc} {d : Nat} {r : aRes} {x0 : Nat} {a1 : Value} {a2 : Value} {a3 : Value} {st : List Value} {σ : aS} : Rn sc d 212 1278 [.ref x0, a1, a2, a3] st σ r ↔ Rn sc d 212 1279 [.ref x0, a1, a2, a3] (.ref x0 :: st) σ r := r_aload_n d212_1278 rfl
theorem d212_1279 : decode (mC 212) 1279 = .ok (.iload_n 3, 1) := by decide +kernel
theorem x212_1279 {sc : aSc} {d : Nat} {r : aRes} {a0 : Value} {a1 : Value} {a2 : Value} {x3 : Int32} {st : List Value} {σ : aS} : Rn sc d 212 1279 [a0, a1, a2, .int x3] st σ r ↔ Rn sc d 212 1280 [a0, a1, a2, .int x3] (.int x3 :: st) σ r := r_iload_n d212_1279 rfl
theorem d212_1280 : decode (mC 212) 1280 = .ok (.iconst 2, 1) := by decide +kernel
theorem x212_1280 {sc : aSc} {d : Nat} {r : aRes} {L : List Value} {st : List Value} {σ : aS} : Rn sc d 212 1280 L st σ r ↔ Rn sc d 212 1281 L (.int 2 :: st) σ r := r_iconst d212_1280 (by decide)
theorem d212_1281 : decode (mC 212) 1281 = .ok (.iadd, 1) := by decide +kernel
theorem x212_1281 {sc : aSc} {d : Nat} {r : aRes} {L : List Value} {st : List Value} {σ : aS} {x y : Int32} : Rn sc d 212 1281 L (.int y :: .int x :: st) σ r ↔ Rn sc d 212 1282 L (.int (x + y) :: st) σ r := r_iadd d212_1281
theorem d212_1282 : decode (mC 212) 1282 = .ok (.iaload, 1) := by decide +kernel
theorem d212_1283 : decode (mC 212) 1283 = .ok (.aload_n 0, 1) := by decide +kernel
theorem x212_1283 {sc : aSc} {d : Nat} {r : aRes} {x0 : Nat} {a1 : Value} {a2 : Value} {a3 : Value} {st : List Value} {σ : aS} : Rn sc d 212 1283 [.ref x0, a1, a2, a3] st σ r ↔ Rn sc d 212 1284 [.ref x0, a1, a2, a3] (.ref x0 :: st) σ r := r_aload_n d212_1283 rfl
theorem d212_1284 : decode (mC 212) 1284 = .ok (.iload_n 3, 1) := by decide +kernel
theorem x212_1284 {sc : aSc} {d : Nat} {r : aRes} {a0 : Value} {a1 : Value} {a2 : Value} {x3 : Int32} {st : List Value} {σ : aS} : Rn sc d 212 1284 [a0, a1, a2, .int x3] st σ r ↔ Rn sc d 212 1285 [a0, a1, a2, .int x3] (.int x3 :: st) σ r := r_iload_n d212_1284 rfl
theorem d212_1285 : decode (mC 212) 1285 = .ok (.iconst 3, 1) := by decide +kernel
theorem x212_1285 {sc : aSc} {d : Nat} {r : aRes} {L : List Value} {st : List Value} {σ : aS} : Rn sc d 212 1285 L st σ r ↔ Rn sc d 212 1286 L (.int 3 :: st) σ r := r_iconst d212_1285 (by decide)
theorem d212_1286 : decode (mC 212) 1286 = .ok (.iadd, 1) := by decide +kernel
theorem x212_1286 {sc : aSc} {d : Nat} {r : aRes} {L : List Value} {st : List Value} {σ : aS} {x y : Int32} : Rn sc d 212 1286 L (.int y :: .int x :: st) σ r ↔ Rn sc d 212 1287 L (.int (x + y) :: st) σ r := r_iadd d212_1286
theorem d212_1287 : decode (mC 212) 1287 = .ok (.iaload, 1) := by decide +kernel
theorem d212_1288 : decode (mC 212) 1288 = .ok (.aload_n 0, 1) := by decide +kernel
theorem x212_1288 {sc : aSc} {d : Nat} {r : aRes} {x0 : Nat} {a1 : Value} {a2 : Value} {a3 : Value} {st : List Value} {σ : aS} : Rn sc d 212 1288 [.ref x0, a1, a2, a3] st σ r ↔ Rn sc d 212 1289 [.ref x0, a1, a2, a3] (.ref x0 :: st) σ r := r_aload_n d212_1288 rfl
theorem d212_1289 : decode (mC 212) 1289 = .ok (.iload_n 3, 1) := by decide +kernel
theorem x212_1289 {sc : aSc} {d : Nat} {r : aRes} {a0 : Value} {a1 : Value} {a2 : Value} {x3 : Int32} {st : List Value} {σ : aS} : Rn sc d 212 1289 [a0, a1, a2, .int x3] st σ r ↔ Rn sc d 212 1290 [a0, a1, a2, .int x3] (.int x3 :: st) σ r := r_iload_n d212_1289 rfl
theorem d212_1290 : decode (mC 212) 1290 = .ok (.iconst 4, 1) := by decide +kernel
theorem x212_1290 {sc : aSc} {d : Nat} {r : aRes} {L : List Value} {st : List Value} {σ : aS} : Rn sc d 212 1290 L st σ r ↔ Rn sc d 212 1291 L (.int 4 :: st) σ r := r_iconst d212_1290 (by decide)
theorem d212_1291 : decode (mC 212) 1291 = .ok (.iadd, 1) := by decide +kernel
theorem x212_1291 {sc : aSc} {d : Nat} {r : aRes} {L : List Value} {st : List Value} {σ : aS} {x y : Int32} : Rn sc d 212 1291 L (.int y :: .int x :: st) σ r ↔ Rn sc d 212 1292 L (.int (x + y) :: st) σ r := r_iadd d212_1291
theorem d212_1292 : decode (mC 212) 1292 = .ok (.iaload, 1) := by decide +kernel
theorem d212_1293 : decode (mC 212) 1293 = .ok (.aload_n 0, 1) := by decide +kernel
theorem x212_1293 {sc : aSc} {d : Nat} {r : aRes} {x0 : Nat} {a1 : Value} {a2 : Value} {a3 : Value} {st : List Value} {σ : aS} : Rn sc d 212 1293 [.ref x0, a1, a2, a3] st σ r ↔ Rn sc d 212 1294 [.ref x0, a1, a2, a3] (.ref x0 :: st) σ r := r_aload_n d212_1293 rfl
theorem d212_1294 : decode (mC 212) 1294 = .ok (.iload_n 3, 1) := by decide +kernel
theorem x212_1294 {sc : aSc} {d : Nat} {r : aRes} {a0 : Value} {a1 : Value} {a2 : Value} {x3 : Int32} {st : List Value} {σ : aS} : Rn sc d 212 1294 [a0, a1, a2, .int x3] st σ r ↔ Rn sc d 212 1295 [a0, a1, a2, .int x3] (.int x3 :: st) σ r := r_iload_n d212_1294 rfl
theorem d212_1295 : decode (mC 212) 1295 = .ok (.iconst 5, 1) := by decide +kernel
theorem x212_1295 {sc : aSc} {d : Nat} {r : aRes} {L : List Value} {st : List Value} {σ : aS} : Rn sc d 212 1295 L st σ r ↔ Rn sc d 212 1296 L (.int 5 :: st) σ r := r_iconst d212_1295 (by decide)
theorem d212_1296 : decode (mC 212) 1296 = .ok (.iadd, 1) := by decide +kernel
theorem x212_1296 {sc : aSc} {d : Nat} {r : aRes} {L : List Value} {st : List Value} {σ : aS} {x y : Int32} : Rn sc d 212 1296 L (.int y :: .int x :: st) σ r ↔ Rn sc d 212 1297 L (.int (x + y) :: st) σ r := r_iadd d212_1296
theorem d212_1297 : decode (mC 212) 1297 = .ok (.iaload, 1) := by decide +kernel
theorem d212_1298 : decode (mC 212) 1298 = .ok (.invokevirtual 164, 3) := by decide +kernel
theorem x212_1298 {sc : aSc} {d : Nat} {r : aRes} {L : List Value} {f : Nat → Nat → Int32} {g : Nat → Nat → Int64} {h1 h2 : Nat} {y0 : Int32} {y1 : Int32} {y2 : Int32} {y3 : Int32} {y4 : Int32}  {o : Nat} (hK : KK[o]? = some (.inl 6)) : Rn sc d 212 1298 L [.int y0, .int y1, .int y2, .int y3, .int y4, .ref o] (cS f g h1 h2) r ↔ ∃ (σ3 : aS) (v : Option Value), Cl sc d 101 [.ref o, .int y4, .int y3, .int y2, .int y1, .int y0] (cS f g h1 h2) (σ3, v) ∧ Rn sc d 212 1301 L (v.toList ++ []) σ3 r := r_callV (vs := [.int y0, .int y1, .int y2, .int y3, .int y4]) d212_1298 (j := 101) (by decide +kernel) ⟨rfl, by decide, rfl, rfl⟩ (Nat.le_of_ble_eq_true rfl) hK
theorem d212_1301 : decode (mC 212) 1301 = .ok (.aload_n 2, 1) := by decide +kernel
theorem x212_1301 {sc : aSc} {d : Nat} {r : aRes} {a0 : Value} {a1 : Value} {x2 : Nat} {a3 : Value} {st : List Value} {σ : aS} : Rn sc d 212 1301 [a0, a1, .ref x2, a3] st σ r ↔ Rn sc d 212 1302 [a0, a1, .ref x2, a3] (.ref x2 :: st) σ r := r_aload_n d212_1301 rfl
theorem d212_1302 : decode (mC 212) 1302 = .ok (.aload_n 0, 1) := by decide +kernel
theorem x212_1302 {sc : aSc} {d : Nat} {r : aRes} {x0 : Nat} {a1 : Value} {a2 : Value} {a3 : Value} {st : List Value} {σ : aS} : Rn sc d 212 1302 [.ref x0, a1, a2, a3] st σ r ↔ Rn sc d 212 1303 [.ref x0, a1, a2, a3] (.ref x0 :: st) σ r := r_aload_n d212_1302 rfl
theorem d212_1303 : decode (mC 212) 1303 = .ok (.iload_n 3, 1) := by decide +kernel
theorem x212_1303 {sc : aSc} {d : Nat} {r : aRes} {a0 : Value} {a1 : Value} {a2 : Value} {x3 : Int32} {st : List Value} {σ : aS} : Rn sc d 212 1303 [a0, a1, a2, .int x3] st σ r ↔ Rn sc d 212 1304 [a0, a1, a2, .int x3] (.int x3 :: st) σ r := r_iload_n d212_1303 rfl
theorem d212_1304 : decode (mC 212) 1304 = .ok (.iconst 1, 1) := by decide +kernel
theorem x212_1304 {sc : aSc} {d : Nat} {r : aRes} {L : List Value} {st : List Value} {σ : aS} : Rn sc d 212 1304 L st σ r ↔ Rn sc d 212 1305 L (.int 1 :: st) σ r := r_iconst d212_1304 (by decide)
theorem d212_1305 : decode (mC 212) 1305 = .ok (.iadd, 1) := by decide +kernel
theorem x212_1305 {sc : aSc} {d : Nat} {r : aRes} {L : List Value} {st : List Value} {σ : aS} {x y : Int32} : Rn sc d 212 1305 L (.int y :: .int x :: st) σ r ↔ Rn sc d 212 1306 L (.int (x + y) :: st) σ r := r_iadd d212_1305
theorem d212_1306 : decode (mC 212) 1306 = .ok (.iaload, 1) := by decide +kernel
theorem d212_1307 : decode (mC 212) 1307 = .ok (.aload_n 0, 1) := by decide +kernel
theorem x212_1307 {sc : aSc} {d : Nat} {r : aRes} {x0 : Nat} {a1 : Value} {a2 : Value} {a3 : Value} {st : List Value} {σ : aS} : Rn sc d 212 1307 [.ref x0, a1, a2, a3] st σ r ↔ Rn sc d 212 1308 [.ref x0, a1, a2, a3] (.ref x0 :: st) σ r := r_aload_n d212_1307 rfl
theorem d212_1308 : decode (mC 212) 1308 = .ok (.iload_n 3, 1) := by decide +kernel
theorem x212_1308 {sc : aSc} {d : Nat} {r : aRes} {a0 : Value} {a1 : Value} {a2 : Value} {x3 : Int32} {st : List Value} {σ : aS} : Rn sc d 212 1308 [a0, a1, a2, .int x3] st σ r ↔ Rn sc d 212 1309 [a0, a1, a2, .int x3] (.int x3 :: st) σ r := r_iload_n d212_1308 rfl
theorem d212_1309 : decode (mC 212) 1309 = .ok (.iconst 2, 1) := by decide +kernel
theorem x212_1309 {sc : aSc} {d : Nat} {r : aRes} {L : List Value} {st : List Value} {σ : aS} : Rn sc d 212 1309 L st σ r ↔ Rn sc d 212 1310 L (.int 2 :: st) σ r := r_iconst d212_1309 (by decide)
theorem d212_1310 : decode (mC 212) 1310 = .ok (.iadd, 1) := by decide +kernel
theorem x212_1310 {sc : aSc} {d : Nat} {r : aRes} {L : List Value} {st : List Value} {σ : aS} {x y : Int32} : Rn sc d 212 1310 L (.int y :: .int x :: st) σ r ↔ Rn sc d 212 1311 L (.int (x + y) :: st) σ r := r_iadd d212_1310
theorem d212_1311 : decode (mC 212) 1311 = .ok (.iaload, 1) := by decide +kernel
theorem d212_1312 : decode (mC 212) 1312 = .ok (.aload_n 0, 1) := by decide +kernel
theorem x212_1312 {sc : aSc} {d : Nat} {r : aRes} {x0 : Nat} {a1 : Value} {a2 : Value} {a3 : Value} {st : List Value} {σ : aS} : Rn sc d 212 1312 [.ref x0, a1, a2, a3] st σ r ↔ Rn sc d 212 1313 [.ref x0, a1, a2, a3] (.ref x0 :: st) σ r := r_aload_n d212_1312 rfl
theorem d212_1313 : decode (mC 212) 1313 = .ok (.iload_n 3, 1) := by decide +kernel
theorem x212_1313 {sc : aSc} {d : Nat} {r : aRes} {a0 : Value} {a1 : Value} {a2 : Value} {x3 : Int32} {st : List Value} {σ : aS} : Rn sc d 212 1313 [a0, a1, a2, .int x3] st σ r ↔ Rn sc d 212 1314 [a0, a1, a2, .int x3] (.int x3 :: st) σ r := r_iload_n d212_1313 rfl
theorem d212_1314 : decode (mC 212) 1314 = .ok (.iconst 3, 1) := by decide +kernel
theorem x212_1314 {sc : aSc} {d : Nat} {r : aRes} {L : List Value} {st : List Value} {σ : aS} : Rn sc d 212 1314 L st σ r ↔ Rn sc d 212 1315 L (.int 3 :: st) σ r := r_iconst d212_1314 (by decide)
theorem d212_1315 : decode (mC 212) 1315 = .ok (.iadd, 1) := by decide +kernel
theorem x212_1315 {sc : aSc} {d : Nat} {r : aRes} {L : List Value} {st : List Value} {σ : aS} {x y : Int32} : Rn sc d 212 1315 L (.int y :: .int x :: st) σ r ↔ Rn sc d 212 1316 L (.int (x + y) :: st) σ r := r_iadd d212_1315
theorem d212_1316 : decode (mC 212) 1316 = .ok (.iaload, 1) := by decide +kernel
theorem d212_1317 : decode (mC 212) 1317 = .ok (.aload_n 0, 1) := by decide +kernel
theorem x212_1317 {sc : aSc} {d : Nat} {r : aRes} {x0 : Nat} {a1 : Value} {a2 : Value} {a3 : Value} {st : List Value} {σ : aS} : Rn sc d 212 1317 [.ref x0, a1, a2, a3] st σ r ↔ Rn sc d 212 1318 [.ref x0, a1, a2, a3] (.ref x0 :: st) σ r := r_aload_n d212_1317 rfl
theorem d212_1318 : decode (mC 212) 1318 = .ok (.iload_n 3, 1) := by decide +kernel
theorem x212_1318 {sc : aSc} {d : Nat} {r : aRes} {a0 : Value} {a1 : Value} {a2 : Value} {x3 : Int32} {st : List Value} {σ : aS} : Rn sc d 212 1318 [a0, a1, a2, .int x3] st σ r ↔ Rn sc d 212 1319 [a0, a1, a2, .int x3] (.int x3 :: st) σ r := r_iload_n d212_1318 rfl
theorem d212_1319 : decode (mC 212) 1319 = .ok (.iconst 4, 1) := by decide +kernel
theorem x212_1319 {sc : aSc} {d : Nat} {r : aRes} {L : List Value} {st : List Value} {σ : aS} : Rn sc d 212 1319 L st σ r ↔ Rn sc d 212 1320 L (.int 4 :: st) σ r := r_iconst d212_1319 (by decide)
theorem d212_1320 : decode (mC 212) 1320 = .ok (.iadd, 1) := by decide +kernel
theorem x212_1320 {sc : aSc} {d : Nat} {r : aRes} {L : List Value} {st : List Value} {σ : aS} {x y : Int32} : Rn sc d 212 1320 L (.int y :: .int x :: st) σ r ↔ Rn sc d 212 1321 L (.int (x + y) :: st) σ r := r_iadd d212_1320
theorem d212_1321 : decode (mC 212) 1321 = .ok (.iaload, 1) := by decide +kernel
theorem d212_1322 : decode (mC 212) 1322 = .ok (.aload_n 0, 1) := by decide +kernel
theorem x212_1322 {sc : aSc} {d : Nat} {r : aRes} {x0 : Nat} {a1 : Value} {a2 : Value} {a3 : Value} {st : List Value} {σ : aS} : Rn sc d 212 1322 [.ref x0, a1, a2, a3] st σ r ↔ Rn sc d 212 1323 [.ref x0, a1, a2, a3] (.ref x0 :: st) σ r := r_aload_n d212_1322 rfl
theorem d212_1323 : decode (mC 212) 1323 = .ok (.iload_n 3, 1) := by decide +kernel
theorem x212_1323 {sc : aSc} {d : Nat} {r : aRes} {a0 : Value} {a1 : Value} {a2 : Value} {x3 : Int32} {st : List Value} {σ : aS} : Rn sc d 212 1323 [a0, a1, a2, .int x3] st σ r ↔ Rn sc d 212 1324 [a0, a1, a2, .int x3] (.int x3 :: st) σ r := r_iload_n d212_1323 rfl
theorem d212_1324 : decode (mC 212) 1324 = .ok (.iconst 5, 1) := by decide +kernel
theorem x212_1324 {sc : aSc} {d : Nat} {r : aRes} {L : List Value} {st : List Value} {σ : aS} : Rn sc d 212 1324 L st σ r ↔ Rn sc d 212 1325 L (.int 5 :: st) σ r := r_iconst d212_1324 (by decide)
theorem d212_1325 : decode (mC 212) 1325 = .ok (.iadd, 1) := by decide +kernel
theorem x212_1325 {sc : aSc} {d : Nat} {r : aRes} {L : List Value} {st : List Value} {σ : aS} {x y : Int32} : Rn sc d 212 1325 L (.int y :: .int x :: st) σ r ↔ Rn sc d 212 1326 L (.int (x + y) :: st) σ r := r_iadd d212_1325
theorem d212_1326 : decode (mC 212) 1326 = .ok (.iaload, 1) := by decide +kernel
theorem d212_1327 : decode (mC 212) 1327 = .ok (.invokevirtual 168, 3) := by decide +kernel
theorem x212_1327 {sc : aSc} {d : Nat} {r : aRes} {L : List Value} {f : Nat → Nat → Int32} {g : Nat → Nat → Int64} {h1 h2 : Nat} {y0 : Int32} {y1 : Int32} {y2 : Int32} {y3 : Int32} {y4 : Int32} {z0 : Int32} {o : Nat} (hK : KK[o]? = some (.inl 7)) : Rn sc d 212 1327 L [.int y0, .int y1, .int y2, .int y3, .int y4, .ref o, .int z0] (cS f g h1 h2) r ↔ ∃ (σ3 : aS) (v : Option Value), Cl sc d 194 [.ref o, .int y4, .int y3, .int y2, .int y1, .int y0] (cS f g h1 h2) (σ3, v) ∧ Rn sc d 212 1330 L (v.toList ++ [.int z0]) σ3 r := r_callV (vs := [.int y0, .int y1, .int y2, .int y3, .int y4]) d212_1327 (j := 194) (by decide +kernel) ⟨rfl, by decide, rfl, rfl⟩ (Nat.le_of_ble_eq_true rfl) hK
theorem d212_1330 : decode (mC 212) 1330 = .ok (.if_icmp .eq 5, 3) := by decide +kernel
theorem x212_1330 {sc : aSc} {d : Nat} {r : aRes} {L : List Value} {st : List Value} {σ : aS} {x y : Int32} : Rn sc d 212 1330 L (.int y :: .int x :: st) σ r ↔ if x = y then Rn sc d 212 1335 L st σ r else Rn sc d 212 1333 L st σ r := r_icmp_eq d212_1330 rfl
theorem d212_1333 : decode (mC 212) 1333 = .ok (.iconst 0, 1) := by decide +kernel
theorem x212_1333 {sc : aSc} {d : Nat} {r : aRes} {L : List Value} {st : List Value} {σ : aS} : Rn sc d 212 1333 L st σ r ↔ Rn sc d 212 1334 L (.int 0 :: st) σ r := r_iconst d212_1333 (by decide)
theorem d212_1334 : decode (mC 212) 1334 = .ok (.ireturn, 1) := by decide +kernel
theorem d212_1335 : decode (mC 212) 1335 = .ok (.iinc 3 7, 3) := by decide +kernel
theorem x212_1335 {sc : aSc} {d : Nat} {r : aRes} {a0 : Value} {a1 : Value} {x2 : Nat} {x3 : Int32} {st : List Value} {σ : aS} : Rn sc d 212 1335 [a0, a1, .ref x2, .int x3] st σ r ↔ Rn sc d 212 1338 [a0, a1, .ref x2, .int (x3 + 7)] st σ r := r_iinc d212_1335 (Nat.le_of_ble_eq_true rfl) rfl rfl (by decide)
theorem d212_1338 : decode (mC 212) 1338 = .ok (.goto (-1320), 3) := by decide +kernel
theorem x212_1338 {sc : aSc} {d : Nat} {r : aRes} {L : List Value} {st : List Value} {σ : aS} : Rn sc d 212 1338 L st σ r ↔ Rn sc d 212 18 L st σ r := r_goto d212_1338 rfl
theorem d212_1341 : decode (mC 212) 1341 = .ok (.iconst 1, 1) := by decide +kernel
theorem x212_1341 {sc : aSc} {d : Nat} {r : aRes} {L : List Value} {st : List Value} {σ : aS} : Rn sc d 212 1341 L st σ r ↔ Rn sc d 212 1342 L (.int 1 :: st) σ r := r_iconst d212_1341 (by decide)
theorem d212_1342 : decode (mC 212) 1342 = .ok (.ireturn, 1) := by decide +kernel
theorem x212_1342 {sc : aSc} {d : Nat} {r : aRes} {L : List Value} {σ : aS} {x : Int32} (hn : x &&& 1 = x) : Rn sc d 212 1342 L [.int x] σ r ↔ r = (σ, some (.int x)) := r_iret d212_1342 rfl (congrArg Value.int hn)
theorem x212_20 {n : Nat} {xs : Nat → Int32} {d : Nat} {L st : List Value} {σ : aS} {r : aRes} : Rn (some (n, xs)) d 212 20 L (.ref 0 :: st) σ r ↔ Rn (some (n, xs)) d 212 21 L (.int (nI n) :: st) σ r := r_scl d212_20
theorem x212_29 {n : Nat} {xs : Nat → Int32} {d : Nat} {L st : List Value} {σ : aS} {r : aRes} {i : Int32} (hi : inb i n = true) : Rn (some (n, xs)) d 212 29 L (.int i :: .ref 0 :: st) σ r ↔ Rn (some (n, xs)) d 212 30 L (.int (xs i.toNatClampNeg) :: st) σ r := r_sci d212_29 hi
theorem x212_197 {n : Nat} {xs : Nat → Int32} {d : Nat} {L st : List Value} {σ : aS} {r : aRes} {i : Int32} (hi : inb i n = true) : Rn (some (n, xs)) d 212 197 L (.int i :: .ref 0 :: st) σ r ↔ Rn (some (n, xs)) d 212 198 L (.int (xs i.toNatClampNeg) :: st) σ r := r_sci d212_197 hi
theorem x212_202 {n : Nat} {xs : Nat → Int32} {d : Nat} {L st : List Value} {σ : aS} {r : aRes} {i : Int32} (hi : inb i n = true) : Rn (some (n, xs)) d 212 202 L (.int i :: .ref 0 :: st) σ r ↔ Rn (some (n, xs)) d 212 203 L (.int (xs i.toNatClampNeg) :: st) σ r := r_sci d212_202 hi
theorem x212_207 {n : Nat} {xs : Nat → Int32} {d : Nat} {L st : List Value} {σ : aS} {r : aRes} {i : Int32} (hi : inb i n = true) : Rn (some (n, xs)) d 212 207 L (.int i :: .ref 0 :: st) σ r ↔ Rn (some (n, xs)) d 212 208 L (.int (xs i.toNatClampNeg) :: st) σ r := r_sci d212_207 hi
theorem x212_212 {n : Nat} {xs : Nat → Int32} {d : Nat} {L st : List Value} {σ : aS} {r : aRes} {i : Int32} (hi : inb i n = true) : Rn (some (n, xs)) d 212 212 L (.int i :: .ref 0 :: st) σ r ↔ Rn (some (n, xs)) d 212 213 L (.int (xs i.toNatClampNeg) :: st) σ r := r_sci d212_212 hi
theorem x212_217 {n : Nat} {xs : Nat → Int32} {d : Nat} {L st : List Value} {σ : aS} {r : aRes} {i : Int32} (hi : inb i n = true) : Rn (some (n, xs)) d 212 217 L (.int i :: .ref 0 :: st) σ r ↔ Rn (some (n, xs)) d 212 218 L (.int (xs i.toNatClampNeg) :: st) σ r := r_sci d212_217 hi
theorem x212_223 {n : Nat} {xs : Nat → Int32} {d : Nat} {L st : List Value} {σ : aS} {r : aRes} {i : Int32} (hi : inb i n = true) : Rn (some (n, xs)) d 212 223 L (.int i :: .ref 0 :: st) σ r ↔ Rn (some (n, xs)) d 212 224 L (.int (xs i.toNatClampNeg) :: st) σ r := r_sci d212_223 hi
theorem x212_232 {n : Nat} {xs : Nat → Int32} {d : Nat} {L st : List Value} {σ : aS} {r : aRes} {i : Int32} (hi : inb i n = true) : Rn (some (n, xs)) d 212 232 L (.int i :: .ref 0 :: st) σ r ↔ Rn (some (n, xs)) d 212 233 L (.int (xs i.toNatClampNeg) :: st) σ r := r_sci d212_232 hi
theorem x212_237 {n : Nat} {xs : Nat → Int32} {d : Nat} {L st : List Value} {σ : aS} {r : aRes} {i : Int32} (hi : inb i n = true) : Rn (some (n, xs)) d 212 237 L (.int i :: .ref 0 :: st) σ r ↔ Rn (some (n, xs)) d 212 238 L (.int (xs i.toNatClampNeg) :: st) σ r := r_sci d212_237 hi
theorem x212_242 {n : Nat} {xs : Nat → Int32} {d : Nat} {L st : List Value} {σ : aS} {r : aRes} {i : Int32} (hi : inb i n = true) : Rn (some (n, xs)) d 212 242 L (.int i :: .ref 0 :: st) σ r ↔ Rn (some (n, xs)) d 212 243 L (.int (xs i.toNatClampNeg) :: st) σ r := r_sci d212_242 hi
theorem x212_247 {n : Nat} {xs : Nat → Int32} {d : Nat} {L st : List Value} {σ : aS} {r : aRes} {i : Int32} (hi : inb i n = true) : Rn (some (n, xs)) d 212 247 L (.int i :: .ref 0 :: st) σ r ↔ Rn (some (n, xs)) d 212 248 L (.int (xs i.toNatClampNeg) :: st) σ r := r_sci d212_247 hi
theorem x212_252 {n : Nat} {xs : Nat → Int32} {d : Nat} {L st : List Value} {σ : aS} {r : aRes} {i : Int32} (hi : inb i n = true) : Rn (some (n, xs)) d 212 252 L (.int i :: .ref 0 :: st) σ r ↔ Rn (some (n, xs)) d 212 253 L (.int (xs i.toNatClampNeg) :: st) σ r := r_sci d212_252 hi
theorem x212_258 {n : Nat} {xs : Nat → Int32} {d : Nat} {L st : List Value} {σ : aS} {r : aRes} {i : Int32} (hi : inb i n = true) : Rn (some (n, xs)) d 212 258 L (.int i :: .ref 0 :: st) σ r ↔ Rn (some (n, xs)) d 212 259 L (.int (xs i.toNatClampNeg) :: st) σ r := r_sci d212_258 hi
theorem x212_272 {n : Nat} {xs : Nat → Int32} {d : Nat} {L st : List Value} {σ : aS} {r : aRes} {i : Int32} (hi : inb i n = true) : Rn (some (n, xs)) d 212 272 L (.int i :: .ref 0 :: st) σ r ↔ Rn (some (n, xs)) d 212 273 L (.int (xs i.toNatClampNeg) :: st) σ r := r_sci d212_272 hi
theorem x212_277 {n : Nat} {xs : Nat → Int32} {d : Nat} {L st : List Value} {σ : aS} {r : aRes} {i : Int32} (hi : inb i n = true) : Rn (some (n, xs)) d 212 277 L (.int i :: .ref 0 :: st) σ r ↔ Rn (some (n, xs)) d 212 278 L (.int (xs i.toNatClampNeg) :: st) σ r := r_sci d212_277 hi
theorem x212_286 {n : Nat} {xs : Nat → Int32} {d : Nat} {L st : List Value} {σ : aS} {r : aRes} {i : Int32} (hi : inb i n = true) : Rn (some (n, xs)) d 212 286 L (.int i :: .ref 0 :: st) σ r ↔ Rn (some (n, xs)) d 212 287 L (.int (xs i.toNatClampNeg) :: st) σ r := r_sci d212_286 hi
theorem x212_291 {n : Nat} {xs : Nat → Int32} {d : Nat} {L st : List Value} {σ : aS} {r : aRes} {i : Int32} (hi : inb i n = true) : Rn (some (n, xs)) d 212 291 L (.int i :: .ref 0 :: st) σ r ↔ Rn (some (n, xs)) d 212 292 L (.int (xs i.toNatClampNeg) :: st) σ r := r_sci d212_291 hi
theorem x212_305 {n : Nat} {xs : Nat → Int32} {d : Nat} {L st : List Value} {σ : aS} {r : aRes} {i : Int32} (hi : inb i n = true) : Rn (some (n, xs)) d 212 305 L (.int i :: .ref 0 :: st) σ r ↔ Rn (some (n, xs)) d 212 306 L (.int (xs i.toNatClampNeg) :: st) σ r := r_sci d212_305 hi
theorem x212_310 {n : Nat} {xs : Nat → Int32} {d : Nat} {L st : List Value} {σ : aS} {r : aRes} {i : Int32} (hi : inb i n = true) : Rn (some (n, xs)) d 212 310 L (.int i :: .ref 0 :: st) σ r ↔ Rn (some (n, xs)) d 212 311 L (.int (xs i.toNatClampNeg) :: st) σ r := r_sci d212_310 hi
theorem x212_315 {n : Nat} {xs : Nat → Int32} {d : Nat} {L st : List Value} {σ : aS} {r : aRes} {i : Int32} (hi : inb i n = true) : Rn (some (n, xs)) d 212 315 L (.int i :: .ref 0 :: st) σ r ↔ Rn (some (n, xs)) d 212 316 L (.int (xs i.toNatClampNeg) :: st) σ r := r_sci d212_315 hi
theorem x212_324 {n : Nat} {xs : Nat → Int32} {d : Nat} {L st : List Value} {σ : aS} {r : aRes} {i : Int32} (hi : inb i n = true) : Rn (some (n, xs)) d 212 324 L (.int i :: .ref 0 :: st) σ r ↔ Rn (some (n, xs)) d 212 325 L (.int (xs i.toNatClampNeg) :: st) σ r := r_sci d212_324 hi
theorem x212_329 {n : Nat} {xs : Nat → Int32} {d : Nat} {L st : List Value} {σ : aS} {r : aRes} {i : Int32} (hi : inb i n = true) : Rn (some (n, xs)) d 212 329 L (.int i :: .ref 0 :: st) σ r ↔ Rn (some (n, xs)) d 212 330 L (.int (xs i.toNatClampNeg) :: st) σ r := r_sci d212_329 hi
theorem x212_334 {n : Nat} {xs : Nat → Int32} {d : Nat} {L st : List Value} {σ : aS} {r : aRes} {i : Int32} (hi : inb i n = true) : Rn (some (n, xs)) d 212 334 L (.int i :: .ref 0 :: st) σ r ↔ Rn (some (n, xs)) d 212 335 L (.int (xs i.toNatClampNeg) :: st) σ r := r_sci d212_334 hi
theorem x212_348 {n : Nat} {xs : Nat → Int32} {d : Nat} {L st : List Value} {σ : aS} {r : aRes} {i : Int32} (hi : inb i n = true) : Rn (some (n, xs)) d 212 348 L (.int i :: .ref 0 :: st) σ r ↔ Rn (some (n, xs)) d 212 349 L (.int (xs i.toNatClampNeg) :: st) σ r := r_sci d212_348 hi
theorem x212_353 {n : Nat} {xs : Nat → Int32} {d : Nat} {L st : List Value} {σ : aS} {r : aRes} {i : Int32} (hi : inb i n = true) : Rn (some (n, xs)) d 212 353 L (.int i :: .ref 0 :: st) σ r ↔ Rn (some (n, xs)) d 212 354 L (.int (xs i.toNatClampNeg) :: st) σ r := r_sci d212_353 hi
theorem x212_358 {n : Nat} {xs : Nat → Int32} {d : Nat} {L st : List Value} {σ : aS} {r : aRes} {i : Int32} (hi : inb i n = true) : Rn (some (n, xs)) d 212 358 L (.int i :: .ref 0 :: st) σ r ↔ Rn (some (n, xs)) d 212 359 L (.int (xs i.toNatClampNeg) :: st) σ r := r_sci d212_358 hi
theorem x212_367 {n : Nat} {xs : Nat → Int32} {d : Nat} {L st : List Value} {σ : aS} {r : aRes} {i : Int32} (hi : inb i n = true) : Rn (some (n, xs)) d 212 367 L (.int i :: .ref 0 :: st) σ r ↔ Rn (some (n, xs)) d 212 368 L (.int (xs i.toNatClampNeg) :: st) σ r := r_sci d212_367 hi
theorem x212_372 {n : Nat} {xs : Nat → Int32} {d : Nat} {L st : List Value} {σ : aS} {r : aRes} {i : Int32} (hi : inb i n = true) : Rn (some (n, xs)) d 212 372 L (.int i :: .ref 0 :: st) σ r ↔ Rn (some (n, xs)) d 212 373 L (.int (xs i.toNatClampNeg) :: st) σ r := r_sci d212_372 hi
theorem x212_377 {n : Nat} {xs : Nat → Int32} {d : Nat} {L st : List Value} {σ : aS} {r : aRes} {i : Int32} (hi : inb i n = true) : Rn (some (n, xs)) d 212 377 L (.int i :: .ref 0 :: st) σ r ↔ Rn (some (n, xs)) d 212 378 L (.int (xs i.toNatClampNeg) :: st) σ r := r_sci d212_377 hi
theorem x212_391 {n : Nat} {xs : Nat → Int32} {d : Nat} {L st : List Value} {σ : aS} {r : aRes} {i : Int32} (hi : inb i n = true) : Rn (some (n, xs)) d 212 391 L (.int i :: .ref 0 :: st) σ r ↔ Rn (some (n, xs)) d 212 392 L (.int (xs i.toNatClampNeg) :: st) σ r := r_sci d212_391 hi
theorem x212_400 {n : Nat} {xs : Nat → Int32} {d : Nat} {L st : List Value} {σ : aS} {r : aRes} {i : Int32} (hi : inb i n = true) : Rn (some (n, xs)) d 212 400 L (.int i :: .ref 0 :: st) σ r ↔ Rn (some (n, xs)) d 212 401 L (.int (xs i.toNatClampNeg) :: st) σ r := r_sci d212_400 hi
theorem x212_427 {n : Nat} {xs : Nat → Int32} {d : Nat} {L st : List Value} {σ : aS} {r : aRes} {i : Int32} (hi : inb i n = true) : Rn (some (n, xs)) d 212 427 L (.int i :: .ref 0 :: st) σ r ↔ Rn (some (n, xs)) d 212 428 L (.int (xs i.toNatClampNeg) :: st) σ r := r_sci d212_427 hi
theorem x212_436 {n : Nat} {xs : Nat → Int32} {d : Nat} {L st : List Value} {σ : aS} {r : aRes} {i : Int32} (hi : inb i n = true) : Rn (some (n, xs)) d 212 436 L (.int i :: .ref 0 :: st) σ r ↔ Rn (some (n, xs)) d 212 437 L (.int (xs i.toNatClampNeg) :: st) σ r := r_sci d212_436 hi
theorem x212_450 {n : Nat} {xs : Nat → Int32} {d : Nat} {L st : List Value} {σ : aS} {r : aRes} {i : Int32} (hi : inb i n = true) : Rn (some (n, xs)) d 212 450 L (.int i :: .ref 0 :: st) σ r ↔ Rn (some (n, xs)) d 212 451 L (.int (xs i.toNatClampNeg) :: st) σ r := r_sci d212_450 hi
theorem x212_455 {n : Nat} {xs : Nat → Int32} {d : Nat} {L st : List Value} {σ : aS} {r : aRes} {i : Int32} (hi : inb i n = true) : Rn (some (n, xs)) d 212 455 L (.int i :: .ref 0 :: st) σ r ↔ Rn (some (n, xs)) d 212 456 L (.int (xs i.toNatClampNeg) :: st) σ r := r_sci d212_455 hi
theorem x212_464 {n : Nat} {xs : Nat → Int32} {d : Nat} {L st : List Value} {σ : aS} {r : aRes} {i : Int32} (hi : inb i n = true) : Rn (some (n, xs)) d 212 464 L (.int i :: .ref 0 :: st) σ r ↔ Rn (some (n, xs)) d 212 465 L (.int (xs i.toNatClampNeg) :: st) σ r := r_sci d212_464 hi
theorem x212_469 {n : Nat} {xs : Nat → Int32} {d : Nat} {L st : List Value} {σ : aS} {r : aRes} {i : Int32} (hi : inb i n = true) : Rn (some (n, xs)) d 212 469 L (.int i :: .ref 0 :: st) σ r ↔ Rn (some (n, xs)) d 212 470 L (.int (xs i.toNatClampNeg) :: st) σ r := r_sci d212_469 hi
theorem x212_496 {n : Nat} {xs : Nat → Int32} {d : Nat} {L st : List Value} {σ : aS} {r : aRes} {i : Int32} (hi : inb i n = true) : Rn (some (n, xs)) d 212 496 L (.int i :: .ref 0 :: st) σ r ↔ Rn (some (n, xs)) d 212 497 L (.int (xs i.toNatClampNeg) :: st) σ r := r_sci d212_496 hi
theorem x212_505 {n : Nat} {xs : Nat → Int32} {d : Nat} {L st : List Value} {σ : aS} {r : aRes} {i : Int32} (hi : inb i n = true) : Rn (some (n, xs)) d 212 505 L (.int i :: .ref 0 :: st) σ r ↔ Rn (some (n, xs)) d 212 506 L (.int (xs i.toNatClampNeg) :: st) σ r := r_sci d212_505 hi
theorem x212_519 {n : Nat} {xs : Nat → Int32} {d : Nat} {L st : List Value} {σ : aS} {r : aRes} {i : Int32} (hi : inb i n = true) : Rn (some (n, xs)) d 212 519 L (.int i :: .ref 0 :: st) σ r ↔ Rn (some (n, xs)) d 212 520 L (.int (xs i.toNatClampNeg) :: st) σ r := r_sci d212_519 hi
theorem x212_524 {n : Nat} {xs : Nat → Int32} {d : Nat} {L st : List Value} {σ : aS} {r : aRes} {i : Int32} (hi : inb i n = true) : Rn (some (n, xs)) d 212 524 L (.int i :: .ref 0 :: st) σ r ↔ Rn (some (n, xs)) d 212 525 L (.int (xs i.toNatClampNeg) :: st) σ r := r_sci d212_524 hi
theorem x212_529 {n : Nat} {xs : Nat → Int32} {d : Nat} {L st : List Value} {σ : aS} {r : aRes} {i : Int32} (hi : inb i n = true) : Rn (some (n, xs)) d 212 529 L (.int i :: .ref 0 :: st) σ r ↔ Rn (some (n, xs)) d 212 530 L (.int (xs i.toNatClampNeg) :: st) σ r := r_sci d212_529 hi
theorem x212_538 {n : Nat} {xs : Nat → Int32} {d : Nat} {L st : List Value} {σ : aS} {r : aRes} {i : Int32} (hi : inb i n = true) : Rn (some (n, xs)) d 212 538 L (.int i :: .ref 0 :: st) σ r ↔ Rn (some (n, xs)) d 212 539 L (.int (xs i.toNatClampNeg) :: st) σ r := r_sci d212_538 hi
theorem x212_543 {n : Nat} {xs : Nat → Int32} {d : Nat} {L st : List Value} {σ : aS} {r : aRes} {i : Int32} (hi : inb i n = true) : Rn (some (n, xs)) d 212 543 L (.int i :: .ref 0 :: st) σ r ↔ Rn (some (n, xs)) d 212 544 L (.int (xs i.toNatClampNeg) :: st) σ r := r_sci d212_543 hi
theorem x212_548 {n : Nat} {xs : Nat → Int32} {d : Nat} {L st : List Value} {σ : aS} {r : aRes} {i : Int32} (hi : inb i n = true) : Rn (some (n, xs)) d 212 548 L (.int i :: .ref 0 :: st) σ r ↔ Rn (some (n, xs)) d 212 549 L (.int (xs i.toNatClampNeg) :: st) σ r := r_sci d212_548 hi
theorem x212_562 {n : Nat} {xs : Nat → Int32} {d : Nat} {L st : List Value} {σ : aS} {r : aRes} {i : Int32} (hi : inb i n = true) : Rn (some (n, xs)) d 212 562 L (.int i :: .ref 0 :: st) σ r ↔ Rn (some (n, xs)) d 212 563 L (.int (xs i.toNatClampNeg) :: st) σ r := r_sci d212_562 hi
theorem x212_567 {n : Nat} {xs : Nat → Int32} {d : Nat} {L st : List Value} {σ : aS} {r : aRes} {i : Int32} (hi : inb i n = true) : Rn (some (n, xs)) d 212 567 L (.int i :: .ref 0 :: st) σ r ↔ Rn (some (n, xs)) d 212 568 L (.int (xs i.toNatClampNeg) :: st) σ r := r_sci d212_567 hi
theorem x212_576 {n : Nat} {xs : Nat → Int32} {d : Nat} {L st : List Value} {σ : aS} {r : aRes} {i : Int32} (hi : inb i n = true) : Rn (some (n, xs)) d 212 576 L (.int i :: .ref 0 :: st) σ r ↔ Rn (some (n, xs)) d 212 577 L (.int (xs i.toNatClampNeg) :: st) σ r := r_sci d212_576 hi
theorem x212_581 {n : Nat} {xs : Nat → Int32} {d : Nat} {L st : List Value} {σ : aS} {r : aRes} {i : Int32} (hi : inb i n = true) : Rn (some (n, xs)) d 212 581 L (.int i :: .ref 0 :: st) σ r ↔ Rn (some (n, xs)) d 212 582 L (.int (xs i.toNatClampNeg) :: st) σ r := r_sci d212_581 hi
theorem x212_608 {n : Nat} {xs : Nat → Int32} {d : Nat} {L st : List Value} {σ : aS} {r : aRes} {i : Int32} (hi : inb i n = true) : Rn (some (n, xs)) d 212 608 L (.int i :: .ref 0 :: st) σ r ↔ Rn (some (n, xs)) d 212 609 L (.int (xs i.toNatClampNeg) :: st) σ r := r_sci d212_608 hi
theorem x212_613 {n : Nat} {xs : Nat → Int32} {d : Nat} {L st : List Value} {σ : aS} {r : aRes} {i : Int32} (hi : inb i n = true) : Rn (some (n, xs)) d 212 613 L (.int i :: .ref 0 :: st) σ r ↔ Rn (some (n, xs)) d 212 614 L (.int (xs i.toNatClampNeg) :: st) σ r := r_sci d212_613 hi
theorem x212_622 {n : Nat} {xs : Nat → Int32} {d : Nat} {L st : List Value} {σ : aS} {r : aRes} {i : Int32} (hi : inb i n = true) : Rn (some (n, xs)) d 212 622 L (.int i :: .ref 0 :: st) σ r ↔ Rn (some (n, xs)) d 212 623 L (.int (xs i.toNatClampNeg) :: st) σ r := r_sci d212_622 hi
theorem x212_627 {n : Nat} {xs : Nat → Int32} {d : Nat} {L st : List Value} {σ : aS} {r : aRes} {i : Int32} (hi : inb i n = true) : Rn (some (n, xs)) d 212 627 L (.int i :: .ref 0 :: st) σ r ↔ Rn (some (n, xs)) d 212 628 L (.int (xs i.toNatClampNeg) :: st) σ r := r_sci d212_627 hi
theorem x212_641 {n : Nat} {xs : Nat → Int32} {d : Nat} {L st : List Value} {σ : aS} {r : aRes} {i : Int32} (hi : inb i n = true) : Rn (some (n, xs)) d 212 641 L (.int i :: .ref 0 :: st) σ r ↔ Rn (some (n, xs)) d 212 642 L (.int (xs i.toNatClampNeg) :: st) σ r := r_sci d212_641 hi
theorem x212_646 {n : Nat} {xs : Nat → Int32} {d : Nat} {L st : List Value} {σ : aS} {r : aRes} {i : Int32} (hi : inb i n = true) : Rn (some (n, xs)) d 212 646 L (.int i :: .ref 0 :: st) σ r ↔ Rn (some (n, xs)) d 212 647 L (.int (xs i.toNatClampNeg) :: st) σ r := r_sci d212_646 hi
theorem x212_655 {n : Nat} {xs : Nat → Int32} {d : Nat} {L st : List Value} {σ : aS} {r : aRes} {i : Int32} (hi : inb i n = true) : Rn (some (n, xs)) d 212 655 L (.int i :: .ref 0 :: st) σ r ↔ Rn (some (n, xs)) d 212 656 L (.int (xs i.toNatClampNeg) :: st) σ r := r_sci d212_655 hi
theorem x212_660 {n : Nat} {xs : Nat → Int32} {d : Nat} {L st : List Value} {σ : aS} {r : aRes} {i : Int32} (hi : inb i n = true) : Rn (some (n, xs)) d 212 660 L (.int i :: .ref 0 :: st) σ r ↔ Rn (some (n, xs)) d 212 661 L (.int (xs i.toNatClampNeg) :: st) σ r := r_sci d212_660 hi
theorem x212_674 {n : Nat} {xs : Nat → Int32} {d : Nat} {L st : List Value} {σ : aS} {r : aRes} {i : Int32} (hi : inb i n = true) : Rn (some (n, xs)) d 212 674 L (.int i :: .ref 0 :: st) σ r ↔ Rn (some (n, xs)) d 212 675 L (.int (xs i.toNatClampNeg) :: st) σ r := r_sci d212_674 hi
theorem x212_683 {n : Nat} {xs : Nat → Int32} {d : Nat} {L st : List Value} {σ : aS} {r : aRes} {i : Int32} (hi : inb i n = true) : Rn (some (n, xs)) d 212 683 L (.int i :: .ref 0 :: st) σ r ↔ Rn (some (n, xs)) d 212 684 L (.int (xs i.toNatClampNeg) :: st) σ r := r_sci d212_683 hi
theorem x212_697 {n : Nat} {xs : Nat → Int32} {d : Nat} {L st : List Value} {σ : aS} {r : aRes} {i : Int32} (hi : inb i n = true) : Rn (some (n, xs)) d 212 697 L (.int i :: .ref 0 :: st) σ r ↔ Rn (some (n, xs)) d 212 698 L (.int (xs i.toNatClampNeg) :: st) σ r := r_sci d212_697 hi
theorem x212_702 {n : Nat} {xs : Nat → Int32} {d : Nat} {L st : List Value} {σ : aS} {r : aRes} {i : Int32} (hi : inb i n = true) : Rn (some (n, xs)) d 212 702 L (.int i :: .ref 0 :: st) σ r ↔ Rn (some (n, xs)) d 212 703 L (.int (xs i.toNatClampNeg) :: st) σ r := r_sci d212_702 hi
theorem x212_711 {n : Nat} {xs : Nat → Int32} {d : Nat} {L st : List Value} {σ : aS} {r : aRes} {i : Int32} (hi : inb i n = true) : Rn (some (n, xs)) d 212 711 L (.int i :: .ref 0 :: st) σ r ↔ Rn (some (n, xs)) d 212 712 L (.int (xs i.toNatClampNeg) :: st) σ r := r_sci d212_711 hi
theorem x212_716 {n : Nat} {xs : Nat → Int32} {d : Nat} {L st : List Value} {σ : aS} {r : aRes} {i : Int32} (hi : inb i n = true) : Rn (some (n, xs)) d 212 716 L (.int i :: .ref 0 :: st) σ r ↔ Rn (some (n, xs)) d 212 717 L (.int (xs i.toNatClampNeg) :: st) σ r := r_sci d212_716 hi
theorem x212_730 {n : Nat} {xs : Nat → Int32} {d : Nat} {L st : List Value} {σ : aS} {r : aRes} {i : Int32} (hi : inb i n = true) : Rn (some (n, xs)) d 212 730 L (.int i :: .ref 0 :: st) σ r ↔ Rn (some (n, xs)) d 212 731 L (.int (xs i.toNatClampNeg) :: st) σ r := r_sci d212_730 hi
theorem x212_739 {n : Nat} {xs : Nat → Int32} {d : Nat} {L st : List Value} {σ : aS} {r : aRes} {i : Int32} (hi : inb i n = true) : Rn (some (n, xs)) d 212 739 L (.int i :: .ref 0 :: st) σ r ↔ Rn (some (n, xs)) d 212 740 L (.int (xs i.toNatClampNeg) :: st) σ r := r_sci d212_739 hi
theorem x212_753 {n : Nat} {xs : Nat → Int32} {d : Nat} {L st : List Value} {σ : aS} {r : aRes} {i : Int32} (hi : inb i n = true) : Rn (some (n, xs)) d 212 753 L (.int i :: .ref 0 :: st) σ r ↔ Rn (some (n, xs)) d 212 754 L (.int (xs i.toNatClampNeg) :: st) σ r := r_sci d212_753 hi
theorem x212_762 {n : Nat} {xs : Nat → Int32} {d : Nat} {L st : List Value} {σ : aS} {r : aRes} {i : Int32} (hi : inb i n = true) : Rn (some (n, xs)) d 212 762 L (.int i :: .ref 0 :: st) σ r ↔ Rn (some (n, xs)) d 212 763 L (.int (xs i.toNatClampNeg) :: st) σ r := r_sci d212_762 hi
theorem x212_776 {n : Nat} {xs : Nat → Int32} {d : Nat} {L st : List Value} {σ : aS} {r : aRes} {i : Int32} (hi : inb i n = true) : Rn (some (n, xs)) d 212 776 L (.int i :: .ref 0 :: st) σ r ↔ Rn (some (n, xs)) d 212 777 L (.int (xs i.toNatClampNeg) :: st) σ r := r_sci d212_776 hi
theorem x212_781 {n : Nat} {xs : Nat → Int32} {d : Nat} {L st : List Value} {σ : aS} {r : aRes} {i : Int32} (hi : inb i n = true) : Rn (some (n, xs)) d 212 781 L (.int i :: .ref 0 :: st) σ r ↔ Rn (some (n, xs)) d 212 782 L (.int (xs i.toNatClampNeg) :: st) σ r := r_sci d212_781 hi
theorem x212_790 {n : Nat} {xs : Nat → Int32} {d : Nat} {L st : List Value} {σ : aS} {r : aRes} {i : Int32} (hi : inb i n = true) : Rn (some (n, xs)) d 212 790 L (.int i :: .ref 0 :: st) σ r ↔ Rn (some (n, xs)) d 212 791 L (.int (xs i.toNatClampNeg) :: st) σ r := r_sci d212_790 hi
theorem x212_795 {n : Nat} {xs : Nat → Int32} {d : Nat} {L st : List Value} {σ : aS} {r : aRes} {i : Int32} (hi : inb i n = true) : Rn (some (n, xs)) d 212 795 L (.int i :: .ref 0 :: st) σ r ↔ Rn (some (n, xs)) d 212 796 L (.int (xs i.toNatClampNeg) :: st) σ r := r_sci d212_795 hi
theorem x212_809 {n : Nat} {xs : Nat → Int32} {d : Nat} {L st : List Value} {σ : aS} {r : aRes} {i : Int32} (hi : inb i n = true) : Rn (some (n, xs)) d 212 809 L (.int i :: .ref 0 :: st) σ r ↔ Rn (some (n, xs)) d 212 810 L (.int (xs i.toNatClampNeg) :: st) σ r := r_sci d212_809 hi
theorem x212_818 {n : Nat} {xs : Nat → Int32} {d : Nat} {L st : List Value} {σ : aS} {r : aRes} {i : Int32} (hi : inb i n = true) : Rn (some (n, xs)) d 212 818 L (.int i :: .ref 0 :: st) σ r ↔ Rn (some (n, xs)) d 212 819 L (.int (xs i.toNatClampNeg) :: st) σ r := r_sci d212_818 hi
theorem x212_832 {n : Nat} {xs : Nat → Int32} {d : Nat} {L st : List Value} {σ : aS} {r : aRes} {i : Int32} (hi : inb i n = true) : Rn (some (n, xs)) d 212 832 L (.int i :: .ref 0 :: st) σ r ↔ Rn (some (n, xs)) d 212 833 L (.int (xs i.toNatClampNeg) :: st) σ r := r_sci d212_832 hi
theorem x212_837 {n : Nat} {xs : Nat → Int32} {d : Nat} {L st : List Value} {σ : aS} {r : aRes} {i : Int32} (hi : inb i n = true) : Rn (some (n, xs)) d 212 837 L (.int i :: .ref 0 :: st) σ r ↔ Rn (some (n, xs)) d 212 838 L (.int (xs i.toNatClampNeg) :: st) σ r := r_sci d212_837 hi
theorem x212_842 {n : Nat} {xs : Nat → Int32} {d : Nat} {L st : List Value} {σ : aS} {r : aRes} {i : Int32} (hi : inb i n = true) : Rn (some (n, xs)) d 212 842 L (.int i :: .ref 0 :: st) σ r ↔ Rn (some (n, xs)) d 212 843 L (.int (xs i.toNatClampNeg) :: st) σ r := r_sci d212_842 hi
theorem x212_851 {n : Nat} {xs : Nat → Int32} {d : Nat} {L st : List Value} {σ : aS} {r : aRes} {i : Int32} (hi : inb i n = true) : Rn (some (n, xs)) d 212 851 L (.int i :: .ref 0 :: st) σ r ↔ Rn (some (n, xs)) d 212 852 L (.int (xs i.toNatClampNeg) :: st) σ r := r_sci d212_851 hi
theorem x212_856 {n : Nat} {xs : Nat → Int32} {d : Nat} {L st : List Value} {σ : aS} {r : aRes} {i : Int32} (hi : inb i n = true) : Rn (some (n, xs)) d 212 856 L (.int i :: .ref 0 :: st) σ r ↔ Rn (some (n, xs)) d 212 857 L (.int (xs i.toNatClampNeg) :: st) σ r := r_sci d212_856 hi
theorem x212_861 {n : Nat} {xs : Nat → Int32} {d : Nat} {L st : List Value} {σ : aS} {r : aRes} {i : Int32} (hi : inb i n = true) : Rn (some (n, xs)) d 212 861 L (.int i :: .ref 0 :: st) σ r ↔ Rn (some (n, xs)) d 212 862 L (.int (xs i.toNatClampNeg) :: st) σ r := r_sci d212_861 hi
theorem x212_876 {n : Nat} {xs : Nat → Int32} {d : Nat} {L st : List Value} {σ : aS} {r : aRes} {i : Int32} (hi : inb i n = true) : Rn (some (n, xs)) d 212 876 L (.int i :: .ref 0 :: st) σ r ↔ Rn (some (n, xs)) d 212 877 L (.int (xs i.toNatClampNeg) :: st) σ r := r_sci d212_876 hi
theorem x212_885 {n : Nat} {xs : Nat → Int32} {d : Nat} {L st : List Value} {σ : aS} {r : aRes} {i : Int32} (hi : inb i n = true) : Rn (some (n, xs)) d 212 885 L (.int i :: .ref 0 :: st) σ r ↔ Rn (some (n, xs)) d 212 886 L (.int (xs i.toNatClampNeg) :: st) σ r := r_sci d212_885 hi
theorem x212_900 {n : Nat} {xs : Nat → Int32} {d : Nat} {L st : List Value} {σ : aS} {r : aRes} {i : Int32} (hi : inb i n = true) : Rn (some (n, xs)) d 212 900 L (.int i :: .ref 0 :: st) σ r ↔ Rn (some (n, xs)) d 212 901 L (.int (xs i.toNatClampNeg) :: st) σ r := r_sci d212_900 hi
theorem x212_905 {n : Nat} {xs : Nat → Int32} {d : Nat} {L st : List Value} {σ : aS} {r : aRes} {i : Int32} (hi : inb i n = true) : Rn (some (n, xs)) d 212 905 L (.int i :: .ref 0 :: st) σ r ↔ Rn (some (n, xs)) d 212 906 L (.int (xs i.toNatClampNeg) :: st) σ r := r_sci d212_905 hi
theorem x212_914 {n : Nat} {xs : Nat → Int32} {d : Nat} {L st : List Value} {σ : aS} {r : aRes} {i : Int32} (hi : inb i n = true) : Rn (some (n, xs)) d 212 914 L (.int i :: .ref 0 :: st) σ r ↔ Rn (some (n, xs)) d 212 915 L (.int (xs i.toNatClampNeg) :: st) σ r := r_sci d212_914 hi
theorem x212_919 {n : Nat} {xs : Nat → Int32} {d : Nat} {L st : List Value} {σ : aS} {r : aRes} {i : Int32} (hi : inb i n = true) : Rn (some (n, xs)) d 212 919 L (.int i :: .ref 0 :: st) σ r ↔ Rn (some (n, xs)) d 212 920 L (.int (xs i.toNatClampNeg) :: st) σ r := r_sci d212_919 hi
theorem x212_946 {n : Nat} {xs : Nat → Int32} {d : Nat} {L st : List Value} {σ : aS} {r : aRes} {i : Int32} (hi : inb i n = true) : Rn (some (n, xs)) d 212 946 L (.int i :: .ref 0 :: st) σ r ↔ Rn (some (n, xs)) d 212 947 L (.int (xs i.toNatClampNeg) :: st) σ r := r_sci d212_946 hi
theorem x212_951 {n : Nat} {xs : Nat → Int32} {d : Nat} {L st : List Value} {σ : aS} {r : aRes} {i : Int32} (hi : inb i n = true) : Rn (some (n, xs)) d 212 951 L (.int i :: .ref 0 :: st) σ r ↔ Rn (some (n, xs)) d 212 952 L (.int (xs i.toNatClampNeg) :: st) σ r := r_sci d212_951 hi
theorem x212_960 {n : Nat} {xs : Nat → Int32} {d : Nat} {L st : List Value} {σ : aS} {r : aRes} {i : Int32} (hi : inb i n = true) : Rn (some (n, xs)) d 212 960 L (.int i :: .ref 0 :: st) σ r ↔ Rn (some (n, xs)) d 212 961 L (.int (xs i.toNatClampNeg) :: st) σ r := r_sci d212_960 hi
theorem x212_965 {n : Nat} {xs : Nat → Int32} {d : Nat} {L st : List Value} {σ : aS} {r : aRes} {i : Int32} (hi : inb i n = true) : Rn (some (n, xs)) d 212 965 L (.int i :: .ref 0 :: st) σ r ↔ Rn (some (n, xs)) d 212 966 L (.int (xs i.toNatClampNeg) :: st) σ r := r_sci d212_965 hi
theorem x212_1005 {n : Nat} {xs : Nat → Int32} {d : Nat} {L st : List Value} {σ : aS} {r : aRes} {i : Int32} (hi : inb i n = true) : Rn (some (n, xs)) d 212 1005 L (.int i :: .ref 0 :: st) σ r ↔ Rn (some (n, xs)) d 212 1006 L (.int (xs i.toNatClampNeg) :: st) σ r := r_sci d212_1005 hi
theorem x212_1010 {n : Nat} {xs : Nat → Int32} {d : Nat} {L st : List Value} {σ : aS} {r : aRes} {i : Int32} (hi : inb i n = true) : Rn (some (n, xs)) d 212 1010 L (.int i :: .ref 0 :: st) σ r ↔ Rn (some (n, xs)) d 212 1011 L (.int (xs i.toNatClampNeg) :: st) σ r := r_sci d212_1010 hi
theorem x212_1015 {n : Nat} {xs : Nat → Int32} {d : Nat} {L st : List Value} {σ : aS} {r : aRes} {i : Int32} (hi : inb i n = true) : Rn (some (n, xs)) d 212 1015 L (.int i :: .ref 0 :: st) σ r ↔ Rn (some (n, xs)) d 212 1016 L (.int (xs i.toNatClampNeg) :: st) σ r := r_sci d212_1015 hi
theorem x212_1024 {n : Nat} {xs : Nat → Int32} {d : Nat} {L st : List Value} {σ : aS} {r : aRes} {i : Int32} (hi : inb i n = true) : Rn (some (n, xs)) d 212 1024 L (.int i :: .ref 0 :: st) σ r ↔ Rn (some (n, xs)) d 212 1025 L (.int (xs i.toNatClampNeg) :: st) σ r := r_sci d212_1024 hi
theorem x212_1029 {n : Nat} {xs : Nat → Int32} {d : Nat} {L st : List Value} {σ : aS} {r : aRes} {i : Int32} (hi : inb i n = true) : Rn (some (n, xs)) d 212 1029 L (.int i :: .ref 0 :: st) σ r ↔ Rn (some (n, xs)) d 212 1030 L (.int (xs i.toNatClampNeg) :: st) σ r := r_sci d212_1029 hi
theorem x212_1034 {n : Nat} {xs : Nat → Int32} {d : Nat} {L st : List Value} {σ : aS} {r : aRes} {i : Int32} (hi : inb i n = true) : Rn (some (n, xs)) d 212 1034 L (.int i :: .ref 0 :: st) σ r ↔ Rn (some (n, xs)) d 212 1035 L (.int (xs i.toNatClampNeg) :: st) σ r := r_sci d212_1034 hi
theorem x212_1048 {n : Nat} {xs : Nat → Int32} {d : Nat} {L st : List Value} {σ : aS} {r : aRes} {i : Int32} (hi : inb i n = true) : Rn (some (n, xs)) d 212 1048 L (.int i :: .ref 0 :: st) σ r ↔ Rn (some (n, xs)) d 212 1049 L (.int (xs i.toNatClampNeg) :: st) σ r := r_sci d212_1048 hi
theorem x212_1057 {n : Nat} {xs : Nat → Int32} {d : Nat} {L st : List Value} {σ : aS} {r : aRes} {i : Int32} (hi : inb i n = true) : Rn (some (n, xs)) d 212 1057 L (.int i :: .ref 0 :: st) σ r ↔ Rn (some (n, xs)) d 212 1058 L (.int (xs i.toNatClampNeg) :: st) σ r := r_sci d212_1057 hi
theorem x212_1071 {n : Nat} {xs : Nat → Int32} {d : Nat} {L st : List Value} {σ : aS} {r : aRes} {i : Int32} (hi : inb i n = true) : Rn (some (n, xs)) d 212 1071 L (.int i :: .ref 0 :: st) σ r ↔ Rn (some (n, xs)) d 212 1072 L (.int (xs i.toNatClampNeg) :: st) σ r := r_sci d212_1071 hi
theorem x212_1076 {n : Nat} {xs : Nat → Int32} {d : Nat} {L st : List Value} {σ : aS} {r : aRes} {i : Int32} (hi : inb i n = true) : Rn (some (n, xs)) d 212 1076 L (.int i :: .ref 0 :: st) σ r ↔ Rn (some (n, xs)) d 212 1077 L (.int (xs i.toNatClampNeg) :: st) σ r := r_sci d212_1076 hi
theorem x212_1085 {n : Nat} {xs : Nat → Int32} {d : Nat} {L st : List Value} {σ : aS} {r : aRes} {i : Int32} (hi : inb i n = true) : Rn (some (n, xs)) d 212 1085 L (.int i :: .ref 0 :: st) σ r ↔ Rn (some (n, xs)) d 212 1086 L (.int (xs i.toNatClampNeg) :: st) σ r := r_sci d212_1085 hi
theorem x212_1090 {n : Nat} {xs : Nat → Int32} {d : Nat} {L st : List Value} {σ : aS} {r : aRes} {i : Int32} (hi : inb i n = true) : Rn (some (n, xs)) d 212 1090 L (.int i :: .ref 0 :: st) σ r ↔ Rn (some (n, xs)) d 212 1091 L (.int (xs i.toNatClampNeg) :: st) σ r := r_sci d212_1090 hi
theorem x212_1104 {n : Nat} {xs : Nat → Int32} {d : Nat} {L st : List Value} {σ : aS} {r : aRes} {i : Int32} (hi : inb i n = true) : Rn (some (n, xs)) d 212 1104 L (.int i :: .ref 0 :: st) σ r ↔ Rn (some (n, xs)) d 212 1105 L (.int (xs i.toNatClampNeg) :: st) σ r := r_sci d212_1104 hi
theorem x212_1113 {n : Nat} {xs : Nat → Int32} {d : Nat} {L st : List Value} {σ : aS} {r : aRes} {i : Int32} (hi : inb i n = true) : Rn (some (n, xs)) d 212 1113 L (.int i :: .ref 0 :: st) σ r ↔ Rn (some (n, xs)) d 212 1114 L (.int (xs i.toNatClampNeg) :: st) σ r := r_sci d212_1113 hi
theorem x212_1127 {n : Nat} {xs : Nat → Int32} {d : Nat} {L st : List Value} {σ : aS} {r : aRes} {i : Int32} (hi : inb i n = true) : Rn (some (n, xs)) d 212 1127 L (.int i :: .ref 0 :: st) σ r ↔ Rn (some (n, xs)) d 212 1128 L (.int (xs i.toNatClampNeg) :: st) σ r := r_sci d212_1127 hi
theorem x212_1132 {n : Nat} {xs : Nat → Int32} {d : Nat} {L st : List Value} {σ : aS} {r : aRes} {i : Int32} (hi : inb i n = true) : Rn (some (n, xs)) d 212 1132 L (.int i :: .ref 0 :: st) σ r ↔ Rn (some (n, xs)) d 212 1133 L (.int (xs i.toNatClampNeg) :: st) σ r := r_sci d212_1132 hi
theorem x212_1137 {n : Nat} {xs : Nat → Int32} {d : Nat} {L st : List Value} {σ : aS} {r : aRes} {i : Int32} (hi : inb i n = true) : Rn (some (n, xs)) d 212 1137 L (.int i :: .ref 0 :: st) σ r ↔ Rn (some (n, xs)) d 212 1138 L (.int (xs i.toNatClampNeg) :: st) σ r := r_sci d212_1137 hi
theorem x212_1146 {n : Nat} {xs : Nat → Int32} {d : Nat} {L st : List Value} {σ : aS} {r : aRes} {i : Int32} (hi : inb i n = true) : Rn (some (n, xs)) d 212 1146 L (.int i :: .ref 0 :: st) σ r ↔ Rn (some (n, xs)) d 212 1147 L (.int (xs i.toNatClampNeg) :: st) σ r := r_sci d212_1146 hi
theorem x212_1151 {n : Nat} {xs : Nat → Int32} {d : Nat} {L st : List Value} {σ : aS} {r : aRes} {i : Int32} (hi : inb i n = true) : Rn (some (n, xs)) d 212 1151 L (.int i :: .ref 0 :: st) σ r ↔ Rn (some (n, xs)) d 212 1152 L (.int (xs i.toNatClampNeg) :: st) σ r := r_sci d212_1151 hi
theorem x212_1156 {n : Nat} {xs : Nat → Int32} {d : Nat} {L st : List Value} {σ : aS} {r : aRes} {i : Int32} (hi : inb i n = true) : Rn (some (n, xs)) d 212 1156 L (.int i :: .ref 0 :: st) σ r ↔ Rn (some (n, xs)) d 212 1157 L (.int (xs i.toNatClampNeg) :: st) σ r := r_sci d212_1156 hi
theorem x212_1170 {n : Nat} {xs : Nat → Int32} {d : Nat} {L st : List Value} {σ : aS} {r : aRes} {i : Int32} (hi : inb i n = true) : Rn (some (n, xs)) d 212 1170 L (.int i :: .ref 0 :: st) σ r ↔ Rn (some (n, xs)) d 212 1171 L (.int (xs i.toNatClampNeg) :: st) σ r := r_sci d212_1170 hi
theorem x212_1175 {n : Nat} {xs : Nat → Int32} {d : Nat} {L st : List Value} {σ : aS} {r : aRes} {i : Int32} (hi : inb i n = true) : Rn (some (n, xs)) d 212 1175 L (.int i :: .ref 0 :: st) σ r ↔ Rn (some (n, xs)) d 212 1176 L (.int (xs i.toNatClampNeg) :: st) σ r := r_sci d212_1175 hi
theorem x212_1180 {n : Nat} {xs : Nat → Int32} {d : Nat} {L st : List Value} {σ : aS} {r : aRes} {i : Int32} (hi : inb i n = true) : Rn (some (n, xs)) d 212 1180 L (.int i :: .ref 0 :: st) σ r ↔ Rn (some (n, xs)) d 212 1181 L (.int (xs i.toNatClampNeg) :: st) σ r := r_sci d212_1180 hi
theorem x212_1189 {n : Nat} {xs : Nat → Int32} {d : Nat} {L st : List Value} {σ : aS} {r : aRes} {i : Int32} (hi : inb i n = true) : Rn (some (n, xs)) d 212 1189 L (.int i :: .ref 0 :: st) σ r ↔ Rn (some (n, xs)) d 212 1190 L (.int (xs i.toNatClampNeg) :: st) σ r := r_sci d212_1189 hi
theorem x212_1204 {n : Nat} {xs : Nat → Int32} {d : Nat} {L st : List Value} {σ : aS} {r : aRes} {i : Int32} (hi : inb i n = true) : Rn (some (n, xs)) d 212 1204 L (.int i :: .ref 0 :: st) σ r ↔ Rn (some (n, xs)) d 212 1205 L (.int (xs i.toNatClampNeg) :: st) σ r := r_sci d212_1204 hi
theorem x212_1209 {n : Nat} {xs : Nat → Int32} {d : Nat} {L st : List Value} {σ : aS} {r : aRes} {i : Int32} (hi : inb i n = true) : Rn (some (n, xs)) d 212 1209 L (.int i :: .ref 0 :: st) σ r ↔ Rn (some (n, xs)) d 212 1210 L (.int (xs i.toNatClampNeg) :: st) σ r := r_sci d212_1209 hi
theorem x212_1214 {n : Nat} {xs : Nat → Int32} {d : Nat} {L st : List Value} {σ : aS} {r : aRes} {i : Int32} (hi : inb i n = true) : Rn (some (n, xs)) d 212 1214 L (.int i :: .ref 0 :: st) σ r ↔ Rn (some (n, xs)) d 212 1215 L (.int (xs i.toNatClampNeg) :: st) σ r := r_sci d212_1214 hi
theorem x212_1223 {n : Nat} {xs : Nat → Int32} {d : Nat} {L st : List Value} {σ : aS} {r : aRes} {i : Int32} (hi : inb i n = true) : Rn (some (n, xs)) d 212 1223 L (.int i :: .ref 0 :: st) σ r ↔ Rn (some (n, xs)) d 212 1224 L (.int (xs i.toNatClampNeg) :: st) σ r := r_sci d212_1223 hi
theorem x212_1243 {n : Nat} {xs : Nat → Int32} {d : Nat} {L st : List Value} {σ : aS} {r : aRes} {i : Int32} (hi : inb i n = true) : Rn (some (n, xs)) d 212 1243 L (.int i :: .ref 0 :: st) σ r ↔ Rn (some (n, xs)) d 212 1244 L (.int (xs i.toNatClampNeg) :: st) σ r := r_sci d212_1243 hi
theorem x212_1248 {n : Nat} {xs : Nat → Int32} {d : Nat} {L st : List Value} {σ : aS} {r : aRes} {i : Int32} (hi : inb i n = true) : Rn (some (n, xs)) d 212 1248 L (.int i :: .ref 0 :: st) σ r ↔ Rn (some (n, xs)) d 212 1249 L (.int (xs i.toNatClampNeg) :: st) σ r := r_sci d212_1248 hi
theorem x212_1257 {n : Nat} {xs : Nat → Int32} {d : Nat} {L st : List Value} {σ : aS} {r : aRes} {i : Int32} (hi : inb i n = true) : Rn (some (n, xs)) d 212 1257 L (.int i :: .ref 0 :: st) σ r ↔ Rn (some (n, xs)) d 212 1258 L (.int (xs i.toNatClampNeg) :: st) σ r := r_sci d212_1257 hi
theorem x212_1262 {n : Nat} {xs : Nat → Int32} {d : Nat} {L st : List Value} {σ : aS} {r : aRes} {i : Int32} (hi : inb i n = true) : Rn (some (n, xs)) d 212 1262 L (.int i :: .ref 0 :: st) σ r ↔ Rn (some (n, xs)) d 212 1263 L (.int (xs i.toNatClampNeg) :: st) σ r := r_sci d212_1262 hi
theorem x212_1277 {n : Nat} {xs : Nat → Int32} {d : Nat} {L st : List Value} {σ : aS} {r : aRes} {i : Int32} (hi : inb i n = true) : Rn (some (n, xs)) d 212 1277 L (.int i :: .ref 0 :: st) σ r ↔ Rn (some (n, xs)) d 212 1278 L (.int (xs i.toNatClampNeg) :: st) σ r := r_sci d212_1277 hi
theorem x212_1282 {n : Nat} {xs : Nat → Int32} {d : Nat} {L st : List Value} {σ : aS} {r : aRes} {i : Int32} (hi : inb i n = true) : Rn (some (n, xs)) d 212 1282 L (.int i :: .ref 0 :: st) σ r ↔ Rn (some (n, xs)) d 212 1283 L (.int (xs i.toNatClampNeg) :: st) σ r := r_sci d212_1282 hi
theorem x212_1287 {n : Nat} {xs : Nat → Int32} {d : Nat} {L st : List Value} {σ : aS} {r : aRes} {i : Int32} (hi : inb i n = true) : Rn (some (n, xs)) d 212 1287 L (.int i :: .ref 0 :: st) σ r ↔ Rn (some (n, xs)) d 212 1288 L (.int (xs i.toNatClampNeg) :: st) σ r := r_sci d212_1287 hi
theorem x212_1292 {n : Nat} {xs : Nat → Int32} {d : Nat} {L st : List Value} {σ : aS} {r : aRes} {i : Int32} (hi : inb i n = true) : Rn (some (n, xs)) d 212 1292 L (.int i :: .ref 0 :: st) σ r ↔ Rn (some (n, xs)) d 212 1293 L (.int (xs i.toNatClampNeg) :: st) σ r := r_sci d212_1292 hi
theorem x212_1297 {n : Nat} {xs : Nat → Int32} {d : Nat} {L st : List Value} {σ : aS} {r : aRes} {i : Int32} (hi : inb i n = true) : Rn (some (n, xs)) d 212 1297 L (.int i :: .ref 0 :: st) σ r ↔ Rn (some (n, xs)) d 212 1298 L (.int (xs i.toNatClampNeg) :: st) σ r := r_sci d212_1297 hi
theorem x212_1306 {n : Nat} {xs : Nat → Int32} {d : Nat} {L st : List Value} {σ : aS} {r : aRes} {i : Int32} (hi : inb i n = true) : Rn (some (n, xs)) d 212 1306 L (.int i :: .ref 0 :: st) σ r ↔ Rn (some (n, xs)) d 212 1307 L (.int (xs i.toNatClampNeg) :: st) σ r := r_sci d212_1306 hi
theorem x212_1311 {n : Nat} {xs : Nat → Int32} {d : Nat} {L st : List Value} {σ : aS} {r : aRes} {i : Int32} (hi : inb i n = true) : Rn (some (n, xs)) d 212 1311 L (.int i :: .ref 0 :: st) σ r ↔ Rn (some (n, xs)) d 212 1312 L (.int (xs i.toNatClampNeg) :: st) σ r := r_sci d212_1311 hi
theorem x212_1316 {n : Nat} {xs : Nat → Int32} {d : Nat} {L st : List Value} {σ : aS} {r : aRes} {i : Int32} (hi : inb i n = true) : Rn (some (n, xs)) d 212 1316 L (.int i :: .ref 0 :: st) σ r ↔ Rn (some (n, xs)) d 212 1317 L (.int (xs i.toNatClampNeg) :: st) σ r := r_sci d212_1316 hi
theorem x212_1321 {n : Nat} {xs : Nat → Int32} {d : Nat} {L st : List Value} {σ : aS} {r : aRes} {i : Int32} (hi : inb i n = true) : Rn (some (n, xs)) d 212 1321 L (.int i :: .ref 0 :: st) σ r ↔ Rn (some (n, xs)) d 212 1322 L (.int (xs i.toNatClampNeg) :: st) σ r := r_sci d212_1321 hi
theorem x212_1326 {n : Nat} {xs : Nat → Int32} {d : Nat} {L st : List Value} {σ : aS} {r : aRes} {i : Int32} (hi : inb i n = true) : Rn (some (n, xs)) d 212 1326 L (.int i :: .ref 0 :: st) σ r ↔ Rn (some (n, xs)) d 212 1327 L (.int (xs i.toNatClampNeg) :: st) σ r := r_sci d212_1326 hi
