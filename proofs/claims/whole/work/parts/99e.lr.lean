/-! a row an instruction of the law's loop (written by wip/whole/mk99e.py) -/
theorem r_scl {n : Nat} {xs : Nat → Int32} {d m pc : Nat} {L st : List Value} {σ : aS} {r : aRes} (hd : decode (mC m) pc = .ok (.arraylength, 1)) : Rn (some (n, xs)) d m pc L (.ref 0 :: st) σ r ↔ Rn (some (n, xs)) d m (pc + 1) L (.int (nI n) :: st) σ r := Rn_next (stp_of hd (by simp only [stpI, if_pos]; rfl))
theorem r_sci {n : Nat} {xs : Nat → Int32} {d m pc : Nat} {L st : List Value} {σ : aS} {r : aRes} {i : Int32} (hd : decode (mC m) pc = .ok (.iaload, 1)) (hi : inb i n = true) : Rn (some (n, xs)) d m pc L (.int i :: .ref 0 :: st) σ r ↔ Rn (some (n, xs)) d m (pc + 1) L (.int (xs i.toNatClampNeg) :: st) σ r := by
  have e : arI (some (n, xs)) σ 0 = some (n, xs) := rfl
  exact Rn_next (stp_of hd (by simp only [stpI, if_pos, e, hi]; rfl))
theorem d211_18 : decode (mC 211) 18 = .ok (.iload_n 3, 1) := by decide +kernel
theorem x211_18 {sc : aSc} {d : Nat} {r : aRes} {a0 : Value} {a1 : Value} {a2 : Value} {x3 : Int32} {st : List Value} {σ : aS} : Rn sc d 211 18 [a0, a1, a2, .int x3] st σ r ↔ Rn sc d 211 19 [a0, a1, a2, .int x3] (.int x3 :: st) σ r := r_iload_n d211_18 rfl
theorem d211_19 : decode (mC 211) 19 = .ok (.aload_n 0, 1) := by decide +kernel
theorem x211_19 {sc : aSc} {d : Nat} {r : aRes} {x0 : Nat} {a1 : Value} {a2 : Value} {a3 : Value} {st : List Value} {σ : aS} : Rn sc d 211 19 [.ref x0, a1, a2, a3] st σ r ↔ Rn sc d 211 20 [.ref x0, a1, a2, a3] (.ref x0 :: st) σ r := r_aload_n d211_19 rfl
theorem d211_20 : decode (mC 211) 20 = .ok (.arraylength, 1) := by decide +kernel
theorem d211_21 : decode (mC 211) 21 = .ok (.bipush 7, 2) := by decide +kernel
theorem x211_21 {sc : aSc} {d : Nat} {r : aRes} {L : List Value} {st : List Value} {σ : aS} : Rn sc d 211 21 L st σ r ↔ Rn sc d 211 23 L (.int 7 :: st) σ r := r_bipush d211_21 (by decide)
theorem d211_23 : decode (mC 211) 23 = .ok (.isub, 1) := by decide +kernel
theorem x211_23 {sc : aSc} {d : Nat} {r : aRes} {L : List Value} {st : List Value} {σ : aS} {x y : Int32} : Rn sc d 211 23 L (.int y :: .int x :: st) σ r ↔ Rn sc d 211 24 L (.int (x - y) :: st) σ r := r_isub d211_23
theorem d211_24 : decode (mC 211) 24 = .ok (.if_icmp .gt 1317, 3) := by decide +kernel
theorem x211_24 {sc : aSc} {d : Nat} {r : aRes} {L : List Value} {st : List Value} {σ : aS} {x y : Int32} : Rn sc d 211 24 L (.int y :: .int x :: st) σ r ↔ if y < x then Rn sc d 211 1341 L st σ r else Rn sc d 211 27 L st σ r := r_icmp_gt d211_24 rfl
theorem d211_27 : decode (mC 211) 27 = .ok (.aload_n 0, 1) := by decide +kernel
theorem x211_27 {sc : aSc} {d : Nat} {r : aRes} {x0 : Nat} {a1 : Value} {a2 : Value} {a3 : Value} {st : List Value} {σ : aS} : Rn sc d 211 27 [.ref x0, a1, a2, a3] st σ r ↔ Rn sc d 211 28 [.ref x0, a1, a2, a3] (.ref x0 :: st) σ r := r_aload_n d211_27 rfl
theorem d211_28 : decode (mC 211) 28 = .ok (.iload_n 3, 1) := by decide +kernel
theorem x211_28 {sc : aSc} {d : Nat} {r : aRes} {a0 : Value} {a1 : Value} {a2 : Value} {x3 : Int32} {st : List Value} {σ : aS} : Rn sc d 211 28 [a0, a1, a2, .int x3] st σ r ↔ Rn sc d 211 29 [a0, a1, a2, .int x3] (.int x3 :: st) σ r := r_iload_n d211_28 rfl
theorem d211_29 : decode (mC 211) 29 = .ok (.iaload, 1) := by decide +kernel
theorem d211_30 : decode (mC 211) 30 = .ok (.bipush 63, 2) := by decide +kernel
theorem x211_30 {sc : aSc} {d : Nat} {r : aRes} {L : List Value} {st : List Value} {σ : aS} : Rn sc d 211 30 L st σ r ↔ Rn sc d 211 32 L (.int 63 :: st) σ r := r_bipush d211_30 (by decide)
theorem d211_32 : decode (mC 211) 32 = .ok (.iand, 1) := by decide +kernel
theorem x211_32 {sc : aSc} {d : Nat} {r : aRes} {L : List Value} {st : List Value} {σ : aS} {x y : Int32} : Rn sc d 211 32 L (.int y :: .int x :: st) σ r ↔ Rn sc d 211 33 L (.int (x &&& y) :: st) σ r := r_iand d211_32
theorem d211_33 : decode (mC 211) 33 = .ok (.tableswitch 1302 0 35 #[159, 234, 267, 310, 353, 376, 389, 412, 445, 458, 481, 524, 557, 570, 603, 636, 659, 692, 715, 738, 771, 794, 838, 862, 895, 908, 941, 954, 967, 1010, 1033, 1066, 1089, 1132, 1205, 1239], 159) := by decide +kernel
theorem x211_33 {sc : aSc} {d : Nat} {r : aRes} {L : List Value} {st : List Value} {σ : aS} {x : Int32} : Rn sc d 211 33 L (.int x :: st) σ r ↔ (if x = 0 then Rn sc d 211 192 L st σ r else (if x = 1 then Rn sc d 211 267 L st σ r else (if x = 2 then Rn sc d 211 300 L st σ r else (if x = 3 then Rn sc d 211 343 L st σ r else (if x = 4 then Rn sc d 211 386 L st σ r else (if x = 5 then Rn sc d 211 409 L st σ r else (if x = 6 then Rn sc d 211 422 L st σ r else (if x = 7 then Rn sc d 211 445 L st σ r else (if x = 8 then Rn sc d 211 478 L st σ r else (if x = 9 then Rn sc d 211 491 L st σ r else (if x = 10 then Rn sc d 211 514 L st σ r else (if x = 11 then Rn sc d 211 557 L st σ r else (if x = 12 then Rn sc d 211 590 L st σ r else (if x = 13 then Rn sc d 211 603 L st σ r else (if x = 14 then Rn sc d 211 636 L st σ r else (if x = 15 then Rn sc d 211 669 L st σ r else (if x = 16 then Rn sc d 211 692 L st σ r else (if x = 17 then Rn sc d 211 725 L st σ r else (if x = 18 then Rn sc d 211 748 L st σ r else (if x = 19 then Rn sc d 211 771 L st σ r else (if x = 20 then Rn sc d 211 804 L st σ r else (if x = 21 then Rn sc d 211 827 L st σ r else (if x = 22 then Rn sc d 211 871 L st σ r else (if x = 23 then Rn sc d 211 895 L st σ r else (if x = 24 then Rn sc d 211 928 L st σ r else (if x = 25 then Rn sc d 211 941 L st σ r else (if x = 26 then Rn sc d 211 974 L st σ r else (if x = 27 then Rn sc d 211 987 L st σ r else (if x = 28 then Rn sc d 211 1000 L st σ r else (if x = 29 then Rn sc d 211 1043 L st σ r else (if x = 30 then Rn sc d 211 1066 L st σ r else (if x = 31 then Rn sc d 211 1099 L st σ r else (if x = 32 then Rn sc d 211 1122 L st σ r else (if x = 33 then Rn sc d 211 1165 L st σ r else (if x = 34 then Rn sc d 211 1238 L st σ r else (if x = 35 then Rn sc d 211 1272 L st σ r else Rn sc d 211 1335 L st σ r)))))))))))))))))))))))))))))))))))) := by
  by_cases c0 : x = 0
  · subst c0; simp only [if_pos]; exact r_tsw d211_33 (t := 192) rfl
  rw [if_neg c0]
  by_cases c1 : x = 1
  · subst c1; simp only [if_pos]; exact r_tsw d211_33 (t := 267) rfl
  rw [if_neg c1]
  by_cases c2 : x = 2
  · subst c2; simp only [if_pos]; exact r_tsw d211_33 (t := 300) rfl
  rw [if_neg c2]
  by_cases c3 : x = 3
  · subst c3; simp only [if_pos]; exact r_tsw d211_33 (t := 343) rfl
  rw [if_neg c3]
  by_cases c4 : x = 4
  · subst c4; simp only [if_pos]; exact r_tsw d211_33 (t := 386) rfl
  rw [if_neg c4]
  by_cases c5 : x = 5
  · subst c5; simp only [if_pos]; exact r_tsw d211_33 (t := 409) rfl
  rw [if_neg c5]
  by_cases c6 : x = 6
  · subst c6; simp only [if_pos]; exact r_tsw d211_33 (t := 422) rfl
  rw [if_neg c6]
  by_cases c7 : x = 7
  · subst c7; simp only [if_pos]; exact r_tsw d211_33 (t := 445) rfl
  rw [if_neg c7]
  by_cases c8 : x = 8
  · subst c8; simp only [if_pos]; exact r_tsw d211_33 (t := 478) rfl
  rw [if_neg c8]
  by_cases c9 : x = 9
  · subst c9; simp only [if_pos]; exact r_tsw d211_33 (t := 491) rfl
  rw [if_neg c9]
  by_cases c10 : x = 10
  · subst c10; simp only [if_pos]; exact r_tsw d211_33 (t := 514) rfl
  rw [if_neg c10]
  by_cases c11 : x = 11
  · subst c11; simp only [if_pos]; exact r_tsw d211_33 (t := 557) rfl
  rw [if_neg c11]
  by_cases c12 : x = 12
  · subst c12; simp only [if_pos]; exact r_tsw d211_33 (t := 590) rfl
  rw [if_neg c12]
  by_cases c13 : x = 13
  · subst c13; simp only [if_pos]; exact r_tsw d211_33 (t := 603) rfl
  rw [if_neg c13]
  by_cases c14 : x = 14
  · subst c14; simp only [if_pos]; exact r_tsw d211_33 (t := 636) rfl
  rw [if_neg c14]
  by_cases c15 : x = 15
  · subst c15; simp only [if_pos]; exact r_tsw d211_33 (t := 669) rfl
  rw [if_neg c15]
  by_cases c16 : x = 16
  · subst c16; simp only [if_pos]; exact r_tsw d211_33 (t := 692) rfl
  rw [if_neg c16]
  by_cases c17 : x = 17
  · subst c17; simp only [if_pos]; exact r_tsw d211_33 (t := 725) rfl
  rw [if_neg c17]
  by_cases c18 : x = 18
  · subst c18; simp only [if_pos]; exact r_tsw d211_33 (t := 748) rfl
  rw [if_neg c18]
  by_cases c19 : x = 19
  · subst c19; simp only [if_pos]; exact r_tsw d211_33 (t := 771) rfl
  rw [if_neg c19]
  by_cases c20 : x = 20
  · subst c20; simp only [if_pos]; exact r_tsw d211_33 (t := 804) rfl
  rw [if_neg c20]
  by_cases c21 : x = 21
  · subst c21; simp only [if_pos]; exact r_tsw d211_33 (t := 827) rfl
  rw [if_neg c21]
  by_cases c22 : x = 22
  · subst c22; simp only [if_pos]; exact r_tsw d211_33 (t := 871) rfl
  rw [if_neg c22]
  by_cases c23 : x = 23
  · subst c23; simp only [if_pos]; exact r_tsw d211_33 (t := 895) rfl
  rw [if_neg c23]
  by_cases c24 : x = 24
  · subst c24; simp only [if_pos]; exact r_tsw d211_33 (t := 928) rfl
  rw [if_neg c24]
  by_cases c25 : x = 25
  · subst c25; simp only [if_pos]; exact r_tsw d211_33 (t := 941) rfl
  rw [if_neg c25]
  by_cases c26 : x = 26
  · subst c26; simp only [if_pos]; exact r_tsw d211_33 (t := 974) rfl
  rw [if_neg c26]
  by_cases c27 : x = 27
  · subst c27; simp only [if_pos]; exact r_tsw d211_33 (t := 987) rfl
  rw [if_neg c27]
  by_cases c28 : x = 28
  · subst c28; simp only [if_pos]; exact r_tsw d211_33 (t := 1000) rfl
  rw [if_neg c28]
  by_cases c29 : x = 29
  · subst c29; simp only [if_pos]; exact r_tsw d211_33 (t := 1043) rfl
  rw [if_neg c29]
  by_cases c30 : x = 30
  · subst c30; simp only [if_pos]; exact r_tsw d211_33 (t := 1066) rfl
  rw [if_neg c30]
  by_cases c31 : x = 31
  · subst c31; simp only [if_pos]; exact r_tsw d211_33 (t := 1099) rfl
  rw [if_neg c31]
  by_cases c32 : x = 32
  · subst c32; simp only [if_pos]; exact r_tsw d211_33 (t := 1122) rfl
  rw [if_neg c32]
  by_cases c33 : x = 33
  · subst c33; simp only [if_pos]; exact r_tsw d211_33 (t := 1165) rfl
  rw [if_neg c33]
  by_cases c34 : x = 34
  · subst c34; simp only [if_pos]; exact r_tsw d211_33 (t := 1238) rfl
  rw [if_neg c34]
  by_cases c35 : x = 35
  · subst c35; simp only [if_pos]; exact r_tsw d211_33 (t := 1272) rfl
  rw [if_neg c35]
  refine r_tswd d211_33 ?_ rfl
  have e0 : x.toInt ≠ 0 := fun z => c0 (Int32.toInt_inj.mp z)
  have e1 : x.toInt ≠ 1 := fun z => c1 (Int32.toInt_inj.mp z)
  have e2 : x.toInt ≠ 2 := fun z => c2 (Int32.toInt_inj.mp z)
  have e3 : x.toInt ≠ 3 := fun z => c3 (Int32.toInt_inj.mp z)
  have e4 : x.toInt ≠ 4 := fun z => c4 (Int32.toInt_inj.mp z)
  have e5 : x.toInt ≠ 5 := fun z => c5 (Int32.toInt_inj.mp z)
  have e6 : x.toInt ≠ 6 := fun z => c6 (Int32.toInt_inj.mp z)
  have e7 : x.toInt ≠ 7 := fun z => c7 (Int32.toInt_inj.mp z)
  have e8 : x.toInt ≠ 8 := fun z => c8 (Int32.toInt_inj.mp z)
  have e9 : x.toInt ≠ 9 := fun z => c9 (Int32.toInt_inj.mp z)
  have e10 : x.toInt ≠ 10 := fun z => c10 (Int32.toInt_inj.mp z)
  have e11 : x.toInt ≠ 11 := fun z => c11 (Int32.toInt_inj.mp z)
  have e12 : x.toInt ≠ 12 := fun z => c12 (Int32.toInt_inj.mp z)
  have e13 : x.toInt ≠ 13 := fun z => c13 (Int32.toInt_inj.mp z)
  have e14 : x.toInt ≠ 14 := fun z => c14 (Int32.toInt_inj.mp z)
  have e15 : x.toInt ≠ 15 := fun z => c15 (Int32.toInt_inj.mp z)
  have e16 : x.toInt ≠ 16 := fun z => c16 (Int32.toInt_inj.mp z)
  have e17 : x.toInt ≠ 17 := fun z => c17 (Int32.toInt_inj.mp z)
  have e18 : x.toInt ≠ 18 := fun z => c18 (Int32.toInt_inj.mp z)
  have e19 : x.toInt ≠ 19 := fun z => c19 (Int32.toInt_inj.mp z)
  have e20 : x.toInt ≠ 20 := fun z => c20 (Int32.toInt_inj.mp z)
  have e21 : x.toInt ≠ 21 := fun z => c21 (Int32.toInt_inj.mp z)
  have e22 : x.toInt ≠ 22 := fun z => c22 (Int32.toInt_inj.mp z)
  have e23 : x.toInt ≠ 23 := fun z => c23 (Int32.toInt_inj.mp z)
  have e24 : x.toInt ≠ 24 := fun z => c24 (Int32.toInt_inj.mp z)
  have e25 : x.toInt ≠ 25 := fun z => c25 (Int32.toInt_inj.mp z)
  have e26 : x.toInt ≠ 26 := fun z => c26 (Int32.toInt_inj.mp z)
  have e27 : x.toInt ≠ 27 := fun z => c27 (Int32.toInt_inj.mp z)
  have e28 : x.toInt ≠ 28 := fun z => c28 (Int32.toInt_inj.mp z)
  have e29 : x.toInt ≠ 29 := fun z => c29 (Int32.toInt_inj.mp z)
  have e30 : x.toInt ≠ 30 := fun z => c30 (Int32.toInt_inj.mp z)
  have e31 : x.toInt ≠ 31 := fun z => c31 (Int32.toInt_inj.mp z)
  have e32 : x.toInt ≠ 32 := fun z => c32 (Int32.toInt_inj.mp z)
  have e33 : x.toInt ≠ 33 := fun z => c33 (Int32.toInt_inj.mp z)
  have e34 : x.toInt ≠ 34 := fun z => c34 (Int32.toInt_inj.mp z)
  have e35 : x.toInt ≠ 35 := fun z => c35 (Int32.toInt_inj.mp z)
  omega
theorem d211_192 : decode (mC 211) 192 = .ok (.aload_n 1, 1) := by decide +kernel
theorem x211_192 {sc : aSc} {d : Nat} {r : aRes} {a0 : Value} {x1 : Nat} {a2 : Value} {a3 : Value} {st : List Value} {σ : aS} : Rn sc d 211 192 [a0, .ref x1, a2, a3] st σ r ↔ Rn sc d 211 193 [a0, .ref x1, a2, a3] (.ref x1 :: st) σ r := r_aload_n d211_192 rfl
theorem d211_193 : decode (mC 211) 193 = .ok (.aload_n 0, 1) := by decide +kernel
theorem x211_193 {sc : aSc} {d : Nat} {r : aRes} {x0 : Nat} {a1 : Value} {a2 : Value} {a3 : Value} {st : List Value} {σ : aS} : Rn sc d 211 193 [.ref x0, a1, a2, a3] st σ r ↔ Rn sc d 211 194 [.ref x0, a1, a2, a3] (.ref x0 :: st) σ r := r_aload_n d211_193 rfl
theorem d211_194 : decode (mC 211) 194 = .ok (.iload_n 3, 1) := by decide +kernel
theorem x211_194 {sc : aSc} {d : Nat} {r : aRes} {a0 : Value} {a1 : Value} {a2 : Value} {x3 : Int32} {st : List Value} {σ : aS} : Rn sc d 211 194 [a0, a1, a2, .int x3] st σ r ↔ Rn sc d 211 195 [a0, a1, a2, .int x3] (.int x3 :: st) σ r := r_iload_n d211_194 rfl
theorem d211_195 : decode (mC 211) 195 = .ok (.iconst 1, 1) := by decide +kernel
theorem x211_195 {sc : aSc} {d : Nat} {r : aRes} {L : List Value} {st : List Value} {σ : aS} : Rn sc d 211 195 L st σ r ↔ Rn sc d 211 196 L (.int 1 :: st) σ r := r_iconst d211_195 (by decide)
theorem d211_196 : decode (mC 211) 196 = .ok (.iadd, 1) := by decide +kernel
theorem x211_196 {sc : aSc} {d : Nat} {r : aRes} {L : List Value} {st : List Value} {σ : aS} {x y : Int32} : Rn sc d 211 196 L (.int y :: .int x :: st) σ r ↔ Rn sc d 211 197 L (.int (x + y) :: st) σ r := r_iadd d211_196
theorem d211_197 : decode (mC 211) 197 = .ok (.iaload, 1) := by decide +kernel
theorem d211_198 : decode (mC 211) 198 = .ok (.aload_n 0, 1) := by decide +kernel
theorem x211_198 {sc : aSc} {d : Nat} {r : aRes} {x0 : Nat} {a1 : Value} {a2 : Value} {a3 : Value} {st : List Value} {σ : aS} : Rn sc d 211 198 [.ref x0, a1, a2, a3] st σ r ↔ Rn sc d 211 199 [.ref x0, a1, a2, a3] (.ref x0 :: st) σ r := r_aload_n d211_198 rfl
theorem d211_199 : decode (mC 211) 199 = .ok (.iload_n 3, 1) := by decide +kernel
theorem x211_199 {sc : aSc} {d : Nat} {r : aRes} {a0 : Value} {a1 : Value} {a2 : Value} {x3 : Int32} {st : List Value} {σ : aS} : Rn sc d 211 199 [a0, a1, a2, .int x3] st σ r ↔ Rn sc d 211 200 [a0, a1, a2, .int x3] (.int x3 :: st) σ r := r_iload_n d211_199 rfl
theorem d211_200 : decode (mC 211) 200 = .ok (.iconst 2, 1) := by decide +kernel
theorem x211_200 {sc : aSc} {d : Nat} {r : aRes} {L : List Value} {st : List Value} {σ : aS} : Rn sc d 211 200 L st σ r ↔ Rn sc d 211 201 L (.int 2 :: st) σ r := r_iconst d211_200 (by decide)
theorem d211_201 : decode (mC 211) 201 = .ok (.iadd, 1) := by decide +kernel
theorem x211_201 {sc : aSc} {d : Nat} {r : aRes} {L : List Value} {st : List Value} {σ : aS} {x y : Int32} : Rn sc d 211 201 L (.int y :: .int x :: st) σ r ↔ Rn sc d 211 202 L (.int (x + y) :: st) σ r := r_iadd d211_201
theorem d211_202 : decode (mC 211) 202 = .ok (.iaload, 1) := by decide +kernel
theorem d211_203 : decode (mC 211) 203 = .ok (.aload_n 0, 1) := by decide +kernel
theorem x211_203 {sc : aSc} {d : Nat} {r : aRes} {x0 : Nat} {a1 : Value} {a2 : Value} {a3 : Value} {st : List Value} {σ : aS} : Rn sc d 211 203 [.ref x0, a1, a2, a3] st σ r ↔ Rn sc d 211 204 [.ref x0, a1, a2, a3] (.ref x0 :: st) σ r := r_aload_n d211_203 rfl
theorem d211_204 : decode (mC 211) 204 = .ok (.iload_n 3, 1) := by decide +kernel
theorem x211_204 {sc : aSc} {d : Nat} {r : aRes} {a0 : Value} {a1 : Value} {a2 : Value} {x3 : Int32} {st : List Value} {σ : aS} : Rn sc d 211 204 [a0, a1, a2, .int x3] st σ r ↔ Rn sc d 211 205 [a0, a1, a2, .int x3] (.int x3 :: st) σ r := r_iload_n d211_204 rfl
theorem d211_205 : decode (mC 211) 205 = .ok (.iconst 3, 1) := by decide +kernel
theorem x211_205 {sc : aSc} {d : Nat} {r : aRes} {L : List Value} {st : List Value} {σ : aS} : Rn sc d 211 205 L st σ r ↔ Rn sc d 211 206 L (.int 3 :: st) σ r := r_iconst d211_205 (by decide)
theorem d211_206 : decode (mC 211) 206 = .ok (.iadd, 1) := by decide +kernel
theorem x211_206 {sc : aSc} {d : Nat} {r : aRes} {L : List Value} {st : List Value} {σ : aS} {x y : Int32} : Rn sc d 211 206 L (.int y :: .int x :: st) σ r ↔ Rn sc d 211 207 L (.int (x + y) :: st) σ r := r_iadd d211_206
theorem d211_207 : decode (mC 211) 207 = .ok (.iaload, 1) := by decide +kernel
theorem d211_208 : decode (mC 211) 208 = .ok (.aload_n 0, 1) := by decide +kernel
theorem x211_208 {sc : aSc} {d : Nat} {r : aRes} {x0 : Nat} {a1 : Value} {a2 : Value} {a3 : Value} {st : List Value} {σ : aS} : Rn sc d 211 208 [.ref x0, a1, a2, a3] st σ r ↔ Rn sc d 211 209 [.ref x0, a1, a2, a3] (.ref x0 :: st) σ r := r_aload_n d211_208 rfl
theorem d211_209 : decode (mC 211) 209 = .ok (.iload_n 3, 1) := by decide +kernel
theorem x211_209 {sc : aSc} {d : Nat} {r : aRes} {a0 : Value} {a1 : Value} {a2 : Value} {x3 : Int32} {st : List Value} {σ : aS} : Rn sc d 211 209 [a0, a1, a2, .int x3] st σ r ↔ Rn sc d 211 210 [a0, a1, a2, .int x3] (.int x3 :: st) σ r := r_iload_n d211_209 rfl
theorem d211_210 : decode (mC 211) 210 = .ok (.iconst 4, 1) := by decide +kernel
theorem x211_210 {sc : aSc} {d : Nat} {r : aRes} {L : List Value} {st : List Value} {σ : aS} : Rn sc d 211 210 L st σ r ↔ Rn sc d 211 211 L (.int 4 :: st) σ r := r_iconst d211_210 (by decide)
theorem d211_211 : decode (mC 211) 211 = .ok (.iadd, 1) := by decide +kernel
theorem x211_211 {sc : aSc} {d : Nat} {r : aRes} {L : List Value} {st : List Value} {σ : aS} {x y : Int32} : Rn sc d 211 211 L (.int y :: .int x :: st) σ r ↔ Rn sc d 211 212 L (.int (x + y) :: st) σ r := r_iadd d211_211
theorem d211_212 : decode (mC 211) 212 = .ok (.iaload, 1) := by decide +kernel
theorem d211_213 : decode (mC 211) 213 = .ok (.aload_n 0, 1) := by decide +kernel
theorem x211_213 {sc : aSc} {d : Nat} {r : aRes} {x0 : Nat} {a1 : Value} {a2 : Value} {a3 : Value} {st : List Value} {σ : aS} : Rn sc d 211 213 [.ref x0, a1, a2, a3] st σ r ↔ Rn sc d 211 214 [.ref x0, a1, a2, a3] (.ref x0 :: st) σ r := r_aload_n d211_213 rfl
theorem d211_214 : decode (mC 211) 214 = .ok (.iload_n 3, 1) := by decide +kernel
theorem x211_214 {sc : aSc} {d : Nat} {r : aRes} {a0 : Value} {a1 : Value} {a2 : Value} {x3 : Int32} {st : List Value} {σ : aS} : Rn sc d 211 214 [a0, a1, a2, .int x3] st σ r ↔ Rn sc d 211 215 [a0, a1, a2, .int x3] (.int x3 :: st) σ r := r_iload_n d211_214 rfl
theorem d211_215 : decode (mC 211) 215 = .ok (.iconst 5, 1) := by decide +kernel
theorem x211_215 {sc : aSc} {d : Nat} {r : aRes} {L : List Value} {st : List Value} {σ : aS} : Rn sc d 211 215 L st σ r ↔ Rn sc d 211 216 L (.int 5 :: st) σ r := r_iconst d211_215 (by decide)
theorem d211_216 : decode (mC 211) 216 = .ok (.iadd, 1) := by decide +kernel
theorem x211_216 {sc : aSc} {d : Nat} {r : aRes} {L : List Value} {st : List Value} {σ : aS} {x y : Int32} : Rn sc d 211 216 L (.int y :: .int x :: st) σ r ↔ Rn sc d 211 217 L (.int (x + y) :: st) σ r := r_iadd d211_216
theorem d211_217 : decode (mC 211) 217 = .ok (.iaload, 1) := by decide +kernel
theorem d211_218 : decode (mC 211) 218 = .ok (.aload_n 0, 1) := by decide +kernel
theorem x211_218 {sc : aSc} {d : Nat} {r : aRes} {x0 : Nat} {a1 : Value} {a2 : Value} {a3 : Value} {st : List Value} {σ : aS} : Rn sc d 211 218 [.ref x0, a1, a2, a3] st σ r ↔ Rn sc d 211 219 [.ref x0, a1, a2, a3] (.ref x0 :: st) σ r := r_aload_n d211_218 rfl
theorem d211_219 : decode (mC 211) 219 = .ok (.iload_n 3, 1) := by decide +kernel
theorem x211_219 {sc : aSc} {d : Nat} {r : aRes} {a0 : Value} {a1 : Value} {a2 : Value} {x3 : Int32} {st : List Value} {σ : aS} : Rn sc d 211 219 [a0, a1, a2, .int x3] st σ r ↔ Rn sc d 211 220 [a0, a1, a2, .int x3] (.int x3 :: st) σ r := r_iload_n d211_219 rfl
theorem d211_220 : decode (mC 211) 220 = .ok (.bipush 6, 2) := by decide +kernel
theorem x211_220 {sc : aSc} {d : Nat} {r : aRes} {L : List Value} {st : List Value} {σ : aS} : Rn sc d 211 220 L st σ r ↔ Rn sc d 211 222 L (.int 6 :: st) σ r := r_bipush d211_220 (by decide)
theorem d211_222 : decode (mC 211) 222 = .ok (.iadd, 1) := by decide +kernel
theorem x211_222 {sc : aSc} {d : Nat} {r : aRes} {L : List Value} {st : List Value} {σ : aS} {x y : Int32} : Rn sc d 211 222 L (.int y :: .int x :: st) σ r ↔ Rn sc d 211 223 L (.int (x + y) :: st) σ r := r_iadd d211_222
theorem d211_223 : decode (mC 211) 223 = .ok (.iaload, 1) := by decide +kernel
theorem d211_224 : decode (mC 211) 224 = .ok (.invokevirtual 13, 3) := by decide +kernel
theorem x211_224 {sc : aSc} {d : Nat} {r : aRes} {L : List Value} {f : Nat → Nat → Int32} {g : Nat → Nat → Int64} {h1 h2 : Nat} {y0 : Int32} {y1 : Int32} {y2 : Int32} {y3 : Int32} {y4 : Int32} {y5 : Int32}  {o : Nat} (hK : KK[o]? = some (.inl 6)) : Rn sc d 211 224 L [.int y0, .int y1, .int y2, .int y3, .int y4, .int y5, .ref o] (cS f g h1 h2) r ↔ ∃ (σ3 : aS) (v : Option Value), Cl sc d 66 [.ref o, .int y5, .int y4, .int y3, .int y2, .int y1, .int y0] (cS f g h1 h2) (σ3, v) ∧ Rn sc d 211 227 L (v.toList ++ []) σ3 r := r_callV (vs := [.int y0, .int y1, .int y2, .int y3, .int y4, .int y5]) d211_224 (j := 66) (by decide +kernel) ⟨rfl, by decide, rfl, rfl⟩ (Nat.le_of_ble_eq_true rfl) hK
theorem d211_227 : decode (mC 211) 227 = .ok (.aload_n 2, 1) := by decide +kernel
theorem x211_227 {sc : aSc} {d : Nat} {r : aRes} {a0 : Value} {a1 : Value} {x2 : Nat} {a3 : Value} {st : List Value} {σ : aS} : Rn sc d 211 227 [a0, a1, .ref x2, a3] st σ r ↔ Rn sc d 211 228 [a0, a1, .ref x2, a3] (.ref x2 :: st) σ r := r_aload_n d211_227 rfl
theorem d211_228 : decode (mC 211) 228 = .ok (.aload_n 0, 1) := by decide +kernel
theorem x211_228 {sc : aSc} {d : Nat} {r : aRes} {x0 : Nat} {a1 : Value} {a2 : Value} {a3 : Value} {st : List Value} {σ : aS} : Rn sc d 211 228 [.ref x0, a1, a2, a3] st σ r ↔ Rn sc d 211 229 [.ref x0, a1, a2, a3] (.ref x0 :: st) σ r := r_aload_n d211_228 rfl
theorem d211_229 : decode (mC 211) 229 = .ok (.iload_n 3, 1) := by decide +kernel
theorem x211_229 {sc : aSc} {d : Nat} {r : aRes} {a0 : Value} {a1 : Value} {a2 : Value} {x3 : Int32} {st : List Value} {σ : aS} : Rn sc d 211 229 [a0, a1, a2, .int x3] st σ r ↔ Rn sc d 211 230 [a0, a1, a2, .int x3] (.int x3 :: st) σ r := r_iload_n d211_229 rfl
theorem d211_230 : decode (mC 211) 230 = .ok (.iconst 1, 1) := by decide +kernel
theorem x211_230 {sc : aSc} {d : Nat} {r : aRes} {L : List Value} {st : List Value} {σ : aS} : Rn sc d 211 230 L st σ r ↔ Rn sc d 211 231 L (.int 1 :: st) σ r := r_iconst d211_230 (by decide)
theorem d211_231 : decode (mC 211) 231 = .ok (.iadd, 1) := by decide +kernel
theorem x211_231 {sc : aSc} {d : Nat} {r : aRes} {L : List Value} {st : List Value} {σ : aS} {x y : Int32} : Rn sc d 211 231 L (.int y :: .int x :: st) σ r ↔ Rn sc d 211 232 L (.int (x + y) :: st) σ r := r_iadd d211_231
theorem d211_232 : decode (mC 211) 232 = .ok (.iaload, 1) := by decide +kernel
theorem d211_233 : decode (mC 211) 233 = .ok (.aload_n 0, 1) := by decide +kernel
theorem x211_233 {sc : aSc} {d : Nat} {r : aRes} {x0 : Nat} {a1 : Value} {a2 : Value} {a3 : Value} {st : List Value} {σ : aS} : Rn sc d 211 233 [.ref x0, a1, a2, a3] st σ r ↔ Rn sc d 211 234 [.ref x0, a1, a2, a3] (.ref x0 :: st) σ r := r_aload_n d211_233 rfl
theorem d211_234 : decode (mC 211) 234 = .ok (.iload_n 3, 1) := by decide +kernel
theorem x211_234 {sc : aSc} {d : Nat} {r : aRes} {a0 : Value} {a1 : Value} {a2 : Value} {x3 : Int32} {st : List Value} {σ : aS} : Rn sc d 211 234 [a0, a1, a2, .int x3] st σ r ↔ Rn sc d 211 235 [a0, a1, a2, .int x3] (.int x3 :: st) σ r := r_iload_n d211_234 rfl
theorem d211_235 : decode (mC 211) 235 = .ok (.iconst 2, 1) := by decide +kernel
theorem x211_235 {sc : aSc} {d : Nat} {r : aRes} {L : List Value} {st : List Value} {σ : aS} : Rn sc d 211 235 L st σ r ↔ Rn sc d 211 236 L (.int 2 :: st) σ r := r_iconst d211_235 (by decide)
theorem d211_236 : decode (mC 211) 236 = .ok (.iadd, 1) := by decide +kernel
theorem x211_236 {sc : aSc} {d : Nat} {r : aRes} {L : List Value} {st : List Value} {σ : aS} {x y : Int32} : Rn sc d 211 236 L (.int y :: .int x :: st) σ r ↔ Rn sc d 211 237 L (.int (x + y) :: st) σ r := r_iadd d211_236
theorem d211_237 : decode (mC 211) 237 = .ok (.iaload, 1) := by decide +kernel
theorem d211_238 : decode (mC 211) 238 = .ok (.aload_n 0, 1) := by decide +kernel
theorem x211_238 {sc : aSc} {d : Nat} {r : aRes} {x0 : Nat} {a1 : Value} {a2 : Value} {a3 : Value} {st : List Value} {σ : aS} : Rn sc d 211 238 [.ref x0, a1, a2, a3] st σ r ↔ Rn sc d 211 239 [.ref x0, a1, a2, a3] (.ref x0 :: st) σ r := r_aload_n d211_238 rfl
theorem d211_239 : decode (mC 211) 239 = .ok (.iload_n 3, 1) := by decide +kernel
theorem x211_239 {sc : aSc} {d : Nat} {r : aRes} {a0 : Value} {a1 : Value} {a2 : Value} {x3 : Int32} {st : List Value} {σ : aS} : Rn sc d 211 239 [a0, a1, a2, .int x3] st σ r ↔ Rn sc d 211 240 [a0, a1, a2, .int x3] (.int x3 :: st) σ r := r_iload_n d211_239 rfl
theorem d211_240 : decode (mC 211) 240 = .ok (.iconst 3, 1) := by decide +kernel
theorem x211_240 {sc : aSc} {d : Nat} {r : aRes} {L : List Value} {st : List Value} {σ : aS} : Rn sc d 211 240 L st σ r ↔ Rn sc d 211 241 L (.int 3 :: st) σ r := r_iconst d211_240 (by decide)
theorem d211_241 : decode (mC 211) 241 = .ok (.iadd, 1) := by decide +kernel
theorem x211_241 {sc : aSc} {d : Nat} {r : aRes} {L : List Value} {st : List Value} {σ : aS} {x y : Int32} : Rn sc d 211 241 L (.int y :: .int x :: st) σ r ↔ Rn sc d 211 242 L (.int (x + y) :: st) σ r := r_iadd d211_241
theorem d211_242 : decode (mC 211) 242 = .ok (.iaload, 1) := by decide +kernel
theorem d211_243 : decode (mC 211) 243 = .ok (.aload_n 0, 1) := by decide +kernel
theorem x211_243 {sc : aSc} {d : Nat} {r : aRes} {x0 : Nat} {a1 : Value} {a2 : Value} {a3 : Value} {st : List Value} {σ : aS} : Rn sc d 211 243 [.ref x0, a1, a2, a3] st σ r ↔ Rn sc d 211 244 [.ref x0, a1, a2, a3] (.ref x0 :: st) σ r := r_aload_n d211_243 rfl
theorem d211_244 : decode (mC 211) 244 = .ok (.iload_n 3, 1) := by decide +kernel
theorem x211_244 {sc : aSc} {d : Nat} {r : aRes} {a0 : Value} {a1 : Value} {a2 : Value} {x3 : Int32} {st : List Value} {σ : aS} : Rn sc d 211 244 [a0, a1, a2, .int x3] st σ r ↔ Rn sc d 211 245 [a0, a1, a2, .int x3] (.int x3 :: st) σ r := r_iload_n d211_244 rfl
theorem d211_245 : decode (mC 211) 245 = .ok (.iconst 4, 1) := by decide +kernel
theorem x211_245 {sc : aSc} {d : Nat} {r : aRes} {L : List Value} {st : List Value} {σ : aS} : Rn sc d 211 245 L st σ r ↔ Rn sc d 211 246 L (.int 4 :: st) σ r := r_iconst d211_245 (by decide)
theorem d211_246 : decode (mC 211) 246 = .ok (.iadd, 1) := by decide +kernel
theorem x211_246 {sc : aSc} {d : Nat} {r : aRes} {L : List Value} {st : List Value} {σ : aS} {x y : Int32} : Rn sc d 211 246 L (.int y :: .int x :: st) σ r ↔ Rn sc d 211 247 L (.int (x + y) :: st) σ r := r_iadd d211_246
theorem d211_247 : decode (mC 211) 247 = .ok (.iaload, 1) := by decide +kernel
theorem d211_248 : decode (mC 211) 248 = .ok (.aload_n 0, 1) := by decide +kernel
theorem x211_248 {sc : aSc} {d : Nat} {r : aRes} {x0 : Nat} {a1 : Value} {a2 : Value} {a3 : Value} {st : List Value} {σ : aS} : Rn sc d 211 248 [.ref x0, a1, a2, a3] st σ r ↔ Rn sc d 211 249 [.ref x0, a1, a2, a3] (.ref x0 :: st) σ r := r_aload_n d211_248 rfl
theorem d211_249 : decode (mC 211) 249 = .ok (.iload_n 3, 1) := by decide +kernel
theorem x211_249 {sc : aSc} {d : Nat} {r : aRes} {a0 : Value} {a1 : Value} {a2 : Value} {x3 : Int32} {st : List Value} {σ : aS} : Rn sc d 211 249 [a0, a1, a2, .int x3] st σ r ↔ Rn sc d 211 250 [a0, a1, a2, .int x3] (.int x3 :: st) σ r := r_iload_n d211_249 rfl
theorem d211_250 : decode (mC 211) 250 = .ok (.iconst 5, 1) := by decide +kernel
theorem x211_250 {sc : aSc} {d : Nat} {r : aRes} {L : List Value} {st : List Value} {σ : aS} : Rn sc d 211 250 L st σ r ↔ Rn sc d 211 251 L (.int 5 :: st) σ r := r_iconst d211_250 (by decide)
theorem d211_251 : decode (mC 211) 251 = .ok (.iadd, 1) := by decide +kernel
theorem x211_251 {sc : aSc} {d : Nat} {r : aRes} {L : List Value} {st : List Value} {σ : aS} {x y : Int32} : Rn sc d 211 251 L (.int y :: .int x :: st) σ r ↔ Rn sc d 211 252 L (.int (x + y) :: st) σ r := r_iadd d211_251
theorem d211_252 : decode (mC 211) 252 = .ok (.iaload, 1) := by decide +kernel
theorem d211_253 : decode (mC 211) 253 = .ok (.aload_n 0, 1) := by decide +kernel
theorem x211_253 {sc : aSc} {d : Nat} {r : aRes} {x0 : Nat} {a1 : Value} {a2 : Value} {a3 : Value} {st : List Value} {σ : aS} : Rn sc d 211 253 [.ref x0, a1, a2, a3] st σ r ↔ Rn sc d 211 254 [.ref x0, a1, a2, a3] (.ref x0 :: st) σ r := r_aload_n d211_253 rfl
theorem d211_254 : decode (mC 211) 254 = .ok (.iload_n 3, 1) := by decide +kernel
theorem x211_254 {sc : aSc} {d : Nat} {r : aRes} {a0 : Value} {a1 : Value} {a2 : Value} {x3 : Int32} {st : List Value} {σ : aS} : Rn sc d 211 254 [a0, a1, a2, .int x3] st σ r ↔ Rn sc d 211 255 [a0, a1, a2, .int x3] (.int x3 :: st) σ r := r_iload_n d211_254 rfl
theorem d211_255 : decode (mC 211) 255 = .ok (.bipush 6, 2) := by decide +kernel
theorem x211_255 {sc : aSc} {d : Nat} {r : aRes} {L : List Value} {st : List Value} {σ : aS} : Rn sc d 211 255 L st σ r ↔ Rn sc d 211 257 L (.int 6 :: st) σ r := r_bipush d211_255 (by decide)
theorem d211_257 : decode (mC 211) 257 = .ok (.iadd, 1) := by decide +kernel
theorem x211_257 {sc : aSc} {d : Nat} {r : aRes} {L : List Value} {st : List Value} {σ : aS} {x y : Int32} : Rn sc d 211 257 L (.int y :: .int x :: st) σ r ↔ Rn sc d 211 258 L (.int (x + y) :: st) σ r := r_iadd d211_257
theorem d211_258 : decode (mC 211) 258 = .ok (.iaload, 1) := by decide +kernel
theorem d211_259 : decode (mC 211) 259 = .ok (.invokevirtual 17, 3) := by decide +kernel
theorem x211_259 {sc : aSc} {d : Nat} {r : aRes} {L : List Value} {f : Nat → Nat → Int32} {g : Nat → Nat → Int64} {h1 h2 : Nat} {y0 : Int32} {y1 : Int32} {y2 : Int32} {y3 : Int32} {y4 : Int32} {y5 : Int32} {z0 : Int32} {o : Nat} (hK : KK[o]? = some (.inl 7)) : Rn sc d 211 259 L [.int y0, .int y1, .int y2, .int y3, .int y4, .int y5, .ref o, .int z0] (cS f g h1 h2) r ↔ ∃ (σ3 : aS) (v : Option Value), Cl sc d 110 [.ref o, .int y5, .int y4, .int y3, .int y2, .int y1, .int y0] (cS f g h1 h2) (σ3, v) ∧ Rn sc d 211 262 L (v.toList ++ [.int z0]) σ3 r := r_callV (vs := [.int y0, .int y1, .int y2, .int y3, .int y4, .int y5]) d211_259 (j := 110) (by decide +kernel) ⟨rfl, by decide, rfl, rfl⟩ (Nat.le_of_ble_eq_true rfl) hK
theorem d211_262 : decode (mC 211) 262 = .ok (.if_icmp .eq 1073, 3) := by decide +kernel
theorem x211_262 {sc : aSc} {d : Nat} {r : aRes} {L : List Value} {st : List Value} {σ : aS} {x y : Int32} : Rn sc d 211 262 L (.int y :: .int x :: st) σ r ↔ if x = y then Rn sc d 211 1335 L st σ r else Rn sc d 211 265 L st σ r := r_icmp_eq d211_262 rfl
theorem d211_265 : decode (mC 211) 265 = .ok (.iconst 0, 1) := by decide +kernel
theorem x211_265 {sc : aSc} {d : Nat} {r : aRes} {L : List Value} {st : List Value} {σ : aS} : Rn sc d 211 265 L st σ r ↔ Rn sc d 211 266 L (.int 0 :: st) σ r := r_iconst d211_265 (by decide)
theorem d211_266 : decode (mC 211) 266 = .ok (.ireturn, 1) := by decide +kernel
theorem d211_267 : decode (mC 211) 267 = .ok (.aload_n 1, 1) := by decide +kernel
theorem x211_267 {sc : aSc} {d : Nat} {r : aRes} {a0 : Value} {x1 : Nat} {a2 : Value} {a3 : Value} {st : List Value} {σ : aS} : Rn sc d 211 267 [a0, .ref x1, a2, a3] st σ r ↔ Rn sc d 211 268 [a0, .ref x1, a2, a3] (.ref x1 :: st) σ r := r_aload_n d211_267 rfl
theorem d211_268 : decode (mC 211) 268 = .ok (.aload_n 0, 1) := by decide +kernel
theorem x211_268 {sc : aSc} {d : Nat} {r : aRes} {x0 : Nat} {a1 : Value} {a2 : Value} {a3 : Value} {st : List Value} {σ : aS} : Rn sc d 211 268 [.ref x0, a1, a2, a3] st σ r ↔ Rn sc d 211 269 [.ref x0, a1, a2, a3] (.ref x0 :: st) σ r := r_aload_n d211_268 rfl
theorem d211_269 : decode (mC 211) 269 = .ok (.iload_n 3, 1) := by decide +kernel
theorem x211_269 {sc : aSc} {d : Nat} {r : aRes} {a0 : Value} {a1 : Value} {a2 : Value} {x3 : Int32} {st : List Value} {σ : aS} : Rn sc d 211 269 [a0, a1, a2, .int x3] st σ r ↔ Rn sc d 211 270 [a0, a1, a2, .int x3] (.int x3 :: st) σ r := r_iload_n d211_269 rfl
theorem d211_270 : decode (mC 211) 270 = .ok (.iconst 1, 1) := by decide +kernel
theorem x211_270 {sc : aSc} {d : Nat} {r : aRes} {L : List Value} {st : List Value} {σ : aS} : Rn sc d 211 270 L st σ r ↔ Rn sc d 211 271 L (.int 1 :: st) σ r := r_iconst d211_270 (by decide)
theorem d211_271 : decode (mC 211) 271 = .ok (.iadd, 1) := by decide +kernel
theorem x211_271 {sc : aSc} {d : Nat} {r : aRes} {L : List Value} {st : List Value} {σ : aS} {x y : Int32} : Rn sc d 211 271 L (.int y :: .int x :: st) σ r ↔ Rn sc d 211 272 L (.int (x + y) :: st) σ r := r_iadd d211_271
theorem d211_272 : decode (mC 211) 272 = .ok (.iaload, 1) := by decide +kernel
theorem d211_273 : decode (mC 211) 273 = .ok (.aload_n 0, 1) := by decide +kernel
theorem x211_273 {sc : aSc} {d : Nat} {r : aRes} {x0 : Nat} {a1 : Value} {a2 : Value} {a3 : Value} {st : List Value} {σ : aS} : Rn sc d 211 273 [.ref x0, a1, a2, a3] st σ r ↔ Rn sc d 211 274 [.ref x0, a1, a2, a3] (.ref x0 :: st) σ r := r_aload_n d211_273 rfl
theorem d211_274 : decode (mC 211) 274 = .ok (.iload_n 3, 1) := by decide +kernel
theorem x211_274 {sc : aSc} {d : Nat} {r : aRes} {a0 : Value} {a1 : Value} {a2 : Value} {x3 : Int32} {st : List Value} {σ : aS} : Rn sc d 211 274 [a0, a1, a2, .int x3] st σ r ↔ Rn sc d 211 275 [a0, a1, a2, .int x3] (.int x3 :: st) σ r := r_iload_n d211_274 rfl
theorem d211_275 : decode (mC 211) 275 = .ok (.iconst 2, 1) := by decide +kernel
theorem x211_275 {sc : aSc} {d : Nat} {r : aRes} {L : List Value} {st : List Value} {σ : aS} : Rn sc d 211 275 L st σ r ↔ Rn sc d 211 276 L (.int 2 :: st) σ r := r_iconst d211_275 (by decide)
theorem d211_276 : decode (mC 211) 276 = .ok (.iadd, 1) := by decide +kernel
theorem x211_276 {sc : aSc} {d : Nat} {r : aRes} {L : List Value} {st : List Value} {σ : aS} {x y : Int32} : Rn sc d 211 276 L (.int y :: .int x :: st) σ r ↔ Rn sc d 211 277 L (.int (x + y) :: st) σ r := r_iadd d211_276
theorem d211_277 : decode (mC 211) 277 = .ok (.iaload, 1) := by decide +kernel
theorem d211_278 : decode (mC 211) 278 = .ok (.invokevirtual 18, 3) := by decide +kernel
theorem x211_278 {sc : aSc} {d : Nat} {r : aRes} {L : List Value} {f : Nat → Nat → Int32} {g : Nat → Nat → Int64} {h1 h2 : Nat} {y0 : Int32} {y1 : Int32}  {o : Nat} (hK : KK[o]? = some (.inl 6)) : Rn sc d 211 278 L [.int y0, .int y1, .ref o] (cS f g h1 h2) r ↔ ∃ (σ3 : aS) (v : Option Value), Cl sc d 67 [.ref o, .int y1, .int y0] (cS f g h1 h2) (σ3, v) ∧ Rn sc d 211 281 L (v.toList ++ []) σ3 r := r_callV (vs := [.int y0, .int y1]) d211_278 (j := 67) (by decide +kernel) ⟨rfl, by decide, rfl, rfl⟩ (Nat.le_of_ble_eq_true rfl) hK
theorem d211_281 : decode (mC 211) 281 = .ok (.aload_n 2, 1) := by decide +kernel
theorem x211_281 {sc : aSc} {d : Nat} {r : aRes} {a0 : Value} {a1 : Value} {x2 : Nat} {a3 : Value} {st : List Value} {σ : aS} : Rn sc d 211 281 [a0, a1, .ref x2, a3] st σ r ↔ Rn sc d 211 282 [a0, a1, .ref x2, a3] (.ref x2 :: st) σ r := r_aload_n d211_281 rfl
theorem d211_282 : decode (mC 211) 282 = .ok (.aload_n 0, 1) := by decide +kernel
theorem x211_282 {sc : aSc} {d : Nat} {r : aRes} {x0 : Nat} {a1 : Value} {a2 : Value} {a3 : Value} {st : List Value} {σ : aS} : Rn sc d 211 282 [.ref x0, a1, a2, a3] st σ r ↔ Rn sc d 211 283 [.ref x0, a1, a2, a3] (.ref x0 :: st) σ r := r_aload_n d211_282 rfl
theorem d211_283 : decode (mC 211) 283 = .ok (.iload_n 3, 1) := by decide +kernel
theorem x211_283 {sc : aSc} {d : Nat} {r : aRes} {a0 : Value} {a1 : Value} {a2 : Value} {x3 : Int32} {st : List Value} {σ : aS} : Rn sc d 211 283 [a0, a1, a2, .int x3] st σ r ↔ Rn sc d 211 284 [a0, a1, a2, .int x3] (.int x3 :: st) σ r := r_iload_n d211_283 rfl
theorem d211_284 : decode (mC 211) 284 = .ok (.iconst 1, 1) := by decide +kernel
theorem x211_284 {sc : aSc} {d : Nat} {r : aRes} {L : List Value} {st : List Value} {σ : aS} : Rn sc d 211 284 L st σ r ↔ Rn sc d 211 285 L (.int 1 :: st) σ r := r_iconst d211_284 (by decide)
theorem d211_285 : decode (mC 211) 285 = .ok (.iadd, 1) := by decide +kernel
theorem x211_285 {sc : aSc} {d : Nat} {r : aRes} {L : List Value} {st : List Value} {σ : aS} {x y : Int32} : Rn sc d 211 285 L (.int y :: .int x :: st) σ r ↔ Rn sc d 211 286 L (.int (x + y) :: st) σ r := r_iadd d211_285
theorem d211_286 : decode (mC 211) 286 = .ok (.iaload, 1) := by decide +kernel
theorem d211_287 : decode (mC 211) 287 = .ok (.aload_n 0, 1) := by decide +kernel
theorem x211_287 {sc : aSc} {d : Nat} {r : aRes} {x0 : Nat} {a1 : Value} {a2 : Value} {a3 : Value} {st : List Value} {σ : aS} : Rn sc d 211 287 [.ref x0, a1, a2, a3] st σ r ↔ Rn sc d 211 288 [.ref x0, a1, a2, a3] (.ref x0 :: st) σ r := r_aload_n d211_287 rfl
theorem d211_288 : decode (mC 211) 288 = .ok (.iload_n 3, 1) := by decide +kernel
theorem x211_288 {sc : aSc} {d : Nat} {r : aRes} {a0 : Value} {a1 : Value} {a2 : Value} {x3 : Int32} {st : List Value} {σ : aS} : Rn sc d 211 288 [a0, a1, a2, .int x3] st σ r ↔ Rn sc d 211 289 [a0, a1, a2, .int x3] (.int x3 :: st) σ r := r_iload_n d211_288 rfl
theorem d211_289 : decode (mC 211) 289 = .ok (.iconst 2, 1) := by decide +kernel
theorem x211_289 {sc : aSc} {d : Nat} {r : aRes} {L : List Value} {st : List Value} {σ : aS} : Rn sc d 211 289 L st σ r ↔ Rn sc d 211 290 L (.int 2 :: st) σ r := r_iconst d211_289 (by decide)
theorem d211_290 : decode (mC 211) 290 = .ok (.iadd, 1) := by decide +kernel
theorem x211_290 {sc : aSc} {d : Nat} {r : aRes} {L : List Value} {st : List Value} {σ : aS} {x y : Int32} : Rn sc d 211 290 L (.int y :: .int x :: st) σ r ↔ Rn sc d 211 291 L (.int (x + y) :: st) σ r := r_iadd d211_290
theorem d211_291 : decode (mC 211) 291 = .ok (.iaload, 1) := by decide +kernel
theorem d211_292 : decode (mC 211) 292 = .ok (.invokevirtual 22, 3) := by decide +kernel
theorem x211_292 {sc : aSc} {d : Nat} {r : aRes} {L : List Value} {f : Nat → Nat → Int32} {g : Nat → Nat → Int64} {h1 h2 : Nat} {y0 : Int32} {y1 : Int32} {z0 : Int32} {o : Nat} (hK : KK[o]? = some (.inl 7)) : Rn sc d 211 292 L [.int y0, .int y1, .ref o, .int z0] (cS f g h1 h2) r ↔ ∃ (σ3 : aS) (v : Option Value), Cl sc d 144 [.ref o, .int y1, .int y0] (cS f g h1 h2) (σ3, v) ∧ Rn sc d 211 295 L (v.toList ++ [.int z0]) σ3 r := r_callV (vs := [.int y0, .int y1]) d211_292 (j := 144) (by decide +kernel) ⟨rfl, by decide, rfl, rfl⟩ (Nat.le_of_ble_eq_true rfl) hK
theorem d211_295 : decode (mC 211) 295 = .ok (.if_icmp .eq 1040, 3) := by decide +kernel
theorem x211_295 {sc : aSc} {d : Nat} {r : aRes} {L : List Value} {st : List Value} {σ : aS} {x y : Int32} : Rn sc d 211 295 L (.int y :: .int x :: st) σ r ↔ if x = y then Rn sc d 211 1335 L st σ r else Rn sc d 211 298 L st σ r := r_icmp_eq d211_295 rfl
theorem d211_298 : decode (mC 211) 298 = .ok (.iconst 0, 1) := by decide +kernel
theorem x211_298 {sc : aSc} {d : Nat} {r : aRes} {L : List Value} {st : List Value} {σ : aS} : Rn sc d 211 298 L st σ r ↔ Rn sc d 211 299 L (.int 0 :: st) σ r := r_iconst d211_298 (by decide)
theorem d211_299 : decode (mC 211) 299 = .ok (.ireturn, 1) := by decide +kernel
theorem d211_300 : decode (mC 211) 300 = .ok (.aload_n 1, 1) := by decide +kernel
theorem x211_300 {sc : aSc} {d : Nat} {r : aRes} {a0 : Value} {x1 : Nat} {a2 : Value} {a3 : Value} {st : List Value} {σ : aS} : Rn sc d 211 300 [a0, .ref x1, a2, a3] st σ r ↔ Rn sc d 211 301 [a0, .ref x1, a2, a3] (.ref x1 :: st) σ r := r_aload_n d211_300 rfl
theorem d211_301 : decode (mC 211) 301 = .ok (.aload_n 0, 1) := by decide +kernel
theorem x211_301 {sc : aSc} {d : Nat} {r : aRes} {x0 : Nat} {a1 : Value} {a2 : Value} {a3 : Value} {st : List Value} {σ : aS} : Rn sc d 211 301 [.ref x0, a1, a2, a3] st σ r ↔ Rn sc d 211 302 [.ref x0, a1, a2, a3] (.ref x0 :: st) σ r := r_aload_n d211_301 rfl
theorem d211_302 : decode (mC 211) 302 = .ok (.iload_n 3, 1) := by decide +kernel
theorem x211_302 {sc : aSc} {d : Nat} {r : aRes} {a0 : Value} {a1 : Value} {a2 : Value} {x3 : Int32} {st : List Value} {σ : aS} : Rn sc d 211 302 [a0, a1, a2, .int x3] st σ r ↔ Rn sc d 211 303 [a0, a1, a2, .int x3] (.int x3 :: st) σ r := r_iload_n d211_302 rfl
theorem d211_303 : decode (mC 211) 303 = .ok (.iconst 1, 1) := by decide +kernel
theorem x211_303 {sc : aSc} {d : Nat} {r : aRes} {L : List Value} {st : List Value} {σ : aS} : Rn sc d 211 303 L st σ r ↔ Rn sc d 211 304 L (.int 1 :: st) σ r := r_iconst d211_303 (by decide)
theorem d211_304 : decode (mC 211) 304 = .ok (.iadd, 1) := by decide +kernel
theorem x211_304 {sc : aSc} {d : Nat} {r : aRes} {L : List Value} {st : List Value} {σ : aS} {x y : Int32} : Rn sc d 211 304 L (.int y :: .int x :: st) σ r ↔ Rn sc d 211 305 L (.int (x + y) :: st) σ r := r_iadd d211_304
theorem d211_305 : decode (mC 211) 305 = .ok (.iaload, 1) := by decide +kernel
theorem d211_306 : decode (mC 211) 306 = .ok (.aload_n 0, 1) := by decide +kernel
theorem x211_306 {sc : aSc} {d : Nat} {r : aRes} {x0 : Nat} {a1 : Value} {a2 : Value} {a3 : Value} {st : List Value} {σ : aS} : Rn sc d 211 306 [.ref x0, a1, a2, a3] st σ r ↔ Rn sc d 211 307 [.ref x0, a1, a2, a3] (.ref x0 :: st) σ r := r_aload_n d211_306 rfl
theorem d211_307 : decode (mC 211) 307 = .ok (.iload_n 3, 1) := by decide +kernel
theorem x211_307 {sc : aSc} {d : Nat} {r : aRes} {a0 : Value} {a1 : Value} {a2 : Value} {x3 : Int32} {st : List Value} {σ : aS} : Rn sc d 211 307 [a0, a1, a2, .int x3] st σ r ↔ Rn sc d 211 308 [a0, a1, a2, .int x3] (.int x3 :: st) σ r := r_iload_n d211_307 rfl
theorem d211_308 : decode (mC 211) 308 = .ok (.iconst 2, 1) := by decide +kernel
theorem x211_308 {sc : aSc} {d : Nat} {r : aRes} {L : List Value} {st : List Value} {σ : aS} : Rn sc d 211 308 L st σ r ↔ Rn sc d 211 309 L (.int 2 :: st) σ r := r_iconst d211_308 (by decide)
theorem d211_309 : decode (mC 211) 309 = .ok (.iadd, 1) := by decide +kernel
theorem x211_309 {sc : aSc} {d : Nat} {r : aRes} {L : List Value} {st : List Value} {σ : aS} {x y : Int32} : Rn sc d 211 309 L (.int y :: .int x :: st) σ r ↔ Rn sc d 211 310 L (.int (x + y) :: st) σ r := r_iadd d211_309
theorem d211_310 : decode (mC 211) 310 = .ok (.iaload, 1) := by decide +kernel
theorem d211_311 : decode (mC 211) 311 = .ok (.aload_n 0, 1) := by decide +kernel
theorem x211_311 {sc : aSc} {d : Nat} {r : aRes} {x0 : Nat} {a1 : Value} {a2 : Value} {a3 : Value} {st : List Value} {σ : aS} : Rn sc d 211 311 [.ref x0, a1, a2, a3] st σ r ↔ Rn sc d 211 312 [.ref x0, a1, a2, a3] (.ref x0 :: st) σ r := r_aload_n d211_311 rfl
theorem d211_312 : decode (mC 211) 312 = .ok (.iload_n 3, 1) := by decide +kernel
theorem x211_312 {sc : aSc} {d : Nat} {r : aRes} {a0 : Value} {a1 : Value} {a2 : Value} {x3 : Int32} {st : List Value} {σ : aS} : Rn sc d 211 312 [a0, a1, a2, .int x3] st σ r ↔ Rn sc d 211 313 [a0, a1, a2, .int x3] (.int x3 :: st) σ r := r_iload_n d211_312 rfl
theorem d211_313 : decode (mC 211) 313 = .ok (.iconst 3, 1) := by decide +kernel
theorem x211_313 {sc : aSc} {d : Nat} {r : aRes} {L : List Value} {st : List Value} {σ : aS} : Rn sc d 211 313 L st σ r ↔ Rn sc d 211 314 L (.int 3 :: st) σ r := r_iconst d211_313 (by decide)
theorem d211_314 : decode (mC 211) 314 = .ok (.iadd, 1) := by decide +kernel
theorem x211_314 {sc : aSc} {d : Nat} {r : aRes} {L : List Value} {st : List Value} {σ : aS} {x y : Int32} : Rn sc d 211 314 L (.int y :: .int x :: st) σ r ↔ Rn sc d 211 315 L (.int (x + y) :: st) σ r := r_iadd d211_314
theorem d211_315 : decode (mC 211) 315 = .ok (.iaload, 1) := by decide +kernel
theorem d211_316 : decode (mC 211) 316 = .ok (.invokevirtual 23, 3) := by decide +kernel
theorem x211_316 {sc : aSc} {d : Nat} {r : aRes} {L : List Value} {f : Nat → Nat → Int32} {g : Nat → Nat → Int64} {h1 h2 : Nat} {y0 : Int32} {y1 : Int32} {y2 : Int32}  {o : Nat} (hK : KK[o]? = some (.inl 6)) : Rn sc d 211 316 L [.int y0, .int y1, .int y2, .ref o] (cS f g h1 h2) r ↔ ∃ (σ3 : aS) (v : Option Value), Cl sc d 68 [.ref o, .int y2, .int y1, .int y0] (cS f g h1 h2) (σ3, v) ∧ Rn sc d 211 319 L (v.toList ++ []) σ3 r := r_callV (vs := [.int y0, .int y1, .int y2]) d211_316 (j := 68) (by decide +kernel) ⟨rfl, by decide, rfl, rfl⟩ (Nat.le_of_ble_eq_true rfl) hK
theorem d211_319 : decode (mC 211) 319 = .ok (.aload_n 2, 1) := by decide +kernel
theorem x211_319 {sc : aSc} {d : Nat} {r : aRes} {a0 : Value} {a1 : Value} {x2 : Nat} {a3 : Value} {st : List Value} {σ : aS} : Rn sc d 211 319 [a0, a1, .ref x2, a3] st σ r ↔ Rn sc d 211 320 [a0, a1, .ref x2, a3] (.ref x2 :: st) σ r := r_aload_n d211_319 rfl
theorem d211_320 : decode (mC 211) 320 = .ok (.aload_n 0, 1) := by decide +kernel
theorem x211_320 {sc : aSc} {d : Nat} {r : aRes} {x0 : Nat} {a1 : Value} {a2 : Value} {a3 : Value} {st : List Value} {σ : aS} : Rn sc d 211 320 [.ref x0, a1, a2, a3] st σ r ↔ Rn sc d 211 321 [.ref x0, a1, a2, a3] (.ref x0 :: st) σ r := r_aload_n d211_320 rfl
theorem d211_321 : decode (mC 211) 321 = .ok (.iload_n 3, 1) := by decide +kernel
theorem x211_321 {sc : aSc} {d : Nat} {r : aRes} {a0 : Value} {a1 : Value} {a2 : Value} {x3 : Int32} {st : List Value} {σ : aS} : Rn sc d 211 321 [a0, a1, a2, .int x3] st σ r ↔ Rn sc d 211 322 [a0, a1, a2, .int x3] (.int x3 :: st) σ r := r_iload_n d211_321 rfl
theorem d211_322 : decode (mC 211) 322 = .ok (.iconst 1, 1) := by decide +kernel
theorem x211_322 {sc : aSc} {d : Nat} {r : aRes} {L : List Value} {st : List Value} {σ : aS} : Rn sc d 211 322 L st σ r ↔ Rn sc d 211 323 L (.int 1 :: st) σ r := r_iconst d211_322 (by decide)
theorem d211_323 : decode (mC 211) 323 = .ok (.iadd, 1) := by decide +kernel
theorem x211_323 {sc : aSc} {d : Nat} {r : aRes} {L : List Value} {st : List Value} {σ : aS} {x y : Int32} : Rn sc d 211 323 L (.int y :: .int x :: st) σ r ↔ Rn sc d 211 324 L (.int (x + y) :: st) σ r := r_iadd d211_323
theorem d211_324 : decode (mC 211) 324 = .ok (.iaload, 1) := by decide +kernel
theorem d211_325 : decode (mC 211) 325 = .ok (.aload_n 0, 1) := by decide +kernel
theorem x211_325 {sc : aSc} {d : Nat} {r : aRes} {x0 : Nat} {a1 : Value} {a2 : Value} {a3 : Value} {st : List Value} {σ : aS} : Rn sc d 211 325 [.ref x0, a1, a2, a3] st σ r ↔ Rn sc d 211 326 [.ref x0, a1, a2, a3] (.ref x0 :: st) σ r := r_aload_n d211_325 rfl
theorem d211_326 : decode (mC 211) 326 = .ok (.iload_n 3, 1) := by decide +kernel
theorem x211_326 {sc : aSc} {d : Nat} {r : aRes} {a0 : Value} {a1 : Value} {a2 : Value} {x3 : Int32} {st : List Value} {σ : aS} : Rn sc d 211 326 [a0, a1, a2, .int x3] st σ r ↔ Rn sc d 211 327 [a0, a1, a2, .int x3] (.int x3 :: st) σ r := r_iload_n d211_326 rfl
theorem d211_327 : decode (mC 211) 327 = .ok (.iconst 2, 1) := by decide +kernel
theorem x211_327 {sc : aSc} {d : Nat} {r : aRes} {L : List Value} {st : List Value} {σ : aS} : Rn sc d 211 327 L st σ r ↔ Rn sc d 211 328 L (.int 2 :: st) σ r := r_iconst d211_327 (by decide)
theorem d211_328 : decode (mC 211) 328 = .ok (.iadd, 1) := by decide +kernel
theorem x211_328 {sc : aSc} {d : Nat} {r : aRes} {L : List Value} {st : List Value} {σ : aS} {x y : Int32} : Rn sc d 211 328 L (.int y :: .int x :: st) σ r ↔ Rn sc d 211 329 L (.int (x + y) :: st) σ r := r_iadd d211_328
theorem d211_329 : decode (mC 211) 329 = .ok (.iaload, 1) := by decide +kernel
theorem d211_330 : decode (mC 211) 330 = .ok (.aload_n 0, 1) := by decide +kernel
theorem x211_330 {sc : aSc} {d : Nat} {r : aRes} {x0 : Nat} {a1 : Value} {a2 : Value} {a3 : Value} {st : List Value} {σ : aS} : Rn sc d 211 330 [.ref x0, a1, a2, a3] st σ r ↔ Rn sc d 211 331 [.ref x0, a1, a2, a3] (.ref x0 :: st) σ r := r_aload_n d211_330 rfl
theorem d211_331 : decode (mC 211) 331 = .ok (.iload_n 3, 1) := by decide +kernel
theorem x211_331 {sc : aSc} {d : Nat} {r : aRes} {a0 : Value} {a1 : Value} {a2 : Value} {x3 : Int32} {st : List Value} {σ : aS} : Rn sc d 211 331 [a0, a1, a2, .int x3] st σ r ↔ Rn sc d 211 332 [a0, a1, a2, .int x3] (.int x3 :: st) σ r := r_iload_n d211_331 rfl
theorem d211_332 : decode (mC 211) 332 = .ok (.iconst 3, 1) := by decide +kernel
theorem x211_332 {sc : aSc} {d : Nat} {r : aRes} {L : List Value} {st : List Value} {σ : aS} : Rn sc d 211 332 L st σ r ↔ Rn sc d 211 333 L (.int 3 :: st) σ r := r_iconst d211_332 (by decide)
theorem d211_333 : decode (mC 211) 333 = .ok (.iadd, 1) := by decide +kernel
theorem x211_333 {sc : aSc} {d : Nat} {r : aRes} {L : List Value} {st : List Value} {σ : aS} {x y : Int32} : Rn sc d 211 333 L (.int y :: .int x :: st) σ r ↔ Rn sc d 211 334 L (.int (x + y) :: st) σ r := r_iadd d211_333
theorem d211_334 : decode (mC 211) 334 = .ok (.iaload, 1) := by decide +kernel
theorem d211_335 : decode (mC 211) 335 = .ok (.invokevirtual 27, 3) := by decide +kernel
theorem x211_335 {sc : aSc} {d : Nat} {r : aRes} {L : List Value} {f : Nat → Nat → Int32} {g : Nat → Nat → Int64} {h1 h2 : Nat} {y0 : Int32} {y1 : Int32} {y2 : Int32} {z0 : Int32} {o : Nat} (hK : KK[o]? = some (.inl 7)) : Rn sc d 211 335 L [.int y0, .int y1, .int y2, .ref o, .int z0] (cS f g h1 h2) r ↔ ∃ (σ3 : aS) (v : Option Value), Cl sc d 111 [.ref o, .int y2, .int y1, .int y0] (cS f g h1 h2) (σ3, v) ∧ Rn sc d 211 338 L (v.toList ++ [.int z0]) σ3 r := r_callV (vs := [.int y0, .int y1, .int y2]) d211_335 (j := 111) (by decide +kernel) ⟨rfl, by decide, rfl, rfl⟩ (Nat.le_of_ble_eq_true rfl) hK
theorem d211_338 : decode (mC 211) 338 = .ok (.if_icmp .eq 997, 3) := by decide +kernel
theorem x211_338 {sc : aSc} {d : Nat} {r : aRes} {L : List Value} {st : List Value} {σ : aS} {x y : Int32} : Rn sc d 211 338 L (.int y :: .int x :: st) σ r ↔ if x = y then Rn sc d 211 1335 L st σ r else Rn sc d 211 341 L st σ r := r_icmp_eq d211_338 rfl
theorem d211_341 : decode (mC 211) 341 = .ok (.iconst 0, 1) := by decide +kernel
theorem x211_341 {sc : aSc} {d : Nat} {r : aRes} {L : List Value} {st : List Value} {σ : aS} : Rn sc d 211 341 L st σ r ↔ Rn sc d 211 342 L (.int 0 :: st) σ r := r_iconst d211_341 (by decide)
theorem d211_342 : decode (mC 211) 342 = .ok (.ireturn, 1) := by decide +kernel
theorem d211_343 : decode (mC 211) 343 = .ok (.aload_n 1, 1) := by decide +kernel
theorem x211_343 {sc : aSc} {d : Nat} {r : aRes} {a0 : Value} {x1 : Nat} {a2 : Value} {a3 : Value} {st : List Value} {σ : aS} : Rn sc d 211 343 [a0, .ref x1, a2, a3] st σ r ↔ Rn sc d 211 344 [a0, .ref x1, a2, a3] (.ref x1 :: st) σ r := r_aload_n d211_343 rfl
theorem d211_344 : decode (mC 211) 344 = .ok (.aload_n 0, 1) := by decide +kernel
theorem x211_344 {sc : aSc} {d : Nat} {r : aRes} {x0 : Nat} {a1 : Value} {a2 : Value} {a3 : Value} {st : List Value} {σ : aS} : Rn sc d 211 344 [.ref x0, a1, a2, a3] st σ r ↔ Rn sc d 211 345 [.ref x0, a1, a2, a3] (.ref x0 :: st) σ r := r_aload_n d211_344 rfl
theorem d211_345 : decode (mC 211) 345 = .ok (.iload_n 3, 1) := by decide +kernel
theorem x211_345 {sc : aSc} {d : Nat} {r : aRes} {a0 : Value} {a1 : Value} {a2 : Value} {x3 : Int32} {st : List Value} {σ : aS} : Rn sc d 211 345 [a0, a1, a2, .int x3] st σ r ↔ Rn sc d 211 346 [a0, a1, a2, .int x3] (.int x3 :: st) σ r := r_iload_n d211_345 rfl
theorem d211_346 : decode (mC 211) 346 = .ok (.iconst 1, 1) := by decide +kernel
theorem x211_346 {sc : aSc} {d : Nat} {r : aRes} {L : List Value} {st : List Value} {σ : aS} : Rn sc d 211 346 L st σ r ↔ Rn sc d 211 347 L (.int 1 :: st) σ r := r_iconst d211_346 (by decide)
theorem d211_347 : decode (mC 211) 347 = .ok (.iadd, 1) := by decide +kernel
theorem x211_347 {sc : aSc} {d : Nat} {r : aRes} {L : List Value} {st : List Value} {σ : aS} {x y : Int32} : Rn sc d 211 347 L (.int y :: .int x :: st) σ r ↔ Rn sc d 211 348 L (.int (x + y) :: st) σ r := r_iadd d211_347
theorem d211_348 : decode (mC 211) 348 = .ok (.iaload, 1) := by decide +kernel
theorem d211_349 : decode (mC 211) 349 = .ok (.aload_n 0, 1) := by decide +kernel
theorem x211_349 {sc : aSc} {d : Nat} {r : aRes} {x0 : Nat} {a1 : Value} {a2 : Value} {a3 : Value} {st : List Value} {σ : aS} : Rn sc d 211 349 [.ref x0, a1, a2, a3] st σ r ↔ Rn sc d 211 350 [.ref x0, a1, a2, a3] (.ref x0 :: st) σ r := r_aload_n d211_349 rfl
theorem d211_350 : decode (mC 211) 350 = .ok (.iload_n 3, 1) := by decide +kernel
theorem x211_350 {sc : aSc} {d : Nat} {r : aRes} {a0 : Value} {a1 : Value} {a2 : Value} {x3 : Int32} {st : List Value} {σ : aS} : Rn sc d 211 350 [a0, a1, a2, .int x3] st σ r ↔ Rn sc d 211 351 [a0, a1, a2, .int x3] (.int x3 :: st) σ r := r_iload_n d211_350 rfl
theorem d211_351 : decode (mC 211) 351 = .ok (.iconst 2, 1) := by decide +kernel
theorem x211_351 {sc : aSc} {d : Nat} {r : aRes} {L : List Value} {st : List Value} {σ : aS} : Rn sc d 211 351 L st σ r ↔ Rn sc d 211 352 L (.int 2 :: st) σ r := r_iconst d211_351 (by decide)
theorem d211_352 : decode (mC 211) 352 = .ok (.iadd, 1) := by decide +kernel
theorem x211_352 {sc : aSc} {d : Nat} {r : aRes} {L : List Value} {st : List Value} {σ : aS} {x y : Int32} : Rn sc d 211 352 L (.int y :: .int x :: st) σ r ↔ Rn sc d 211 353 L (.int (x + y) :: st) σ r := r_iadd d211_352
theorem d211_353 : decode (mC 211) 353 = .ok (.iaload, 1) := by decide +kernel
theorem d211_354 : decode (mC 211) 354 = .ok (.aload_n 0, 1) := by decide +kernel
theorem x211_354 {sc : aSc} {d : Nat} {r : aRes} {x0 : Nat} {a1 : Value} {a2 : Value} {a3 : Value} {st : List Value} {σ : aS} : Rn sc d 211 354 [.ref x0, a1, a2, a3] st σ r ↔ Rn sc d 211 355 [.ref x0, a1, a2, a3] (.ref x0 :: st) σ r := r_aload_n d211_354 rfl
theorem d211_355 : decode (mC 211) 355 = .ok (.iload_n 3, 1) := by decide +kernel
theorem x211_355 {sc : aSc} {d : Nat} {r : aRes} {a0 : Value} {a1 : Value} {a2 : Value} {x3 : Int32} {st : List Value} {σ : aS} : Rn sc d 211 355 [a0, a1, a2, .int x3] st σ r ↔ Rn sc d 211 356 [a0, a1, a2, .int x3] (.int x3 :: st) σ r := r_iload_n d211_355 rfl
theorem d211_356 : decode (mC 211) 356 = .ok (.iconst 3, 1) := by decide +kernel
theorem x211_356 {sc : aSc} {d : Nat} {r : aRes} {L : List Value} {st : List Value} {σ : aS} : Rn sc d 211 356 L st σ r ↔ Rn sc d 211 357 L (.int 3 :: st) σ r := r_iconst d211_356 (by decide)
theorem d211_357 : decode (mC 211) 357 = .ok (.iadd, 1) := by decide +kernel
theorem x211_357 {sc : aSc} {d : Nat} {r : aRes} {L : List Value} {st : List Value} {σ : aS} {x y : Int32} : Rn sc d 211 357 L (.int y :: .int x :: st) σ r ↔ Rn sc d 211 358 L (.int (x + y) :: st) σ r := r_iadd d211_357
theorem d211_358 : decode (mC 211) 358 = .ok (.iaload, 1) := by decide +kernel
theorem d211_359 : decode (mC 211) 359 = .ok (.invokevirtual 28, 3) := by decide +kernel
theorem x211_359 {sc : aSc} {d : Nat} {r : aRes} {L : List Value} {f : Nat → Nat → Int32} {g : Nat → Nat → Int64} {h1 h2 : Nat} {y0 : Int32} {y1 : Int32} {y2 : Int32}  {o : Nat} (hK : KK[o]? = some (.inl 6)) : Rn sc d 211 359 L [.int y0, .int y1, .int y2, .ref o] (cS f g h1 h2) r ↔ ∃ (σ3 : aS) (v : Option Value), Cl sc d 69 [.ref o, .int y2, .int y1, .int y0] (cS f g h1 h2) (σ3, v) ∧ Rn sc d 211 362 L (v.toList ++ []) σ3 r := r_callV (vs := [.int y0, .int y1, .int y2]) d211_359 (j := 69) (by decide +kernel) ⟨rfl, by decide, rfl, rfl⟩ (Nat.le_of_ble_eq_true rfl) hK
theorem d211_362 : decode (mC 211) 362 = .ok (.aload_n 2, 1) := by decide +kernel
theorem x211_362 {sc : aSc} {d : Nat} {r : aRes} {a0 : Value} {a1 : Value} {x2 : Nat} {a3 : Value} {st : List Value} {σ : aS} : Rn sc d 211 362 [a0, a1, .ref x2, a3] st σ r ↔ Rn sc d 211 363 [a0, a1, .ref x2, a3] (.ref x2 :: st) σ r := r_aload_n d211_362 rfl
theorem d211_363 : decode (mC 211) 363 = .ok (.aload_n 0, 1) := by decide +kernel
theorem x211_363 {sc : aSc} {d : Nat} {r : aRes} {x0 : Nat} {a1 : Value} {a2 : Value} {a3 : Value} {st : List Value} {σ : aS} : Rn sc d 211 363 [.ref x0, a1, a2, a3] st σ r ↔ Rn sc d 211 364 [.ref x0, a1, a2, a3] (.ref x0 :: st) σ r := r_aload_n d211_363 rfl
theorem d211_364 : decode (mC 211) 364 = .ok (.iload_n 3, 1) := by decide +kernel
theorem x211_364 {sc : aSc} {d : Nat} {r : aRes} {a0 : Value} {a1 : Value} {a2 : Value} {x3 : Int32} {st : List Value} {σ : aS} : Rn sc d 211 364 [a0, a1, a2, .int x3] st σ r ↔ Rn sc d 211 365 [a0, a1, a2, .int x3] (.int x3 :: st) σ r := r_iload_n d211_364 rfl
theorem d211_365 : decode (mC 211) 365 = .ok (.iconst 1, 1) := by decide +kernel
theorem x211_365 {sc : aSc} {d : Nat} {r : aRes} {L : List Value} {st : List Value} {σ : aS} : Rn sc d 211 365 L st σ r ↔ Rn sc d 211 366 L (.int 1 :: st) σ r := r_iconst d211_365 (by decide)
theorem d211_366 : decode (mC 211) 366 = .ok (.iadd, 1) := by decide +kernel
theorem x211_366 {sc : aSc} {d : Nat} {r : aRes} {L : List Value} {st : List Value} {σ : aS} {x y : Int32} : Rn sc d 211 366 L (.int y :: .int x :: st) σ r ↔ Rn sc d 211 367 L (.int (x + y) :: st) σ r := r_iadd d211_366
theorem d211_367 : decode (mC 211) 367 = .ok (.iaload, 1) := by decide +kernel
theorem d211_368 : decode (mC 211) 368 = .ok (.aload_n 0, 1) := by decide +kernel
theorem x211_368 {sc : aSc} {d : Nat} {r : aRes} {x0 : Nat} {a1 : Value} {a2 : Value} {a3 : Value} {st : List Value} {σ : aS} : Rn sc d 211 368 [.ref x0, a1, a2, a3] st σ r ↔ Rn sc d 211 369 [.ref x0, a1, a2, a3] (.ref x0 :: st) σ r := r_aload_n d211_368 rfl
theorem d211_369 : decode (mC 211) 369 = .ok (.iload_n 3, 1) := by decide +kernel
theorem x211_369 {sc : aSc} {d : Nat} {r : aRes} {a0 : Value} {a1 : Value} {a2 : Value} {x3 : Int32} {st : List Value} {σ : aS} : Rn sc d 211 369 [a0, a1, a2, .int x3] st σ r ↔ Rn sc d 211 370 [a0, a1, a2, .int x3] (.int x3 :: st) σ r := r_iload_n d211_369 rfl
theorem d211_370 : decode (mC 211) 370 = .ok (.iconst 2, 1) := by decide +kernel
theorem x211_370 {sc : aSc} {d : Nat} {r : aRes} {L : List Value} {st : List Value} {σ : aS} : Rn sc d 211 370 L st σ r ↔ Rn sc d 211 371 L (.int 2 :: st) σ r := r_iconst d211_370 (by decide)
theorem d211_371 : decode (mC 211) 371 = .ok (.iadd, 1) := by decide +kernel
theorem x211_371 {sc : aSc} {d : Nat} {r : aRes} {L : List Value} {st : List Value} {σ : aS} {x y : Int32} : Rn sc d 211 371 L (.int y :: .int x :: st) σ r ↔ Rn sc d 211 372 L (.int (x + y) :: st) σ r := r_iadd d211_371
theorem d211_372 : decode (mC 211) 372 = .ok (.iaload, 1) := by decide +kernel
theorem d211_373 : decode (mC 211) 373 = .ok (.aload_n 0, 1) := by decide +kernel
theorem x211_373 {sc : aSc} {d : Nat} {r : aRes} {x0 : Nat} {a1 : Value} {a2 : Value} {a3 : Value} {st : List Value} {σ : aS} : Rn sc d 211 373 [.ref x0, a1, a2, a3] st σ r ↔ Rn sc d 211 374 [.ref x0, a1, a2, a3] (.ref x0 :: st) σ r := r_aload_n d211_373 rfl
theorem d211_374 : decode (mC 211) 374 = .ok (.iload_n 3, 1) := by decide +kernel
theorem x211_374 {sc : aSc} {d : Nat} {r : aRes} {a0 : Value} {a1 : Value} {a2 : Value} {x3 : Int32} {st : List Value} {σ : aS} : Rn sc d 211 374 [a0, a1, a2, .int x3] st σ r ↔ Rn sc d 211 375 [a0, a1, a2, .int x3] (.int x3 :: st) σ r := r_iload_n d211_374 rfl
theorem d211_375 : decode (mC 211) 375 = .ok (.iconst 3, 1) := by decide +kernel
theorem x211_375 {sc : aSc} {d : Nat} {r : aRes} {L : List Value} {st : List Value} {σ : aS} : Rn sc d 211 375 L st σ r ↔ Rn sc d 211 376 L (.int 3 :: st) σ r := r_iconst d211_375 (by decide)
theorem d211_376 : decode (mC 211) 376 = .ok (.iadd, 1) := by decide +kernel
theorem x211_376 {sc : aSc} {d : Nat} {r : aRes} {L : List Value} {st : List Value} {σ : aS} {x y : Int32} : Rn sc d 211 376 L (.int y :: .int x :: st) σ r ↔ Rn sc d 211 377 L (.int (x + y) :: st) σ r := r_iadd d211_376
theorem d211_377 : decode (mC 211) 377 = .ok (.iaload, 1) := by decide +kernel
theorem d211_378 : decode (mC 211) 378 = .ok (.invokevirtual 31, 3) := by decide +kernel
theorem x211_378 {sc : aSc} {d : Nat} {r : aRes} {L : List Value} {f : Nat → Nat → Int32} {g : Nat → Nat → Int64} {h1 h2 : Nat} {y0 : Int32} {y1 : Int32} {y2 : Int32} {z0 : Int32} {o : Nat} (hK : KK[o]? = some (.inl 7)) : Rn sc d 211 378 L [.int y0, .int y1, .int y2, .ref o, .int z0] (cS f g h1 h2) r ↔ ∃ (σ3 : aS) (v : Option Value), Cl sc d 112 [.ref o, .int y2, .int y1, .int y0] (cS f g h1 h2) (σ3, v) ∧ Rn sc d 211 381 L (v.toList ++ [.int z0]) σ3 r := r_callV (vs := [.int y0, .int y1, .int y2]) d211_378 (j := 112) (by decide +kernel) ⟨rfl, by decide, rfl, rfl⟩ (Nat.le_of_ble_eq_true rfl) hK
theorem d211_381 : decode (mC 211) 381 = .ok (.if_icmp .eq 954, 3) := by decide +kernel
theorem x211_381 {sc : aSc} {d : Nat} {r : aRes} {L : List Value} {st : List Value} {σ : aS} {x y : Int32} : Rn sc d 211 381 L (.int y :: .int x :: st) σ r ↔ if x = y then Rn sc d 211 1335 L st σ r else Rn sc d 211 384 L st σ r := r_icmp_eq d211_381 rfl
theorem d211_384 : decode (mC 211) 384 = .ok (.iconst 0, 1) := by decide +kernel
theorem x211_384 {sc : aSc} {d : Nat} {r : aRes} {L : List Value} {st : List Value} {σ : aS} : Rn sc d 211 384 L st σ r ↔ Rn sc d 211 385 L (.int 0 :: st) σ r := r_iconst d211_384 (by decide)
theorem d211_385 : decode (mC 211) 385 = .ok (.ireturn, 1) := by decide +kernel
theorem d211_386 : decode (mC 211) 386 = .ok (.aload_n 1, 1) := by decide +kernel
theorem x211_386 {sc : aSc} {d : Nat} {r : aRes} {a0 : Value} {x1 : Nat} {a2 : Value} {a3 : Value} {st : List Value} {σ : aS} : Rn sc d 211 386 [a0, .ref x1, a2, a3] st σ r ↔ Rn sc d 211 387 [a0, .ref x1, a2, a3] (.ref x1 :: st) σ r := r_aload_n d211_386 rfl
theorem d211_387 : decode (mC 211) 387 = .ok (.aload_n 0, 1) := by decide +kernel
theorem x211_387 {sc : aSc} {d : Nat} {r : aRes} {x0 : Nat} {a1 : Value} {a2 : Value} {a3 : Value} {st : List Value} {σ : aS} : Rn sc d 211 387 [.ref x0, a1, a2, a3] st σ r ↔ Rn sc d 211 388 [.ref x0, a1, a2, a3] (.ref x0 :: st) σ r := r_aload_n d211_387 rfl
theorem d211_388 : decode (mC 211) 388 = .ok (.iload_n 3, 1) := by decide +kernel
theorem x211_388 {sc : aSc} {d : Nat} {r : aRes} {a0 : Value} {a1 : Value} {a2 : Value} {x3 : Int32} {st : List Value} {σ : aS} : Rn sc d 211 388 [a0, a1, a2, .int x3] st σ r ↔ Rn sc d 211 389 [a0, a1, a2, .int x3] (.int x3 :: st) σ r := r_iload_n d211_388 rfl
theorem d211_389 : decode (mC 211) 389 = .ok (.iconst 1, 1) := by decide +kernel
theorem x211_389 {sc : aSc} {d : Nat} {r : aRes} {L : List Value} {st : List Value} {σ : aS} : Rn sc d 211 389 L st σ r ↔ Rn sc d 211 390 L (.int 1 :: st) σ r := r_iconst d211_389 (by decide)
theorem d211_390 : decode (mC 211) 390 = .ok (.iadd, 1) := by decide +kernel
theorem x211_390 {sc : aSc} {d : Nat} {r : aRes} {L : List Value} {st : List Value} {σ : aS} {x y : Int32} : Rn sc d 211 390 L (.int y :: .int x :: st) σ r ↔ Rn sc d 211 391 L (.int (x + y) :: st) σ r := r_iadd d211_390
theorem d211_391 : decode (mC 211) 391 = .ok (.iaload, 1) := by decide +kernel
theorem d211_392 : decode (mC 211) 392 = .ok (.invokevirtual 32, 3) := by decide +kernel
theorem x211_392 {sc : aSc} {d : Nat} {r : aRes} {L : List Value} {f : Nat → Nat → Int32} {g : Nat → Nat → Int64} {h1 h2 : Nat} {y0 : Int32}  {o : Nat} (hK : KK[o]? = some (.inl 6)) : Rn sc d 211 392 L [.int y0, .ref o] (cS f g h1 h2) r ↔ ∃ (σ3 : aS) (v : Option Value), Cl sc d 70 [.ref o, .int y0] (cS f g h1 h2) (σ3, v) ∧ Rn sc d 211 395 L (v.toList ++ []) σ3 r := r_callV (vs := [.int y0]) d211_392 (j := 70) (by decide +kernel) ⟨rfl, by decide, rfl, rfl⟩ (Nat.le_of_ble_eq_true rfl) hK
theorem d211_395 : decode (mC 211) 395 = .ok (.aload_n 2, 1) := by decide +kernel
theorem x211_395 {sc : aSc} {d : Nat} {r : aRes} {a0 : Value} {a1 : Value} {x2 : Nat} {a3 : Value} {st : List Value} {σ : aS} : Rn sc d 211 395 [a0, a1, .ref x2, a3] st σ r ↔ Rn sc d 211 396 [a0, a1, .ref x2, a3] (.ref x2 :: st) σ r := r_aload_n d211_395 rfl
theorem d211_396 : decode (mC 211) 396 = .ok (.aload_n 0, 1) := by decide +kernel
theorem x211_396 {sc : aSc} {d : Nat} {r : aRes} {x0 : Nat} {a1 : Value} {a2 : Value} {a3 : Value} {st : List Value} {σ : aS} : Rn sc d 211 396 [.ref x0, a1, a2, a3] st σ r ↔ Rn sc d 211 397 [.ref x0, a1, a2, a3] (.ref x0 :: st) σ r := r_aload_n d211_396 rfl
theorem d211_397 : decode (mC 211) 397 = .ok (.iload_n 3, 1) := by decide +kernel
theorem x211_397 {sc : aSc} {d : Nat} {r : aRes} {a0 : Value} {a1 : Value} {a2 : Value} {x3 : Int32} {st : List Value} {σ : aS} : Rn sc d 211 397 [a0, a1, a2, .int x3] st σ r ↔ Rn sc d 211 398 [a0, a1, a2, .int x3] (.int x3 :: st) σ r := r_iload_n d211_397 rfl
theorem d211_398 : decode (mC 211) 398 = .ok (.iconst 1, 1) := by decide +kernel
theorem x211_398 {sc : aSc} {d : Nat} {r : aRes} {L : List Value} {st : List Value} {σ : aS} : Rn sc d 211 398 L st σ r ↔ Rn sc d 211 399 L (.int 1 :: st) σ r := r_iconst d211_398 (by decide)
theorem d211_399 : decode (mC 211) 399 = .ok (.iadd, 1) := by decide +kernel
theorem x211_399 {sc : aSc} {d : Nat} {r : aRes} {L : List Value} {st : List Value} {σ : aS} {x y : Int32} : Rn sc d 211 399 L (.int y :: .int x :: st) σ r ↔ Rn sc d 211 400 L (.int (x + y) :: st) σ r := r_iadd d211_399
theorem d211_400 : decode (mC 211) 400 = .ok (.iaload, 1) := by decide +kernel
theorem d211_401 : decode (mC 211) 401 = .ok (.invokevirtual 36, 3) := by decide +kernel
theorem x211_401 {sc : aSc} {d : Nat} {r : aRes} {L : List Value} {f : Nat → Nat → Int32} {g : Nat → Nat → Int64} {h1 h2 : Nat} {y0 : Int32} {z0 : Int32} {o : Nat} (hK : KK[o]? = some (.inl 7)) : Rn sc d 211 401 L [.int y0, .ref o, .int z0] (cS f g h1 h2) r ↔ ∃ (σ3 : aS) (v : Option Value), Cl sc d 113 [.ref o, .int y0] (cS f g h1 h2) (σ3, v) ∧ Rn sc d 211 404 L (v.toList ++ [.int z0]) σ3 r := r_callV (vs := [.int y0]) d211_401 (j := 113) (by decide +kernel) ⟨rfl, by decide, rfl, rfl⟩ (Nat.le_of_ble_eq_true rfl) hK
theorem d211_404 : decode (mC 211) 404 = .ok (.if_icmp .eq 931, 3) := by decide +kernel
theorem x211_404 {sc : aSc} {d : Nat} {r : aRes} {L : List Value} {st : List Value} {σ : aS} {x y : Int32} : Rn sc d 211 404 L (.int y :: .int x :: st) σ r ↔ if x = y then Rn sc d 211 1335 L st σ r else Rn sc d 211 407 L st σ r := r_icmp_eq d211_404 rfl
theorem d211_407 : decode (mC 211) 407 = .ok (.iconst 0, 1) := by decide +kernel
theorem x211_407 {sc : aSc} {d : Nat} {r : aRes} {L : List Value} {st : List Value} {σ : aS} : Rn sc d 211 407 L st σ r ↔ Rn sc d 211 408 L (.int 0 :: st) σ r := r_iconst d211_407 (by decide)
theorem d211_408 : decode (mC 211) 408 = .ok (.ireturn, 1) := by decide +kernel
theorem d211_409 : decode (mC 211) 409 = .ok (.aload_n 1, 1) := by decide +kernel
theorem x211_409 {sc : aSc} {d : Nat} {r : aRes} {a0 : Value} {x1 : Nat} {a2 : Value} {a3 : Value} {st : List Value} {σ : aS} : Rn sc d 211 409 [a0, .ref x1, a2, a3] st σ r ↔ Rn sc d 211 410 [a0, .ref x1, a2, a3] (.ref x1 :: st) σ r := r_aload_n d211_409 rfl
theorem d211_410 : decode (mC 211) 410 = .ok (.invokevirtual 37, 3) := by decide +kernel
theorem x211_410 {sc : aSc} {d : Nat} {r : aRes} {L : List Value} {f : Nat → Nat → Int32} {g : Nat → Nat → Int64} {h1 h2 : Nat}   {o : Nat} (hK : KK[o]? = some (.inl 6)) : Rn sc d 211 410 L [.ref o] (cS f g h1 h2) r ↔ ∃ (σ3 : aS) (v : Option Value), Cl sc d 71 [.ref o] (cS f g h1 h2) (σ3, v) ∧ Rn sc d 211 413 L (v.toList ++ []) σ3 r := r_callV (vs := []) d211_410 (j := 71) (by decide +kernel) ⟨rfl, by decide, rfl, rfl⟩ (Nat.le_of_ble_eq_true rfl) hK
theorem d211_413 : decode (mC 211) 413 = .ok (.aload_n 2, 1) := by decide +kernel
theorem x211_413 {sc : aSc} {d : Nat} {r : aRes} {a0 : Value} {a1 : Value} {x2 : Nat} {a3 : Value} {st : List Value} {σ : aS} : Rn sc d 211 413 [a0, a1, .ref x2, a3] st σ r ↔ Rn sc d 211 414 [a0, a1, .ref x2, a3] (.ref x2 :: st) σ r := r_aload_n d211_413 rfl
theorem d211_414 : decode (mC 211) 414 = .ok (.invokevirtual 41, 3) := by decide +kernel
theorem x211_414 {sc : aSc} {d : Nat} {r : aRes} {L : List Value} {f : Nat → Nat → Int32} {g : Nat → Nat → Int64} {h1 h2 : Nat}  {z0 : Int32} {o : Nat} (hK : KK[o]? = some (.inl 7)) : Rn sc d 211 414 L [.ref o, .int z0] (cS f g h1 h2) r ↔ ∃ (σ3 : aS) (v : Option Value), Cl sc d 129 [.ref o] (cS f g h1 h2) (σ3, v) ∧ Rn sc d 211 417 L (v.toList ++ [.int z0]) σ3 r := r_callV (vs := []) d211_414 (j := 129) (by decide +kernel) ⟨rfl, by decide, rfl, rfl⟩ (Nat.le_of_ble_eq_true rfl) hK
theorem d211_417 : decode (mC 211) 417 = .ok (.if_icmp .eq 918, 3) := by decide +kernel
theorem x211_417 {sc : aSc} {d : Nat} {r : aRes} {L : List Value} {st : List Value} {σ : aS} {x y : Int32} : Rn sc d 211 417 L (.int y :: .int x :: st) σ r ↔ if x = y then Rn sc d 211 1335 L st σ r else Rn sc d 211 420 L st σ r := r_icmp_eq d211_417 rfl
theorem d211_420 : decode (mC 211) 420 = .ok (.iconst 0, 1) := by decide +kernel
theorem x211_420 {sc : aSc} {d : Nat} {r : aRes} {L : List Value} {st : List Value} {σ : aS} : Rn sc d 211 420 L st σ r ↔ Rn sc d 211 421 L (.int 0 :: st) σ r := r_iconst d211_420 (by decide)
theorem d211_421 : decode (mC 211) 421 = .ok (.ireturn, 1) := by decide +kernel
theorem d211_422 : decode (mC 211) 422 = .ok (.aload_n 1, 1) := by decide +kernel
theorem x211_422 {sc : aSc} {d : Nat} {r : aRes} {a0 : Value} {x1 : Nat} {a2 : Value} {a3 : Value} {st : List Value} {σ : aS} : Rn sc d 211 422 [a0, .ref x1, a2, a3] st σ r ↔ Rn sc d 211 423 [a0, .ref x1, a2, a3] (.ref x1 :: st) σ r := r_aload_n d211_422 rfl
theorem d211_423 : decode (mC 211) 423 = .ok (.aload_n 0, 1) := by decide +kernel
theorem x211_423 {sc : aSc} {d : Nat} {r : aRes} {x0 : Nat} {a1 : Value} {a2 : Value} {a3 : Value} {st : List Value} {σ : aS} : Rn sc d 211 423 [.ref x0, a1, a2, a3] st σ r ↔ Rn sc d 211 424 [.ref x0, a1, a2, a3] (.ref x0 :: st) σ r := r_aload_n d211_423 rfl
theorem d211_424 : decode (mC 211) 424 = .ok (.iload_n 3, 1) := by decide +kernel
theorem x211_424 {sc : aSc} {d : Nat} {r : aRes} {a0 : Value} {a1 : Value} {a2 : Value} {x3 : Int32} {st : List Value} {σ : aS} : Rn sc d 211 424 [a0, a1, a2, .int x3] st σ r ↔ Rn sc d 211 425 [a0, a1, a2, .int x3] (.int x3 :: st) σ r := r_iload_n d211_424 rfl
theorem d211_425 : decode (mC 211) 425 = .ok (.iconst 1, 1) := by decide +kernel
theorem x211_425 {sc : aSc} {d : Nat} {r : aRes} {L : List Value} {st : List Value} {σ : aS} : Rn sc d 211 425 L st σ r ↔ Rn sc d 211 426 L (.int 1 :: st) σ r := r_iconst d211_425 (by decide)
theorem d211_426 : decode (mC 211) 426 = .ok (.iadd, 1) := by decide +kernel
theorem x211_426 {sc : aSc} {d : Nat} {r : aRes} {L : List Value} {st : List Value} {σ : aS} {x y : Int32} : Rn sc d 211 426 L (.int y :: .int x :: st) σ r ↔ Rn sc d 211 427 L (.int (x + y) :: st) σ r := r_iadd d211_426
theorem d211_427 : decode (mC 211) 427 = .ok (.iaload, 1) := by decide +kernel
theorem d211_428 : decode (mC 211) 428 = .ok (.invokevirtual 42, 3) := by decide +kernel
theorem x211_428 {sc : aSc} {d : Nat} {r : aRes} {L : List Value} {f : Nat → Nat → Int32} {g : Nat → Nat → Int64} {h1 h2 : Nat} {y0 : Int32}  {o : Nat} (hK : KK[o]? = some (.inl 6)) : Rn sc d 211 428 L [.int y0, .ref o] (cS f g h1 h2) r ↔ ∃ (σ3 : aS) (v : Option Value), Cl sc d 72 [.ref o, .int y0] (cS f g h1 h2) (σ3, v) ∧ Rn sc d 211 431 L (v.toList ++ []) σ3 r := r_callV (vs := [.int y0]) d211_428 (j := 72) (by decide +kernel) ⟨rfl, by decide, rfl, rfl⟩ (Nat.le_of_ble_eq_true rfl) hK
theorem d211_431 : decode (mC 211) 431 = .ok (.aload_n 2, 1) := by decide +kernel
theorem x211_431 {sc : aSc} {d : Nat} {r : aRes} {a0 : Value} {a1 : Value} {x2 : Nat} {a3 : Value} {st : List Value} {σ : aS} : Rn sc d 211 431 [a0, a1, .ref x2, a3] st σ r ↔ Rn sc d 211 432 [a0, a1, .ref x2, a3] (.ref x2 :: st) σ r := r_aload_n d211_431 rfl
theorem d211_432 : decode (mC 211) 432 = .ok (.aload_n 0, 1) := by decide +kernel
theorem x211_432 {sc : aSc} {d : Nat} {r : aRes} {x0 : Nat} {a1 : Value} {a2 : Value} {a3 : Value} {st : List Value} {σ : aS} : Rn sc d 211 432 [.ref x0, a1, a2, a3] st σ r ↔ Rn sc d 211 433 [.ref x0, a1, a2, a3] (.ref x0 :: st) σ r := r_aload_n d211_432 rfl
theorem d211_433 : decode (mC 211) 433 = .ok (.iload_n 3, 1) := by decide +kernel
theorem x211_433 {sc : aSc} {d : Nat} {r : aRes} {a0 : Value} {a1 : Value} {a2 : Value} {x3 : Int32} {st : List Value} {σ : aS} : Rn sc d 211 433 [a0, a1, a2, .int x3] st σ r ↔ Rn sc d 211 434 [a0, a1, a2, .int x3] (.int x3 :: st) σ r := r_iload_n d211_433 rfl
theorem d211_434 : decode (mC 211) 434 = .ok (.iconst 1, 1) := by decide +kernel
theorem x211_434 {sc : aSc} {d : Nat} {r : aRes} {L : List Value} {st : List Value} {σ : aS} : Rn sc d 211 434 L st σ r ↔ Rn sc d 211 435 L (.int 1 :: st) σ r := r_iconst d211_434 (by decide)
theorem d211_435 : decode (mC 211) 435 = .ok (.iadd, 1) := by decide +kernel
theorem x211_435 {sc : aSc} {d : Nat} {r : aRes} {L : List Value} {st : List Value} {σ : aS} {x y : Int32} : Rn sc d 211 435 L (.int y :: .int x :: st) σ r ↔ Rn sc d 211 436 L (.int (x + y) :: st) σ r := r_iadd d211_435
theorem d211_436 : decode (mC 211) 436 = .ok (.iaload, 1) := by decide +kernel
theorem d211_437 : decode (mC 211) 437 = .ok (.invokevirtual 45, 3) := by decide +kernel
theorem x211_437 {sc : aSc} {d : Nat} {r : aRes} {L : List Value} {f : Nat → Nat → Int32} {g : Nat → Nat → Int64} {h1 h2 : Nat} {y0 : Int32} {z0 : Int32} {o : Nat} (hK : KK[o]? = some (.inl 7)) : Rn sc d 211 437 L [.int y0, .ref o, .int z0] (cS f g h1 h2) r ↔ ∃ (σ3 : aS) (v : Option Value), Cl sc d 145 [.ref o, .int y0] (cS f g h1 h2) (σ3, v) ∧ Rn sc d 211 440 L (v.toList ++ [.int z0]) σ3 r := r_callV (vs := [.int y0]) d211_437 (j := 145) (by decide +kernel) ⟨rfl, by decide, rfl, rfl⟩ (Nat.le_of_ble_eq_true rfl) hK
theorem d211_440 : decode (mC 211) 440 = .ok (.if_icmp .eq 895, 3) := by decide +kernel
theorem x211_440 {sc : aSc} {d : Nat} {r : aRes} {L : List Value} {st : List Value} {σ : aS} {x y : Int32} : Rn sc d 211 440 L (.int y :: .int x :: st) σ r ↔ if x = y then Rn sc d 211 1335 L st σ r else Rn sc d 211 443 L st σ r := r_icmp_eq d211_440 rfl
theorem d211_443 : decode (mC 211) 443 = .ok (.iconst 0, 1) := by decide +kernel
theorem x211_443 {sc : aSc} {d : Nat} {r : aRes} {L : List Value} {st : List Value} {σ : aS} : Rn sc d 211 443 L st σ r ↔ Rn sc d 211 444 L (.int 0 :: st) σ r := r_iconst d211_443 (by decide)
theorem d211_444 : decode (mC 211) 444 = .ok (.ireturn, 1) := by decide +kernel
theorem d211_445 : decode (mC 211) 445 = .ok (.aload_n 1, 1) := by decide +kernel
theorem x211_445 {sc : aSc} {d : Nat} {r : aRes} {a0 : Value} {x1 : Nat} {a2 : Value} {a3 : Value} {st : List Value} {σ : aS} : Rn sc d 211 445 [a0, .ref x1, a2, a3] st σ r ↔ Rn sc d 211 446 [a0, .ref x1, a2, a3] (.ref x1 :: st) σ r := r_aload_n d211_445 rfl
theorem d211_446 : decode (mC 211) 446 = .ok (.aload_n 0, 1) := by decide +kernel
theorem x211_446 {sc : aSc} {d : Nat} {r : aRes} {x0 : Nat} {a1 : Value} {a2 : Value} {a3 : Value} {st : List Value} {σ : aS} : Rn sc d 211 446 [.ref x0, a1, a2, a3] st σ r ↔ Rn sc d 211 447 [.ref x0, a1, a2, a3] (.ref x0 :: st) σ r := r_aload_n d211_446 rfl
theorem d211_447 : decode (mC 211) 447 = .ok (.iload_n 3, 1) := by decide +kernel
theorem x211_447 {sc : aSc} {d : Nat} {r : aRes} {a0 : Value} {a1 : Value} {a2 : Value} {x3 : Int32} {st : List Value} {σ : aS} : Rn sc d 211 447 [a0, a1, a2, .int x3] st σ r ↔ Rn sc d 211 448 [a0, a1, a2, .int x3] (.int x3 :: st) σ r := r_iload_n d211_447 rfl
theorem d211_448 : decode (mC 211) 448 = .ok (.iconst 1, 1) := by decide +kernel
theorem x211_448 {sc : aSc} {d : Nat} {r : aRes} {L : List Value} {st : List Value} {σ : aS} : Rn sc d 211 448 L st σ r ↔ Rn sc d 211 449 L (.int 1 :: st) σ r := r_iconst d211_448 (by decide)
theorem d211_449 : decode (mC 211) 449 = .ok (.iadd, 1) := by decide +kernel
theorem x211_449 {sc : aSc} {d : Nat} {r : aRes} {L : List Value} {st : List Value} {σ : aS} {x y : Int32} : Rn sc d 211 449 L (.int y :: .int x :: st) σ r ↔ Rn sc d 211 450 L (.int (x + y) :: st) σ r := r_iadd d211_449
theorem d211_450 : decode (mC 211) 450 = .ok (.iaload, 1) := by decide +kernel
theorem d211_451 : decode (mC 211) 451 = .ok (.aload_n 0, 1) := by decide +kernel
theorem x211_451 {sc : aSc} {d : Nat} {r : aRes} {x0 : Nat} {a1 : Value} {a2 : Value} {a3 : Value} {st : List Value} {σ : aS} : Rn sc d 211 451 [.ref x0, a1, a2, a3] st σ r ↔ Rn sc d 211 452 [.ref x0, a1, a2, a3] (.ref x0 :: st) σ r := r_aload_n d211_451 rfl
theorem d211_452 : decode (mC 211) 452 = .ok (.iload_n 3, 1) := by decide +kernel
theorem x211_452 {sc : aSc} {d : Nat} {r : aRes} {a0 : Value} {a1 : Value} {a2 : Value} {x3 : Int32} {st : List Value} {σ : aS} : Rn sc d 211 452 [a0, a1, a2, .int x3] st σ r ↔ Rn sc d 211 453 [a0, a1, a2, .int x3] (.int x3 :: st) σ r := r_iload_n d211_452 rfl
theorem d211_453 : decode (mC 211) 453 = .ok (.iconst 2, 1) := by decide +kernel
theorem x211_453 {sc : aSc} {d : Nat} {r : aRes} {L : List Value} {st : List Value} {σ : aS} : Rn sc d 211 453 L st σ r ↔ Rn sc d 211 454 L (.int 2 :: st) σ r := r_iconst d211_453 (by decide)
theorem d211_454 : decode (mC 211) 454 = .ok (.iadd, 1) := by decide +kernel
theorem x211_454 {sc : aSc} {d : Nat} {r : aRes} {L : List Value} {st : List Value} {σ : aS} {x y : Int32} : Rn sc d 211 454 L (.int y :: .int x :: st) σ r ↔ Rn sc d 211 455 L (.int (x + y) :: st) σ r := r_iadd d211_454
theorem d211_455 : decode (mC 211) 455 = .ok (.iaload, 1) := by decide +kernel
theorem d211_456 : decode (mC 211) 456 = .ok (.invokevirtual 46, 3) := by decide +kernel
theorem x211_456 {sc : aSc} {d : Nat} {r : aRes} {L : List Value} {f : Nat → Nat → Int32} {g : Nat → Nat → Int64} {h1 h2 : Nat} {y0 : Int32} {y1 : Int32}  {o : Nat} (hK : KK[o]? = some (.inl 6)) : Rn sc d 211 456 L [.int y0, .int y1, .ref o] (cS f g h1 h2) r ↔ ∃ (σ3 : aS) (v : Option Value), Cl sc d 73 [.ref o, .int y1, .int y0] (cS f g h1 h2) (σ3, v) ∧ Rn sc d 211 459 L (v.toList ++ []) σ3 r := r_callV (vs := [.int y0, .int y1]) d211_456 (j := 73) (by decide +kernel) ⟨rfl, by decide, rfl, rfl⟩ (Nat.le_of_ble_eq_true rfl) hK
theorem d211_459 : decode (mC 211) 459 = .ok (.aload_n 2, 1) := by decide +kernel
theorem x211_459 {sc : aSc} {d : Nat} {r : aRes} {a0 : Value} {a1 : Value} {x2 : Nat} {a3 : Value} {st : List Value} {σ : aS} : Rn sc d 211 459 [a0, a1, .ref x2, a3] st σ r ↔ Rn sc d 211 460 [a0, a1, .ref x2, a3] (.ref x2 :: st) σ r := r_aload_n d211_459 rfl
theorem d211_460 : decode (mC 211) 460 = .ok (.aload_n 0, 1) := by decide +kernel
theorem x211_460 {sc : aSc} {d : Nat} {r : aRes} {x0 : Nat} {a1 : Value} {a2 : Value} {a3 : Value} {st : List Value} {σ : aS} : Rn sc d 211 460 [.ref x0, a1, a2, a3] st σ r ↔ Rn sc d 211 461 [.ref x0, a1, a2, a3] (.ref x0 :: st) σ r := r_aload_n d211_460 rfl
theorem d211_461 : decode (mC 211) 461 = .ok (.iload_n 3, 1) := by decide +kernel
theorem x211_461 {sc : aSc} {d : Nat} {r : aRes} {a0 : Value} {a1 : Value} {a2 : Value} {x3 : Int32} {st : List Value} {σ : aS} : Rn sc d 211 461 [a0, a1, a2, .int x3] st σ r ↔ Rn sc d 211 462 [a0, a1, a2, .int x3] (.int x3 :: st) σ r := r_iload_n d211_461 rfl
theorem d211_462 : decode (mC 211) 462 = .ok (.iconst 1, 1) := by decide +kernel
theorem x211_462 {sc : aSc} {d : Nat} {r : aRes} {L : List Value} {st : List Value} {σ : aS} : Rn sc d 211 462 L st σ r ↔ Rn sc d 211 463 L (.int 1 :: st) σ r := r_iconst d211_462 (by decide)
theorem d211_463 : decode (mC 211) 463 = .ok (.iadd, 1) := by decide +kernel
theorem x211_463 {sc : aSc} {d : Nat} {r : aRes} {L : List Value} {st : List Value} {σ : aS} {x y : Int32} : Rn sc d 211 463 L (.int y :: .int x :: st) σ r ↔ Rn sc d 211 464 L (.int (x + y) :: st) σ r := r_iadd d211_463
theorem d211_464 : decode (mC 211) 464 = .ok (.iaload, 1) := by decide +kernel
theorem d211_465 : decode (mC 211) 465 = .ok (.aload_n 0, 1) := by decide +kernel
theorem x211_465 {sc : aSc} {d : Nat} {r : aRes} {x0 : Nat} {a1 : Value} {a2 : Value} {a3 : Value} {st : List Value} {σ : aS} : Rn sc d 211 465 [.ref x0, a1, a2, a3] st σ r ↔ Rn sc d 211 466 [.ref x0, a1, a2, a3] (.ref x0 :: st) σ r := r_aload_n d211_465 rfl
theorem d211_466 : decode (mC 211) 466 = .ok (.iload_n 3, 1) := by decide +kernel
theorem x211_466 {sc : aSc} {d : Nat} {r : aRes} {a0 : Value} {a1 : Value} {a2 : Value} {x3 : Int32} {st : List Value} {σ : aS} : Rn sc d 211 466 [a0, a1, a2, .int x3] st σ r ↔ Rn sc d 211 467 [a0, a1, a2, .int x3] (.int x3 :: st) σ r := r_iload_n d211_466 rfl
theorem d211_467 : decode (mC 211) 467 = .ok (.iconst 2, 1) := by decide +kernel
theorem x211_467 {sc : aSc} {d : Nat} {r : aRes} {L : List Value} {st : List Value} {σ : aS} : Rn sc d 211 467 L st σ r ↔ Rn sc d 211 468 L (.int 2 :: st) σ r := r_iconst d211_467 (by decide)
theorem d211_468 : decode (mC 211) 468 = .ok (.iadd, 1) := by decide +kernel
theorem x211_468 {sc : aSc} {d : Nat} {r : aRes} {L : List Value} {st : List Value} {σ : aS} {x y : Int32} : Rn sc d 211 468 L (.int y :: .int x :: st) σ r ↔ Rn sc d 211 469 L (.int (x + y) :: st) σ r := r_iadd d211_468
theorem d211_469 : decode (mC 211) 469 = .ok (.iaload, 1) := by decide +kernel
theorem d211_470 : decode (mC 211) 470 = .ok (.invokevirtual 49, 3) := by decide +kernel
theorem x211_470 {sc : aSc} {d : Nat} {r : aRes} {L : List Value} {f : Nat → Nat → Int32} {g : Nat → Nat → Int64} {h1 h2 : Nat} {y0 : Int32} {y1 : Int32} {z0 : Int32} {o : Nat} (hK : KK[o]? = some (.inl 7)) : Rn sc d 211 470 L [.int y0, .int y1, .ref o, .int z0] (cS f g h1 h2) r ↔ ∃ (σ3 : aS) (v : Option Value), Cl sc d 147 [.ref o, .int y1, .int y0] (cS f g h1 h2) (σ3, v) ∧ Rn sc d 211 473 L (v.toList ++ [.int z0]) σ3 r := r_callV (vs := [.int y0, .int y1]) d211_470 (j := 147) (by decide +kernel) ⟨rfl, by decide, rfl, rfl⟩ (Nat.le_of_ble_eq_true rfl) hK
theorem d211_473 : decode (mC 211) 473 = .ok (.if_icmp .eq 862, 3) := by decide +kernel
theorem x211_473 {sc : aSc} {d : Nat} {r : aRes} {L : List Value} {st : List Value} {σ : aS} {x y : Int32} : Rn sc d 211 473 L (.int y :: .int x :: st) σ r ↔ if x = y then Rn sc d 211 1335 L st σ r else Rn sc d 211 476 L st σ r := r_icmp_eq d211_473 rfl
theorem d211_476 : decode (mC 211) 476 = .ok (.iconst 0, 1) := by decide +kernel
theorem x211_476 {sc : aSc} {d : Nat} {r : aRes} {L : List Value} {st : List Value} {σ : aS} : Rn sc d 211 476 L st σ r ↔ Rn sc d 211 477 L (.int 0 :: st) σ r := r_iconst d211_476 (by decide)
theorem d211_477 : decode (mC 211) 477 = .ok (.ireturn, 1) := by decide +kernel
theorem d211_478 : decode (mC 211) 478 = .ok (.aload_n 1, 1) := by decide +kernel
theorem x211_478 {sc : aSc} {d : Nat} {r : aRes} {a0 : Value} {x1 : Nat} {a2 : Value} {a3 : Value} {st : List Value} {σ : aS} : Rn sc d 211 478 [a0, .ref x1, a2, a3] st σ r ↔ Rn sc d 211 479 [a0, .ref x1, a2, a3] (.ref x1 :: st) σ r := r_aload_n d211_478 rfl
theorem d211_479 : decode (mC 211) 479 = .ok (.invokevirtual 50, 3) := by decide +kernel
theorem x211_479 {sc : aSc} {d : Nat} {r : aRes} {L : List Value} {f : Nat → Nat → Int32} {g : Nat → Nat → Int64} {h1 h2 : Nat}   {o : Nat} (hK : KK[o]? = some (.inl 6)) : Rn sc d 211 479 L [.ref o] (cS f g h1 h2) r ↔ ∃ (σ3 : aS) (v : Option Value), Cl sc d 74 [.ref o] (cS f g h1 h2) (σ3, v) ∧ Rn sc d 211 482 L (v.toList ++ []) σ3 r := r_callV (vs := []) d211_479 (j := 74) (by decide +kernel) ⟨rfl, by decide, rfl, rfl⟩ (Nat.le_of_ble_eq_true rfl) hK
theorem d211_482 : decode (mC 211) 482 = .ok (.aload_n 2, 1) := by decide +kernel
theorem x211_482 {sc : aSc} {d : Nat} {r : aRes} {a0 : Value} {a1 : Value} {x2 : Nat} {a3 : Value} {st : List Value} {σ : aS} : Rn sc d 211 482 [a0, a1, .ref x2, a3] st σ r ↔ Rn sc d 211 483 [a0, a1, .ref x2, a3] (.ref x2 :: st) σ r := r_aload_n d211_482 rfl
theorem d211_483 : decode (mC 211) 483 = .ok (.invokevirtual 53, 3) := by decide +kernel
theorem x211_483 {sc : aSc} {d : Nat} {r : aRes} {L : List Value} {f : Nat → Nat → Int32} {g : Nat → Nat → Int64} {h1 h2 : Nat}  {z0 : Int32} {o : Nat} (hK : KK[o]? = some (.inl 7)) : Rn sc d 211 483 L [.ref o, .int z0] (cS f g h1 h2) r ↔ ∃ (σ3 : aS) (v : Option Value), Cl sc d 148 [.ref o] (cS f g h1 h2) (σ3, v) ∧ Rn sc d 211 486 L (v.toList ++ [.int z0]) σ3 r := r_callV (vs := []) d211_483 (j := 148) (by decide +kernel) ⟨rfl, by decide, rfl, rfl⟩ (Nat.le_of_ble_eq_true rfl) hK
theorem d211_486 : decode (mC 211) 486 = .ok (.if_icmp .eq 849, 3) := by decide +kernel
theorem x211_486 {sc : aSc} {d : Nat} {r : aRes} {L : List Value} {st : List Value} {σ : aS} {x y : Int32} : Rn sc d 211 486 L (.int y :: .int x :: st) σ r ↔ if x = y then Rn sc d 211 1335 L st σ r else Rn sc d 211 489 L st σ r := r_icmp_eq d211_486 rfl
theorem d211_489 : decode (mC 211) 489 = .ok (.iconst 0, 1) := by decide +kernel
theorem x211_489 {sc : aSc} {d : Nat} {r : aRes} {L : List Value} {st : List Value} {σ : aS} : Rn sc d 211 489 L st σ r ↔ Rn sc d 211 490 L (.int 0 :: st) σ r := r_iconst d211_489 (by decide)
theorem d211_490 : decode (mC 211) 490 = .ok (.ireturn, 1) := by decide +kernel
theorem d211_491 : decode (mC 211) 491 = .ok (.aload_n 1, 1) := by decide +kernel
theorem x211_491 {sc : aSc} {d : Nat} {r : aRes} {a0 : Value} {x1 : Nat} {a2 : Value} {a3 : Value} {st : List Value} {σ : aS} : Rn sc d 211 491 [a0, .ref x1, a2, a3] st σ r ↔ Rn sc d 211 492 [a0, .ref x1, a2, a3] (.ref x1 :: st) σ r := r_aload_n d211_491 rfl
theorem d211_492 : decode (mC 211) 492 = .ok (.aload_n 0, 1) := by decide +kernel
theorem x211_492 {sc : aSc} {d : Nat} {r : aRes} {x0 : Nat} {a1 : Value} {a2 : Value} {a3 : Value} {st : List Value} {σ : aS} : Rn sc d 211 492 [.ref x0, a1, a2, a3] st σ r ↔ Rn sc d 211 493 [.ref x0, a1, a2, a3] (.ref x0 :: st) σ r := r_aload_n d211_492 rfl
theorem d211_493 : decode (mC 211) 493 = .ok (.iload_n 3, 1) := by decide +kernel
theorem x211_493 {sc : aSc} {d : Nat} {r : aRes} {a0 : Value} {a1 : Value} {a2 : Value} {x3 : Int32} {st : List Value} {σ : aS} : Rn sc d 211 493 [a0, a1, a2, .int x3] st σ r ↔ Rn sc d 211 494 [a0, a1, a2, .int x3] (.int x3 :: st) σ r := r_iload_n d211_493 rfl
theorem d211_494 : decode (mC 211) 494 = .ok (.iconst 1, 1) := by decide +kernel
theorem x211_494 {sc : aSc} {d : Nat} {r : aRes} {L : List Value} {st : List Value} {σ : aS} : Rn sc d 211 494 L st σ r ↔ Rn sc d 211 495 L (.int 1 :: st) σ r := r_iconst d211_494 (by decide)
theorem d211_495 : decode (mC 211) 495 = .ok (.iadd, 1) := by decide +kernel
theorem x211_495 {sc : aSc} {d : Nat} {r : aRes} {L : List Value} {st : List Value} {σ : aS} {x y : Int32} : Rn sc d 211 495 L (.int y :: .int x :: st) σ r ↔ Rn sc d 211 496 L (.int (x + y) :: st) σ r := r_iadd d211_495
theorem d211_496 : decode (mC 211) 496 = .ok (.iaload, 1) := by decide +kernel
theorem d211_497 : decode (mC 211) 497 = .ok (.invokevirtual 54, 3) := by decide +kernel
theorem x211_497 {sc : aSc} {d : Nat} {r : aRes} {L : List Value} {f : Nat → Nat → Int32} {g : Nat → Nat → Int64} {h1 h2 : Nat} {y0 : Int32}  {o : Nat} (hK : KK[o]? = some (.inl 6)) : Rn sc d 211 497 L [.int y0, .ref o] (cS f g h1 h2) r ↔ ∃ (σ3 : aS) (v : Option Value), Cl sc d 75 [.ref o, .int y0] (cS f g h1 h2) (σ3, v) ∧ Rn sc d 211 500 L (v.toList ++ []) σ3 r := r_callV (vs := [.int y0]) d211_497 (j := 75) (by decide +kernel) ⟨rfl, by decide, rfl, rfl⟩ (Nat.le_of_ble_eq_true rfl) hK
theorem d211_500 : decode (mC 211) 500 = .ok (.aload_n 2, 1) := by decide +kernel
theorem x211_500 {sc : aSc} {d : Nat} {r : aRes} {a0 : Value} {a1 : Value} {x2 : Nat} {a3 : Value} {st : List Value} {σ : aS} : Rn sc d 211 500 [a0, a1, .ref x2, a3] st σ r ↔ Rn sc d 211 501 [a0, a1, .ref x2, a3] (.ref x2 :: st) σ r := r_aload_n d211_500 rfl
theorem d211_501 : decode (mC 211) 501 = .ok (.aload_n 0, 1) := by decide +kernel
theorem x211_501 {sc : aSc} {d : Nat} {r : aRes} {x0 : Nat} {a1 : Value} {a2 : Value} {a3 : Value} {st : List Value} {σ : aS} : Rn sc d 211 501 [.ref x0, a1, a2, a3] st σ r ↔ Rn sc d 211 502 [.ref x0, a1, a2, a3] (.ref x0 :: st) σ r := r_aload_n d211_501 rfl
theorem d211_502 : decode (mC 211) 502 = .ok (.iload_n 3, 1) := by decide +kernel
theorem x211_502 {sc : aSc} {d : Nat} {r : aRes} {a0 : Value} {a1 : Value} {a2 : Value} {x3 : Int32} {st : List Value} {σ : aS} : Rn sc d 211 502 [a0, a1, a2, .int x3] st σ r ↔ Rn sc d 211 503 [a0, a1, a2, .int x3] (.int x3 :: st) σ r := r_iload_n d211_502 rfl
theorem d211_503 : decode (mC 211) 503 = .ok (.iconst 1, 1) := by decide +kernel
theorem x211_503 {sc : aSc} {d : Nat} {r : aRes} {L : List Value} {st : List Value} {σ : aS} : Rn sc d 211 503 L st σ r ↔ Rn sc d 211 504 L (.int 1 :: st) σ r := r_iconst d211_503 (by decide)
theorem d211_504 : decode (mC 211) 504 = .ok (.iadd, 1) := by decide +kernel
theorem x211_504 {sc : aSc} {d : Nat} {r : aRes} {L : List Value} {st : List Value} {σ : aS} {x y : Int32} : Rn sc d 211 504 L (.int y :: .int x :: st) σ r ↔ Rn sc d 211 505 L (.int (x + y) :: st) σ r := r_iadd d211_504
theorem d211_505 : decode (mC 211) 505 = .ok (.iaload, 1) := by decide +kernel
theorem d211_506 : decode (mC 211) 506 = .ok (.invokevirtual 57, 3) := by decide +kernel
theorem x211_506 {sc : aSc} {d : Nat} {r : aRes} {L : List Value} {f : Nat → Nat → Int32} {g : Nat → Nat → Int64} {h1 h2 : Nat} {y0 : Int32} {z0 : Int32} {o : Nat} (hK : KK[o]? = some (.inl 7)) : Rn sc d 211 506 L [.int y0, .ref o, .int z0] (cS f g h1 h2) r ↔ ∃ (σ3 : aS) (v : Option Value), Cl sc d 149 [.ref o, .int y0] (cS f g h1 h2) (σ3, v) ∧ Rn sc d 211 509 L (v.toList ++ [.int z0]) σ3 r := r_callV (vs := [.int y0]) d211_506 (j := 149) (by decide +kernel) ⟨rfl, by decide, rfl, rfl⟩ (Nat.le_of_ble_eq_true rfl) hK
theorem d211_509 : decode (mC 211) 509 = .ok (.if_icmp .eq 826, 3) := by decide +kernel
theorem x211_509 {sc : aSc} {d : Nat} {r : aRes} {L : List Value} {st : List Value} {σ : aS} {x y : Int32} : Rn sc d 211 509 L (.int y :: .int x :: st) σ r ↔ if x = y then Rn sc d 211 1335 L st σ r else Rn sc d 211 512 L st σ r := r_icmp_eq d211_509 rfl
theorem d211_512 : decode (mC 211) 512 = .ok (.iconst 0, 1) := by decide +kernel
theorem x211_512 {sc : aSc} {d : Nat} {r : aRes} {L : List Value} {st : List Value} {σ : aS} : Rn sc d 211 512 L st σ r ↔ Rn sc d 211 513 L (.int 0 :: st) σ r := r_iconst d211_512 (by decide)
theorem d211_513 : decode (mC 211) 513 = .ok (.ireturn, 1) := by decide +kernel
theorem d211_514 : decode (mC 211) 514 = .ok (.aload_n 1, 1) := by decide +kernel
theorem x211_514 {sc : aSc} {d : Nat} {r : aRes} {a0 : Value} {x1 : Nat} {a2 : Value} {a3 : Value} {st : List Value} {σ : aS} : Rn sc d 211 514 [a0, .ref x1, a2, a3] st σ r ↔ Rn sc d 211 515 [a0, .ref x1, a2, a3] (.ref x1 :: st) σ r := r_aload_n d211_514 rfl
theorem d211_515 : decode (mC 211) 515 = .ok (.aload_n 0, 1) := by decide +kernel
theorem x211_515 {sc : aSc} {d : Nat} {r : aRes} {x0 : Nat} {a1 : Value} {a2 : Value} {a3 : Value} {st : List Value} {σ : aS} : Rn sc d 211 515 [.ref x0, a1, a2, a3] st σ r ↔ Rn sc d 211 516 [.ref x0, a1, a2, a3] (.ref x0 :: st) σ r := r_aload_n d211_515 rfl
theorem d211_516 : decode (mC 211) 516 = .ok (.iload_n 3, 1) := by decide +kernel
theorem x211_516 {sc : aSc} {d : Nat} {r : aRes} {a0 : Value} {a1 : Value} {a2 : Value} {x3 : Int32} {st : List Value} {σ : aS} : Rn sc d 211 516 [a0, a1, a2, .int x3] st σ r ↔ Rn sc d 211 517 [a0, a1, a2, .int x3] (.int x3 :: st) σ r := r_iload_n d211_516 rfl
theorem d211_517 : decode (mC 211) 517 = .ok (.iconst 1, 1) := by decide +kernel
theorem x211_517 {sc : aSc} {d : Nat} {r : aRes} {L : List Value} {st : List Value} {σ : aS} : Rn sc d 211 517 L st σ r ↔ Rn sc d 211 518 L (.int 1 :: st) σ r := r_iconst d211_517 (by decide)
theorem d211_518 : decode (mC 211) 518 = .ok (.iadd, 1) := by decide +kernel
theorem x211_518 {sc : aSc} {d : Nat} {r : aRes} {L : List Value} {st : List Value} {σ : aS} {x y : Int32} : Rn sc d 211 518 L (.int y :: .int x :: st) σ r ↔ Rn sc d 211 519 L (.int (x + y) :: st) σ r := r_iadd d211_518
theorem d211_519 : decode (mC 211) 519 = .ok (.iaload, 1) := by decide +kernel
theorem d211_520 : decode (mC 211) 520 = .ok (.aload_n 0, 1) := by decide +kernel
theorem x211_520 {sc : aSc} {d : Nat} {r : aRes} {x0 : Nat} {a1 : Value} {a2 : Value} {a3 : Value} {st : List Value} {σ : aS} : Rn sc d 211 520 [.ref x0, a1, a2, a3] st σ r ↔ Rn sc d 211 521 [.ref x0, a1, a2, a3] (.ref x0 :: st) σ r := r_aload_n d211_520 rfl
theorem d211_521 : decode (mC 211) 521 = .ok (.iload_n 3, 1) := by decide +kernel
theorem x211_521 {sc : aSc} {d : Nat} {r : aRes} {a0 : Value} {a1 : Value} {a2 : Value} {x3 : Int32} {st : List Value} {σ : aS} : Rn sc d 211 521 [a0, a1, a2, .int x3] st σ r ↔ Rn sc d 211 522 [a0, a1, a2, .int x3] (.int x3 :: st) σ r := r_iload_n d211_521 rfl
theorem d211_522 : decode (mC 211) 522 = .ok (.iconst 2, 1) := by decide +kernel
theorem x211_522 {sc : aSc} {d : Nat} {r : aRes} {L : List Value} {st : List Value} {σ : aS} : Rn sc d 211 522 L st σ r ↔ Rn sc d 211 523 L (.int 2 :: st) σ r := r_iconst d211_522 (by decide)
theorem d211_523 : decode (mC 211) 523 = .ok (.iadd, 1) := by decide +kernel
theorem x211_523 {sc : aSc} {d : Nat} {r : aRes} {L : List Value} {st : List Value} {σ : aS} {x y : Int32} : Rn sc d 211 523 L (.int y :: .int x :: st) σ r ↔ Rn sc d 211 524 L (.int (x + y) :: st) σ r := r_iadd d211_523
theorem d211_524 : decode (mC 211) 524 = .ok (.iaload, 1) := by decide +kernel
theorem d211_525 : decode (mC 211) 525 = .ok (.aload_n 0, 1) := by decide +kernel
theorem x211_525 {sc : aSc} {d : Nat} {r : aRes} {x0 : Nat} {a1 : Value} {a2 : Value} {a3 : Value} {st : List Value} {σ : aS} : Rn sc d 211 525 [.ref x0, a1, a2, a3] st σ r ↔ Rn sc d 211 526 [.ref x0, a1, a2, a3] (.ref x0 :: st) σ r := r_aload_n d211_525 rfl
theorem d211_526 : decode (mC 211) 526 = .ok (.iload_n 3, 1) := by decide +kernel
theorem x211_526 {sc : aSc} {d : Nat} {r : aRes} {a0 : Value} {a1 : Value} {a2 : Value} {x3 : Int32} {st : List Value} {σ : aS} : Rn sc d 211 526 [a0, a1, a2, .int x3] st σ r ↔ Rn sc d 211 527 [a0, a1, a2, .int x3] (.int x3 :: st) σ r := r_iload_n d211_526 rfl
theorem d211_527 : decode (mC 211) 527 = .ok (.iconst 3, 1) := by decide +kernel
theorem x211_527 {sc : aSc} {d : Nat} {r : aRes} {L : List Value} {st : List Value} {σ : aS} : Rn sc d 211 527 L st σ r ↔ Rn sc d 211 528 L (.int 3 :: st) σ r := r_iconst d211_527 (by decide)
theorem d211_528 : decode (mC 211) 528 = .ok (.iadd, 1) := by decide +kernel
theorem x211_528 {sc : aSc} {d : Nat} {r : aRes} {L : List Value} {st : List Value} {σ : aS} {x y : Int32} : Rn sc d 211 528 L (.int y :: .int x :: st) σ r ↔ Rn sc d 211 529 L (.int (x + y) :: st) σ r := r_iadd d211_528
theorem d211_529 : decode (mC 211) 529 = .ok (.iaload, 1) := by decide +kernel
theorem d211_530 : decode (mC 211) 530 = .ok (.invokevirtual 58, 3) := by decide +kernel
theorem x211_530 {sc : aSc} {d : Nat} {r : aRes} {L : List Value} {f : Nat → Nat → Int32} {g : Nat → Nat → Int64} {h1 h2 : Nat} {y0 : Int32} {y1 : Int32} {y2 : Int32}  {o : Nat} (hK : KK[o]? = some (.inl 6)) : Rn sc d 211 530 L [.int y0, .int y1, .int y2, .ref o] (cS f g h1 h2) r ↔ ∃ (σ3 : aS) (v : Option Value), Cl sc d 76 [.ref o, .int y2, .int y1, .int y0] (cS f g h1 h2) (σ3, v) ∧ Rn sc d 211 533 L (v.toList ++ []) σ3 r := r_callV (vs := [.int y0, .int y1, .int y2]) d211_530 (j := 76) (by decide +kernel) ⟨rfl, by decide, rfl, rfl⟩ (Nat.le_of_ble_eq_true rfl) hK
theorem d211_533 : decode (mC 211) 533 = .ok (.aload_n 2, 1) := by decide +kernel
theorem x211_533 {sc : aSc} {d : Nat} {r : aRes} {a0 : Value} {a1 : Value} {x2 : Nat} {a3 : Value} {st : List Value} {σ : aS} : Rn sc d 211 533 [a0, a1, .ref x2, a3] st σ r ↔ Rn sc d 211 534 [a0, a1, .ref x2, a3] (.ref x2 :: st) σ r := r_aload_n d211_533 rfl
theorem d211_534 : decode (mC 211) 534 = .ok (.aload_n 0, 1) := by decide +kernel
theorem x211_534 {sc : aSc} {d : Nat} {r : aRes} {x0 : Nat} {a1 : Value} {a2 : Value} {a3 : Value} {st : List Value} {σ : aS} : Rn sc d 211 534 [.ref x0, a1, a2, a3] st σ r ↔ Rn sc d 211 535 [.ref x0, a1, a2, a3] (.ref x0 :: st) σ r := r_aload_n d211_534 rfl
theorem d211_535 : decode (mC 211) 535 = .ok (.iload_n 3, 1) := by decide +kernel
theorem x211_535 {sc : aSc} {d : Nat} {r : aRes} {a0 : Value} {a1 : Value} {a2 : Value} {x3 : Int32} {st : List Value} {σ : aS} : Rn sc d 211 535 [a0, a1, a2, .int x3] st σ r ↔ Rn sc d 211 536 [a0, a1, a2, .int x3] (.int x3 :: st) σ r := r_iload_n d211_535 rfl
theorem d211_536 : decode (mC 211) 536 = .ok (.iconst 1, 1) := by decide +kernel
theorem x211_536 {sc : aSc} {d : Nat} {r : aRes} {L : List Value} {st : List Value} {σ : aS} : Rn sc d 211 536 L st σ r ↔ Rn sc d 211 537 L (.int 1 :: st) σ r := r_iconst d211_536 (by decide)
theorem d211_537 : decode (mC 211) 537 = .ok (.iadd, 1) := by decide +kernel
theorem x211_537 {sc : aSc} {d : Nat} {r : aRes} {L : List Value} {st : List Value} {σ : aS} {x y : Int32} : Rn sc d 211 537 L (.int y :: .int x :: st) σ r ↔ Rn sc d 211 538 L (.int (x + y) :: st) σ r := r_iadd d211_537
theorem d211_538 : decode (mC 211) 538 = .ok (.iaload, 1) := by decide +kernel
theorem d211_539 : decode (mC 211) 539 = .ok (.aload_n 0, 1) := by decide +kernel
theorem x211_539 {sc : aSc} {d : Nat} {r : aRes} {x0 : Nat} {a1 : Value} {a2 : Value} {a3 : Value} {st : List Value} {σ : aS} : Rn sc d 211 539 [.ref x0, a1, a2, a3] st σ r ↔ Rn sc d 211 540 [.ref x0, a1, a2, a3] (.ref x0 :: st) σ r := r_aload_n d211_539 rfl
theorem d211_540 : decode (mC 211) 540 = .ok (.iload_n 3, 1) := by decide +kernel
theorem x211_540 {sc : aSc} {d : Nat} {r : aRes} {a0 : Value} {a1 : Value} {a2 : Value} {x3 : Int32} {st : List Value} {σ : aS} : Rn sc d 211 540 [a0, a1, a2, .int x3] st σ r ↔ Rn sc d 211 541 [a0, a1, a2, .int x3] (.int x3 :: st) σ r := r_iload_n d211_540 rfl
theorem d211_541 : decode (mC 211) 541 = .ok (.iconst 2, 1) := by decide +kernel
theorem x211_541 {sc : aSc} {d : Nat} {r : aRes} {L : List Value} {st : List Value} {σ : aS} : Rn sc d 211 541 L st σ r ↔ Rn sc d 211 542 L (.int 2 :: st) σ r := r_iconst d211_541 (by decide)
theorem d211_542 : decode (mC 211) 542 = .ok (.iadd, 1) := by decide +kernel
theorem x211_542 {sc : aSc} {d : Nat} {r : aRes} {L : List Value} {st : List Value} {σ : aS} {x y : Int32} : Rn sc d 211 542 L (.int y :: .int x :: st) σ r ↔ Rn sc d 211 543 L (.int (x + y) :: st) σ r := r_iadd d211_542
theorem d211_543 : decode (mC 211) 543 = .ok (.iaload, 1) := by decide +kernel
theorem d211_544 : decode (mC 211) 544 = .ok (.aload_n 0, 1) := by decide +kernel
theorem x211_544 {sc : aSc} {d : Nat} {r : aRes} {x0 : Nat} {a1 : Value} {a2 : Value} {a3 : Value} {st : List Value} {σ : aS} : Rn sc d 211 544 [.ref x0, a1, a2, a3] st σ r ↔ Rn sc d 211 545 [.ref x0, a1, a2, a3] (.ref x0 :: st) σ r := r_aload_n d211_544 rfl
theorem d211_545 : decode (mC 211) 545 = .ok (.iload_n 3, 1) := by decide +kernel
theorem x211_545 {sc : aSc} {d : Nat} {r : aRes} {a0 : Value} {a1 : Value} {a2 : Value} {x3 : Int32} {st : List Value} {σ : aS} : Rn sc d 211 545 [a0, a1, a2, .int x3] st σ r ↔ Rn sc d 211 546 [a0, a1, a2, .int x3] (.int x3 :: st) σ r := r_iload_n d211_545 rfl
theorem d211_546 : decode (mC 211) 546 = .ok (.iconst 3, 1) := by decide +kernel
theorem x211_546 {sc : aSc} {d : Nat} {r : aRes} {L : List Value} {st : List Value} {σ : aS} : Rn sc d 211 546 L st σ r ↔ Rn sc d 211 547 L (.int 3 :: st) σ r := r_iconst d211_546 (by decide)
theorem d211_547 : decode (mC 211) 547 = .ok (.iadd, 1) := by decide +kernel
theorem x211_547 {sc : aSc} {d : Nat} {r : aRes} {L : List Value} {st : List Value} {σ : aS} {x y : Int32} : Rn sc d 211 547 L (.int y :: .int x :: st) σ r ↔ Rn sc d 211 548 L (.int (x + y) :: st) σ r := r_iadd d211_547
theorem d211_548 : decode (mC 211) 548 = .ok (.iaload, 1) := by decide +kernel
theorem d211_549 : decode (mC 211) 549 = .ok (.invokevirtual 61, 3) := by decide +kernel
theorem x211_549 {sc : aSc} {d : Nat} {r : aRes} {L : List Value} {f : Nat → Nat → Int32} {g : Nat → Nat → Int64} {h1 h2 : Nat} {y0 : Int32} {y1 : Int32} {y2 : Int32} {z0 : Int32} {o : Nat} (hK : KK[o]? = some (.inl 7)) : Rn sc d 211 549 L [.int y0, .int y1, .int y2, .ref o, .int z0] (cS f g h1 h2) r ↔ ∃ (σ3 : aS) (v : Option Value), Cl sc d 150 [.ref o, .int y2, .int y1, .int y0] (cS f g h1 h2) (σ3, v) ∧ Rn sc d 211 552 L (v.toList ++ [.int z0]) σ3 r := r_callV (vs := [.int y0, .int y1, .int y2]) d211_549 (j := 150) (by decide +kernel) ⟨rfl, by decide, rfl, rfl⟩ (Nat.le_of_ble_eq_true rfl) hK
theorem d211_552 : decode (mC 211) 552 = .ok (.if_icmp .eq 783, 3) := by decide +kernel
theorem x211_552 {sc : aSc} {d : Nat} {r : aRes} {L : List Value} {st : List Value} {σ : aS} {x y : Int32} : Rn sc d 211 552 L (.int y :: .int x :: st) σ r ↔ if x = y then Rn sc d 211 1335 L st σ r else Rn sc d 211 555 L st σ r := r_icmp_eq d211_552 rfl
theorem d211_555 : decode (mC 211) 555 = .ok (.iconst 0, 1) := by decide +kernel
theorem x211_555 {sc : aSc} {d : Nat} {r : aRes} {L : List Value} {st : List Value} {σ : aS} : Rn sc d 211 555 L st σ r ↔ Rn sc d 211 556 L (.int 0 :: st) σ r := r_iconst d211_555 (by decide)
theorem d211_556 : decode (mC 211) 556 = .ok (.ireturn, 1) := by decide +kernel
theorem d211_557 : decode (mC 211) 557 = .ok (.aload_n 1, 1) := by decide +kernel
theorem x211_557 {sc : aSc} {d : Nat} {r : aRes} {a0 : Value} {x1 : Nat} {a2 : Value} {a3 : Value} {st : List Value} {σ : aS} : Rn sc d 211 557 [a0, .ref x1, a2, a3] st σ r ↔ Rn sc d 211 558 [a0, .ref x1, a2, a3] (.ref x1 :: st) σ r := r_aload_n d211_557 rfl
theorem d211_558 : decode (mC 211) 558 = .ok (.aload_n 0, 1) := by decide +kernel
theorem x211_558 {sc : aSc} {d : Nat} {r : aRes} {x0 : Nat} {a1 : Value} {a2 : Value} {a3 : Value} {st : List Value} {σ : aS} : Rn sc d 211 558 [.ref x0, a1, a2, a3] st σ r ↔ Rn sc d 211 559 [.ref x0, a1, a2, a3] (.ref x0 :: st) σ r := r_aload_n d211_558 rfl
theorem d211_559 : decode (mC 211) 559 = .ok (.iload_n 3, 1) := by decide +kernel
theorem x211_559 {sc : aSc} {d : Nat} {r : aRes} {a0 : Value} {a1 : Value} {a2 : Value} {x3 : Int32} {st : List Value} {σ : aS} : Rn sc d 211 559 [a0, a1, a2, .int x3] st σ r ↔ Rn sc d 211 560 [a0, a1, a2, .int x3] (.int x3 :: st) σ r := r_iload_n d211_559 rfl
theorem d211_560 : decode (mC 211) 560 = .ok (.iconst 1, 1) := by decide +kernel
theorem x211_560 {sc : aSc} {d : Nat} {r : aRes} {L : List Value} {st : List Value} {σ : aS} : Rn sc d 211 560 L st σ r ↔ Rn sc d 211 561 L (.int 1 :: st) σ r := r_iconst d211_560 (by decide)
theorem d211_561 : decode (mC 211) 561 = .ok (.iadd, 1) := by decide +kernel
theorem x211_561 {sc : aSc} {d : Nat} {r : aRes} {L : List Value} {st : List Value} {σ : aS} {x y : Int32} : Rn sc d 211 561 L (.int y :: .int x :: st) σ r ↔ Rn sc d 211 562 L (.int (x + y) :: st) σ r := r_iadd d211_561
theorem d211_562 : decode (mC 211) 562 = .ok (.iaload, 1) := by decide +kernel
theorem d211_563 : decode (mC 211) 563 = .ok (.aload_n 0, 1) := by decide +kernel
theorem x211_563 {sc : aSc} {d : Nat} {r : aRes} {x0 : Nat} {a1 : Value} {a2 : Value} {a3 : Value} {st : List Value} {σ : aS} : Rn sc d 211 563 [.ref x0, a1, a2, a3] st σ r ↔ Rn sc d 211 564 [.ref x0, a1, a2, a3] (.ref x0 :: st) σ r := r_aload_n d211_563 rfl
theorem d211_564 : decode (mC 211) 564 = .ok (.iload_n 3, 1) := by decide +kernel
theorem x211_564 {sc : aSc} {d : Nat} {r : aRes} {a0 : Value} {a1 : Value} {a2 : Value} {x3 : Int32} {st : List Value} {σ : aS} : Rn sc d 211 564 [a0, a1, a2, .int x3] st σ r ↔ Rn sc d 211 565 [a0, a1, a2, .int x3] (.int x3 :: st) σ r := r_iload_n d211_564 rfl
theorem d211_565 : decode (mC 211) 565 = .ok (.iconst 2, 1) := by decide +kernel
theorem x211_565 {sc : aSc} {d : Nat} {r : aRes} {L : List Value} {st : List Value} {σ : aS} : Rn sc d 211 565 L st σ r ↔ Rn sc d 211 566 L (.int 2 :: st) σ r := r_iconst d211_565 (by decide)
theorem d211_566 : decode (mC 211) 566 = .ok (.iadd, 1) := by decide +kernel
theorem x211_566 {sc : aSc} {d : Nat} {r : aRes} {L : List Value} {st : List Value} {σ : aS} {x y : Int32} : Rn sc d 211 566 L (.int y :: .int x :: st) σ r ↔ Rn sc d 211 567 L (.int (x + y) :: st) σ r := r_iadd d211_566
theorem d211_567 : decode (mC 211) 567 = .ok (.iaload, 1) := by decide +kernel
theorem d211_568 : decode (mC 211) 568 = .ok (.invokevirtual 62, 3) := by decide +kernel
theorem x211_568 {sc : aSc} {d : Nat} {r : aRes} {L : List Value} {f : Nat → Nat → Int32} {g : Nat → Nat → Int64} {h1 h2 : Nat} {y0 : Int32} {y1 : Int32}  {o : Nat} (hK : KK[o]? = some (.inl 6)) : Rn sc d 211 568 L [.int y0, .int y1, .ref o] (cS f g h1 h2) r ↔ ∃ (σ3 : aS) (v : Option Value), Cl sc d 77 [.ref o, .int y1, .int y0] (cS f g h1 h2) (σ3, v) ∧ Rn sc d 211 571 L (v.toList ++ []) σ3 r := r_callV (vs := [.int y0, .int y1]) d211_568 (j := 77) (by decide +kernel) ⟨rfl, by decide, rfl, rfl⟩ (Nat.le_of_ble_eq_true rfl) hK
theorem d211_571 : decode (mC 211) 571 = .ok (.aload_n 2, 1) := by decide +kernel
theorem x211_571 {sc : aSc} {d : Nat} {r : aRes} {a0 : Value} {a1 : Value} {x2 : Nat} {a3 : Value} {st : List Value} {σ : aS} : Rn sc d 211 571 [a0, a1, .ref x2, a3] st σ r ↔ Rn sc d 211 572 [a0, a1, .ref x2, a3] (.ref x2 :: st) σ r := r_aload_n d211_571 rfl
theorem d211_572 : decode (mC 211) 572 = .ok (.aload_n 0, 1) := by decide +kernel
theorem x211_572 {sc : aSc} {d : Nat} {r : aRes} {x0 : Nat} {a1 : Value} {a2 : Value} {a3 : Value} {st : List Value} {σ : aS} : Rn sc d 211 572 [.ref x0, a1, a2, a3] st σ r ↔ Rn sc d 211 573 [.ref x0, a1, a2, a3] (.ref x0 :: st) σ r := r_aload_n d211_572 rfl
theorem d211_573 : decode (mC 211) 573 = .ok (.iload_n 3, 1) := by decide +kernel
theorem x211_573 {sc : aSc} {d : Nat} {r : aRes} {a0 : Value} {a1 : Value} {a2 : Value} {x3 : Int32} {st : List Value} {σ : aS} : Rn sc d 211 573 [a0, a1, a2, .int x3] st σ r ↔ Rn sc d 211 574 [a0, a1, a2, .int x3] (.int x3 :: st) σ r := r_iload_n d211_573 rfl
theorem d211_574 : decode (mC 211) 574 = .ok (.iconst 1, 1) := by decide +kernel
theorem x211_574 {sc : aSc} {d : Nat} {r : aRes} {L : List Value} {st : List Value} {σ : aS} : Rn sc d 211 574 L st σ r ↔ Rn sc d 211 575 L (.int 1 :: st) σ r := r_iconst d211_574 (by decide)
theorem d211_575 : decode (mC 211) 575 = .ok (.iadd, 1) := by decide +kernel
theorem x211_575 {sc : aSc} {d : Nat} {r : aRes} {L : List Value} {st : List Value} {σ : aS} {x y : Int32} : Rn sc d 211 575 L (.int y :: .int x :: st) σ r ↔ Rn sc d 211 576 L (.int (x + y) :: st) σ r := r_iadd d211_575
theorem d211_576 : decode (mC 211) 576 = .ok (.iaload, 1) := by decide +kernel
theorem d211_577 : decode (mC 211) 577 = .ok (.aload_n 0, 1) := by decide +kernel
theorem x211_577 {sc : aSc} {d : Nat} {r : aRes} {x0 : Nat} {a1 : Value} {a2 : Value} {a3 : Value} {st : List Value} {σ : aS} : Rn sc d 211 577 [.ref x0, a1, a2, a3] st σ r ↔ Rn sc d 211 578 [.ref x0, a1, a2, a3] (.ref x0 :: st) σ r := r_aload_n d211_577 rfl
theorem d211_578 : decode (mC 211) 578 = .ok (.iload_n 3, 1) := by decide +kernel
theorem x211_578 {sc : aSc} {d : Nat} {r : aRes} {a0 : Value} {a1 : Value} {a2 : Value} {x3 : Int32} {st : List Value} {σ : aS} : Rn sc d 211 578 [a0, a1, a2, .int x3] st σ r ↔ Rn sc d 211 579 [a0, a1, a2, .int x3] (.int x3 :: st) σ r := r_iload_n d211_578 rfl
theorem d211_579 : decode (mC 211) 579 = .ok (.iconst 2, 1) := by decide +kernel
theorem x211_579 {sc : aSc} {d : Nat} {r : aRes} {L : List Value} {st : List Value} {σ : aS} : Rn sc d 211 579 L st σ r ↔ Rn sc d 211 580 L (.int 2 :: st) σ r := r_iconst d211_579 (by decide)
theorem d211_580 : decode (mC 211) 580 = .ok (.iadd, 1) := by decide +kernel
theorem x211_580 {sc : aSc} {d : Nat} {r : aRes} {L : List Value} {st : List Value} {σ : aS} {x y : Int32} : Rn sc d 211 580 L (.int y :: .int x :: st) σ r ↔ Rn sc d 211 581 L (.int (x + y) :: st) σ r := r_iadd d211_580
theorem d211_581 : decode (mC 211) 581 = .ok (.iaload, 1) := by decide +kernel
theorem d211_582 : decode (mC 211) 582 = .ok (.invokevirtual 65, 3) := by decide +kernel
theorem x211_582 {sc : aSc} {d : Nat} {r : aRes} {L : List Value} {f : Nat → Nat → Int32} {g : Nat → Nat → Int64} {h1 h2 : Nat} {y0 : Int32} {y1 : Int32} {z0 : Int32} {o : Nat} (hK : KK[o]? = some (.inl 7)) : Rn sc d 211 582 L [.int y0, .int y1, .ref o, .int z0] (cS f g h1 h2) r ↔ ∃ (σ3 : aS) (v : Option Value), Cl sc d 155 [.ref o, .int y1, .int y0] (cS f g h1 h2) (σ3, v) ∧ Rn sc d 211 585 L (v.toList ++ [.int z0]) σ3 r := r_callV (vs := [.int y0, .int y1]) d211_582 (j := 155) (by decide +kernel) ⟨rfl, by decide, rfl, rfl⟩ (Nat.le_of_ble_eq_true rfl) hK
theorem d211_585 : decode (mC 211) 585 = .ok (.if_icmp .eq 750, 3) := by decide +kernel
theorem x211_585 {sc : aSc} {d : Nat} {r : aRes} {L : List Value} {st : List Value} {σ : aS} {x y : Int32} : Rn sc d 211 585 L (.int y :: .int x :: st) σ r ↔ if x = y then Rn sc d 211 1335 L st σ r else Rn sc d 211 588 L st σ r := r_icmp_eq d211_585 rfl
theorem d211_588 : decode (mC 211) 588 = .ok (.iconst 0, 1) := by decide +kernel
theorem x211_588 {sc : aSc} {d : Nat} {r : aRes} {L : List Value} {st : List Value} {σ : aS} : Rn sc d 211 588 L st σ r ↔ Rn sc d 211 589 L (.int 0 :: st) σ r := r_iconst d211_588 (by decide)
theorem d211_589 : decode (mC 211) 589 = .ok (.ireturn, 1) := by decide +kernel
theorem d211_590 : decode (mC 211) 590 = .ok (.aload_n 1, 1) := by decide +kernel
theorem x211_590 {sc : aSc} {d : Nat} {r : aRes} {a0 : Value} {x1 : Nat} {a2 : Value} {a3 : Value} {st : List Value} {σ : aS} : Rn sc d 211 590 [a0, .ref x1, a2, a3] st σ r ↔ Rn sc d 211 591 [a0, .ref x1, a2, a3] (.ref x1 :: st) σ r := r_aload_n d211_590 rfl
theorem d211_591 : decode (mC 211) 591 = .ok (.invokevirtual 66, 3) := by decide +kernel
theorem x211_591 {sc : aSc} {d : Nat} {r : aRes} {L : List Value} {f : Nat → Nat → Int32} {g : Nat → Nat → Int64} {h1 h2 : Nat}   {o : Nat} (hK : KK[o]? = some (.inl 6)) : Rn sc d 211 591 L [.ref o] (cS f g h1 h2) r ↔ ∃ (σ3 : aS) (v : Option Value), Cl sc d 78 [.ref o] (cS f g h1 h2) (σ3, v) ∧ Rn sc d 211 594 L (v.toList ++ []) σ3 r := r_callV (vs := []) d211_591 (j := 78) (by decide +kernel) ⟨rfl, by decide, rfl, rfl⟩ (Nat.le_of_ble_eq_true rfl) hK
theorem d211_594 : decode (mC 211) 594 = .ok (.aload_n 2, 1) := by decide +kernel
theorem x211_594 {sc : aSc} {d : Nat} {r : aRes} {a0 : Value} {a1 : Value} {x2 : Nat} {a3 : Value} {st : List Value} {σ : aS} : Rn sc d 211 594 [a0, a1, .ref x2, a3] st σ r ↔ Rn sc d 211 595 [a0, a1, .ref x2, a3] (.ref x2 :: st) σ r := r_aload_n d211_594 rfl
theorem d211_595 : decode (mC 211) 595 = .ok (.invokevirtual 69, 3) := by decide +kernel
theorem x211_595 {sc : aSc} {d : Nat} {r : aRes} {L : List Value} {f : Nat → Nat → Int32} {g : Nat → Nat → Int64} {h1 h2 : Nat}  {z0 : Int32} {o : Nat} (hK : KK[o]? = some (.inl 7)) : Rn sc d 211 595 L [.ref o, .int z0] (cS f g h1 h2) r ↔ ∃ (σ3 : aS) (v : Option Value), Cl sc d 156 [.ref o] (cS f g h1 h2) (σ3, v) ∧ Rn sc d 211 598 L (v.toList ++ [.int z0]) σ3 r := r_callV (vs := []) d211_595 (j := 156) (by decide +kernel) ⟨rfl, by decide, rfl, rfl⟩ (Nat.le_of_ble_eq_true rfl) hK
theorem d211_598 : decode (mC 211) 598 = .ok (.if_icmp .eq 737, 3) := by decide +kernel
theorem x211_598 {sc : aSc} {d : Nat} {r : aRes} {L : List Value} {st : List Value} {σ : aS} {x y : Int32} : Rn sc d 211 598 L (.int y :: .int x :: st) σ r ↔ if x = y then Rn sc d 211 1335 L st σ r else Rn sc d 211 601 L st σ r := r_icmp_eq d211_598 rfl
theorem d211_601 : decode (mC 211) 601 = .ok (.iconst 0, 1) := by decide +kernel
theorem x211_601 {sc : aSc} {d : Nat} {r : aRes} {L : List Value} {st : List Value} {σ : aS} : Rn sc d 211 601 L st σ r ↔ Rn sc d 211 602 L (.int 0 :: st) σ r := r_iconst d211_601 (by decide)
theorem d211_602 : decode (mC 211) 602 = .ok (.ireturn, 1) := by decide +kernel
theorem d211_603 : decode (mC 211) 603 = .ok (.aload_n 1, 1) := by decide +kernel
theorem x211_603 {sc : aSc} {d : Nat} {r : aRes} {a0 : Value} {x1 : Nat} {a2 : Value} {a3 : Value} {st : List Value} {σ : aS} : Rn sc d 211 603 [a0, .ref x1, a2, a3] st σ r ↔ Rn sc d 211 604 [a0, .ref x1, a2, a3] (.ref x1 :: st) σ r := r_aload_n d211_603 rfl
theorem d211_604 : decode (mC 211) 604 = .ok (.aload_n 0, 1) := by decide +kernel
theorem x211_604 {sc : aSc} {d : Nat} {r : aRes} {x0 : Nat} {a1 : Value} {a2 : Value} {a3 : Value} {st : List Value} {σ : aS} : Rn sc d 211 604 [.ref x0, a1, a2, a3] st σ r ↔ Rn sc d 211 605 [.ref x0, a1, a2, a3] (.ref x0 :: st) σ r := r_aload_n d211_604 rfl
theorem d211_605 : decode (mC 211) 605 = .ok (.iload_n 3, 1) := by decide +kernel
theorem x211_605 {sc : aSc} {d : Nat} {r : aRes} {a0 : Value} {a1 : Value} {a2 : Value} {x3 : Int32} {st : List Value} {σ : aS} : Rn sc d 211 605 [a0, a1, a2, .int x3] st σ r ↔ Rn sc d 211 606 [a0, a1, a2, .int x3] (.int x3 :: st) σ r := r_iload_n d211_605 rfl
theorem d211_606 : decode (mC 211) 606 = .ok (.iconst 1, 1) := by decide +kernel
theorem x211_606 {sc : aSc} {d : Nat} {r : aRes} {L : List Value} {st : List Value} {σ : aS} : Rn sc d 211 606 L st σ r ↔ Rn sc d 211 607 L (.int 1 :: st) σ r := r_iconst d211_606 (by decide)
theorem d211_607 : decode (mC 211) 607 = .ok (.iadd, 1) := by decide +kernel
theorem x211_607 {sc : aSc} {d : Nat} {r : aRes} {L : List Value} {st : List Value} {σ : aS} {x y : Int32} : Rn sc d 211 607 L (.int y :: .int x :: st) σ r ↔ Rn sc d 211 608 L (.int (x + y) :: st) σ r := r_iadd d211_607
theorem d211_608 : decode (mC 211) 608 = .ok (.iaload, 1) := by decide +kernel
theorem d211_609 : decode (mC 211) 609 = .ok (.aload_n 0, 1) := by decide +kernel
theorem x211_609 {sc : aSc} {d : Nat} {r : aRes} {x0 : Nat} {a1 : Value} {a2 : Value} {a3 : Value} {st : List Value} {σ : aS} : Rn sc d 211 609 [.ref x0, a1, a2, a3] st σ r ↔ Rn sc d 211 610 [.ref x0, a1, a2, a3] (.ref x0 :: st) σ r := r_aload_n d211_609 rfl
theorem d211_610 : decode (mC 211) 610 = .ok (.iload_n 3, 1) := by decide +kernel
theorem x211_610 {sc : aSc} {d : Nat} {r : aRes} {a0 : Value} {a1 : Value} {a2 : Value} {x3 : Int32} {st : List Value} {σ : aS} : Rn sc d 211 610 [a0, a1, a2, .int x3] st σ r ↔ Rn sc d 211 611 [a0, a1, a2, .int x3] (.int x3 :: st) σ r := r_iload_n d211_610 rfl
theorem d211_611 : decode (mC 211) 611 = .ok (.iconst 2, 1) := by decide +kernel
theorem x211_611 {sc : aSc} {d : Nat} {r : aRes} {L : List Value} {st : List Value} {σ : aS} : Rn sc d 211 611 L st σ r ↔ Rn sc d 211 612 L (.int 2 :: st) σ r := r_iconst d211_611 (by decide)
theorem d211_612 : decode (mC 211) 612 = .ok (.iadd, 1) := by decide +kernel
theorem x211_612 {sc : aSc} {d : Nat} {r : aRes} {L : List Value} {st : List Value} {σ : aS} {x y : Int32} : Rn sc d 211 612 L (.int y :: .int x :: st) σ r ↔ Rn sc d 211 613 L (.int (x + y) :: st) σ r := r_iadd d211_612
theorem d211_613 : decode (mC 211) 613 = .ok (.iaload, 1) := by decide +kernel
theorem d211_614 : decode (mC 211) 614 = .ok (.invokevirtual 70, 3) := by decide +kernel
theorem x211_614 {sc : aSc} {d : Nat} {r : aRes} {L : List Value} {f : Nat → Nat → Int32} {g : Nat → Nat → Int64} {h1 h2 : Nat} {y0 : Int32} {y1 : Int32}  {o : Nat} (hK : KK[o]? = some (.inl 6)) : Rn sc d 211 614 L [.int y0, .int y1, .ref o] (cS f g h1 h2) r ↔ ∃ (σ3 : aS) (v : Option Value), Cl sc d 79 [.ref o, .int y1, .int y0] (cS f g h1 h2) (σ3, v) ∧ Rn sc d 211 617 L (v.toList ++ []) σ3 r := r_callV (vs := [.int y0, .int y1]) d211_614 (j := 79) (by decide +kernel) ⟨rfl, by decide, rfl, rfl⟩ (Nat.le_of_ble_eq_true rfl) hK
theorem d211_617 : decode (mC 211) 617 = .ok (.aload_n 2, 1) := by decide +kernel
theorem x211_617 {sc : aSc} {d : Nat} {r : aRes} {a0 : Value} {a1 : Value} {x2 : Nat} {a3 : Value} {st : List Value} {σ : aS} : Rn sc d 211 617 [a0, a1, .ref x2, a3] st σ r ↔ Rn sc d 211 618 [a0, a1, .ref x2, a3] (.ref x2 :: st) σ r := r_aload_n d211_617 rfl
theorem d211_618 : decode (mC 211) 618 = .ok (.aload_n 0, 1) := by decide +kernel
theorem x211_618 {sc : aSc} {d : Nat} {r : aRes} {x0 : Nat} {a1 : Value} {a2 : Value} {a3 : Value} {st : List Value} {σ : aS} : Rn sc d 211 618 [.ref x0, a1, a2, a3] st σ r ↔ Rn sc d 211 619 [.ref x0, a1, a2, a3] (.ref x0 :: st) σ r := r_aload_n d211_618 rfl
theorem d211_619 : decode (mC 211) 619 = .ok (.iload_n 3, 1) := by decide +kernel
theorem x211_619 {sc : aSc} {d : Nat} {r : aRes} {a0 : Value} {a1 : Value} {a2 : Value} {x3 : Int32} {st : List Value} {σ : aS} : Rn sc d 211 619 [a0, a1, a2, .int x3] st σ r ↔ Rn sc d 211 620 [a0, a1, a2, .int x3] (.int x3 :: st) σ r := r_iload_n d211_619 rfl
theorem d211_620 : decode (mC 211) 620 = .ok (.iconst 1, 1) := by decide +kernel
theorem x211_620 {sc : aSc} {d : Nat} {r : aRes} {L : List Value} {st : List Value} {σ : aS} : Rn sc d 211 620 L st σ r ↔ Rn sc d 211 621 L (.int 1 :: st) σ r := r_iconst d211_620 (by decide)
theorem d211_621 : decode (mC 211) 621 = .ok (.iadd, 1) := by decide +kernel
theorem x211_621 {sc : aSc} {d : Nat} {r : aRes} {L : List Value} {st : List Value} {σ : aS} {x y : Int32} : Rn sc d 211 621 L (.int y :: .int x :: st) σ r ↔ Rn sc d 211 622 L (.int (x + y) :: st) σ r := r_iadd d211_621
theorem d211_622 : decode (mC 211) 622 = .ok (.iaload, 1) := by decide +kernel
theorem d211_623 : decode (mC 211) 623 = .ok (.aload_n 0, 1) := by decide +kernel
theorem x211_623 {sc : aSc} {d : Nat} {r : aRes} {x0 : Nat} {a1 : Value} {a2 : Value} {a3 : Value} {st : List Value} {σ : aS} : Rn sc d 211 623 [.ref x0, a1, a2, a3] st σ r ↔ Rn sc d 211 624 [.ref x0, a1, a2, a3] (.ref x0 :: st) σ r := r_aload_n d211_623 rfl
theorem d211_624 : decode (mC 211) 624 = .ok (.iload_n 3, 1) := by decide +kernel
theorem x211_624 {sc : aSc} {d : Nat} {r : aRes} {a0 : Value} {a1 : Value} {a2 : Value} {x3 : Int32} {st : List Value} {σ : aS} : Rn sc d 211 624 [a0, a1, a2, .int x3] st σ r ↔ Rn sc d 211 625 [a0, a1, a2, .int x3] (.int x3 :: st) σ r := r_iload_n d211_624 rfl
theorem d211_625 : decode (mC 211) 625 = .ok (.iconst 2, 1) := by decide +kernel
theorem x211_625 {sc : aSc} {d : Nat} {r : aRes} {L : List Value} {st : List Value} {σ : aS} : Rn sc d 211 625 L st σ r ↔ Rn sc d 211 626 L (.int 2 :: st) σ r := r_iconst d211_625 (by decide)
theorem d211_626 : decode (mC 211) 626 = .ok (.iadd, 1) := by decide +kernel
theorem x211_626 {sc : aSc} {d : Nat} {r : aRes} {L : List Value} {st : List Value} {σ : aS} {x y : Int32} : Rn sc d 211 626 L (.int y :: .int x :: st) σ r ↔ Rn sc d 211 627 L (.int (x + y) :: st) σ r := r_iadd d211_626
theorem d211_627 : decode (mC 211) 627 = .ok (.iaload, 1) := by decide +kernel
theorem d211_628 : decode (mC 211) 628 = .ok (.invokevirtual 73, 3) := by decide +kernel
theorem x211_628 {sc : aSc} {d : Nat} {r : aRes} {L : List Value} {f : Nat → Nat → Int32} {g : Nat → Nat → Int64} {h1 h2 : Nat} {y0 : Int32} {y1 : Int32} {z0 : Int32} {o : Nat} (hK : KK[o]? = some (.inl 7)) : Rn sc d 211 628 L [.int y0, .int y1, .ref o, .int z0] (cS f g h1 h2) r ↔ ∃ (σ3 : aS) (v : Option Value), Cl sc d 157 [.ref o, .int y1, .int y0] (cS f g h1 h2) (σ3, v) ∧ Rn sc d 211 631 L (v.toList ++ [.int z0]) σ3 r := r_callV (vs := [.int y0, .int y1]) d211_628 (j := 157) (by decide +kernel) ⟨rfl, by decide, rfl, rfl⟩ (Nat.le_of_ble_eq_true rfl) hK
theorem d211_631 : decode (mC 211) 631 = .ok (.if_icmp .eq 704, 3) := by decide +kernel
theorem x211_631 {sc : aSc} {d : Nat} {r : aRes} {L : List Value} {st : List Value} {σ : aS} {x y : Int32} : Rn sc d 211 631 L (.int y :: .int x :: st) σ r ↔ if x = y then Rn sc d 211 1335 L st σ r else Rn sc d 211 634 L st σ r := r_icmp_eq d211_631 rfl
theorem d211_634 : decode (mC 211) 634 = .ok (.iconst 0, 1) := by decide +kernel
theorem x211_634 {sc : aSc} {d : Nat} {r : aRes} {L : List Value} {st : List Value} {σ : aS} : Rn sc d 211 634 L st σ r ↔ Rn sc d 211 635 L (.int 0 :: st) σ r := r_iconst d211_634 (by decide)
theorem d211_635 : decode (mC 211) 635 = .ok (.ireturn, 1) := by decide +kernel
theorem d211_636 : decode (mC 211) 636 = .ok (.aload_n 1, 1) := by decide +kernel
theorem x211_636 {sc : aSc} {d : Nat} {r : aRes} {a0 : Value} {x1 : Nat} {a2 : Value} {a3 : Value} {st : List Value} {σ : aS} : Rn sc d 211 636 [a0, .ref x1, a2, a3] st σ r ↔ Rn sc d 211 637 [a0, .ref x1, a2, a3] (.ref x1 :: st) σ r := r_aload_n d211_636 rfl
theorem d211_637 : decode (mC 211) 637 = .ok (.aload_n 0, 1) := by decide +kernel
theorem x211_637 {sc : aSc} {d : Nat} {r : aRes} {x0 : Nat} {a1 : Value} {a2 : Value} {a3 : Value} {st : List Value} {σ : aS} : Rn sc d 211 637 [.ref x0, a1, a2, a3] st σ r ↔ Rn sc d 211 638 [.ref x0, a1, a2, a3] (.ref x0 :: st) σ r := r_aload_n d211_637 rfl
theorem d211_638 : decode (mC 211) 638 = .ok (.iload_n 3, 1) := by decide +kernel
theorem x211_638 {sc : aSc} {d : Nat} {r : aRes} {a0 : Value} {a1 : Value} {a2 : Value} {x3 : Int32} {st : List Value} {σ : aS} : Rn sc d 211 638 [a0, a1, a2, .int x3] st σ r ↔ Rn sc d 211 639 [a0, a1, a2, .int x3] (.int x3 :: st) σ r := r_iload_n d211_638 rfl
theorem d211_639 : decode (mC 211) 639 = .ok (.iconst 1, 1) := by decide +kernel
theorem x211_639 {sc : aSc} {d : Nat} {r : aRes} {L : List Value} {st : List Value} {σ : aS} : Rn sc d 211 639 L st σ r ↔ Rn sc d 211 640 L (.int 1 :: st) σ r := r_iconst d211_639 (by decide)
theorem d211_640 : decode (mC 211) 640 = .ok (.iadd, 1) := by decide +kernel
theorem x211_640 {sc : aSc} {d : Nat} {r : aRes} {L : List Value} {st : List Value} {σ : aS} {x y : Int32} : Rn sc d 211 640 L (.int y :: .int x :: st) σ r ↔ Rn sc d 211 641 L (.int (x + y) :: st) σ r := r_iadd d211_640
theorem d211_641 : decode (mC 211) 641 = .ok (.iaload, 1) := by decide +kernel
theorem d211_642 : decode (mC 211) 642 = .ok (.aload_n 0, 1) := by decide +kernel
theorem x211_642 {sc : aSc} {d : Nat} {r : aRes} {x0 : Nat} {a1 : Value} {a2 : Value} {a3 : Value} {st : List Value} {σ : aS} : Rn sc d 211 642 [.ref x0, a1, a2, a3] st σ r ↔ Rn sc d 211 643 [.ref x0, a1, a2, a3] (.ref x0 :: st) σ r := r_aload_n d211_642 rfl
theorem d211_643 : decode (mC 211) 643 = .ok (.iload_n 3, 1) := by decide +kernel
theorem x211_643 {sc : aSc} {d : Nat} {r : aRes} {a0 : Value} {a1 : Value} {a2 : Value} {x3 : Int32} {st : List Value} {σ : aS} : Rn sc d 211 643 [a0, a1, a2, .int x3] st σ r ↔ Rn sc d 211 644 [a0, a1, a2, .int x3] (.int x3 :: st) σ r := r_iload_n d211_643 rfl
theorem d211_644 : decode (mC 211) 644 = .ok (.iconst 2, 1) := by decide +kernel
theorem x211_644 {sc : aSc} {d : Nat} {r : aRes} {L : List Value} {st : List Value} {σ : aS} : Rn sc d 211 644 L st σ r ↔ Rn sc d 211 645 L (.int 2 :: st) σ r := r_iconst d211_644 (by decide)
theorem d211_645 : decode (mC 211) 645 = .ok (.iadd, 1) := by decide +kernel
theorem x211_645 {sc : aSc} {d : Nat} {r : aRes} {L : List Value} {st : List Value} {σ : aS} {x y : Int32} : Rn sc d 211 645 L (.int y :: .int x :: st) σ r ↔ Rn sc d 211 646 L (.int (x + y) :: st) σ r := r_iadd d211_645
theorem d211_646 : decode (mC 211) 646 = .ok (.iaload, 1) := by decide +kernel
theorem d211_647 : decode (mC 211) 647 = .ok (.invokevirtual 74, 3) := by decide +kernel
theorem x211_647 {sc : aSc} {d : Nat} {r : aRes} {L : List Value} {f : Nat → Nat → Int32} {g : Nat → Nat → Int64} {h1 h2 : Nat} {y0 : Int32} {y1 : Int32}  {o : Nat} (hK : KK[o]? = some (.inl 6)) : Rn sc d 211 647 L [.int y0, .int y1, .ref o] (cS f g h1 h2) r ↔ ∃ (σ3 : aS) (v : Option Value), Cl sc d 80 [.ref o, .int y1, .int y0] (cS f g h1 h2) (σ3, v) ∧ Rn sc d 211 650 L (v.toList ++ []) σ3 r := r_callV (vs := [.int y0, .int y1]) d211_647 (j := 80) (by decide +kernel) ⟨rfl, by decide, rfl, rfl⟩ (Nat.le_of_ble_eq_true rfl) hK
theorem d211_650 : decode (mC 211) 650 = .ok (.aload_n 2, 1) := by decide +kernel
theorem x211_650 {sc : aSc} {d : Nat} {r : aRes} {a0 : Value} {a1 : Value} {x2 : Nat} {a3 : Value} {st : List Value} {σ : aS} : Rn sc d 211 650 [a0, a1, .ref x2, a3] st σ r ↔ Rn sc d 211 651 [a0, a1, .ref x2, a3] (.ref x2 :: st) σ r := r_aload_n d211_650 rfl
theorem d211_651 : decode (mC 211) 651 = .ok (.aload_n 0, 1) := by decide +kernel
theorem x211_651 {sc : aSc} {d : Nat} {r : aRes} {x0 : Nat} {a1 : Value} {a2 : Value} {a3 : Value} {st : List Value} {σ : aS} : Rn sc d 211 651 [.ref x0, a1, a2, a3] st σ r ↔ Rn sc d 211 652 [.ref x0, a1, a2, a3] (.ref x0 :: st) σ r := r_aload_n d211_651 rfl
theorem d211_652 : decode (mC 211) 652 = .ok (.iload_n 3, 1) := by decide +kernel
theorem x211_652 {sc : aSc} {d : Nat} {r : aRes} {a0 : Value} {a1 : Value} {a2 : Value} {x3 : Int32} {st : List Value} {σ : aS} : Rn sc d 211 652 [a0, a1, a2, .int x3] st σ r ↔ Rn sc d 211 653 [a0, a1, a2, .int x3] (.int x3 :: st) σ r := r_iload_n d211_652 rfl
theorem d211_653 : decode (mC 211) 653 = .ok (.iconst 1, 1) := by decide +kernel
theorem x211_653 {sc : aSc} {d : Nat} {r : aRes} {L : List Value} {st : List Value} {σ : aS} : Rn sc d 211 653 L st σ r ↔ Rn sc d 211 654 L (.int 1 :: st) σ r := r_iconst d211_653 (by decide)
theorem d211_654 : decode (mC 211) 654 = .ok (.iadd, 1) := by decide +kernel
theorem x211_654 {sc : aSc} {d : Nat} {r : aRes} {L : List Value} {st : List Value} {σ : aS} {x y : Int32} : Rn sc d 211 654 L (.int y :: .int x :: st) σ r ↔ Rn sc d 211 655 L (.int (x + y) :: st) σ r := r_iadd d211_654
theorem d211_655 : decode (mC 211) 655 = .ok (.iaload, 1) := by decide +kernel
theorem d211_656 : decode (mC 211) 656 = .ok (.aload_n 0, 1) := by decide +kernel
theorem x211_656 {sc : aSc} {d : Nat} {r : aRes} {x0 : Nat} {a1 : Value} {a2 : Value} {a3 : Value} {st : List Value} {σ : aS} : Rn sc d 211 656 [.ref x0, a1, a2, a3] st σ r ↔ Rn sc d 211 657 [.ref x0, a1, a2, a3] (.ref x0 :: st) σ r := r_aload_n d211_656 rfl
theorem d211_657 : decode (mC 211) 657 = .ok (.iload_n 3, 1) := by decide +kernel
theorem x211_657 {sc : aSc} {d : Nat} {r : aRes} {a0 : Value} {a1 : Value} {a2 : Value} {x3 : Int32} {st : List Value} {σ : aS} : Rn sc d 211 657 [a0, a1, a2, .int x3] st σ r ↔ Rn sc d 211 658 [a0, a1, a2, .int x3] (.int x3 :: st) σ r := r_iload_n d211_657 rfl
theorem d211_658 : decode (mC 211) 658 = .ok (.iconst 2, 1) := by decide +kernel
theorem x211_658 {sc : aSc} {d : Nat} {r : aRes} {L : List Value} {st : List Value} {σ : aS} : Rn sc d 211 658 L st σ r ↔ Rn sc d 211 659 L (.int 2 :: st) σ r := r_iconst d211_658 (by decide)
theorem d211_659 : decode (mC 211) 659 = .ok (.iadd, 1) := by decide +kernel
theorem x211_659 {sc : aSc} {d : Nat} {r : aRes} {L : List Value} {st : List Value} {σ : aS} {x y : Int32} : Rn sc d 211 659 L (.int y :: .int x :: st) σ r ↔ Rn sc d 211 660 L (.int (x + y) :: st) σ r := r_iadd d211_659
theorem d211_660 : decode (mC 211) 660 = .ok (.iaload, 1) := by decide +kernel
theorem d211_661 : decode (mC 211) 661 = .ok (.invokevirtual 77, 3) := by decide +kernel
theorem x211_661 {sc : aSc} {d : Nat} {r : aRes} {L : List Value} {f : Nat → Nat → Int32} {g : Nat → Nat → Int64} {h1 h2 : Nat} {y0 : Int32} {y1 : Int32} {z0 : Int32} {o : Nat} (hK : KK[o]? = some (.inl 7)) : Rn sc d 211 661 L [.int y0, .int y1, .ref o, .int z0] (cS f g h1 h2) r ↔ ∃ (σ3 : aS) (v : Option Value), Cl sc d 159 [.ref o, .int y1, .int y0] (cS f g h1 h2) (σ3, v) ∧ Rn sc d 211 664 L (v.toList ++ [.int z0]) σ3 r := r_callV (vs := [.int y0, .int y1]) d211_661 (j := 159) (by decide +kernel) ⟨rfl, by decide, rfl, rfl⟩ (Nat.le_of_ble_eq_true rfl) hK
theorem d211_664 : decode (mC 211) 664 = .ok (.if_icmp .eq 671, 3) := by decide +kernel
theorem x211_664 {sc : aSc} {d : Nat} {r : aRes} {L : List Value} {st : List Value} {σ : aS} {x y : Int32} : Rn sc d 211 664 L (.int y :: .int x :: st) σ r ↔ if x = y then Rn sc d 211 1335 L st σ r else Rn sc d 211 667 L st σ r := r_icmp_eq d211_664 rfl
theorem d211_667 : decode (mC 211) 667 = .ok (.iconst 0, 1) := by decide +kernel
theorem x211_667 {sc : aSc} {d : Nat} {r : aRes} {L : List Value} {st : List Value} {σ : aS} : Rn sc d 211 667 L st σ r ↔ Rn sc d 211 668 L (.int 0 :: st) σ r := r_iconst d211_667 (by decide)
theorem d211_668 : decode (mC 211) 668 = .ok (.ireturn, 1) := by decide +kernel
theorem d211_669 : decode (mC 211) 669 = .ok (.aload_n 1, 1) := by decide +kernel
theorem x211_669 {sc : aSc} {d : Nat} {r : aRes} {a0 : Value} {x1 : Nat} {a2 : Value} {a3 : Value} {st : List Value} {σ : aS} : Rn sc d 211 669 [a0, .ref x1, a2, a3] st σ r ↔ Rn sc d 211 670 [a0, .ref x1, a2, a3] (.ref x1 :: st) σ r := r_aload_n d211_669 rfl
theorem d211_670 : decode (mC 211) 670 = .ok (.aload_n 0, 1) := by decide +kernel
theorem x211_670 {sc : aSc} {d : Nat} {r : aRes} {x0 : Nat} {a1 : Value} {a2 : Value} {a3 : Value} {st : List Value} {σ : aS} : Rn sc d 211 670 [.ref x0, a1, a2, a3] st σ r ↔ Rn sc d 211 671 [.ref x0, a1, a2, a3] (.ref x0 :: st) σ r := r_aload_n d211_670 rfl
theorem d211_671 : decode (mC 211) 671 = .ok (.iload_n 3, 1) := by decide +kernel
theorem x211_671 {sc : aSc} {d : Nat} {r : aRes} {a0 : Value} {a1 : Value} {a2 : Value} {x3 : Int32} {st : List Value} {σ : aS} : Rn sc d 211 671 [a0, a1, a2, .int x3] st σ r ↔ Rn sc d 211 672 [a0, a1, a2, .int x3] (.int x3 :: st) σ r := r_iload_n d211_671 rfl
theorem d211_672 : decode (mC 211) 672 = .ok (.iconst 1, 1) := by decide +kernel
theorem x211_672 {sc : aSc} {d : Nat} {r : aRes} {L : List Value} {st : List Value} {σ : aS} : Rn sc d 211 672 L st σ r ↔ Rn sc d 211 673 L (.int 1 :: st) σ r := r_iconst d211_672 (by decide)
theorem d211_673 : decode (mC 211) 673 = .ok (.iadd, 1) := by decide +kernel
theorem x211_673 {sc : aSc} {d : Nat} {r : aRes} {L : List Value} {st : List Value} {σ : aS} {x y : Int32} : Rn sc d 211 673 L (.int y :: .int x :: st) σ r ↔ Rn sc d 211 674 L (.int (x + y) :: st) σ r := r_iadd d211_673
theorem d211_674 : decode (mC 211) 674 = .ok (.iaload, 1) := by decide +kernel
theorem d211_675 : decode (mC 211) 675 = .ok (.invokevirtual 78, 3) := by decide +kernel
theorem x211_675 {sc : aSc} {d : Nat} {r : aRes} {L : List Value} {f : Nat → Nat → Int32} {g : Nat → Nat → Int64} {h1 h2 : Nat} {y0 : Int32}  {o : Nat} (hK : KK[o]? = some (.inl 6)) : Rn sc d 211 675 L [.int y0, .ref o] (cS f g h1 h2) r ↔ ∃ (σ3 : aS) (v : Option Value), Cl sc d 81 [.ref o, .int y0] (cS f g h1 h2) (σ3, v) ∧ Rn sc d 211 678 L (v.toList ++ []) σ3 r := r_callV (vs := [.int y0]) d211_675 (j := 81) (by decide +kernel) ⟨rfl, by decide, rfl, rfl⟩ (Nat.le_of_ble_eq_true rfl) hK
theorem d211_678 : decode (mC 211) 678 = .ok (.aload_n 2, 1) := by decide +kernel
theorem x211_678 {sc : aSc} {d : Nat} {r : aRes} {a0 : Value} {a1 : Value} {x2 : Nat} {a3 : Value} {st : List Value} {σ : aS} : Rn sc d 211 678 [a0, a1, .ref x2, a3] st σ r ↔ Rn sc d 211 679 [a0, a1, .ref x2, a3] (.ref x2 :: st) σ r := r_aload_n d211_678 rfl
theorem d211_679 : decode (mC 211) 679 = .ok (.aload_n 0, 1) := by decide +kernel
theorem x211_679 {sc : aSc} {d : Nat} {r : aRes} {x0 : Nat} {a1 : Value} {a2 : Value} {a3 : Value} {st : List Value} {σ : aS} : Rn sc d 211 679 [.ref x0, a1, a2, a3] st σ r ↔ Rn sc d 211 680 [.ref x0, a1, a2, a3] (.ref x0 :: st) σ r := r_aload_n d211_679 rfl
theorem d211_680 : decode (mC 211) 680 = .ok (.iload_n 3, 1) := by decide +kernel
theorem x211_680 {sc : aSc} {d : Nat} {r : aRes} {a0 : Value} {a1 : Value} {a2 : Value} {x3 : Int32} {st : List Value} {σ : aS} : Rn sc d 211 680 [a0, a1, a2, .int x3] st σ r ↔ Rn sc d 211 681 [a0, a1, a2, .int x3] (.int x3 :: st) σ r := r_iload_n d211_680 rfl
theorem d211_681 : decode (mC 211) 681 = .ok (.iconst 1, 1) := by decide +kernel
theorem x211_681 {sc : aSc} {d : Nat} {r : aRes} {L : List Value} {st : List Value} {σ : aS} : Rn sc d 211 681 L st σ r ↔ Rn sc d 211 682 L (.int 1 :: st) σ r := r_iconst d211_681 (by decide)
theorem d211_682 : decode (mC 211) 682 = .ok (.iadd, 1) := by decide +kernel
theorem x211_682 {sc : aSc} {d : Nat} {r : aRes} {L : List Value} {st : List Value} {σ : aS} {x y : Int32} : Rn sc d 211 682 L (.int y :: .int x :: st) σ r ↔ Rn sc d 211 683 L (.int (x + y) :: st) σ r := r_iadd d211_682
theorem d211_683 : decode (mC 211) 683 = .ok (.iaload, 1) := by decide +kernel
theorem d211_684 : decode (mC 211) 684 = .ok (.invokevirtual 81, 3) := by decide +kernel
theorem x211_684 {sc : aSc} {d : Nat} {r : aRes} {L : List Value} {f : Nat → Nat → Int32} {g : Nat → Nat → Int64} {h1 h2 : Nat} {y0 : Int32} {z0 : Int32} {o : Nat} (hK : KK[o]? = some (.inl 7)) : Rn sc d 211 684 L [.int y0, .ref o, .int z0] (cS f g h1 h2) r ↔ ∃ (σ3 : aS) (v : Option Value), Cl sc d 160 [.ref o, .int y0] (cS f g h1 h2) (σ3, v) ∧ Rn sc d 211 687 L (v.toList ++ [.int z0]) σ3 r := r_callV (vs := [.int y0]) d211_684 (j := 160) (by decide +kernel) ⟨rfl, by decide, rfl, rfl⟩ (Nat.le_of_ble_eq_true rfl) hK
theorem d211_687 : decode (mC 211) 687 = .ok (.if_icmp .eq 648, 3) := by decide +kernel
theorem x211_687 {sc : aSc} {d : Nat} {r : aRes} {L : List Value} {st : List Value} {σ : aS} {x y : Int32} : Rn sc d 211 687 L (.int y :: .int x :: st) σ r ↔ if x = y then Rn sc d 211 1335 L st σ r else Rn sc d 211 690 L st σ r := r_icmp_eq d211_687 rfl
theorem d211_690 : decode (mC 211) 690 = .ok (.iconst 0, 1) := by decide +kernel
theorem x211_690 {sc : aSc} {d : Nat} {r : aRes} {L : List Value} {st : List Value} {σ : aS} : Rn sc d 211 690 L st σ r ↔ Rn sc d 211 691 L (.int 0 :: st) σ r := r_iconst d211_690 (by decide)
theorem d211_691 : decode (mC 211) 691 = .ok (.ireturn, 1) := by decide +kernel
theorem d211_692 : decode (mC 211) 692 = .ok (.aload_n 1, 1) := by decide +kernel
theorem x211_692 {sc : aSc} {d : Nat} {r : aRes} {a0 : Value} {x1 : Nat} {a2 : Value} {a3 : Value} {st : List Value} {σ : aS} : Rn sc d 211 692 [a0, .ref x1, a2, a3] st σ r ↔ Rn sc d 211 693 [a0, .ref x1, a2, a3] (.ref x1 :: st) σ r := r_aload_n d211_692 rfl
theorem d211_693 : decode (mC 211) 693 = .ok (.aload_n 0, 1) := by decide +kernel
theorem x211_693 {sc : aSc} {d : Nat} {r : aRes} {x0 : Nat} {a1 : Value} {a2 : Value} {a3 : Value} {st : List Value} {σ : aS} : Rn sc d 211 693 [.ref x0, a1, a2, a3] st σ r ↔ Rn sc d 211 694 [.ref x0, a1, a2, a3] (.ref x0 :: st) σ r := r_aload_n d211_693 rfl
theorem d211_694 : decode (mC 211) 694 = .ok (.iload_n 3, 1) := by decide +kernel
theorem x211_694 {sc : aSc} {d : Nat} {r : aRes} {a0 : Value} {a1 : Value} {a2 : Value} {x3 : Int32} {st : List Value} {σ : aS} : Rn sc d 211 694 [a0, a1, a2, .int x3] st σ r ↔ Rn sc d 211 695 [a0, a1, a2, .int x3] (.int x3 :: st) σ r := r_iload_n d211_694 rfl
theorem d211_695 : decode (mC 211) 695 = .ok (.iconst 1, 1) := by decide +kernel
theorem x211_695 {sc : aSc} {d : Nat} {r : aRes} {L : List Value} {st : List Value} {σ : aS} : Rn sc d 211 695 L st σ r ↔ Rn sc d 211 696 L (.int 1 :: st) σ r := r_iconst d211_695 (by decide)
theorem d211_696 : decode (mC 211) 696 = .ok (.iadd, 1) := by decide +kernel
theorem x211_696 {sc : aSc} {d : Nat} {r : aRes} {L : List Value} {st : List Value} {σ : aS} {x y : Int32} : Rn sc d 211 696 L (.int y :: .int x :: st) σ r ↔ Rn sc d 211 697 L (.int (x + y) :: st) σ r := r_iadd d211_696
theorem d211_697 : decode (mC 211) 697 = .ok (.iaload, 1) := by decide +kernel
theorem d211_698 : decode (mC 211) 698 = .ok (.aload_n 0, 1) := by decide +kernel
theorem x211_698 {sc : aSc} {d : Nat} {r : aRes} {x0 : Nat} {a1 : Value} {a2 : Value} {a3 : Value} {st : List Value} {σ : aS} : Rn sc d 211 698 [.ref x0, a1, a2, a3] st σ r ↔ Rn sc d 211 699 [.ref x0, a1, a2, a3] (.ref x0 :: st) σ r := r_aload_n d211_698 rfl
theorem d211_699 : decode (mC 211) 699 = .ok (.iload_n 3, 1) := by decide +kernel
theorem x211_699 {sc : aSc} {d : Nat} {r : aRes} {a0 : Value} {a1 : Value} {a2 : Value} {x3 : Int32} {st : List Value} {σ : aS} : Rn sc d 211 699 [a0, a1, a2, .int x3] st σ r ↔ Rn sc d 211 700 [a0, a1, a2, .int x3] (.int x3 :: st) σ r := r_iload_n d211_699 rfl
theorem d211_700 : decode (mC 211) 700 = .ok (.iconst 2, 1) := by decide +kernel
theorem x211_700 {sc : aSc} {d : Nat} {r : aRes} {L : List Value} {st : List Value} {σ : aS} : Rn sc d 211 700 L st σ r ↔ Rn sc d 211 701 L (.int 2 :: st) σ r := r_iconst d211_700 (by decide)
theorem d211_701 : decode (mC 211) 701 = .ok (.iadd, 1) := by decide +kernel
theorem x211_701 {sc : aSc} {d : Nat} {r : aRes} {L : List Value} {st : List Value} {σ : aS} {x y : Int32} : Rn sc d 211 701 L (.int y :: .int x :: st) σ r ↔ Rn sc d 211 702 L (.int (x + y) :: st) σ r := r_iadd d211_701
theorem d211_702 : decode (mC 211) 702 = .ok (.iaload, 1) := by decide +kernel
theorem d211_703 : decode (mC 211) 703 = .ok (.invokevirtual 82, 3) := by decide +kernel
theorem x211_703 {sc : aSc} {d : Nat} {r : aRes} {L : List Value} {f : Nat → Nat → Int32} {g : Nat → Nat → Int64} {h1 h2 : Nat} {y0 : Int32} {y1 : Int32}  {o : Nat} (hK : KK[o]? = some (.inl 6)) : Rn sc d 211 703 L [.int y0, .int y1, .ref o] (cS f g h1 h2) r ↔ ∃ (σ3 : aS) (v : Option Value), Cl sc d 82 [.ref o, .int y1, .int y0] (cS f g h1 h2) (σ3, v) ∧ Rn sc d 211 706 L (v.toList ++ []) σ3 r := r_callV (vs := [.int y0, .int y1]) d211_703 (j := 82) (by decide +kernel) ⟨rfl, by decide, rfl, rfl⟩ (Nat.le_of_ble_eq_true rfl) hK
theorem d211_706 : decode (mC 211) 706 = .ok (.aload_n 2, 1) := by decide +kernel
theorem x211_706 {sc : aSc} {d : Nat} {r : aRes} {a0 : Value} {a1 : Value} {x2 : Nat} {a3 : Value} {st : List Value} {σ : aS} : Rn sc d 211 706 [a0, a1, .ref x2, a3] st σ r ↔ Rn sc d 211 707 [a0, a1, .ref x2, a3] (.ref x2 :: st) σ r := r_aload_n d211_706 rfl
theorem d211_707 : decode (mC 211) 707 = .ok (.aload_n 0, 1) := by decide +kernel
theorem x211_707 {sc : aSc} {d : Nat} {r : aRes} {x0 : Nat} {a1 : Value} {a2 : Value} {a3 : Value} {st : List Value} {σ : aS} : Rn sc d 211 707 [.ref x0, a1, a2, a3] st σ r ↔ Rn sc d 211 708 [.ref x0, a1, a2, a3] (.ref x0 :: st) σ r := r_aload_n d211_707 rfl
theorem d211_708 : decode (mC 211) 708 = .ok (.iload_n 3, 1) := by decide +kernel
theorem x211_708 {sc : aSc} {d : Nat} {r : aRes} {a0 : Value} {a1 : Value} {a2 : Value} {x3 : Int32} {st : List Value} {σ : aS} : Rn sc d 211 708 [a0, a1, a2, .int x3] st σ r ↔ Rn sc d 211 709 [a0, a1, a2, .int x3] (.int x3 :: st) σ r := r_iload_n d211_708 rfl
theorem d211_709 : decode (mC 211) 709 = .ok (.iconst 1, 1) := by decide +kernel
theorem x211_709 {sc : aSc} {d : Nat} {r : aRes} {L : List Value} {st : List Value} {σ : aS} : Rn sc d 211 709 L st σ r ↔ Rn sc d 211 710 L (.int 1 :: st) σ r := r_iconst d211_709 (by decide)
theorem d211_710 : decode (mC 211) 710 = .ok (.iadd, 1) := by decide +kernel
theorem x211_710 {sc : aSc} {d : Nat} {r : aRes} {L : List Value} {st : List Value} {σ : aS} {x y : Int32} : Rn sc d 211 710 L (.int y :: .int x :: st) σ r ↔ Rn sc d 211 711 L (.int (x + y) :: st) σ r := r_iadd d211_710
theorem d211_711 : decode (mC 211) 711 = .ok (.iaload, 1) := by decide +kernel
theorem d211_712 : decode (mC 211) 712 = .ok (.aload_n 0, 1) := by decide +kernel
theorem x211_712 {sc : aSc} {d : Nat} {r : aRes} {x0 : Nat} {a1 : Value} {a2 : Value} {a3 : Value} {st : List Value} {σ : aS} : Rn sc d 211 712 [.ref x0, a1, a2, a3] st σ r ↔ Rn sc d 211 713 [.ref x0, a1, a2, a3] (.ref x0 :: st) σ r := r_aload_n d211_712 rfl
theorem d211_713 : decode (mC 211) 713 = .ok (.iload_n 3, 1) := by decide +kernel
theorem x211_713 {sc : aSc} {d : Nat} {r : aRes} {a0 : Value} {a1 : Value} {a2 : Value} {x3 : Int32} {st : List Value} {σ : aS} : Rn sc d 211 713 [a0, a1, a2, .int x3] st σ r ↔ Rn sc d 211 714 [a0, a1, a2, .int x3] (.int x3 :: st) σ r := r_iload_n d211_713 rfl
theorem d211_714 : decode (mC 211) 714 = .ok (.iconst 2, 1) := by decide +kernel
theorem x211_714 {sc : aSc} {d : Nat} {r : aRes} {L : List Value} {st : List Value} {σ : aS} : Rn sc d 211 714 L st σ r ↔ Rn sc d 211 715 L (.int 2 :: st) σ r := r_iconst d211_714 (by decide)
theorem d211_715 : decode (mC 211) 715 = .ok (.iadd, 1) := by decide +kernel
theorem x211_715 {sc : aSc} {d : Nat} {r : aRes} {L : List Value} {st : List Value} {σ : aS} {x y : Int32} : Rn sc d 211 715 L (.int y :: .int x :: st) σ r ↔ Rn sc d 211 716 L (.int (x + y) :: st) σ r := r_iadd d211_715
theorem d211_716 : decode (mC 211) 716 = .ok (.iaload, 1) := by decide +kernel
theorem d211_717 : decode (mC 211) 717 = .ok (.invokevirtual 85, 3) := by decide +kernel
theorem x211_717 {sc : aSc} {d : Nat} {r : aRes} {L : List Value} {f : Nat → Nat → Int32} {g : Nat → Nat → Int64} {h1 h2 : Nat} {y0 : Int32} {y1 : Int32} {z0 : Int32} {o : Nat} (hK : KK[o]? = some (.inl 7)) : Rn sc d 211 717 L [.int y0, .int y1, .ref o, .int z0] (cS f g h1 h2) r ↔ ∃ (σ3 : aS) (v : Option Value), Cl sc d 161 [.ref o, .int y1, .int y0] (cS f g h1 h2) (σ3, v) ∧ Rn sc d 211 720 L (v.toList ++ [.int z0]) σ3 r := r_callV (vs := [.int y0, .int y1]) d211_717 (j := 161) (by decide +kernel) ⟨rfl, by decide, rfl, rfl⟩ (Nat.le_of_ble_eq_true rfl) hK
theorem d211_720 : decode (mC 211) 720 = .ok (.if_icmp .eq 615, 3) := by decide +kernel
theorem x211_720 {sc : aSc} {d : Nat} {r : aRes} {L : List Value} {st : List Value} {σ : aS} {x y : Int32} : Rn sc d 211 720 L (.int y :: .int x :: st) σ r ↔ if x = y then Rn sc d 211 1335 L st σ r else Rn sc d 211 723 L st σ r := r_icmp_eq d211_720 rfl
theorem d211_723 : decode (mC 211) 723 = .ok (.iconst 0, 1) := by decide +kernel
theorem x211_723 {sc : aSc} {d : Nat} {r : aRes} {L : List Value} {st : List Value} {σ : aS} : Rn sc d 211 723 L st σ r ↔ Rn sc d 211 724 L (.int 0 :: st) σ r := r_iconst d211_723 (by decide)
theorem d211_724 : decode (mC 211) 724 = .ok (.ireturn, 1) := by decide +kernel
theorem d211_725 : decode (mC 211) 725 = .ok (.aload_n 1, 1) := by decide +kernel
theorem x211_725 {sc : aSc} {d : Nat} {r : aRes} {a0 : Value} {x1 : Nat} {a2 : Value} {a3 : Value} {st : List Value} {σ : aS} : Rn sc d 211 725 [a0, .ref x1, a2, a3] st σ r ↔ Rn sc d 211 726 [a0, .ref x1, a2, a3] (.ref x1 :: st) σ r := r_aload_n d211_725 rfl
theorem d211_726 : decode (mC 211) 726 = .ok (.aload_n 0, 1) := by decide +kernel
theorem x211_726 {sc : aSc} {d : Nat} {r : aRes} {x0 : Nat} {a1 : Value} {a2 : Value} {a3 : Value} {st : List Value} {σ : aS} : Rn sc d 211 726 [.ref x0, a1, a2, a3] st σ r ↔ Rn sc d 211 727 [.ref x0, a1, a2, a3] (.ref x0 :: st) σ r := r_aload_n d211_726 rfl
theorem d211_727 : decode (mC 211) 727 = .ok (.iload_n 3, 1) := by decide +kernel
theorem x211_727 {sc : aSc} {d : Nat} {r : aRes} {a0 : Value} {a1 : Value} {a2 : Value} {x3 : Int32} {st : List Value} {σ : aS} : Rn sc d 211 727 [a0, a1, a2, .int x3] st σ r ↔ Rn sc d 211 728 [a0, a1, a2, .int x3] (.int x3 :: st) σ r := r_iload_n d211_727 rfl
theorem d211_728 : decode (mC 211) 728 = .ok (.iconst 1, 1) := by decide +kernel
theorem x211_728 {sc : aSc} {d : Nat} {r : aRes} {L : List Value} {st : List Value} {σ : aS} : Rn sc d 211 728 L st σ r ↔ Rn sc d 211 729 L (.int 1 :: st) σ r := r_iconst d211_728 (by decide)
theorem d211_729 : decode (mC 211) 729 = .ok (.iadd, 1) := by decide +kernel
theorem x211_729 {sc : aSc} {d : Nat} {r : aRes} {L : List Value} {st : List Value} {σ : aS} {x y : Int32} : Rn sc d 211 729 L (.int y :: .int x :: st) σ r ↔ Rn sc d 211 730 L (.int (x + y) :: st) σ r := r_iadd d211_729
theorem d211_730 : decode (mC 211) 730 = .ok (.iaload, 1) := by decide +kernel
theorem d211_731 : decode (mC 211) 731 = .ok (.invokevirtual 86, 3) := by decide +kernel
theorem x211_731 {sc : aSc} {d : Nat} {r : aRes} {L : List Value} {f : Nat → Nat → Int32} {g : Nat → Nat → Int64} {h1 h2 : Nat} {y0 : Int32}  {o : Nat} (hK : KK[o]? = some (.inl 6)) : Rn sc d 211 731 L [.int y0, .ref o] (cS f g h1 h2) r ↔ ∃ (σ3 : aS) (v : Option Value), Cl sc d 83 [.ref o, .int y0] (cS f g h1 h2) (σ3, v) ∧ Rn sc d 211 734 L (v.toList ++ []) σ3 r := r_callV (vs := [.int y0]) d211_731 (j := 83) (by decide +kernel) ⟨rfl, by decide, rfl, rfl⟩ (Nat.le_of_ble_eq_true rfl) hK
theorem d211_734 : decode (mC 211) 734 = .ok (.aload_n 2, 1) := by decide +kernel
theorem x211_734 {sc : aSc} {d : Nat} {r : aRes} {a0 : Value} {a1 : Value} {x2 : Nat} {a3 : Value} {st : List Value} {σ : aS} : Rn sc d 211 734 [a0, a1, .ref x2, a3] st σ r ↔ Rn sc d 211 735 [a0, a1, .ref x2, a3] (.ref x2 :: st) σ r := r_aload_n d211_734 rfl
theorem d211_735 : decode (mC 211) 735 = .ok (.aload_n 0, 1) := by decide +kernel
theorem x211_735 {sc : aSc} {d : Nat} {r : aRes} {x0 : Nat} {a1 : Value} {a2 : Value} {a3 : Value} {st : List Value} {σ : aS} : Rn sc d 211 735 [.ref x0, a1, a2, a3] st σ r ↔ Rn sc d 211 736 [.ref x0, a1, a2, a3] (.ref x0 :: st) σ r := r_aload_n d211_735 rfl
theorem d211_736 : decode (mC 211) 736 = .ok (.iload_n 3, 1) := by decide +kernel
theorem x211_736 {sc : aSc} {d : Nat} {r : aRes} {a0 : Value} {a1 : Value} {a2 : Value} {x3 : Int32} {st : List Value} {σ : aS} : Rn sc d 211 736 [a0, a1, a2, .int x3] st σ r ↔ Rn sc d 211 737 [a0, a1, a2, .int x3] (.int x3 :: st) σ r := r_iload_n d211_736 rfl
theorem d211_737 : decode (mC 211) 737 = .ok (.iconst 1, 1) := by decide +kernel
theorem x211_737 {sc : aSc} {d : Nat} {r : aRes} {L : List Value} {st : List Value} {σ : aS} : Rn sc d 211 737 L st σ r ↔ Rn sc d 211 738 L (.int 1 :: st) σ r := r_iconst d211_737 (by decide)
theorem d211_738 : decode (mC 211) 738 = .ok (.iadd, 1) := by decide +kernel
theorem x211_738 {sc : aSc} {d : Nat} {r : aRes} {L : List Value} {st : List Value} {σ : aS} {x y : Int32} : Rn sc d 211 738 L (.int y :: .int x :: st) σ r ↔ Rn sc d 211 739 L (.int (x + y) :: st) σ r := r_iadd d211_738
theorem d211_739 : decode (mC 211) 739 = .ok (.iaload, 1) := by decide +kernel
theorem d211_740 : decode (mC 211) 740 = .ok (.invokevirtual 89, 3) := by decide +kernel
theorem x211_740 {sc : aSc} {d : Nat} {r : aRes} {L : List Value} {f : Nat → Nat → Int32} {g : Nat → Nat → Int64} {h1 h2 : Nat} {y0 : Int32} {z0 : Int32} {o : Nat} (hK : KK[o]? = some (.inl 7)) : Rn sc d 211 740 L [.int y0, .ref o, .int z0] (cS f g h1 h2) r ↔ ∃ (σ3 : aS) (v : Option Value), Cl sc d 164 [.ref o, .int y0] (cS f g h1 h2) (σ3, v) ∧ Rn sc d 211 743 L (v.toList ++ [.int z0]) σ3 r := r_callV (vs := [.int y0]) d211_740 (j := 164) (by decide +kernel) ⟨rfl, by decide, rfl, rfl⟩ (Nat.le_of_ble_eq_true rfl) hK
theorem d211_743 : decode (mC 211) 743 = .ok (.if_icmp .eq 592, 3) := by decide +kernel
theorem x211_743 {sc : aSc} {d : Nat} {r : aRes} {L : List Value} {st : List Value} {σ : aS} {x y : Int32} : Rn sc d 211 743 L (.int y :: .int x :: st) σ r ↔ if x = y then Rn sc d 211 1335 L st σ r else Rn sc d 211 746 L st σ r := r_icmp_eq d211_743 rfl
theorem d211_746 : decode (mC 211) 746 = .ok (.iconst 0, 1) := by decide +kernel
theorem x211_746 {sc : aSc} {d : Nat} {r : aRes} {L : List Value} {st : List Value} {σ : aS} : Rn sc d 211 746 L st σ r ↔ Rn sc d 211 747 L (.int 0 :: st) σ r := r_iconst d211_746 (by decide)
theorem d211_747 : decode (mC 211) 747 = .ok (.ireturn, 1) := by decide +kernel
theorem d211_748 : decode (mC 211) 748 = .ok (.aload_n 1, 1) := by decide +kernel
theorem x211_748 {sc : aSc} {d : Nat} {r : aRes} {a0 : Value} {x1 : Nat} {a2 : Value} {a3 : Value} {st : List Value} {σ : aS} : Rn sc d 211 748 [a0, .ref x1, a2, a3] st σ r ↔ Rn sc d 211 749 [a0, .ref x1, a2, a3] (.ref x1 :: st) σ r := r_aload_n d211_748 rfl
theorem d211_749 : decode (mC 211) 749 = .ok (.aload_n 0, 1) := by decide +kernel
theorem x211_749 {sc : aSc} {d : Nat} {r : aRes} {x0 : Nat} {a1 : Value} {a2 : Value} {a3 : Value} {st : List Value} {σ : aS} : Rn sc d 211 749 [.ref x0, a1, a2, a3] st σ r ↔ Rn sc d 211 750 [.ref x0, a1, a2, a3] (.ref x0 :: st) σ r := r_aload_n d211_749 rfl
theorem d211_750 : decode (mC 211) 750 = .ok (.iload_n 3, 1) := by decide +kernel
theorem x211_750 {sc : aSc} {d : Nat} {r : aRes} {a0 : Value} {a1 : Value} {a2 : Value} {x3 : Int32} {st : List Value} {σ : aS} : Rn sc d 211 750 [a0, a1, a2, .int x3] st σ r ↔ Rn sc d 211 751 [a0, a1, a2, .int x3] (.int x3 :: st) σ r := r_iload_n d211_750 rfl
theorem d211_751 : decode (mC 211) 751 = .ok (.iconst 1, 1) := by decide +kernel
theorem x211_751 {sc : aSc} {d : Nat} {r : aRes} {L : List Value} {st : List Value} {σ : aS} : Rn sc d 211 751 L st σ r ↔ Rn sc d 211 752 L (.int 1 :: st) σ r := r_iconst d211_751 (by decide)
theorem d211_752 : decode (mC 211) 752 = .ok (.iadd, 1) := by decide +kernel
theorem x211_752 {sc : aSc} {d : Nat} {r : aRes} {L : List Value} {st : List Value} {σ : aS} {x y : Int32} : Rn sc d 211 752 L (.int y :: .int x :: st) σ r ↔ Rn sc d 211 753 L (.int (x + y) :: st) σ r := r_iadd d211_752
theorem d211_753 : decode (mC 211) 753 = .ok (.iaload, 1) := by decide +kernel
theorem d211_754 : decode (mC 211) 754 = .ok (.invokevirtual 90, 3) := by decide +kernel
theorem x211_754 {sc : aSc} {d : Nat} {r : aRes} {L : List Value} {f : Nat → Nat → Int32} {g : Nat → Nat → Int64} {h1 h2 : Nat} {y0 : Int32}  {o : Nat} (hK : KK[o]? = some (.inl 6)) : Rn sc d 211 754 L [.int y0, .ref o] (cS f g h1 h2) r ↔ ∃ (σ3 : aS) (v : Option Value), Cl sc d 84 [.ref o, .int y0] (cS f g h1 h2) (σ3, v) ∧ Rn sc d 211 757 L (v.toList ++ []) σ3 r := r_callV (vs := [.int y0]) d211_754 (j := 84) (by decide +kernel) ⟨rfl, by decide, rfl, rfl⟩ (Nat.le_of_ble_eq_true rfl) hK
theorem d211_757 : decode (mC 211) 757 = .ok (.aload_n 2, 1) := by decide +kernel
theorem x211_757 {sc : aSc} {d : Nat} {r : aRes} {a0 : Value} {a1 : Value} {x2 : Nat} {a3 : Value} {st : List Value} {σ : aS} : Rn sc d 211 757 [a0, a1, .ref x2, a3] st σ r ↔ Rn sc d 211 758 [a0, a1, .ref x2, a3] (.ref x2 :: st) σ r := r_aload_n d211_757 rfl
theorem d211_758 : decode (mC 211) 758 = .ok (.aload_n 0, 1) := by decide +kernel
theorem x211_758 {sc : aSc} {d : Nat} {r : aRes} {x0 : Nat} {a1 : Value} {a2 : Value} {a3 : Value} {st : List Value} {σ : aS} : Rn sc d 211 758 [.ref x0, a1, a2, a3] st σ r ↔ Rn sc d 211 759 [.ref x0, a1, a2, a3] (.ref x0 :: st) σ r := r_aload_n d211_758 rfl
theorem d211_759 : decode (mC 211) 759 = .ok (.iload_n 3, 1) := by decide +kernel
theorem x211_759 {sc : aSc} {d : Nat} {r : aRes} {a0 : Value} {a1 : Value} {a2 : Value} {x3 : Int32} {st : List Value} {σ : aS} : Rn sc d 211 759 [a0, a1, a2, .int x3] st σ r ↔ Rn sc d 211 760 [a0, a1, a2, .int x3] (.int x3 :: st) σ r := r_iload_n d211_759 rfl
theorem d211_760 : decode (mC 211) 760 = .ok (.iconst 1, 1) := by decide +kernel
theorem x211_760 {sc : aSc} {d : Nat} {r : aRes} {L : List Value} {st : List Value} {σ : aS} : Rn sc d 211 760 L st σ r ↔ Rn sc d 211 761 L (.int 1 :: st) σ r := r_iconst d211_760 (by decide)
theorem d211_761 : decode (mC 211) 761 = .ok (.iadd, 1) := by decide +kernel
theorem x211_761 {sc : aSc} {d : Nat} {r : aRes} {L : List Value} {st : List Value} {σ : aS} {x y : Int32} : Rn sc d 211 761 L (.int y :: .int x :: st) σ r ↔ Rn sc d 211 762 L (.int (x + y) :: st) σ r := r_iadd d211_761
theorem d211_762 : decode (mC 211) 762 = .ok (.iaload, 1) := by decide +kernel
theorem d211_763 : decode (mC 211) 763 = .ok (.invokevirtual 93, 3) := by decide +kernel
theorem x211_763 {sc : aSc} {d : Nat} {r : aRes} {L : List Value} {f : Nat → Nat → Int32} {g : Nat → Nat → Int64} {h1 h2 : Nat} {y0 : Int32} {z0 : Int32} {o : Nat} (hK : KK[o]? = some (.inl 7)) : Rn sc d 211 763 L [.int y0, .ref o, .int z0] (cS f g h1 h2) r ↔ ∃ (σ3 : aS) (v : Option Value), Cl sc d 165 [.ref o, .int y0] (cS f g h1 h2) (σ3, v) ∧ Rn sc d 211 766 L (v.toList ++ [.int z0]) σ3 r := r_callV (vs := [.int y0]) d211_763 (j := 165) (by decide +kernel) ⟨rfl, by decide, rfl, rfl⟩ (Nat.le_of_ble_eq_true rfl) hK
theorem d211_766 : decode (mC 211) 766 = .ok (.if_icmp .eq 569, 3) := by decide +kernel
theorem x211_766 {sc : aSc} {d : Nat} {r : aRes} {L : List Value} {st : List Value} {σ : aS} {x y : Int32} : Rn sc d 211 766 L (.int y :: .int x :: st) σ r ↔ if x = y then Rn sc d 211 1335 L st σ r else Rn sc d 211 769 L st σ r := r_icmp_eq d211_766 rfl
theorem d211_769 : decode (mC 211) 769 = .ok (.iconst 0, 1) := by decide +kernel
theorem x211_769 {sc : aSc} {d : Nat} {r : aRes} {L : List Value} {st : List Value} {σ : aS} : Rn sc d 211 769 L st σ r ↔ Rn sc d 211 770 L (.int 0 :: st) σ r := r_iconst d211_769 (by decide)
theorem d211_770 : decode (mC 211) 770 = .ok (.ireturn, 1) := by decide +kernel
theorem d211_771 : decode (mC 211) 771 = .ok (.aload_n 1, 1) := by decide +kernel
theorem x211_771 {sc : aSc} {d : Nat} {r : aRes} {a0 : Value} {x1 : Nat} {a2 : Value} {a3 : Value} {st : List Value} {σ : aS} : Rn sc d 211 771 [a0, .ref x1, a2, a3] st σ r ↔ Rn sc d 211 772 [a0, .ref x1, a2, a3] (.ref x1 :: st) σ r := r_aload_n d211_771 rfl
theorem d211_772 : decode (mC 211) 772 = .ok (.aload_n 0, 1) := by decide +kernel
theorem x211_772 {sc : aSc} {d : Nat} {r : aRes} {x0 : Nat} {a1 : Value} {a2 : Value} {a3 : Value} {st : List Value} {σ : aS} : Rn sc d 211 772 [.ref x0, a1, a2, a3] st σ r ↔ Rn sc d 211 773 [.ref x0, a1, a2, a3] (.ref x0 :: st) σ r := r_aload_n d211_772 rfl
theorem d211_773 : decode (mC 211) 773 = .ok (.iload_n 3, 1) := by decide +kernel
theorem x211_773 {sc : aSc} {d : Nat} {r : aRes} {a0 : Value} {a1 : Value} {a2 : Value} {x3 : Int32} {st : List Value} {σ : aS} : Rn sc d 211 773 [a0, a1, a2, .int x3] st σ r ↔ Rn sc d 211 774 [a0, a1, a2, .int x3] (.int x3 :: st) σ r := r_iload_n d211_773 rfl
theorem d211_774 : decode (mC 211) 774 = .ok (.iconst 1, 1) := by decide +kernel
theorem x211_774 {sc : aSc} {d : Nat} {r : aRes} {L : List Value} {st : List Value} {σ : aS} : Rn sc d 211 774 L st σ r ↔ Rn sc d 211 775 L (.int 1 :: st) σ r := r_iconst d211_774 (by decide)
theorem d211_775 : decode (mC 211) 775 = .ok (.iadd, 1) := by decide +kernel
theorem x211_775 {sc : aSc} {d : Nat} {r : aRes} {L : List Value} {st : List Value} {σ : aS} {x y : Int32} : Rn sc d 211 775 L (.int y :: .int x :: st) σ r ↔ Rn sc d 211 776 L (.int (x + y) :: st) σ r := r_iadd d211_775
theorem d211_776 : decode (mC 211) 776 = .ok (.iaload, 1) := by decide +kernel
theorem d211_777 : decode (mC 211) 777 = .ok (.aload_n 0, 1) := by decide +kernel
theorem x211_777 {sc : aSc} {d : Nat} {r : aRes} {x0 : Nat} {a1 : Value} {a2 : Value} {a3 : Value} {st : List Value} {σ : aS} : Rn sc d 211 777 [.ref x0, a1, a2, a3] st σ r ↔ Rn sc d 211 778 [.ref x0, a1, a2, a3] (.ref x0 :: st) σ r := r_aload_n d211_777 rfl
theorem d211_778 : decode (mC 211) 778 = .ok (.iload_n 3, 1) := by decide +kernel
theorem x211_778 {sc : aSc} {d : Nat} {r : aRes} {a0 : Value} {a1 : Value} {a2 : Value} {x3 : Int32} {st : List Value} {σ : aS} : Rn sc d 211 778 [a0, a1, a2, .int x3] st σ r ↔ Rn sc d 211 779 [a0, a1, a2, .int x3] (.int x3 :: st) σ r := r_iload_n d211_778 rfl
theorem d211_779 : decode (mC 211) 779 = .ok (.iconst 2, 1) := by decide +kernel
theorem x211_779 {sc : aSc} {d : Nat} {r : aRes} {L : List Value} {st : List Value} {σ : aS} : Rn sc d 211 779 L st σ r ↔ Rn sc d 211 780 L (.int 2 :: st) σ r := r_iconst d211_779 (by decide)
theorem d211_780 : decode (mC 211) 780 = .ok (.iadd, 1) := by decide +kernel
theorem x211_780 {sc : aSc} {d : Nat} {r : aRes} {L : List Value} {st : List Value} {σ : aS} {x y : Int32} : Rn sc d 211 780 L (.int y :: .int x :: st) σ r ↔ Rn sc d 211 781 L (.int (x + y) :: st) σ r := r_iadd d211_780
theorem d211_781 : decode (mC 211) 781 = .ok (.iaload, 1) := by decide +kernel
theorem d211_782 : decode (mC 211) 782 = .ok (.invokevirtual 94, 3) := by decide +kernel
theorem x211_782 {sc : aSc} {d : Nat} {r : aRes} {L : List Value} {f : Nat → Nat → Int32} {g : Nat → Nat → Int64} {h1 h2 : Nat} {y0 : Int32} {y1 : Int32}  {o : Nat} (hK : KK[o]? = some (.inl 6)) : Rn sc d 211 782 L [.int y0, .int y1, .ref o] (cS f g h1 h2) r ↔ ∃ (σ3 : aS) (v : Option Value), Cl sc d 85 [.ref o, .int y1, .int y0] (cS f g h1 h2) (σ3, v) ∧ Rn sc d 211 785 L (v.toList ++ []) σ3 r := r_callV (vs := [.int y0, .int y1]) d211_782 (j := 85) (by decide +kernel) ⟨rfl, by decide, rfl, rfl⟩ (Nat.le_of_ble_eq_true rfl) hK
theorem d211_785 : decode (mC 211) 785 = .ok (.aload_n 2, 1) := by decide +kernel
theorem x211_785 {sc : aSc} {d : Nat} {r : aRes} {a0 : Value} {a1 : Value} {x2 : Nat} {a3 : Value} {st : List Value} {σ : aS} : Rn sc d 211 785 [a0, a1, .ref x2, a3] st σ r ↔ Rn sc d 211 786 [a0, a1, .ref x2, a3] (.ref x2 :: st) σ r := r_aload_n d211_785 rfl
theorem d211_786 : decode (mC 211) 786 = .ok (.aload_n 0, 1) := by decide +kernel
theorem x211_786 {sc : aSc} {d : Nat} {r : aRes} {x0 : Nat} {a1 : Value} {a2 : Value} {a3 : Value} {st : List Value} {σ : aS} : Rn sc d 211 786 [.ref x0, a1, a2, a3] st σ r ↔ Rn sc d 211 787 [.ref x0, a1, a2, a3] (.ref x0 :: st) σ r := r_aload_n d211_786 rfl
theorem d211_787 : decode (mC 211) 787 = .ok (.iload_n 3, 1) := by decide +kernel
theorem x211_787 {sc : aSc} {d : Nat} {r : aRes} {a0 : Value} {a1 : Value} {a2 : Value} {x3 : Int32} {st : List Value} {σ : aS} : Rn sc d 211 787 [a0, a1, a2, .int x3] st σ r ↔ Rn sc d 211 788 [a0, a1, a2, .int x3] (.int x3 :: st) σ r := r_iload_n d211_787 rfl
theorem d211_788 : decode (mC 211) 788 = .ok (.iconst 1, 1) := by decide +kernel
theorem x211_788 {sc : aSc} {d : Nat} {r : aRes} {L : List Value} {st : List Value} {σ : aS} : Rn sc d 211 788 L st σ r ↔ Rn sc d 211 789 L (.int 1 :: st) σ r := r_iconst d211_788 (by decide)
theorem d211_789 : decode (mC 211) 789 = .ok (.iadd, 1) := by decide +kernel
theorem x211_789 {sc : aSc} {d : Nat} {r : aRes} {L : List Value} {st : List Value} {σ : aS} {x y : Int32} : Rn sc d 211 789 L (.int y :: .int x :: st) σ r ↔ Rn sc d 211 790 L (.int (x + y) :: st) σ r := r_iadd d211_789
theorem d211_790 : decode (mC 211) 790 = .ok (.iaload, 1) := by decide +kernel
theorem d211_791 : decode (mC 211) 791 = .ok (.aload_n 0, 1) := by decide +kernel
theorem x211_791 {sc : aSc} {d : Nat} {r : aRes} {x0 : Nat} {a1 : Value} {a2 : Value} {a3 : Value} {st : List Value} {σ : aS} : Rn sc d 211 791 [.ref x0, a1, a2, a3] st σ r ↔ Rn sc d 211 792 [.ref x0, a1, a2, a3] (.ref x0 :: st) σ r := r_aload_n d211_791 rfl
theorem d211_792 : decode (mC 211) 792 = .ok (.iload_n 3, 1) := by decide +kernel
theorem x211_792 {sc : aSc} {d : Nat} {r : aRes} {a0 : Value} {a1 : Value} {a2 : Value} {x3 : Int32} {st : List Value} {σ : aS} : Rn sc d 211 792 [a0, a1, a2, .int x3] st σ r ↔ Rn sc d 211 793 [a0, a1, a2, .int x3] (.int x3 :: st) σ r := r_iload_n d211_792 rfl
theorem d211_793 : decode (mC 211) 793 = .ok (.iconst 2, 1) := by decide +kernel
theorem x211_793 {sc : aSc} {d : Nat} {r : aRes} {L : List Value} {st : List Value} {σ : aS} : Rn sc d 211 793 L st σ r ↔ Rn sc d 211 794 L (.int 2 :: st) σ r := r_iconst d211_793 (by decide)
theorem d211_794 : decode (mC 211) 794 = .ok (.iadd, 1) := by decide +kernel
theorem x211_794 {sc : aSc} {d : Nat} {r : aRes} {L : List Value} {st : List Value} {σ : aS} {x y : Int32} : Rn sc d 211 794 L (.int y :: .int x :: st) σ r ↔ Rn sc d 211 795 L (.int (x + y) :: st) σ r := r_iadd d211_794
theorem d211_795 : decode (mC 211) 795 = .ok (.iaload, 1) := by decide +kernel
theorem d211_796 : decode (mC 211) 796 = .ok (.invokevirtual 97, 3) := by decide +kernel
theorem x211_796 {sc : aSc} {d : Nat} {r : aRes} {L : List Value} {f : Nat → Nat → Int32} {g : Nat → Nat → Int64} {h1 h2 : Nat} {y0 : Int32} {y1 : Int32} {z0 : Int32} {o : Nat} (hK : KK[o]? = some (.inl 7)) : Rn sc d 211 796 L [.int y0, .int y1, .ref o, .int z0] (cS f g h1 h2) r ↔ ∃ (σ3 : aS) (v : Option Value), Cl sc d 166 [.ref o, .int y1, .int y0] (cS f g h1 h2) (σ3, v) ∧ Rn sc d 211 799 L (v.toList ++ [.int z0]) σ3 r := r_callV (vs := [.int y0, .int y1]) d211_796 (j := 166) (by decide +kernel) ⟨rfl, by decide, rfl, rfl⟩ (Nat.le_of_ble_eq_true rfl) hK
theorem d211_799 : decode (mC 211) 799 = .ok (.if_icmp .eq 536, 3) := by decide +kernel
theorem x211_799 {sc : aSc} {d : Nat} {r : aRes} {L : List Value} {st : List Value} {σ : aS} {x y : Int32} : Rn sc d 211 799 L (.int y :: .int x :: st) σ r ↔ if x = y then Rn sc d 211 1335 L st σ r else Rn sc d 211 802 L st σ r := r_icmp_eq d211_799 rfl
theorem d211_802 : decode (mC 211) 802 = .ok (.iconst 0, 1) := by decide +kernel
theorem x211_802 {sc : aSc} {d : Nat} {r : aRes} {L : List Value} {st : List Value} {σ : aS} : Rn sc d 211 802 L st σ r ↔ Rn sc d 211 803 L (.int 0 :: st) σ r := r_iconst d211_802 (by decide)
theorem d211_803 : decode (mC 211) 803 = .ok (.ireturn, 1) := by decide +kernel
theorem d211_804 : decode (mC 211) 804 = .ok (.aload_n 1, 1) := by decide +kernel
theorem x211_804 {sc : aSc} {d : Nat} {r : aRes} {a0 : Value} {x1 : Nat} {a2 : Value} {a3 : Value} {st : List Value} {σ : aS} : Rn sc d 211 804 [a0, .ref x1, a2, a3] st σ r ↔ Rn sc d 211 805 [a0, .ref x1, a2, a3] (.ref x1 :: st) σ r := r_aload_n d211_804 rfl
theorem d211_805 : decode (mC 211) 805 = .ok (.aload_n 0, 1) := by decide +kernel
theorem x211_805 {sc : aSc} {d : Nat} {r : aRes} {x0 : Nat} {a1 : Value} {a2 : Value} {a3 : Value} {st : List Value} {σ : aS} : Rn sc d 211 805 [.ref x0, a1, a2, a3] st σ r ↔ Rn sc d 211 806 [.ref x0, a1, a2, a3] (.ref x0 :: st) σ r := r_aload_n d211_805 rfl
theorem d211_806 : decode (mC 211) 806 = .ok (.iload_n 3, 1) := by decide +kernel
theorem x211_806 {sc : aSc} {d : Nat} {r : aRes} {a0 : Value} {a1 : Value} {a2 : Value} {x3 : Int32} {st : List Value} {σ : aS} : Rn sc d 211 806 [a0, a1, a2, .int x3] st σ r ↔ Rn sc d 211 807 [a0, a1, a2, .int x3] (.int x3 :: st) σ r := r_iload_n d211_806 rfl
theorem d211_807 : decode (mC 211) 807 = .ok (.iconst 1, 1) := by decide +kernel
theorem x211_807 {sc : aSc} {d : Nat} {r : aRes} {L : List Value} {st : List Value} {σ : aS} : Rn sc d 211 807 L st σ r ↔ Rn sc d 211 808 L (.int 1 :: st) σ r := r_iconst d211_807 (by decide)
theorem d211_808 : decode (mC 211) 808 = .ok (.iadd, 1) := by decide +kernel
theorem x211_808 {sc : aSc} {d : Nat} {r : aRes} {L : List Value} {st : List Value} {σ : aS} {x y : Int32} : Rn sc d 211 808 L (.int y :: .int x :: st) σ r ↔ Rn sc d 211 809 L (.int (x + y) :: st) σ r := r_iadd d211_808
theorem d211_809 : decode (mC 211) 809 = .ok (.iaload, 1) := by decide +kernel
theorem d211_810 : decode (mC 211) 810 = .ok (.invokevirtual 98, 3) := by decide +kernel
theorem x211_810 {sc : aSc} {d : Nat} {r : aRes} {L : List Value} {f : Nat → Nat → Int32} {g : Nat → Nat → Int64} {h1 h2 : Nat} {y0 : Int32}  {o : Nat} (hK : KK[o]? = some (.inl 6)) : Rn sc d 211 810 L [.int y0, .ref o] (cS f g h1 h2) r ↔ ∃ (σ3 : aS) (v : Option Value), Cl sc d 86 [.ref o, .int y0] (cS f g h1 h2) (σ3, v) ∧ Rn sc d 211 813 L (v.toList ++ []) σ3 r := r_callV (vs := [.int y0]) d211_810 (j := 86) (by decide +kernel) ⟨rfl, by decide, rfl, rfl⟩ (Nat.le_of_ble_eq_true rfl) hK
theorem d211_813 : decode (mC 211) 813 = .ok (.aload_n 2, 1) := by decide +kernel
theorem x211_813 {sc : aSc} {d : Nat} {r : aRes} {a0 : Value} {a1 : Value} {x2 : Nat} {a3 : Value} {st : List Value} {σ : aS} : Rn sc d 211 813 [a0, a1, .ref x2, a3] st σ r ↔ Rn sc d 211 814 [a0, a1, .ref x2, a3] (.ref x2 :: st) σ r := r_aload_n d211_813 rfl
theorem d211_814 : decode (mC 211) 814 = .ok (.aload_n 0, 1) := by decide +kernel
theorem x211_814 {sc : aSc} {d : Nat} {r : aRes} {x0 : Nat} {a1 : Value} {a2 : Value} {a3 : Value} {st : List Value} {σ : aS} : Rn sc d 211 814 [.ref x0, a1, a2, a3] st σ r ↔ Rn sc d 211 815 [.ref x0, a1, a2, a3] (.ref x0 :: st) σ r := r_aload_n d211_814 rfl
theorem d211_815 : decode (mC 211) 815 = .ok (.iload_n 3, 1) := by decide +kernel
theorem x211_815 {sc : aSc} {d : Nat} {r : aRes} {a0 : Value} {a1 : Value} {a2 : Value} {x3 : Int32} {st : List Value} {σ : aS} : Rn sc d 211 815 [a0, a1, a2, .int x3] st σ r ↔ Rn sc d 211 816 [a0, a1, a2, .int x3] (.int x3 :: st) σ r := r_iload_n d211_815 rfl
theorem d211_816 : decode (mC 211) 816 = .ok (.iconst 1, 1) := by decide +kernel
theorem x211_816 {sc : aSc} {d : Nat} {r : aRes} {L : List Value} {st : List Value} {σ : aS} : Rn sc d 211 816 L st σ r ↔ Rn sc d 211 817 L (.int 1 :: st) σ r := r_iconst d211_816 (by decide)
theorem d211_817 : decode (mC 211) 817 = .ok (.iadd, 1) := by decide +kernel
theorem x211_817 {sc : aSc} {d : Nat} {r : aRes} {L : List Value} {st : List Value} {σ : aS} {x y : Int32} : Rn sc d 211 817 L (.int y :: .int x :: st) σ r ↔ Rn sc d 211 818 L (.int (x + y) :: st) σ r := r_iadd d211_817
theorem d211_818 : decode (mC 211) 818 = .ok (.iaload, 1) := by decide +kernel
theorem d211_819 : decode (mC 211) 819 = .ok (.invokevirtual 101, 3) := by decide +kernel
theorem x211_819 {sc : aSc} {d : Nat} {r : aRes} {L : List Value} {f : Nat → Nat → Int32} {g : Nat → Nat → Int64} {h1 h2 : Nat} {y0 : Int32} {z0 : Int32} {o : Nat} (hK : KK[o]? = some (.inl 7)) : Rn sc d 211 819 L [.int y0, .ref o, .int z0] (cS f g h1 h2) r ↔ ∃ (σ3 : aS) (v : Option Value), Cl sc d 167 [.ref o, .int y0] (cS f g h1 h2) (σ3, v) ∧ Rn sc d 211 822 L (v.toList ++ [.int z0]) σ3 r := r_callV (vs := [.int y0]) d211_819 (j := 167) (by decide +kernel) ⟨rfl, by decide, rfl, rfl⟩ (Nat.le_of_ble_eq_true rfl) hK
theorem d211_822 : decode (mC 211) 822 = .ok (.if_icmp .eq 513, 3) := by decide +kernel
theorem x211_822 {sc : aSc} {d : Nat} {r : aRes} {L : List Value} {st : List Value} {σ : aS} {x y : Int32} : Rn sc d 211 822 L (.int y :: .int x :: st) σ r ↔ if x = y then Rn sc d 211 1335 L st σ r else Rn sc d 211 825 L st σ r := r_icmp_eq d211_822 rfl
theorem d211_825 : decode (mC 211) 825 = .ok (.iconst 0, 1) := by decide +kernel
theorem x211_825 {sc : aSc} {d : Nat} {r : aRes} {L : List Value} {st : List Value} {σ : aS} : Rn sc d 211 825 L st σ r ↔ Rn sc d 211 826 L (.int 0 :: st) σ r := r_iconst d211_825 (by decide)
theorem d211_826 : decode (mC 211) 826 = .ok (.ireturn, 1) := by decide +kernel
theorem d211_827 : decode (mC 211) 827 = .ok (.aload_n 1, 1) := by decide +kernel
theorem x211_827 {sc : aSc} {d : Nat} {r : aRes} {a0 : Value} {x1 : Nat} {a2 : Value} {a3 : Value} {st : List Value} {σ : aS} : Rn sc d 211 827 [a0, .ref x1, a2, a3] st σ r ↔ Rn sc d 211 828 [a0, .ref x1, a2, a3] (.ref x1 :: st) σ r := r_aload_n d211_827 rfl
theorem d211_828 : decode (mC 211) 828 = .ok (.aload_n 0, 1) := by decide +kernel
theorem x211_828 {sc : aSc} {d : Nat} {r : aRes} {x0 : Nat} {a1 : Value} {a2 : Value} {a3 : Value} {st : List Value} {σ : aS} : Rn sc d 211 828 [.ref x0, a1, a2, a3] st σ r ↔ Rn sc d 211 829 [.ref x0, a1, a2, a3] (.ref x0 :: st) σ r := r_aload_n d211_828 rfl
theorem d211_829 : decode (mC 211) 829 = .ok (.iload_n 3, 1) := by decide +kernel
theorem x211_829 {sc : aSc} {d : Nat} {r : aRes} {a0 : Value} {a1 : Value} {a2 : Value} {x3 : Int32} {st : List Value} {σ : aS} : Rn sc d 211 829 [a0, a1, a2, .int x3] st σ r ↔ Rn sc d 211 830 [a0, a1, a2, .int x3] (.int x3 :: st) σ r := r_iload_n d211_829 rfl
theorem d211_830 : decode (mC 211) 830 = .ok (.iconst 1, 1) := by decide +kernel
theorem x211_830 {sc : aSc} {d : Nat} {r : aRes} {L : List Value} {st : List Value} {σ : aS} : Rn sc d 211 830 L st σ r ↔ Rn sc d 211 831 L (.int 1 :: st) σ r := r_iconst d211_830 (by decide)
theorem d211_831 : decode (mC 211) 831 = .ok (.iadd, 1) := by decide +kernel
theorem x211_831 {sc : aSc} {d : Nat} {r : aRes} {L : List Value} {st : List Value} {σ : aS} {x y : Int32} : Rn sc d 211 831 L (.int y :: .int x :: st) σ r ↔ Rn sc d 211 832 L (.int (x + y) :: st) σ r := r_iadd d211_831
theorem d211_832 : decode (mC 211) 832 = .ok (.iaload, 1) := by decide +kernel
theorem d211_833 : decode (mC 211) 833 = .ok (.aload_n 0, 1) := by decide +kernel
theorem x211_833 {sc : aSc} {d : Nat} {r : aRes} {x0 : Nat} {a1 : Value} {a2 : Value} {a3 : Value} {st : List Value} {σ : aS} : Rn sc d 211 833 [.ref x0, a1, a2, a3] st σ r ↔ Rn sc d 211 834 [.ref x0, a1, a2, a3] (.ref x0 :: st) σ r := r_aload_n d211_833 rfl
theorem d211_834 : decode (mC 211) 834 = .ok (.iload_n 3, 1) := by decide +kernel
theorem x211_834 {sc : aSc} {d : Nat} {r : aRes} {a0 : Value} {a1 : Value} {a2 : Value} {x3 : Int32} {st : List Value} {σ : aS} : Rn sc d 211 834 [a0, a1, a2, .int x3] st σ r ↔ Rn sc d 211 835 [a0, a1, a2, .int x3] (.int x3 :: st) σ r := r_iload_n d211_834 rfl
theorem d211_835 : decode (mC 211) 835 = .ok (.iconst 2, 1) := by decide +kernel
theorem x211_835 {sc : aSc} {d : Nat} {r : aRes} {L : List Value} {st : List Value} {σ : aS} : Rn sc d 211 835 L st σ r ↔ Rn sc d 211 836 L (.int 2 :: st) σ r := r_iconst d211_835 (by decide)
theorem d211_836 : decode (mC 211) 836 = .ok (.iadd, 1) := by decide +kernel
theorem x211_836 {sc : aSc} {d : Nat} {r : aRes} {L : List Value} {st : List Value} {σ : aS} {x y : Int32} : Rn sc d 211 836 L (.int y :: .int x :: st) σ r ↔ Rn sc d 211 837 L (.int (x + y) :: st) σ r := r_iadd d211_836
theorem d211_837 : decode (mC 211) 837 = .ok (.iaload, 1) := by decide +kernel
theorem d211_838 : decode (mC 211) 838 = .ok (.aload_n 0, 1) := by decide +kernel
theorem x211_838 {sc : aSc} {d : Nat} {r : aRes} {x0 : Nat} {a1 : Value} {a2 : Value} {a3 : Value} {st : List Value} {σ : aS} : Rn sc d 211 838 [.ref x0, a1, a2, a3] st σ r ↔ Rn sc d 211 839 [.ref x0, a1, a2, a3] (.ref x0 :: st) σ r := r_aload_n d211_838 rfl
theorem d211_839 : decode (mC 211) 839 = .ok (.iload_n 3, 1) := by decide +kernel
theorem x211_839 {sc : aSc} {d : Nat} {r : aRes} {a0 : Value} {a1 : Value} {a2 : Value} {x3 : Int32} {st : List Value} {σ : aS} : Rn sc d 211 839 [a0, a1, a2, .int x3] st σ r ↔ Rn sc d 211 840 [a0, a1, a2, .int x3] (.int x3 :: st) σ r := r_iload_n d211_839 rfl
theorem d211_840 : decode (mC 211) 840 = .ok (.iconst 3, 1) := by decide +kernel
theorem x211_840 {sc : aSc} {d : Nat} {r : aRes} {L : List Value} {st : List Value} {σ : aS} : Rn sc d 211 840 L st σ r ↔ Rn sc d 211 841 L (.int 3 :: st) σ r := r_iconst d211_840 (by decide)
theorem d211_841 : decode (mC 211) 841 = .ok (.iadd, 1) := by decide +kernel
theorem x211_841 {sc : aSc} {d : Nat} {r : aRes} {L : List Value} {st : List Value} {σ : aS} {x y : Int32} : Rn sc d 211 841 L (.int y :: .int x :: st) σ r ↔ Rn sc d 211 842 L (.int (x + y) :: st) σ r := r_iadd d211_841
theorem d211_842 : decode (mC 211) 842 = .ok (.iaload, 1) := by decide +kernel
theorem d211_843 : decode (mC 211) 843 = .ok (.invokevirtual 102, 3) := by decide +kernel
theorem x211_843 {sc : aSc} {d : Nat} {r : aRes} {L : List Value} {f : Nat → Nat → Int32} {g : Nat → Nat → Int64} {h1 h2 : Nat} {y0 : Int32} {y1 : Int32} {y2 : Int32}  {o : Nat} (hK : KK[o]? = some (.inl 6)) : Rn sc d 211 843 L [.int y0, .int y1, .int y2, .ref o] (cS f g h1 h2) r ↔ ∃ (σ3 : aS) (v : Option Value), Cl sc d 87 [.ref o, .int y2, .int y1, .int y0] (cS f g h1 h2) (σ3, v) ∧ Rn sc d 211 846 L (v.toList ++ []) σ3 r := r_callV (vs := [.int y0, .int y1, .int y2]) d211_843 (j := 87) (by decide +kernel) ⟨rfl, by decide, rfl, rfl⟩ (Nat.le_of_ble_eq_true rfl) hK
theorem d211_846 : decode (mC 211) 846 = .ok (.aload_n 2, 1) := by decide +kernel
theorem x211_846 {sc : aSc} {d : Nat} {r : aRes} {a0 : Value} {a1 : Value} {x2 : Nat} {a3 : Value} {st : List Value} {σ : aS} : Rn sc d 211 846 [a0, a1, .ref x2, a3] st σ r ↔ Rn sc d 211 847 [a0, a1, .ref x2, a3] (.ref x2 :: st) σ r := r_aload_n d211_846 rfl
theorem d211_847 : decode (mC 211) 847 = .ok (.aload_n 0, 1) := by decide +kernel
theorem x211_847 {sc : aSc} {d : Nat} {r : aRes} {x0 : Nat} {a1 : Value} {a2 : Value} {a3 : Value} {st : List Value} {σ : aS} : Rn sc d 211 847 [.ref x0, a1, a2, a3] st σ r ↔ Rn sc d 211 848 [.ref x0, a1, a2, a3] (.ref x0 :: st) σ r := r_aload_n d211_847 rfl
theorem d211_848 : decode (mC 211) 848 = .ok (.iload_n 3, 1) := by decide +kernel
theorem x211_848 {sc : aSc} {d : Nat} {r : aRes} {a0 : Value} {a1 : Value} {a2 : Value} {x3 : Int32} {st : List Value} {σ : aS} : Rn sc d 211 848 [a0, a1, a2, .int x3] st σ r ↔ Rn sc d 211 849 [a0, a1, a2, .int x3] (.int x3 :: st) σ r := r_iload_n d211_848 rfl
theorem d211_849 : decode (mC 211) 849 = .ok (.iconst 1, 1) := by decide +kernel
theorem x211_849 {sc : aSc} {d : Nat} {r : aRes} {L : List Value} {st : List Value} {σ : aS} : Rn sc d 211 849 L st σ r ↔ Rn sc d 211 850 L (.int 1 :: st) σ r := r_iconst d211_849 (by decide)
theorem d211_850 : decode (mC 211) 850 = .ok (.iadd, 1) := by decide +kernel
theorem x211_850 {sc : aSc} {d : Nat} {r : aRes} {L : List Value} {st : List Value} {σ : aS} {x y : Int32} : Rn sc d 211 850 L (.int y :: .int x :: st) σ r ↔ Rn sc d 211 851 L (.int (x + y) :: st) σ r := r_iadd d211_850
theorem d211_851 : decode (mC 211) 851 = .ok (.iaload, 1) := by decide +kernel
theorem d211_852 : decode (mC 211) 852 = .ok (.aload_n 0, 1) := by decide +kernel
theorem x211_852 {sc : aSc} {d : Nat} {r : aRes} {x0 : Nat} {a1 : Value} {a2 : Value} {a3 : Value} {st : List Value} {σ : aS} : Rn sc d 211 852 [.ref x0, a1, a2, a3] st σ r ↔ Rn sc d 211 853 [.ref x0, a1, a2, a3] (.ref x0 :: st) σ r := r_aload_n d211_852 rfl
theorem d211_853 : decode (mC 211) 853 = .ok (.iload_n 3, 1) := by decide +kernel
theorem x211_853 {sc : aSc} {d : Nat} {r : aRes} {a0 : Value} {a1 : Value} {a2 : Value} {x3 : Int32} {st : List Value} {σ : aS} : Rn sc d 211 853 [a0, a1, a2, .int x3] st σ r ↔ Rn sc d 211 854 [a0, a1, a2, .int x3] (.int x3 :: st) σ r := r_iload_n d211_853 rfl
theorem d211_854 : decode (mC 211) 854 = .ok (.iconst 2, 1) := by decide +kernel
theorem x211_854 {sc : aSc} {d : Nat} {r : aRes} {L : List Value} {st : List Value} {σ : aS} : Rn sc d 211 854 L st σ r ↔ Rn sc d 211 855 L (.int 2 :: st) σ r := r_iconst d211_854 (by decide)
theorem d211_855 : decode (mC 211) 855 = .ok (.iadd, 1) := by decide +kernel
theorem x211_855 {sc : aSc} {d : Nat} {r : aRes} {L : List Value} {st : List Value} {σ : aS} {x y : Int32} : Rn sc d 211 855 L (.int y :: .int x :: st) σ r ↔ Rn sc d 211 856 L (.int (x + y) :: st) σ r := r_iadd d211_855
theorem d211_856 : decode (mC 211) 856 = .ok (.iaload, 1) := by decide +kernel
theorem d211_857 : decode (mC 211) 857 = .ok (.aload_n 0, 1) := by decide +kernel
theorem x211_857 {sc : aSc} {d : Nat} {r : aRes} {x0 : Nat} {a1 : Value} {a2 : Value} {a3 : Value} {st : List Value} {σ : aS} : Rn sc d 211 857 [.ref x0, a1, a2, a3] st σ r ↔ Rn sc d 211 858 [.ref x0, a1, a2, a3] (.ref x0 :: st) σ r := r_aload_n d211_857 rfl
theorem d211_858 : decode (mC 211) 858 = .ok (.iload_n 3, 1) := by decide +kernel
theorem x211_858 {sc : aSc} {d : Nat} {r : aRes} {a0 : Value} {a1 : Value} {a2 : Value} {x3 : Int32} {st : List Value} {σ : aS} : Rn sc d 211 858 [a0, a1, a2, .int x3] st σ r ↔ Rn sc d 211 859 [a0, a1, a2, .int x3] (.int x3 :: st) σ r := r_iload_n d211_858 rfl
theorem d211_859 : decode (mC 211) 859 = .ok (.iconst 3, 1) := by decide +kernel
theorem x211_859 {sc : aSc} {d : Nat} {r : aRes} {L : List Value} {st : List Value} {σ : aS} : Rn sc d 211 859 L st σ r ↔ Rn sc d 211 860 L (.int 3 :: st) σ r := r_iconst d211_859 (by decide)
theorem d211_860 : decode (mC 211) 860 = .ok (.iadd, 1) := by decide +kernel
theorem x211_860 {sc : aSc} {d : Nat} {r : aRes} {L : List Value} {st : List Value} {σ : aS} {x y : Int32} : Rn sc d 211 860 L (.int y :: .int x :: st) σ r ↔ Rn sc d 211 861 L (.int (x + y) :: st) σ r := r_iadd d211_860
theorem d211_861 : decode (mC 211) 861 = .ok (.iaload, 1) := by decide +kernel
theorem d211_862 : decode (mC 211) 862 = .ok (.invokevirtual 106, 3) := by decide +kernel
theorem x211_862 {sc : aSc} {d : Nat} {r : aRes} {L : List Value} {f : Nat → Nat → Int32} {g : Nat → Nat → Int64} {h1 h2 : Nat} {y0 : Int32} {y1 : Int32} {y2 : Int32} {z0 : Int64} {o : Nat} (hK : KK[o]? = some (.inl 7)) : Rn sc d 211 862 L [.int y0, .int y1, .int y2, .ref o, .long z0] (cS f g h1 h2) r ↔ ∃ (σ3 : aS) (v : Option Value), Cl sc d 170 [.ref o, .int y2, .int y1, .int y0] (cS f g h1 h2) (σ3, v) ∧ Rn sc d 211 865 L (v.toList ++ [.long z0]) σ3 r := r_callV (vs := [.int y0, .int y1, .int y2]) d211_862 (j := 170) (by decide +kernel) ⟨rfl, by decide, rfl, rfl⟩ (Nat.le_of_ble_eq_true rfl) hK
theorem d211_865 : decode (mC 211) 865 = .ok (.lcmp, 1) := by decide +kernel
theorem x211_865 {sc : aSc} {d : Nat} {r : aRes} {L : List Value} {st : List Value} {σ : aS} {x y : Int64} : Rn sc d 211 865 L (.long y :: .long x :: st) σ r ↔ Rn sc d 211 866 L (.int (lg_cmp x y) :: st) σ r := r_lcmp d211_865
theorem d211_866 : decode (mC 211) 866 = .ok (.ifCond .eq 469, 3) := by decide +kernel
theorem x211_866 {sc : aSc} {d : Nat} {r : aRes} {L : List Value} {st : List Value} {σ : aS} {x : Int32} : Rn sc d 211 866 L (.int x :: st) σ r ↔ if x = 0 then Rn sc d 211 1335 L st σ r else Rn sc d 211 869 L st σ r := r_if_eq d211_866 rfl
theorem d211_869 : decode (mC 211) 869 = .ok (.iconst 0, 1) := by decide +kernel
theorem x211_869 {sc : aSc} {d : Nat} {r : aRes} {L : List Value} {st : List Value} {σ : aS} : Rn sc d 211 869 L st σ r ↔ Rn sc d 211 870 L (.int 0 :: st) σ r := r_iconst d211_869 (by decide)
theorem d211_870 : decode (mC 211) 870 = .ok (.ireturn, 1) := by decide +kernel
theorem d211_871 : decode (mC 211) 871 = .ok (.aload_n 1, 1) := by decide +kernel
theorem x211_871 {sc : aSc} {d : Nat} {r : aRes} {a0 : Value} {x1 : Nat} {a2 : Value} {a3 : Value} {st : List Value} {σ : aS} : Rn sc d 211 871 [a0, .ref x1, a2, a3] st σ r ↔ Rn sc d 211 872 [a0, .ref x1, a2, a3] (.ref x1 :: st) σ r := r_aload_n d211_871 rfl
theorem d211_872 : decode (mC 211) 872 = .ok (.aload_n 0, 1) := by decide +kernel
theorem x211_872 {sc : aSc} {d : Nat} {r : aRes} {x0 : Nat} {a1 : Value} {a2 : Value} {a3 : Value} {st : List Value} {σ : aS} : Rn sc d 211 872 [.ref x0, a1, a2, a3] st σ r ↔ Rn sc d 211 873 [.ref x0, a1, a2, a3] (.ref x0 :: st) σ r := r_aload_n d211_872 rfl
theorem d211_873 : decode (mC 211) 873 = .ok (.iload_n 3, 1) := by decide +kernel
theorem x211_873 {sc : aSc} {d : Nat} {r : aRes} {a0 : Value} {a1 : Value} {a2 : Value} {x3 : Int32} {st : List Value} {σ : aS} : Rn sc d 211 873 [a0, a1, a2, .int x3] st σ r ↔ Rn sc d 211 874 [a0, a1, a2, .int x3] (.int x3 :: st) σ r := r_iload_n d211_873 rfl
theorem d211_874 : decode (mC 211) 874 = .ok (.iconst 1, 1) := by decide +kernel
theorem x211_874 {sc : aSc} {d : Nat} {r : aRes} {L : List Value} {st : List Value} {σ : aS} : Rn sc d 211 874 L st σ r ↔ Rn sc d 211 875 L (.int 1 :: st) σ r := r_iconst d211_874 (by decide)
theorem d211_875 : decode (mC 211) 875 = .ok (.iadd, 1) := by decide +kernel
theorem x211_875 {sc : aSc} {d : Nat} {r : aRes} {L : List Value} {st : List Value} {σ : aS} {x y : Int32} : Rn sc d 211 875 L (.int y :: .int x :: st) σ r ↔ Rn sc d 211 876 L (.int (x + y) :: st) σ r := r_iadd d211_875
theorem d211_876 : decode (mC 211) 876 = .ok (.iaload, 1) := by decide +kernel
theorem d211_877 : decode (mC 211) 877 = .ok (.invokevirtual 107, 3) := by decide +kernel
theorem x211_877 {sc : aSc} {d : Nat} {r : aRes} {L : List Value} {f : Nat → Nat → Int32} {g : Nat → Nat → Int64} {h1 h2 : Nat} {y0 : Int32}  {o : Nat} (hK : KK[o]? = some (.inl 6)) : Rn sc d 211 877 L [.int y0, .ref o] (cS f g h1 h2) r ↔ ∃ (σ3 : aS) (v : Option Value), Cl sc d 88 [.ref o, .int y0] (cS f g h1 h2) (σ3, v) ∧ Rn sc d 211 880 L (v.toList ++ []) σ3 r := r_callV (vs := [.int y0]) d211_877 (j := 88) (by decide +kernel) ⟨rfl, by decide, rfl, rfl⟩ (Nat.le_of_ble_eq_true rfl) hK
theorem d211_880 : decode (mC 211) 880 = .ok (.aload_n 2, 1) := by decide +kernel
theorem x211_880 {sc : aSc} {d : Nat} {r : aRes} {a0 : Value} {a1 : Value} {x2 : Nat} {a3 : Value} {st : List Value} {σ : aS} : Rn sc d 211 880 [a0, a1, .ref x2, a3] st σ r ↔ Rn sc d 211 881 [a0, a1, .ref x2, a3] (.ref x2 :: st) σ r := r_aload_n d211_880 rfl
theorem d211_881 : decode (mC 211) 881 = .ok (.aload_n 0, 1) := by decide +kernel
theorem x211_881 {sc : aSc} {d : Nat} {r : aRes} {x0 : Nat} {a1 : Value} {a2 : Value} {a3 : Value} {st : List Value} {σ : aS} : Rn sc d 211 881 [.ref x0, a1, a2, a3] st σ r ↔ Rn sc d 211 882 [.ref x0, a1, a2, a3] (.ref x0 :: st) σ r := r_aload_n d211_881 rfl
theorem d211_882 : decode (mC 211) 882 = .ok (.iload_n 3, 1) := by decide +kernel
theorem x211_882 {sc : aSc} {d : Nat} {r : aRes} {a0 : Value} {a1 : Value} {a2 : Value} {x3 : Int32} {st : List Value} {σ : aS} : Rn sc d 211 882 [a0, a1, a2, .int x3] st σ r ↔ Rn sc d 211 883 [a0, a1, a2, .int x3] (.int x3 :: st) σ r := r_iload_n d211_882 rfl
theorem d211_883 : decode (mC 211) 883 = .ok (.iconst 1, 1) := by decide +kernel
theorem x211_883 {sc : aSc} {d : Nat} {r : aRes} {L : List Value} {st : List Value} {σ : aS} : Rn sc d 211 883 L st σ r ↔ Rn sc d 211 884 L (.int 1 :: st) σ r := r_iconst d211_883 (by decide)
theorem d211_884 : decode (mC 211) 884 = .ok (.iadd, 1) := by decide +kernel
theorem x211_884 {sc : aSc} {d : Nat} {r : aRes} {L : List Value} {st : List Value} {σ : aS} {x y : Int32} : Rn sc d 211 884 L (.int y :: .int x :: st) σ r ↔ Rn sc d 211 885 L (.int (x + y) :: st) σ r := r_iadd d211_884
theorem d211_885 : decode (mC 211) 885 = .ok (.iaload, 1) := by decide +kernel
theorem d211_886 : decode (mC 211) 886 = .ok (.invokevirtual 111, 3) := by decide +kernel
theorem x211_886 {sc : aSc} {d : Nat} {r : aRes} {L : List Value} {f : Nat → Nat → Int32} {g : Nat → Nat → Int64} {h1 h2 : Nat} {y0 : Int32} {z0 : Int64} {o : Nat} (hK : KK[o]? = some (.inl 7)) : Rn sc d 211 886 L [.int y0, .ref o, .long z0] (cS f g h1 h2) r ↔ ∃ (σ3 : aS) (v : Option Value), Cl sc d 171 [.ref o, .int y0] (cS f g h1 h2) (σ3, v) ∧ Rn sc d 211 889 L (v.toList ++ [.long z0]) σ3 r := r_callV (vs := [.int y0]) d211_886 (j := 171) (by decide +kernel) ⟨rfl, by decide, rfl, rfl⟩ (Nat.le_of_ble_eq_true rfl) hK
theorem d211_889 : decode (mC 211) 889 = .ok (.lcmp, 1) := by decide +kernel
theorem x211_889 {sc : aSc} {d : Nat} {r : aRes} {L : List Value} {st : List Value} {σ : aS} {x y : Int64} : Rn sc d 211 889 L (.long y :: .long x :: st) σ r ↔ Rn sc d 211 890 L (.int (lg_cmp x y) :: st) σ r := r_lcmp d211_889
theorem d211_890 : decode (mC 211) 890 = .ok (.ifCond .eq 445, 3) := by decide +kernel
theorem x211_890 {sc : aSc} {d : Nat} {r : aRes} {L : List Value} {st : List Value} {σ : aS} {x : Int32} : Rn sc d 211 890 L (.int x :: st) σ r ↔ if x = 0 then Rn sc d 211 1335 L st σ r else Rn sc d 211 893 L st σ r := r_if_eq d211_890 rfl
theorem d211_893 : decode (mC 211) 893 = .ok (.iconst 0, 1) := by decide +kernel
theorem x211_893 {sc : aSc} {d : Nat} {r : aRes} {L : List Value} {st : List Value} {σ : aS} : Rn sc d 211 893 L st σ r ↔ Rn sc d 211 894 L (.int 0 :: st) σ r := r_iconst d211_893 (by decide)
theorem d211_894 : decode (mC 211) 894 = .ok (.ireturn, 1) := by decide +kernel
theorem d211_895 : decode (mC 211) 895 = .ok (.aload_n 1, 1) := by decide +kernel
theorem x211_895 {sc : aSc} {d : Nat} {r : aRes} {a0 : Value} {x1 : Nat} {a2 : Value} {a3 : Value} {st : List Value} {σ : aS} : Rn sc d 211 895 [a0, .ref x1, a2, a3] st σ r ↔ Rn sc d 211 896 [a0, .ref x1, a2, a3] (.ref x1 :: st) σ r := r_aload_n d211_895 rfl
theorem d211_896 : decode (mC 211) 896 = .ok (.aload_n 0, 1) := by decide +kernel
theorem x211_896 {sc : aSc} {d : Nat} {r : aRes} {x0 : Nat} {a1 : Value} {a2 : Value} {a3 : Value} {st : List Value} {σ : aS} : Rn sc d 211 896 [.ref x0, a1, a2, a3] st σ r ↔ Rn sc d 211 897 [.ref x0, a1, a2, a3] (.ref x0 :: st) σ r := r_aload_n d211_896 rfl
theorem d211_897 : decode (mC 211) 897 = .ok (.iload_n 3, 1) := by decide +kernel
theorem x211_897 {sc : aSc} {d : Nat} {r : aRes} {a0 : Value} {a1 : Value} {a2 : Value} {x3 : Int32} {st : List Value} {σ : aS} : Rn sc d 211 897 [a0, a1, a2, .int x3] st σ r ↔ Rn sc d 211 898 [a0, a1, a2, .int x3] (.int x3 :: st) σ r := r_iload_n d211_897 rfl
theorem d211_898 : decode (mC 211) 898 = .ok (.iconst 1, 1) := by decide +kernel
theorem x211_898 {sc : aSc} {d : Nat} {r : aRes} {L : List Value} {st : List Value} {σ : aS} : Rn sc d 211 898 L st σ r ↔ Rn sc d 211 899 L (.int 1 :: st) σ r := r_iconst d211_898 (by decide)
theorem d211_899 : decode (mC 211) 899 = .ok (.iadd, 1) := by decide +kernel
theorem x211_899 {sc : aSc} {d : Nat} {r : aRes} {L : List Value} {st : List Value} {σ : aS} {x y : Int32} : Rn sc d 211 899 L (.int y :: .int x :: st) σ r ↔ Rn sc d 211 900 L (.int (x + y) :: st) σ r := r_iadd d211_899
theorem d211_900 : decode (mC 211) 900 = .ok (.iaload, 1) := by decide +kernel
theorem d211_901 : decode (mC 211) 901 = .ok (.aload_n 0, 1) := by decide +kernel
theorem x211_901 {sc : aSc} {d : Nat} {r : aRes} {x0 : Nat} {a1 : Value} {a2 : Value} {a3 : Value} {st : List Value} {σ : aS} : Rn sc d 211 901 [.ref x0, a1, a2, a3] st σ r ↔ Rn sc d 211 902 [.ref x0, a1, a2, a3] (.ref x0 :: st) σ r := r_aload_n d211_901 rfl
theorem d211_902 : decode (mC 211) 902 = .ok (.iload_n 3, 1) := by decide +kernel
theorem x211_902 {sc : aSc} {d : Nat} {r : aRes} {a0 : Value} {a1 : Value} {a2 : Value} {x3 : Int32} {st : List Value} {σ : aS} : Rn sc d 211 902 [a0, a1, a2, .int x3] st σ r ↔ Rn sc d 211 903 [a0, a1, a2, .int x3] (.int x3 :: st) σ r := r_iload_n d211_902 rfl
theorem d211_903 : decode (mC 211) 903 = .ok (.iconst 2, 1) := by decide +kernel
theorem x211_903 {sc : aSc} {d : Nat} {r : aRes} {L : List Value} {st : List Value} {σ : aS} : Rn sc d 211 903 L st σ r ↔ Rn sc d 211 904 L (.int 2 :: st) σ r := r_iconst d211_903 (by decide)
theorem d211_904 : decode (mC 211) 904 = .ok (.iadd, 1) := by decide +kernel
theorem x211_904 {sc : aSc} {d : Nat} {r : aRes} {L : List Value} {st : List Value} {σ : aS} {x y : Int32} : Rn sc d 211 904 L (.int y :: .int x :: st) σ r ↔ Rn sc d 211 905 L (.int (x + y) :: st) σ r := r_iadd d211_904
theorem d211_905 : decode (mC 211) 905 = .ok (.iaload, 1) := by decide +kernel
theorem d211_906 : decode (mC 211) 906 = .ok (.invokevirtual 112, 3) := by decide +kernel
theorem x211_906 {sc : aSc} {d : Nat} {r : aRes} {L : List Value} {f : Nat → Nat → Int32} {g : Nat → Nat → Int64} {h1 h2 : Nat} {y0 : Int32} {y1 : Int32}  {o : Nat} (hK : KK[o]? = some (.inl 6)) : Rn sc d 211 906 L [.int y0, .int y1, .ref o] (cS f g h1 h2) r ↔ ∃ (σ3 : aS) (v : Option Value), Cl sc d 89 [.ref o, .int y1, .int y0] (cS f g h1 h2) (σ3, v) ∧ Rn sc d 211 909 L (v.toList ++ []) σ3 r := r_callV (vs := [.int y0, .int y1]) d211_906 (j := 89) (by decide +kernel) ⟨rfl, by decide, rfl, rfl⟩ (Nat.le_of_ble_eq_true rfl) hK
theorem d211_909 : decode (mC 211) 909 = .ok (.aload_n 2, 1) := by decide +kernel
theorem x211_909 {sc : aSc} {d : Nat} {r : aRes} {a0 : Value} {a1 : Value} {x2 : Nat} {a3 : Value} {st : List Value} {σ : aS} : Rn sc d 211 909 [a0, a1, .ref x2, a3] st σ r ↔ Rn sc d 211 910 [a0, a1, .ref x2, a3] (.ref x2 :: st) σ r := r_aload_n d211_909 rfl
theorem d211_910 : decode (mC 211) 910 = .ok (.aload_n 0, 1) := by decide +kernel
theorem x211_910 {sc : aSc} {d : Nat} {r : aRes} {x0 : Nat} {a1 : Value} {a2 : Value} {a3 : Value} {st : List Value} {σ : aS} : Rn sc d 211 910 [.ref x0, a1, a2, a3] st σ r ↔ Rn sc d 211 911 [.ref x0, a1, a2, a3] (.ref x0 :: st) σ r := r_aload_n d211_910 rfl
theorem d211_911 : decode (mC 211) 911 = .ok (.iload_n 3, 1) := by decide +kernel
theorem x211_911 {sc : aSc} {d : Nat} {r : aRes} {a0 : Value} {a1 : Value} {a2 : Value} {x3 : Int32} {st : List Value} {σ : aS} : Rn sc d 211 911 [a0, a1, a2, .int x3] st σ r ↔ Rn sc d 211 912 [a0, a1, a2, .int x3] (.int x3 :: st) σ r := r_iload_n d211_911 rfl
theorem d211_912 : decode (mC 211) 912 = .ok (.iconst 1, 1) := by decide +kernel
theorem x211_912 {sc : aSc} {d : Nat} {r : aRes} {L : List Value} {st : List Value} {σ : aS} : Rn sc d 211 912 L st σ r ↔ Rn sc d 211 913 L (.int 1 :: st) σ r := r_iconst d211_912 (by decide)
theorem d211_913 : decode (mC 211) 913 = .ok (.iadd, 1) := by decide +kernel
theorem x211_913 {sc : aSc} {d : Nat} {r : aRes} {L : List Value} {st : List Value} {σ : aS} {x y : Int32} : Rn sc d 211 913 L (.int y :: .int x :: st) σ r ↔ Rn sc d 211 914 L (.int (x + y) :: st) σ r := r_iadd d211_913
theorem d211_914 : decode (mC 211) 914 = .ok (.iaload, 1) := by decide +kernel
theorem d211_915 : decode (mC 211) 915 = .ok (.aload_n 0, 1) := by decide +kernel
theorem x211_915 {sc : aSc} {d : Nat} {r : aRes} {x0 : Nat} {a1 : Value} {a2 : Value} {a3 : Value} {st : List Value} {σ : aS} : Rn sc d 211 915 [.ref x0, a1, a2, a3] st σ r ↔ Rn sc d 211 916 [.ref x0, a1, a2, a3] (.ref x0 :: st) σ r := r_aload_n d211_915 rfl
theorem d211_916 : decode (mC 211) 916 = .ok (.iload_n 3, 1) := by decide +kernel
theorem x211_916 {sc : aSc} {d : Nat} {r : aRes} {a0 : Value} {a1 : Value} {a2 : Value} {x3 : Int32} {st : List Value} {σ : aS} : Rn sc d 211 916 [a0, a1, a2, .int x3] st σ r ↔ Rn sc d 211 917 [a0, a1, a2, .int x3] (.int x3 :: st) σ r := r_iload_n d211_916 rfl
theorem d211_917 : decode (mC 211) 917 = .ok (.iconst 2, 1) := by decide +kernel
theorem x211_917 {sc : aSc} {d : Nat} {r : aRes} {L : List Value} {st : List Value} {σ : aS} : Rn sc d 211 917 L st σ r ↔ Rn sc d 211 918 L (.int 2 :: st) σ r := r_iconst d211_917 (by decide)
theorem d211_918 : decode (mC 211) 918 = .ok (.iadd, 1) := by decide +kernel
theorem x211_918 {sc : aSc} {d : Nat} {r : aRes} {L : List Value} {st : List Value} {σ : aS} {x y : Int32} : Rn sc d 211 918 L (.int y :: .int x :: st) σ r ↔ Rn sc d 211 919 L (.int (x + y) :: st) σ r := r_iadd d211_918
theorem d211_919 : decode (mC 211) 919 = .ok (.iaload, 1) := by decide +kernel
theorem d211_920 : decode (mC 211) 920 = .ok (.invokevirtual 115, 3) := by decide +kernel
theorem x211_920 {sc : aSc} {d : Nat} {r : aRes} {L : List Value} {f : Nat → Nat → Int32} {g : Nat → Nat → Int64} {h1 h2 : Nat} {y0 : Int32} {y1 : Int32} {z0 : Int32} {o : Nat} (hK : KK[o]? = some (.inl 7)) : Rn sc d 211 920 L [.int y0, .int y1, .ref o, .int z0] (cS f g h1 h2) r ↔ ∃ (σ3 : aS) (v : Option Value), Cl sc d 172 [.ref o, .int y1, .int y0] (cS f g h1 h2) (σ3, v) ∧ Rn sc d 211 923 L (v.toList ++ [.int z0]) σ3 r := r_callV (vs := [.int y0, .int y1]) d211_920 (j := 172) (by decide +kernel) ⟨rfl, by decide, rfl, rfl⟩ (Nat.le_of_ble_eq_true rfl) hK
theorem d211_923 : decode (mC 211) 923 = .ok (.if_icmp .eq 412, 3) := by decide +kernel
theorem x211_923 {sc : aSc} {d : Nat} {r : aRes} {L : List Value} {st : List Value} {σ : aS} {x y : Int32} : Rn sc d 211 923 L (.int y :: .int x :: st) σ r ↔ if x = y then Rn sc d 211 1335 L st σ r else Rn sc d 211 926 L st σ r := r_icmp_eq d211_923 rfl
theorem d211_926 : decode (mC 211) 926 = .ok (.iconst 0, 1) := by decide +kernel
theorem x211_926 {sc : aSc} {d : Nat} {r : aRes} {L : List Value} {st : List Value} {σ : aS} : Rn sc d 211 926 L st σ r ↔ Rn sc d 211 927 L (.int 0 :: st) σ r := r_iconst d211_926 (by decide)
theorem d211_927 : decode (mC 211) 927 = .ok (.ireturn, 1) := by decide +kernel
theorem d211_928 : decode (mC 211) 928 = .ok (.aload_n 1, 1) := by decide +kernel
theorem x211_928 {sc : aSc} {d : Nat} {r : aRes} {a0 : Value} {x1 : Nat} {a2 : Value} {a3 : Value} {st : List Value} {σ : aS} : Rn sc d 211 928 [a0, .ref x1, a2, a3] st σ r ↔ Rn sc d 211 929 [a0, .ref x1, a2, a3] (.ref x1 :: st) σ r := r_aload_n d211_928 rfl
theorem d211_929 : decode (mC 211) 929 = .ok (.invokevirtual 116, 3) := by decide +kernel
theorem x211_929 {sc : aSc} {d : Nat} {r : aRes} {L : List Value} {f : Nat → Nat → Int32} {g : Nat → Nat → Int64} {h1 h2 : Nat}   {o : Nat} (hK : KK[o]? = some (.inl 6)) : Rn sc d 211 929 L [.ref o] (cS f g h1 h2) r ↔ ∃ (σ3 : aS) (v : Option Value), Cl sc d 90 [.ref o] (cS f g h1 h2) (σ3, v) ∧ Rn sc d 211 932 L (v.toList ++ []) σ3 r := r_callV (vs := []) d211_929 (j := 90) (by decide +kernel) ⟨rfl, by decide, rfl, rfl⟩ (Nat.le_of_ble_eq_true rfl) hK
theorem d211_932 : decode (mC 211) 932 = .ok (.aload_n 2, 1) := by decide +kernel
theorem x211_932 {sc : aSc} {d : Nat} {r : aRes} {a0 : Value} {a1 : Value} {x2 : Nat} {a3 : Value} {st : List Value} {σ : aS} : Rn sc d 211 932 [a0, a1, .ref x2, a3] st σ r ↔ Rn sc d 211 933 [a0, a1, .ref x2, a3] (.ref x2 :: st) σ r := r_aload_n d211_932 rfl
theorem d211_933 : decode (mC 211) 933 = .ok (.invokevirtual 119, 3) := by decide +kernel
theorem x211_933 {sc : aSc} {d : Nat} {r : aRes} {L : List Value} {f : Nat → Nat → Int32} {g : Nat → Nat → Int64} {h1 h2 : Nat}  {z0 : Int32} {o : Nat} (hK : KK[o]? = some (.inl 7)) : Rn sc d 211 933 L [.ref o, .int z0] (cS f g h1 h2) r ↔ ∃ (σ3 : aS) (v : Option Value), Cl sc d 173 [.ref o] (cS f g h1 h2) (σ3, v) ∧ Rn sc d 211 936 L (v.toList ++ [.int z0]) σ3 r := r_callV (vs := []) d211_933 (j := 173) (by decide +kernel) ⟨rfl, by decide, rfl, rfl⟩ (Nat.le_of_ble_eq_true rfl) hK
theorem d211_936 : decode (mC 211) 936 = .ok (.if_icmp .eq 399, 3) := by decide +kernel
theorem x211_936 {sc : aSc} {d : Nat} {r : aRes} {L : List Value} {st : List Value} {σ : aS} {x y : Int32} : Rn sc d 211 936 L (.int y :: .int x :: st) σ r ↔ if x = y then Rn sc d 211 1335 L st σ r else Rn sc d 211 939 L st σ r := r_icmp_eq d211_936 rfl
theorem d211_939 : decode (mC 211) 939 = .ok (.iconst 0, 1) := by decide +kernel
theorem x211_939 {sc : aSc} {d : Nat} {r : aRes} {L : List Value} {st : List Value} {σ : aS} : Rn sc d 211 939 L st σ r ↔ Rn sc d 211 940 L (.int 0 :: st) σ r := r_iconst d211_939 (by decide)
theorem d211_940 : decode (mC 211) 940 = .ok (.ireturn, 1) := by decide +kernel
theorem d211_941 : decode (mC 211) 941 = .ok (.aload_n 1, 1) := by decide +kernel
theorem x211_941 {sc : aSc} {d : Nat} {r : aRes} {a0 : Value} {x1 : Nat} {a2 : Value} {a3 : Value} {st : List Value} {σ : aS} : Rn sc d 211 941 [a0, .ref x1, a2, a3] st σ r ↔ Rn sc d 211 942 [a0, .ref x1, a2, a3] (.ref x1 :: st) σ r := r_aload_n d211_941 rfl
theorem d211_942 : decode (mC 211) 942 = .ok (.aload_n 0, 1) := by decide +kernel
theorem x211_942 {sc : aSc} {d : Nat} {r : aRes} {x0 : Nat} {a1 : Value} {a2 : Value} {a3 : Value} {st : List Value} {σ : aS} : Rn sc d 211 942 [.ref x0, a1, a2, a3] st σ r ↔ Rn sc d 211 943 [.ref x0, a1, a2, a3] (.ref x0 :: st) σ r := r_aload_n d211_942 rfl
theorem d211_943 : decode (mC 211) 943 = .ok (.iload_n 3, 1) := by decide +kernel
theorem x211_943 {sc : aSc} {d : Nat} {r : aRes} {a0 : Value} {a1 : Value} {a2 : Value} {x3 : Int32} {st : List Value} {σ : aS} : Rn sc d 211 943 [a0, a1, a2, .int x3] st σ r ↔ Rn sc d 211 944 [a0, a1, a2, .int x3] (.int x3 :: st) σ r := r_iload_n d211_943 rfl
theorem d211_944 : decode (mC 211) 944 = .ok (.iconst 1, 1) := by decide +kernel
theorem x211_944 {sc : aSc} {d : Nat} {r : aRes} {L : List Value} {st : List Value} {σ : aS} : Rn sc d 211 944 L st σ r ↔ Rn sc d 211 945 L (.int 1 :: st) σ r := r_iconst d211_944 (by decide)
theorem d211_945 : decode (mC 211) 945 = .ok (.iadd, 1) := by decide +kernel
theorem x211_945 {sc : aSc} {d : Nat} {r : aRes} {L : List Value} {st : List Value} {σ : aS} {x y : Int32} : Rn sc d 211 945 L (.int y :: .int x :: st) σ r ↔ Rn sc d 211 946 L (.int (x + y) :: st) σ r := r_iadd d211_945
theorem d211_946 : decode (mC 211) 946 = .ok (.iaload, 1) := by decide +kernel
theorem d211_947 : decode (mC 211) 947 = .ok (.aload_n 0, 1) := by decide +kernel
theorem x211_947 {sc : aSc} {d : Nat} {r : aRes} {x0 : Nat} {a1 : Value} {a2 : Value} {a3 : Value} {st : List Value} {σ : aS} : Rn sc d 211 947 [.ref x0, a1, a2, a3] st σ r ↔ Rn sc d 211 948 [.ref x0, a1, a2, a3] (.ref x0 :: st) σ r := r_aload_n d211_947 rfl
theorem d211_948 : decode (mC 211) 948 = .ok (.iload_n 3, 1) := by decide +kernel
theorem x211_948 {sc : aSc} {d : Nat} {r : aRes} {a0 : Value} {a1 : Value} {a2 : Value} {x3 : Int32} {st : List Value} {σ : aS} : Rn sc d 211 948 [a0, a1, a2, .int x3] st σ r ↔ Rn sc d 211 949 [a0, a1, a2, .int x3] (.int x3 :: st) σ r := r_iload_n d211_948 rfl
theorem d211_949 : decode (mC 211) 949 = .ok (.iconst 2, 1) := by decide +kernel
theorem x211_949 {sc : aSc} {d : Nat} {r : aRes} {L : List Value} {st : List Value} {σ : aS} : Rn sc d 211 949 L st σ r ↔ Rn sc d 211 950 L (.int 2 :: st) σ r := r_iconst d211_949 (by decide)
theorem d211_950 : decode (mC 211) 950 = .ok (.iadd, 1) := by decide +kernel
theorem x211_950 {sc : aSc} {d : Nat} {r : aRes} {L : List Value} {st : List Value} {σ : aS} {x y : Int32} : Rn sc d 211 950 L (.int y :: .int x :: st) σ r ↔ Rn sc d 211 951 L (.int (x + y) :: st) σ r := r_iadd d211_950
theorem d211_951 : decode (mC 211) 951 = .ok (.iaload, 1) := by decide +kernel
theorem d211_952 : decode (mC 211) 952 = .ok (.invokevirtual 120, 3) := by decide +kernel
theorem x211_952 {sc : aSc} {d : Nat} {r : aRes} {L : List Value} {f : Nat → Nat → Int32} {g : Nat → Nat → Int64} {h1 h2 : Nat} {y0 : Int32} {y1 : Int32}  {o : Nat} (hK : KK[o]? = some (.inl 6)) : Rn sc d 211 952 L [.int y0, .int y1, .ref o] (cS f g h1 h2) r ↔ ∃ (σ3 : aS) (v : Option Value), Cl sc d 91 [.ref o, .int y1, .int y0] (cS f g h1 h2) (σ3, v) ∧ Rn sc d 211 955 L (v.toList ++ []) σ3 r := r_callV (vs := [.int y0, .int y1]) d211_952 (j := 91) (by decide +kernel) ⟨rfl, by decide, rfl, rfl⟩ (Nat.le_of_ble_eq_true rfl) hK
theorem d211_955 : decode (mC 211) 955 = .ok (.aload_n 2, 1) := by decide +kernel
theorem x211_955 {sc : aSc} {d : Nat} {r : aRes} {a0 : Value} {a1 : Value} {x2 : Nat} {a3 : Value} {st : List Value} {σ : aS} : Rn sc d 211 955 [a0, a1, .ref x2, a3] st σ r ↔ Rn sc d 211 956 [a0, a1, .ref x2, a3] (.ref x2 :: st) σ r := r_aload_n d211_955 rfl
theorem d211_956 : decode (mC 211) 956 = .ok (.aload_n 0, 1) := by decide +kernel
theorem x211_956 {sc : aSc} {d : Nat} {r : aRes} {x0 : Nat} {a1 : Value} {a2 : Value} {a3 : Value} {st : List Value} {σ : aS} : Rn sc d 211 956 [.ref x0, a1, a2, a3] st σ r ↔ Rn sc d 211 957 [.ref x0, a1, a2, a3] (.ref x0 :: st) σ r := r_aload_n d211_956 rfl
theorem d211_957 : decode (mC 211) 957 = .ok (.iload_n 3, 1) := by decide +kernel
theorem x211_957 {sc : aSc} {d : Nat} {r : aRes} {a0 : Value} {a1 : Value} {a2 : Value} {x3 : Int32} {st : List Value} {σ : aS} : Rn sc d 211 957 [a0, a1, a2, .int x3] st σ r ↔ Rn sc d 211 958 [a0, a1, a2, .int x3] (.int x3 :: st) σ r := r_iload_n d211_957 rfl
theorem d211_958 : decode (mC 211) 958 = .ok (.iconst 1, 1) := by decide +kernel
theorem x211_958 {sc : aSc} {d : Nat} {r : aRes} {L : List Value} {st : List Value} {σ : aS} : Rn sc d 211 958 L st σ r ↔ Rn sc d 211 959 L (.int 1 :: st) σ r := r_iconst d211_958 (by decide)
theorem d211_959 : decode (mC 211) 959 = .ok (.iadd, 1) := by decide +kernel
theorem x211_959 {sc : aSc} {d : Nat} {r : aRes} {L : List Value} {st : List Value} {σ : aS} {x y : Int32} : Rn sc d 211 959 L (.int y :: .int x :: st) σ r ↔ Rn sc d 211 960 L (.int (x + y) :: st) σ r := r_iadd d211_959
theorem d211_960 : decode (mC 211) 960 = .ok (.iaload, 1) := by decide +kernel
theorem d211_961 : decode (mC 211) 961 = .ok (.aload_n 0, 1) := by decide +kernel
theorem x211_961 {sc : aSc} {d : Nat} {r : aRes} {x0 : Nat} {a1 : Value} {a2 : Value} {a3 : Value} {st : List Value} {σ : aS} : Rn sc d 211 961 [.ref x0, a1, a2, a3] st σ r ↔ Rn sc d 211 962 [.ref x0, a1, a2, a3] (.ref x0 :: st) σ r := r_aload_n d211_961 rfl
theorem d211_962 : decode (mC 211) 962 = .ok (.iload_n 3, 1) := by decide +kernel
theorem x211_962 {sc : aSc} {d : Nat} {r : aRes} {a0 : Value} {a1 : Value} {a2 : Value} {x3 : Int32} {st : List Value} {σ : aS} : Rn sc d 211 962 [a0, a1, a2, .int x3] st σ r ↔ Rn sc d 211 963 [a0, a1, a2, .int x3] (.int x3 :: st) σ r := r_iload_n d211_962 rfl
theorem d211_963 : decode (mC 211) 963 = .ok (.iconst 2, 1) := by decide +kernel
theorem x211_963 {sc : aSc} {d : Nat} {r : aRes} {L : List Value} {st : List Value} {σ : aS} : Rn sc d 211 963 L st σ r ↔ Rn sc d 211 964 L (.int 2 :: st) σ r := r_iconst d211_963 (by decide)
theorem d211_964 : decode (mC 211) 964 = .ok (.iadd, 1) := by decide +kernel
theorem x211_964 {sc : aSc} {d : Nat} {r : aRes} {L : List Value} {st : List Value} {σ : aS} {x y : Int32} : Rn sc d 211 964 L (.int y :: .int x :: st) σ r ↔ Rn sc d 211 965 L (.int (x + y) :: st) σ r := r_iadd d211_964
theorem d211_965 : decode (mC 211) 965 = .ok (.iaload, 1) := by decide +kernel
theorem d211_966 : decode (mC 211) 966 = .ok (.invokevirtual 123, 3) := by decide +kernel
theorem x211_966 {sc : aSc} {d : Nat} {r : aRes} {L : List Value} {f : Nat → Nat → Int32} {g : Nat → Nat → Int64} {h1 h2 : Nat} {y0 : Int32} {y1 : Int32} {z0 : Int32} {o : Nat} (hK : KK[o]? = some (.inl 7)) : Rn sc d 211 966 L [.int y0, .int y1, .ref o, .int z0] (cS f g h1 h2) r ↔ ∃ (σ3 : aS) (v : Option Value), Cl sc d 174 [.ref o, .int y1, .int y0] (cS f g h1 h2) (σ3, v) ∧ Rn sc d 211 969 L (v.toList ++ [.int z0]) σ3 r := r_callV (vs := [.int y0, .int y1]) d211_966 (j := 174) (by decide +kernel) ⟨rfl, by decide, rfl, rfl⟩ (Nat.le_of_ble_eq_true rfl) hK
theorem d211_969 : decode (mC 211) 969 = .ok (.if_icmp .eq 366, 3) := by decide +kernel
theorem x211_969 {sc : aSc} {d : Nat} {r : aRes} {L : List Value} {st : List Value} {σ : aS} {x y : Int32} : Rn sc d 211 969 L (.int y :: .int x :: st) σ r ↔ if x = y then Rn sc d 211 1335 L st σ r else Rn sc d 211 972 L st σ r := r_icmp_eq d211_969 rfl
theorem d211_972 : decode (mC 211) 972 = .ok (.iconst 0, 1) := by decide +kernel
theorem x211_972 {sc : aSc} {d : Nat} {r : aRes} {L : List Value} {st : List Value} {σ : aS} : Rn sc d 211 972 L st σ r ↔ Rn sc d 211 973 L (.int 0 :: st) σ r := r_iconst d211_972 (by decide)
theorem d211_973 : decode (mC 211) 973 = .ok (.ireturn, 1) := by decide +kernel
theorem d211_974 : decode (mC 211) 974 = .ok (.aload_n 1, 1) := by decide +kernel
theorem x211_974 {sc : aSc} {d : Nat} {r : aRes} {a0 : Value} {x1 : Nat} {a2 : Value} {a3 : Value} {st : List Value} {σ : aS} : Rn sc d 211 974 [a0, .ref x1, a2, a3] st σ r ↔ Rn sc d 211 975 [a0, .ref x1, a2, a3] (.ref x1 :: st) σ r := r_aload_n d211_974 rfl
theorem d211_975 : decode (mC 211) 975 = .ok (.invokevirtual 124, 3) := by decide +kernel
theorem x211_975 {sc : aSc} {d : Nat} {r : aRes} {L : List Value} {f : Nat → Nat → Int32} {g : Nat → Nat → Int64} {h1 h2 : Nat}   {o : Nat} (hK : KK[o]? = some (.inl 6)) : Rn sc d 211 975 L [.ref o] (cS f g h1 h2) r ↔ ∃ (σ3 : aS) (v : Option Value), Cl sc d 92 [.ref o] (cS f g h1 h2) (σ3, v) ∧ Rn sc d 211 978 L (v.toList ++ []) σ3 r := r_callV (vs := []) d211_975 (j := 92) (by decide +kernel) ⟨rfl, by decide, rfl, rfl⟩ (Nat.le_of_ble_eq_true rfl) hK
theorem d211_978 : decode (mC 211) 978 = .ok (.aload_n 2, 1) := by decide +kernel
theorem x211_978 {sc : aSc} {d : Nat} {r : aRes} {a0 : Value} {a1 : Value} {x2 : Nat} {a3 : Value} {st : List Value} {σ : aS} : Rn sc d 211 978 [a0, a1, .ref x2, a3] st σ r ↔ Rn sc d 211 979 [a0, a1, .ref x2, a3] (.ref x2 :: st) σ r := r_aload_n d211_978 rfl
theorem d211_979 : decode (mC 211) 979 = .ok (.invokevirtual 127, 3) := by decide +kernel
theorem x211_979 {sc : aSc} {d : Nat} {r : aRes} {L : List Value} {f : Nat → Nat → Int32} {g : Nat → Nat → Int64} {h1 h2 : Nat}  {z0 : Int32} {o : Nat} (hK : KK[o]? = some (.inl 7)) : Rn sc d 211 979 L [.ref o, .int z0] (cS f g h1 h2) r ↔ ∃ (σ3 : aS) (v : Option Value), Cl sc d 175 [.ref o] (cS f g h1 h2) (σ3, v) ∧ Rn sc d 211 982 L (v.toList ++ [.int z0]) σ3 r := r_callV (vs := []) d211_979 (j := 175) (by decide +kernel) ⟨rfl, by decide, rfl, rfl⟩ (Nat.le_of_ble_eq_true rfl) hK
theorem d211_982 : decode (mC 211) 982 = .ok (.if_icmp .eq 353, 3) := by decide +kernel
theorem x211_982 {sc : aSc} {d : Nat} {r : aRes} {L : List Value} {st : List Value} {σ : aS} {x y : Int32} : Rn sc d 211 982 L (.int y :: .int x :: st) σ r ↔ if x = y then Rn sc d 211 1335 L st σ r else Rn sc d 211 985 L st σ r := r_icmp_eq d211_982 rfl
theorem d211_985 : decode (mC 211) 985 = .ok (.iconst 0, 1) := by decide +kernel
theorem x211_985 {sc : aSc} {d : Nat} {r : aRes} {L : List Value} {st : List Value} {σ : aS} : Rn sc d 211 985 L st σ r ↔ Rn sc d 211 986 L (.int 0 :: st) σ r := r_iconst d211_985 (by decide)
theorem d211_986 : decode (mC 211) 986 = .ok (.ireturn, 1) := by decide +kernel
theorem d211_987 : decode (mC 211) 987 = .ok (.aload_n 1, 1) := by decide +kernel
theorem x211_987 {sc : aSc} {d : Nat} {r : aRes} {a0 : Value} {x1 : Nat} {a2 : Value} {a3 : Value} {st : List Value} {σ : aS} : Rn sc d 211 987 [a0, .ref x1, a2, a3] st σ r ↔ Rn sc d 211 988 [a0, .ref x1, a2, a3] (.ref x1 :: st) σ r := r_aload_n d211_987 rfl
theorem d211_988 : decode (mC 211) 988 = .ok (.invokevirtual 128, 3) := by decide +kernel
theorem x211_988 {sc : aSc} {d : Nat} {r : aRes} {L : List Value} {f : Nat → Nat → Int32} {g : Nat → Nat → Int64} {h1 h2 : Nat}   {o : Nat} (hK : KK[o]? = some (.inl 6)) : Rn sc d 211 988 L [.ref o] (cS f g h1 h2) r ↔ ∃ (σ3 : aS) (v : Option Value), Cl sc d 93 [.ref o] (cS f g h1 h2) (σ3, v) ∧ Rn sc d 211 991 L (v.toList ++ []) σ3 r := r_callV (vs := []) d211_988 (j := 93) (by decide +kernel) ⟨rfl, by decide, rfl, rfl⟩ (Nat.le_of_ble_eq_true rfl) hK
theorem d211_991 : decode (mC 211) 991 = .ok (.aload_n 2, 1) := by decide +kernel
theorem x211_991 {sc : aSc} {d : Nat} {r : aRes} {a0 : Value} {a1 : Value} {x2 : Nat} {a3 : Value} {st : List Value} {σ : aS} : Rn sc d 211 991 [a0, a1, .ref x2, a3] st σ r ↔ Rn sc d 211 992 [a0, a1, .ref x2, a3] (.ref x2 :: st) σ r := r_aload_n d211_991 rfl
theorem d211_992 : decode (mC 211) 992 = .ok (.invokevirtual 131, 3) := by decide +kernel
theorem x211_992 {sc : aSc} {d : Nat} {r : aRes} {L : List Value} {f : Nat → Nat → Int32} {g : Nat → Nat → Int64} {h1 h2 : Nat}  {z0 : Int32} {o : Nat} (hK : KK[o]? = some (.inl 7)) : Rn sc d 211 992 L [.ref o, .int z0] (cS f g h1 h2) r ↔ ∃ (σ3 : aS) (v : Option Value), Cl sc d 176 [.ref o] (cS f g h1 h2) (σ3, v) ∧ Rn sc d 211 995 L (v.toList ++ [.int z0]) σ3 r := r_callV (vs := []) d211_992 (j := 176) (by decide +kernel) ⟨rfl, by decide, rfl, rfl⟩ (Nat.le_of_ble_eq_true rfl) hK
theorem d211_995 : decode (mC 211) 995 = .ok (.if_icmp .eq 340, 3) := by decide +kernel
theorem x211_995 {sc : aSc} {d : Nat} {r : aRes} {L : List Value} {st : List Value} {σ : aS} {x y : Int32} : Rn sc d 211 995 L (.int y :: .int x :: st) σ r ↔ if x = y then Rn sc d 211 1335 L st σ r else Rn sc d 211 998 L st σ r := r_icmp_eq d211_995 rfl
theorem d211_998 : decode (mC 211) 998 = .ok (.iconst 0, 1) := by decide +kernel
theorem x211_998 {sc : aSc} {d : Nat} {r : aRes} {L : List Value} {st : List Value} {σ : aS} : Rn sc d 211 998 L st σ r ↔ Rn sc d 211 999 L (.int 0 :: st) σ r := r_iconst d211_998 (by decide)
theorem d211_999 : decode (mC 211) 999 = .ok (.ireturn, 1) := by decide +kernel
theorem d211_1000 : decode (mC 211) 1000 = .ok (.aload_n 1, 1) := by decide +kernel
theorem x211_1000 {sc : aSc} {d : Nat} {r : aRes} {a0 : Value} {x1 : Nat} {a2 : Value} {a3 : Value} {st : List Value} {σ : aS} : Rn sc d 211 1000 [a0, .ref x1, a2, a3] st σ r ↔ Rn sc d 211 1001 [a0, .ref x1, a2, a3] (.ref x1 :: st) σ r := r_aload_n d211_1000 rfl
theorem d211_1001 : decode (mC 211) 1001 = .ok (.aload_n 0, 1) := by decide +kernel
theorem x211_1001 {sc : aSc} {d : Nat} {r : aRes} {x0 : Nat} {a1 : Value} {a2 : Value} {a3 : Value} {st : List Value} {σ : aS} : Rn sc d 211 1001 [.ref x0, a1, a2, a3] st σ r ↔ Rn sc d 211 1002 [.ref x0, a1, a2, a3] (.ref x0 :: st) σ r := r_aload_n d211_1001 rfl
theorem d211_1002 : decode (mC 211) 1002 = .ok (.iload_n 3, 1) := by decide +kernel
theorem x211_1002 {sc : aSc} {d : Nat} {r : aRes} {a0 : Value} {a1 : Value} {a2 : Value} {x3 : Int32} {st : List Value} {σ : aS} : Rn sc d 211 1002 [a0, a1, a2, .int x3] st σ r ↔ Rn sc d 211 1003 [a0, a1, a2, .int x3] (.int x3 :: st) σ r := r_iload_n d211_1002 rfl
theorem d211_1003 : decode (mC 211) 1003 = .ok (.iconst 1, 1) := by decide +kernel
theorem x211_1003 {sc : aSc} {d : Nat} {r : aRes} {L : List Value} {st : List Value} {σ : aS} : Rn sc d 211 1003 L st σ r ↔ Rn sc d 211 1004 L (.int 1 :: st) σ r := r_iconst d211_1003 (by decide)
theorem d211_1004 : decode (mC 211) 1004 = .ok (.iadd, 1) := by decide +kernel
theorem x211_1004 {sc : aSc} {d : Nat} {r : aRes} {L : List Value} {st : List Value} {σ : aS} {x y : Int32} : Rn sc d 211 1004 L (.int y :: .int x :: st) σ r ↔ Rn sc d 211 1005 L (.int (x + y) :: st) σ r := r_iadd d211_1004
theorem d211_1005 : decode (mC 211) 1005 = .ok (.iaload, 1) := by decide +kernel
theorem d211_1006 : decode (mC 211) 1006 = .ok (.aload_n 0, 1) := by decide +kernel
theorem x211_1006 {sc : aSc} {d : Nat} {r : aRes} {x0 : Nat} {a1 : Value} {a2 : Value} {a3 : Value} {st : List Value} {σ : aS} : Rn sc d 211 1006 [.ref x0, a1, a2, a3] st σ r ↔ Rn sc d 211 1007 [.ref x0, a1, a2, a3] (.ref x0 :: st) σ r := r_aload_n d211_1006 rfl
theorem d211_1007 : decode (mC 211) 1007 = .ok (.iload_n 3, 1) := by decide +kernel
theorem x211_1007 {sc : aSc} {d : Nat} {r : aRes} {a0 : Value} {a1 : Value} {a2 : Value} {x3 : Int32} {st : List Value} {σ : aS} : Rn sc d 211 1007 [a0, a1, a2, .int x3] st σ r ↔ Rn sc d 211 1008 [a0, a1, a2, .int x3] (.int x3 :: st) σ r := r_iload_n d211_1007 rfl
theorem d211_1008 : decode (mC 211) 1008 = .ok (.iconst 2, 1) := by decide +kernel
theorem x211_1008 {sc : aSc} {d : Nat} {r : aRes} {L : List Value} {st : List Value} {σ : aS} : Rn sc d 211 1008 L st σ r ↔ Rn sc d 211 1009 L (.int 2 :: st) σ r := r_iconst d211_1008 (by decide)
theorem d211_1009 : decode (mC 211) 1009 = .ok (.iadd, 1) := by decide +kernel
theorem x211_1009 {sc : aSc} {d : Nat} {r : aRes} {L : List Value} {st : List Value} {σ : aS} {x y : Int32} : Rn sc d 211 1009 L (.int y :: .int x :: st) σ r ↔ Rn sc d 211 1010 L (.int (x + y) :: st) σ r := r_iadd d211_1009
theorem d211_1010 : decode (mC 211) 1010 = .ok (.iaload, 1) := by decide +kernel
theorem d211_1011 : decode (mC 211) 1011 = .ok (.aload_n 0, 1) := by decide +kernel
theorem x211_1011 {sc : aSc} {d : Nat} {r : aRes} {x0 : Nat} {a1 : Value} {a2 : Value} {a3 : Value} {st : List Value} {σ : aS} : Rn sc d 211 1011 [.ref x0, a1, a2, a3] st σ r ↔ Rn sc d 211 1012 [.ref x0, a1, a2, a3] (.ref x0 :: st) σ r := r_aload_n d211_1011 rfl
theorem d211_1012 : decode (mC 211) 1012 = .ok (.iload_n 3, 1) := by decide +kernel
theorem x211_1012 {sc : aSc} {d : Nat} {r : aRes} {a0 : Value} {a1 : Value} {a2 : Value} {x3 : Int32} {st : List Value} {σ : aS} : Rn sc d 211 1012 [a0, a1, a2, .int x3] st σ r ↔ Rn sc d 211 1013 [a0, a1, a2, .int x3] (.int x3 :: st) σ r := r_iload_n d211_1012 rfl
theorem d211_1013 : decode (mC 211) 1013 = .ok (.iconst 3, 1) := by decide +kernel
theorem x211_1013 {sc : aSc} {d : Nat} {r : aRes} {L : List Value} {st : List Value} {σ : aS} : Rn sc d 211 1013 L st σ r ↔ Rn sc d 211 1014 L (.int 3 :: st) σ r := r_iconst d211_1013 (by decide)
theorem d211_1014 : decode (mC 211) 1014 = .ok (.iadd, 1) := by decide +kernel
theorem x211_1014 {sc : aSc} {d : Nat} {r : aRes} {L : List Value} {st : List Value} {σ : aS} {x y : Int32} : Rn sc d 211 1014 L (.int y :: .int x :: st) σ r ↔ Rn sc d 211 1015 L (.int (x + y) :: st) σ r := r_iadd d211_1014
theorem d211_1015 : decode (mC 211) 1015 = .ok (.iaload, 1) := by decide +kernel
theorem d211_1016 : decode (mC 211) 1016 = .ok (.invokevirtual 132, 3) := by decide +kernel
theorem x211_1016 {sc : aSc} {d : Nat} {r : aRes} {L : List Value} {f : Nat → Nat → Int32} {g : Nat → Nat → Int64} {h1 h2 : Nat} {y0 : Int32} {y1 : Int32} {y2 : Int32}  {o : Nat} (hK : KK[o]? = some (.inl 6)) : Rn sc d 211 1016 L [.int y0, .int y1, .int y2, .ref o] (cS f g h1 h2) r ↔ ∃ (σ3 : aS) (v : Option Value), Cl sc d 94 [.ref o, .int y2, .int y1, .int y0] (cS f g h1 h2) (σ3, v) ∧ Rn sc d 211 1019 L (v.toList ++ []) σ3 r := r_callV (vs := [.int y0, .int y1, .int y2]) d211_1016 (j := 94) (by decide +kernel) ⟨rfl, by decide, rfl, rfl⟩ (Nat.le_of_ble_eq_true rfl) hK
theorem d211_1019 : decode (mC 211) 1019 = .ok (.aload_n 2, 1) := by decide +kernel
theorem x211_1019 {sc : aSc} {d : Nat} {r : aRes} {a0 : Value} {a1 : Value} {x2 : Nat} {a3 : Value} {st : List Value} {σ : aS} : Rn sc d 211 1019 [a0, a1, .ref x2, a3] st σ r ↔ Rn sc d 211 1020 [a0, a1, .ref x2, a3] (.ref x2 :: st) σ r := r_aload_n d211_1019 rfl
theorem d211_1020 : decode (mC 211) 1020 = .ok (.aload_n 0, 1) := by decide +kernel
theorem x211_1020 {sc : aSc} {d : Nat} {r : aRes} {x0 : Nat} {a1 : Value} {a2 : Value} {a3 : Value} {st : List Value} {σ : aS} : Rn sc d 211 1020 [.ref x0, a1, a2, a3] st σ r ↔ Rn sc d 211 1021 [.ref x0, a1, a2, a3] (.ref x0 :: st) σ r := r_aload_n d211_1020 rfl
theorem d211_1021 : decode (mC 211) 1021 = .ok (.iload_n 3, 1) := by decide +kernel
theorem x211_1021 {sc : aSc} {d : Nat} {r : aRes} {a0 : Value} {a1 : Value} {a2 : Value} {x3 : Int32} {st : List Value} {σ : aS} : Rn sc d 211 1021 [a0, a1, a2, .int x3] st σ r ↔ Rn sc d 211 1022 [a0, a1, a2, .int x3] (.int x3 :: st) σ r := r_iload_n d211_1021 rfl
theorem d211_1022 : decode (mC 211) 1022 = .ok (.iconst 1, 1) := by decide +kernel
theorem x211_1022 {sc : aSc} {d : Nat} {r : aRes} {L : List Value} {st : List Value} {σ : aS} : Rn sc d 211 1022 L st σ r ↔ Rn sc d 211 1023 L (.int 1 :: st) σ r := r_iconst d211_1022 (by decide)
theorem d211_1023 : decode (mC 211) 1023 = .ok (.iadd, 1) := by decide +kernel
theorem x211_1023 {sc : aSc} {d : Nat} {r : aRes} {L : List Value} {st : List Value} {σ : aS} {x y : Int32} : Rn sc d 211 1023 L (.int y :: .int x :: st) σ r ↔ Rn sc d 211 1024 L (.int (x + y) :: st) σ r := r_iadd d211_1023
theorem d211_1024 : decode (mC 211) 1024 = .ok (.iaload, 1) := by decide +kernel
theorem d211_1025 : decode (mC 211) 1025 = .ok (.aload_n 0, 1) := by decide +kernel
theorem x211_1025 {sc : aSc} {d : Nat} {r : aRes} {x0 : Nat} {a1 : Value} {a2 : Value} {a3 : Value} {st : List Value} {σ : aS} : Rn sc d 211 1025 [.ref x0, a1, a2, a3] st σ r ↔ Rn sc d 211 1026 [.ref x0, a1, a2, a3] (.ref x0 :: st) σ r := r_aload_n d211_1025 rfl
theorem d211_1026 : decode (mC 211) 1026 = .ok (.iload_n 3, 1) := by decide +kernel
theorem x211_1026 {sc : aSc} {d : Nat} {r : aRes} {a0 : Value} {a1 : Value} {a2 : Value} {x3 : Int32} {st : List Value} {σ : aS} : Rn sc d 211 1026 [a0, a1, a2, .int x3] st σ r ↔ Rn sc d 211 1027 [a0, a1, a2, .int x3] (.int x3 :: st) σ r := r_iload_n d211_1026 rfl
theorem d211_1027 : decode (mC 211) 1027 = .ok (.iconst 2, 1) := by decide +kernel
theorem x211_1027 {sc : aSc} {d : Nat} {r : aRes} {L : List Value} {st : List Value} {σ : aS} : Rn sc d 211 1027 L st σ r ↔ Rn sc d 211 1028 L (.int 2 :: st) σ r := r_iconst d211_1027 (by decide)
theorem d211_1028 : decode (mC 211) 1028 = .ok (.iadd, 1) := by decide +kernel
theorem x211_1028 {sc : aSc} {d : Nat} {r : aRes} {L : List Value} {st : List Value} {σ : aS} {x y : Int32} : Rn sc d 211 1028 L (.int y :: .int x :: st) σ r ↔ Rn sc d 211 1029 L (.int (x + y) :: st) σ r := r_iadd d211_1028
theorem d211_1029 : decode (mC 211) 1029 = .ok (.iaload, 1) := by decide +kernel
theorem d211_1030 : decode (mC 211) 1030 = .ok (.aload_n 0, 1) := by decide +kernel
theorem x211_1030 {sc : aSc} {d : Nat} {r : aRes} {x0 : Nat} {a1 : Value} {a2 : Value} {a3 : Value} {st : List Value} {σ : aS} : Rn sc d 211 1030 [.ref x0, a1, a2, a3] st σ r ↔ Rn sc d 211 1031 [.ref x0, a1, a2, a3] (.ref x0 :: st) σ r := r_aload_n d211_1030 rfl
theorem d211_1031 : decode (mC 211) 1031 = .ok (.iload_n 3, 1) := by decide +kernel
theorem x211_1031 {sc : aSc} {d : Nat} {r : aRes} {a0 : Value} {a1 : Value} {a2 : Value} {x3 : Int32} {st : List Value} {σ : aS} : Rn sc d 211 1031 [a0, a1, a2, .int x3] st σ r ↔ Rn sc d 211 1032 [a0, a1, a2, .int x3] (.int x3 :: st) σ r := r_iload_n d211_1031 rfl
theorem d211_1032 : decode (mC 211) 1032 = .ok (.iconst 3, 1) := by decide +kernel
theorem x211_1032 {sc : aSc} {d : Nat} {r : aRes} {L : List Value} {st : List Value} {σ : aS} : Rn sc d 211 1032 L st σ r ↔ Rn sc d 211 1033 L (.int 3 :: st) σ r := r_iconst d211_1032 (by decide)
theorem d211_1033 : decode (mC 211) 1033 = .ok (.iadd, 1) := by decide +kernel
theorem x211_1033 {sc : aSc} {d : Nat} {r : aRes} {L : List Value} {st : List Value} {σ : aS} {x y : Int32} : Rn sc d 211 1033 L (.int y :: .int x :: st) σ r ↔ Rn sc d 211 1034 L (.int (x + y) :: st) σ r := r_iadd d211_1033
theorem d211_1034 : decode (mC 211) 1034 = .ok (.iaload, 1) := by decide +kernel
theorem d211_1035 : decode (mC 211) 1035 = .ok (.invokevirtual 135, 3) := by decide +kernel
theorem x211_1035 {sc : aSc} {d : Nat} {r : aRes} {L : List Value} {f : Nat → Nat → Int32} {g : Nat → Nat → Int64} {h1 h2 : Nat} {y0 : Int32} {y1 : Int32} {y2 : Int32} {z0 : Int32} {o : Nat} (hK : KK[o]? = some (.inl 7)) : Rn sc d 211 1035 L [.int y0, .int y1, .int y2, .ref o, .int z0] (cS f g h1 h2) r ↔ ∃ (σ3 : aS) (v : Option Value), Cl sc d 185 [.ref o, .int y2, .int y1, .int y0] (cS f g h1 h2) (σ3, v) ∧ Rn sc d 211 1038 L (v.toList ++ [.int z0]) σ3 r := r_callV (vs := [.int y0, .int y1, .int y2]) d211_1035 (j := 185) (by decide +kernel) ⟨rfl, by decide, rfl, rfl⟩ (Nat.le_of_ble_eq_true rfl) hK
theorem d211_1038 : decode (mC 211) 1038 = .ok (.if_icmp .eq 297, 3) := by decide +kernel
theorem x211_1038 {sc : aSc} {d : Nat} {r : aRes} {L : List Value} {st : List Value} {σ : aS} {x y : Int32} : Rn sc d 211 1038 L (.int y :: .int x :: st) σ r ↔ if x = y then Rn sc d 211 1335 L st σ r else Rn sc d 211 1041 L st σ r := r_icmp_eq d211_1038 rfl
theorem d211_1041 : decode (mC 211) 1041 = .ok (.iconst 0, 1) := by decide +kernel
theorem x211_1041 {sc : aSc} {d : Nat} {r : aRes} {L : List Value} {st : List Value} {σ : aS} : Rn sc d 211 1041 L st σ r ↔ Rn sc d 211 1042 L (.int 0 :: st) σ r := r_iconst d211_1041 (by decide)
theorem d211_1042 : decode (mC 211) 1042 = .ok (.ireturn, 1) := by decide +kernel
theorem d211_1043 : decode (mC 211) 1043 = .ok (.aload_n 1, 1) := by decide +kernel
theorem x211_1043 {sc : aSc} {d : Nat} {r : aRes} {a0 : Value} {x1 : Nat} {a2 : Value} {a3 : Value} {st : List Value} {σ : aS} : Rn sc d 211 1043 [a0, .ref x1, a2, a3] st σ r ↔ Rn sc d 211 1044 [a0, .ref x1, a2, a3] (.ref x1 :: st) σ r := r_aload_n d211_1043 rfl
theorem d211_1044 : decode (mC 211) 1044 = .ok (.aload_n 0, 1) := by decide +kernel
theorem x211_1044 {sc : aSc} {d : Nat} {r : aRes} {x0 : Nat} {a1 : Value} {a2 : Value} {a3 : Value} {st : List Value} {σ : aS} : Rn sc d 211 1044 [.ref x0, a1, a2, a3] st σ r ↔ Rn sc d 211 1045 [.ref x0, a1, a2, a3] (.ref x0 :: st) σ r := r_aload_n d211_1044 rfl
theorem d211_1045 : decode (mC 211) 1045 = .ok (.iload_n 3, 1) := by decide +kernel
theorem x211_1045 {sc : aSc} {d : Nat} {r : aRes} {a0 : Value} {a1 : Value} {a2 : Value} {x3 : Int32} {st : List Value} {σ : aS} : Rn sc d 211 1045 [a0, a1, a2, .int x3] st σ r ↔ Rn sc d 211 1046 [a0, a1, a2, .int x3] (.int x3 :: st) σ r := r_iload_n d211_1045 rfl
theorem d211_1046 : decode (mC 211) 1046 = .ok (.iconst 1, 1) := by decide +kernel
theorem x211_1046 {sc : aSc} {d : Nat} {r : aRes} {L : List Value} {st : List Value} {σ : aS} : Rn sc d 211 1046 L st σ r ↔ Rn sc d 211 1047 L (.int 1 :: st) σ r := r_iconst d211_1046 (by decide)
theorem d211_1047 : decode (mC 211) 1047 = .ok (.iadd, 1) := by decide +kernel
theorem x211_1047 {sc : aSc} {d : Nat} {r : aRes} {L : List Value} {st : List Value} {σ : aS} {x y : Int32} : Rn sc d 211 1047 L (.int y :: .int x :: st) σ r ↔ Rn sc d 211 1048 L (.int (x + y) :: st) σ r := r_iadd d211_1047
theorem d211_1048 : decode (mC 211) 1048 = .ok (.iaload, 1) := by decide +kernel
theorem d211_1049 : decode (mC 211) 1049 = .ok (.invokevirtual 136, 3) := by decide +kernel
theorem x211_1049 {sc : aSc} {d : Nat} {r : aRes} {L : List Value} {f : Nat → Nat → Int32} {g : Nat → Nat → Int64} {h1 h2 : Nat} {y0 : Int32}  {o : Nat} (hK : KK[o]? = some (.inl 6)) : Rn sc d 211 1049 L [.int y0, .ref o] (cS f g h1 h2) r ↔ ∃ (σ3 : aS) (v : Option Value), Cl sc d 95 [.ref o, .int y0] (cS f g h1 h2) (σ3, v) ∧ Rn sc d 211 1052 L (v.toList ++ []) σ3 r := r_callV (vs := [.int y0]) d211_1049 (j := 95) (by decide +kernel) ⟨rfl, by decide, rfl, rfl⟩ (Nat.le_of_ble_eq_true rfl) hK
theorem d211_1052 : decode (mC 211) 1052 = .ok (.aload_n 2, 1) := by decide +kernel
theorem x211_1052 {sc : aSc} {d : Nat} {r : aRes} {a0 : Value} {a1 : Value} {x2 : Nat} {a3 : Value} {st : List Value} {σ : aS} : Rn sc d 211 1052 [a0, a1, .ref x2, a3] st σ r ↔ Rn sc d 211 1053 [a0, a1, .ref x2, a3] (.ref x2 :: st) σ r := r_aload_n d211_1052 rfl
theorem d211_1053 : decode (mC 211) 1053 = .ok (.aload_n 0, 1) := by decide +kernel
theorem x211_1053 {sc : aSc} {d : Nat} {r : aRes} {x0 : Nat} {a1 : Value} {a2 : Value} {a3 : Value} {st : List Value} {σ : aS} : Rn sc d 211 1053 [.ref x0, a1, a2, a3] st σ r ↔ Rn sc d 211 1054 [.ref x0, a1, a2, a3] (.ref x0 :: st) σ r := r_aload_n d211_1053 rfl
theorem d211_1054 : decode (mC 211) 1054 = .ok (.iload_n 3, 1) := by decide +kernel
theorem x211_1054 {sc : aSc} {d : Nat} {r : aRes} {a0 : Value} {a1 : Value} {a2 : Value} {x3 : Int32} {st : List Value} {σ : aS} : Rn sc d 211 1054 [a0, a1, a2, .int x3] st σ r ↔ Rn sc d 211 1055 [a0, a1, a2, .int x3] (.int x3 :: st) σ r := r_iload_n d211_1054 rfl
theorem d211_1055 : decode (mC 211) 1055 = .ok (.iconst 1, 1) := by decide +kernel
theorem x211_1055 {sc : aSc} {d : Nat} {r : aRes} {L : List Value} {st : List Value} {σ : aS} : Rn sc d 211 1055 L st σ r ↔ Rn sc d 211 1056 L (.int 1 :: st) σ r := r_iconst d211_1055 (by decide)
theorem d211_1056 : decode (mC 211) 1056 = .ok (.iadd, 1) := by decide +kernel
theorem x211_1056 {sc : aSc} {d : Nat} {r : aRes} {L : List Value} {st : List Value} {σ : aS} {x y : Int32} : Rn sc d 211 1056 L (.int y :: .int x :: st) σ r ↔ Rn sc d 211 1057 L (.int (x + y) :: st) σ r := r_iadd d211_1056
theorem d211_1057 : decode (mC 211) 1057 = .ok (.iaload, 1) := by decide +kernel
theorem d211_1058 : decode (mC 211) 1058 = .ok (.invokevirtual 139, 3) := by decide +kernel
theorem x211_1058 {sc : aSc} {d : Nat} {r : aRes} {L : List Value} {f : Nat → Nat → Int32} {g : Nat → Nat → Int64} {h1 h2 : Nat} {y0 : Int32} {z0 : Int32} {o : Nat} (hK : KK[o]? = some (.inl 7)) : Rn sc d 211 1058 L [.int y0, .ref o, .int z0] (cS f g h1 h2) r ↔ ∃ (σ3 : aS) (v : Option Value), Cl sc d 186 [.ref o, .int y0] (cS f g h1 h2) (σ3, v) ∧ Rn sc d 211 1061 L (v.toList ++ [.int z0]) σ3 r := r_callV (vs := [.int y0]) d211_1058 (j := 186) (by decide +kernel) ⟨rfl, by decide, rfl, rfl⟩ (Nat.le_of_ble_eq_true rfl) hK
theorem d211_1061 : decode (mC 211) 1061 = .ok (.if_icmp .eq 274, 3) := by decide +kernel
theorem x211_1061 {sc : aSc} {d : Nat} {r : aRes} {L : List Value} {st : List Value} {σ : aS} {x y : Int32} : Rn sc d 211 1061 L (.int y :: .int x :: st) σ r ↔ if x = y then Rn sc d 211 1335 L st σ r else Rn sc d 211 1064 L st σ r := r_icmp_eq d211_1061 rfl
theorem d211_1064 : decode (mC 211) 1064 = .ok (.iconst 0, 1) := by decide +kernel
theorem x211_1064 {sc : aSc} {d : Nat} {r : aRes} {L : List Value} {st : List Value} {σ : aS} : Rn sc d 211 1064 L st σ r ↔ Rn sc d 211 1065 L (.int 0 :: st) σ r := r_iconst d211_1064 (by decide)
theorem d211_1065 : decode (mC 211) 1065 = .ok (.ireturn, 1) := by decide +kernel
theorem d211_1066 : decode (mC 211) 1066 = .ok (.aload_n 1, 1) := by decide +kernel
theorem x211_1066 {sc : aSc} {d : Nat} {r : aRes} {a0 : Value} {x1 : Nat} {a2 : Value} {a3 : Value} {st : List Value} {σ : aS} : Rn sc d 211 1066 [a0, .ref x1, a2, a3] st σ r ↔ Rn sc d 211 1067 [a0, .ref x1, a2, a3] (.ref x1 :: st) σ r := r_aload_n d211_1066 rfl
theorem d211_1067 : decode (mC 211) 1067 = .ok (.aload_n 0, 1) := by decide +kernel
theorem x211_1067 {sc : aSc} {d : Nat} {r : aRes} {x0 : Nat} {a1 : Value} {a2 : Value} {a3 : Value} {st : List Value} {σ : aS} : Rn sc d 211 1067 [.ref x0, a1, a2, a3] st σ r ↔ Rn sc d 211 1068 [.ref x0, a1, a2, a3] (.ref x0 :: st) σ r := r_aload_n d211_1067 rfl
theorem d211_1068 : decode (mC 211) 1068 = .ok (.iload_n 3, 1) := by decide +kernel
theorem x211_1068 {sc : aSc} {d : Nat} {r : aRes} {a0 : Value} {a1 : Value} {a2 : Value} {x3 : Int32} {st : List Value} {σ : aS} : Rn sc d 211 1068 [a0, a1, a2, .int x3] st σ r ↔ Rn sc d 211 1069 [a0, a1, a2, .int x3] (.int x3 :: st) σ r := r_iload_n d211_1068 rfl
theorem d211_1069 : decode (mC 211) 1069 = .ok (.iconst 1, 1) := by decide +kernel
theorem x211_1069 {sc : aSc} {d : Nat} {r : aRes} {L : List Value} {st : List Value} {σ : aS} : Rn sc d 211 1069 L st σ r ↔ Rn sc d 211 1070 L (.int 1 :: st) σ r := r_iconst d211_1069 (by decide)
theorem d211_1070 : decode (mC 211) 1070 = .ok (.iadd, 1) := by decide +kernel
theorem x211_1070 {sc : aSc} {d : Nat} {r : aRes} {L : List Value} {st : List Value} {σ : aS} {x y : Int32} : Rn sc d 211 1070 L (.int y :: .int x :: st) σ r ↔ Rn sc d 211 1071 L (.int (x + y) :: st) σ r := r_iadd d211_1070
theorem d211_1071 : decode (mC 211) 1071 = .ok (.iaload, 1) := by decide +kernel
theorem d211_1072 : decode (mC 211) 1072 = .ok (.aload_n 0, 1) := by decide +kernel
theorem x211_1072 {sc : aSc} {d : Nat} {r : aRes} {x0 : Nat} {a1 : Value} {a2 : Value} {a3 : Value} {st : List Value} {σ : aS} : Rn sc d 211 1072 [.ref x0, a1, a2, a3] st σ r ↔ Rn sc d 211 1073 [.ref x0, a1, a2, a3] (.ref x0 :: st) σ r := r_aload_n d211_1072 rfl
theorem d211_1073 : decode (mC 211) 1073 = .ok (.iload_n 3, 1) := by decide +kernel
theorem x211_1073 {sc : aSc} {d : Nat} {r : aRes} {a0 : Value} {a1 : Value} {a2 : Value} {x3 : Int32} {st : List Value} {σ : aS} : Rn sc d 211 1073 [a0, a1, a2, .int x3] st σ r ↔ Rn sc d 211 1074 [a0, a1, a2, .int x3] (.int x3 :: st) σ r := r_iload_n d211_1073 rfl
theorem d211_1074 : decode (mC 211) 1074 = .ok (.iconst 2, 1) := by decide +kernel
theorem x211_1074 {sc : aSc} {d : Nat} {r : aRes} {L : List Value} {st : List Value} {σ : aS} : Rn sc d 211 1074 L st σ r ↔ Rn sc d 211 1075 L (.int 2 :: st) σ r := r_iconst d211_1074 (by decide)
theorem d211_1075 : decode (mC 211) 1075 = .ok (.iadd, 1) := by decide +kernel
theorem x211_1075 {sc : aSc} {d : Nat} {r : aRes} {L : List Value} {st : List Value} {σ : aS} {x y : Int32} : Rn sc d 211 1075 L (.int y :: .int x :: st) σ r ↔ Rn sc d 211 1076 L (.int (x + y) :: st) σ r := r_iadd d211_1075
theorem d211_1076 : decode (mC 211) 1076 = .ok (.iaload, 1) := by decide +kernel
theorem d211_1077 : decode (mC 211) 1077 = .ok (.invokevirtual 140, 3) := by decide +kernel
theorem x211_1077 {sc : aSc} {d : Nat} {r : aRes} {L : List Value} {f : Nat → Nat → Int32} {g : Nat → Nat → Int64} {h1 h2 : Nat} {y0 : Int32} {y1 : Int32}  {o : Nat} (hK : KK[o]? = some (.inl 6)) : Rn sc d 211 1077 L [.int y0, .int y1, .ref o] (cS f g h1 h2) r ↔ ∃ (σ3 : aS) (v : Option Value), Cl sc d 96 [.ref o, .int y1, .int y0] (cS f g h1 h2) (σ3, v) ∧ Rn sc d 211 1080 L (v.toList ++ []) σ3 r := r_callV (vs := [.int y0, .int y1]) d211_1077 (j := 96) (by decide +kernel) ⟨rfl, by decide, rfl, rfl⟩ (Nat.le_of_ble_eq_true rfl) hK
theorem d211_1080 : decode (mC 211) 1080 = .ok (.aload_n 2, 1) := by decide +kernel
theorem x211_1080 {sc : aSc} {d : Nat} {r : aRes} {a0 : Value} {a1 : Value} {x2 : Nat} {a3 : Value} {st : List Value} {σ : aS} : Rn sc d 211 1080 [a0, a1, .ref x2, a3] st σ r ↔ Rn sc d 211 1081 [a0, a1, .ref x2, a3] (.ref x2 :: st) σ r := r_aload_n d211_1080 rfl
theorem d211_1081 : decode (mC 211) 1081 = .ok (.aload_n 0, 1) := by decide +kernel
theorem x211_1081 {sc : aSc} {d : Nat} {r : aRes} {x0 : Nat} {a1 : Value} {a2 : Value} {a3 : Value} {st : List Value} {σ : aS} : Rn sc d 211 1081 [.ref x0, a1, a2, a3] st σ r ↔ Rn sc d 211 1082 [.ref x0, a1, a2, a3] (.ref x0 :: st) σ r := r_aload_n d211_1081 rfl
theorem d211_1082 : decode (mC 211) 1082 = .ok (.iload_n 3, 1) := by decide +kernel
theorem x211_1082 {sc : aSc} {d : Nat} {r : aRes} {a0 : Value} {a1 : Value} {a2 : Value} {x3 : Int32} {st : List Value} {σ : aS} : Rn sc d 211 1082 [a0, a1, a2, .int x3] st σ r ↔ Rn sc d 211 1083 [a0, a1, a2, .int x3] (.int x3 :: st) σ r := r_iload_n d211_1082 rfl
theorem d211_1083 : decode (mC 211) 1083 = .ok (.iconst 1, 1) := by decide +kernel
theorem x211_1083 {sc : aSc} {d : Nat} {r : aRes} {L : List Value} {st : List Value} {σ : aS} : Rn sc d 211 1083 L st σ r ↔ Rn sc d 211 1084 L (.int 1 :: st) σ r := r_iconst d211_1083 (by decide)
theorem d211_1084 : decode (mC 211) 1084 = .ok (.iadd, 1) := by decide +kernel
theorem x211_1084 {sc : aSc} {d : Nat} {r : aRes} {L : List Value} {st : List Value} {σ : aS} {x y : Int32} : Rn sc d 211 1084 L (.int y :: .int x :: st) σ r ↔ Rn sc d 211 1085 L (.int (x + y) :: st) σ r := r_iadd d211_1084
theorem d211_1085 : decode (mC 211) 1085 = .ok (.iaload, 1) := by decide +kernel
theorem d211_1086 : decode (mC 211) 1086 = .ok (.aload_n 0, 1) := by decide +kernel
theorem x211_1086 {sc : aSc} {d : Nat} {r : aRes} {x0 : Nat} {a1 : Value} {a2 : Value} {a3 : Value} {st : List Value} {σ : aS} : Rn sc d 211 1086 [.ref x0, a1, a2, a3] st σ r ↔ Rn sc d 211 1087 [.ref x0, a1, a2, a3] (.ref x0 :: st) σ r := r_aload_n d211_1086 rfl
theorem d211_1087 : decode (mC 211) 1087 = .ok (.iload_n 3, 1) := by decide +kernel
theorem x211_1087 {sc : aSc} {d : Nat} {r : aRes} {a0 : Value} {a1 : Value} {a2 : Value} {x3 : Int32} {st : List Value} {σ : aS} : Rn sc d 211 1087 [a0, a1, a2, .int x3] st σ r ↔ Rn sc d 211 1088 [a0, a1, a2, .int x3] (.int x3 :: st) σ r := r_iload_n d211_1087 rfl
theorem d211_1088 : decode (mC 211) 1088 = .ok (.iconst 2, 1) := by decide +kernel
theorem x211_1088 {sc : aSc} {d : Nat} {r : aRes} {L : List Value} {st : List Value} {σ : aS} : Rn sc d 211 1088 L st σ r ↔ Rn sc d 211 1089 L (.int 2 :: st) σ r := r_iconst d211_1088 (by decide)
theorem d211_1089 : decode (mC 211) 1089 = .ok (.iadd, 1) := by decide +kernel
theorem x211_1089 {sc : aSc} {d : Nat} {r : aRes} {L : List Value} {st : List Value} {σ : aS} {x y : Int32} : Rn sc d 211 1089 L (.int y :: .int x :: st) σ r ↔ Rn sc d 211 1090 L (.int (x + y) :: st) σ r := r_iadd d211_1089
theorem d211_1090 : decode (mC 211) 1090 = .ok (.iaload, 1) := by decide +kernel
theorem d211_1091 : decode (mC 211) 1091 = .ok (.invokevirtual 143, 3) := by decide +kernel
theorem x211_1091 {sc : aSc} {d : Nat} {r : aRes} {L : List Value} {f : Nat → Nat → Int32} {g : Nat → Nat → Int64} {h1 h2 : Nat} {y0 : Int32} {y1 : Int32} {z0 : Int32} {o : Nat} (hK : KK[o]? = some (.inl 7)) : Rn sc d 211 1091 L [.int y0, .int y1, .ref o, .int z0] (cS f g h1 h2) r ↔ ∃ (σ3 : aS) (v : Option Value), Cl sc d 187 [.ref o, .int y1, .int y0] (cS f g h1 h2) (σ3, v) ∧ Rn sc d 211 1094 L (v.toList ++ [.int z0]) σ3 r := r_callV (vs := [.int y0, .int y1]) d211_1091 (j := 187) (by decide +kernel) ⟨rfl, by decide, rfl, rfl⟩ (Nat.le_of_ble_eq_true rfl) hK
theorem d211_1094 : decode (mC 211) 1094 = .ok (.if_icmp .eq 241, 3) := by decide +kernel
theorem x211_1094 {sc : aSc} {d : Nat} {r : aRes} {L : List Value} {st : List Value} {σ : aS} {x y : Int32} : Rn sc d 211 1094 L (.int y :: .int x :: st) σ r ↔ if x = y then Rn sc d 211 1335 L st σ r else Rn sc d 211 1097 L st σ r := r_icmp_eq d211_1094 rfl
theorem d211_1097 : decode (mC 211) 1097 = .ok (.iconst 0, 1) := by decide +kernel
theorem x211_1097 {sc : aSc} {d : Nat} {r : aRes} {L : List Value} {st : List Value} {σ : aS} : Rn sc d 211 1097 L st σ r ↔ Rn sc d 211 1098 L (.int 0 :: st) σ r := r_iconst d211_1097 (by decide)
theorem d211_1098 : decode (mC 211) 1098 = .ok (.ireturn, 1) := by decide +kernel
theorem d211_1099 : decode (mC 211) 1099 = .ok (.aload_n 1, 1) := by decide +kernel
theorem x211_1099 {sc : aSc} {d : Nat} {r : aRes} {a0 : Value} {x1 : Nat} {a2 : Value} {a3 : Value} {st : List Value} {σ : aS} : Rn sc d 211 1099 [a0, .ref x1, a2, a3] st σ r ↔ Rn sc d 211 1100 [a0, .ref x1, a2, a3] (.ref x1 :: st) σ r := r_aload_n d211_1099 rfl
theorem d211_1100 : decode (mC 211) 1100 = .ok (.aload_n 0, 1) := by decide +kernel
theorem x211_1100 {sc : aSc} {d : Nat} {r : aRes} {x0 : Nat} {a1 : Value} {a2 : Value} {a3 : Value} {st : List Value} {σ : aS} : Rn sc d 211 1100 [.ref x0, a1, a2, a3] st σ r ↔ Rn sc d 211 1101 [.ref x0, a1, a2, a3] (.ref x0 :: st) σ r := r_aload_n d211_1100 rfl
theorem d211_1101 : decode (mC 211) 1101 = .ok (.iload_n 3, 1) := by decide +kernel
theorem x211_1101 {sc : aSc} {d : Nat} {r : aRes} {a0 : Value} {a1 : Value} {a2 : Value} {x3 : Int32} {st : List Value} {σ : aS} : Rn sc d 211 1101 [a0, a1, a2, .int x3] st σ r ↔ Rn sc d 211 1102 [a0, a1, a2, .int x3] (.int x3 :: st) σ r := r_iload_n d211_1101 rfl
theorem d211_1102 : decode (mC 211) 1102 = .ok (.iconst 1, 1) := by decide +kernel
theorem x211_1102 {sc : aSc} {d : Nat} {r : aRes} {L : List Value} {st : List Value} {σ : aS} : Rn sc d 211 1102 L st σ r ↔ Rn sc d 211 1103 L (.int 1 :: st) σ r := r_iconst d211_1102 (by decide)
theorem d211_1103 : decode (mC 211) 1103 = .ok (.iadd, 1) := by decide +kernel
theorem x211_1103 {sc : aSc} {d : Nat} {r : aRes} {L : List Value} {st : List Value} {σ : aS} {x y : Int32} : Rn sc d 211 1103 L (.int y :: .int x :: st) σ r ↔ Rn sc d 211 1104 L (.int (x + y) :: st) σ r := r_iadd d211_1103
theorem d211_1104 : decode (mC 211) 1104 = .ok (.iaload, 1) := by decide +kernel
theorem d211_1105 : decode (mC 211) 1105 = .ok (.invokevirtual 144, 3) := by decide +kernel
theorem x211_1105 {sc : aSc} {d : Nat} {r : aRes} {L : List Value} {f : Nat → Nat → Int32} {g : Nat → Nat → Int64} {h1 h2 : Nat} {y0 : Int32}  {o : Nat} (hK : KK[o]? = some (.inl 6)) : Rn sc d 211 1105 L [.int y0, .ref o] (cS f g h1 h2) r ↔ ∃ (σ3 : aS) (v : Option Value), Cl sc d 97 [.ref o, .int y0] (cS f g h1 h2) (σ3, v) ∧ Rn sc d 211 1108 L (v.toList ++ []) σ3 r := r_callV (vs := [.int y0]) d211_1105 (j := 97) (by decide +kernel) ⟨rfl, by decide, rfl, rfl⟩ (Nat.le_of_ble_eq_true rfl) hK
theorem d211_1108 : decode (mC 211) 1108 = .ok (.aload_n 2, 1) := by decide +kernel
theorem x211_1108 {sc : aSc} {d : Nat} {r : aRes} {a0 : Value} {a1 : Value} {x2 : Nat} {a3 : Value} {st : List Value} {σ : aS} : Rn sc d 211 1108 [a0, a1, .ref x2, a3] st σ r ↔ Rn sc d 211 1109 [a0, a1, .ref x2, a3] (.ref x2 :: st) σ r := r_aload_n d211_1108 rfl
theorem d211_1109 : decode (mC 211) 1109 = .ok (.aload_n 0, 1) := by decide +kernel
theorem x211_1109 {sc : aSc} {d : Nat} {r : aRes} {x0 : Nat} {a1 : Value} {a2 : Value} {a3 : Value} {st : List Value} {σ : aS} : Rn sc d 211 1109 [.ref x0, a1, a2, a3] st σ r ↔ Rn sc d 211 1110 [.ref x0, a1, a2, a3] (.ref x0 :: st) σ r := r_aload_n d211_1109 rfl
theorem d211_1110 : decode (mC 211) 1110 = .ok (.iload_n 3, 1) := by decide +kernel
theorem x211_1110 {sc : aSc} {d : Nat} {r : aRes} {a0 : Value} {a1 : Value} {a2 : Value} {x3 : Int32} {st : List Value} {σ : aS} : Rn sc d 211 1110 [a0, a1, a2, .int x3] st σ r ↔ Rn sc d 211 1111 [a0, a1, a2, .int x3] (.int x3 :: st) σ r := r_iload_n d211_1110 rfl
theorem d211_1111 : decode (mC 211) 1111 = .ok (.iconst 1, 1) := by decide +kernel
theorem x211_1111 {sc : aSc} {d : Nat} {r : aRes} {L : List Value} {st : List Value} {σ : aS} : Rn sc d 211 1111 L st σ r ↔ Rn sc d 211 1112 L (.int 1 :: st) σ r := r_iconst d211_1111 (by decide)
theorem d211_1112 : decode (mC 211) 1112 = .ok (.iadd, 1) := by decide +kernel
theorem x211_1112 {sc : aSc} {d : Nat} {r : aRes} {L : List Value} {st : List Value} {σ : aS} {x y : Int32} : Rn sc d 211 1112 L (.int y :: .int x :: st) σ r ↔ Rn sc d 211 1113 L (.int (x + y) :: st) σ r := r_iadd d211_1112
theorem d211_1113 : decode (mC 211) 1113 = .ok (.iaload, 1) := by decide +kernel
theorem d211_1114 : decode (mC 211) 1114 = .ok (.invokevirtual 147, 3) := by decide +kernel
theorem x211_1114 {sc : aSc} {d : Nat} {r : aRes} {L : List Value} {f : Nat → Nat → Int32} {g : Nat → Nat → Int64} {h1 h2 : Nat} {y0 : Int32} {z0 : Int32} {o : Nat} (hK : KK[o]? = some (.inl 7)) : Rn sc d 211 1114 L [.int y0, .ref o, .int z0] (cS f g h1 h2) r ↔ ∃ (σ3 : aS) (v : Option Value), Cl sc d 188 [.ref o, .int y0] (cS f g h1 h2) (σ3, v) ∧ Rn sc d 211 1117 L (v.toList ++ [.int z0]) σ3 r := r_callV (vs := [.int y0]) d211_1114 (j := 188) (by decide +kernel) ⟨rfl, by decide, rfl, rfl⟩ (Nat.le_of_ble_eq_true rfl) hK
theorem d211_1117 : decode (mC 211) 1117 = .ok (.if_icmp .eq 218, 3) := by decide +kernel
theorem x211_1117 {sc : aSc} {d : Nat} {r : aRes} {L : List Value} {st : List Value} {σ : aS} {x y : Int32} : Rn sc d 211 1117 L (.int y :: .int x :: st) σ r ↔ if x = y then Rn sc d 211 1335 L st σ r else Rn sc d 211 1120 L st σ r := r_icmp_eq d211_1117 rfl
theorem d211_1120 : decode (mC 211) 1120 = .ok (.iconst 0, 1) := by decide +kernel
theorem x211_1120 {sc : aSc} {d : Nat} {r : aRes} {L : List Value} {st : List Value} {σ : aS} : Rn sc d 211 1120 L st σ r ↔ Rn sc d 211 1121 L (.int 0 :: st) σ r := r_iconst d211_1120 (by decide)
theorem d211_1121 : decode (mC 211) 1121 = .ok (.ireturn, 1) := by decide +kernel
theorem d211_1122 : decode (mC 211) 1122 = .ok (.aload_n 1, 1) := by decide +kernel
theorem x211_1122 {sc : aSc} {d : Nat} {r : aRes} {a0 : Value} {x1 : Nat} {a2 : Value} {a3 : Value} {st : List Value} {σ : aS} : Rn sc d 211 1122 [a0, .ref x1, a2, a3] st σ r ↔ Rn sc d 211 1123 [a0, .ref x1, a2, a3] (.ref x1 :: st) σ r := r_aload_n d211_1122 rfl
theorem d211_1123 : decode (mC 211) 1123 = .ok (.aload_n 0, 1) := by decide +kernel
theorem x211_1123 {sc : aSc} {d : Nat} {r : aRes} {x0 : Nat} {a1 : Value} {a2 : Value} {a3 : Value} {st : List Value} {σ : aS} : Rn sc d 211 1123 [.ref x0, a1, a2, a3] st σ r ↔ Rn sc d 211 1124 [.ref x0, a1, a2, a3] (.ref x0 :: st) σ r := r_aload_n d211_1123 rfl
theorem d211_1124 : decode (mC 211) 1124 = .ok (.iload_n 3, 1) := by decide +kernel
theorem x211_1124 {sc : aSc} {d : Nat} {r : aRes} {a0 : Value} {a1 : Value} {a2 : Value} {x3 : Int32} {st : List Value} {σ : aS} : Rn sc d 211 1124 [a0, a1, a2, .int x3] st σ r ↔ Rn sc d 211 1125 [a0, a1, a2, .int x3] (.int x3 :: st) σ r := r_iload_n d211_1124 rfl
theorem d211_1125 : decode (mC 211) 1125 = .ok (.iconst 1, 1) := by decide +kernel
theorem x211_1125 {sc : aSc} {d : Nat} {r : aRes} {L : List Value} {st : List Value} {σ : aS} : Rn sc d 211 1125 L st σ r ↔ Rn sc d 211 1126 L (.int 1 :: st) σ r := r_iconst d211_1125 (by decide)
theorem d211_1126 : decode (mC 211) 1126 = .ok (.iadd, 1) := by decide +kernel
theorem x211_1126 {sc : aSc} {d : Nat} {r : aRes} {L : List Value} {st : List Value} {σ : aS} {x y : Int32} : Rn sc d 211 1126 L (.int y :: .int x :: st) σ r ↔ Rn sc d 211 1127 L (.int (x + y) :: st) σ r := r_iadd d211_1126
theorem d211_1127 : decode (mC 211) 1127 = .ok (.iaload, 1) := by decide +kernel
theorem d211_1128 : decode (mC 211) 1128 = .ok (.aload_n 0, 1) := by decide +kernel
theorem x211_1128 {sc : aSc} {d : Nat} {r : aRes} {x0 : Nat} {a1 : Value} {a2 : Value} {a3 : Value} {st : List Value} {σ : aS} : Rn sc d 211 1128 [.ref x0, a1, a2, a3] st σ r ↔ Rn sc d 211 1129 [.ref x0, a1, a2, a3] (.ref x0 :: st) σ r := r_aload_n d211_1128 rfl
theorem d211_1129 : decode (mC 211) 1129 = .ok (.iload_n 3, 1) := by decide +kernel
theorem x211_1129 {sc : aSc} {d : Nat} {r : aRes} {a0 : Value} {a1 : Value} {a2 : Value} {x3 : Int32} {st : List Value} {σ : aS} : Rn sc d 211 1129 [a0, a1, a2, .int x3] st σ r ↔ Rn sc d 211 1130 [a0, a1, a2, .int x3] (.int x3 :: st) σ r := r_iload_n d211_1129 rfl
theorem d211_1130 : decode (mC 211) 1130 = .ok (.iconst 2, 1) := by decide +kernel
theorem x211_1130 {sc : aSc} {d : Nat} {r : aRes} {L : List Value} {st : List Value} {σ : aS} : Rn sc d 211 1130 L st σ r ↔ Rn sc d 211 1131 L (.int 2 :: st) σ r := r_iconst d211_1130 (by decide)
theorem d211_1131 : decode (mC 211) 1131 = .ok (.iadd, 1) := by decide +kernel
theorem x211_1131 {sc : aSc} {d : Nat} {r : aRes} {L : List Value} {st : List Value} {σ : aS} {x y : Int32} : Rn sc d 211 1131 L (.int y :: .int x :: st) σ r ↔ Rn sc d 211 1132 L (.int (x + y) :: st) σ r := r_iadd d211_1131
theorem d211_1132 : decode (mC 211) 1132 = .ok (.iaload, 1) := by decide +kernel
theorem d211_1133 : decode (mC 211) 1133 = .ok (.aload_n 0, 1) := by decide +kernel
theorem x211_1133 {sc : aSc} {d : Nat} {r : aRes} {x0 : Nat} {a1 : Value} {a2 : Value} {a3 : Value} {st : List Value} {σ : aS} : Rn sc d 211 1133 [.ref x0, a1, a2, a3] st σ r ↔ Rn sc d 211 1134 [.ref x0, a1, a2, a3] (.ref x0 :: st) σ r := r_aload_n d211_1133 rfl
theorem d211_1134 : decode (mC 211) 1134 = .ok (.iload_n 3, 1) := by decide +kernel
theorem x211_1134 {sc : aSc} {d : Nat} {r : aRes} {a0 : Value} {a1 : Value} {a2 : Value} {x3 : Int32} {st : List Value} {σ : aS} : Rn sc d 211 1134 [a0, a1, a2, .int x3] st σ r ↔ Rn sc d 211 1135 [a0, a1, a2, .int x3] (.int x3 :: st) σ r := r_iload_n d211_1134 rfl
theorem d211_1135 : decode (mC 211) 1135 = .ok (.iconst 3, 1) := by decide +kernel
theorem x211_1135 {sc : aSc} {d : Nat} {r : aRes} {L : List Value} {st : List Value} {σ : aS} : Rn sc d 211 1135 L st σ r ↔ Rn sc d 211 1136 L (.int 3 :: st) σ r := r_iconst d211_1135 (by decide)
theorem d211_1136 : decode (mC 211) 1136 = .ok (.iadd, 1) := by decide +kernel
theorem x211_1136 {sc : aSc} {d : Nat} {r : aRes} {L : List Value} {st : List Value} {σ : aS} {x y : Int32} : Rn sc d 211 1136 L (.int y :: .int x :: st) σ r ↔ Rn sc d 211 1137 L (.int (x + y) :: st) σ r := r_iadd d211_1136
theorem d211_1137 : decode (mC 211) 1137 = .ok (.iaload, 1) := by decide +kernel
theorem d211_1138 : decode (mC 211) 1138 = .ok (.invokevirtual 148, 3) := by decide +kernel
theorem x211_1138 {sc : aSc} {d : Nat} {r : aRes} {L : List Value} {f : Nat → Nat → Int32} {g : Nat → Nat → Int64} {h1 h2 : Nat} {y0 : Int32} {y1 : Int32} {y2 : Int32}  {o : Nat} (hK : KK[o]? = some (.inl 6)) : Rn sc d 211 1138 L [.int y0, .int y1, .int y2, .ref o] (cS f g h1 h2) r ↔ ∃ (σ3 : aS) (v : Option Value), Cl sc d 98 [.ref o, .int y2, .int y1, .int y0] (cS f g h1 h2) (σ3, v) ∧ Rn sc d 211 1141 L (v.toList ++ []) σ3 r := r_callV (vs := [.int y0, .int y1, .int y2]) d211_1138 (j := 98) (by decide +kernel) ⟨rfl, by decide, rfl, rfl⟩ (Nat.le_of_ble_eq_true rfl) hK
theorem d211_1141 : decode (mC 211) 1141 = .ok (.aload_n 2, 1) := by decide +kernel
theorem x211_1141 {sc : aSc} {d : Nat} {r : aRes} {a0 : Value} {a1 : Value} {x2 : Nat} {a3 : Value} {st : List Value} {σ : aS} : Rn sc d 211 1141 [a0, a1, .ref x2, a3] st σ r ↔ Rn sc d 211 1142 [a0, a1, .ref x2, a3] (.ref x2 :: st) σ r := r_aload_n d211_1141 rfl
theorem d211_1142 : decode (mC 211) 1142 = .ok (.aload_n 0, 1) := by decide +kernel
theorem x211_1142 {sc : aSc} {d : Nat} {r : aRes} {x0 : Nat} {a1 : Value} {a2 : Value} {a3 : Value} {st : List Value} {σ : aS} : Rn sc d 211 1142 [.ref x0, a1, a2, a3] st σ r ↔ Rn sc d 211 1143 [.ref x0, a1, a2, a3] (.ref x0 :: st) σ r := r_aload_n d211_1142 rfl
theorem d211_1143 : decode (mC 211) 1143 = .ok (.iload_n 3, 1) := by decide +kernel
theorem x211_1143 {sc : aSc} {d : Nat} {r : aRes} {a0 : Value} {a1 : Value} {a2 : Value} {x3 : Int32} {st : List Value} {σ : aS} : Rn sc d 211 1143 [a0, a1, a2, .int x3] st σ r ↔ Rn sc d 211 1144 [a0, a1, a2, .int x3] (.int x3 :: st) σ r := r_iload_n d211_1143 rfl
theorem d211_1144 : decode (mC 211) 1144 = .ok (.iconst 1, 1) := by decide +kernel
theorem x211_1144 {sc : aSc} {d : Nat} {r : aRes} {L : List Value} {st : List Value} {σ : aS} : Rn sc d 211 1144 L st σ r ↔ Rn sc d 211 1145 L (.int 1 :: st) σ r := r_iconst d211_1144 (by decide)
theorem d211_1145 : decode (mC 211) 1145 = .ok (.iadd, 1) := by decide +kernel
theorem x211_1145 {sc : aSc} {d : Nat} {r : aRes} {L : List Value} {st : List Value} {σ : aS} {x y : Int32} : Rn sc d 211 1145 L (.int y :: .int x :: st) σ r ↔ Rn sc d 211 1146 L (.int (x + y) :: st) σ r := r_iadd d211_1145
theorem d211_1146 : decode (mC 211) 1146 = .ok (.iaload, 1) := by decide +kernel
theorem d211_1147 : decode (mC 211) 1147 = .ok (.aload_n 0, 1) := by decide +kernel
theorem x211_1147 {sc : aSc} {d : Nat} {r : aRes} {x0 : Nat} {a1 : Value} {a2 : Value} {a3 : Value} {st : List Value} {σ : aS} : Rn sc d 211 1147 [.ref x0, a1, a2, a3] st σ r ↔ Rn sc d 211 1148 [.ref x0, a1, a2, a3] (.ref x0 :: st) σ r := r_aload_n d211_1147 rfl
theorem d211_1148 : decode (mC 211) 1148 = .ok (.iload_n 3, 1) := by decide +kernel
theorem x211_1148 {sc : aSc} {d : Nat} {r : aRes} {a0 : Value} {a1 : Value} {a2 : Value} {x3 : Int32} {st : List Value} {σ : aS} : Rn sc d 211 1148 [a0, a1, a2, .int x3] st σ r ↔ Rn sc d 211 1149 [a0, a1, a2, .int x3] (.int x3 :: st) σ r := r_iload_n d211_1148 rfl
theorem d211_1149 : decode (mC 211) 1149 = .ok (.iconst 2, 1) := by decide +kernel
theorem x211_1149 {sc : aSc} {d : Nat} {r : aRes} {L : List Value} {st : List Value} {σ : aS} : Rn sc d 211 1149 L st σ r ↔ Rn sc d 211 1150 L (.int 2 :: st) σ r := r_iconst d211_1149 (by decide)
theorem d211_1150 : decode (mC 211) 1150 = .ok (.iadd, 1) := by decide +kernel
theorem x211_1150 {sc : aSc} {d : Nat} {r : aRes} {L : List Value} {st : List Value} {σ : aS} {x y : Int32} : Rn sc d 211 1150 L (.int y :: .int x :: st) σ r ↔ Rn sc d 211 1151 L (.int (x + y) :: st) σ r := r_iadd d211_1150
theorem d211_1151 : decode (mC 211) 1151 = .ok (.iaload, 1) := by decide +kernel
theorem d211_1152 : decode (mC 211) 1152 = .ok (.aload_n 0, 1) := by decide +kernel
theorem x211_1152 {sc : aSc} {d : Nat} {r : aRes} {x0 : Nat} {a1 : Value} {a2 : Value} {a3 : Value} {st : List Value} {σ : aS} : Rn sc d 211 1152 [.ref x0, a1, a2, a3] st σ r ↔ Rn sc d 211 1153 [.ref x0, a1, a2, a3] (.ref x0 :: st) σ r := r_aload_n d211_1152 rfl
theorem d211_1153 : decode (mC 211) 1153 = .ok (.iload_n 3, 1) := by decide +kernel
theorem x211_1153 {sc : aSc} {d : Nat} {r : aRes} {a0 : Value} {a1 : Value} {a2 : Value} {x3 : Int32} {st : List Value} {σ : aS} : Rn sc d 211 1153 [a0, a1, a2, .int x3] st σ r ↔ Rn sc d 211 1154 [a0, a1, a2, .int x3] (.int x3 :: st) σ r := r_iload_n d211_1153 rfl
theorem d211_1154 : decode (mC 211) 1154 = .ok (.iconst 3, 1) := by decide +kernel
theorem x211_1154 {sc : aSc} {d : Nat} {r : aRes} {L : List Value} {st : List Value} {σ : aS} : Rn sc d 211 1154 L st σ r ↔ Rn sc d 211 1155 L (.int 3 :: st) σ r := r_iconst d211_1154 (by decide)
theorem d211_1155 : decode (mC 211) 1155 = .ok (.iadd, 1) := by decide +kernel
theorem x211_1155 {sc : aSc} {d : Nat} {r : aRes} {L : List Value} {st : List Value} {σ : aS} {x y : Int32} : Rn sc d 211 1155 L (.int y :: .int x :: st) σ r ↔ Rn sc d 211 1156 L (.int (x + y) :: st) σ r := r_iadd d211_1155
theorem d211_1156 : decode (mC 211) 1156 = .ok (.iaload, 1) := by decide +kernel
theorem d211_1157 : decode (mC 211) 1157 = .ok (.invokevirtual 151, 3) := by decide +kernel
theorem x211_1157 {sc : aSc} {d : Nat} {r : aRes} {L : List Value} {f : Nat → Nat → Int32} {g : Nat → Nat → Int64} {h1 h2 : Nat} {y0 : Int32} {y1 : Int32} {y2 : Int32} {z0 : Int32} {o : Nat} (hK : KK[o]? = some (.inl 7)) : Rn sc d 211 1157 L [.int y0, .int y1, .int y2, .ref o, .int z0] (cS f g h1 h2) r ↔ ∃ (σ3 : aS) (v : Option Value), Cl sc d 190 [.ref o, .int y2, .int y1, .int y0] (cS f g h1 h2) (σ3, v) ∧ Rn sc d 211 1160 L (v.toList ++ [.int z0]) σ3 r := r_callV (vs := [.int y0, .int y1, .int y2]) d211_1157 (j := 190) (by decide +kernel) ⟨rfl, by decide, rfl, rfl⟩ (Nat.le_of_ble_eq_true rfl) hK
theorem d211_1160 : decode (mC 211) 1160 = .ok (.if_icmp .eq 175, 3) := by decide +kernel
theorem x211_1160 {sc : aSc} {d : Nat} {r : aRes} {L : List Value} {st : List Value} {σ : aS} {x y : Int32} : Rn sc d 211 1160 L (.int y :: .int x :: st) σ r ↔ if x = y then Rn sc d 211 1335 L st σ r else Rn sc d 211 1163 L st σ r := r_icmp_eq d211_1160 rfl
theorem d211_1163 : decode (mC 211) 1163 = .ok (.iconst 0, 1) := by decide +kernel
theorem x211_1163 {sc : aSc} {d : Nat} {r : aRes} {L : List Value} {st : List Value} {σ : aS} : Rn sc d 211 1163 L st σ r ↔ Rn sc d 211 1164 L (.int 0 :: st) σ r := r_iconst d211_1163 (by decide)
theorem d211_1164 : decode (mC 211) 1164 = .ok (.ireturn, 1) := by decide +kernel
theorem d211_1165 : decode (mC 211) 1165 = .ok (.aload_n 1, 1) := by decide +kernel
theorem x211_1165 {sc : aSc} {d : Nat} {r : aRes} {a0 : Value} {x1 : Nat} {a2 : Value} {a3 : Value} {st : List Value} {σ : aS} : Rn sc d 211 1165 [a0, .ref x1, a2, a3] st σ r ↔ Rn sc d 211 1166 [a0, .ref x1, a2, a3] (.ref x1 :: st) σ r := r_aload_n d211_1165 rfl
theorem d211_1166 : decode (mC 211) 1166 = .ok (.aload_n 0, 1) := by decide +kernel
theorem x211_1166 {sc : aSc} {d : Nat} {r : aRes} {x0 : Nat} {a1 : Value} {a2 : Value} {a3 : Value} {st : List Value} {σ : aS} : Rn sc d 211 1166 [.ref x0, a1, a2, a3] st σ r ↔ Rn sc d 211 1167 [.ref x0, a1, a2, a3] (.ref x0 :: st) σ r := r_aload_n d211_1166 rfl
theorem d211_1167 : decode (mC 211) 1167 = .ok (.iload_n 3, 1) := by decide +kernel
theorem x211_1167 {sc : aSc} {d : Nat} {r : aRes} {a0 : Value} {a1 : Value} {a2 : Value} {x3 : Int32} {st : List Value} {σ : aS} : Rn sc d 211 1167 [a0, a1, a2, .int x3] st σ r ↔ Rn sc d 211 1168 [a0, a1, a2, .int x3] (.int x3 :: st) σ r := r_iload_n d211_1167 rfl
theorem d211_1168 : decode (mC 211) 1168 = .ok (.iconst 1, 1) := by decide +kernel
theorem x211_1168 {sc : aSc} {d : Nat} {r : aRes} {L : List Value} {st : List Value} {σ : aS} : Rn sc d 211 1168 L st σ r ↔ Rn sc d 211 1169 L (.int 1 :: st) σ r := r_iconst d211_1168 (by decide)
theorem d211_1169 : decode (mC 211) 1169 = .ok (.iadd, 1) := by decide +kernel
theorem x211_1169 {sc : aSc} {d : Nat} {r : aRes} {L : List Value} {st : List Value} {σ : aS} {x y : Int32} : Rn sc d 211 1169 L (.int y :: .int x :: st) σ r ↔ Rn sc d 211 1170 L (.int (x + y) :: st) σ r := r_iadd d211_1169
theorem d211_1170 : decode (mC 211) 1170 = .ok (.iaload, 1) := by decide +kernel
theorem d211_1171 : decode (mC 211) 1171 = .ok (.aload_n 0, 1) := by decide +kernel
theorem x211_1171 {sc : aSc} {d : Nat} {r : aRes} {x0 : Nat} {a1 : Value} {a2 : Value} {a3 : Value} {st : List Value} {σ : aS} : Rn sc d 211 1171 [.ref x0, a1, a2, a3] st σ r ↔ Rn sc d 211 1172 [.ref x0, a1, a2, a3] (.ref x0 :: st) σ r := r_aload_n d211_1171 rfl
theorem d211_1172 : decode (mC 211) 1172 = .ok (.iload_n 3, 1) := by decide +kernel
theorem x211_1172 {sc : aSc} {d : Nat} {r : aRes} {a0 : Value} {a1 : Value} {a2 : Value} {x3 : Int32} {st : List Value} {σ : aS} : Rn sc d 211 1172 [a0, a1, a2, .int x3] st σ r ↔ Rn sc d 211 1173 [a0, a1, a2, .int x3] (.int x3 :: st) σ r := r_iload_n d211_1172 rfl
theorem d211_1173 : decode (mC 211) 1173 = .ok (.iconst 2, 1) := by decide +kernel
theorem x211_1173 {sc : aSc} {d : Nat} {r : aRes} {L : List Value} {st : List Value} {σ : aS} : Rn sc d 211 1173 L st σ r ↔ Rn sc d 211 1174 L (.int 2 :: st) σ r := r_iconst d211_1173 (by decide)
theorem d211_1174 : decode (mC 211) 1174 = .ok (.iadd, 1) := by decide +kernel
theorem x211_1174 {sc : aSc} {d : Nat} {r : aRes} {L : List Value} {st : List Value} {σ : aS} {x y : Int32} : Rn sc d 211 1174 L (.int y :: .int x :: st) σ r ↔ Rn sc d 211 1175 L (.int (x + y) :: st) σ r := r_iadd d211_1174
theorem d211_1175 : decode (mC 211) 1175 = .ok (.iaload, 1) := by decide +kernel
theorem d211_1176 : decode (mC 211) 1176 = .ok (.aload_n 0, 1) := by decide +kernel
theorem x211_1176 {sc : aSc} {d : Nat} {r : aRes} {x0 : Nat} {a1 : Value} {a2 : Value} {a3 : Value} {st : List Value} {σ : aS} : Rn sc d 211 1176 [.ref x0, a1, a2, a3] st σ r ↔ Rn sc d 211 1177 [.ref x0, a1, a2, a3] (.ref x0 :: st) σ r := r_aload_n d211_1176 rfl
theorem d211_1177 : decode (mC 211) 1177 = .ok (.iload_n 3, 1) := by decide +kernel
theorem x211_1177 {sc : aSc} {d : Nat} {r : aRes} {a0 : Value} {a1 : Value} {a2 : Value} {x3 : Int32} {st : List Value} {σ : aS} : Rn sc d 211 1177 [a0, a1, a2, .int x3] st σ r ↔ Rn sc d 211 1178 [a0, a1, a2, .int x3] (.int x3 :: st) σ r := r_iload_n d211_1177 rfl
theorem d211_1178 : decode (mC 211) 1178 = .ok (.iconst 3, 1) := by decide +kernel
theorem x211_1178 {sc : aSc} {d : Nat} {r : aRes} {L : List Value} {st : List Value} {σ : aS} : Rn sc d 211 1178 L st σ r ↔ Rn sc d 211 1179 L (.int 3 :: st) σ r := r_iconst d211_1178 (by decide)
theorem d211_1179 : decode (mC 211) 1179 = .ok (.iadd, 1) := by decide +kernel
theorem x211_1179 {sc : aSc} {d : Nat} {r : aRes} {L : List Value} {st : List Value} {σ : aS} {x y : Int32} : Rn sc d 211 1179 L (.int y :: .int x :: st) σ r ↔ Rn sc d 211 1180 L (.int (x + y) :: st) σ r := r_iadd d211_1179
theorem d211_1180 : decode (mC 211) 1180 = .ok (.iaload, 1) := by decide +kernel
theorem d211_1181 : decode (mC 211) 1181 = .ok (.i2l, 1) := by decide +kernel
theorem x211_1181 {sc : aSc} {d : Nat} {r : aRes} {L : List Value} {st : List Value} {σ : aS} {x : Int32} : Rn sc d 211 1181 L (.int x :: st) σ r ↔ Rn sc d 211 1182 L (.long x.toInt64 :: st) σ r := r_i2l d211_1181
theorem d211_1182 : decode (mC 211) 1182 = .ok (.bipush 32, 2) := by decide +kernel
theorem x211_1182 {sc : aSc} {d : Nat} {r : aRes} {L : List Value} {st : List Value} {σ : aS} : Rn sc d 211 1182 L st σ r ↔ Rn sc d 211 1184 L (.int 32 :: st) σ r := r_bipush d211_1182 (by decide)
theorem d211_1184 : decode (mC 211) 1184 = .ok (.lshl, 1) := by decide +kernel
theorem x211_1184 {sc : aSc} {d : Nat} {r : aRes} {L : List Value} {st : List Value} {σ : aS} {x : Int64} {y : Int32} : Rn sc d 211 1184 L (.int y :: .long x :: st) σ r ↔ Rn sc d 211 1185 L (.long (x <<< (y.toInt64 &&& 63)) :: st) σ r := r_lshl d211_1184
theorem d211_1185 : decode (mC 211) 1185 = .ok (.aload_n 0, 1) := by decide +kernel
theorem x211_1185 {sc : aSc} {d : Nat} {r : aRes} {x0 : Nat} {a1 : Value} {a2 : Value} {a3 : Value} {st : List Value} {σ : aS} : Rn sc d 211 1185 [.ref x0, a1, a2, a3] st σ r ↔ Rn sc d 211 1186 [.ref x0, a1, a2, a3] (.ref x0 :: st) σ r := r_aload_n d211_1185 rfl
theorem d211_1186 : decode (mC 211) 1186 = .ok (.iload_n 3, 1) := by decide +kernel
theorem x211_1186 {sc : aSc} {d : Nat} {r : aRes} {a0 : Value} {a1 : Value} {a2 : Value} {x3 : Int32} {st : List Value} {σ : aS} : Rn sc d 211 1186 [a0, a1, a2, .int x3] st σ r ↔ Rn sc d 211 1187 [a0, a1, a2, .int x3] (.int x3 :: st) σ r := r_iload_n d211_1186 rfl
theorem d211_1187 : decode (mC 211) 1187 = .ok (.iconst 4, 1) := by decide +kernel
theorem x211_1187 {sc : aSc} {d : Nat} {r : aRes} {L : List Value} {st : List Value} {σ : aS} : Rn sc d 211 1187 L st σ r ↔ Rn sc d 211 1188 L (.int 4 :: st) σ r := r_iconst d211_1187 (by decide)
theorem d211_1188 : decode (mC 211) 1188 = .ok (.iadd, 1) := by decide +kernel
theorem x211_1188 {sc : aSc} {d : Nat} {r : aRes} {L : List Value} {st : List Value} {σ : aS} {x y : Int32} : Rn sc d 211 1188 L (.int y :: .int x :: st) σ r ↔ Rn sc d 211 1189 L (.int (x + y) :: st) σ r := r_iadd d211_1188
theorem d211_1189 : decode (mC 211) 1189 = .ok (.iaload, 1) := by decide +kernel
theorem d211_1190 : decode (mC 211) 1190 = .ok (.i2l, 1) := by decide +kernel
theorem x211_1190 {sc : aSc} {d : Nat} {r : aRes} {L : List Value} {st : List Value} {σ : aS} {x : Int32} : Rn sc d 211 1190 L (.int x :: st) σ r ↔ Rn sc d 211 1191 L (.long x.toInt64 :: st) σ r := r_i2l d211_1190
theorem d211_1191 : decode (mC 211) 1191 = .ok (.ldc2_w 152, 3) := by decide +kernel
theorem x211_1191 {sc : aSc} {d : Nat} {r : aRes} {L : List Value} {st : List Value} {σ : aS} : Rn sc d 211 1191 L st σ r ↔ Rn sc d 211 1194 L (.long (4294967295) :: st) σ r := r_ldc2_w d211_1191 (by decide +kernel)
theorem d211_1194 : decode (mC 211) 1194 = .ok (.land, 1) := by decide +kernel
theorem x211_1194 {sc : aSc} {d : Nat} {r : aRes} {L : List Value} {st : List Value} {σ : aS} {x y : Int64} : Rn sc d 211 1194 L (.long y :: .long x :: st) σ r ↔ Rn sc d 211 1195 L (.long (x &&& y) :: st) σ r := r_land d211_1194
theorem d211_1195 : decode (mC 211) 1195 = .ok (.lor, 1) := by decide +kernel
theorem x211_1195 {sc : aSc} {d : Nat} {r : aRes} {L : List Value} {st : List Value} {σ : aS} {x y : Int64} : Rn sc d 211 1195 L (.long y :: .long x :: st) σ r ↔ Rn sc d 211 1196 L (.long (x ||| y) :: st) σ r := r_lor d211_1195
theorem d211_1196 : decode (mC 211) 1196 = .ok (.invokevirtual 154, 3) := by decide +kernel
theorem x211_1196 {sc : aSc} {d : Nat} {r : aRes} {L : List Value} {f : Nat → Nat → Int32} {g : Nat → Nat → Int64} {h1 h2 : Nat} {y0 : Int64} {y1 : Int32} {y2 : Int32}  {o : Nat} (hK : KK[o]? = some (.inl 6)) : Rn sc d 211 1196 L [.long y0, .int y1, .int y2, .ref o] (cS f g h1 h2) r ↔ ∃ (σ3 : aS) (v : Option Value), Cl sc d 99 [.ref o, .int y2, .int y1, .long y0] (cS f g h1 h2) (σ3, v) ∧ Rn sc d 211 1199 L (v.toList ++ []) σ3 r := r_callV (vs := [.long y0, .int y1, .int y2]) d211_1196 (j := 99) (by decide +kernel) ⟨rfl, by decide, rfl, rfl⟩ (Nat.le_of_ble_eq_true rfl) hK
theorem d211_1199 : decode (mC 211) 1199 = .ok (.aload_n 2, 1) := by decide +kernel
theorem x211_1199 {sc : aSc} {d : Nat} {r : aRes} {a0 : Value} {a1 : Value} {x2 : Nat} {a3 : Value} {st : List Value} {σ : aS} : Rn sc d 211 1199 [a0, a1, .ref x2, a3] st σ r ↔ Rn sc d 211 1200 [a0, a1, .ref x2, a3] (.ref x2 :: st) σ r := r_aload_n d211_1199 rfl
theorem d211_1200 : decode (mC 211) 1200 = .ok (.aload_n 0, 1) := by decide +kernel
theorem x211_1200 {sc : aSc} {d : Nat} {r : aRes} {x0 : Nat} {a1 : Value} {a2 : Value} {a3 : Value} {st : List Value} {σ : aS} : Rn sc d 211 1200 [.ref x0, a1, a2, a3] st σ r ↔ Rn sc d 211 1201 [.ref x0, a1, a2, a3] (.ref x0 :: st) σ r := r_aload_n d211_1200 rfl
theorem d211_1201 : decode (mC 211) 1201 = .ok (.iload_n 3, 1) := by decide +kernel
theorem x211_1201 {sc : aSc} {d : Nat} {r : aRes} {a0 : Value} {a1 : Value} {a2 : Value} {x3 : Int32} {st : List Value} {σ : aS} : Rn sc d 211 1201 [a0, a1, a2, .int x3] st σ r ↔ Rn sc d 211 1202 [a0, a1, a2, .int x3] (.int x3 :: st) σ r := r_iload_n d211_1201 rfl
theorem d211_1202 : decode (mC 211) 1202 = .ok (.iconst 1, 1) := by decide +kernel
theorem x211_1202 {sc : aSc} {d : Nat} {r : aRes} {L : List Value} {st : List Value} {σ : aS} : Rn sc d 211 1202 L st σ r ↔ Rn sc d 211 1203 L (.int 1 :: st) σ r := r_iconst d211_1202 (by decide)
theorem d211_1203 : decode (mC 211) 1203 = .ok (.iadd, 1) := by decide +kernel
theorem x211_1203 {sc : aSc} {d : Nat} {r : aRes} {L : List Value} {st : List Value} {σ : aS} {x y : Int32} : Rn sc d 211 1203 L (.int y :: .int x :: st) σ r ↔ Rn sc d 211 1204 L (.int (x + y) :: st) σ r := r_iadd d211_1203
theorem d211_1204 : decode (mC 211) 1204 = .ok (.iaload, 1) := by decide +kernel
theorem d211_1205 : decode (mC 211) 1205 = .ok (.aload_n 0, 1) := by decide +kernel
theorem x211_1205 {sc : aSc} {d : Nat} {r : aRes} {x0 : Nat} {a1 : Value} {a2 : Value} {a3 : Value} {st : List Value} {σ : aS} : Rn sc d 211 1205 [.ref x0, a1, a2, a3] st σ r ↔ Rn sc d 211 1206 [.ref x0, a1, a2, a3] (.ref x0 :: st) σ r := r_aload_n d211_1205 rfl
theorem d211_1206 : decode (mC 211) 1206 = .ok (.iload_n 3, 1) := by decide +kernel
theorem x211_1206 {sc : aSc} {d : Nat} {r : aRes} {a0 : Value} {a1 : Value} {a2 : Value} {x3 : Int32} {st : List Value} {σ : aS} : Rn sc d 211 1206 [a0, a1, a2, .int x3] st σ r ↔ Rn sc d 211 1207 [a0, a1, a2, .int x3] (.int x3 :: st) σ r := r_iload_n d211_1206 rfl
theorem d211_1207 : decode (mC 211) 1207 = .ok (.iconst 2, 1) := by decide +kernel
theorem x211_1207 {sc : aSc} {d : Nat} {r : aRes} {L : List Value} {st : List Value} {σ : aS} : Rn sc d 211 1207 L st σ r ↔ Rn sc d 211 1208 L (.int 2 :: st) σ r := r_iconst d211_1207 (by decide)
theorem d211_1208 : decode (mC 211) 1208 = .ok (.iadd, 1) := by decide +kernel
theorem x211_1208 {sc : aSc} {d : Nat} {r : aRes} {L : List Value} {st : List Value} {σ : aS} {x y : Int32} : Rn sc d 211 1208 L (.int y :: .int x :: st) σ r ↔ Rn sc d 211 1209 L (.int (x + y) :: st) σ r := r_iadd d211_1208
theorem d211_1209 : decode (mC 211) 1209 = .ok (.iaload, 1) := by decide +kernel
theorem d211_1210 : decode (mC 211) 1210 = .ok (.aload_n 0, 1) := by decide +kernel
theorem x211_1210 {sc : aSc} {d : Nat} {r : aRes} {x0 : Nat} {a1 : Value} {a2 : Value} {a3 : Value} {st : List Value} {σ : aS} : Rn sc d 211 1210 [.ref x0, a1, a2, a3] st σ r ↔ Rn sc d 211 1211 [.ref x0, a1, a2, a3] (.ref x0 :: st) σ r := r_aload_n d211_1210 rfl
theorem d211_1211 : decode (mC 211) 1211 = .ok (.iload_n 3, 1) := by decide +kernel
theorem x211_1211 {sc : aSc} {d : Nat} {r : aRes} {a0 : Value} {a1 : Value} {a2 : Value} {x3 : Int32} {st : List Value} {σ : aS} : Rn sc d 211 1211 [a0, a1, a2, .int x3] st σ r ↔ Rn sc d 211 1212 [a0, a1, a2, .int x3] (.int x3 :: st) σ r := r_iload_n d211_1211 rfl
theorem d211_1212 : decode (mC 211) 1212 = .ok (.iconst 3, 1) := by decide +kernel
theorem x211_1212 {sc : aSc} {d : Nat} {r : aRes} {L : List Value} {st : List Value} {σ : aS} : Rn sc d 211 1212 L st σ r ↔ Rn sc d 211 1213 L (.int 3 :: st) σ r := r_iconst d211_1212 (by decide)
theorem d211_1213 : decode (mC 211) 1213 = .ok (.iadd, 1) := by decide +kernel
theorem x211_1213 {sc : aSc} {d : Nat} {r : aRes} {L : List Value} {st : List Value} {σ : aS} {x y : Int32} : Rn sc d 211 1213 L (.int y :: .int x :: st) σ r ↔ Rn sc d 211 1214 L (.int (x + y) :: st) σ r := r_iadd d211_1213
theorem d211_1214 : decode (mC 211) 1214 = .ok (.iaload, 1) := by decide +kernel
theorem d211_1215 : decode (mC 211) 1215 = .ok (.i2l, 1) := by decide +kernel
theorem x211_1215 {sc : aSc} {d : Nat} {r : aRes} {L : List Value} {st : List Value} {σ : aS} {x : Int32} : Rn sc d 211 1215 L (.int x :: st) σ r ↔ Rn sc d 211 1216 L (.long x.toInt64 :: st) σ r := r_i2l d211_1215
theorem d211_1216 : decode (mC 211) 1216 = .ok (.bipush 32, 2) := by decide +kernel
theorem x211_1216 {sc : aSc} {d : Nat} {r : aRes} {L : List Value} {st : List Value} {σ : aS} : Rn sc d 211 1216 L st σ r ↔ Rn sc d 211 1218 L (.int 32 :: st) σ r := r_bipush d211_1216 (by decide)
theorem d211_1218 : decode (mC 211) 1218 = .ok (.lshl, 1) := by decide +kernel
theorem x211_1218 {sc : aSc} {d : Nat} {r : aRes} {L : List Value} {st : List Value} {σ : aS} {x : Int64} {y : Int32} : Rn sc d 211 1218 L (.int y :: .long x :: st) σ r ↔ Rn sc d 211 1219 L (.long (x <<< (y.toInt64 &&& 63)) :: st) σ r := r_lshl d211_1218
theorem d211_1219 : decode (mC 211) 1219 = .ok (.aload_n 0, 1) := by decide +kernel
theorem x211_1219 {sc : aSc} {d : Nat} {r : aRes} {x0 : Nat} {a1 : Value} {a2 : Value} {a3 : Value} {st : List Value} {σ : aS} : Rn sc d 211 1219 [.ref x0, a1, a2, a3] st σ r ↔ Rn sc d 211 1220 [.ref x0, a1, a2, a3] (.ref x0 :: st) σ r := r_aload_n d211_1219 rfl
theorem d211_1220 : decode (mC 211) 1220 = .ok (.iload_n 3, 1) := by decide +kernel
theorem x211_1220 {sc : aSc} {d : Nat} {r : aRes} {a0 : Value} {a1 : Value} {a2 : Value} {x3 : Int32} {st : List Value} {σ : aS} : Rn sc d 211 1220 [a0, a1, a2, .int x3] st σ r ↔ Rn sc d 211 1221 [a0, a1, a2, .int x3] (.int x3 :: st) σ r := r_iload_n d211_1220 rfl
theorem d211_1221 : decode (mC 211) 1221 = .ok (.iconst 4, 1) := by decide +kernel
theorem x211_1221 {sc : aSc} {d : Nat} {r : aRes} {L : List Value} {st : List Value} {σ : aS} : Rn sc d 211 1221 L st σ r ↔ Rn sc d 211 1222 L (.int 4 :: st) σ r := r_iconst d211_1221 (by decide)
theorem d211_1222 : decode (mC 211) 1222 = .ok (.iadd, 1) := by decide +kernel
theorem x211_1222 {sc : aSc} {d : Nat} {r : aRes} {L : List Value} {st : List Value} {σ : aS} {x y : Int32} : Rn sc d 211 1222 L (.int y :: .int x :: st) σ r ↔ Rn sc d 211 1223 L (.int (x + y) :: st) σ r := r_iadd d211_1222
theorem d211_1223 : decode (mC 211) 1223 = .ok (.iaload, 1) := by decide +kernel
theorem d211_1224 : decode (mC 211) 1224 = .ok (.i2l, 1) := by decide +kernel
theorem x211_1224 {sc : aSc} {d : Nat} {r : aRes} {L : List Value} {st : List Value} {σ : aS} {x : Int32} : Rn sc d 211 1224 L (.int x :: st) σ r ↔ Rn sc d 211 1225 L (.long x.toInt64 :: st) σ r := r_i2l d211_1224
theorem d211_1225 : decode (mC 211) 1225 = .ok (.ldc2_w 152, 3) := by decide +kernel
theorem x211_1225 {sc : aSc} {d : Nat} {r : aRes} {L : List Value} {st : List Value} {σ : aS} : Rn sc d 211 1225 L st σ r ↔ Rn sc d 211 1228 L (.long (4294967295) :: st) σ r := r_ldc2_w d211_1225 (by decide +kernel)
theorem d211_1228 : decode (mC 211) 1228 = .ok (.land, 1) := by decide +kernel
theorem x211_1228 {sc : aSc} {d : Nat} {r : aRes} {L : List Value} {st : List Value} {σ : aS} {x y : Int64} : Rn sc d 211 1228 L (.long y :: .long x :: st) σ r ↔ Rn sc d 211 1229 L (.long (x &&& y) :: st) σ r := r_land d211_1228
theorem d211_1229 : decode (mC 211) 1229 = .ok (.lor, 1) := by decide +kernel
theorem x211_1229 {sc : aSc} {d : Nat} {r : aRes} {L : List Value} {st : List Value} {σ : aS} {x y : Int64} : Rn sc d 211 1229 L (.long y :: .long x :: st) σ r ↔ Rn sc d 211 1230 L (.long (x ||| y) :: st) σ r := r_lor d211_1229
theorem d211_1230 : decode (mC 211) 1230 = .ok (.invokevirtual 158, 3) := by decide +kernel
theorem x211_1230 {sc : aSc} {d : Nat} {r : aRes} {L : List Value} {f : Nat → Nat → Int32} {g : Nat → Nat → Int64} {h1 h2 : Nat} {y0 : Int64} {y1 : Int32} {y2 : Int32} {z0 : Int32} {o : Nat} (hK : KK[o]? = some (.inl 7)) : Rn sc d 211 1230 L [.long y0, .int y1, .int y2, .ref o, .int z0] (cS f g h1 h2) r ↔ ∃ (σ3 : aS) (v : Option Value), Cl sc d 192 [.ref o, .int y2, .int y1, .long y0] (cS f g h1 h2) (σ3, v) ∧ Rn sc d 211 1233 L (v.toList ++ [.int z0]) σ3 r := r_callV (vs := [.long y0, .int y1, .int y2]) d211_1230 (j := 192) (by decide +kernel) ⟨rfl, by decide, rfl, rfl⟩ (Nat.le_of_ble_eq_true rfl) hK
theorem d211_1233 : decode (mC 211) 1233 = .ok (.if_icmp .eq 102, 3) := by decide +kernel
theorem x211_1233 {sc : aSc} {d : Nat} {r : aRes} {L : List Value} {st : List Value} {σ : aS} {x y : Int32} : Rn sc d 211 1233 L (.int y :: .int x :: st) σ r ↔ if x = y then Rn sc d 211 1335 L st σ r else Rn sc d 211 1236 L st σ r := r_icmp_eq d211_1233 rfl
theorem d211_1236 : decode (mC 211) 1236 = .ok (.iconst 0, 1) := by decide +kernel
theorem x211_1236 {sc : aSc} {d : Nat} {r : aRes} {L : List Value} {st : List Value} {σ : aS} : Rn sc d 211 1236 L st σ r ↔ Rn sc d 211 1237 L (.int 0 :: st) σ r := r_iconst d211_1236 (by decide)
theorem d211_1237 : decode (mC 211) 1237 = .ok (.ireturn, 1) := by decide +kernel
theorem d211_1238 : decode (mC 211) 1238 = .ok (.aload_n 1, 1) := by decide +kernel
theorem x211_1238 {sc : aSc} {d : Nat} {r : aRes} {a0 : Value} {x1 : Nat} {a2 : Value} {a3 : Value} {st : List Value} {σ : aS} : Rn sc d 211 1238 [a0, .ref x1, a2, a3] st σ r ↔ Rn sc d 211 1239 [a0, .ref x1, a2, a3] (.ref x1 :: st) σ r := r_aload_n d211_1238 rfl
theorem d211_1239 : decode (mC 211) 1239 = .ok (.aload_n 0, 1) := by decide +kernel
theorem x211_1239 {sc : aSc} {d : Nat} {r : aRes} {x0 : Nat} {a1 : Value} {a2 : Value} {a3 : Value} {st : List Value} {σ : aS} : Rn sc d 211 1239 [.ref x0, a1, a2, a3] st σ r ↔ Rn sc d 211 1240 [.ref x0, a1, a2, a3] (.ref x0 :: st) σ r := r_aload_n d211_1239 rfl
theorem d211_1240 : decode (mC 211) 1240 = .ok (.iload_n 3, 1) := by decide +kernel
theorem x211_1240 {sc : aSc} {d : Nat} {r : aRes} {a0 : Value} {a1 : Value} {a2 : Value} {x3 : Int32} {st : List Value} {σ : aS} : Rn sc d 211 1240 [a0, a1, a2, .int x3] st σ r ↔ Rn sc d 211 1241 [a0, a1, a2, .int x3] (.int x3 :: st) σ r := r_iload_n d211_1240 rfl
theorem d211_1241 : decode (mC 211) 1241 = .ok (.iconst 1, 1) := by decide +kernel
theorem x211_1241 {sc : aSc} {d : Nat} {r : aRes} {L : List Value} {st : List Value} {σ : aS} : Rn sc d 211 1241 L st σ r ↔ Rn sc d 211 1242 L (.int 1 :: st) σ r := r_iconst d211_1241 (by decide)
theorem d211_1242 : decode (mC 211) 1242 = .ok (.iadd, 1) := by decide +kernel
theorem x211_1242 {sc : aSc} {d : Nat} {r : aRes} {L : List Value} {st : List Value} {σ : aS} {x y : Int32} : Rn sc d 211 1242 L (.int y :: .int x :: st) σ r ↔ Rn sc d 211 1243 L (.int (x + y) :: st) σ r := r_iadd d211_1242
theorem d211_1243 : decode (mC 211) 1243 = .ok (.iaload, 1) := by decide +kernel
theorem d211_1244 : decode (mC 211) 1244 = .ok (.aload_n 0, 1) := by decide +kernel
theorem x211_1244 {sc : aSc} {d : Nat} {r : aRes} {x0 : Nat} {a1 : Value} {a2 : Value} {a3 : Value} {st : List Value} {σ : aS} : Rn sc d 211 1244 [.ref x0, a1, a2, a3] st σ r ↔ Rn sc d 211 1245 [.ref x0, a1, a2, a3] (.ref x0 :: st) σ r := r_aload_n d211_1244 rfl
theorem d211_1245 : decode (mC 211) 1245 = .ok (.iload_n 3, 1) := by decide +kernel
theorem x211_1245 {sc : aSc} {d : Nat} {r : aRes} {a0 : Value} {a1 : Value} {a2 : Value} {x3 : Int32} {st : List Value} {σ : aS} : Rn sc d 211 1245 [a0, a1, a2, .int x3] st σ r ↔ Rn sc d 211 1246 [a0, a1, a2, .int x3] (.int x3 :: st) σ r := r_iload_n d211_1245 rfl
theorem d211_1246 : decode (mC 211) 1246 = .ok (.iconst 2, 1) := by decide +kernel
theorem x211_1246 {sc : aSc} {d : Nat} {r : aRes} {L : List Value} {st : List Value} {σ : aS} : Rn sc d 211 1246 L st σ r ↔ Rn sc d 211 1247 L (.int 2 :: st) σ r := r_iconst d211_1246 (by decide)
theorem d211_1247 : decode (mC 211) 1247 = .ok (.iadd, 1) := by decide +kernel
theorem x211_1247 {sc : aSc} {d : Nat} {r : aRes} {L : List Value} {st : List Value} {σ : aS} {x y : Int32} : Rn sc d 211 1247 L (.int y :: .int x :: st) σ r ↔ Rn sc d 211 1248 L (.int (x + y) :: st) σ r := r_iadd d211_1247
theorem d211_1248 : decode (mC 211) 1248 = .ok (.iaload, 1) := by decide +kernel
theorem d211_1249 : decode (mC 211) 1249 = .ok (.invokevirtual 159, 3) := by decide +kernel
theorem x211_1249 {sc : aSc} {d : Nat} {r : aRes} {L : List Value} {f : Nat → Nat → Int32} {g : Nat → Nat → Int64} {h1 h2 : Nat} {y0 : Int32} {y1 : Int32}  {o : Nat} (hK : KK[o]? = some (.inl 6)) : Rn sc d 211 1249 L [.int y0, .int y1, .ref o] (cS f g h1 h2) r ↔ ∃ (σ3 : aS) (v : Option Value), Cl sc d 100 [.ref o, .int y1, .int y0] (cS f g h1 h2) (σ3, v) ∧ Rn sc d 211 1252 L (v.toList ++ []) σ3 r := r_callV (vs := [.int y0, .int y1]) d211_1249 (j := 100) (by decide +kernel) ⟨rfl, by decide, rfl, rfl⟩ (Nat.le_of_ble_eq_true rfl) hK
theorem d211_1252 : decode (mC 211) 1252 = .ok (.aload_n 2, 1) := by decide +kernel
theorem x211_1252 {sc : aSc} {d : Nat} {r : aRes} {a0 : Value} {a1 : Value} {x2 : Nat} {a3 : Value} {st : List Value} {σ : aS} : Rn sc d 211 1252 [a0, a1, .ref x2, a3] st σ r ↔ Rn sc d 211 1253 [a0, a1, .ref x2, a3] (.ref x2 :: st) σ r := r_aload_n d211_1252 rfl
theorem d211_1253 : decode (mC 211) 1253 = .ok (.aload_n 0, 1) := by decide +kernel
theorem x211_1253 {sc : aSc} {d : Nat} {r : aRes} {x0 : Nat} {a1 : Value} {a2 : Value} {a3 : Value} {st : List Value} {σ : aS} : Rn sc d 211 1253 [.ref x0, a1, a2, a3] st σ r ↔ Rn sc d 211 1254 [.ref x0, a1, a2, a3] (.ref x0 :: st) σ r := r_aload_n d211_1253 rfl
theorem d211_1254 : decode (mC 211) 1254 = .ok (.iload_n 3, 1) := by decide +kernel
theorem x211_1254 {sc : aSc} {d : Nat} {r : aRes} {a0 : Value} {a1 : Value} {a2 : Value} {x3 : Int32} {st : List Value} {σ : aS} : Rn sc d 211 1254 [a0, a1, a2, .int x3] st σ r ↔ Rn sc d 211 1255 [a0, a1, a2, .int x3] (.int x3 :: st) σ r := r_iload_n d211_1254 rfl
theorem d211_1255 : decode (mC 211) 1255 = .ok (.iconst 1, 1) := by decide +kernel
theorem x211_1255 {sc : aSc} {d : Nat} {r : aRes} {L : List Value} {st : List Value} {σ : aS} : Rn sc d 211 1255 L st σ r ↔ Rn sc d 211 1256 L (.int 1 :: st) σ r := r_iconst d211_1255 (by decide)
theorem d211_1256 : decode (mC 211) 1256 = .ok (.iadd, 1) := by decide +kernel
theorem x211_1256 {sc : aSc} {d : Nat} {r : aRes} {L : List Value} {st : List Value} {σ : aS} {x y : Int32} : Rn sc d 211 1256 L (.int y :: .int x :: st) σ r ↔ Rn sc d 211 1257 L (.int (x + y) :: st) σ r := r_iadd d211_1256
theorem d211_1257 : decode (mC 211) 1257 = .ok (.iaload, 1) := by decide +kernel
theorem d211_1258 : decode (mC 211) 1258 = .ok (.aload_n 0, 1) := by decide +kernel
theorem x211_1258 {sc : aSc} {d : Nat} {r : aRes} {x0 : Nat} {a1 : Value} {a2 : Value} {a3 : Value} {st : List Value} {σ : aS} : Rn sc d 211 1258 [.ref x0, a1, a2, a3] st σ r ↔ Rn sc d 211 1259 [.ref x0, a1, a2, a3] (.ref x0 :: st) σ r := r_aload_n d211_1258 rfl
theorem d211_1259 : decode (mC 211) 1259 = .ok (.iload_n 3, 1) := by decide +kernel
theorem x211_1259 {sc : aSc} {d : Nat} {r : aRes} {a0 : Value} {a1 : Value} {a2 : Value} {x3 : Int32} {st : List Value} {σ : aS} : Rn sc d 211 1259 [a0, a1, a2, .int x3] st σ r ↔ Rn sc d 211 1260 [a0, a1, a2, .int x3] (.int x3 :: st) σ r := r_iload_n d211_1259 rfl
theorem d211_1260 : decode (mC 211) 1260 = .ok (.iconst 2, 1) := by decide +kernel
theorem x211_1260 {sc : aSc} {d : Nat} {r : aRes} {L : List Value} {st : List Value} {σ : aS} : Rn sc d 211 1260 L st σ r ↔ Rn sc d 211 1261 L (.int 2 :: st) σ r := r_iconst d211_1260 (by decide)
theorem d211_1261 : decode (mC 211) 1261 = .ok (.iadd, 1) := by decide +kernel
theorem x211_1261 {sc : aSc} {d : Nat} {r : aRes} {L : List Value} {st : List Value} {σ : aS} {x y : Int32} : Rn sc d 211 1261 L (.int y :: .int x :: st) σ r ↔ Rn sc d 211 1262 L (.int (x + y) :: st) σ r := r_iadd d211_1261
theorem d211_1262 : decode (mC 211) 1262 = .ok (.iaload, 1) := by decide +kernel
theorem d211_1263 : decode (mC 211) 1263 = .ok (.invokevirtual 163, 3) := by decide +kernel
theorem x211_1263 {sc : aSc} {d : Nat} {r : aRes} {L : List Value} {f : Nat → Nat → Int32} {g : Nat → Nat → Int64} {h1 h2 : Nat} {y0 : Int32} {y1 : Int32} {z0 : Int64} {o : Nat} (hK : KK[o]? = some (.inl 7)) : Rn sc d 211 1263 L [.int y0, .int y1, .ref o, .long z0] (cS f g h1 h2) r ↔ ∃ (σ3 : aS) (v : Option Value), Cl sc d 193 [.ref o, .int y1, .int y0] (cS f g h1 h2) (σ3, v) ∧ Rn sc d 211 1266 L (v.toList ++ [.long z0]) σ3 r := r_callV (vs := [.int y0, .int y1]) d211_1263 (j := 193) (by decide +kernel) ⟨rfl, by decide, rfl, rfl⟩ (Nat.le_of_ble_eq_true rfl) hK
theorem d211_1266 : decode (mC 211) 1266 = .ok (.lcmp, 1) := by decide +kernel
theorem x211_1266 {sc : aSc} {d : Nat} {r : aRes} {L : List Value} {st : List Value} {σ : aS} {x y : Int64} : Rn sc d 211 1266 L (.long y :: .long x :: st) σ r ↔ Rn sc d 211 1267 L (.int (lg_cmp x y) :: st) σ r := r_lcmp d211_1266
theorem d211_1267 : decode (mC 211) 1267 = .ok (.ifCond .eq 68, 3) := by decide +kernel
theorem x211_1267 {sc : aSc} {d : Nat} {r : aRes} {L : List Value} {st : List Value} {σ : aS} {x : Int32} : Rn sc d 211 1267 L (.int x :: st) σ r ↔ if x = 0 then Rn sc d 211 1335 L st σ r else Rn sc d 211 1270 L st σ r := r_if_eq d211_1267 rfl
theorem d211_1270 : decode (mC 211) 1270 = .ok (.iconst 0, 1) := by decide +kernel
theorem x211_1270 {sc : aSc} {d : Nat} {r : aRes} {L : List Value} {st : List Value} {σ : aS} : Rn sc d 211 1270 L st σ r ↔ Rn sc d 211 1271 L (.int 0 :: st) σ r := r_iconst d211_1270 (by decide)
theorem d211_1271 : decode (mC 211) 1271 = .ok (.ireturn, 1) := by decide +kernel
theorem d211_1272 : decode (mC 211) 1272 = .ok (.aload_n 1, 1) := by decide +kernel
theorem x211_1272 {sc : aSc} {d : Nat} {r : aRes} {a0 : Value} {x1 : Nat} {a2 : Value} {a3 : Value} {st : List Value} {σ : aS} : Rn sc d 211 1272 [a0, .ref x1, a2, a3] st σ r ↔ Rn sc d 211 1273 [a0, .ref x1, a2, a3] (.ref x1 :: st) σ r := r_aload_n d211_1272 rfl
theorem d211_1273 : decode (mC 211) 1273 = .ok (.aload_n 0, 1) := by decide +kernel
theorem x211_1273 {sc : aSc} {d : Nat} {r : aRes} {x0 : Nat} {a1 : Value} {a2 : Value} {a3 : Value} {st : List Value} {σ : aS} : Rn sc d 211 1273 [.ref x0, a1, a2, a3] st σ r ↔ Rn sc d 211 1274 [.ref x0, a1, a2, a3] (.ref x0 :: st) σ r := r_aload_n d211_1273 rfl
theorem d211_1274 : decode (mC 211) 1274 = .ok (.iload_n 3, 1) := by decide +kernel
theorem x211_1274 {sc : aSc} {d : Nat} {r : aRes} {a0 : Value} {a1 : Value} {a2 : Value} {x3 : Int32} {st : List Value} {σ : aS} : Rn sc d 211 1274 [a0, a1, a2, .int x3] st σ r ↔ Rn sc d 211 1275 [a0, a1, a2, .int x3] (.int x3 :: st) σ r := r_iload_n d211_1274 rfl
theorem d211_1275 : decode (mC 211) 1275 = .ok (.iconst 1, 1) := by decide +kernel
theorem x211_1275 {sc : aSc} {d : Nat} {r : aRes} {L : List Value} {st : List Value} {σ : aS} : Rn sc d 211 1275 L st σ r ↔ Rn sc d 211 1276 L (.int 1 :: st) σ r := r_iconst d211_1275 (by decide)
theorem d211_1276 : decode (mC 211) 1276 = .ok (.iadd, 1) := by decide +kernel
theorem x211_1276 {sc : aSc} {d : Nat} {r : aRes} {L : List Value} {st : List Value} {σ : aS} {x y : Int32} : Rn sc d 211 1276 L (.int y :: .int x :: st) σ r ↔ Rn sc d 211 1277 L (.int (x + y) :: st) σ r := r_iadd d211_1276
theorem d211_1277 : decode (mC 211) 1277 = .ok (.iaload, 1) := by decide +kernel
theorem d211_1278 : decode (mC 211) 1278 = .ok (.aload_n 0, 1) := by decide +kernel
theorem x211_1278 {sc : aSc} {d : Nat} {r : aRes} {x0 : Nat} {a1 : Value} {a2 : Value} {a3 : Value} {st : List Value} {σ : aS} : Rn sc d 211 1278 [.ref x0, a1, a2, a3] st σ r ↔ Rn sc d 211 1279 [.ref x0, a1, a2, a3] (.ref x0 :: st) σ r := r_aload_n d211_1278 rfl
theorem d211_1279 : decode (mC 211) 1279 = .ok (.iload_n 3, 1) := by decide +kernel
theorem x211_1279 {sc : aSc} {d : Nat} {r : aRes} {a0 : Value} {a1 : Value} {a2 : Value} {x3 : Int32} {st : List Value} {σ : aS} : Rn sc d 211 1279 [a0, a1, a2, .int x3] st σ r ↔ Rn sc d 211 1280 [a0, a1, a2, .int x3] (.int x3 :: st) σ r := r_iload_n d211_1279 rfl
theorem d211_1280 : decode (mC 211) 1280 = .ok (.iconst 2, 1) := by decide +kernel
theorem x211_1280 {sc : aSc} {d : Nat} {r : aRes} {L : List Value} {st : List Value} {σ : aS} : Rn sc d 211 1280 L st σ r ↔ Rn sc d 211 1281 L (.int 2 :: st) σ r := r_iconst d211_1280 (by decide)
theorem d211_1281 : decode (mC 211) 1281 = .ok (.iadd, 1) := by decide +kernel
theorem x211_1281 {sc : aSc} {d : Nat} {r : aRes} {L : List Value} {st : List Value} {σ : aS} {x y : Int32} : Rn sc d 211 1281 L (.int y :: .int x :: st) σ r ↔ Rn sc d 211 1282 L (.int (x + y) :: st) σ r := r_iadd d211_1281
theorem d211_1282 : decode (mC 211) 1282 = .ok (.iaload, 1) := by decide +kernel
theorem d211_1283 : decode (mC 211) 1283 = .ok (.aload_n 0, 1) := by decide +kernel
theorem x211_1283 {sc : aSc} {d : Nat} {r : aRes} {x0 : Nat} {a1 : Value} {a2 : Value} {a3 : Value} {st : List Value} {σ : aS} : Rn sc d 211 1283 [.ref x0, a1, a2, a3] st σ r ↔ Rn sc d 211 1284 [.ref x0, a1, a2, a3] (.ref x0 :: st) σ r := r_aload_n d211_1283 rfl
theorem d211_1284 : decode (mC 211) 1284 = .ok (.iload_n 3, 1) := by decide +kernel
theorem x211_1284 {sc : aSc} {d : Nat} {r : aRes} {a0 : Value} {a1 : Value} {a2 : Value} {x3 : Int32} {st : List Value} {σ : aS} : Rn sc d 211 1284 [a0, a1, a2, .int x3] st σ r ↔ Rn sc d 211 1285 [a0, a1, a2, .int x3] (.int x3 :: st) σ r := r_iload_n d211_1284 rfl
theorem d211_1285 : decode (mC 211) 1285 = .ok (.iconst 3, 1) := by decide +kernel
theorem x211_1285 {sc : aSc} {d : Nat} {r : aRes} {L : List Value} {st : List Value} {σ : aS} : Rn sc d 211 1285 L st σ r ↔ Rn sc d 211 1286 L (.int 3 :: st) σ r := r_iconst d211_1285 (by decide)
theorem d211_1286 : decode (mC 211) 1286 = .ok (.iadd, 1) := by decide +kernel
theorem x211_1286 {sc : aSc} {d : Nat} {r : aRes} {L : List Value} {st : List Value} {σ : aS} {x y : Int32} : Rn sc d 211 1286 L (.int y :: .int x :: st) σ r ↔ Rn sc d 211 1287 L (.int (x + y) :: st) σ r := r_iadd d211_1286
theorem d211_1287 : decode (mC 211) 1287 = .ok (.iaload, 1) := by decide +kernel
theorem d211_1288 : decode (mC 211) 1288 = .ok (.aload_n 0, 1) := by decide +kernel
theorem x211_1288 {sc : aSc} {d : Nat} {r : aRes} {x0 : Nat} {a1 : Value} {a2 : Value} {a3 : Value} {st : List Value} {σ : aS} : Rn sc d 211 1288 [.ref x0, a1, a2, a3] st σ r ↔ Rn sc d 211 1289 [.ref x0, a1, a2, a3] (.ref x0 :: st) σ r := r_aload_n d211_1288 rfl
theorem d211_1289 : decode (mC 211) 1289 = .ok (.iload_n 3, 1) := by decide +kernel
theorem x211_1289 {sc : aSc} {d : Nat} {r : aRes} {a0 : Value} {a1 : Value} {a2 : Value} {x3 : Int32} {st : List Value} {σ : aS} : Rn sc d 211 1289 [a0, a1, a2, .int x3] st σ r ↔ Rn sc d 211 1290 [a0, a1, a2, .int x3] (.int x3 :: st) σ r := r_iload_n d211_1289 rfl
theorem d211_1290 : decode (mC 211) 1290 = .ok (.iconst 4, 1) := by decide +kernel
theorem x211_1290 {sc : aSc} {d : Nat} {r : aRes} {L : List Value} {st : List Value} {σ : aS} : Rn sc d 211 1290 L st σ r ↔ Rn sc d 211 1291 L (.int 4 :: st) σ r := r_iconst d211_1290 (by decide)
theorem d211_1291 : decode (mC 211) 1291 = .ok (.iadd, 1) := by decide +kernel
theorem x211_1291 {sc : aSc} {d : Nat} {r : aRes} {L : List Value} {st : List Value} {σ : aS} {x y : Int32} : Rn sc d 211 1291 L (.int y :: .int x :: st) σ r ↔ Rn sc d 211 1292 L (.int (x + y) :: st) σ r := r_iadd d211_1291
theorem d211_1292 : decode (mC 211) 1292 = .ok (.iaload, 1) := by decide +kernel
theorem d211_1293 : decode (mC 211) 1293 = .ok (.aload_n 0, 1) := by decide +kernel
theorem x211_1293 {sc : aSc} {d : Nat} {r : aRes} {x0 : Nat} {a1 : Value} {a2 : Value} {a3 : Value} {st : List Value} {σ : aS} : Rn sc d 211 1293 [.ref x0, a1, a2, a3] st σ r ↔ Rn sc d 211 1294 [.ref x0, a1, a2, a3] (.ref x0 :: st) σ r := r_aload_n d211_1293 rfl
theorem d211_1294 : decode (mC 211) 1294 = .ok (.iload_n 3, 1) := by decide +kernel
theorem x211_1294 {sc : aSc} {d : Nat} {r : aRes} {a0 : Value} {a1 : Value} {a2 : Value} {x3 : Int32} {st : List Value} {σ : aS} : Rn sc d 211 1294 [a0, a1, a2, .int x3] st σ r ↔ Rn sc d 211 1295 [a0, a1, a2, .int x3] (.int x3 :: st) σ r := r_iload_n d211_1294 rfl
theorem d211_1295 : decode (mC 211) 1295 = .ok (.iconst 5, 1) := by decide +kernel
theorem x211_1295 {sc : aSc} {d : Nat} {r : aRes} {L : List Value} {st : List Value} {σ : aS} : Rn sc d 211 1295 L st σ r ↔ Rn sc d 211 1296 L (.int 5 :: st) σ r := r_iconst d211_1295 (by decide)
theorem d211_1296 : decode (mC 211) 1296 = .ok (.iadd, 1) := by decide +kernel
theorem x211_1296 {sc : aSc} {d : Nat} {r : aRes} {L : List Value} {st : List Value} {σ : aS} {x y : Int32} : Rn sc d 211 1296 L (.int y :: .int x :: st) σ r ↔ Rn sc d 211 1297 L (.int (x + y) :: st) σ r := r_iadd d211_1296
theorem d211_1297 : decode (mC 211) 1297 = .ok (.iaload, 1) := by decide +kernel
theorem d211_1298 : decode (mC 211) 1298 = .ok (.invokevirtual 164, 3) := by decide +kernel
theorem x211_1298 {sc : aSc} {d : Nat} {r : aRes} {L : List Value} {f : Nat → Nat → Int32} {g : Nat → Nat → Int64} {h1 h2 : Nat} {y0 : Int32} {y1 : Int32} {y2 : Int32} {y3 : Int32} {y4 : Int32}  {o : Nat} (hK : KK[o]? = some (.inl 6)) : Rn sc d 211 1298 L [.int y0, .int y1, .int y2, .int y3, .int y4, .ref o] (cS f g h1 h2) r ↔ ∃ (σ3 : aS) (v : Option Value), Cl sc d 101 [.ref o, .int y4, .int y3, .int y2, .int y1, .int y0] (cS f g h1 h2) (σ3, v) ∧ Rn sc d 211 1301 L (v.toList ++ []) σ3 r := r_callV (vs := [.int y0, .int y1, .int y2, .int y3, .int y4]) d211_1298 (j := 101) (by decide +kernel) ⟨rfl, by decide, rfl, rfl⟩ (Nat.le_of_ble_eq_true rfl) hK
theorem d211_1301 : decode (mC 211) 1301 = .ok (.aload_n 2, 1) := by decide +kernel
theorem x211_1301 {sc : aSc} {d : Nat} {r : aRes} {a0 : Value} {a1 : Value} {x2 : Nat} {a3 : Value} {st : List Value} {σ : aS} : Rn sc d 211 1301 [a0, a1, .ref x2, a3] st σ r ↔ Rn sc d 211 1302 [a0, a1, .ref x2, a3] (.ref x2 :: st) σ r := r_aload_n d211_1301 rfl
theorem d211_1302 : decode (mC 211) 1302 = .ok (.aload_n 0, 1) := by decide +kernel
theorem x211_1302 {sc : aSc} {d : Nat} {r : aRes} {x0 : Nat} {a1 : Value} {a2 : Value} {a3 : Value} {st : List Value} {σ : aS} : Rn sc d 211 1302 [.ref x0, a1, a2, a3] st σ r ↔ Rn sc d 211 1303 [.ref x0, a1, a2, a3] (.ref x0 :: st) σ r := r_aload_n d211_1302 rfl
theorem d211_1303 : decode (mC 211) 1303 = .ok (.iload_n 3, 1) := by decide +kernel
theorem x211_1303 {sc : aSc} {d : Nat} {r : aRes} {a0 : Value} {a1 : Value} {a2 : Value} {x3 : Int32} {st : List Value} {σ : aS} : Rn sc d 211 1303 [a0, a1, a2, .int x3] st σ r ↔ Rn sc d 211 1304 [a0, a1, a2, .int x3] (.int x3 :: st) σ r := r_iload_n d211_1303 rfl
theorem d211_1304 : decode (mC 211) 1304 = .ok (.iconst 1, 1) := by decide +kernel
theorem x211_1304 {sc : aSc} {d : Nat} {r : aRes} {L : List Value} {st : List Value} {σ : aS} : Rn sc d 211 1304 L st σ r ↔ Rn sc d 211 1305 L (.int 1 :: st) σ r := r_iconst d211_1304 (by decide)
theorem d211_1305 : decode (mC 211) 1305 = .ok (.iadd, 1) := by decide +kernel
theorem x211_1305 {sc : aSc} {d : Nat} {r : aRes} {L : List Value} {st : List Value} {σ : aS} {x y : Int32} : Rn sc d 211 1305 L (.int y :: .int x :: st) σ r ↔ Rn sc d 211 1306 L (.int (x + y) :: st) σ r := r_iadd d211_1305
theorem d211_1306 : decode (mC 211) 1306 = .ok (.iaload, 1) := by decide +kernel
theorem d211_1307 : decode (mC 211) 1307 = .ok (.aload_n 0, 1) := by decide +kernel
theorem x211_1307 {sc : aSc} {d : Nat} {r : aRes} {x0 : Nat} {a1 : Value} {a2 : Value} {a3 : Value} {st : List Value} {σ : aS} : Rn sc d 211 1307 [.ref x0, a1, a2, a3] st σ r ↔ Rn sc d 211 1308 [.ref x0, a1, a2, a3] (.ref x0 :: st) σ r := r_aload_n d211_1307 rfl
theorem d211_1308 : decode (mC 211) 1308 = .ok (.iload_n 3, 1) := by decide +kernel
theorem x211_1308 {sc : aSc} {d : Nat} {r : aRes} {a0 : Value} {a1 : Value} {a2 : Value} {x3 : Int32} {st : List Value} {σ : aS} : Rn sc d 211 1308 [a0, a1, a2, .int x3] st σ r ↔ Rn sc d 211 1309 [a0, a1, a2, .int x3] (.int x3 :: st) σ r := r_iload_n d211_1308 rfl
theorem d211_1309 : decode (mC 211) 1309 = .ok (.iconst 2, 1) := by decide +kernel
theorem x211_1309 {sc : aSc} {d : Nat} {r : aRes} {L : List Value} {st : List Value} {σ : aS} : Rn sc d 211 1309 L st σ r ↔ Rn sc d 211 1310 L (.int 2 :: st) σ r := r_iconst d211_1309 (by decide)
theorem d211_1310 : decode (mC 211) 1310 = .ok (.iadd, 1) := by decide +kernel
theorem x211_1310 {sc : aSc} {d : Nat} {r : aRes} {L : List Value} {st : List Value} {σ : aS} {x y : Int32} : Rn sc d 211 1310 L (.int y :: .int x :: st) σ r ↔ Rn sc d 211 1311 L (.int (x + y) :: st) σ r := r_iadd d211_1310
theorem d211_1311 : decode (mC 211) 1311 = .ok (.iaload, 1) := by decide +kernel
theorem d211_1312 : decode (mC 211) 1312 = .ok (.aload_n 0, 1) := by decide +kernel
theorem x211_1312 {sc : aSc} {d : Nat} {r : aRes} {x0 : Nat} {a1 : Value} {a2 : Value} {a3 : Value} {st : List Value} {σ : aS} : Rn sc d 211 1312 [.ref x0, a1, a2, a3] st σ r ↔ Rn sc d 211 1313 [.ref x0, a1, a2, a3] (.ref x0 :: st) σ r := r_aload_n d211_1312 rfl
theorem d211_1313 : decode (mC 211) 1313 = .ok (.iload_n 3, 1) := by decide +kernel
theorem x211_1313 {sc : aSc} {d : Nat} {r : aRes} {a0 : Value} {a1 : Value} {a2 : Value} {x3 : Int32} {st : List Value} {σ : aS} : Rn sc d 211 1313 [a0, a1, a2, .int x3] st σ r ↔ Rn sc d 211 1314 [a0, a1, a2, .int x3] (.int x3 :: st) σ r := r_iload_n d211_1313 rfl
theorem d211_1314 : decode (mC 211) 1314 = .ok (.iconst 3, 1) := by decide +kernel
theorem x211_1314 {sc : aSc} {d : Nat} {r : aRes} {L : List Value} {st : List Value} {σ : aS} : Rn sc d 211 1314 L st σ r ↔ Rn sc d 211 1315 L (.int 3 :: st) σ r := r_iconst d211_1314 (by decide)
theorem d211_1315 : decode (mC 211) 1315 = .ok (.iadd, 1) := by decide +kernel
theorem x211_1315 {sc : aSc} {d : Nat} {r : aRes} {L : List Value} {st : List Value} {σ : aS} {x y : Int32} : Rn sc d 211 1315 L (.int y :: .int x :: st) σ r ↔ Rn sc d 211 1316 L (.int (x + y) :: st) σ r := r_iadd d211_1315
theorem d211_1316 : decode (mC 211) 1316 = .ok (.iaload, 1) := by decide +kernel
theorem d211_1317 : decode (mC 211) 1317 = .ok (.aload_n 0, 1) := by decide +kernel
theorem x211_1317 {sc : aSc} {d : Nat} {r : aRes} {x0 : Nat} {a1 : Value} {a2 : Value} {a3 : Value} {st : List Value} {σ : aS} : Rn sc d 211 1317 [.ref x0, a1, a2, a3] st σ r ↔ Rn sc d 211 1318 [.ref x0, a1, a2, a3] (.ref x0 :: st) σ r := r_aload_n d211_1317 rfl
theorem d211_1318 : decode (mC 211) 1318 = .ok (.iload_n 3, 1) := by decide +kernel
theorem x211_1318 {sc : aSc} {d : Nat} {r : aRes} {a0 : Value} {a1 : Value} {a2 : Value} {x3 : Int32} {st : List Value} {σ : aS} : Rn sc d 211 1318 [a0, a1, a2, .int x3] st σ r ↔ Rn sc d 211 1319 [a0, a1, a2, .int x3] (.int x3 :: st) σ r := r_iload_n d211_1318 rfl
theorem d211_1319 : decode (mC 211) 1319 = .ok (.iconst 4, 1) := by decide +kernel
theorem x211_1319 {sc : aSc} {d : Nat} {r : aRes} {L : List Value} {st : List Value} {σ : aS} : Rn sc d 211 1319 L st σ r ↔ Rn sc d 211 1320 L (.int 4 :: st) σ r := r_iconst d211_1319 (by decide)
theorem d211_1320 : decode (mC 211) 1320 = .ok (.iadd, 1) := by decide +kernel
theorem x211_1320 {sc : aSc} {d : Nat} {r : aRes} {L : List Value} {st : List Value} {σ : aS} {x y : Int32} : Rn sc d 211 1320 L (.int y :: .int x :: st) σ r ↔ Rn sc d 211 1321 L (.int (x + y) :: st) σ r := r_iadd d211_1320
theorem d211_1321 : decode (mC 211) 1321 = .ok (.iaload, 1) := by decide +kernel
theorem d211_1322 : decode (mC 211) 1322 = .ok (.aload_n 0, 1) := by decide +kernel
theorem x211_1322 {sc : aSc} {d : Nat} {r : aRes} {x0 : Nat} {a1 : Value} {a2 : Value} {a3 : Value} {st : List Value} {σ : aS} : Rn sc d 211 1322 [.ref x0, a1, a2, a3] st σ r ↔ Rn sc d 211 1323 [.ref x0, a1, a2, a3] (.ref x0 :: st) σ r := r_aload_n d211_1322 rfl
theorem d211_1323 : decode (mC 211) 1323 = .ok (.iload_n 3, 1) := by decide +kernel
theorem x211_1323 {sc : aSc} {d : Nat} {r : aRes} {a0 : Value} {a1 : Value} {a2 : Value} {x3 : Int32} {st : List Value} {σ : aS} : Rn sc d 211 1323 [a0, a1, a2, .int x3] st σ r ↔ Rn sc d 211 1324 [a0, a1, a2, .int x3] (.int x3 :: st) σ r := r_iload_n d211_1323 rfl
theorem d211_1324 : decode (mC 211) 1324 = .ok (.iconst 5, 1) := by decide +kernel
theorem x211_1324 {sc : aSc} {d : Nat} {r : aRes} {L : List Value} {st : List Value} {σ : aS} : Rn sc d 211 1324 L st σ r ↔ Rn sc d 211 1325 L (.int 5 :: st) σ r := r_iconst d211_1324 (by decide)
theorem d211_1325 : decode (mC 211) 1325 = .ok (.iadd, 1) := by decide +kernel
theorem x211_1325 {sc : aSc} {d : Nat} {r : aRes} {L : List Value} {st : List Value} {σ : aS} {x y : Int32} : Rn sc d 211 1325 L (.int y :: .int x :: st) σ r ↔ Rn sc d 211 1326 L (.int (x + y) :: st) σ r := r_iadd d211_1325
theorem d211_1326 : decode (mC 211) 1326 = .ok (.iaload, 1) := by decide +kernel
theorem d211_1327 : decode (mC 211) 1327 = .ok (.invokevirtual 168, 3) := by decide +kernel
theorem x211_1327 {sc : aSc} {d : Nat} {r : aRes} {L : List Value} {f : Nat → Nat → Int32} {g : Nat → Nat → Int64} {h1 h2 : Nat} {y0 : Int32} {y1 : Int32} {y2 : Int32} {y3 : Int32} {y4 : Int32} {z0 : Int32} {o : Nat} (hK : KK[o]? = some (.inl 7)) : Rn sc d 211 1327 L [.int y0, .int y1, .int y2, .int y3, .int y4, .ref o, .int z0] (cS f g h1 h2) r ↔ ∃ (σ3 : aS) (v : Option Value), Cl sc d 194 [.ref o, .int y4, .int y3, .int y2, .int y1, .int y0] (cS f g h1 h2) (σ3, v) ∧ Rn sc d 211 1330 L (v.toList ++ [.int z0]) σ3 r := r_callV (vs := [.int y0, .int y1, .int y2, .int y3, .int y4]) d211_1327 (j := 194) (by decide +kernel) ⟨rfl, by decide, rfl, rfl⟩ (Nat.le_of_ble_eq_true rfl) hK
theorem d211_1330 : decode (mC 211) 1330 = .ok (.if_icmp .eq 5, 3) := by decide +kernel
theorem x211_1330 {sc : aSc} {d : Nat} {r : aRes} {L : List Value} {st : List Value} {σ : aS} {x y : Int32} : Rn sc d 211 1330 L (.int y :: .int x :: st) σ r ↔ if x = y then Rn sc d 211 1335 L st σ r else Rn sc d 211 1333 L st σ r := r_icmp_eq d211_1330 rfl
theorem d211_1333 : decode (mC 211) 1333 = .ok (.iconst 0, 1) := by decide +kernel
theorem x211_1333 {sc : aSc} {d : Nat} {r : aRes} {L : List Value} {st : List Value} {σ : aS} : Rn sc d 211 1333 L st σ r ↔ Rn sc d 211 1334 L (.int 0 :: st) σ r := r_iconst d211_1333 (by decide)
theorem d211_1334 : decode (mC 211) 1334 = .ok (.ireturn, 1) := by decide +kernel
theorem d211_1335 : decode (mC 211) 1335 = .ok (.iinc 3 7, 3) := by decide +kernel
theorem x211_1335 {sc : aSc} {d : Nat} {r : aRes} {a0 : Value} {a1 : Value} {x2 : Nat} {x3 : Int32} {st : List Value} {σ : aS} : Rn sc d 211 1335 [a0, a1, .ref x2, .int x3] st σ r ↔ Rn sc d 211 1338 [a0, a1, .ref x2, .int (x3 + 7)] st σ r := r_iinc d211_1335 (Nat.le_of_ble_eq_true rfl) rfl rfl (by decide)
theorem d211_1338 : decode (mC 211) 1338 = .ok (.goto (-1320), 3) := by decide +kernel
theorem x211_1338 {sc : aSc} {d : Nat} {r : aRes} {L : List Value} {st : List Value} {σ : aS} : Rn sc d 211 1338 L st σ r ↔ Rn sc d 211 18 L st σ r := r_goto d211_1338 rfl
theorem d211_1341 : decode (mC 211) 1341 = .ok (.iconst 1, 1) := by decide +kernel
theorem x211_1341 {sc : aSc} {d : Nat} {r : aRes} {L : List Value} {st : List Value} {σ : aS} : Rn sc d 211 1341 L st σ r ↔ Rn sc d 211 1342 L (.int 1 :: st) σ r := r_iconst d211_1341 (by decide)
theorem d211_1342 : decode (mC 211) 1342 = .ok (.ireturn, 1) := by decide +kernel
theorem x211_1342 {sc : aSc} {d : Nat} {r : aRes} {L : List Value} {σ : aS} {x : Int32} (hn : x &&& 1 = x) : Rn sc d 211 1342 L [.int x] σ r ↔ r = (σ, some (.int x)) := r_iret d211_1342 rfl (congrArg Value.int hn)
theorem x211_20 {n : Nat} {xs : Nat → Int32} {d : Nat} {L st : List Value} {σ : aS} {r : aRes} : Rn (some (n, xs)) d 211 20 L (.ref 0 :: st) σ r ↔ Rn (some (n, xs)) d 211 21 L (.int (nI n) :: st) σ r := r_scl d211_20
theorem x211_29 {n : Nat} {xs : Nat → Int32} {d : Nat} {L st : List Value} {σ : aS} {r : aRes} {i : Int32} (hi : inb i n = true) : Rn (some (n, xs)) d 211 29 L (.int i :: .ref 0 :: st) σ r ↔ Rn (some (n, xs)) d 211 30 L (.int (xs i.toNatClampNeg) :: st) σ r := r_sci d211_29 hi
theorem x211_197 {n : Nat} {xs : Nat → Int32} {d : Nat} {L st : List Value} {σ : aS} {r : aRes} {i : Int32} (hi : inb i n = true) : Rn (some (n, xs)) d 211 197 L (.int i :: .ref 0 :: st) σ r ↔ Rn (some (n, xs)) d 211 198 L (.int (xs i.toNatClampNeg) :: st) σ r := r_sci d211_197 hi
theorem x211_202 {n : Nat} {xs : Nat → Int32} {d : Nat} {L st : List Value} {σ : aS} {r : aRes} {i : Int32} (hi : inb i n = true) : Rn (some (n, xs)) d 211 202 L (.int i :: .ref 0 :: st) σ r ↔ Rn (some (n, xs)) d 211 203 L (.int (xs i.toNatClampNeg) :: st) σ r := r_sci d211_202 hi
theorem x211_207 {n : Nat} {xs : Nat → Int32} {d : Nat} {L st : List Value} {σ : aS} {r : aRes} {i : Int32} (hi : inb i n = true) : Rn (some (n, xs)) d 211 207 L (.int i :: .ref 0 :: st) σ r ↔ Rn (some (n, xs)) d 211 208 L (.int (xs i.toNatClampNeg) :: st) σ r := r_sci d211_207 hi
theorem x211_212 {n : Nat} {xs : Nat → Int32} {d : Nat} {L st : List Value} {σ : aS} {r : aRes} {i : Int32} (hi : inb i n = true) : Rn (some (n, xs)) d 211 212 L (.int i :: .ref 0 :: st) σ r ↔ Rn (some (n, xs)) d 211 213 L (.int (xs i.toNatClampNeg) :: st) σ r := r_sci d211_212 hi
theorem x211_217 {n : Nat} {xs : Nat → Int32} {d : Nat} {L st : List Value} {σ : aS} {r : aRes} {i : Int32} (hi : inb i n = true) : Rn (some (n, xs)) d 211 217 L (.int i :: .ref 0 :: st) σ r ↔ Rn (some (n, xs)) d 211 218 L (.int (xs i.toNatClampNeg) :: st) σ r := r_sci d211_217 hi
theorem x211_223 {n : Nat} {xs : Nat → Int32} {d : Nat} {L st : List Value} {σ : aS} {r : aRes} {i : Int32} (hi : inb i n = true) : Rn (some (n, xs)) d 211 223 L (.int i :: .ref 0 :: st) σ r ↔ Rn (some (n, xs)) d 211 224 L (.int (xs i.toNatClampNeg) :: st) σ r := r_sci d211_223 hi
theorem x211_232 {n : Nat} {xs : Nat → Int32} {d : Nat} {L st : List Value} {σ : aS} {r : aRes} {i : Int32} (hi : inb i n = true) : Rn (some (n, xs)) d 211 232 L (.int i :: .ref 0 :: st) σ r ↔ Rn (some (n, xs)) d 211 233 L (.int (xs i.toNatClampNeg) :: st) σ r := r_sci d211_232 hi
theorem x211_237 {n : Nat} {xs : Nat → Int32} {d : Nat} {L st : List Value} {σ : aS} {r : aRes} {i : Int32} (hi : inb i n = true) : Rn (some (n, xs)) d 211 237 L (.int i :: .ref 0 :: st) σ r ↔ Rn (some (n, xs)) d 211 238 L (.int (xs i.toNatClampNeg) :: st) σ r := r_sci d211_237 hi
theorem x211_242 {n : Nat} {xs : Nat → Int32} {d : Nat} {L st : List Value} {σ : aS} {r : aRes} {i : Int32} (hi : inb i n = true) : Rn (some (n, xs)) d 211 242 L (.int i :: .ref 0 :: st) σ r ↔ Rn (some (n, xs)) d 211 243 L (.int (xs i.toNatClampNeg) :: st) σ r := r_sci d211_242 hi
theorem x211_247 {n : Nat} {xs : Nat → Int32} {d : Nat} {L st : List Value} {σ : aS} {r : aRes} {i : Int32} (hi : inb i n = true) : Rn (some (n, xs)) d 211 247 L (.int i :: .ref 0 :: st) σ r ↔ Rn (some (n, xs)) d 211 248 L (.int (xs i.toNatClampNeg) :: st) σ r := r_sci d211_247 hi
theorem x211_252 {n : Nat} {xs : Nat → Int32} {d : Nat} {L st : List Value} {σ : aS} {r : aRes} {i : Int32} (hi : inb i n = true) : Rn (some (n, xs)) d 211 252 L (.int i :: .ref 0 :: st) σ r ↔ Rn (some (n, xs)) d 211 253 L (.int (xs i.toNatClampNeg) :: st) σ r := r_sci d211_252 hi
theorem x211_258 {n : Nat} {xs : Nat → Int32} {d : Nat} {L st : List Value} {σ : aS} {r : aRes} {i : Int32} (hi : inb i n = true) : Rn (some (n, xs)) d 211 258 L (.int i :: .ref 0 :: st) σ r ↔ Rn (some (n, xs)) d 211 259 L (.int (xs i.toNatClampNeg) :: st) σ r := r_sci d211_258 hi
theorem x211_272 {n : Nat} {xs : Nat → Int32} {d : Nat} {L st : List Value} {σ : aS} {r : aRes} {i : Int32} (hi : inb i n = true) : Rn (some (n, xs)) d 211 272 L (.int i :: .ref 0 :: st) σ r ↔ Rn (some (n, xs)) d 211 273 L (.int (xs i.toNatClampNeg) :: st) σ r := r_sci d211_272 hi
theorem x211_277 {n : Nat} {xs : Nat → Int32} {d : Nat} {L st : List Value} {σ : aS} {r : aRes} {i : Int32} (hi : inb i n = true) : Rn (some (n, xs)) d 211 277 L (.int i :: .ref 0 :: st) σ r ↔ Rn (some (n, xs)) d 211 278 L (.int (xs i.toNatClampNeg) :: st) σ r := r_sci d211_277 hi
theorem x211_286 {n : Nat} {xs : Nat → Int32} {d : Nat} {L st : List Value} {σ : aS} {r : aRes} {i : Int32} (hi : inb i n = true) : Rn (some (n, xs)) d 211 286 L (.int i :: .ref 0 :: st) σ r ↔ Rn (some (n, xs)) d 211 287 L (.int (xs i.toNatClampNeg) :: st) σ r := r_sci d211_286 hi
theorem x211_291 {n : Nat} {xs : Nat → Int32} {d : Nat} {L st : List Value} {σ : aS} {r : aRes} {i : Int32} (hi : inb i n = true) : Rn (some (n, xs)) d 211 291 L (.int i :: .ref 0 :: st) σ r ↔ Rn (some (n, xs)) d 211 292 L (.int (xs i.toNatClampNeg) :: st) σ r := r_sci d211_291 hi
theorem x211_305 {n : Nat} {xs : Nat → Int32} {d : Nat} {L st : List Value} {σ : aS} {r : aRes} {i : Int32} (hi : inb i n = true) : Rn (some (n, xs)) d 211 305 L (.int i :: .ref 0 :: st) σ r ↔ Rn (some (n, xs)) d 211 306 L (.int (xs i.toNatClampNeg) :: st) σ r := r_sci d211_305 hi
theorem x211_310 {n : Nat} {xs : Nat → Int32} {d : Nat} {L st : List Value} {σ : aS} {r : aRes} {i : Int32} (hi : inb i n = true) : Rn (some (n, xs)) d 211 310 L (.int i :: .ref 0 :: st) σ r ↔ Rn (some (n, xs)) d 211 311 L (.int (xs i.toNatClampNeg) :: st) σ r := r_sci d211_310 hi
theorem x211_315 {n : Nat} {xs : Nat → Int32} {d : Nat} {L st : List Value} {σ : aS} {r : aRes} {i : Int32} (hi : inb i n = true) : Rn (some (n, xs)) d 211 315 L (.int i :: .ref 0 :: st) σ r ↔ Rn (some (n, xs)) d 211 316 L (.int (xs i.toNatClampNeg) :: st) σ r := r_sci d211_315 hi
theorem x211_324 {n : Nat} {xs : Nat → Int32} {d : Nat} {L st : List Value} {σ : aS} {r : aRes} {i : Int32} (hi : inb i n = true) : Rn (some (n, xs)) d 211 324 L (.int i :: .ref 0 :: st) σ r ↔ Rn (some (n, xs)) d 211 325 L (.int (xs i.toNatClampNeg) :: st) σ r := r_sci d211_324 hi
theorem x211_329 {n : Nat} {xs : Nat → Int32} {d : Nat} {L st : List Value} {σ : aS} {r : aRes} {i : Int32} (hi : inb i n = true) : Rn (some (n, xs)) d 211 329 L (.int i :: .ref 0 :: st) σ r ↔ Rn (some (n, xs)) d 211 330 L (.int (xs i.toNatClampNeg) :: st) σ r := r_sci d211_329 hi
theorem x211_334 {n : Nat} {xs : Nat → Int32} {d : Nat} {L st : List Value} {σ : aS} {r : aRes} {i : Int32} (hi : inb i n = true) : Rn (some (n, xs)) d 211 334 L (.int i :: .ref 0 :: st) σ r ↔ Rn (some (n, xs)) d 211 335 L (.int (xs i.toNatClampNeg) :: st) σ r := r_sci d211_334 hi
theorem x211_348 {n : Nat} {xs : Nat → Int32} {d : Nat} {L st : List Value} {σ : aS} {r : aRes} {i : Int32} (hi : inb i n = true) : Rn (some (n, xs)) d 211 348 L (.int i :: .ref 0 :: st) σ r ↔ Rn (some (n, xs)) d 211 349 L (.int (xs i.toNatClampNeg) :: st) σ r := r_sci d211_348 hi
theorem x211_353 {n : Nat} {xs : Nat → Int32} {d : Nat} {L st : List Value} {σ : aS} {r : aRes} {i : Int32} (hi : inb i n = true) : Rn (some (n, xs)) d 211 353 L (.int i :: .ref 0 :: st) σ r ↔ Rn (some (n, xs)) d 211 354 L (.int (xs i.toNatClampNeg) :: st) σ r := r_sci d211_353 hi
theorem x211_358 {n : Nat} {xs : Nat → Int32} {d : Nat} {L st : List Value} {σ : aS} {r : aRes} {i : Int32} (hi : inb i n = true) : Rn (some (n, xs)) d 211 358 L (.int i :: .ref 0 :: st) σ r ↔ Rn (some (n, xs)) d 211 359 L (.int (xs i.toNatClampNeg) :: st) σ r := r_sci d211_358 hi
theorem x211_367 {n : Nat} {xs : Nat → Int32} {d : Nat} {L st : List Value} {σ : aS} {r : aRes} {i : Int32} (hi : inb i n = true) : Rn (some (n, xs)) d 211 367 L (.int i :: .ref 0 :: st) σ r ↔ Rn (some (n, xs)) d 211 368 L (.int (xs i.toNatClampNeg) :: st) σ r := r_sci d211_367 hi
theorem x211_372 {n : Nat} {xs : Nat → Int32} {d : Nat} {L st : List Value} {σ : aS} {r : aRes} {i : Int32} (hi : inb i n = true) : Rn (some (n, xs)) d 211 372 L (.int i :: .ref 0 :: st) σ r ↔ Rn (some (n, xs)) d 211 373 L (.int (xs i.toNatClampNeg) :: st) σ r := r_sci d211_372 hi
theorem x211_377 {n : Nat} {xs : Nat → Int32} {d : Nat} {L st : List Value} {σ : aS} {r : aRes} {i : Int32} (hi : inb i n = true) : Rn (some (n, xs)) d 211 377 L (.int i :: .ref 0 :: st) σ r ↔ Rn (some (n, xs)) d 211 378 L (.int (xs i.toNatClampNeg) :: st) σ r := r_sci d211_377 hi
theorem x211_391 {n : Nat} {xs : Nat → Int32} {d : Nat} {L st : List Value} {σ : aS} {r : aRes} {i : Int32} (hi : inb i n = true) : Rn (some (n, xs)) d 211 391 L (.int i :: .ref 0 :: st) σ r ↔ Rn (some (n, xs)) d 211 392 L (.int (xs i.toNatClampNeg) :: st) σ r := r_sci d211_391 hi
theorem x211_400 {n : Nat} {xs : Nat → Int32} {d : Nat} {L st : List Value} {σ : aS} {r : aRes} {i : Int32} (hi : inb i n = true) : Rn (some (n, xs)) d 211 400 L (.int i :: .ref 0 :: st) σ r ↔ Rn (some (n, xs)) d 211 401 L (.int (xs i.toNatClampNeg) :: st) σ r := r_sci d211_400 hi
theorem x211_427 {n : Nat} {xs : Nat → Int32} {d : Nat} {L st : List Value} {σ : aS} {r : aRes} {i : Int32} (hi : inb i n = true) : Rn (some (n, xs)) d 211 427 L (.int i :: .ref 0 :: st) σ r ↔ Rn (some (n, xs)) d 211 428 L (.int (xs i.toNatClampNeg) :: st) σ r := r_sci d211_427 hi
theorem x211_436 {n : Nat} {xs : Nat → Int32} {d : Nat} {L st : List Value} {σ : aS} {r : aRes} {i : Int32} (hi : inb i n = true) : Rn (some (n, xs)) d 211 436 L (.int i :: .ref 0 :: st) σ r ↔ Rn (some (n, xs)) d 211 437 L (.int (xs i.toNatClampNeg) :: st) σ r := r_sci d211_436 hi
theorem x211_450 {n : Nat} {xs : Nat → Int32} {d : Nat} {L st : List Value} {σ : aS} {r : aRes} {i : Int32} (hi : inb i n = true) : Rn (some (n, xs)) d 211 450 L (.int i :: .ref 0 :: st) σ r ↔ Rn (some (n, xs)) d 211 451 L (.int (xs i.toNatClampNeg) :: st) σ r := r_sci d211_450 hi
theorem x211_455 {n : Nat} {xs : Nat → Int32} {d : Nat} {L st : List Value} {σ : aS} {r : aRes} {i : Int32} (hi : inb i n = true) : Rn (some (n, xs)) d 211 455 L (.int i :: .ref 0 :: st) σ r ↔ Rn (some (n, xs)) d 211 456 L (.int (xs i.toNatClampNeg) :: st) σ r := r_sci d211_455 hi
theorem x211_464 {n : Nat} {xs : Nat → Int32} {d : Nat} {L st : List Value} {σ : aS} {r : aRes} {i : Int32} (hi : inb i n = true) : Rn (some (n, xs)) d 211 464 L (.int i :: .ref 0 :: st) σ r ↔ Rn (some (n, xs)) d 211 465 L (.int (xs i.toNatClampNeg) :: st) σ r := r_sci d211_464 hi
theorem x211_469 {n : Nat} {xs : Nat → Int32} {d : Nat} {L st : List Value} {σ : aS} {r : aRes} {i : Int32} (hi : inb i n = true) : Rn (some (n, xs)) d 211 469 L (.int i :: .ref 0 :: st) σ r ↔ Rn (some (n, xs)) d 211 470 L (.int (xs i.toNatClampNeg) :: st) σ r := r_sci d211_469 hi
theorem x211_496 {n : Nat} {xs : Nat → Int32} {d : Nat} {L st : List Value} {σ : aS} {r : aRes} {i : Int32} (hi : inb i n = true) : Rn (some (n, xs)) d 211 496 L (.int i :: .ref 0 :: st) σ r ↔ Rn (some (n, xs)) d 211 497 L (.int (xs i.toNatClampNeg) :: st) σ r := r_sci d211_496 hi
theorem x211_505 {n : Nat} {xs : Nat → Int32} {d : Nat} {L st : List Value} {σ : aS} {r : aRes} {i : Int32} (hi : inb i n = true) : Rn (some (n, xs)) d 211 505 L (.int i :: .ref 0 :: st) σ r ↔ Rn (some (n, xs)) d 211 506 L (.int (xs i.toNatClampNeg) :: st) σ r := r_sci d211_505 hi
theorem x211_519 {n : Nat} {xs : Nat → Int32} {d : Nat} {L st : List Value} {σ : aS} {r : aRes} {i : Int32} (hi : inb i n = true) : Rn (some (n, xs)) d 211 519 L (.int i :: .ref 0 :: st) σ r ↔ Rn (some (n, xs)) d 211 520 L (.int (xs i.toNatClampNeg) :: st) σ r := r_sci d211_519 hi
theorem x211_524 {n : Nat} {xs : Nat → Int32} {d : Nat} {L st : List Value} {σ : aS} {r : aRes} {i : Int32} (hi : inb i n = true) : Rn (some (n, xs)) d 211 524 L (.int i :: .ref 0 :: st) σ r ↔ Rn (some (n, xs)) d 211 525 L (.int (xs i.toNatClampNeg) :: st) σ r := r_sci d211_524 hi
theorem x211_529 {n : Nat} {xs : Nat → Int32} {d : Nat} {L st : List Value} {σ : aS} {r : aRes} {i : Int32} (hi : inb i n = true) : Rn (some (n, xs)) d 211 529 L (.int i :: .ref 0 :: st) σ r ↔ Rn (some (n, xs)) d 211 530 L (.int (xs i.toNatClampNeg) :: st) σ r := r_sci d211_529 hi
theorem x211_538 {n : Nat} {xs : Nat → Int32} {d : Nat} {L st : List Value} {σ : aS} {r : aRes} {i : Int32} (hi : inb i n = true) : Rn (some (n, xs)) d 211 538 L (.int i :: .ref 0 :: st) σ r ↔ Rn (some (n, xs)) d 211 539 L (.int (xs i.toNatClampNeg) :: st) σ r := r_sci d211_538 hi
theorem x211_543 {n : Nat} {xs : Nat → Int32} {d : Nat} {L st : List Value} {σ : aS} {r : aRes} {i : Int32} (hi : inb i n = true) : Rn (some (n, xs)) d 211 543 L (.int i :: .ref 0 :: st) σ r ↔ Rn (some (n, xs)) d 211 544 L (.int (xs i.toNatClampNeg) :: st) σ r := r_sci d211_543 hi
theorem x211_548 {n : Nat} {xs : Nat → Int32} {d : Nat} {L st : List Value} {σ : aS} {r : aRes} {i : Int32} (hi : inb i n = true) : Rn (some (n, xs)) d 211 548 L (.int i :: .ref 0 :: st) σ r ↔ Rn (some (n, xs)) d 211 549 L (.int (xs i.toNatClampNeg) :: st) σ r := r_sci d211_548 hi
theorem x211_562 {n : Nat} {xs : Nat → Int32} {d : Nat} {L st : List Value} {σ : aS} {r : aRes} {i : Int32} (hi : inb i n = true) : Rn (some (n, xs)) d 211 562 L (.int i :: .ref 0 :: st) σ r ↔ Rn (some (n, xs)) d 211 563 L (.int (xs i.toNatClampNeg) :: st) σ r := r_sci d211_562 hi
theorem x211_567 {n : Nat} {xs : Nat → Int32} {d : Nat} {L st : List Value} {σ : aS} {r : aRes} {i : Int32} (hi : inb i n = true) : Rn (some (n, xs)) d 211 567 L (.int i :: .ref 0 :: st) σ r ↔ Rn (some (n, xs)) d 211 568 L (.int (xs i.toNatClampNeg) :: st) σ r := r_sci d211_567 hi
theorem x211_576 {n : Nat} {xs : Nat → Int32} {d : Nat} {L st : List Value} {σ : aS} {r : aRes} {i : Int32} (hi : inb i n = true) : Rn (some (n, xs)) d 211 576 L (.int i :: .ref 0 :: st) σ r ↔ Rn (some (n, xs)) d 211 577 L (.int (xs i.toNatClampNeg) :: st) σ r := r_sci d211_576 hi
theorem x211_581 {n : Nat} {xs : Nat → Int32} {d : Nat} {L st : List Value} {σ : aS} {r : aRes} {i : Int32} (hi : inb i n = true) : Rn (some (n, xs)) d 211 581 L (.int i :: .ref 0 :: st) σ r ↔ Rn (some (n, xs)) d 211 582 L (.int (xs i.toNatClampNeg) :: st) σ r := r_sci d211_581 hi
theorem x211_608 {n : Nat} {xs : Nat → Int32} {d : Nat} {L st : List Value} {σ : aS} {r : aRes} {i : Int32} (hi : inb i n = true) : Rn (some (n, xs)) d 211 608 L (.int i :: .ref 0 :: st) σ r ↔ Rn (some (n, xs)) d 211 609 L (.int (xs i.toNatClampNeg) :: st) σ r := r_sci d211_608 hi
theorem x211_613 {n : Nat} {xs : Nat → Int32} {d : Nat} {L st : List Value} {σ : aS} {r : aRes} {i : Int32} (hi : inb i n = true) : Rn (some (n, xs)) d 211 613 L (.int i :: .ref 0 :: st) σ r ↔ Rn (some (n, xs)) d 211 614 L (.int (xs i.toNatClampNeg) :: st) σ r := r_sci d211_613 hi
theorem x211_622 {n : Nat} {xs : Nat → Int32} {d : Nat} {L st : List Value} {σ : aS} {r : aRes} {i : Int32} (hi : inb i n = true) : Rn (some (n, xs)) d 211 622 L (.int i :: .ref 0 :: st) σ r ↔ Rn (some (n, xs)) d 211 623 L (.int (xs i.toNatClampNeg) :: st) σ r := r_sci d211_622 hi
theorem x211_627 {n : Nat} {xs : Nat → Int32} {d : Nat} {L st : List Value} {σ : aS} {r : aRes} {i : Int32} (hi : inb i n = true) : Rn (some (n, xs)) d 211 627 L (.int i :: .ref 0 :: st) σ r ↔ Rn (some (n, xs)) d 211 628 L (.int (xs i.toNatClampNeg) :: st) σ r := r_sci d211_627 hi
theorem x211_641 {n : Nat} {xs : Nat → Int32} {d : Nat} {L st : List Value} {σ : aS} {r : aRes} {i : Int32} (hi : inb i n = true) : Rn (some (n, xs)) d 211 641 L (.int i :: .ref 0 :: st) σ r ↔ Rn (some (n, xs)) d 211 642 L (.int (xs i.toNatClampNeg) :: st) σ r := r_sci d211_641 hi
theorem x211_646 {n : Nat} {xs : Nat → Int32} {d : Nat} {L st : List Value} {σ : aS} {r : aRes} {i : Int32} (hi : inb i n = true) : Rn (some (n, xs)) d 211 646 L (.int i :: .ref 0 :: st) σ r ↔ Rn (some (n, xs)) d 211 647 L (.int (xs i.toNatClampNeg) :: st) σ r := r_sci d211_646 hi
theorem x211_655 {n : Nat} {xs : Nat → Int32} {d : Nat} {L st : List Value} {σ : aS} {r : aRes} {i : Int32} (hi : inb i n = true) : Rn (some (n, xs)) d 211 655 L (.int i :: .ref 0 :: st) σ r ↔ Rn (some (n, xs)) d 211 656 L (.int (xs i.toNatClampNeg) :: st) σ r := r_sci d211_655 hi
theorem x211_660 {n : Nat} {xs : Nat → Int32} {d : Nat} {L st : List Value} {σ : aS} {r : aRes} {i : Int32} (hi : inb i n = true) : Rn (some (n, xs)) d 211 660 L (.int i :: .ref 0 :: st) σ r ↔ Rn (some (n, xs)) d 211 661 L (.int (xs i.toNatClampNeg) :: st) σ r := r_sci d211_660 hi
theorem x211_674 {n : Nat} {xs : Nat → Int32} {d : Nat} {L st : List Value} {σ : aS} {r : aRes} {i : Int32} (hi : inb i n = true) : Rn (some (n, xs)) d 211 674 L (.int i :: .ref 0 :: st) σ r ↔ Rn (some (n, xs)) d 211 675 L (.int (xs i.toNatClampNeg) :: st) σ r := r_sci d211_674 hi
theorem x211_683 {n : Nat} {xs : Nat → Int32} {d : Nat} {L st : List Value} {σ : aS} {r : aRes} {i : Int32} (hi : inb i n = true) : Rn (some (n, xs)) d 211 683 L (.int i :: .ref 0 :: st) σ r ↔ Rn (some (n, xs)) d 211 684 L (.int (xs i.toNatClampNeg) :: st) σ r := r_sci d211_683 hi
theorem x211_697 {n : Nat} {xs : Nat → Int32} {d : Nat} {L st : List Value} {σ : aS} {r : aRes} {i : Int32} (hi : inb i n = true) : Rn (some (n, xs)) d 211 697 L (.int i :: .ref 0 :: st) σ r ↔ Rn (some (n, xs)) d 211 698 L (.int (xs i.toNatClampNeg) :: st) σ r := r_sci d211_697 hi
theorem x211_702 {n : Nat} {xs : Nat → Int32} {d : Nat} {L st : List Value} {σ : aS} {r : aRes} {i : Int32} (hi : inb i n = true) : Rn (some (n, xs)) d 211 702 L (.int i :: .ref 0 :: st) σ r ↔ Rn (some (n, xs)) d 211 703 L (.int (xs i.toNatClampNeg) :: st) σ r := r_sci d211_702 hi
theorem x211_711 {n : Nat} {xs : Nat → Int32} {d : Nat} {L st : List Value} {σ : aS} {r : aRes} {i : Int32} (hi : inb i n = true) : Rn (some (n, xs)) d 211 711 L (.int i :: .ref 0 :: st) σ r ↔ Rn (some (n, xs)) d 211 712 L (.int (xs i.toNatClampNeg) :: st) σ r := r_sci d211_711 hi
theorem x211_716 {n : Nat} {xs : Nat → Int32} {d : Nat} {L st : List Value} {σ : aS} {r : aRes} {i : Int32} (hi : inb i n = true) : Rn (some (n, xs)) d 211 716 L (.int i :: .ref 0 :: st) σ r ↔ Rn (some (n, xs)) d 211 717 L (.int (xs i.toNatClampNeg) :: st) σ r := r_sci d211_716 hi
theorem x211_730 {n : Nat} {xs : Nat → Int32} {d : Nat} {L st : List Value} {σ : aS} {r : aRes} {i : Int32} (hi : inb i n = true) : Rn (some (n, xs)) d 211 730 L (.int i :: .ref 0 :: st) σ r ↔ Rn (some (n, xs)) d 211 731 L (.int (xs i.toNatClampNeg) :: st) σ r := r_sci d211_730 hi
theorem x211_739 {n : Nat} {xs : Nat → Int32} {d : Nat} {L st : List Value} {σ : aS} {r : aRes} {i : Int32} (hi : inb i n = true) : Rn (some (n, xs)) d 211 739 L (.int i :: .ref 0 :: st) σ r ↔ Rn (some (n, xs)) d 211 740 L (.int (xs i.toNatClampNeg) :: st) σ r := r_sci d211_739 hi
theorem x211_753 {n : Nat} {xs : Nat → Int32} {d : Nat} {L st : List Value} {σ : aS} {r : aRes} {i : Int32} (hi : inb i n = true) : Rn (some (n, xs)) d 211 753 L (.int i :: .ref 0 :: st) σ r ↔ Rn (some (n, xs)) d 211 754 L (.int (xs i.toNatClampNeg) :: st) σ r := r_sci d211_753 hi
theorem x211_762 {n : Nat} {xs : Nat → Int32} {d : Nat} {L st : List Value} {σ : aS} {r : aRes} {i : Int32} (hi : inb i n = true) : Rn (some (n, xs)) d 211 762 L (.int i :: .ref 0 :: st) σ r ↔ Rn (some (n, xs)) d 211 763 L (.int (xs i.toNatClampNeg) :: st) σ r := r_sci d211_762 hi
theorem x211_776 {n : Nat} {xs : Nat → Int32} {d : Nat} {L st : List Value} {σ : aS} {r : aRes} {i : Int32} (hi : inb i n = true) : Rn (some (n, xs)) d 211 776 L (.int i :: .ref 0 :: st) σ r ↔ Rn (some (n, xs)) d 211 777 L (.int (xs i.toNatClampNeg) :: st) σ r := r_sci d211_776 hi
theorem x211_781 {n : Nat} {xs : Nat → Int32} {d : Nat} {L st : List Value} {σ : aS} {r : aRes} {i : Int32} (hi : inb i n = true) : Rn (some (n, xs)) d 211 781 L (.int i :: .ref 0 :: st) σ r ↔ Rn (some (n, xs)) d 211 782 L (.int (xs i.toNatClampNeg) :: st) σ r := r_sci d211_781 hi
theorem x211_790 {n : Nat} {xs : Nat → Int32} {d : Nat} {L st : List Value} {σ : aS} {r : aRes} {i : Int32} (hi : inb i n = true) : Rn (some (n, xs)) d 211 790 L (.int i :: .ref 0 :: st) σ r ↔ Rn (some (n, xs)) d 211 791 L (.int (xs i.toNatClampNeg) :: st) σ r := r_sci d211_790 hi
theorem x211_795 {n : Nat} {xs : Nat → Int32} {d : Nat} {L st : List Value} {σ : aS} {r : aRes} {i : Int32} (hi : inb i n = true) : Rn (some (n, xs)) d 211 795 L (.int i :: .ref 0 :: st) σ r ↔ Rn (some (n, xs)) d 211 796 L (.int (xs i.toNatClampNeg) :: st) σ r := r_sci d211_795 hi
theorem x211_809 {n : Nat} {xs : Nat → Int32} {d : Nat} {L st : List Value} {σ : aS} {r : aRes} {i : Int32} (hi : inb i n = true) : Rn (some (n, xs)) d 211 809 L (.int i :: .ref 0 :: st) σ r ↔ Rn (some (n, xs)) d 211 810 L (.int (xs i.toNatClampNeg) :: st) σ r := r_sci d211_809 hi
theorem x211_818 {n : Nat} {xs : Nat → Int32} {d : Nat} {L st : List Value} {σ : aS} {r : aRes} {i : Int32} (hi : inb i n = true) : Rn (some (n, xs)) d 211 818 L (.int i :: .ref 0 :: st) σ r ↔ Rn (some (n, xs)) d 211 819 L (.int (xs i.toNatClampNeg) :: st) σ r := r_sci d211_818 hi
theorem x211_832 {n : Nat} {xs : Nat → Int32} {d : Nat} {L st : List Value} {σ : aS} {r : aRes} {i : Int32} (hi : inb i n = true) : Rn (some (n, xs)) d 211 832 L (.int i :: .ref 0 :: st) σ r ↔ Rn (some (n, xs)) d 211 833 L (.int (xs i.toNatClampNeg) :: st) σ r := r_sci d211_832 hi
theorem x211_837 {n : Nat} {xs : Nat → Int32} {d : Nat} {L st : List Value} {σ : aS} {r : aRes} {i : Int32} (hi : inb i n = true) : Rn (some (n, xs)) d 211 837 L (.int i :: .ref 0 :: st) σ r ↔ Rn (some (n, xs)) d 211 838 L (.int (xs i.toNatClampNeg) :: st) σ r := r_sci d211_837 hi
theorem x211_842 {n : Nat} {xs : Nat → Int32} {d : Nat} {L st : List Value} {σ : aS} {r : aRes} {i : Int32} (hi : inb i n = true) : Rn (some (n, xs)) d 211 842 L (.int i :: .ref 0 :: st) σ r ↔ Rn (some (n, xs)) d 211 843 L (.int (xs i.toNatClampNeg) :: st) σ r := r_sci d211_842 hi
theorem x211_851 {n : Nat} {xs : Nat → Int32} {d : Nat} {L st : List Value} {σ : aS} {r : aRes} {i : Int32} (hi : inb i n = true) : Rn (some (n, xs)) d 211 851 L (.int i :: .ref 0 :: st) σ r ↔ Rn (some (n, xs)) d 211 852 L (.int (xs i.toNatClampNeg) :: st) σ r := r_sci d211_851 hi
theorem x211_856 {n : Nat} {xs : Nat → Int32} {d : Nat} {L st : List Value} {σ : aS} {r : aRes} {i : Int32} (hi : inb i n = true) : Rn (some (n, xs)) d 211 856 L (.int i :: .ref 0 :: st) σ r ↔ Rn (some (n, xs)) d 211 857 L (.int (xs i.toNatClampNeg) :: st) σ r := r_sci d211_856 hi
theorem x211_861 {n : Nat} {xs : Nat → Int32} {d : Nat} {L st : List Value} {σ : aS} {r : aRes} {i : Int32} (hi : inb i n = true) : Rn (some (n, xs)) d 211 861 L (.int i :: .ref 0 :: st) σ r ↔ Rn (some (n, xs)) d 211 862 L (.int (xs i.toNatClampNeg) :: st) σ r := r_sci d211_861 hi
theorem x211_876 {n : Nat} {xs : Nat → Int32} {d : Nat} {L st : List Value} {σ : aS} {r : aRes} {i : Int32} (hi : inb i n = true) : Rn (some (n, xs)) d 211 876 L (.int i :: .ref 0 :: st) σ r ↔ Rn (some (n, xs)) d 211 877 L (.int (xs i.toNatClampNeg) :: st) σ r := r_sci d211_876 hi
theorem x211_885 {n : Nat} {xs : Nat → Int32} {d : Nat} {L st : List Value} {σ : aS} {r : aRes} {i : Int32} (hi : inb i n = true) : Rn (some (n, xs)) d 211 885 L (.int i :: .ref 0 :: st) σ r ↔ Rn (some (n, xs)) d 211 886 L (.int (xs i.toNatClampNeg) :: st) σ r := r_sci d211_885 hi
theorem x211_900 {n : Nat} {xs : Nat → Int32} {d : Nat} {L st : List Value} {σ : aS} {r : aRes} {i : Int32} (hi : inb i n = true) : Rn (some (n, xs)) d 211 900 L (.int i :: .ref 0 :: st) σ r ↔ Rn (some (n, xs)) d 211 901 L (.int (xs i.toNatClampNeg) :: st) σ r := r_sci d211_900 hi
theorem x211_905 {n : Nat} {xs : Nat → Int32} {d : Nat} {L st : List Value} {σ : aS} {r : aRes} {i : Int32} (hi : inb i n = true) : Rn (some (n, xs)) d 211 905 L (.int i :: .ref 0 :: st) σ r ↔ Rn (some (n, xs)) d 211 906 L (.int (xs i.toNatClampNeg) :: st) σ r := r_sci d211_905 hi
theorem x211_914 {n : Nat} {xs : Nat → Int32} {d : Nat} {L st : List Value} {σ : aS} {r : aRes} {i : Int32} (hi : inb i n = true) : Rn (some (n, xs)) d 211 914 L (.int i :: .ref 0 :: st) σ r ↔ Rn (some (n, xs)) d 211 915 L (.int (xs i.toNatClampNeg) :: st) σ r := r_sci d211_914 hi
theorem x211_919 {n : Nat} {xs : Nat → Int32} {d : Nat} {L st : List Value} {σ : aS} {r : aRes} {i : Int32} (hi : inb i n = true) : Rn (some (n, xs)) d 211 919 L (.int i :: .ref 0 :: st) σ r ↔ Rn (some (n, xs)) d 211 920 L (.int (xs i.toNatClampNeg) :: st) σ r := r_sci d211_919 hi
theorem x211_946 {n : Nat} {xs : Nat → Int32} {d : Nat} {L st : List Value} {σ : aS} {r : aRes} {i : Int32} (hi : inb i n = true) : Rn (some (n, xs)) d 211 946 L (.int i :: .ref 0 :: st) σ r ↔ Rn (some (n, xs)) d 211 947 L (.int (xs i.toNatClampNeg) :: st) σ r := r_sci d211_946 hi
theorem x211_951 {n : Nat} {xs : Nat → Int32} {d : Nat} {L st : List Value} {σ : aS} {r : aRes} {i : Int32} (hi : inb i n = true) : Rn (some (n, xs)) d 211 951 L (.int i :: .ref 0 :: st) σ r ↔ Rn (some (n, xs)) d 211 952 L (.int (xs i.toNatClampNeg) :: st) σ r := r_sci d211_951 hi
theorem x211_960 {n : Nat} {xs : Nat → Int32} {d : Nat} {L st : List Value} {σ : aS} {r : aRes} {i : Int32} (hi : inb i n = true) : Rn (some (n, xs)) d 211 960 L (.int i :: .ref 0 :: st) σ r ↔ Rn (some (n, xs)) d 211 961 L (.int (xs i.toNatClampNeg) :: st) σ r := r_sci d211_960 hi
theorem x211_965 {n : Nat} {xs : Nat → Int32} {d : Nat} {L st : List Value} {σ : aS} {r : aRes} {i : Int32} (hi : inb i n = true) : Rn (some (n, xs)) d 211 965 L (.int i :: .ref 0 :: st) σ r ↔ Rn (some (n, xs)) d 211 966 L (.int (xs i.toNatClampNeg) :: st) σ r := r_sci d211_965 hi
theorem x211_1005 {n : Nat} {xs : Nat → Int32} {d : Nat} {L st : List Value} {σ : aS} {r : aRes} {i : Int32} (hi : inb i n = true) : Rn (some (n, xs)) d 211 1005 L (.int i :: .ref 0 :: st) σ r ↔ Rn (some (n, xs)) d 211 1006 L (.int (xs i.toNatClampNeg) :: st) σ r := r_sci d211_1005 hi
theorem x211_1010 {n : Nat} {xs : Nat → Int32} {d : Nat} {L st : List Value} {σ : aS} {r : aRes} {i : Int32} (hi : inb i n = true) : Rn (some (n, xs)) d 211 1010 L (.int i :: .ref 0 :: st) σ r ↔ Rn (some (n, xs)) d 211 1011 L (.int (xs i.toNatClampNeg) :: st) σ r := r_sci d211_1010 hi
theorem x211_1015 {n : Nat} {xs : Nat → Int32} {d : Nat} {L st : List Value} {σ : aS} {r : aRes} {i : Int32} (hi : inb i n = true) : Rn (some (n, xs)) d 211 1015 L (.int i :: .ref 0 :: st) σ r ↔ Rn (some (n, xs)) d 211 1016 L (.int (xs i.toNatClampNeg) :: st) σ r := r_sci d211_1015 hi
theorem x211_1024 {n : Nat} {xs : Nat → Int32} {d : Nat} {L st : List Value} {σ : aS} {r : aRes} {i : Int32} (hi : inb i n = true) : Rn (some (n, xs)) d 211 1024 L (.int i :: .ref 0 :: st) σ r ↔ Rn (some (n, xs)) d 211 1025 L (.int (xs i.toNatClampNeg) :: st) σ r := r_sci d211_1024 hi
theorem x211_1029 {n : Nat} {xs : Nat → Int32} {d : Nat} {L st : List Value} {σ : aS} {r : aRes} {i : Int32} (hi : inb i n = true) : Rn (some (n, xs)) d 211 1029 L (.int i :: .ref 0 :: st) σ r ↔ Rn (some (n, xs)) d 211 1030 L (.int (xs i.toNatClampNeg) :: st) σ r := r_sci d211_1029 hi
theorem x211_1034 {n : Nat} {xs : Nat → Int32} {d : Nat} {L st : List Value} {σ : aS} {r : aRes} {i : Int32} (hi : inb i n = true) : Rn (some (n, xs)) d 211 1034 L (.int i :: .ref 0 :: st) σ r ↔ Rn (some (n, xs)) d 211 1035 L (.int (xs i.toNatClampNeg) :: st) σ r := r_sci d211_1034 hi
theorem x211_1048 {n : Nat} {xs : Nat → Int32} {d : Nat} {L st : List Value} {σ : aS} {r : aRes} {i : Int32} (hi : inb i n = true) : Rn (some (n, xs)) d 211 1048 L (.int i :: .ref 0 :: st) σ r ↔ Rn (some (n, xs)) d 211 1049 L (.int (xs i.toNatClampNeg) :: st) σ r := r_sci d211_1048 hi
theorem x211_1057 {n : Nat} {xs : Nat → Int32} {d : Nat} {L st : List Value} {σ : aS} {r : aRes} {i : Int32} (hi : inb i n = true) : Rn (some (n, xs)) d 211 1057 L (.int i :: .ref 0 :: st) σ r ↔ Rn (some (n, xs)) d 211 1058 L (.int (xs i.toNatClampNeg) :: st) σ r := r_sci d211_1057 hi
theorem x211_1071 {n : Nat} {xs : Nat → Int32} {d : Nat} {L st : List Value} {σ : aS} {r : aRes} {i : Int32} (hi : inb i n = true) : Rn (some (n, xs)) d 211 1071 L (.int i :: .ref 0 :: st) σ r ↔ Rn (some (n, xs)) d 211 1072 L (.int (xs i.toNatClampNeg) :: st) σ r := r_sci d211_1071 hi
theorem x211_1076 {n : Nat} {xs : Nat → Int32} {d : Nat} {L st : List Value} {σ : aS} {r : aRes} {i : Int32} (hi : inb i n = true) : Rn (some (n, xs)) d 211 1076 L (.int i :: .ref 0 :: st) σ r ↔ Rn (some (n, xs)) d 211 1077 L (.int (xs i.toNatClampNeg) :: st) σ r := r_sci d211_1076 hi
theorem x211_1085 {n : Nat} {xs : Nat → Int32} {d : Nat} {L st : List Value} {σ : aS} {r : aRes} {i : Int32} (hi : inb i n = true) : Rn (some (n, xs)) d 211 1085 L (.int i :: .ref 0 :: st) σ r ↔ Rn (some (n, xs)) d 211 1086 L (.int (xs i.toNatClampNeg) :: st) σ r := r_sci d211_1085 hi
theorem x211_1090 {n : Nat} {xs : Nat → Int32} {d : Nat} {L st : List Value} {σ : aS} {r : aRes} {i : Int32} (hi : inb i n = true) : Rn (some (n, xs)) d 211 1090 L (.int i :: .ref 0 :: st) σ r ↔ Rn (some (n, xs)) d 211 1091 L (.int (xs i.toNatClampNeg) :: st) σ r := r_sci d211_1090 hi
theorem x211_1104 {n : Nat} {xs : Nat → Int32} {d : Nat} {L st : List Value} {σ : aS} {r : aRes} {i : Int32} (hi : inb i n = true) : Rn (some (n, xs)) d 211 1104 L (.int i :: .ref 0 :: st) σ r ↔ Rn (some (n, xs)) d 211 1105 L (.int (xs i.toNatClampNeg) :: st) σ r := r_sci d211_1104 hi
theorem x211_1113 {n : Nat} {xs : Nat → Int32} {d : Nat} {L st : List Value} {σ : aS} {r : aRes} {i : Int32} (hi : inb i n = true) : Rn (some (n, xs)) d 211 1113 L (.int i :: .ref 0 :: st) σ r ↔ Rn (some (n, xs)) d 211 1114 L (.int (xs i.toNatClampNeg) :: st) σ r := r_sci d211_1113 hi
theorem x211_1127 {n : Nat} {xs : Nat → Int32} {d : Nat} {L st : List Value} {σ : aS} {r : aRes} {i : Int32} (hi : inb i n = true) : Rn (some (n, xs)) d 211 1127 L (.int i :: .ref 0 :: st) σ r ↔ Rn (some (n, xs)) d 211 1128 L (.int (xs i.toNatClampNeg) :: st) σ r := r_sci d211_1127 hi
theorem x211_1132 {n : Nat} {xs : Nat → Int32} {d : Nat} {L st : List Value} {σ : aS} {r : aRes} {i : Int32} (hi : inb i n = true) : Rn (some (n, xs)) d 211 1132 L (.int i :: .ref 0 :: st) σ r ↔ Rn (some (n, xs)) d 211 1133 L (.int (xs i.toNatClampNeg) :: st) σ r := r_sci d211_1132 hi
theorem x211_1137 {n : Nat} {xs : Nat → Int32} {d : Nat} {L st : List Value} {σ : aS} {r : aRes} {i : Int32} (hi : inb i n = true) : Rn (some (n, xs)) d 211 1137 L (.int i :: .ref 0 :: st) σ r ↔ Rn (some (n, xs)) d 211 1138 L (.int (xs i.toNatClampNeg) :: st) σ r := r_sci d211_1137 hi
theorem x211_1146 {n : Nat} {xs : Nat → Int32} {d : Nat} {L st : List Value} {σ : aS} {r : aRes} {i : Int32} (hi : inb i n = true) : Rn (some (n, xs)) d 211 1146 L (.int i :: .ref 0 :: st) σ r ↔ Rn (some (n, xs)) d 211 1147 L (.int (xs i.toNatClampNeg) :: st) σ r := r_sci d211_1146 hi
theorem x211_1151 {n : Nat} {xs : Nat → Int32} {d : Nat} {L st : List Value} {σ : aS} {r : aRes} {i : Int32} (hi : inb i n = true) : Rn (some (n, xs)) d 211 1151 L (.int i :: .ref 0 :: st) σ r ↔ Rn (some (n, xs)) d 211 1152 L (.int (xs i.toNatClampNeg) :: st) σ r := r_sci d211_1151 hi
theorem x211_1156 {n : Nat} {xs : Nat → Int32} {d : Nat} {L st : List Value} {σ : aS} {r : aRes} {i : Int32} (hi : inb i n = true) : Rn (some (n, xs)) d 211 1156 L (.int i :: .ref 0 :: st) σ r ↔ Rn (some (n, xs)) d 211 1157 L (.int (xs i.toNatClampNeg) :: st) σ r := r_sci d211_1156 hi
theorem x211_1170 {n : Nat} {xs : Nat → Int32} {d : Nat} {L st : List Value} {σ : aS} {r : aRes} {i : Int32} (hi : inb i n = true) : Rn (some (n, xs)) d 211 1170 L (.int i :: .ref 0 :: st) σ r ↔ Rn (some (n, xs)) d 211 1171 L (.int (xs i.toNatClampNeg) :: st) σ r := r_sci d211_1170 hi
theorem x211_1175 {n : Nat} {xs : Nat → Int32} {d : Nat} {L st : List Value} {σ : aS} {r : aRes} {i : Int32} (hi : inb i n = true) : Rn (some (n, xs)) d 211 1175 L (.int i :: .ref 0 :: st) σ r ↔ Rn (some (n, xs)) d 211 1176 L (.int (xs i.toNatClampNeg) :: st) σ r := r_sci d211_1175 hi
theorem x211_1180 {n : Nat} {xs : Nat → Int32} {d : Nat} {L st : List Value} {σ : aS} {r : aRes} {i : Int32} (hi : inb i n = true) : Rn (some (n, xs)) d 211 1180 L (.int i :: .ref 0 :: st) σ r ↔ Rn (some (n, xs)) d 211 1181 L (.int (xs i.toNatClampNeg) :: st) σ r := r_sci d211_1180 hi
theorem x211_1189 {n : Nat} {xs : Nat → Int32} {d : Nat} {L st : List Value} {σ : aS} {r : aRes} {i : Int32} (hi : inb i n = true) : Rn (some (n, xs)) d 211 1189 L (.int i :: .ref 0 :: st) σ r ↔ Rn (some (n, xs)) d 211 1190 L (.int (xs i.toNatClampNeg) :: st) σ r := r_sci d211_1189 hi
theorem x211_1204 {n : Nat} {xs : Nat → Int32} {d : Nat} {L st : List Value} {σ : aS} {r : aRes} {i : Int32} (hi : inb i n = true) : Rn (some (n, xs)) d 211 1204 L (.int i :: .ref 0 :: st) σ r ↔ Rn (some (n, xs)) d 211 1205 L (.int (xs i.toNatClampNeg) :: st) σ r := r_sci d211_1204 hi
theorem x211_1209 {n : Nat} {xs : Nat → Int32} {d : Nat} {L st : List Value} {σ : aS} {r : aRes} {i : Int32} (hi : inb i n = true) : Rn (some (n, xs)) d 211 1209 L (.int i :: .ref 0 :: st) σ r ↔ Rn (some (n, xs)) d 211 1210 L (.int (xs i.toNatClampNeg) :: st) σ r := r_sci d211_1209 hi
theorem x211_1214 {n : Nat} {xs : Nat → Int32} {d : Nat} {L st : List Value} {σ : aS} {r : aRes} {i : Int32} (hi : inb i n = true) : Rn (some (n, xs)) d 211 1214 L (.int i :: .ref 0 :: st) σ r ↔ Rn (some (n, xs)) d 211 1215 L (.int (xs i.toNatClampNeg) :: st) σ r := r_sci d211_1214 hi
theorem x211_1223 {n : Nat} {xs : Nat → Int32} {d : Nat} {L st : List Value} {σ : aS} {r : aRes} {i : Int32} (hi : inb i n = true) : Rn (some (n, xs)) d 211 1223 L (.int i :: .ref 0 :: st) σ r ↔ Rn (some (n, xs)) d 211 1224 L (.int (xs i.toNatClampNeg) :: st) σ r := r_sci d211_1223 hi
theorem x211_1243 {n : Nat} {xs : Nat → Int32} {d : Nat} {L st : List Value} {σ : aS} {r : aRes} {i : Int32} (hi : inb i n = true) : Rn (some (n, xs)) d 211 1243 L (.int i :: .ref 0 :: st) σ r ↔ Rn (some (n, xs)) d 211 1244 L (.int (xs i.toNatClampNeg) :: st) σ r := r_sci d211_1243 hi
theorem x211_1248 {n : Nat} {xs : Nat → Int32} {d : Nat} {L st : List Value} {σ : aS} {r : aRes} {i : Int32} (hi : inb i n = true) : Rn (some (n, xs)) d 211 1248 L (.int i :: .ref 0 :: st) σ r ↔ Rn (some (n, xs)) d 211 1249 L (.int (xs i.toNatClampNeg) :: st) σ r := r_sci d211_1248 hi
theorem x211_1257 {n : Nat} {xs : Nat → Int32} {d : Nat} {L st : List Value} {σ : aS} {r : aRes} {i : Int32} (hi : inb i n = true) : Rn (some (n, xs)) d 211 1257 L (.int i :: .ref 0 :: st) σ r ↔ Rn (some (n, xs)) d 211 1258 L (.int (xs i.toNatClampNeg) :: st) σ r := r_sci d211_1257 hi
theorem x211_1262 {n : Nat} {xs : Nat → Int32} {d : Nat} {L st : List Value} {σ : aS} {r : aRes} {i : Int32} (hi : inb i n = true) : Rn (some (n, xs)) d 211 1262 L (.int i :: .ref 0 :: st) σ r ↔ Rn (some (n, xs)) d 211 1263 L (.int (xs i.toNatClampNeg) :: st) σ r := r_sci d211_1262 hi
theorem x211_1277 {n : Nat} {xs : Nat → Int32} {d : Nat} {L st : List Value} {σ : aS} {r : aRes} {i : Int32} (hi : inb i n = true) : Rn (some (n, xs)) d 211 1277 L (.int i :: .ref 0 :: st) σ r ↔ Rn (some (n, xs)) d 211 1278 L (.int (xs i.toNatClampNeg) :: st) σ r := r_sci d211_1277 hi
theorem x211_1282 {n : Nat} {xs : Nat → Int32} {d : Nat} {L st : List Value} {σ : aS} {r : aRes} {i : Int32} (hi : inb i n = true) : Rn (some (n, xs)) d 211 1282 L (.int i :: .ref 0 :: st) σ r ↔ Rn (some (n, xs)) d 211 1283 L (.int (xs i.toNatClampNeg) :: st) σ r := r_sci d211_1282 hi
theorem x211_1287 {n : Nat} {xs : Nat → Int32} {d : Nat} {L st : List Value} {σ : aS} {r : aRes} {i : Int32} (hi : inb i n = true) : Rn (some (n, xs)) d 211 1287 L (.int i :: .ref 0 :: st) σ r ↔ Rn (some (n, xs)) d 211 1288 L (.int (xs i.toNatClampNeg) :: st) σ r := r_sci d211_1287 hi
theorem x211_1292 {n : Nat} {xs : Nat → Int32} {d : Nat} {L st : List Value} {σ : aS} {r : aRes} {i : Int32} (hi : inb i n = true) : Rn (some (n, xs)) d 211 1292 L (.int i :: .ref 0 :: st) σ r ↔ Rn (some (n, xs)) d 211 1293 L (.int (xs i.toNatClampNeg) :: st) σ r := r_sci d211_1292 hi
theorem x211_1297 {n : Nat} {xs : Nat → Int32} {d : Nat} {L st : List Value} {σ : aS} {r : aRes} {i : Int32} (hi : inb i n = true) : Rn (some (n, xs)) d 211 1297 L (.int i :: .ref 0 :: st) σ r ↔ Rn (some (n, xs)) d 211 1298 L (.int (xs i.toNatClampNeg) :: st) σ r := r_sci d211_1297 hi
theorem x211_1306 {n : Nat} {xs : Nat → Int32} {d : Nat} {L st : List Value} {σ : aS} {r : aRes} {i : Int32} (hi : inb i n = true) : Rn (some (n, xs)) d 211 1306 L (.int i :: .ref 0 :: st) σ r ↔ Rn (some (n, xs)) d 211 1307 L (.int (xs i.toNatClampNeg) :: st) σ r := r_sci d211_1306 hi
theorem x211_1311 {n : Nat} {xs : Nat → Int32} {d : Nat} {L st : List Value} {σ : aS} {r : aRes} {i : Int32} (hi : inb i n = true) : Rn (some (n, xs)) d 211 1311 L (.int i :: .ref 0 :: st) σ r ↔ Rn (some (n, xs)) d 211 1312 L (.int (xs i.toNatClampNeg) :: st) σ r := r_sci d211_1311 hi
theorem x211_1316 {n : Nat} {xs : Nat → Int32} {d : Nat} {L st : List Value} {σ : aS} {r : aRes} {i : Int32} (hi : inb i n = true) : Rn (some (n, xs)) d 211 1316 L (.int i :: .ref 0 :: st) σ r ↔ Rn (some (n, xs)) d 211 1317 L (.int (xs i.toNatClampNeg) :: st) σ r := r_sci d211_1316 hi
theorem x211_1321 {n : Nat} {xs : Nat → Int32} {d : Nat} {L st : List Value} {σ : aS} {r : aRes} {i : Int32} (hi : inb i n = true) : Rn (some (n, xs)) d 211 1321 L (.int i :: .ref 0 :: st) σ r ↔ Rn (some (n, xs)) d 211 1322 L (.int (xs i.toNatClampNeg) :: st) σ r := r_sci d211_1321 hi
theorem x211_1326 {n : Nat} {xs : Nat → Int32} {d : Nat} {L st : List Value} {σ : aS} {r : aRes} {i : Int32} (hi : inb i n = true) : Rn (some (n, xs)) d 211 1326 L (.int i :: .ref 0 :: st) σ r ↔ Rn (some (n, xs)) d 211 1327 L (.int (xs i.toNatClampNeg) :: st) σ r := r_sci d211_1326 hi
