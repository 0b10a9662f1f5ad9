/-! what the rows of the instructions stand on -/
def rf (h1 h2 o k : Nat) : Nat := (RR h1 h2 o k).getD 0
def aln (a : Nat) : Nat := match KK[a]? with
  | some (.inr (_, n)) => n
  | _ => 0
def aty (a : Nat) : FieldType := match KK[a]? with
  | some (.inr (t, _)) => t
  | _ => .int
def isT9 (ty : FieldType) (a : Nat) : Prop := KK[a]? = some (.inr (ty, aln a))
def isA (a : Nat) : Prop := KK[a]? = some (.inr (aty a, aln a))
def isG (a : Nat) : Prop := KK[a]? = some (.inr (aty a, aln a)) ∧ isRf (aty a) = true
theorem rf_of {h1 h2 o k : Nat} (h : (RR h1 h2 o k).isSome = true) : RR h1 h2 o k = some (rf h1 h2 o k) := by
  unfold rf
  cases e : RR h1 h2 o k with
  | none => rw [e] at h; cases h
  | some q => rfl
section G2
variable {sc : aSc} {d m pc : Nat} {L st : List Value} {r : aRes} {f : Nat → Nat → Int32} {g : Nat → Nat → Int64} {h1 h2 : Nat}
theorem r_getR2 {x ci k o : Nat} (hd : decode (mC m) pc = .ok (.getfield x, 3)) (hl : lk3 flT (mO m) x = some (ci, k)) (hk : k < nfl ci) (ht : ∀ σ : aS, fvl σ o k (cty ci k) = va_rf (aR σ o k)) (hK : KK[o]? = some (.inl ci)) (hR : (RR h1 h2 o k).isSome = true) : Rn sc d m pc L (.ref o :: st) (cS f g h1 h2) r ↔ Rn sc d m (pc + 3) L (.ref (rf h1 h2 o k) :: st) (cS f g h1 h2) r := r_getR hd hl hk ht hK (rf_of hR)
theorem r_alen2 {a : Nat} (hd : decode (mC m) pc = .ok (.arraylength, 1)) (ha : ¬ a = 0) (hA : isA a) : Rn sc d m pc L (.ref a :: st) (cS f g h1 h2) r ↔ Rn sc d m (pc + 1) L (.int (nI (aln a)) :: st) (cS f g h1 h2) r := r_alen hd ha hA
theorem r_aald2 {a : Nat} {i : Int32} (hd : decode (mC m) pc = .ok (.aaload, 1)) (h17 : 17 ≤ a) (hA : isG a) (hi : inb i (aln a) = true) (hR : (RR h1 h2 a i.toNatClampNeg).isSome = true) : Rn sc d m pc L (.int i :: .ref a :: st) (cS f g h1 h2) r ↔ Rn sc d m (pc + 1) L (.ref (rf h1 h2 a i.toNatClampNeg) :: st) (cS f g h1 h2) r := r_aald hd h17 hA.1 hA.2 hi (rf_of hR)
end G2
theorem al1 : aln 1 = 7 := rfl
theorem iA1 : isA 1 := rfl
theorem it1 : isT9 .int 1 := rfl
theorem al2 : aln 2 = 21 := rfl
theorem iA2 : isA 2 := rfl
theorem it2 : isT9 .int 2 := rfl
theorem al3 : aln 3 = 21 := rfl
theorem iA3 : isA 3 := rfl
theorem it3 : isT9 .int 3 := rfl
theorem al4 : aln 4 = 21 := rfl
theorem iA4 : isA 4 := rfl
theorem it4 : isT9 .int 4 := rfl
theorem al11 : aln 11 = 5 := rfl
theorem iA11 : isA 11 := rfl
theorem it11 : isT9 .byte 11 := rfl
theorem al12 : aln 12 = 4 := rfl
theorem iA12 : isA 12 := rfl
theorem it12 : isT9 .byte 12 := rfl
theorem al13 : aln 13 = 5 := rfl
theorem iA13 : isA 13 := rfl
theorem it13 : isT9 .byte 13 := rfl
theorem al14 : aln 14 = 5 := rfl
theorem iA14 : isA 14 := rfl
theorem it14 : isT9 .byte 14 := rfl
theorem al15 : aln 15 = 6 := rfl
theorem iA15 : isA 15 := rfl
theorem it15 : isT9 .byte 15 := rfl
theorem al16 : aln 16 = 3 := rfl
theorem iA16 : isA 16 := rfl
theorem it16 : isT9 .byte 16 := rfl
theorem al19 : aln 19 = 100 := rfl
theorem iA19 : isA 19 := rfl
theorem it19 : isT9 .byte 19 := rfl
theorem al20 : aln 20 = 6 := rfl
theorem iA20 : isA 20 := rfl
theorem iG20 : isG 20 := ⟨rfl, rfl⟩
theorem al22 : aln 22 = 5 := rfl
theorem iA22 : isA 22 := rfl
theorem iG22 : isG 22 := ⟨rfl, rfl⟩
theorem al23 : aln 23 = 128 := rfl
theorem iA23 : isA 23 := rfl
theorem it23 : isT9 .int 23 := rfl
theorem al24 : aln 24 = 128 := rfl
theorem iA24 : isA 24 := rfl
theorem it24 : isT9 .int 24 := rfl
theorem al25 : aln 25 = 128 := rfl
theorem iA25 : isA 25 := rfl
theorem it25 : isT9 .int 25 := rfl
theorem al26 : aln 26 = 128 := rfl
theorem iA26 : isA 26 := rfl
theorem it26 : isT9 .int 26 := rfl
theorem al27 : aln 27 = 128 := rfl
theorem iA27 : isA 27 := rfl
theorem it27 : isT9 .int 27 := rfl
theorem al28 : aln 28 = 5 := rfl
theorem iA28 : isA 28 := rfl
theorem iG28 : isG 28 := ⟨rfl, rfl⟩
theorem al29 : aln 29 = 128 := rfl
theorem iA29 : isA 29 := rfl
theorem it29 : isT9 .int 29 := rfl
theorem al30 : aln 30 = 128 := rfl
theorem iA30 : isA 30 := rfl
theorem it30 : isT9 .int 30 := rfl
theorem al31 : aln 31 = 128 := rfl
theorem iA31 : isA 31 := rfl
theorem it31 : isT9 .int 31 := rfl
theorem al32 : aln 32 = 128 := rfl
theorem iA32 : isA 32 := rfl
theorem it32 : isT9 .int 32 := rfl
theorem al33 : aln 33 = 128 := rfl
theorem iA33 : isA 33 := rfl
theorem it33 : isT9 .int 33 := rfl
theorem al34 : aln 34 = 4 := rfl
theorem iA34 : isA 34 := rfl
theorem iG34 : isG 34 := ⟨rfl, rfl⟩
theorem al35 : aln 35 = 128 := rfl
theorem iA35 : isA 35 := rfl
theorem it35 : isT9 .int 35 := rfl
theorem al36 : aln 36 = 128 := rfl
theorem iA36 : isA 36 := rfl
theorem it36 : isT9 .int 36 := rfl
theorem al37 : aln 37 = 128 := rfl
theorem iA37 : isA 37 := rfl
theorem it37 : isT9 .int 37 := rfl
theorem al38 : aln 38 = 128 := rfl
theorem iA38 : isA 38 := rfl
theorem it38 : isT9 .int 38 := rfl
theorem al39 : aln 39 = 4 := rfl
theorem iA39 : isA 39 := rfl
theorem iG39 : isG 39 := ⟨rfl, rfl⟩
theorem al40 : aln 40 = 128 := rfl
theorem iA40 : isA 40 := rfl
theorem it40 : isT9 .int 40 := rfl
theorem al41 : aln 41 = 128 := rfl
theorem iA41 : isA 41 := rfl
theorem it41 : isT9 .int 41 := rfl
theorem al42 : aln 42 = 128 := rfl
theorem iA42 : isA 42 := rfl
theorem it42 : isT9 .int 42 := rfl
theorem al43 : aln 43 = 128 := rfl
theorem iA43 : isA 43 := rfl
theorem it43 : isT9 .int 43 := rfl
theorem al44 : aln 44 = 4 := rfl
theorem iA44 : isA 44 := rfl
theorem iG44 : isG 44 := ⟨rfl, rfl⟩
theorem al45 : aln 45 = 14 := rfl
theorem iA45 : isA 45 := rfl
theorem it45 : isT9 .int 45 := rfl
theorem al46 : aln 46 = 14 := rfl
theorem iA46 : isA 46 := rfl
theorem it46 : isT9 .int 46 := rfl
theorem al47 : aln 47 = 14 := rfl
theorem iA47 : isA 47 := rfl
theorem it47 : isT9 .int 47 := rfl
theorem al48 : aln 48 = 14 := rfl
theorem iA48 : isA 48 := rfl
theorem it48 : isT9 .int 48 := rfl
theorem al50 : aln 50 = 20 := rfl
theorem iA50 : isA 50 := rfl
theorem it50 : isT9 .int 50 := rfl
theorem al51 : aln 51 = 6 := rfl
theorem iA51 : isA 51 := rfl
theorem iG51 : isG 51 := ⟨rfl, rfl⟩
theorem al53 : aln 53 = 10 := rfl
theorem iA53 : isA 53 := rfl
theorem it53 : isT9 .int 53 := rfl
theorem al54 : aln 54 = 10 := rfl
theorem iA54 : isA 54 := rfl
theorem it54 : isT9 .int 54 := rfl
theorem al55 : aln 55 = 100 := rfl
theorem iA55 : isA 55 := rfl
theorem it55 : isT9 .int 55 := rfl
theorem al57 : aln 57 = 7 := rfl
theorem iA57 : isA 57 := rfl
theorem it57 : isT9 .int 57 := rfl
theorem al58 : aln 58 = 7 := rfl
theorem iA58 : isA 58 := rfl
theorem it58 : isT9 .int 58 := rfl
theorem al59 : aln 59 = 7 := rfl
theorem iA59 : isA 59 := rfl
theorem it59 : isT9 .int 59 := rfl
theorem al60 : aln 60 = 7 := rfl
theorem iA60 : isA 60 := rfl
theorem it60 : isT9 .int 60 := rfl
theorem al61 : aln 61 = 28 := rfl
theorem iA61 : isA 61 := rfl
theorem it61 : isT9 .int 61 := rfl
theorem al62 : aln 62 = 12 := rfl
theorem iA62 : isA 62 := rfl
theorem it62 : isT9 .int 62 := rfl
theorem al63 : aln 63 = 12 := rfl
theorem iA63 : isA 63 := rfl
theorem it63 : isT9 .int 63 := rfl
theorem al64 : aln 64 = 12 := rfl
theorem iA64 : isA 64 := rfl
theorem it64 : isT9 .int 64 := rfl
theorem al65 : aln 65 = 12 := rfl
theorem iA65 : isA 65 := rfl
theorem it65 : isT9 .int 65 := rfl
theorem al66 : aln 66 = 6 := rfl
theorem iA66 : isA 66 := rfl
theorem it66 : isT9 .int 66 := rfl
theorem al68 : aln 68 = 7 := rfl
theorem iA68 : isA 68 := rfl
theorem it68 : isT9 .int 68 := rfl
theorem al69 : aln 69 = 7 := rfl
theorem iA69 : isA 69 := rfl
theorem it69 : isT9 .int 69 := rfl
theorem al70 : aln 70 = 7 := rfl
theorem iA70 : isA 70 := rfl
theorem it70 : isT9 .int 70 := rfl
theorem al71 : aln 71 = 7 := rfl
theorem iA71 : isA 71 := rfl
theorem it71 : isT9 .int 71 := rfl
theorem al72 : aln 72 = 28 := rfl
theorem iA72 : isA 72 := rfl
theorem it72 : isT9 .int 72 := rfl
theorem al73 : aln 73 = 12 := rfl
theorem iA73 : isA 73 := rfl
theorem it73 : isT9 .int 73 := rfl
theorem al74 : aln 74 = 12 := rfl
theorem iA74 : isA 74 := rfl
theorem it74 : isT9 .int 74 := rfl
theorem al75 : aln 75 = 12 := rfl
theorem iA75 : isA 75 := rfl
theorem it75 : isT9 .int 75 := rfl
theorem al76 : aln 76 = 12 := rfl
theorem iA76 : isA 76 := rfl
theorem it76 : isT9 .int 76 := rfl
theorem al77 : aln 77 = 6 := rfl
theorem iA77 : isA 77 := rfl
theorem it77 : isT9 .int 77 := rfl
theorem al79 : aln 79 = 10 := rfl
theorem iA79 : isA 79 := rfl
theorem it79 : isT9 .int 79 := rfl
theorem al80 : aln 80 = 10 := rfl
theorem iA80 : isA 80 := rfl
theorem it80 : isT9 .int 80 := rfl
theorem al81 : aln 81 = 100 := rfl
theorem iA81 : isA 81 := rfl
theorem it81 : isT9 .int 81 := rfl
theorem al83 : aln 83 = 10 := rfl
theorem iA83 : isA 83 := rfl
theorem it83 : isT9 .int 83 := rfl
theorem al84 : aln 84 = 10 := rfl
theorem iA84 : isA 84 := rfl
theorem it84 : isT9 .int 84 := rfl
theorem al85 : aln 85 = 100 := rfl
theorem iA85 : isA 85 := rfl
theorem it85 : isT9 .int 85 := rfl
theorem al87 : aln 87 = 10 := rfl
theorem iA87 : isA 87 := rfl
theorem it87 : isT9 .int 87 := rfl
theorem al88 : aln 88 = 10 := rfl
theorem iA88 : isA 88 := rfl
theorem it88 : isT9 .int 88 := rfl
theorem al89 : aln 89 = 100 := rfl
theorem iA89 : isA 89 := rfl
theorem it89 : isT9 .int 89 := rfl
theorem al91 : aln 91 = 10 := rfl
theorem iA91 : isA 91 := rfl
theorem it91 : isT9 .int 91 := rfl
theorem al92 : aln 92 = 10 := rfl
theorem iA92 : isA 92 := rfl
theorem it92 : isT9 .int 92 := rfl
theorem al93 : aln 93 = 100 := rfl
theorem iA93 : isA 93 := rfl
theorem it93 : isT9 .int 93 := rfl
theorem al95 : aln 95 = 10 := rfl
theorem iA95 : isA 95 := rfl
theorem it95 : isT9 .int 95 := rfl
theorem al96 : aln 96 = 10 := rfl
theorem iA96 : isA 96 := rfl
theorem it96 : isT9 .int 96 := rfl
theorem al97 : aln 97 = 100 := rfl
theorem iA97 : isA 97 := rfl
theorem it97 : isT9 .int 97 := rfl
theorem al99 : aln 99 = 10 := rfl
theorem iA99 : isA 99 := rfl
theorem it99 : isT9 .int 99 := rfl
theorem al100 : aln 100 = 10 := rfl
theorem iA100 : isA 100 := rfl
theorem it100 : isT9 .int 100 := rfl
theorem al101 : aln 101 = 100 := rfl
theorem iA101 : isA 101 := rfl
theorem it101 : isT9 .int 101 := rfl
theorem al103 : aln 103 = 60 := rfl
theorem iA103 : isA 103 := rfl
theorem it103 : isT9 .long 103 := rfl
theorem al105 : aln 105 = 60 := rfl
theorem iA105 : isA 105 := rfl
theorem it105 : isT9 .long 105 := rfl
theorem al107 : aln 107 = 60 := rfl
theorem iA107 : isA 107 := rfl
theorem it107 : isT9 .long 107 := rfl
theorem al109 : aln 109 = 60 := rfl
theorem iA109 : isA 109 := rfl
theorem it109 : isT9 .long 109 := rfl
theorem al111 : aln 111 = 60 := rfl
theorem iA111 : isA 111 := rfl
theorem it111 : isT9 .long 111 := rfl
theorem al113 : aln 113 = 60 := rfl
theorem iA113 : isA 113 := rfl
theorem it113 : isT9 .long 113 := rfl
theorem al115 : aln 115 = 7 := rfl
theorem iA115 : isA 115 := rfl
theorem it115 : isT9 .int 115 := rfl
theorem al116 : aln 116 = 7 := rfl
theorem iA116 : isA 116 := rfl
theorem it116 : isT9 .int 116 := rfl
theorem al117 : aln 117 = 7 := rfl
theorem iA117 : isA 117 := rfl
theorem it117 : isT9 .int 117 := rfl
theorem al118 : aln 118 = 7 := rfl
theorem iA118 : isA 118 := rfl
theorem it118 : isT9 .int 118 := rfl
theorem al119 : aln 119 = 7 := rfl
theorem iA119 : isA 119 := rfl
theorem it119 : isT9 .int 119 := rfl
theorem al120 : aln 120 = 28 := rfl
theorem iA120 : isA 120 := rfl
theorem it120 : isT9 .int 120 := rfl
theorem al121 : aln 121 = 100 := rfl
theorem iA121 : isA 121 := rfl
theorem it121 : isT9 .int 121 := rfl
theorem al122 : aln 122 = 6 := rfl
theorem iA122 : isA 122 := rfl
theorem it122 : isT9 .int 122 := rfl
theorem al123 : aln 123 = 60 := rfl
theorem iA123 : isA 123 := rfl
theorem it123 : isT9 .int 123 := rfl
theorem al124 : aln 124 = 60 := rfl
theorem iA124 : isA 124 := rfl
theorem it124 : isT9 .int 124 := rfl
theorem al125 : aln 125 = 60 := rfl
theorem iA125 : isA 125 := rfl
theorem it125 : isT9 .int 125 := rfl
theorem al126 : aln 126 = 60 := rfl
theorem iA126 : isA 126 := rfl
theorem it126 : isT9 .int 126 := rfl
theorem al127 : aln 127 = 600 := rfl
theorem iA127 : isA 127 := rfl
theorem it127 : isT9 .int 127 := rfl
theorem al128 : aln 128 = 101 := rfl
theorem iA128 : isA 128 := rfl
theorem it128 : isT9 .int 128 := rfl
theorem al129 : aln 129 = 17 := rfl
theorem iA129 : isA 129 := rfl
theorem it129 : isT9 .int 129 := rfl
theorem al130 : aln 130 = 100 := rfl
theorem iA130 : isA 130 := rfl
theorem it130 : isT9 .boolean 130 := rfl
theorem al131 : aln 131 = 4 := rfl
theorem iA131 : isA 131 := rfl
theorem it131 : isT9 .int 131 := rfl
theorem al132 : aln 132 = 4 := rfl
theorem iA132 : isA 132 := rfl
theorem it132 : isT9 .int 132 := rfl
theorem al133 : aln 133 = 5 := rfl
theorem iA133 : isA 133 := rfl
theorem it133 : isT9 .int 133 := rfl
theorem al134 : aln 134 = 12 := rfl
theorem iA134 : isA 134 := rfl
theorem it134 : isT9 .int 134 := rfl
theorem al135 : aln 135 = 12 := rfl
theorem iA135 : isA 135 := rfl
theorem it135 : isT9 .int 135 := rfl
theorem al136 : aln 136 = 12 := rfl
theorem iA136 : isA 136 := rfl
theorem it136 : isT9 .int 136 := rfl
theorem al137 : aln 137 = 12 := rfl
theorem iA137 : isA 137 := rfl
theorem it137 : isT9 .int 137 := rfl
theorem al138 : aln 138 = 7 := rfl
theorem iA138 : isA 138 := rfl
theorem it138 : isT9 .int 138 := rfl
theorem al139 : aln 139 = 7 := rfl
theorem iA139 : isA 139 := rfl
theorem it139 : isT9 .int 139 := rfl
theorem al140 : aln 140 = 7 := rfl
theorem iA140 : isA 140 := rfl
theorem it140 : isT9 .int 140 := rfl
theorem al141 : aln 141 = 7 := rfl
theorem iA141 : isA 141 := rfl
theorem it141 : isT9 .int 141 := rfl
theorem al142 : aln 142 = 7 := rfl
theorem iA142 : isA 142 := rfl
theorem it142 : isT9 .int 142 := rfl
theorem al143 : aln 143 = 28 := rfl
theorem iA143 : isA 143 := rfl
theorem it143 : isT9 .int 143 := rfl
theorem al144 : aln 144 = 12 := rfl
theorem iA144 : isA 144 := rfl
theorem it144 : isT9 .int 144 := rfl
theorem al145 : aln 145 = 12 := rfl
theorem iA145 : isA 145 := rfl
theorem it145 : isT9 .int 145 := rfl
theorem al146 : aln 146 = 12 := rfl
theorem iA146 : isA 146 := rfl
theorem it146 : isT9 .int 146 := rfl
theorem al147 : aln 147 = 12 := rfl
theorem iA147 : isA 147 := rfl
theorem it147 : isT9 .int 147 := rfl
theorem al148 : aln 148 = 20 := rfl
theorem iA148 : isA 148 := rfl
theorem it148 : isT9 .int 148 := rfl
theorem al149 : aln 149 = 6 := rfl
theorem iA149 : isA 149 := rfl
theorem it149 : isT9 .int 149 := rfl
theorem al150 : aln 150 = 6 := rfl
theorem iA150 : isA 150 := rfl
theorem it150 : isT9 .int 150 := rfl
theorem al151 : aln 151 = 360 := rfl
theorem iA151 : isA 151 := rfl
theorem it151 : isT9 .long 151 := rfl
theorem al152 : aln 152 = 60 := rfl
theorem iA152 : isA 152 := rfl
theorem it152 : isT9 .long 152 := rfl
theorem rf17_0 (h1 h2 : Nat) : rf h1 h2 17 0 = 56 := rfl
theorem rs17_0 (h1 h2 : Nat) : (RR h1 h2 17 0).isSome = true := rfl
theorem rf17_1 (h1 h2 : Nat) : rf h1 h2 17 1 = 67 := rfl
theorem rs17_1 (h1 h2 : Nat) : (RR h1 h2 17 1).isSome = true := rfl
theorem rf17_3 (h1 h2 : Nat) : rf h1 h2 17 3 = 18 := rfl
theorem rs17_3 (h1 h2 : Nat) : (RR h1 h2 17 3).isSome = true := rfl
theorem rf17_4 (h1 h2 : Nat) : rf h1 h2 17 4 = 20 := rfl
theorem rs17_4 (h1 h2 : Nat) : (RR h1 h2 17 4).isSome = true := rfl
theorem rf17_6 (h1 h2 : Nat) : rf h1 h2 17 6 = 21 := rfl
theorem rs17_6 (h1 h2 : Nat) : (RR h1 h2 17 6).isSome = true := rfl
theorem rf17_7 (h1 h2 : Nat) : rf h1 h2 17 7 = 49 := rfl
theorem rs17_7 (h1 h2 : Nat) : (RR h1 h2 17 7).isSome = true := rfl
theorem rf17_8 (h1 h2 : Nat) : rf h1 h2 17 8 = 51 := rfl
theorem rs17_8 (h1 h2 : Nat) : (RR h1 h2 17 8).isSome = true := rfl
theorem rf18_0 (h1 h2 : Nat) : rf h1 h2 18 0 = 19 := rfl
theorem rs18_0 (h1 h2 : Nat) : (RR h1 h2 18 0).isSome = true := rfl
theorem rf20_0 (h1 h2 : Nat) : rf h1 h2 20 0 = 78 := rfl
theorem rs20_0 (h1 h2 : Nat) : (RR h1 h2 20 0).isSome = true := rfl
theorem rf20_1 (h1 h2 : Nat) : rf h1 h2 20 1 = 82 := rfl
theorem rs20_1 (h1 h2 : Nat) : (RR h1 h2 20 1).isSome = true := rfl
theorem rf20_2 (h1 h2 : Nat) : rf h1 h2 20 2 = 86 := rfl
theorem rs20_2 (h1 h2 : Nat) : (RR h1 h2 20 2).isSome = true := rfl
theorem rf20_3 (h1 h2 : Nat) : rf h1 h2 20 3 = 90 := rfl
theorem rs20_3 (h1 h2 : Nat) : (RR h1 h2 20 3).isSome = true := rfl
theorem rf20_4 (h1 h2 : Nat) : rf h1 h2 20 4 = 94 := rfl
theorem rs20_4 (h1 h2 : Nat) : (RR h1 h2 20 4).isSome = true := rfl
theorem rf20_5 (h1 h2 : Nat) : rf h1 h2 20 5 = 98 := rfl
theorem rs20_5 (h1 h2 : Nat) : (RR h1 h2 20 5).isSome = true := rfl
theorem rf21_0 (h1 h2 : Nat) : rf h1 h2 21 0 = 22 := rfl
theorem rs21_0 (h1 h2 : Nat) : (RR h1 h2 21 0).isSome = true := rfl
theorem rf21_1 (h1 h2 : Nat) : rf h1 h2 21 1 = 28 := rfl
theorem rs21_1 (h1 h2 : Nat) : (RR h1 h2 21 1).isSome = true := rfl
theorem rf21_2 (h1 h2 : Nat) : rf h1 h2 21 2 = 34 := rfl
theorem rs21_2 (h1 h2 : Nat) : (RR h1 h2 21 2).isSome = true := rfl
theorem rf21_3 (h1 h2 : Nat) : rf h1 h2 21 3 = 39 := rfl
theorem rs21_3 (h1 h2 : Nat) : (RR h1 h2 21 3).isSome = true := rfl
theorem rf21_4 (h1 h2 : Nat) : rf h1 h2 21 4 = 44 := rfl
theorem rs21_4 (h1 h2 : Nat) : (RR h1 h2 21 4).isSome = true := rfl
theorem rf22_0 (h1 h2 : Nat) : rf h1 h2 22 0 = 23 := rfl
theorem rs22_0 (h1 h2 : Nat) : (RR h1 h2 22 0).isSome = true := rfl
theorem rf22_1 (h1 h2 : Nat) : rf h1 h2 22 1 = 24 := rfl
theorem rs22_1 (h1 h2 : Nat) : (RR h1 h2 22 1).isSome = true := rfl
theorem rf22_2 (h1 h2 : Nat) : rf h1 h2 22 2 = 25 := rfl
theorem rs22_2 (h1 h2 : Nat) : (RR h1 h2 22 2).isSome = true := rfl
theorem rf22_3 (h1 h2 : Nat) : rf h1 h2 22 3 = 26 := rfl
theorem rs22_3 (h1 h2 : Nat) : (RR h1 h2 22 3).isSome = true := rfl
theorem rf22_4 (h1 h2 : Nat) : rf h1 h2 22 4 = 27 := rfl
theorem rs22_4 (h1 h2 : Nat) : (RR h1 h2 22 4).isSome = true := rfl
theorem rf28_0 (h1 h2 : Nat) : rf h1 h2 28 0 = 29 := rfl
theorem rs28_0 (h1 h2 : Nat) : (RR h1 h2 28 0).isSome = true := rfl
theorem rf28_1 (h1 h2 : Nat) : rf h1 h2 28 1 = 30 := rfl
theorem rs28_1 (h1 h2 : Nat) : (RR h1 h2 28 1).isSome = true := rfl
theorem rf28_2 (h1 h2 : Nat) : rf h1 h2 28 2 = 31 := rfl
theorem rs28_2 (h1 h2 : Nat) : (RR h1 h2 28 2).isSome = true := rfl
theorem rf28_3 (h1 h2 : Nat) : rf h1 h2 28 3 = 32 := rfl
theorem rs28_3 (h1 h2 : Nat) : (RR h1 h2 28 3).isSome = true := rfl
theorem rf28_4 (h1 h2 : Nat) : rf h1 h2 28 4 = 33 := rfl
theorem rs28_4 (h1 h2 : Nat) : (RR h1 h2 28 4).isSome = true := rfl
theorem rf34_0 (h1 h2 : Nat) : rf h1 h2 34 0 = 35 := rfl
theorem rs34_0 (h1 h2 : Nat) : (RR h1 h2 34 0).isSome = true := rfl
theorem rf34_1 (h1 h2 : Nat) : rf h1 h2 34 1 = 36 := rfl
theorem rs34_1 (h1 h2 : Nat) : (RR h1 h2 34 1).isSome = true := rfl
theorem rf34_2 (h1 h2 : Nat) : rf h1 h2 34 2 = 37 := rfl
theorem rs34_2 (h1 h2 : Nat) : (RR h1 h2 34 2).isSome = true := rfl
theorem rf34_3 (h1 h2 : Nat) : rf h1 h2 34 3 = 38 := rfl
theorem rs34_3 (h1 h2 : Nat) : (RR h1 h2 34 3).isSome = true := rfl
theorem rf39_0 (h1 h2 : Nat) : rf h1 h2 39 0 = 40 := rfl
theorem rs39_0 (h1 h2 : Nat) : (RR h1 h2 39 0).isSome = true := rfl
theorem rf39_1 (h1 h2 : Nat) : rf h1 h2 39 1 = 41 := rfl
theorem rs39_1 (h1 h2 : Nat) : (RR h1 h2 39 1).isSome = true := rfl
theorem rf39_2 (h1 h2 : Nat) : rf h1 h2 39 2 = 42 := rfl
theorem rs39_2 (h1 h2 : Nat) : (RR h1 h2 39 2).isSome = true := rfl
theorem rf39_3 (h1 h2 : Nat) : rf h1 h2 39 3 = 43 := rfl
theorem rs39_3 (h1 h2 : Nat) : (RR h1 h2 39 3).isSome = true := rfl
theorem rf44_0 (h1 h2 : Nat) : rf h1 h2 44 0 = 45 := rfl
theorem rs44_0 (h1 h2 : Nat) : (RR h1 h2 44 0).isSome = true := rfl
theorem rf44_1 (h1 h2 : Nat) : rf h1 h2 44 1 = 46 := rfl
theorem rs44_1 (h1 h2 : Nat) : (RR h1 h2 44 1).isSome = true := rfl
theorem rf44_2 (h1 h2 : Nat) : rf h1 h2 44 2 = 47 := rfl
theorem rs44_2 (h1 h2 : Nat) : (RR h1 h2 44 2).isSome = true := rfl
theorem rf44_3 (h1 h2 : Nat) : rf h1 h2 44 3 = 48 := rfl
theorem rs44_3 (h1 h2 : Nat) : (RR h1 h2 44 3).isSome = true := rfl
theorem rf49_0 (h1 h2 : Nat) : rf h1 h2 49 0 = 50 := rfl
theorem rs49_0 (h1 h2 : Nat) : (RR h1 h2 49 0).isSome = true := rfl
theorem rf51_0 (h1 h2 : Nat) : rf h1 h2 51 0 = 102 := rfl
theorem rs51_0 (h1 h2 : Nat) : (RR h1 h2 51 0).isSome = true := rfl
theorem rf51_1 (h1 h2 : Nat) : rf h1 h2 51 1 = 104 := rfl
theorem rs51_1 (h1 h2 : Nat) : (RR h1 h2 51 1).isSome = true := rfl
theorem rf51_2 (h1 h2 : Nat) : rf h1 h2 51 2 = 106 := rfl
theorem rs51_2 (h1 h2 : Nat) : (RR h1 h2 51 2).isSome = true := rfl
theorem rf51_3 (h1 h2 : Nat) : rf h1 h2 51 3 = 108 := rfl
theorem rs51_3 (h1 h2 : Nat) : (RR h1 h2 51 3).isSome = true := rfl
theorem rf51_4 (h1 h2 : Nat) : rf h1 h2 51 4 = 110 := rfl
theorem rs51_4 (h1 h2 : Nat) : (RR h1 h2 51 4).isSome = true := rfl
theorem rf51_5 (h1 h2 : Nat) : rf h1 h2 51 5 = 112 := rfl
theorem rs51_5 (h1 h2 : Nat) : (RR h1 h2 51 5).isSome = true := rfl
theorem rf52_3 (h1 h2 : Nat) : rf h1 h2 52 3 = 53 := rfl
theorem rs52_3 (h1 h2 : Nat) : (RR h1 h2 52 3).isSome = true := rfl
theorem rf52_4 (h1 h2 : Nat) : rf h1 h2 52 4 = 54 := rfl
theorem rs52_4 (h1 h2 : Nat) : (RR h1 h2 52 4).isSome = true := rfl
theorem rf52_5 (h1 h2 : Nat) : rf h1 h2 52 5 = 55 := rfl
theorem rs52_5 (h1 h2 : Nat) : (RR h1 h2 52 5).isSome = true := rfl
theorem rf56_6 (h1 h2 : Nat) : rf h1 h2 56 6 = 57 := rfl
theorem rs56_6 (h1 h2 : Nat) : (RR h1 h2 56 6).isSome = true := rfl
theorem rf56_7 (h1 h2 : Nat) : rf h1 h2 56 7 = 58 := rfl
theorem rs56_7 (h1 h2 : Nat) : (RR h1 h2 56 7).isSome = true := rfl
theorem rf56_8 (h1 h2 : Nat) : rf h1 h2 56 8 = 59 := rfl
theorem rs56_8 (h1 h2 : Nat) : (RR h1 h2 56 8).isSome = true := rfl
theorem rf56_9 (h1 h2 : Nat) : rf h1 h2 56 9 = 60 := rfl
theorem rs56_9 (h1 h2 : Nat) : (RR h1 h2 56 9).isSome = true := rfl
theorem rf56_10 (h1 h2 : Nat) : rf h1 h2 56 10 = 61 := rfl
theorem rs56_10 (h1 h2 : Nat) : (RR h1 h2 56 10).isSome = true := rfl
theorem rf56_12 (h1 h2 : Nat) : rf h1 h2 56 12 = 62 := rfl
theorem rs56_12 (h1 h2 : Nat) : (RR h1 h2 56 12).isSome = true := rfl
theorem rf56_13 (h1 h2 : Nat) : rf h1 h2 56 13 = 63 := rfl
theorem rs56_13 (h1 h2 : Nat) : (RR h1 h2 56 13).isSome = true := rfl
theorem rf56_15 (h1 h2 : Nat) : rf h1 h2 56 15 = 64 := rfl
theorem rs56_15 (h1 h2 : Nat) : (RR h1 h2 56 15).isSome = true := rfl
theorem rf56_16 (h1 h2 : Nat) : rf h1 h2 56 16 = 65 := rfl
theorem rs56_16 (h1 h2 : Nat) : (RR h1 h2 56 16).isSome = true := rfl
theorem rf56_18 (h1 h2 : Nat) : rf h1 h2 56 18 = 66 := rfl
theorem rs56_18 (h1 h2 : Nat) : (RR h1 h2 56 18).isSome = true := rfl
theorem rf67_6 (h1 h2 : Nat) : rf h1 h2 67 6 = 68 := rfl
theorem rs67_6 (h1 h2 : Nat) : (RR h1 h2 67 6).isSome = true := rfl
theorem rf67_7 (h1 h2 : Nat) : rf h1 h2 67 7 = 69 := rfl
theorem rs67_7 (h1 h2 : Nat) : (RR h1 h2 67 7).isSome = true := rfl
theorem rf67_8 (h1 h2 : Nat) : rf h1 h2 67 8 = 70 := rfl
theorem rs67_8 (h1 h2 : Nat) : (RR h1 h2 67 8).isSome = true := rfl
theorem rf67_9 (h1 h2 : Nat) : rf h1 h2 67 9 = 71 := rfl
theorem rs67_9 (h1 h2 : Nat) : (RR h1 h2 67 9).isSome = true := rfl
theorem rf67_10 (h1 h2 : Nat) : rf h1 h2 67 10 = 72 := rfl
theorem rs67_10 (h1 h2 : Nat) : (RR h1 h2 67 10).isSome = true := rfl
theorem rf67_12 (h1 h2 : Nat) : rf h1 h2 67 12 = 73 := rfl
theorem rs67_12 (h1 h2 : Nat) : (RR h1 h2 67 12).isSome = true := rfl
theorem rf67_13 (h1 h2 : Nat) : rf h1 h2 67 13 = 74 := rfl
theorem rs67_13 (h1 h2 : Nat) : (RR h1 h2 67 13).isSome = true := rfl
theorem rf67_15 (h1 h2 : Nat) : rf h1 h2 67 15 = 75 := rfl
theorem rs67_15 (h1 h2 : Nat) : (RR h1 h2 67 15).isSome = true := rfl
theorem rf67_16 (h1 h2 : Nat) : rf h1 h2 67 16 = 76 := rfl
theorem rs67_16 (h1 h2 : Nat) : (RR h1 h2 67 16).isSome = true := rfl
theorem rf67_18 (h1 h2 : Nat) : rf h1 h2 67 18 = 77 := rfl
theorem rs67_18 (h1 h2 : Nat) : (RR h1 h2 67 18).isSome = true := rfl
theorem rf78_3 (h1 h2 : Nat) : rf h1 h2 78 3 = 79 := rfl
theorem rs78_3 (h1 h2 : Nat) : (RR h1 h2 78 3).isSome = true := rfl
theorem rf78_4 (h1 h2 : Nat) : rf h1 h2 78 4 = 80 := rfl
theorem rs78_4 (h1 h2 : Nat) : (RR h1 h2 78 4).isSome = true := rfl
theorem rf78_5 (h1 h2 : Nat) : rf h1 h2 78 5 = 81 := rfl
theorem rs78_5 (h1 h2 : Nat) : (RR h1 h2 78 5).isSome = true := rfl
theorem rf82_3 (h1 h2 : Nat) : rf h1 h2 82 3 = 83 := rfl
theorem rs82_3 (h1 h2 : Nat) : (RR h1 h2 82 3).isSome = true := rfl
theorem rf82_4 (h1 h2 : Nat) : rf h1 h2 82 4 = 84 := rfl
theorem rs82_4 (h1 h2 : Nat) : (RR h1 h2 82 4).isSome = true := rfl
theorem rf82_5 (h1 h2 : Nat) : rf h1 h2 82 5 = 85 := rfl
theorem rs82_5 (h1 h2 : Nat) : (RR h1 h2 82 5).isSome = true := rfl
theorem rf86_3 (h1 h2 : Nat) : rf h1 h2 86 3 = 87 := rfl
theorem rs86_3 (h1 h2 : Nat) : (RR h1 h2 86 3).isSome = true := rfl
theorem rf86_4 (h1 h2 : Nat) : rf h1 h2 86 4 = 88 := rfl
theorem rs86_4 (h1 h2 : Nat) : (RR h1 h2 86 4).isSome = true := rfl
theorem rf86_5 (h1 h2 : Nat) : rf h1 h2 86 5 = 89 := rfl
theorem rs86_5 (h1 h2 : Nat) : (RR h1 h2 86 5).isSome = true := rfl
theorem rf90_3 (h1 h2 : Nat) : rf h1 h2 90 3 = 91 := rfl
theorem rs90_3 (h1 h2 : Nat) : (RR h1 h2 90 3).isSome = true := rfl
theorem rf90_4 (h1 h2 : Nat) : rf h1 h2 90 4 = 92 := rfl
theorem rs90_4 (h1 h2 : Nat) : (RR h1 h2 90 4).isSome = true := rfl
theorem rf90_5 (h1 h2 : Nat) : rf h1 h2 90 5 = 93 := rfl
theorem rs90_5 (h1 h2 : Nat) : (RR h1 h2 90 5).isSome = true := rfl
theorem rf94_3 (h1 h2 : Nat) : rf h1 h2 94 3 = 95 := rfl
theorem rs94_3 (h1 h2 : Nat) : (RR h1 h2 94 3).isSome = true := rfl
theorem rf94_4 (h1 h2 : Nat) : rf h1 h2 94 4 = 96 := rfl
theorem rs94_4 (h1 h2 : Nat) : (RR h1 h2 94 4).isSome = true := rfl
theorem rf94_5 (h1 h2 : Nat) : rf h1 h2 94 5 = 97 := rfl
theorem rs94_5 (h1 h2 : Nat) : (RR h1 h2 94 5).isSome = true := rfl
theorem rf98_3 (h1 h2 : Nat) : rf h1 h2 98 3 = 99 := rfl
theorem rs98_3 (h1 h2 : Nat) : (RR h1 h2 98 3).isSome = true := rfl
theorem rf98_4 (h1 h2 : Nat) : rf h1 h2 98 4 = 100 := rfl
theorem rs98_4 (h1 h2 : Nat) : (RR h1 h2 98 4).isSome = true := rfl
theorem rf98_5 (h1 h2 : Nat) : rf h1 h2 98 5 = 101 := rfl
theorem rs98_5 (h1 h2 : Nat) : (RR h1 h2 98 5).isSome = true := rfl
theorem rf102_2 (h1 h2 : Nat) : rf h1 h2 102 2 = 103 := rfl
theorem rs102_2 (h1 h2 : Nat) : (RR h1 h2 102 2).isSome = true := rfl
theorem rf104_2 (h1 h2 : Nat) : rf h1 h2 104 2 = 105 := rfl
theorem rs104_2 (h1 h2 : Nat) : (RR h1 h2 104 2).isSome = true := rfl
theorem rf106_2 (h1 h2 : Nat) : rf h1 h2 106 2 = 107 := rfl
theorem rs106_2 (h1 h2 : Nat) : (RR h1 h2 106 2).isSome = true := rfl
theorem rf108_2 (h1 h2 : Nat) : rf h1 h2 108 2 = 109 := rfl
theorem rs108_2 (h1 h2 : Nat) : (RR h1 h2 108 2).isSome = true := rfl
theorem rf110_2 (h1 h2 : Nat) : rf h1 h2 110 2 = 111 := rfl
theorem rs110_2 (h1 h2 : Nat) : (RR h1 h2 110 2).isSome = true := rfl
theorem rf112_2 (h1 h2 : Nat) : rf h1 h2 112 2 = 113 := rfl
theorem rs112_2 (h1 h2 : Nat) : (RR h1 h2 112 2).isSome = true := rfl
theorem rf114_5 (h1 h2 : Nat) : rf h1 h2 114 5 = 115 := rfl
theorem rs114_5 (h1 h2 : Nat) : (RR h1 h2 114 5).isSome = true := rfl
theorem rf114_6 (h1 h2 : Nat) : rf h1 h2 114 6 = 116 := rfl
theorem rs114_6 (h1 h2 : Nat) : (RR h1 h2 114 6).isSome = true := rfl
theorem rf114_7 (h1 h2 : Nat) : rf h1 h2 114 7 = 117 := rfl
theorem rs114_7 (h1 h2 : Nat) : (RR h1 h2 114 7).isSome = true := rfl
theorem rf114_8 (h1 h2 : Nat) : rf h1 h2 114 8 = 118 := rfl
theorem rs114_8 (h1 h2 : Nat) : (RR h1 h2 114 8).isSome = true := rfl
theorem rf114_9 (h1 h2 : Nat) : rf h1 h2 114 9 = 119 := rfl
theorem rs114_9 (h1 h2 : Nat) : (RR h1 h2 114 9).isSome = true := rfl
theorem rf114_10 (h1 h2 : Nat) : rf h1 h2 114 10 = 120 := rfl
theorem rs114_10 (h1 h2 : Nat) : (RR h1 h2 114 10).isSome = true := rfl
theorem rf114_16 (h1 h2 : Nat) : rf h1 h2 114 16 = 121 := rfl
theorem rs114_16 (h1 h2 : Nat) : (RR h1 h2 114 16).isSome = true := rfl
theorem rf114_17 (h1 h2 : Nat) : rf h1 h2 114 17 = 122 := rfl
theorem rs114_17 (h1 h2 : Nat) : (RR h1 h2 114 17).isSome = true := rfl
theorem rf114_18 (h1 h2 : Nat) : rf h1 h2 114 18 = 123 := rfl
theorem rs114_18 (h1 h2 : Nat) : (RR h1 h2 114 18).isSome = true := rfl
theorem rf114_19 (h1 h2 : Nat) : rf h1 h2 114 19 = 124 := rfl
theorem rs114_19 (h1 h2 : Nat) : (RR h1 h2 114 19).isSome = true := rfl
theorem rf114_20 (h1 h2 : Nat) : rf h1 h2 114 20 = 125 := rfl
theorem rs114_20 (h1 h2 : Nat) : (RR h1 h2 114 20).isSome = true := rfl
theorem rf114_21 (h1 h2 : Nat) : rf h1 h2 114 21 = 126 := rfl
theorem rs114_21 (h1 h2 : Nat) : (RR h1 h2 114 21).isSome = true := rfl
theorem rf114_22 (h1 h2 : Nat) : rf h1 h2 114 22 = 127 := rfl
theorem rs114_22 (h1 h2 : Nat) : (RR h1 h2 114 22).isSome = true := rfl
theorem rf114_23 (h1 h2 : Nat) : rf h1 h2 114 23 = 128 := rfl
theorem rs114_23 (h1 h2 : Nat) : (RR h1 h2 114 23).isSome = true := rfl
theorem rf114_27 (h1 h2 : Nat) : rf h1 h2 114 27 = 129 := rfl
theorem rs114_27 (h1 h2 : Nat) : (RR h1 h2 114 27).isSome = true := rfl
theorem rf114_28 (h1 h2 : Nat) : rf h1 h2 114 28 = 130 := rfl
theorem rs114_28 (h1 h2 : Nat) : (RR h1 h2 114 28).isSome = true := rfl
theorem rf114_29 (h1 h2 : Nat) : rf h1 h2 114 29 = 131 := rfl
theorem rs114_29 (h1 h2 : Nat) : (RR h1 h2 114 29).isSome = true := rfl
theorem rf114_30 (h1 h2 : Nat) : rf h1 h2 114 30 = 132 := rfl
theorem rs114_30 (h1 h2 : Nat) : (RR h1 h2 114 30).isSome = true := rfl
theorem rf114_31 (h1 h2 : Nat) : rf h1 h2 114 31 = 133 := rfl
theorem rs114_31 (h1 h2 : Nat) : (RR h1 h2 114 31).isSome = true := rfl
theorem rf114_41 (h1 h2 : Nat) : rf h1 h2 114 41 = 134 := rfl
theorem rs114_41 (h1 h2 : Nat) : (RR h1 h2 114 41).isSome = true := rfl
theorem rf114_42 (h1 h2 : Nat) : rf h1 h2 114 42 = 135 := rfl
theorem rs114_42 (h1 h2 : Nat) : (RR h1 h2 114 42).isSome = true := rfl
theorem rf114_44 (h1 h2 : Nat) : rf h1 h2 114 44 = 136 := rfl
theorem rs114_44 (h1 h2 : Nat) : (RR h1 h2 114 44).isSome = true := rfl
theorem rf114_45 (h1 h2 : Nat) : rf h1 h2 114 45 = 137 := rfl
theorem rs114_45 (h1 h2 : Nat) : (RR h1 h2 114 45).isSome = true := rfl
theorem rf114_55 (h1 h2 : Nat) : rf h1 h2 114 55 = 138 := rfl
theorem rs114_55 (h1 h2 : Nat) : (RR h1 h2 114 55).isSome = true := rfl
theorem rf114_56 (h1 h2 : Nat) : rf h1 h2 114 56 = 139 := rfl
theorem rs114_56 (h1 h2 : Nat) : (RR h1 h2 114 56).isSome = true := rfl
theorem rf114_57 (h1 h2 : Nat) : rf h1 h2 114 57 = 140 := rfl
theorem rs114_57 (h1 h2 : Nat) : (RR h1 h2 114 57).isSome = true := rfl
theorem rf114_58 (h1 h2 : Nat) : rf h1 h2 114 58 = 141 := rfl
theorem rs114_58 (h1 h2 : Nat) : (RR h1 h2 114 58).isSome = true := rfl
theorem rf114_59 (h1 h2 : Nat) : rf h1 h2 114 59 = 142 := rfl
theorem rs114_59 (h1 h2 : Nat) : (RR h1 h2 114 59).isSome = true := rfl
theorem rf114_60 (h1 h2 : Nat) : rf h1 h2 114 60 = 143 := rfl
theorem rs114_60 (h1 h2 : Nat) : (RR h1 h2 114 60).isSome = true := rfl
theorem rf114_61 (h1 h2 : Nat) : rf h1 h2 114 61 = 144 := rfl
theorem rs114_61 (h1 h2 : Nat) : (RR h1 h2 114 61).isSome = true := rfl
theorem rf114_62 (h1 h2 : Nat) : rf h1 h2 114 62 = 145 := rfl
theorem rs114_62 (h1 h2 : Nat) : (RR h1 h2 114 62).isSome = true := rfl
theorem rf114_63 (h1 h2 : Nat) : rf h1 h2 114 63 = 146 := rfl
theorem rs114_63 (h1 h2 : Nat) : (RR h1 h2 114 63).isSome = true := rfl
theorem rf114_64 (h1 h2 : Nat) : rf h1 h2 114 64 = 147 := rfl
theorem rs114_64 (h1 h2 : Nat) : (RR h1 h2 114 64).isSome = true := rfl
theorem rf114_66 (h1 h2 : Nat) : rf h1 h2 114 66 = 148 := rfl
theorem rs114_66 (h1 h2 : Nat) : (RR h1 h2 114 66).isSome = true := rfl
theorem rf114_67 (h1 h2 : Nat) : rf h1 h2 114 67 = 149 := rfl
theorem rs114_67 (h1 h2 : Nat) : (RR h1 h2 114 67).isSome = true := rfl
theorem rf114_68 (h1 h2 : Nat) : rf h1 h2 114 68 = 150 := rfl
theorem rs114_68 (h1 h2 : Nat) : (RR h1 h2 114 68).isSome = true := rfl
theorem rf114_69 (h1 h2 : Nat) : rf h1 h2 114 69 = 151 := rfl
theorem rs114_69 (h1 h2 : Nat) : (RR h1 h2 114 69).isSome = true := rfl
theorem rf114_70 (h1 h2 : Nat) : rf h1 h2 114 70 = 152 := rfl
theorem rs114_70 (h1 h2 : Nat) : (RR h1 h2 114 70).isSome = true := rfl
theorem rf56_17 (h1 h2 : Nat) : rf h1 h2 56 17 = h1 := rfl
theorem rs56_17 (h1 h2 : Nat) : (RR h1 h2 56 17).isSome = true := rfl
theorem rf67_17 (h1 h2 : Nat) : rf h1 h2 67 17 = h2 := rfl
theorem rs67_17 (h1 h2 : Nat) : (RR h1 h2 67 17).isSome = true := rfl
