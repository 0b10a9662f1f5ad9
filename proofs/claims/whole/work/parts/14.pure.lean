/-! THE PURE LAYER: stores of the shape that the constructors make; runs and calls as rows for simp (written by wip/whole/mk14.py) -/
def KK : List aK := [.inl 99, .inr (.int, 7), .inr (.int, 21), .inr (.int, 21), .inr (.int, 21), .inl 8, .inl 8, .inl 8, .inl 8, .inl 8, .inl 8, .inr (.byte, 5), .inr (.byte, 4), .inr (.byte, 5), .inr (.byte, 5), .inr (.byte, 6), .inr (.byte, 3), .inl 6, .inl 5, .inr (.byte, 100), .inr (.object (cN 2), 6), .inl 3, .inr (.array .int, 5), .inr (.int, 128), .inr (.int, 128), .inr (.int, 128), .inr (.int, 128), .inr (.int, 128), .inr (.array .int, 5), .inr (.int, 128), .inr (.int, 128), .inr (.int, 128), .inr (.int, 128), .inr (.int, 128), .inr (.array .int, 4), .inr (.int, 128), .inr (.int, 128), .inr (.int, 128), .inr (.int, 128), .inr (.array .int, 4), .inr (.int, 128), .inr (.int, 128), .inr (.int, 128), .inr (.int, 128), .inr (.array .int, 4), .inr (.int, 14), .inr (.int, 14), .inr (.int, 14), .inr (.int, 14), .inl 0, .inr (.int, 20), .inr (.object (cN 4), 6), .inl 2, .inr (.int, 10), .inr (.int, 10), .inr (.int, 100), .inl 1, .inr (.int, 7), .inr (.int, 7), .inr (.int, 7), .inr (.int, 7), .inr (.int, 28), .inr (.int, 12), .inr (.int, 12), .inr (.int, 12), .inr (.int, 12), .inr (.int, 6), .inl 1, .inr (.int, 7), .inr (.int, 7), .inr (.int, 7), .inr (.int, 7), .inr (.int, 28), .inr (.int, 12), .inr (.int, 12), .inr (.int, 12), .inr (.int, 12), .inr (.int, 6), .inl 2, .inr (.int, 10), .inr (.int, 10), .inr (.int, 100), .inl 2, .inr (.int, 10), .inr (.int, 10), .inr (.int, 100), .inl 2, .inr (.int, 10), .inr (.int, 10), .inr (.int, 100), .inl 2, .inr (.int, 10), .inr (.int, 10), .inr (.int, 100), .inl 2, .inr (.int, 10), .inr (.int, 10), .inr (.int, 100), .inl 2, .inr (.int, 10), .inr (.int, 10), .inr (.int, 100), .inl 4, .inr (.long, 60), .inl 4, .inr (.long, 60), .inl 4, .inr (.long, 60), .inl 4, .inr (.long, 60), .inl 4, .inr (.long, 60), .inl 4, .inr (.long, 60), .inl 7, .inr (.int, 7), .inr (.int, 7), .inr (.int, 7), .inr (.int, 7), .inr (.int, 7), .inr (.int, 28), .inr (.int, 100), .inr (.int, 6), .inr (.int, 60), .inr (.int, 60), .inr (.int, 60), .inr (.int, 60), .inr (.int, 600), .inr (.int, 101), .inr (.int, 17), .inr (.boolean, 100), .inr (.int, 4), .inr (.int, 4), .inr (.int, 5), .inr (.int, 12), .inr (.int, 12), .inr (.int, 12), .inr (.int, 12), .inr (.int, 7), .inr (.int, 7), .inr (.int, 7), .inr (.int, 7), .inr (.int, 7), .inr (.int, 28), .inr (.int, 12), .inr (.int, 12), .inr (.int, 12), .inr (.int, 12), .inr (.int, 20), .inr (.int, 6), .inr (.int, 6), .inr (.long, 360), .inr (.long, 60)]
theorem kk0 : KK[0]? = some (Sum.inl 99) := rfl
theorem kk1 : KK[1]? = some (Sum.inr (.int, 7)) := rfl
theorem kk2 : KK[2]? = some (Sum.inr (.int, 21)) := rfl
theorem kk3 : KK[3]? = some (Sum.inr (.int, 21)) := rfl
theorem kk4 : KK[4]? = some (Sum.inr (.int, 21)) := rfl
theorem kk5 : KK[5]? = some (Sum.inl 8) := rfl
theorem kk6 : KK[6]? = some (Sum.inl 8) := rfl
theorem kk7 : KK[7]? = some (Sum.inl 8) := rfl
theorem kk8 : KK[8]? = some (Sum.inl 8) := rfl
theorem kk9 : KK[9]? = some (Sum.inl 8) := rfl
theorem kk10 : KK[10]? = some (Sum.inl 8) := rfl
theorem kk11 : KK[11]? = some (Sum.inr (.byte, 5)) := rfl
theorem kk12 : KK[12]? = some (Sum.inr (.byte, 4)) := rfl
theorem kk13 : KK[13]? = some (Sum.inr (.byte, 5)) := rfl
theorem kk14 : KK[14]? = some (Sum.inr (.byte, 5)) := rfl
theorem kk15 : KK[15]? = some (Sum.inr (.byte, 6)) := rfl
theorem kk16 : KK[16]? = some (Sum.inr (.byte, 3)) := rfl
theorem kk17 : KK[17]? = some (Sum.inl 6) := rfl
theorem kk18 : KK[18]? = some (Sum.inl 5) := rfl
theorem kk19 : KK[19]? = some (Sum.inr (.byte, 100)) := rfl
theorem kk20 : KK[20]? = some (Sum.inr (.object (cN 2), 6)) := rfl
theorem kk21 : KK[21]? = some (Sum.inl 3) := rfl
theorem kk22 : KK[22]? = some (Sum.inr (.array .int, 5)) := rfl
theorem kk23 : KK[23]? = some (Sum.inr (.int, 128)) := rfl
theorem kk24 : KK[24]? = some (Sum.inr (.int, 128)) := rfl
theorem kk25 : KK[25]? = some (Sum.inr (.int, 128)) := rfl
theorem kk26 : KK[26]? = some (Sum.inr (.int, 128)) := rfl
theorem kk27 : KK[27]? = some (Sum.inr (.int, 128)) := rfl
theorem kk28 : KK[28]? = some (Sum.inr (.array .int, 5)) := rfl
theorem kk29 : KK[29]? = some (Sum.inr (.int, 128)) := rfl
theorem kk30 : KK[30]? = some (Sum.inr (.int, 128)) := rfl
theorem kk31 : KK[31]? = some (Sum.inr (.int, 128)) := rfl
theorem kk32 : KK[32]? = some (Sum.inr (.int, 128)) := rfl
theorem kk33 : KK[33]? = some (Sum.inr (.int, 128)) := rfl
theorem kk34 : KK[34]? = some (Sum.inr (.array .int, 4)) := rfl
theorem kk35 : KK[35]? = some (Sum.inr (.int, 128)) := rfl
theorem kk36 : KK[36]? = some (Sum.inr (.int, 128)) := rfl
theorem kk37 : KK[37]? = some (Sum.inr (.int, 128)) := rfl
theorem kk38 : KK[38]? = some (Sum.inr (.int, 128)) := rfl
theorem kk39 : KK[39]? = some (Sum.inr (.array .int, 4)) := rfl
theorem kk40 : KK[40]? = some (Sum.inr (.int, 128)) := rfl
theorem kk41 : KK[41]? = some (Sum.inr (.int, 128)) := rfl
theorem kk42 : KK[42]? = some (Sum.inr (.int, 128)) := rfl
theorem kk43 : KK[43]? = some (Sum.inr (.int, 128)) := rfl
theorem kk44 : KK[44]? = some (Sum.inr (.array .int, 4)) := rfl
theorem kk45 : KK[45]? = some (Sum.inr (.int, 14)) := rfl
theorem kk46 : KK[46]? = some (Sum.inr (.int, 14)) := rfl
theorem kk47 : KK[47]? = some (Sum.inr (.int, 14)) := rfl
theorem kk48 : KK[48]? = some (Sum.inr (.int, 14)) := rfl
theorem kk49 : KK[49]? = some (Sum.inl 0) := rfl
theorem kk50 : KK[50]? = some (Sum.inr (.int, 20)) := rfl
theorem kk51 : KK[51]? = some (Sum.inr (.object (cN 4), 6)) := rfl
theorem kk52 : KK[52]? = some (Sum.inl 2) := rfl
theorem kk53 : KK[53]? = some (Sum.inr (.int, 10)) := rfl
theorem kk54 : KK[54]? = some (Sum.inr (.int, 10)) := rfl
theorem kk55 : KK[55]? = some (Sum.inr (.int, 100)) := rfl
theorem kk56 : KK[56]? = some (Sum.inl 1) := rfl
theorem kk57 : KK[57]? = some (Sum.inr (.int, 7)) := rfl
theorem kk58 : KK[58]? = some (Sum.inr (.int, 7)) := rfl
theorem kk59 : KK[59]? = some (Sum.inr (.int, 7)) := rfl
theorem kk60 : KK[60]? = some (Sum.inr (.int, 7)) := rfl
theorem kk61 : KK[61]? = some (Sum.inr (.int, 28)) := rfl
theorem kk62 : KK[62]? = some (Sum.inr (.int, 12)) := rfl
theorem kk63 : KK[63]? = some (Sum.inr (.int, 12)) := rfl
theorem kk64 : KK[64]? = some (Sum.inr (.int, 12)) := rfl
theorem kk65 : KK[65]? = some (Sum.inr (.int, 12)) := rfl
theorem kk66 : KK[66]? = some (Sum.inr (.int, 6)) := rfl
theorem kk67 : KK[67]? = some (Sum.inl 1) := rfl
theorem kk68 : KK[68]? = some (Sum.inr (.int, 7)) := rfl
theorem kk69 : KK[69]? = some (Sum.inr (.int, 7)) := rfl
theorem kk70 : KK[70]? = some (Sum.inr (.int, 7)) := rfl
theorem kk71 : KK[71]? = some (Sum.inr (.int, 7)) := rfl
theorem kk72 : KK[72]? = some (Sum.inr (.int, 28)) := rfl
theorem kk73 : KK[73]? = some (Sum.inr (.int, 12)) := rfl
theorem kk74 : KK[74]? = some (Sum.inr (.int, 12)) := rfl
theorem kk75 : KK[75]? = some (Sum.inr (.int, 12)) := rfl
theorem kk76 : KK[76]? = some (Sum.inr (.int, 12)) := rfl
theorem kk77 : KK[77]? = some (Sum.inr (.int, 6)) := rfl
theorem kk78 : KK[78]? = some (Sum.inl 2) := rfl
theorem kk79 : KK[79]? = some (Sum.inr (.int, 10)) := rfl
theorem kk80 : KK[80]? = some (Sum.inr (.int, 10)) := rfl
theorem kk81 : KK[81]? = some (Sum.inr (.int, 100)) := rfl
theorem kk82 : KK[82]? = some (Sum.inl 2) := rfl
theorem kk83 : KK[83]? = some (Sum.inr (.int, 10)) := rfl
theorem kk84 : KK[84]? = some (Sum.inr (.int, 10)) := rfl
theorem kk85 : KK[85]? = some (Sum.inr (.int, 100)) := rfl
theorem kk86 : KK[86]? = some (Sum.inl 2) := rfl
theorem kk87 : KK[87]? = some (Sum.inr (.int, 10)) := rfl
theorem kk88 : KK[88]? = some (Sum.inr (.int, 10)) := rfl
theorem kk89 : KK[89]? = some (Sum.inr (.int, 100)) := rfl
theorem kk90 : KK[90]? = some (Sum.inl 2) := rfl
theorem kk91 : KK[91]? = some (Sum.inr (.int, 10)) := rfl
theorem kk92 : KK[92]? = some (Sum.inr (.int, 10)) := rfl
theorem kk93 : KK[93]? = some (Sum.inr (.int, 100)) := rfl
theorem kk94 : KK[94]? = some (Sum.inl 2) := rfl
theorem kk95 : KK[95]? = some (Sum.inr (.int, 10)) := rfl
theorem kk96 : KK[96]? = some (Sum.inr (.int, 10)) := rfl
theorem kk97 : KK[97]? = some (Sum.inr (.int, 100)) := rfl
theorem kk98 : KK[98]? = some (Sum.inl 2) := rfl
theorem kk99 : KK[99]? = some (Sum.inr (.int, 10)) := rfl
theorem kk100 : KK[100]? = some (Sum.inr (.int, 10)) := rfl
theorem kk101 : KK[101]? = some (Sum.inr (.int, 100)) := rfl
theorem kk102 : KK[102]? = some (Sum.inl 4) := rfl
theorem kk103 : KK[103]? = some (Sum.inr (.long, 60)) := rfl
theorem kk104 : KK[104]? = some (Sum.inl 4) := rfl
theorem kk105 : KK[105]? = some (Sum.inr (.long, 60)) := rfl
theorem kk106 : KK[106]? = some (Sum.inl 4) := rfl
theorem kk107 : KK[107]? = some (Sum.inr (.long, 60)) := rfl
theorem kk108 : KK[108]? = some (Sum.inl 4) := rfl
theorem kk109 : KK[109]? = some (Sum.inr (.long, 60)) := rfl
theorem kk110 : KK[110]? = some (Sum.inl 4) := rfl
theorem kk111 : KK[111]? = some (Sum.inr (.long, 60)) := rfl
theorem kk112 : KK[112]? = some (Sum.inl 4) := rfl
theorem kk113 : KK[113]? = some (Sum.inr (.long, 60)) := rfl
theorem kk114 : KK[114]? = some (Sum.inl 7) := rfl
theorem kk115 : KK[115]? = some (Sum.inr (.int, 7)) := rfl
theorem kk116 : KK[116]? = some (Sum.inr (.int, 7)) := rfl
theorem kk117 : KK[117]? = some (Sum.inr (.int, 7)) := rfl
theorem kk118 : KK[118]? = some (Sum.inr (.int, 7)) := rfl
theorem kk119 : KK[119]? = some (Sum.inr (.int, 7)) := rfl
theorem kk120 : KK[120]? = some (Sum.inr (.int, 28)) := rfl
theorem kk121 : KK[121]? = some (Sum.inr (.int, 100)) := rfl
theorem kk122 : KK[122]? = some (Sum.inr (.int, 6)) := rfl
theorem kk123 : KK[123]? = some (Sum.inr (.int, 60)) := rfl
theorem kk124 : KK[124]? = some (Sum.inr (.int, 60)) := rfl
theorem kk125 : KK[125]? = some (Sum.inr (.int, 60)) := rfl
theorem kk126 : KK[126]? = some (Sum.inr (.int, 60)) := rfl
theorem kk127 : KK[127]? = some (Sum.inr (.int, 600)) := rfl
theorem kk128 : KK[128]? = some (Sum.inr (.int, 101)) := rfl
theorem kk129 : KK[129]? = some (Sum.inr (.int, 17)) := rfl
theorem kk130 : KK[130]? = some (Sum.inr (.boolean, 100)) := rfl
theorem kk131 : KK[131]? = some (Sum.inr (.int, 4)) := rfl
theorem kk132 : KK[132]? = some (Sum.inr (.int, 4)) := rfl
theorem kk133 : KK[133]? = some (Sum.inr (.int, 5)) := rfl
theorem kk134 : KK[134]? = some (Sum.inr (.int, 12)) := rfl
theorem kk135 : KK[135]? = some (Sum.inr (.int, 12)) := rfl
theorem kk136 : KK[136]? = some (Sum.inr (.int, 12)) := rfl
theorem kk137 : KK[137]? = some (Sum.inr (.int, 12)) := rfl
theorem kk138 : KK[138]? = some (Sum.inr (.int, 7)) := rfl
theorem kk139 : KK[139]? = some (Sum.inr (.int, 7)) := rfl
theorem kk140 : KK[140]? = some (Sum.inr (.int, 7)) := rfl
theorem kk141 : KK[141]? = some (Sum.inr (.int, 7)) := rfl
theorem kk142 : KK[142]? = some (Sum.inr (.int, 7)) := rfl
theorem kk143 : KK[143]? = some (Sum.inr (.int, 28)) := rfl
theorem kk144 : KK[144]? = some (Sum.inr (.int, 12)) := rfl
theorem kk145 : KK[145]? = some (Sum.inr (.int, 12)) := rfl
theorem kk146 : KK[146]? = some (Sum.inr (.int, 12)) := rfl
theorem kk147 : KK[147]? = some (Sum.inr (.int, 12)) := rfl
theorem kk148 : KK[148]? = some (Sum.inr (.int, 20)) := rfl
theorem kk149 : KK[149]? = some (Sum.inr (.int, 6)) := rfl
theorem kk150 : KK[150]? = some (Sum.inr (.int, 6)) := rfl
theorem kk151 : KK[151]? = some (Sum.inr (.long, 360)) := rfl
theorem kk152 : KK[152]? = some (Sum.inr (.long, 60)) := rfl
def RT (o k : Nat) : Option Nat := match o with
  | 17 => match k with
    | 0 => some 56
    | 1 => some 67
    | 3 => some 18
    | 4 => some 20
    | 6 => some 21
    | 7 => some 49
    | 8 => some 51
    | _ => none
  | 18 => match k with
    | 0 => some 19
    | _ => none
  | 20 => match k with
    | 0 => some 78
    | 1 => some 82
    | 2 => some 86
    | 3 => some 90
    | 4 => some 94
    | 5 => some 98
    | _ => none
  | 21 => match k with
    | 0 => some 22
    | 1 => some 28
    | 2 => some 34
    | 3 => some 39
    | 4 => some 44
    | _ => none
  | 22 => match k with
    | 0 => some 23
    | 1 => some 24
    | 2 => some 25
    | 3 => some 26
    | 4 => some 27
    | _ => none
  | 28 => match k with
    | 0 => some 29
    | 1 => some 30
    | 2 => some 31
    | 3 => some 32
    | 4 => some 33
    | _ => none
  | 34 => match k with
    | 0 => some 35
    | 1 => some 36
    | 2 => some 37
    | 3 => some 38
    | _ => none
  | 39 => match k with
    | 0 => some 40
    | 1 => some 41
    | 2 => some 42
    | 3 => some 43
    | _ => none
  | 44 => match k with
    | 0 => some 45
    | 1 => some 46
    | 2 => some 47
    | 3 => some 48
    | _ => none
  | 49 => match k with
    | 0 => some 50
    | _ => none
  | 51 => match k with
    | 0 => some 102
    | 1 => some 104
    | 2 => some 106
    | 3 => some 108
    | 4 => some 110
    | 5 => some 112
    | _ => none
  | 52 => match k with
    | 3 => some 53
    | 4 => some 54
    | 5 => some 55
    | _ => none
  | 56 => match k with
    | 6 => some 57
    | 7 => some 58
    | 8 => some 59
    | 9 => some 60
    | 10 => some 61
    | 12 => some 62
    | 13 => some 63
    | 15 => some 64
    | 16 => some 65
    | 18 => some 66
    | _ => none
  | 67 => match k with
    | 6 => some 68
    | 7 => some 69
    | 8 => some 70
    | 9 => some 71
    | 10 => some 72
    | 12 => some 73
    | 13 => some 74
    | 15 => some 75
    | 16 => some 76
    | 18 => some 77
    | _ => none
  | 78 => match k with
    | 3 => some 79
    | 4 => some 80
    | 5 => some 81
    | _ => none
  | 82 => match k with
    | 3 => some 83
    | 4 => some 84
    | 5 => some 85
    | _ => none
  | 86 => match k with
    | 3 => some 87
    | 4 => some 88
    | 5 => some 89
    | _ => none
  | 90 => match k with
    | 3 => some 91
    | 4 => some 92
    | 5 => some 93
    | _ => none
  | 94 => match k with
    | 3 => some 95
    | 4 => some 96
    | 5 => some 97
    | _ => none
  | 98 => match k with
    | 3 => some 99
    | 4 => some 100
    | 5 => some 101
    | _ => none
  | 102 => match k with
    | 2 => some 103
    | _ => none
  | 104 => match k with
    | 2 => some 105
    | _ => none
  | 106 => match k with
    | 2 => some 107
    | _ => none
  | 108 => match k with
    | 2 => some 109
    | _ => none
  | 110 => match k with
    | 2 => some 111
    | _ => none
  | 112 => match k with
    | 2 => some 113
    | _ => none
  | 114 => match k with
    | 5 => some 115
    | 6 => some 116
    | 7 => some 117
    | 8 => some 118
    | 9 => some 119
    | 10 => some 120
    | 16 => some 121
    | 17 => some 122
    | 18 => some 123
    | 19 => some 124
    | 20 => some 125
    | 21 => some 126
    | 22 => some 127
    | 23 => some 128
    | 27 => some 129
    | 28 => some 130
    | 29 => some 131
    | 30 => some 132
    | 31 => some 133
    | 41 => some 134
    | 42 => some 135
    | 44 => some 136
    | 45 => some 137
    | 55 => some 138
    | 56 => some 139
    | 57 => some 140
    | 58 => some 141
    | 59 => some 142
    | 60 => some 143
    | 61 => some 144
    | 62 => some 145
    | 63 => some 146
    | 64 => some 147
    | 66 => some 148
    | 67 => some 149
    | 68 => some 150
    | 69 => some 151
    | 70 => some 152
    | _ => none
  | _ => fR o k
/-- the references: all stand fast but the two days' hills -/
def RR (h1 h2 o k : Nat) : Option Nat := if k = 17 then (if o = 56 then some h1 else if o = 67 then some h2 else RT o k) else RT o k
def canI (f : Nat → Nat → Int32) (o : Nat) : Nat → Int32 := if o < 17 then fI o else f o
def cS (f : Nat → Nat → Int32) (g : Nat → Nat → Int64) (h1 h2 : Nat) : aS := (KK, canI f, g, RR h1 h2)
theorem rr17_0 (h1 h2 : Nat) : RR h1 h2 17 0 = some 56 := rfl
theorem rr17_1 (h1 h2 : Nat) : RR h1 h2 17 1 = some 67 := rfl
theorem rr17_3 (h1 h2 : Nat) : RR h1 h2 17 3 = some 18 := rfl
theorem rr17_4 (h1 h2 : Nat) : RR h1 h2 17 4 = some 20 := rfl
theorem rr17_6 (h1 h2 : Nat) : RR h1 h2 17 6 = some 21 := rfl
theorem rr17_7 (h1 h2 : Nat) : RR h1 h2 17 7 = some 49 := rfl
theorem rr17_8 (h1 h2 : Nat) : RR h1 h2 17 8 = some 51 := rfl
theorem rr18_0 (h1 h2 : Nat) : RR h1 h2 18 0 = some 19 := rfl
theorem rr20_0 (h1 h2 : Nat) : RR h1 h2 20 0 = some 78 := rfl
theorem rr20_1 (h1 h2 : Nat) : RR h1 h2 20 1 = some 82 := rfl
theorem rr20_2 (h1 h2 : Nat) : RR h1 h2 20 2 = some 86 := rfl
theorem rr20_3 (h1 h2 : Nat) : RR h1 h2 20 3 = some 90 := rfl
theorem rr20_4 (h1 h2 : Nat) : RR h1 h2 20 4 = some 94 := rfl
theorem rr20_5 (h1 h2 : Nat) : RR h1 h2 20 5 = some 98 := rfl
theorem rr21_0 (h1 h2 : Nat) : RR h1 h2 21 0 = some 22 := rfl
theorem rr21_1 (h1 h2 : Nat) : RR h1 h2 21 1 = some 28 := rfl
theorem rr21_2 (h1 h2 : Nat) : RR h1 h2 21 2 = some 34 := rfl
theorem rr21_3 (h1 h2 : Nat) : RR h1 h2 21 3 = some 39 := rfl
theorem rr21_4 (h1 h2 : Nat) : RR h1 h2 21 4 = some 44 := rfl
theorem rr22_0 (h1 h2 : Nat) : RR h1 h2 22 0 = some 23 := rfl
theorem rr22_1 (h1 h2 : Nat) : RR h1 h2 22 1 = some 24 := rfl
theorem rr22_2 (h1 h2 : Nat) : RR h1 h2 22 2 = some 25 := rfl
theorem rr22_3 (h1 h2 : Nat) : RR h1 h2 22 3 = some 26 := rfl
theorem rr22_4 (h1 h2 : Nat) : RR h1 h2 22 4 = some 27 := rfl
theorem rr28_0 (h1 h2 : Nat) : RR h1 h2 28 0 = some 29 := rfl
theorem rr28_1 (h1 h2 : Nat) : RR h1 h2 28 1 = some 30 := rfl
theorem rr28_2 (h1 h2 : Nat) : RR h1 h2 28 2 = some 31 := rfl
theorem rr28_3 (h1 h2 : Nat) : RR h1 h2 28 3 = some 32 := rfl
theorem rr28_4 (h1 h2 : Nat) : RR h1 h2 28 4 = some 33 := rfl
theorem rr34_0 (h1 h2 : Nat) : RR h1 h2 34 0 = some 35 := rfl
theorem rr34_1 (h1 h2 : Nat) : RR h1 h2 34 1 = some 36 := rfl
theorem rr34_2 (h1 h2 : Nat) : RR h1 h2 34 2 = some 37 := rfl
theorem rr34_3 (h1 h2 : Nat) : RR h1 h2 34 3 = some 38 := rfl
theorem rr39_0 (h1 h2 : Nat) : RR h1 h2 39 0 = some 40 := rfl
theorem rr39_1 (h1 h2 : Nat) : RR h1 h2 39 1 = some 41 := rfl
theorem rr39_2 (h1 h2 : Nat) : RR h1 h2 39 2 = some 42 := rfl
theorem rr39_3 (h1 h2 : Nat) : RR h1 h2 39 3 = some 43 := rfl
theorem rr44_0 (h1 h2 : Nat) : RR h1 h2 44 0 = some 45 := rfl
theorem rr44_1 (h1 h2 : Nat) : RR h1 h2 44 1 = some 46 := rfl
theorem rr44_2 (h1 h2 : Nat) : RR h1 h2 44 2 = some 47 := rfl
theorem rr44_3 (h1 h2 : Nat) : RR h1 h2 44 3 = some 48 := rfl
theorem rr49_0 (h1 h2 : Nat) : RR h1 h2 49 0 = some 50 := rfl
theorem rr51_0 (h1 h2 : Nat) : RR h1 h2 51 0 = some 102 := rfl
theorem rr51_1 (h1 h2 : Nat) : RR h1 h2 51 1 = some 104 := rfl
theorem rr51_2 (h1 h2 : Nat) : RR h1 h2 51 2 = some 106 := rfl
theorem rr51_3 (h1 h2 : Nat) : RR h1 h2 51 3 = some 108 := rfl
theorem rr51_4 (h1 h2 : Nat) : RR h1 h2 51 4 = some 110 := rfl
theorem rr51_5 (h1 h2 : Nat) : RR h1 h2 51 5 = some 112 := rfl
theorem rr52_3 (h1 h2 : Nat) : RR h1 h2 52 3 = some 53 := rfl
theorem rr52_4 (h1 h2 : Nat) : RR h1 h2 52 4 = some 54 := rfl
theorem rr52_5 (h1 h2 : Nat) : RR h1 h2 52 5 = some 55 := rfl
theorem rr56_6 (h1 h2 : Nat) : RR h1 h2 56 6 = some 57 := rfl
theorem rr56_7 (h1 h2 : Nat) : RR h1 h2 56 7 = some 58 := rfl
theorem rr56_8 (h1 h2 : Nat) : RR h1 h2 56 8 = some 59 := rfl
theorem rr56_9 (h1 h2 : Nat) : RR h1 h2 56 9 = some 60 := rfl
theorem rr56_10 (h1 h2 : Nat) : RR h1 h2 56 10 = some 61 := rfl
theorem rr56_12 (h1 h2 : Nat) : RR h1 h2 56 12 = some 62 := rfl
theorem rr56_13 (h1 h2 : Nat) : RR h1 h2 56 13 = some 63 := rfl
theorem rr56_15 (h1 h2 : Nat) : RR h1 h2 56 15 = some 64 := rfl
theorem rr56_16 (h1 h2 : Nat) : RR h1 h2 56 16 = some 65 := rfl
theorem rr56_18 (h1 h2 : Nat) : RR h1 h2 56 18 = some 66 := rfl
theorem rr67_6 (h1 h2 : Nat) : RR h1 h2 67 6 = some 68 := rfl
theorem rr67_7 (h1 h2 : Nat) : RR h1 h2 67 7 = some 69 := rfl
theorem rr67_8 (h1 h2 : Nat) : RR h1 h2 67 8 = some 70 := rfl
theorem rr67_9 (h1 h2 : Nat) : RR h1 h2 67 9 = some 71 := rfl
theorem rr67_10 (h1 h2 : Nat) : RR h1 h2 67 10 = some 72 := rfl
theorem rr67_12 (h1 h2 : Nat) : RR h1 h2 67 12 = some 73 := rfl
theorem rr67_13 (h1 h2 : Nat) : RR h1 h2 67 13 = some 74 := rfl
theorem rr67_15 (h1 h2 : Nat) : RR h1 h2 67 15 = some 75 := rfl
theorem rr67_16 (h1 h2 : Nat) : RR h1 h2 67 16 = some 76 := rfl
theorem rr67_18 (h1 h2 : Nat) : RR h1 h2 67 18 = some 77 := rfl
theorem rr78_3 (h1 h2 : Nat) : RR h1 h2 78 3 = some 79 := rfl
theorem rr78_4 (h1 h2 : Nat) : RR h1 h2 78 4 = some 80 := rfl
theorem rr78_5 (h1 h2 : Nat) : RR h1 h2 78 5 = some 81 := rfl
theorem rr82_3 (h1 h2 : Nat) : RR h1 h2 82 3 = some 83 := rfl
theorem rr82_4 (h1 h2 : Nat) : RR h1 h2 82 4 = some 84 := rfl
theorem rr82_5 (h1 h2 : Nat) : RR h1 h2 82 5 = some 85 := rfl
theorem rr86_3 (h1 h2 : Nat) : RR h1 h2 86 3 = some 87 := rfl
theorem rr86_4 (h1 h2 : Nat) : RR h1 h2 86 4 = some 88 := rfl
theorem rr86_5 (h1 h2 : Nat) : RR h1 h2 86 5 = some 89 := rfl
theorem rr90_3 (h1 h2 : Nat) : RR h1 h2 90 3 = some 91 := rfl
theorem rr90_4 (h1 h2 : Nat) : RR h1 h2 90 4 = some 92 := rfl
theorem rr90_5 (h1 h2 : Nat) : RR h1 h2 90 5 = some 93 := rfl
theorem rr94_3 (h1 h2 : Nat) : RR h1 h2 94 3 = some 95 := rfl
theorem rr94_4 (h1 h2 : Nat) : RR h1 h2 94 4 = some 96 := rfl
theorem rr94_5 (h1 h2 : Nat) : RR h1 h2 94 5 = some 97 := rfl
theorem rr98_3 (h1 h2 : Nat) : RR h1 h2 98 3 = some 99 := rfl
theorem rr98_4 (h1 h2 : Nat) : RR h1 h2 98 4 = some 100 := rfl
theorem rr98_5 (h1 h2 : Nat) : RR h1 h2 98 5 = some 101 := rfl
theorem rr102_2 (h1 h2 : Nat) : RR h1 h2 102 2 = some 103 := rfl
theorem rr104_2 (h1 h2 : Nat) : RR h1 h2 104 2 = some 105 := rfl
theorem rr106_2 (h1 h2 : Nat) : RR h1 h2 106 2 = some 107 := rfl
theorem rr108_2 (h1 h2 : Nat) : RR h1 h2 108 2 = some 109 := rfl
theorem rr110_2 (h1 h2 : Nat) : RR h1 h2 110 2 = some 111 := rfl
theorem rr112_2 (h1 h2 : Nat) : RR h1 h2 112 2 = some 113 := rfl
theorem rr114_5 (h1 h2 : Nat) : RR h1 h2 114 5 = some 115 := rfl
theorem rr114_6 (h1 h2 : Nat) : RR h1 h2 114 6 = some 116 := rfl
theorem rr114_7 (h1 h2 : Nat) : RR h1 h2 114 7 = some 117 := rfl
theorem rr114_8 (h1 h2 : Nat) : RR h1 h2 114 8 = some 118 := rfl
theorem rr114_9 (h1 h2 : Nat) : RR h1 h2 114 9 = some 119 := rfl
theorem rr114_10 (h1 h2 : Nat) : RR h1 h2 114 10 = some 120 := rfl
theorem rr114_16 (h1 h2 : Nat) : RR h1 h2 114 16 = some 121 := rfl
theorem rr114_17 (h1 h2 : Nat) : RR h1 h2 114 17 = some 122 := rfl
theorem rr114_18 (h1 h2 : Nat) : RR h1 h2 114 18 = some 123 := rfl
theorem rr114_19 (h1 h2 : Nat) : RR h1 h2 114 19 = some 124 := rfl
theorem rr114_20 (h1 h2 : Nat) : RR h1 h2 114 20 = some 125 := rfl
theorem rr114_21 (h1 h2 : Nat) : RR h1 h2 114 21 = some 126 := rfl
theorem rr114_22 (h1 h2 : Nat) : RR h1 h2 114 22 = some 127 := rfl
theorem rr114_23 (h1 h2 : Nat) : RR h1 h2 114 23 = some 128 := rfl
theorem rr114_27 (h1 h2 : Nat) : RR h1 h2 114 27 = some 129 := rfl
theorem rr114_28 (h1 h2 : Nat) : RR h1 h2 114 28 = some 130 := rfl
theorem rr114_29 (h1 h2 : Nat) : RR h1 h2 114 29 = some 131 := rfl
theorem rr114_30 (h1 h2 : Nat) : RR h1 h2 114 30 = some 132 := rfl
theorem rr114_31 (h1 h2 : Nat) : RR h1 h2 114 31 = some 133 := rfl
theorem rr114_41 (h1 h2 : Nat) : RR h1 h2 114 41 = some 134 := rfl
theorem rr114_42 (h1 h2 : Nat) : RR h1 h2 114 42 = some 135 := rfl
theorem rr114_44 (h1 h2 : Nat) : RR h1 h2 114 44 = some 136 := rfl
theorem rr114_45 (h1 h2 : Nat) : RR h1 h2 114 45 = some 137 := rfl
theorem rr114_55 (h1 h2 : Nat) : RR h1 h2 114 55 = some 138 := rfl
theorem rr114_56 (h1 h2 : Nat) : RR h1 h2 114 56 = some 139 := rfl
theorem rr114_57 (h1 h2 : Nat) : RR h1 h2 114 57 = some 140 := rfl
theorem rr114_58 (h1 h2 : Nat) : RR h1 h2 114 58 = some 141 := rfl
theorem rr114_59 (h1 h2 : Nat) : RR h1 h2 114 59 = some 142 := rfl
theorem rr114_60 (h1 h2 : Nat) : RR h1 h2 114 60 = some 143 := rfl
theorem rr114_61 (h1 h2 : Nat) : RR h1 h2 114 61 = some 144 := rfl
theorem rr114_62 (h1 h2 : Nat) : RR h1 h2 114 62 = some 145 := rfl
theorem rr114_63 (h1 h2 : Nat) : RR h1 h2 114 63 = some 146 := rfl
theorem rr114_64 (h1 h2 : Nat) : RR h1 h2 114 64 = some 147 := rfl
theorem rr114_66 (h1 h2 : Nat) : RR h1 h2 114 66 = some 148 := rfl
theorem rr114_67 (h1 h2 : Nat) : RR h1 h2 114 67 = some 149 := rfl
theorem rr114_68 (h1 h2 : Nat) : RR h1 h2 114 68 = some 150 := rfl
theorem rr114_69 (h1 h2 : Nat) : RR h1 h2 114 69 = some 151 := rfl
theorem rr114_70 (h1 h2 : Nat) : RR h1 h2 114 70 = some 152 := rfl
theorem rr56_17 (h1 h2 : Nat) : RR h1 h2 56 17 = some h1 := rfl
theorem rr67_17 (h1 h2 : Nat) : RR h1 h2 67 17 = some h2 := rfl
/-- one place written -/
def u2 {α : Type} (f : Nat → Nat → α) (o k : Nat) (x : α) : Nat → Nat → α := va_up f o (va_up (f o) k x)
theorem u2_s {α : Type} (f : Nat → Nat → α) (o k : Nat) (x : α) : u2 f o k x o = va_up (f o) k x := ud_s _ _ _
theorem u2_n {α : Type} {f : Nat → Nat → α} {o k q : Nat} {x : α} (h : q ≠ o) : u2 f o k x q = f q := ud_n h
theorem canI_up {f : Nat → Nat → Int32} {o : Nat} {w : Nat → Int32} (h : 17 ≤ o) : va_up (canI f) o w = canI (va_up f o w) := by
  funext q
  by_cases e : q = o
  · subst e
    rw [ud_s, canI, if_neg (by omega), ud_s]
  · rw [ud_n e]
    unfold canI
    by_cases h1 : q < 17
    · rw [if_pos h1, if_pos h1]
    · rw [if_neg h1, if_neg h1, ud_n e]
theorem canI_own {f : Nat → Nat → Int32} {o : Nat} (h : 17 ≤ o) : canI f o = f o := if_neg (by omega)
theorem canI_for {f : Nat → Nat → Int32} {o : Nat} (h : o < 17) : canI f o = fI o := if_pos h
theorem cS_pI {f : Nat → Nat → Int32} {g : Nat → Nat → Int64} {h1 h2 o k : Nat} {x : Int32} (h : 17 ≤ o) : pI (cS f g h1 h2) o k x = cS (u2 f o k x) g h1 h2 := by
  show (KK, va_up (canI f) o (va_up (canI f o) k x), g, RR h1 h2) = _
  rw [canI_own h, canI_up h]
  rfl
theorem cS_pIr {f : Nat → Nat → Int32} {g : Nat → Nat → Int64} {h1 h2 o : Nat} {w : Nat → Int32} (h : 17 ≤ o) : pIr (cS f g h1 h2) o w = cS (va_up f o w) g h1 h2 := by
  show (KK, va_up (canI f) o w, g, RR h1 h2) = _
  rw [canI_up h]
  rfl
theorem cS_pJ {f : Nat → Nat → Int32} {g : Nat → Nat → Int64} {h1 h2 o k : Nat} {x : Int64} : pJ (cS f g h1 h2) o k x = cS f (u2 g o k x) h1 h2 := rfl
theorem RR_h1 (h1 h2 h : Nat) : va_up (RR h1 h2) 56 (va_up (RR h1 h2 56) 17 (some h)) = RR h h2 := by
  funext o k
  unfold va_up RR
  by_cases e : o = 56
  · subst e
    by_cases ek : k = 17
    · simp [ek]
    · simp [ek]
  · by_cases ek : k = 17
    · simp [ek, e]
    · simp [ek, e]
theorem RR_h2 (h1 h2 h : Nat) : va_up (RR h1 h2) 67 (va_up (RR h1 h2 67) 17 (some h)) = RR h1 h := by
  funext o k
  unfold va_up RR
  by_cases e : o = 67
  · subst e
    by_cases ek : k = 17
    · simp [ek]
    · simp [ek]
  · by_cases ek : k = 17
    · simp [ek, e]
    · simp [ek, e]
abbrev aSc : Type := Option (Nat × (Nat → Int32))
/-- a body from a place on ends so; a call ends so -/
def Rn (sc : aSc) (d m pc : Nat) (L st : List Value) (σ : aS) (r : aRes) : Prop := ∃ N n, ex (cl sc N d) sc m n pc L st σ = some r
def Cl (sc : aSc) (d j : Nat) (as : List Value) (σ : aS) (r : aRes) : Prop := ∃ N, cl sc N d j as σ = some r
theorem ex_mono {cb cb2 : Nat → List Value → aS → Option aRes} {sc : aSc} {m : Nat} (hcb : ∀ j as σ r, cb j as σ = some r → cb2 j as σ = some r) : ∀ (n n2 pc : Nat) (L st : List Value) (σ : aS) (r : aRes), n ≤ n2 → ex cb sc m n pc L st σ = some r → ex cb2 sc m n2 pc L st σ = some r
  | 0, _, _, _, _, _, _, _, h => by cases h
  | n + 1, 0, _, _, _, _, _, hn, _ => absurd hn (by omega)
  | n + 1, n2 + 1, pc, L, st, σ, r, hn, h => by
    unfold ex at h ⊢
    rcases hs : stp sc m pc L st σ with _ | (⟨pc1, L1, st1, σ1⟩ | (⟨j, as, pc1, L1, st1, σ1⟩ | v)) <;> rw [hs] at h
    · cases h
    · exact ex_mono hcb n n2 _ _ _ _ _ (by omega) h
    · simp only at h ⊢
      cases hc : cb j as σ1 with
      | none => rw [hc] at h; cases h
      | some r1 =>
        rw [hc] at h
        rw [hcb _ _ _ _ hc]
        exact ex_mono hcb n n2 _ _ _ _ _ (by omega) h
    · exact h
theorem cl_mono {sc : aSc} {N N2 : Nat} (hN : N ≤ N2) : ∀ (d : Nat) (j : Nat) (as : List Value) (σ : aS) (r : aRes), cl sc N d j as σ = some r → cl sc N2 d j as σ = some r
  | 0, _, _, _, _, h => by cases h
  | d + 1, j, as, σ, r, h => by
    unfold cl at h ⊢
    split at h
    · rename_i ha
      rw [if_pos ha]
      exact ex_mono (fun j as σ r h => cl_mono hN d j as σ r h) N N2 _ _ _ _ _ hN h
    · cases h
theorem cl_deep {sc : aSc} {N : Nat} : ∀ (d d2 : Nat) (j : Nat) (as : List Value) (σ : aS) (r : aRes), d ≤ d2 → cl sc N d j as σ = some r → cl sc N d2 j as σ = some r
  | 0, _, _, _, _, _, _, h => by cases h
  | d + 1, 0, _, _, _, _, hd, _ => absurd hd (by omega)
  | d + 1, d2 + 1, j, as, σ, r, hd, h => by
    unfold cl at h ⊢
    split at h
    · rename_i ha
      rw [if_pos ha]
      exact ex_mono (fun j as σ r h => cl_deep d d2 j as σ r (by omega) h) N N _ _ _ _ _ (Nat.le_refl _) h
    · cases h
theorem Cl_deep {sc : aSc} {d d2 j : Nat} {as : List Value} {σ : aS} {r : aRes} (hd : d ≤ d2) (h : Cl sc d j as σ r) : Cl sc d2 j as σ r := by
  obtain ⟨N, h⟩ := h
  exact ⟨N, cl_deep d d2 j as σ r hd h⟩
theorem Cl_det {sc : aSc} {d d2 j : Nat} {as : List Value} {σ : aS} {r r2 : aRes} (h : Cl sc d j as σ r) (h2 : Cl sc d2 j as σ r2) : r = r2 := by
  obtain ⟨N, h⟩ := h
  obtain ⟨N2, h2⟩ := h2
  have a := cl_deep d (d + d2) j as σ r (by omega) (cl_mono (show N ≤ N + N2 by omega) d j as σ r h)
  have b := cl_deep d2 (d + d2) j as σ r2 (by omega) (cl_mono (show N2 ≤ N + N2 by omega) d2 j as σ r2 h2)
  exact Option.some.inj (a.symm.trans b)
/-- a call that is known to end so ends so alone -/
theorem Cl_iff {sc : aSc} {d j : Nat} {as : List Value} {σ : aS} {r : aRes} (h : Cl sc d j as σ r) (r2 : aRes) : Cl sc d j as σ r2 ↔ r2 = r := ⟨fun h2 => Cl_det h2 h, fun e => e ▸ h⟩
theorem Rn_det {sc : aSc} {d m pc : Nat} {L st : List Value} {σ : aS} {r r2 : aRes} (h : Rn sc d m pc L st σ r) (h2 : Rn sc d m pc L st σ r2) : r = r2 := by
  obtain ⟨N, n, h⟩ := h
  obtain ⟨N2, n2, h2⟩ := h2
  have a := ex_mono (fun j as σ r h => cl_mono (show N ≤ N + N2 by omega) d j as σ r h) n (n + n2) pc L st σ r (by omega) h
  have b := ex_mono (fun j as σ r h => cl_mono (show N2 ≤ N + N2 by omega) d j as σ r h) n2 (n + n2) pc L st σ r2 (by omega) h2
  exact Option.some.inj (a.symm.trans b)
theorem Rn_next {sc : aSc} {d m pc pc2 : Nat} {L L2 st st2 : List Value} {σ σ2 : aS} {r : aRes} (h : stp sc m pc L st σ = some (.inl (pc2, L2, st2, σ2))) : Rn sc d m pc L st σ r ↔ Rn sc d m pc2 L2 st2 σ2 r := by
  constructor
  · rintro ⟨N, n, hr⟩
    cases n with
    | zero => cases hr
    | succ n =>
      unfold ex at hr
      simp only [h] at hr
      exact ⟨N, n, hr⟩
  · rintro ⟨N, n, hr⟩
    refine ⟨N, n + 1, ?_⟩
    unfold ex
    simp only [h]
    exact hr
theorem Rn_none {sc : aSc} {d m pc : Nat} {L st : List Value} {σ : aS} {r : aRes} (h : stp sc m pc L st σ = none) : ¬ Rn sc d m pc L st σ r := by
  rintro ⟨N, n, hr⟩
  cases n with
  | zero => cases hr
  | succ n =>
    unfold ex at hr
    simp only [h] at hr
    cases hr
theorem Rn_ret {sc : aSc} {d m pc : Nat} {L st : List Value} {σ : aS} {v : Option Value} {r : aRes} (h : stp sc m pc L st σ = some (.inr (.inr v))) : Rn sc d m pc L st σ r ↔ r = (σ, v) := by
  constructor
  · rintro ⟨N, n, hr⟩
    cases n with
    | zero => cases hr
    | succ n =>
      unfold ex at hr
      simp only [h] at hr
      cases hr
      rfl
  · rintro rfl
    refine ⟨0, 1, ?_⟩
    unfold ex
    simp only [h]
theorem Rn_call {sc : aSc} {d m pc pc2 j : Nat} {as L L2 st st2 : List Value} {σ σ2 : aS} {r : aRes} (h : stp sc m pc L st σ = some (.inr (.inl (j, as, (pc2, L2, st2, σ2))))) : Rn sc d m pc L st σ r ↔ ∃ (σ3 : aS) (v : Option Value), Cl sc d j as σ2 (σ3, v) ∧ Rn sc d m pc2 L2 (v.toList ++ st2) σ3 r := by
  constructor
  · rintro ⟨N, n, hr⟩
    cases n with
    | zero => cases hr
    | succ n =>
      unfold ex at hr
      simp only [h] at hr
      split at hr
      · rename_i σ3 v hc
        exact ⟨σ3, v, ⟨N, hc⟩, ⟨N, n, hr⟩⟩
      · cases hr
  · rintro ⟨σ3, v, ⟨N, hc⟩, ⟨N2, n, hr⟩⟩
    refine ⟨N + N2, n + 1, ?_⟩
    unfold ex
    simp only [h, cl_mono (show N ≤ N + N2 by omega) d j as σ2 (σ3, v) hc]
    exact ex_mono (fun j as σ r h => cl_mono (show N2 ≤ N + N2 by omega) d j as σ r h) n n _ _ _ _ _ (Nat.le_refl _) hr
theorem Cl_unf {sc : aSc} {d j : Nat} {as : List Value} {σ : aS} {r : aRes} (ha : (argL as).length ≤ mL j) : Cl sc (d + 1) j as σ r ↔ Rn sc d j 0 (entL j as) [] σ r := by
  constructor
  · rintro ⟨N, h⟩
    unfold cl at h
    rw [if_pos ha] at h
    exact ⟨N, N, h⟩
  · rintro ⟨N, n, h⟩
    refine ⟨N + n, ?_⟩
    unfold cl
    rw [if_pos ha]
    exact ex_mono (fun j as σ r h => cl_mono (show N ≤ N + n by omega) d j as σ r h) n (N + n) _ _ _ _ _ (by omega) h
theorem stp_of {sc : aSc} {m pc len : Nat} {i : Instr} {L st : List Value} {σ : aS} {o : Option aOut} (hd : decode (mC m) pc = .ok (i, len)) (h : stpI sc m i len pc L st σ = o) : stp sc m pc L st σ = o := by
  unfold stp
  rw [hd]
  exact h
