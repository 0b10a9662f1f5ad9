/-! facts of the cells, as rows for simp (written by wip/whole/mk27.py) -/
theorem kp5 : (KK[5]? = some (.inl 8)) = True := eq_true rfl
theorem kp6 : (KK[6]? = some (.inl 8)) = True := eq_true rfl
theorem kp7 : (KK[7]? = some (.inl 8)) = True := eq_true rfl
theorem kp8 : (KK[8]? = some (.inl 8)) = True := eq_true rfl
theorem kp9 : (KK[9]? = some (.inl 8)) = True := eq_true rfl
theorem kp10 : (KK[10]? = some (.inl 8)) = True := eq_true rfl
theorem kp17 : (KK[17]? = some (.inl 6)) = True := eq_true rfl
theorem kp18 : (KK[18]? = some (.inl 5)) = True := eq_true rfl
theorem kp21 : (KK[21]? = some (.inl 3)) = True := eq_true rfl
theorem kp49 : (KK[49]? = some (.inl 0)) = True := eq_true rfl
theorem kp52 : (KK[52]? = some (.inl 2)) = True := eq_true rfl
theorem kp56 : (KK[56]? = some (.inl 1)) = True := eq_true rfl
theorem kp67 : (KK[67]? = some (.inl 1)) = True := eq_true rfl
theorem kp78 : (KK[78]? = some (.inl 2)) = True := eq_true rfl
theorem kp82 : (KK[82]? = some (.inl 2)) = True := eq_true rfl
theorem kp86 : (KK[86]? = some (.inl 2)) = True := eq_true rfl
theorem kp90 : (KK[90]? = some (.inl 2)) = True := eq_true rfl
theorem kp94 : (KK[94]? = some (.inl 2)) = True := eq_true rfl
theorem kp98 : (KK[98]? = some (.inl 2)) = True := eq_true rfl
theorem kp102 : (KK[102]? = some (.inl 4)) = True := eq_true rfl
theorem kp104 : (KK[104]? = some (.inl 4)) = True := eq_true rfl
theorem kp106 : (KK[106]? = some (.inl 4)) = True := eq_true rfl
theorem kp108 : (KK[108]? = some (.inl 4)) = True := eq_true rfl
theorem kp110 : (KK[110]? = some (.inl 4)) = True := eq_true rfl
theorem kp112 : (KK[112]? = some (.inl 4)) = True := eq_true rfl
theorem kp114 : (KK[114]? = some (.inl 7)) = True := eq_true rfl
theorem rp17_0 (h1 h2 : Nat) : ((RR h1 h2 17 0).isSome = true) = True := eq_true rfl
theorem rp17_1 (h1 h2 : Nat) : ((RR h1 h2 17 1).isSome = true) = True := eq_true rfl
theorem rp17_3 (h1 h2 : Nat) : ((RR h1 h2 17 3).isSome = true) = True := eq_true rfl
theorem rp17_4 (h1 h2 : Nat) : ((RR h1 h2 17 4).isSome = true) = True := eq_true rfl
theorem rp17_6 (h1 h2 : Nat) : ((RR h1 h2 17 6).isSome = true) = True := eq_true rfl
theorem rp17_7 (h1 h2 : Nat) : ((RR h1 h2 17 7).isSome = true) = True := eq_true rfl
theorem rp17_8 (h1 h2 : Nat) : ((RR h1 h2 17 8).isSome = true) = True := eq_true rfl
theorem rp18_0 (h1 h2 : Nat) : ((RR h1 h2 18 0).isSome = true) = True := eq_true rfl
theorem rp20_0 (h1 h2 : Nat) : ((RR h1 h2 20 0).isSome = true) = True := eq_true rfl
theorem rp20_1 (h1 h2 : Nat) : ((RR h1 h2 20 1).isSome = true) = True := eq_true rfl
theorem rp20_2 (h1 h2 : Nat) : ((RR h1 h2 20 2).isSome = true) = True := eq_true rfl
theorem rp20_3 (h1 h2 : Nat) : ((RR h1 h2 20 3).isSome = true) = True := eq_true rfl
theorem rp20_4 (h1 h2 : Nat) : ((RR h1 h2 20 4).isSome = true) = True := eq_true rfl
theorem rp20_5 (h1 h2 : Nat) : ((RR h1 h2 20 5).isSome = true) = True := eq_true rfl
theorem rp21_0 (h1 h2 : Nat) : ((RR h1 h2 21 0).isSome = true) = True := eq_true rfl
theorem rp21_1 (h1 h2 : Nat) : ((RR h1 h2 21 1).isSome = true) = True := eq_true rfl
theorem rp21_2 (h1 h2 : Nat) : ((RR h1 h2 21 2).isSome = true) = True := eq_true rfl
theorem rp21_3 (h1 h2 : Nat) : ((RR h1 h2 21 3).isSome = true) = True := eq_true rfl
theorem rp21_4 (h1 h2 : Nat) : ((RR h1 h2 21 4).isSome = true) = True := eq_true rfl
theorem rp22_0 (h1 h2 : Nat) : ((RR h1 h2 22 0).isSome = true) = True := eq_true rfl
theorem rp22_1 (h1 h2 : Nat) : ((RR h1 h2 22 1).isSome = true) = True := eq_true rfl
theorem rp22_2 (h1 h2 : Nat) : ((RR h1 h2 22 2).isSome = true) = True := eq_true rfl
theorem rp22_3 (h1 h2 : Nat) : ((RR h1 h2 22 3).isSome = true) = True := eq_true rfl
theorem rp22_4 (h1 h2 : Nat) : ((RR h1 h2 22 4).isSome = true) = True := eq_true rfl
theorem rp28_0 (h1 h2 : Nat) : ((RR h1 h2 28 0).isSome = true) = True := eq_true rfl
theorem rp28_1 (h1 h2 : Nat) : ((RR h1 h2 28 1).isSome = true) = True := eq_true rfl
theorem rp28_2 (h1 h2 : Nat) : ((RR h1 h2 28 2).isSome = true) = True := eq_true rfl
theorem rp28_3 (h1 h2 : Nat) : ((RR h1 h2 28 3).isSome = true) = True := eq_true rfl
theorem rp28_4 (h1 h2 : Nat) : ((RR h1 h2 28 4).isSome = true) = True := eq_true rfl
theorem rp34_0 (h1 h2 : Nat) : ((RR h1 h2 34 0).isSome = true) = True := eq_true rfl
theorem rp34_1 (h1 h2 : Nat) : ((RR h1 h2 34 1).isSome = true) = True := eq_true rfl
theorem rp34_2 (h1 h2 : Nat) : ((RR h1 h2 34 2).isSome = true) = True := eq_true rfl
theorem rp34_3 (h1 h2 : Nat) : ((RR h1 h2 34 3).isSome = true) = True := eq_true rfl
theorem rp39_0 (h1 h2 : Nat) : ((RR h1 h2 39 0).isSome = true) = True := eq_true rfl
theorem rp39_1 (h1 h2 : Nat) : ((RR h1 h2 39 1).isSome = true) = True := eq_true rfl
theorem rp39_2 (h1 h2 : Nat) : ((RR h1 h2 39 2).isSome = true) = True := eq_true rfl
theorem rp39_3 (h1 h2 : Nat) : ((RR h1 h2 39 3).isSome = true) = True := eq_true rfl
theorem rp44_0 (h1 h2 : Nat) : ((RR h1 h2 44 0).isSome = true) = True := eq_true rfl
theorem rp44_1 (h1 h2 : Nat) : ((RR h1 h2 44 1).isSome = true) = True := eq_true rfl
theorem rp44_2 (h1 h2 : Nat) : ((RR h1 h2 44 2).isSome = true) = True := eq_true rfl
theorem rp44_3 (h1 h2 : Nat) : ((RR h1 h2 44 3).isSome = true) = True := eq_true rfl
theorem rp49_0 (h1 h2 : Nat) : ((RR h1 h2 49 0).isSome = true) = True := eq_true rfl
theorem rp51_0 (h1 h2 : Nat) : ((RR h1 h2 51 0).isSome = true) = True := eq_true rfl
theorem rp51_1 (h1 h2 : Nat) : ((RR h1 h2 51 1).isSome = true) = True := eq_true rfl
theorem rp51_2 (h1 h2 : Nat) : ((RR h1 h2 51 2).isSome = true) = True := eq_true rfl
theorem rp51_3 (h1 h2 : Nat) : ((RR h1 h2 51 3).isSome = true) = True := eq_true rfl
theorem rp51_4 (h1 h2 : Nat) : ((RR h1 h2 51 4).isSome = true) = True := eq_true rfl
theorem rp51_5 (h1 h2 : Nat) : ((RR h1 h2 51 5).isSome = true) = True := eq_true rfl
theorem rp52_3 (h1 h2 : Nat) : ((RR h1 h2 52 3).isSome = true) = True := eq_true rfl
theorem rp52_4 (h1 h2 : Nat) : ((RR h1 h2 52 4).isSome = true) = True := eq_true rfl
theorem rp52_5 (h1 h2 : Nat) : ((RR h1 h2 52 5).isSome = true) = True := eq_true rfl
theorem rp56_6 (h1 h2 : Nat) : ((RR h1 h2 56 6).isSome = true) = True := eq_true rfl
theorem rp56_7 (h1 h2 : Nat) : ((RR h1 h2 56 7).isSome = true) = True := eq_true rfl
theorem rp56_8 (h1 h2 : Nat) : ((RR h1 h2 56 8).isSome = true) = True := eq_true rfl
theorem rp56_9 (h1 h2 : Nat) : ((RR h1 h2 56 9).isSome = true) = True := eq_true rfl
theorem rp56_10 (h1 h2 : Nat) : ((RR h1 h2 56 10).isSome = true) = True := eq_true rfl
theorem rp56_12 (h1 h2 : Nat) : ((RR h1 h2 56 12).isSome = true) = True := eq_true rfl
theorem rp56_13 (h1 h2 : Nat) : ((RR h1 h2 56 13).isSome = true) = True := eq_true rfl
theorem rp56_15 (h1 h2 : Nat) : ((RR h1 h2 56 15).isSome = true) = True := eq_true rfl
theorem rp56_16 (h1 h2 : Nat) : ((RR h1 h2 56 16).isSome = true) = True := eq_true rfl
theorem rp56_17 (h1 h2 : Nat) : ((RR h1 h2 56 17).isSome = true) = True := eq_true rfl
theorem rp56_18 (h1 h2 : Nat) : ((RR h1 h2 56 18).isSome = true) = True := eq_true rfl
theorem rp67_6 (h1 h2 : Nat) : ((RR h1 h2 67 6).isSome = true) = True := eq_true rfl
theorem rp67_7 (h1 h2 : Nat) : ((RR h1 h2 67 7).isSome = true) = True := eq_true rfl
theorem rp67_8 (h1 h2 : Nat) : ((RR h1 h2 67 8).isSome = true) = True := eq_true rfl
theorem rp67_9 (h1 h2 : Nat) : ((RR h1 h2 67 9).isSome = true) = True := eq_true rfl
theorem rp67_10 (h1 h2 : Nat) : ((RR h1 h2 67 10).isSome = true) = True := eq_true rfl
theorem rp67_12 (h1 h2 : Nat) : ((RR h1 h2 67 12).isSome = true) = True := eq_true rfl
theorem rp67_13 (h1 h2 : Nat) : ((RR h1 h2 67 13).isSome = true) = True := eq_true rfl
theorem rp67_15 (h1 h2 : Nat) : ((RR h1 h2 67 15).isSome = true) = True := eq_true rfl
theorem rp67_16 (h1 h2 : Nat) : ((RR h1 h2 67 16).isSome = true) = True := eq_true rfl
theorem rp67_17 (h1 h2 : Nat) : ((RR h1 h2 67 17).isSome = true) = True := eq_true rfl
theorem rp67_18 (h1 h2 : Nat) : ((RR h1 h2 67 18).isSome = true) = True := eq_true rfl
theorem rp78_3 (h1 h2 : Nat) : ((RR h1 h2 78 3).isSome = true) = True := eq_true rfl
theorem rp78_4 (h1 h2 : Nat) : ((RR h1 h2 78 4).isSome = true) = True := eq_true rfl
theorem rp78_5 (h1 h2 : Nat) : ((RR h1 h2 78 5).isSome = true) = True := eq_true rfl
theorem rp82_3 (h1 h2 : Nat) : ((RR h1 h2 82 3).isSome = true) = True := eq_true rfl
theorem rp82_4 (h1 h2 : Nat) : ((RR h1 h2 82 4).isSome = true) = True := eq_true rfl
theorem rp82_5 (h1 h2 : Nat) : ((RR h1 h2 82 5).isSome = true) = True := eq_true rfl
theorem rp86_3 (h1 h2 : Nat) : ((RR h1 h2 86 3).isSome = true) = True := eq_true rfl
theorem rp86_4 (h1 h2 : Nat) : ((RR h1 h2 86 4).isSome = true) = True := eq_true rfl
theorem rp86_5 (h1 h2 : Nat) : ((RR h1 h2 86 5).isSome = true) = True := eq_true rfl
theorem rp90_3 (h1 h2 : Nat) : ((RR h1 h2 90 3).isSome = true) = True := eq_true rfl
theorem rp90_4 (h1 h2 : Nat) : ((RR h1 h2 90 4).isSome = true) = True := eq_true rfl
theorem rp90_5 (h1 h2 : Nat) : ((RR h1 h2 90 5).isSome = true) = True := eq_true rfl
theorem rp94_3 (h1 h2 : Nat) : ((RR h1 h2 94 3).isSome = true) = True := eq_true rfl
theorem rp94_4 (h1 h2 : Nat) : ((RR h1 h2 94 4).isSome = true) = True := eq_true rfl
theorem rp94_5 (h1 h2 : Nat) : ((RR h1 h2 94 5).isSome = true) = True := eq_true rfl
theorem rp98_3 (h1 h2 : Nat) : ((RR h1 h2 98 3).isSome = true) = True := eq_true rfl
theorem rp98_4 (h1 h2 : Nat) : ((RR h1 h2 98 4).isSome = true) = True := eq_true rfl
theorem rp98_5 (h1 h2 : Nat) : ((RR h1 h2 98 5).isSome = true) = True := eq_true rfl
theorem rp102_2 (h1 h2 : Nat) : ((RR h1 h2 102 2).isSome = true) = True := eq_true rfl
theorem rp104_2 (h1 h2 : Nat) : ((RR h1 h2 104 2).isSome = true) = True := eq_true rfl
theorem rp106_2 (h1 h2 : Nat) : ((RR h1 h2 106 2).isSome = true) = True := eq_true rfl
theorem rp108_2 (h1 h2 : Nat) : ((RR h1 h2 108 2).isSome = true) = True := eq_true rfl
theorem rp110_2 (h1 h2 : Nat) : ((RR h1 h2 110 2).isSome = true) = True := eq_true rfl
theorem rp112_2 (h1 h2 : Nat) : ((RR h1 h2 112 2).isSome = true) = True := eq_true rfl
theorem rp114_5 (h1 h2 : Nat) : ((RR h1 h2 114 5).isSome = true) = True := eq_true rfl
theorem rp114_6 (h1 h2 : Nat) : ((RR h1 h2 114 6).isSome = true) = True := eq_true rfl
theorem rp114_7 (h1 h2 : Nat) : ((RR h1 h2 114 7).isSome = true) = True := eq_true rfl
theorem rp114_8 (h1 h2 : Nat) : ((RR h1 h2 114 8).isSome = true) = True := eq_true rfl
theorem rp114_9 (h1 h2 : Nat) : ((RR h1 h2 114 9).isSome = true) = True := eq_true rfl
theorem rp114_10 (h1 h2 : Nat) : ((RR h1 h2 114 10).isSome = true) = True := eq_true rfl
theorem rp114_16 (h1 h2 : Nat) : ((RR h1 h2 114 16).isSome = true) = True := eq_true rfl
theorem rp114_17 (h1 h2 : Nat) : ((RR h1 h2 114 17).isSome = true) = True := eq_true rfl
theorem rp114_18 (h1 h2 : Nat) : ((RR h1 h2 114 18).isSome = true) = True := eq_true rfl
theorem rp114_19 (h1 h2 : Nat) : ((RR h1 h2 114 19).isSome = true) = True := eq_true rfl
theorem rp114_20 (h1 h2 : Nat) : ((RR h1 h2 114 20).isSome = true) = True := eq_true rfl
theorem rp114_21 (h1 h2 : Nat) : ((RR h1 h2 114 21).isSome = true) = True := eq_true rfl
theorem rp114_22 (h1 h2 : Nat) : ((RR h1 h2 114 22).isSome = true) = True := eq_true rfl
theorem rp114_23 (h1 h2 : Nat) : ((RR h1 h2 114 23).isSome = true) = True := eq_true rfl
theorem rp114_27 (h1 h2 : Nat) : ((RR h1 h2 114 27).isSome = true) = True := eq_true rfl
theorem rp114_28 (h1 h2 : Nat) : ((RR h1 h2 114 28).isSome = true) = True := eq_true rfl
theorem rp114_29 (h1 h2 : Nat) : ((RR h1 h2 114 29).isSome = true) = True := eq_true rfl
theorem rp114_30 (h1 h2 : Nat) : ((RR h1 h2 114 30).isSome = true) = True := eq_true rfl
theorem rp114_31 (h1 h2 : Nat) : ((RR h1 h2 114 31).isSome = true) = True := eq_true rfl
theorem rp114_41 (h1 h2 : Nat) : ((RR h1 h2 114 41).isSome = true) = True := eq_true rfl
theorem rp114_42 (h1 h2 : Nat) : ((RR h1 h2 114 42).isSome = true) = True := eq_true rfl
theorem rp114_44 (h1 h2 : Nat) : ((RR h1 h2 114 44).isSome = true) = True := eq_true rfl
theorem rp114_45 (h1 h2 : Nat) : ((RR h1 h2 114 45).isSome = true) = True := eq_true rfl
theorem rp114_55 (h1 h2 : Nat) : ((RR h1 h2 114 55).isSome = true) = True := eq_true rfl
theorem rp114_56 (h1 h2 : Nat) : ((RR h1 h2 114 56).isSome = true) = True := eq_true rfl
theorem rp114_57 (h1 h2 : Nat) : ((RR h1 h2 114 57).isSome = true) = True := eq_true rfl
theorem rp114_58 (h1 h2 : Nat) : ((RR h1 h2 114 58).isSome = true) = True := eq_true rfl
theorem rp114_59 (h1 h2 : Nat) : ((RR h1 h2 114 59).isSome = true) = True := eq_true rfl
theorem rp114_60 (h1 h2 : Nat) : ((RR h1 h2 114 60).isSome = true) = True := eq_true rfl
theorem rp114_61 (h1 h2 : Nat) : ((RR h1 h2 114 61).isSome = true) = True := eq_true rfl
theorem rp114_62 (h1 h2 : Nat) : ((RR h1 h2 114 62).isSome = true) = True := eq_true rfl
theorem rp114_63 (h1 h2 : Nat) : ((RR h1 h2 114 63).isSome = true) = True := eq_true rfl
theorem rp114_64 (h1 h2 : Nat) : ((RR h1 h2 114 64).isSome = true) = True := eq_true rfl
theorem rp114_66 (h1 h2 : Nat) : ((RR h1 h2 114 66).isSome = true) = True := eq_true rfl
theorem rp114_67 (h1 h2 : Nat) : ((RR h1 h2 114 67).isSome = true) = True := eq_true rfl
theorem rp114_68 (h1 h2 : Nat) : ((RR h1 h2 114 68).isSome = true) = True := eq_true rfl
theorem rp114_69 (h1 h2 : Nat) : ((RR h1 h2 114 69).isSome = true) = True := eq_true rfl
theorem rp114_70 (h1 h2 : Nat) : ((RR h1 h2 114 70).isSome = true) = True := eq_true rfl
