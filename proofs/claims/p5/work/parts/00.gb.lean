section XGB
/-! the count itself: batch by batch -/
theorem gc_0 : ∀ i, i < 0 → gp_go 16 (gp_b i) = true := fun i h => absurd h (by omega)
set_option maxRecDepth 100000 in
theorem gb_0 : gp_go 16 (gp_b 0) = true := by decide +kernel
theorem gc_1 : ∀ i, i < 1 → gp_go 16 (gp_b i) = true := gp_nx gc_0 gb_0
set_option maxRecDepth 100000 in
theorem gb_1 : gp_go 16 (gp_b 1) = true := by decide +kernel
theorem gc_2 : ∀ i, i < 2 → gp_go 16 (gp_b i) = true := gp_nx gc_1 gb_1
set_option maxRecDepth 100000 in
theorem gb_2 : gp_go 16 (gp_b 2) = true := by decide +kernel
theorem gc_3 : ∀ i, i < 3 → gp_go 16 (gp_b i) = true := gp_nx gc_2 gb_2
set_option maxRecDepth 100000 in
theorem gb_3 : gp_go 16 (gp_b 3) = true := by decide +kernel
theorem gc_4 : ∀ i, i < 4 → gp_go 16 (gp_b i) = true := gp_nx gc_3 gb_3
set_option maxRecDepth 100000 in
theorem gb_4 : gp_go 16 (gp_b 4) = true := by decide +kernel
theorem gc_5 : ∀ i, i < 5 → gp_go 16 (gp_b i) = true := gp_nx gc_4 gb_4
set_option maxRecDepth 100000 in
theorem gb_5 : gp_go 16 (gp_b 5) = true := by decide +kernel
theorem gc_6 : ∀ i, i < 6 → gp_go 16 (gp_b i) = true := gp_nx gc_5 gb_5
set_option maxRecDepth 100000 in
theorem gb_6 : gp_go 16 (gp_b 6) = true := by decide +kernel
theorem gc_7 : ∀ i, i < 7 → gp_go 16 (gp_b i) = true := gp_nx gc_6 gb_6
set_option maxRecDepth 100000 in
theorem gb_7 : gp_go 16 (gp_b 7) = true := by decide +kernel
theorem gc_8 : ∀ i, i < 8 → gp_go 16 (gp_b i) = true := gp_nx gc_7 gb_7
set_option maxRecDepth 100000 in
theorem gb_8 : gp_go 16 (gp_b 8) = true := by decide +kernel
theorem gc_9 : ∀ i, i < 9 → gp_go 16 (gp_b i) = true := gp_nx gc_8 gb_8
set_option maxRecDepth 100000 in
theorem gb_9 : gp_go 16 (gp_b 9) = true := by decide +kernel
theorem gc_10 : ∀ i, i < 10 → gp_go 16 (gp_b i) = true := gp_nx gc_9 gb_9
set_option maxRecDepth 100000 in
theorem gb_10 : gp_go 16 (gp_b 10) = true := by decide +kernel
theorem gc_11 : ∀ i, i < 11 → gp_go 16 (gp_b i) = true := gp_nx gc_10 gb_10
set_option maxRecDepth 100000 in
theorem gb_11 : gp_go 16 (gp_b 11) = true := by decide +kernel
theorem gc_12 : ∀ i, i < 12 → gp_go 16 (gp_b i) = true := gp_nx gc_11 gb_11
set_option maxRecDepth 100000 in
theorem gb_12 : gp_go 16 (gp_b 12) = true := by decide +kernel
theorem gc_13 : ∀ i, i < 13 → gp_go 16 (gp_b i) = true := gp_nx gc_12 gb_12
set_option maxRecDepth 100000 in
theorem gb_13 : gp_go 16 (gp_b 13) = true := by decide +kernel
theorem gc_14 : ∀ i, i < 14 → gp_go 16 (gp_b i) = true := gp_nx gc_13 gb_13
set_option maxRecDepth 100000 in
theorem gb_14 : gp_go 16 (gp_b 14) = true := by decide +kernel
theorem gc_15 : ∀ i, i < 15 → gp_go 16 (gp_b i) = true := gp_nx gc_14 gb_14
set_option maxRecDepth 100000 in
theorem gb_15 : gp_go 16 (gp_b 15) = true := by decide +kernel
theorem gc_16 : ∀ i, i < 16 → gp_go 16 (gp_b i) = true := gp_nx gc_15 gb_15
set_option maxRecDepth 100000 in
theorem gb_16 : gp_go 16 (gp_b 16) = true := by decide +kernel
theorem gc_17 : ∀ i, i < 17 → gp_go 16 (gp_b i) = true := gp_nx gc_16 gb_16
set_option maxRecDepth 100000 in
theorem gb_17 : gp_go 16 (gp_b 17) = true := by decide +kernel
theorem gc_18 : ∀ i, i < 18 → gp_go 16 (gp_b i) = true := gp_nx gc_17 gb_17
set_option maxRecDepth 100000 in
theorem gb_18 : gp_go 16 (gp_b 18) = true := by decide +kernel
theorem gc_19 : ∀ i, i < 19 → gp_go 16 (gp_b i) = true := gp_nx gc_18 gb_18
set_option maxRecDepth 100000 in
theorem gb_19 : gp_go 16 (gp_b 19) = true := by decide +kernel
theorem gc_20 : ∀ i, i < 20 → gp_go 16 (gp_b i) = true := gp_nx gc_19 gb_19
set_option maxRecDepth 100000 in
theorem gb_20 : gp_go 16 (gp_b 20) = true := by decide +kernel
theorem gc_21 : ∀ i, i < 21 → gp_go 16 (gp_b i) = true := gp_nx gc_20 gb_20
set_option maxRecDepth 100000 in
theorem gb_21 : gp_go 16 (gp_b 21) = true := by decide +kernel
theorem gc_22 : ∀ i, i < 22 → gp_go 16 (gp_b i) = true := gp_nx gc_21 gb_21
set_option maxRecDepth 100000 in
theorem gb_22 : gp_go 16 (gp_b 22) = true := by decide +kernel
theorem gc_23 : ∀ i, i < 23 → gp_go 16 (gp_b i) = true := gp_nx gc_22 gb_22
set_option maxRecDepth 100000 in
theorem gb_23 : gp_go 16 (gp_b 23) = true := by decide +kernel
theorem gc_24 : ∀ i, i < 24 → gp_go 16 (gp_b i) = true := gp_nx gc_23 gb_23
set_option maxRecDepth 100000 in
theorem gb_24 : gp_go 16 (gp_b 24) = true := by decide +kernel
theorem gc_25 : ∀ i, i < 25 → gp_go 16 (gp_b i) = true := gp_nx gc_24 gb_24
set_option maxRecDepth 100000 in
theorem gb_25 : gp_go 16 (gp_b 25) = true := by decide +kernel
theorem gc_26 : ∀ i, i < 26 → gp_go 16 (gp_b i) = true := gp_nx gc_25 gb_25
set_option maxRecDepth 100000 in
theorem gb_26 : gp_go 16 (gp_b 26) = true := by decide +kernel
theorem gc_27 : ∀ i, i < 27 → gp_go 16 (gp_b i) = true := gp_nx gc_26 gb_26
set_option maxRecDepth 100000 in
theorem gb_27 : gp_go 16 (gp_b 27) = true := by decide +kernel
theorem gc_28 : ∀ i, i < 28 → gp_go 16 (gp_b i) = true := gp_nx gc_27 gb_27
set_option maxRecDepth 100000 in
theorem gb_28 : gp_go 16 (gp_b 28) = true := by decide +kernel
theorem gc_29 : ∀ i, i < 29 → gp_go 16 (gp_b i) = true := gp_nx gc_28 gb_28
set_option maxRecDepth 100000 in
theorem gb_29 : gp_go 16 (gp_b 29) = true := by decide +kernel
theorem gc_30 : ∀ i, i < 30 → gp_go 16 (gp_b i) = true := gp_nx gc_29 gb_29
set_option maxRecDepth 100000 in
theorem gb_30 : gp_go 16 (gp_b 30) = true := by decide +kernel
theorem gc_31 : ∀ i, i < 31 → gp_go 16 (gp_b i) = true := gp_nx gc_30 gb_30
set_option maxRecDepth 100000 in
theorem gb_31 : gp_go 16 (gp_b 31) = true := by decide +kernel
theorem gc_32 : ∀ i, i < 32 → gp_go 16 (gp_b i) = true := gp_nx gc_31 gb_31
set_option maxRecDepth 100000 in
theorem gb_32 : gp_go 16 (gp_b 32) = true := by decide +kernel
theorem gc_33 : ∀ i, i < 33 → gp_go 16 (gp_b i) = true := gp_nx gc_32 gb_32
set_option maxRecDepth 100000 in
theorem gb_33 : gp_go 16 (gp_b 33) = true := by decide +kernel
theorem gc_34 : ∀ i, i < 34 → gp_go 16 (gp_b i) = true := gp_nx gc_33 gb_33
set_option maxRecDepth 100000 in
theorem gb_34 : gp_go 16 (gp_b 34) = true := by decide +kernel
theorem gc_35 : ∀ i, i < 35 → gp_go 16 (gp_b i) = true := gp_nx gc_34 gb_34
set_option maxRecDepth 100000 in
theorem gb_35 : gp_go 16 (gp_b 35) = true := by decide +kernel
theorem gc_36 : ∀ i, i < 36 → gp_go 16 (gp_b i) = true := gp_nx gc_35 gb_35
set_option maxRecDepth 100000 in
theorem gb_36 : gp_go 16 (gp_b 36) = true := by decide +kernel
theorem gc_37 : ∀ i, i < 37 → gp_go 16 (gp_b i) = true := gp_nx gc_36 gb_36
set_option maxRecDepth 100000 in
theorem gb_37 : gp_go 16 (gp_b 37) = true := by decide +kernel
theorem gc_38 : ∀ i, i < 38 → gp_go 16 (gp_b i) = true := gp_nx gc_37 gb_37
set_option maxRecDepth 100000 in
theorem gb_38 : gp_go 16 (gp_b 38) = true := by decide +kernel
theorem gc_39 : ∀ i, i < 39 → gp_go 16 (gp_b i) = true := gp_nx gc_38 gb_38
set_option maxRecDepth 100000 in
theorem gb_39 : gp_go 16 (gp_b 39) = true := by decide +kernel
theorem gc_40 : ∀ i, i < 40 → gp_go 16 (gp_b i) = true := gp_nx gc_39 gb_39
set_option maxRecDepth 100000 in
theorem gb_40 : gp_go 16 (gp_b 40) = true := by decide +kernel
theorem gc_41 : ∀ i, i < 41 → gp_go 16 (gp_b i) = true := gp_nx gc_40 gb_40
set_option maxRecDepth 100000 in
theorem gb_41 : gp_go 16 (gp_b 41) = true := by decide +kernel
theorem gc_42 : ∀ i, i < 42 → gp_go 16 (gp_b i) = true := gp_nx gc_41 gb_41
set_option maxRecDepth 100000 in
theorem gb_42 : gp_go 16 (gp_b 42) = true := by decide +kernel
theorem gc_43 : ∀ i, i < 43 → gp_go 16 (gp_b i) = true := gp_nx gc_42 gb_42
set_option maxRecDepth 100000 in
theorem gb_43 : gp_go 16 (gp_b 43) = true := by decide +kernel
theorem gc_44 : ∀ i, i < 44 → gp_go 16 (gp_b i) = true := gp_nx gc_43 gb_43
set_option maxRecDepth 100000 in
theorem gb_44 : gp_go 16 (gp_b 44) = true := by decide +kernel
theorem gc_45 : ∀ i, i < 45 → gp_go 16 (gp_b i) = true := gp_nx gc_44 gb_44
set_option maxRecDepth 100000 in
theorem gb_45 : gp_go 16 (gp_b 45) = true := by decide +kernel
theorem gc_46 : ∀ i, i < 46 → gp_go 16 (gp_b i) = true := gp_nx gc_45 gb_45
set_option maxRecDepth 100000 in
theorem gb_46 : gp_go 16 (gp_b 46) = true := by decide +kernel
theorem gc_47 : ∀ i, i < 47 → gp_go 16 (gp_b i) = true := gp_nx gc_46 gb_46
set_option maxRecDepth 100000 in
theorem gb_47 : gp_go 16 (gp_b 47) = true := by decide +kernel
theorem gc_48 : ∀ i, i < 48 → gp_go 16 (gp_b i) = true := gp_nx gc_47 gb_47
set_option maxRecDepth 100000 in
theorem gb_48 : gp_go 16 (gp_b 48) = true := by decide +kernel
theorem gc_49 : ∀ i, i < 49 → gp_go 16 (gp_b i) = true := gp_nx gc_48 gb_48
set_option maxRecDepth 100000 in
theorem gb_49 : gp_go 16 (gp_b 49) = true := by decide +kernel
theorem gc_50 : ∀ i, i < 50 → gp_go 16 (gp_b i) = true := gp_nx gc_49 gb_49
set_option maxRecDepth 100000 in
theorem gb_50 : gp_go 16 (gp_b 50) = true := by decide +kernel
theorem gc_51 : ∀ i, i < 51 → gp_go 16 (gp_b i) = true := gp_nx gc_50 gb_50
set_option maxRecDepth 100000 in
theorem gb_51 : gp_go 16 (gp_b 51) = true := by decide +kernel
theorem gc_52 : ∀ i, i < 52 → gp_go 16 (gp_b i) = true := gp_nx gc_51 gb_51
set_option maxRecDepth 100000 in
theorem gb_52 : gp_go 16 (gp_b 52) = true := by decide +kernel
theorem gc_53 : ∀ i, i < 53 → gp_go 16 (gp_b i) = true := gp_nx gc_52 gb_52
set_option maxRecDepth 100000 in
theorem gb_53 : gp_go 16 (gp_b 53) = true := by decide +kernel
theorem gc_54 : ∀ i, i < 54 → gp_go 16 (gp_b i) = true := gp_nx gc_53 gb_53
set_option maxRecDepth 100000 in
theorem gb_54 : gp_go 16 (gp_b 54) = true := by decide +kernel
theorem gc_55 : ∀ i, i < 55 → gp_go 16 (gp_b i) = true := gp_nx gc_54 gb_54
set_option maxRecDepth 100000 in
theorem gb_55 : gp_go 16 (gp_b 55) = true := by decide +kernel
theorem gc_56 : ∀ i, i < 56 → gp_go 16 (gp_b i) = true := gp_nx gc_55 gb_55
set_option maxRecDepth 100000 in
theorem gb_56 : gp_go 16 (gp_b 56) = true := by decide +kernel
theorem gc_57 : ∀ i, i < 57 → gp_go 16 (gp_b i) = true := gp_nx gc_56 gb_56
set_option maxRecDepth 100000 in
theorem gb_57 : gp_go 16 (gp_b 57) = true := by decide +kernel
theorem gc_58 : ∀ i, i < 58 → gp_go 16 (gp_b i) = true := gp_nx gc_57 gb_57
set_option maxRecDepth 100000 in
theorem gb_58 : gp_go 16 (gp_b 58) = true := by decide +kernel
theorem gc_59 : ∀ i, i < 59 → gp_go 16 (gp_b i) = true := gp_nx gc_58 gb_58
set_option maxRecDepth 100000 in
theorem gb_59 : gp_go 16 (gp_b 59) = true := by decide +kernel
theorem gc_60 : ∀ i, i < 60 → gp_go 16 (gp_b i) = true := gp_nx gc_59 gb_59
set_option maxRecDepth 100000 in
theorem gb_60 : gp_go 16 (gp_b 60) = true := by decide +kernel
theorem gc_61 : ∀ i, i < 61 → gp_go 16 (gp_b i) = true := gp_nx gc_60 gb_60
set_option maxRecDepth 100000 in
theorem gb_61 : gp_go 16 (gp_b 61) = true := by decide +kernel
theorem gc_62 : ∀ i, i < 62 → gp_go 16 (gp_b i) = true := gp_nx gc_61 gb_61
set_option maxRecDepth 100000 in
theorem gb_62 : gp_go 16 (gp_b 62) = true := by decide +kernel
theorem gc_63 : ∀ i, i < 63 → gp_go 16 (gp_b i) = true := gp_nx gc_62 gb_62
set_option maxRecDepth 100000 in
theorem gb_63 : gp_go 16 (gp_b 63) = true := by decide +kernel
theorem gc_64 : ∀ i, i < 64 → gp_go 16 (gp_b i) = true := gp_nx gc_63 gb_63
set_option maxRecDepth 100000 in
theorem gb_64 : gp_go 16 (gp_b 64) = true := by decide +kernel
theorem gc_65 : ∀ i, i < 65 → gp_go 16 (gp_b i) = true := gp_nx gc_64 gb_64
set_option maxRecDepth 100000 in
theorem gb_65 : gp_go 16 (gp_b 65) = true := by decide +kernel
theorem gc_66 : ∀ i, i < 66 → gp_go 16 (gp_b i) = true := gp_nx gc_65 gb_65
set_option maxRecDepth 100000 in
theorem gb_66 : gp_go 16 (gp_b 66) = true := by decide +kernel
theorem gc_67 : ∀ i, i < 67 → gp_go 16 (gp_b i) = true := gp_nx gc_66 gb_66
set_option maxRecDepth 100000 in
theorem gb_67 : gp_go 16 (gp_b 67) = true := by decide +kernel
theorem gc_68 : ∀ i, i < 68 → gp_go 16 (gp_b i) = true := gp_nx gc_67 gb_67
set_option maxRecDepth 100000 in
theorem gb_68 : gp_go 16 (gp_b 68) = true := by decide +kernel
theorem gc_69 : ∀ i, i < 69 → gp_go 16 (gp_b i) = true := gp_nx gc_68 gb_68
set_option maxRecDepth 100000 in
theorem gb_69 : gp_go 16 (gp_b 69) = true := by decide +kernel
theorem gc_70 : ∀ i, i < 70 → gp_go 16 (gp_b i) = true := gp_nx gc_69 gb_69
set_option maxRecDepth 100000 in
theorem gb_70 : gp_go 16 (gp_b 70) = true := by decide +kernel
theorem gc_71 : ∀ i, i < 71 → gp_go 16 (gp_b i) = true := gp_nx gc_70 gb_70
set_option maxRecDepth 100000 in
theorem gb_71 : gp_go 16 (gp_b 71) = true := by decide +kernel
theorem gc_72 : ∀ i, i < 72 → gp_go 16 (gp_b i) = true := gp_nx gc_71 gb_71
set_option maxRecDepth 100000 in
theorem gb_72 : gp_go 16 (gp_b 72) = true := by decide +kernel
theorem gc_73 : ∀ i, i < 73 → gp_go 16 (gp_b i) = true := gp_nx gc_72 gb_72
set_option maxRecDepth 100000 in
theorem gb_73 : gp_go 16 (gp_b 73) = true := by decide +kernel
theorem gc_74 : ∀ i, i < 74 → gp_go 16 (gp_b i) = true := gp_nx gc_73 gb_73
set_option maxRecDepth 100000 in
theorem gb_74 : gp_go 16 (gp_b 74) = true := by decide +kernel
theorem gc_75 : ∀ i, i < 75 → gp_go 16 (gp_b i) = true := gp_nx gc_74 gb_74
set_option maxRecDepth 100000 in
theorem gb_75 : gp_go 16 (gp_b 75) = true := by decide +kernel
theorem gc_76 : ∀ i, i < 76 → gp_go 16 (gp_b i) = true := gp_nx gc_75 gb_75
set_option maxRecDepth 100000 in
theorem gb_76 : gp_go 16 (gp_b 76) = true := by decide +kernel
theorem gc_77 : ∀ i, i < 77 → gp_go 16 (gp_b i) = true := gp_nx gc_76 gb_76
set_option maxRecDepth 100000 in
theorem gb_77 : gp_go 16 (gp_b 77) = true := by decide +kernel
theorem gc_78 : ∀ i, i < 78 → gp_go 16 (gp_b i) = true := gp_nx gc_77 gb_77
set_option maxRecDepth 100000 in
theorem gb_78 : gp_go 16 (gp_b 78) = true := by decide +kernel
theorem gc_79 : ∀ i, i < 79 → gp_go 16 (gp_b i) = true := gp_nx gc_78 gb_78
set_option maxRecDepth 100000 in
theorem gb_79 : gp_go 16 (gp_b 79) = true := by decide +kernel
theorem gc_80 : ∀ i, i < 80 → gp_go 16 (gp_b i) = true := gp_nx gc_79 gb_79
set_option maxRecDepth 100000 in
theorem gb_80 : gp_go 16 (gp_b 80) = true := by decide +kernel
theorem gc_81 : ∀ i, i < 81 → gp_go 16 (gp_b i) = true := gp_nx gc_80 gb_80
set_option maxRecDepth 100000 in
theorem gb_81 : gp_go 16 (gp_b 81) = true := by decide +kernel
theorem gc_82 : ∀ i, i < 82 → gp_go 16 (gp_b i) = true := gp_nx gc_81 gb_81
set_option maxRecDepth 100000 in
theorem gb_82 : gp_go 16 (gp_b 82) = true := by decide +kernel
theorem gc_83 : ∀ i, i < 83 → gp_go 16 (gp_b i) = true := gp_nx gc_82 gb_82
set_option maxRecDepth 100000 in
theorem gb_83 : gp_go 16 (gp_b 83) = true := by decide +kernel
theorem gc_84 : ∀ i, i < 84 → gp_go 16 (gp_b i) = true := gp_nx gc_83 gb_83
set_option maxRecDepth 100000 in
theorem gb_84 : gp_go 16 (gp_b 84) = true := by decide +kernel
theorem gc_85 : ∀ i, i < 85 → gp_go 16 (gp_b i) = true := gp_nx gc_84 gb_84
set_option maxRecDepth 100000 in
theorem gb_85 : gp_go 16 (gp_b 85) = true := by decide +kernel
theorem gc_86 : ∀ i, i < 86 → gp_go 16 (gp_b i) = true := gp_nx gc_85 gb_85
set_option maxRecDepth 100000 in
theorem gb_86 : gp_go 16 (gp_b 86) = true := by decide +kernel
theorem gc_87 : ∀ i, i < 87 → gp_go 16 (gp_b i) = true := gp_nx gc_86 gb_86
set_option maxRecDepth 100000 in
theorem gb_87 : gp_go 16 (gp_b 87) = true := by decide +kernel
theorem gc_88 : ∀ i, i < 88 → gp_go 16 (gp_b i) = true := gp_nx gc_87 gb_87
set_option maxRecDepth 100000 in
theorem gb_88 : gp_go 16 (gp_b 88) = true := by decide +kernel
theorem gc_89 : ∀ i, i < 89 → gp_go 16 (gp_b i) = true := gp_nx gc_88 gb_88
set_option maxRecDepth 100000 in
theorem gb_89 : gp_go 16 (gp_b 89) = true := by decide +kernel
theorem gc_90 : ∀ i, i < 90 → gp_go 16 (gp_b i) = true := gp_nx gc_89 gb_89
set_option maxRecDepth 100000 in
theorem gb_90 : gp_go 16 (gp_b 90) = true := by decide +kernel
theorem gc_91 : ∀ i, i < 91 → gp_go 16 (gp_b i) = true := gp_nx gc_90 gb_90
set_option maxRecDepth 100000 in
theorem gb_91 : gp_go 16 (gp_b 91) = true := by decide +kernel
theorem gc_92 : ∀ i, i < 92 → gp_go 16 (gp_b i) = true := gp_nx gc_91 gb_91
set_option maxRecDepth 100000 in
theorem gb_92 : gp_go 16 (gp_b 92) = true := by decide +kernel
theorem gc_93 : ∀ i, i < 93 → gp_go 16 (gp_b i) = true := gp_nx gc_92 gb_92
set_option maxRecDepth 100000 in
theorem gb_93 : gp_go 16 (gp_b 93) = true := by decide +kernel
theorem gc_94 : ∀ i, i < 94 → gp_go 16 (gp_b i) = true := gp_nx gc_93 gb_93
set_option maxRecDepth 100000 in
theorem gb_94 : gp_go 16 (gp_b 94) = true := by decide +kernel
theorem gc_95 : ∀ i, i < 95 → gp_go 16 (gp_b i) = true := gp_nx gc_94 gb_94
set_option maxRecDepth 100000 in
theorem gb_95 : gp_go 16 (gp_b 95) = true := by decide +kernel
theorem gc_96 : ∀ i, i < 96 → gp_go 16 (gp_b i) = true := gp_nx gc_95 gb_95
set_option maxRecDepth 100000 in
theorem gb_96 : gp_go 16 (gp_b 96) = true := by decide +kernel
theorem gc_97 : ∀ i, i < 97 → gp_go 16 (gp_b i) = true := gp_nx gc_96 gb_96
set_option maxRecDepth 100000 in
theorem gb_97 : gp_go 16 (gp_b 97) = true := by decide +kernel
theorem gc_98 : ∀ i, i < 98 → gp_go 16 (gp_b i) = true := gp_nx gc_97 gb_97
set_option maxRecDepth 100000 in
theorem gb_98 : gp_go 16 (gp_b 98) = true := by decide +kernel
theorem gc_99 : ∀ i, i < 99 → gp_go 16 (gp_b i) = true := gp_nx gc_98 gb_98
set_option maxRecDepth 100000 in
theorem gb_99 : gp_go 16 (gp_b 99) = true := by decide +kernel
theorem gc_100 : ∀ i, i < 100 → gp_go 16 (gp_b i) = true := gp_nx gc_99 gb_99
set_option maxRecDepth 100000 in
theorem gb_100 : gp_go 16 (gp_b 100) = true := by decide +kernel
theorem gc_101 : ∀ i, i < 101 → gp_go 16 (gp_b i) = true := gp_nx gc_100 gb_100
set_option maxRecDepth 100000 in
theorem gb_101 : gp_go 16 (gp_b 101) = true := by decide +kernel
theorem gc_102 : ∀ i, i < 102 → gp_go 16 (gp_b i) = true := gp_nx gc_101 gb_101
set_option maxRecDepth 100000 in
theorem gb_102 : gp_go 16 (gp_b 102) = true := by decide +kernel
theorem gc_103 : ∀ i, i < 103 → gp_go 16 (gp_b i) = true := gp_nx gc_102 gb_102
set_option maxRecDepth 100000 in
theorem gb_103 : gp_go 16 (gp_b 103) = true := by decide +kernel
theorem gc_104 : ∀ i, i < 104 → gp_go 16 (gp_b i) = true := gp_nx gc_103 gb_103
set_option maxRecDepth 100000 in
theorem gb_104 : gp_go 16 (gp_b 104) = true := by decide +kernel
theorem gc_105 : ∀ i, i < 105 → gp_go 16 (gp_b i) = true := gp_nx gc_104 gb_104
set_option maxRecDepth 100000 in
theorem gb_105 : gp_go 16 (gp_b 105) = true := by decide +kernel
theorem gc_106 : ∀ i, i < 106 → gp_go 16 (gp_b i) = true := gp_nx gc_105 gb_105
set_option maxRecDepth 100000 in
theorem gb_106 : gp_go 16 (gp_b 106) = true := by decide +kernel
theorem gc_107 : ∀ i, i < 107 → gp_go 16 (gp_b i) = true := gp_nx gc_106 gb_106
set_option maxRecDepth 100000 in
theorem gb_107 : gp_go 16 (gp_b 107) = true := by decide +kernel
theorem gc_108 : ∀ i, i < 108 → gp_go 16 (gp_b i) = true := gp_nx gc_107 gb_107
set_option maxRecDepth 100000 in
theorem gb_108 : gp_go 16 (gp_b 108) = true := by decide +kernel
theorem gc_109 : ∀ i, i < 109 → gp_go 16 (gp_b i) = true := gp_nx gc_108 gb_108
set_option maxRecDepth 100000 in
theorem gb_109 : gp_go 16 (gp_b 109) = true := by decide +kernel
theorem gc_110 : ∀ i, i < 110 → gp_go 16 (gp_b i) = true := gp_nx gc_109 gb_109
set_option maxRecDepth 100000 in
theorem gb_110 : gp_go 16 (gp_b 110) = true := by decide +kernel
theorem gc_111 : ∀ i, i < 111 → gp_go 16 (gp_b i) = true := gp_nx gc_110 gb_110
set_option maxRecDepth 100000 in
theorem gb_111 : gp_go 16 (gp_b 111) = true := by decide +kernel
theorem gc_112 : ∀ i, i < 112 → gp_go 16 (gp_b i) = true := gp_nx gc_111 gb_111
set_option maxRecDepth 100000 in
theorem gb_112 : gp_go 16 (gp_b 112) = true := by decide +kernel
theorem gc_113 : ∀ i, i < 113 → gp_go 16 (gp_b i) = true := gp_nx gc_112 gb_112
set_option maxRecDepth 100000 in
theorem gb_113 : gp_go 16 (gp_b 113) = true := by decide +kernel
theorem gc_114 : ∀ i, i < 114 → gp_go 16 (gp_b i) = true := gp_nx gc_113 gb_113
set_option maxRecDepth 100000 in
theorem gb_114 : gp_go 16 (gp_b 114) = true := by decide +kernel
theorem gc_115 : ∀ i, i < 115 → gp_go 16 (gp_b i) = true := gp_nx gc_114 gb_114
set_option maxRecDepth 100000 in
theorem gb_115 : gp_go 16 (gp_b 115) = true := by decide +kernel
theorem gc_116 : ∀ i, i < 116 → gp_go 16 (gp_b i) = true := gp_nx gc_115 gb_115
set_option maxRecDepth 100000 in
theorem gb_116 : gp_go 16 (gp_b 116) = true := by decide +kernel
theorem gc_117 : ∀ i, i < 117 → gp_go 16 (gp_b i) = true := gp_nx gc_116 gb_116
set_option maxRecDepth 100000 in
theorem gb_117 : gp_go 16 (gp_b 117) = true := by decide +kernel
theorem gc_118 : ∀ i, i < 118 → gp_go 16 (gp_b i) = true := gp_nx gc_117 gb_117
set_option maxRecDepth 100000 in
theorem gb_118 : gp_go 16 (gp_b 118) = true := by decide +kernel
theorem gc_119 : ∀ i, i < 119 → gp_go 16 (gp_b i) = true := gp_nx gc_118 gb_118
set_option maxRecDepth 100000 in
theorem gb_119 : gp_go 16 (gp_b 119) = true := by decide +kernel
theorem gc_120 : ∀ i, i < 120 → gp_go 16 (gp_b i) = true := gp_nx gc_119 gb_119
set_option maxRecDepth 100000 in
theorem gb_120 : gp_go 16 (gp_b 120) = true := by decide +kernel
theorem gc_121 : ∀ i, i < 121 → gp_go 16 (gp_b i) = true := gp_nx gc_120 gb_120
set_option maxRecDepth 100000 in
theorem gb_121 : gp_go 16 (gp_b 121) = true := by decide +kernel
theorem gc_122 : ∀ i, i < 122 → gp_go 16 (gp_b i) = true := gp_nx gc_121 gb_121
set_option maxRecDepth 100000 in
theorem gb_122 : gp_go 16 (gp_b 122) = true := by decide +kernel
theorem gc_123 : ∀ i, i < 123 → gp_go 16 (gp_b i) = true := gp_nx gc_122 gb_122
set_option maxRecDepth 100000 in
theorem gb_123 : gp_go 16 (gp_b 123) = true := by decide +kernel
theorem gc_124 : ∀ i, i < 124 → gp_go 16 (gp_b i) = true := gp_nx gc_123 gb_123
set_option maxRecDepth 100000 in
theorem gb_124 : gp_go 16 (gp_b 124) = true := by decide +kernel
theorem gc_125 : ∀ i, i < 125 → gp_go 16 (gp_b i) = true := gp_nx gc_124 gb_124
set_option maxRecDepth 100000 in
theorem gb_125 : gp_go 16 (gp_b 125) = true := by decide +kernel
theorem gc_126 : ∀ i, i < 126 → gp_go 16 (gp_b i) = true := gp_nx gc_125 gb_125
set_option maxRecDepth 100000 in
theorem gb_126 : gp_go 16 (gp_b 126) = true := by decide +kernel
theorem gc_127 : ∀ i, i < 127 → gp_go 16 (gp_b i) = true := gp_nx gc_126 gb_126
set_option maxRecDepth 100000 in
theorem gb_127 : gp_go 16 (gp_b 127) = true := by decide +kernel
theorem gc_128 : ∀ i, i < 128 → gp_go 16 (gp_b i) = true := gp_nx gc_127 gb_127
set_option maxRecDepth 100000 in
theorem gb_128 : gp_go 16 (gp_b 128) = true := by decide +kernel
theorem gc_129 : ∀ i, i < 129 → gp_go 16 (gp_b i) = true := gp_nx gc_128 gb_128
set_option maxRecDepth 100000 in
theorem gb_129 : gp_go 16 (gp_b 129) = true := by decide +kernel
theorem gc_130 : ∀ i, i < 130 → gp_go 16 (gp_b i) = true := gp_nx gc_129 gb_129
set_option maxRecDepth 100000 in
theorem gb_130 : gp_go 16 (gp_b 130) = true := by decide +kernel
theorem gc_131 : ∀ i, i < 131 → gp_go 16 (gp_b i) = true := gp_nx gc_130 gb_130
set_option maxRecDepth 100000 in
theorem gb_131 : gp_go 16 (gp_b 131) = true := by decide +kernel
theorem gc_132 : ∀ i, i < 132 → gp_go 16 (gp_b i) = true := gp_nx gc_131 gb_131
set_option maxRecDepth 100000 in
theorem gb_132 : gp_go 16 (gp_b 132) = true := by decide +kernel
theorem gc_133 : ∀ i, i < 133 → gp_go 16 (gp_b i) = true := gp_nx gc_132 gb_132
set_option maxRecDepth 100000 in
theorem gb_133 : gp_go 16 (gp_b 133) = true := by decide +kernel
theorem gc_134 : ∀ i, i < 134 → gp_go 16 (gp_b i) = true := gp_nx gc_133 gb_133
set_option maxRecDepth 100000 in
theorem gb_134 : gp_go 16 (gp_b 134) = true := by decide +kernel
theorem gc_135 : ∀ i, i < 135 → gp_go 16 (gp_b i) = true := gp_nx gc_134 gb_134
set_option maxRecDepth 100000 in
theorem gb_135 : gp_go 16 (gp_b 135) = true := by decide +kernel
theorem gc_136 : ∀ i, i < 136 → gp_go 16 (gp_b i) = true := gp_nx gc_135 gb_135
set_option maxRecDepth 100000 in
theorem gb_136 : gp_go 16 (gp_b 136) = true := by decide +kernel
theorem gc_137 : ∀ i, i < 137 → gp_go 16 (gp_b i) = true := gp_nx gc_136 gb_136
set_option maxRecDepth 100000 in
theorem gb_137 : gp_go 16 (gp_b 137) = true := by decide +kernel
theorem gc_138 : ∀ i, i < 138 → gp_go 16 (gp_b i) = true := gp_nx gc_137 gb_137
set_option maxRecDepth 100000 in
theorem gb_138 : gp_go 16 (gp_b 138) = true := by decide +kernel
theorem gc_139 : ∀ i, i < 139 → gp_go 16 (gp_b i) = true := gp_nx gc_138 gb_138
set_option maxRecDepth 100000 in
theorem gb_139 : gp_go 16 (gp_b 139) = true := by decide +kernel
theorem gc_140 : ∀ i, i < 140 → gp_go 16 (gp_b i) = true := gp_nx gc_139 gb_139
set_option maxRecDepth 100000 in
theorem gb_140 : gp_go 16 (gp_b 140) = true := by decide +kernel
theorem gc_141 : ∀ i, i < 141 → gp_go 16 (gp_b i) = true := gp_nx gc_140 gb_140
set_option maxRecDepth 100000 in
theorem gb_141 : gp_go 16 (gp_b 141) = true := by decide +kernel
theorem gc_142 : ∀ i, i < 142 → gp_go 16 (gp_b i) = true := gp_nx gc_141 gb_141
set_option maxRecDepth 100000 in
theorem gb_142 : gp_go 16 (gp_b 142) = true := by decide +kernel
theorem gc_143 : ∀ i, i < 143 → gp_go 16 (gp_b i) = true := gp_nx gc_142 gb_142
set_option maxRecDepth 100000 in
theorem gb_143 : gp_go 16 (gp_b 143) = true := by decide +kernel
theorem gc_144 : ∀ i, i < 144 → gp_go 16 (gp_b i) = true := gp_nx gc_143 gb_143
set_option maxRecDepth 100000 in
theorem gb_144 : gp_go 16 (gp_b 144) = true := by decide +kernel
theorem gc_145 : ∀ i, i < 145 → gp_go 16 (gp_b i) = true := gp_nx gc_144 gb_144
set_option maxRecDepth 100000 in
theorem gb_145 : gp_go 16 (gp_b 145) = true := by decide +kernel
theorem gc_146 : ∀ i, i < 146 → gp_go 16 (gp_b i) = true := gp_nx gc_145 gb_145
set_option maxRecDepth 100000 in
theorem gb_146 : gp_go 16 (gp_b 146) = true := by decide +kernel
theorem gc_147 : ∀ i, i < 147 → gp_go 16 (gp_b i) = true := gp_nx gc_146 gb_146
set_option maxRecDepth 100000 in
theorem gb_147 : gp_go 16 (gp_b 147) = true := by decide +kernel
theorem gc_148 : ∀ i, i < 148 → gp_go 16 (gp_b i) = true := gp_nx gc_147 gb_147
set_option maxRecDepth 100000 in
theorem gb_148 : gp_go 16 (gp_b 148) = true := by decide +kernel
theorem gc_149 : ∀ i, i < 149 → gp_go 16 (gp_b i) = true := gp_nx gc_148 gb_148
set_option maxRecDepth 100000 in
theorem gb_149 : gp_go 16 (gp_b 149) = true := by decide +kernel
theorem gc_150 : ∀ i, i < 150 → gp_go 16 (gp_b i) = true := gp_nx gc_149 gb_149
set_option maxRecDepth 100000 in
theorem gb_150 : gp_go 16 (gp_b 150) = true := by decide +kernel
theorem gc_151 : ∀ i, i < 151 → gp_go 16 (gp_b i) = true := gp_nx gc_150 gb_150
set_option maxRecDepth 100000 in
theorem gb_151 : gp_go 16 (gp_b 151) = true := by decide +kernel
theorem gc_152 : ∀ i, i < 152 → gp_go 16 (gp_b i) = true := gp_nx gc_151 gb_151
set_option maxRecDepth 100000 in
theorem gb_152 : gp_go 16 (gp_b 152) = true := by decide +kernel
theorem gc_153 : ∀ i, i < 153 → gp_go 16 (gp_b i) = true := gp_nx gc_152 gb_152
set_option maxRecDepth 100000 in
theorem gb_153 : gp_go 16 (gp_b 153) = true := by decide +kernel
theorem gc_154 : ∀ i, i < 154 → gp_go 16 (gp_b i) = true := gp_nx gc_153 gb_153
set_option maxRecDepth 100000 in
theorem gb_154 : gp_go 16 (gp_b 154) = true := by decide +kernel
theorem gc_155 : ∀ i, i < 155 → gp_go 16 (gp_b i) = true := gp_nx gc_154 gb_154
set_option maxRecDepth 100000 in
theorem gb_155 : gp_go 16 (gp_b 155) = true := by decide +kernel
theorem gc_156 : ∀ i, i < 156 → gp_go 16 (gp_b i) = true := gp_nx gc_155 gb_155
set_option maxRecDepth 100000 in
theorem gb_156 : gp_go 16 (gp_b 156) = true := by decide +kernel
theorem gc_157 : ∀ i, i < 157 → gp_go 16 (gp_b i) = true := gp_nx gc_156 gb_156
set_option maxRecDepth 100000 in
theorem gb_157 : gp_go 16 (gp_b 157) = true := by decide +kernel
theorem gc_158 : ∀ i, i < 158 → gp_go 16 (gp_b i) = true := gp_nx gc_157 gb_157
set_option maxRecDepth 100000 in
theorem gb_158 : gp_go 16 (gp_b 158) = true := by decide +kernel
theorem gc_159 : ∀ i, i < 159 → gp_go 16 (gp_b i) = true := gp_nx gc_158 gb_158
set_option maxRecDepth 100000 in
theorem gb_159 : gp_go 16 (gp_b 159) = true := by decide +kernel
theorem gc_160 : ∀ i, i < 160 → gp_go 16 (gp_b i) = true := gp_nx gc_159 gb_159
set_option maxRecDepth 100000 in
theorem gb_160 : gp_go 16 (gp_b 160) = true := by decide +kernel
theorem gc_161 : ∀ i, i < 161 → gp_go 16 (gp_b i) = true := gp_nx gc_160 gb_160
set_option maxRecDepth 100000 in
theorem gb_161 : gp_go 16 (gp_b 161) = true := by decide +kernel
theorem gc_162 : ∀ i, i < 162 → gp_go 16 (gp_b i) = true := gp_nx gc_161 gb_161
set_option maxRecDepth 100000 in
theorem gb_162 : gp_go 16 (gp_b 162) = true := by decide +kernel
theorem gc_163 : ∀ i, i < 163 → gp_go 16 (gp_b i) = true := gp_nx gc_162 gb_162
set_option maxRecDepth 100000 in
theorem gb_163 : gp_go 16 (gp_b 163) = true := by decide +kernel
theorem gc_164 : ∀ i, i < 164 → gp_go 16 (gp_b i) = true := gp_nx gc_163 gb_163
set_option maxRecDepth 100000 in
theorem gb_164 : gp_go 16 (gp_b 164) = true := by decide +kernel
theorem gc_165 : ∀ i, i < 165 → gp_go 16 (gp_b i) = true := gp_nx gc_164 gb_164
set_option maxRecDepth 100000 in
theorem gb_165 : gp_go 16 (gp_b 165) = true := by decide +kernel
theorem gc_166 : ∀ i, i < 166 → gp_go 16 (gp_b i) = true := gp_nx gc_165 gb_165
set_option maxRecDepth 100000 in
theorem gb_166 : gp_go 16 (gp_b 166) = true := by decide +kernel
theorem gc_167 : ∀ i, i < 167 → gp_go 16 (gp_b i) = true := gp_nx gc_166 gb_166
set_option maxRecDepth 100000 in
theorem gb_167 : gp_go 16 (gp_b 167) = true := by decide +kernel
theorem gc_168 : ∀ i, i < 168 → gp_go 16 (gp_b i) = true := gp_nx gc_167 gb_167
set_option maxRecDepth 100000 in
theorem gb_168 : gp_go 16 (gp_b 168) = true := by decide +kernel
theorem gc_169 : ∀ i, i < 169 → gp_go 16 (gp_b i) = true := gp_nx gc_168 gb_168
set_option maxRecDepth 100000 in
theorem gb_169 : gp_go 16 (gp_b 169) = true := by decide +kernel
theorem gc_170 : ∀ i, i < 170 → gp_go 16 (gp_b i) = true := gp_nx gc_169 gb_169
set_option maxRecDepth 100000 in
theorem gb_170 : gp_go 16 (gp_b 170) = true := by decide +kernel
theorem gc_171 : ∀ i, i < 171 → gp_go 16 (gp_b i) = true := gp_nx gc_170 gb_170
set_option maxRecDepth 100000 in
theorem gb_171 : gp_go 16 (gp_b 171) = true := by decide +kernel
theorem gc_172 : ∀ i, i < 172 → gp_go 16 (gp_b i) = true := gp_nx gc_171 gb_171
set_option maxRecDepth 100000 in
theorem gb_172 : gp_go 16 (gp_b 172) = true := by decide +kernel
theorem gc_173 : ∀ i, i < 173 → gp_go 16 (gp_b i) = true := gp_nx gc_172 gb_172
set_option maxRecDepth 100000 in
theorem gb_173 : gp_go 16 (gp_b 173) = true := by decide +kernel
theorem gc_174 : ∀ i, i < 174 → gp_go 16 (gp_b i) = true := gp_nx gc_173 gb_173
set_option maxRecDepth 100000 in
theorem gb_174 : gp_go 16 (gp_b 174) = true := by decide +kernel
theorem gc_175 : ∀ i, i < 175 → gp_go 16 (gp_b i) = true := gp_nx gc_174 gb_174
set_option maxRecDepth 100000 in
theorem gb_175 : gp_go 16 (gp_b 175) = true := by decide +kernel
theorem gc_176 : ∀ i, i < 176 → gp_go 16 (gp_b i) = true := gp_nx gc_175 gb_175
set_option maxRecDepth 100000 in
theorem gb_176 : gp_go 16 (gp_b 176) = true := by decide +kernel
theorem gc_177 : ∀ i, i < 177 → gp_go 16 (gp_b i) = true := gp_nx gc_176 gb_176
set_option maxRecDepth 100000 in
theorem gb_177 : gp_go 16 (gp_b 177) = true := by decide +kernel
theorem gc_178 : ∀ i, i < 178 → gp_go 16 (gp_b i) = true := gp_nx gc_177 gb_177
set_option maxRecDepth 100000 in
theorem gb_178 : gp_go 16 (gp_b 178) = true := by decide +kernel
theorem gc_179 : ∀ i, i < 179 → gp_go 16 (gp_b i) = true := gp_nx gc_178 gb_178
set_option maxRecDepth 100000 in
theorem gb_179 : gp_go 16 (gp_b 179) = true := by decide +kernel
theorem gc_180 : ∀ i, i < 180 → gp_go 16 (gp_b i) = true := gp_nx gc_179 gb_179
set_option maxRecDepth 100000 in
theorem gb_180 : gp_go 16 (gp_b 180) = true := by decide +kernel
theorem gc_181 : ∀ i, i < 181 → gp_go 16 (gp_b i) = true := gp_nx gc_180 gb_180
set_option maxRecDepth 100000 in
theorem gb_181 : gp_go 16 (gp_b 181) = true := by decide +kernel
theorem gc_182 : ∀ i, i < 182 → gp_go 16 (gp_b i) = true := gp_nx gc_181 gb_181
set_option maxRecDepth 100000 in
theorem gb_182 : gp_go 16 (gp_b 182) = true := by decide +kernel
theorem gc_183 : ∀ i, i < 183 → gp_go 16 (gp_b i) = true := gp_nx gc_182 gb_182
set_option maxRecDepth 100000 in
theorem gb_183 : gp_go 16 (gp_b 183) = true := by decide +kernel
theorem gc_184 : ∀ i, i < 184 → gp_go 16 (gp_b i) = true := gp_nx gc_183 gb_183
set_option maxRecDepth 100000 in
theorem gb_184 : gp_go 16 (gp_b 184) = true := by decide +kernel
theorem gc_185 : ∀ i, i < 185 → gp_go 16 (gp_b i) = true := gp_nx gc_184 gb_184
set_option maxRecDepth 100000 in
theorem gb_185 : gp_go 16 (gp_b 185) = true := by decide +kernel
theorem gc_186 : ∀ i, i < 186 → gp_go 16 (gp_b i) = true := gp_nx gc_185 gb_185
set_option maxRecDepth 100000 in
theorem gb_186 : gp_go 16 (gp_b 186) = true := by decide +kernel
theorem gc_187 : ∀ i, i < 187 → gp_go 16 (gp_b i) = true := gp_nx gc_186 gb_186
set_option maxRecDepth 100000 in
theorem gb_187 : gp_go 16 (gp_b 187) = true := by decide +kernel
theorem gc_188 : ∀ i, i < 188 → gp_go 16 (gp_b i) = true := gp_nx gc_187 gb_187
set_option maxRecDepth 100000 in
theorem gb_188 : gp_go 16 (gp_b 188) = true := by decide +kernel
theorem gc_189 : ∀ i, i < 189 → gp_go 16 (gp_b i) = true := gp_nx gc_188 gb_188
set_option maxRecDepth 100000 in
theorem gb_189 : gp_go 16 (gp_b 189) = true := by decide +kernel
theorem gc_190 : ∀ i, i < 190 → gp_go 16 (gp_b i) = true := gp_nx gc_189 gb_189
set_option maxRecDepth 100000 in
theorem gb_190 : gp_go 16 (gp_b 190) = true := by decide +kernel
theorem gc_191 : ∀ i, i < 191 → gp_go 16 (gp_b i) = true := gp_nx gc_190 gb_190
set_option maxRecDepth 100000 in
theorem gb_191 : gp_go 16 (gp_b 191) = true := by decide +kernel
theorem gc_192 : ∀ i, i < 192 → gp_go 16 (gp_b i) = true := gp_nx gc_191 gb_191
set_option maxRecDepth 100000 in
theorem gb_192 : gp_go 16 (gp_b 192) = true := by decide +kernel
theorem gc_193 : ∀ i, i < 193 → gp_go 16 (gp_b i) = true := gp_nx gc_192 gb_192
set_option maxRecDepth 100000 in
theorem gb_193 : gp_go 16 (gp_b 193) = true := by decide +kernel
theorem gc_194 : ∀ i, i < 194 → gp_go 16 (gp_b i) = true := gp_nx gc_193 gb_193
set_option maxRecDepth 100000 in
theorem gb_194 : gp_go 16 (gp_b 194) = true := by decide +kernel
theorem gc_195 : ∀ i, i < 195 → gp_go 16 (gp_b i) = true := gp_nx gc_194 gb_194
set_option maxRecDepth 100000 in
theorem gb_195 : gp_go 16 (gp_b 195) = true := by decide +kernel
theorem gc_196 : ∀ i, i < 196 → gp_go 16 (gp_b i) = true := gp_nx gc_195 gb_195
set_option maxRecDepth 100000 in
theorem gb_196 : gp_go 16 (gp_b 196) = true := by decide +kernel
theorem gc_197 : ∀ i, i < 197 → gp_go 16 (gp_b i) = true := gp_nx gc_196 gb_196
set_option maxRecDepth 100000 in
theorem gb_197 : gp_go 16 (gp_b 197) = true := by decide +kernel
theorem gc_198 : ∀ i, i < 198 → gp_go 16 (gp_b i) = true := gp_nx gc_197 gb_197
set_option maxRecDepth 100000 in
theorem gb_198 : gp_go 16 (gp_b 198) = true := by decide +kernel
theorem gc_199 : ∀ i, i < 199 → gp_go 16 (gp_b i) = true := gp_nx gc_198 gb_198
set_option maxRecDepth 100000 in
theorem gb_199 : gp_go 16 (gp_b 199) = true := by decide +kernel
theorem gc_200 : ∀ i, i < 200 → gp_go 16 (gp_b i) = true := gp_nx gc_199 gb_199
set_option maxRecDepth 100000 in
theorem gb_200 : gp_go 16 (gp_b 200) = true := by decide +kernel
theorem gc_201 : ∀ i, i < 201 → gp_go 16 (gp_b i) = true := gp_nx gc_200 gb_200
set_option maxRecDepth 100000 in
theorem gb_201 : gp_go 16 (gp_b 201) = true := by decide +kernel
theorem gc_202 : ∀ i, i < 202 → gp_go 16 (gp_b i) = true := gp_nx gc_201 gb_201
set_option maxRecDepth 100000 in
theorem gb_202 : gp_go 16 (gp_b 202) = true := by decide +kernel
theorem gc_203 : ∀ i, i < 203 → gp_go 16 (gp_b i) = true := gp_nx gc_202 gb_202
set_option maxRecDepth 100000 in
theorem gb_203 : gp_go 16 (gp_b 203) = true := by decide +kernel
theorem gc_204 : ∀ i, i < 204 → gp_go 16 (gp_b i) = true := gp_nx gc_203 gb_203
set_option maxRecDepth 100000 in
theorem gb_204 : gp_go 16 (gp_b 204) = true := by decide +kernel
theorem gc_205 : ∀ i, i < 205 → gp_go 16 (gp_b i) = true := gp_nx gc_204 gb_204
set_option maxRecDepth 100000 in
theorem gb_205 : gp_go 16 (gp_b 205) = true := by decide +kernel
theorem gc_206 : ∀ i, i < 206 → gp_go 16 (gp_b i) = true := gp_nx gc_205 gb_205
set_option maxRecDepth 100000 in
theorem gb_206 : gp_go 16 (gp_b 206) = true := by decide +kernel
theorem gc_207 : ∀ i, i < 207 → gp_go 16 (gp_b i) = true := gp_nx gc_206 gb_206
set_option maxRecDepth 100000 in
theorem gb_207 : gp_go 16 (gp_b 207) = true := by decide +kernel
theorem gc_208 : ∀ i, i < 208 → gp_go 16 (gp_b i) = true := gp_nx gc_207 gb_207
set_option maxRecDepth 100000 in
theorem gb_208 : gp_go 16 (gp_b 208) = true := by decide +kernel
theorem gc_209 : ∀ i, i < 209 → gp_go 16 (gp_b i) = true := gp_nx gc_208 gb_208
set_option maxRecDepth 100000 in
theorem gb_209 : gp_go 16 (gp_b 209) = true := by decide +kernel
theorem gc_210 : ∀ i, i < 210 → gp_go 16 (gp_b i) = true := gp_nx gc_209 gb_209
set_option maxRecDepth 100000 in
theorem gb_210 : gp_go 16 (gp_b 210) = true := by decide +kernel
theorem gc_211 : ∀ i, i < 211 → gp_go 16 (gp_b i) = true := gp_nx gc_210 gb_210
set_option maxRecDepth 100000 in
theorem gb_211 : gp_go 16 (gp_b 211) = true := by decide +kernel
theorem gc_212 : ∀ i, i < 212 → gp_go 16 (gp_b i) = true := gp_nx gc_211 gb_211
set_option maxRecDepth 100000 in
theorem gb_212 : gp_go 16 (gp_b 212) = true := by decide +kernel
theorem gc_213 : ∀ i, i < 213 → gp_go 16 (gp_b i) = true := gp_nx gc_212 gb_212
set_option maxRecDepth 100000 in
theorem gb_213 : gp_go 16 (gp_b 213) = true := by decide +kernel
theorem gc_214 : ∀ i, i < 214 → gp_go 16 (gp_b i) = true := gp_nx gc_213 gb_213
set_option maxRecDepth 100000 in
theorem gb_214 : gp_go 16 (gp_b 214) = true := by decide +kernel
theorem gc_215 : ∀ i, i < 215 → gp_go 16 (gp_b i) = true := gp_nx gc_214 gb_214
set_option maxRecDepth 100000 in
theorem gb_215 : gp_go 16 (gp_b 215) = true := by decide +kernel
theorem gc_216 : ∀ i, i < 216 → gp_go 16 (gp_b i) = true := gp_nx gc_215 gb_215
set_option maxRecDepth 100000 in
theorem gb_216 : gp_go 16 (gp_b 216) = true := by decide +kernel
theorem gc_217 : ∀ i, i < 217 → gp_go 16 (gp_b i) = true := gp_nx gc_216 gb_216
set_option maxRecDepth 100000 in
theorem gb_217 : gp_go 16 (gp_b 217) = true := by decide +kernel
theorem gc_218 : ∀ i, i < 218 → gp_go 16 (gp_b i) = true := gp_nx gc_217 gb_217
set_option maxRecDepth 100000 in
theorem gb_218 : gp_go 16 (gp_b 218) = true := by decide +kernel
theorem gc_219 : ∀ i, i < 219 → gp_go 16 (gp_b i) = true := gp_nx gc_218 gb_218
set_option maxRecDepth 100000 in
theorem gb_219 : gp_go 16 (gp_b 219) = true := by decide +kernel
theorem gc_220 : ∀ i, i < 220 → gp_go 16 (gp_b i) = true := gp_nx gc_219 gb_219
set_option maxRecDepth 100000 in
theorem gb_220 : gp_go 16 (gp_b 220) = true := by decide +kernel
theorem gc_221 : ∀ i, i < 221 → gp_go 16 (gp_b i) = true := gp_nx gc_220 gb_220
set_option maxRecDepth 100000 in
theorem gb_221 : gp_go 16 (gp_b 221) = true := by decide +kernel
theorem gc_222 : ∀ i, i < 222 → gp_go 16 (gp_b i) = true := gp_nx gc_221 gb_221
set_option maxRecDepth 100000 in
theorem gb_222 : gp_go 16 (gp_b 222) = true := by decide +kernel
theorem gc_223 : ∀ i, i < 223 → gp_go 16 (gp_b i) = true := gp_nx gc_222 gb_222
set_option maxRecDepth 100000 in
theorem gb_223 : gp_go 16 (gp_b 223) = true := by decide +kernel
theorem gc_224 : ∀ i, i < 224 → gp_go 16 (gp_b i) = true := gp_nx gc_223 gb_223
set_option maxRecDepth 100000 in
theorem gb_224 : gp_go 16 (gp_b 224) = true := by decide +kernel
theorem gc_225 : ∀ i, i < 225 → gp_go 16 (gp_b i) = true := gp_nx gc_224 gb_224
set_option maxRecDepth 100000 in
theorem gb_225 : gp_go 16 (gp_b 225) = true := by decide +kernel
theorem gc_226 : ∀ i, i < 226 → gp_go 16 (gp_b i) = true := gp_nx gc_225 gb_225
set_option maxRecDepth 100000 in
theorem gb_226 : gp_go 16 (gp_b 226) = true := by decide +kernel
theorem gc_227 : ∀ i, i < 227 → gp_go 16 (gp_b i) = true := gp_nx gc_226 gb_226
set_option maxRecDepth 100000 in
theorem gb_227 : gp_go 16 (gp_b 227) = true := by decide +kernel
theorem gc_228 : ∀ i, i < 228 → gp_go 16 (gp_b i) = true := gp_nx gc_227 gb_227
set_option maxRecDepth 100000 in
theorem gb_228 : gp_go 16 (gp_b 228) = true := by decide +kernel
theorem gc_229 : ∀ i, i < 229 → gp_go 16 (gp_b i) = true := gp_nx gc_228 gb_228
set_option maxRecDepth 100000 in
theorem gb_229 : gp_go 16 (gp_b 229) = true := by decide +kernel
theorem gc_230 : ∀ i, i < 230 → gp_go 16 (gp_b i) = true := gp_nx gc_229 gb_229
set_option maxRecDepth 100000 in
theorem gb_230 : gp_go 16 (gp_b 230) = true := by decide +kernel
theorem gc_231 : ∀ i, i < 231 → gp_go 16 (gp_b i) = true := gp_nx gc_230 gb_230
set_option maxRecDepth 100000 in
theorem gb_231 : gp_go 16 (gp_b 231) = true := by decide +kernel
theorem gc_232 : ∀ i, i < 232 → gp_go 16 (gp_b i) = true := gp_nx gc_231 gb_231
set_option maxRecDepth 100000 in
theorem gb_232 : gp_go 16 (gp_b 232) = true := by decide +kernel
theorem gc_233 : ∀ i, i < 233 → gp_go 16 (gp_b i) = true := gp_nx gc_232 gb_232
set_option maxRecDepth 100000 in
theorem gb_233 : gp_go 16 (gp_b 233) = true := by decide +kernel
theorem gc_234 : ∀ i, i < 234 → gp_go 16 (gp_b i) = true := gp_nx gc_233 gb_233
set_option maxRecDepth 100000 in
theorem gb_234 : gp_go 16 (gp_b 234) = true := by decide +kernel
theorem gc_235 : ∀ i, i < 235 → gp_go 16 (gp_b i) = true := gp_nx gc_234 gb_234
set_option maxRecDepth 100000 in
theorem gb_235 : gp_go 16 (gp_b 235) = true := by decide +kernel
theorem gc_236 : ∀ i, i < 236 → gp_go 16 (gp_b i) = true := gp_nx gc_235 gb_235
set_option maxRecDepth 100000 in
theorem gb_236 : gp_go 16 (gp_b 236) = true := by decide +kernel
theorem gc_237 : ∀ i, i < 237 → gp_go 16 (gp_b i) = true := gp_nx gc_236 gb_236
set_option maxRecDepth 100000 in
theorem gb_237 : gp_go 16 (gp_b 237) = true := by decide +kernel
theorem gc_238 : ∀ i, i < 238 → gp_go 16 (gp_b i) = true := gp_nx gc_237 gb_237
set_option maxRecDepth 100000 in
theorem gb_238 : gp_go 16 (gp_b 238) = true := by decide +kernel
theorem gc_239 : ∀ i, i < 239 → gp_go 16 (gp_b i) = true := gp_nx gc_238 gb_238
set_option maxRecDepth 100000 in
theorem gb_239 : gp_go 16 (gp_b 239) = true := by decide +kernel
theorem gc_240 : ∀ i, i < 240 → gp_go 16 (gp_b i) = true := gp_nx gc_239 gb_239
set_option maxRecDepth 100000 in
theorem gb_240 : gp_go 16 (gp_b 240) = true := by decide +kernel
theorem gc_241 : ∀ i, i < 241 → gp_go 16 (gp_b i) = true := gp_nx gc_240 gb_240
set_option maxRecDepth 100000 in
theorem gb_241 : gp_go 16 (gp_b 241) = true := by decide +kernel
theorem gc_242 : ∀ i, i < 242 → gp_go 16 (gp_b i) = true := gp_nx gc_241 gb_241
set_option maxRecDepth 100000 in
theorem gb_242 : gp_go 16 (gp_b 242) = true := by decide +kernel
theorem gc_243 : ∀ i, i < 243 → gp_go 16 (gp_b i) = true := gp_nx gc_242 gb_242
set_option maxRecDepth 100000 in
theorem gb_243 : gp_go 16 (gp_b 243) = true := by decide +kernel
theorem gc_244 : ∀ i, i < 244 → gp_go 16 (gp_b i) = true := gp_nx gc_243 gb_243
set_option maxRecDepth 100000 in
theorem gb_244 : gp_go 16 (gp_b 244) = true := by decide +kernel
theorem gc_245 : ∀ i, i < 245 → gp_go 16 (gp_b i) = true := gp_nx gc_244 gb_244
set_option maxRecDepth 100000 in
theorem gb_245 : gp_go 16 (gp_b 245) = true := by decide +kernel
theorem gc_246 : ∀ i, i < 246 → gp_go 16 (gp_b i) = true := gp_nx gc_245 gb_245
set_option maxRecDepth 100000 in
theorem gb_246 : gp_go 16 (gp_b 246) = true := by decide +kernel
theorem gc_247 : ∀ i, i < 247 → gp_go 16 (gp_b i) = true := gp_nx gc_246 gb_246
set_option maxRecDepth 100000 in
theorem gb_247 : gp_go 16 (gp_b 247) = true := by decide +kernel
theorem gc_248 : ∀ i, i < 248 → gp_go 16 (gp_b i) = true := gp_nx gc_247 gb_247
set_option maxRecDepth 100000 in
theorem gb_248 : gp_go 16 (gp_b 248) = true := by decide +kernel
theorem gc_249 : ∀ i, i < 249 → gp_go 16 (gp_b i) = true := gp_nx gc_248 gb_248
set_option maxRecDepth 100000 in
theorem gb_249 : gp_go 16 (gp_b 249) = true := by decide +kernel
theorem gc_250 : ∀ i, i < 250 → gp_go 16 (gp_b i) = true := gp_nx gc_249 gb_249
set_option maxRecDepth 100000 in
theorem gb_250 : gp_go 16 (gp_b 250) = true := by decide +kernel
theorem gc_251 : ∀ i, i < 251 → gp_go 16 (gp_b i) = true := gp_nx gc_250 gb_250
set_option maxRecDepth 100000 in
theorem gb_251 : gp_go 16 (gp_b 251) = true := by decide +kernel
theorem gc_252 : ∀ i, i < 252 → gp_go 16 (gp_b i) = true := gp_nx gc_251 gb_251
set_option maxRecDepth 100000 in
theorem gb_252 : gp_go 16 (gp_b 252) = true := by decide +kernel
theorem gc_253 : ∀ i, i < 253 → gp_go 16 (gp_b i) = true := gp_nx gc_252 gb_252
set_option maxRecDepth 100000 in
theorem gb_253 : gp_go 16 (gp_b 253) = true := by decide +kernel
theorem gc_254 : ∀ i, i < 254 → gp_go 16 (gp_b i) = true := gp_nx gc_253 gb_253
set_option maxRecDepth 100000 in
theorem gb_254 : gp_go 16 (gp_b 254) = true := by decide +kernel
theorem gc_255 : ∀ i, i < 255 → gp_go 16 (gp_b i) = true := gp_nx gc_254 gb_254
set_option maxRecDepth 100000 in
theorem gb_255 : gp_go 16 (gp_b 255) = true := by decide +kernel
theorem gc_256 : ∀ i, i < 256 → gp_go 16 (gp_b i) = true := gp_nx gc_255 gb_255
set_option maxRecDepth 100000 in
theorem gb_256 : gp_go 16 (gp_b 256) = true := by decide +kernel
theorem gc_257 : ∀ i, i < 257 → gp_go 16 (gp_b i) = true := gp_nx gc_256 gb_256
set_option maxRecDepth 100000 in
theorem gb_257 : gp_go 16 (gp_b 257) = true := by decide +kernel
theorem gc_258 : ∀ i, i < 258 → gp_go 16 (gp_b i) = true := gp_nx gc_257 gb_257
set_option maxRecDepth 100000 in
theorem gb_258 : gp_go 16 (gp_b 258) = true := by decide +kernel
theorem gc_259 : ∀ i, i < 259 → gp_go 16 (gp_b i) = true := gp_nx gc_258 gb_258
set_option maxRecDepth 100000 in
theorem gb_259 : gp_go 16 (gp_b 259) = true := by decide +kernel
theorem gc_260 : ∀ i, i < 260 → gp_go 16 (gp_b i) = true := gp_nx gc_259 gb_259
set_option maxRecDepth 100000 in
theorem gb_260 : gp_go 16 (gp_b 260) = true := by decide +kernel
theorem gc_261 : ∀ i, i < 261 → gp_go 16 (gp_b i) = true := gp_nx gc_260 gb_260
set_option maxRecDepth 100000 in
theorem gb_261 : gp_go 16 (gp_b 261) = true := by decide +kernel
theorem gc_262 : ∀ i, i < 262 → gp_go 16 (gp_b i) = true := gp_nx gc_261 gb_261
set_option maxRecDepth 100000 in
theorem gb_262 : gp_go 16 (gp_b 262) = true := by decide +kernel
theorem gc_263 : ∀ i, i < 263 → gp_go 16 (gp_b i) = true := gp_nx gc_262 gb_262
set_option maxRecDepth 100000 in
theorem gb_263 : gp_go 16 (gp_b 263) = true := by decide +kernel
theorem gc_264 : ∀ i, i < 264 → gp_go 16 (gp_b i) = true := gp_nx gc_263 gb_263
set_option maxRecDepth 100000 in
theorem gb_264 : gp_go 16 (gp_b 264) = true := by decide +kernel
theorem gc_265 : ∀ i, i < 265 → gp_go 16 (gp_b i) = true := gp_nx gc_264 gb_264
set_option maxRecDepth 100000 in
theorem gb_265 : gp_go 16 (gp_b 265) = true := by decide +kernel
theorem gc_266 : ∀ i, i < 266 → gp_go 16 (gp_b i) = true := gp_nx gc_265 gb_265
set_option maxRecDepth 100000 in
theorem gb_266 : gp_go 16 (gp_b 266) = true := by decide +kernel
theorem gc_267 : ∀ i, i < 267 → gp_go 16 (gp_b i) = true := gp_nx gc_266 gb_266
set_option maxRecDepth 100000 in
theorem gb_267 : gp_go 16 (gp_b 267) = true := by decide +kernel
theorem gc_268 : ∀ i, i < 268 → gp_go 16 (gp_b i) = true := gp_nx gc_267 gb_267
set_option maxRecDepth 100000 in
theorem gb_268 : gp_go 16 (gp_b 268) = true := by decide +kernel
theorem gc_269 : ∀ i, i < 269 → gp_go 16 (gp_b i) = true := gp_nx gc_268 gb_268
set_option maxRecDepth 100000 in
theorem gb_269 : gp_go 16 (gp_b 269) = true := by decide +kernel
theorem gc_270 : ∀ i, i < 270 → gp_go 16 (gp_b i) = true := gp_nx gc_269 gb_269
set_option maxRecDepth 100000 in
theorem gb_270 : gp_go 16 (gp_b 270) = true := by decide +kernel
theorem gc_271 : ∀ i, i < 271 → gp_go 16 (gp_b i) = true := gp_nx gc_270 gb_270
set_option maxRecDepth 100000 in
theorem gb_271 : gp_go 16 (gp_b 271) = true := by decide +kernel
theorem gc_272 : ∀ i, i < 272 → gp_go 16 (gp_b i) = true := gp_nx gc_271 gb_271
set_option maxRecDepth 100000 in
theorem gb_272 : gp_go 16 (gp_b 272) = true := by decide +kernel
theorem gc_273 : ∀ i, i < 273 → gp_go 16 (gp_b i) = true := gp_nx gc_272 gb_272
set_option maxRecDepth 100000 in
theorem gb_273 : gp_go 16 (gp_b 273) = true := by decide +kernel
theorem gc_274 : ∀ i, i < 274 → gp_go 16 (gp_b i) = true := gp_nx gc_273 gb_273
set_option maxRecDepth 100000 in
theorem gb_274 : gp_go 16 (gp_b 274) = true := by decide +kernel
theorem gc_275 : ∀ i, i < 275 → gp_go 16 (gp_b i) = true := gp_nx gc_274 gb_274
set_option maxRecDepth 100000 in
theorem gb_275 : gp_go 16 (gp_b 275) = true := by decide +kernel
theorem gc_276 : ∀ i, i < 276 → gp_go 16 (gp_b i) = true := gp_nx gc_275 gb_275
set_option maxRecDepth 100000 in
theorem gb_276 : gp_go 16 (gp_b 276) = true := by decide +kernel
theorem gc_277 : ∀ i, i < 277 → gp_go 16 (gp_b i) = true := gp_nx gc_276 gb_276
set_option maxRecDepth 100000 in
theorem gb_277 : gp_go 16 (gp_b 277) = true := by decide +kernel
theorem gc_278 : ∀ i, i < 278 → gp_go 16 (gp_b i) = true := gp_nx gc_277 gb_277
set_option maxRecDepth 100000 in
theorem gb_278 : gp_go 16 (gp_b 278) = true := by decide +kernel
theorem gc_279 : ∀ i, i < 279 → gp_go 16 (gp_b i) = true := gp_nx gc_278 gb_278
set_option maxRecDepth 100000 in
theorem gb_279 : gp_go 16 (gp_b 279) = true := by decide +kernel
theorem gc_280 : ∀ i, i < 280 → gp_go 16 (gp_b i) = true := gp_nx gc_279 gb_279
set_option maxRecDepth 100000 in
theorem gb_280 : gp_go 16 (gp_b 280) = true := by decide +kernel
theorem gc_281 : ∀ i, i < 281 → gp_go 16 (gp_b i) = true := gp_nx gc_280 gb_280
set_option maxRecDepth 100000 in
theorem gb_281 : gp_go 16 (gp_b 281) = true := by decide +kernel
theorem gc_282 : ∀ i, i < 282 → gp_go 16 (gp_b i) = true := gp_nx gc_281 gb_281
set_option maxRecDepth 100000 in
theorem gb_282 : gp_go 16 (gp_b 282) = true := by decide +kernel
theorem gc_283 : ∀ i, i < 283 → gp_go 16 (gp_b i) = true := gp_nx gc_282 gb_282
set_option maxRecDepth 100000 in
theorem gb_283 : gp_go 16 (gp_b 283) = true := by decide +kernel
theorem gc_284 : ∀ i, i < 284 → gp_go 16 (gp_b i) = true := gp_nx gc_283 gb_283
set_option maxRecDepth 100000 in
theorem gb_284 : gp_go 16 (gp_b 284) = true := by decide +kernel
theorem gc_285 : ∀ i, i < 285 → gp_go 16 (gp_b i) = true := gp_nx gc_284 gb_284
set_option maxRecDepth 100000 in
theorem gb_285 : gp_go 16 (gp_b 285) = true := by decide +kernel
theorem gc_286 : ∀ i, i < 286 → gp_go 16 (gp_b i) = true := gp_nx gc_285 gb_285
set_option maxRecDepth 100000 in
theorem gb_286 : gp_go 16 (gp_b 286) = true := by decide +kernel
theorem gc_287 : ∀ i, i < 287 → gp_go 16 (gp_b i) = true := gp_nx gc_286 gb_286
set_option maxRecDepth 100000 in
theorem gb_287 : gp_go 16 (gp_b 287) = true := by decide +kernel
theorem gc_288 : ∀ i, i < 288 → gp_go 16 (gp_b i) = true := gp_nx gc_287 gb_287
set_option maxRecDepth 100000 in
theorem gb_288 : gp_go 16 (gp_b 288) = true := by decide +kernel
theorem gc_289 : ∀ i, i < 289 → gp_go 16 (gp_b i) = true := gp_nx gc_288 gb_288
set_option maxRecDepth 100000 in
theorem gb_289 : gp_go 16 (gp_b 289) = true := by decide +kernel
theorem gc_290 : ∀ i, i < 290 → gp_go 16 (gp_b i) = true := gp_nx gc_289 gb_289
set_option maxRecDepth 100000 in
theorem gb_290 : gp_go 16 (gp_b 290) = true := by decide +kernel
theorem gc_291 : ∀ i, i < 291 → gp_go 16 (gp_b i) = true := gp_nx gc_290 gb_290
set_option maxRecDepth 100000 in
theorem gb_291 : gp_go 16 (gp_b 291) = true := by decide +kernel
theorem gc_292 : ∀ i, i < 292 → gp_go 16 (gp_b i) = true := gp_nx gc_291 gb_291
set_option maxRecDepth 100000 in
theorem gb_292 : gp_go 16 (gp_b 292) = true := by decide +kernel
theorem gc_293 : ∀ i, i < 293 → gp_go 16 (gp_b i) = true := gp_nx gc_292 gb_292
set_option maxRecDepth 100000 in
theorem gb_293 : gp_go 16 (gp_b 293) = true := by decide +kernel
theorem gc_294 : ∀ i, i < 294 → gp_go 16 (gp_b i) = true := gp_nx gc_293 gb_293
set_option maxRecDepth 100000 in
theorem gb_294 : gp_go 16 (gp_b 294) = true := by decide +kernel
theorem gc_295 : ∀ i, i < 295 → gp_go 16 (gp_b i) = true := gp_nx gc_294 gb_294
set_option maxRecDepth 100000 in
theorem gb_295 : gp_go 16 (gp_b 295) = true := by decide +kernel
theorem gc_296 : ∀ i, i < 296 → gp_go 16 (gp_b i) = true := gp_nx gc_295 gb_295
set_option maxRecDepth 100000 in
theorem gb_296 : gp_go 16 (gp_b 296) = true := by decide +kernel
theorem gc_297 : ∀ i, i < 297 → gp_go 16 (gp_b i) = true := gp_nx gc_296 gb_296
set_option maxRecDepth 100000 in
theorem gb_297 : gp_go 16 (gp_b 297) = true := by decide +kernel
theorem gc_298 : ∀ i, i < 298 → gp_go 16 (gp_b i) = true := gp_nx gc_297 gb_297
set_option maxRecDepth 100000 in
theorem gb_298 : gp_go 16 (gp_b 298) = true := by decide +kernel
theorem gc_299 : ∀ i, i < 299 → gp_go 16 (gp_b i) = true := gp_nx gc_298 gb_298
set_option maxRecDepth 100000 in
theorem gb_299 : gp_go 16 (gp_b 299) = true := by decide +kernel
theorem gc_300 : ∀ i, i < 300 → gp_go 16 (gp_b i) = true := gp_nx gc_299 gb_299
set_option maxRecDepth 100000 in
theorem gb_300 : gp_go 16 (gp_b 300) = true := by decide +kernel
theorem gc_301 : ∀ i, i < 301 → gp_go 16 (gp_b i) = true := gp_nx gc_300 gb_300
set_option maxRecDepth 100000 in
theorem gb_301 : gp_go 16 (gp_b 301) = true := by decide +kernel
theorem gc_302 : ∀ i, i < 302 → gp_go 16 (gp_b i) = true := gp_nx gc_301 gb_301
set_option maxRecDepth 100000 in
theorem gb_302 : gp_go 16 (gp_b 302) = true := by decide +kernel
theorem gc_303 : ∀ i, i < 303 → gp_go 16 (gp_b i) = true := gp_nx gc_302 gb_302
set_option maxRecDepth 100000 in
theorem gb_303 : gp_go 16 (gp_b 303) = true := by decide +kernel
theorem gc_304 : ∀ i, i < 304 → gp_go 16 (gp_b i) = true := gp_nx gc_303 gb_303
set_option maxRecDepth 100000 in
theorem gb_304 : gp_go 16 (gp_b 304) = true := by decide +kernel
theorem gc_305 : ∀ i, i < 305 → gp_go 16 (gp_b i) = true := gp_nx gc_304 gb_304
set_option maxRecDepth 100000 in
theorem gb_305 : gp_go 16 (gp_b 305) = true := by decide +kernel
theorem gc_306 : ∀ i, i < 306 → gp_go 16 (gp_b i) = true := gp_nx gc_305 gb_305
set_option maxRecDepth 100000 in
theorem gb_306 : gp_go 16 (gp_b 306) = true := by decide +kernel
theorem gc_307 : ∀ i, i < 307 → gp_go 16 (gp_b i) = true := gp_nx gc_306 gb_306
set_option maxRecDepth 100000 in
theorem gb_307 : gp_go 16 (gp_b 307) = true := by decide +kernel
theorem gc_308 : ∀ i, i < 308 → gp_go 16 (gp_b i) = true := gp_nx gc_307 gb_307
set_option maxRecDepth 100000 in
theorem gb_308 : gp_go 16 (gp_b 308) = true := by decide +kernel
theorem gc_309 : ∀ i, i < 309 → gp_go 16 (gp_b i) = true := gp_nx gc_308 gb_308
set_option maxRecDepth 100000 in
theorem gb_309 : gp_go 16 (gp_b 309) = true := by decide +kernel
theorem gc_310 : ∀ i, i < 310 → gp_go 16 (gp_b i) = true := gp_nx gc_309 gb_309
set_option maxRecDepth 100000 in
theorem gb_310 : gp_go 16 (gp_b 310) = true := by decide +kernel
theorem gc_311 : ∀ i, i < 311 → gp_go 16 (gp_b i) = true := gp_nx gc_310 gb_310
set_option maxRecDepth 100000 in
theorem gb_311 : gp_go 16 (gp_b 311) = true := by decide +kernel
theorem gc_312 : ∀ i, i < 312 → gp_go 16 (gp_b i) = true := gp_nx gc_311 gb_311
set_option maxRecDepth 100000 in
theorem gb_312 : gp_go 16 (gp_b 312) = true := by decide +kernel
theorem gc_313 : ∀ i, i < 313 → gp_go 16 (gp_b i) = true := gp_nx gc_312 gb_312
set_option maxRecDepth 100000 in
theorem gb_313 : gp_go 16 (gp_b 313) = true := by decide +kernel
theorem gc_314 : ∀ i, i < 314 → gp_go 16 (gp_b i) = true := gp_nx gc_313 gb_313
set_option maxRecDepth 100000 in
theorem gb_314 : gp_go 16 (gp_b 314) = true := by decide +kernel
theorem gc_315 : ∀ i, i < 315 → gp_go 16 (gp_b i) = true := gp_nx gc_314 gb_314
set_option maxRecDepth 100000 in
theorem gb_315 : gp_go 16 (gp_b 315) = true := by decide +kernel
theorem gc_316 : ∀ i, i < 316 → gp_go 16 (gp_b i) = true := gp_nx gc_315 gb_315
set_option maxRecDepth 100000 in
theorem gb_316 : gp_go 16 (gp_b 316) = true := by decide +kernel
theorem gc_317 : ∀ i, i < 317 → gp_go 16 (gp_b i) = true := gp_nx gc_316 gb_316
set_option maxRecDepth 100000 in
theorem gb_317 : gp_go 16 (gp_b 317) = true := by decide +kernel
theorem gc_318 : ∀ i, i < 318 → gp_go 16 (gp_b i) = true := gp_nx gc_317 gb_317
set_option maxRecDepth 100000 in
theorem gb_318 : gp_go 16 (gp_b 318) = true := by decide +kernel
theorem gc_319 : ∀ i, i < 319 → gp_go 16 (gp_b i) = true := gp_nx gc_318 gb_318
set_option maxRecDepth 100000 in
theorem gb_319 : gp_go 16 (gp_b 319) = true := by decide +kernel
theorem gc_320 : ∀ i, i < 320 → gp_go 16 (gp_b i) = true := gp_nx gc_319 gb_319
set_option maxRecDepth 100000 in
theorem gb_320 : gp_go 16 (gp_b 320) = true := by decide +kernel
theorem gc_321 : ∀ i, i < 321 → gp_go 16 (gp_b i) = true := gp_nx gc_320 gb_320
set_option maxRecDepth 100000 in
theorem gb_321 : gp_go 16 (gp_b 321) = true := by decide +kernel
theorem gc_322 : ∀ i, i < 322 → gp_go 16 (gp_b i) = true := gp_nx gc_321 gb_321
set_option maxRecDepth 100000 in
theorem gb_322 : gp_go 16 (gp_b 322) = true := by decide +kernel
theorem gc_323 : ∀ i, i < 323 → gp_go 16 (gp_b i) = true := gp_nx gc_322 gb_322
set_option maxRecDepth 100000 in
theorem gb_323 : gp_go 16 (gp_b 323) = true := by decide +kernel
theorem gc_324 : ∀ i, i < 324 → gp_go 16 (gp_b i) = true := gp_nx gc_323 gb_323
set_option maxRecDepth 100000 in
theorem gb_324 : gp_go 16 (gp_b 324) = true := by decide +kernel
theorem gc_325 : ∀ i, i < 325 → gp_go 16 (gp_b i) = true := gp_nx gc_324 gb_324
set_option maxRecDepth 100000 in
theorem gb_325 : gp_go 16 (gp_b 325) = true := by decide +kernel
theorem gc_326 : ∀ i, i < 326 → gp_go 16 (gp_b i) = true := gp_nx gc_325 gb_325
set_option maxRecDepth 100000 in
theorem gb_326 : gp_go 16 (gp_b 326) = true := by decide +kernel
theorem gc_327 : ∀ i, i < 327 → gp_go 16 (gp_b i) = true := gp_nx gc_326 gb_326
set_option maxRecDepth 100000 in
theorem gb_327 : gp_go 16 (gp_b 327) = true := by decide +kernel
theorem gc_328 : ∀ i, i < 328 → gp_go 16 (gp_b i) = true := gp_nx gc_327 gb_327
set_option maxRecDepth 100000 in
theorem gb_328 : gp_go 16 (gp_b 328) = true := by decide +kernel
theorem gc_329 : ∀ i, i < 329 → gp_go 16 (gp_b i) = true := gp_nx gc_328 gb_328
set_option maxRecDepth 100000 in
theorem gb_329 : gp_go 16 (gp_b 329) = true := by decide +kernel
theorem gc_330 : ∀ i, i < 330 → gp_go 16 (gp_b i) = true := gp_nx gc_329 gb_329
set_option maxRecDepth 100000 in
theorem gb_330 : gp_go 16 (gp_b 330) = true := by decide +kernel
theorem gc_331 : ∀ i, i < 331 → gp_go 16 (gp_b i) = true := gp_nx gc_330 gb_330
set_option maxRecDepth 100000 in
theorem gb_331 : gp_go 16 (gp_b 331) = true := by decide +kernel
theorem gc_332 : ∀ i, i < 332 → gp_go 16 (gp_b i) = true := gp_nx gc_331 gb_331
set_option maxRecDepth 100000 in
theorem gb_332 : gp_go 16 (gp_b 332) = true := by decide +kernel
theorem gc_333 : ∀ i, i < 333 → gp_go 16 (gp_b i) = true := gp_nx gc_332 gb_332
set_option maxRecDepth 100000 in
theorem gb_333 : gp_go 16 (gp_b 333) = true := by decide +kernel
theorem gc_334 : ∀ i, i < 334 → gp_go 16 (gp_b i) = true := gp_nx gc_333 gb_333
set_option maxRecDepth 100000 in
theorem gb_334 : gp_go 16 (gp_b 334) = true := by decide +kernel
theorem gc_335 : ∀ i, i < 335 → gp_go 16 (gp_b i) = true := gp_nx gc_334 gb_334
set_option maxRecDepth 100000 in
theorem gb_335 : gp_go 16 (gp_b 335) = true := by decide +kernel
theorem gc_336 : ∀ i, i < 336 → gp_go 16 (gp_b i) = true := gp_nx gc_335 gb_335
set_option maxRecDepth 100000 in
theorem gb_336 : gp_go 16 (gp_b 336) = true := by decide +kernel
theorem gc_337 : ∀ i, i < 337 → gp_go 16 (gp_b i) = true := gp_nx gc_336 gb_336
set_option maxRecDepth 100000 in
theorem gb_337 : gp_go 16 (gp_b 337) = true := by decide +kernel
theorem gc_338 : ∀ i, i < 338 → gp_go 16 (gp_b i) = true := gp_nx gc_337 gb_337
set_option maxRecDepth 100000 in
theorem gb_338 : gp_go 16 (gp_b 338) = true := by decide +kernel
theorem gc_339 : ∀ i, i < 339 → gp_go 16 (gp_b i) = true := gp_nx gc_338 gb_338
set_option maxRecDepth 100000 in
theorem gb_339 : gp_go 16 (gp_b 339) = true := by decide +kernel
theorem gc_340 : ∀ i, i < 340 → gp_go 16 (gp_b i) = true := gp_nx gc_339 gb_339
set_option maxRecDepth 100000 in
theorem gb_340 : gp_go 16 (gp_b 340) = true := by decide +kernel
theorem gc_341 : ∀ i, i < 341 → gp_go 16 (gp_b i) = true := gp_nx gc_340 gb_340
set_option maxRecDepth 100000 in
theorem gb_341 : gp_go 16 (gp_b 341) = true := by decide +kernel
theorem gc_342 : ∀ i, i < 342 → gp_go 16 (gp_b i) = true := gp_nx gc_341 gb_341
set_option maxRecDepth 100000 in
theorem gb_342 : gp_go 16 (gp_b 342) = true := by decide +kernel
theorem gc_343 : ∀ i, i < 343 → gp_go 16 (gp_b i) = true := gp_nx gc_342 gb_342
set_option maxRecDepth 100000 in
theorem gb_343 : gp_go 16 (gp_b 343) = true := by decide +kernel
theorem gc_344 : ∀ i, i < 344 → gp_go 16 (gp_b i) = true := gp_nx gc_343 gb_343
set_option maxRecDepth 100000 in
theorem gb_344 : gp_go 16 (gp_b 344) = true := by decide +kernel
theorem gc_345 : ∀ i, i < 345 → gp_go 16 (gp_b i) = true := gp_nx gc_344 gb_344
set_option maxRecDepth 100000 in
theorem gb_345 : gp_go 16 (gp_b 345) = true := by decide +kernel
theorem gc_346 : ∀ i, i < 346 → gp_go 16 (gp_b i) = true := gp_nx gc_345 gb_345
set_option maxRecDepth 100000 in
theorem gb_346 : gp_go 16 (gp_b 346) = true := by decide +kernel
theorem gc_347 : ∀ i, i < 347 → gp_go 16 (gp_b i) = true := gp_nx gc_346 gb_346
set_option maxRecDepth 100000 in
theorem gb_347 : gp_go 16 (gp_b 347) = true := by decide +kernel
theorem gc_348 : ∀ i, i < 348 → gp_go 16 (gp_b i) = true := gp_nx gc_347 gb_347
set_option maxRecDepth 100000 in
theorem gb_348 : gp_go 16 (gp_b 348) = true := by decide +kernel
theorem gc_349 : ∀ i, i < 349 → gp_go 16 (gp_b i) = true := gp_nx gc_348 gb_348
set_option maxRecDepth 100000 in
theorem gb_349 : gp_go 16 (gp_b 349) = true := by decide +kernel
theorem gc_350 : ∀ i, i < 350 → gp_go 16 (gp_b i) = true := gp_nx gc_349 gb_349
set_option maxRecDepth 100000 in
theorem gb_350 : gp_go 16 (gp_b 350) = true := by decide +kernel
theorem gc_351 : ∀ i, i < 351 → gp_go 16 (gp_b i) = true := gp_nx gc_350 gb_350
set_option maxRecDepth 100000 in
theorem gb_351 : gp_go 16 (gp_b 351) = true := by decide +kernel
theorem gc_352 : ∀ i, i < 352 → gp_go 16 (gp_b i) = true := gp_nx gc_351 gb_351
set_option maxRecDepth 100000 in
theorem gb_352 : gp_go 16 (gp_b 352) = true := by decide +kernel
theorem gc_353 : ∀ i, i < 353 → gp_go 16 (gp_b i) = true := gp_nx gc_352 gb_352
set_option maxRecDepth 100000 in
theorem gb_353 : gp_go 16 (gp_b 353) = true := by decide +kernel
theorem gc_354 : ∀ i, i < 354 → gp_go 16 (gp_b i) = true := gp_nx gc_353 gb_353
set_option maxRecDepth 100000 in
theorem gb_354 : gp_go 16 (gp_b 354) = true := by decide +kernel
theorem gc_355 : ∀ i, i < 355 → gp_go 16 (gp_b i) = true := gp_nx gc_354 gb_354
set_option maxRecDepth 100000 in
theorem gb_355 : gp_go 16 (gp_b 355) = true := by decide +kernel
theorem gc_356 : ∀ i, i < 356 → gp_go 16 (gp_b i) = true := gp_nx gc_355 gb_355
set_option maxRecDepth 100000 in
theorem gb_356 : gp_go 16 (gp_b 356) = true := by decide +kernel
theorem gc_357 : ∀ i, i < 357 → gp_go 16 (gp_b i) = true := gp_nx gc_356 gb_356
set_option maxRecDepth 100000 in
theorem gb_357 : gp_go 16 (gp_b 357) = true := by decide +kernel
theorem gc_358 : ∀ i, i < 358 → gp_go 16 (gp_b i) = true := gp_nx gc_357 gb_357
set_option maxRecDepth 100000 in
theorem gb_358 : gp_go 16 (gp_b 358) = true := by decide +kernel
theorem gc_359 : ∀ i, i < 359 → gp_go 16 (gp_b i) = true := gp_nx gc_358 gb_358
set_option maxRecDepth 100000 in
theorem gb_359 : gp_go 16 (gp_b 359) = true := by decide +kernel
theorem gc_360 : ∀ i, i < 360 → gp_go 16 (gp_b i) = true := gp_nx gc_359 gb_359
set_option maxRecDepth 100000 in
theorem gb_360 : gp_go 16 (gp_b 360) = true := by decide +kernel
theorem gc_361 : ∀ i, i < 361 → gp_go 16 (gp_b i) = true := gp_nx gc_360 gb_360
set_option maxRecDepth 100000 in
theorem gb_361 : gp_go 16 (gp_b 361) = true := by decide +kernel
theorem gc_362 : ∀ i, i < 362 → gp_go 16 (gp_b i) = true := gp_nx gc_361 gb_361
set_option maxRecDepth 100000 in
theorem gb_362 : gp_go 16 (gp_b 362) = true := by decide +kernel
theorem gc_363 : ∀ i, i < 363 → gp_go 16 (gp_b i) = true := gp_nx gc_362 gb_362
set_option maxRecDepth 100000 in
theorem gb_363 : gp_go 16 (gp_b 363) = true := by decide +kernel
theorem gc_364 : ∀ i, i < 364 → gp_go 16 (gp_b i) = true := gp_nx gc_363 gb_363
set_option maxRecDepth 100000 in
theorem gb_364 : gp_go 16 (gp_b 364) = true := by decide +kernel
theorem gc_365 : ∀ i, i < 365 → gp_go 16 (gp_b i) = true := gp_nx gc_364 gb_364
set_option maxRecDepth 100000 in
theorem gb_365 : gp_go 16 (gp_b 365) = true := by decide +kernel
theorem gc_366 : ∀ i, i < 366 → gp_go 16 (gp_b i) = true := gp_nx gc_365 gb_365
set_option maxRecDepth 100000 in
theorem gb_366 : gp_go 16 (gp_b 366) = true := by decide +kernel
theorem gc_367 : ∀ i, i < 367 → gp_go 16 (gp_b i) = true := gp_nx gc_366 gb_366
set_option maxRecDepth 100000 in
theorem gb_367 : gp_go 16 (gp_b 367) = true := by decide +kernel
theorem gc_368 : ∀ i, i < 368 → gp_go 16 (gp_b i) = true := gp_nx gc_367 gb_367
set_option maxRecDepth 100000 in
theorem gb_368 : gp_go 16 (gp_b 368) = true := by decide +kernel
theorem gc_369 : ∀ i, i < 369 → gp_go 16 (gp_b i) = true := gp_nx gc_368 gb_368
set_option maxRecDepth 100000 in
theorem gb_369 : gp_go 16 (gp_b 369) = true := by decide +kernel
theorem gc_370 : ∀ i, i < 370 → gp_go 16 (gp_b i) = true := gp_nx gc_369 gb_369
set_option maxRecDepth 100000 in
theorem gb_370 : gp_go 16 (gp_b 370) = true := by decide +kernel
theorem gc_371 : ∀ i, i < 371 → gp_go 16 (gp_b i) = true := gp_nx gc_370 gb_370
set_option maxRecDepth 100000 in
theorem gb_371 : gp_go 16 (gp_b 371) = true := by decide +kernel
theorem gc_372 : ∀ i, i < 372 → gp_go 16 (gp_b i) = true := gp_nx gc_371 gb_371
set_option maxRecDepth 100000 in
theorem gb_372 : gp_go 16 (gp_b 372) = true := by decide +kernel
theorem gc_373 : ∀ i, i < 373 → gp_go 16 (gp_b i) = true := gp_nx gc_372 gb_372
set_option maxRecDepth 100000 in
theorem gb_373 : gp_go 16 (gp_b 373) = true := by decide +kernel
theorem gc_374 : ∀ i, i < 374 → gp_go 16 (gp_b i) = true := gp_nx gc_373 gb_373
set_option maxRecDepth 100000 in
theorem gb_374 : gp_go 16 (gp_b 374) = true := by decide +kernel
theorem gc_375 : ∀ i, i < 375 → gp_go 16 (gp_b i) = true := gp_nx gc_374 gb_374
set_option maxRecDepth 100000 in
theorem gb_375 : gp_go 16 (gp_b 375) = true := by decide +kernel
theorem gc_376 : ∀ i, i < 376 → gp_go 16 (gp_b i) = true := gp_nx gc_375 gb_375
set_option maxRecDepth 100000 in
theorem gb_376 : gp_go 16 (gp_b 376) = true := by decide +kernel
theorem gc_377 : ∀ i, i < 377 → gp_go 16 (gp_b i) = true := gp_nx gc_376 gb_376
set_option maxRecDepth 100000 in
theorem gb_377 : gp_go 16 (gp_b 377) = true := by decide +kernel
theorem gc_378 : ∀ i, i < 378 → gp_go 16 (gp_b i) = true := gp_nx gc_377 gb_377
set_option maxRecDepth 100000 in
theorem gb_378 : gp_go 16 (gp_b 378) = true := by decide +kernel
theorem gc_379 : ∀ i, i < 379 → gp_go 16 (gp_b i) = true := gp_nx gc_378 gb_378
set_option maxRecDepth 100000 in
theorem gb_379 : gp_go 16 (gp_b 379) = true := by decide +kernel
theorem gc_380 : ∀ i, i < 380 → gp_go 16 (gp_b i) = true := gp_nx gc_379 gb_379
set_option maxRecDepth 100000 in
theorem gb_380 : gp_go 16 (gp_b 380) = true := by decide +kernel
theorem gc_381 : ∀ i, i < 381 → gp_go 16 (gp_b i) = true := gp_nx gc_380 gb_380
set_option maxRecDepth 100000 in
theorem gb_381 : gp_go 16 (gp_b 381) = true := by decide +kernel
theorem gc_382 : ∀ i, i < 382 → gp_go 16 (gp_b i) = true := gp_nx gc_381 gb_381
set_option maxRecDepth 100000 in
theorem gb_382 : gp_go 16 (gp_b 382) = true := by decide +kernel
theorem gc_383 : ∀ i, i < 383 → gp_go 16 (gp_b i) = true := gp_nx gc_382 gb_382
set_option maxRecDepth 100000 in
theorem gb_383 : gp_go 16 (gp_b 383) = true := by decide +kernel
theorem gc_384 : ∀ i, i < 384 → gp_go 16 (gp_b i) = true := gp_nx gc_383 gb_383
set_option maxRecDepth 100000 in
theorem gb_384 : gp_go 16 (gp_b 384) = true := by decide +kernel
theorem gc_385 : ∀ i, i < 385 → gp_go 16 (gp_b i) = true := gp_nx gc_384 gb_384
set_option maxRecDepth 100000 in
theorem gb_385 : gp_go 16 (gp_b 385) = true := by decide +kernel
theorem gc_386 : ∀ i, i < 386 → gp_go 16 (gp_b i) = true := gp_nx gc_385 gb_385
set_option maxRecDepth 100000 in
theorem gb_386 : gp_go 16 (gp_b 386) = true := by decide +kernel
theorem gc_387 : ∀ i, i < 387 → gp_go 16 (gp_b i) = true := gp_nx gc_386 gb_386
set_option maxRecDepth 100000 in
theorem gb_387 : gp_go 16 (gp_b 387) = true := by decide +kernel
theorem gc_388 : ∀ i, i < 388 → gp_go 16 (gp_b i) = true := gp_nx gc_387 gb_387
set_option maxRecDepth 100000 in
theorem gb_388 : gp_go 16 (gp_b 388) = true := by decide +kernel
theorem gc_389 : ∀ i, i < 389 → gp_go 16 (gp_b i) = true := gp_nx gc_388 gb_388
set_option maxRecDepth 100000 in
theorem gb_389 : gp_go 16 (gp_b 389) = true := by decide +kernel
theorem gc_390 : ∀ i, i < 390 → gp_go 16 (gp_b i) = true := gp_nx gc_389 gb_389
set_option maxRecDepth 100000 in
theorem gb_390 : gp_go 16 (gp_b 390) = true := by decide +kernel
theorem gc_391 : ∀ i, i < 391 → gp_go 16 (gp_b i) = true := gp_nx gc_390 gb_390
set_option maxRecDepth 100000 in
theorem gb_391 : gp_go 16 (gp_b 391) = true := by decide +kernel
theorem gc_392 : ∀ i, i < 392 → gp_go 16 (gp_b i) = true := gp_nx gc_391 gb_391
set_option maxRecDepth 100000 in
theorem gb_392 : gp_go 16 (gp_b 392) = true := by decide +kernel
theorem gc_393 : ∀ i, i < 393 → gp_go 16 (gp_b i) = true := gp_nx gc_392 gb_392
set_option maxRecDepth 100000 in
theorem gb_393 : gp_go 16 (gp_b 393) = true := by decide +kernel
theorem gc_394 : ∀ i, i < 394 → gp_go 16 (gp_b i) = true := gp_nx gc_393 gb_393
set_option maxRecDepth 100000 in
theorem gb_394 : gp_go 16 (gp_b 394) = true := by decide +kernel
theorem gc_395 : ∀ i, i < 395 → gp_go 16 (gp_b i) = true := gp_nx gc_394 gb_394
set_option maxRecDepth 100000 in
theorem gb_395 : gp_go 16 (gp_b 395) = true := by decide +kernel
theorem gc_396 : ∀ i, i < 396 → gp_go 16 (gp_b i) = true := gp_nx gc_395 gb_395
set_option maxRecDepth 100000 in
theorem gb_396 : gp_go 16 (gp_b 396) = true := by decide +kernel
theorem gc_397 : ∀ i, i < 397 → gp_go 16 (gp_b i) = true := gp_nx gc_396 gb_396
set_option maxRecDepth 100000 in
theorem gb_397 : gp_go 16 (gp_b 397) = true := by decide +kernel
theorem gc_398 : ∀ i, i < 398 → gp_go 16 (gp_b i) = true := gp_nx gc_397 gb_397
set_option maxRecDepth 100000 in
theorem gb_398 : gp_go 16 (gp_b 398) = true := by decide +kernel
theorem gc_399 : ∀ i, i < 399 → gp_go 16 (gp_b i) = true := gp_nx gc_398 gb_398
set_option maxRecDepth 100000 in
theorem gb_399 : gp_go 16 (gp_b 399) = true := by decide +kernel
theorem gc_400 : ∀ i, i < 400 → gp_go 16 (gp_b i) = true := gp_nx gc_399 gb_399
set_option maxRecDepth 100000 in
theorem gb_400 : gp_go 16 (gp_b 400) = true := by decide +kernel
theorem gc_401 : ∀ i, i < 401 → gp_go 16 (gp_b i) = true := gp_nx gc_400 gb_400
set_option maxRecDepth 100000 in
theorem gb_401 : gp_go 16 (gp_b 401) = true := by decide +kernel
theorem gc_402 : ∀ i, i < 402 → gp_go 16 (gp_b i) = true := gp_nx gc_401 gb_401
set_option maxRecDepth 100000 in
theorem gb_402 : gp_go 16 (gp_b 402) = true := by decide +kernel
theorem gc_403 : ∀ i, i < 403 → gp_go 16 (gp_b i) = true := gp_nx gc_402 gb_402
set_option maxRecDepth 100000 in
theorem gb_403 : gp_go 16 (gp_b 403) = true := by decide +kernel
theorem gc_404 : ∀ i, i < 404 → gp_go 16 (gp_b i) = true := gp_nx gc_403 gb_403
set_option maxRecDepth 100000 in
theorem gb_404 : gp_go 16 (gp_b 404) = true := by decide +kernel
theorem gc_405 : ∀ i, i < 405 → gp_go 16 (gp_b i) = true := gp_nx gc_404 gb_404
set_option maxRecDepth 100000 in
theorem gb_405 : gp_go 16 (gp_b 405) = true := by decide +kernel
theorem gc_406 : ∀ i, i < 406 → gp_go 16 (gp_b i) = true := gp_nx gc_405 gb_405
set_option maxRecDepth 100000 in
theorem gb_406 : gp_go 16 (gp_b 406) = true := by decide +kernel
theorem gc_407 : ∀ i, i < 407 → gp_go 16 (gp_b i) = true := gp_nx gc_406 gb_406
set_option maxRecDepth 100000 in
theorem gb_407 : gp_go 16 (gp_b 407) = true := by decide +kernel
theorem gc_408 : ∀ i, i < 408 → gp_go 16 (gp_b i) = true := gp_nx gc_407 gb_407
set_option maxRecDepth 100000 in
theorem gb_408 : gp_go 16 (gp_b 408) = true := by decide +kernel
theorem gc_409 : ∀ i, i < 409 → gp_go 16 (gp_b i) = true := gp_nx gc_408 gb_408
set_option maxRecDepth 100000 in
theorem gb_409 : gp_go 16 (gp_b 409) = true := by decide +kernel
theorem gc_410 : ∀ i, i < 410 → gp_go 16 (gp_b i) = true := gp_nx gc_409 gb_409
set_option maxRecDepth 100000 in
theorem gb_410 : gp_go 16 (gp_b 410) = true := by decide +kernel
theorem gc_411 : ∀ i, i < 411 → gp_go 16 (gp_b i) = true := gp_nx gc_410 gb_410
set_option maxRecDepth 100000 in
theorem gb_411 : gp_go 16 (gp_b 411) = true := by decide +kernel
theorem gc_412 : ∀ i, i < 412 → gp_go 16 (gp_b i) = true := gp_nx gc_411 gb_411
set_option maxRecDepth 100000 in
theorem gb_412 : gp_go 16 (gp_b 412) = true := by decide +kernel
theorem gc_413 : ∀ i, i < 413 → gp_go 16 (gp_b i) = true := gp_nx gc_412 gb_412
set_option maxRecDepth 100000 in
theorem gb_413 : gp_go 16 (gp_b 413) = true := by decide +kernel
theorem gc_414 : ∀ i, i < 414 → gp_go 16 (gp_b i) = true := gp_nx gc_413 gb_413
set_option maxRecDepth 100000 in
theorem gb_414 : gp_go 16 (gp_b 414) = true := by decide +kernel
theorem gc_415 : ∀ i, i < 415 → gp_go 16 (gp_b i) = true := gp_nx gc_414 gb_414
set_option maxRecDepth 100000 in
theorem gb_415 : gp_go 16 (gp_b 415) = true := by decide +kernel
theorem gc_416 : ∀ i, i < 416 → gp_go 16 (gp_b i) = true := gp_nx gc_415 gb_415
set_option maxRecDepth 100000 in
theorem gb_416 : gp_go 16 (gp_b 416) = true := by decide +kernel
theorem gc_417 : ∀ i, i < 417 → gp_go 16 (gp_b i) = true := gp_nx gc_416 gb_416
set_option maxRecDepth 100000 in
theorem gb_417 : gp_go 16 (gp_b 417) = true := by decide +kernel
theorem gc_418 : ∀ i, i < 418 → gp_go 16 (gp_b i) = true := gp_nx gc_417 gb_417
set_option maxRecDepth 100000 in
theorem gb_418 : gp_go 16 (gp_b 418) = true := by decide +kernel
theorem gc_419 : ∀ i, i < 419 → gp_go 16 (gp_b i) = true := gp_nx gc_418 gb_418
set_option maxRecDepth 100000 in
theorem gb_419 : gp_go 16 (gp_b 419) = true := by decide +kernel
theorem gc_420 : ∀ i, i < 420 → gp_go 16 (gp_b i) = true := gp_nx gc_419 gb_419
set_option maxRecDepth 100000 in
theorem gb_420 : gp_go 16 (gp_b 420) = true := by decide +kernel
theorem gc_421 : ∀ i, i < 421 → gp_go 16 (gp_b i) = true := gp_nx gc_420 gb_420
set_option maxRecDepth 100000 in
theorem gb_421 : gp_go 16 (gp_b 421) = true := by decide +kernel
theorem gc_422 : ∀ i, i < 422 → gp_go 16 (gp_b i) = true := gp_nx gc_421 gb_421
set_option maxRecDepth 100000 in
theorem gb_422 : gp_go 16 (gp_b 422) = true := by decide +kernel
theorem gc_423 : ∀ i, i < 423 → gp_go 16 (gp_b i) = true := gp_nx gc_422 gb_422
set_option maxRecDepth 100000 in
theorem gb_423 : gp_go 16 (gp_b 423) = true := by decide +kernel
theorem gc_424 : ∀ i, i < 424 → gp_go 16 (gp_b i) = true := gp_nx gc_423 gb_423
set_option maxRecDepth 100000 in
theorem gb_424 : gp_go 16 (gp_b 424) = true := by decide +kernel
theorem gc_425 : ∀ i, i < 425 → gp_go 16 (gp_b i) = true := gp_nx gc_424 gb_424
set_option maxRecDepth 100000 in
theorem gb_425 : gp_go 16 (gp_b 425) = true := by decide +kernel
theorem gc_426 : ∀ i, i < 426 → gp_go 16 (gp_b i) = true := gp_nx gc_425 gb_425
set_option maxRecDepth 100000 in
theorem gb_426 : gp_go 16 (gp_b 426) = true := by decide +kernel
theorem gc_427 : ∀ i, i < 427 → gp_go 16 (gp_b i) = true := gp_nx gc_426 gb_426
set_option maxRecDepth 100000 in
theorem gb_427 : gp_go 16 (gp_b 427) = true := by decide +kernel
theorem gc_428 : ∀ i, i < 428 → gp_go 16 (gp_b i) = true := gp_nx gc_427 gb_427
set_option maxRecDepth 100000 in
theorem gb_428 : gp_go 16 (gp_b 428) = true := by decide +kernel
theorem gc_429 : ∀ i, i < 429 → gp_go 16 (gp_b i) = true := gp_nx gc_428 gb_428
set_option maxRecDepth 100000 in
theorem gb_429 : gp_go 16 (gp_b 429) = true := by decide +kernel
theorem gc_430 : ∀ i, i < 430 → gp_go 16 (gp_b i) = true := gp_nx gc_429 gb_429
set_option maxRecDepth 100000 in
theorem gb_430 : gp_go 16 (gp_b 430) = true := by decide +kernel
theorem gc_431 : ∀ i, i < 431 → gp_go 16 (gp_b i) = true := gp_nx gc_430 gb_430
set_option maxRecDepth 100000 in
theorem gb_431 : gp_go 16 (gp_b 431) = true := by decide +kernel
theorem gc_432 : ∀ i, i < 432 → gp_go 16 (gp_b i) = true := gp_nx gc_431 gb_431
set_option maxRecDepth 100000 in
theorem gb_432 : gp_go 16 (gp_b 432) = true := by decide +kernel
theorem gc_433 : ∀ i, i < 433 → gp_go 16 (gp_b i) = true := gp_nx gc_432 gb_432
set_option maxRecDepth 100000 in
theorem gb_433 : gp_go 16 (gp_b 433) = true := by decide +kernel
theorem gc_434 : ∀ i, i < 434 → gp_go 16 (gp_b i) = true := gp_nx gc_433 gb_433
set_option maxRecDepth 100000 in
theorem gb_434 : gp_go 16 (gp_b 434) = true := by decide +kernel
theorem gc_435 : ∀ i, i < 435 → gp_go 16 (gp_b i) = true := gp_nx gc_434 gb_434
set_option maxRecDepth 100000 in
theorem gb_435 : gp_go 16 (gp_b 435) = true := by decide +kernel
theorem gc_436 : ∀ i, i < 436 → gp_go 16 (gp_b i) = true := gp_nx gc_435 gb_435
set_option maxRecDepth 100000 in
theorem gb_436 : gp_go 16 (gp_b 436) = true := by decide +kernel
theorem gc_437 : ∀ i, i < 437 → gp_go 16 (gp_b i) = true := gp_nx gc_436 gb_436
set_option maxRecDepth 100000 in
theorem gb_437 : gp_go 16 (gp_b 437) = true := by decide +kernel
theorem gc_438 : ∀ i, i < 438 → gp_go 16 (gp_b i) = true := gp_nx gc_437 gb_437
set_option maxRecDepth 100000 in
theorem gb_438 : gp_go 16 (gp_b 438) = true := by decide +kernel
theorem gc_439 : ∀ i, i < 439 → gp_go 16 (gp_b i) = true := gp_nx gc_438 gb_438
set_option maxRecDepth 100000 in
theorem gb_439 : gp_go 16 (gp_b 439) = true := by decide +kernel
theorem gc_440 : ∀ i, i < 440 → gp_go 16 (gp_b i) = true := gp_nx gc_439 gb_439
set_option maxRecDepth 100000 in
theorem gb_440 : gp_go 16 (gp_b 440) = true := by decide +kernel
theorem gc_441 : ∀ i, i < 441 → gp_go 16 (gp_b i) = true := gp_nx gc_440 gb_440
set_option maxRecDepth 100000 in
theorem gb_441 : gp_go 16 (gp_b 441) = true := by decide +kernel
theorem gc_442 : ∀ i, i < 442 → gp_go 16 (gp_b i) = true := gp_nx gc_441 gb_441
set_option maxRecDepth 100000 in
theorem gb_442 : gp_go 16 (gp_b 442) = true := by decide +kernel
theorem gc_443 : ∀ i, i < 443 → gp_go 16 (gp_b i) = true := gp_nx gc_442 gb_442
set_option maxRecDepth 100000 in
theorem gb_443 : gp_go 16 (gp_b 443) = true := by decide +kernel
theorem gc_444 : ∀ i, i < 444 → gp_go 16 (gp_b i) = true := gp_nx gc_443 gb_443
set_option maxRecDepth 100000 in
theorem gb_444 : gp_go 16 (gp_b 444) = true := by decide +kernel
theorem gc_445 : ∀ i, i < 445 → gp_go 16 (gp_b i) = true := gp_nx gc_444 gb_444
set_option maxRecDepth 100000 in
theorem gb_445 : gp_go 16 (gp_b 445) = true := by decide +kernel
theorem gc_446 : ∀ i, i < 446 → gp_go 16 (gp_b i) = true := gp_nx gc_445 gb_445
set_option maxRecDepth 100000 in
theorem gb_446 : gp_go 16 (gp_b 446) = true := by decide +kernel
theorem gc_447 : ∀ i, i < 447 → gp_go 16 (gp_b i) = true := gp_nx gc_446 gb_446
set_option maxRecDepth 100000 in
theorem gb_447 : gp_go 16 (gp_b 447) = true := by decide +kernel
theorem gc_448 : ∀ i, i < 448 → gp_go 16 (gp_b i) = true := gp_nx gc_447 gb_447
set_option maxRecDepth 100000 in
theorem gb_448 : gp_go 16 (gp_b 448) = true := by decide +kernel
theorem gc_449 : ∀ i, i < 449 → gp_go 16 (gp_b i) = true := gp_nx gc_448 gb_448
set_option maxRecDepth 100000 in
theorem gb_449 : gp_go 16 (gp_b 449) = true := by decide +kernel
theorem gc_450 : ∀ i, i < 450 → gp_go 16 (gp_b i) = true := gp_nx gc_449 gb_449
set_option maxRecDepth 100000 in
theorem gb_450 : gp_go 16 (gp_b 450) = true := by decide +kernel
theorem gc_451 : ∀ i, i < 451 → gp_go 16 (gp_b i) = true := gp_nx gc_450 gb_450
set_option maxRecDepth 100000 in
theorem gb_451 : gp_go 16 (gp_b 451) = true := by decide +kernel
theorem gc_452 : ∀ i, i < 452 → gp_go 16 (gp_b i) = true := gp_nx gc_451 gb_451
set_option maxRecDepth 100000 in
theorem gb_452 : gp_go 16 (gp_b 452) = true := by decide +kernel
theorem gc_453 : ∀ i, i < 453 → gp_go 16 (gp_b i) = true := gp_nx gc_452 gb_452
set_option maxRecDepth 100000 in
theorem gb_453 : gp_go 16 (gp_b 453) = true := by decide +kernel
theorem gc_454 : ∀ i, i < 454 → gp_go 16 (gp_b i) = true := gp_nx gc_453 gb_453
set_option maxRecDepth 100000 in
theorem gb_454 : gp_go 16 (gp_b 454) = true := by decide +kernel
theorem gc_455 : ∀ i, i < 455 → gp_go 16 (gp_b i) = true := gp_nx gc_454 gb_454
set_option maxRecDepth 100000 in
theorem gb_455 : gp_go 16 (gp_b 455) = true := by decide +kernel
theorem gc_456 : ∀ i, i < 456 → gp_go 16 (gp_b i) = true := gp_nx gc_455 gb_455
set_option maxRecDepth 100000 in
theorem gb_456 : gp_go 16 (gp_b 456) = true := by decide +kernel
theorem gc_457 : ∀ i, i < 457 → gp_go 16 (gp_b i) = true := gp_nx gc_456 gb_456
set_option maxRecDepth 100000 in
theorem gb_457 : gp_go 16 (gp_b 457) = true := by decide +kernel
theorem gc_458 : ∀ i, i < 458 → gp_go 16 (gp_b i) = true := gp_nx gc_457 gb_457
set_option maxRecDepth 100000 in
theorem gb_458 : gp_go 16 (gp_b 458) = true := by decide +kernel
theorem gc_459 : ∀ i, i < 459 → gp_go 16 (gp_b i) = true := gp_nx gc_458 gb_458
set_option maxRecDepth 100000 in
theorem gb_459 : gp_go 16 (gp_b 459) = true := by decide +kernel
theorem gc_460 : ∀ i, i < 460 → gp_go 16 (gp_b i) = true := gp_nx gc_459 gb_459
set_option maxRecDepth 100000 in
theorem gb_460 : gp_go 16 (gp_b 460) = true := by decide +kernel
theorem gc_461 : ∀ i, i < 461 → gp_go 16 (gp_b i) = true := gp_nx gc_460 gb_460
set_option maxRecDepth 100000 in
theorem gb_461 : gp_go 16 (gp_b 461) = true := by decide +kernel
theorem gc_462 : ∀ i, i < 462 → gp_go 16 (gp_b i) = true := gp_nx gc_461 gb_461
set_option maxRecDepth 100000 in
theorem gb_462 : gp_go 16 (gp_b 462) = true := by decide +kernel
theorem gc_463 : ∀ i, i < 463 → gp_go 16 (gp_b i) = true := gp_nx gc_462 gb_462
set_option maxRecDepth 100000 in
theorem gb_463 : gp_go 16 (gp_b 463) = true := by decide +kernel
theorem gc_464 : ∀ i, i < 464 → gp_go 16 (gp_b i) = true := gp_nx gc_463 gb_463
set_option maxRecDepth 100000 in
theorem gb_464 : gp_go 16 (gp_b 464) = true := by decide +kernel
theorem gc_465 : ∀ i, i < 465 → gp_go 16 (gp_b i) = true := gp_nx gc_464 gb_464
set_option maxRecDepth 100000 in
theorem gb_465 : gp_go 16 (gp_b 465) = true := by decide +kernel
theorem gc_466 : ∀ i, i < 466 → gp_go 16 (gp_b i) = true := gp_nx gc_465 gb_465
set_option maxRecDepth 100000 in
theorem gb_466 : gp_go 16 (gp_b 466) = true := by decide +kernel
theorem gc_467 : ∀ i, i < 467 → gp_go 16 (gp_b i) = true := gp_nx gc_466 gb_466
set_option maxRecDepth 100000 in
theorem gb_467 : gp_go 16 (gp_b 467) = true := by decide +kernel
theorem gc_468 : ∀ i, i < 468 → gp_go 16 (gp_b i) = true := gp_nx gc_467 gb_467
set_option maxRecDepth 100000 in
theorem gb_468 : gp_go 16 (gp_b 468) = true := by decide +kernel
theorem gc_469 : ∀ i, i < 469 → gp_go 16 (gp_b i) = true := gp_nx gc_468 gb_468
set_option maxRecDepth 100000 in
theorem gb_469 : gp_go 16 (gp_b 469) = true := by decide +kernel
theorem gc_470 : ∀ i, i < 470 → gp_go 16 (gp_b i) = true := gp_nx gc_469 gb_469
set_option maxRecDepth 100000 in
theorem gb_470 : gp_go 16 (gp_b 470) = true := by decide +kernel
theorem gc_471 : ∀ i, i < 471 → gp_go 16 (gp_b i) = true := gp_nx gc_470 gb_470
set_option maxRecDepth 100000 in
theorem gb_471 : gp_go 16 (gp_b 471) = true := by decide +kernel
theorem gc_472 : ∀ i, i < 472 → gp_go 16 (gp_b i) = true := gp_nx gc_471 gb_471
set_option maxRecDepth 100000 in
theorem gb_472 : gp_go 16 (gp_b 472) = true := by decide +kernel
theorem gc_473 : ∀ i, i < 473 → gp_go 16 (gp_b i) = true := gp_nx gc_472 gb_472
set_option maxRecDepth 100000 in
theorem gb_473 : gp_go 16 (gp_b 473) = true := by decide +kernel
theorem gc_474 : ∀ i, i < 474 → gp_go 16 (gp_b i) = true := gp_nx gc_473 gb_473
set_option maxRecDepth 100000 in
theorem gb_474 : gp_go 16 (gp_b 474) = true := by decide +kernel
theorem gc_475 : ∀ i, i < 475 → gp_go 16 (gp_b i) = true := gp_nx gc_474 gb_474
set_option maxRecDepth 100000 in
theorem gb_475 : gp_go 16 (gp_b 475) = true := by decide +kernel
theorem gc_476 : ∀ i, i < 476 → gp_go 16 (gp_b i) = true := gp_nx gc_475 gb_475
set_option maxRecDepth 100000 in
theorem gb_476 : gp_go 16 (gp_b 476) = true := by decide +kernel
theorem gc_477 : ∀ i, i < 477 → gp_go 16 (gp_b i) = true := gp_nx gc_476 gb_476
set_option maxRecDepth 100000 in
theorem gb_477 : gp_go 16 (gp_b 477) = true := by decide +kernel
theorem gc_478 : ∀ i, i < 478 → gp_go 16 (gp_b i) = true := gp_nx gc_477 gb_477
set_option maxRecDepth 100000 in
theorem gb_478 : gp_go 16 (gp_b 478) = true := by decide +kernel
theorem gc_479 : ∀ i, i < 479 → gp_go 16 (gp_b i) = true := gp_nx gc_478 gb_478
set_option maxRecDepth 100000 in
theorem gb_479 : gp_go 16 (gp_b 479) = true := by decide +kernel
theorem gc_480 : ∀ i, i < 480 → gp_go 16 (gp_b i) = true := gp_nx gc_479 gb_479
set_option maxRecDepth 100000 in
theorem gb_480 : gp_go 16 (gp_b 480) = true := by decide +kernel
theorem gc_481 : ∀ i, i < 481 → gp_go 16 (gp_b i) = true := gp_nx gc_480 gb_480
set_option maxRecDepth 100000 in
theorem gb_481 : gp_go 16 (gp_b 481) = true := by decide +kernel
theorem gc_482 : ∀ i, i < 482 → gp_go 16 (gp_b i) = true := gp_nx gc_481 gb_481
set_option maxRecDepth 100000 in
theorem gb_482 : gp_go 16 (gp_b 482) = true := by decide +kernel
theorem gc_483 : ∀ i, i < 483 → gp_go 16 (gp_b i) = true := gp_nx gc_482 gb_482
set_option maxRecDepth 100000 in
theorem gb_483 : gp_go 16 (gp_b 483) = true := by decide +kernel
theorem gc_484 : ∀ i, i < 484 → gp_go 16 (gp_b i) = true := gp_nx gc_483 gb_483
set_option maxRecDepth 100000 in
theorem gb_484 : gp_go 16 (gp_b 484) = true := by decide +kernel
theorem gc_485 : ∀ i, i < 485 → gp_go 16 (gp_b i) = true := gp_nx gc_484 gb_484
set_option maxRecDepth 100000 in
theorem gb_485 : gp_go 16 (gp_b 485) = true := by decide +kernel
theorem gc_486 : ∀ i, i < 486 → gp_go 16 (gp_b i) = true := gp_nx gc_485 gb_485
set_option maxRecDepth 100000 in
theorem gb_486 : gp_go 16 (gp_b 486) = true := by decide +kernel
theorem gc_487 : ∀ i, i < 487 → gp_go 16 (gp_b i) = true := gp_nx gc_486 gb_486
set_option maxRecDepth 100000 in
theorem gb_487 : gp_go 16 (gp_b 487) = true := by decide +kernel
theorem gc_488 : ∀ i, i < 488 → gp_go 16 (gp_b i) = true := gp_nx gc_487 gb_487
set_option maxRecDepth 100000 in
theorem gb_488 : gp_go 16 (gp_b 488) = true := by decide +kernel
theorem gc_489 : ∀ i, i < 489 → gp_go 16 (gp_b i) = true := gp_nx gc_488 gb_488
set_option maxRecDepth 100000 in
theorem gb_489 : gp_go 16 (gp_b 489) = true := by decide +kernel
theorem gc_490 : ∀ i, i < 490 → gp_go 16 (gp_b i) = true := gp_nx gc_489 gb_489
set_option maxRecDepth 100000 in
theorem gb_490 : gp_go 16 (gp_b 490) = true := by decide +kernel
theorem gc_491 : ∀ i, i < 491 → gp_go 16 (gp_b i) = true := gp_nx gc_490 gb_490
set_option maxRecDepth 100000 in
theorem gb_491 : gp_go 16 (gp_b 491) = true := by decide +kernel
theorem gc_492 : ∀ i, i < 492 → gp_go 16 (gp_b i) = true := gp_nx gc_491 gb_491
set_option maxRecDepth 100000 in
theorem gb_492 : gp_go 16 (gp_b 492) = true := by decide +kernel
theorem gc_493 : ∀ i, i < 493 → gp_go 16 (gp_b i) = true := gp_nx gc_492 gb_492
set_option maxRecDepth 100000 in
theorem gb_493 : gp_go 16 (gp_b 493) = true := by decide +kernel
theorem gc_494 : ∀ i, i < 494 → gp_go 16 (gp_b i) = true := gp_nx gc_493 gb_493
set_option maxRecDepth 100000 in
theorem gb_494 : gp_go 16 (gp_b 494) = true := by decide +kernel
theorem gc_495 : ∀ i, i < 495 → gp_go 16 (gp_b i) = true := gp_nx gc_494 gb_494
set_option maxRecDepth 100000 in
theorem gb_495 : gp_go 16 (gp_b 495) = true := by decide +kernel
theorem gc_496 : ∀ i, i < 496 → gp_go 16 (gp_b i) = true := gp_nx gc_495 gb_495
set_option maxRecDepth 100000 in
theorem gb_496 : gp_go 16 (gp_b 496) = true := by decide +kernel
theorem gc_497 : ∀ i, i < 497 → gp_go 16 (gp_b i) = true := gp_nx gc_496 gb_496
set_option maxRecDepth 100000 in
theorem gb_497 : gp_go 16 (gp_b 497) = true := by decide +kernel
theorem gc_498 : ∀ i, i < 498 → gp_go 16 (gp_b i) = true := gp_nx gc_497 gb_497
set_option maxRecDepth 100000 in
theorem gb_498 : gp_go 16 (gp_b 498) = true := by decide +kernel
theorem gc_499 : ∀ i, i < 499 → gp_go 16 (gp_b i) = true := gp_nx gc_498 gb_498
set_option maxRecDepth 100000 in
theorem gb_499 : gp_go 16 (gp_b 499) = true := by decide +kernel
theorem gc_500 : ∀ i, i < 500 → gp_go 16 (gp_b i) = true := gp_nx gc_499 gb_499
set_option maxRecDepth 100000 in
theorem gb_500 : gp_go 16 (gp_b 500) = true := by decide +kernel
theorem gc_501 : ∀ i, i < 501 → gp_go 16 (gp_b i) = true := gp_nx gc_500 gb_500
set_option maxRecDepth 100000 in
theorem gb_501 : gp_go 16 (gp_b 501) = true := by decide +kernel
theorem gc_502 : ∀ i, i < 502 → gp_go 16 (gp_b i) = true := gp_nx gc_501 gb_501
set_option maxRecDepth 100000 in
theorem gb_502 : gp_go 16 (gp_b 502) = true := by decide +kernel
theorem gc_503 : ∀ i, i < 503 → gp_go 16 (gp_b i) = true := gp_nx gc_502 gb_502
set_option maxRecDepth 100000 in
theorem gb_503 : gp_go 16 (gp_b 503) = true := by decide +kernel
theorem gc_504 : ∀ i, i < 504 → gp_go 16 (gp_b i) = true := gp_nx gc_503 gb_503
set_option maxRecDepth 100000 in
theorem gb_504 : gp_go 16 (gp_b 504) = true := by decide +kernel
theorem gc_505 : ∀ i, i < 505 → gp_go 16 (gp_b i) = true := gp_nx gc_504 gb_504
set_option maxRecDepth 100000 in
theorem gb_505 : gp_go 16 (gp_b 505) = true := by decide +kernel
theorem gc_506 : ∀ i, i < 506 → gp_go 16 (gp_b i) = true := gp_nx gc_505 gb_505
set_option maxRecDepth 100000 in
theorem gb_506 : gp_go 16 (gp_b 506) = true := by decide +kernel
theorem gc_507 : ∀ i, i < 507 → gp_go 16 (gp_b i) = true := gp_nx gc_506 gb_506
set_option maxRecDepth 100000 in
theorem gb_507 : gp_go 16 (gp_b 507) = true := by decide +kernel
theorem gc_508 : ∀ i, i < 508 → gp_go 16 (gp_b i) = true := gp_nx gc_507 gb_507
set_option maxRecDepth 100000 in
theorem gb_508 : gp_go 16 (gp_b 508) = true := by decide +kernel
theorem gc_509 : ∀ i, i < 509 → gp_go 16 (gp_b i) = true := gp_nx gc_508 gb_508
set_option maxRecDepth 100000 in
theorem gb_509 : gp_go 16 (gp_b 509) = true := by decide +kernel
theorem gc_510 : ∀ i, i < 510 → gp_go 16 (gp_b i) = true := gp_nx gc_509 gb_509
set_option maxRecDepth 100000 in
theorem gb_510 : gp_go 16 (gp_b 510) = true := by decide +kernel
theorem gc_511 : ∀ i, i < 511 → gp_go 16 (gp_b i) = true := gp_nx gc_510 gb_510
set_option maxRecDepth 100000 in
theorem gb_511 : gp_go 16 (gp_b 511) = true := by decide +kernel
theorem gc_512 : ∀ i, i < 512 → gp_go 16 (gp_b i) = true := gp_nx gc_511 gb_511
set_option maxRecDepth 100000 in
theorem gb_512 : gp_go 16 (gp_b 512) = true := by decide +kernel
theorem gc_513 : ∀ i, i < 513 → gp_go 16 (gp_b i) = true := gp_nx gc_512 gb_512
set_option maxRecDepth 100000 in
theorem gb_513 : gp_go 16 (gp_b 513) = true := by decide +kernel
theorem gc_514 : ∀ i, i < 514 → gp_go 16 (gp_b i) = true := gp_nx gc_513 gb_513
set_option maxRecDepth 100000 in
theorem gb_514 : gp_go 16 (gp_b 514) = true := by decide +kernel
theorem gc_515 : ∀ i, i < 515 → gp_go 16 (gp_b i) = true := gp_nx gc_514 gb_514
set_option maxRecDepth 100000 in
theorem gb_515 : gp_go 16 (gp_b 515) = true := by decide +kernel
theorem gc_516 : ∀ i, i < 516 → gp_go 16 (gp_b i) = true := gp_nx gc_515 gb_515
set_option maxRecDepth 100000 in
theorem gb_516 : gp_go 16 (gp_b 516) = true := by decide +kernel
theorem gc_517 : ∀ i, i < 517 → gp_go 16 (gp_b i) = true := gp_nx gc_516 gb_516
set_option maxRecDepth 100000 in
theorem gb_517 : gp_go 16 (gp_b 517) = true := by decide +kernel
theorem gc_518 : ∀ i, i < 518 → gp_go 16 (gp_b i) = true := gp_nx gc_517 gb_517
set_option maxRecDepth 100000 in
theorem gb_518 : gp_go 16 (gp_b 518) = true := by decide +kernel
theorem gc_519 : ∀ i, i < 519 → gp_go 16 (gp_b i) = true := gp_nx gc_518 gb_518
set_option maxRecDepth 100000 in
theorem gb_519 : gp_go 16 (gp_b 519) = true := by decide +kernel
theorem gc_520 : ∀ i, i < 520 → gp_go 16 (gp_b i) = true := gp_nx gc_519 gb_519
set_option maxRecDepth 100000 in
theorem gb_520 : gp_go 16 (gp_b 520) = true := by decide +kernel
theorem gc_521 : ∀ i, i < 521 → gp_go 16 (gp_b i) = true := gp_nx gc_520 gb_520
set_option maxRecDepth 100000 in
theorem gb_521 : gp_go 16 (gp_b 521) = true := by decide +kernel
theorem gc_522 : ∀ i, i < 522 → gp_go 16 (gp_b i) = true := gp_nx gc_521 gb_521
set_option maxRecDepth 100000 in
theorem gb_522 : gp_go 16 (gp_b 522) = true := by decide +kernel
theorem gc_523 : ∀ i, i < 523 → gp_go 16 (gp_b i) = true := gp_nx gc_522 gb_522
set_option maxRecDepth 100000 in
theorem gb_523 : gp_go 16 (gp_b 523) = true := by decide +kernel
theorem gc_524 : ∀ i, i < 524 → gp_go 16 (gp_b i) = true := gp_nx gc_523 gb_523
set_option maxRecDepth 100000 in
theorem gb_524 : gp_go 16 (gp_b 524) = true := by decide +kernel
theorem gc_525 : ∀ i, i < 525 → gp_go 16 (gp_b i) = true := gp_nx gc_524 gb_524
set_option maxRecDepth 100000 in
theorem gb_525 : gp_go 16 (gp_b 525) = true := by decide +kernel
theorem gc_526 : ∀ i, i < 526 → gp_go 16 (gp_b i) = true := gp_nx gc_525 gb_525
set_option maxRecDepth 100000 in
theorem gb_526 : gp_go 16 (gp_b 526) = true := by decide +kernel
theorem gc_527 : ∀ i, i < 527 → gp_go 16 (gp_b i) = true := gp_nx gc_526 gb_526
set_option maxRecDepth 100000 in
theorem gb_527 : gp_go 16 (gp_b 527) = true := by decide +kernel
theorem gc_528 : ∀ i, i < 528 → gp_go 16 (gp_b i) = true := gp_nx gc_527 gb_527
set_option maxRecDepth 100000 in
theorem gb_528 : gp_go 16 (gp_b 528) = true := by decide +kernel
theorem gc_529 : ∀ i, i < 529 → gp_go 16 (gp_b i) = true := gp_nx gc_528 gb_528
set_option maxRecDepth 100000 in
theorem gb_529 : gp_go 16 (gp_b 529) = true := by decide +kernel
theorem gc_530 : ∀ i, i < 530 → gp_go 16 (gp_b i) = true := gp_nx gc_529 gb_529
set_option maxRecDepth 100000 in
theorem gb_530 : gp_go 16 (gp_b 530) = true := by decide +kernel
theorem gc_531 : ∀ i, i < 531 → gp_go 16 (gp_b i) = true := gp_nx gc_530 gb_530
set_option maxRecDepth 100000 in
theorem gb_531 : gp_go 16 (gp_b 531) = true := by decide +kernel
theorem gc_532 : ∀ i, i < 532 → gp_go 16 (gp_b i) = true := gp_nx gc_531 gb_531
set_option maxRecDepth 100000 in
theorem gb_532 : gp_go 16 (gp_b 532) = true := by decide +kernel
theorem gc_533 : ∀ i, i < 533 → gp_go 16 (gp_b i) = true := gp_nx gc_532 gb_532
set_option maxRecDepth 100000 in
theorem gb_533 : gp_go 16 (gp_b 533) = true := by decide +kernel
theorem gc_534 : ∀ i, i < 534 → gp_go 16 (gp_b i) = true := gp_nx gc_533 gb_533
set_option maxRecDepth 100000 in
theorem gb_534 : gp_go 16 (gp_b 534) = true := by decide +kernel
theorem gc_535 : ∀ i, i < 535 → gp_go 16 (gp_b i) = true := gp_nx gc_534 gb_534
set_option maxRecDepth 100000 in
theorem gb_535 : gp_go 16 (gp_b 535) = true := by decide +kernel
theorem gc_536 : ∀ i, i < 536 → gp_go 16 (gp_b i) = true := gp_nx gc_535 gb_535
set_option maxRecDepth 100000 in
theorem gb_536 : gp_go 16 (gp_b 536) = true := by decide +kernel
theorem gc_537 : ∀ i, i < 537 → gp_go 16 (gp_b i) = true := gp_nx gc_536 gb_536
set_option maxRecDepth 100000 in
theorem gb_537 : gp_go 16 (gp_b 537) = true := by decide +kernel
theorem gc_538 : ∀ i, i < 538 → gp_go 16 (gp_b i) = true := gp_nx gc_537 gb_537
set_option maxRecDepth 100000 in
theorem gb_538 : gp_go 16 (gp_b 538) = true := by decide +kernel
theorem gc_539 : ∀ i, i < 539 → gp_go 16 (gp_b i) = true := gp_nx gc_538 gb_538
set_option maxRecDepth 100000 in
theorem gb_539 : gp_go 16 (gp_b 539) = true := by decide +kernel
theorem gc_540 : ∀ i, i < 540 → gp_go 16 (gp_b i) = true := gp_nx gc_539 gb_539
set_option maxRecDepth 100000 in
theorem gb_540 : gp_go 16 (gp_b 540) = true := by decide +kernel
theorem gc_541 : ∀ i, i < 541 → gp_go 16 (gp_b i) = true := gp_nx gc_540 gb_540
set_option maxRecDepth 100000 in
theorem gb_541 : gp_go 16 (gp_b 541) = true := by decide +kernel
theorem gc_542 : ∀ i, i < 542 → gp_go 16 (gp_b i) = true := gp_nx gc_541 gb_541
set_option maxRecDepth 100000 in
theorem gb_542 : gp_go 16 (gp_b 542) = true := by decide +kernel
theorem gc_543 : ∀ i, i < 543 → gp_go 16 (gp_b i) = true := gp_nx gc_542 gb_542
set_option maxRecDepth 100000 in
theorem gb_543 : gp_go 16 (gp_b 543) = true := by decide +kernel
theorem gc_544 : ∀ i, i < 544 → gp_go 16 (gp_b i) = true := gp_nx gc_543 gb_543
set_option maxRecDepth 100000 in
theorem gb_544 : gp_go 16 (gp_b 544) = true := by decide +kernel
theorem gc_545 : ∀ i, i < 545 → gp_go 16 (gp_b i) = true := gp_nx gc_544 gb_544
set_option maxRecDepth 100000 in
theorem gb_545 : gp_go 16 (gp_b 545) = true := by decide +kernel
theorem gc_546 : ∀ i, i < 546 → gp_go 16 (gp_b i) = true := gp_nx gc_545 gb_545
set_option maxRecDepth 100000 in
theorem gb_546 : gp_go 16 (gp_b 546) = true := by decide +kernel
theorem gc_547 : ∀ i, i < 547 → gp_go 16 (gp_b i) = true := gp_nx gc_546 gb_546
set_option maxRecDepth 100000 in
theorem gb_547 : gp_go 16 (gp_b 547) = true := by decide +kernel
theorem gc_548 : ∀ i, i < 548 → gp_go 16 (gp_b i) = true := gp_nx gc_547 gb_547
set_option maxRecDepth 100000 in
theorem gb_548 : gp_go 16 (gp_b 548) = true := by decide +kernel
theorem gc_549 : ∀ i, i < 549 → gp_go 16 (gp_b i) = true := gp_nx gc_548 gb_548
set_option maxRecDepth 100000 in
theorem gb_549 : gp_go 16 (gp_b 549) = true := by decide +kernel
theorem gc_550 : ∀ i, i < 550 → gp_go 16 (gp_b i) = true := gp_nx gc_549 gb_549
set_option maxRecDepth 100000 in
theorem gb_550 : gp_go 16 (gp_b 550) = true := by decide +kernel
theorem gc_551 : ∀ i, i < 551 → gp_go 16 (gp_b i) = true := gp_nx gc_550 gb_550
set_option maxRecDepth 100000 in
theorem gb_551 : gp_go 16 (gp_b 551) = true := by decide +kernel
theorem gc_552 : ∀ i, i < 552 → gp_go 16 (gp_b i) = true := gp_nx gc_551 gb_551
set_option maxRecDepth 100000 in
theorem gb_552 : gp_go 16 (gp_b 552) = true := by decide +kernel
theorem gc_553 : ∀ i, i < 553 → gp_go 16 (gp_b i) = true := gp_nx gc_552 gb_552
set_option maxRecDepth 100000 in
theorem gb_553 : gp_go 16 (gp_b 553) = true := by decide +kernel
theorem gc_554 : ∀ i, i < 554 → gp_go 16 (gp_b i) = true := gp_nx gc_553 gb_553
set_option maxRecDepth 100000 in
theorem gb_554 : gp_go 16 (gp_b 554) = true := by decide +kernel
theorem gc_555 : ∀ i, i < 555 → gp_go 16 (gp_b i) = true := gp_nx gc_554 gb_554
set_option maxRecDepth 100000 in
theorem gb_555 : gp_go 16 (gp_b 555) = true := by decide +kernel
theorem gc_556 : ∀ i, i < 556 → gp_go 16 (gp_b i) = true := gp_nx gc_555 gb_555
set_option maxRecDepth 100000 in
theorem gb_556 : gp_go 16 (gp_b 556) = true := by decide +kernel
theorem gc_557 : ∀ i, i < 557 → gp_go 16 (gp_b i) = true := gp_nx gc_556 gb_556
set_option maxRecDepth 100000 in
theorem gb_557 : gp_go 16 (gp_b 557) = true := by decide +kernel
theorem gc_558 : ∀ i, i < 558 → gp_go 16 (gp_b i) = true := gp_nx gc_557 gb_557
set_option maxRecDepth 100000 in
theorem gb_558 : gp_go 16 (gp_b 558) = true := by decide +kernel
theorem gc_559 : ∀ i, i < 559 → gp_go 16 (gp_b i) = true := gp_nx gc_558 gb_558
set_option maxRecDepth 100000 in
theorem gb_559 : gp_go 16 (gp_b 559) = true := by decide +kernel
theorem gc_560 : ∀ i, i < 560 → gp_go 16 (gp_b i) = true := gp_nx gc_559 gb_559
set_option maxRecDepth 100000 in
theorem gb_560 : gp_go 16 (gp_b 560) = true := by decide +kernel
theorem gc_561 : ∀ i, i < 561 → gp_go 16 (gp_b i) = true := gp_nx gc_560 gb_560
set_option maxRecDepth 100000 in
theorem gb_561 : gp_go 16 (gp_b 561) = true := by decide +kernel
theorem gc_562 : ∀ i, i < 562 → gp_go 16 (gp_b i) = true := gp_nx gc_561 gb_561
set_option maxRecDepth 100000 in
theorem gb_562 : gp_go 16 (gp_b 562) = true := by decide +kernel
theorem gc_563 : ∀ i, i < 563 → gp_go 16 (gp_b i) = true := gp_nx gc_562 gb_562
set_option maxRecDepth 100000 in
theorem gb_563 : gp_go 16 (gp_b 563) = true := by decide +kernel
theorem gc_564 : ∀ i, i < 564 → gp_go 16 (gp_b i) = true := gp_nx gc_563 gb_563
set_option maxRecDepth 100000 in
theorem gb_564 : gp_go 16 (gp_b 564) = true := by decide +kernel
theorem gc_565 : ∀ i, i < 565 → gp_go 16 (gp_b i) = true := gp_nx gc_564 gb_564
set_option maxRecDepth 100000 in
theorem gb_565 : gp_go 16 (gp_b 565) = true := by decide +kernel
theorem gc_566 : ∀ i, i < 566 → gp_go 16 (gp_b i) = true := gp_nx gc_565 gb_565
set_option maxRecDepth 100000 in
theorem gb_566 : gp_go 16 (gp_b 566) = true := by decide +kernel
theorem gc_567 : ∀ i, i < 567 → gp_go 16 (gp_b i) = true := gp_nx gc_566 gb_566
set_option maxRecDepth 100000 in
theorem gb_567 : gp_go 16 (gp_b 567) = true := by decide +kernel
theorem gc_568 : ∀ i, i < 568 → gp_go 16 (gp_b i) = true := gp_nx gc_567 gb_567
set_option maxRecDepth 100000 in
theorem gb_568 : gp_go 16 (gp_b 568) = true := by decide +kernel
theorem gc_569 : ∀ i, i < 569 → gp_go 16 (gp_b i) = true := gp_nx gc_568 gb_568
set_option maxRecDepth 100000 in
theorem gb_569 : gp_go 16 (gp_b 569) = true := by decide +kernel
theorem gc_570 : ∀ i, i < 570 → gp_go 16 (gp_b i) = true := gp_nx gc_569 gb_569
set_option maxRecDepth 100000 in
theorem gb_570 : gp_go 16 (gp_b 570) = true := by decide +kernel
theorem gc_571 : ∀ i, i < 571 → gp_go 16 (gp_b i) = true := gp_nx gc_570 gb_570
set_option maxRecDepth 100000 in
theorem gb_571 : gp_go 16 (gp_b 571) = true := by decide +kernel
theorem gc_572 : ∀ i, i < 572 → gp_go 16 (gp_b i) = true := gp_nx gc_571 gb_571
set_option maxRecDepth 100000 in
theorem gb_572 : gp_go 16 (gp_b 572) = true := by decide +kernel
theorem gc_573 : ∀ i, i < 573 → gp_go 16 (gp_b i) = true := gp_nx gc_572 gb_572
set_option maxRecDepth 100000 in
theorem gb_573 : gp_go 16 (gp_b 573) = true := by decide +kernel
theorem gc_574 : ∀ i, i < 574 → gp_go 16 (gp_b i) = true := gp_nx gc_573 gb_573
set_option maxRecDepth 100000 in
theorem gb_574 : gp_go 16 (gp_b 574) = true := by decide +kernel
theorem gc_575 : ∀ i, i < 575 → gp_go 16 (gp_b i) = true := gp_nx gc_574 gb_574
set_option maxRecDepth 100000 in
theorem gb_575 : gp_go 16 (gp_b 575) = true := by decide +kernel
theorem gc_576 : ∀ i, i < 576 → gp_go 16 (gp_b i) = true := gp_nx gc_575 gb_575
set_option maxRecDepth 100000 in
theorem gb_576 : gp_go 16 (gp_b 576) = true := by decide +kernel
theorem gc_577 : ∀ i, i < 577 → gp_go 16 (gp_b i) = true := gp_nx gc_576 gb_576
set_option maxRecDepth 100000 in
theorem gb_577 : gp_go 16 (gp_b 577) = true := by decide +kernel
theorem gc_578 : ∀ i, i < 578 → gp_go 16 (gp_b i) = true := gp_nx gc_577 gb_577
set_option maxRecDepth 100000 in
theorem gb_578 : gp_go 16 (gp_b 578) = true := by decide +kernel
theorem gc_579 : ∀ i, i < 579 → gp_go 16 (gp_b i) = true := gp_nx gc_578 gb_578
set_option maxRecDepth 100000 in
theorem gb_579 : gp_go 16 (gp_b 579) = true := by decide +kernel
theorem gc_580 : ∀ i, i < 580 → gp_go 16 (gp_b i) = true := gp_nx gc_579 gb_579
set_option maxRecDepth 100000 in
theorem gb_580 : gp_go 16 (gp_b 580) = true := by decide +kernel
theorem gc_581 : ∀ i, i < 581 → gp_go 16 (gp_b i) = true := gp_nx gc_580 gb_580
set_option maxRecDepth 100000 in
theorem gb_581 : gp_go 16 (gp_b 581) = true := by decide +kernel
theorem gc_582 : ∀ i, i < 582 → gp_go 16 (gp_b i) = true := gp_nx gc_581 gb_581
set_option maxRecDepth 100000 in
theorem gb_582 : gp_go 16 (gp_b 582) = true := by decide +kernel
theorem gc_583 : ∀ i, i < 583 → gp_go 16 (gp_b i) = true := gp_nx gc_582 gb_582
set_option maxRecDepth 100000 in
theorem gb_583 : gp_go 16 (gp_b 583) = true := by decide +kernel
theorem gc_584 : ∀ i, i < 584 → gp_go 16 (gp_b i) = true := gp_nx gc_583 gb_583
set_option maxRecDepth 100000 in
theorem gb_584 : gp_go 16 (gp_b 584) = true := by decide +kernel
theorem gc_585 : ∀ i, i < 585 → gp_go 16 (gp_b i) = true := gp_nx gc_584 gb_584
set_option maxRecDepth 100000 in
theorem gb_585 : gp_go 16 (gp_b 585) = true := by decide +kernel
theorem gc_586 : ∀ i, i < 586 → gp_go 16 (gp_b i) = true := gp_nx gc_585 gb_585
set_option maxRecDepth 100000 in
theorem gb_586 : gp_go 16 (gp_b 586) = true := by decide +kernel
theorem gc_587 : ∀ i, i < 587 → gp_go 16 (gp_b i) = true := gp_nx gc_586 gb_586
set_option maxRecDepth 100000 in
theorem gb_587 : gp_go 16 (gp_b 587) = true := by decide +kernel
theorem gc_588 : ∀ i, i < 588 → gp_go 16 (gp_b i) = true := gp_nx gc_587 gb_587
set_option maxRecDepth 100000 in
theorem gb_588 : gp_go 16 (gp_b 588) = true := by decide +kernel
theorem gc_589 : ∀ i, i < 589 → gp_go 16 (gp_b i) = true := gp_nx gc_588 gb_588
set_option maxRecDepth 100000 in
theorem gb_589 : gp_go 16 (gp_b 589) = true := by decide +kernel
theorem gc_590 : ∀ i, i < 590 → gp_go 16 (gp_b i) = true := gp_nx gc_589 gb_589
set_option maxRecDepth 100000 in
theorem gb_590 : gp_go 16 (gp_b 590) = true := by decide +kernel
theorem gc_591 : ∀ i, i < 591 → gp_go 16 (gp_b i) = true := gp_nx gc_590 gb_590
set_option maxRecDepth 100000 in
theorem gb_591 : gp_go 16 (gp_b 591) = true := by decide +kernel
theorem gc_592 : ∀ i, i < 592 → gp_go 16 (gp_b i) = true := gp_nx gc_591 gb_591
set_option maxRecDepth 100000 in
theorem gb_592 : gp_go 16 (gp_b 592) = true := by decide +kernel
theorem gc_593 : ∀ i, i < 593 → gp_go 16 (gp_b i) = true := gp_nx gc_592 gb_592
set_option maxRecDepth 100000 in
theorem gb_593 : gp_go 16 (gp_b 593) = true := by decide +kernel
theorem gc_594 : ∀ i, i < 594 → gp_go 16 (gp_b i) = true := gp_nx gc_593 gb_593
set_option maxRecDepth 100000 in
theorem gb_594 : gp_go 16 (gp_b 594) = true := by decide +kernel
theorem gc_595 : ∀ i, i < 595 → gp_go 16 (gp_b i) = true := gp_nx gc_594 gb_594
set_option maxRecDepth 100000 in
theorem gb_595 : gp_go 16 (gp_b 595) = true := by decide +kernel
theorem gc_596 : ∀ i, i < 596 → gp_go 16 (gp_b i) = true := gp_nx gc_595 gb_595
set_option maxRecDepth 100000 in
theorem gb_596 : gp_go 16 (gp_b 596) = true := by decide +kernel
theorem gc_597 : ∀ i, i < 597 → gp_go 16 (gp_b i) = true := gp_nx gc_596 gb_596
set_option maxRecDepth 100000 in
theorem gb_597 : gp_go 16 (gp_b 597) = true := by decide +kernel
theorem gc_598 : ∀ i, i < 598 → gp_go 16 (gp_b i) = true := gp_nx gc_597 gb_597
set_option maxRecDepth 100000 in
theorem gb_598 : gp_go 16 (gp_b 598) = true := by decide +kernel
theorem gc_599 : ∀ i, i < 599 → gp_go 16 (gp_b i) = true := gp_nx gc_598 gb_598
set_option maxRecDepth 100000 in
theorem gb_599 : gp_go 16 (gp_b 599) = true := by decide +kernel
theorem gc_600 : ∀ i, i < 600 → gp_go 16 (gp_b i) = true := gp_nx gc_599 gb_599
set_option maxRecDepth 100000 in
theorem gb_600 : gp_go 16 (gp_b 600) = true := by decide +kernel
theorem gc_601 : ∀ i, i < 601 → gp_go 16 (gp_b i) = true := gp_nx gc_600 gb_600
set_option maxRecDepth 100000 in
theorem gb_601 : gp_go 16 (gp_b 601) = true := by decide +kernel
theorem gc_602 : ∀ i, i < 602 → gp_go 16 (gp_b i) = true := gp_nx gc_601 gb_601
set_option maxRecDepth 100000 in
theorem gb_602 : gp_go 16 (gp_b 602) = true := by decide +kernel
theorem gc_603 : ∀ i, i < 603 → gp_go 16 (gp_b i) = true := gp_nx gc_602 gb_602
set_option maxRecDepth 100000 in
theorem gb_603 : gp_go 16 (gp_b 603) = true := by decide +kernel
theorem gc_604 : ∀ i, i < 604 → gp_go 16 (gp_b i) = true := gp_nx gc_603 gb_603
set_option maxRecDepth 100000 in
theorem gb_604 : gp_go 16 (gp_b 604) = true := by decide +kernel
theorem gc_605 : ∀ i, i < 605 → gp_go 16 (gp_b i) = true := gp_nx gc_604 gb_604
set_option maxRecDepth 100000 in
theorem gb_605 : gp_go 16 (gp_b 605) = true := by decide +kernel
theorem gc_606 : ∀ i, i < 606 → gp_go 16 (gp_b i) = true := gp_nx gc_605 gb_605
set_option maxRecDepth 100000 in
theorem gb_606 : gp_go 16 (gp_b 606) = true := by decide +kernel
theorem gc_607 : ∀ i, i < 607 → gp_go 16 (gp_b i) = true := gp_nx gc_606 gb_606
set_option maxRecDepth 100000 in
theorem gb_607 : gp_go 16 (gp_b 607) = true := by decide +kernel
theorem gc_608 : ∀ i, i < 608 → gp_go 16 (gp_b i) = true := gp_nx gc_607 gb_607
set_option maxRecDepth 100000 in
theorem gb_608 : gp_go 16 (gp_b 608) = true := by decide +kernel
theorem gc_609 : ∀ i, i < 609 → gp_go 16 (gp_b i) = true := gp_nx gc_608 gb_608
set_option maxRecDepth 100000 in
theorem gb_609 : gp_go 16 (gp_b 609) = true := by decide +kernel
theorem gc_610 : ∀ i, i < 610 → gp_go 16 (gp_b i) = true := gp_nx gc_609 gb_609
set_option maxRecDepth 100000 in
theorem gb_610 : gp_go 16 (gp_b 610) = true := by decide +kernel
theorem gc_611 : ∀ i, i < 611 → gp_go 16 (gp_b i) = true := gp_nx gc_610 gb_610
set_option maxRecDepth 100000 in
theorem gb_611 : gp_go 16 (gp_b 611) = true := by decide +kernel
theorem gc_612 : ∀ i, i < 612 → gp_go 16 (gp_b i) = true := gp_nx gc_611 gb_611
set_option maxRecDepth 100000 in
theorem gb_612 : gp_go 16 (gp_b 612) = true := by decide +kernel
theorem gc_613 : ∀ i, i < 613 → gp_go 16 (gp_b i) = true := gp_nx gc_612 gb_612
set_option maxRecDepth 100000 in
theorem gb_613 : gp_go 16 (gp_b 613) = true := by decide +kernel
theorem gc_614 : ∀ i, i < 614 → gp_go 16 (gp_b i) = true := gp_nx gc_613 gb_613
set_option maxRecDepth 100000 in
theorem gb_614 : gp_go 16 (gp_b 614) = true := by decide +kernel
theorem gc_615 : ∀ i, i < 615 → gp_go 16 (gp_b i) = true := gp_nx gc_614 gb_614
set_option maxRecDepth 100000 in
theorem gb_615 : gp_go 16 (gp_b 615) = true := by decide +kernel
theorem gc_616 : ∀ i, i < 616 → gp_go 16 (gp_b i) = true := gp_nx gc_615 gb_615
set_option maxRecDepth 100000 in
theorem gb_616 : gp_go 16 (gp_b 616) = true := by decide +kernel
theorem gc_617 : ∀ i, i < 617 → gp_go 16 (gp_b i) = true := gp_nx gc_616 gb_616
set_option maxRecDepth 100000 in
theorem gb_617 : gp_go 16 (gp_b 617) = true := by decide +kernel
theorem gc_618 : ∀ i, i < 618 → gp_go 16 (gp_b i) = true := gp_nx gc_617 gb_617
set_option maxRecDepth 100000 in
theorem gb_618 : gp_go 16 (gp_b 618) = true := by decide +kernel
theorem gc_619 : ∀ i, i < 619 → gp_go 16 (gp_b i) = true := gp_nx gc_618 gb_618
set_option maxRecDepth 100000 in
theorem gb_619 : gp_go 16 (gp_b 619) = true := by decide +kernel
theorem gc_620 : ∀ i, i < 620 → gp_go 16 (gp_b i) = true := gp_nx gc_619 gb_619
set_option maxRecDepth 100000 in
theorem gb_620 : gp_go 16 (gp_b 620) = true := by decide +kernel
theorem gc_621 : ∀ i, i < 621 → gp_go 16 (gp_b i) = true := gp_nx gc_620 gb_620
set_option maxRecDepth 100000 in
theorem gb_621 : gp_go 16 (gp_b 621) = true := by decide +kernel
theorem gc_622 : ∀ i, i < 622 → gp_go 16 (gp_b i) = true := gp_nx gc_621 gb_621
set_option maxRecDepth 100000 in
theorem gb_622 : gp_go 16 (gp_b 622) = true := by decide +kernel
theorem gc_623 : ∀ i, i < 623 → gp_go 16 (gp_b i) = true := gp_nx gc_622 gb_622
set_option maxRecDepth 100000 in
theorem gb_623 : gp_go 16 (gp_b 623) = true := by decide +kernel
theorem gc_624 : ∀ i, i < 624 → gp_go 16 (gp_b i) = true := gp_nx gc_623 gb_623
set_option maxRecDepth 100000 in
theorem gb_624 : gp_go 16 (gp_b 624) = true := by decide +kernel
theorem gc_625 : ∀ i, i < 625 → gp_go 16 (gp_b i) = true := gp_nx gc_624 gb_624
set_option maxRecDepth 100000 in
theorem gb_625 : gp_go 16 (gp_b 625) = true := by decide +kernel
theorem gc_626 : ∀ i, i < 626 → gp_go 16 (gp_b i) = true := gp_nx gc_625 gb_625
set_option maxRecDepth 100000 in
theorem gb_626 : gp_go 16 (gp_b 626) = true := by decide +kernel
theorem gc_627 : ∀ i, i < 627 → gp_go 16 (gp_b i) = true := gp_nx gc_626 gb_626
set_option maxRecDepth 100000 in
theorem gb_627 : gp_go 16 (gp_b 627) = true := by decide +kernel
theorem gc_628 : ∀ i, i < 628 → gp_go 16 (gp_b i) = true := gp_nx gc_627 gb_627
set_option maxRecDepth 100000 in
theorem gb_628 : gp_go 16 (gp_b 628) = true := by decide +kernel
theorem gc_629 : ∀ i, i < 629 → gp_go 16 (gp_b i) = true := gp_nx gc_628 gb_628
set_option maxRecDepth 100000 in
theorem gb_629 : gp_go 16 (gp_b 629) = true := by decide +kernel
theorem gc_630 : ∀ i, i < 630 → gp_go 16 (gp_b i) = true := gp_nx gc_629 gb_629
set_option maxRecDepth 100000 in
theorem gb_630 : gp_go 16 (gp_b 630) = true := by decide +kernel
theorem gc_631 : ∀ i, i < 631 → gp_go 16 (gp_b i) = true := gp_nx gc_630 gb_630
set_option maxRecDepth 100000 in
theorem gb_631 : gp_go 16 (gp_b 631) = true := by decide +kernel
theorem gc_632 : ∀ i, i < 632 → gp_go 16 (gp_b i) = true := gp_nx gc_631 gb_631
set_option maxRecDepth 100000 in
theorem gb_632 : gp_go 16 (gp_b 632) = true := by decide +kernel
theorem gc_633 : ∀ i, i < 633 → gp_go 16 (gp_b i) = true := gp_nx gc_632 gb_632
set_option maxRecDepth 100000 in
theorem gb_633 : gp_go 16 (gp_b 633) = true := by decide +kernel
theorem gc_634 : ∀ i, i < 634 → gp_go 16 (gp_b i) = true := gp_nx gc_633 gb_633
set_option maxRecDepth 100000 in
theorem gb_634 : gp_go 16 (gp_b 634) = true := by decide +kernel
theorem gc_635 : ∀ i, i < 635 → gp_go 16 (gp_b i) = true := gp_nx gc_634 gb_634
set_option maxRecDepth 100000 in
theorem gb_635 : gp_go 16 (gp_b 635) = true := by decide +kernel
theorem gc_636 : ∀ i, i < 636 → gp_go 16 (gp_b i) = true := gp_nx gc_635 gb_635
set_option maxRecDepth 100000 in
theorem gb_636 : gp_go 16 (gp_b 636) = true := by decide +kernel
theorem gc_637 : ∀ i, i < 637 → gp_go 16 (gp_b i) = true := gp_nx gc_636 gb_636
set_option maxRecDepth 100000 in
theorem gb_637 : gp_go 16 (gp_b 637) = true := by decide +kernel
theorem gc_638 : ∀ i, i < 638 → gp_go 16 (gp_b i) = true := gp_nx gc_637 gb_637
set_option maxRecDepth 100000 in
theorem gb_638 : gp_go 16 (gp_b 638) = true := by decide +kernel
theorem gc_639 : ∀ i, i < 639 → gp_go 16 (gp_b i) = true := gp_nx gc_638 gb_638
set_option maxRecDepth 100000 in
theorem gb_639 : gp_go 16 (gp_b 639) = true := by decide +kernel
theorem gc_640 : ∀ i, i < 640 → gp_go 16 (gp_b i) = true := gp_nx gc_639 gb_639
set_option maxRecDepth 100000 in
theorem gb_640 : gp_go 16 (gp_b 640) = true := by decide +kernel
theorem gc_641 : ∀ i, i < 641 → gp_go 16 (gp_b i) = true := gp_nx gc_640 gb_640
set_option maxRecDepth 100000 in
theorem gb_641 : gp_go 16 (gp_b 641) = true := by decide +kernel
theorem gc_642 : ∀ i, i < 642 → gp_go 16 (gp_b i) = true := gp_nx gc_641 gb_641
set_option maxRecDepth 100000 in
theorem gb_642 : gp_go 16 (gp_b 642) = true := by decide +kernel
theorem gc_643 : ∀ i, i < 643 → gp_go 16 (gp_b i) = true := gp_nx gc_642 gb_642
set_option maxRecDepth 100000 in
theorem gb_643 : gp_go 16 (gp_b 643) = true := by decide +kernel
theorem gc_644 : ∀ i, i < 644 → gp_go 16 (gp_b i) = true := gp_nx gc_643 gb_643
set_option maxRecDepth 100000 in
theorem gb_644 : gp_go 16 (gp_b 644) = true := by decide +kernel
theorem gc_645 : ∀ i, i < 645 → gp_go 16 (gp_b i) = true := gp_nx gc_644 gb_644
set_option maxRecDepth 100000 in
theorem gb_645 : gp_go 16 (gp_b 645) = true := by decide +kernel
theorem gc_646 : ∀ i, i < 646 → gp_go 16 (gp_b i) = true := gp_nx gc_645 gb_645
set_option maxRecDepth 100000 in
theorem gb_646 : gp_go 16 (gp_b 646) = true := by decide +kernel
theorem gc_647 : ∀ i, i < 647 → gp_go 16 (gp_b i) = true := gp_nx gc_646 gb_646
set_option maxRecDepth 100000 in
theorem gb_647 : gp_go 16 (gp_b 647) = true := by decide +kernel
theorem gc_648 : ∀ i, i < 648 → gp_go 16 (gp_b i) = true := gp_nx gc_647 gb_647
set_option maxRecDepth 100000 in
theorem gb_648 : gp_go 16 (gp_b 648) = true := by decide +kernel
theorem gc_649 : ∀ i, i < 649 → gp_go 16 (gp_b i) = true := gp_nx gc_648 gb_648
set_option maxRecDepth 100000 in
theorem gb_649 : gp_go 16 (gp_b 649) = true := by decide +kernel
theorem gc_650 : ∀ i, i < 650 → gp_go 16 (gp_b i) = true := gp_nx gc_649 gb_649
set_option maxRecDepth 100000 in
theorem gb_650 : gp_go 16 (gp_b 650) = true := by decide +kernel
theorem gc_651 : ∀ i, i < 651 → gp_go 16 (gp_b i) = true := gp_nx gc_650 gb_650
set_option maxRecDepth 100000 in
theorem gb_651 : gp_go 16 (gp_b 651) = true := by decide +kernel
theorem gc_652 : ∀ i, i < 652 → gp_go 16 (gp_b i) = true := gp_nx gc_651 gb_651
set_option maxRecDepth 100000 in
theorem gb_652 : gp_go 16 (gp_b 652) = true := by decide +kernel
theorem gc_653 : ∀ i, i < 653 → gp_go 16 (gp_b i) = true := gp_nx gc_652 gb_652
set_option maxRecDepth 100000 in
theorem gb_653 : gp_go 16 (gp_b 653) = true := by decide +kernel
theorem gc_654 : ∀ i, i < 654 → gp_go 16 (gp_b i) = true := gp_nx gc_653 gb_653
set_option maxRecDepth 100000 in
theorem gb_654 : gp_go 16 (gp_b 654) = true := by decide +kernel
theorem gc_655 : ∀ i, i < 655 → gp_go 16 (gp_b i) = true := gp_nx gc_654 gb_654
set_option maxRecDepth 100000 in
theorem gb_655 : gp_go 16 (gp_b 655) = true := by decide +kernel
theorem gc_656 : ∀ i, i < 656 → gp_go 16 (gp_b i) = true := gp_nx gc_655 gb_655
set_option maxRecDepth 100000 in
theorem gb_656 : gp_go 16 (gp_b 656) = true := by decide +kernel
theorem gc_657 : ∀ i, i < 657 → gp_go 16 (gp_b i) = true := gp_nx gc_656 gb_656
set_option maxRecDepth 100000 in
theorem gb_657 : gp_go 16 (gp_b 657) = true := by decide +kernel
theorem gc_658 : ∀ i, i < 658 → gp_go 16 (gp_b i) = true := gp_nx gc_657 gb_657
set_option maxRecDepth 100000 in
theorem gb_658 : gp_go 16 (gp_b 658) = true := by decide +kernel
theorem gc_659 : ∀ i, i < 659 → gp_go 16 (gp_b i) = true := gp_nx gc_658 gb_658
set_option maxRecDepth 100000 in
theorem gb_659 : gp_go 16 (gp_b 659) = true := by decide +kernel
theorem gc_660 : ∀ i, i < 660 → gp_go 16 (gp_b i) = true := gp_nx gc_659 gb_659
set_option maxRecDepth 100000 in
theorem gb_660 : gp_go 16 (gp_b 660) = true := by decide +kernel
theorem gc_661 : ∀ i, i < 661 → gp_go 16 (gp_b i) = true := gp_nx gc_660 gb_660
set_option maxRecDepth 100000 in
theorem gb_661 : gp_go 16 (gp_b 661) = true := by decide +kernel
theorem gc_662 : ∀ i, i < 662 → gp_go 16 (gp_b i) = true := gp_nx gc_661 gb_661
set_option maxRecDepth 100000 in
theorem gb_662 : gp_go 16 (gp_b 662) = true := by decide +kernel
theorem gc_663 : ∀ i, i < 663 → gp_go 16 (gp_b i) = true := gp_nx gc_662 gb_662
set_option maxRecDepth 100000 in
theorem gb_663 : gp_go 16 (gp_b 663) = true := by decide +kernel
theorem gc_664 : ∀ i, i < 664 → gp_go 16 (gp_b i) = true := gp_nx gc_663 gb_663
set_option maxRecDepth 100000 in
theorem gb_664 : gp_go 16 (gp_b 664) = true := by decide +kernel
theorem gc_665 : ∀ i, i < 665 → gp_go 16 (gp_b i) = true := gp_nx gc_664 gb_664
set_option maxRecDepth 100000 in
theorem gb_665 : gp_go 16 (gp_b 665) = true := by decide +kernel
theorem gc_666 : ∀ i, i < 666 → gp_go 16 (gp_b i) = true := gp_nx gc_665 gb_665
set_option maxRecDepth 100000 in
theorem gb_666 : gp_go 16 (gp_b 666) = true := by decide +kernel
theorem gc_667 : ∀ i, i < 667 → gp_go 16 (gp_b i) = true := gp_nx gc_666 gb_666
set_option maxRecDepth 100000 in
theorem gb_667 : gp_go 16 (gp_b 667) = true := by decide +kernel
theorem gc_668 : ∀ i, i < 668 → gp_go 16 (gp_b i) = true := gp_nx gc_667 gb_667
set_option maxRecDepth 100000 in
theorem gb_668 : gp_go 16 (gp_b 668) = true := by decide +kernel
theorem gc_669 : ∀ i, i < 669 → gp_go 16 (gp_b i) = true := gp_nx gc_668 gb_668
set_option maxRecDepth 100000 in
theorem gb_669 : gp_go 16 (gp_b 669) = true := by decide +kernel
theorem gc_670 : ∀ i, i < 670 → gp_go 16 (gp_b i) = true := gp_nx gc_669 gb_669
set_option maxRecDepth 100000 in
theorem gb_670 : gp_go 16 (gp_b 670) = true := by decide +kernel
theorem gc_671 : ∀ i, i < 671 → gp_go 16 (gp_b i) = true := gp_nx gc_670 gb_670
set_option maxRecDepth 100000 in
theorem gb_671 : gp_go 16 (gp_b 671) = true := by decide +kernel
theorem gc_672 : ∀ i, i < 672 → gp_go 16 (gp_b i) = true := gp_nx gc_671 gb_671
set_option maxRecDepth 100000 in
theorem gb_672 : gp_go 16 (gp_b 672) = true := by decide +kernel
theorem gc_673 : ∀ i, i < 673 → gp_go 16 (gp_b i) = true := gp_nx gc_672 gb_672
set_option maxRecDepth 100000 in
theorem gb_673 : gp_go 16 (gp_b 673) = true := by decide +kernel
theorem gc_674 : ∀ i, i < 674 → gp_go 16 (gp_b i) = true := gp_nx gc_673 gb_673
set_option maxRecDepth 100000 in
theorem gb_674 : gp_go 16 (gp_b 674) = true := by decide +kernel
theorem gc_675 : ∀ i, i < 675 → gp_go 16 (gp_b i) = true := gp_nx gc_674 gb_674
set_option maxRecDepth 100000 in
theorem gb_675 : gp_go 16 (gp_b 675) = true := by decide +kernel
theorem gc_676 : ∀ i, i < 676 → gp_go 16 (gp_b i) = true := gp_nx gc_675 gb_675
set_option maxRecDepth 100000 in
theorem gb_676 : gp_go 16 (gp_b 676) = true := by decide +kernel
theorem gc_677 : ∀ i, i < 677 → gp_go 16 (gp_b i) = true := gp_nx gc_676 gb_676
set_option maxRecDepth 100000 in
theorem gb_677 : gp_go 16 (gp_b 677) = true := by decide +kernel
theorem gc_678 : ∀ i, i < 678 → gp_go 16 (gp_b i) = true := gp_nx gc_677 gb_677
set_option maxRecDepth 100000 in
theorem gb_678 : gp_go 16 (gp_b 678) = true := by decide +kernel
theorem gc_679 : ∀ i, i < 679 → gp_go 16 (gp_b i) = true := gp_nx gc_678 gb_678
set_option maxRecDepth 100000 in
theorem gb_679 : gp_go 16 (gp_b 679) = true := by decide +kernel
theorem gc_680 : ∀ i, i < 680 → gp_go 16 (gp_b i) = true := gp_nx gc_679 gb_679
set_option maxRecDepth 100000 in
theorem gb_680 : gp_go 16 (gp_b 680) = true := by decide +kernel
theorem gc_681 : ∀ i, i < 681 → gp_go 16 (gp_b i) = true := gp_nx gc_680 gb_680
set_option maxRecDepth 100000 in
theorem gb_681 : gp_go 16 (gp_b 681) = true := by decide +kernel
theorem gc_682 : ∀ i, i < 682 → gp_go 16 (gp_b i) = true := gp_nx gc_681 gb_681
set_option maxRecDepth 100000 in
theorem gb_682 : gp_go 16 (gp_b 682) = true := by decide +kernel
theorem gc_683 : ∀ i, i < 683 → gp_go 16 (gp_b i) = true := gp_nx gc_682 gb_682
set_option maxRecDepth 100000 in
theorem gb_683 : gp_go 16 (gp_b 683) = true := by decide +kernel
theorem gc_684 : ∀ i, i < 684 → gp_go 16 (gp_b i) = true := gp_nx gc_683 gb_683
set_option maxRecDepth 100000 in
theorem gb_684 : gp_go 16 (gp_b 684) = true := by decide +kernel
theorem gc_685 : ∀ i, i < 685 → gp_go 16 (gp_b i) = true := gp_nx gc_684 gb_684
set_option maxRecDepth 100000 in
theorem gb_685 : gp_go 16 (gp_b 685) = true := by decide +kernel
theorem gc_686 : ∀ i, i < 686 → gp_go 16 (gp_b i) = true := gp_nx gc_685 gb_685
set_option maxRecDepth 100000 in
theorem gb_686 : gp_go 16 (gp_b 686) = true := by decide +kernel
theorem gc_687 : ∀ i, i < 687 → gp_go 16 (gp_b i) = true := gp_nx gc_686 gb_686
set_option maxRecDepth 100000 in
theorem gb_687 : gp_go 16 (gp_b 687) = true := by decide +kernel
theorem gc_688 : ∀ i, i < 688 → gp_go 16 (gp_b i) = true := gp_nx gc_687 gb_687
set_option maxRecDepth 100000 in
theorem gb_688 : gp_go 16 (gp_b 688) = true := by decide +kernel
theorem gc_689 : ∀ i, i < 689 → gp_go 16 (gp_b i) = true := gp_nx gc_688 gb_688
set_option maxRecDepth 100000 in
theorem gb_689 : gp_go 16 (gp_b 689) = true := by decide +kernel
theorem gc_690 : ∀ i, i < 690 → gp_go 16 (gp_b i) = true := gp_nx gc_689 gb_689
set_option maxRecDepth 100000 in
theorem gb_690 : gp_go 16 (gp_b 690) = true := by decide +kernel
theorem gc_691 : ∀ i, i < 691 → gp_go 16 (gp_b i) = true := gp_nx gc_690 gb_690
set_option maxRecDepth 100000 in
theorem gb_691 : gp_go 16 (gp_b 691) = true := by decide +kernel
theorem gc_692 : ∀ i, i < 692 → gp_go 16 (gp_b i) = true := gp_nx gc_691 gb_691
set_option maxRecDepth 100000 in
theorem gb_692 : gp_go 16 (gp_b 692) = true := by decide +kernel
theorem gc_693 : ∀ i, i < 693 → gp_go 16 (gp_b i) = true := gp_nx gc_692 gb_692
set_option maxRecDepth 100000 in
theorem gb_693 : gp_go 16 (gp_b 693) = true := by decide +kernel
theorem gc_694 : ∀ i, i < 694 → gp_go 16 (gp_b i) = true := gp_nx gc_693 gb_693
set_option maxRecDepth 100000 in
theorem gb_694 : gp_go 16 (gp_b 694) = true := by decide +kernel
theorem gc_695 : ∀ i, i < 695 → gp_go 16 (gp_b i) = true := gp_nx gc_694 gb_694
set_option maxRecDepth 100000 in
theorem gb_695 : gp_go 16 (gp_b 695) = true := by decide +kernel
theorem gc_696 : ∀ i, i < 696 → gp_go 16 (gp_b i) = true := gp_nx gc_695 gb_695
set_option maxRecDepth 100000 in
theorem gb_696 : gp_go 16 (gp_b 696) = true := by decide +kernel
theorem gc_697 : ∀ i, i < 697 → gp_go 16 (gp_b i) = true := gp_nx gc_696 gb_696
set_option maxRecDepth 100000 in
theorem gb_697 : gp_go 16 (gp_b 697) = true := by decide +kernel
theorem gc_698 : ∀ i, i < 698 → gp_go 16 (gp_b i) = true := gp_nx gc_697 gb_697
set_option maxRecDepth 100000 in
theorem gb_698 : gp_go 16 (gp_b 698) = true := by decide +kernel
theorem gc_699 : ∀ i, i < 699 → gp_go 16 (gp_b i) = true := gp_nx gc_698 gb_698
set_option maxRecDepth 100000 in
theorem gb_699 : gp_go 16 (gp_b 699) = true := by decide +kernel
theorem gc_700 : ∀ i, i < 700 → gp_go 16 (gp_b i) = true := gp_nx gc_699 gb_699
set_option maxRecDepth 100000 in
theorem gb_700 : gp_go 16 (gp_b 700) = true := by decide +kernel
theorem gc_701 : ∀ i, i < 701 → gp_go 16 (gp_b i) = true := gp_nx gc_700 gb_700
set_option maxRecDepth 100000 in
theorem gb_701 : gp_go 16 (gp_b 701) = true := by decide +kernel
theorem gc_702 : ∀ i, i < 702 → gp_go 16 (gp_b i) = true := gp_nx gc_701 gb_701
set_option maxRecDepth 100000 in
theorem gb_702 : gp_go 16 (gp_b 702) = true := by decide +kernel
theorem gc_703 : ∀ i, i < 703 → gp_go 16 (gp_b i) = true := gp_nx gc_702 gb_702
set_option maxRecDepth 100000 in
theorem gb_703 : gp_go 16 (gp_b 703) = true := by decide +kernel
theorem gc_704 : ∀ i, i < 704 → gp_go 16 (gp_b i) = true := gp_nx gc_703 gb_703
set_option maxRecDepth 100000 in
theorem gb_704 : gp_go 16 (gp_b 704) = true := by decide +kernel
theorem gc_705 : ∀ i, i < 705 → gp_go 16 (gp_b i) = true := gp_nx gc_704 gb_704
set_option maxRecDepth 100000 in
theorem gb_705 : gp_go 16 (gp_b 705) = true := by decide +kernel
theorem gc_706 : ∀ i, i < 706 → gp_go 16 (gp_b i) = true := gp_nx gc_705 gb_705
set_option maxRecDepth 100000 in
theorem gb_706 : gp_go 16 (gp_b 706) = true := by decide +kernel
theorem gc_707 : ∀ i, i < 707 → gp_go 16 (gp_b i) = true := gp_nx gc_706 gb_706
set_option maxRecDepth 100000 in
theorem gb_707 : gp_go 16 (gp_b 707) = true := by decide +kernel
theorem gc_708 : ∀ i, i < 708 → gp_go 16 (gp_b i) = true := gp_nx gc_707 gb_707
set_option maxRecDepth 100000 in
theorem gb_708 : gp_go 16 (gp_b 708) = true := by decide +kernel
theorem gc_709 : ∀ i, i < 709 → gp_go 16 (gp_b i) = true := gp_nx gc_708 gb_708
set_option maxRecDepth 100000 in
theorem gb_709 : gp_go 16 (gp_b 709) = true := by decide +kernel
theorem gc_710 : ∀ i, i < 710 → gp_go 16 (gp_b i) = true := gp_nx gc_709 gb_709
set_option maxRecDepth 100000 in
theorem gb_710 : gp_go 16 (gp_b 710) = true := by decide +kernel
theorem gc_711 : ∀ i, i < 711 → gp_go 16 (gp_b i) = true := gp_nx gc_710 gb_710
set_option maxRecDepth 100000 in
theorem gb_711 : gp_go 16 (gp_b 711) = true := by decide +kernel
theorem gc_712 : ∀ i, i < 712 → gp_go 16 (gp_b i) = true := gp_nx gc_711 gb_711
set_option maxRecDepth 100000 in
theorem gb_712 : gp_go 16 (gp_b 712) = true := by decide +kernel
theorem gc_713 : ∀ i, i < 713 → gp_go 16 (gp_b i) = true := gp_nx gc_712 gb_712
set_option maxRecDepth 100000 in
theorem gb_713 : gp_go 16 (gp_b 713) = true := by decide +kernel
theorem gc_714 : ∀ i, i < 714 → gp_go 16 (gp_b i) = true := gp_nx gc_713 gb_713
set_option maxRecDepth 100000 in
theorem gb_714 : gp_go 16 (gp_b 714) = true := by decide +kernel
theorem gc_715 : ∀ i, i < 715 → gp_go 16 (gp_b i) = true := gp_nx gc_714 gb_714
set_option maxRecDepth 100000 in
theorem gb_715 : gp_go 16 (gp_b 715) = true := by decide +kernel
theorem gc_716 : ∀ i, i < 716 → gp_go 16 (gp_b i) = true := gp_nx gc_715 gb_715
set_option maxRecDepth 100000 in
theorem gb_716 : gp_go 16 (gp_b 716) = true := by decide +kernel
theorem gc_717 : ∀ i, i < 717 → gp_go 16 (gp_b i) = true := gp_nx gc_716 gb_716
set_option maxRecDepth 100000 in
theorem gb_717 : gp_go 16 (gp_b 717) = true := by decide +kernel
theorem gc_718 : ∀ i, i < 718 → gp_go 16 (gp_b i) = true := gp_nx gc_717 gb_717
set_option maxRecDepth 100000 in
theorem gb_718 : gp_go 16 (gp_b 718) = true := by decide +kernel
theorem gc_719 : ∀ i, i < 719 → gp_go 16 (gp_b i) = true := gp_nx gc_718 gb_718
set_option maxRecDepth 100000 in
theorem gb_719 : gp_go 16 (gp_b 719) = true := by decide +kernel
theorem gc_720 : ∀ i, i < 720 → gp_go 16 (gp_b i) = true := gp_nx gc_719 gb_719
set_option maxRecDepth 100000 in
theorem gb_720 : gp_go 16 (gp_b 720) = true := by decide +kernel
theorem gc_721 : ∀ i, i < 721 → gp_go 16 (gp_b i) = true := gp_nx gc_720 gb_720
set_option maxRecDepth 100000 in
theorem gb_721 : gp_go 16 (gp_b 721) = true := by decide +kernel
theorem gc_722 : ∀ i, i < 722 → gp_go 16 (gp_b i) = true := gp_nx gc_721 gb_721
set_option maxRecDepth 100000 in
theorem gb_722 : gp_go 16 (gp_b 722) = true := by decide +kernel
theorem gc_723 : ∀ i, i < 723 → gp_go 16 (gp_b i) = true := gp_nx gc_722 gb_722
set_option maxRecDepth 100000 in
theorem gb_723 : gp_go 16 (gp_b 723) = true := by decide +kernel
theorem gc_724 : ∀ i, i < 724 → gp_go 16 (gp_b i) = true := gp_nx gc_723 gb_723
set_option maxRecDepth 100000 in
theorem gb_724 : gp_go 16 (gp_b 724) = true := by decide +kernel
theorem gc_725 : ∀ i, i < 725 → gp_go 16 (gp_b i) = true := gp_nx gc_724 gb_724
set_option maxRecDepth 100000 in
theorem gb_725 : gp_go 16 (gp_b 725) = true := by decide +kernel
theorem gc_726 : ∀ i, i < 726 → gp_go 16 (gp_b i) = true := gp_nx gc_725 gb_725
set_option maxRecDepth 100000 in
theorem gb_726 : gp_go 16 (gp_b 726) = true := by decide +kernel
theorem gc_727 : ∀ i, i < 727 → gp_go 16 (gp_b i) = true := gp_nx gc_726 gb_726
set_option maxRecDepth 100000 in
theorem gb_727 : gp_go 16 (gp_b 727) = true := by decide +kernel
theorem gc_728 : ∀ i, i < 728 → gp_go 16 (gp_b i) = true := gp_nx gc_727 gb_727
set_option maxRecDepth 100000 in
theorem gb_728 : gp_go 16 (gp_b 728) = true := by decide +kernel
theorem gc_729 : ∀ i, i < 729 → gp_go 16 (gp_b i) = true := gp_nx gc_728 gb_728
set_option maxRecDepth 100000 in
theorem gb_729 : gp_go 16 (gp_b 729) = true := by decide +kernel
theorem gc_730 : ∀ i, i < 730 → gp_go 16 (gp_b i) = true := gp_nx gc_729 gb_729
set_option maxRecDepth 100000 in
theorem gb_730 : gp_go 16 (gp_b 730) = true := by decide +kernel
theorem gc_731 : ∀ i, i < 731 → gp_go 16 (gp_b i) = true := gp_nx gc_730 gb_730
set_option maxRecDepth 100000 in
theorem gb_731 : gp_go 16 (gp_b 731) = true := by decide +kernel
theorem gc_732 : ∀ i, i < 732 → gp_go 16 (gp_b i) = true := gp_nx gc_731 gb_731
set_option maxRecDepth 100000 in
theorem gb_732 : gp_go 16 (gp_b 732) = true := by decide +kernel
theorem gc_733 : ∀ i, i < 733 → gp_go 16 (gp_b i) = true := gp_nx gc_732 gb_732
set_option maxRecDepth 100000 in
theorem gb_733 : gp_go 16 (gp_b 733) = true := by decide +kernel
theorem gc_734 : ∀ i, i < 734 → gp_go 16 (gp_b i) = true := gp_nx gc_733 gb_733
set_option maxRecDepth 100000 in
theorem gb_734 : gp_go 16 (gp_b 734) = true := by decide +kernel
theorem gc_735 : ∀ i, i < 735 → gp_go 16 (gp_b i) = true := gp_nx gc_734 gb_734
set_option maxRecDepth 100000 in
theorem gb_735 : gp_go 16 (gp_b 735) = true := by decide +kernel
theorem gc_736 : ∀ i, i < 736 → gp_go 16 (gp_b i) = true := gp_nx gc_735 gb_735
set_option maxRecDepth 100000 in
theorem gb_736 : gp_go 16 (gp_b 736) = true := by decide +kernel
theorem gc_737 : ∀ i, i < 737 → gp_go 16 (gp_b i) = true := gp_nx gc_736 gb_736
set_option maxRecDepth 100000 in
theorem gb_737 : gp_go 16 (gp_b 737) = true := by decide +kernel
theorem gc_738 : ∀ i, i < 738 → gp_go 16 (gp_b i) = true := gp_nx gc_737 gb_737
set_option maxRecDepth 100000 in
theorem gb_738 : gp_go 16 (gp_b 738) = true := by decide +kernel
theorem gc_739 : ∀ i, i < 739 → gp_go 16 (gp_b i) = true := gp_nx gc_738 gb_738
set_option maxRecDepth 100000 in
theorem gb_739 : gp_go 16 (gp_b 739) = true := by decide +kernel
theorem gc_740 : ∀ i, i < 740 → gp_go 16 (gp_b i) = true := gp_nx gc_739 gb_739
set_option maxRecDepth 100000 in
theorem gb_740 : gp_go 16 (gp_b 740) = true := by decide +kernel
theorem gc_741 : ∀ i, i < 741 → gp_go 16 (gp_b i) = true := gp_nx gc_740 gb_740
set_option maxRecDepth 100000 in
theorem gb_741 : gp_go 16 (gp_b 741) = true := by decide +kernel
theorem gc_742 : ∀ i, i < 742 → gp_go 16 (gp_b i) = true := gp_nx gc_741 gb_741
set_option maxRecDepth 100000 in
theorem gb_742 : gp_go 16 (gp_b 742) = true := by decide +kernel
theorem gc_743 : ∀ i, i < 743 → gp_go 16 (gp_b i) = true := gp_nx gc_742 gb_742
set_option maxRecDepth 100000 in
theorem gb_743 : gp_go 16 (gp_b 743) = true := by decide +kernel
theorem gc_744 : ∀ i, i < 744 → gp_go 16 (gp_b i) = true := gp_nx gc_743 gb_743
set_option maxRecDepth 100000 in
theorem gb_744 : gp_go 16 (gp_b 744) = true := by decide +kernel
theorem gc_745 : ∀ i, i < 745 → gp_go 16 (gp_b i) = true := gp_nx gc_744 gb_744
set_option maxRecDepth 100000 in
theorem gb_745 : gp_go 16 (gp_b 745) = true := by decide +kernel
theorem gc_746 : ∀ i, i < 746 → gp_go 16 (gp_b i) = true := gp_nx gc_745 gb_745
set_option maxRecDepth 100000 in
theorem gb_746 : gp_go 16 (gp_b 746) = true := by decide +kernel
theorem gc_747 : ∀ i, i < 747 → gp_go 16 (gp_b i) = true := gp_nx gc_746 gb_746
set_option maxRecDepth 100000 in
theorem gb_747 : gp_go 16 (gp_b 747) = true := by decide +kernel
theorem gc_748 : ∀ i, i < 748 → gp_go 16 (gp_b i) = true := gp_nx gc_747 gb_747
set_option maxRecDepth 100000 in
theorem gb_748 : gp_go 16 (gp_b 748) = true := by decide +kernel
theorem gc_749 : ∀ i, i < 749 → gp_go 16 (gp_b i) = true := gp_nx gc_748 gb_748
set_option maxRecDepth 100000 in
theorem gb_749 : gp_go 16 (gp_b 749) = true := by decide +kernel
theorem gc_750 : ∀ i, i < 750 → gp_go 16 (gp_b i) = true := gp_nx gc_749 gb_749
set_option maxRecDepth 100000 in
theorem gb_750 : gp_go 16 (gp_b 750) = true := by decide +kernel
theorem gc_751 : ∀ i, i < 751 → gp_go 16 (gp_b i) = true := gp_nx gc_750 gb_750
set_option maxRecDepth 100000 in
theorem gb_751 : gp_go 16 (gp_b 751) = true := by decide +kernel
theorem gc_752 : ∀ i, i < 752 → gp_go 16 (gp_b i) = true := gp_nx gc_751 gb_751
set_option maxRecDepth 100000 in
theorem gb_752 : gp_go 16 (gp_b 752) = true := by decide +kernel
theorem gc_753 : ∀ i, i < 753 → gp_go 16 (gp_b i) = true := gp_nx gc_752 gb_752
set_option maxRecDepth 100000 in
theorem gb_753 : gp_go 16 (gp_b 753) = true := by decide +kernel
theorem gc_754 : ∀ i, i < 754 → gp_go 16 (gp_b i) = true := gp_nx gc_753 gb_753
set_option maxRecDepth 100000 in
theorem gb_754 : gp_go 16 (gp_b 754) = true := by decide +kernel
theorem gc_755 : ∀ i, i < 755 → gp_go 16 (gp_b i) = true := gp_nx gc_754 gb_754
set_option maxRecDepth 100000 in
theorem gb_755 : gp_go 16 (gp_b 755) = true := by decide +kernel
theorem gc_756 : ∀ i, i < 756 → gp_go 16 (gp_b i) = true := gp_nx gc_755 gb_755
set_option maxRecDepth 100000 in
theorem gb_756 : gp_go 16 (gp_b 756) = true := by decide +kernel
theorem gc_757 : ∀ i, i < 757 → gp_go 16 (gp_b i) = true := gp_nx gc_756 gb_756
set_option maxRecDepth 100000 in
theorem gb_757 : gp_go 16 (gp_b 757) = true := by decide +kernel
theorem gc_758 : ∀ i, i < 758 → gp_go 16 (gp_b i) = true := gp_nx gc_757 gb_757
set_option maxRecDepth 100000 in
theorem gb_758 : gp_go 16 (gp_b 758) = true := by decide +kernel
theorem gc_759 : ∀ i, i < 759 → gp_go 16 (gp_b i) = true := gp_nx gc_758 gb_758
set_option maxRecDepth 100000 in
theorem gb_759 : gp_go 16 (gp_b 759) = true := by decide +kernel
theorem gc_760 : ∀ i, i < 760 → gp_go 16 (gp_b i) = true := gp_nx gc_759 gb_759
set_option maxRecDepth 100000 in
theorem gb_760 : gp_go 16 (gp_b 760) = true := by decide +kernel
theorem gc_761 : ∀ i, i < 761 → gp_go 16 (gp_b i) = true := gp_nx gc_760 gb_760
set_option maxRecDepth 100000 in
theorem gb_761 : gp_go 16 (gp_b 761) = true := by decide +kernel
theorem gc_762 : ∀ i, i < 762 → gp_go 16 (gp_b i) = true := gp_nx gc_761 gb_761
set_option maxRecDepth 100000 in
theorem gb_762 : gp_go 16 (gp_b 762) = true := by decide +kernel
theorem gc_763 : ∀ i, i < 763 → gp_go 16 (gp_b i) = true := gp_nx gc_762 gb_762
set_option maxRecDepth 100000 in
theorem gb_763 : gp_go 16 (gp_b 763) = true := by decide +kernel
theorem gc_764 : ∀ i, i < 764 → gp_go 16 (gp_b i) = true := gp_nx gc_763 gb_763
set_option maxRecDepth 100000 in
theorem gb_764 : gp_go 16 (gp_b 764) = true := by decide +kernel
theorem gc_765 : ∀ i, i < 765 → gp_go 16 (gp_b i) = true := gp_nx gc_764 gb_764
set_option maxRecDepth 100000 in
theorem gb_765 : gp_go 16 (gp_b 765) = true := by decide +kernel
theorem gc_766 : ∀ i, i < 766 → gp_go 16 (gp_b i) = true := gp_nx gc_765 gb_765
set_option maxRecDepth 100000 in
theorem gb_766 : gp_go 16 (gp_b 766) = true := by decide +kernel
theorem gc_767 : ∀ i, i < 767 → gp_go 16 (gp_b i) = true := gp_nx gc_766 gb_766
set_option maxRecDepth 100000 in
theorem gb_767 : gp_go 16 (gp_b 767) = true := by decide +kernel
theorem gc_768 : ∀ i, i < 768 → gp_go 16 (gp_b i) = true := gp_nx gc_767 gb_767
set_option maxRecDepth 100000 in
theorem gb_768 : gp_go 16 (gp_b 768) = true := by decide +kernel
theorem gc_769 : ∀ i, i < 769 → gp_go 16 (gp_b i) = true := gp_nx gc_768 gb_768
set_option maxRecDepth 100000 in
theorem gb_769 : gp_go 16 (gp_b 769) = true := by decide +kernel
theorem gc_770 : ∀ i, i < 770 → gp_go 16 (gp_b i) = true := gp_nx gc_769 gb_769
set_option maxRecDepth 100000 in
theorem gb_770 : gp_go 16 (gp_b 770) = true := by decide +kernel
theorem gc_771 : ∀ i, i < 771 → gp_go 16 (gp_b i) = true := gp_nx gc_770 gb_770
set_option maxRecDepth 100000 in
theorem gb_771 : gp_go 16 (gp_b 771) = true := by decide +kernel
theorem gc_772 : ∀ i, i < 772 → gp_go 16 (gp_b i) = true := gp_nx gc_771 gb_771
set_option maxRecDepth 100000 in
theorem gb_772 : gp_go 16 (gp_b 772) = true := by decide +kernel
theorem gc_773 : ∀ i, i < 773 → gp_go 16 (gp_b i) = true := gp_nx gc_772 gb_772
set_option maxRecDepth 100000 in
theorem gb_773 : gp_go 16 (gp_b 773) = true := by decide +kernel
theorem gc_774 : ∀ i, i < 774 → gp_go 16 (gp_b i) = true := gp_nx gc_773 gb_773
set_option maxRecDepth 100000 in
theorem gb_774 : gp_go 16 (gp_b 774) = true := by decide +kernel
theorem gc_775 : ∀ i, i < 775 → gp_go 16 (gp_b i) = true := gp_nx gc_774 gb_774
set_option maxRecDepth 100000 in
theorem gb_775 : gp_go 16 (gp_b 775) = true := by decide +kernel
theorem gc_776 : ∀ i, i < 776 → gp_go 16 (gp_b i) = true := gp_nx gc_775 gb_775
set_option maxRecDepth 100000 in
theorem gb_776 : gp_go 16 (gp_b 776) = true := by decide +kernel
theorem gc_777 : ∀ i, i < 777 → gp_go 16 (gp_b i) = true := gp_nx gc_776 gb_776
set_option maxRecDepth 100000 in
theorem gb_777 : gp_go 16 (gp_b 777) = true := by decide +kernel
theorem gc_778 : ∀ i, i < 778 → gp_go 16 (gp_b i) = true := gp_nx gc_777 gb_777
set_option maxRecDepth 100000 in
theorem gb_778 : gp_go 16 (gp_b 778) = true := by decide +kernel
theorem gc_779 : ∀ i, i < 779 → gp_go 16 (gp_b i) = true := gp_nx gc_778 gb_778
set_option maxRecDepth 100000 in
theorem gb_779 : gp_go 16 (gp_b 779) = true := by decide +kernel
theorem gc_780 : ∀ i, i < 780 → gp_go 16 (gp_b i) = true := gp_nx gc_779 gb_779
set_option maxRecDepth 100000 in
theorem gb_780 : gp_go 16 (gp_b 780) = true := by decide +kernel
theorem gc_781 : ∀ i, i < 781 → gp_go 16 (gp_b i) = true := gp_nx gc_780 gb_780
set_option maxRecDepth 100000 in
theorem gb_781 : gp_go 16 (gp_b 781) = true := by decide +kernel
theorem gc_782 : ∀ i, i < 782 → gp_go 16 (gp_b i) = true := gp_nx gc_781 gb_781
set_option maxRecDepth 100000 in
theorem gb_782 : gp_go 16 (gp_b 782) = true := by decide +kernel
theorem gc_783 : ∀ i, i < 783 → gp_go 16 (gp_b i) = true := gp_nx gc_782 gb_782
set_option maxRecDepth 100000 in
theorem gb_783 : gp_go 16 (gp_b 783) = true := by decide +kernel
theorem gc_784 : ∀ i, i < 784 → gp_go 16 (gp_b i) = true := gp_nx gc_783 gb_783
set_option maxRecDepth 100000 in
theorem gb_784 : gp_go 16 (gp_b 784) = true := by decide +kernel
theorem gc_785 : ∀ i, i < 785 → gp_go 16 (gp_b i) = true := gp_nx gc_784 gb_784
set_option maxRecDepth 100000 in
theorem gb_785 : gp_go 16 (gp_b 785) = true := by decide +kernel
theorem gc_786 : ∀ i, i < 786 → gp_go 16 (gp_b i) = true := gp_nx gc_785 gb_785
set_option maxRecDepth 100000 in
theorem gb_786 : gp_go 16 (gp_b 786) = true := by decide +kernel
theorem gc_787 : ∀ i, i < 787 → gp_go 16 (gp_b i) = true := gp_nx gc_786 gb_786
set_option maxRecDepth 100000 in
theorem gb_787 : gp_go 16 (gp_b 787) = true := by decide +kernel
theorem gc_788 : ∀ i, i < 788 → gp_go 16 (gp_b i) = true := gp_nx gc_787 gb_787
set_option maxRecDepth 100000 in
theorem gb_788 : gp_go 16 (gp_b 788) = true := by decide +kernel
theorem gc_789 : ∀ i, i < 789 → gp_go 16 (gp_b i) = true := gp_nx gc_788 gb_788
set_option maxRecDepth 100000 in
theorem gb_789 : gp_go 16 (gp_b 789) = true := by decide +kernel
theorem gc_790 : ∀ i, i < 790 → gp_go 16 (gp_b i) = true := gp_nx gc_789 gb_789
set_option maxRecDepth 100000 in
theorem gb_790 : gp_go 16 (gp_b 790) = true := by decide +kernel
theorem gc_791 : ∀ i, i < 791 → gp_go 16 (gp_b i) = true := gp_nx gc_790 gb_790
set_option maxRecDepth 100000 in
theorem gb_791 : gp_go 16 (gp_b 791) = true := by decide +kernel
theorem gc_792 : ∀ i, i < 792 → gp_go 16 (gp_b i) = true := gp_nx gc_791 gb_791
set_option maxRecDepth 100000 in
theorem gb_792 : gp_go 16 (gp_b 792) = true := by decide +kernel
theorem gc_793 : ∀ i, i < 793 → gp_go 16 (gp_b i) = true := gp_nx gc_792 gb_792
set_option maxRecDepth 100000 in
theorem gb_793 : gp_go 16 (gp_b 793) = true := by decide +kernel
theorem gc_794 : ∀ i, i < 794 → gp_go 16 (gp_b i) = true := gp_nx gc_793 gb_793
set_option maxRecDepth 100000 in
theorem gb_794 : gp_go 16 (gp_b 794) = true := by decide +kernel
theorem gc_795 : ∀ i, i < 795 → gp_go 16 (gp_b i) = true := gp_nx gc_794 gb_794
set_option maxRecDepth 100000 in
theorem gb_795 : gp_go 16 (gp_b 795) = true := by decide +kernel
theorem gc_796 : ∀ i, i < 796 → gp_go 16 (gp_b i) = true := gp_nx gc_795 gb_795
set_option maxRecDepth 100000 in
theorem gb_796 : gp_go 16 (gp_b 796) = true := by decide +kernel
theorem gc_797 : ∀ i, i < 797 → gp_go 16 (gp_b i) = true := gp_nx gc_796 gb_796
set_option maxRecDepth 100000 in
theorem gb_797 : gp_go 16 (gp_b 797) = true := by decide +kernel
theorem gc_798 : ∀ i, i < 798 → gp_go 16 (gp_b i) = true := gp_nx gc_797 gb_797
set_option maxRecDepth 100000 in
theorem gb_798 : gp_go 16 (gp_b 798) = true := by decide +kernel
theorem gc_799 : ∀ i, i < 799 → gp_go 16 (gp_b i) = true := gp_nx gc_798 gb_798
set_option maxRecDepth 100000 in
theorem gb_799 : gp_go 16 (gp_b 799) = true := by decide +kernel
theorem gc_800 : ∀ i, i < 800 → gp_go 16 (gp_b i) = true := gp_nx gc_799 gb_799
set_option maxRecDepth 100000 in
theorem gb_800 : gp_go 16 (gp_b 800) = true := by decide +kernel
theorem gc_801 : ∀ i, i < 801 → gp_go 16 (gp_b i) = true := gp_nx gc_800 gb_800
set_option maxRecDepth 100000 in
theorem gb_801 : gp_go 16 (gp_b 801) = true := by decide +kernel
theorem gc_802 : ∀ i, i < 802 → gp_go 16 (gp_b i) = true := gp_nx gc_801 gb_801
set_option maxRecDepth 100000 in
theorem gb_802 : gp_go 16 (gp_b 802) = true := by decide +kernel
theorem gc_803 : ∀ i, i < 803 → gp_go 16 (gp_b i) = true := gp_nx gc_802 gb_802
set_option maxRecDepth 100000 in
theorem gb_803 : gp_go 16 (gp_b 803) = true := by decide +kernel
theorem gc_804 : ∀ i, i < 804 → gp_go 16 (gp_b i) = true := gp_nx gc_803 gb_803
set_option maxRecDepth 100000 in
theorem gb_804 : gp_go 16 (gp_b 804) = true := by decide +kernel
theorem gc_805 : ∀ i, i < 805 → gp_go 16 (gp_b i) = true := gp_nx gc_804 gb_804
set_option maxRecDepth 100000 in
theorem gb_805 : gp_go 16 (gp_b 805) = true := by decide +kernel
theorem gc_806 : ∀ i, i < 806 → gp_go 16 (gp_b i) = true := gp_nx gc_805 gb_805
set_option maxRecDepth 100000 in
theorem gb_806 : gp_go 16 (gp_b 806) = true := by decide +kernel
theorem gc_807 : ∀ i, i < 807 → gp_go 16 (gp_b i) = true := gp_nx gc_806 gb_806
set_option maxRecDepth 100000 in
theorem gb_807 : gp_go 16 (gp_b 807) = true := by decide +kernel
theorem gc_808 : ∀ i, i < 808 → gp_go 16 (gp_b i) = true := gp_nx gc_807 gb_807
set_option maxRecDepth 100000 in
theorem gb_808 : gp_go 16 (gp_b 808) = true := by decide +kernel
theorem gc_809 : ∀ i, i < 809 → gp_go 16 (gp_b i) = true := gp_nx gc_808 gb_808
set_option maxRecDepth 100000 in
theorem gb_809 : gp_go 16 (gp_b 809) = true := by decide +kernel
theorem gc_810 : ∀ i, i < 810 → gp_go 16 (gp_b i) = true := gp_nx gc_809 gb_809
set_option maxRecDepth 100000 in
theorem gb_810 : gp_go 16 (gp_b 810) = true := by decide +kernel
theorem gc_811 : ∀ i, i < 811 → gp_go 16 (gp_b i) = true := gp_nx gc_810 gb_810
set_option maxRecDepth 100000 in
theorem gb_811 : gp_go 16 (gp_b 811) = true := by decide +kernel
theorem gc_812 : ∀ i, i < 812 → gp_go 16 (gp_b i) = true := gp_nx gc_811 gb_811
set_option maxRecDepth 100000 in
theorem gb_812 : gp_go 16 (gp_b 812) = true := by decide +kernel
theorem gc_813 : ∀ i, i < 813 → gp_go 16 (gp_b i) = true := gp_nx gc_812 gb_812
set_option maxRecDepth 100000 in
theorem gb_813 : gp_go 16 (gp_b 813) = true := by decide +kernel
theorem gc_814 : ∀ i, i < 814 → gp_go 16 (gp_b i) = true := gp_nx gc_813 gb_813
set_option maxRecDepth 100000 in
theorem gb_814 : gp_go 16 (gp_b 814) = true := by decide +kernel
theorem gc_815 : ∀ i, i < 815 → gp_go 16 (gp_b i) = true := gp_nx gc_814 gb_814
set_option maxRecDepth 100000 in
theorem gb_815 : gp_go 16 (gp_b 815) = true := by decide +kernel
theorem gc_816 : ∀ i, i < 816 → gp_go 16 (gp_b i) = true := gp_nx gc_815 gb_815
set_option maxRecDepth 100000 in
theorem gb_816 : gp_go 16 (gp_b 816) = true := by decide +kernel
theorem gc_817 : ∀ i, i < 817 → gp_go 16 (gp_b i) = true := gp_nx gc_816 gb_816
set_option maxRecDepth 100000 in
theorem gb_817 : gp_go 16 (gp_b 817) = true := by decide +kernel
theorem gc_818 : ∀ i, i < 818 → gp_go 16 (gp_b i) = true := gp_nx gc_817 gb_817
set_option maxRecDepth 100000 in
theorem gb_818 : gp_go 16 (gp_b 818) = true := by decide +kernel
theorem gc_819 : ∀ i, i < 819 → gp_go 16 (gp_b i) = true := gp_nx gc_818 gb_818
set_option maxRecDepth 100000 in
theorem gb_819 : gp_go 16 (gp_b 819) = true := by decide +kernel
theorem gc_820 : ∀ i, i < 820 → gp_go 16 (gp_b i) = true := gp_nx gc_819 gb_819
set_option maxRecDepth 100000 in
theorem gb_820 : gp_go 16 (gp_b 820) = true := by decide +kernel
theorem gc_821 : ∀ i, i < 821 → gp_go 16 (gp_b i) = true := gp_nx gc_820 gb_820
set_option maxRecDepth 100000 in
theorem gb_821 : gp_go 16 (gp_b 821) = true := by decide +kernel
theorem gc_822 : ∀ i, i < 822 → gp_go 16 (gp_b i) = true := gp_nx gc_821 gb_821
set_option maxRecDepth 100000 in
theorem gb_822 : gp_go 16 (gp_b 822) = true := by decide +kernel
theorem gc_823 : ∀ i, i < 823 → gp_go 16 (gp_b i) = true := gp_nx gc_822 gb_822
set_option maxRecDepth 100000 in
theorem gb_823 : gp_go 16 (gp_b 823) = true := by decide +kernel
theorem gc_824 : ∀ i, i < 824 → gp_go 16 (gp_b i) = true := gp_nx gc_823 gb_823
set_option maxRecDepth 100000 in
theorem gb_824 : gp_go 16 (gp_b 824) = true := by decide +kernel
theorem gc_825 : ∀ i, i < 825 → gp_go 16 (gp_b i) = true := gp_nx gc_824 gb_824
set_option maxRecDepth 100000 in
theorem gb_825 : gp_go 16 (gp_b 825) = true := by decide +kernel
theorem gc_826 : ∀ i, i < 826 → gp_go 16 (gp_b i) = true := gp_nx gc_825 gb_825
set_option maxRecDepth 100000 in
theorem gb_826 : gp_go 16 (gp_b 826) = true := by decide +kernel
theorem gc_827 : ∀ i, i < 827 → gp_go 16 (gp_b i) = true := gp_nx gc_826 gb_826
set_option maxRecDepth 100000 in
theorem gb_827 : gp_go 16 (gp_b 827) = true := by decide +kernel
theorem gc_828 : ∀ i, i < 828 → gp_go 16 (gp_b i) = true := gp_nx gc_827 gb_827
set_option maxRecDepth 100000 in
theorem gb_828 : gp_go 16 (gp_b 828) = true := by decide +kernel
theorem gc_829 : ∀ i, i < 829 → gp_go 16 (gp_b i) = true := gp_nx gc_828 gb_828
set_option maxRecDepth 100000 in
theorem gb_829 : gp_go 16 (gp_b 829) = true := by decide +kernel
theorem gc_830 : ∀ i, i < 830 → gp_go 16 (gp_b i) = true := gp_nx gc_829 gb_829
set_option maxRecDepth 100000 in
theorem gb_830 : gp_go 16 (gp_b 830) = true := by decide +kernel
theorem gc_831 : ∀ i, i < 831 → gp_go 16 (gp_b i) = true := gp_nx gc_830 gb_830
set_option maxRecDepth 100000 in
theorem gb_831 : gp_go 16 (gp_b 831) = true := by decide +kernel
theorem gc_832 : ∀ i, i < 832 → gp_go 16 (gp_b i) = true := gp_nx gc_831 gb_831
set_option maxRecDepth 100000 in
theorem gb_832 : gp_go 16 (gp_b 832) = true := by decide +kernel
theorem gc_833 : ∀ i, i < 833 → gp_go 16 (gp_b i) = true := gp_nx gc_832 gb_832
set_option maxRecDepth 100000 in
theorem gb_833 : gp_go 16 (gp_b 833) = true := by decide +kernel
theorem gc_834 : ∀ i, i < 834 → gp_go 16 (gp_b i) = true := gp_nx gc_833 gb_833
set_option maxRecDepth 100000 in
theorem gb_834 : gp_go 16 (gp_b 834) = true := by decide +kernel
theorem gc_835 : ∀ i, i < 835 → gp_go 16 (gp_b i) = true := gp_nx gc_834 gb_834
set_option maxRecDepth 100000 in
theorem gb_835 : gp_go 16 (gp_b 835) = true := by decide +kernel
theorem gc_836 : ∀ i, i < 836 → gp_go 16 (gp_b i) = true := gp_nx gc_835 gb_835
set_option maxRecDepth 100000 in
theorem gb_836 : gp_go 16 (gp_b 836) = true := by decide +kernel
theorem gc_837 : ∀ i, i < 837 → gp_go 16 (gp_b i) = true := gp_nx gc_836 gb_836
set_option maxRecDepth 100000 in
theorem gb_837 : gp_go 16 (gp_b 837) = true := by decide +kernel
theorem gc_838 : ∀ i, i < 838 → gp_go 16 (gp_b i) = true := gp_nx gc_837 gb_837
set_option maxRecDepth 100000 in
theorem gb_838 : gp_go 16 (gp_b 838) = true := by decide +kernel
theorem gc_839 : ∀ i, i < 839 → gp_go 16 (gp_b i) = true := gp_nx gc_838 gb_838
set_option maxRecDepth 100000 in
theorem gb_839 : gp_go 16 (gp_b 839) = true := by decide +kernel
theorem gc_840 : ∀ i, i < 840 → gp_go 16 (gp_b i) = true := gp_nx gc_839 gb_839
set_option maxRecDepth 100000 in
theorem gb_840 : gp_go 16 (gp_b 840) = true := by decide +kernel
theorem gc_841 : ∀ i, i < 841 → gp_go 16 (gp_b i) = true := gp_nx gc_840 gb_840
set_option maxRecDepth 100000 in
theorem gb_841 : gp_go 16 (gp_b 841) = true := by decide +kernel
theorem gc_842 : ∀ i, i < 842 → gp_go 16 (gp_b i) = true := gp_nx gc_841 gb_841
set_option maxRecDepth 100000 in
theorem gb_842 : gp_go 16 (gp_b 842) = true := by decide +kernel
theorem gc_843 : ∀ i, i < 843 → gp_go 16 (gp_b i) = true := gp_nx gc_842 gb_842
set_option maxRecDepth 100000 in
theorem gb_843 : gp_go 16 (gp_b 843) = true := by decide +kernel
theorem gc_844 : ∀ i, i < 844 → gp_go 16 (gp_b i) = true := gp_nx gc_843 gb_843
set_option maxRecDepth 100000 in
theorem gb_844 : gp_go 16 (gp_b 844) = true := by decide +kernel
theorem gc_845 : ∀ i, i < 845 → gp_go 16 (gp_b i) = true := gp_nx gc_844 gb_844
set_option maxRecDepth 100000 in
theorem gb_845 : gp_go 16 (gp_b 845) = true := by decide +kernel
theorem gc_846 : ∀ i, i < 846 → gp_go 16 (gp_b i) = true := gp_nx gc_845 gb_845
set_option maxRecDepth 100000 in
theorem gb_846 : gp_go 16 (gp_b 846) = true := by decide +kernel
theorem gc_847 : ∀ i, i < 847 → gp_go 16 (gp_b i) = true := gp_nx gc_846 gb_846
set_option maxRecDepth 100000 in
theorem gb_847 : gp_go 16 (gp_b 847) = true := by decide +kernel
theorem gc_848 : ∀ i, i < 848 → gp_go 16 (gp_b i) = true := gp_nx gc_847 gb_847
set_option maxRecDepth 100000 in
theorem gb_848 : gp_go 16 (gp_b 848) = true := by decide +kernel
theorem gc_849 : ∀ i, i < 849 → gp_go 16 (gp_b i) = true := gp_nx gc_848 gb_848
set_option maxRecDepth 100000 in
theorem gb_849 : gp_go 16 (gp_b 849) = true := by decide +kernel
theorem gc_850 : ∀ i, i < 850 → gp_go 16 (gp_b i) = true := gp_nx gc_849 gb_849
set_option maxRecDepth 100000 in
theorem gb_850 : gp_go 16 (gp_b 850) = true := by decide +kernel
theorem gc_851 : ∀ i, i < 851 → gp_go 16 (gp_b i) = true := gp_nx gc_850 gb_850
set_option maxRecDepth 100000 in
theorem gb_851 : gp_go 16 (gp_b 851) = true := by decide +kernel
theorem gc_852 : ∀ i, i < 852 → gp_go 16 (gp_b i) = true := gp_nx gc_851 gb_851
set_option maxRecDepth 100000 in
theorem gb_852 : gp_go 16 (gp_b 852) = true := by decide +kernel
theorem gc_853 : ∀ i, i < 853 → gp_go 16 (gp_b i) = true := gp_nx gc_852 gb_852
set_option maxRecDepth 100000 in
theorem gb_853 : gp_go 16 (gp_b 853) = true := by decide +kernel
theorem gc_854 : ∀ i, i < 854 → gp_go 16 (gp_b i) = true := gp_nx gc_853 gb_853
set_option maxRecDepth 100000 in
theorem gb_854 : gp_go 16 (gp_b 854) = true := by decide +kernel
theorem gc_855 : ∀ i, i < 855 → gp_go 16 (gp_b i) = true := gp_nx gc_854 gb_854
set_option maxRecDepth 100000 in
theorem gb_855 : gp_go 16 (gp_b 855) = true := by decide +kernel
theorem gc_856 : ∀ i, i < 856 → gp_go 16 (gp_b i) = true := gp_nx gc_855 gb_855
set_option maxRecDepth 100000 in
theorem gb_856 : gp_go 16 (gp_b 856) = true := by decide +kernel
theorem gc_857 : ∀ i, i < 857 → gp_go 16 (gp_b i) = true := gp_nx gc_856 gb_856
set_option maxRecDepth 100000 in
theorem gb_857 : gp_go 16 (gp_b 857) = true := by decide +kernel
theorem gc_858 : ∀ i, i < 858 → gp_go 16 (gp_b i) = true := gp_nx gc_857 gb_857
set_option maxRecDepth 100000 in
theorem gb_858 : gp_go 16 (gp_b 858) = true := by decide +kernel
theorem gc_859 : ∀ i, i < 859 → gp_go 16 (gp_b i) = true := gp_nx gc_858 gb_858
set_option maxRecDepth 100000 in
theorem gb_859 : gp_go 16 (gp_b 859) = true := by decide +kernel
theorem gc_860 : ∀ i, i < 860 → gp_go 16 (gp_b i) = true := gp_nx gc_859 gb_859
set_option maxRecDepth 100000 in
theorem gb_860 : gp_go 16 (gp_b 860) = true := by decide +kernel
theorem gc_861 : ∀ i, i < 861 → gp_go 16 (gp_b i) = true := gp_nx gc_860 gb_860
set_option maxRecDepth 100000 in
theorem gb_861 : gp_go 16 (gp_b 861) = true := by decide +kernel
theorem gc_862 : ∀ i, i < 862 → gp_go 16 (gp_b i) = true := gp_nx gc_861 gb_861
set_option maxRecDepth 100000 in
theorem gb_862 : gp_go 16 (gp_b 862) = true := by decide +kernel
theorem gc_863 : ∀ i, i < 863 → gp_go 16 (gp_b i) = true := gp_nx gc_862 gb_862
set_option maxRecDepth 100000 in
theorem gb_863 : gp_go 16 (gp_b 863) = true := by decide +kernel
theorem gc_864 : ∀ i, i < 864 → gp_go 16 (gp_b i) = true := gp_nx gc_863 gb_863
set_option maxRecDepth 100000 in
theorem gb_864 : gp_go 16 (gp_b 864) = true := by decide +kernel
theorem gc_865 : ∀ i, i < 865 → gp_go 16 (gp_b i) = true := gp_nx gc_864 gb_864
set_option maxRecDepth 100000 in
theorem gb_865 : gp_go 16 (gp_b 865) = true := by decide +kernel
theorem gc_866 : ∀ i, i < 866 → gp_go 16 (gp_b i) = true := gp_nx gc_865 gb_865
set_option maxRecDepth 100000 in
theorem gb_866 : gp_go 16 (gp_b 866) = true := by decide +kernel
theorem gc_867 : ∀ i, i < 867 → gp_go 16 (gp_b i) = true := gp_nx gc_866 gb_866
set_option maxRecDepth 100000 in
theorem gb_867 : gp_go 16 (gp_b 867) = true := by decide +kernel
theorem gc_868 : ∀ i, i < 868 → gp_go 16 (gp_b i) = true := gp_nx gc_867 gb_867
set_option maxRecDepth 100000 in
theorem gb_868 : gp_go 16 (gp_b 868) = true := by decide +kernel
theorem gc_869 : ∀ i, i < 869 → gp_go 16 (gp_b i) = true := gp_nx gc_868 gb_868
set_option maxRecDepth 100000 in
theorem gb_869 : gp_go 16 (gp_b 869) = true := by decide +kernel
theorem gc_870 : ∀ i, i < 870 → gp_go 16 (gp_b i) = true := gp_nx gc_869 gb_869
set_option maxRecDepth 100000 in
theorem gb_870 : gp_go 16 (gp_b 870) = true := by decide +kernel
theorem gc_871 : ∀ i, i < 871 → gp_go 16 (gp_b i) = true := gp_nx gc_870 gb_870
set_option maxRecDepth 100000 in
theorem gb_871 : gp_go 16 (gp_b 871) = true := by decide +kernel
theorem gc_872 : ∀ i, i < 872 → gp_go 16 (gp_b i) = true := gp_nx gc_871 gb_871
set_option maxRecDepth 100000 in
theorem gb_872 : gp_go 16 (gp_b 872) = true := by decide +kernel
theorem gc_873 : ∀ i, i < 873 → gp_go 16 (gp_b i) = true := gp_nx gc_872 gb_872
set_option maxRecDepth 100000 in
theorem gb_873 : gp_go 16 (gp_b 873) = true := by decide +kernel
theorem gc_874 : ∀ i, i < 874 → gp_go 16 (gp_b i) = true := gp_nx gc_873 gb_873
set_option maxRecDepth 100000 in
theorem gb_874 : gp_go 16 (gp_b 874) = true := by decide +kernel
theorem gc_875 : ∀ i, i < 875 → gp_go 16 (gp_b i) = true := gp_nx gc_874 gb_874
set_option maxRecDepth 100000 in
theorem gb_875 : gp_go 16 (gp_b 875) = true := by decide +kernel
theorem gc_876 : ∀ i, i < 876 → gp_go 16 (gp_b i) = true := gp_nx gc_875 gb_875
set_option maxRecDepth 100000 in
theorem gb_876 : gp_go 16 (gp_b 876) = true := by decide +kernel
theorem gc_877 : ∀ i, i < 877 → gp_go 16 (gp_b i) = true := gp_nx gc_876 gb_876
set_option maxRecDepth 100000 in
theorem gb_877 : gp_go 16 (gp_b 877) = true := by decide +kernel
theorem gc_878 : ∀ i, i < 878 → gp_go 16 (gp_b i) = true := gp_nx gc_877 gb_877
set_option maxRecDepth 100000 in
theorem gb_878 : gp_go 16 (gp_b 878) = true := by decide +kernel
theorem gc_879 : ∀ i, i < 879 → gp_go 16 (gp_b i) = true := gp_nx gc_878 gb_878
set_option maxRecDepth 100000 in
theorem gb_879 : gp_go 16 (gp_b 879) = true := by decide +kernel
theorem gc_880 : ∀ i, i < 880 → gp_go 16 (gp_b i) = true := gp_nx gc_879 gb_879
set_option maxRecDepth 100000 in
theorem gb_880 : gp_go 16 (gp_b 880) = true := by decide +kernel
theorem gc_881 : ∀ i, i < 881 → gp_go 16 (gp_b i) = true := gp_nx gc_880 gb_880
set_option maxRecDepth 100000 in
theorem gb_881 : gp_go 16 (gp_b 881) = true := by decide +kernel
theorem gc_882 : ∀ i, i < 882 → gp_go 16 (gp_b i) = true := gp_nx gc_881 gb_881
set_option maxRecDepth 100000 in
theorem gb_882 : gp_go 16 (gp_b 882) = true := by decide +kernel
theorem gc_883 : ∀ i, i < 883 → gp_go 16 (gp_b i) = true := gp_nx gc_882 gb_882
set_option maxRecDepth 100000 in
theorem gb_883 : gp_go 16 (gp_b 883) = true := by decide +kernel
theorem gc_884 : ∀ i, i < 884 → gp_go 16 (gp_b i) = true := gp_nx gc_883 gb_883
set_option maxRecDepth 100000 in
theorem gb_884 : gp_go 16 (gp_b 884) = true := by decide +kernel
theorem gc_885 : ∀ i, i < 885 → gp_go 16 (gp_b i) = true := gp_nx gc_884 gb_884
set_option maxRecDepth 100000 in
theorem gb_885 : gp_go 16 (gp_b 885) = true := by decide +kernel
theorem gc_886 : ∀ i, i < 886 → gp_go 16 (gp_b i) = true := gp_nx gc_885 gb_885
set_option maxRecDepth 100000 in
theorem gb_886 : gp_go 16 (gp_b 886) = true := by decide +kernel
theorem gc_887 : ∀ i, i < 887 → gp_go 16 (gp_b i) = true := gp_nx gc_886 gb_886
set_option maxRecDepth 100000 in
theorem gb_887 : gp_go 16 (gp_b 887) = true := by decide +kernel
theorem gc_888 : ∀ i, i < 888 → gp_go 16 (gp_b i) = true := gp_nx gc_887 gb_887
set_option maxRecDepth 100000 in
theorem gb_888 : gp_go 16 (gp_b 888) = true := by decide +kernel
theorem gc_889 : ∀ i, i < 889 → gp_go 16 (gp_b i) = true := gp_nx gc_888 gb_888
set_option maxRecDepth 100000 in
theorem gb_889 : gp_go 16 (gp_b 889) = true := by decide +kernel
theorem gc_890 : ∀ i, i < 890 → gp_go 16 (gp_b i) = true := gp_nx gc_889 gb_889
set_option maxRecDepth 100000 in
theorem gb_890 : gp_go 16 (gp_b 890) = true := by decide +kernel
theorem gc_891 : ∀ i, i < 891 → gp_go 16 (gp_b i) = true := gp_nx gc_890 gb_890
set_option maxRecDepth 100000 in
theorem gb_891 : gp_go 16 (gp_b 891) = true := by decide +kernel
theorem gc_892 : ∀ i, i < 892 → gp_go 16 (gp_b i) = true := gp_nx gc_891 gb_891
set_option maxRecDepth 100000 in
theorem gb_892 : gp_go 16 (gp_b 892) = true := by decide +kernel
theorem gc_893 : ∀ i, i < 893 → gp_go 16 (gp_b i) = true := gp_nx gc_892 gb_892
set_option maxRecDepth 100000 in
theorem gb_893 : gp_go 16 (gp_b 893) = true := by decide +kernel
theorem gc_894 : ∀ i, i < 894 → gp_go 16 (gp_b i) = true := gp_nx gc_893 gb_893
set_option maxRecDepth 100000 in
theorem gb_894 : gp_go 16 (gp_b 894) = true := by decide +kernel
theorem gc_895 : ∀ i, i < 895 → gp_go 16 (gp_b i) = true := gp_nx gc_894 gb_894
set_option maxRecDepth 100000 in
theorem gb_895 : gp_go 16 (gp_b 895) = true := by decide +kernel
theorem gc_896 : ∀ i, i < 896 → gp_go 16 (gp_b i) = true := gp_nx gc_895 gb_895
set_option maxRecDepth 100000 in
theorem gb_896 : gp_go 16 (gp_b 896) = true := by decide +kernel
theorem gc_897 : ∀ i, i < 897 → gp_go 16 (gp_b i) = true := gp_nx gc_896 gb_896
set_option maxRecDepth 100000 in
theorem gb_897 : gp_go 16 (gp_b 897) = true := by decide +kernel
theorem gc_898 : ∀ i, i < 898 → gp_go 16 (gp_b i) = true := gp_nx gc_897 gb_897
set_option maxRecDepth 100000 in
theorem gb_898 : gp_go 16 (gp_b 898) = true := by decide +kernel
theorem gc_899 : ∀ i, i < 899 → gp_go 16 (gp_b i) = true := gp_nx gc_898 gb_898
set_option maxRecDepth 100000 in
theorem gb_899 : gp_go 16 (gp_b 899) = true := by decide +kernel
theorem gc_900 : ∀ i, i < 900 → gp_go 16 (gp_b i) = true := gp_nx gc_899 gb_899
set_option maxRecDepth 100000 in
theorem gb_900 : gp_go 16 (gp_b 900) = true := by decide +kernel
theorem gc_901 : ∀ i, i < 901 → gp_go 16 (gp_b i) = true := gp_nx gc_900 gb_900
set_option maxRecDepth 100000 in
theorem gb_901 : gp_go 16 (gp_b 901) = true := by decide +kernel
theorem gc_902 : ∀ i, i < 902 → gp_go 16 (gp_b i) = true := gp_nx gc_901 gb_901
set_option maxRecDepth 100000 in
theorem gb_902 : gp_go 16 (gp_b 902) = true := by decide +kernel
theorem gc_903 : ∀ i, i < 903 → gp_go 16 (gp_b i) = true := gp_nx gc_902 gb_902
set_option maxRecDepth 100000 in
theorem gb_903 : gp_go 16 (gp_b 903) = true := by decide +kernel
theorem gc_904 : ∀ i, i < 904 → gp_go 16 (gp_b i) = true := gp_nx gc_903 gb_903
set_option maxRecDepth 100000 in
theorem gb_904 : gp_go 16 (gp_b 904) = true := by decide +kernel
theorem gc_905 : ∀ i, i < 905 → gp_go 16 (gp_b i) = true := gp_nx gc_904 gb_904
set_option maxRecDepth 100000 in
theorem gb_905 : gp_go 16 (gp_b 905) = true := by decide +kernel
theorem gc_906 : ∀ i, i < 906 → gp_go 16 (gp_b i) = true := gp_nx gc_905 gb_905
set_option maxRecDepth 100000 in
theorem gb_906 : gp_go 16 (gp_b 906) = true := by decide +kernel
theorem gc_907 : ∀ i, i < 907 → gp_go 16 (gp_b i) = true := gp_nx gc_906 gb_906
set_option maxRecDepth 100000 in
theorem gb_907 : gp_go 16 (gp_b 907) = true := by decide +kernel
theorem gc_908 : ∀ i, i < 908 → gp_go 16 (gp_b i) = true := gp_nx gc_907 gb_907
set_option maxRecDepth 100000 in
theorem gb_908 : gp_go 16 (gp_b 908) = true := by decide +kernel
theorem gc_909 : ∀ i, i < 909 → gp_go 16 (gp_b i) = true := gp_nx gc_908 gb_908
set_option maxRecDepth 100000 in
theorem gb_909 : gp_go 16 (gp_b 909) = true := by decide +kernel
theorem gc_910 : ∀ i, i < 910 → gp_go 16 (gp_b i) = true := gp_nx gc_909 gb_909
set_option maxRecDepth 100000 in
theorem gb_910 : gp_go 16 (gp_b 910) = true := by decide +kernel
theorem gc_911 : ∀ i, i < 911 → gp_go 16 (gp_b i) = true := gp_nx gc_910 gb_910
set_option maxRecDepth 100000 in
theorem gb_911 : gp_go 16 (gp_b 911) = true := by decide +kernel
theorem gc_912 : ∀ i, i < 912 → gp_go 16 (gp_b i) = true := gp_nx gc_911 gb_911
set_option maxRecDepth 100000 in
theorem gb_912 : gp_go 16 (gp_b 912) = true := by decide +kernel
theorem gc_913 : ∀ i, i < 913 → gp_go 16 (gp_b i) = true := gp_nx gc_912 gb_912
set_option maxRecDepth 100000 in
theorem gb_913 : gp_go 16 (gp_b 913) = true := by decide +kernel
theorem gc_914 : ∀ i, i < 914 → gp_go 16 (gp_b i) = true := gp_nx gc_913 gb_913
set_option maxRecDepth 100000 in
theorem gb_914 : gp_go 16 (gp_b 914) = true := by decide +kernel
theorem gc_915 : ∀ i, i < 915 → gp_go 16 (gp_b i) = true := gp_nx gc_914 gb_914
set_option maxRecDepth 100000 in
theorem gb_915 : gp_go 16 (gp_b 915) = true := by decide +kernel
theorem gc_916 : ∀ i, i < 916 → gp_go 16 (gp_b i) = true := gp_nx gc_915 gb_915
set_option maxRecDepth 100000 in
theorem gb_916 : gp_go 16 (gp_b 916) = true := by decide +kernel
theorem gc_917 : ∀ i, i < 917 → gp_go 16 (gp_b i) = true := gp_nx gc_916 gb_916
set_option maxRecDepth 100000 in
theorem gb_917 : gp_go 16 (gp_b 917) = true := by decide +kernel
theorem gc_918 : ∀ i, i < 918 → gp_go 16 (gp_b i) = true := gp_nx gc_917 gb_917
set_option maxRecDepth 100000 in
theorem gb_918 : gp_go 16 (gp_b 918) = true := by decide +kernel
theorem gc_919 : ∀ i, i < 919 → gp_go 16 (gp_b i) = true := gp_nx gc_918 gb_918
set_option maxRecDepth 100000 in
theorem gb_919 : gp_go 16 (gp_b 919) = true := by decide +kernel
theorem gc_920 : ∀ i, i < 920 → gp_go 16 (gp_b i) = true := gp_nx gc_919 gb_919
set_option maxRecDepth 100000 in
theorem gb_920 : gp_go 16 (gp_b 920) = true := by decide +kernel
theorem gc_921 : ∀ i, i < 921 → gp_go 16 (gp_b i) = true := gp_nx gc_920 gb_920
set_option maxRecDepth 100000 in
theorem gb_921 : gp_go 16 (gp_b 921) = true := by decide +kernel
theorem gc_922 : ∀ i, i < 922 → gp_go 16 (gp_b i) = true := gp_nx gc_921 gb_921
set_option maxRecDepth 100000 in
theorem gb_922 : gp_go 16 (gp_b 922) = true := by decide +kernel
theorem gc_923 : ∀ i, i < 923 → gp_go 16 (gp_b i) = true := gp_nx gc_922 gb_922
set_option maxRecDepth 100000 in
theorem gb_923 : gp_go 16 (gp_b 923) = true := by decide +kernel
theorem gc_924 : ∀ i, i < 924 → gp_go 16 (gp_b i) = true := gp_nx gc_923 gb_923
set_option maxRecDepth 100000 in
theorem gb_924 : gp_go 16 (gp_b 924) = true := by decide +kernel
theorem gc_925 : ∀ i, i < 925 → gp_go 16 (gp_b i) = true := gp_nx gc_924 gb_924
set_option maxRecDepth 100000 in
theorem gb_925 : gp_go 16 (gp_b 925) = true := by decide +kernel
theorem gc_926 : ∀ i, i < 926 → gp_go 16 (gp_b i) = true := gp_nx gc_925 gb_925
set_option maxRecDepth 100000 in
theorem gb_926 : gp_go 16 (gp_b 926) = true := by decide +kernel
theorem gc_927 : ∀ i, i < 927 → gp_go 16 (gp_b i) = true := gp_nx gc_926 gb_926
set_option maxRecDepth 100000 in
theorem gb_927 : gp_go 16 (gp_b 927) = true := by decide +kernel
theorem gc_928 : ∀ i, i < 928 → gp_go 16 (gp_b i) = true := gp_nx gc_927 gb_927
set_option maxRecDepth 100000 in
theorem gb_928 : gp_go 16 (gp_b 928) = true := by decide +kernel
theorem gc_929 : ∀ i, i < 929 → gp_go 16 (gp_b i) = true := gp_nx gc_928 gb_928
set_option maxRecDepth 100000 in
theorem gb_929 : gp_go 16 (gp_b 929) = true := by decide +kernel
theorem gc_930 : ∀ i, i < 930 → gp_go 16 (gp_b i) = true := gp_nx gc_929 gb_929
set_option maxRecDepth 100000 in
theorem gb_930 : gp_go 16 (gp_b 930) = true := by decide +kernel
theorem gc_931 : ∀ i, i < 931 → gp_go 16 (gp_b i) = true := gp_nx gc_930 gb_930
set_option maxRecDepth 100000 in
theorem gb_931 : gp_go 16 (gp_b 931) = true := by decide +kernel
theorem gc_932 : ∀ i, i < 932 → gp_go 16 (gp_b i) = true := gp_nx gc_931 gb_931
set_option maxRecDepth 100000 in
theorem gb_932 : gp_go 16 (gp_b 932) = true := by decide +kernel
theorem gc_933 : ∀ i, i < 933 → gp_go 16 (gp_b i) = true := gp_nx gc_932 gb_932
set_option maxRecDepth 100000 in
theorem gb_933 : gp_go 16 (gp_b 933) = true := by decide +kernel
theorem gc_934 : ∀ i, i < 934 → gp_go 16 (gp_b i) = true := gp_nx gc_933 gb_933
set_option maxRecDepth 100000 in
theorem gb_934 : gp_go 16 (gp_b 934) = true := by decide +kernel
theorem gc_935 : ∀ i, i < 935 → gp_go 16 (gp_b i) = true := gp_nx gc_934 gb_934
set_option maxRecDepth 100000 in
theorem gb_935 : gp_go 16 (gp_b 935) = true := by decide +kernel
theorem gc_936 : ∀ i, i < 936 → gp_go 16 (gp_b i) = true := gp_nx gc_935 gb_935
set_option maxRecDepth 100000 in
theorem gb_936 : gp_go 16 (gp_b 936) = true := by decide +kernel
theorem gc_937 : ∀ i, i < 937 → gp_go 16 (gp_b i) = true := gp_nx gc_936 gb_936
set_option maxRecDepth 100000 in
theorem gb_937 : gp_go 16 (gp_b 937) = true := by decide +kernel
theorem gc_938 : ∀ i, i < 938 → gp_go 16 (gp_b i) = true := gp_nx gc_937 gb_937
set_option maxRecDepth 100000 in
theorem gb_938 : gp_go 16 (gp_b 938) = true := by decide +kernel
theorem gc_939 : ∀ i, i < 939 → gp_go 16 (gp_b i) = true := gp_nx gc_938 gb_938
set_option maxRecDepth 100000 in
theorem gb_939 : gp_go 16 (gp_b 939) = true := by decide +kernel
theorem gc_940 : ∀ i, i < 940 → gp_go 16 (gp_b i) = true := gp_nx gc_939 gb_939
set_option maxRecDepth 100000 in
theorem gb_940 : gp_go 16 (gp_b 940) = true := by decide +kernel
theorem gc_941 : ∀ i, i < 941 → gp_go 16 (gp_b i) = true := gp_nx gc_940 gb_940
set_option maxRecDepth 100000 in
theorem gb_941 : gp_go 16 (gp_b 941) = true := by decide +kernel
theorem gc_942 : ∀ i, i < 942 → gp_go 16 (gp_b i) = true := gp_nx gc_941 gb_941
set_option maxRecDepth 100000 in
theorem gb_942 : gp_go 16 (gp_b 942) = true := by decide +kernel
theorem gc_943 : ∀ i, i < 943 → gp_go 16 (gp_b i) = true := gp_nx gc_942 gb_942
set_option maxRecDepth 100000 in
theorem gb_943 : gp_go 16 (gp_b 943) = true := by decide +kernel
theorem gc_944 : ∀ i, i < 944 → gp_go 16 (gp_b i) = true := gp_nx gc_943 gb_943
set_option maxRecDepth 100000 in
theorem gb_944 : gp_go 16 (gp_b 944) = true := by decide +kernel
theorem gc_945 : ∀ i, i < 945 → gp_go 16 (gp_b i) = true := gp_nx gc_944 gb_944
set_option maxRecDepth 100000 in
theorem gb_945 : gp_go 16 (gp_b 945) = true := by decide +kernel
theorem gc_946 : ∀ i, i < 946 → gp_go 16 (gp_b i) = true := gp_nx gc_945 gb_945
set_option maxRecDepth 100000 in
theorem gb_946 : gp_go 16 (gp_b 946) = true := by decide +kernel
theorem gc_947 : ∀ i, i < 947 → gp_go 16 (gp_b i) = true := gp_nx gc_946 gb_946
set_option maxRecDepth 100000 in
theorem gb_947 : gp_go 16 (gp_b 947) = true := by decide +kernel
theorem gc_948 : ∀ i, i < 948 → gp_go 16 (gp_b i) = true := gp_nx gc_947 gb_947
set_option maxRecDepth 100000 in
theorem gb_948 : gp_go 16 (gp_b 948) = true := by decide +kernel
theorem gc_949 : ∀ i, i < 949 → gp_go 16 (gp_b i) = true := gp_nx gc_948 gb_948
set_option maxRecDepth 100000 in
theorem gb_949 : gp_go 16 (gp_b 949) = true := by decide +kernel
theorem gc_950 : ∀ i, i < 950 → gp_go 16 (gp_b i) = true := gp_nx gc_949 gb_949
set_option maxRecDepth 100000 in
theorem gb_950 : gp_go 16 (gp_b 950) = true := by decide +kernel
theorem gc_951 : ∀ i, i < 951 → gp_go 16 (gp_b i) = true := gp_nx gc_950 gb_950
set_option maxRecDepth 100000 in
theorem gb_951 : gp_go 16 (gp_b 951) = true := by decide +kernel
theorem gc_952 : ∀ i, i < 952 → gp_go 16 (gp_b i) = true := gp_nx gc_951 gb_951
set_option maxRecDepth 100000 in
theorem gb_952 : gp_go 16 (gp_b 952) = true := by decide +kernel
theorem gc_953 : ∀ i, i < 953 → gp_go 16 (gp_b i) = true := gp_nx gc_952 gb_952
set_option maxRecDepth 100000 in
theorem gb_953 : gp_go 16 (gp_b 953) = true := by decide +kernel
theorem gc_954 : ∀ i, i < 954 → gp_go 16 (gp_b i) = true := gp_nx gc_953 gb_953
set_option maxRecDepth 100000 in
theorem gb_954 : gp_go 16 (gp_b 954) = true := by decide +kernel
theorem gc_955 : ∀ i, i < 955 → gp_go 16 (gp_b i) = true := gp_nx gc_954 gb_954
set_option maxRecDepth 100000 in
theorem gb_955 : gp_go 16 (gp_b 955) = true := by decide +kernel
theorem gc_956 : ∀ i, i < 956 → gp_go 16 (gp_b i) = true := gp_nx gc_955 gb_955
set_option maxRecDepth 100000 in
theorem gb_956 : gp_go 16 (gp_b 956) = true := by decide +kernel
theorem gc_957 : ∀ i, i < 957 → gp_go 16 (gp_b i) = true := gp_nx gc_956 gb_956
set_option maxRecDepth 100000 in
theorem gb_957 : gp_go 16 (gp_b 957) = true := by decide +kernel
theorem gc_958 : ∀ i, i < 958 → gp_go 16 (gp_b i) = true := gp_nx gc_957 gb_957
set_option maxRecDepth 100000 in
theorem gb_958 : gp_go 16 (gp_b 958) = true := by decide +kernel
theorem gc_959 : ∀ i, i < 959 → gp_go 16 (gp_b i) = true := gp_nx gc_958 gb_958
set_option maxRecDepth 100000 in
theorem gb_959 : gp_go 16 (gp_b 959) = true := by decide +kernel
theorem gc_960 : ∀ i, i < 960 → gp_go 16 (gp_b i) = true := gp_nx gc_959 gb_959
set_option maxRecDepth 100000 in
theorem gb_960 : gp_go 16 (gp_b 960) = true := by decide +kernel
theorem gc_961 : ∀ i, i < 961 → gp_go 16 (gp_b i) = true := gp_nx gc_960 gb_960
set_option maxRecDepth 100000 in
theorem gb_961 : gp_go 16 (gp_b 961) = true := by decide +kernel
theorem gc_962 : ∀ i, i < 962 → gp_go 16 (gp_b i) = true := gp_nx gc_961 gb_961
set_option maxRecDepth 100000 in
theorem gb_962 : gp_go 16 (gp_b 962) = true := by decide +kernel
theorem gc_963 : ∀ i, i < 963 → gp_go 16 (gp_b i) = true := gp_nx gc_962 gb_962
set_option maxRecDepth 100000 in
theorem gb_963 : gp_go 16 (gp_b 963) = true := by decide +kernel
theorem gc_964 : ∀ i, i < 964 → gp_go 16 (gp_b i) = true := gp_nx gc_963 gb_963
set_option maxRecDepth 100000 in
theorem gb_964 : gp_go 16 (gp_b 964) = true := by decide +kernel
theorem gc_965 : ∀ i, i < 965 → gp_go 16 (gp_b i) = true := gp_nx gc_964 gb_964
set_option maxRecDepth 100000 in
theorem gb_965 : gp_go 16 (gp_b 965) = true := by decide +kernel
theorem gc_966 : ∀ i, i < 966 → gp_go 16 (gp_b i) = true := gp_nx gc_965 gb_965
set_option maxRecDepth 100000 in
theorem gb_966 : gp_go 16 (gp_b 966) = true := by decide +kernel
theorem gc_967 : ∀ i, i < 967 → gp_go 16 (gp_b i) = true := gp_nx gc_966 gb_966
set_option maxRecDepth 100000 in
theorem gb_967 : gp_go 16 (gp_b 967) = true := by decide +kernel
theorem gc_968 : ∀ i, i < 968 → gp_go 16 (gp_b i) = true := gp_nx gc_967 gb_967
set_option maxRecDepth 100000 in
theorem gb_968 : gp_go 16 (gp_b 968) = true := by decide +kernel
theorem gc_969 : ∀ i, i < 969 → gp_go 16 (gp_b i) = true := gp_nx gc_968 gb_968
set_option maxRecDepth 100000 in
theorem gb_969 : gp_go 16 (gp_b 969) = true := by decide +kernel
theorem gc_970 : ∀ i, i < 970 → gp_go 16 (gp_b i) = true := gp_nx gc_969 gb_969
set_option maxRecDepth 100000 in
theorem gb_970 : gp_go 16 (gp_b 970) = true := by decide +kernel
theorem gc_971 : ∀ i, i < 971 → gp_go 16 (gp_b i) = true := gp_nx gc_970 gb_970
set_option maxRecDepth 100000 in
theorem gb_971 : gp_go 16 (gp_b 971) = true := by decide +kernel
theorem gc_972 : ∀ i, i < 972 → gp_go 16 (gp_b i) = true := gp_nx gc_971 gb_971
set_option maxRecDepth 100000 in
theorem gb_972 : gp_go 16 (gp_b 972) = true := by decide +kernel
theorem gc_973 : ∀ i, i < 973 → gp_go 16 (gp_b i) = true := gp_nx gc_972 gb_972
set_option maxRecDepth 100000 in
theorem gb_973 : gp_go 16 (gp_b 973) = true := by decide +kernel
theorem gc_974 : ∀ i, i < 974 → gp_go 16 (gp_b i) = true := gp_nx gc_973 gb_973
set_option maxRecDepth 100000 in
theorem gb_974 : gp_go 16 (gp_b 974) = true := by decide +kernel
theorem gc_975 : ∀ i, i < 975 → gp_go 16 (gp_b i) = true := gp_nx gc_974 gb_974
set_option maxRecDepth 100000 in
theorem gb_975 : gp_go 16 (gp_b 975) = true := by decide +kernel
theorem gc_976 : ∀ i, i < 976 → gp_go 16 (gp_b i) = true := gp_nx gc_975 gb_975
set_option maxRecDepth 100000 in
theorem gb_976 : gp_go 16 (gp_b 976) = true := by decide +kernel
theorem gc_977 : ∀ i, i < 977 → gp_go 16 (gp_b i) = true := gp_nx gc_976 gb_976
set_option maxRecDepth 100000 in
theorem gb_977 : gp_go 16 (gp_b 977) = true := by decide +kernel
theorem gc_978 : ∀ i, i < 978 → gp_go 16 (gp_b i) = true := gp_nx gc_977 gb_977
set_option maxRecDepth 100000 in
theorem gb_978 : gp_go 16 (gp_b 978) = true := by decide +kernel
theorem gc_979 : ∀ i, i < 979 → gp_go 16 (gp_b i) = true := gp_nx gc_978 gb_978
set_option maxRecDepth 100000 in
theorem gb_979 : gp_go 16 (gp_b 979) = true := by decide +kernel
theorem gc_980 : ∀ i, i < 980 → gp_go 16 (gp_b i) = true := gp_nx gc_979 gb_979
set_option maxRecDepth 100000 in
theorem gb_980 : gp_go 16 (gp_b 980) = true := by decide +kernel
theorem gc_981 : ∀ i, i < 981 → gp_go 16 (gp_b i) = true := gp_nx gc_980 gb_980
set_option maxRecDepth 100000 in
theorem gb_981 : gp_go 16 (gp_b 981) = true := by decide +kernel
theorem gc_982 : ∀ i, i < 982 → gp_go 16 (gp_b i) = true := gp_nx gc_981 gb_981
set_option maxRecDepth 100000 in
theorem gb_982 : gp_go 16 (gp_b 982) = true := by decide +kernel
theorem gc_983 : ∀ i, i < 983 → gp_go 16 (gp_b i) = true := gp_nx gc_982 gb_982
set_option maxRecDepth 100000 in
theorem gb_983 : gp_go 16 (gp_b 983) = true := by decide +kernel
theorem gc_984 : ∀ i, i < 984 → gp_go 16 (gp_b i) = true := gp_nx gc_983 gb_983
set_option maxRecDepth 100000 in
theorem gb_984 : gp_go 16 (gp_b 984) = true := by decide +kernel
theorem gc_985 : ∀ i, i < 985 → gp_go 16 (gp_b i) = true := gp_nx gc_984 gb_984
set_option maxRecDepth 100000 in
theorem gb_985 : gp_go 16 (gp_b 985) = true := by decide +kernel
theorem gc_986 : ∀ i, i < 986 → gp_go 16 (gp_b i) = true := gp_nx gc_985 gb_985
set_option maxRecDepth 100000 in
theorem gb_986 : gp_go 16 (gp_b 986) = true := by decide +kernel
theorem gc_987 : ∀ i, i < 987 → gp_go 16 (gp_b i) = true := gp_nx gc_986 gb_986
set_option maxRecDepth 100000 in
theorem gb_987 : gp_go 16 (gp_b 987) = true := by decide +kernel
theorem gc_988 : ∀ i, i < 988 → gp_go 16 (gp_b i) = true := gp_nx gc_987 gb_987
set_option maxRecDepth 100000 in
theorem gb_988 : gp_go 16 (gp_b 988) = true := by decide +kernel
theorem gc_989 : ∀ i, i < 989 → gp_go 16 (gp_b i) = true := gp_nx gc_988 gb_988
set_option maxRecDepth 100000 in
theorem gb_989 : gp_go 16 (gp_b 989) = true := by decide +kernel
theorem gc_990 : ∀ i, i < 990 → gp_go 16 (gp_b i) = true := gp_nx gc_989 gb_989
set_option maxRecDepth 100000 in
theorem gb_990 : gp_go 16 (gp_b 990) = true := by decide +kernel
theorem gc_991 : ∀ i, i < 991 → gp_go 16 (gp_b i) = true := gp_nx gc_990 gb_990
set_option maxRecDepth 100000 in
theorem gb_991 : gp_go 16 (gp_b 991) = true := by decide +kernel
theorem gc_992 : ∀ i, i < 992 → gp_go 16 (gp_b i) = true := gp_nx gc_991 gb_991
set_option maxRecDepth 100000 in
theorem gb_992 : gp_go 16 (gp_b 992) = true := by decide +kernel
theorem gc_993 : ∀ i, i < 993 → gp_go 16 (gp_b i) = true := gp_nx gc_992 gb_992
set_option maxRecDepth 100000 in
theorem gb_993 : gp_go 16 (gp_b 993) = true := by decide +kernel
theorem gc_994 : ∀ i, i < 994 → gp_go 16 (gp_b i) = true := gp_nx gc_993 gb_993
set_option maxRecDepth 100000 in
theorem gb_994 : gp_go 16 (gp_b 994) = true := by decide +kernel
theorem gc_995 : ∀ i, i < 995 → gp_go 16 (gp_b i) = true := gp_nx gc_994 gb_994
set_option maxRecDepth 100000 in
theorem gb_995 : gp_go 16 (gp_b 995) = true := by decide +kernel
theorem gc_996 : ∀ i, i < 996 → gp_go 16 (gp_b i) = true := gp_nx gc_995 gb_995
set_option maxRecDepth 100000 in
theorem gb_996 : gp_go 16 (gp_b 996) = true := by decide +kernel
theorem gc_997 : ∀ i, i < 997 → gp_go 16 (gp_b i) = true := gp_nx gc_996 gb_996
set_option maxRecDepth 100000 in
theorem gb_997 : gp_go 16 (gp_b 997) = true := by decide +kernel
theorem gc_998 : ∀ i, i < 998 → gp_go 16 (gp_b i) = true := gp_nx gc_997 gb_997
set_option maxRecDepth 100000 in
theorem gb_998 : gp_go 16 (gp_b 998) = true := by decide +kernel
theorem gc_999 : ∀ i, i < 999 → gp_go 16 (gp_b i) = true := gp_nx gc_998 gb_998
set_option maxRecDepth 100000 in
theorem gb_999 : gp_go 16 (gp_b 999) = true := by decide +kernel
theorem gc_1000 : ∀ i, i < 1000 → gp_go 16 (gp_b i) = true := gp_nx gc_999 gb_999
set_option maxRecDepth 100000 in
theorem gb_1000 : gp_go 16 (gp_b 1000) = true := by decide +kernel
theorem gc_1001 : ∀ i, i < 1001 → gp_go 16 (gp_b i) = true := gp_nx gc_1000 gb_1000
set_option maxRecDepth 100000 in
theorem gb_1001 : gp_go 16 (gp_b 1001) = true := by decide +kernel
theorem gc_1002 : ∀ i, i < 1002 → gp_go 16 (gp_b i) = true := gp_nx gc_1001 gb_1001
set_option maxRecDepth 100000 in
theorem gb_1002 : gp_go 16 (gp_b 1002) = true := by decide +kernel
theorem gc_1003 : ∀ i, i < 1003 → gp_go 16 (gp_b i) = true := gp_nx gc_1002 gb_1002
set_option maxRecDepth 100000 in
theorem gb_1003 : gp_go 16 (gp_b 1003) = true := by decide +kernel
theorem gc_1004 : ∀ i, i < 1004 → gp_go 16 (gp_b i) = true := gp_nx gc_1003 gb_1003
set_option maxRecDepth 100000 in
theorem gb_1004 : gp_go 16 (gp_b 1004) = true := by decide +kernel
theorem gc_1005 : ∀ i, i < 1005 → gp_go 16 (gp_b i) = true := gp_nx gc_1004 gb_1004
set_option maxRecDepth 100000 in
theorem gb_1005 : gp_go 16 (gp_b 1005) = true := by decide +kernel
theorem gc_1006 : ∀ i, i < 1006 → gp_go 16 (gp_b i) = true := gp_nx gc_1005 gb_1005
set_option maxRecDepth 100000 in
theorem gb_1006 : gp_go 16 (gp_b 1006) = true := by decide +kernel
theorem gc_1007 : ∀ i, i < 1007 → gp_go 16 (gp_b i) = true := gp_nx gc_1006 gb_1006
set_option maxRecDepth 100000 in
theorem gb_1007 : gp_go 16 (gp_b 1007) = true := by decide +kernel
theorem gc_1008 : ∀ i, i < 1008 → gp_go 16 (gp_b i) = true := gp_nx gc_1007 gb_1007
set_option maxRecDepth 100000 in
theorem gb_1008 : gp_go 16 (gp_b 1008) = true := by decide +kernel
theorem gc_1009 : ∀ i, i < 1009 → gp_go 16 (gp_b i) = true := gp_nx gc_1008 gb_1008
set_option maxRecDepth 100000 in
theorem gb_1009 : gp_go 16 (gp_b 1009) = true := by decide +kernel
theorem gc_1010 : ∀ i, i < 1010 → gp_go 16 (gp_b i) = true := gp_nx gc_1009 gb_1009
set_option maxRecDepth 100000 in
theorem gb_1010 : gp_go 16 (gp_b 1010) = true := by decide +kernel
theorem gc_1011 : ∀ i, i < 1011 → gp_go 16 (gp_b i) = true := gp_nx gc_1010 gb_1010
set_option maxRecDepth 100000 in
theorem gb_1011 : gp_go 16 (gp_b 1011) = true := by decide +kernel
theorem gc_1012 : ∀ i, i < 1012 → gp_go 16 (gp_b i) = true := gp_nx gc_1011 gb_1011
set_option maxRecDepth 100000 in
theorem gb_1012 : gp_go 16 (gp_b 1012) = true := by decide +kernel
theorem gc_1013 : ∀ i, i < 1013 → gp_go 16 (gp_b i) = true := gp_nx gc_1012 gb_1012
set_option maxRecDepth 100000 in
theorem gb_1013 : gp_go 16 (gp_b 1013) = true := by decide +kernel
theorem gc_1014 : ∀ i, i < 1014 → gp_go 16 (gp_b i) = true := gp_nx gc_1013 gb_1013
set_option maxRecDepth 100000 in
theorem gb_1014 : gp_go 16 (gp_b 1014) = true := by decide +kernel
theorem gc_1015 : ∀ i, i < 1015 → gp_go 16 (gp_b i) = true := gp_nx gc_1014 gb_1014
set_option maxRecDepth 100000 in
theorem gb_1015 : gp_go 16 (gp_b 1015) = true := by decide +kernel
theorem gc_1016 : ∀ i, i < 1016 → gp_go 16 (gp_b i) = true := gp_nx gc_1015 gb_1015
set_option maxRecDepth 100000 in
theorem gb_1016 : gp_go 16 (gp_b 1016) = true := by decide +kernel
theorem gc_1017 : ∀ i, i < 1017 → gp_go 16 (gp_b i) = true := gp_nx gc_1016 gb_1016
set_option maxRecDepth 100000 in
theorem gb_1017 : gp_go 16 (gp_b 1017) = true := by decide +kernel
theorem gc_1018 : ∀ i, i < 1018 → gp_go 16 (gp_b i) = true := gp_nx gc_1017 gb_1017
set_option maxRecDepth 100000 in
theorem gb_1018 : gp_go 16 (gp_b 1018) = true := by decide +kernel
theorem gc_1019 : ∀ i, i < 1019 → gp_go 16 (gp_b i) = true := gp_nx gc_1018 gb_1018
set_option maxRecDepth 100000 in
theorem gb_1019 : gp_go 16 (gp_b 1019) = true := by decide +kernel
theorem gc_1020 : ∀ i, i < 1020 → gp_go 16 (gp_b i) = true := gp_nx gc_1019 gb_1019
set_option maxRecDepth 100000 in
theorem gb_1020 : gp_go 16 (gp_b 1020) = true := by decide +kernel
theorem gc_1021 : ∀ i, i < 1021 → gp_go 16 (gp_b i) = true := gp_nx gc_1020 gb_1020
set_option maxRecDepth 100000 in
theorem gb_1021 : gp_go 16 (gp_b 1021) = true := by decide +kernel
theorem gc_1022 : ∀ i, i < 1022 → gp_go 16 (gp_b i) = true := gp_nx gc_1021 gb_1021
set_option maxRecDepth 100000 in
theorem gb_1022 : gp_go 16 (gp_b 1022) = true := by decide +kernel
theorem gc_1023 : ∀ i, i < 1023 → gp_go 16 (gp_b i) = true := gp_nx gc_1022 gb_1022
set_option maxRecDepth 100000 in
theorem gb_1023 : gp_go 16 (gp_b 1023) = true := by decide +kernel
theorem gc_1024 : ∀ i, i < 1024 → gp_go 16 (gp_b i) = true := gp_nx gc_1023 gb_1023
set_option maxRecDepth 100000 in
theorem gb_1024 : gp_go 16 (gp_b 1024) = true := by decide +kernel
theorem gc_1025 : ∀ i, i < 1025 → gp_go 16 (gp_b i) = true := gp_nx gc_1024 gb_1024
end XGB
