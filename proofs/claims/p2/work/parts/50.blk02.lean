/-- ShodBackwards$Bargain.<init>()V -/
theorem d_201_0 : List.drop 0 xm_c201 = xm_c201 := rfl
theorem k_201_0 : xm_gi xm_c201 0 = some xm_e201_0 := xm_gt d_201_0
theorem d_201_1 : List.drop 1 xm_c201 = xm_c201_1 := xm_dr d_201_0
theorem k_201_1 : xm_gi xm_c201 1 = some xm_e201_1 := xm_gt d_201_1
theorem d_201_2 : List.drop 2 xm_c201 = xm_c201_2 := xm_dr d_201_1
theorem k_201_2 : xm_gi xm_c201 2 = some xm_e201_2 := xm_gt d_201_2
theorem xb_201_0 {sc : List Int} {f : Nat → List xm_V → xm_W → xm_R} {w : xm_W} {Q : Option xm_V × xm_W → Prop} {x0 : Nat}
  (h : Q (none, w)) :
  xm_EQ (xm_old sc) xm_sta f xm_c201 0 [some (.inr (.inl (some x0)))] [] w Q :=
  (xq_aload_n k_201_0 rfl (xq_obj k_201_1 rfl (xq_return k_201_2 h)))
/-- ShodBackwards$Bargain.strike([I)V -/
theorem d_202_0 : List.drop 0 xm_c202 = xm_c202 := rfl
theorem k_202_0 : xm_gi xm_c202 0 = some xm_e202_0 := xm_gt d_202_0
theorem d_202_1 : List.drop 1 xm_c202 = xm_c202_1 := xm_dr d_202_0
theorem k_202_1 : xm_gi xm_c202 1 = some xm_e202_1 := xm_gt d_202_1
theorem d_202_2 : List.drop 2 xm_c202 = xm_c202_2 := xm_dr d_202_1
theorem k_202_2 : xm_gi xm_c202 2 = some xm_e202_2 := xm_gt d_202_2
theorem d_202_3 : List.drop 3 xm_c202 = xm_c202_3 := xm_dr d_202_2
theorem k_202_3 : xm_gi xm_c202 3 = some xm_e202_3 := xm_gt d_202_3
theorem d_202_4 : List.drop 4 xm_c202 = xm_c202_4 := xm_dr d_202_3
theorem k_202_4 : xm_gi xm_c202 4 = some xm_e202_4 := xm_gt d_202_4
theorem d_202_5 : List.drop 5 xm_c202 = xm_c202_5 := xm_dr d_202_4
theorem k_202_5 : xm_gi xm_c202 5 = some xm_e202_5 := xm_gt d_202_5
theorem d_202_6 : List.drop 6 xm_c202 = xm_c202_6 := xm_dr d_202_5
theorem k_202_6 : xm_gi xm_c202 6 = some xm_e202_6 := xm_gt d_202_6
theorem d_202_7 : List.drop 7 xm_c202 = xm_c202_7 := xm_dr d_202_6
theorem k_202_7 : xm_gi xm_c202 7 = some xm_e202_7 := xm_gt d_202_7
theorem d_202_8 : List.drop 8 xm_c202 = xm_c202_8 := xm_dr d_202_7
theorem k_202_8 : xm_gi xm_c202 8 = some xm_e202_8 := xm_gt d_202_8
theorem d_202_9 : List.drop 9 xm_c202 = xm_c202_9 := xm_dr d_202_8
theorem k_202_9 : xm_gi xm_c202 9 = some xm_e202_9 := xm_gt d_202_9
theorem d_202_10 : List.drop 10 xm_c202 = xm_c202_10 := xm_dr d_202_9
theorem k_202_10 : xm_gi xm_c202 10 = some xm_e202_10 := xm_gt d_202_10
theorem d_202_11 : List.drop 11 xm_c202 = xm_c202_11 := xm_dr d_202_10
theorem k_202_11 : xm_gi xm_c202 11 = some xm_e202_11 := xm_gt d_202_11
theorem d_202_12 : List.drop 12 xm_c202 = xm_c202_12 := xm_dr d_202_11
theorem k_202_12 : xm_gi xm_c202 12 = some xm_e202_12 := xm_gt d_202_12
theorem d_202_13 : List.drop 13 xm_c202 = xm_c202_13 := xm_dr d_202_12
theorem k_202_13 : xm_gi xm_c202 13 = some xm_e202_13 := xm_gt d_202_13
theorem d_202_14 : List.drop 14 xm_c202 = xm_c202_14 := xm_dr d_202_13
theorem k_202_14 : xm_gi xm_c202 14 = some xm_e202_14 := xm_gt d_202_14
theorem d_202_15 : List.drop 15 xm_c202 = xm_c202_15 := xm_dr d_202_14
theorem k_202_15 : xm_gi xm_c202 15 = some xm_e202_15 := xm_gt d_202_15
theorem d_202_16 : List.drop 16 xm_c202 = xm_c202_16 := xm_dr d_202_15
theorem k_202_16 : xm_gi xm_c202 16 = some xm_e202_16 := xm_gt d_202_16
theorem d_202_17 : List.drop 17 xm_c202 = xm_c202_17 := xm_dr d_202_16
theorem k_202_17 : xm_gi xm_c202 17 = some xm_e202_17 := xm_gt d_202_17
theorem d_202_18 : List.drop 18 xm_c202 = xm_c202_18 := xm_dr d_202_17
theorem k_202_18 : xm_gi xm_c202 18 = some xm_e202_18 := xm_gt d_202_18
theorem d_202_19 : List.drop 19 xm_c202 = xm_c202_19 := xm_dr d_202_18
theorem k_202_19 : xm_gi xm_c202 19 = some xm_e202_19 := xm_gt d_202_19
theorem d_202_20 : List.drop 20 xm_c202 = xm_c202_20 := xm_dr d_202_19
theorem k_202_20 : xm_gi xm_c202 20 = some xm_e202_20 := xm_gt d_202_20
theorem d_202_21 : List.drop 21 xm_c202 = xm_c202_21 := xm_dr d_202_20
theorem k_202_21 : xm_gi xm_c202 21 = some xm_e202_21 := xm_gt d_202_21
theorem d_202_22 : List.drop 22 xm_c202 = xm_c202_22 := xm_dr d_202_21
theorem k_202_22 : xm_gi xm_c202 22 = some xm_e202_22 := xm_gt d_202_22
theorem d_202_23 : List.drop 23 xm_c202 = xm_c202_23 := xm_dr d_202_22
theorem k_202_23 : xm_gi xm_c202 23 = some xm_e202_23 := xm_gt d_202_23
theorem d_202_24 : List.drop 24 xm_c202 = xm_c202_24 := xm_dr d_202_23
theorem k_202_24 : xm_gi xm_c202 24 = some xm_e202_24 := xm_gt d_202_24
theorem d_202_25 : List.drop 25 xm_c202 = xm_c202_25 := xm_dr d_202_24
theorem k_202_25 : xm_gi xm_c202 25 = some xm_e202_25 := xm_gt d_202_25
theorem d_202_26 : List.drop 26 xm_c202 = xm_c202_26 := xm_dr d_202_25
theorem k_202_26 : xm_gi xm_c202 26 = some xm_e202_26 := xm_gt d_202_26
theorem d_202_27 : List.drop 27 xm_c202 = xm_c202_27 := xm_dr d_202_26
theorem k_202_27 : xm_gi xm_c202 27 = some xm_e202_27 := xm_gt d_202_27
theorem d_202_28 : List.drop 28 xm_c202 = xm_c202_28 := xm_dr d_202_27
theorem k_202_28 : xm_gi xm_c202 28 = some xm_e202_28 := xm_gt d_202_28
theorem d_202_29 : List.drop 29 xm_c202 = xm_c202_29 := xm_dr d_202_28
theorem k_202_29 : xm_gi xm_c202 29 = some xm_e202_29 := xm_gt d_202_29
theorem d_202_30 : List.drop 30 xm_c202 = xm_c202_30 := xm_dr d_202_29
theorem k_202_30 : xm_gi xm_c202 30 = some xm_e202_30 := xm_gt d_202_30
theorem d_202_31 : List.drop 31 xm_c202 = xm_c202_31 := xm_dr d_202_30
theorem k_202_31 : xm_gi xm_c202 31 = some xm_e202_31 := xm_gt d_202_31
theorem d_202_32 : List.drop 32 xm_c202 = xm_c202_32 := xm_dr d_202_31
theorem k_202_32 : xm_gi xm_c202 32 = some xm_e202_32 := xm_gt d_202_32
theorem d_202_33 : List.drop 33 xm_c202 = xm_c202_33 := xm_dr d_202_32
theorem k_202_33 : xm_gi xm_c202 33 = some xm_e202_33 := xm_gt d_202_33
theorem d_202_34 : List.drop 34 xm_c202 = xm_c202_34 := xm_dr d_202_33
theorem k_202_34 : xm_gi xm_c202 34 = some xm_e202_34 := xm_gt d_202_34
theorem d_202_35 : List.drop 35 xm_c202 = xm_c202_35 := xm_dr d_202_34
theorem k_202_35 : xm_gi xm_c202 35 = some xm_e202_35 := xm_gt d_202_35
theorem d_202_36 : List.drop 36 xm_c202 = xm_c202_36 := xm_dr d_202_35
theorem k_202_36 : xm_gi xm_c202 36 = some xm_e202_36 := xm_gt d_202_36
theorem d_202_37 : List.drop 37 xm_c202 = xm_c202_37 := xm_dr d_202_36
theorem k_202_37 : xm_gi xm_c202 37 = some xm_e202_37 := xm_gt d_202_37
theorem d_202_38 : List.drop 38 xm_c202 = xm_c202_38 := xm_dr d_202_37
theorem k_202_38 : xm_gi xm_c202 38 = some xm_e202_38 := xm_gt d_202_38
theorem d_202_39 : List.drop 39 xm_c202 = xm_c202_39 := xm_dr d_202_38
theorem k_202_39 : xm_gi xm_c202 39 = some xm_e202_39 := xm_gt d_202_39
theorem d_202_40 : List.drop 40 xm_c202 = xm_c202_40 := xm_dr d_202_39
theorem k_202_40 : xm_gi xm_c202 40 = some xm_e202_40 := xm_gt d_202_40
theorem d_202_41 : List.drop 41 xm_c202 = xm_c202_41 := xm_dr d_202_40
theorem k_202_41 : xm_gi xm_c202 41 = some xm_e202_41 := xm_gt d_202_41
theorem d_202_42 : List.drop 42 xm_c202 = xm_c202_42 := xm_dr d_202_41
theorem k_202_42 : xm_gi xm_c202 42 = some xm_e202_42 := xm_gt d_202_42
theorem d_202_43 : List.drop 43 xm_c202 = xm_c202_43 := xm_dr d_202_42
theorem k_202_43 : xm_gi xm_c202 43 = some xm_e202_43 := xm_gt d_202_43
theorem d_202_44 : List.drop 44 xm_c202 = xm_c202_44 := xm_dr d_202_43
theorem k_202_44 : xm_gi xm_c202 44 = some xm_e202_44 := xm_gt d_202_44
theorem d_202_45 : List.drop 45 xm_c202 = xm_c202_45 := xm_dr d_202_44
theorem k_202_45 : xm_gi xm_c202 45 = some xm_e202_45 := xm_gt d_202_45
theorem d_202_46 : List.drop 46 xm_c202 = xm_c202_46 := xm_dr d_202_45
theorem k_202_46 : xm_gi xm_c202 46 = some xm_e202_46 := xm_gt d_202_46
theorem d_202_47 : List.drop 47 xm_c202 = xm_c202_47 := xm_dr d_202_46
theorem k_202_47 : xm_gi xm_c202 47 = some xm_e202_47 := xm_gt d_202_47
theorem d_202_48 : List.drop 48 xm_c202 = xm_c202_48 := xm_dr d_202_47
theorem k_202_48 : xm_gi xm_c202 48 = some xm_e202_48 := xm_gt d_202_48
theorem d_202_49 : List.drop 49 xm_c202 = xm_c202_49 := xm_dr d_202_48
theorem k_202_49 : xm_gi xm_c202 49 = some xm_e202_49 := xm_gt d_202_49
theorem d_202_50 : List.drop 50 xm_c202 = xm_c202_50 := xm_dr d_202_49
theorem k_202_50 : xm_gi xm_c202 50 = some xm_e202_50 := xm_gt d_202_50
theorem d_202_51 : List.drop 51 xm_c202 = xm_c202_51 := xm_dr d_202_50
theorem k_202_51 : xm_gi xm_c202 51 = some xm_e202_51 := xm_gt d_202_51
theorem d_202_52 : List.drop 52 xm_c202 = xm_c202_52 := xm_dr d_202_51
theorem k_202_52 : xm_gi xm_c202 52 = some xm_e202_52 := xm_gt d_202_52
theorem d_202_53 : List.drop 53 xm_c202 = xm_c202_53 := xm_dr d_202_52
theorem k_202_53 : xm_gi xm_c202 53 = some xm_e202_53 := xm_gt d_202_53
theorem d_202_54 : List.drop 54 xm_c202 = xm_c202_54 := xm_dr d_202_53
theorem k_202_54 : xm_gi xm_c202 54 = some xm_e202_54 := xm_gt d_202_54
theorem d_202_55 : List.drop 55 xm_c202 = xm_c202_55 := xm_dr d_202_54
theorem k_202_55 : xm_gi xm_c202 55 = some xm_e202_55 := xm_gt d_202_55
theorem d_202_56 : List.drop 56 xm_c202 = xm_c202_56 := xm_dr d_202_55
theorem k_202_56 : xm_gi xm_c202 56 = some xm_e202_56 := xm_gt d_202_56
theorem d_202_57 : List.drop 57 xm_c202 = xm_c202_57 := xm_dr d_202_56
theorem k_202_57 : xm_gi xm_c202 57 = some xm_e202_57 := xm_gt d_202_57
theorem d_202_58 : List.drop 58 xm_c202 = xm_c202_58 := xm_dr d_202_57
theorem k_202_58 : xm_gi xm_c202 58 = some xm_e202_58 := xm_gt d_202_58
theorem d_202_59 : List.drop 59 xm_c202 = xm_c202_59 := xm_dr d_202_58
theorem k_202_59 : xm_gi xm_c202 59 = some xm_e202_59 := xm_gt d_202_59
theorem d_202_60 : List.drop 60 xm_c202 = xm_c202_60 := xm_dr d_202_59
theorem k_202_60 : xm_gi xm_c202 60 = some xm_e202_60 := xm_gt d_202_60
theorem d_202_61 : List.drop 61 xm_c202 = xm_c202_61 := xm_dr d_202_60
theorem k_202_61 : xm_gi xm_c202 61 = some xm_e202_61 := xm_gt d_202_61
theorem d_202_62 : List.drop 62 xm_c202 = xm_c202_62 := xm_dr d_202_61
theorem k_202_62 : xm_gi xm_c202 62 = some xm_e202_62 := xm_gt d_202_62
theorem d_202_63 : List.drop 63 xm_c202 = xm_c202_63 := xm_dr d_202_62
theorem k_202_63 : xm_gi xm_c202 63 = some xm_e202_63 := xm_gt d_202_63
theorem d_202_64 : List.drop 64 xm_c202 = xm_c202_64 := xm_dr d_202_63
theorem k_202_64 : xm_gi xm_c202 64 = some xm_e202_64 := xm_gt d_202_64
theorem d_202_65 : List.drop 65 xm_c202 = xm_c202_65 := xm_dr d_202_64
theorem k_202_65 : xm_gi xm_c202 65 = some xm_e202_65 := xm_gt d_202_65
theorem d_202_66 : List.drop 66 xm_c202 = xm_c202_66 := xm_dr d_202_65
theorem k_202_66 : xm_gi xm_c202 66 = some xm_e202_66 := xm_gt d_202_66
theorem d_202_67 : List.drop 67 xm_c202 = xm_c202_67 := xm_dr d_202_66
theorem k_202_67 : xm_gi xm_c202 67 = some xm_e202_67 := xm_gt d_202_67
theorem d_202_68 : List.drop 68 xm_c202 = xm_c202_68 := xm_dr d_202_67
theorem k_202_68 : xm_gi xm_c202 68 = some xm_e202_68 := xm_gt d_202_68
theorem d_202_69 : List.drop 69 xm_c202 = xm_c202_69 := xm_dr d_202_68
theorem k_202_69 : xm_gi xm_c202 69 = some xm_e202_69 := xm_gt d_202_69
theorem d_202_70 : List.drop 70 xm_c202 = xm_c202_70 := xm_dr d_202_69
theorem k_202_70 : xm_gi xm_c202 70 = some xm_e202_70 := xm_gt d_202_70
theorem d_202_71 : List.drop 71 xm_c202 = xm_c202_71 := xm_dr d_202_70
theorem k_202_71 : xm_gi xm_c202 71 = some xm_e202_71 := xm_gt d_202_71
theorem d_202_72 : List.drop 72 xm_c202 = xm_c202_72 := xm_dr d_202_71
theorem k_202_72 : xm_gi xm_c202 72 = some xm_e202_72 := xm_gt d_202_72
theorem d_202_73 : List.drop 73 xm_c202 = xm_c202_73 := xm_dr d_202_72
theorem k_202_73 : xm_gi xm_c202 73 = some xm_e202_73 := xm_gt d_202_73
theorem d_202_74 : List.drop 74 xm_c202 = xm_c202_74 := xm_dr d_202_73
theorem k_202_74 : xm_gi xm_c202 74 = some xm_e202_74 := xm_gt d_202_74
theorem d_202_75 : List.drop 75 xm_c202 = xm_c202_75 := xm_dr d_202_74
theorem k_202_75 : xm_gi xm_c202 75 = some xm_e202_75 := xm_gt d_202_75
theorem d_202_76 : List.drop 76 xm_c202 = xm_c202_76 := xm_dr d_202_75
theorem k_202_76 : xm_gi xm_c202 76 = some xm_e202_76 := xm_gt d_202_76
theorem d_202_77 : List.drop 77 xm_c202 = xm_c202_77 := xm_dr d_202_76
theorem k_202_77 : xm_gi xm_c202 77 = some xm_e202_77 := xm_gt d_202_77
theorem d_202_78 : List.drop 78 xm_c202 = xm_c202_78 := xm_dr d_202_77
theorem k_202_78 : xm_gi xm_c202 78 = some xm_e202_78 := xm_gt d_202_78
theorem d_202_79 : List.drop 79 xm_c202 = xm_c202_79 := xm_dr d_202_78
theorem k_202_79 : xm_gi xm_c202 79 = some xm_e202_79 := xm_gt d_202_79
theorem d_202_80 : List.drop 80 xm_c202 = xm_c202_80 := xm_dr d_202_79
theorem k_202_80 : xm_gi xm_c202 80 = some xm_e202_80 := xm_gt d_202_80
theorem d_202_81 : List.drop 81 xm_c202 = xm_c202_81 := xm_dr d_202_80
theorem k_202_81 : xm_gi xm_c202 81 = some xm_e202_81 := xm_gt d_202_81
theorem d_202_82 : List.drop 82 xm_c202 = xm_c202_82 := xm_dr d_202_81
theorem k_202_82 : xm_gi xm_c202 82 = some xm_e202_82 := xm_gt d_202_82
theorem d_202_83 : List.drop 83 xm_c202 = xm_c202_83 := xm_dr d_202_82
theorem k_202_83 : xm_gi xm_c202 83 = some xm_e202_83 := xm_gt d_202_83
theorem d_202_84 : List.drop 84 xm_c202 = xm_c202_84 := xm_dr d_202_83
theorem k_202_84 : xm_gi xm_c202 84 = some xm_e202_84 := xm_gt d_202_84
theorem d_202_85 : List.drop 85 xm_c202 = xm_c202_85 := xm_dr d_202_84
theorem k_202_85 : xm_gi xm_c202 85 = some xm_e202_85 := xm_gt d_202_85
theorem d_202_86 : List.drop 86 xm_c202 = xm_c202_86 := xm_dr d_202_85
theorem k_202_86 : xm_gi xm_c202 86 = some xm_e202_86 := xm_gt d_202_86
theorem d_202_87 : List.drop 87 xm_c202 = xm_c202_87 := xm_dr d_202_86
theorem k_202_87 : xm_gi xm_c202 87 = some xm_e202_87 := xm_gt d_202_87
theorem d_202_88 : List.drop 88 xm_c202 = xm_c202_88 := xm_dr d_202_87
theorem k_202_88 : xm_gi xm_c202 88 = some xm_e202_88 := xm_gt d_202_88
theorem d_202_89 : List.drop 89 xm_c202 = xm_c202_89 := xm_dr d_202_88
theorem k_202_89 : xm_gi xm_c202 89 = some xm_e202_89 := xm_gt d_202_89
theorem d_202_90 : List.drop 90 xm_c202 = xm_c202_90 := xm_dr d_202_89
theorem k_202_90 : xm_gi xm_c202 90 = some xm_e202_90 := xm_gt d_202_90
theorem d_202_91 : List.drop 91 xm_c202 = xm_c202_91 := xm_dr d_202_90
theorem k_202_91 : xm_gi xm_c202 91 = some xm_e202_91 := xm_gt d_202_91
theorem d_202_92 : List.drop 92 xm_c202 = xm_c202_92 := xm_dr d_202_91
theorem k_202_92 : xm_gi xm_c202 92 = some xm_e202_92 := xm_gt d_202_92
theorem d_202_93 : List.drop 93 xm_c202 = xm_c202_93 := xm_dr d_202_92
theorem k_202_93 : xm_gi xm_c202 93 = some xm_e202_93 := xm_gt d_202_93
theorem d_202_94 : List.drop 94 xm_c202 = xm_c202_94 := xm_dr d_202_93
theorem k_202_94 : xm_gi xm_c202 94 = some xm_e202_94 := xm_gt d_202_94
theorem d_202_95 : List.drop 95 xm_c202 = xm_c202_95 := xm_dr d_202_94
theorem k_202_95 : xm_gi xm_c202 95 = some xm_e202_95 := xm_gt d_202_95
theorem d_202_96 : List.drop 96 xm_c202 = xm_c202_96 := xm_dr d_202_95
theorem k_202_96 : xm_gi xm_c202 96 = some xm_e202_96 := xm_gt d_202_96
theorem d_202_97 : List.drop 97 xm_c202 = xm_c202_97 := xm_dr d_202_96
theorem k_202_97 : xm_gi xm_c202 97 = some xm_e202_97 := xm_gt d_202_97
theorem d_202_98 : List.drop 98 xm_c202 = xm_c202_98 := xm_dr d_202_97
theorem k_202_98 : xm_gi xm_c202 98 = some xm_e202_98 := xm_gt d_202_98
theorem d_202_99 : List.drop 99 xm_c202 = xm_c202_99 := xm_dr d_202_98
theorem k_202_99 : xm_gi xm_c202 99 = some xm_e202_99 := xm_gt d_202_99
theorem d_202_100 : List.drop 100 xm_c202 = xm_c202_100 := xm_dr d_202_99
theorem k_202_100 : xm_gi xm_c202 100 = some xm_e202_100 := xm_gt d_202_100
theorem d_202_101 : List.drop 101 xm_c202 = xm_c202_101 := xm_dr d_202_100
theorem k_202_101 : xm_gi xm_c202 101 = some xm_e202_101 := xm_gt d_202_101
theorem d_202_102 : List.drop 102 xm_c202 = xm_c202_102 := xm_dr d_202_101
theorem k_202_102 : xm_gi xm_c202 102 = some xm_e202_102 := xm_gt d_202_102
theorem d_202_103 : List.drop 103 xm_c202 = xm_c202_103 := xm_dr d_202_102
theorem k_202_103 : xm_gi xm_c202 103 = some xm_e202_103 := xm_gt d_202_103
theorem d_202_104 : List.drop 104 xm_c202 = xm_c202_104 := xm_dr d_202_103
theorem k_202_104 : xm_gi xm_c202 104 = some xm_e202_104 := xm_gt d_202_104
theorem d_202_105 : List.drop 105 xm_c202 = xm_c202_105 := xm_dr d_202_104
theorem k_202_105 : xm_gi xm_c202 105 = some xm_e202_105 := xm_gt d_202_105
theorem d_202_106 : List.drop 106 xm_c202 = xm_c202_106 := xm_dr d_202_105
theorem k_202_106 : xm_gi xm_c202 106 = some xm_e202_106 := xm_gt d_202_106
theorem d_202_107 : List.drop 107 xm_c202 = xm_c202_107 := xm_dr d_202_106
theorem k_202_107 : xm_gi xm_c202 107 = some xm_e202_107 := xm_gt d_202_107
theorem d_202_108 : List.drop 108 xm_c202 = xm_c202_108 := xm_dr d_202_107
theorem k_202_108 : xm_gi xm_c202 108 = some xm_e202_108 := xm_gt d_202_108
theorem d_202_109 : List.drop 109 xm_c202 = xm_c202_109 := xm_dr d_202_108
theorem k_202_109 : xm_gi xm_c202 109 = some xm_e202_109 := xm_gt d_202_109
theorem d_202_110 : List.drop 110 xm_c202 = xm_c202_110 := xm_dr d_202_109
theorem k_202_110 : xm_gi xm_c202 110 = some xm_e202_110 := xm_gt d_202_110
theorem d_202_111 : List.drop 111 xm_c202 = xm_c202_111 := xm_dr d_202_110
theorem k_202_111 : xm_gi xm_c202 111 = some xm_e202_111 := xm_gt d_202_111
theorem d_202_112 : List.drop 112 xm_c202 = xm_c202_112 := xm_dr d_202_111
theorem k_202_112 : xm_gi xm_c202 112 = some xm_e202_112 := xm_gt d_202_112
theorem d_202_113 : List.drop 113 xm_c202 = xm_c202_113 := xm_dr d_202_112
theorem k_202_113 : xm_gi xm_c202 113 = some xm_e202_113 := xm_gt d_202_113
theorem d_202_114 : List.drop 114 xm_c202 = xm_c202_114 := xm_dr d_202_113
theorem k_202_114 : xm_gi xm_c202 114 = some xm_e202_114 := xm_gt d_202_114
theorem d_202_115 : List.drop 115 xm_c202 = xm_c202_115 := xm_dr d_202_114
theorem k_202_115 : xm_gi xm_c202 115 = some xm_e202_115 := xm_gt d_202_115
theorem d_202_116 : List.drop 116 xm_c202 = xm_c202_116 := xm_dr d_202_115
theorem k_202_116 : xm_gi xm_c202 116 = some xm_e202_116 := xm_gt d_202_116
theorem xb_202_0 {sc : List Int} {f : Nat → List xm_V → xm_W → xm_R} {w : xm_W} {Q : Option xm_V × xm_W → Prop} {x0 : Nat} {x1 : Nat}
  (h : xm_O (xm_ints (xm_old sc) w x1) (fun l1 => xm_O (xm_at l1 0) (fun z2 => xm_O (xm_ints (xm_old sc) w x1) (fun l3 => xm_O (xm_at l3 1) (fun z4 => xm_O (xm_ints (xm_old sc) w x1) (fun l5 => xm_O (xm_at l5 2) (fun z6 => xm_O (xm_ints (xm_old sc) w x1) (fun l7 => xm_O (xm_at l7 3) (fun z8 => if ((if (if z4 < z2 then z4 else z2) < (if z8 < z6 then z8 else z6) then (if z8 < z6 then z8 else z6) else (if z4 < z2 then z4 else z2)) : Int) = (if (if z4 < z8 then z8 else z4) < (if z2 < z6 then z6 else z2) then (if z4 < z8 then z8 else z4) else (if z2 < z6 then z6 else z2)) then (xm_O (xm_setf w x0 0 0 1 (.inl 1)) (fun w15 => xm_O (xm_fi (xm_old sc) w15 x0 0 0) (fun z16 => if (z16 : Int) = 0 then (if ((xm_w ((xm_w ((xm_w (z2 - z4)) - z6)) + z8)) : Int) = 0 then (xm_O (xm_setf w15 x0 0 3 0 (.inl (if (if z4 < z2 then z4 else z2) < (if z8 < z6 then z8 else z6) then (if z8 < z6 then z8 else z6) else (if z4 < z2 then z4 else z2)))) (fun w19 => xm_O (xm_setf w19 x0 0 4 0 (.inl 1)) (fun w20 => Q (none, w20)))) else (if ((xm_w ((xm_w ((xm_w (z2 - z4)) - z6)) + z8)) : Int) < 0 then (xm_EQ (xm_old sc) xm_sta f xm_c202 63 [some (.inr (.inl (some x0))), some (.inr (.inl (some x1))), some (.inl z2), some (.inl z4), some (.inl z6), some (.inl z8), some (.inl (if (if z4 < z2 then z4 else z2) < (if z8 < z6 then z8 else z6) then (if z8 < z6 then z8 else z6) else (if z4 < z2 then z4 else z2))), some (.inl (xm_w ((xm_w ((xm_w (z2 - z4)) - z6)) + z8))), none, none, none, none] [.inl (-1)] w15 Q) else (xm_EQ (xm_old sc) xm_sta f xm_c202 63 [some (.inr (.inl (some x0))), some (.inr (.inl (some x1))), some (.inl z2), some (.inl z4), some (.inl z6), some (.inl z8), some (.inl (if (if z4 < z2 then z4 else z2) < (if z8 < z6 then z8 else z6) then (if z8 < z6 then z8 else z6) else (if z4 < z2 then z4 else z2))), some (.inl (xm_w ((xm_w ((xm_w (z2 - z4)) - z6)) + z8))), none, none, none, none] [.inl 1] w15 Q))) else (xm_O (xm_setf w15 x0 0 3 0 (.inl (if (if z4 < z2 then z4 else z2) < (if z8 < z6 then z8 else z6) then (if z8 < z6 then z8 else z6) else (if z4 < z2 then z4 else z2)))) (fun w17 => xm_O (xm_setf w17 x0 0 4 0 (.inl 1)) (fun w18 => Q (none, w18))))))) else (xm_O (xm_setf w x0 0 0 1 (.inl 0)) (fun w9 => xm_O (xm_fi (xm_old sc) w9 x0 0 0) (fun z10 => if (z10 : Int) = 0 then (if ((xm_w ((xm_w ((xm_w (z2 - z4)) - z6)) + z8)) : Int) = 0 then (xm_O (xm_setf w9 x0 0 3 0 (.inl (if (if z4 < z2 then z4 else z2) < (if z8 < z6 then z8 else z6) then (if z8 < z6 then z8 else z6) else (if z4 < z2 then z4 else z2)))) (fun w13 => xm_O (xm_setf w13 x0 0 4 0 (.inl 1)) (fun w14 => Q (none, w14)))) else (if ((xm_w ((xm_w ((xm_w (z2 - z4)) - z6)) + z8)) : Int) < 0 then (xm_EQ (xm_old sc) xm_sta f xm_c202 63 [some (.inr (.inl (some x0))), some (.inr (.inl (some x1))), some (.inl z2), some (.inl z4), some (.inl z6), some (.inl z8), some (.inl (if (if z4 < z2 then z4 else z2) < (if z8 < z6 then z8 else z6) then (if z8 < z6 then z8 else z6) else (if z4 < z2 then z4 else z2))), some (.inl (xm_w ((xm_w ((xm_w (z2 - z4)) - z6)) + z8))), none, none, none, none] [.inl (-1)] w9 Q) else (xm_EQ (xm_old sc) xm_sta f xm_c202 63 [some (.inr (.inl (some x0))), some (.inr (.inl (some x1))), some (.inl z2), some (.inl z4), some (.inl z6), some (.inl z8), some (.inl (if (if z4 < z2 then z4 else z2) < (if z8 < z6 then z8 else z6) then (if z8 < z6 then z8 else z6) else (if z4 < z2 then z4 else z2))), some (.inl (xm_w ((xm_w ((xm_w (z2 - z4)) - z6)) + z8))), none, none, none, none] [.inl 1] w9 Q))) else (xm_O (xm_setf w9 x0 0 3 0 (.inl (if (if z4 < z2 then z4 else z2) < (if z8 < z6 then z8 else z6) then (if z8 < z6 then z8 else z6) else (if z4 < z2 then z4 else z2)))) (fun w11 => xm_O (xm_setf w11 x0 0 4 0 (.inl 1)) (fun w12 => Q (none, w12)))))))))))))))) :
  xm_EQ (xm_old sc) xm_sta f xm_c202 0 [some (.inr (.inl (some x0))), some (.inr (.inl (some x1))), none, none, none, none, none, none, none, none, none, none] [] w Q :=
  (xq_aload_n k_202_0 rfl (xq_iconst k_202_1 (xq_iaload k_202_2 h (fun l1 h => h) (fun l1 z2 h => (xq_istore_n k_202_3 rfl (xq_aload_n k_202_4 rfl (xq_iconst k_202_5 (xq_iaload k_202_6 h (fun l3 h => h) (fun l3 z4 h => (xq_istore_n k_202_7 rfl (xq_aload_n k_202_8 rfl (xq_iconst k_202_9 (xq_iaload k_202_10 h (fun l5 h => h) (fun l5 z6 h => (xq_istore k_202_11 rfl (xq_aload_n k_202_12 rfl (xq_iconst k_202_13 (xq_iaload k_202_14 h (fun l7 h => h) (fun l7 z8 h => (xq_istore k_202_15 rfl (xq_iload_n k_202_16 rfl (xq_iload_n k_202_17 rfl (xq_min k_202_18 rfl (xq_iload k_202_19 rfl (xq_iload k_202_20 rfl (xq_min k_202_21 rfl (xq_max k_202_22 rfl (xq_istore k_202_23 rfl (xq_aload_n k_202_24 rfl (xq_iload k_202_25 rfl (xq_iload_n k_202_26 rfl (xq_iload k_202_27 rfl (xq_max k_202_28 rfl (xq_iload_n k_202_29 rfl (xq_iload k_202_30 rfl (xq_max k_202_31 rfl (xq_min k_202_32 rfl (xq_ic_ne k_202_33 h (fun h => (xq_iconst k_202_34 (xq_goto k_202_35 (xq_put k_202_37 rfl h (fun w15 h => (xq_iload_n k_202_38 rfl (xq_iload_n k_202_39 rfl (xq_isub k_202_40 (xq_iload k_202_41 rfl (xq_isub k_202_42 (xq_iload k_202_43 rfl (xq_iadd k_202_44 (xq_istore k_202_45 rfl (xq_aload_n k_202_46 rfl (xq_geti1 k_202_47 rfl h (fun z16 h => (xq_if_ne k_202_48 h (fun h => (xq_iload k_202_49 rfl (xq_if_ne k_202_50 h (fun h => (xq_aload_n k_202_51 rfl (xq_iload k_202_52 rfl (xq_put k_202_53 rfl h (fun w19 h => (xq_aload_n k_202_54 rfl (xq_iconst k_202_55 (xq_put k_202_56 rfl h (fun w20 h => (xq_return k_202_57 h)))))))))) (fun h => (xq_iload k_202_58 rfl (xq_if_ge k_202_59 h (fun h => (xq_iconst k_202_60 (xq_goto k_202_61 h))) (fun h => (xq_iconst k_202_62 h)))))))) (fun h => (xq_aload_n k_202_51 rfl (xq_iload k_202_52 rfl (xq_put k_202_53 rfl h (fun w17 h => (xq_aload_n k_202_54 rfl (xq_iconst k_202_55 (xq_put k_202_56 rfl h (fun w18 h => (xq_return k_202_57 h))))))))))))))))))))))))))) (fun h => (xq_iconst k_202_36 (xq_put k_202_37 rfl h (fun w9 h => (xq_iload_n k_202_38 rfl (xq_iload_n k_202_39 rfl (xq_isub k_202_40 (xq_iload k_202_41 rfl (xq_isub k_202_42 (xq_iload k_202_43 rfl (xq_iadd k_202_44 (xq_istore k_202_45 rfl (xq_aload_n k_202_46 rfl (xq_geti1 k_202_47 rfl h (fun z10 h => (xq_if_ne k_202_48 h (fun h => (xq_iload k_202_49 rfl (xq_if_ne k_202_50 h (fun h => (xq_aload_n k_202_51 rfl (xq_iload k_202_52 rfl (xq_put k_202_53 rfl h (fun w13 h => (xq_aload_n k_202_54 rfl (xq_iconst k_202_55 (xq_put k_202_56 rfl h (fun w14 h => (xq_return k_202_57 h)))))))))) (fun h => (xq_iload k_202_58 rfl (xq_if_ge k_202_59 h (fun h => (xq_iconst k_202_60 (xq_goto k_202_61 h))) (fun h => (xq_iconst k_202_62 h)))))))) (fun h => (xq_aload_n k_202_51 rfl (xq_iload k_202_52 rfl (xq_put k_202_53 rfl h (fun w11 h => (xq_aload_n k_202_54 rfl (xq_iconst k_202_55 (xq_put k_202_56 rfl h (fun w12 h => (xq_return k_202_57 h))))))))))))))))))))))))))))))))))))))))))))))))))))))))))))))))
theorem xb_202_63 {sc : List Int} {f : Nat → List xm_V → xm_W → xm_R} {w : xm_W} {Q : Option xm_V × xm_W → Prop} {x0 : Nat} {x1 : Nat} {x2 : Int} {x3 : Int} {x4 : Int} {x5 : Int} {x6 : Int} {x7 : Int} {t0 : Int} {u8 : Option xm_V} {u9 : Option xm_V} {u10 : Option xm_V} {u11 : Option xm_V}
  (h : xm_Oi (f 204 [.inl (if 0 ≤ (xm_w (x2 - x3)) then (xm_w (x2 - x3)) else xm_w (0 - (xm_w (x2 - x3)))), .inl (if 0 ≤ x7 then x7 else xm_w (0 - x7))] w) (fun z2 w1 => (z2 : Int) ≠ 0 ∧ (xm_O (xm_setf w1 x0 0 1 0 (.inl (xm_w (Int.tdiv (xm_w (t0 * (xm_w (x2 - x3)))) z2)))) (fun w3 => (z2 : Int) ≠ 0 ∧ (xm_O (xm_setf w3 x0 0 2 0 (.inl (xm_w (Int.tdiv (xm_w (t0 * x7)) z2)))) (fun w4 => xm_Oi (f 204 [.inl (if 0 ≤ (xm_w ((xm_w (x2 * x5)) - (xm_w (x3 * x4)))) then (xm_w ((xm_w (x2 * x5)) - (xm_w (x3 * x4)))) else xm_w (0 - (xm_w ((xm_w (x2 * x5)) - (xm_w (x3 * x4)))))), .inl (if 0 ≤ x7 then x7 else xm_w (0 - x7))] w4) (fun z6 w5 => (z6 : Int) ≠ 0 ∧ (xm_O (xm_setf w5 x0 0 3 0 (.inl (xm_w (Int.tdiv (xm_w (t0 * (xm_w ((xm_w (x2 * x5)) - (xm_w (x3 * x4)))))) z6)))) (fun w7 => (z6 : Int) ≠ 0 ∧ (xm_O (xm_setf w7 x0 0 4 0 (.inl (xm_w (Int.tdiv (xm_w (t0 * x7)) z6)))) (fun w8 => Q (none, w8)))))))))))) :
  xm_EQ (xm_old sc) xm_sta f xm_c202 63 [some (.inr (.inl (some x0))), some (.inr (.inl (some x1))), some (.inl x2), some (.inl x3), some (.inl x4), some (.inl x5), some (.inl x6), some (.inl x7), u8, u9, u10, u11] [.inl t0] w Q :=
  (xq_istore k_202_63 rfl (xq_iload_n k_202_64 rfl (xq_iload_n k_202_65 rfl (xq_isub k_202_66 (xq_abs k_202_67 rfl (xq_iload k_202_68 rfl (xq_abs k_202_69 rfl (xq_invs1 k_202_70 xr_204 rfl rfl rfl h (fun z2 w1 h => (xq_istore k_202_71 rfl (xq_aload_n k_202_72 rfl (xq_iload k_202_73 rfl (xq_iload_n k_202_74 rfl (xq_iload_n k_202_75 rfl (xq_isub k_202_76 (xq_imul k_202_77 (xq_iload k_202_78 rfl (xq_idiv k_202_79 h (fun h => (xq_put k_202_80 rfl h (fun w3 h => (xq_aload_n k_202_81 rfl (xq_iload k_202_82 rfl (xq_iload k_202_83 rfl (xq_imul k_202_84 (xq_iload k_202_85 rfl (xq_idiv k_202_86 h (fun h => (xq_put k_202_87 rfl h (fun w4 h => (xq_iload_n k_202_88 rfl (xq_iload k_202_89 rfl (xq_imul k_202_90 (xq_iload_n k_202_91 rfl (xq_iload k_202_92 rfl (xq_imul k_202_93 (xq_isub k_202_94 (xq_istore k_202_95 rfl (xq_iload k_202_96 rfl (xq_abs k_202_97 rfl (xq_iload k_202_98 rfl (xq_abs k_202_99 rfl (xq_invs1 k_202_100 xr_204 rfl rfl rfl h (fun z6 w5 h => (xq_istore k_202_101 rfl (xq_aload_n k_202_102 rfl (xq_iload k_202_103 rfl (xq_iload k_202_104 rfl (xq_imul k_202_105 (xq_iload k_202_106 rfl (xq_idiv k_202_107 h (fun h => (xq_put k_202_108 rfl h (fun w7 h => (xq_aload_n k_202_109 rfl (xq_iload k_202_110 rfl (xq_iload k_202_111 rfl (xq_imul k_202_112 (xq_iload k_202_113 rfl (xq_idiv k_202_114 h (fun h => (xq_put k_202_115 rfl h (fun w8 h => (xq_return k_202_116 h))))))))))))))))))))))))))))))))))))))))))))))))))))))))))))))))
/-- ShodBackwards$Bargain.tells(I)I -/
theorem d_203_0 : List.drop 0 xm_c203 = xm_c203 := rfl
theorem k_203_0 : xm_gi xm_c203 0 = some xm_e203_0 := xm_gt d_203_0
theorem d_203_1 : List.drop 1 xm_c203 = xm_c203_1 := xm_dr d_203_0
theorem k_203_1 : xm_gi xm_c203 1 = some xm_e203_1 := xm_gt d_203_1
theorem d_203_2 : List.drop 2 xm_c203 = xm_c203_2 := xm_dr d_203_1
theorem k_203_2 : xm_gi xm_c203 2 = some xm_e203_2 := xm_gt d_203_2
theorem d_203_3 : List.drop 3 xm_c203 = xm_c203_3 := xm_dr d_203_2
theorem k_203_3 : xm_gi xm_c203 3 = some xm_e203_3 := xm_gt d_203_3
theorem d_203_4 : List.drop 4 xm_c203 = xm_c203_4 := xm_dr d_203_3
theorem k_203_4 : xm_gi xm_c203 4 = some xm_e203_4 := xm_gt d_203_4
theorem d_203_5 : List.drop 5 xm_c203 = xm_c203_5 := xm_dr d_203_4
theorem k_203_5 : xm_gi xm_c203 5 = some xm_e203_5 := xm_gt d_203_5
theorem d_203_6 : List.drop 6 xm_c203 = xm_c203_6 := xm_dr d_203_5
theorem k_203_6 : xm_gi xm_c203 6 = some xm_e203_6 := xm_gt d_203_6
theorem d_203_7 : List.drop 7 xm_c203 = xm_c203_7 := xm_dr d_203_6
theorem k_203_7 : xm_gi xm_c203 7 = some xm_e203_7 := xm_gt d_203_7
theorem d_203_8 : List.drop 8 xm_c203 = xm_c203_8 := xm_dr d_203_7
theorem k_203_8 : xm_gi xm_c203 8 = some xm_e203_8 := xm_gt d_203_8
theorem d_203_9 : List.drop 9 xm_c203 = xm_c203_9 := xm_dr d_203_8
theorem k_203_9 : xm_gi xm_c203 9 = some xm_e203_9 := xm_gt d_203_9
theorem d_203_10 : List.drop 10 xm_c203 = xm_c203_10 := xm_dr d_203_9
theorem k_203_10 : xm_gi xm_c203 10 = some xm_e203_10 := xm_gt d_203_10
theorem d_203_11 : List.drop 11 xm_c203 = xm_c203_11 := xm_dr d_203_10
theorem k_203_11 : xm_gi xm_c203 11 = some xm_e203_11 := xm_gt d_203_11
theorem d_203_12 : List.drop 12 xm_c203 = xm_c203_12 := xm_dr d_203_11
theorem k_203_12 : xm_gi xm_c203 12 = some xm_e203_12 := xm_gt d_203_12
theorem d_203_13 : List.drop 13 xm_c203 = xm_c203_13 := xm_dr d_203_12
theorem k_203_13 : xm_gi xm_c203 13 = some xm_e203_13 := xm_gt d_203_13
theorem d_203_14 : List.drop 14 xm_c203 = xm_c203_14 := xm_dr d_203_13
theorem k_203_14 : xm_gi xm_c203 14 = some xm_e203_14 := xm_gt d_203_14
theorem d_203_15 : List.drop 15 xm_c203 = xm_c203_15 := xm_dr d_203_14
theorem k_203_15 : xm_gi xm_c203 15 = some xm_e203_15 := xm_gt d_203_15
theorem d_203_16 : List.drop 16 xm_c203 = xm_c203_16 := xm_dr d_203_15
theorem k_203_16 : xm_gi xm_c203 16 = some xm_e203_16 := xm_gt d_203_16
theorem d_203_17 : List.drop 17 xm_c203 = xm_c203_17 := xm_dr d_203_16
theorem k_203_17 : xm_gi xm_c203 17 = some xm_e203_17 := xm_gt d_203_17
theorem d_203_18 : List.drop 18 xm_c203 = xm_c203_18 := xm_dr d_203_17
theorem k_203_18 : xm_gi xm_c203 18 = some xm_e203_18 := xm_gt d_203_18
theorem d_203_19 : List.drop 19 xm_c203 = xm_c203_19 := xm_dr d_203_18
theorem k_203_19 : xm_gi xm_c203 19 = some xm_e203_19 := xm_gt d_203_19
theorem d_203_20 : List.drop 20 xm_c203 = xm_c203_20 := xm_dr d_203_19
theorem k_203_20 : xm_gi xm_c203 20 = some xm_e203_20 := xm_gt d_203_20
theorem xb_203_0 {sc : List Int} {f : Nat → List xm_V → xm_W → xm_R} {w : xm_W} {Q : Option xm_V × xm_W → Prop} {x0 : Nat} {x1 : Int}
  (h : if (x1 : Int) = 0 then (xm_O (xm_fi (xm_old sc) w x0 0 0) (fun z5 => if (z5 : Int) = 0 then (Q (some (.inl 0), w)) else (Q (some (.inl 1), w)))) else (if (x1 : Int) = 1 then (xm_O (xm_fi (xm_old sc) w x0 0 1) (fun z4 => Q (some (.inl z4), w))) else (if (x1 : Int) = 2 then (xm_O (xm_fi (xm_old sc) w x0 0 2) (fun z3 => Q (some (.inl z3), w))) else (if (x1 : Int) = 3 then (xm_O (xm_fi (xm_old sc) w x0 0 3) (fun z2 => Q (some (.inl z2), w))) else (xm_O (xm_fi (xm_old sc) w x0 0 4) (fun z1 => Q (some (.inl z1), w))))))) :
  xm_EQ (xm_old sc) xm_sta f xm_c203 0 [some (.inr (.inl (some x0))), some (.inl x1)] [] w Q :=
  (xq_iload_n k_203_0 rfl (xq_tsw k_203_1 (xs_swc h (fun h => (xq_aload_n k_203_2 rfl (xq_geti1 k_203_3 rfl h (fun z5 h => (xq_if_eq k_203_4 h (fun h => (xq_iconst k_203_7 (xq_ireturn k_203_8 h))) (fun h => (xq_iconst k_203_5 (xq_goto k_203_6 (xq_ireturn k_203_8 h))))))))) (fun h => (xs_swc h (fun h => (xq_aload_n k_203_9 rfl (xq_geti0 k_203_10 rfl h (fun z4 h => (xq_ireturn k_203_11 h))))) (fun h => (xs_swc h (fun h => (xq_aload_n k_203_12 rfl (xq_geti0 k_203_13 rfl h (fun z3 h => (xq_ireturn k_203_14 h))))) (fun h => (xs_swc h (fun h => (xq_aload_n k_203_15 rfl (xq_geti0 k_203_16 rfl h (fun z2 h => (xq_ireturn k_203_17 h))))) (fun h => (xq_aload_n k_203_18 rfl (xq_geti0 k_203_19 rfl h (fun z1 h => (xq_ireturn k_203_20 h))))))))))))))
/-- ShodBackwards$Bargain.greatestDivisor(II)I -/
theorem d_204_0 : List.drop 0 xm_c204 = xm_c204 := rfl
theorem k_204_0 : xm_gi xm_c204 0 = some xm_e204_0 := xm_gt d_204_0
theorem d_204_1 : List.drop 1 xm_c204 = xm_c204_1 := xm_dr d_204_0
theorem k_204_1 : xm_gi xm_c204 1 = some xm_e204_1 := xm_gt d_204_1
theorem d_204_2 : List.drop 2 xm_c204 = xm_c204_2 := xm_dr d_204_1
theorem k_204_2 : xm_gi xm_c204 2 = some xm_e204_2 := xm_gt d_204_2
theorem d_204_3 : List.drop 3 xm_c204 = xm_c204_3 := xm_dr d_204_2
theorem k_204_3 : xm_gi xm_c204 3 = some xm_e204_3 := xm_gt d_204_3
theorem d_204_4 : List.drop 4 xm_c204 = xm_c204_4 := xm_dr d_204_3
theorem k_204_4 : xm_gi xm_c204 4 = some xm_e204_4 := xm_gt d_204_4
theorem d_204_5 : List.drop 5 xm_c204 = xm_c204_5 := xm_dr d_204_4
theorem k_204_5 : xm_gi xm_c204 5 = some xm_e204_5 := xm_gt d_204_5
theorem d_204_6 : List.drop 6 xm_c204 = xm_c204_6 := xm_dr d_204_5
theorem k_204_6 : xm_gi xm_c204 6 = some xm_e204_6 := xm_gt d_204_6
theorem d_204_7 : List.drop 7 xm_c204 = xm_c204_7 := xm_dr d_204_6
theorem k_204_7 : xm_gi xm_c204 7 = some xm_e204_7 := xm_gt d_204_7
theorem d_204_8 : List.drop 8 xm_c204 = xm_c204_8 := xm_dr d_204_7
theorem k_204_8 : xm_gi xm_c204 8 = some xm_e204_8 := xm_gt d_204_8
theorem d_204_9 : List.drop 9 xm_c204 = xm_c204_9 := xm_dr d_204_8
theorem k_204_9 : xm_gi xm_c204 9 = some xm_e204_9 := xm_gt d_204_9
theorem d_204_10 : List.drop 10 xm_c204 = xm_c204_10 := xm_dr d_204_9
theorem k_204_10 : xm_gi xm_c204 10 = some xm_e204_10 := xm_gt d_204_10
theorem d_204_11 : List.drop 11 xm_c204 = xm_c204_11 := xm_dr d_204_10
theorem k_204_11 : xm_gi xm_c204 11 = some xm_e204_11 := xm_gt d_204_11
theorem d_204_12 : List.drop 12 xm_c204 = xm_c204_12 := xm_dr d_204_11
theorem k_204_12 : xm_gi xm_c204 12 = some xm_e204_12 := xm_gt d_204_12
theorem d_204_13 : List.drop 13 xm_c204 = xm_c204_13 := xm_dr d_204_12
theorem k_204_13 : xm_gi xm_c204 13 = some xm_e204_13 := xm_gt d_204_13
theorem d_204_14 : List.drop 14 xm_c204 = xm_c204_14 := xm_dr d_204_13
theorem k_204_14 : xm_gi xm_c204 14 = some xm_e204_14 := xm_gt d_204_14
theorem d_204_15 : List.drop 15 xm_c204 = xm_c204_15 := xm_dr d_204_14
theorem k_204_15 : xm_gi xm_c204 15 = some xm_e204_15 := xm_gt d_204_15
theorem d_204_16 : List.drop 16 xm_c204 = xm_c204_16 := xm_dr d_204_15
theorem k_204_16 : xm_gi xm_c204 16 = some xm_e204_16 := xm_gt d_204_16
theorem d_204_17 : List.drop 17 xm_c204 = xm_c204_17 := xm_dr d_204_16
theorem k_204_17 : xm_gi xm_c204 17 = some xm_e204_17 := xm_gt d_204_17
theorem d_204_18 : List.drop 18 xm_c204 = xm_c204_18 := xm_dr d_204_17
theorem k_204_18 : xm_gi xm_c204 18 = some xm_e204_18 := xm_gt d_204_18
theorem d_204_19 : List.drop 19 xm_c204 = xm_c204_19 := xm_dr d_204_18
theorem k_204_19 : xm_gi xm_c204 19 = some xm_e204_19 := xm_gt d_204_19
theorem d_204_20 : List.drop 20 xm_c204 = xm_c204_20 := xm_dr d_204_19
theorem k_204_20 : xm_gi xm_c204 20 = some xm_e204_20 := xm_gt d_204_20
theorem d_204_21 : List.drop 21 xm_c204 = xm_c204_21 := xm_dr d_204_20
theorem k_204_21 : xm_gi xm_c204 21 = some xm_e204_21 := xm_gt d_204_21
theorem d_204_22 : List.drop 22 xm_c204 = xm_c204_22 := xm_dr d_204_21
theorem k_204_22 : xm_gi xm_c204 22 = some xm_e204_22 := xm_gt d_204_22
theorem d_204_23 : List.drop 23 xm_c204 = xm_c204_23 := xm_dr d_204_22
theorem k_204_23 : xm_gi xm_c204 23 = some xm_e204_23 := xm_gt d_204_23
theorem d_204_24 : List.drop 24 xm_c204 = xm_c204_24 := xm_dr d_204_23
theorem k_204_24 : xm_gi xm_c204 24 = some xm_e204_24 := xm_gt d_204_24
theorem d_204_25 : List.drop 25 xm_c204 = xm_c204_25 := xm_dr d_204_24
theorem k_204_25 : xm_gi xm_c204 25 = some xm_e204_25 := xm_gt d_204_25
theorem d_204_26 : List.drop 26 xm_c204 = xm_c204_26 := xm_dr d_204_25
theorem k_204_26 : xm_gi xm_c204 26 = some xm_e204_26 := xm_gt d_204_26
theorem xb_204_0 {sc : List Int} {f : Nat → List xm_V → xm_W → xm_R} {w : xm_W} {Q : Option xm_V × xm_W → Prop} {x0 : Int} {x1 : Int}
  (h : xm_EQ (xm_old sc) xm_sta f xm_c204 6 [some (.inl x0), some (.inl x1), some (.inl x0), some (.inl x1), some (.inl 0), none] [] w Q) :
  xm_EQ (xm_old sc) xm_sta f xm_c204 0 [some (.inl x0), some (.inl x1), none, none, none, none] [] w Q :=
  (xq_iload_n k_204_0 rfl (xq_istore_n k_204_1 rfl (xq_iload_n k_204_2 rfl (xq_istore_n k_204_3 rfl (xq_iconst k_204_4 (xq_istore k_204_5 rfl h))))))
theorem xb_204_6 {sc : List Int} {f : Nat → List xm_V → xm_W → xm_R} {w : xm_W} {Q : Option xm_V × xm_W → Prop} {x0 : Int} {x1 : Int} {x2 : Int} {x3 : Int} {x4 : Int} {u5 : Option xm_V}
  (h : if (x4 : Int) < 100 then (if (x3 : Int) = 0 then (if (x2 : Int) = 0 then (Q (some (.inl 1), w)) else (Q (some (.inl x2), w))) else ((x3 : Int) ≠ 0 ∧ (xm_EQ (xm_old sc) xm_sta f xm_c204 6 [some (.inl x0), some (.inl x1), some (.inl x3), some (.inl (Int.tmod x2 x3)), some (.inl (xm_w (x4 + 1))), some (.inl (Int.tmod x2 x3))] [] w Q))) else (if (x2 : Int) = 0 then (Q (some (.inl 1), w)) else (Q (some (.inl x2), w)))) :
  xm_EQ (xm_old sc) xm_sta f xm_c204 6 [some (.inl x0), some (.inl x1), some (.inl x2), some (.inl x3), some (.inl x4), u5] [] w Q :=
  (xq_iload k_204_6 rfl (xq_bipush k_204_7 (xq_ic_ge k_204_8 h (fun h => (xq_iload_n k_204_9 rfl (xq_if_eq k_204_10 h (fun h => (xq_iload_n k_204_21 rfl (xq_if_ne k_204_22 h (fun h => (xq_iconst k_204_23 (xq_goto k_204_24 (xq_ireturn k_204_26 h)))) (fun h => (xq_iload_n k_204_25 rfl (xq_ireturn k_204_26 h)))))) (fun h => (xq_iload_n k_204_11 rfl (xq_iload_n k_204_12 rfl (xq_irem k_204_13 h (fun h => (xq_istore k_204_14 rfl (xq_iload_n k_204_15 rfl (xq_istore_n k_204_16 rfl (xq_iload k_204_17 rfl (xq_istore_n k_204_18 rfl (xq_iinc k_204_19 rfl rfl (xq_goto k_204_20 h))))))))))))))) (fun h => (xq_iload_n k_204_21 rfl (xq_if_ne k_204_22 h (fun h => (xq_iconst k_204_23 (xq_goto k_204_24 (xq_ireturn k_204_26 h)))) (fun h => (xq_iload_n k_204_25 rfl (xq_ireturn k_204_26 h)))))))))
