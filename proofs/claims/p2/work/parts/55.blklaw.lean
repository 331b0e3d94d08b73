theorem d_0_0 : List.drop 0 xm_cl0 = xm_cl0 := rfl
theorem k_0_0 : xm_gi xm_cl0 0 = some xm_el0_0 := xm_gt d_0_0
theorem d_0_1 : List.drop 1 xm_cl0 = xm_cl0_1 := xm_dr d_0_0
theorem k_0_1 : xm_gi xm_cl0 1 = some xm_el0_1 := xm_gt d_0_1
theorem d_0_2 : List.drop 2 xm_cl0 = xm_cl0_2 := xm_dr d_0_1
theorem k_0_2 : xm_gi xm_cl0 2 = some xm_el0_2 := xm_gt d_0_2
theorem d_0_3 : List.drop 3 xm_cl0 = xm_cl0_3 := xm_dr d_0_2
theorem k_0_3 : xm_gi xm_cl0 3 = some xm_el0_3 := xm_gt d_0_3
theorem d_0_4 : List.drop 4 xm_cl0 = xm_cl0_4 := xm_dr d_0_3
theorem k_0_4 : xm_gi xm_cl0 4 = some xm_el0_4 := xm_gt d_0_4
theorem d_0_5 : List.drop 5 xm_cl0 = xm_cl0_5 := xm_dr d_0_4
theorem k_0_5 : xm_gi xm_cl0 5 = some xm_el0_5 := xm_gt d_0_5
theorem d_0_6 : List.drop 6 xm_cl0 = xm_cl0_6 := xm_dr d_0_5
theorem k_0_6 : xm_gi xm_cl0 6 = some xm_el0_6 := xm_gt d_0_6
theorem d_0_7 : List.drop 7 xm_cl0 = xm_cl0_7 := xm_dr d_0_6
theorem k_0_7 : xm_gi xm_cl0 7 = some xm_el0_7 := xm_gt d_0_7
theorem d_0_8 : List.drop 8 xm_cl0 = xm_cl0_8 := xm_dr d_0_7
theorem k_0_8 : xm_gi xm_cl0 8 = some xm_el0_8 := xm_gt d_0_8
theorem d_0_9 : List.drop 9 xm_cl0 = xm_cl0_9 := xm_dr d_0_8
theorem k_0_9 : xm_gi xm_cl0 9 = some xm_el0_9 := xm_gt d_0_9
theorem d_0_10 : List.drop 10 xm_cl0 = xm_cl0_10 := xm_dr d_0_9
theorem k_0_10 : xm_gi xm_cl0 10 = some xm_el0_10 := xm_gt d_0_10
theorem d_0_11 : List.drop 11 xm_cl0 = xm_cl0_11 := xm_dr d_0_10
theorem k_0_11 : xm_gi xm_cl0 11 = some xm_el0_11 := xm_gt d_0_11
theorem d_0_12 : List.drop 12 xm_cl0 = xm_cl0_12 := xm_dr d_0_11
theorem k_0_12 : xm_gi xm_cl0 12 = some xm_el0_12 := xm_gt d_0_12
theorem d_0_13 : List.drop 13 xm_cl0 = xm_cl0_13 := xm_dr d_0_12
theorem k_0_13 : xm_gi xm_cl0 13 = some xm_el0_13 := xm_gt d_0_13
theorem d_0_14 : List.drop 14 xm_cl0 = xm_cl0_14 := xm_dr d_0_13
theorem k_0_14 : xm_gi xm_cl0 14 = some xm_el0_14 := xm_gt d_0_14
theorem d_0_15 : List.drop 15 xm_cl0 = xm_cl0_15 := xm_dr d_0_14
theorem k_0_15 : xm_gi xm_cl0 15 = some xm_el0_15 := xm_gt d_0_15
theorem d_0_16 : List.drop 16 xm_cl0 = xm_cl0_16 := xm_dr d_0_15
theorem k_0_16 : xm_gi xm_cl0 16 = some xm_el0_16 := xm_gt d_0_16
theorem d_0_17 : List.drop 17 xm_cl0 = xm_cl0_17 := xm_dr d_0_16
theorem k_0_17 : xm_gi xm_cl0 17 = some xm_el0_17 := xm_gt d_0_17
theorem d_0_18 : List.drop 18 xm_cl0 = xm_cl0_18 := xm_dr d_0_17
theorem k_0_18 : xm_gi xm_cl0 18 = some xm_el0_18 := xm_gt d_0_18
theorem d_0_19 : List.drop 19 xm_cl0 = xm_cl0_19 := xm_dr d_0_18
theorem k_0_19 : xm_gi xm_cl0 19 = some xm_el0_19 := xm_gt d_0_19
theorem d_0_20 : List.drop 20 xm_cl0 = xm_cl0_20 := xm_dr d_0_19
theorem k_0_20 : xm_gi xm_cl0 20 = some xm_el0_20 := xm_gt d_0_20
theorem d_0_21 : List.drop 21 xm_cl0 = xm_cl0_21 := xm_dr d_0_20
theorem k_0_21 : xm_gi xm_cl0 21 = some xm_el0_21 := xm_gt d_0_21
theorem d_0_22 : List.drop 22 xm_cl0 = xm_cl0_22 := xm_dr d_0_21
theorem k_0_22 : xm_gi xm_cl0 22 = some xm_el0_22 := xm_gt d_0_22
theorem d_0_23 : List.drop 23 xm_cl0 = xm_cl0_23 := xm_dr d_0_22
theorem k_0_23 : xm_gi xm_cl0 23 = some xm_el0_23 := xm_gt d_0_23
theorem d_0_24 : List.drop 24 xm_cl0 = xm_cl0_24 := xm_dr d_0_23
theorem k_0_24 : xm_gi xm_cl0 24 = some xm_el0_24 := xm_gt d_0_24
theorem d_0_25 : List.drop 25 xm_cl0 = xm_cl0_25 := xm_dr d_0_24
theorem k_0_25 : xm_gi xm_cl0 25 = some xm_el0_25 := xm_gt d_0_25
theorem d_0_26 : List.drop 26 xm_cl0 = xm_cl0_26 := xm_dr d_0_25
theorem k_0_26 : xm_gi xm_cl0 26 = some xm_el0_26 := xm_gt d_0_26
theorem d_0_27 : List.drop 27 xm_cl0 = xm_cl0_27 := xm_dr d_0_26
theorem k_0_27 : xm_gi xm_cl0 27 = some xm_el0_27 := xm_gt d_0_27
theorem d_0_28 : List.drop 28 xm_cl0 = xm_cl0_28 := xm_dr d_0_27
theorem k_0_28 : xm_gi xm_cl0 28 = some xm_el0_28 := xm_gt d_0_28
theorem d_0_29 : List.drop 29 xm_cl0 = xm_cl0_29 := xm_dr d_0_28
theorem k_0_29 : xm_gi xm_cl0 29 = some xm_el0_29 := xm_gt d_0_29
theorem d_0_30 : List.drop 30 xm_cl0 = xm_cl0_30 := xm_dr d_0_29
theorem k_0_30 : xm_gi xm_cl0 30 = some xm_el0_30 := xm_gt d_0_30
theorem d_0_31 : List.drop 31 xm_cl0 = xm_cl0_31 := xm_dr d_0_30
theorem k_0_31 : xm_gi xm_cl0 31 = some xm_el0_31 := xm_gt d_0_31
theorem d_0_32 : List.drop 32 xm_cl0 = xm_cl0_32 := xm_dr d_0_31
theorem k_0_32 : xm_gi xm_cl0 32 = some xm_el0_32 := xm_gt d_0_32
theorem d_0_33 : List.drop 33 xm_cl0 = xm_cl0_33 := xm_dr d_0_32
theorem k_0_33 : xm_gi xm_cl0 33 = some xm_el0_33 := xm_gt d_0_33
theorem d_0_34 : List.drop 34 xm_cl0 = xm_cl0_34 := xm_dr d_0_33
theorem k_0_34 : xm_gi xm_cl0 34 = some xm_el0_34 := xm_gt d_0_34
theorem d_0_35 : List.drop 35 xm_cl0 = xm_cl0_35 := xm_dr d_0_34
theorem k_0_35 : xm_gi xm_cl0 35 = some xm_el0_35 := xm_gt d_0_35
theorem d_0_36 : List.drop 36 xm_cl0 = xm_cl0_36 := xm_dr d_0_35
theorem k_0_36 : xm_gi xm_cl0 36 = some xm_el0_36 := xm_gt d_0_36
theorem d_0_37 : List.drop 37 xm_cl0 = xm_cl0_37 := xm_dr d_0_36
theorem k_0_37 : xm_gi xm_cl0 37 = some xm_el0_37 := xm_gt d_0_37
theorem d_0_38 : List.drop 38 xm_cl0 = xm_cl0_38 := xm_dr d_0_37
theorem k_0_38 : xm_gi xm_cl0 38 = some xm_el0_38 := xm_gt d_0_38
theorem d_0_39 : List.drop 39 xm_cl0 = xm_cl0_39 := xm_dr d_0_38
theorem k_0_39 : xm_gi xm_cl0 39 = some xm_el0_39 := xm_gt d_0_39
theorem d_0_40 : List.drop 40 xm_cl0 = xm_cl0_40 := xm_dr d_0_39
theorem k_0_40 : xm_gi xm_cl0 40 = some xm_el0_40 := xm_gt d_0_40
theorem d_0_41 : List.drop 41 xm_cl0 = xm_cl0_41 := xm_dr d_0_40
theorem k_0_41 : xm_gi xm_cl0 41 = some xm_el0_41 := xm_gt d_0_41
theorem d_0_42 : List.drop 42 xm_cl0 = xm_cl0_42 := xm_dr d_0_41
theorem k_0_42 : xm_gi xm_cl0 42 = some xm_el0_42 := xm_gt d_0_42
theorem d_0_43 : List.drop 43 xm_cl0 = xm_cl0_43 := xm_dr d_0_42
theorem k_0_43 : xm_gi xm_cl0 43 = some xm_el0_43 := xm_gt d_0_43
theorem d_0_44 : List.drop 44 xm_cl0 = xm_cl0_44 := xm_dr d_0_43
theorem k_0_44 : xm_gi xm_cl0 44 = some xm_el0_44 := xm_gt d_0_44
theorem d_0_45 : List.drop 45 xm_cl0 = xm_cl0_45 := xm_dr d_0_44
theorem k_0_45 : xm_gi xm_cl0 45 = some xm_el0_45 := xm_gt d_0_45
theorem d_0_46 : List.drop 46 xm_cl0 = xm_cl0_46 := xm_dr d_0_45
theorem k_0_46 : xm_gi xm_cl0 46 = some xm_el0_46 := xm_gt d_0_46
theorem d_0_47 : List.drop 47 xm_cl0 = xm_cl0_47 := xm_dr d_0_46
theorem k_0_47 : xm_gi xm_cl0 47 = some xm_el0_47 := xm_gt d_0_47
theorem d_0_48 : List.drop 48 xm_cl0 = xm_cl0_48 := xm_dr d_0_47
theorem k_0_48 : xm_gi xm_cl0 48 = some xm_el0_48 := xm_gt d_0_48
theorem d_0_49 : List.drop 49 xm_cl0 = xm_cl0_49 := xm_dr d_0_48
theorem k_0_49 : xm_gi xm_cl0 49 = some xm_el0_49 := xm_gt d_0_49
theorem d_0_50 : List.drop 50 xm_cl0 = xm_cl0_50 := xm_dr d_0_49
theorem k_0_50 : xm_gi xm_cl0 50 = some xm_el0_50 := xm_gt d_0_50
theorem d_0_51 : List.drop 51 xm_cl0 = xm_cl0_51 := xm_dr d_0_50
theorem k_0_51 : xm_gi xm_cl0 51 = some xm_el0_51 := xm_gt d_0_51
theorem d_0_52 : List.drop 52 xm_cl0 = xm_cl0_52 := xm_dr d_0_51
theorem k_0_52 : xm_gi xm_cl0 52 = some xm_el0_52 := xm_gt d_0_52
theorem d_0_53 : List.drop 53 xm_cl0 = xm_cl0_53 := xm_dr d_0_52
theorem k_0_53 : xm_gi xm_cl0 53 = some xm_el0_53 := xm_gt d_0_53
theorem d_0_54 : List.drop 54 xm_cl0 = xm_cl0_54 := xm_dr d_0_53
theorem k_0_54 : xm_gi xm_cl0 54 = some xm_el0_54 := xm_gt d_0_54
theorem d_0_55 : List.drop 55 xm_cl0 = xm_cl0_55 := xm_dr d_0_54
theorem k_0_55 : xm_gi xm_cl0 55 = some xm_el0_55 := xm_gt d_0_55
theorem d_0_56 : List.drop 56 xm_cl0 = xm_cl0_56 := xm_dr d_0_55
theorem k_0_56 : xm_gi xm_cl0 56 = some xm_el0_56 := xm_gt d_0_56
theorem d_0_57 : List.drop 57 xm_cl0 = xm_cl0_57 := xm_dr d_0_56
theorem k_0_57 : xm_gi xm_cl0 57 = some xm_el0_57 := xm_gt d_0_57
theorem d_0_58 : List.drop 58 xm_cl0 = xm_cl0_58 := xm_dr d_0_57
theorem k_0_58 : xm_gi xm_cl0 58 = some xm_el0_58 := xm_gt d_0_58
theorem d_0_59 : List.drop 59 xm_cl0 = xm_cl0_59 := xm_dr d_0_58
theorem k_0_59 : xm_gi xm_cl0 59 = some xm_el0_59 := xm_gt d_0_59
theorem d_0_60 : List.drop 60 xm_cl0 = xm_cl0_60 := xm_dr d_0_59
theorem k_0_60 : xm_gi xm_cl0 60 = some xm_el0_60 := xm_gt d_0_60
theorem d_0_61 : List.drop 61 xm_cl0 = xm_cl0_61 := xm_dr d_0_60
theorem k_0_61 : xm_gi xm_cl0 61 = some xm_el0_61 := xm_gt d_0_61
theorem d_0_62 : List.drop 62 xm_cl0 = xm_cl0_62 := xm_dr d_0_61
theorem k_0_62 : xm_gi xm_cl0 62 = some xm_el0_62 := xm_gt d_0_62
theorem d_0_63 : List.drop 63 xm_cl0 = xm_cl0_63 := xm_dr d_0_62
theorem k_0_63 : xm_gi xm_cl0 63 = some xm_el0_63 := xm_gt d_0_63
theorem d_0_64 : List.drop 64 xm_cl0 = xm_cl0_64 := xm_dr d_0_63
theorem k_0_64 : xm_gi xm_cl0 64 = some xm_el0_64 := xm_gt d_0_64
theorem d_0_65 : List.drop 65 xm_cl0 = xm_cl0_65 := xm_dr d_0_64
theorem k_0_65 : xm_gi xm_cl0 65 = some xm_el0_65 := xm_gt d_0_65
theorem d_0_66 : List.drop 66 xm_cl0 = xm_cl0_66 := xm_dr d_0_65
theorem k_0_66 : xm_gi xm_cl0 66 = some xm_el0_66 := xm_gt d_0_66
theorem d_0_67 : List.drop 67 xm_cl0 = xm_cl0_67 := xm_dr d_0_66
theorem k_0_67 : xm_gi xm_cl0 67 = some xm_el0_67 := xm_gt d_0_67
theorem d_0_68 : List.drop 68 xm_cl0 = xm_cl0_68 := xm_dr d_0_67
theorem k_0_68 : xm_gi xm_cl0 68 = some xm_el0_68 := xm_gt d_0_68
theorem d_0_69 : List.drop 69 xm_cl0 = xm_cl0_69 := xm_dr d_0_68
theorem k_0_69 : xm_gi xm_cl0 69 = some xm_el0_69 := xm_gt d_0_69
theorem d_0_70 : List.drop 70 xm_cl0 = xm_cl0_70 := xm_dr d_0_69
theorem k_0_70 : xm_gi xm_cl0 70 = some xm_el0_70 := xm_gt d_0_70
theorem d_0_71 : List.drop 71 xm_cl0 = xm_cl0_71 := xm_dr d_0_70
theorem k_0_71 : xm_gi xm_cl0 71 = some xm_el0_71 := xm_gt d_0_71
theorem d_0_72 : List.drop 72 xm_cl0 = xm_cl0_72 := xm_dr d_0_71
theorem k_0_72 : xm_gi xm_cl0 72 = some xm_el0_72 := xm_gt d_0_72
theorem d_0_73 : List.drop 73 xm_cl0 = xm_cl0_73 := xm_dr d_0_72
theorem k_0_73 : xm_gi xm_cl0 73 = some xm_el0_73 := xm_gt d_0_73
theorem d_0_74 : List.drop 74 xm_cl0 = xm_cl0_74 := xm_dr d_0_73
theorem k_0_74 : xm_gi xm_cl0 74 = some xm_el0_74 := xm_gt d_0_74
theorem d_0_75 : List.drop 75 xm_cl0 = xm_cl0_75 := xm_dr d_0_74
theorem k_0_75 : xm_gi xm_cl0 75 = some xm_el0_75 := xm_gt d_0_75
theorem d_0_76 : List.drop 76 xm_cl0 = xm_cl0_76 := xm_dr d_0_75
theorem k_0_76 : xm_gi xm_cl0 76 = some xm_el0_76 := xm_gt d_0_76
theorem d_0_77 : List.drop 77 xm_cl0 = xm_cl0_77 := xm_dr d_0_76
theorem k_0_77 : xm_gi xm_cl0 77 = some xm_el0_77 := xm_gt d_0_77
theorem d_0_78 : List.drop 78 xm_cl0 = xm_cl0_78 := xm_dr d_0_77
theorem k_0_78 : xm_gi xm_cl0 78 = some xm_el0_78 := xm_gt d_0_78
theorem d_0_79 : List.drop 79 xm_cl0 = xm_cl0_79 := xm_dr d_0_78
theorem k_0_79 : xm_gi xm_cl0 79 = some xm_el0_79 := xm_gt d_0_79
theorem d_0_80 : List.drop 80 xm_cl0 = xm_cl0_80 := xm_dr d_0_79
theorem k_0_80 : xm_gi xm_cl0 80 = some xm_el0_80 := xm_gt d_0_80
theorem d_0_81 : List.drop 81 xm_cl0 = xm_cl0_81 := xm_dr d_0_80
theorem k_0_81 : xm_gi xm_cl0 81 = some xm_el0_81 := xm_gt d_0_81
theorem d_0_82 : List.drop 82 xm_cl0 = xm_cl0_82 := xm_dr d_0_81
theorem k_0_82 : xm_gi xm_cl0 82 = some xm_el0_82 := xm_gt d_0_82
theorem d_0_83 : List.drop 83 xm_cl0 = xm_cl0_83 := xm_dr d_0_82
theorem k_0_83 : xm_gi xm_cl0 83 = some xm_el0_83 := xm_gt d_0_83
theorem d_0_84 : List.drop 84 xm_cl0 = xm_cl0_84 := xm_dr d_0_83
theorem k_0_84 : xm_gi xm_cl0 84 = some xm_el0_84 := xm_gt d_0_84
theorem d_0_85 : List.drop 85 xm_cl0 = xm_cl0_85 := xm_dr d_0_84
theorem k_0_85 : xm_gi xm_cl0 85 = some xm_el0_85 := xm_gt d_0_85
theorem d_0_86 : List.drop 86 xm_cl0 = xm_cl0_86 := xm_dr d_0_85
theorem k_0_86 : xm_gi xm_cl0 86 = some xm_el0_86 := xm_gt d_0_86
theorem d_0_87 : List.drop 87 xm_cl0 = xm_cl0_87 := xm_dr d_0_86
theorem k_0_87 : xm_gi xm_cl0 87 = some xm_el0_87 := xm_gt d_0_87
theorem d_0_88 : List.drop 88 xm_cl0 = xm_cl0_88 := xm_dr d_0_87
theorem k_0_88 : xm_gi xm_cl0 88 = some xm_el0_88 := xm_gt d_0_88
theorem d_0_89 : List.drop 89 xm_cl0 = xm_cl0_89 := xm_dr d_0_88
theorem k_0_89 : xm_gi xm_cl0 89 = some xm_el0_89 := xm_gt d_0_89
theorem d_0_90 : List.drop 90 xm_cl0 = xm_cl0_90 := xm_dr d_0_89
theorem k_0_90 : xm_gi xm_cl0 90 = some xm_el0_90 := xm_gt d_0_90
theorem d_0_91 : List.drop 91 xm_cl0 = xm_cl0_91 := xm_dr d_0_90
theorem k_0_91 : xm_gi xm_cl0 91 = some xm_el0_91 := xm_gt d_0_91
theorem d_0_92 : List.drop 92 xm_cl0 = xm_cl0_92 := xm_dr d_0_91
theorem k_0_92 : xm_gi xm_cl0 92 = some xm_el0_92 := xm_gt d_0_92
theorem d_0_93 : List.drop 93 xm_cl0 = xm_cl0_93 := xm_dr d_0_92
theorem k_0_93 : xm_gi xm_cl0 93 = some xm_el0_93 := xm_gt d_0_93
theorem d_0_94 : List.drop 94 xm_cl0 = xm_cl0_94 := xm_dr d_0_93
theorem k_0_94 : xm_gi xm_cl0 94 = some xm_el0_94 := xm_gt d_0_94
theorem d_0_95 : List.drop 95 xm_cl0 = xm_cl0_95 := xm_dr d_0_94
theorem k_0_95 : xm_gi xm_cl0 95 = some xm_el0_95 := xm_gt d_0_95
theorem d_0_96 : List.drop 96 xm_cl0 = xm_cl0_96 := xm_dr d_0_95
theorem k_0_96 : xm_gi xm_cl0 96 = some xm_el0_96 := xm_gt d_0_96
theorem d_0_97 : List.drop 97 xm_cl0 = xm_cl0_97 := xm_dr d_0_96
theorem k_0_97 : xm_gi xm_cl0 97 = some xm_el0_97 := xm_gt d_0_97
theorem d_0_98 : List.drop 98 xm_cl0 = xm_cl0_98 := xm_dr d_0_97
theorem k_0_98 : xm_gi xm_cl0 98 = some xm_el0_98 := xm_gt d_0_98
theorem d_0_99 : List.drop 99 xm_cl0 = xm_cl0_99 := xm_dr d_0_98
theorem k_0_99 : xm_gi xm_cl0 99 = some xm_el0_99 := xm_gt d_0_99
theorem d_0_100 : List.drop 100 xm_cl0 = xm_cl0_100 := xm_dr d_0_99
theorem k_0_100 : xm_gi xm_cl0 100 = some xm_el0_100 := xm_gt d_0_100
theorem d_0_101 : List.drop 101 xm_cl0 = xm_cl0_101 := xm_dr d_0_100
theorem k_0_101 : xm_gi xm_cl0 101 = some xm_el0_101 := xm_gt d_0_101
theorem d_0_102 : List.drop 102 xm_cl0 = xm_cl0_102 := xm_dr d_0_101
theorem k_0_102 : xm_gi xm_cl0 102 = some xm_el0_102 := xm_gt d_0_102
theorem d_0_103 : List.drop 103 xm_cl0 = xm_cl0_103 := xm_dr d_0_102
theorem k_0_103 : xm_gi xm_cl0 103 = some xm_el0_103 := xm_gt d_0_103
theorem d_0_104 : List.drop 104 xm_cl0 = xm_cl0_104 := xm_dr d_0_103
theorem k_0_104 : xm_gi xm_cl0 104 = some xm_el0_104 := xm_gt d_0_104
theorem d_0_105 : List.drop 105 xm_cl0 = xm_cl0_105 := xm_dr d_0_104
theorem k_0_105 : xm_gi xm_cl0 105 = some xm_el0_105 := xm_gt d_0_105
theorem d_0_106 : List.drop 106 xm_cl0 = xm_cl0_106 := xm_dr d_0_105
theorem k_0_106 : xm_gi xm_cl0 106 = some xm_el0_106 := xm_gt d_0_106
theorem d_0_107 : List.drop 107 xm_cl0 = xm_cl0_107 := xm_dr d_0_106
theorem k_0_107 : xm_gi xm_cl0 107 = some xm_el0_107 := xm_gt d_0_107
theorem d_0_108 : List.drop 108 xm_cl0 = xm_cl0_108 := xm_dr d_0_107
theorem k_0_108 : xm_gi xm_cl0 108 = some xm_el0_108 := xm_gt d_0_108
theorem d_0_109 : List.drop 109 xm_cl0 = xm_cl0_109 := xm_dr d_0_108
theorem k_0_109 : xm_gi xm_cl0 109 = some xm_el0_109 := xm_gt d_0_109
theorem d_0_110 : List.drop 110 xm_cl0 = xm_cl0_110 := xm_dr d_0_109
theorem k_0_110 : xm_gi xm_cl0 110 = some xm_el0_110 := xm_gt d_0_110
theorem d_0_111 : List.drop 111 xm_cl0 = xm_cl0_111 := xm_dr d_0_110
theorem k_0_111 : xm_gi xm_cl0 111 = some xm_el0_111 := xm_gt d_0_111
theorem d_0_112 : List.drop 112 xm_cl0 = xm_cl0_112 := xm_dr d_0_111
theorem k_0_112 : xm_gi xm_cl0 112 = some xm_el0_112 := xm_gt d_0_112
theorem d_0_113 : List.drop 113 xm_cl0 = xm_cl0_113 := xm_dr d_0_112
theorem k_0_113 : xm_gi xm_cl0 113 = some xm_el0_113 := xm_gt d_0_113
theorem d_0_114 : List.drop 114 xm_cl0 = xm_cl0_114 := xm_dr d_0_113
theorem k_0_114 : xm_gi xm_cl0 114 = some xm_el0_114 := xm_gt d_0_114
theorem d_0_115 : List.drop 115 xm_cl0 = xm_cl0_115 := xm_dr d_0_114
theorem k_0_115 : xm_gi xm_cl0 115 = some xm_el0_115 := xm_gt d_0_115
theorem d_0_116 : List.drop 116 xm_cl0 = xm_cl0_116 := xm_dr d_0_115
theorem k_0_116 : xm_gi xm_cl0 116 = some xm_el0_116 := xm_gt d_0_116
theorem d_0_117 : List.drop 117 xm_cl0 = xm_cl0_117 := xm_dr d_0_116
theorem k_0_117 : xm_gi xm_cl0 117 = some xm_el0_117 := xm_gt d_0_117
theorem d_0_118 : List.drop 118 xm_cl0 = xm_cl0_118 := xm_dr d_0_117
theorem k_0_118 : xm_gi xm_cl0 118 = some xm_el0_118 := xm_gt d_0_118
theorem d_0_119 : List.drop 119 xm_cl0 = xm_cl0_119 := xm_dr d_0_118
theorem k_0_119 : xm_gi xm_cl0 119 = some xm_el0_119 := xm_gt d_0_119
theorem d_0_120 : List.drop 120 xm_cl0 = xm_cl0_120 := xm_dr d_0_119
theorem k_0_120 : xm_gi xm_cl0 120 = some xm_el0_120 := xm_gt d_0_120
theorem d_0_121 : List.drop 121 xm_cl0 = xm_cl0_121 := xm_dr d_0_120
theorem k_0_121 : xm_gi xm_cl0 121 = some xm_el0_121 := xm_gt d_0_121
theorem d_0_122 : List.drop 122 xm_cl0 = xm_cl0_122 := xm_dr d_0_121
theorem k_0_122 : xm_gi xm_cl0 122 = some xm_el0_122 := xm_gt d_0_122
theorem d_0_123 : List.drop 123 xm_cl0 = xm_cl0_123 := xm_dr d_0_122
theorem k_0_123 : xm_gi xm_cl0 123 = some xm_el0_123 := xm_gt d_0_123
theorem d_0_124 : List.drop 124 xm_cl0 = xm_cl0_124 := xm_dr d_0_123
theorem k_0_124 : xm_gi xm_cl0 124 = some xm_el0_124 := xm_gt d_0_124
theorem d_0_125 : List.drop 125 xm_cl0 = xm_cl0_125 := xm_dr d_0_124
theorem k_0_125 : xm_gi xm_cl0 125 = some xm_el0_125 := xm_gt d_0_125
theorem d_0_126 : List.drop 126 xm_cl0 = xm_cl0_126 := xm_dr d_0_125
theorem k_0_126 : xm_gi xm_cl0 126 = some xm_el0_126 := xm_gt d_0_126
theorem d_0_127 : List.drop 127 xm_cl0 = xm_cl0_127 := xm_dr d_0_126
theorem k_0_127 : xm_gi xm_cl0 127 = some xm_el0_127 := xm_gt d_0_127
theorem d_0_128 : List.drop 128 xm_cl0 = xm_cl0_128 := xm_dr d_0_127
theorem k_0_128 : xm_gi xm_cl0 128 = some xm_el0_128 := xm_gt d_0_128
theorem d_0_129 : List.drop 129 xm_cl0 = xm_cl0_129 := xm_dr d_0_128
theorem k_0_129 : xm_gi xm_cl0 129 = some xm_el0_129 := xm_gt d_0_129
theorem d_0_130 : List.drop 130 xm_cl0 = xm_cl0_130 := xm_dr d_0_129
theorem k_0_130 : xm_gi xm_cl0 130 = some xm_el0_130 := xm_gt d_0_130
theorem d_0_131 : List.drop 131 xm_cl0 = xm_cl0_131 := xm_dr d_0_130
theorem k_0_131 : xm_gi xm_cl0 131 = some xm_el0_131 := xm_gt d_0_131
theorem d_0_132 : List.drop 132 xm_cl0 = xm_cl0_132 := xm_dr d_0_131
theorem k_0_132 : xm_gi xm_cl0 132 = some xm_el0_132 := xm_gt d_0_132
theorem d_0_133 : List.drop 133 xm_cl0 = xm_cl0_133 := xm_dr d_0_132
theorem k_0_133 : xm_gi xm_cl0 133 = some xm_el0_133 := xm_gt d_0_133
theorem d_0_134 : List.drop 134 xm_cl0 = xm_cl0_134 := xm_dr d_0_133
theorem k_0_134 : xm_gi xm_cl0 134 = some xm_el0_134 := xm_gt d_0_134
theorem d_0_135 : List.drop 135 xm_cl0 = xm_cl0_135 := xm_dr d_0_134
theorem k_0_135 : xm_gi xm_cl0 135 = some xm_el0_135 := xm_gt d_0_135
theorem d_0_136 : List.drop 136 xm_cl0 = xm_cl0_136 := xm_dr d_0_135
theorem k_0_136 : xm_gi xm_cl0 136 = some xm_el0_136 := xm_gt d_0_136
theorem d_0_137 : List.drop 137 xm_cl0 = xm_cl0_137 := xm_dr d_0_136
theorem k_0_137 : xm_gi xm_cl0 137 = some xm_el0_137 := xm_gt d_0_137
theorem d_0_138 : List.drop 138 xm_cl0 = xm_cl0_138 := xm_dr d_0_137
theorem k_0_138 : xm_gi xm_cl0 138 = some xm_el0_138 := xm_gt d_0_138
theorem d_0_139 : List.drop 139 xm_cl0 = xm_cl0_139 := xm_dr d_0_138
theorem k_0_139 : xm_gi xm_cl0 139 = some xm_el0_139 := xm_gt d_0_139
theorem d_0_140 : List.drop 140 xm_cl0 = xm_cl0_140 := xm_dr d_0_139
theorem k_0_140 : xm_gi xm_cl0 140 = some xm_el0_140 := xm_gt d_0_140
theorem d_0_141 : List.drop 141 xm_cl0 = xm_cl0_141 := xm_dr d_0_140
theorem k_0_141 : xm_gi xm_cl0 141 = some xm_el0_141 := xm_gt d_0_141
theorem d_0_142 : List.drop 142 xm_cl0 = xm_cl0_142 := xm_dr d_0_141
theorem k_0_142 : xm_gi xm_cl0 142 = some xm_el0_142 := xm_gt d_0_142
theorem d_0_143 : List.drop 143 xm_cl0 = xm_cl0_143 := xm_dr d_0_142
theorem k_0_143 : xm_gi xm_cl0 143 = some xm_el0_143 := xm_gt d_0_143
theorem d_0_144 : List.drop 144 xm_cl0 = xm_cl0_144 := xm_dr d_0_143
theorem k_0_144 : xm_gi xm_cl0 144 = some xm_el0_144 := xm_gt d_0_144
theorem d_0_145 : List.drop 145 xm_cl0 = xm_cl0_145 := xm_dr d_0_144
theorem k_0_145 : xm_gi xm_cl0 145 = some xm_el0_145 := xm_gt d_0_145
theorem d_0_146 : List.drop 146 xm_cl0 = xm_cl0_146 := xm_dr d_0_145
theorem k_0_146 : xm_gi xm_cl0 146 = some xm_el0_146 := xm_gt d_0_146
theorem d_0_147 : List.drop 147 xm_cl0 = xm_cl0_147 := xm_dr d_0_146
theorem k_0_147 : xm_gi xm_cl0 147 = some xm_el0_147 := xm_gt d_0_147
theorem d_0_148 : List.drop 148 xm_cl0 = xm_cl0_148 := xm_dr d_0_147
theorem k_0_148 : xm_gi xm_cl0 148 = some xm_el0_148 := xm_gt d_0_148
theorem d_0_149 : List.drop 149 xm_cl0 = xm_cl0_149 := xm_dr d_0_148
theorem k_0_149 : xm_gi xm_cl0 149 = some xm_el0_149 := xm_gt d_0_149
theorem d_0_150 : List.drop 150 xm_cl0 = xm_cl0_150 := xm_dr d_0_149
theorem k_0_150 : xm_gi xm_cl0 150 = some xm_el0_150 := xm_gt d_0_150
theorem d_0_151 : List.drop 151 xm_cl0 = xm_cl0_151 := xm_dr d_0_150
theorem k_0_151 : xm_gi xm_cl0 151 = some xm_el0_151 := xm_gt d_0_151
theorem d_0_152 : List.drop 152 xm_cl0 = xm_cl0_152 := xm_dr d_0_151
theorem k_0_152 : xm_gi xm_cl0 152 = some xm_el0_152 := xm_gt d_0_152
theorem d_0_153 : List.drop 153 xm_cl0 = xm_cl0_153 := xm_dr d_0_152
theorem k_0_153 : xm_gi xm_cl0 153 = some xm_el0_153 := xm_gt d_0_153
theorem d_0_154 : List.drop 154 xm_cl0 = xm_cl0_154 := xm_dr d_0_153
theorem k_0_154 : xm_gi xm_cl0 154 = some xm_el0_154 := xm_gt d_0_154
theorem d_0_155 : List.drop 155 xm_cl0 = xm_cl0_155 := xm_dr d_0_154
theorem k_0_155 : xm_gi xm_cl0 155 = some xm_el0_155 := xm_gt d_0_155
theorem d_0_156 : List.drop 156 xm_cl0 = xm_cl0_156 := xm_dr d_0_155
theorem k_0_156 : xm_gi xm_cl0 156 = some xm_el0_156 := xm_gt d_0_156
theorem d_0_157 : List.drop 157 xm_cl0 = xm_cl0_157 := xm_dr d_0_156
theorem k_0_157 : xm_gi xm_cl0 157 = some xm_el0_157 := xm_gt d_0_157
theorem d_0_158 : List.drop 158 xm_cl0 = xm_cl0_158 := xm_dr d_0_157
theorem k_0_158 : xm_gi xm_cl0 158 = some xm_el0_158 := xm_gt d_0_158
theorem d_0_159 : List.drop 159 xm_cl0 = xm_cl0_159 := xm_dr d_0_158
theorem k_0_159 : xm_gi xm_cl0 159 = some xm_el0_159 := xm_gt d_0_159
theorem d_0_160 : List.drop 160 xm_cl0 = xm_cl0_160 := xm_dr d_0_159
theorem k_0_160 : xm_gi xm_cl0 160 = some xm_el0_160 := xm_gt d_0_160
theorem d_0_161 : List.drop 161 xm_cl0 = xm_cl0_161 := xm_dr d_0_160
theorem k_0_161 : xm_gi xm_cl0 161 = some xm_el0_161 := xm_gt d_0_161
theorem d_0_162 : List.drop 162 xm_cl0 = xm_cl0_162 := xm_dr d_0_161
theorem k_0_162 : xm_gi xm_cl0 162 = some xm_el0_162 := xm_gt d_0_162
theorem d_0_163 : List.drop 163 xm_cl0 = xm_cl0_163 := xm_dr d_0_162
theorem k_0_163 : xm_gi xm_cl0 163 = some xm_el0_163 := xm_gt d_0_163
theorem d_0_164 : List.drop 164 xm_cl0 = xm_cl0_164 := xm_dr d_0_163
theorem k_0_164 : xm_gi xm_cl0 164 = some xm_el0_164 := xm_gt d_0_164
theorem d_0_165 : List.drop 165 xm_cl0 = xm_cl0_165 := xm_dr d_0_164
theorem k_0_165 : xm_gi xm_cl0 165 = some xm_el0_165 := xm_gt d_0_165
theorem d_0_166 : List.drop 166 xm_cl0 = xm_cl0_166 := xm_dr d_0_165
theorem k_0_166 : xm_gi xm_cl0 166 = some xm_el0_166 := xm_gt d_0_166
theorem d_0_167 : List.drop 167 xm_cl0 = xm_cl0_167 := xm_dr d_0_166
theorem k_0_167 : xm_gi xm_cl0 167 = some xm_el0_167 := xm_gt d_0_167
theorem d_0_168 : List.drop 168 xm_cl0 = xm_cl0_168 := xm_dr d_0_167
theorem k_0_168 : xm_gi xm_cl0 168 = some xm_el0_168 := xm_gt d_0_168
theorem d_0_169 : List.drop 169 xm_cl0 = xm_cl0_169 := xm_dr d_0_168
theorem k_0_169 : xm_gi xm_cl0 169 = some xm_el0_169 := xm_gt d_0_169
theorem d_0_170 : List.drop 170 xm_cl0 = xm_cl0_170 := xm_dr d_0_169
theorem k_0_170 : xm_gi xm_cl0 170 = some xm_el0_170 := xm_gt d_0_170
theorem d_0_171 : List.drop 171 xm_cl0 = xm_cl0_171 := xm_dr d_0_170
theorem k_0_171 : xm_gi xm_cl0 171 = some xm_el0_171 := xm_gt d_0_171
theorem d_0_172 : List.drop 172 xm_cl0 = xm_cl0_172 := xm_dr d_0_171
theorem k_0_172 : xm_gi xm_cl0 172 = some xm_el0_172 := xm_gt d_0_172
theorem d_0_173 : List.drop 173 xm_cl0 = xm_cl0_173 := xm_dr d_0_172
theorem k_0_173 : xm_gi xm_cl0 173 = some xm_el0_173 := xm_gt d_0_173
theorem d_0_174 : List.drop 174 xm_cl0 = xm_cl0_174 := xm_dr d_0_173
theorem k_0_174 : xm_gi xm_cl0 174 = some xm_el0_174 := xm_gt d_0_174
theorem d_0_175 : List.drop 175 xm_cl0 = xm_cl0_175 := xm_dr d_0_174
theorem k_0_175 : xm_gi xm_cl0 175 = some xm_el0_175 := xm_gt d_0_175
theorem d_0_176 : List.drop 176 xm_cl0 = xm_cl0_176 := xm_dr d_0_175
theorem k_0_176 : xm_gi xm_cl0 176 = some xm_el0_176 := xm_gt d_0_176
theorem d_0_177 : List.drop 177 xm_cl0 = xm_cl0_177 := xm_dr d_0_176
theorem k_0_177 : xm_gi xm_cl0 177 = some xm_el0_177 := xm_gt d_0_177
theorem d_0_178 : List.drop 178 xm_cl0 = xm_cl0_178 := xm_dr d_0_177
theorem k_0_178 : xm_gi xm_cl0 178 = some xm_el0_178 := xm_gt d_0_178
theorem d_0_179 : List.drop 179 xm_cl0 = xm_cl0_179 := xm_dr d_0_178
theorem k_0_179 : xm_gi xm_cl0 179 = some xm_el0_179 := xm_gt d_0_179
theorem d_0_180 : List.drop 180 xm_cl0 = xm_cl0_180 := xm_dr d_0_179
theorem k_0_180 : xm_gi xm_cl0 180 = some xm_el0_180 := xm_gt d_0_180
theorem d_0_181 : List.drop 181 xm_cl0 = xm_cl0_181 := xm_dr d_0_180
theorem k_0_181 : xm_gi xm_cl0 181 = some xm_el0_181 := xm_gt d_0_181
theorem d_0_182 : List.drop 182 xm_cl0 = xm_cl0_182 := xm_dr d_0_181
theorem k_0_182 : xm_gi xm_cl0 182 = some xm_el0_182 := xm_gt d_0_182
theorem d_0_183 : List.drop 183 xm_cl0 = xm_cl0_183 := xm_dr d_0_182
theorem k_0_183 : xm_gi xm_cl0 183 = some xm_el0_183 := xm_gt d_0_183
theorem d_0_184 : List.drop 184 xm_cl0 = xm_cl0_184 := xm_dr d_0_183
theorem k_0_184 : xm_gi xm_cl0 184 = some xm_el0_184 := xm_gt d_0_184
theorem d_0_185 : List.drop 185 xm_cl0 = xm_cl0_185 := xm_dr d_0_184
theorem k_0_185 : xm_gi xm_cl0 185 = some xm_el0_185 := xm_gt d_0_185
theorem d_0_186 : List.drop 186 xm_cl0 = xm_cl0_186 := xm_dr d_0_185
theorem k_0_186 : xm_gi xm_cl0 186 = some xm_el0_186 := xm_gt d_0_186
theorem d_0_187 : List.drop 187 xm_cl0 = xm_cl0_187 := xm_dr d_0_186
theorem k_0_187 : xm_gi xm_cl0 187 = some xm_el0_187 := xm_gt d_0_187
theorem d_0_188 : List.drop 188 xm_cl0 = xm_cl0_188 := xm_dr d_0_187
theorem k_0_188 : xm_gi xm_cl0 188 = some xm_el0_188 := xm_gt d_0_188
theorem d_0_189 : List.drop 189 xm_cl0 = xm_cl0_189 := xm_dr d_0_188
theorem k_0_189 : xm_gi xm_cl0 189 = some xm_el0_189 := xm_gt d_0_189
theorem d_0_190 : List.drop 190 xm_cl0 = xm_cl0_190 := xm_dr d_0_189
theorem k_0_190 : xm_gi xm_cl0 190 = some xm_el0_190 := xm_gt d_0_190
theorem d_0_191 : List.drop 191 xm_cl0 = xm_cl0_191 := xm_dr d_0_190
theorem k_0_191 : xm_gi xm_cl0 191 = some xm_el0_191 := xm_gt d_0_191
theorem d_0_192 : List.drop 192 xm_cl0 = xm_cl0_192 := xm_dr d_0_191
theorem k_0_192 : xm_gi xm_cl0 192 = some xm_el0_192 := xm_gt d_0_192
theorem d_0_193 : List.drop 193 xm_cl0 = xm_cl0_193 := xm_dr d_0_192
theorem k_0_193 : xm_gi xm_cl0 193 = some xm_el0_193 := xm_gt d_0_193
theorem d_0_194 : List.drop 194 xm_cl0 = xm_cl0_194 := xm_dr d_0_193
theorem k_0_194 : xm_gi xm_cl0 194 = some xm_el0_194 := xm_gt d_0_194
theorem d_0_195 : List.drop 195 xm_cl0 = xm_cl0_195 := xm_dr d_0_194
theorem k_0_195 : xm_gi xm_cl0 195 = some xm_el0_195 := xm_gt d_0_195
theorem d_0_196 : List.drop 196 xm_cl0 = xm_cl0_196 := xm_dr d_0_195
theorem k_0_196 : xm_gi xm_cl0 196 = some xm_el0_196 := xm_gt d_0_196
theorem d_0_197 : List.drop 197 xm_cl0 = xm_cl0_197 := xm_dr d_0_196
theorem k_0_197 : xm_gi xm_cl0 197 = some xm_el0_197 := xm_gt d_0_197
theorem d_0_198 : List.drop 198 xm_cl0 = xm_cl0_198 := xm_dr d_0_197
theorem k_0_198 : xm_gi xm_cl0 198 = some xm_el0_198 := xm_gt d_0_198
theorem d_0_199 : List.drop 199 xm_cl0 = xm_cl0_199 := xm_dr d_0_198
theorem k_0_199 : xm_gi xm_cl0 199 = some xm_el0_199 := xm_gt d_0_199
theorem d_0_200 : List.drop 200 xm_cl0 = xm_cl0_200 := xm_dr d_0_199
theorem k_0_200 : xm_gi xm_cl0 200 = some xm_el0_200 := xm_gt d_0_200
theorem d_0_201 : List.drop 201 xm_cl0 = xm_cl0_201 := xm_dr d_0_200
theorem k_0_201 : xm_gi xm_cl0 201 = some xm_el0_201 := xm_gt d_0_201
theorem d_0_202 : List.drop 202 xm_cl0 = xm_cl0_202 := xm_dr d_0_201
theorem k_0_202 : xm_gi xm_cl0 202 = some xm_el0_202 := xm_gt d_0_202
theorem d_0_203 : List.drop 203 xm_cl0 = xm_cl0_203 := xm_dr d_0_202
theorem k_0_203 : xm_gi xm_cl0 203 = some xm_el0_203 := xm_gt d_0_203
theorem d_0_204 : List.drop 204 xm_cl0 = xm_cl0_204 := xm_dr d_0_203
theorem k_0_204 : xm_gi xm_cl0 204 = some xm_el0_204 := xm_gt d_0_204
theorem d_0_205 : List.drop 205 xm_cl0 = xm_cl0_205 := xm_dr d_0_204
theorem k_0_205 : xm_gi xm_cl0 205 = some xm_el0_205 := xm_gt d_0_205
theorem d_0_206 : List.drop 206 xm_cl0 = xm_cl0_206 := xm_dr d_0_205
theorem k_0_206 : xm_gi xm_cl0 206 = some xm_el0_206 := xm_gt d_0_206
theorem d_0_207 : List.drop 207 xm_cl0 = xm_cl0_207 := xm_dr d_0_206
theorem k_0_207 : xm_gi xm_cl0 207 = some xm_el0_207 := xm_gt d_0_207
theorem d_0_208 : List.drop 208 xm_cl0 = xm_cl0_208 := xm_dr d_0_207
theorem k_0_208 : xm_gi xm_cl0 208 = some xm_el0_208 := xm_gt d_0_208
theorem d_0_209 : List.drop 209 xm_cl0 = xm_cl0_209 := xm_dr d_0_208
theorem k_0_209 : xm_gi xm_cl0 209 = some xm_el0_209 := xm_gt d_0_209
theorem d_0_210 : List.drop 210 xm_cl0 = xm_cl0_210 := xm_dr d_0_209
theorem k_0_210 : xm_gi xm_cl0 210 = some xm_el0_210 := xm_gt d_0_210
theorem d_0_211 : List.drop 211 xm_cl0 = xm_cl0_211 := xm_dr d_0_210
theorem k_0_211 : xm_gi xm_cl0 211 = some xm_el0_211 := xm_gt d_0_211
theorem d_0_212 : List.drop 212 xm_cl0 = xm_cl0_212 := xm_dr d_0_211
theorem k_0_212 : xm_gi xm_cl0 212 = some xm_el0_212 := xm_gt d_0_212
theorem d_0_213 : List.drop 213 xm_cl0 = xm_cl0_213 := xm_dr d_0_212
theorem k_0_213 : xm_gi xm_cl0 213 = some xm_el0_213 := xm_gt d_0_213
theorem d_0_214 : List.drop 214 xm_cl0 = xm_cl0_214 := xm_dr d_0_213
theorem k_0_214 : xm_gi xm_cl0 214 = some xm_el0_214 := xm_gt d_0_214
theorem d_0_215 : List.drop 215 xm_cl0 = xm_cl0_215 := xm_dr d_0_214
theorem k_0_215 : xm_gi xm_cl0 215 = some xm_el0_215 := xm_gt d_0_215
theorem d_0_216 : List.drop 216 xm_cl0 = xm_cl0_216 := xm_dr d_0_215
theorem k_0_216 : xm_gi xm_cl0 216 = some xm_el0_216 := xm_gt d_0_216
theorem d_0_217 : List.drop 217 xm_cl0 = xm_cl0_217 := xm_dr d_0_216
theorem k_0_217 : xm_gi xm_cl0 217 = some xm_el0_217 := xm_gt d_0_217
theorem d_0_218 : List.drop 218 xm_cl0 = xm_cl0_218 := xm_dr d_0_217
theorem k_0_218 : xm_gi xm_cl0 218 = some xm_el0_218 := xm_gt d_0_218
theorem d_0_219 : List.drop 219 xm_cl0 = xm_cl0_219 := xm_dr d_0_218
theorem k_0_219 : xm_gi xm_cl0 219 = some xm_el0_219 := xm_gt d_0_219
theorem d_0_220 : List.drop 220 xm_cl0 = xm_cl0_220 := xm_dr d_0_219
theorem k_0_220 : xm_gi xm_cl0 220 = some xm_el0_220 := xm_gt d_0_220
theorem d_0_221 : List.drop 221 xm_cl0 = xm_cl0_221 := xm_dr d_0_220
theorem k_0_221 : xm_gi xm_cl0 221 = some xm_el0_221 := xm_gt d_0_221
theorem d_0_222 : List.drop 222 xm_cl0 = xm_cl0_222 := xm_dr d_0_221
theorem k_0_222 : xm_gi xm_cl0 222 = some xm_el0_222 := xm_gt d_0_222
theorem d_0_223 : List.drop 223 xm_cl0 = xm_cl0_223 := xm_dr d_0_222
theorem k_0_223 : xm_gi xm_cl0 223 = some xm_el0_223 := xm_gt d_0_223
theorem d_0_224 : List.drop 224 xm_cl0 = xm_cl0_224 := xm_dr d_0_223
theorem k_0_224 : xm_gi xm_cl0 224 = some xm_el0_224 := xm_gt d_0_224
theorem d_0_225 : List.drop 225 xm_cl0 = xm_cl0_225 := xm_dr d_0_224
theorem k_0_225 : xm_gi xm_cl0 225 = some xm_el0_225 := xm_gt d_0_225
theorem d_0_226 : List.drop 226 xm_cl0 = xm_cl0_226 := xm_dr d_0_225
theorem k_0_226 : xm_gi xm_cl0 226 = some xm_el0_226 := xm_gt d_0_226
theorem d_0_227 : List.drop 227 xm_cl0 = xm_cl0_227 := xm_dr d_0_226
theorem k_0_227 : xm_gi xm_cl0 227 = some xm_el0_227 := xm_gt d_0_227
theorem d_0_228 : List.drop 228 xm_cl0 = xm_cl0_228 := xm_dr d_0_227
theorem k_0_228 : xm_gi xm_cl0 228 = some xm_el0_228 := xm_gt d_0_228
theorem d_0_229 : List.drop 229 xm_cl0 = xm_cl0_229 := xm_dr d_0_228
theorem k_0_229 : xm_gi xm_cl0 229 = some xm_el0_229 := xm_gt d_0_229
theorem d_0_230 : List.drop 230 xm_cl0 = xm_cl0_230 := xm_dr d_0_229
theorem k_0_230 : xm_gi xm_cl0 230 = some xm_el0_230 := xm_gt d_0_230
theorem d_0_231 : List.drop 231 xm_cl0 = xm_cl0_231 := xm_dr d_0_230
theorem k_0_231 : xm_gi xm_cl0 231 = some xm_el0_231 := xm_gt d_0_231
theorem d_0_232 : List.drop 232 xm_cl0 = xm_cl0_232 := xm_dr d_0_231
theorem k_0_232 : xm_gi xm_cl0 232 = some xm_el0_232 := xm_gt d_0_232
theorem d_0_233 : List.drop 233 xm_cl0 = xm_cl0_233 := xm_dr d_0_232
theorem k_0_233 : xm_gi xm_cl0 233 = some xm_el0_233 := xm_gt d_0_233
theorem d_0_234 : List.drop 234 xm_cl0 = xm_cl0_234 := xm_dr d_0_233
theorem k_0_234 : xm_gi xm_cl0 234 = some xm_el0_234 := xm_gt d_0_234
theorem d_0_235 : List.drop 235 xm_cl0 = xm_cl0_235 := xm_dr d_0_234
theorem k_0_235 : xm_gi xm_cl0 235 = some xm_el0_235 := xm_gt d_0_235
theorem d_0_236 : List.drop 236 xm_cl0 = xm_cl0_236 := xm_dr d_0_235
theorem k_0_236 : xm_gi xm_cl0 236 = some xm_el0_236 := xm_gt d_0_236
theorem d_0_237 : List.drop 237 xm_cl0 = xm_cl0_237 := xm_dr d_0_236
theorem k_0_237 : xm_gi xm_cl0 237 = some xm_el0_237 := xm_gt d_0_237
theorem d_0_238 : List.drop 238 xm_cl0 = xm_cl0_238 := xm_dr d_0_237
theorem k_0_238 : xm_gi xm_cl0 238 = some xm_el0_238 := xm_gt d_0_238
theorem d_0_239 : List.drop 239 xm_cl0 = xm_cl0_239 := xm_dr d_0_238
theorem k_0_239 : xm_gi xm_cl0 239 = some xm_el0_239 := xm_gt d_0_239
theorem d_0_240 : List.drop 240 xm_cl0 = xm_cl0_240 := xm_dr d_0_239
theorem k_0_240 : xm_gi xm_cl0 240 = some xm_el0_240 := xm_gt d_0_240
theorem d_0_241 : List.drop 241 xm_cl0 = xm_cl0_241 := xm_dr d_0_240
theorem k_0_241 : xm_gi xm_cl0 241 = some xm_el0_241 := xm_gt d_0_241
theorem d_0_242 : List.drop 242 xm_cl0 = xm_cl0_242 := xm_dr d_0_241
theorem k_0_242 : xm_gi xm_cl0 242 = some xm_el0_242 := xm_gt d_0_242
theorem d_0_243 : List.drop 243 xm_cl0 = xm_cl0_243 := xm_dr d_0_242
theorem k_0_243 : xm_gi xm_cl0 243 = some xm_el0_243 := xm_gt d_0_243
theorem d_0_244 : List.drop 244 xm_cl0 = xm_cl0_244 := xm_dr d_0_243
theorem k_0_244 : xm_gi xm_cl0 244 = some xm_el0_244 := xm_gt d_0_244
theorem d_0_245 : List.drop 245 xm_cl0 = xm_cl0_245 := xm_dr d_0_244
theorem k_0_245 : xm_gi xm_cl0 245 = some xm_el0_245 := xm_gt d_0_245
theorem d_0_246 : List.drop 246 xm_cl0 = xm_cl0_246 := xm_dr d_0_245
theorem k_0_246 : xm_gi xm_cl0 246 = some xm_el0_246 := xm_gt d_0_246
theorem d_0_247 : List.drop 247 xm_cl0 = xm_cl0_247 := xm_dr d_0_246
theorem k_0_247 : xm_gi xm_cl0 247 = some xm_el0_247 := xm_gt d_0_247
theorem d_0_248 : List.drop 248 xm_cl0 = xm_cl0_248 := xm_dr d_0_247
theorem k_0_248 : xm_gi xm_cl0 248 = some xm_el0_248 := xm_gt d_0_248
theorem d_0_249 : List.drop 249 xm_cl0 = xm_cl0_249 := xm_dr d_0_248
theorem k_0_249 : xm_gi xm_cl0 249 = some xm_el0_249 := xm_gt d_0_249
theorem d_0_250 : List.drop 250 xm_cl0 = xm_cl0_250 := xm_dr d_0_249
theorem k_0_250 : xm_gi xm_cl0 250 = some xm_el0_250 := xm_gt d_0_250
theorem d_0_251 : List.drop 251 xm_cl0 = xm_cl0_251 := xm_dr d_0_250
theorem k_0_251 : xm_gi xm_cl0 251 = some xm_el0_251 := xm_gt d_0_251
theorem d_0_252 : List.drop 252 xm_cl0 = xm_cl0_252 := xm_dr d_0_251
theorem k_0_252 : xm_gi xm_cl0 252 = some xm_el0_252 := xm_gt d_0_252
theorem d_0_253 : List.drop 253 xm_cl0 = xm_cl0_253 := xm_dr d_0_252
theorem k_0_253 : xm_gi xm_cl0 253 = some xm_el0_253 := xm_gt d_0_253
theorem d_0_254 : List.drop 254 xm_cl0 = xm_cl0_254 := xm_dr d_0_253
theorem k_0_254 : xm_gi xm_cl0 254 = some xm_el0_254 := xm_gt d_0_254
theorem d_0_255 : List.drop 255 xm_cl0 = xm_cl0_255 := xm_dr d_0_254
theorem k_0_255 : xm_gi xm_cl0 255 = some xm_el0_255 := xm_gt d_0_255
theorem d_0_256 : List.drop 256 xm_cl0 = xm_cl0_256 := xm_dr d_0_255
theorem k_0_256 : xm_gi xm_cl0 256 = some xm_el0_256 := xm_gt d_0_256
theorem d_0_257 : List.drop 257 xm_cl0 = xm_cl0_257 := xm_dr d_0_256
theorem k_0_257 : xm_gi xm_cl0 257 = some xm_el0_257 := xm_gt d_0_257
theorem d_0_258 : List.drop 258 xm_cl0 = xm_cl0_258 := xm_dr d_0_257
theorem k_0_258 : xm_gi xm_cl0 258 = some xm_el0_258 := xm_gt d_0_258
theorem d_0_259 : List.drop 259 xm_cl0 = xm_cl0_259 := xm_dr d_0_258
theorem k_0_259 : xm_gi xm_cl0 259 = some xm_el0_259 := xm_gt d_0_259
theorem d_0_260 : List.drop 260 xm_cl0 = xm_cl0_260 := xm_dr d_0_259
theorem k_0_260 : xm_gi xm_cl0 260 = some xm_el0_260 := xm_gt d_0_260
theorem d_0_261 : List.drop 261 xm_cl0 = xm_cl0_261 := xm_dr d_0_260
theorem k_0_261 : xm_gi xm_cl0 261 = some xm_el0_261 := xm_gt d_0_261
theorem d_0_262 : List.drop 262 xm_cl0 = xm_cl0_262 := xm_dr d_0_261
theorem k_0_262 : xm_gi xm_cl0 262 = some xm_el0_262 := xm_gt d_0_262
theorem d_0_263 : List.drop 263 xm_cl0 = xm_cl0_263 := xm_dr d_0_262
theorem k_0_263 : xm_gi xm_cl0 263 = some xm_el0_263 := xm_gt d_0_263
theorem d_0_264 : List.drop 264 xm_cl0 = xm_cl0_264 := xm_dr d_0_263
theorem k_0_264 : xm_gi xm_cl0 264 = some xm_el0_264 := xm_gt d_0_264
theorem d_0_265 : List.drop 265 xm_cl0 = xm_cl0_265 := xm_dr d_0_264
theorem k_0_265 : xm_gi xm_cl0 265 = some xm_el0_265 := xm_gt d_0_265
theorem d_0_266 : List.drop 266 xm_cl0 = xm_cl0_266 := xm_dr d_0_265
theorem k_0_266 : xm_gi xm_cl0 266 = some xm_el0_266 := xm_gt d_0_266
theorem d_0_267 : List.drop 267 xm_cl0 = xm_cl0_267 := xm_dr d_0_266
theorem k_0_267 : xm_gi xm_cl0 267 = some xm_el0_267 := xm_gt d_0_267
theorem d_0_268 : List.drop 268 xm_cl0 = xm_cl0_268 := xm_dr d_0_267
theorem k_0_268 : xm_gi xm_cl0 268 = some xm_el0_268 := xm_gt d_0_268
theorem d_0_269 : List.drop 269 xm_cl0 = xm_cl0_269 := xm_dr d_0_268
theorem k_0_269 : xm_gi xm_cl0 269 = some xm_el0_269 := xm_gt d_0_269
theorem d_0_270 : List.drop 270 xm_cl0 = xm_cl0_270 := xm_dr d_0_269
theorem k_0_270 : xm_gi xm_cl0 270 = some xm_el0_270 := xm_gt d_0_270
theorem d_0_271 : List.drop 271 xm_cl0 = xm_cl0_271 := xm_dr d_0_270
theorem k_0_271 : xm_gi xm_cl0 271 = some xm_el0_271 := xm_gt d_0_271
theorem d_0_272 : List.drop 272 xm_cl0 = xm_cl0_272 := xm_dr d_0_271
theorem k_0_272 : xm_gi xm_cl0 272 = some xm_el0_272 := xm_gt d_0_272
theorem d_0_273 : List.drop 273 xm_cl0 = xm_cl0_273 := xm_dr d_0_272
theorem k_0_273 : xm_gi xm_cl0 273 = some xm_el0_273 := xm_gt d_0_273
theorem d_0_274 : List.drop 274 xm_cl0 = xm_cl0_274 := xm_dr d_0_273
theorem k_0_274 : xm_gi xm_cl0 274 = some xm_el0_274 := xm_gt d_0_274
theorem d_0_275 : List.drop 275 xm_cl0 = xm_cl0_275 := xm_dr d_0_274
theorem k_0_275 : xm_gi xm_cl0 275 = some xm_el0_275 := xm_gt d_0_275
theorem d_0_276 : List.drop 276 xm_cl0 = xm_cl0_276 := xm_dr d_0_275
theorem k_0_276 : xm_gi xm_cl0 276 = some xm_el0_276 := xm_gt d_0_276
theorem d_0_277 : List.drop 277 xm_cl0 = xm_cl0_277 := xm_dr d_0_276
theorem k_0_277 : xm_gi xm_cl0 277 = some xm_el0_277 := xm_gt d_0_277
theorem d_0_278 : List.drop 278 xm_cl0 = xm_cl0_278 := xm_dr d_0_277
theorem k_0_278 : xm_gi xm_cl0 278 = some xm_el0_278 := xm_gt d_0_278
theorem d_0_279 : List.drop 279 xm_cl0 = xm_cl0_279 := xm_dr d_0_278
theorem k_0_279 : xm_gi xm_cl0 279 = some xm_el0_279 := xm_gt d_0_279
theorem d_0_280 : List.drop 280 xm_cl0 = xm_cl0_280 := xm_dr d_0_279
theorem k_0_280 : xm_gi xm_cl0 280 = some xm_el0_280 := xm_gt d_0_280
theorem d_0_281 : List.drop 281 xm_cl0 = xm_cl0_281 := xm_dr d_0_280
theorem k_0_281 : xm_gi xm_cl0 281 = some xm_el0_281 := xm_gt d_0_281
theorem d_0_282 : List.drop 282 xm_cl0 = xm_cl0_282 := xm_dr d_0_281
theorem k_0_282 : xm_gi xm_cl0 282 = some xm_el0_282 := xm_gt d_0_282
theorem d_0_283 : List.drop 283 xm_cl0 = xm_cl0_283 := xm_dr d_0_282
theorem k_0_283 : xm_gi xm_cl0 283 = some xm_el0_283 := xm_gt d_0_283
theorem d_0_284 : List.drop 284 xm_cl0 = xm_cl0_284 := xm_dr d_0_283
theorem k_0_284 : xm_gi xm_cl0 284 = some xm_el0_284 := xm_gt d_0_284
theorem d_0_285 : List.drop 285 xm_cl0 = xm_cl0_285 := xm_dr d_0_284
theorem k_0_285 : xm_gi xm_cl0 285 = some xm_el0_285 := xm_gt d_0_285
theorem d_0_286 : List.drop 286 xm_cl0 = xm_cl0_286 := xm_dr d_0_285
theorem k_0_286 : xm_gi xm_cl0 286 = some xm_el0_286 := xm_gt d_0_286
theorem d_0_287 : List.drop 287 xm_cl0 = xm_cl0_287 := xm_dr d_0_286
theorem k_0_287 : xm_gi xm_cl0 287 = some xm_el0_287 := xm_gt d_0_287
theorem d_0_288 : List.drop 288 xm_cl0 = xm_cl0_288 := xm_dr d_0_287
theorem k_0_288 : xm_gi xm_cl0 288 = some xm_el0_288 := xm_gt d_0_288
theorem d_0_289 : List.drop 289 xm_cl0 = xm_cl0_289 := xm_dr d_0_288
theorem k_0_289 : xm_gi xm_cl0 289 = some xm_el0_289 := xm_gt d_0_289
theorem d_0_290 : List.drop 290 xm_cl0 = xm_cl0_290 := xm_dr d_0_289
theorem k_0_290 : xm_gi xm_cl0 290 = some xm_el0_290 := xm_gt d_0_290
theorem d_0_291 : List.drop 291 xm_cl0 = xm_cl0_291 := xm_dr d_0_290
theorem k_0_291 : xm_gi xm_cl0 291 = some xm_el0_291 := xm_gt d_0_291
theorem d_0_292 : List.drop 292 xm_cl0 = xm_cl0_292 := xm_dr d_0_291
theorem k_0_292 : xm_gi xm_cl0 292 = some xm_el0_292 := xm_gt d_0_292
theorem d_0_293 : List.drop 293 xm_cl0 = xm_cl0_293 := xm_dr d_0_292
theorem k_0_293 : xm_gi xm_cl0 293 = some xm_el0_293 := xm_gt d_0_293
theorem d_0_294 : List.drop 294 xm_cl0 = xm_cl0_294 := xm_dr d_0_293
theorem k_0_294 : xm_gi xm_cl0 294 = some xm_el0_294 := xm_gt d_0_294
theorem d_0_295 : List.drop 295 xm_cl0 = xm_cl0_295 := xm_dr d_0_294
theorem k_0_295 : xm_gi xm_cl0 295 = some xm_el0_295 := xm_gt d_0_295
theorem d_0_296 : List.drop 296 xm_cl0 = xm_cl0_296 := xm_dr d_0_295
theorem k_0_296 : xm_gi xm_cl0 296 = some xm_el0_296 := xm_gt d_0_296
theorem d_0_297 : List.drop 297 xm_cl0 = xm_cl0_297 := xm_dr d_0_296
theorem k_0_297 : xm_gi xm_cl0 297 = some xm_el0_297 := xm_gt d_0_297
theorem d_0_298 : List.drop 298 xm_cl0 = xm_cl0_298 := xm_dr d_0_297
theorem k_0_298 : xm_gi xm_cl0 298 = some xm_el0_298 := xm_gt d_0_298
theorem d_0_299 : List.drop 299 xm_cl0 = xm_cl0_299 := xm_dr d_0_298
theorem k_0_299 : xm_gi xm_cl0 299 = some xm_el0_299 := xm_gt d_0_299
theorem d_0_300 : List.drop 300 xm_cl0 = xm_cl0_300 := xm_dr d_0_299
theorem k_0_300 : xm_gi xm_cl0 300 = some xm_el0_300 := xm_gt d_0_300
theorem d_0_301 : List.drop 301 xm_cl0 = xm_cl0_301 := xm_dr d_0_300
theorem k_0_301 : xm_gi xm_cl0 301 = some xm_el0_301 := xm_gt d_0_301
theorem d_0_302 : List.drop 302 xm_cl0 = xm_cl0_302 := xm_dr d_0_301
theorem k_0_302 : xm_gi xm_cl0 302 = some xm_el0_302 := xm_gt d_0_302
theorem d_0_303 : List.drop 303 xm_cl0 = xm_cl0_303 := xm_dr d_0_302
theorem k_0_303 : xm_gi xm_cl0 303 = some xm_el0_303 := xm_gt d_0_303
theorem d_0_304 : List.drop 304 xm_cl0 = xm_cl0_304 := xm_dr d_0_303
theorem k_0_304 : xm_gi xm_cl0 304 = some xm_el0_304 := xm_gt d_0_304
theorem d_0_305 : List.drop 305 xm_cl0 = xm_cl0_305 := xm_dr d_0_304
theorem k_0_305 : xm_gi xm_cl0 305 = some xm_el0_305 := xm_gt d_0_305
theorem d_0_306 : List.drop 306 xm_cl0 = xm_cl0_306 := xm_dr d_0_305
theorem k_0_306 : xm_gi xm_cl0 306 = some xm_el0_306 := xm_gt d_0_306
theorem d_0_307 : List.drop 307 xm_cl0 = xm_cl0_307 := xm_dr d_0_306
theorem k_0_307 : xm_gi xm_cl0 307 = some xm_el0_307 := xm_gt d_0_307
theorem d_0_308 : List.drop 308 xm_cl0 = xm_cl0_308 := xm_dr d_0_307
theorem k_0_308 : xm_gi xm_cl0 308 = some xm_el0_308 := xm_gt d_0_308
theorem d_0_309 : List.drop 309 xm_cl0 = xm_cl0_309 := xm_dr d_0_308
theorem k_0_309 : xm_gi xm_cl0 309 = some xm_el0_309 := xm_gt d_0_309
theorem d_0_310 : List.drop 310 xm_cl0 = xm_cl0_310 := xm_dr d_0_309
theorem k_0_310 : xm_gi xm_cl0 310 = some xm_el0_310 := xm_gt d_0_310
theorem d_0_311 : List.drop 311 xm_cl0 = xm_cl0_311 := xm_dr d_0_310
theorem k_0_311 : xm_gi xm_cl0 311 = some xm_el0_311 := xm_gt d_0_311
theorem d_0_312 : List.drop 312 xm_cl0 = xm_cl0_312 := xm_dr d_0_311
theorem k_0_312 : xm_gi xm_cl0 312 = some xm_el0_312 := xm_gt d_0_312
theorem d_0_313 : List.drop 313 xm_cl0 = xm_cl0_313 := xm_dr d_0_312
theorem k_0_313 : xm_gi xm_cl0 313 = some xm_el0_313 := xm_gt d_0_313
theorem d_0_314 : List.drop 314 xm_cl0 = xm_cl0_314 := xm_dr d_0_313
theorem k_0_314 : xm_gi xm_cl0 314 = some xm_el0_314 := xm_gt d_0_314
theorem d_0_315 : List.drop 315 xm_cl0 = xm_cl0_315 := xm_dr d_0_314
theorem k_0_315 : xm_gi xm_cl0 315 = some xm_el0_315 := xm_gt d_0_315
theorem d_0_316 : List.drop 316 xm_cl0 = xm_cl0_316 := xm_dr d_0_315
theorem k_0_316 : xm_gi xm_cl0 316 = some xm_el0_316 := xm_gt d_0_316
theorem d_0_317 : List.drop 317 xm_cl0 = xm_cl0_317 := xm_dr d_0_316
theorem k_0_317 : xm_gi xm_cl0 317 = some xm_el0_317 := xm_gt d_0_317
theorem d_0_318 : List.drop 318 xm_cl0 = xm_cl0_318 := xm_dr d_0_317
theorem k_0_318 : xm_gi xm_cl0 318 = some xm_el0_318 := xm_gt d_0_318
theorem d_0_319 : List.drop 319 xm_cl0 = xm_cl0_319 := xm_dr d_0_318
theorem k_0_319 : xm_gi xm_cl0 319 = some xm_el0_319 := xm_gt d_0_319
theorem d_0_320 : List.drop 320 xm_cl0 = xm_cl0_320 := xm_dr d_0_319
theorem k_0_320 : xm_gi xm_cl0 320 = some xm_el0_320 := xm_gt d_0_320
theorem d_0_321 : List.drop 321 xm_cl0 = xm_cl0_321 := xm_dr d_0_320
theorem k_0_321 : xm_gi xm_cl0 321 = some xm_el0_321 := xm_gt d_0_321
theorem d_0_322 : List.drop 322 xm_cl0 = xm_cl0_322 := xm_dr d_0_321
theorem k_0_322 : xm_gi xm_cl0 322 = some xm_el0_322 := xm_gt d_0_322
theorem d_0_323 : List.drop 323 xm_cl0 = xm_cl0_323 := xm_dr d_0_322
theorem k_0_323 : xm_gi xm_cl0 323 = some xm_el0_323 := xm_gt d_0_323
theorem d_0_324 : List.drop 324 xm_cl0 = xm_cl0_324 := xm_dr d_0_323
theorem k_0_324 : xm_gi xm_cl0 324 = some xm_el0_324 := xm_gt d_0_324
theorem d_0_325 : List.drop 325 xm_cl0 = xm_cl0_325 := xm_dr d_0_324
theorem k_0_325 : xm_gi xm_cl0 325 = some xm_el0_325 := xm_gt d_0_325
theorem d_0_326 : List.drop 326 xm_cl0 = xm_cl0_326 := xm_dr d_0_325
theorem k_0_326 : xm_gi xm_cl0 326 = some xm_el0_326 := xm_gt d_0_326
theorem d_0_327 : List.drop 327 xm_cl0 = xm_cl0_327 := xm_dr d_0_326
theorem k_0_327 : xm_gi xm_cl0 327 = some xm_el0_327 := xm_gt d_0_327
theorem d_0_328 : List.drop 328 xm_cl0 = xm_cl0_328 := xm_dr d_0_327
theorem k_0_328 : xm_gi xm_cl0 328 = some xm_el0_328 := xm_gt d_0_328
theorem d_0_329 : List.drop 329 xm_cl0 = xm_cl0_329 := xm_dr d_0_328
theorem k_0_329 : xm_gi xm_cl0 329 = some xm_el0_329 := xm_gt d_0_329
theorem d_0_330 : List.drop 330 xm_cl0 = xm_cl0_330 := xm_dr d_0_329
theorem k_0_330 : xm_gi xm_cl0 330 = some xm_el0_330 := xm_gt d_0_330
theorem d_0_331 : List.drop 331 xm_cl0 = xm_cl0_331 := xm_dr d_0_330
theorem k_0_331 : xm_gi xm_cl0 331 = some xm_el0_331 := xm_gt d_0_331
theorem d_0_332 : List.drop 332 xm_cl0 = xm_cl0_332 := xm_dr d_0_331
theorem k_0_332 : xm_gi xm_cl0 332 = some xm_el0_332 := xm_gt d_0_332
theorem d_0_333 : List.drop 333 xm_cl0 = xm_cl0_333 := xm_dr d_0_332
theorem k_0_333 : xm_gi xm_cl0 333 = some xm_el0_333 := xm_gt d_0_333
theorem d_0_334 : List.drop 334 xm_cl0 = xm_cl0_334 := xm_dr d_0_333
theorem k_0_334 : xm_gi xm_cl0 334 = some xm_el0_334 := xm_gt d_0_334
theorem d_0_335 : List.drop 335 xm_cl0 = xm_cl0_335 := xm_dr d_0_334
theorem k_0_335 : xm_gi xm_cl0 335 = some xm_el0_335 := xm_gt d_0_335
theorem d_0_336 : List.drop 336 xm_cl0 = xm_cl0_336 := xm_dr d_0_335
theorem k_0_336 : xm_gi xm_cl0 336 = some xm_el0_336 := xm_gt d_0_336
theorem d_0_337 : List.drop 337 xm_cl0 = xm_cl0_337 := xm_dr d_0_336
theorem k_0_337 : xm_gi xm_cl0 337 = some xm_el0_337 := xm_gt d_0_337
theorem d_0_338 : List.drop 338 xm_cl0 = xm_cl0_338 := xm_dr d_0_337
theorem k_0_338 : xm_gi xm_cl0 338 = some xm_el0_338 := xm_gt d_0_338
theorem d_0_339 : List.drop 339 xm_cl0 = xm_cl0_339 := xm_dr d_0_338
theorem k_0_339 : xm_gi xm_cl0 339 = some xm_el0_339 := xm_gt d_0_339
theorem d_0_340 : List.drop 340 xm_cl0 = xm_cl0_340 := xm_dr d_0_339
theorem k_0_340 : xm_gi xm_cl0 340 = some xm_el0_340 := xm_gt d_0_340
theorem d_0_341 : List.drop 341 xm_cl0 = xm_cl0_341 := xm_dr d_0_340
theorem k_0_341 : xm_gi xm_cl0 341 = some xm_el0_341 := xm_gt d_0_341
theorem d_0_342 : List.drop 342 xm_cl0 = xm_cl0_342 := xm_dr d_0_341
theorem k_0_342 : xm_gi xm_cl0 342 = some xm_el0_342 := xm_gt d_0_342
theorem d_0_343 : List.drop 343 xm_cl0 = xm_cl0_343 := xm_dr d_0_342
theorem k_0_343 : xm_gi xm_cl0 343 = some xm_el0_343 := xm_gt d_0_343
theorem d_0_344 : List.drop 344 xm_cl0 = xm_cl0_344 := xm_dr d_0_343
theorem k_0_344 : xm_gi xm_cl0 344 = some xm_el0_344 := xm_gt d_0_344
theorem d_0_345 : List.drop 345 xm_cl0 = xm_cl0_345 := xm_dr d_0_344
theorem k_0_345 : xm_gi xm_cl0 345 = some xm_el0_345 := xm_gt d_0_345
theorem d_0_346 : List.drop 346 xm_cl0 = xm_cl0_346 := xm_dr d_0_345
theorem k_0_346 : xm_gi xm_cl0 346 = some xm_el0_346 := xm_gt d_0_346
theorem d_0_347 : List.drop 347 xm_cl0 = xm_cl0_347 := xm_dr d_0_346
theorem k_0_347 : xm_gi xm_cl0 347 = some xm_el0_347 := xm_gt d_0_347
theorem d_0_348 : List.drop 348 xm_cl0 = xm_cl0_348 := xm_dr d_0_347
theorem k_0_348 : xm_gi xm_cl0 348 = some xm_el0_348 := xm_gt d_0_348
theorem d_0_349 : List.drop 349 xm_cl0 = xm_cl0_349 := xm_dr d_0_348
theorem k_0_349 : xm_gi xm_cl0 349 = some xm_el0_349 := xm_gt d_0_349
theorem d_0_350 : List.drop 350 xm_cl0 = xm_cl0_350 := xm_dr d_0_349
theorem k_0_350 : xm_gi xm_cl0 350 = some xm_el0_350 := xm_gt d_0_350
theorem d_0_351 : List.drop 351 xm_cl0 = xm_cl0_351 := xm_dr d_0_350
theorem k_0_351 : xm_gi xm_cl0 351 = some xm_el0_351 := xm_gt d_0_351
theorem d_0_352 : List.drop 352 xm_cl0 = xm_cl0_352 := xm_dr d_0_351
theorem k_0_352 : xm_gi xm_cl0 352 = some xm_el0_352 := xm_gt d_0_352
theorem d_0_353 : List.drop 353 xm_cl0 = xm_cl0_353 := xm_dr d_0_352
theorem k_0_353 : xm_gi xm_cl0 353 = some xm_el0_353 := xm_gt d_0_353
theorem d_0_354 : List.drop 354 xm_cl0 = xm_cl0_354 := xm_dr d_0_353
theorem k_0_354 : xm_gi xm_cl0 354 = some xm_el0_354 := xm_gt d_0_354
theorem d_0_355 : List.drop 355 xm_cl0 = xm_cl0_355 := xm_dr d_0_354
theorem k_0_355 : xm_gi xm_cl0 355 = some xm_el0_355 := xm_gt d_0_355
theorem d_0_356 : List.drop 356 xm_cl0 = xm_cl0_356 := xm_dr d_0_355
theorem k_0_356 : xm_gi xm_cl0 356 = some xm_el0_356 := xm_gt d_0_356
theorem d_0_357 : List.drop 357 xm_cl0 = xm_cl0_357 := xm_dr d_0_356
theorem k_0_357 : xm_gi xm_cl0 357 = some xm_el0_357 := xm_gt d_0_357
theorem d_0_358 : List.drop 358 xm_cl0 = xm_cl0_358 := xm_dr d_0_357
theorem k_0_358 : xm_gi xm_cl0 358 = some xm_el0_358 := xm_gt d_0_358
theorem d_0_359 : List.drop 359 xm_cl0 = xm_cl0_359 := xm_dr d_0_358
theorem k_0_359 : xm_gi xm_cl0 359 = some xm_el0_359 := xm_gt d_0_359
theorem d_0_360 : List.drop 360 xm_cl0 = xm_cl0_360 := xm_dr d_0_359
theorem k_0_360 : xm_gi xm_cl0 360 = some xm_el0_360 := xm_gt d_0_360
theorem d_0_361 : List.drop 361 xm_cl0 = xm_cl0_361 := xm_dr d_0_360
theorem k_0_361 : xm_gi xm_cl0 361 = some xm_el0_361 := xm_gt d_0_361
theorem d_0_362 : List.drop 362 xm_cl0 = xm_cl0_362 := xm_dr d_0_361
theorem k_0_362 : xm_gi xm_cl0 362 = some xm_el0_362 := xm_gt d_0_362
theorem d_0_363 : List.drop 363 xm_cl0 = xm_cl0_363 := xm_dr d_0_362
theorem k_0_363 : xm_gi xm_cl0 363 = some xm_el0_363 := xm_gt d_0_363
theorem d_0_364 : List.drop 364 xm_cl0 = xm_cl0_364 := xm_dr d_0_363
theorem k_0_364 : xm_gi xm_cl0 364 = some xm_el0_364 := xm_gt d_0_364
theorem d_0_365 : List.drop 365 xm_cl0 = xm_cl0_365 := xm_dr d_0_364
theorem k_0_365 : xm_gi xm_cl0 365 = some xm_el0_365 := xm_gt d_0_365
theorem d_0_366 : List.drop 366 xm_cl0 = xm_cl0_366 := xm_dr d_0_365
theorem k_0_366 : xm_gi xm_cl0 366 = some xm_el0_366 := xm_gt d_0_366
theorem d_0_367 : List.drop 367 xm_cl0 = xm_cl0_367 := xm_dr d_0_366
theorem k_0_367 : xm_gi xm_cl0 367 = some xm_el0_367 := xm_gt d_0_367
theorem d_0_368 : List.drop 368 xm_cl0 = xm_cl0_368 := xm_dr d_0_367
theorem k_0_368 : xm_gi xm_cl0 368 = some xm_el0_368 := xm_gt d_0_368
theorem d_0_369 : List.drop 369 xm_cl0 = xm_cl0_369 := xm_dr d_0_368
theorem k_0_369 : xm_gi xm_cl0 369 = some xm_el0_369 := xm_gt d_0_369
theorem d_0_370 : List.drop 370 xm_cl0 = xm_cl0_370 := xm_dr d_0_369
theorem k_0_370 : xm_gi xm_cl0 370 = some xm_el0_370 := xm_gt d_0_370
theorem d_0_371 : List.drop 371 xm_cl0 = xm_cl0_371 := xm_dr d_0_370
theorem k_0_371 : xm_gi xm_cl0 371 = some xm_el0_371 := xm_gt d_0_371
theorem d_0_372 : List.drop 372 xm_cl0 = xm_cl0_372 := xm_dr d_0_371
theorem k_0_372 : xm_gi xm_cl0 372 = some xm_el0_372 := xm_gt d_0_372
theorem d_0_373 : List.drop 373 xm_cl0 = xm_cl0_373 := xm_dr d_0_372
theorem k_0_373 : xm_gi xm_cl0 373 = some xm_el0_373 := xm_gt d_0_373
theorem d_0_374 : List.drop 374 xm_cl0 = xm_cl0_374 := xm_dr d_0_373
theorem k_0_374 : xm_gi xm_cl0 374 = some xm_el0_374 := xm_gt d_0_374
theorem d_0_375 : List.drop 375 xm_cl0 = xm_cl0_375 := xm_dr d_0_374
theorem k_0_375 : xm_gi xm_cl0 375 = some xm_el0_375 := xm_gt d_0_375
theorem d_0_376 : List.drop 376 xm_cl0 = xm_cl0_376 := xm_dr d_0_375
theorem k_0_376 : xm_gi xm_cl0 376 = some xm_el0_376 := xm_gt d_0_376
theorem d_0_377 : List.drop 377 xm_cl0 = xm_cl0_377 := xm_dr d_0_376
theorem k_0_377 : xm_gi xm_cl0 377 = some xm_el0_377 := xm_gt d_0_377
theorem d_0_378 : List.drop 378 xm_cl0 = xm_cl0_378 := xm_dr d_0_377
theorem k_0_378 : xm_gi xm_cl0 378 = some xm_el0_378 := xm_gt d_0_378
theorem d_0_379 : List.drop 379 xm_cl0 = xm_cl0_379 := xm_dr d_0_378
theorem k_0_379 : xm_gi xm_cl0 379 = some xm_el0_379 := xm_gt d_0_379
theorem d_0_380 : List.drop 380 xm_cl0 = xm_cl0_380 := xm_dr d_0_379
theorem k_0_380 : xm_gi xm_cl0 380 = some xm_el0_380 := xm_gt d_0_380
theorem d_0_381 : List.drop 381 xm_cl0 = xm_cl0_381 := xm_dr d_0_380
theorem k_0_381 : xm_gi xm_cl0 381 = some xm_el0_381 := xm_gt d_0_381
theorem d_0_382 : List.drop 382 xm_cl0 = xm_cl0_382 := xm_dr d_0_381
theorem k_0_382 : xm_gi xm_cl0 382 = some xm_el0_382 := xm_gt d_0_382
theorem d_0_383 : List.drop 383 xm_cl0 = xm_cl0_383 := xm_dr d_0_382
theorem k_0_383 : xm_gi xm_cl0 383 = some xm_el0_383 := xm_gt d_0_383
theorem d_0_384 : List.drop 384 xm_cl0 = xm_cl0_384 := xm_dr d_0_383
theorem k_0_384 : xm_gi xm_cl0 384 = some xm_el0_384 := xm_gt d_0_384
theorem d_0_385 : List.drop 385 xm_cl0 = xm_cl0_385 := xm_dr d_0_384
theorem k_0_385 : xm_gi xm_cl0 385 = some xm_el0_385 := xm_gt d_0_385
theorem d_0_386 : List.drop 386 xm_cl0 = xm_cl0_386 := xm_dr d_0_385
theorem k_0_386 : xm_gi xm_cl0 386 = some xm_el0_386 := xm_gt d_0_386
theorem d_0_387 : List.drop 387 xm_cl0 = xm_cl0_387 := xm_dr d_0_386
theorem k_0_387 : xm_gi xm_cl0 387 = some xm_el0_387 := xm_gt d_0_387
theorem d_0_388 : List.drop 388 xm_cl0 = xm_cl0_388 := xm_dr d_0_387
theorem k_0_388 : xm_gi xm_cl0 388 = some xm_el0_388 := xm_gt d_0_388
theorem d_0_389 : List.drop 389 xm_cl0 = xm_cl0_389 := xm_dr d_0_388
theorem k_0_389 : xm_gi xm_cl0 389 = some xm_el0_389 := xm_gt d_0_389
theorem d_0_390 : List.drop 390 xm_cl0 = xm_cl0_390 := xm_dr d_0_389
theorem k_0_390 : xm_gi xm_cl0 390 = some xm_el0_390 := xm_gt d_0_390
theorem d_0_391 : List.drop 391 xm_cl0 = xm_cl0_391 := xm_dr d_0_390
theorem k_0_391 : xm_gi xm_cl0 391 = some xm_el0_391 := xm_gt d_0_391
theorem d_0_392 : List.drop 392 xm_cl0 = xm_cl0_392 := xm_dr d_0_391
theorem k_0_392 : xm_gi xm_cl0 392 = some xm_el0_392 := xm_gt d_0_392
theorem d_0_393 : List.drop 393 xm_cl0 = xm_cl0_393 := xm_dr d_0_392
theorem k_0_393 : xm_gi xm_cl0 393 = some xm_el0_393 := xm_gt d_0_393
theorem d_0_394 : List.drop 394 xm_cl0 = xm_cl0_394 := xm_dr d_0_393
theorem k_0_394 : xm_gi xm_cl0 394 = some xm_el0_394 := xm_gt d_0_394
theorem d_0_395 : List.drop 395 xm_cl0 = xm_cl0_395 := xm_dr d_0_394
theorem k_0_395 : xm_gi xm_cl0 395 = some xm_el0_395 := xm_gt d_0_395
theorem d_0_396 : List.drop 396 xm_cl0 = xm_cl0_396 := xm_dr d_0_395
theorem k_0_396 : xm_gi xm_cl0 396 = some xm_el0_396 := xm_gt d_0_396
theorem d_0_397 : List.drop 397 xm_cl0 = xm_cl0_397 := xm_dr d_0_396
theorem k_0_397 : xm_gi xm_cl0 397 = some xm_el0_397 := xm_gt d_0_397
theorem d_0_398 : List.drop 398 xm_cl0 = xm_cl0_398 := xm_dr d_0_397
theorem k_0_398 : xm_gi xm_cl0 398 = some xm_el0_398 := xm_gt d_0_398
theorem d_0_399 : List.drop 399 xm_cl0 = xm_cl0_399 := xm_dr d_0_398
theorem k_0_399 : xm_gi xm_cl0 399 = some xm_el0_399 := xm_gt d_0_399
theorem d_0_400 : List.drop 400 xm_cl0 = xm_cl0_400 := xm_dr d_0_399
theorem k_0_400 : xm_gi xm_cl0 400 = some xm_el0_400 := xm_gt d_0_400
theorem d_0_401 : List.drop 401 xm_cl0 = xm_cl0_401 := xm_dr d_0_400
theorem k_0_401 : xm_gi xm_cl0 401 = some xm_el0_401 := xm_gt d_0_401
theorem d_0_402 : List.drop 402 xm_cl0 = xm_cl0_402 := xm_dr d_0_401
theorem k_0_402 : xm_gi xm_cl0 402 = some xm_el0_402 := xm_gt d_0_402
theorem d_0_403 : List.drop 403 xm_cl0 = xm_cl0_403 := xm_dr d_0_402
theorem k_0_403 : xm_gi xm_cl0 403 = some xm_el0_403 := xm_gt d_0_403
theorem d_0_404 : List.drop 404 xm_cl0 = xm_cl0_404 := xm_dr d_0_403
theorem k_0_404 : xm_gi xm_cl0 404 = some xm_el0_404 := xm_gt d_0_404
theorem d_0_405 : List.drop 405 xm_cl0 = xm_cl0_405 := xm_dr d_0_404
theorem k_0_405 : xm_gi xm_cl0 405 = some xm_el0_405 := xm_gt d_0_405
theorem d_0_406 : List.drop 406 xm_cl0 = xm_cl0_406 := xm_dr d_0_405
theorem k_0_406 : xm_gi xm_cl0 406 = some xm_el0_406 := xm_gt d_0_406
theorem d_0_407 : List.drop 407 xm_cl0 = xm_cl0_407 := xm_dr d_0_406
theorem k_0_407 : xm_gi xm_cl0 407 = some xm_el0_407 := xm_gt d_0_407
theorem d_0_408 : List.drop 408 xm_cl0 = xm_cl0_408 := xm_dr d_0_407
theorem k_0_408 : xm_gi xm_cl0 408 = some xm_el0_408 := xm_gt d_0_408
theorem d_0_409 : List.drop 409 xm_cl0 = xm_cl0_409 := xm_dr d_0_408
theorem k_0_409 : xm_gi xm_cl0 409 = some xm_el0_409 := xm_gt d_0_409
theorem d_0_410 : List.drop 410 xm_cl0 = xm_cl0_410 := xm_dr d_0_409
theorem k_0_410 : xm_gi xm_cl0 410 = some xm_el0_410 := xm_gt d_0_410
theorem d_0_411 : List.drop 411 xm_cl0 = xm_cl0_411 := xm_dr d_0_410
theorem k_0_411 : xm_gi xm_cl0 411 = some xm_el0_411 := xm_gt d_0_411
theorem d_0_412 : List.drop 412 xm_cl0 = xm_cl0_412 := xm_dr d_0_411
theorem k_0_412 : xm_gi xm_cl0 412 = some xm_el0_412 := xm_gt d_0_412
theorem d_0_413 : List.drop 413 xm_cl0 = xm_cl0_413 := xm_dr d_0_412
theorem k_0_413 : xm_gi xm_cl0 413 = some xm_el0_413 := xm_gt d_0_413
theorem d_0_414 : List.drop 414 xm_cl0 = xm_cl0_414 := xm_dr d_0_413
theorem k_0_414 : xm_gi xm_cl0 414 = some xm_el0_414 := xm_gt d_0_414
theorem d_0_415 : List.drop 415 xm_cl0 = xm_cl0_415 := xm_dr d_0_414
theorem k_0_415 : xm_gi xm_cl0 415 = some xm_el0_415 := xm_gt d_0_415
theorem d_0_416 : List.drop 416 xm_cl0 = xm_cl0_416 := xm_dr d_0_415
theorem k_0_416 : xm_gi xm_cl0 416 = some xm_el0_416 := xm_gt d_0_416
theorem d_0_417 : List.drop 417 xm_cl0 = xm_cl0_417 := xm_dr d_0_416
theorem k_0_417 : xm_gi xm_cl0 417 = some xm_el0_417 := xm_gt d_0_417
theorem d_0_418 : List.drop 418 xm_cl0 = xm_cl0_418 := xm_dr d_0_417
theorem k_0_418 : xm_gi xm_cl0 418 = some xm_el0_418 := xm_gt d_0_418
theorem d_0_419 : List.drop 419 xm_cl0 = xm_cl0_419 := xm_dr d_0_418
theorem k_0_419 : xm_gi xm_cl0 419 = some xm_el0_419 := xm_gt d_0_419
theorem d_0_420 : List.drop 420 xm_cl0 = xm_cl0_420 := xm_dr d_0_419
theorem k_0_420 : xm_gi xm_cl0 420 = some xm_el0_420 := xm_gt d_0_420
theorem d_0_421 : List.drop 421 xm_cl0 = xm_cl0_421 := xm_dr d_0_420
theorem k_0_421 : xm_gi xm_cl0 421 = some xm_el0_421 := xm_gt d_0_421
theorem d_0_422 : List.drop 422 xm_cl0 = xm_cl0_422 := xm_dr d_0_421
theorem k_0_422 : xm_gi xm_cl0 422 = some xm_el0_422 := xm_gt d_0_422
theorem d_0_423 : List.drop 423 xm_cl0 = xm_cl0_423 := xm_dr d_0_422
theorem k_0_423 : xm_gi xm_cl0 423 = some xm_el0_423 := xm_gt d_0_423
theorem d_0_424 : List.drop 424 xm_cl0 = xm_cl0_424 := xm_dr d_0_423
theorem k_0_424 : xm_gi xm_cl0 424 = some xm_el0_424 := xm_gt d_0_424
theorem d_0_425 : List.drop 425 xm_cl0 = xm_cl0_425 := xm_dr d_0_424
theorem k_0_425 : xm_gi xm_cl0 425 = some xm_el0_425 := xm_gt d_0_425
theorem d_0_426 : List.drop 426 xm_cl0 = xm_cl0_426 := xm_dr d_0_425
theorem k_0_426 : xm_gi xm_cl0 426 = some xm_el0_426 := xm_gt d_0_426
theorem d_0_427 : List.drop 427 xm_cl0 = xm_cl0_427 := xm_dr d_0_426
theorem k_0_427 : xm_gi xm_cl0 427 = some xm_el0_427 := xm_gt d_0_427
theorem d_0_428 : List.drop 428 xm_cl0 = xm_cl0_428 := xm_dr d_0_427
theorem k_0_428 : xm_gi xm_cl0 428 = some xm_el0_428 := xm_gt d_0_428
theorem d_0_429 : List.drop 429 xm_cl0 = xm_cl0_429 := xm_dr d_0_428
theorem k_0_429 : xm_gi xm_cl0 429 = some xm_el0_429 := xm_gt d_0_429
theorem d_0_430 : List.drop 430 xm_cl0 = xm_cl0_430 := xm_dr d_0_429
theorem k_0_430 : xm_gi xm_cl0 430 = some xm_el0_430 := xm_gt d_0_430
theorem d_0_431 : List.drop 431 xm_cl0 = xm_cl0_431 := xm_dr d_0_430
theorem k_0_431 : xm_gi xm_cl0 431 = some xm_el0_431 := xm_gt d_0_431
theorem d_0_432 : List.drop 432 xm_cl0 = xm_cl0_432 := xm_dr d_0_431
theorem k_0_432 : xm_gi xm_cl0 432 = some xm_el0_432 := xm_gt d_0_432
theorem d_0_433 : List.drop 433 xm_cl0 = xm_cl0_433 := xm_dr d_0_432
theorem k_0_433 : xm_gi xm_cl0 433 = some xm_el0_433 := xm_gt d_0_433
theorem d_0_434 : List.drop 434 xm_cl0 = xm_cl0_434 := xm_dr d_0_433
theorem k_0_434 : xm_gi xm_cl0 434 = some xm_el0_434 := xm_gt d_0_434
theorem d_0_435 : List.drop 435 xm_cl0 = xm_cl0_435 := xm_dr d_0_434
theorem k_0_435 : xm_gi xm_cl0 435 = some xm_el0_435 := xm_gt d_0_435
theorem d_0_436 : List.drop 436 xm_cl0 = xm_cl0_436 := xm_dr d_0_435
theorem k_0_436 : xm_gi xm_cl0 436 = some xm_el0_436 := xm_gt d_0_436
theorem d_0_437 : List.drop 437 xm_cl0 = xm_cl0_437 := xm_dr d_0_436
theorem k_0_437 : xm_gi xm_cl0 437 = some xm_el0_437 := xm_gt d_0_437
theorem d_0_438 : List.drop 438 xm_cl0 = xm_cl0_438 := xm_dr d_0_437
theorem k_0_438 : xm_gi xm_cl0 438 = some xm_el0_438 := xm_gt d_0_438
theorem d_0_439 : List.drop 439 xm_cl0 = xm_cl0_439 := xm_dr d_0_438
theorem k_0_439 : xm_gi xm_cl0 439 = some xm_el0_439 := xm_gt d_0_439
theorem d_0_440 : List.drop 440 xm_cl0 = xm_cl0_440 := xm_dr d_0_439
theorem k_0_440 : xm_gi xm_cl0 440 = some xm_el0_440 := xm_gt d_0_440
theorem d_0_441 : List.drop 441 xm_cl0 = xm_cl0_441 := xm_dr d_0_440
theorem k_0_441 : xm_gi xm_cl0 441 = some xm_el0_441 := xm_gt d_0_441
theorem d_0_442 : List.drop 442 xm_cl0 = xm_cl0_442 := xm_dr d_0_441
theorem k_0_442 : xm_gi xm_cl0 442 = some xm_el0_442 := xm_gt d_0_442
theorem d_0_443 : List.drop 443 xm_cl0 = xm_cl0_443 := xm_dr d_0_442
theorem k_0_443 : xm_gi xm_cl0 443 = some xm_el0_443 := xm_gt d_0_443
theorem d_0_444 : List.drop 444 xm_cl0 = xm_cl0_444 := xm_dr d_0_443
theorem k_0_444 : xm_gi xm_cl0 444 = some xm_el0_444 := xm_gt d_0_444
theorem d_0_445 : List.drop 445 xm_cl0 = xm_cl0_445 := xm_dr d_0_444
theorem k_0_445 : xm_gi xm_cl0 445 = some xm_el0_445 := xm_gt d_0_445
theorem d_0_446 : List.drop 446 xm_cl0 = xm_cl0_446 := xm_dr d_0_445
theorem k_0_446 : xm_gi xm_cl0 446 = some xm_el0_446 := xm_gt d_0_446
theorem d_0_447 : List.drop 447 xm_cl0 = xm_cl0_447 := xm_dr d_0_446
theorem k_0_447 : xm_gi xm_cl0 447 = some xm_el0_447 := xm_gt d_0_447
theorem d_0_448 : List.drop 448 xm_cl0 = xm_cl0_448 := xm_dr d_0_447
theorem k_0_448 : xm_gi xm_cl0 448 = some xm_el0_448 := xm_gt d_0_448
theorem d_0_449 : List.drop 449 xm_cl0 = xm_cl0_449 := xm_dr d_0_448
theorem k_0_449 : xm_gi xm_cl0 449 = some xm_el0_449 := xm_gt d_0_449
theorem d_0_450 : List.drop 450 xm_cl0 = xm_cl0_450 := xm_dr d_0_449
theorem k_0_450 : xm_gi xm_cl0 450 = some xm_el0_450 := xm_gt d_0_450
theorem d_0_451 : List.drop 451 xm_cl0 = xm_cl0_451 := xm_dr d_0_450
theorem k_0_451 : xm_gi xm_cl0 451 = some xm_el0_451 := xm_gt d_0_451
theorem d_0_452 : List.drop 452 xm_cl0 = xm_cl0_452 := xm_dr d_0_451
theorem k_0_452 : xm_gi xm_cl0 452 = some xm_el0_452 := xm_gt d_0_452
theorem d_0_453 : List.drop 453 xm_cl0 = xm_cl0_453 := xm_dr d_0_452
theorem k_0_453 : xm_gi xm_cl0 453 = some xm_el0_453 := xm_gt d_0_453
theorem d_0_454 : List.drop 454 xm_cl0 = xm_cl0_454 := xm_dr d_0_453
theorem k_0_454 : xm_gi xm_cl0 454 = some xm_el0_454 := xm_gt d_0_454
theorem d_0_455 : List.drop 455 xm_cl0 = xm_cl0_455 := xm_dr d_0_454
theorem k_0_455 : xm_gi xm_cl0 455 = some xm_el0_455 := xm_gt d_0_455
theorem d_0_456 : List.drop 456 xm_cl0 = xm_cl0_456 := xm_dr d_0_455
theorem k_0_456 : xm_gi xm_cl0 456 = some xm_el0_456 := xm_gt d_0_456
theorem d_0_457 : List.drop 457 xm_cl0 = xm_cl0_457 := xm_dr d_0_456
theorem k_0_457 : xm_gi xm_cl0 457 = some xm_el0_457 := xm_gt d_0_457
theorem d_0_458 : List.drop 458 xm_cl0 = xm_cl0_458 := xm_dr d_0_457
theorem k_0_458 : xm_gi xm_cl0 458 = some xm_el0_458 := xm_gt d_0_458
theorem d_0_459 : List.drop 459 xm_cl0 = xm_cl0_459 := xm_dr d_0_458
theorem k_0_459 : xm_gi xm_cl0 459 = some xm_el0_459 := xm_gt d_0_459
theorem d_0_460 : List.drop 460 xm_cl0 = xm_cl0_460 := xm_dr d_0_459
theorem k_0_460 : xm_gi xm_cl0 460 = some xm_el0_460 := xm_gt d_0_460
theorem d_0_461 : List.drop 461 xm_cl0 = xm_cl0_461 := xm_dr d_0_460
theorem k_0_461 : xm_gi xm_cl0 461 = some xm_el0_461 := xm_gt d_0_461
theorem d_0_462 : List.drop 462 xm_cl0 = xm_cl0_462 := xm_dr d_0_461
theorem k_0_462 : xm_gi xm_cl0 462 = some xm_el0_462 := xm_gt d_0_462
theorem d_0_463 : List.drop 463 xm_cl0 = xm_cl0_463 := xm_dr d_0_462
theorem k_0_463 : xm_gi xm_cl0 463 = some xm_el0_463 := xm_gt d_0_463
theorem d_0_464 : List.drop 464 xm_cl0 = xm_cl0_464 := xm_dr d_0_463
theorem k_0_464 : xm_gi xm_cl0 464 = some xm_el0_464 := xm_gt d_0_464
theorem d_0_465 : List.drop 465 xm_cl0 = xm_cl0_465 := xm_dr d_0_464
theorem k_0_465 : xm_gi xm_cl0 465 = some xm_el0_465 := xm_gt d_0_465
theorem d_0_466 : List.drop 466 xm_cl0 = xm_cl0_466 := xm_dr d_0_465
theorem k_0_466 : xm_gi xm_cl0 466 = some xm_el0_466 := xm_gt d_0_466
theorem d_0_467 : List.drop 467 xm_cl0 = xm_cl0_467 := xm_dr d_0_466
theorem k_0_467 : xm_gi xm_cl0 467 = some xm_el0_467 := xm_gt d_0_467
theorem d_0_468 : List.drop 468 xm_cl0 = xm_cl0_468 := xm_dr d_0_467
theorem k_0_468 : xm_gi xm_cl0 468 = some xm_el0_468 := xm_gt d_0_468
theorem d_0_469 : List.drop 469 xm_cl0 = xm_cl0_469 := xm_dr d_0_468
theorem k_0_469 : xm_gi xm_cl0 469 = some xm_el0_469 := xm_gt d_0_469
theorem d_0_470 : List.drop 470 xm_cl0 = xm_cl0_470 := xm_dr d_0_469
theorem k_0_470 : xm_gi xm_cl0 470 = some xm_el0_470 := xm_gt d_0_470
theorem d_0_471 : List.drop 471 xm_cl0 = xm_cl0_471 := xm_dr d_0_470
theorem k_0_471 : xm_gi xm_cl0 471 = some xm_el0_471 := xm_gt d_0_471
theorem d_0_472 : List.drop 472 xm_cl0 = xm_cl0_472 := xm_dr d_0_471
theorem k_0_472 : xm_gi xm_cl0 472 = some xm_el0_472 := xm_gt d_0_472
theorem d_0_473 : List.drop 473 xm_cl0 = xm_cl0_473 := xm_dr d_0_472
theorem k_0_473 : xm_gi xm_cl0 473 = some xm_el0_473 := xm_gt d_0_473
theorem d_0_474 : List.drop 474 xm_cl0 = xm_cl0_474 := xm_dr d_0_473
theorem k_0_474 : xm_gi xm_cl0 474 = some xm_el0_474 := xm_gt d_0_474
theorem d_0_475 : List.drop 475 xm_cl0 = xm_cl0_475 := xm_dr d_0_474
theorem k_0_475 : xm_gi xm_cl0 475 = some xm_el0_475 := xm_gt d_0_475
theorem d_0_476 : List.drop 476 xm_cl0 = xm_cl0_476 := xm_dr d_0_475
theorem k_0_476 : xm_gi xm_cl0 476 = some xm_el0_476 := xm_gt d_0_476
theorem d_0_477 : List.drop 477 xm_cl0 = xm_cl0_477 := xm_dr d_0_476
theorem k_0_477 : xm_gi xm_cl0 477 = some xm_el0_477 := xm_gt d_0_477
theorem d_0_478 : List.drop 478 xm_cl0 = xm_cl0_478 := xm_dr d_0_477
theorem k_0_478 : xm_gi xm_cl0 478 = some xm_el0_478 := xm_gt d_0_478
theorem d_0_479 : List.drop 479 xm_cl0 = xm_cl0_479 := xm_dr d_0_478
theorem k_0_479 : xm_gi xm_cl0 479 = some xm_el0_479 := xm_gt d_0_479
theorem d_0_480 : List.drop 480 xm_cl0 = xm_cl0_480 := xm_dr d_0_479
theorem k_0_480 : xm_gi xm_cl0 480 = some xm_el0_480 := xm_gt d_0_480
theorem d_0_481 : List.drop 481 xm_cl0 = xm_cl0_481 := xm_dr d_0_480
theorem k_0_481 : xm_gi xm_cl0 481 = some xm_el0_481 := xm_gt d_0_481
theorem d_0_482 : List.drop 482 xm_cl0 = xm_cl0_482 := xm_dr d_0_481
theorem k_0_482 : xm_gi xm_cl0 482 = some xm_el0_482 := xm_gt d_0_482
theorem d_0_483 : List.drop 483 xm_cl0 = xm_cl0_483 := xm_dr d_0_482
theorem k_0_483 : xm_gi xm_cl0 483 = some xm_el0_483 := xm_gt d_0_483
theorem d_0_484 : List.drop 484 xm_cl0 = xm_cl0_484 := xm_dr d_0_483
theorem k_0_484 : xm_gi xm_cl0 484 = some xm_el0_484 := xm_gt d_0_484
theorem d_0_485 : List.drop 485 xm_cl0 = xm_cl0_485 := xm_dr d_0_484
theorem k_0_485 : xm_gi xm_cl0 485 = some xm_el0_485 := xm_gt d_0_485
theorem d_0_486 : List.drop 486 xm_cl0 = xm_cl0_486 := xm_dr d_0_485
theorem k_0_486 : xm_gi xm_cl0 486 = some xm_el0_486 := xm_gt d_0_486
theorem d_0_487 : List.drop 487 xm_cl0 = xm_cl0_487 := xm_dr d_0_486
theorem k_0_487 : xm_gi xm_cl0 487 = some xm_el0_487 := xm_gt d_0_487
theorem d_0_488 : List.drop 488 xm_cl0 = xm_cl0_488 := xm_dr d_0_487
theorem k_0_488 : xm_gi xm_cl0 488 = some xm_el0_488 := xm_gt d_0_488
theorem d_0_489 : List.drop 489 xm_cl0 = xm_cl0_489 := xm_dr d_0_488
theorem k_0_489 : xm_gi xm_cl0 489 = some xm_el0_489 := xm_gt d_0_489
theorem d_0_490 : List.drop 490 xm_cl0 = xm_cl0_490 := xm_dr d_0_489
theorem k_0_490 : xm_gi xm_cl0 490 = some xm_el0_490 := xm_gt d_0_490
theorem d_0_491 : List.drop 491 xm_cl0 = xm_cl0_491 := xm_dr d_0_490
theorem k_0_491 : xm_gi xm_cl0 491 = some xm_el0_491 := xm_gt d_0_491
theorem d_0_492 : List.drop 492 xm_cl0 = xm_cl0_492 := xm_dr d_0_491
theorem k_0_492 : xm_gi xm_cl0 492 = some xm_el0_492 := xm_gt d_0_492
theorem d_0_493 : List.drop 493 xm_cl0 = xm_cl0_493 := xm_dr d_0_492
theorem k_0_493 : xm_gi xm_cl0 493 = some xm_el0_493 := xm_gt d_0_493
theorem d_0_494 : List.drop 494 xm_cl0 = xm_cl0_494 := xm_dr d_0_493
theorem k_0_494 : xm_gi xm_cl0 494 = some xm_el0_494 := xm_gt d_0_494
theorem d_0_495 : List.drop 495 xm_cl0 = xm_cl0_495 := xm_dr d_0_494
theorem k_0_495 : xm_gi xm_cl0 495 = some xm_el0_495 := xm_gt d_0_495
theorem d_0_496 : List.drop 496 xm_cl0 = xm_cl0_496 := xm_dr d_0_495
theorem k_0_496 : xm_gi xm_cl0 496 = some xm_el0_496 := xm_gt d_0_496
theorem d_0_497 : List.drop 497 xm_cl0 = xm_cl0_497 := xm_dr d_0_496
theorem k_0_497 : xm_gi xm_cl0 497 = some xm_el0_497 := xm_gt d_0_497
theorem d_0_498 : List.drop 498 xm_cl0 = xm_cl0_498 := xm_dr d_0_497
theorem k_0_498 : xm_gi xm_cl0 498 = some xm_el0_498 := xm_gt d_0_498
theorem d_0_499 : List.drop 499 xm_cl0 = xm_cl0_499 := xm_dr d_0_498
theorem k_0_499 : xm_gi xm_cl0 499 = some xm_el0_499 := xm_gt d_0_499
theorem d_0_500 : List.drop 500 xm_cl0 = xm_cl0_500 := xm_dr d_0_499
theorem k_0_500 : xm_gi xm_cl0 500 = some xm_el0_500 := xm_gt d_0_500
theorem d_0_501 : List.drop 501 xm_cl0 = xm_cl0_501 := xm_dr d_0_500
theorem k_0_501 : xm_gi xm_cl0 501 = some xm_el0_501 := xm_gt d_0_501
theorem d_0_502 : List.drop 502 xm_cl0 = xm_cl0_502 := xm_dr d_0_501
theorem k_0_502 : xm_gi xm_cl0 502 = some xm_el0_502 := xm_gt d_0_502
theorem d_0_503 : List.drop 503 xm_cl0 = xm_cl0_503 := xm_dr d_0_502
theorem k_0_503 : xm_gi xm_cl0 503 = some xm_el0_503 := xm_gt d_0_503
theorem d_0_504 : List.drop 504 xm_cl0 = xm_cl0_504 := xm_dr d_0_503
theorem k_0_504 : xm_gi xm_cl0 504 = some xm_el0_504 := xm_gt d_0_504
theorem d_0_505 : List.drop 505 xm_cl0 = xm_cl0_505 := xm_dr d_0_504
theorem k_0_505 : xm_gi xm_cl0 505 = some xm_el0_505 := xm_gt d_0_505
theorem d_0_506 : List.drop 506 xm_cl0 = xm_cl0_506 := xm_dr d_0_505
theorem k_0_506 : xm_gi xm_cl0 506 = some xm_el0_506 := xm_gt d_0_506
theorem d_0_507 : List.drop 507 xm_cl0 = xm_cl0_507 := xm_dr d_0_506
theorem k_0_507 : xm_gi xm_cl0 507 = some xm_el0_507 := xm_gt d_0_507
theorem d_0_508 : List.drop 508 xm_cl0 = xm_cl0_508 := xm_dr d_0_507
theorem k_0_508 : xm_gi xm_cl0 508 = some xm_el0_508 := xm_gt d_0_508
theorem d_0_509 : List.drop 509 xm_cl0 = xm_cl0_509 := xm_dr d_0_508
theorem k_0_509 : xm_gi xm_cl0 509 = some xm_el0_509 := xm_gt d_0_509
theorem d_0_510 : List.drop 510 xm_cl0 = xm_cl0_510 := xm_dr d_0_509
theorem k_0_510 : xm_gi xm_cl0 510 = some xm_el0_510 := xm_gt d_0_510
theorem d_0_511 : List.drop 511 xm_cl0 = xm_cl0_511 := xm_dr d_0_510
theorem k_0_511 : xm_gi xm_cl0 511 = some xm_el0_511 := xm_gt d_0_511
theorem d_0_512 : List.drop 512 xm_cl0 = xm_cl0_512 := xm_dr d_0_511
theorem k_0_512 : xm_gi xm_cl0 512 = some xm_el0_512 := xm_gt d_0_512
theorem d_0_513 : List.drop 513 xm_cl0 = xm_cl0_513 := xm_dr d_0_512
theorem k_0_513 : xm_gi xm_cl0 513 = some xm_el0_513 := xm_gt d_0_513
theorem d_0_514 : List.drop 514 xm_cl0 = xm_cl0_514 := xm_dr d_0_513
theorem k_0_514 : xm_gi xm_cl0 514 = some xm_el0_514 := xm_gt d_0_514
theorem d_0_515 : List.drop 515 xm_cl0 = xm_cl0_515 := xm_dr d_0_514
theorem k_0_515 : xm_gi xm_cl0 515 = some xm_el0_515 := xm_gt d_0_515
theorem d_0_516 : List.drop 516 xm_cl0 = xm_cl0_516 := xm_dr d_0_515
theorem k_0_516 : xm_gi xm_cl0 516 = some xm_el0_516 := xm_gt d_0_516
theorem d_0_517 : List.drop 517 xm_cl0 = xm_cl0_517 := xm_dr d_0_516
theorem k_0_517 : xm_gi xm_cl0 517 = some xm_el0_517 := xm_gt d_0_517
theorem d_0_518 : List.drop 518 xm_cl0 = xm_cl0_518 := xm_dr d_0_517
theorem k_0_518 : xm_gi xm_cl0 518 = some xm_el0_518 := xm_gt d_0_518
theorem d_0_519 : List.drop 519 xm_cl0 = xm_cl0_519 := xm_dr d_0_518
theorem k_0_519 : xm_gi xm_cl0 519 = some xm_el0_519 := xm_gt d_0_519
theorem d_0_520 : List.drop 520 xm_cl0 = xm_cl0_520 := xm_dr d_0_519
theorem k_0_520 : xm_gi xm_cl0 520 = some xm_el0_520 := xm_gt d_0_520
theorem d_0_521 : List.drop 521 xm_cl0 = xm_cl0_521 := xm_dr d_0_520
theorem k_0_521 : xm_gi xm_cl0 521 = some xm_el0_521 := xm_gt d_0_521
theorem d_0_522 : List.drop 522 xm_cl0 = xm_cl0_522 := xm_dr d_0_521
theorem k_0_522 : xm_gi xm_cl0 522 = some xm_el0_522 := xm_gt d_0_522
theorem d_0_523 : List.drop 523 xm_cl0 = xm_cl0_523 := xm_dr d_0_522
theorem k_0_523 : xm_gi xm_cl0 523 = some xm_el0_523 := xm_gt d_0_523
theorem d_0_524 : List.drop 524 xm_cl0 = xm_cl0_524 := xm_dr d_0_523
theorem k_0_524 : xm_gi xm_cl0 524 = some xm_el0_524 := xm_gt d_0_524
theorem d_0_525 : List.drop 525 xm_cl0 = xm_cl0_525 := xm_dr d_0_524
theorem k_0_525 : xm_gi xm_cl0 525 = some xm_el0_525 := xm_gt d_0_525
theorem d_0_526 : List.drop 526 xm_cl0 = xm_cl0_526 := xm_dr d_0_525
theorem k_0_526 : xm_gi xm_cl0 526 = some xm_el0_526 := xm_gt d_0_526
theorem d_0_527 : List.drop 527 xm_cl0 = xm_cl0_527 := xm_dr d_0_526
theorem k_0_527 : xm_gi xm_cl0 527 = some xm_el0_527 := xm_gt d_0_527
theorem d_0_528 : List.drop 528 xm_cl0 = xm_cl0_528 := xm_dr d_0_527
theorem k_0_528 : xm_gi xm_cl0 528 = some xm_el0_528 := xm_gt d_0_528
theorem d_0_529 : List.drop 529 xm_cl0 = xm_cl0_529 := xm_dr d_0_528
theorem k_0_529 : xm_gi xm_cl0 529 = some xm_el0_529 := xm_gt d_0_529
theorem d_0_530 : List.drop 530 xm_cl0 = xm_cl0_530 := xm_dr d_0_529
theorem k_0_530 : xm_gi xm_cl0 530 = some xm_el0_530 := xm_gt d_0_530
theorem d_0_531 : List.drop 531 xm_cl0 = xm_cl0_531 := xm_dr d_0_530
theorem k_0_531 : xm_gi xm_cl0 531 = some xm_el0_531 := xm_gt d_0_531
theorem d_0_532 : List.drop 532 xm_cl0 = xm_cl0_532 := xm_dr d_0_531
theorem k_0_532 : xm_gi xm_cl0 532 = some xm_el0_532 := xm_gt d_0_532
theorem d_0_533 : List.drop 533 xm_cl0 = xm_cl0_533 := xm_dr d_0_532
theorem k_0_533 : xm_gi xm_cl0 533 = some xm_el0_533 := xm_gt d_0_533
theorem d_0_534 : List.drop 534 xm_cl0 = xm_cl0_534 := xm_dr d_0_533
theorem k_0_534 : xm_gi xm_cl0 534 = some xm_el0_534 := xm_gt d_0_534
theorem d_0_535 : List.drop 535 xm_cl0 = xm_cl0_535 := xm_dr d_0_534
theorem k_0_535 : xm_gi xm_cl0 535 = some xm_el0_535 := xm_gt d_0_535
theorem d_0_536 : List.drop 536 xm_cl0 = xm_cl0_536 := xm_dr d_0_535
theorem k_0_536 : xm_gi xm_cl0 536 = some xm_el0_536 := xm_gt d_0_536
theorem d_0_537 : List.drop 537 xm_cl0 = xm_cl0_537 := xm_dr d_0_536
theorem k_0_537 : xm_gi xm_cl0 537 = some xm_el0_537 := xm_gt d_0_537
theorem d_0_538 : List.drop 538 xm_cl0 = xm_cl0_538 := xm_dr d_0_537
theorem k_0_538 : xm_gi xm_cl0 538 = some xm_el0_538 := xm_gt d_0_538
theorem d_0_539 : List.drop 539 xm_cl0 = xm_cl0_539 := xm_dr d_0_538
theorem k_0_539 : xm_gi xm_cl0 539 = some xm_el0_539 := xm_gt d_0_539
theorem d_0_540 : List.drop 540 xm_cl0 = xm_cl0_540 := xm_dr d_0_539
theorem k_0_540 : xm_gi xm_cl0 540 = some xm_el0_540 := xm_gt d_0_540
theorem d_0_541 : List.drop 541 xm_cl0 = xm_cl0_541 := xm_dr d_0_540
theorem k_0_541 : xm_gi xm_cl0 541 = some xm_el0_541 := xm_gt d_0_541
theorem d_0_542 : List.drop 542 xm_cl0 = xm_cl0_542 := xm_dr d_0_541
theorem k_0_542 : xm_gi xm_cl0 542 = some xm_el0_542 := xm_gt d_0_542
theorem d_0_543 : List.drop 543 xm_cl0 = xm_cl0_543 := xm_dr d_0_542
theorem k_0_543 : xm_gi xm_cl0 543 = some xm_el0_543 := xm_gt d_0_543
theorem d_0_544 : List.drop 544 xm_cl0 = xm_cl0_544 := xm_dr d_0_543
theorem k_0_544 : xm_gi xm_cl0 544 = some xm_el0_544 := xm_gt d_0_544
theorem d_0_545 : List.drop 545 xm_cl0 = xm_cl0_545 := xm_dr d_0_544
theorem k_0_545 : xm_gi xm_cl0 545 = some xm_el0_545 := xm_gt d_0_545
theorem d_0_546 : List.drop 546 xm_cl0 = xm_cl0_546 := xm_dr d_0_545
theorem k_0_546 : xm_gi xm_cl0 546 = some xm_el0_546 := xm_gt d_0_546
theorem d_0_547 : List.drop 547 xm_cl0 = xm_cl0_547 := xm_dr d_0_546
theorem k_0_547 : xm_gi xm_cl0 547 = some xm_el0_547 := xm_gt d_0_547
theorem d_0_548 : List.drop 548 xm_cl0 = xm_cl0_548 := xm_dr d_0_547
theorem k_0_548 : xm_gi xm_cl0 548 = some xm_el0_548 := xm_gt d_0_548
theorem d_0_549 : List.drop 549 xm_cl0 = xm_cl0_549 := xm_dr d_0_548
theorem k_0_549 : xm_gi xm_cl0 549 = some xm_el0_549 := xm_gt d_0_549
theorem d_0_550 : List.drop 550 xm_cl0 = xm_cl0_550 := xm_dr d_0_549
theorem k_0_550 : xm_gi xm_cl0 550 = some xm_el0_550 := xm_gt d_0_550
theorem d_0_551 : List.drop 551 xm_cl0 = xm_cl0_551 := xm_dr d_0_550
theorem k_0_551 : xm_gi xm_cl0 551 = some xm_el0_551 := xm_gt d_0_551
theorem d_0_552 : List.drop 552 xm_cl0 = xm_cl0_552 := xm_dr d_0_551
theorem k_0_552 : xm_gi xm_cl0 552 = some xm_el0_552 := xm_gt d_0_552
theorem d_0_553 : List.drop 553 xm_cl0 = xm_cl0_553 := xm_dr d_0_552
theorem k_0_553 : xm_gi xm_cl0 553 = some xm_el0_553 := xm_gt d_0_553
theorem d_0_554 : List.drop 554 xm_cl0 = xm_cl0_554 := xm_dr d_0_553
theorem k_0_554 : xm_gi xm_cl0 554 = some xm_el0_554 := xm_gt d_0_554
theorem d_0_555 : List.drop 555 xm_cl0 = xm_cl0_555 := xm_dr d_0_554
theorem k_0_555 : xm_gi xm_cl0 555 = some xm_el0_555 := xm_gt d_0_555
theorem d_0_556 : List.drop 556 xm_cl0 = xm_cl0_556 := xm_dr d_0_555
theorem k_0_556 : xm_gi xm_cl0 556 = some xm_el0_556 := xm_gt d_0_556
theorem d_0_557 : List.drop 557 xm_cl0 = xm_cl0_557 := xm_dr d_0_556
theorem k_0_557 : xm_gi xm_cl0 557 = some xm_el0_557 := xm_gt d_0_557
theorem d_0_558 : List.drop 558 xm_cl0 = xm_cl0_558 := xm_dr d_0_557
theorem k_0_558 : xm_gi xm_cl0 558 = some xm_el0_558 := xm_gt d_0_558
theorem d_0_559 : List.drop 559 xm_cl0 = xm_cl0_559 := xm_dr d_0_558
theorem k_0_559 : xm_gi xm_cl0 559 = some xm_el0_559 := xm_gt d_0_559
theorem d_0_560 : List.drop 560 xm_cl0 = xm_cl0_560 := xm_dr d_0_559
theorem k_0_560 : xm_gi xm_cl0 560 = some xm_el0_560 := xm_gt d_0_560
theorem d_0_561 : List.drop 561 xm_cl0 = xm_cl0_561 := xm_dr d_0_560
theorem k_0_561 : xm_gi xm_cl0 561 = some xm_el0_561 := xm_gt d_0_561
theorem d_0_562 : List.drop 562 xm_cl0 = xm_cl0_562 := xm_dr d_0_561
theorem k_0_562 : xm_gi xm_cl0 562 = some xm_el0_562 := xm_gt d_0_562
theorem d_0_563 : List.drop 563 xm_cl0 = xm_cl0_563 := xm_dr d_0_562
theorem k_0_563 : xm_gi xm_cl0 563 = some xm_el0_563 := xm_gt d_0_563
theorem d_0_564 : List.drop 564 xm_cl0 = xm_cl0_564 := xm_dr d_0_563
theorem k_0_564 : xm_gi xm_cl0 564 = some xm_el0_564 := xm_gt d_0_564
theorem d_0_565 : List.drop 565 xm_cl0 = xm_cl0_565 := xm_dr d_0_564
theorem k_0_565 : xm_gi xm_cl0 565 = some xm_el0_565 := xm_gt d_0_565
theorem d_0_566 : List.drop 566 xm_cl0 = xm_cl0_566 := xm_dr d_0_565
theorem k_0_566 : xm_gi xm_cl0 566 = some xm_el0_566 := xm_gt d_0_566
theorem d_0_567 : List.drop 567 xm_cl0 = xm_cl0_567 := xm_dr d_0_566
theorem k_0_567 : xm_gi xm_cl0 567 = some xm_el0_567 := xm_gt d_0_567
theorem d_0_568 : List.drop 568 xm_cl0 = xm_cl0_568 := xm_dr d_0_567
theorem k_0_568 : xm_gi xm_cl0 568 = some xm_el0_568 := xm_gt d_0_568
theorem d_0_569 : List.drop 569 xm_cl0 = xm_cl0_569 := xm_dr d_0_568
theorem k_0_569 : xm_gi xm_cl0 569 = some xm_el0_569 := xm_gt d_0_569
theorem d_0_570 : List.drop 570 xm_cl0 = xm_cl0_570 := xm_dr d_0_569
theorem k_0_570 : xm_gi xm_cl0 570 = some xm_el0_570 := xm_gt d_0_570
theorem d_0_571 : List.drop 571 xm_cl0 = xm_cl0_571 := xm_dr d_0_570
theorem k_0_571 : xm_gi xm_cl0 571 = some xm_el0_571 := xm_gt d_0_571
theorem d_0_572 : List.drop 572 xm_cl0 = xm_cl0_572 := xm_dr d_0_571
theorem k_0_572 : xm_gi xm_cl0 572 = some xm_el0_572 := xm_gt d_0_572
theorem d_0_573 : List.drop 573 xm_cl0 = xm_cl0_573 := xm_dr d_0_572
theorem k_0_573 : xm_gi xm_cl0 573 = some xm_el0_573 := xm_gt d_0_573
theorem d_0_574 : List.drop 574 xm_cl0 = xm_cl0_574 := xm_dr d_0_573
theorem k_0_574 : xm_gi xm_cl0 574 = some xm_el0_574 := xm_gt d_0_574
theorem d_0_575 : List.drop 575 xm_cl0 = xm_cl0_575 := xm_dr d_0_574
theorem k_0_575 : xm_gi xm_cl0 575 = some xm_el0_575 := xm_gt d_0_575
theorem d_0_576 : List.drop 576 xm_cl0 = xm_cl0_576 := xm_dr d_0_575
theorem k_0_576 : xm_gi xm_cl0 576 = some xm_el0_576 := xm_gt d_0_576
theorem d_0_577 : List.drop 577 xm_cl0 = xm_cl0_577 := xm_dr d_0_576
theorem k_0_577 : xm_gi xm_cl0 577 = some xm_el0_577 := xm_gt d_0_577
theorem d_0_578 : List.drop 578 xm_cl0 = xm_cl0_578 := xm_dr d_0_577
theorem k_0_578 : xm_gi xm_cl0 578 = some xm_el0_578 := xm_gt d_0_578
theorem d_0_579 : List.drop 579 xm_cl0 = xm_cl0_579 := xm_dr d_0_578
theorem k_0_579 : xm_gi xm_cl0 579 = some xm_el0_579 := xm_gt d_0_579
theorem d_0_580 : List.drop 580 xm_cl0 = xm_cl0_580 := xm_dr d_0_579
theorem k_0_580 : xm_gi xm_cl0 580 = some xm_el0_580 := xm_gt d_0_580
theorem d_0_581 : List.drop 581 xm_cl0 = xm_cl0_581 := xm_dr d_0_580
theorem k_0_581 : xm_gi xm_cl0 581 = some xm_el0_581 := xm_gt d_0_581
theorem d_0_582 : List.drop 582 xm_cl0 = xm_cl0_582 := xm_dr d_0_581
theorem k_0_582 : xm_gi xm_cl0 582 = some xm_el0_582 := xm_gt d_0_582
theorem d_0_583 : List.drop 583 xm_cl0 = xm_cl0_583 := xm_dr d_0_582
theorem k_0_583 : xm_gi xm_cl0 583 = some xm_el0_583 := xm_gt d_0_583
theorem d_0_584 : List.drop 584 xm_cl0 = xm_cl0_584 := xm_dr d_0_583
theorem k_0_584 : xm_gi xm_cl0 584 = some xm_el0_584 := xm_gt d_0_584
theorem d_0_585 : List.drop 585 xm_cl0 = xm_cl0_585 := xm_dr d_0_584
theorem k_0_585 : xm_gi xm_cl0 585 = some xm_el0_585 := xm_gt d_0_585
theorem d_0_586 : List.drop 586 xm_cl0 = xm_cl0_586 := xm_dr d_0_585
theorem k_0_586 : xm_gi xm_cl0 586 = some xm_el0_586 := xm_gt d_0_586
theorem d_0_587 : List.drop 587 xm_cl0 = xm_cl0_587 := xm_dr d_0_586
theorem k_0_587 : xm_gi xm_cl0 587 = some xm_el0_587 := xm_gt d_0_587
theorem d_0_588 : List.drop 588 xm_cl0 = xm_cl0_588 := xm_dr d_0_587
theorem k_0_588 : xm_gi xm_cl0 588 = some xm_el0_588 := xm_gt d_0_588
theorem d_0_589 : List.drop 589 xm_cl0 = xm_cl0_589 := xm_dr d_0_588
theorem k_0_589 : xm_gi xm_cl0 589 = some xm_el0_589 := xm_gt d_0_589
theorem d_0_590 : List.drop 590 xm_cl0 = xm_cl0_590 := xm_dr d_0_589
theorem k_0_590 : xm_gi xm_cl0 590 = some xm_el0_590 := xm_gt d_0_590
theorem d_0_591 : List.drop 591 xm_cl0 = xm_cl0_591 := xm_dr d_0_590
theorem k_0_591 : xm_gi xm_cl0 591 = some xm_el0_591 := xm_gt d_0_591
theorem d_0_592 : List.drop 592 xm_cl0 = xm_cl0_592 := xm_dr d_0_591
theorem k_0_592 : xm_gi xm_cl0 592 = some xm_el0_592 := xm_gt d_0_592
theorem d_0_593 : List.drop 593 xm_cl0 = xm_cl0_593 := xm_dr d_0_592
theorem k_0_593 : xm_gi xm_cl0 593 = some xm_el0_593 := xm_gt d_0_593
theorem d_0_594 : List.drop 594 xm_cl0 = xm_cl0_594 := xm_dr d_0_593
theorem k_0_594 : xm_gi xm_cl0 594 = some xm_el0_594 := xm_gt d_0_594
theorem d_0_595 : List.drop 595 xm_cl0 = xm_cl0_595 := xm_dr d_0_594
theorem k_0_595 : xm_gi xm_cl0 595 = some xm_el0_595 := xm_gt d_0_595
theorem d_0_596 : List.drop 596 xm_cl0 = xm_cl0_596 := xm_dr d_0_595
theorem k_0_596 : xm_gi xm_cl0 596 = some xm_el0_596 := xm_gt d_0_596
theorem d_0_597 : List.drop 597 xm_cl0 = xm_cl0_597 := xm_dr d_0_596
theorem k_0_597 : xm_gi xm_cl0 597 = some xm_el0_597 := xm_gt d_0_597
theorem d_0_598 : List.drop 598 xm_cl0 = xm_cl0_598 := xm_dr d_0_597
theorem k_0_598 : xm_gi xm_cl0 598 = some xm_el0_598 := xm_gt d_0_598
theorem d_0_599 : List.drop 599 xm_cl0 = xm_cl0_599 := xm_dr d_0_598
theorem k_0_599 : xm_gi xm_cl0 599 = some xm_el0_599 := xm_gt d_0_599
theorem d_0_600 : List.drop 600 xm_cl0 = xm_cl0_600 := xm_dr d_0_599
theorem k_0_600 : xm_gi xm_cl0 600 = some xm_el0_600 := xm_gt d_0_600
theorem d_0_601 : List.drop 601 xm_cl0 = xm_cl0_601 := xm_dr d_0_600
theorem k_0_601 : xm_gi xm_cl0 601 = some xm_el0_601 := xm_gt d_0_601
theorem d_0_602 : List.drop 602 xm_cl0 = xm_cl0_602 := xm_dr d_0_601
theorem k_0_602 : xm_gi xm_cl0 602 = some xm_el0_602 := xm_gt d_0_602
theorem d_0_603 : List.drop 603 xm_cl0 = xm_cl0_603 := xm_dr d_0_602
theorem k_0_603 : xm_gi xm_cl0 603 = some xm_el0_603 := xm_gt d_0_603
theorem d_0_604 : List.drop 604 xm_cl0 = xm_cl0_604 := xm_dr d_0_603
theorem k_0_604 : xm_gi xm_cl0 604 = some xm_el0_604 := xm_gt d_0_604
theorem d_0_605 : List.drop 605 xm_cl0 = xm_cl0_605 := xm_dr d_0_604
theorem k_0_605 : xm_gi xm_cl0 605 = some xm_el0_605 := xm_gt d_0_605
theorem d_0_606 : List.drop 606 xm_cl0 = xm_cl0_606 := xm_dr d_0_605
theorem k_0_606 : xm_gi xm_cl0 606 = some xm_el0_606 := xm_gt d_0_606
theorem d_0_607 : List.drop 607 xm_cl0 = xm_cl0_607 := xm_dr d_0_606
theorem k_0_607 : xm_gi xm_cl0 607 = some xm_el0_607 := xm_gt d_0_607
theorem d_0_608 : List.drop 608 xm_cl0 = xm_cl0_608 := xm_dr d_0_607
theorem k_0_608 : xm_gi xm_cl0 608 = some xm_el0_608 := xm_gt d_0_608
theorem d_0_609 : List.drop 609 xm_cl0 = xm_cl0_609 := xm_dr d_0_608
theorem k_0_609 : xm_gi xm_cl0 609 = some xm_el0_609 := xm_gt d_0_609
theorem d_0_610 : List.drop 610 xm_cl0 = xm_cl0_610 := xm_dr d_0_609
theorem k_0_610 : xm_gi xm_cl0 610 = some xm_el0_610 := xm_gt d_0_610
theorem d_0_611 : List.drop 611 xm_cl0 = xm_cl0_611 := xm_dr d_0_610
theorem k_0_611 : xm_gi xm_cl0 611 = some xm_el0_611 := xm_gt d_0_611
theorem d_0_612 : List.drop 612 xm_cl0 = xm_cl0_612 := xm_dr d_0_611
theorem k_0_612 : xm_gi xm_cl0 612 = some xm_el0_612 := xm_gt d_0_612
theorem d_0_613 : List.drop 613 xm_cl0 = xm_cl0_613 := xm_dr d_0_612
theorem k_0_613 : xm_gi xm_cl0 613 = some xm_el0_613 := xm_gt d_0_613
theorem d_0_614 : List.drop 614 xm_cl0 = xm_cl0_614 := xm_dr d_0_613
theorem k_0_614 : xm_gi xm_cl0 614 = some xm_el0_614 := xm_gt d_0_614
theorem d_0_615 : List.drop 615 xm_cl0 = xm_cl0_615 := xm_dr d_0_614
theorem k_0_615 : xm_gi xm_cl0 615 = some xm_el0_615 := xm_gt d_0_615
theorem d_0_616 : List.drop 616 xm_cl0 = xm_cl0_616 := xm_dr d_0_615
theorem k_0_616 : xm_gi xm_cl0 616 = some xm_el0_616 := xm_gt d_0_616
theorem d_0_617 : List.drop 617 xm_cl0 = xm_cl0_617 := xm_dr d_0_616
theorem k_0_617 : xm_gi xm_cl0 617 = some xm_el0_617 := xm_gt d_0_617
theorem d_0_618 : List.drop 618 xm_cl0 = xm_cl0_618 := xm_dr d_0_617
theorem k_0_618 : xm_gi xm_cl0 618 = some xm_el0_618 := xm_gt d_0_618
theorem d_0_619 : List.drop 619 xm_cl0 = xm_cl0_619 := xm_dr d_0_618
theorem k_0_619 : xm_gi xm_cl0 619 = some xm_el0_619 := xm_gt d_0_619
theorem d_0_620 : List.drop 620 xm_cl0 = xm_cl0_620 := xm_dr d_0_619
theorem k_0_620 : xm_gi xm_cl0 620 = some xm_el0_620 := xm_gt d_0_620
theorem d_0_621 : List.drop 621 xm_cl0 = xm_cl0_621 := xm_dr d_0_620
theorem k_0_621 : xm_gi xm_cl0 621 = some xm_el0_621 := xm_gt d_0_621
theorem d_0_622 : List.drop 622 xm_cl0 = xm_cl0_622 := xm_dr d_0_621
theorem k_0_622 : xm_gi xm_cl0 622 = some xm_el0_622 := xm_gt d_0_622
theorem d_0_623 : List.drop 623 xm_cl0 = xm_cl0_623 := xm_dr d_0_622
theorem k_0_623 : xm_gi xm_cl0 623 = some xm_el0_623 := xm_gt d_0_623
theorem d_0_624 : List.drop 624 xm_cl0 = xm_cl0_624 := xm_dr d_0_623
theorem k_0_624 : xm_gi xm_cl0 624 = some xm_el0_624 := xm_gt d_0_624
theorem d_0_625 : List.drop 625 xm_cl0 = xm_cl0_625 := xm_dr d_0_624
theorem k_0_625 : xm_gi xm_cl0 625 = some xm_el0_625 := xm_gt d_0_625
theorem d_0_626 : List.drop 626 xm_cl0 = xm_cl0_626 := xm_dr d_0_625
theorem k_0_626 : xm_gi xm_cl0 626 = some xm_el0_626 := xm_gt d_0_626
theorem d_0_627 : List.drop 627 xm_cl0 = xm_cl0_627 := xm_dr d_0_626
theorem k_0_627 : xm_gi xm_cl0 627 = some xm_el0_627 := xm_gt d_0_627
theorem d_0_628 : List.drop 628 xm_cl0 = xm_cl0_628 := xm_dr d_0_627
theorem k_0_628 : xm_gi xm_cl0 628 = some xm_el0_628 := xm_gt d_0_628
theorem d_0_629 : List.drop 629 xm_cl0 = xm_cl0_629 := xm_dr d_0_628
theorem k_0_629 : xm_gi xm_cl0 629 = some xm_el0_629 := xm_gt d_0_629
theorem d_0_630 : List.drop 630 xm_cl0 = xm_cl0_630 := xm_dr d_0_629
theorem k_0_630 : xm_gi xm_cl0 630 = some xm_el0_630 := xm_gt d_0_630
theorem d_0_631 : List.drop 631 xm_cl0 = xm_cl0_631 := xm_dr d_0_630
theorem k_0_631 : xm_gi xm_cl0 631 = some xm_el0_631 := xm_gt d_0_631
theorem d_0_632 : List.drop 632 xm_cl0 = xm_cl0_632 := xm_dr d_0_631
theorem k_0_632 : xm_gi xm_cl0 632 = some xm_el0_632 := xm_gt d_0_632
theorem d_0_633 : List.drop 633 xm_cl0 = xm_cl0_633 := xm_dr d_0_632
theorem k_0_633 : xm_gi xm_cl0 633 = some xm_el0_633 := xm_gt d_0_633
theorem d_0_634 : List.drop 634 xm_cl0 = xm_cl0_634 := xm_dr d_0_633
theorem k_0_634 : xm_gi xm_cl0 634 = some xm_el0_634 := xm_gt d_0_634
theorem d_0_635 : List.drop 635 xm_cl0 = xm_cl0_635 := xm_dr d_0_634
theorem k_0_635 : xm_gi xm_cl0 635 = some xm_el0_635 := xm_gt d_0_635
theorem d_0_636 : List.drop 636 xm_cl0 = xm_cl0_636 := xm_dr d_0_635
theorem k_0_636 : xm_gi xm_cl0 636 = some xm_el0_636 := xm_gt d_0_636
theorem d_0_637 : List.drop 637 xm_cl0 = xm_cl0_637 := xm_dr d_0_636
theorem k_0_637 : xm_gi xm_cl0 637 = some xm_el0_637 := xm_gt d_0_637
theorem d_0_638 : List.drop 638 xm_cl0 = xm_cl0_638 := xm_dr d_0_637
theorem k_0_638 : xm_gi xm_cl0 638 = some xm_el0_638 := xm_gt d_0_638
theorem d_0_639 : List.drop 639 xm_cl0 = xm_cl0_639 := xm_dr d_0_638
theorem k_0_639 : xm_gi xm_cl0 639 = some xm_el0_639 := xm_gt d_0_639
theorem d_0_640 : List.drop 640 xm_cl0 = xm_cl0_640 := xm_dr d_0_639
theorem k_0_640 : xm_gi xm_cl0 640 = some xm_el0_640 := xm_gt d_0_640
theorem d_0_641 : List.drop 641 xm_cl0 = xm_cl0_641 := xm_dr d_0_640
theorem k_0_641 : xm_gi xm_cl0 641 = some xm_el0_641 := xm_gt d_0_641
theorem d_0_642 : List.drop 642 xm_cl0 = xm_cl0_642 := xm_dr d_0_641
theorem k_0_642 : xm_gi xm_cl0 642 = some xm_el0_642 := xm_gt d_0_642
theorem d_0_643 : List.drop 643 xm_cl0 = xm_cl0_643 := xm_dr d_0_642
theorem k_0_643 : xm_gi xm_cl0 643 = some xm_el0_643 := xm_gt d_0_643
theorem d_0_644 : List.drop 644 xm_cl0 = xm_cl0_644 := xm_dr d_0_643
theorem k_0_644 : xm_gi xm_cl0 644 = some xm_el0_644 := xm_gt d_0_644
theorem d_0_645 : List.drop 645 xm_cl0 = xm_cl0_645 := xm_dr d_0_644
theorem k_0_645 : xm_gi xm_cl0 645 = some xm_el0_645 := xm_gt d_0_645
theorem d_0_646 : List.drop 646 xm_cl0 = xm_cl0_646 := xm_dr d_0_645
theorem k_0_646 : xm_gi xm_cl0 646 = some xm_el0_646 := xm_gt d_0_646
theorem d_0_647 : List.drop 647 xm_cl0 = xm_cl0_647 := xm_dr d_0_646
theorem k_0_647 : xm_gi xm_cl0 647 = some xm_el0_647 := xm_gt d_0_647
theorem d_0_648 : List.drop 648 xm_cl0 = xm_cl0_648 := xm_dr d_0_647
theorem k_0_648 : xm_gi xm_cl0 648 = some xm_el0_648 := xm_gt d_0_648
theorem d_0_649 : List.drop 649 xm_cl0 = xm_cl0_649 := xm_dr d_0_648
theorem k_0_649 : xm_gi xm_cl0 649 = some xm_el0_649 := xm_gt d_0_649
theorem d_0_650 : List.drop 650 xm_cl0 = xm_cl0_650 := xm_dr d_0_649
theorem k_0_650 : xm_gi xm_cl0 650 = some xm_el0_650 := xm_gt d_0_650
theorem d_0_651 : List.drop 651 xm_cl0 = xm_cl0_651 := xm_dr d_0_650
theorem k_0_651 : xm_gi xm_cl0 651 = some xm_el0_651 := xm_gt d_0_651
theorem d_0_652 : List.drop 652 xm_cl0 = xm_cl0_652 := xm_dr d_0_651
theorem k_0_652 : xm_gi xm_cl0 652 = some xm_el0_652 := xm_gt d_0_652
theorem d_0_653 : List.drop 653 xm_cl0 = xm_cl0_653 := xm_dr d_0_652
theorem k_0_653 : xm_gi xm_cl0 653 = some xm_el0_653 := xm_gt d_0_653
theorem d_0_654 : List.drop 654 xm_cl0 = xm_cl0_654 := xm_dr d_0_653
theorem k_0_654 : xm_gi xm_cl0 654 = some xm_el0_654 := xm_gt d_0_654
theorem d_0_655 : List.drop 655 xm_cl0 = xm_cl0_655 := xm_dr d_0_654
theorem k_0_655 : xm_gi xm_cl0 655 = some xm_el0_655 := xm_gt d_0_655
theorem d_0_656 : List.drop 656 xm_cl0 = xm_cl0_656 := xm_dr d_0_655
theorem k_0_656 : xm_gi xm_cl0 656 = some xm_el0_656 := xm_gt d_0_656
theorem d_0_657 : List.drop 657 xm_cl0 = xm_cl0_657 := xm_dr d_0_656
theorem k_0_657 : xm_gi xm_cl0 657 = some xm_el0_657 := xm_gt d_0_657
theorem d_0_658 : List.drop 658 xm_cl0 = xm_cl0_658 := xm_dr d_0_657
theorem k_0_658 : xm_gi xm_cl0 658 = some xm_el0_658 := xm_gt d_0_658
theorem d_0_659 : List.drop 659 xm_cl0 = xm_cl0_659 := xm_dr d_0_658
theorem k_0_659 : xm_gi xm_cl0 659 = some xm_el0_659 := xm_gt d_0_659
theorem d_0_660 : List.drop 660 xm_cl0 = xm_cl0_660 := xm_dr d_0_659
theorem k_0_660 : xm_gi xm_cl0 660 = some xm_el0_660 := xm_gt d_0_660
theorem d_0_661 : List.drop 661 xm_cl0 = xm_cl0_661 := xm_dr d_0_660
theorem k_0_661 : xm_gi xm_cl0 661 = some xm_el0_661 := xm_gt d_0_661
theorem d_0_662 : List.drop 662 xm_cl0 = xm_cl0_662 := xm_dr d_0_661
theorem k_0_662 : xm_gi xm_cl0 662 = some xm_el0_662 := xm_gt d_0_662
theorem d_0_663 : List.drop 663 xm_cl0 = xm_cl0_663 := xm_dr d_0_662
theorem k_0_663 : xm_gi xm_cl0 663 = some xm_el0_663 := xm_gt d_0_663
theorem d_0_664 : List.drop 664 xm_cl0 = xm_cl0_664 := xm_dr d_0_663
theorem k_0_664 : xm_gi xm_cl0 664 = some xm_el0_664 := xm_gt d_0_664
theorem d_0_665 : List.drop 665 xm_cl0 = xm_cl0_665 := xm_dr d_0_664
theorem k_0_665 : xm_gi xm_cl0 665 = some xm_el0_665 := xm_gt d_0_665
theorem d_0_666 : List.drop 666 xm_cl0 = xm_cl0_666 := xm_dr d_0_665
theorem k_0_666 : xm_gi xm_cl0 666 = some xm_el0_666 := xm_gt d_0_666
theorem d_0_667 : List.drop 667 xm_cl0 = xm_cl0_667 := xm_dr d_0_666
theorem k_0_667 : xm_gi xm_cl0 667 = some xm_el0_667 := xm_gt d_0_667
theorem d_0_668 : List.drop 668 xm_cl0 = xm_cl0_668 := xm_dr d_0_667
theorem k_0_668 : xm_gi xm_cl0 668 = some xm_el0_668 := xm_gt d_0_668
theorem d_0_669 : List.drop 669 xm_cl0 = xm_cl0_669 := xm_dr d_0_668
theorem k_0_669 : xm_gi xm_cl0 669 = some xm_el0_669 := xm_gt d_0_669
theorem d_0_670 : List.drop 670 xm_cl0 = xm_cl0_670 := xm_dr d_0_669
theorem k_0_670 : xm_gi xm_cl0 670 = some xm_el0_670 := xm_gt d_0_670
theorem d_0_671 : List.drop 671 xm_cl0 = xm_cl0_671 := xm_dr d_0_670
theorem k_0_671 : xm_gi xm_cl0 671 = some xm_el0_671 := xm_gt d_0_671
theorem d_0_672 : List.drop 672 xm_cl0 = xm_cl0_672 := xm_dr d_0_671
theorem k_0_672 : xm_gi xm_cl0 672 = some xm_el0_672 := xm_gt d_0_672
theorem d_0_673 : List.drop 673 xm_cl0 = xm_cl0_673 := xm_dr d_0_672
theorem k_0_673 : xm_gi xm_cl0 673 = some xm_el0_673 := xm_gt d_0_673
theorem d_0_674 : List.drop 674 xm_cl0 = xm_cl0_674 := xm_dr d_0_673
theorem k_0_674 : xm_gi xm_cl0 674 = some xm_el0_674 := xm_gt d_0_674
theorem d_0_675 : List.drop 675 xm_cl0 = xm_cl0_675 := xm_dr d_0_674
theorem k_0_675 : xm_gi xm_cl0 675 = some xm_el0_675 := xm_gt d_0_675
theorem d_0_676 : List.drop 676 xm_cl0 = xm_cl0_676 := xm_dr d_0_675
theorem k_0_676 : xm_gi xm_cl0 676 = some xm_el0_676 := xm_gt d_0_676
theorem d_0_677 : List.drop 677 xm_cl0 = xm_cl0_677 := xm_dr d_0_676
theorem k_0_677 : xm_gi xm_cl0 677 = some xm_el0_677 := xm_gt d_0_677
theorem d_0_678 : List.drop 678 xm_cl0 = xm_cl0_678 := xm_dr d_0_677
theorem k_0_678 : xm_gi xm_cl0 678 = some xm_el0_678 := xm_gt d_0_678
theorem d_0_679 : List.drop 679 xm_cl0 = xm_cl0_679 := xm_dr d_0_678
theorem k_0_679 : xm_gi xm_cl0 679 = some xm_el0_679 := xm_gt d_0_679
theorem d_0_680 : List.drop 680 xm_cl0 = xm_cl0_680 := xm_dr d_0_679
theorem k_0_680 : xm_gi xm_cl0 680 = some xm_el0_680 := xm_gt d_0_680
theorem d_0_681 : List.drop 681 xm_cl0 = xm_cl0_681 := xm_dr d_0_680
theorem k_0_681 : xm_gi xm_cl0 681 = some xm_el0_681 := xm_gt d_0_681
theorem d_0_682 : List.drop 682 xm_cl0 = xm_cl0_682 := xm_dr d_0_681
theorem k_0_682 : xm_gi xm_cl0 682 = some xm_el0_682 := xm_gt d_0_682
theorem d_0_683 : List.drop 683 xm_cl0 = xm_cl0_683 := xm_dr d_0_682
theorem k_0_683 : xm_gi xm_cl0 683 = some xm_el0_683 := xm_gt d_0_683
theorem d_0_684 : List.drop 684 xm_cl0 = xm_cl0_684 := xm_dr d_0_683
theorem k_0_684 : xm_gi xm_cl0 684 = some xm_el0_684 := xm_gt d_0_684
theorem d_0_685 : List.drop 685 xm_cl0 = xm_cl0_685 := xm_dr d_0_684
theorem k_0_685 : xm_gi xm_cl0 685 = some xm_el0_685 := xm_gt d_0_685
theorem d_0_686 : List.drop 686 xm_cl0 = xm_cl0_686 := xm_dr d_0_685
theorem k_0_686 : xm_gi xm_cl0 686 = some xm_el0_686 := xm_gt d_0_686
theorem d_0_687 : List.drop 687 xm_cl0 = xm_cl0_687 := xm_dr d_0_686
theorem k_0_687 : xm_gi xm_cl0 687 = some xm_el0_687 := xm_gt d_0_687
theorem d_0_688 : List.drop 688 xm_cl0 = xm_cl0_688 := xm_dr d_0_687
theorem k_0_688 : xm_gi xm_cl0 688 = some xm_el0_688 := xm_gt d_0_688
theorem d_0_689 : List.drop 689 xm_cl0 = xm_cl0_689 := xm_dr d_0_688
theorem k_0_689 : xm_gi xm_cl0 689 = some xm_el0_689 := xm_gt d_0_689
theorem d_0_690 : List.drop 690 xm_cl0 = xm_cl0_690 := xm_dr d_0_689
theorem k_0_690 : xm_gi xm_cl0 690 = some xm_el0_690 := xm_gt d_0_690
theorem d_0_691 : List.drop 691 xm_cl0 = xm_cl0_691 := xm_dr d_0_690
theorem k_0_691 : xm_gi xm_cl0 691 = some xm_el0_691 := xm_gt d_0_691
theorem d_0_692 : List.drop 692 xm_cl0 = xm_cl0_692 := xm_dr d_0_691
theorem k_0_692 : xm_gi xm_cl0 692 = some xm_el0_692 := xm_gt d_0_692
theorem d_0_693 : List.drop 693 xm_cl0 = xm_cl0_693 := xm_dr d_0_692
theorem k_0_693 : xm_gi xm_cl0 693 = some xm_el0_693 := xm_gt d_0_693
theorem d_0_694 : List.drop 694 xm_cl0 = xm_cl0_694 := xm_dr d_0_693
theorem k_0_694 : xm_gi xm_cl0 694 = some xm_el0_694 := xm_gt d_0_694
theorem d_0_695 : List.drop 695 xm_cl0 = xm_cl0_695 := xm_dr d_0_694
theorem k_0_695 : xm_gi xm_cl0 695 = some xm_el0_695 := xm_gt d_0_695
theorem d_0_696 : List.drop 696 xm_cl0 = xm_cl0_696 := xm_dr d_0_695
theorem k_0_696 : xm_gi xm_cl0 696 = some xm_el0_696 := xm_gt d_0_696
theorem d_0_697 : List.drop 697 xm_cl0 = xm_cl0_697 := xm_dr d_0_696
theorem k_0_697 : xm_gi xm_cl0 697 = some xm_el0_697 := xm_gt d_0_697
theorem d_0_698 : List.drop 698 xm_cl0 = xm_cl0_698 := xm_dr d_0_697
theorem k_0_698 : xm_gi xm_cl0 698 = some xm_el0_698 := xm_gt d_0_698
theorem d_0_699 : List.drop 699 xm_cl0 = xm_cl0_699 := xm_dr d_0_698
theorem k_0_699 : xm_gi xm_cl0 699 = some xm_el0_699 := xm_gt d_0_699
theorem d_0_700 : List.drop 700 xm_cl0 = xm_cl0_700 := xm_dr d_0_699
theorem k_0_700 : xm_gi xm_cl0 700 = some xm_el0_700 := xm_gt d_0_700
theorem d_0_701 : List.drop 701 xm_cl0 = xm_cl0_701 := xm_dr d_0_700
theorem k_0_701 : xm_gi xm_cl0 701 = some xm_el0_701 := xm_gt d_0_701
theorem d_0_702 : List.drop 702 xm_cl0 = xm_cl0_702 := xm_dr d_0_701
theorem k_0_702 : xm_gi xm_cl0 702 = some xm_el0_702 := xm_gt d_0_702
theorem d_0_703 : List.drop 703 xm_cl0 = xm_cl0_703 := xm_dr d_0_702
theorem k_0_703 : xm_gi xm_cl0 703 = some xm_el0_703 := xm_gt d_0_703
theorem d_0_704 : List.drop 704 xm_cl0 = xm_cl0_704 := xm_dr d_0_703
theorem k_0_704 : xm_gi xm_cl0 704 = some xm_el0_704 := xm_gt d_0_704
theorem d_0_705 : List.drop 705 xm_cl0 = xm_cl0_705 := xm_dr d_0_704
theorem k_0_705 : xm_gi xm_cl0 705 = some xm_el0_705 := xm_gt d_0_705
theorem d_0_706 : List.drop 706 xm_cl0 = xm_cl0_706 := xm_dr d_0_705
theorem k_0_706 : xm_gi xm_cl0 706 = some xm_el0_706 := xm_gt d_0_706
theorem d_0_707 : List.drop 707 xm_cl0 = xm_cl0_707 := xm_dr d_0_706
theorem k_0_707 : xm_gi xm_cl0 707 = some xm_el0_707 := xm_gt d_0_707
theorem d_0_708 : List.drop 708 xm_cl0 = xm_cl0_708 := xm_dr d_0_707
theorem k_0_708 : xm_gi xm_cl0 708 = some xm_el0_708 := xm_gt d_0_708
theorem d_0_709 : List.drop 709 xm_cl0 = xm_cl0_709 := xm_dr d_0_708
theorem k_0_709 : xm_gi xm_cl0 709 = some xm_el0_709 := xm_gt d_0_709
theorem d_0_710 : List.drop 710 xm_cl0 = xm_cl0_710 := xm_dr d_0_709
theorem k_0_710 : xm_gi xm_cl0 710 = some xm_el0_710 := xm_gt d_0_710
theorem d_0_711 : List.drop 711 xm_cl0 = xm_cl0_711 := xm_dr d_0_710
theorem k_0_711 : xm_gi xm_cl0 711 = some xm_el0_711 := xm_gt d_0_711
theorem d_0_712 : List.drop 712 xm_cl0 = xm_cl0_712 := xm_dr d_0_711
theorem k_0_712 : xm_gi xm_cl0 712 = some xm_el0_712 := xm_gt d_0_712
theorem d_0_713 : List.drop 713 xm_cl0 = xm_cl0_713 := xm_dr d_0_712
theorem k_0_713 : xm_gi xm_cl0 713 = some xm_el0_713 := xm_gt d_0_713
theorem d_0_714 : List.drop 714 xm_cl0 = xm_cl0_714 := xm_dr d_0_713
theorem k_0_714 : xm_gi xm_cl0 714 = some xm_el0_714 := xm_gt d_0_714
theorem d_0_715 : List.drop 715 xm_cl0 = xm_cl0_715 := xm_dr d_0_714
theorem k_0_715 : xm_gi xm_cl0 715 = some xm_el0_715 := xm_gt d_0_715
theorem d_0_716 : List.drop 716 xm_cl0 = xm_cl0_716 := xm_dr d_0_715
theorem k_0_716 : xm_gi xm_cl0 716 = some xm_el0_716 := xm_gt d_0_716
theorem d_0_717 : List.drop 717 xm_cl0 = xm_cl0_717 := xm_dr d_0_716
theorem k_0_717 : xm_gi xm_cl0 717 = some xm_el0_717 := xm_gt d_0_717
theorem d_0_718 : List.drop 718 xm_cl0 = xm_cl0_718 := xm_dr d_0_717
theorem k_0_718 : xm_gi xm_cl0 718 = some xm_el0_718 := xm_gt d_0_718
theorem d_0_719 : List.drop 719 xm_cl0 = xm_cl0_719 := xm_dr d_0_718
theorem k_0_719 : xm_gi xm_cl0 719 = some xm_el0_719 := xm_gt d_0_719
theorem d_0_720 : List.drop 720 xm_cl0 = xm_cl0_720 := xm_dr d_0_719
theorem k_0_720 : xm_gi xm_cl0 720 = some xm_el0_720 := xm_gt d_0_720
theorem d_0_721 : List.drop 721 xm_cl0 = xm_cl0_721 := xm_dr d_0_720
theorem k_0_721 : xm_gi xm_cl0 721 = some xm_el0_721 := xm_gt d_0_721
theorem d_0_722 : List.drop 722 xm_cl0 = xm_cl0_722 := xm_dr d_0_721
theorem k_0_722 : xm_gi xm_cl0 722 = some xm_el0_722 := xm_gt d_0_722
theorem d_0_723 : List.drop 723 xm_cl0 = xm_cl0_723 := xm_dr d_0_722
theorem k_0_723 : xm_gi xm_cl0 723 = some xm_el0_723 := xm_gt d_0_723
theorem d_0_724 : List.drop 724 xm_cl0 = xm_cl0_724 := xm_dr d_0_723
theorem k_0_724 : xm_gi xm_cl0 724 = some xm_el0_724 := xm_gt d_0_724
theorem d_0_725 : List.drop 725 xm_cl0 = xm_cl0_725 := xm_dr d_0_724
theorem k_0_725 : xm_gi xm_cl0 725 = some xm_el0_725 := xm_gt d_0_725
theorem d_0_726 : List.drop 726 xm_cl0 = xm_cl0_726 := xm_dr d_0_725
theorem k_0_726 : xm_gi xm_cl0 726 = some xm_el0_726 := xm_gt d_0_726
theorem d_0_727 : List.drop 727 xm_cl0 = xm_cl0_727 := xm_dr d_0_726
theorem k_0_727 : xm_gi xm_cl0 727 = some xm_el0_727 := xm_gt d_0_727
theorem d_0_728 : List.drop 728 xm_cl0 = xm_cl0_728 := xm_dr d_0_727
theorem k_0_728 : xm_gi xm_cl0 728 = some xm_el0_728 := xm_gt d_0_728
theorem d_0_729 : List.drop 729 xm_cl0 = xm_cl0_729 := xm_dr d_0_728
theorem k_0_729 : xm_gi xm_cl0 729 = some xm_el0_729 := xm_gt d_0_729
theorem d_0_730 : List.drop 730 xm_cl0 = xm_cl0_730 := xm_dr d_0_729
theorem k_0_730 : xm_gi xm_cl0 730 = some xm_el0_730 := xm_gt d_0_730
theorem d_0_731 : List.drop 731 xm_cl0 = xm_cl0_731 := xm_dr d_0_730
theorem k_0_731 : xm_gi xm_cl0 731 = some xm_el0_731 := xm_gt d_0_731
theorem d_0_732 : List.drop 732 xm_cl0 = xm_cl0_732 := xm_dr d_0_731
theorem k_0_732 : xm_gi xm_cl0 732 = some xm_el0_732 := xm_gt d_0_732
theorem d_0_733 : List.drop 733 xm_cl0 = xm_cl0_733 := xm_dr d_0_732
theorem k_0_733 : xm_gi xm_cl0 733 = some xm_el0_733 := xm_gt d_0_733
theorem d_0_734 : List.drop 734 xm_cl0 = xm_cl0_734 := xm_dr d_0_733
theorem k_0_734 : xm_gi xm_cl0 734 = some xm_el0_734 := xm_gt d_0_734
theorem d_0_735 : List.drop 735 xm_cl0 = xm_cl0_735 := xm_dr d_0_734
theorem k_0_735 : xm_gi xm_cl0 735 = some xm_el0_735 := xm_gt d_0_735
theorem d_0_736 : List.drop 736 xm_cl0 = xm_cl0_736 := xm_dr d_0_735
theorem k_0_736 : xm_gi xm_cl0 736 = some xm_el0_736 := xm_gt d_0_736
theorem d_0_737 : List.drop 737 xm_cl0 = xm_cl0_737 := xm_dr d_0_736
theorem k_0_737 : xm_gi xm_cl0 737 = some xm_el0_737 := xm_gt d_0_737
theorem d_0_738 : List.drop 738 xm_cl0 = xm_cl0_738 := xm_dr d_0_737
theorem k_0_738 : xm_gi xm_cl0 738 = some xm_el0_738 := xm_gt d_0_738
theorem d_0_739 : List.drop 739 xm_cl0 = xm_cl0_739 := xm_dr d_0_738
theorem k_0_739 : xm_gi xm_cl0 739 = some xm_el0_739 := xm_gt d_0_739
theorem d_0_740 : List.drop 740 xm_cl0 = xm_cl0_740 := xm_dr d_0_739
theorem k_0_740 : xm_gi xm_cl0 740 = some xm_el0_740 := xm_gt d_0_740
theorem d_0_741 : List.drop 741 xm_cl0 = xm_cl0_741 := xm_dr d_0_740
theorem k_0_741 : xm_gi xm_cl0 741 = some xm_el0_741 := xm_gt d_0_741
theorem d_0_742 : List.drop 742 xm_cl0 = xm_cl0_742 := xm_dr d_0_741
theorem k_0_742 : xm_gi xm_cl0 742 = some xm_el0_742 := xm_gt d_0_742
theorem d_0_743 : List.drop 743 xm_cl0 = xm_cl0_743 := xm_dr d_0_742
theorem k_0_743 : xm_gi xm_cl0 743 = some xm_el0_743 := xm_gt d_0_743
theorem d_0_744 : List.drop 744 xm_cl0 = xm_cl0_744 := xm_dr d_0_743
theorem k_0_744 : xm_gi xm_cl0 744 = some xm_el0_744 := xm_gt d_0_744
theorem d_0_745 : List.drop 745 xm_cl0 = xm_cl0_745 := xm_dr d_0_744
theorem k_0_745 : xm_gi xm_cl0 745 = some xm_el0_745 := xm_gt d_0_745
theorem d_0_746 : List.drop 746 xm_cl0 = xm_cl0_746 := xm_dr d_0_745
theorem k_0_746 : xm_gi xm_cl0 746 = some xm_el0_746 := xm_gt d_0_746
theorem d_0_747 : List.drop 747 xm_cl0 = xm_cl0_747 := xm_dr d_0_746
theorem k_0_747 : xm_gi xm_cl0 747 = some xm_el0_747 := xm_gt d_0_747
theorem d_0_748 : List.drop 748 xm_cl0 = xm_cl0_748 := xm_dr d_0_747
theorem k_0_748 : xm_gi xm_cl0 748 = some xm_el0_748 := xm_gt d_0_748
theorem d_0_749 : List.drop 749 xm_cl0 = xm_cl0_749 := xm_dr d_0_748
theorem k_0_749 : xm_gi xm_cl0 749 = some xm_el0_749 := xm_gt d_0_749
theorem d_0_750 : List.drop 750 xm_cl0 = xm_cl0_750 := xm_dr d_0_749
theorem k_0_750 : xm_gi xm_cl0 750 = some xm_el0_750 := xm_gt d_0_750
theorem d_0_751 : List.drop 751 xm_cl0 = xm_cl0_751 := xm_dr d_0_750
theorem k_0_751 : xm_gi xm_cl0 751 = some xm_el0_751 := xm_gt d_0_751
theorem d_0_752 : List.drop 752 xm_cl0 = xm_cl0_752 := xm_dr d_0_751
theorem k_0_752 : xm_gi xm_cl0 752 = some xm_el0_752 := xm_gt d_0_752
theorem d_0_753 : List.drop 753 xm_cl0 = xm_cl0_753 := xm_dr d_0_752
theorem k_0_753 : xm_gi xm_cl0 753 = some xm_el0_753 := xm_gt d_0_753
theorem d_0_754 : List.drop 754 xm_cl0 = xm_cl0_754 := xm_dr d_0_753
theorem k_0_754 : xm_gi xm_cl0 754 = some xm_el0_754 := xm_gt d_0_754
theorem d_0_755 : List.drop 755 xm_cl0 = xm_cl0_755 := xm_dr d_0_754
theorem k_0_755 : xm_gi xm_cl0 755 = some xm_el0_755 := xm_gt d_0_755
theorem d_0_756 : List.drop 756 xm_cl0 = xm_cl0_756 := xm_dr d_0_755
theorem k_0_756 : xm_gi xm_cl0 756 = some xm_el0_756 := xm_gt d_0_756
theorem d_0_757 : List.drop 757 xm_cl0 = xm_cl0_757 := xm_dr d_0_756
theorem k_0_757 : xm_gi xm_cl0 757 = some xm_el0_757 := xm_gt d_0_757
theorem d_0_758 : List.drop 758 xm_cl0 = xm_cl0_758 := xm_dr d_0_757
theorem k_0_758 : xm_gi xm_cl0 758 = some xm_el0_758 := xm_gt d_0_758
theorem d_0_759 : List.drop 759 xm_cl0 = xm_cl0_759 := xm_dr d_0_758
theorem k_0_759 : xm_gi xm_cl0 759 = some xm_el0_759 := xm_gt d_0_759
theorem d_0_760 : List.drop 760 xm_cl0 = xm_cl0_760 := xm_dr d_0_759
theorem k_0_760 : xm_gi xm_cl0 760 = some xm_el0_760 := xm_gt d_0_760
theorem d_0_761 : List.drop 761 xm_cl0 = xm_cl0_761 := xm_dr d_0_760
theorem k_0_761 : xm_gi xm_cl0 761 = some xm_el0_761 := xm_gt d_0_761
theorem d_0_762 : List.drop 762 xm_cl0 = xm_cl0_762 := xm_dr d_0_761
theorem k_0_762 : xm_gi xm_cl0 762 = some xm_el0_762 := xm_gt d_0_762
theorem d_0_763 : List.drop 763 xm_cl0 = xm_cl0_763 := xm_dr d_0_762
theorem k_0_763 : xm_gi xm_cl0 763 = some xm_el0_763 := xm_gt d_0_763
theorem d_0_764 : List.drop 764 xm_cl0 = xm_cl0_764 := xm_dr d_0_763
theorem k_0_764 : xm_gi xm_cl0 764 = some xm_el0_764 := xm_gt d_0_764
theorem d_0_765 : List.drop 765 xm_cl0 = xm_cl0_765 := xm_dr d_0_764
theorem k_0_765 : xm_gi xm_cl0 765 = some xm_el0_765 := xm_gt d_0_765
theorem d_0_766 : List.drop 766 xm_cl0 = xm_cl0_766 := xm_dr d_0_765
theorem k_0_766 : xm_gi xm_cl0 766 = some xm_el0_766 := xm_gt d_0_766
theorem d_0_767 : List.drop 767 xm_cl0 = xm_cl0_767 := xm_dr d_0_766
theorem k_0_767 : xm_gi xm_cl0 767 = some xm_el0_767 := xm_gt d_0_767
theorem d_0_768 : List.drop 768 xm_cl0 = xm_cl0_768 := xm_dr d_0_767
theorem k_0_768 : xm_gi xm_cl0 768 = some xm_el0_768 := xm_gt d_0_768
theorem d_0_769 : List.drop 769 xm_cl0 = xm_cl0_769 := xm_dr d_0_768
theorem k_0_769 : xm_gi xm_cl0 769 = some xm_el0_769 := xm_gt d_0_769
theorem d_0_770 : List.drop 770 xm_cl0 = xm_cl0_770 := xm_dr d_0_769
theorem k_0_770 : xm_gi xm_cl0 770 = some xm_el0_770 := xm_gt d_0_770
theorem d_0_771 : List.drop 771 xm_cl0 = xm_cl0_771 := xm_dr d_0_770
theorem k_0_771 : xm_gi xm_cl0 771 = some xm_el0_771 := xm_gt d_0_771
theorem d_0_772 : List.drop 772 xm_cl0 = xm_cl0_772 := xm_dr d_0_771
theorem k_0_772 : xm_gi xm_cl0 772 = some xm_el0_772 := xm_gt d_0_772
theorem d_0_773 : List.drop 773 xm_cl0 = xm_cl0_773 := xm_dr d_0_772
theorem k_0_773 : xm_gi xm_cl0 773 = some xm_el0_773 := xm_gt d_0_773
theorem d_0_774 : List.drop 774 xm_cl0 = xm_cl0_774 := xm_dr d_0_773
theorem k_0_774 : xm_gi xm_cl0 774 = some xm_el0_774 := xm_gt d_0_774
theorem d_0_775 : List.drop 775 xm_cl0 = xm_cl0_775 := xm_dr d_0_774
theorem k_0_775 : xm_gi xm_cl0 775 = some xm_el0_775 := xm_gt d_0_775
theorem d_0_776 : List.drop 776 xm_cl0 = xm_cl0_776 := xm_dr d_0_775
theorem k_0_776 : xm_gi xm_cl0 776 = some xm_el0_776 := xm_gt d_0_776
theorem d_0_777 : List.drop 777 xm_cl0 = xm_cl0_777 := xm_dr d_0_776
theorem k_0_777 : xm_gi xm_cl0 777 = some xm_el0_777 := xm_gt d_0_777
theorem d_0_778 : List.drop 778 xm_cl0 = xm_cl0_778 := xm_dr d_0_777
theorem k_0_778 : xm_gi xm_cl0 778 = some xm_el0_778 := xm_gt d_0_778
theorem d_0_779 : List.drop 779 xm_cl0 = xm_cl0_779 := xm_dr d_0_778
theorem k_0_779 : xm_gi xm_cl0 779 = some xm_el0_779 := xm_gt d_0_779
theorem d_0_780 : List.drop 780 xm_cl0 = xm_cl0_780 := xm_dr d_0_779
theorem k_0_780 : xm_gi xm_cl0 780 = some xm_el0_780 := xm_gt d_0_780
theorem d_0_781 : List.drop 781 xm_cl0 = xm_cl0_781 := xm_dr d_0_780
theorem k_0_781 : xm_gi xm_cl0 781 = some xm_el0_781 := xm_gt d_0_781
theorem d_0_782 : List.drop 782 xm_cl0 = xm_cl0_782 := xm_dr d_0_781
theorem k_0_782 : xm_gi xm_cl0 782 = some xm_el0_782 := xm_gt d_0_782
theorem d_0_783 : List.drop 783 xm_cl0 = xm_cl0_783 := xm_dr d_0_782
theorem k_0_783 : xm_gi xm_cl0 783 = some xm_el0_783 := xm_gt d_0_783
theorem d_0_784 : List.drop 784 xm_cl0 = xm_cl0_784 := xm_dr d_0_783
theorem k_0_784 : xm_gi xm_cl0 784 = some xm_el0_784 := xm_gt d_0_784
theorem d_0_785 : List.drop 785 xm_cl0 = xm_cl0_785 := xm_dr d_0_784
theorem k_0_785 : xm_gi xm_cl0 785 = some xm_el0_785 := xm_gt d_0_785
theorem d_0_786 : List.drop 786 xm_cl0 = xm_cl0_786 := xm_dr d_0_785
theorem k_0_786 : xm_gi xm_cl0 786 = some xm_el0_786 := xm_gt d_0_786
theorem d_0_787 : List.drop 787 xm_cl0 = xm_cl0_787 := xm_dr d_0_786
theorem k_0_787 : xm_gi xm_cl0 787 = some xm_el0_787 := xm_gt d_0_787
theorem d_0_788 : List.drop 788 xm_cl0 = xm_cl0_788 := xm_dr d_0_787
theorem k_0_788 : xm_gi xm_cl0 788 = some xm_el0_788 := xm_gt d_0_788
theorem d_0_789 : List.drop 789 xm_cl0 = xm_cl0_789 := xm_dr d_0_788
theorem k_0_789 : xm_gi xm_cl0 789 = some xm_el0_789 := xm_gt d_0_789
theorem d_0_790 : List.drop 790 xm_cl0 = xm_cl0_790 := xm_dr d_0_789
theorem k_0_790 : xm_gi xm_cl0 790 = some xm_el0_790 := xm_gt d_0_790
theorem d_0_791 : List.drop 791 xm_cl0 = xm_cl0_791 := xm_dr d_0_790
theorem k_0_791 : xm_gi xm_cl0 791 = some xm_el0_791 := xm_gt d_0_791
theorem d_0_792 : List.drop 792 xm_cl0 = xm_cl0_792 := xm_dr d_0_791
theorem k_0_792 : xm_gi xm_cl0 792 = some xm_el0_792 := xm_gt d_0_792
theorem d_0_793 : List.drop 793 xm_cl0 = xm_cl0_793 := xm_dr d_0_792
theorem k_0_793 : xm_gi xm_cl0 793 = some xm_el0_793 := xm_gt d_0_793
theorem d_0_794 : List.drop 794 xm_cl0 = xm_cl0_794 := xm_dr d_0_793
theorem k_0_794 : xm_gi xm_cl0 794 = some xm_el0_794 := xm_gt d_0_794
theorem d_0_795 : List.drop 795 xm_cl0 = xm_cl0_795 := xm_dr d_0_794
theorem k_0_795 : xm_gi xm_cl0 795 = some xm_el0_795 := xm_gt d_0_795
theorem d_0_796 : List.drop 796 xm_cl0 = xm_cl0_796 := xm_dr d_0_795
theorem k_0_796 : xm_gi xm_cl0 796 = some xm_el0_796 := xm_gt d_0_796
theorem d_0_797 : List.drop 797 xm_cl0 = xm_cl0_797 := xm_dr d_0_796
theorem k_0_797 : xm_gi xm_cl0 797 = some xm_el0_797 := xm_gt d_0_797
theorem d_0_798 : List.drop 798 xm_cl0 = xm_cl0_798 := xm_dr d_0_797
theorem k_0_798 : xm_gi xm_cl0 798 = some xm_el0_798 := xm_gt d_0_798
theorem d_0_799 : List.drop 799 xm_cl0 = xm_cl0_799 := xm_dr d_0_798
theorem k_0_799 : xm_gi xm_cl0 799 = some xm_el0_799 := xm_gt d_0_799
theorem d_0_800 : List.drop 800 xm_cl0 = xm_cl0_800 := xm_dr d_0_799
theorem k_0_800 : xm_gi xm_cl0 800 = some xm_el0_800 := xm_gt d_0_800
theorem d_0_801 : List.drop 801 xm_cl0 = xm_cl0_801 := xm_dr d_0_800
theorem k_0_801 : xm_gi xm_cl0 801 = some xm_el0_801 := xm_gt d_0_801
theorem d_0_802 : List.drop 802 xm_cl0 = xm_cl0_802 := xm_dr d_0_801
theorem k_0_802 : xm_gi xm_cl0 802 = some xm_el0_802 := xm_gt d_0_802
theorem d_0_803 : List.drop 803 xm_cl0 = xm_cl0_803 := xm_dr d_0_802
theorem k_0_803 : xm_gi xm_cl0 803 = some xm_el0_803 := xm_gt d_0_803
theorem d_0_804 : List.drop 804 xm_cl0 = xm_cl0_804 := xm_dr d_0_803
theorem k_0_804 : xm_gi xm_cl0 804 = some xm_el0_804 := xm_gt d_0_804
theorem d_0_805 : List.drop 805 xm_cl0 = xm_cl0_805 := xm_dr d_0_804
theorem k_0_805 : xm_gi xm_cl0 805 = some xm_el0_805 := xm_gt d_0_805
theorem d_0_806 : List.drop 806 xm_cl0 = xm_cl0_806 := xm_dr d_0_805
theorem k_0_806 : xm_gi xm_cl0 806 = some xm_el0_806 := xm_gt d_0_806
theorem d_0_807 : List.drop 807 xm_cl0 = xm_cl0_807 := xm_dr d_0_806
theorem k_0_807 : xm_gi xm_cl0 807 = some xm_el0_807 := xm_gt d_0_807
theorem d_0_808 : List.drop 808 xm_cl0 = xm_cl0_808 := xm_dr d_0_807
theorem k_0_808 : xm_gi xm_cl0 808 = some xm_el0_808 := xm_gt d_0_808
theorem d_0_809 : List.drop 809 xm_cl0 = xm_cl0_809 := xm_dr d_0_808
theorem k_0_809 : xm_gi xm_cl0 809 = some xm_el0_809 := xm_gt d_0_809
theorem d_0_810 : List.drop 810 xm_cl0 = xm_cl0_810 := xm_dr d_0_809
theorem k_0_810 : xm_gi xm_cl0 810 = some xm_el0_810 := xm_gt d_0_810
theorem d_0_811 : List.drop 811 xm_cl0 = xm_cl0_811 := xm_dr d_0_810
theorem k_0_811 : xm_gi xm_cl0 811 = some xm_el0_811 := xm_gt d_0_811
theorem d_0_812 : List.drop 812 xm_cl0 = xm_cl0_812 := xm_dr d_0_811
theorem k_0_812 : xm_gi xm_cl0 812 = some xm_el0_812 := xm_gt d_0_812
theorem d_0_813 : List.drop 813 xm_cl0 = xm_cl0_813 := xm_dr d_0_812
theorem k_0_813 : xm_gi xm_cl0 813 = some xm_el0_813 := xm_gt d_0_813
theorem d_0_814 : List.drop 814 xm_cl0 = xm_cl0_814 := xm_dr d_0_813
theorem k_0_814 : xm_gi xm_cl0 814 = some xm_el0_814 := xm_gt d_0_814
theorem d_0_815 : List.drop 815 xm_cl0 = xm_cl0_815 := xm_dr d_0_814
theorem k_0_815 : xm_gi xm_cl0 815 = some xm_el0_815 := xm_gt d_0_815
theorem d_0_816 : List.drop 816 xm_cl0 = xm_cl0_816 := xm_dr d_0_815
theorem k_0_816 : xm_gi xm_cl0 816 = some xm_el0_816 := xm_gt d_0_816
theorem d_0_817 : List.drop 817 xm_cl0 = xm_cl0_817 := xm_dr d_0_816
theorem k_0_817 : xm_gi xm_cl0 817 = some xm_el0_817 := xm_gt d_0_817
theorem d_0_818 : List.drop 818 xm_cl0 = xm_cl0_818 := xm_dr d_0_817
theorem k_0_818 : xm_gi xm_cl0 818 = some xm_el0_818 := xm_gt d_0_818
theorem d_0_819 : List.drop 819 xm_cl0 = xm_cl0_819 := xm_dr d_0_818
theorem k_0_819 : xm_gi xm_cl0 819 = some xm_el0_819 := xm_gt d_0_819
theorem d_0_820 : List.drop 820 xm_cl0 = xm_cl0_820 := xm_dr d_0_819
theorem k_0_820 : xm_gi xm_cl0 820 = some xm_el0_820 := xm_gt d_0_820
theorem d_0_821 : List.drop 821 xm_cl0 = xm_cl0_821 := xm_dr d_0_820
theorem k_0_821 : xm_gi xm_cl0 821 = some xm_el0_821 := xm_gt d_0_821
theorem d_0_822 : List.drop 822 xm_cl0 = xm_cl0_822 := xm_dr d_0_821
theorem k_0_822 : xm_gi xm_cl0 822 = some xm_el0_822 := xm_gt d_0_822
theorem d_0_823 : List.drop 823 xm_cl0 = xm_cl0_823 := xm_dr d_0_822
theorem k_0_823 : xm_gi xm_cl0 823 = some xm_el0_823 := xm_gt d_0_823
theorem d_0_824 : List.drop 824 xm_cl0 = xm_cl0_824 := xm_dr d_0_823
theorem k_0_824 : xm_gi xm_cl0 824 = some xm_el0_824 := xm_gt d_0_824
theorem d_0_825 : List.drop 825 xm_cl0 = xm_cl0_825 := xm_dr d_0_824
theorem k_0_825 : xm_gi xm_cl0 825 = some xm_el0_825 := xm_gt d_0_825
theorem d_0_826 : List.drop 826 xm_cl0 = xm_cl0_826 := xm_dr d_0_825
theorem k_0_826 : xm_gi xm_cl0 826 = some xm_el0_826 := xm_gt d_0_826
theorem d_0_827 : List.drop 827 xm_cl0 = xm_cl0_827 := xm_dr d_0_826
theorem k_0_827 : xm_gi xm_cl0 827 = some xm_el0_827 := xm_gt d_0_827
theorem d_0_828 : List.drop 828 xm_cl0 = xm_cl0_828 := xm_dr d_0_827
theorem k_0_828 : xm_gi xm_cl0 828 = some xm_el0_828 := xm_gt d_0_828
theorem d_0_829 : List.drop 829 xm_cl0 = xm_cl0_829 := xm_dr d_0_828
theorem k_0_829 : xm_gi xm_cl0 829 = some xm_el0_829 := xm_gt d_0_829
theorem d_0_830 : List.drop 830 xm_cl0 = xm_cl0_830 := xm_dr d_0_829
theorem k_0_830 : xm_gi xm_cl0 830 = some xm_el0_830 := xm_gt d_0_830
theorem d_0_831 : List.drop 831 xm_cl0 = xm_cl0_831 := xm_dr d_0_830
theorem k_0_831 : xm_gi xm_cl0 831 = some xm_el0_831 := xm_gt d_0_831
theorem d_0_832 : List.drop 832 xm_cl0 = xm_cl0_832 := xm_dr d_0_831
theorem k_0_832 : xm_gi xm_cl0 832 = some xm_el0_832 := xm_gt d_0_832
theorem d_0_833 : List.drop 833 xm_cl0 = xm_cl0_833 := xm_dr d_0_832
theorem k_0_833 : xm_gi xm_cl0 833 = some xm_el0_833 := xm_gt d_0_833
theorem d_0_834 : List.drop 834 xm_cl0 = xm_cl0_834 := xm_dr d_0_833
theorem k_0_834 : xm_gi xm_cl0 834 = some xm_el0_834 := xm_gt d_0_834
theorem d_0_835 : List.drop 835 xm_cl0 = xm_cl0_835 := xm_dr d_0_834
theorem k_0_835 : xm_gi xm_cl0 835 = some xm_el0_835 := xm_gt d_0_835
theorem d_0_836 : List.drop 836 xm_cl0 = xm_cl0_836 := xm_dr d_0_835
theorem k_0_836 : xm_gi xm_cl0 836 = some xm_el0_836 := xm_gt d_0_836
theorem d_0_837 : List.drop 837 xm_cl0 = xm_cl0_837 := xm_dr d_0_836
theorem k_0_837 : xm_gi xm_cl0 837 = some xm_el0_837 := xm_gt d_0_837
theorem d_0_838 : List.drop 838 xm_cl0 = xm_cl0_838 := xm_dr d_0_837
theorem k_0_838 : xm_gi xm_cl0 838 = some xm_el0_838 := xm_gt d_0_838
theorem d_0_839 : List.drop 839 xm_cl0 = xm_cl0_839 := xm_dr d_0_838
theorem k_0_839 : xm_gi xm_cl0 839 = some xm_el0_839 := xm_gt d_0_839
theorem d_0_840 : List.drop 840 xm_cl0 = xm_cl0_840 := xm_dr d_0_839
theorem k_0_840 : xm_gi xm_cl0 840 = some xm_el0_840 := xm_gt d_0_840
theorem d_0_841 : List.drop 841 xm_cl0 = xm_cl0_841 := xm_dr d_0_840
theorem k_0_841 : xm_gi xm_cl0 841 = some xm_el0_841 := xm_gt d_0_841
theorem d_0_842 : List.drop 842 xm_cl0 = xm_cl0_842 := xm_dr d_0_841
theorem k_0_842 : xm_gi xm_cl0 842 = some xm_el0_842 := xm_gt d_0_842
theorem d_0_843 : List.drop 843 xm_cl0 = xm_cl0_843 := xm_dr d_0_842
theorem k_0_843 : xm_gi xm_cl0 843 = some xm_el0_843 := xm_gt d_0_843
theorem d_0_844 : List.drop 844 xm_cl0 = xm_cl0_844 := xm_dr d_0_843
theorem k_0_844 : xm_gi xm_cl0 844 = some xm_el0_844 := xm_gt d_0_844
theorem d_0_845 : List.drop 845 xm_cl0 = xm_cl0_845 := xm_dr d_0_844
theorem k_0_845 : xm_gi xm_cl0 845 = some xm_el0_845 := xm_gt d_0_845
theorem d_0_846 : List.drop 846 xm_cl0 = xm_cl0_846 := xm_dr d_0_845
theorem k_0_846 : xm_gi xm_cl0 846 = some xm_el0_846 := xm_gt d_0_846
theorem d_0_847 : List.drop 847 xm_cl0 = xm_cl0_847 := xm_dr d_0_846
theorem k_0_847 : xm_gi xm_cl0 847 = some xm_el0_847 := xm_gt d_0_847
theorem d_0_848 : List.drop 848 xm_cl0 = xm_cl0_848 := xm_dr d_0_847
theorem k_0_848 : xm_gi xm_cl0 848 = some xm_el0_848 := xm_gt d_0_848
theorem d_0_849 : List.drop 849 xm_cl0 = xm_cl0_849 := xm_dr d_0_848
theorem k_0_849 : xm_gi xm_cl0 849 = some xm_el0_849 := xm_gt d_0_849
theorem d_0_850 : List.drop 850 xm_cl0 = xm_cl0_850 := xm_dr d_0_849
theorem k_0_850 : xm_gi xm_cl0 850 = some xm_el0_850 := xm_gt d_0_850
theorem d_0_851 : List.drop 851 xm_cl0 = xm_cl0_851 := xm_dr d_0_850
theorem k_0_851 : xm_gi xm_cl0 851 = some xm_el0_851 := xm_gt d_0_851
theorem d_0_852 : List.drop 852 xm_cl0 = xm_cl0_852 := xm_dr d_0_851
theorem k_0_852 : xm_gi xm_cl0 852 = some xm_el0_852 := xm_gt d_0_852
theorem d_0_853 : List.drop 853 xm_cl0 = xm_cl0_853 := xm_dr d_0_852
theorem k_0_853 : xm_gi xm_cl0 853 = some xm_el0_853 := xm_gt d_0_853
theorem d_0_854 : List.drop 854 xm_cl0 = xm_cl0_854 := xm_dr d_0_853
theorem k_0_854 : xm_gi xm_cl0 854 = some xm_el0_854 := xm_gt d_0_854
theorem d_0_855 : List.drop 855 xm_cl0 = xm_cl0_855 := xm_dr d_0_854
theorem k_0_855 : xm_gi xm_cl0 855 = some xm_el0_855 := xm_gt d_0_855
theorem d_0_856 : List.drop 856 xm_cl0 = xm_cl0_856 := xm_dr d_0_855
theorem k_0_856 : xm_gi xm_cl0 856 = some xm_el0_856 := xm_gt d_0_856
theorem d_0_857 : List.drop 857 xm_cl0 = xm_cl0_857 := xm_dr d_0_856
theorem k_0_857 : xm_gi xm_cl0 857 = some xm_el0_857 := xm_gt d_0_857
theorem d_0_858 : List.drop 858 xm_cl0 = xm_cl0_858 := xm_dr d_0_857
theorem k_0_858 : xm_gi xm_cl0 858 = some xm_el0_858 := xm_gt d_0_858
theorem d_0_859 : List.drop 859 xm_cl0 = xm_cl0_859 := xm_dr d_0_858
theorem k_0_859 : xm_gi xm_cl0 859 = some xm_el0_859 := xm_gt d_0_859
theorem d_0_860 : List.drop 860 xm_cl0 = xm_cl0_860 := xm_dr d_0_859
theorem k_0_860 : xm_gi xm_cl0 860 = some xm_el0_860 := xm_gt d_0_860
theorem d_0_861 : List.drop 861 xm_cl0 = xm_cl0_861 := xm_dr d_0_860
theorem k_0_861 : xm_gi xm_cl0 861 = some xm_el0_861 := xm_gt d_0_861
theorem d_0_862 : List.drop 862 xm_cl0 = xm_cl0_862 := xm_dr d_0_861
theorem k_0_862 : xm_gi xm_cl0 862 = some xm_el0_862 := xm_gt d_0_862
theorem d_0_863 : List.drop 863 xm_cl0 = xm_cl0_863 := xm_dr d_0_862
theorem k_0_863 : xm_gi xm_cl0 863 = some xm_el0_863 := xm_gt d_0_863
theorem d_0_864 : List.drop 864 xm_cl0 = xm_cl0_864 := xm_dr d_0_863
theorem k_0_864 : xm_gi xm_cl0 864 = some xm_el0_864 := xm_gt d_0_864
theorem d_0_865 : List.drop 865 xm_cl0 = xm_cl0_865 := xm_dr d_0_864
theorem k_0_865 : xm_gi xm_cl0 865 = some xm_el0_865 := xm_gt d_0_865
theorem d_0_866 : List.drop 866 xm_cl0 = xm_cl0_866 := xm_dr d_0_865
theorem k_0_866 : xm_gi xm_cl0 866 = some xm_el0_866 := xm_gt d_0_866
theorem d_0_867 : List.drop 867 xm_cl0 = xm_cl0_867 := xm_dr d_0_866
theorem k_0_867 : xm_gi xm_cl0 867 = some xm_el0_867 := xm_gt d_0_867
theorem d_0_868 : List.drop 868 xm_cl0 = xm_cl0_868 := xm_dr d_0_867
theorem k_0_868 : xm_gi xm_cl0 868 = some xm_el0_868 := xm_gt d_0_868
theorem d_0_869 : List.drop 869 xm_cl0 = xm_cl0_869 := xm_dr d_0_868
theorem k_0_869 : xm_gi xm_cl0 869 = some xm_el0_869 := xm_gt d_0_869
theorem d_0_870 : List.drop 870 xm_cl0 = xm_cl0_870 := xm_dr d_0_869
theorem k_0_870 : xm_gi xm_cl0 870 = some xm_el0_870 := xm_gt d_0_870
theorem d_0_871 : List.drop 871 xm_cl0 = xm_cl0_871 := xm_dr d_0_870
theorem k_0_871 : xm_gi xm_cl0 871 = some xm_el0_871 := xm_gt d_0_871
theorem d_0_872 : List.drop 872 xm_cl0 = xm_cl0_872 := xm_dr d_0_871
theorem k_0_872 : xm_gi xm_cl0 872 = some xm_el0_872 := xm_gt d_0_872
theorem d_0_873 : List.drop 873 xm_cl0 = xm_cl0_873 := xm_dr d_0_872
theorem k_0_873 : xm_gi xm_cl0 873 = some xm_el0_873 := xm_gt d_0_873
theorem d_0_874 : List.drop 874 xm_cl0 = xm_cl0_874 := xm_dr d_0_873
theorem k_0_874 : xm_gi xm_cl0 874 = some xm_el0_874 := xm_gt d_0_874
theorem d_0_875 : List.drop 875 xm_cl0 = xm_cl0_875 := xm_dr d_0_874
theorem k_0_875 : xm_gi xm_cl0 875 = some xm_el0_875 := xm_gt d_0_875
theorem d_0_876 : List.drop 876 xm_cl0 = xm_cl0_876 := xm_dr d_0_875
theorem k_0_876 : xm_gi xm_cl0 876 = some xm_el0_876 := xm_gt d_0_876
theorem d_0_877 : List.drop 877 xm_cl0 = xm_cl0_877 := xm_dr d_0_876
theorem k_0_877 : xm_gi xm_cl0 877 = some xm_el0_877 := xm_gt d_0_877
theorem d_0_878 : List.drop 878 xm_cl0 = xm_cl0_878 := xm_dr d_0_877
theorem k_0_878 : xm_gi xm_cl0 878 = some xm_el0_878 := xm_gt d_0_878
theorem d_0_879 : List.drop 879 xm_cl0 = xm_cl0_879 := xm_dr d_0_878
theorem k_0_879 : xm_gi xm_cl0 879 = some xm_el0_879 := xm_gt d_0_879
theorem d_0_880 : List.drop 880 xm_cl0 = xm_cl0_880 := xm_dr d_0_879
theorem k_0_880 : xm_gi xm_cl0 880 = some xm_el0_880 := xm_gt d_0_880
theorem d_0_881 : List.drop 881 xm_cl0 = xm_cl0_881 := xm_dr d_0_880
theorem k_0_881 : xm_gi xm_cl0 881 = some xm_el0_881 := xm_gt d_0_881
theorem d_0_882 : List.drop 882 xm_cl0 = xm_cl0_882 := xm_dr d_0_881
theorem k_0_882 : xm_gi xm_cl0 882 = some xm_el0_882 := xm_gt d_0_882
theorem d_0_883 : List.drop 883 xm_cl0 = xm_cl0_883 := xm_dr d_0_882
theorem k_0_883 : xm_gi xm_cl0 883 = some xm_el0_883 := xm_gt d_0_883
theorem d_0_884 : List.drop 884 xm_cl0 = xm_cl0_884 := xm_dr d_0_883
theorem k_0_884 : xm_gi xm_cl0 884 = some xm_el0_884 := xm_gt d_0_884
theorem d_0_885 : List.drop 885 xm_cl0 = xm_cl0_885 := xm_dr d_0_884
theorem k_0_885 : xm_gi xm_cl0 885 = some xm_el0_885 := xm_gt d_0_885
theorem d_0_886 : List.drop 886 xm_cl0 = xm_cl0_886 := xm_dr d_0_885
theorem k_0_886 : xm_gi xm_cl0 886 = some xm_el0_886 := xm_gt d_0_886
theorem d_0_887 : List.drop 887 xm_cl0 = xm_cl0_887 := xm_dr d_0_886
theorem k_0_887 : xm_gi xm_cl0 887 = some xm_el0_887 := xm_gt d_0_887
theorem d_0_888 : List.drop 888 xm_cl0 = xm_cl0_888 := xm_dr d_0_887
theorem k_0_888 : xm_gi xm_cl0 888 = some xm_el0_888 := xm_gt d_0_888
theorem d_0_889 : List.drop 889 xm_cl0 = xm_cl0_889 := xm_dr d_0_888
theorem k_0_889 : xm_gi xm_cl0 889 = some xm_el0_889 := xm_gt d_0_889
theorem d_0_890 : List.drop 890 xm_cl0 = xm_cl0_890 := xm_dr d_0_889
theorem k_0_890 : xm_gi xm_cl0 890 = some xm_el0_890 := xm_gt d_0_890
theorem d_0_891 : List.drop 891 xm_cl0 = xm_cl0_891 := xm_dr d_0_890
theorem k_0_891 : xm_gi xm_cl0 891 = some xm_el0_891 := xm_gt d_0_891
theorem d_0_892 : List.drop 892 xm_cl0 = xm_cl0_892 := xm_dr d_0_891
theorem k_0_892 : xm_gi xm_cl0 892 = some xm_el0_892 := xm_gt d_0_892
theorem d_0_893 : List.drop 893 xm_cl0 = xm_cl0_893 := xm_dr d_0_892
theorem k_0_893 : xm_gi xm_cl0 893 = some xm_el0_893 := xm_gt d_0_893
theorem d_0_894 : List.drop 894 xm_cl0 = xm_cl0_894 := xm_dr d_0_893
theorem k_0_894 : xm_gi xm_cl0 894 = some xm_el0_894 := xm_gt d_0_894
theorem d_0_895 : List.drop 895 xm_cl0 = xm_cl0_895 := xm_dr d_0_894
theorem k_0_895 : xm_gi xm_cl0 895 = some xm_el0_895 := xm_gt d_0_895
theorem d_0_896 : List.drop 896 xm_cl0 = xm_cl0_896 := xm_dr d_0_895
theorem k_0_896 : xm_gi xm_cl0 896 = some xm_el0_896 := xm_gt d_0_896
theorem d_0_897 : List.drop 897 xm_cl0 = xm_cl0_897 := xm_dr d_0_896
theorem k_0_897 : xm_gi xm_cl0 897 = some xm_el0_897 := xm_gt d_0_897
theorem d_0_898 : List.drop 898 xm_cl0 = xm_cl0_898 := xm_dr d_0_897
theorem k_0_898 : xm_gi xm_cl0 898 = some xm_el0_898 := xm_gt d_0_898
theorem d_0_899 : List.drop 899 xm_cl0 = xm_cl0_899 := xm_dr d_0_898
theorem k_0_899 : xm_gi xm_cl0 899 = some xm_el0_899 := xm_gt d_0_899
theorem d_0_900 : List.drop 900 xm_cl0 = xm_cl0_900 := xm_dr d_0_899
theorem k_0_900 : xm_gi xm_cl0 900 = some xm_el0_900 := xm_gt d_0_900
theorem d_0_901 : List.drop 901 xm_cl0 = xm_cl0_901 := xm_dr d_0_900
theorem k_0_901 : xm_gi xm_cl0 901 = some xm_el0_901 := xm_gt d_0_901
theorem d_0_902 : List.drop 902 xm_cl0 = xm_cl0_902 := xm_dr d_0_901
theorem k_0_902 : xm_gi xm_cl0 902 = some xm_el0_902 := xm_gt d_0_902
theorem d_0_903 : List.drop 903 xm_cl0 = xm_cl0_903 := xm_dr d_0_902
theorem k_0_903 : xm_gi xm_cl0 903 = some xm_el0_903 := xm_gt d_0_903
theorem d_0_904 : List.drop 904 xm_cl0 = xm_cl0_904 := xm_dr d_0_903
theorem k_0_904 : xm_gi xm_cl0 904 = some xm_el0_904 := xm_gt d_0_904
theorem d_0_905 : List.drop 905 xm_cl0 = xm_cl0_905 := xm_dr d_0_904
theorem k_0_905 : xm_gi xm_cl0 905 = some xm_el0_905 := xm_gt d_0_905
theorem d_0_906 : List.drop 906 xm_cl0 = xm_cl0_906 := xm_dr d_0_905
theorem k_0_906 : xm_gi xm_cl0 906 = some xm_el0_906 := xm_gt d_0_906
theorem d_0_907 : List.drop 907 xm_cl0 = xm_cl0_907 := xm_dr d_0_906
theorem k_0_907 : xm_gi xm_cl0 907 = some xm_el0_907 := xm_gt d_0_907
theorem d_0_908 : List.drop 908 xm_cl0 = xm_cl0_908 := xm_dr d_0_907
theorem k_0_908 : xm_gi xm_cl0 908 = some xm_el0_908 := xm_gt d_0_908
theorem d_0_909 : List.drop 909 xm_cl0 = xm_cl0_909 := xm_dr d_0_908
theorem k_0_909 : xm_gi xm_cl0 909 = some xm_el0_909 := xm_gt d_0_909
theorem d_0_910 : List.drop 910 xm_cl0 = xm_cl0_910 := xm_dr d_0_909
theorem k_0_910 : xm_gi xm_cl0 910 = some xm_el0_910 := xm_gt d_0_910
theorem d_0_911 : List.drop 911 xm_cl0 = xm_cl0_911 := xm_dr d_0_910
theorem k_0_911 : xm_gi xm_cl0 911 = some xm_el0_911 := xm_gt d_0_911
theorem d_0_912 : List.drop 912 xm_cl0 = xm_cl0_912 := xm_dr d_0_911
theorem k_0_912 : xm_gi xm_cl0 912 = some xm_el0_912 := xm_gt d_0_912
theorem d_0_913 : List.drop 913 xm_cl0 = xm_cl0_913 := xm_dr d_0_912
theorem k_0_913 : xm_gi xm_cl0 913 = some xm_el0_913 := xm_gt d_0_913
theorem d_0_914 : List.drop 914 xm_cl0 = xm_cl0_914 := xm_dr d_0_913
theorem k_0_914 : xm_gi xm_cl0 914 = some xm_el0_914 := xm_gt d_0_914
theorem d_0_915 : List.drop 915 xm_cl0 = xm_cl0_915 := xm_dr d_0_914
theorem k_0_915 : xm_gi xm_cl0 915 = some xm_el0_915 := xm_gt d_0_915
theorem d_0_916 : List.drop 916 xm_cl0 = xm_cl0_916 := xm_dr d_0_915
theorem k_0_916 : xm_gi xm_cl0 916 = some xm_el0_916 := xm_gt d_0_916
theorem d_0_917 : List.drop 917 xm_cl0 = xm_cl0_917 := xm_dr d_0_916
theorem k_0_917 : xm_gi xm_cl0 917 = some xm_el0_917 := xm_gt d_0_917
theorem d_0_918 : List.drop 918 xm_cl0 = xm_cl0_918 := xm_dr d_0_917
theorem k_0_918 : xm_gi xm_cl0 918 = some xm_el0_918 := xm_gt d_0_918
theorem d_0_919 : List.drop 919 xm_cl0 = xm_cl0_919 := xm_dr d_0_918
theorem k_0_919 : xm_gi xm_cl0 919 = some xm_el0_919 := xm_gt d_0_919
theorem d_0_920 : List.drop 920 xm_cl0 = xm_cl0_920 := xm_dr d_0_919
theorem k_0_920 : xm_gi xm_cl0 920 = some xm_el0_920 := xm_gt d_0_920
theorem d_0_921 : List.drop 921 xm_cl0 = xm_cl0_921 := xm_dr d_0_920
theorem k_0_921 : xm_gi xm_cl0 921 = some xm_el0_921 := xm_gt d_0_921
theorem d_0_922 : List.drop 922 xm_cl0 = xm_cl0_922 := xm_dr d_0_921
theorem k_0_922 : xm_gi xm_cl0 922 = some xm_el0_922 := xm_gt d_0_922
theorem d_0_923 : List.drop 923 xm_cl0 = xm_cl0_923 := xm_dr d_0_922
theorem k_0_923 : xm_gi xm_cl0 923 = some xm_el0_923 := xm_gt d_0_923
theorem d_0_924 : List.drop 924 xm_cl0 = xm_cl0_924 := xm_dr d_0_923
theorem k_0_924 : xm_gi xm_cl0 924 = some xm_el0_924 := xm_gt d_0_924
theorem d_0_925 : List.drop 925 xm_cl0 = xm_cl0_925 := xm_dr d_0_924
theorem k_0_925 : xm_gi xm_cl0 925 = some xm_el0_925 := xm_gt d_0_925
theorem d_0_926 : List.drop 926 xm_cl0 = xm_cl0_926 := xm_dr d_0_925
theorem k_0_926 : xm_gi xm_cl0 926 = some xm_el0_926 := xm_gt d_0_926
theorem d_0_927 : List.drop 927 xm_cl0 = xm_cl0_927 := xm_dr d_0_926
theorem k_0_927 : xm_gi xm_cl0 927 = some xm_el0_927 := xm_gt d_0_927
theorem d_0_928 : List.drop 928 xm_cl0 = xm_cl0_928 := xm_dr d_0_927
theorem k_0_928 : xm_gi xm_cl0 928 = some xm_el0_928 := xm_gt d_0_928
theorem d_0_929 : List.drop 929 xm_cl0 = xm_cl0_929 := xm_dr d_0_928
theorem k_0_929 : xm_gi xm_cl0 929 = some xm_el0_929 := xm_gt d_0_929
theorem d_0_930 : List.drop 930 xm_cl0 = xm_cl0_930 := xm_dr d_0_929
theorem k_0_930 : xm_gi xm_cl0 930 = some xm_el0_930 := xm_gt d_0_930
theorem d_0_931 : List.drop 931 xm_cl0 = xm_cl0_931 := xm_dr d_0_930
theorem k_0_931 : xm_gi xm_cl0 931 = some xm_el0_931 := xm_gt d_0_931
theorem d_0_932 : List.drop 932 xm_cl0 = xm_cl0_932 := xm_dr d_0_931
theorem k_0_932 : xm_gi xm_cl0 932 = some xm_el0_932 := xm_gt d_0_932
theorem d_0_933 : List.drop 933 xm_cl0 = xm_cl0_933 := xm_dr d_0_932
theorem k_0_933 : xm_gi xm_cl0 933 = some xm_el0_933 := xm_gt d_0_933
theorem d_0_934 : List.drop 934 xm_cl0 = xm_cl0_934 := xm_dr d_0_933
theorem k_0_934 : xm_gi xm_cl0 934 = some xm_el0_934 := xm_gt d_0_934
theorem d_0_935 : List.drop 935 xm_cl0 = xm_cl0_935 := xm_dr d_0_934
theorem k_0_935 : xm_gi xm_cl0 935 = some xm_el0_935 := xm_gt d_0_935
theorem d_0_936 : List.drop 936 xm_cl0 = xm_cl0_936 := xm_dr d_0_935
theorem k_0_936 : xm_gi xm_cl0 936 = some xm_el0_936 := xm_gt d_0_936
theorem d_0_937 : List.drop 937 xm_cl0 = xm_cl0_937 := xm_dr d_0_936
theorem k_0_937 : xm_gi xm_cl0 937 = some xm_el0_937 := xm_gt d_0_937
theorem d_0_938 : List.drop 938 xm_cl0 = xm_cl0_938 := xm_dr d_0_937
theorem k_0_938 : xm_gi xm_cl0 938 = some xm_el0_938 := xm_gt d_0_938
theorem d_0_939 : List.drop 939 xm_cl0 = xm_cl0_939 := xm_dr d_0_938
theorem k_0_939 : xm_gi xm_cl0 939 = some xm_el0_939 := xm_gt d_0_939
theorem d_0_940 : List.drop 940 xm_cl0 = xm_cl0_940 := xm_dr d_0_939
theorem k_0_940 : xm_gi xm_cl0 940 = some xm_el0_940 := xm_gt d_0_940
theorem d_0_941 : List.drop 941 xm_cl0 = xm_cl0_941 := xm_dr d_0_940
theorem k_0_941 : xm_gi xm_cl0 941 = some xm_el0_941 := xm_gt d_0_941
theorem d_0_942 : List.drop 942 xm_cl0 = xm_cl0_942 := xm_dr d_0_941
theorem k_0_942 : xm_gi xm_cl0 942 = some xm_el0_942 := xm_gt d_0_942
theorem d_0_943 : List.drop 943 xm_cl0 = xm_cl0_943 := xm_dr d_0_942
theorem k_0_943 : xm_gi xm_cl0 943 = some xm_el0_943 := xm_gt d_0_943
theorem d_0_944 : List.drop 944 xm_cl0 = xm_cl0_944 := xm_dr d_0_943
theorem k_0_944 : xm_gi xm_cl0 944 = some xm_el0_944 := xm_gt d_0_944
theorem d_0_945 : List.drop 945 xm_cl0 = xm_cl0_945 := xm_dr d_0_944
theorem k_0_945 : xm_gi xm_cl0 945 = some xm_el0_945 := xm_gt d_0_945
theorem d_0_946 : List.drop 946 xm_cl0 = xm_cl0_946 := xm_dr d_0_945
theorem k_0_946 : xm_gi xm_cl0 946 = some xm_el0_946 := xm_gt d_0_946
theorem d_0_947 : List.drop 947 xm_cl0 = xm_cl0_947 := xm_dr d_0_946
theorem k_0_947 : xm_gi xm_cl0 947 = some xm_el0_947 := xm_gt d_0_947
theorem d_0_948 : List.drop 948 xm_cl0 = xm_cl0_948 := xm_dr d_0_947
theorem k_0_948 : xm_gi xm_cl0 948 = some xm_el0_948 := xm_gt d_0_948
theorem d_0_949 : List.drop 949 xm_cl0 = xm_cl0_949 := xm_dr d_0_948
theorem k_0_949 : xm_gi xm_cl0 949 = some xm_el0_949 := xm_gt d_0_949
theorem d_0_950 : List.drop 950 xm_cl0 = xm_cl0_950 := xm_dr d_0_949
theorem k_0_950 : xm_gi xm_cl0 950 = some xm_el0_950 := xm_gt d_0_950
theorem d_0_951 : List.drop 951 xm_cl0 = xm_cl0_951 := xm_dr d_0_950
theorem k_0_951 : xm_gi xm_cl0 951 = some xm_el0_951 := xm_gt d_0_951
theorem d_0_952 : List.drop 952 xm_cl0 = xm_cl0_952 := xm_dr d_0_951
theorem k_0_952 : xm_gi xm_cl0 952 = some xm_el0_952 := xm_gt d_0_952
theorem d_0_953 : List.drop 953 xm_cl0 = xm_cl0_953 := xm_dr d_0_952
theorem k_0_953 : xm_gi xm_cl0 953 = some xm_el0_953 := xm_gt d_0_953
theorem d_0_954 : List.drop 954 xm_cl0 = xm_cl0_954 := xm_dr d_0_953
theorem k_0_954 : xm_gi xm_cl0 954 = some xm_el0_954 := xm_gt d_0_954
theorem d_0_955 : List.drop 955 xm_cl0 = xm_cl0_955 := xm_dr d_0_954
theorem k_0_955 : xm_gi xm_cl0 955 = some xm_el0_955 := xm_gt d_0_955
theorem d_0_956 : List.drop 956 xm_cl0 = xm_cl0_956 := xm_dr d_0_955
theorem k_0_956 : xm_gi xm_cl0 956 = some xm_el0_956 := xm_gt d_0_956
theorem d_0_957 : List.drop 957 xm_cl0 = xm_cl0_957 := xm_dr d_0_956
theorem k_0_957 : xm_gi xm_cl0 957 = some xm_el0_957 := xm_gt d_0_957
theorem d_0_958 : List.drop 958 xm_cl0 = xm_cl0_958 := xm_dr d_0_957
theorem k_0_958 : xm_gi xm_cl0 958 = some xm_el0_958 := xm_gt d_0_958
theorem d_0_959 : List.drop 959 xm_cl0 = xm_cl0_959 := xm_dr d_0_958
theorem k_0_959 : xm_gi xm_cl0 959 = some xm_el0_959 := xm_gt d_0_959
theorem d_0_960 : List.drop 960 xm_cl0 = xm_cl0_960 := xm_dr d_0_959
theorem k_0_960 : xm_gi xm_cl0 960 = some xm_el0_960 := xm_gt d_0_960
theorem d_0_961 : List.drop 961 xm_cl0 = xm_cl0_961 := xm_dr d_0_960
theorem k_0_961 : xm_gi xm_cl0 961 = some xm_el0_961 := xm_gt d_0_961
theorem d_0_962 : List.drop 962 xm_cl0 = xm_cl0_962 := xm_dr d_0_961
theorem k_0_962 : xm_gi xm_cl0 962 = some xm_el0_962 := xm_gt d_0_962
theorem d_0_963 : List.drop 963 xm_cl0 = xm_cl0_963 := xm_dr d_0_962
theorem k_0_963 : xm_gi xm_cl0 963 = some xm_el0_963 := xm_gt d_0_963
theorem d_0_964 : List.drop 964 xm_cl0 = xm_cl0_964 := xm_dr d_0_963
theorem k_0_964 : xm_gi xm_cl0 964 = some xm_el0_964 := xm_gt d_0_964
theorem d_0_965 : List.drop 965 xm_cl0 = xm_cl0_965 := xm_dr d_0_964
theorem k_0_965 : xm_gi xm_cl0 965 = some xm_el0_965 := xm_gt d_0_965
theorem d_0_966 : List.drop 966 xm_cl0 = xm_cl0_966 := xm_dr d_0_965
theorem k_0_966 : xm_gi xm_cl0 966 = some xm_el0_966 := xm_gt d_0_966
theorem d_0_967 : List.drop 967 xm_cl0 = xm_cl0_967 := xm_dr d_0_966
theorem k_0_967 : xm_gi xm_cl0 967 = some xm_el0_967 := xm_gt d_0_967
theorem d_0_968 : List.drop 968 xm_cl0 = xm_cl0_968 := xm_dr d_0_967
theorem k_0_968 : xm_gi xm_cl0 968 = some xm_el0_968 := xm_gt d_0_968
theorem d_0_969 : List.drop 969 xm_cl0 = xm_cl0_969 := xm_dr d_0_968
theorem k_0_969 : xm_gi xm_cl0 969 = some xm_el0_969 := xm_gt d_0_969
theorem d_0_970 : List.drop 970 xm_cl0 = xm_cl0_970 := xm_dr d_0_969
theorem k_0_970 : xm_gi xm_cl0 970 = some xm_el0_970 := xm_gt d_0_970
theorem d_0_971 : List.drop 971 xm_cl0 = xm_cl0_971 := xm_dr d_0_970
theorem k_0_971 : xm_gi xm_cl0 971 = some xm_el0_971 := xm_gt d_0_971
theorem d_0_972 : List.drop 972 xm_cl0 = xm_cl0_972 := xm_dr d_0_971
theorem k_0_972 : xm_gi xm_cl0 972 = some xm_el0_972 := xm_gt d_0_972
theorem d_0_973 : List.drop 973 xm_cl0 = xm_cl0_973 := xm_dr d_0_972
theorem k_0_973 : xm_gi xm_cl0 973 = some xm_el0_973 := xm_gt d_0_973
theorem d_0_974 : List.drop 974 xm_cl0 = xm_cl0_974 := xm_dr d_0_973
theorem k_0_974 : xm_gi xm_cl0 974 = some xm_el0_974 := xm_gt d_0_974
theorem d_0_975 : List.drop 975 xm_cl0 = xm_cl0_975 := xm_dr d_0_974
theorem k_0_975 : xm_gi xm_cl0 975 = some xm_el0_975 := xm_gt d_0_975
theorem d_0_976 : List.drop 976 xm_cl0 = xm_cl0_976 := xm_dr d_0_975
theorem k_0_976 : xm_gi xm_cl0 976 = some xm_el0_976 := xm_gt d_0_976
theorem d_0_977 : List.drop 977 xm_cl0 = xm_cl0_977 := xm_dr d_0_976
theorem k_0_977 : xm_gi xm_cl0 977 = some xm_el0_977 := xm_gt d_0_977
theorem d_0_978 : List.drop 978 xm_cl0 = xm_cl0_978 := xm_dr d_0_977
theorem k_0_978 : xm_gi xm_cl0 978 = some xm_el0_978 := xm_gt d_0_978
theorem d_0_979 : List.drop 979 xm_cl0 = xm_cl0_979 := xm_dr d_0_978
theorem k_0_979 : xm_gi xm_cl0 979 = some xm_el0_979 := xm_gt d_0_979
theorem d_0_980 : List.drop 980 xm_cl0 = xm_cl0_980 := xm_dr d_0_979
theorem k_0_980 : xm_gi xm_cl0 980 = some xm_el0_980 := xm_gt d_0_980
theorem d_0_981 : List.drop 981 xm_cl0 = xm_cl0_981 := xm_dr d_0_980
theorem k_0_981 : xm_gi xm_cl0 981 = some xm_el0_981 := xm_gt d_0_981
theorem d_0_982 : List.drop 982 xm_cl0 = xm_cl0_982 := xm_dr d_0_981
theorem k_0_982 : xm_gi xm_cl0 982 = some xm_el0_982 := xm_gt d_0_982
theorem d_0_983 : List.drop 983 xm_cl0 = xm_cl0_983 := xm_dr d_0_982
theorem k_0_983 : xm_gi xm_cl0 983 = some xm_el0_983 := xm_gt d_0_983
theorem d_0_984 : List.drop 984 xm_cl0 = xm_cl0_984 := xm_dr d_0_983
theorem k_0_984 : xm_gi xm_cl0 984 = some xm_el0_984 := xm_gt d_0_984
theorem d_0_985 : List.drop 985 xm_cl0 = xm_cl0_985 := xm_dr d_0_984
theorem k_0_985 : xm_gi xm_cl0 985 = some xm_el0_985 := xm_gt d_0_985
theorem d_0_986 : List.drop 986 xm_cl0 = xm_cl0_986 := xm_dr d_0_985
theorem k_0_986 : xm_gi xm_cl0 986 = some xm_el0_986 := xm_gt d_0_986
theorem d_0_987 : List.drop 987 xm_cl0 = xm_cl0_987 := xm_dr d_0_986
theorem k_0_987 : xm_gi xm_cl0 987 = some xm_el0_987 := xm_gt d_0_987
theorem d_0_988 : List.drop 988 xm_cl0 = xm_cl0_988 := xm_dr d_0_987
theorem k_0_988 : xm_gi xm_cl0 988 = some xm_el0_988 := xm_gt d_0_988
theorem d_0_989 : List.drop 989 xm_cl0 = xm_cl0_989 := xm_dr d_0_988
theorem k_0_989 : xm_gi xm_cl0 989 = some xm_el0_989 := xm_gt d_0_989
theorem d_0_990 : List.drop 990 xm_cl0 = xm_cl0_990 := xm_dr d_0_989
theorem k_0_990 : xm_gi xm_cl0 990 = some xm_el0_990 := xm_gt d_0_990
theorem d_0_991 : List.drop 991 xm_cl0 = xm_cl0_991 := xm_dr d_0_990
theorem k_0_991 : xm_gi xm_cl0 991 = some xm_el0_991 := xm_gt d_0_991
theorem d_0_992 : List.drop 992 xm_cl0 = xm_cl0_992 := xm_dr d_0_991
theorem k_0_992 : xm_gi xm_cl0 992 = some xm_el0_992 := xm_gt d_0_992
theorem d_0_993 : List.drop 993 xm_cl0 = xm_cl0_993 := xm_dr d_0_992
theorem k_0_993 : xm_gi xm_cl0 993 = some xm_el0_993 := xm_gt d_0_993
theorem d_0_994 : List.drop 994 xm_cl0 = xm_cl0_994 := xm_dr d_0_993
theorem k_0_994 : xm_gi xm_cl0 994 = some xm_el0_994 := xm_gt d_0_994
theorem d_0_995 : List.drop 995 xm_cl0 = xm_cl0_995 := xm_dr d_0_994
theorem k_0_995 : xm_gi xm_cl0 995 = some xm_el0_995 := xm_gt d_0_995
theorem d_0_996 : List.drop 996 xm_cl0 = xm_cl0_996 := xm_dr d_0_995
theorem k_0_996 : xm_gi xm_cl0 996 = some xm_el0_996 := xm_gt d_0_996
theorem d_0_997 : List.drop 997 xm_cl0 = xm_cl0_997 := xm_dr d_0_996
theorem k_0_997 : xm_gi xm_cl0 997 = some xm_el0_997 := xm_gt d_0_997
theorem d_0_998 : List.drop 998 xm_cl0 = xm_cl0_998 := xm_dr d_0_997
theorem k_0_998 : xm_gi xm_cl0 998 = some xm_el0_998 := xm_gt d_0_998
theorem d_0_999 : List.drop 999 xm_cl0 = xm_cl0_999 := xm_dr d_0_998
theorem k_0_999 : xm_gi xm_cl0 999 = some xm_el0_999 := xm_gt d_0_999
theorem d_0_1000 : List.drop 1000 xm_cl0 = xm_cl0_1000 := xm_dr d_0_999
theorem k_0_1000 : xm_gi xm_cl0 1000 = some xm_el0_1000 := xm_gt d_0_1000
theorem d_0_1001 : List.drop 1001 xm_cl0 = xm_cl0_1001 := xm_dr d_0_1000
theorem k_0_1001 : xm_gi xm_cl0 1001 = some xm_el0_1001 := xm_gt d_0_1001
theorem d_0_1002 : List.drop 1002 xm_cl0 = xm_cl0_1002 := xm_dr d_0_1001
theorem k_0_1002 : xm_gi xm_cl0 1002 = some xm_el0_1002 := xm_gt d_0_1002
theorem d_0_1003 : List.drop 1003 xm_cl0 = xm_cl0_1003 := xm_dr d_0_1002
theorem k_0_1003 : xm_gi xm_cl0 1003 = some xm_el0_1003 := xm_gt d_0_1003
theorem d_0_1004 : List.drop 1004 xm_cl0 = xm_cl0_1004 := xm_dr d_0_1003
theorem k_0_1004 : xm_gi xm_cl0 1004 = some xm_el0_1004 := xm_gt d_0_1004
theorem d_0_1005 : List.drop 1005 xm_cl0 = xm_cl0_1005 := xm_dr d_0_1004
theorem k_0_1005 : xm_gi xm_cl0 1005 = some xm_el0_1005 := xm_gt d_0_1005
theorem d_0_1006 : List.drop 1006 xm_cl0 = xm_cl0_1006 := xm_dr d_0_1005
theorem k_0_1006 : xm_gi xm_cl0 1006 = some xm_el0_1006 := xm_gt d_0_1006
theorem d_0_1007 : List.drop 1007 xm_cl0 = xm_cl0_1007 := xm_dr d_0_1006
theorem k_0_1007 : xm_gi xm_cl0 1007 = some xm_el0_1007 := xm_gt d_0_1007
theorem d_0_1008 : List.drop 1008 xm_cl0 = xm_cl0_1008 := xm_dr d_0_1007
theorem k_0_1008 : xm_gi xm_cl0 1008 = some xm_el0_1008 := xm_gt d_0_1008
theorem d_0_1009 : List.drop 1009 xm_cl0 = xm_cl0_1009 := xm_dr d_0_1008
theorem k_0_1009 : xm_gi xm_cl0 1009 = some xm_el0_1009 := xm_gt d_0_1009
theorem d_0_1010 : List.drop 1010 xm_cl0 = xm_cl0_1010 := xm_dr d_0_1009
theorem k_0_1010 : xm_gi xm_cl0 1010 = some xm_el0_1010 := xm_gt d_0_1010
theorem d_0_1011 : List.drop 1011 xm_cl0 = xm_cl0_1011 := xm_dr d_0_1010
theorem k_0_1011 : xm_gi xm_cl0 1011 = some xm_el0_1011 := xm_gt d_0_1011
theorem d_0_1012 : List.drop 1012 xm_cl0 = xm_cl0_1012 := xm_dr d_0_1011
theorem k_0_1012 : xm_gi xm_cl0 1012 = some xm_el0_1012 := xm_gt d_0_1012
theorem d_0_1013 : List.drop 1013 xm_cl0 = xm_cl0_1013 := xm_dr d_0_1012
theorem k_0_1013 : xm_gi xm_cl0 1013 = some xm_el0_1013 := xm_gt d_0_1013
theorem d_0_1014 : List.drop 1014 xm_cl0 = xm_cl0_1014 := xm_dr d_0_1013
theorem k_0_1014 : xm_gi xm_cl0 1014 = some xm_el0_1014 := xm_gt d_0_1014
theorem d_0_1015 : List.drop 1015 xm_cl0 = xm_cl0_1015 := xm_dr d_0_1014
theorem k_0_1015 : xm_gi xm_cl0 1015 = some xm_el0_1015 := xm_gt d_0_1015
theorem d_0_1016 : List.drop 1016 xm_cl0 = xm_cl0_1016 := xm_dr d_0_1015
theorem k_0_1016 : xm_gi xm_cl0 1016 = some xm_el0_1016 := xm_gt d_0_1016
theorem d_0_1017 : List.drop 1017 xm_cl0 = xm_cl0_1017 := xm_dr d_0_1016
theorem k_0_1017 : xm_gi xm_cl0 1017 = some xm_el0_1017 := xm_gt d_0_1017
theorem d_0_1018 : List.drop 1018 xm_cl0 = xm_cl0_1018 := xm_dr d_0_1017
theorem k_0_1018 : xm_gi xm_cl0 1018 = some xm_el0_1018 := xm_gt d_0_1018
theorem xb_0_0 {sc : List Int} {f : Nat → List xm_V → xm_W → xm_R} {w : xm_W} {Q : Option xm_V × xm_W → Prop} {x0 : Nat}
  (h : xm_Ov (f 101 [.inr (.inl (some w.length))] (w ++ [.inr (.inr (8, (xm_kd 8).map xm_dflt))])) (fun w1 => xm_Ov (f 1101 [.inr (.inl (some w1.length))] (w1 ++ [.inr (.inr (9, (xm_kd 9).map xm_dflt))])) (fun w2 => xm_EQ (xm_old sc) xm_sta f xm_cl0 10 [some (.inr (.inl (some x0))), some (.inr (.inl (some w.length))), some (.inr (.inl (some w1.length))), some (.inl 0)] [] w2 Q))) :
  xm_EQ (xm_old sc) xm_sta f xm_cl0 0 [some (.inr (.inl (some x0))), none, none, none] [] w Q :=
  (xq_new k_0_0 (xq_dupr k_0_1 (xq_invi0 k_0_2 xr_101 rfl rfl rfl h (fun w1 h => (xq_astore_n k_0_3 rfl (xq_new k_0_4 (xq_dupr k_0_5 (xq_invi0 k_0_6 xr_1101 rfl rfl rfl h (fun w2 h => (xq_astore_n k_0_7 rfl (xq_iconst k_0_8 (xq_istore_n k_0_9 rfl h))))))))))))
theorem xb_0_10 {sc : List Int} {f : Nat → List xm_V → xm_W → xm_R} {w : xm_W} {Q : Option xm_V × xm_W → Prop} {x0 : Nat} {x1 : Option Nat} {x2 : Option Nat} {x3 : Int}
  (h : xm_O (xm_len (xm_old sc) w x0) (fun (n1 : Nat) => if ((xm_w (((n1 : Nat) : Int) - 6)) : Int) < x3 then (Q (some (.inl 1), w)) else (xm_O (xm_ints (xm_old sc) w x0) (fun l2 => xm_O (xm_at l2 x3) (fun z3 => if ((xm_and z3 63) : Int) = 0 then (xm_O (xm_ints (xm_old sc) w x0) (fun l428 => xm_O (xm_at l428 (xm_w (x3 + 1))) (fun z429 => xm_O (xm_ints (xm_old sc) w x0) (fun l430 => xm_O (xm_at l430 (xm_w (x3 + 2))) (fun z431 => xm_Oi (f 102 [.inr (.inl x1), .inl z429, .inl z431] w) (fun z433 w432 => xm_O (xm_ints (xm_old sc) w432 x0) (fun l434 => xm_O (xm_at l434 (xm_w (x3 + 1))) (fun z435 => xm_O (xm_ints (xm_old sc) w432 x0) (fun l436 => xm_O (xm_at l436 (xm_w (x3 + 2))) (fun z437 => xm_Oi (f 1140 [.inr (.inl x2), .inl z435, .inl z437] w432) (fun z439 w438 => if (z433 : Int) = z439 then (xm_EQ (xm_old sc) xm_sta f xm_cl0 1015 [some (.inr (.inl (some x0))), some (.inr (.inl x1)), some (.inr (.inl x2)), some (.inl x3)] [] w438 Q) else (Q (some (.inl 0), w438))))))))))))) else (if ((xm_and z3 63) : Int) = 1 then (xm_O (xm_ints (xm_old sc) w x0) (fun l420 => xm_O (xm_at l420 (xm_w (x3 + 1))) (fun z421 => xm_Oi (f 103 [.inr (.inl x1), .inl z421] w) (fun z423 w422 => xm_O (xm_ints (xm_old sc) w422 x0) (fun l424 => xm_O (xm_at l424 (xm_w (x3 + 1))) (fun z425 => xm_Oi (f 1141 [.inr (.inl x2), .inl z425] w422) (fun z427 w426 => xm_EQ (xm_old sc) xm_sta f xm_cl0 1015 [some (.inr (.inl (some x0))), some (.inr (.inl x1)), some (.inr (.inl x2)), some (.inl x3)] [] w426 Q))))))) else (if ((xm_and z3 63) : Int) = 2 then (xm_O (xm_ints (xm_old sc) w x0) (fun l408 => xm_O (xm_at l408 (xm_w (x3 + 1))) (fun z409 => xm_O (xm_ints (xm_old sc) w x0) (fun l410 => xm_O (xm_at l410 (xm_w (x3 + 2))) (fun z411 => xm_Oi (f 104 [.inr (.inl x1), .inl z409, .inl z411] w) (fun z413 w412 => xm_O (xm_ints (xm_old sc) w412 x0) (fun l414 => xm_O (xm_at l414 (xm_w (x3 + 1))) (fun z415 => xm_O (xm_ints (xm_old sc) w412 x0) (fun l416 => xm_O (xm_at l416 (xm_w (x3 + 2))) (fun z417 => xm_Oi (f 1142 [.inr (.inl x2), .inl z415, .inl z417] w412) (fun z419 w418 => xm_EQ (xm_old sc) xm_sta f xm_cl0 1015 [some (.inr (.inl (some x0))), some (.inr (.inl x1)), some (.inr (.inl x2)), some (.inl x3)] [] w418 Q))))))))))) else (if ((xm_and z3 63) : Int) = 3 then (xm_O (xm_ints (xm_old sc) w x0) (fun l396 => xm_O (xm_at l396 (xm_w (x3 + 1))) (fun z397 => xm_O (xm_ints (xm_old sc) w x0) (fun l398 => xm_O (xm_at l398 (xm_w (x3 + 2))) (fun z399 => xm_Oi (f 105 [.inr (.inl x1), .inl z397, .inl z399] w) (fun z401 w400 => xm_O (xm_ints (xm_old sc) w400 x0) (fun l402 => xm_O (xm_at l402 (xm_w (x3 + 1))) (fun z403 => xm_O (xm_ints (xm_old sc) w400 x0) (fun l404 => xm_O (xm_at l404 (xm_w (x3 + 2))) (fun z405 => xm_Oi (f 1145 [.inr (.inl x2), .inl z403, .inl z405] w400) (fun z407 w406 => xm_EQ (xm_old sc) xm_sta f xm_cl0 1015 [some (.inr (.inl (some x0))), some (.inr (.inl x1)), some (.inr (.inl x2)), some (.inl x3)] [] w406 Q))))))))))) else (if ((xm_and z3 63) : Int) = 4 then (xm_O (xm_ints (xm_old sc) w x0) (fun l384 => xm_O (xm_at l384 (xm_w (x3 + 1))) (fun z385 => xm_O (xm_ints (xm_old sc) w x0) (fun l386 => xm_O (xm_at l386 (xm_w (x3 + 2))) (fun z387 => xm_Oi (f 106 [.inr (.inl x1), .inl z385, .inl z387] w) (fun z389 w388 => xm_O (xm_ints (xm_old sc) w388 x0) (fun l390 => xm_O (xm_at l390 (xm_w (x3 + 1))) (fun z391 => xm_O (xm_ints (xm_old sc) w388 x0) (fun l392 => xm_O (xm_at l392 (xm_w (x3 + 2))) (fun z393 => xm_Oi (f 1147 [.inr (.inl x2), .inl z391, .inl z393] w388) (fun z395 w394 => xm_EQ (xm_old sc) xm_sta f xm_cl0 1015 [some (.inr (.inl (some x0))), some (.inr (.inl x1)), some (.inr (.inl x2)), some (.inl x3)] [] w394 Q))))))))))) else (if ((xm_and z3 63) : Int) = 5 then (xm_O (xm_ints (xm_old sc) w x0) (fun l368 => xm_O (xm_at l368 (xm_w (x3 + 1))) (fun z369 => xm_O (xm_ints (xm_old sc) w x0) (fun l370 => xm_O (xm_at l370 (xm_w (x3 + 2))) (fun z371 => xm_O (xm_ints (xm_old sc) w x0) (fun l372 => xm_O (xm_at l372 (xm_w (x3 + 3))) (fun z373 => xm_Oi (f 107 [.inr (.inl x1), .inl z369, .inl z371, .inl z373] w) (fun z375 w374 => xm_O (xm_ints (xm_old sc) w374 x0) (fun l376 => xm_O (xm_at l376 (xm_w (x3 + 1))) (fun z377 => xm_O (xm_ints (xm_old sc) w374 x0) (fun l378 => xm_O (xm_at l378 (xm_w (x3 + 2))) (fun z379 => xm_O (xm_ints (xm_old sc) w374 x0) (fun l380 => xm_O (xm_at l380 (xm_w (x3 + 3))) (fun z381 => xm_Oi (f 1149 [.inr (.inl x2), .inl z377, .inl z379, .inl z381] w374) (fun z383 w382 => xm_EQ (xm_old sc) xm_sta f xm_cl0 1015 [some (.inr (.inl (some x0))), some (.inr (.inl x1)), some (.inr (.inl x2)), some (.inl x3)] [] w382 Q))))))))))))))) else (if ((xm_and z3 63) : Int) = 6 then (xm_O (xm_ints (xm_old sc) w x0) (fun l356 => xm_O (xm_at l356 (xm_w (x3 + 1))) (fun z357 => xm_O (xm_ints (xm_old sc) w x0) (fun l358 => xm_O (xm_at l358 (xm_w (x3 + 2))) (fun z359 => xm_Oi (f 108 [.inr (.inl x1), .inl z357, .inl z359] w) (fun z361 w360 => xm_O (xm_ints (xm_old sc) w360 x0) (fun l362 => xm_O (xm_at l362 (xm_w (x3 + 1))) (fun z363 => xm_O (xm_ints (xm_old sc) w360 x0) (fun l364 => xm_O (xm_at l364 (xm_w (x3 + 2))) (fun z365 => xm_Oi (f 1152 [.inr (.inl x2), .inl z363, .inl z365] w360) (fun z367 w366 => xm_EQ (xm_old sc) xm_sta f xm_cl0 1015 [some (.inr (.inl (some x0))), some (.inr (.inl x1)), some (.inr (.inl x2)), some (.inl x3)] [] w366 Q))))))))))) else (if ((xm_and z3 63) : Int) = 7 then (xm_O (xm_ints (xm_old sc) w x0) (fun l348 => xm_O (xm_at l348 (xm_w (x3 + 1))) (fun z349 => xm_Oi (f 109 [.inr (.inl x1), .inl z349] w) (fun z351 w350 => xm_O (xm_ints (xm_old sc) w350 x0) (fun l352 => xm_O (xm_at l352 (xm_w (x3 + 1))) (fun z353 => xm_Oi (f 1153 [.inr (.inl x2), .inl z353] w350) (fun z355 w354 => xm_EQ (xm_old sc) xm_sta f xm_cl0 1015 [some (.inr (.inl (some x0))), some (.inr (.inl x1)), some (.inr (.inl x2)), some (.inl x3)] [] w354 Q))))))) else (if ((xm_and z3 63) : Int) = 8 then (xm_O (xm_ints (xm_old sc) w x0) (fun l332 => xm_O (xm_at l332 (xm_w (x3 + 1))) (fun z333 => xm_O (xm_ints (xm_old sc) w x0) (fun l334 => xm_O (xm_at l334 (xm_w (x3 + 2))) (fun z335 => xm_O (xm_ints (xm_old sc) w x0) (fun l336 => xm_O (xm_at l336 (xm_w (x3 + 3))) (fun z337 => xm_Oi (f 110 [.inr (.inl x1), .inr (.inr ((xm_lshl (Int32.ofInt z333).toInt64 32) ||| ((Int32.ofInt z335).toInt64 &&& (Int64.ofInt 4294967295)))), .inl z337] w) (fun z339 w338 => xm_O (xm_ints (xm_old sc) w338 x0) (fun l340 => xm_O (xm_at l340 (xm_w (x3 + 1))) (fun z341 => xm_O (xm_ints (xm_old sc) w338 x0) (fun l342 => xm_O (xm_at l342 (xm_w (x3 + 2))) (fun z343 => xm_O (xm_ints (xm_old sc) w338 x0) (fun l344 => xm_O (xm_at l344 (xm_w (x3 + 3))) (fun z345 => xm_Oi (f 1114 [.inr (.inl x2), .inr (.inr ((xm_lshl (Int32.ofInt z341).toInt64 32) ||| ((Int32.ofInt z343).toInt64 &&& (Int64.ofInt 4294967295)))), .inl z345] w338) (fun z347 w346 => xm_EQ (xm_old sc) xm_sta f xm_cl0 1015 [some (.inr (.inl (some x0))), some (.inr (.inl x1)), some (.inr (.inl x2)), some (.inl x3)] [] w346 Q))))))))))))))) else (if ((xm_and z3 63) : Int) = 9 then (xm_O (xm_ints (xm_old sc) w x0) (fun l324 => xm_O (xm_at l324 (xm_w (x3 + 1))) (fun z325 => xm_Oi (f 111 [.inr (.inl x1), .inl z325] w) (fun z327 w326 => xm_O (xm_ints (xm_old sc) w326 x0) (fun l328 => xm_O (xm_at l328 (xm_w (x3 + 1))) (fun z329 => xm_Oi (f 1126 [.inr (.inl x2), .inl z329] w326) (fun z331 w330 => xm_EQ (xm_old sc) xm_sta f xm_cl0 1015 [some (.inr (.inl (some x0))), some (.inr (.inl x1)), some (.inr (.inl x2)), some (.inl x3)] [] w330 Q))))))) else (if ((xm_and z3 63) : Int) = 10 then (xm_O (xm_ints (xm_old sc) w x0) (fun l316 => xm_O (xm_at l316 (xm_w (x3 + 1))) (fun z317 => xm_Oi (f 112 [.inr (.inl x1), .inl z317] w) (fun z319 w318 => xm_O (xm_ints (xm_old sc) w318 x0) (fun l320 => xm_O (xm_at l320 (xm_w (x3 + 1))) (fun z321 => xm_Oi (f 1127 [.inr (.inl x2), .inl z321] w318) (fun z323 w322 => xm_EQ (xm_old sc) xm_sta f xm_cl0 1015 [some (.inr (.inl (some x0))), some (.inr (.inl x1)), some (.inr (.inl x2)), some (.inl x3)] [] w322 Q))))))) else (if ((xm_and z3 63) : Int) = 11 then (xm_O (xm_ints (xm_old sc) w x0) (fun l308 => xm_O (xm_at l308 (xm_w (x3 + 1))) (fun z309 => xm_Oi (f 113 [.inr (.inl x1), .inl z309] w) (fun z311 w310 => xm_O (xm_ints (xm_old sc) w310 x0) (fun l312 => xm_O (xm_at l312 (xm_w (x3 + 1))) (fun z313 => xm_Oi (f 1158 [.inr (.inl x2), .inl z313] w310) (fun z315 w314 => xm_EQ (xm_old sc) xm_sta f xm_cl0 1015 [some (.inr (.inl (some x0))), some (.inr (.inl x1)), some (.inr (.inl x2)), some (.inl x3)] [] w314 Q))))))) else (if ((xm_and z3 63) : Int) = 12 then (xm_O (xm_ints (xm_old sc) w x0) (fun l300 => xm_O (xm_at l300 (xm_w (x3 + 1))) (fun z301 => xm_Oi (f 114 [.inr (.inl x1), .inl z301] w) (fun z303 w302 => xm_O (xm_ints (xm_old sc) w302 x0) (fun l304 => xm_O (xm_at l304 (xm_w (x3 + 1))) (fun z305 => xm_Oi (f 1160 [.inr (.inl x2), .inl z305] w302) (fun z307 w306 => xm_EQ (xm_old sc) xm_sta f xm_cl0 1015 [some (.inr (.inl (some x0))), some (.inr (.inl x1)), some (.inr (.inl x2)), some (.inl x3)] [] w306 Q))))))) else (if ((xm_and z3 63) : Int) = 13 then (xm_O (xm_ints (xm_old sc) w x0) (fun l292 => xm_O (xm_at l292 (xm_w (x3 + 1))) (fun z293 => xm_Oi (f 115 [.inr (.inl x1), .inl z293] w) (fun z295 w294 => xm_O (xm_ints (xm_old sc) w294 x0) (fun l296 => xm_O (xm_at l296 (xm_w (x3 + 1))) (fun z297 => xm_Oi (f 1161 [.inr (.inl x2), .inl z297] w294) (fun z299 w298 => xm_EQ (xm_old sc) xm_sta f xm_cl0 1015 [some (.inr (.inl (some x0))), some (.inr (.inl x1)), some (.inr (.inl x2)), some (.inl x3)] [] w298 Q))))))) else (if ((xm_and z3 63) : Int) = 14 then (xm_O (xm_ints (xm_old sc) w x0) (fun l280 => xm_O (xm_at l280 (xm_w (x3 + 1))) (fun z281 => xm_O (xm_ints (xm_old sc) w x0) (fun l282 => xm_O (xm_at l282 (xm_w (x3 + 2))) (fun z283 => xm_Oi (f 116 [.inr (.inl x1), .inl z281, .inl z283] w) (fun z285 w284 => xm_O (xm_ints (xm_old sc) w284 x0) (fun l286 => xm_O (xm_at l286 (xm_w (x3 + 1))) (fun z287 => xm_O (xm_ints (xm_old sc) w284 x0) (fun l288 => xm_O (xm_at l288 (xm_w (x3 + 2))) (fun z289 => xm_Oi (f 1162 [.inr (.inl x2), .inl z287, .inl z289] w284) (fun z291 w290 => xm_EQ (xm_old sc) xm_sta f xm_cl0 1015 [some (.inr (.inl (some x0))), some (.inr (.inl x1)), some (.inr (.inl x2)), some (.inl x3)] [] w290 Q))))))))))) else (if ((xm_and z3 63) : Int) = 15 then (xm_O (xm_ints (xm_old sc) w x0) (fun l268 => xm_O (xm_at l268 (xm_w (x3 + 1))) (fun z269 => xm_O (xm_ints (xm_old sc) w x0) (fun l270 => xm_O (xm_at l270 (xm_w (x3 + 2))) (fun z271 => xm_Oi (f 117 [.inr (.inl x1), .inl z269, .inl z271] w) (fun z273 w272 => xm_O (xm_ints (xm_old sc) w272 x0) (fun l274 => xm_O (xm_at l274 (xm_w (x3 + 1))) (fun z275 => xm_O (xm_ints (xm_old sc) w272 x0) (fun l276 => xm_O (xm_at l276 (xm_w (x3 + 2))) (fun z277 => xm_Oi (f 1168 [.inr (.inl x2), .inl z275, .inl z277] w272) (fun z279 w278 => xm_EQ (xm_old sc) xm_sta f xm_cl0 1015 [some (.inr (.inl (some x0))), some (.inr (.inl x1)), some (.inr (.inl x2)), some (.inl x3)] [] w278 Q))))))))))) else (if ((xm_and z3 63) : Int) = 16 then (xm_O (xm_ints (xm_old sc) w x0) (fun l248 => xm_O (xm_at l248 (xm_w (x3 + 1))) (fun z249 => xm_O (xm_ints (xm_old sc) w x0) (fun l250 => xm_O (xm_at l250 (xm_w (x3 + 2))) (fun z251 => xm_O (xm_ints (xm_old sc) w x0) (fun l252 => xm_O (xm_at l252 (xm_w (x3 + 3))) (fun z253 => xm_O (xm_ints (xm_old sc) w x0) (fun l254 => xm_O (xm_at l254 (xm_w (x3 + 4))) (fun z255 => xm_Oi (f 118 [.inr (.inl x1), .inl z249, .inl z251, .inl z253, .inl z255] w) (fun z257 w256 => xm_O (xm_ints (xm_old sc) w256 x0) (fun l258 => xm_O (xm_at l258 (xm_w (x3 + 1))) (fun z259 => xm_O (xm_ints (xm_old sc) w256 x0) (fun l260 => xm_O (xm_at l260 (xm_w (x3 + 2))) (fun z261 => xm_O (xm_ints (xm_old sc) w256 x0) (fun l262 => xm_O (xm_at l262 (xm_w (x3 + 3))) (fun z263 => xm_O (xm_ints (xm_old sc) w256 x0) (fun l264 => xm_O (xm_at l264 (xm_w (x3 + 4))) (fun z265 => xm_Oi (f 1170 [.inr (.inl x2), .inl z259, .inl z261, .inl z263, .inl z265] w256) (fun z267 w266 => xm_EQ (xm_old sc) xm_sta f xm_cl0 1015 [some (.inr (.inl (some x0))), some (.inr (.inl x1)), some (.inr (.inl x2)), some (.inl x3)] [] w266 Q))))))))))))))))))) else (if ((xm_and z3 63) : Int) = 17 then (xm_O (xm_ints (xm_old sc) w x0) (fun l232 => xm_O (xm_at l232 (xm_w (x3 + 1))) (fun z233 => xm_O (xm_ints (xm_old sc) w x0) (fun l234 => xm_O (xm_at l234 (xm_w (x3 + 2))) (fun z235 => xm_O (xm_ints (xm_old sc) w x0) (fun l236 => xm_O (xm_at l236 (xm_w (x3 + 3))) (fun z237 => xm_Oi (f 119 [.inr (.inl x1), .inl z233, .inl z235, .inl z237] w) (fun z239 w238 => xm_O (xm_ints (xm_old sc) w238 x0) (fun l240 => xm_O (xm_at l240 (xm_w (x3 + 1))) (fun z241 => xm_O (xm_ints (xm_old sc) w238 x0) (fun l242 => xm_O (xm_at l242 (xm_w (x3 + 2))) (fun z243 => xm_O (xm_ints (xm_old sc) w238 x0) (fun l244 => xm_O (xm_at l244 (xm_w (x3 + 3))) (fun z245 => xm_Oi (f 1172 [.inr (.inl x2), .inl z241, .inl z243, .inl z245] w238) (fun z247 w246 => xm_EQ (xm_old sc) xm_sta f xm_cl0 1015 [some (.inr (.inl (some x0))), some (.inr (.inl x1)), some (.inr (.inl x2)), some (.inl x3)] [] w246 Q))))))))))))))) else (if ((xm_and z3 63) : Int) = 18 then (xm_O (xm_ints (xm_old sc) w x0) (fun l216 => xm_O (xm_at l216 (xm_w (x3 + 1))) (fun z217 => xm_O (xm_ints (xm_old sc) w x0) (fun l218 => xm_O (xm_at l218 (xm_w (x3 + 2))) (fun z219 => xm_O (xm_ints (xm_old sc) w x0) (fun l220 => xm_O (xm_at l220 (xm_w (x3 + 3))) (fun z221 => xm_Oi (f 120 [.inr (.inl x1), .inl z217, .inl z219, .inl z221] w) (fun z223 w222 => xm_O (xm_ints (xm_old sc) w222 x0) (fun l224 => xm_O (xm_at l224 (xm_w (x3 + 1))) (fun z225 => xm_O (xm_ints (xm_old sc) w222 x0) (fun l226 => xm_O (xm_at l226 (xm_w (x3 + 2))) (fun z227 => xm_O (xm_ints (xm_old sc) w222 x0) (fun l228 => xm_O (xm_at l228 (xm_w (x3 + 3))) (fun z229 => xm_Oi (f 1173 [.inr (.inl x2), .inl z225, .inl z227, .inl z229] w222) (fun z231 w230 => xm_EQ (xm_old sc) xm_sta f xm_cl0 1015 [some (.inr (.inl (some x0))), some (.inr (.inl x1)), some (.inr (.inl x2)), some (.inl x3)] [] w230 Q))))))))))))))) else (if ((xm_and z3 63) : Int) = 19 then (xm_O (xm_ints (xm_old sc) w x0) (fun l200 => xm_O (xm_at l200 (xm_w (x3 + 1))) (fun z201 => xm_O (xm_ints (xm_old sc) w x0) (fun l202 => xm_O (xm_at l202 (xm_w (x3 + 2))) (fun z203 => xm_O (xm_ints (xm_old sc) w x0) (fun l204 => xm_O (xm_at l204 (xm_w (x3 + 3))) (fun z205 => xm_Oi (f 121 [.inr (.inl x1), .inl z201, .inl z203, .inl z205] w) (fun z207 w206 => xm_O (xm_ints (xm_old sc) w206 x0) (fun l208 => xm_O (xm_at l208 (xm_w (x3 + 1))) (fun z209 => xm_O (xm_ints (xm_old sc) w206 x0) (fun l210 => xm_O (xm_at l210 (xm_w (x3 + 2))) (fun z211 => xm_O (xm_ints (xm_old sc) w206 x0) (fun l212 => xm_O (xm_at l212 (xm_w (x3 + 3))) (fun z213 => xm_Oi (f 1174 [.inr (.inl x2), .inl z209, .inl z211, .inl z213] w206) (fun z215 w214 => xm_EQ (xm_old sc) xm_sta f xm_cl0 1015 [some (.inr (.inl (some x0))), some (.inr (.inl x1)), some (.inr (.inl x2)), some (.inl x3)] [] w214 Q))))))))))))))) else (if ((xm_and z3 63) : Int) = 20 then (xm_O (xm_ints (xm_old sc) w x0) (fun l184 => xm_O (xm_at l184 (xm_w (x3 + 1))) (fun z185 => xm_O (xm_ints (xm_old sc) w x0) (fun l186 => xm_O (xm_at l186 (xm_w (x3 + 2))) (fun z187 => xm_O (xm_ints (xm_old sc) w x0) (fun l188 => xm_O (xm_at l188 (xm_w (x3 + 3))) (fun z189 => xm_Oi (f 122 [.inr (.inl x1), .inl z185, .inl z187, .inl z189] w) (fun z191 w190 => xm_O (xm_ints (xm_old sc) w190 x0) (fun l192 => xm_O (xm_at l192 (xm_w (x3 + 1))) (fun z193 => xm_O (xm_ints (xm_old sc) w190 x0) (fun l194 => xm_O (xm_at l194 (xm_w (x3 + 2))) (fun z195 => xm_O (xm_ints (xm_old sc) w190 x0) (fun l196 => xm_O (xm_at l196 (xm_w (x3 + 3))) (fun z197 => xm_Oi (f 1176 [.inr (.inl x2), .inl z193, .inl z195, .inl z197] w190) (fun z199 w198 => xm_EQ (xm_old sc) xm_sta f xm_cl0 1015 [some (.inr (.inl (some x0))), some (.inr (.inl x1)), some (.inr (.inl x2)), some (.inl x3)] [] w198 Q))))))))))))))) else (if ((xm_and z3 63) : Int) = 21 then (xm_O (xm_ints (xm_old sc) w x0) (fun l172 => xm_O (xm_at l172 (xm_w (x3 + 1))) (fun z173 => xm_O (xm_ints (xm_old sc) w x0) (fun l174 => xm_O (xm_at l174 (xm_w (x3 + 2))) (fun z175 => xm_Oi (f 123 [.inr (.inl x1), .inl z173, .inl z175] w) (fun z177 w176 => xm_O (xm_ints (xm_old sc) w176 x0) (fun l178 => xm_O (xm_at l178 (xm_w (x3 + 1))) (fun z179 => xm_O (xm_ints (xm_old sc) w176 x0) (fun l180 => xm_O (xm_at l180 (xm_w (x3 + 2))) (fun z181 => xm_Oi (f 1178 [.inr (.inl x2), .inl z179, .inl z181] w176) (fun z183 w182 => xm_EQ (xm_old sc) xm_sta f xm_cl0 1015 [some (.inr (.inl (some x0))), some (.inr (.inl x1)), some (.inr (.inl x2)), some (.inl x3)] [] w182 Q))))))))))) else (if ((xm_and z3 63) : Int) = 22 then (xm_O (xm_ints (xm_old sc) w x0) (fun l156 => xm_O (xm_at l156 (xm_w (x3 + 1))) (fun z157 => xm_O (xm_ints (xm_old sc) w x0) (fun l158 => xm_O (xm_at l158 (xm_w (x3 + 2))) (fun z159 => xm_O (xm_ints (xm_old sc) w x0) (fun l160 => xm_O (xm_at l160 (xm_w (x3 + 3))) (fun z161 => xm_Oi (f 124 [.inr (.inl x1), .inl z157, .inl z159, .inl z161] w) (fun z163 w162 => xm_O (xm_ints (xm_old sc) w162 x0) (fun l164 => xm_O (xm_at l164 (xm_w (x3 + 1))) (fun z165 => xm_O (xm_ints (xm_old sc) w162 x0) (fun l166 => xm_O (xm_at l166 (xm_w (x3 + 2))) (fun z167 => xm_O (xm_ints (xm_old sc) w162 x0) (fun l168 => xm_O (xm_at l168 (xm_w (x3 + 3))) (fun z169 => xm_Oi (f 1180 [.inr (.inl x2), .inl z165, .inl z167, .inl z169] w162) (fun z171 w170 => xm_EQ (xm_old sc) xm_sta f xm_cl0 1015 [some (.inr (.inl (some x0))), some (.inr (.inl x1)), some (.inr (.inl x2)), some (.inl x3)] [] w170 Q))))))))))))))) else (if ((xm_and z3 63) : Int) = 23 then (xm_O (xm_ints (xm_old sc) w x0) (fun l144 => xm_O (xm_at l144 (xm_w (x3 + 1))) (fun z145 => xm_O (xm_ints (xm_old sc) w x0) (fun l146 => xm_O (xm_at l146 (xm_w (x3 + 2))) (fun z147 => xm_Oi (f 125 [.inr (.inl x1), .inl z145, .inl z147] w) (fun z149 w148 => xm_O (xm_ints (xm_old sc) w148 x0) (fun l150 => xm_O (xm_at l150 (xm_w (x3 + 1))) (fun z151 => xm_O (xm_ints (xm_old sc) w148 x0) (fun l152 => xm_O (xm_at l152 (xm_w (x3 + 2))) (fun z153 => xm_Oi (f 1185 [.inr (.inl x2), .inl z151, .inl z153] w148) (fun z155 w154 => xm_EQ (xm_old sc) xm_sta f xm_cl0 1015 [some (.inr (.inl (some x0))), some (.inr (.inl x1)), some (.inr (.inl x2)), some (.inl x3)] [] w154 Q))))))))))) else (if ((xm_and z3 63) : Int) = 24 then (xm_O (xm_ints (xm_old sc) w x0) (fun l128 => xm_O (xm_at l128 (xm_w (x3 + 1))) (fun z129 => xm_O (xm_ints (xm_old sc) w x0) (fun l130 => xm_O (xm_at l130 (xm_w (x3 + 2))) (fun z131 => xm_O (xm_ints (xm_old sc) w x0) (fun l132 => xm_O (xm_at l132 (xm_w (x3 + 3))) (fun z133 => xm_Oi (f 126 [.inr (.inl x1), .inl z129, .inl z131, .inl z133] w) (fun z135 w134 => xm_O (xm_ints (xm_old sc) w134 x0) (fun l136 => xm_O (xm_at l136 (xm_w (x3 + 1))) (fun z137 => xm_O (xm_ints (xm_old sc) w134 x0) (fun l138 => xm_O (xm_at l138 (xm_w (x3 + 2))) (fun z139 => xm_O (xm_ints (xm_old sc) w134 x0) (fun l140 => xm_O (xm_at l140 (xm_w (x3 + 3))) (fun z141 => xm_Oi (f 1194 [.inr (.inl x2), .inl z137, .inl z139, .inl z141] w134) (fun z143 w142 => xm_EQ (xm_old sc) xm_sta f xm_cl0 1015 [some (.inr (.inl (some x0))), some (.inr (.inl x1)), some (.inr (.inl x2)), some (.inl x3)] [] w142 Q))))))))))))))) else (if ((xm_and z3 63) : Int) = 25 then (xm_O (xm_ints (xm_old sc) w x0) (fun l120 => xm_O (xm_at l120 (xm_w (x3 + 1))) (fun z121 => xm_Oi (f 127 [.inr (.inl x1), .inl z121] w) (fun z123 w122 => xm_O (xm_ints (xm_old sc) w122 x0) (fun l124 => xm_O (xm_at l124 (xm_w (x3 + 1))) (fun z125 => xm_Oi (f 1195 [.inr (.inl x2), .inl z125] w122) (fun z127 w126 => xm_EQ (xm_old sc) xm_sta f xm_cl0 1015 [some (.inr (.inl (some x0))), some (.inr (.inl x1)), some (.inr (.inl x2)), some (.inl x3)] [] w126 Q))))))) else (if ((xm_and z3 63) : Int) = 26 then (xm_O (xm_ints (xm_old sc) w x0) (fun l104 => xm_O (xm_at l104 (xm_w (x3 + 1))) (fun z105 => xm_O (xm_ints (xm_old sc) w x0) (fun l106 => xm_O (xm_at l106 (xm_w (x3 + 2))) (fun z107 => xm_O (xm_ints (xm_old sc) w x0) (fun l108 => xm_O (xm_at l108 (xm_w (x3 + 3))) (fun z109 => xm_Oi (f 128 [.inr (.inl x1), .inl z105, .inl z107, .inl z109] w) (fun z111 w110 => xm_O (xm_ints (xm_old sc) w110 x0) (fun l112 => xm_O (xm_at l112 (xm_w (x3 + 1))) (fun z113 => xm_O (xm_ints (xm_old sc) w110 x0) (fun l114 => xm_O (xm_at l114 (xm_w (x3 + 2))) (fun z115 => xm_O (xm_ints (xm_old sc) w110 x0) (fun l116 => xm_O (xm_at l116 (xm_w (x3 + 3))) (fun z117 => xm_Oi (f 1197 [.inr (.inl x2), .inl z113, .inl z115, .inl z117] w110) (fun z119 w118 => xm_EQ (xm_old sc) xm_sta f xm_cl0 1015 [some (.inr (.inl (some x0))), some (.inr (.inl x1)), some (.inr (.inl x2)), some (.inl x3)] [] w118 Q))))))))))))))) else (if ((xm_and z3 63) : Int) = 27 then (xm_O (xm_ints (xm_old sc) w x0) (fun l88 => xm_O (xm_at l88 (xm_w (x3 + 1))) (fun z89 => xm_O (xm_ints (xm_old sc) w x0) (fun l90 => xm_O (xm_at l90 (xm_w (x3 + 2))) (fun z91 => xm_O (xm_ints (xm_old sc) w x0) (fun l92 => xm_O (xm_at l92 (xm_w (x3 + 3))) (fun z93 => xm_Oi (f 129 [.inr (.inl x1), .inl z89, .inl z91, .inl z93] w) (fun z95 w94 => xm_O (xm_ints (xm_old sc) w94 x0) (fun l96 => xm_O (xm_at l96 (xm_w (x3 + 1))) (fun z97 => xm_O (xm_ints (xm_old sc) w94 x0) (fun l98 => xm_O (xm_at l98 (xm_w (x3 + 2))) (fun z99 => xm_O (xm_ints (xm_old sc) w94 x0) (fun l100 => xm_O (xm_at l100 (xm_w (x3 + 3))) (fun z101 => xm_Oi (f 1198 [.inr (.inl x2), .inl z97, .inl z99, .inl z101] w94) (fun z103 w102 => xm_EQ (xm_old sc) xm_sta f xm_cl0 1015 [some (.inr (.inl (some x0))), some (.inr (.inl x1)), some (.inr (.inl x2)), some (.inl x3)] [] w102 Q))))))))))))))) else (if ((xm_and z3 63) : Int) = 28 then (xm_O (xm_ints (xm_old sc) w x0) (fun l64 => xm_O (xm_at l64 (xm_w (x3 + 1))) (fun z65 => xm_O (xm_ints (xm_old sc) w x0) (fun l66 => xm_O (xm_at l66 (xm_w (x3 + 2))) (fun z67 => xm_O (xm_ints (xm_old sc) w x0) (fun l68 => xm_O (xm_at l68 (xm_w (x3 + 3))) (fun z69 => xm_O (xm_ints (xm_old sc) w x0) (fun l70 => xm_O (xm_at l70 (xm_w (x3 + 4))) (fun z71 => xm_O (xm_ints (xm_old sc) w x0) (fun l72 => xm_O (xm_at l72 (xm_w (x3 + 5))) (fun z73 => xm_Oi (f 130 [.inr (.inl x1), .inl z65, .inl z67, .inl z69, .inl z71, .inl z73] w) (fun z75 w74 => xm_O (xm_ints (xm_old sc) w74 x0) (fun l76 => xm_O (xm_at l76 (xm_w (x3 + 1))) (fun z77 => xm_O (xm_ints (xm_old sc) w74 x0) (fun l78 => xm_O (xm_at l78 (xm_w (x3 + 2))) (fun z79 => xm_O (xm_ints (xm_old sc) w74 x0) (fun l80 => xm_O (xm_at l80 (xm_w (x3 + 3))) (fun z81 => xm_O (xm_ints (xm_old sc) w74 x0) (fun l82 => xm_O (xm_at l82 (xm_w (x3 + 4))) (fun z83 => xm_O (xm_ints (xm_old sc) w74 x0) (fun l84 => xm_O (xm_at l84 (xm_w (x3 + 5))) (fun z85 => xm_Oi (f 1199 [.inr (.inl x2), .inl z77, .inl z79, .inl z81, .inl z83, .inl z85] w74) (fun z87 w86 => xm_EQ (xm_old sc) xm_sta f xm_cl0 1015 [some (.inr (.inl (some x0))), some (.inr (.inl x1)), some (.inr (.inl x2)), some (.inl x3)] [] w86 Q))))))))))))))))))))))) else (if ((xm_and z3 63) : Int) = 29 then (xm_O (xm_ints (xm_old sc) w x0) (fun l52 => xm_O (xm_at l52 (xm_w (x3 + 1))) (fun z53 => xm_O (xm_ints (xm_old sc) w x0) (fun l54 => xm_O (xm_at l54 (xm_w (x3 + 2))) (fun z55 => xm_Oi (f 131 [.inr (.inl x1), .inl z53, .inl z55] w) (fun z57 w56 => xm_O (xm_ints (xm_old sc) w56 x0) (fun l58 => xm_O (xm_at l58 (xm_w (x3 + 1))) (fun z59 => xm_O (xm_ints (xm_old sc) w56 x0) (fun l60 => xm_O (xm_at l60 (xm_w (x3 + 2))) (fun z61 => xm_Oi (f 1201 [.inr (.inl x2), .inl z59, .inl z61] w56) (fun z63 w62 => xm_EQ (xm_old sc) xm_sta f xm_cl0 1015 [some (.inr (.inl (some x0))), some (.inr (.inl x1)), some (.inr (.inl x2)), some (.inl x3)] [] w62 Q))))))))))) else (if ((xm_and z3 63) : Int) = 30 then (xm_O (xm_ints (xm_old sc) w x0) (fun l40 => xm_O (xm_at l40 (xm_w (x3 + 1))) (fun z41 => xm_O (xm_ints (xm_old sc) w x0) (fun l42 => xm_O (xm_at l42 (xm_w (x3 + 2))) (fun z43 => xm_Oi (f 132 [.inr (.inl x1), .inl z41, .inl z43] w) (fun z45 w44 => xm_O (xm_ints (xm_old sc) w44 x0) (fun l46 => xm_O (xm_at l46 (xm_w (x3 + 1))) (fun z47 => xm_O (xm_ints (xm_old sc) w44 x0) (fun l48 => xm_O (xm_at l48 (xm_w (x3 + 2))) (fun z49 => xm_Oi (f 1202 [.inr (.inl x2), .inl z47, .inl z49] w44) (fun z51 w50 => xm_EQ (xm_old sc) xm_sta f xm_cl0 1015 [some (.inr (.inl (some x0))), some (.inr (.inl x1)), some (.inr (.inl x2)), some (.inl x3)] [] w50 Q))))))))))) else (if ((xm_and z3 63) : Int) = 31 then (xm_Oi (f 133 [.inr (.inl x1)] w) (fun z37 w36 => xm_Oi (f 1203 [.inr (.inl x2)] w36) (fun z39 w38 => xm_EQ (xm_old sc) xm_sta f xm_cl0 1015 [some (.inr (.inl (some x0))), some (.inr (.inl x1)), some (.inr (.inl x2)), some (.inl x3)] [] w38 Q))) else (if ((xm_and z3 63) : Int) = 32 then (xm_Oi (f 134 [.inr (.inl x1)] w) (fun z33 w32 => xm_Oi (f 1204 [.inr (.inl x2)] w32) (fun z35 w34 => xm_EQ (xm_old sc) xm_sta f xm_cl0 1015 [some (.inr (.inl (some x0))), some (.inr (.inl x1)), some (.inr (.inl x2)), some (.inl x3)] [] w34 Q))) else (if ((xm_and z3 63) : Int) = 33 then (xm_O (xm_ints (xm_old sc) w x0) (fun l24 => xm_O (xm_at l24 (xm_w (x3 + 1))) (fun z25 => xm_Oi (f 135 [.inr (.inl x1), .inl z25] w) (fun z27 w26 => xm_O (xm_ints (xm_old sc) w26 x0) (fun l28 => xm_O (xm_at l28 (xm_w (x3 + 1))) (fun z29 => xm_Oi (f 1205 [.inr (.inl x2), .inl z29] w26) (fun z31 w30 => xm_EQ (xm_old sc) xm_sta f xm_cl0 1015 [some (.inr (.inl (some x0))), some (.inr (.inl x1)), some (.inr (.inl x2)), some (.inl x3)] [] w30 Q))))))) else (if ((xm_and z3 63) : Int) = 34 then (xm_Oi (f 136 [.inr (.inl x1)] w) (fun z21 w20 => xm_Oi (f 1206 [.inr (.inl x2)] w20) (fun z23 w22 => xm_EQ (xm_old sc) xm_sta f xm_cl0 1015 [some (.inr (.inl (some x0))), some (.inr (.inl x1)), some (.inr (.inl x2)), some (.inl x3)] [] w22 Q))) else (if ((xm_and z3 63) : Int) = 35 then (xm_O (xm_ints (xm_old sc) w x0) (fun l12 => xm_O (xm_at l12 (xm_w (x3 + 1))) (fun z13 => xm_Oi (f 137 [.inr (.inl x1), .inl z13] w) (fun z15 w14 => xm_O (xm_ints (xm_old sc) w14 x0) (fun l16 => xm_O (xm_at l16 (xm_w (x3 + 1))) (fun z17 => xm_Oi (f 1207 [.inr (.inl x2), .inl z17] w14) (fun z19 w18 => xm_EQ (xm_old sc) xm_sta f xm_cl0 1015 [some (.inr (.inl (some x0))), some (.inr (.inl x1)), some (.inr (.inl x2)), some (.inl x3)] [] w18 Q))))))) else (if ((xm_and z3 63) : Int) = 36 then (xm_O (xm_ints (xm_old sc) w x0) (fun l4 => xm_O (xm_at l4 (xm_w (x3 + 1))) (fun z5 => xm_Oi (f 138 [.inr (.inl x1), .inl z5] w) (fun z7 w6 => xm_O (xm_ints (xm_old sc) w6 x0) (fun l8 => xm_O (xm_at l8 (xm_w (x3 + 1))) (fun z9 => xm_Oi (f 1208 [.inr (.inl x2), .inl z9] w6) (fun z11 w10 => xm_EQ (xm_old sc) xm_sta f xm_cl0 1015 [some (.inr (.inl (some x0))), some (.inr (.inl x1)), some (.inr (.inl x2)), some (.inl x3)] [] w10 Q))))))) else (xm_EQ (xm_old sc) xm_sta f xm_cl0 1015 [some (.inr (.inl (some x0))), some (.inr (.inl x1)), some (.inr (.inl x2)), some (.inl x3)] [] w Q)))))))))))))))))))))))))))))))))))))))))) :
  xm_EQ (xm_old sc) xm_sta f xm_cl0 10 [some (.inr (.inl (some x0))), some (.inr (.inl x1)), some (.inr (.inl x2)), some (.inl x3)] [] w Q :=
  (xq_iload_n k_0_10 rfl (xq_aload_n k_0_11 rfl (xq_alen k_0_12 h (fun n1 h => (xq_bipush k_0_13 (xq_isub k_0_14 (xq_ic_gt k_0_15 h (fun h => (xq_iconst k_0_1017 (xq_ireturn k_0_1018 h))) (fun h => (xq_aload_n k_0_16 rfl (xq_iload_n k_0_17 rfl (xq_iaload k_0_18 h (fun l2 h => h) (fun l2 z3 h => (xq_bipush k_0_19 (xq_iand k_0_20 (xq_tsw k_0_21 (xs_swc h (fun h => (xq_aload_n k_0_22 rfl (xq_aload_n k_0_23 rfl (xq_iload_n k_0_24 rfl (xq_iconst k_0_25 (xq_iadd k_0_26 (xq_iaload k_0_27 h (fun l428 h => h) (fun l428 z429 h => (xq_aload_n k_0_28 rfl (xq_iload_n k_0_29 rfl (xq_iconst k_0_30 (xq_iadd k_0_31 (xq_iaload k_0_32 h (fun l430 h => h) (fun l430 z431 h => (xq_invv1 k_0_33 xr_102 rfl rfl rfl h (fun z433 w432 h => (xq_aload_n k_0_34 rfl (xq_aload_n k_0_35 rfl (xq_iload_n k_0_36 rfl (xq_iconst k_0_37 (xq_iadd k_0_38 (xq_iaload k_0_39 h (fun l434 h => h) (fun l434 z435 h => (xq_aload_n k_0_40 rfl (xq_iload_n k_0_41 rfl (xq_iconst k_0_42 (xq_iadd k_0_43 (xq_iaload k_0_44 h (fun l436 h => h) (fun l436 z437 h => (xq_invv1 k_0_45 xr_1140 rfl rfl rfl h (fun z439 w438 h => (xq_ic_eq k_0_46 h (fun h => h) (fun h => (xq_iconst k_0_47 (xq_ireturn k_0_48 h))))))))))))))))))))))))))))))))))) (fun h => (xs_swc h (fun h => (xq_aload_n k_0_49 rfl (xq_aload_n k_0_50 rfl (xq_iload_n k_0_51 rfl (xq_iconst k_0_52 (xq_iadd k_0_53 (xq_iaload k_0_54 h (fun l420 h => h) (fun l420 z421 h => (xq_invv1 k_0_55 xr_103 rfl rfl rfl h (fun z423 w422 h => (xq_pop k_0_56 (xq_aload_n k_0_57 rfl (xq_aload_n k_0_58 rfl (xq_iload_n k_0_59 rfl (xq_iconst k_0_60 (xq_iadd k_0_61 (xq_iaload k_0_62 h (fun l424 h => h) (fun l424 z425 h => (xq_invv1 k_0_63 xr_1141 rfl rfl rfl h (fun z427 w426 h => (xq_pop k_0_64 (xq_goto k_0_65 h)))))))))))))))))))))) (fun h => (xs_swc h (fun h => (xq_aload_n k_0_66 rfl (xq_aload_n k_0_67 rfl (xq_iload_n k_0_68 rfl (xq_iconst k_0_69 (xq_iadd k_0_70 (xq_iaload k_0_71 h (fun l408 h => h) (fun l408 z409 h => (xq_aload_n k_0_72 rfl (xq_iload_n k_0_73 rfl (xq_iconst k_0_74 (xq_iadd k_0_75 (xq_iaload k_0_76 h (fun l410 h => h) (fun l410 z411 h => (xq_invv1 k_0_77 xr_104 rfl rfl rfl h (fun z413 w412 h => (xq_pop k_0_78 (xq_aload_n k_0_79 rfl (xq_aload_n k_0_80 rfl (xq_iload_n k_0_81 rfl (xq_iconst k_0_82 (xq_iadd k_0_83 (xq_iaload k_0_84 h (fun l414 h => h) (fun l414 z415 h => (xq_aload_n k_0_85 rfl (xq_iload_n k_0_86 rfl (xq_iconst k_0_87 (xq_iadd k_0_88 (xq_iaload k_0_89 h (fun l416 h => h) (fun l416 z417 h => (xq_invv1 k_0_90 xr_1142 rfl rfl rfl h (fun z419 w418 h => (xq_pop k_0_91 (xq_goto k_0_92 h)))))))))))))))))))))))))))))))))) (fun h => (xs_swc h (fun h => (xq_aload_n k_0_93 rfl (xq_aload_n k_0_94 rfl (xq_iload_n k_0_95 rfl (xq_iconst k_0_96 (xq_iadd k_0_97 (xq_iaload k_0_98 h (fun l396 h => h) (fun l396 z397 h => (xq_aload_n k_0_99 rfl (xq_iload_n k_0_100 rfl (xq_iconst k_0_101 (xq_iadd k_0_102 (xq_iaload k_0_103 h (fun l398 h => h) (fun l398 z399 h => (xq_invv1 k_0_104 xr_105 rfl rfl rfl h (fun z401 w400 h => (xq_pop k_0_105 (xq_aload_n k_0_106 rfl (xq_aload_n k_0_107 rfl (xq_iload_n k_0_108 rfl (xq_iconst k_0_109 (xq_iadd k_0_110 (xq_iaload k_0_111 h (fun l402 h => h) (fun l402 z403 h => (xq_aload_n k_0_112 rfl (xq_iload_n k_0_113 rfl (xq_iconst k_0_114 (xq_iadd k_0_115 (xq_iaload k_0_116 h (fun l404 h => h) (fun l404 z405 h => (xq_invv1 k_0_117 xr_1145 rfl rfl rfl h (fun z407 w406 h => (xq_pop k_0_118 (xq_goto k_0_119 h)))))))))))))))))))))))))))))))))) (fun h => (xs_swc h (fun h => (xq_aload_n k_0_120 rfl (xq_aload_n k_0_121 rfl (xq_iload_n k_0_122 rfl (xq_iconst k_0_123 (xq_iadd k_0_124 (xq_iaload k_0_125 h (fun l384 h => h) (fun l384 z385 h => (xq_aload_n k_0_126 rfl (xq_iload_n k_0_127 rfl (xq_iconst k_0_128 (xq_iadd k_0_129 (xq_iaload k_0_130 h (fun l386 h => h) (fun l386 z387 h => (xq_invv1 k_0_131 xr_106 rfl rfl rfl h (fun z389 w388 h => (xq_pop k_0_132 (xq_aload_n k_0_133 rfl (xq_aload_n k_0_134 rfl (xq_iload_n k_0_135 rfl (xq_iconst k_0_136 (xq_iadd k_0_137 (xq_iaload k_0_138 h (fun l390 h => h) (fun l390 z391 h => (xq_aload_n k_0_139 rfl (xq_iload_n k_0_140 rfl (xq_iconst k_0_141 (xq_iadd k_0_142 (xq_iaload k_0_143 h (fun l392 h => h) (fun l392 z393 h => (xq_invv1 k_0_144 xr_1147 rfl rfl rfl h (fun z395 w394 h => (xq_pop k_0_145 (xq_goto k_0_146 h)))))))))))))))))))))))))))))))))) (fun h => (xs_swc h (fun h => (xq_aload_n k_0_147 rfl (xq_aload_n k_0_148 rfl (xq_iload_n k_0_149 rfl (xq_iconst k_0_150 (xq_iadd k_0_151 (xq_iaload k_0_152 h (fun l368 h => h) (fun l368 z369 h => (xq_aload_n k_0_153 rfl (xq_iload_n k_0_154 rfl (xq_iconst k_0_155 (xq_iadd k_0_156 (xq_iaload k_0_157 h (fun l370 h => h) (fun l370 z371 h => (xq_aload_n k_0_158 rfl (xq_iload_n k_0_159 rfl (xq_iconst k_0_160 (xq_iadd k_0_161 (xq_iaload k_0_162 h (fun l372 h => h) (fun l372 z373 h => (xq_invv1 k_0_163 xr_107 rfl rfl rfl h (fun z375 w374 h => (xq_pop k_0_164 (xq_aload_n k_0_165 rfl (xq_aload_n k_0_166 rfl (xq_iload_n k_0_167 rfl (xq_iconst k_0_168 (xq_iadd k_0_169 (xq_iaload k_0_170 h (fun l376 h => h) (fun l376 z377 h => (xq_aload_n k_0_171 rfl (xq_iload_n k_0_172 rfl (xq_iconst k_0_173 (xq_iadd k_0_174 (xq_iaload k_0_175 h (fun l378 h => h) (fun l378 z379 h => (xq_aload_n k_0_176 rfl (xq_iload_n k_0_177 rfl (xq_iconst k_0_178 (xq_iadd k_0_179 (xq_iaload k_0_180 h (fun l380 h => h) (fun l380 z381 h => (xq_invv1 k_0_181 xr_1149 rfl rfl rfl h (fun z383 w382 h => (xq_pop k_0_182 (xq_goto k_0_183 h)))))))))))))))))))))))))))))))))))))))))))))) (fun h => (xs_swc h (fun h => (xq_aload_n k_0_184 rfl (xq_aload_n k_0_185 rfl (xq_iload_n k_0_186 rfl (xq_iconst k_0_187 (xq_iadd k_0_188 (xq_iaload k_0_189 h (fun l356 h => h) (fun l356 z357 h => (xq_aload_n k_0_190 rfl (xq_iload_n k_0_191 rfl (xq_iconst k_0_192 (xq_iadd k_0_193 (xq_iaload k_0_194 h (fun l358 h => h) (fun l358 z359 h => (xq_invv1 k_0_195 xr_108 rfl rfl rfl h (fun z361 w360 h => (xq_pop k_0_196 (xq_aload_n k_0_197 rfl (xq_aload_n k_0_198 rfl (xq_iload_n k_0_199 rfl (xq_iconst k_0_200 (xq_iadd k_0_201 (xq_iaload k_0_202 h (fun l362 h => h) (fun l362 z363 h => (xq_aload_n k_0_203 rfl (xq_iload_n k_0_204 rfl (xq_iconst k_0_205 (xq_iadd k_0_206 (xq_iaload k_0_207 h (fun l364 h => h) (fun l364 z365 h => (xq_invv1 k_0_208 xr_1152 rfl rfl rfl h (fun z367 w366 h => (xq_pop k_0_209 (xq_goto k_0_210 h)))))))))))))))))))))))))))))))))) (fun h => (xs_swc h (fun h => (xq_aload_n k_0_211 rfl (xq_aload_n k_0_212 rfl (xq_iload_n k_0_213 rfl (xq_iconst k_0_214 (xq_iadd k_0_215 (xq_iaload k_0_216 h (fun l348 h => h) (fun l348 z349 h => (xq_invv1 k_0_217 xr_109 rfl rfl rfl h (fun z351 w350 h => (xq_pop k_0_218 (xq_aload_n k_0_219 rfl (xq_aload_n k_0_220 rfl (xq_iload_n k_0_221 rfl (xq_iconst k_0_222 (xq_iadd k_0_223 (xq_iaload k_0_224 h (fun l352 h => h) (fun l352 z353 h => (xq_invv1 k_0_225 xr_1153 rfl rfl rfl h (fun z355 w354 h => (xq_pop k_0_226 (xq_goto k_0_227 h)))))))))))))))))))))) (fun h => (xs_swc h (fun h => (xq_aload_n k_0_228 rfl (xq_aload_n k_0_229 rfl (xq_iload_n k_0_230 rfl (xq_iconst k_0_231 (xq_iadd k_0_232 (xq_iaload k_0_233 h (fun l332 h => h) (fun l332 z333 h => (xq_i2l k_0_234 (xq_bipush k_0_235 (xq_lshl k_0_236 (xq_aload_n k_0_237 rfl (xq_iload_n k_0_238 rfl (xq_iconst k_0_239 (xq_iadd k_0_240 (xq_iaload k_0_241 h (fun l334 h => h) (fun l334 z335 h => (xq_i2l k_0_242 (xq_ldc2 k_0_243 (xq_land k_0_244 (xq_lor k_0_245 (xq_aload_n k_0_246 rfl (xq_iload_n k_0_247 rfl (xq_iconst k_0_248 (xq_iadd k_0_249 (xq_iaload k_0_250 h (fun l336 h => h) (fun l336 z337 h => (xq_invv1 k_0_251 xr_110 rfl rfl rfl h (fun z339 w338 h => (xq_pop k_0_252 (xq_aload_n k_0_253 rfl (xq_aload_n k_0_254 rfl (xq_iload_n k_0_255 rfl (xq_iconst k_0_256 (xq_iadd k_0_257 (xq_iaload k_0_258 h (fun l340 h => h) (fun l340 z341 h => (xq_i2l k_0_259 (xq_bipush k_0_260 (xq_lshl k_0_261 (xq_aload_n k_0_262 rfl (xq_iload_n k_0_263 rfl (xq_iconst k_0_264 (xq_iadd k_0_265 (xq_iaload k_0_266 h (fun l342 h => h) (fun l342 z343 h => (xq_i2l k_0_267 (xq_ldc2 k_0_268 (xq_land k_0_269 (xq_lor k_0_270 (xq_aload_n k_0_271 rfl (xq_iload_n k_0_272 rfl (xq_iconst k_0_273 (xq_iadd k_0_274 (xq_iaload k_0_275 h (fun l344 h => h) (fun l344 z345 h => (xq_invv1 k_0_276 xr_1114 rfl rfl rfl h (fun z347 w346 h => (xq_pop k_0_277 (xq_goto k_0_278 h)))))))))))))))))))))))))))))))))))))))))))))))))))))))))))) (fun h => (xs_swc h (fun h => (xq_aload_n k_0_279 rfl (xq_aload_n k_0_280 rfl (xq_iload_n k_0_281 rfl (xq_iconst k_0_282 (xq_iadd k_0_283 (xq_iaload k_0_284 h (fun l324 h => h) (fun l324 z325 h => (xq_invv1 k_0_285 xr_111 rfl rfl rfl h (fun z327 w326 h => (xq_pop k_0_286 (xq_aload_n k_0_287 rfl (xq_aload_n k_0_288 rfl (xq_iload_n k_0_289 rfl (xq_iconst k_0_290 (xq_iadd k_0_291 (xq_iaload k_0_292 h (fun l328 h => h) (fun l328 z329 h => (xq_invv1 k_0_293 xr_1126 rfl rfl rfl h (fun z331 w330 h => (xq_pop k_0_294 (xq_goto k_0_295 h)))))))))))))))))))))) (fun h => (xs_swc h (fun h => (xq_aload_n k_0_296 rfl (xq_aload_n k_0_297 rfl (xq_iload_n k_0_298 rfl (xq_iconst k_0_299 (xq_iadd k_0_300 (xq_iaload k_0_301 h (fun l316 h => h) (fun l316 z317 h => (xq_invv1 k_0_302 xr_112 rfl rfl rfl h (fun z319 w318 h => (xq_pop k_0_303 (xq_aload_n k_0_304 rfl (xq_aload_n k_0_305 rfl (xq_iload_n k_0_306 rfl (xq_iconst k_0_307 (xq_iadd k_0_308 (xq_iaload k_0_309 h (fun l320 h => h) (fun l320 z321 h => (xq_invv1 k_0_310 xr_1127 rfl rfl rfl h (fun z323 w322 h => (xq_pop k_0_311 (xq_goto k_0_312 h)))))))))))))))))))))) (fun h => (xs_swc h (fun h => (xq_aload_n k_0_313 rfl (xq_aload_n k_0_314 rfl (xq_iload_n k_0_315 rfl (xq_iconst k_0_316 (xq_iadd k_0_317 (xq_iaload k_0_318 h (fun l308 h => h) (fun l308 z309 h => (xq_invv1 k_0_319 xr_113 rfl rfl rfl h (fun z311 w310 h => (xq_pop k_0_320 (xq_aload_n k_0_321 rfl (xq_aload_n k_0_322 rfl (xq_iload_n k_0_323 rfl (xq_iconst k_0_324 (xq_iadd k_0_325 (xq_iaload k_0_326 h (fun l312 h => h) (fun l312 z313 h => (xq_invv1 k_0_327 xr_1158 rfl rfl rfl h (fun z315 w314 h => (xq_pop k_0_328 (xq_goto k_0_329 h)))))))))))))))))))))) (fun h => (xs_swc h (fun h => (xq_aload_n k_0_330 rfl (xq_aload_n k_0_331 rfl (xq_iload_n k_0_332 rfl (xq_iconst k_0_333 (xq_iadd k_0_334 (xq_iaload k_0_335 h (fun l300 h => h) (fun l300 z301 h => (xq_invv1 k_0_336 xr_114 rfl rfl rfl h (fun z303 w302 h => (xq_pop k_0_337 (xq_aload_n k_0_338 rfl (xq_aload_n k_0_339 rfl (xq_iload_n k_0_340 rfl (xq_iconst k_0_341 (xq_iadd k_0_342 (xq_iaload k_0_343 h (fun l304 h => h) (fun l304 z305 h => (xq_invv1 k_0_344 xr_1160 rfl rfl rfl h (fun z307 w306 h => (xq_pop k_0_345 (xq_goto k_0_346 h)))))))))))))))))))))) (fun h => (xs_swc h (fun h => (xq_aload_n k_0_347 rfl (xq_aload_n k_0_348 rfl (xq_iload_n k_0_349 rfl (xq_iconst k_0_350 (xq_iadd k_0_351 (xq_iaload k_0_352 h (fun l292 h => h) (fun l292 z293 h => (xq_invv1 k_0_353 xr_115 rfl rfl rfl h (fun z295 w294 h => (xq_pop k_0_354 (xq_aload_n k_0_355 rfl (xq_aload_n k_0_356 rfl (xq_iload_n k_0_357 rfl (xq_iconst k_0_358 (xq_iadd k_0_359 (xq_iaload k_0_360 h (fun l296 h => h) (fun l296 z297 h => (xq_invv1 k_0_361 xr_1161 rfl rfl rfl h (fun z299 w298 h => (xq_pop k_0_362 (xq_goto k_0_363 h)))))))))))))))))))))) (fun h => (xs_swc h (fun h => (xq_aload_n k_0_364 rfl (xq_aload_n k_0_365 rfl (xq_iload_n k_0_366 rfl (xq_iconst k_0_367 (xq_iadd k_0_368 (xq_iaload k_0_369 h (fun l280 h => h) (fun l280 z281 h => (xq_aload_n k_0_370 rfl (xq_iload_n k_0_371 rfl (xq_iconst k_0_372 (xq_iadd k_0_373 (xq_iaload k_0_374 h (fun l282 h => h) (fun l282 z283 h => (xq_invv1 k_0_375 xr_116 rfl rfl rfl h (fun z285 w284 h => (xq_pop k_0_376 (xq_aload_n k_0_377 rfl (xq_aload_n k_0_378 rfl (xq_iload_n k_0_379 rfl (xq_iconst k_0_380 (xq_iadd k_0_381 (xq_iaload k_0_382 h (fun l286 h => h) (fun l286 z287 h => (xq_aload_n k_0_383 rfl (xq_iload_n k_0_384 rfl (xq_iconst k_0_385 (xq_iadd k_0_386 (xq_iaload k_0_387 h (fun l288 h => h) (fun l288 z289 h => (xq_invv1 k_0_388 xr_1162 rfl rfl rfl h (fun z291 w290 h => (xq_pop k_0_389 (xq_goto k_0_390 h)))))))))))))))))))))))))))))))))) (fun h => (xs_swc h (fun h => (xq_aload_n k_0_391 rfl (xq_aload_n k_0_392 rfl (xq_iload_n k_0_393 rfl (xq_iconst k_0_394 (xq_iadd k_0_395 (xq_iaload k_0_396 h (fun l268 h => h) (fun l268 z269 h => (xq_aload_n k_0_397 rfl (xq_iload_n k_0_398 rfl (xq_iconst k_0_399 (xq_iadd k_0_400 (xq_iaload k_0_401 h (fun l270 h => h) (fun l270 z271 h => (xq_invv1 k_0_402 xr_117 rfl rfl rfl h (fun z273 w272 h => (xq_pop k_0_403 (xq_aload_n k_0_404 rfl (xq_aload_n k_0_405 rfl (xq_iload_n k_0_406 rfl (xq_iconst k_0_407 (xq_iadd k_0_408 (xq_iaload k_0_409 h (fun l274 h => h) (fun l274 z275 h => (xq_aload_n k_0_410 rfl (xq_iload_n k_0_411 rfl (xq_iconst k_0_412 (xq_iadd k_0_413 (xq_iaload k_0_414 h (fun l276 h => h) (fun l276 z277 h => (xq_invv1 k_0_415 xr_1168 rfl rfl rfl h (fun z279 w278 h => (xq_pop k_0_416 (xq_goto k_0_417 h)))))))))))))))))))))))))))))))))) (fun h => (xs_swc h (fun h => (xq_aload_n k_0_418 rfl (xq_aload_n k_0_419 rfl (xq_iload_n k_0_420 rfl (xq_iconst k_0_421 (xq_iadd k_0_422 (xq_iaload k_0_423 h (fun l248 h => h) (fun l248 z249 h => (xq_aload_n k_0_424 rfl (xq_iload_n k_0_425 rfl (xq_iconst k_0_426 (xq_iadd k_0_427 (xq_iaload k_0_428 h (fun l250 h => h) (fun l250 z251 h => (xq_aload_n k_0_429 rfl (xq_iload_n k_0_430 rfl (xq_iconst k_0_431 (xq_iadd k_0_432 (xq_iaload k_0_433 h (fun l252 h => h) (fun l252 z253 h => (xq_aload_n k_0_434 rfl (xq_iload_n k_0_435 rfl (xq_iconst k_0_436 (xq_iadd k_0_437 (xq_iaload k_0_438 h (fun l254 h => h) (fun l254 z255 h => (xq_invv1 k_0_439 xr_118 rfl rfl rfl h (fun z257 w256 h => (xq_pop k_0_440 (xq_aload_n k_0_441 rfl (xq_aload_n k_0_442 rfl (xq_iload_n k_0_443 rfl (xq_iconst k_0_444 (xq_iadd k_0_445 (xq_iaload k_0_446 h (fun l258 h => h) (fun l258 z259 h => (xq_aload_n k_0_447 rfl (xq_iload_n k_0_448 rfl (xq_iconst k_0_449 (xq_iadd k_0_450 (xq_iaload k_0_451 h (fun l260 h => h) (fun l260 z261 h => (xq_aload_n k_0_452 rfl (xq_iload_n k_0_453 rfl (xq_iconst k_0_454 (xq_iadd k_0_455 (xq_iaload k_0_456 h (fun l262 h => h) (fun l262 z263 h => (xq_aload_n k_0_457 rfl (xq_iload_n k_0_458 rfl (xq_iconst k_0_459 (xq_iadd k_0_460 (xq_iaload k_0_461 h (fun l264 h => h) (fun l264 z265 h => (xq_invv1 k_0_462 xr_1170 rfl rfl rfl h (fun z267 w266 h => (xq_pop k_0_463 (xq_goto k_0_464 h)))))))))))))))))))))))))))))))))))))))))))))))))))))))))) (fun h => (xs_swc h (fun h => (xq_aload_n k_0_465 rfl (xq_aload_n k_0_466 rfl (xq_iload_n k_0_467 rfl (xq_iconst k_0_468 (xq_iadd k_0_469 (xq_iaload k_0_470 h (fun l232 h => h) (fun l232 z233 h => (xq_aload_n k_0_471 rfl (xq_iload_n k_0_472 rfl (xq_iconst k_0_473 (xq_iadd k_0_474 (xq_iaload k_0_475 h (fun l234 h => h) (fun l234 z235 h => (xq_aload_n k_0_476 rfl (xq_iload_n k_0_477 rfl (xq_iconst k_0_478 (xq_iadd k_0_479 (xq_iaload k_0_480 h (fun l236 h => h) (fun l236 z237 h => (xq_invv1 k_0_481 xr_119 rfl rfl rfl h (fun z239 w238 h => (xq_pop k_0_482 (xq_aload_n k_0_483 rfl (xq_aload_n k_0_484 rfl (xq_iload_n k_0_485 rfl (xq_iconst k_0_486 (xq_iadd k_0_487 (xq_iaload k_0_488 h (fun l240 h => h) (fun l240 z241 h => (xq_aload_n k_0_489 rfl (xq_iload_n k_0_490 rfl (xq_iconst k_0_491 (xq_iadd k_0_492 (xq_iaload k_0_493 h (fun l242 h => h) (fun l242 z243 h => (xq_aload_n k_0_494 rfl (xq_iload_n k_0_495 rfl (xq_iconst k_0_496 (xq_iadd k_0_497 (xq_iaload k_0_498 h (fun l244 h => h) (fun l244 z245 h => (xq_invv1 k_0_499 xr_1172 rfl rfl rfl h (fun z247 w246 h => (xq_pop k_0_500 (xq_goto k_0_501 h)))))))))))))))))))))))))))))))))))))))))))))) (fun h => (xs_swc h (fun h => (xq_aload_n k_0_502 rfl (xq_aload_n k_0_503 rfl (xq_iload_n k_0_504 rfl (xq_iconst k_0_505 (xq_iadd k_0_506 (xq_iaload k_0_507 h (fun l216 h => h) (fun l216 z217 h => (xq_aload_n k_0_508 rfl (xq_iload_n k_0_509 rfl (xq_iconst k_0_510 (xq_iadd k_0_511 (xq_iaload k_0_512 h (fun l218 h => h) (fun l218 z219 h => (xq_aload_n k_0_513 rfl (xq_iload_n k_0_514 rfl (xq_iconst k_0_515 (xq_iadd k_0_516 (xq_iaload k_0_517 h (fun l220 h => h) (fun l220 z221 h => (xq_invv1 k_0_518 xr_120 rfl rfl rfl h (fun z223 w222 h => (xq_pop k_0_519 (xq_aload_n k_0_520 rfl (xq_aload_n k_0_521 rfl (xq_iload_n k_0_522 rfl (xq_iconst k_0_523 (xq_iadd k_0_524 (xq_iaload k_0_525 h (fun l224 h => h) (fun l224 z225 h => (xq_aload_n k_0_526 rfl (xq_iload_n k_0_527 rfl (xq_iconst k_0_528 (xq_iadd k_0_529 (xq_iaload k_0_530 h (fun l226 h => h) (fun l226 z227 h => (xq_aload_n k_0_531 rfl (xq_iload_n k_0_532 rfl (xq_iconst k_0_533 (xq_iadd k_0_534 (xq_iaload k_0_535 h (fun l228 h => h) (fun l228 z229 h => (xq_invv1 k_0_536 xr_1173 rfl rfl rfl h (fun z231 w230 h => (xq_pop k_0_537 (xq_goto k_0_538 h)))))))))))))))))))))))))))))))))))))))))))))) (fun h => (xs_swc h (fun h => (xq_aload_n k_0_539 rfl (xq_aload_n k_0_540 rfl (xq_iload_n k_0_541 rfl (xq_iconst k_0_542 (xq_iadd k_0_543 (xq_iaload k_0_544 h (fun l200 h => h) (fun l200 z201 h => (xq_aload_n k_0_545 rfl (xq_iload_n k_0_546 rfl (xq_iconst k_0_547 (xq_iadd k_0_548 (xq_iaload k_0_549 h (fun l202 h => h) (fun l202 z203 h => (xq_aload_n k_0_550 rfl (xq_iload_n k_0_551 rfl (xq_iconst k_0_552 (xq_iadd k_0_553 (xq_iaload k_0_554 h (fun l204 h => h) (fun l204 z205 h => (xq_invv1 k_0_555 xr_121 rfl rfl rfl h (fun z207 w206 h => (xq_pop k_0_556 (xq_aload_n k_0_557 rfl (xq_aload_n k_0_558 rfl (xq_iload_n k_0_559 rfl (xq_iconst k_0_560 (xq_iadd k_0_561 (xq_iaload k_0_562 h (fun l208 h => h) (fun l208 z209 h => (xq_aload_n k_0_563 rfl (xq_iload_n k_0_564 rfl (xq_iconst k_0_565 (xq_iadd k_0_566 (xq_iaload k_0_567 h (fun l210 h => h) (fun l210 z211 h => (xq_aload_n k_0_568 rfl (xq_iload_n k_0_569 rfl (xq_iconst k_0_570 (xq_iadd k_0_571 (xq_iaload k_0_572 h (fun l212 h => h) (fun l212 z213 h => (xq_invv1 k_0_573 xr_1174 rfl rfl rfl h (fun z215 w214 h => (xq_pop k_0_574 (xq_goto k_0_575 h)))))))))))))))))))))))))))))))))))))))))))))) (fun h => (xs_swc h (fun h => (xq_aload_n k_0_576 rfl (xq_aload_n k_0_577 rfl (xq_iload_n k_0_578 rfl (xq_iconst k_0_579 (xq_iadd k_0_580 (xq_iaload k_0_581 h (fun l184 h => h) (fun l184 z185 h => (xq_aload_n k_0_582 rfl (xq_iload_n k_0_583 rfl (xq_iconst k_0_584 (xq_iadd k_0_585 (xq_iaload k_0_586 h (fun l186 h => h) (fun l186 z187 h => (xq_aload_n k_0_587 rfl (xq_iload_n k_0_588 rfl (xq_iconst k_0_589 (xq_iadd k_0_590 (xq_iaload k_0_591 h (fun l188 h => h) (fun l188 z189 h => (xq_invv1 k_0_592 xr_122 rfl rfl rfl h (fun z191 w190 h => (xq_pop k_0_593 (xq_aload_n k_0_594 rfl (xq_aload_n k_0_595 rfl (xq_iload_n k_0_596 rfl (xq_iconst k_0_597 (xq_iadd k_0_598 (xq_iaload k_0_599 h (fun l192 h => h) (fun l192 z193 h => (xq_aload_n k_0_600 rfl (xq_iload_n k_0_601 rfl (xq_iconst k_0_602 (xq_iadd k_0_603 (xq_iaload k_0_604 h (fun l194 h => h) (fun l194 z195 h => (xq_aload_n k_0_605 rfl (xq_iload_n k_0_606 rfl (xq_iconst k_0_607 (xq_iadd k_0_608 (xq_iaload k_0_609 h (fun l196 h => h) (fun l196 z197 h => (xq_invv1 k_0_610 xr_1176 rfl rfl rfl h (fun z199 w198 h => (xq_pop k_0_611 (xq_goto k_0_612 h)))))))))))))))))))))))))))))))))))))))))))))) (fun h => (xs_swc h (fun h => (xq_aload_n k_0_613 rfl (xq_aload_n k_0_614 rfl (xq_iload_n k_0_615 rfl (xq_iconst k_0_616 (xq_iadd k_0_617 (xq_iaload k_0_618 h (fun l172 h => h) (fun l172 z173 h => (xq_aload_n k_0_619 rfl (xq_iload_n k_0_620 rfl (xq_iconst k_0_621 (xq_iadd k_0_622 (xq_iaload k_0_623 h (fun l174 h => h) (fun l174 z175 h => (xq_invv1 k_0_624 xr_123 rfl rfl rfl h (fun z177 w176 h => (xq_pop k_0_625 (xq_aload_n k_0_626 rfl (xq_aload_n k_0_627 rfl (xq_iload_n k_0_628 rfl (xq_iconst k_0_629 (xq_iadd k_0_630 (xq_iaload k_0_631 h (fun l178 h => h) (fun l178 z179 h => (xq_aload_n k_0_632 rfl (xq_iload_n k_0_633 rfl (xq_iconst k_0_634 (xq_iadd k_0_635 (xq_iaload k_0_636 h (fun l180 h => h) (fun l180 z181 h => (xq_invv1 k_0_637 xr_1178 rfl rfl rfl h (fun z183 w182 h => (xq_pop k_0_638 (xq_goto k_0_639 h)))))))))))))))))))))))))))))))))) (fun h => (xs_swc h (fun h => (xq_aload_n k_0_640 rfl (xq_aload_n k_0_641 rfl (xq_iload_n k_0_642 rfl (xq_iconst k_0_643 (xq_iadd k_0_644 (xq_iaload k_0_645 h (fun l156 h => h) (fun l156 z157 h => (xq_aload_n k_0_646 rfl (xq_iload_n k_0_647 rfl (xq_iconst k_0_648 (xq_iadd k_0_649 (xq_iaload k_0_650 h (fun l158 h => h) (fun l158 z159 h => (xq_aload_n k_0_651 rfl (xq_iload_n k_0_652 rfl (xq_iconst k_0_653 (xq_iadd k_0_654 (xq_iaload k_0_655 h (fun l160 h => h) (fun l160 z161 h => (xq_invv1 k_0_656 xr_124 rfl rfl rfl h (fun z163 w162 h => (xq_pop k_0_657 (xq_aload_n k_0_658 rfl (xq_aload_n k_0_659 rfl (xq_iload_n k_0_660 rfl (xq_iconst k_0_661 (xq_iadd k_0_662 (xq_iaload k_0_663 h (fun l164 h => h) (fun l164 z165 h => (xq_aload_n k_0_664 rfl (xq_iload_n k_0_665 rfl (xq_iconst k_0_666 (xq_iadd k_0_667 (xq_iaload k_0_668 h (fun l166 h => h) (fun l166 z167 h => (xq_aload_n k_0_669 rfl (xq_iload_n k_0_670 rfl (xq_iconst k_0_671 (xq_iadd k_0_672 (xq_iaload k_0_673 h (fun l168 h => h) (fun l168 z169 h => (xq_invv1 k_0_674 xr_1180 rfl rfl rfl h (fun z171 w170 h => (xq_pop k_0_675 (xq_goto k_0_676 h)))))))))))))))))))))))))))))))))))))))))))))) (fun h => (xs_swc h (fun h => (xq_aload_n k_0_677 rfl (xq_aload_n k_0_678 rfl (xq_iload_n k_0_679 rfl (xq_iconst k_0_680 (xq_iadd k_0_681 (xq_iaload k_0_682 h (fun l144 h => h) (fun l144 z145 h => (xq_aload_n k_0_683 rfl (xq_iload_n k_0_684 rfl (xq_iconst k_0_685 (xq_iadd k_0_686 (xq_iaload k_0_687 h (fun l146 h => h) (fun l146 z147 h => (xq_invv1 k_0_688 xr_125 rfl rfl rfl h (fun z149 w148 h => (xq_pop k_0_689 (xq_aload_n k_0_690 rfl (xq_aload_n k_0_691 rfl (xq_iload_n k_0_692 rfl (xq_iconst k_0_693 (xq_iadd k_0_694 (xq_iaload k_0_695 h (fun l150 h => h) (fun l150 z151 h => (xq_aload_n k_0_696 rfl (xq_iload_n k_0_697 rfl (xq_iconst k_0_698 (xq_iadd k_0_699 (xq_iaload k_0_700 h (fun l152 h => h) (fun l152 z153 h => (xq_invv1 k_0_701 xr_1185 rfl rfl rfl h (fun z155 w154 h => (xq_pop k_0_702 (xq_goto k_0_703 h)))))))))))))))))))))))))))))))))) (fun h => (xs_swc h (fun h => (xq_aload_n k_0_704 rfl (xq_aload_n k_0_705 rfl (xq_iload_n k_0_706 rfl (xq_iconst k_0_707 (xq_iadd k_0_708 (xq_iaload k_0_709 h (fun l128 h => h) (fun l128 z129 h => (xq_aload_n k_0_710 rfl (xq_iload_n k_0_711 rfl (xq_iconst k_0_712 (xq_iadd k_0_713 (xq_iaload k_0_714 h (fun l130 h => h) (fun l130 z131 h => (xq_aload_n k_0_715 rfl (xq_iload_n k_0_716 rfl (xq_iconst k_0_717 (xq_iadd k_0_718 (xq_iaload k_0_719 h (fun l132 h => h) (fun l132 z133 h => (xq_invv1 k_0_720 xr_126 rfl rfl rfl h (fun z135 w134 h => (xq_pop k_0_721 (xq_aload_n k_0_722 rfl (xq_aload_n k_0_723 rfl (xq_iload_n k_0_724 rfl (xq_iconst k_0_725 (xq_iadd k_0_726 (xq_iaload k_0_727 h (fun l136 h => h) (fun l136 z137 h => (xq_aload_n k_0_728 rfl (xq_iload_n k_0_729 rfl (xq_iconst k_0_730 (xq_iadd k_0_731 (xq_iaload k_0_732 h (fun l138 h => h) (fun l138 z139 h => (xq_aload_n k_0_733 rfl (xq_iload_n k_0_734 rfl (xq_iconst k_0_735 (xq_iadd k_0_736 (xq_iaload k_0_737 h (fun l140 h => h) (fun l140 z141 h => (xq_invv1 k_0_738 xr_1194 rfl rfl rfl h (fun z143 w142 h => (xq_pop k_0_739 (xq_goto k_0_740 h)))))))))))))))))))))))))))))))))))))))))))))) (fun h => (xs_swc h (fun h => (xq_aload_n k_0_741 rfl (xq_aload_n k_0_742 rfl (xq_iload_n k_0_743 rfl (xq_iconst k_0_744 (xq_iadd k_0_745 (xq_iaload k_0_746 h (fun l120 h => h) (fun l120 z121 h => (xq_invv1 k_0_747 xr_127 rfl rfl rfl h (fun z123 w122 h => (xq_pop k_0_748 (xq_aload_n k_0_749 rfl (xq_aload_n k_0_750 rfl (xq_iload_n k_0_751 rfl (xq_iconst k_0_752 (xq_iadd k_0_753 (xq_iaload k_0_754 h (fun l124 h => h) (fun l124 z125 h => (xq_invv1 k_0_755 xr_1195 rfl rfl rfl h (fun z127 w126 h => (xq_pop k_0_756 (xq_goto k_0_757 h)))))))))))))))))))))) (fun h => (xs_swc h (fun h => (xq_aload_n k_0_758 rfl (xq_aload_n k_0_759 rfl (xq_iload_n k_0_760 rfl (xq_iconst k_0_761 (xq_iadd k_0_762 (xq_iaload k_0_763 h (fun l104 h => h) (fun l104 z105 h => (xq_aload_n k_0_764 rfl (xq_iload_n k_0_765 rfl (xq_iconst k_0_766 (xq_iadd k_0_767 (xq_iaload k_0_768 h (fun l106 h => h) (fun l106 z107 h => (xq_aload_n k_0_769 rfl (xq_iload_n k_0_770 rfl (xq_iconst k_0_771 (xq_iadd k_0_772 (xq_iaload k_0_773 h (fun l108 h => h) (fun l108 z109 h => (xq_invv1 k_0_774 xr_128 rfl rfl rfl h (fun z111 w110 h => (xq_pop k_0_775 (xq_aload_n k_0_776 rfl (xq_aload_n k_0_777 rfl (xq_iload_n k_0_778 rfl (xq_iconst k_0_779 (xq_iadd k_0_780 (xq_iaload k_0_781 h (fun l112 h => h) (fun l112 z113 h => (xq_aload_n k_0_782 rfl (xq_iload_n k_0_783 rfl (xq_iconst k_0_784 (xq_iadd k_0_785 (xq_iaload k_0_786 h (fun l114 h => h) (fun l114 z115 h => (xq_aload_n k_0_787 rfl (xq_iload_n k_0_788 rfl (xq_iconst k_0_789 (xq_iadd k_0_790 (xq_iaload k_0_791 h (fun l116 h => h) (fun l116 z117 h => (xq_invv1 k_0_792 xr_1197 rfl rfl rfl h (fun z119 w118 h => (xq_pop k_0_793 (xq_goto k_0_794 h)))))))))))))))))))))))))))))))))))))))))))))) (fun h => (xs_swc h (fun h => (xq_aload_n k_0_795 rfl (xq_aload_n k_0_796 rfl (xq_iload_n k_0_797 rfl (xq_iconst k_0_798 (xq_iadd k_0_799 (xq_iaload k_0_800 h (fun l88 h => h) (fun l88 z89 h => (xq_aload_n k_0_801 rfl (xq_iload_n k_0_802 rfl (xq_iconst k_0_803 (xq_iadd k_0_804 (xq_iaload k_0_805 h (fun l90 h => h) (fun l90 z91 h => (xq_aload_n k_0_806 rfl (xq_iload_n k_0_807 rfl (xq_iconst k_0_808 (xq_iadd k_0_809 (xq_iaload k_0_810 h (fun l92 h => h) (fun l92 z93 h => (xq_invv1 k_0_811 xr_129 rfl rfl rfl h (fun z95 w94 h => (xq_pop k_0_812 (xq_aload_n k_0_813 rfl (xq_aload_n k_0_814 rfl (xq_iload_n k_0_815 rfl (xq_iconst k_0_816 (xq_iadd k_0_817 (xq_iaload k_0_818 h (fun l96 h => h) (fun l96 z97 h => (xq_aload_n k_0_819 rfl (xq_iload_n k_0_820 rfl (xq_iconst k_0_821 (xq_iadd k_0_822 (xq_iaload k_0_823 h (fun l98 h => h) (fun l98 z99 h => (xq_aload_n k_0_824 rfl (xq_iload_n k_0_825 rfl (xq_iconst k_0_826 (xq_iadd k_0_827 (xq_iaload k_0_828 h (fun l100 h => h) (fun l100 z101 h => (xq_invv1 k_0_829 xr_1198 rfl rfl rfl h (fun z103 w102 h => (xq_pop k_0_830 (xq_goto k_0_831 h)))))))))))))))))))))))))))))))))))))))))))))) (fun h => (xs_swc h (fun h => (xq_aload_n k_0_832 rfl (xq_aload_n k_0_833 rfl (xq_iload_n k_0_834 rfl (xq_iconst k_0_835 (xq_iadd k_0_836 (xq_iaload k_0_837 h (fun l64 h => h) (fun l64 z65 h => (xq_aload_n k_0_838 rfl (xq_iload_n k_0_839 rfl (xq_iconst k_0_840 (xq_iadd k_0_841 (xq_iaload k_0_842 h (fun l66 h => h) (fun l66 z67 h => (xq_aload_n k_0_843 rfl (xq_iload_n k_0_844 rfl (xq_iconst k_0_845 (xq_iadd k_0_846 (xq_iaload k_0_847 h (fun l68 h => h) (fun l68 z69 h => (xq_aload_n k_0_848 rfl (xq_iload_n k_0_849 rfl (xq_iconst k_0_850 (xq_iadd k_0_851 (xq_iaload k_0_852 h (fun l70 h => h) (fun l70 z71 h => (xq_aload_n k_0_853 rfl (xq_iload_n k_0_854 rfl (xq_iconst k_0_855 (xq_iadd k_0_856 (xq_iaload k_0_857 h (fun l72 h => h) (fun l72 z73 h => (xq_invv1 k_0_858 xr_130 rfl rfl rfl h (fun z75 w74 h => (xq_pop k_0_859 (xq_aload_n k_0_860 rfl (xq_aload_n k_0_861 rfl (xq_iload_n k_0_862 rfl (xq_iconst k_0_863 (xq_iadd k_0_864 (xq_iaload k_0_865 h (fun l76 h => h) (fun l76 z77 h => (xq_aload_n k_0_866 rfl (xq_iload_n k_0_867 rfl (xq_iconst k_0_868 (xq_iadd k_0_869 (xq_iaload k_0_870 h (fun l78 h => h) (fun l78 z79 h => (xq_aload_n k_0_871 rfl (xq_iload_n k_0_872 rfl (xq_iconst k_0_873 (xq_iadd k_0_874 (xq_iaload k_0_875 h (fun l80 h => h) (fun l80 z81 h => (xq_aload_n k_0_876 rfl (xq_iload_n k_0_877 rfl (xq_iconst k_0_878 (xq_iadd k_0_879 (xq_iaload k_0_880 h (fun l82 h => h) (fun l82 z83 h => (xq_aload_n k_0_881 rfl (xq_iload_n k_0_882 rfl (xq_iconst k_0_883 (xq_iadd k_0_884 (xq_iaload k_0_885 h (fun l84 h => h) (fun l84 z85 h => (xq_invv1 k_0_886 xr_1199 rfl rfl rfl h (fun z87 w86 h => (xq_pop k_0_887 (xq_goto k_0_888 h)))))))))))))))))))))))))))))))))))))))))))))))))))))))))))))))))))))) (fun h => (xs_swc h (fun h => (xq_aload_n k_0_889 rfl (xq_aload_n k_0_890 rfl (xq_iload_n k_0_891 rfl (xq_iconst k_0_892 (xq_iadd k_0_893 (xq_iaload k_0_894 h (fun l52 h => h) (fun l52 z53 h => (xq_aload_n k_0_895 rfl (xq_iload_n k_0_896 rfl (xq_iconst k_0_897 (xq_iadd k_0_898 (xq_iaload k_0_899 h (fun l54 h => h) (fun l54 z55 h => (xq_invv1 k_0_900 xr_131 rfl rfl rfl h (fun z57 w56 h => (xq_pop k_0_901 (xq_aload_n k_0_902 rfl (xq_aload_n k_0_903 rfl (xq_iload_n k_0_904 rfl (xq_iconst k_0_905 (xq_iadd k_0_906 (xq_iaload k_0_907 h (fun l58 h => h) (fun l58 z59 h => (xq_aload_n k_0_908 rfl (xq_iload_n k_0_909 rfl (xq_iconst k_0_910 (xq_iadd k_0_911 (xq_iaload k_0_912 h (fun l60 h => h) (fun l60 z61 h => (xq_invv1 k_0_913 xr_1201 rfl rfl rfl h (fun z63 w62 h => (xq_pop k_0_914 (xq_goto k_0_915 h)))))))))))))))))))))))))))))))))) (fun h => (xs_swc h (fun h => (xq_aload_n k_0_916 rfl (xq_aload_n k_0_917 rfl (xq_iload_n k_0_918 rfl (xq_iconst k_0_919 (xq_iadd k_0_920 (xq_iaload k_0_921 h (fun l40 h => h) (fun l40 z41 h => (xq_aload_n k_0_922 rfl (xq_iload_n k_0_923 rfl (xq_iconst k_0_924 (xq_iadd k_0_925 (xq_iaload k_0_926 h (fun l42 h => h) (fun l42 z43 h => (xq_invv1 k_0_927 xr_132 rfl rfl rfl h (fun z45 w44 h => (xq_pop k_0_928 (xq_aload_n k_0_929 rfl (xq_aload_n k_0_930 rfl (xq_iload_n k_0_931 rfl (xq_iconst k_0_932 (xq_iadd k_0_933 (xq_iaload k_0_934 h (fun l46 h => h) (fun l46 z47 h => (xq_aload_n k_0_935 rfl (xq_iload_n k_0_936 rfl (xq_iconst k_0_937 (xq_iadd k_0_938 (xq_iaload k_0_939 h (fun l48 h => h) (fun l48 z49 h => (xq_invv1 k_0_940 xr_1202 rfl rfl rfl h (fun z51 w50 h => (xq_pop k_0_941 (xq_goto k_0_942 h)))))))))))))))))))))))))))))))))) (fun h => (xs_swc h (fun h => (xq_aload_n k_0_943 rfl (xq_invv1 k_0_944 xr_133 rfl rfl rfl h (fun z37 w36 h => (xq_pop k_0_945 (xq_aload_n k_0_946 rfl (xq_invv1 k_0_947 xr_1203 rfl rfl rfl h (fun z39 w38 h => (xq_pop k_0_948 (xq_goto k_0_949 h)))))))))) (fun h => (xs_swc h (fun h => (xq_aload_n k_0_950 rfl (xq_invv1 k_0_951 xr_134 rfl rfl rfl h (fun z33 w32 h => (xq_pop k_0_952 (xq_aload_n k_0_953 rfl (xq_invv1 k_0_954 xr_1204 rfl rfl rfl h (fun z35 w34 h => (xq_pop k_0_955 (xq_goto k_0_956 h)))))))))) (fun h => (xs_swc h (fun h => (xq_aload_n k_0_957 rfl (xq_aload_n k_0_958 rfl (xq_iload_n k_0_959 rfl (xq_iconst k_0_960 (xq_iadd k_0_961 (xq_iaload k_0_962 h (fun l24 h => h) (fun l24 z25 h => (xq_invv1 k_0_963 xr_135 rfl rfl rfl h (fun z27 w26 h => (xq_pop k_0_964 (xq_aload_n k_0_965 rfl (xq_aload_n k_0_966 rfl (xq_iload_n k_0_967 rfl (xq_iconst k_0_968 (xq_iadd k_0_969 (xq_iaload k_0_970 h (fun l28 h => h) (fun l28 z29 h => (xq_invv1 k_0_971 xr_1205 rfl rfl rfl h (fun z31 w30 h => (xq_pop k_0_972 (xq_goto k_0_973 h)))))))))))))))))))))) (fun h => (xs_swc h (fun h => (xq_aload_n k_0_974 rfl (xq_invv1 k_0_975 xr_136 rfl rfl rfl h (fun z21 w20 h => (xq_pop k_0_976 (xq_aload_n k_0_977 rfl (xq_invv1 k_0_978 xr_1206 rfl rfl rfl h (fun z23 w22 h => (xq_pop k_0_979 (xq_goto k_0_980 h)))))))))) (fun h => (xs_swc h (fun h => (xq_aload_n k_0_981 rfl (xq_aload_n k_0_982 rfl (xq_iload_n k_0_983 rfl (xq_iconst k_0_984 (xq_iadd k_0_985 (xq_iaload k_0_986 h (fun l12 h => h) (fun l12 z13 h => (xq_invv1 k_0_987 xr_137 rfl rfl rfl h (fun z15 w14 h => (xq_pop k_0_988 (xq_aload_n k_0_989 rfl (xq_aload_n k_0_990 rfl (xq_iload_n k_0_991 rfl (xq_iconst k_0_992 (xq_iadd k_0_993 (xq_iaload k_0_994 h (fun l16 h => h) (fun l16 z17 h => (xq_invv1 k_0_995 xr_1207 rfl rfl rfl h (fun z19 w18 h => (xq_pop k_0_996 (xq_goto k_0_997 h)))))))))))))))))))))) (fun h => (xs_swc h (fun h => (xq_aload_n k_0_998 rfl (xq_aload_n k_0_999 rfl (xq_iload_n k_0_1000 rfl (xq_iconst k_0_1001 (xq_iadd k_0_1002 (xq_iaload k_0_1003 h (fun l4 h => h) (fun l4 z5 h => (xq_invv1 k_0_1004 xr_138 rfl rfl rfl h (fun z7 w6 h => (xq_pop k_0_1005 (xq_aload_n k_0_1006 rfl (xq_aload_n k_0_1007 rfl (xq_iload_n k_0_1008 rfl (xq_iconst k_0_1009 (xq_iadd k_0_1010 (xq_iaload k_0_1011 h (fun l8 h => h) (fun l8 z9 h => (xq_invv1 k_0_1012 xr_1208 rfl rfl rfl h (fun z11 w10 h => (xq_pop k_0_1013 (xq_goto k_0_1014 h)))))))))))))))))))))) (fun h => h)))))))))))))))))))))))))))))))))))))))))))))))))))))))))))))))))))))))))))))))))))))))))
theorem xb_0_1015 {sc : List Int} {f : Nat → List xm_V → xm_W → xm_R} {w : xm_W} {Q : Option xm_V × xm_W → Prop} {x0 : Nat} {x1 : Option Nat} {x2 : Option Nat} {x3 : Int}
  (h : xm_EQ (xm_old sc) xm_sta f xm_cl0 10 [some (.inr (.inl (some x0))), some (.inr (.inl x1)), some (.inr (.inl x2)), some (.inl (xm_w (x3 + 6)))] [] w Q) :
  xm_EQ (xm_old sc) xm_sta f xm_cl0 1015 [some (.inr (.inl (some x0))), some (.inr (.inl x1)), some (.inr (.inl x2)), some (.inl x3)] [] w Q :=
  (xq_iinc k_0_1015 rfl rfl (xq_goto k_0_1016 h))
