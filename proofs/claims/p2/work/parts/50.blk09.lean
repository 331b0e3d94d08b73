/-- ShodBackwards$Text.<init>([I)V -/
theorem d_901_0 : List.drop 0 xm_c901 = xm_c901 := rfl
theorem k_901_0 : xm_gi xm_c901 0 = some xm_e901_0 := xm_gt d_901_0
theorem d_901_1 : List.drop 1 xm_c901 = xm_c901_1 := xm_dr d_901_0
theorem k_901_1 : xm_gi xm_c901 1 = some xm_e901_1 := xm_gt d_901_1
theorem d_901_2 : List.drop 2 xm_c901 = xm_c901_2 := xm_dr d_901_1
theorem k_901_2 : xm_gi xm_c901 2 = some xm_e901_2 := xm_gt d_901_2
theorem d_901_3 : List.drop 3 xm_c901 = xm_c901_3 := xm_dr d_901_2
theorem k_901_3 : xm_gi xm_c901 3 = some xm_e901_3 := xm_gt d_901_3
theorem d_901_4 : List.drop 4 xm_c901 = xm_c901_4 := xm_dr d_901_3
theorem k_901_4 : xm_gi xm_c901 4 = some xm_e901_4 := xm_gt d_901_4
theorem d_901_5 : List.drop 5 xm_c901 = xm_c901_5 := xm_dr d_901_4
theorem k_901_5 : xm_gi xm_c901 5 = some xm_e901_5 := xm_gt d_901_5
theorem xb_901_0 {sc : List Int} {f : Nat → List xm_V → xm_W → xm_R} {w : xm_W} {Q : Option xm_V × xm_W → Prop} {x0 : Nat} {x1 : Nat}
  (h : xm_O (xm_setf w x0 7 0 2 (.inr (.inl (some x1)))) (fun w1 => Q (none, w1))) :
  xm_EQ (xm_old sc) xm_sta f xm_c901 0 [some (.inr (.inl (some x0))), some (.inr (.inl (some x1)))] [] w Q :=
  (xq_aload_n k_901_0 rfl (xq_obj k_901_1 rfl (xq_aload_n k_901_2 rfl (xq_aload_n k_901_3 rfl (xq_put k_901_4 rfl h (fun w1 h => (xq_return k_901_5 h)))))))
/-- ShodBackwards$Text.worth([I[I)I -/
theorem d_902_0 : List.drop 0 xm_c902 = xm_c902 := rfl
theorem k_902_0 : xm_gi xm_c902 0 = some xm_e902_0 := xm_gt d_902_0
theorem d_902_1 : List.drop 1 xm_c902 = xm_c902_1 := xm_dr d_902_0
theorem k_902_1 : xm_gi xm_c902 1 = some xm_e902_1 := xm_gt d_902_1
theorem d_902_2 : List.drop 2 xm_c902 = xm_c902_2 := xm_dr d_902_1
theorem k_902_2 : xm_gi xm_c902 2 = some xm_e902_2 := xm_gt d_902_2
theorem d_902_3 : List.drop 3 xm_c902 = xm_c902_3 := xm_dr d_902_2
theorem k_902_3 : xm_gi xm_c902 3 = some xm_e902_3 := xm_gt d_902_3
theorem d_902_4 : List.drop 4 xm_c902 = xm_c902_4 := xm_dr d_902_3
theorem k_902_4 : xm_gi xm_c902 4 = some xm_e902_4 := xm_gt d_902_4
theorem d_902_5 : List.drop 5 xm_c902 = xm_c902_5 := xm_dr d_902_4
theorem k_902_5 : xm_gi xm_c902 5 = some xm_e902_5 := xm_gt d_902_5
theorem d_902_6 : List.drop 6 xm_c902 = xm_c902_6 := xm_dr d_902_5
theorem k_902_6 : xm_gi xm_c902 6 = some xm_e902_6 := xm_gt d_902_6
theorem d_902_7 : List.drop 7 xm_c902 = xm_c902_7 := xm_dr d_902_6
theorem k_902_7 : xm_gi xm_c902 7 = some xm_e902_7 := xm_gt d_902_7
theorem d_902_8 : List.drop 8 xm_c902 = xm_c902_8 := xm_dr d_902_7
theorem k_902_8 : xm_gi xm_c902 8 = some xm_e902_8 := xm_gt d_902_8
theorem d_902_9 : List.drop 9 xm_c902 = xm_c902_9 := xm_dr d_902_8
theorem k_902_9 : xm_gi xm_c902 9 = some xm_e902_9 := xm_gt d_902_9
theorem d_902_10 : List.drop 10 xm_c902 = xm_c902_10 := xm_dr d_902_9
theorem k_902_10 : xm_gi xm_c902 10 = some xm_e902_10 := xm_gt d_902_10
theorem d_902_11 : List.drop 11 xm_c902 = xm_c902_11 := xm_dr d_902_10
theorem k_902_11 : xm_gi xm_c902 11 = some xm_e902_11 := xm_gt d_902_11
theorem d_902_12 : List.drop 12 xm_c902 = xm_c902_12 := xm_dr d_902_11
theorem k_902_12 : xm_gi xm_c902 12 = some xm_e902_12 := xm_gt d_902_12
theorem d_902_13 : List.drop 13 xm_c902 = xm_c902_13 := xm_dr d_902_12
theorem k_902_13 : xm_gi xm_c902 13 = some xm_e902_13 := xm_gt d_902_13
theorem d_902_14 : List.drop 14 xm_c902 = xm_c902_14 := xm_dr d_902_13
theorem k_902_14 : xm_gi xm_c902 14 = some xm_e902_14 := xm_gt d_902_14
theorem d_902_15 : List.drop 15 xm_c902 = xm_c902_15 := xm_dr d_902_14
theorem k_902_15 : xm_gi xm_c902 15 = some xm_e902_15 := xm_gt d_902_15
theorem d_902_16 : List.drop 16 xm_c902 = xm_c902_16 := xm_dr d_902_15
theorem k_902_16 : xm_gi xm_c902 16 = some xm_e902_16 := xm_gt d_902_16
theorem d_902_17 : List.drop 17 xm_c902 = xm_c902_17 := xm_dr d_902_16
theorem k_902_17 : xm_gi xm_c902 17 = some xm_e902_17 := xm_gt d_902_17
theorem d_902_18 : List.drop 18 xm_c902 = xm_c902_18 := xm_dr d_902_17
theorem k_902_18 : xm_gi xm_c902 18 = some xm_e902_18 := xm_gt d_902_18
theorem d_902_19 : List.drop 19 xm_c902 = xm_c902_19 := xm_dr d_902_18
theorem k_902_19 : xm_gi xm_c902 19 = some xm_e902_19 := xm_gt d_902_19
theorem d_902_20 : List.drop 20 xm_c902 = xm_c902_20 := xm_dr d_902_19
theorem k_902_20 : xm_gi xm_c902 20 = some xm_e902_20 := xm_gt d_902_20
theorem d_902_21 : List.drop 21 xm_c902 = xm_c902_21 := xm_dr d_902_20
theorem k_902_21 : xm_gi xm_c902 21 = some xm_e902_21 := xm_gt d_902_21
theorem d_902_22 : List.drop 22 xm_c902 = xm_c902_22 := xm_dr d_902_21
theorem k_902_22 : xm_gi xm_c902 22 = some xm_e902_22 := xm_gt d_902_22
theorem d_902_23 : List.drop 23 xm_c902 = xm_c902_23 := xm_dr d_902_22
theorem k_902_23 : xm_gi xm_c902 23 = some xm_e902_23 := xm_gt d_902_23
theorem d_902_24 : List.drop 24 xm_c902 = xm_c902_24 := xm_dr d_902_23
theorem k_902_24 : xm_gi xm_c902 24 = some xm_e902_24 := xm_gt d_902_24
theorem d_902_25 : List.drop 25 xm_c902 = xm_c902_25 := xm_dr d_902_24
theorem k_902_25 : xm_gi xm_c902 25 = some xm_e902_25 := xm_gt d_902_25
theorem d_902_26 : List.drop 26 xm_c902 = xm_c902_26 := xm_dr d_902_25
theorem k_902_26 : xm_gi xm_c902 26 = some xm_e902_26 := xm_gt d_902_26
theorem d_902_27 : List.drop 27 xm_c902 = xm_c902_27 := xm_dr d_902_26
theorem k_902_27 : xm_gi xm_c902 27 = some xm_e902_27 := xm_gt d_902_27
theorem d_902_28 : List.drop 28 xm_c902 = xm_c902_28 := xm_dr d_902_27
theorem k_902_28 : xm_gi xm_c902 28 = some xm_e902_28 := xm_gt d_902_28
theorem d_902_29 : List.drop 29 xm_c902 = xm_c902_29 := xm_dr d_902_28
theorem k_902_29 : xm_gi xm_c902 29 = some xm_e902_29 := xm_gt d_902_29
theorem d_902_30 : List.drop 30 xm_c902 = xm_c902_30 := xm_dr d_902_29
theorem k_902_30 : xm_gi xm_c902 30 = some xm_e902_30 := xm_gt d_902_30
theorem d_902_31 : List.drop 31 xm_c902 = xm_c902_31 := xm_dr d_902_30
theorem k_902_31 : xm_gi xm_c902 31 = some xm_e902_31 := xm_gt d_902_31
theorem d_902_32 : List.drop 32 xm_c902 = xm_c902_32 := xm_dr d_902_31
theorem k_902_32 : xm_gi xm_c902 32 = some xm_e902_32 := xm_gt d_902_32
theorem d_902_33 : List.drop 33 xm_c902 = xm_c902_33 := xm_dr d_902_32
theorem k_902_33 : xm_gi xm_c902 33 = some xm_e902_33 := xm_gt d_902_33
theorem d_902_34 : List.drop 34 xm_c902 = xm_c902_34 := xm_dr d_902_33
theorem k_902_34 : xm_gi xm_c902 34 = some xm_e902_34 := xm_gt d_902_34
theorem d_902_35 : List.drop 35 xm_c902 = xm_c902_35 := xm_dr d_902_34
theorem k_902_35 : xm_gi xm_c902 35 = some xm_e902_35 := xm_gt d_902_35
theorem d_902_36 : List.drop 36 xm_c902 = xm_c902_36 := xm_dr d_902_35
theorem k_902_36 : xm_gi xm_c902 36 = some xm_e902_36 := xm_gt d_902_36
theorem d_902_37 : List.drop 37 xm_c902 = xm_c902_37 := xm_dr d_902_36
theorem k_902_37 : xm_gi xm_c902 37 = some xm_e902_37 := xm_gt d_902_37
theorem d_902_38 : List.drop 38 xm_c902 = xm_c902_38 := xm_dr d_902_37
theorem k_902_38 : xm_gi xm_c902 38 = some xm_e902_38 := xm_gt d_902_38
theorem d_902_39 : List.drop 39 xm_c902 = xm_c902_39 := xm_dr d_902_38
theorem k_902_39 : xm_gi xm_c902 39 = some xm_e902_39 := xm_gt d_902_39
theorem d_902_40 : List.drop 40 xm_c902 = xm_c902_40 := xm_dr d_902_39
theorem k_902_40 : xm_gi xm_c902 40 = some xm_e902_40 := xm_gt d_902_40
theorem d_902_41 : List.drop 41 xm_c902 = xm_c902_41 := xm_dr d_902_40
theorem k_902_41 : xm_gi xm_c902 41 = some xm_e902_41 := xm_gt d_902_41
theorem d_902_42 : List.drop 42 xm_c902 = xm_c902_42 := xm_dr d_902_41
theorem k_902_42 : xm_gi xm_c902 42 = some xm_e902_42 := xm_gt d_902_42
theorem d_902_43 : List.drop 43 xm_c902 = xm_c902_43 := xm_dr d_902_42
theorem k_902_43 : xm_gi xm_c902 43 = some xm_e902_43 := xm_gt d_902_43
theorem d_902_44 : List.drop 44 xm_c902 = xm_c902_44 := xm_dr d_902_43
theorem k_902_44 : xm_gi xm_c902 44 = some xm_e902_44 := xm_gt d_902_44
theorem d_902_45 : List.drop 45 xm_c902 = xm_c902_45 := xm_dr d_902_44
theorem k_902_45 : xm_gi xm_c902 45 = some xm_e902_45 := xm_gt d_902_45
theorem d_902_46 : List.drop 46 xm_c902 = xm_c902_46 := xm_dr d_902_45
theorem k_902_46 : xm_gi xm_c902 46 = some xm_e902_46 := xm_gt d_902_46
theorem d_902_47 : List.drop 47 xm_c902 = xm_c902_47 := xm_dr d_902_46
theorem k_902_47 : xm_gi xm_c902 47 = some xm_e902_47 := xm_gt d_902_47
theorem d_902_48 : List.drop 48 xm_c902 = xm_c902_48 := xm_dr d_902_47
theorem k_902_48 : xm_gi xm_c902 48 = some xm_e902_48 := xm_gt d_902_48
theorem d_902_49 : List.drop 49 xm_c902 = xm_c902_49 := xm_dr d_902_48
theorem k_902_49 : xm_gi xm_c902 49 = some xm_e902_49 := xm_gt d_902_49
theorem d_902_50 : List.drop 50 xm_c902 = xm_c902_50 := xm_dr d_902_49
theorem k_902_50 : xm_gi xm_c902 50 = some xm_e902_50 := xm_gt d_902_50
theorem d_902_51 : List.drop 51 xm_c902 = xm_c902_51 := xm_dr d_902_50
theorem k_902_51 : xm_gi xm_c902 51 = some xm_e902_51 := xm_gt d_902_51
theorem d_902_52 : List.drop 52 xm_c902 = xm_c902_52 := xm_dr d_902_51
theorem k_902_52 : xm_gi xm_c902 52 = some xm_e902_52 := xm_gt d_902_52
theorem d_902_53 : List.drop 53 xm_c902 = xm_c902_53 := xm_dr d_902_52
theorem k_902_53 : xm_gi xm_c902 53 = some xm_e902_53 := xm_gt d_902_53
theorem d_902_54 : List.drop 54 xm_c902 = xm_c902_54 := xm_dr d_902_53
theorem k_902_54 : xm_gi xm_c902 54 = some xm_e902_54 := xm_gt d_902_54
theorem d_902_55 : List.drop 55 xm_c902 = xm_c902_55 := xm_dr d_902_54
theorem k_902_55 : xm_gi xm_c902 55 = some xm_e902_55 := xm_gt d_902_55
theorem d_902_56 : List.drop 56 xm_c902 = xm_c902_56 := xm_dr d_902_55
theorem k_902_56 : xm_gi xm_c902 56 = some xm_e902_56 := xm_gt d_902_56
theorem d_902_57 : List.drop 57 xm_c902 = xm_c902_57 := xm_dr d_902_56
theorem k_902_57 : xm_gi xm_c902 57 = some xm_e902_57 := xm_gt d_902_57
theorem d_902_58 : List.drop 58 xm_c902 = xm_c902_58 := xm_dr d_902_57
theorem k_902_58 : xm_gi xm_c902 58 = some xm_e902_58 := xm_gt d_902_58
theorem d_902_59 : List.drop 59 xm_c902 = xm_c902_59 := xm_dr d_902_58
theorem k_902_59 : xm_gi xm_c902 59 = some xm_e902_59 := xm_gt d_902_59
theorem d_902_60 : List.drop 60 xm_c902 = xm_c902_60 := xm_dr d_902_59
theorem k_902_60 : xm_gi xm_c902 60 = some xm_e902_60 := xm_gt d_902_60
theorem d_902_61 : List.drop 61 xm_c902 = xm_c902_61 := xm_dr d_902_60
theorem k_902_61 : xm_gi xm_c902 61 = some xm_e902_61 := xm_gt d_902_61
theorem d_902_62 : List.drop 62 xm_c902 = xm_c902_62 := xm_dr d_902_61
theorem k_902_62 : xm_gi xm_c902 62 = some xm_e902_62 := xm_gt d_902_62
theorem d_902_63 : List.drop 63 xm_c902 = xm_c902_63 := xm_dr d_902_62
theorem k_902_63 : xm_gi xm_c902 63 = some xm_e902_63 := xm_gt d_902_63
theorem d_902_64 : List.drop 64 xm_c902 = xm_c902_64 := xm_dr d_902_63
theorem k_902_64 : xm_gi xm_c902 64 = some xm_e902_64 := xm_gt d_902_64
theorem d_902_65 : List.drop 65 xm_c902 = xm_c902_65 := xm_dr d_902_64
theorem k_902_65 : xm_gi xm_c902 65 = some xm_e902_65 := xm_gt d_902_65
theorem d_902_66 : List.drop 66 xm_c902 = xm_c902_66 := xm_dr d_902_65
theorem k_902_66 : xm_gi xm_c902 66 = some xm_e902_66 := xm_gt d_902_66
theorem d_902_67 : List.drop 67 xm_c902 = xm_c902_67 := xm_dr d_902_66
theorem k_902_67 : xm_gi xm_c902 67 = some xm_e902_67 := xm_gt d_902_67
theorem d_902_68 : List.drop 68 xm_c902 = xm_c902_68 := xm_dr d_902_67
theorem k_902_68 : xm_gi xm_c902 68 = some xm_e902_68 := xm_gt d_902_68
theorem d_902_69 : List.drop 69 xm_c902 = xm_c902_69 := xm_dr d_902_68
theorem k_902_69 : xm_gi xm_c902 69 = some xm_e902_69 := xm_gt d_902_69
theorem d_902_70 : List.drop 70 xm_c902 = xm_c902_70 := xm_dr d_902_69
theorem k_902_70 : xm_gi xm_c902 70 = some xm_e902_70 := xm_gt d_902_70
theorem d_902_71 : List.drop 71 xm_c902 = xm_c902_71 := xm_dr d_902_70
theorem k_902_71 : xm_gi xm_c902 71 = some xm_e902_71 := xm_gt d_902_71
theorem d_902_72 : List.drop 72 xm_c902 = xm_c902_72 := xm_dr d_902_71
theorem k_902_72 : xm_gi xm_c902 72 = some xm_e902_72 := xm_gt d_902_72
theorem d_902_73 : List.drop 73 xm_c902 = xm_c902_73 := xm_dr d_902_72
theorem k_902_73 : xm_gi xm_c902 73 = some xm_e902_73 := xm_gt d_902_73
theorem d_902_74 : List.drop 74 xm_c902 = xm_c902_74 := xm_dr d_902_73
theorem k_902_74 : xm_gi xm_c902 74 = some xm_e902_74 := xm_gt d_902_74
theorem d_902_75 : List.drop 75 xm_c902 = xm_c902_75 := xm_dr d_902_74
theorem k_902_75 : xm_gi xm_c902 75 = some xm_e902_75 := xm_gt d_902_75
theorem d_902_76 : List.drop 76 xm_c902 = xm_c902_76 := xm_dr d_902_75
theorem k_902_76 : xm_gi xm_c902 76 = some xm_e902_76 := xm_gt d_902_76
theorem d_902_77 : List.drop 77 xm_c902 = xm_c902_77 := xm_dr d_902_76
theorem k_902_77 : xm_gi xm_c902 77 = some xm_e902_77 := xm_gt d_902_77
theorem d_902_78 : List.drop 78 xm_c902 = xm_c902_78 := xm_dr d_902_77
theorem k_902_78 : xm_gi xm_c902 78 = some xm_e902_78 := xm_gt d_902_78
theorem d_902_79 : List.drop 79 xm_c902 = xm_c902_79 := xm_dr d_902_78
theorem k_902_79 : xm_gi xm_c902 79 = some xm_e902_79 := xm_gt d_902_79
theorem d_902_80 : List.drop 80 xm_c902 = xm_c902_80 := xm_dr d_902_79
theorem k_902_80 : xm_gi xm_c902 80 = some xm_e902_80 := xm_gt d_902_80
theorem d_902_81 : List.drop 81 xm_c902 = xm_c902_81 := xm_dr d_902_80
theorem k_902_81 : xm_gi xm_c902 81 = some xm_e902_81 := xm_gt d_902_81
theorem d_902_82 : List.drop 82 xm_c902 = xm_c902_82 := xm_dr d_902_81
theorem k_902_82 : xm_gi xm_c902 82 = some xm_e902_82 := xm_gt d_902_82
theorem d_902_83 : List.drop 83 xm_c902 = xm_c902_83 := xm_dr d_902_82
theorem k_902_83 : xm_gi xm_c902 83 = some xm_e902_83 := xm_gt d_902_83
theorem d_902_84 : List.drop 84 xm_c902 = xm_c902_84 := xm_dr d_902_83
theorem k_902_84 : xm_gi xm_c902 84 = some xm_e902_84 := xm_gt d_902_84
theorem d_902_85 : List.drop 85 xm_c902 = xm_c902_85 := xm_dr d_902_84
theorem k_902_85 : xm_gi xm_c902 85 = some xm_e902_85 := xm_gt d_902_85
theorem d_902_86 : List.drop 86 xm_c902 = xm_c902_86 := xm_dr d_902_85
theorem k_902_86 : xm_gi xm_c902 86 = some xm_e902_86 := xm_gt d_902_86
theorem d_902_87 : List.drop 87 xm_c902 = xm_c902_87 := xm_dr d_902_86
theorem k_902_87 : xm_gi xm_c902 87 = some xm_e902_87 := xm_gt d_902_87
theorem d_902_88 : List.drop 88 xm_c902 = xm_c902_88 := xm_dr d_902_87
theorem k_902_88 : xm_gi xm_c902 88 = some xm_e902_88 := xm_gt d_902_88
theorem d_902_89 : List.drop 89 xm_c902 = xm_c902_89 := xm_dr d_902_88
theorem k_902_89 : xm_gi xm_c902 89 = some xm_e902_89 := xm_gt d_902_89
theorem d_902_90 : List.drop 90 xm_c902 = xm_c902_90 := xm_dr d_902_89
theorem k_902_90 : xm_gi xm_c902 90 = some xm_e902_90 := xm_gt d_902_90
theorem d_902_91 : List.drop 91 xm_c902 = xm_c902_91 := xm_dr d_902_90
theorem k_902_91 : xm_gi xm_c902 91 = some xm_e902_91 := xm_gt d_902_91
theorem d_902_92 : List.drop 92 xm_c902 = xm_c902_92 := xm_dr d_902_91
theorem k_902_92 : xm_gi xm_c902 92 = some xm_e902_92 := xm_gt d_902_92
theorem d_902_93 : List.drop 93 xm_c902 = xm_c902_93 := xm_dr d_902_92
theorem k_902_93 : xm_gi xm_c902 93 = some xm_e902_93 := xm_gt d_902_93
theorem d_902_94 : List.drop 94 xm_c902 = xm_c902_94 := xm_dr d_902_93
theorem k_902_94 : xm_gi xm_c902 94 = some xm_e902_94 := xm_gt d_902_94
theorem xb_902_0 {sc : List Int} {f : Nat → List xm_V → xm_W → xm_R} {w : xm_W} {Q : Option xm_V × xm_W → Prop} {x0 : Nat} {x1 : Nat} {x2 : Nat}
  (h : xm_EQ (xm_old sc) xm_sta f xm_c902 4 [some (.inr (.inl (some x0))), some (.inr (.inl (some x1))), some (.inr (.inl (some x2))), some (.inl 0), some (.inl 0), none] [] w Q) :
  xm_EQ (xm_old sc) xm_sta f xm_c902 0 [some (.inr (.inl (some x0))), some (.inr (.inl (some x1))), some (.inr (.inl (some x2))), none, none, none] [] w Q :=
  (xq_iconst k_902_0 (xq_istore_n k_902_1 rfl (xq_iconst k_902_2 (xq_istore k_902_3 rfl h))))
theorem xb_902_4 {sc : List Int} {f : Nat → List xm_V → xm_W → xm_R} {w : xm_W} {Q : Option xm_V × xm_W → Prop} {x0 : Nat} {x1 : Nat} {x2 : Nat} {x3 : Int} {x4 : Int} {u5 : Option xm_V}
  (h : xm_O (xm_fr (xm_old sc) w x0 7 0) (fun r1 => xm_O (xm_len (xm_old sc) w r1) (fun (n2 : Nat) => if (x4 : Int) < ((n2 : Nat) : Int) then (xm_O (xm_fr (xm_old sc) w x0 7 0) (fun r5 => xm_O (xm_ints (xm_old sc) w r5) (fun l6 => xm_O (xm_at l6 x4) (fun z7 => if (z7 : Int) < (-4) then (if ((xm_w ((-10) - z7)) : Int) = 33 then (if (x3 : Int) < 1 then (Q (some (.inl 0), w)) else (xm_O (xm_ints (xm_old sc) w x2) (fun l15 => xm_O (xm_at l15 (xm_w (x3 - 1))) (fun z16 => if (z16 : Int) = 0 then (xm_O (xm_seti w x2 (xm_w (x3 - 1)) 1) (fun w18 => xm_EQ (xm_old sc) xm_sta f xm_c902 4 [some (.inr (.inl (some x0))), some (.inr (.inl (some x1))), some (.inr (.inl (some x2))), some (.inl x3), some (.inl (xm_w (x4 + 1))), some (.inl z7)] [] w18 Q)) else (xm_O (xm_seti w x2 (xm_w (x3 - 1)) 0) (fun w17 => xm_EQ (xm_old sc) xm_sta f xm_c902 4 [some (.inr (.inl (some x0))), some (.inr (.inl (some x1))), some (.inr (.inl (some x2))), some (.inl x3), some (.inl (xm_w (x4 + 1))), some (.inl z7)] [] w17 Q)))))) else (if (x3 : Int) < 2 then (Q (some (.inl 0), w)) else (xm_O (xm_ints (xm_old sc) w x2) (fun l8 => xm_O (xm_at l8 (xm_w ((xm_w (x3 + (-1))) - 1))) (fun z9 => xm_O (xm_ints (xm_old sc) w x2) (fun l10 => xm_O (xm_at l10 (xm_w (x3 + (-1)))) (fun z11 => xm_Oi (f 903 [.inl (xm_w ((-10) - z7)), .inl z9, .inl z11] w) (fun z13 w12 => xm_O (xm_seti w12 x2 (xm_w ((xm_w (x3 + (-1))) - 1)) z13) (fun w14 => xm_EQ (xm_old sc) xm_sta f xm_c902 4 [some (.inr (.inl (some x0))), some (.inr (.inl (some x1))), some (.inr (.inl (some x2))), some (.inl (xm_w (x3 + (-1)))), some (.inl (xm_w (x4 + 1))), some (.inl z7)] [] w14 Q))))))))) else (xm_O (xm_len (xm_old sc) w x2) (fun (n19 : Nat) => if (x3 : Int) < ((n19 : Nat) : Int) then (if (z7 : Int) < 0 then (xm_O (xm_ints (xm_old sc) w x1) (fun l20 => xm_O (xm_at l20 (xm_w ((-1) - z7))) (fun z21 => xm_O (xm_seti w x2 x3 z21) (fun w22 => xm_EQ (xm_old sc) xm_sta f xm_c902 4 [some (.inr (.inl (some x0))), some (.inr (.inl (some x1))), some (.inr (.inl (some x2))), some (.inl (xm_w (x3 + 1))), some (.inl (xm_w (x4 + 1))), some (.inl z7)] [] w22 Q)))) else (xm_O (xm_seti w x2 x3 z7) (fun w23 => xm_EQ (xm_old sc) xm_sta f xm_c902 4 [some (.inr (.inl (some x0))), some (.inr (.inl (some x1))), some (.inr (.inl (some x2))), some (.inl (xm_w (x3 + 1))), some (.inl (xm_w (x4 + 1))), some (.inl z7)] [] w23 Q))) else (Q (some (.inl 0), w)))))))) else (if (0 : Int) < x3 then (xm_O (xm_ints (xm_old sc) w x2) (fun l3 => xm_O (xm_at l3 0) (fun z4 => Q (some (.inl z4), w)))) else (Q (some (.inl 0), w)))))) :
  xm_EQ (xm_old sc) xm_sta f xm_c902 4 [some (.inr (.inl (some x0))), some (.inr (.inl (some x1))), some (.inr (.inl (some x2))), some (.inl x3), some (.inl x4), u5] [] w Q :=
  (xq_iload k_902_4 rfl (xq_aload_n k_902_5 rfl (xq_getr k_902_6 rfl h (fun r1 h => (xq_alen k_902_7 h (fun n2 h => (xq_ic_ge k_902_8 h (fun h => (xq_aload_n k_902_9 rfl (xq_getr k_902_10 rfl h (fun r5 h => (xq_iload k_902_11 rfl (xq_iaload k_902_12 h (fun l6 h => h) (fun l6 z7 h => (xq_istore k_902_13 rfl (xq_iload k_902_14 rfl (xq_bipush k_902_15 (xq_ic_lt k_902_16 h (fun h => (xq_bipush k_902_37 (xq_iload k_902_38 rfl (xq_isub k_902_39 (xq_bipush k_902_40 (xq_ic_ne k_902_41 h (fun h => (xq_iload_n k_902_42 rfl (xq_iconst k_902_43 (xq_ic_ge k_902_44 h (fun h => (xq_iconst k_902_45 (xq_ireturn k_902_46 h))) (fun h => (xq_aload_n k_902_47 rfl (xq_iload_n k_902_48 rfl (xq_iconst k_902_49 (xq_isub k_902_50 (xq_aload_n k_902_51 rfl (xq_iload_n k_902_52 rfl (xq_iconst k_902_53 (xq_isub k_902_54 (xq_iaload k_902_55 h (fun l15 h => h) (fun l15 z16 h => (xq_if_ne k_902_56 h (fun h => (xq_iconst k_902_57 (xq_goto k_902_58 (xq_iastore k_902_60 h (fun w18 h => (xq_goto k_902_61 (xq_iinc k_902_85 rfl rfl (xq_goto k_902_86 h)))))))) (fun h => (xq_iconst k_902_59 (xq_iastore k_902_60 h (fun w17 h => (xq_goto k_902_61 (xq_iinc k_902_85 rfl rfl (xq_goto k_902_86 h))))))))))))))))))))))) (fun h => (xq_iload_n k_902_62 rfl (xq_iconst k_902_63 (xq_ic_ge k_902_64 h (fun h => (xq_iconst k_902_65 (xq_ireturn k_902_66 h))) (fun h => (xq_iinc k_902_67 rfl rfl (xq_aload_n k_902_68 rfl (xq_iload_n k_902_69 rfl (xq_iconst k_902_70 (xq_isub k_902_71 (xq_bipush k_902_72 (xq_iload k_902_73 rfl (xq_isub k_902_74 (xq_aload_n k_902_75 rfl (xq_iload_n k_902_76 rfl (xq_iconst k_902_77 (xq_isub k_902_78 (xq_iaload k_902_79 h (fun l8 h => h) (fun l8 z9 h => (xq_aload_n k_902_80 rfl (xq_iload_n k_902_81 rfl (xq_iaload k_902_82 h (fun l10 h => h) (fun l10 z11 h => (xq_invs1 k_902_83 xr_903 rfl rfl rfl h (fun z13 w12 h => (xq_iastore k_902_84 h (fun w14 h => (xq_iinc k_902_85 rfl rfl (xq_goto k_902_86 h))))))))))))))))))))))))))))))))))) (fun h => (xq_iload_n k_902_17 rfl (xq_aload_n k_902_18 rfl (xq_alen k_902_19 h (fun n19 h => (xq_ic_lt k_902_20 h (fun h => (xq_aload_n k_902_23 rfl (xq_iload_n k_902_24 rfl (xq_iload k_902_25 rfl (xq_if_lt k_902_26 h (fun h => (xq_aload_n k_902_29 rfl (xq_iconst k_902_30 (xq_iload k_902_31 rfl (xq_isub k_902_32 (xq_iaload k_902_33 h (fun l20 h => h) (fun l20 z21 h => (xq_iastore k_902_34 h (fun w22 h => (xq_iinc k_902_35 rfl rfl (xq_goto k_902_36 (xq_iinc k_902_85 rfl rfl (xq_goto k_902_86 h))))))))))))) (fun h => (xq_iload k_902_27 rfl (xq_goto k_902_28 (xq_iastore k_902_34 h (fun w23 h => (xq_iinc k_902_35 rfl rfl (xq_goto k_902_36 (xq_iinc k_902_85 rfl rfl (xq_goto k_902_86 h)))))))))))))) (fun h => (xq_iconst k_902_21 (xq_ireturn k_902_22 h)))))))))))))))))))) (fun h => (xq_iload_n k_902_87 rfl (xq_if_le k_902_88 h (fun h => (xq_aload_n k_902_89 rfl (xq_iconst k_902_90 (xq_iaload k_902_91 h (fun l3 h => h) (fun l3 z4 h => (xq_goto k_902_92 (xq_ireturn k_902_94 h))))))) (fun h => (xq_iconst k_902_93 (xq_ireturn k_902_94 h)))))))))))))
/-- ShodBackwards$Text.joined(III)I -/
theorem d_903_0 : List.drop 0 xm_c903 = xm_c903 := rfl
theorem k_903_0 : xm_gi xm_c903 0 = some xm_e903_0 := xm_gt d_903_0
theorem d_903_1 : List.drop 1 xm_c903 = xm_c903_1 := xm_dr d_903_0
theorem k_903_1 : xm_gi xm_c903 1 = some xm_e903_1 := xm_gt d_903_1
theorem d_903_2 : List.drop 2 xm_c903 = xm_c903_2 := xm_dr d_903_1
theorem k_903_2 : xm_gi xm_c903 2 = some xm_e903_2 := xm_gt d_903_2
theorem d_903_3 : List.drop 3 xm_c903 = xm_c903_3 := xm_dr d_903_2
theorem k_903_3 : xm_gi xm_c903 3 = some xm_e903_3 := xm_gt d_903_3
theorem d_903_4 : List.drop 4 xm_c903 = xm_c903_4 := xm_dr d_903_3
theorem k_903_4 : xm_gi xm_c903 4 = some xm_e903_4 := xm_gt d_903_4
theorem d_903_5 : List.drop 5 xm_c903 = xm_c903_5 := xm_dr d_903_4
theorem k_903_5 : xm_gi xm_c903 5 = some xm_e903_5 := xm_gt d_903_5
theorem d_903_6 : List.drop 6 xm_c903 = xm_c903_6 := xm_dr d_903_5
theorem k_903_6 : xm_gi xm_c903 6 = some xm_e903_6 := xm_gt d_903_6
theorem d_903_7 : List.drop 7 xm_c903 = xm_c903_7 := xm_dr d_903_6
theorem k_903_7 : xm_gi xm_c903 7 = some xm_e903_7 := xm_gt d_903_7
theorem d_903_8 : List.drop 8 xm_c903 = xm_c903_8 := xm_dr d_903_7
theorem k_903_8 : xm_gi xm_c903 8 = some xm_e903_8 := xm_gt d_903_8
theorem d_903_9 : List.drop 9 xm_c903 = xm_c903_9 := xm_dr d_903_8
theorem k_903_9 : xm_gi xm_c903 9 = some xm_e903_9 := xm_gt d_903_9
theorem d_903_10 : List.drop 10 xm_c903 = xm_c903_10 := xm_dr d_903_9
theorem k_903_10 : xm_gi xm_c903 10 = some xm_e903_10 := xm_gt d_903_10
theorem d_903_11 : List.drop 11 xm_c903 = xm_c903_11 := xm_dr d_903_10
theorem k_903_11 : xm_gi xm_c903 11 = some xm_e903_11 := xm_gt d_903_11
theorem d_903_12 : List.drop 12 xm_c903 = xm_c903_12 := xm_dr d_903_11
theorem k_903_12 : xm_gi xm_c903 12 = some xm_e903_12 := xm_gt d_903_12
theorem d_903_13 : List.drop 13 xm_c903 = xm_c903_13 := xm_dr d_903_12
theorem k_903_13 : xm_gi xm_c903 13 = some xm_e903_13 := xm_gt d_903_13
theorem d_903_14 : List.drop 14 xm_c903 = xm_c903_14 := xm_dr d_903_13
theorem k_903_14 : xm_gi xm_c903 14 = some xm_e903_14 := xm_gt d_903_14
theorem d_903_15 : List.drop 15 xm_c903 = xm_c903_15 := xm_dr d_903_14
theorem k_903_15 : xm_gi xm_c903 15 = some xm_e903_15 := xm_gt d_903_15
theorem d_903_16 : List.drop 16 xm_c903 = xm_c903_16 := xm_dr d_903_15
theorem k_903_16 : xm_gi xm_c903 16 = some xm_e903_16 := xm_gt d_903_16
theorem d_903_17 : List.drop 17 xm_c903 = xm_c903_17 := xm_dr d_903_16
theorem k_903_17 : xm_gi xm_c903 17 = some xm_e903_17 := xm_gt d_903_17
theorem d_903_18 : List.drop 18 xm_c903 = xm_c903_18 := xm_dr d_903_17
theorem k_903_18 : xm_gi xm_c903 18 = some xm_e903_18 := xm_gt d_903_18
theorem d_903_19 : List.drop 19 xm_c903 = xm_c903_19 := xm_dr d_903_18
theorem k_903_19 : xm_gi xm_c903 19 = some xm_e903_19 := xm_gt d_903_19
theorem d_903_20 : List.drop 20 xm_c903 = xm_c903_20 := xm_dr d_903_19
theorem k_903_20 : xm_gi xm_c903 20 = some xm_e903_20 := xm_gt d_903_20
theorem d_903_21 : List.drop 21 xm_c903 = xm_c903_21 := xm_dr d_903_20
theorem k_903_21 : xm_gi xm_c903 21 = some xm_e903_21 := xm_gt d_903_21
theorem d_903_22 : List.drop 22 xm_c903 = xm_c903_22 := xm_dr d_903_21
theorem k_903_22 : xm_gi xm_c903 22 = some xm_e903_22 := xm_gt d_903_22
theorem d_903_23 : List.drop 23 xm_c903 = xm_c903_23 := xm_dr d_903_22
theorem k_903_23 : xm_gi xm_c903 23 = some xm_e903_23 := xm_gt d_903_23
theorem d_903_24 : List.drop 24 xm_c903 = xm_c903_24 := xm_dr d_903_23
theorem k_903_24 : xm_gi xm_c903 24 = some xm_e903_24 := xm_gt d_903_24
theorem d_903_25 : List.drop 25 xm_c903 = xm_c903_25 := xm_dr d_903_24
theorem k_903_25 : xm_gi xm_c903 25 = some xm_e903_25 := xm_gt d_903_25
theorem d_903_26 : List.drop 26 xm_c903 = xm_c903_26 := xm_dr d_903_25
theorem k_903_26 : xm_gi xm_c903 26 = some xm_e903_26 := xm_gt d_903_26
theorem d_903_27 : List.drop 27 xm_c903 = xm_c903_27 := xm_dr d_903_26
theorem k_903_27 : xm_gi xm_c903 27 = some xm_e903_27 := xm_gt d_903_27
theorem d_903_28 : List.drop 28 xm_c903 = xm_c903_28 := xm_dr d_903_27
theorem k_903_28 : xm_gi xm_c903 28 = some xm_e903_28 := xm_gt d_903_28
theorem d_903_29 : List.drop 29 xm_c903 = xm_c903_29 := xm_dr d_903_28
theorem k_903_29 : xm_gi xm_c903 29 = some xm_e903_29 := xm_gt d_903_29
theorem d_903_30 : List.drop 30 xm_c903 = xm_c903_30 := xm_dr d_903_29
theorem k_903_30 : xm_gi xm_c903 30 = some xm_e903_30 := xm_gt d_903_30
theorem d_903_31 : List.drop 31 xm_c903 = xm_c903_31 := xm_dr d_903_30
theorem k_903_31 : xm_gi xm_c903 31 = some xm_e903_31 := xm_gt d_903_31
theorem d_903_32 : List.drop 32 xm_c903 = xm_c903_32 := xm_dr d_903_31
theorem k_903_32 : xm_gi xm_c903 32 = some xm_e903_32 := xm_gt d_903_32
theorem d_903_33 : List.drop 33 xm_c903 = xm_c903_33 := xm_dr d_903_32
theorem k_903_33 : xm_gi xm_c903 33 = some xm_e903_33 := xm_gt d_903_33
theorem d_903_34 : List.drop 34 xm_c903 = xm_c903_34 := xm_dr d_903_33
theorem k_903_34 : xm_gi xm_c903 34 = some xm_e903_34 := xm_gt d_903_34
theorem d_903_35 : List.drop 35 xm_c903 = xm_c903_35 := xm_dr d_903_34
theorem k_903_35 : xm_gi xm_c903 35 = some xm_e903_35 := xm_gt d_903_35
theorem d_903_36 : List.drop 36 xm_c903 = xm_c903_36 := xm_dr d_903_35
theorem k_903_36 : xm_gi xm_c903 36 = some xm_e903_36 := xm_gt d_903_36
theorem d_903_37 : List.drop 37 xm_c903 = xm_c903_37 := xm_dr d_903_36
theorem k_903_37 : xm_gi xm_c903 37 = some xm_e903_37 := xm_gt d_903_37
theorem d_903_38 : List.drop 38 xm_c903 = xm_c903_38 := xm_dr d_903_37
theorem k_903_38 : xm_gi xm_c903 38 = some xm_e903_38 := xm_gt d_903_38
theorem d_903_39 : List.drop 39 xm_c903 = xm_c903_39 := xm_dr d_903_38
theorem k_903_39 : xm_gi xm_c903 39 = some xm_e903_39 := xm_gt d_903_39
theorem d_903_40 : List.drop 40 xm_c903 = xm_c903_40 := xm_dr d_903_39
theorem k_903_40 : xm_gi xm_c903 40 = some xm_e903_40 := xm_gt d_903_40
theorem d_903_41 : List.drop 41 xm_c903 = xm_c903_41 := xm_dr d_903_40
theorem k_903_41 : xm_gi xm_c903 41 = some xm_e903_41 := xm_gt d_903_41
theorem d_903_42 : List.drop 42 xm_c903 = xm_c903_42 := xm_dr d_903_41
theorem k_903_42 : xm_gi xm_c903 42 = some xm_e903_42 := xm_gt d_903_42
theorem d_903_43 : List.drop 43 xm_c903 = xm_c903_43 := xm_dr d_903_42
theorem k_903_43 : xm_gi xm_c903 43 = some xm_e903_43 := xm_gt d_903_43
theorem d_903_44 : List.drop 44 xm_c903 = xm_c903_44 := xm_dr d_903_43
theorem k_903_44 : xm_gi xm_c903 44 = some xm_e903_44 := xm_gt d_903_44
theorem d_903_45 : List.drop 45 xm_c903 = xm_c903_45 := xm_dr d_903_44
theorem k_903_45 : xm_gi xm_c903 45 = some xm_e903_45 := xm_gt d_903_45
theorem d_903_46 : List.drop 46 xm_c903 = xm_c903_46 := xm_dr d_903_45
theorem k_903_46 : xm_gi xm_c903 46 = some xm_e903_46 := xm_gt d_903_46
theorem d_903_47 : List.drop 47 xm_c903 = xm_c903_47 := xm_dr d_903_46
theorem k_903_47 : xm_gi xm_c903 47 = some xm_e903_47 := xm_gt d_903_47
theorem d_903_48 : List.drop 48 xm_c903 = xm_c903_48 := xm_dr d_903_47
theorem k_903_48 : xm_gi xm_c903 48 = some xm_e903_48 := xm_gt d_903_48
theorem d_903_49 : List.drop 49 xm_c903 = xm_c903_49 := xm_dr d_903_48
theorem k_903_49 : xm_gi xm_c903 49 = some xm_e903_49 := xm_gt d_903_49
theorem d_903_50 : List.drop 50 xm_c903 = xm_c903_50 := xm_dr d_903_49
theorem k_903_50 : xm_gi xm_c903 50 = some xm_e903_50 := xm_gt d_903_50
theorem d_903_51 : List.drop 51 xm_c903 = xm_c903_51 := xm_dr d_903_50
theorem k_903_51 : xm_gi xm_c903 51 = some xm_e903_51 := xm_gt d_903_51
theorem d_903_52 : List.drop 52 xm_c903 = xm_c903_52 := xm_dr d_903_51
theorem k_903_52 : xm_gi xm_c903 52 = some xm_e903_52 := xm_gt d_903_52
theorem d_903_53 : List.drop 53 xm_c903 = xm_c903_53 := xm_dr d_903_52
theorem k_903_53 : xm_gi xm_c903 53 = some xm_e903_53 := xm_gt d_903_53
theorem d_903_54 : List.drop 54 xm_c903 = xm_c903_54 := xm_dr d_903_53
theorem k_903_54 : xm_gi xm_c903 54 = some xm_e903_54 := xm_gt d_903_54
theorem d_903_55 : List.drop 55 xm_c903 = xm_c903_55 := xm_dr d_903_54
theorem k_903_55 : xm_gi xm_c903 55 = some xm_e903_55 := xm_gt d_903_55
theorem d_903_56 : List.drop 56 xm_c903 = xm_c903_56 := xm_dr d_903_55
theorem k_903_56 : xm_gi xm_c903 56 = some xm_e903_56 := xm_gt d_903_56
theorem d_903_57 : List.drop 57 xm_c903 = xm_c903_57 := xm_dr d_903_56
theorem k_903_57 : xm_gi xm_c903 57 = some xm_e903_57 := xm_gt d_903_57
theorem d_903_58 : List.drop 58 xm_c903 = xm_c903_58 := xm_dr d_903_57
theorem k_903_58 : xm_gi xm_c903 58 = some xm_e903_58 := xm_gt d_903_58
theorem d_903_59 : List.drop 59 xm_c903 = xm_c903_59 := xm_dr d_903_58
theorem k_903_59 : xm_gi xm_c903 59 = some xm_e903_59 := xm_gt d_903_59
theorem d_903_60 : List.drop 60 xm_c903 = xm_c903_60 := xm_dr d_903_59
theorem k_903_60 : xm_gi xm_c903 60 = some xm_e903_60 := xm_gt d_903_60
theorem d_903_61 : List.drop 61 xm_c903 = xm_c903_61 := xm_dr d_903_60
theorem k_903_61 : xm_gi xm_c903 61 = some xm_e903_61 := xm_gt d_903_61
theorem d_903_62 : List.drop 62 xm_c903 = xm_c903_62 := xm_dr d_903_61
theorem k_903_62 : xm_gi xm_c903 62 = some xm_e903_62 := xm_gt d_903_62
theorem d_903_63 : List.drop 63 xm_c903 = xm_c903_63 := xm_dr d_903_62
theorem k_903_63 : xm_gi xm_c903 63 = some xm_e903_63 := xm_gt d_903_63
theorem d_903_64 : List.drop 64 xm_c903 = xm_c903_64 := xm_dr d_903_63
theorem k_903_64 : xm_gi xm_c903 64 = some xm_e903_64 := xm_gt d_903_64
theorem d_903_65 : List.drop 65 xm_c903 = xm_c903_65 := xm_dr d_903_64
theorem k_903_65 : xm_gi xm_c903 65 = some xm_e903_65 := xm_gt d_903_65
theorem d_903_66 : List.drop 66 xm_c903 = xm_c903_66 := xm_dr d_903_65
theorem k_903_66 : xm_gi xm_c903 66 = some xm_e903_66 := xm_gt d_903_66
theorem xb_903_0 {sc : List Int} {f : Nat → List xm_V → xm_W → xm_R} {w : xm_W} {Q : Option xm_V × xm_W → Prop} {x0 : Int} {x1 : Int} {x2 : Int}
  (h : if (x0 : Int) = 38 then (if (x1 : Int) = 0 then (Q (some (.inl 0), w)) else (if (x2 : Int) = 0 then (Q (some (.inl 0), w)) else (Q (some (.inl 1), w)))) else (if (x0 : Int) = 42 then (Q (some (.inl (xm_w (x1 * x2))), w)) else (if (x0 : Int) = 43 then (Q (some (.inl (xm_w (x1 + x2))), w)) else (if (x0 : Int) = 45 then (Q (some (.inl (xm_w (x1 - x2))), w)) else (if (x0 : Int) = 47 then (if (x2 : Int) = 0 then (Q (some (.inl 0), w)) else ((x2 : Int) ≠ 0 ∧ (Q (some (.inl (xm_w (Int.tdiv x1 x2))), w)))) else (if (x0 : Int) = 60 then (if (x1 : Int) < x2 then (Q (some (.inl 1), w)) else (Q (some (.inl 0), w))) else (if (x0 : Int) = 61 then (if (x1 : Int) = x2 then (Q (some (.inl 1), w)) else (Q (some (.inl 0), w))) else (if (x0 : Int) = 62 then (if (x2 : Int) < x1 then (Q (some (.inl 1), w)) else (Q (some (.inl 0), w))) else (if (x0 : Int) = 124 then (if (x1 : Int) = 0 then (if (x2 : Int) = 0 then (Q (some (.inl 0), w)) else (Q (some (.inl 1), w))) else (Q (some (.inl 1), w))) else (if (x2 : Int) = 0 then (Q (some (.inl 0), w)) else ((x2 : Int) ≠ 0 ∧ (Q (some (.inl (Int.tmod x1 x2)), w))))))))))))) :
  xm_EQ (xm_old sc) xm_sta f xm_c903 0 [some (.inl x0), some (.inl x1), some (.inl x2)] [] w Q :=
  (xq_iload_n k_903_0 rfl (xq_lsw k_903_1 (xs_swc h (fun h => (xq_iload_n k_903_10 rfl (xq_if_eq k_903_11 h (fun h => (xq_iconst k_903_16 (xq_ireturn k_903_17 h))) (fun h => (xq_iload_n k_903_12 rfl (xq_if_eq k_903_13 h (fun h => (xq_iconst k_903_16 (xq_ireturn k_903_17 h))) (fun h => (xq_iconst k_903_14 (xq_goto k_903_15 (xq_ireturn k_903_17 h)))))))))) (fun h => (xs_swc h (fun h => (xq_iload_n k_903_47 rfl (xq_iload_n k_903_48 rfl (xq_imul k_903_49 (xq_ireturn k_903_50 h))))) (fun h => (xs_swc h (fun h => (xq_iload_n k_903_39 rfl (xq_iload_n k_903_40 rfl (xq_iadd k_903_41 (xq_ireturn k_903_42 h))))) (fun h => (xs_swc h (fun h => (xq_iload_n k_903_43 rfl (xq_iload_n k_903_44 rfl (xq_isub k_903_45 (xq_ireturn k_903_46 h))))) (fun h => (xs_swc h (fun h => (xq_iload_n k_903_51 rfl (xq_if_ne k_903_52 h (fun h => (xq_iconst k_903_53 (xq_goto k_903_54 (xq_ireturn k_903_58 h)))) (fun h => (xq_iload_n k_903_55 rfl (xq_iload_n k_903_56 rfl (xq_idiv k_903_57 h (fun h => (xq_ireturn k_903_58 h))))))))) (fun h => (xs_swc h (fun h => (xq_iload_n k_903_18 rfl (xq_iload_n k_903_19 rfl (xq_ic_ge k_903_20 h (fun h => (xq_iconst k_903_21 (xq_goto k_903_22 (xq_ireturn k_903_24 h)))) (fun h => (xq_iconst k_903_23 (xq_ireturn k_903_24 h))))))) (fun h => (xs_swc h (fun h => (xq_iload_n k_903_25 rfl (xq_iload_n k_903_26 rfl (xq_ic_ne k_903_27 h (fun h => (xq_iconst k_903_28 (xq_goto k_903_29 (xq_ireturn k_903_31 h)))) (fun h => (xq_iconst k_903_30 (xq_ireturn k_903_31 h))))))) (fun h => (xs_swc h (fun h => (xq_iload_n k_903_32 rfl (xq_iload_n k_903_33 rfl (xq_ic_le k_903_34 h (fun h => (xq_iconst k_903_35 (xq_goto k_903_36 (xq_ireturn k_903_38 h)))) (fun h => (xq_iconst k_903_37 (xq_ireturn k_903_38 h))))))) (fun h => (xs_swc h (fun h => (xq_iload_n k_903_2 rfl (xq_if_ne k_903_3 h (fun h => (xq_iload_n k_903_4 rfl (xq_if_eq k_903_5 h (fun h => (xq_iconst k_903_8 (xq_ireturn k_903_9 h))) (fun h => (xq_iconst k_903_6 (xq_goto k_903_7 (xq_ireturn k_903_9 h))))))) (fun h => (xq_iconst k_903_6 (xq_goto k_903_7 (xq_ireturn k_903_9 h))))))) (fun h => (xq_iload_n k_903_59 rfl (xq_if_ne k_903_60 h (fun h => (xq_iconst k_903_61 (xq_goto k_903_62 (xq_ireturn k_903_66 h)))) (fun h => (xq_iload_n k_903_63 rfl (xq_iload_n k_903_64 rfl (xq_irem k_903_65 h (fun h => (xq_ireturn k_903_66 h))))))))))))))))))))))))))))
