/-- the cells in the order in which they are made -/
def SN : z_Sh := [(11, 10), (10, 8), (0, 10), (0, 10), (0, 10), (0, 10), (0, 5), (10, 8), (0, 10), (0, 10), (0, 10), (0, 10), (0, 5), (4, 9), (0, 120), (0, 121), (0, 121), (0, 121), (6, 4), (10, 8), (0, 10), (0, 10), (0, 10), (0, 10), (0, 5), (0, 10), (5, 5), (0, 10), (1, 10), (1, 1024), (0, 1024), (9, 4), (10, 8), (0, 10), (0, 10), (0, 10), (0, 10), (0, 5), (0, 100), (3, 6), (0, 40), (0, 40), (0, 40), (0, 40), (8, 5), (0, 50), (0, 24), (2, 6), (7, 4), (1, 60), (7, 4), (1, 60), (7, 4), (1, 60), (7, 4), (1, 60), (7, 4), (1, 60), (7, 4), (1, 60), (12, 42), (0, 42), (0, 40), (0, 40), (0, 40), (0, 120), (0, 120), (0, 6), (0, 10), (0, 10), (0, 10), (0, 3), (0, 3), (0, 100), (0, 1024), (0, 100), (0, 5), (0, 42), (0, 5), (0, 50), (0, 24), (0, 6), (0, 6), (1, 360), (1, 60)]
theorem yq_tl_0 : (SN.take 0).length = 0 := by decide +kernel
theorem yq_tl_1 : (SN.take 1).length = 1 := by decide +kernel
theorem yq_tl_2 : (SN.take 2).length = 2 := by decide +kernel
theorem yq_tl_3 : (SN.take 3).length = 3 := by decide +kernel
theorem yq_tl_4 : (SN.take 4).length = 4 := by decide +kernel
theorem yq_tl_5 : (SN.take 5).length = 5 := by decide +kernel
theorem yq_tl_6 : (SN.take 6).length = 6 := by decide +kernel
theorem yq_tl_7 : (SN.take 7).length = 7 := by decide +kernel
theorem yq_tl_8 : (SN.take 8).length = 8 := by decide +kernel
theorem yq_tl_9 : (SN.take 9).length = 9 := by decide +kernel
theorem yq_tl_10 : (SN.take 10).length = 10 := by decide +kernel
theorem yq_tl_11 : (SN.take 11).length = 11 := by decide +kernel
theorem yq_tl_12 : (SN.take 12).length = 12 := by decide +kernel
theorem yq_tl_13 : (SN.take 13).length = 13 := by decide +kernel
theorem yq_tl_14 : (SN.take 14).length = 14 := by decide +kernel
theorem yq_tl_15 : (SN.take 15).length = 15 := by decide +kernel
theorem yq_tl_16 : (SN.take 16).length = 16 := by decide +kernel
theorem yq_tl_17 : (SN.take 17).length = 17 := by decide +kernel
theorem yq_tl_18 : (SN.take 18).length = 18 := by decide +kernel
theorem yq_tl_19 : (SN.take 19).length = 19 := by decide +kernel
theorem yq_tl_20 : (SN.take 20).length = 20 := by decide +kernel
theorem yq_tl_21 : (SN.take 21).length = 21 := by decide +kernel
theorem yq_tl_22 : (SN.take 22).length = 22 := by decide +kernel
theorem yq_tl_23 : (SN.take 23).length = 23 := by decide +kernel
theorem yq_tl_24 : (SN.take 24).length = 24 := by decide +kernel
theorem yq_tl_25 : (SN.take 25).length = 25 := by decide +kernel
theorem yq_tl_26 : (SN.take 26).length = 26 := by decide +kernel
theorem yq_tl_27 : (SN.take 27).length = 27 := by decide +kernel
theorem yq_tl_28 : (SN.take 28).length = 28 := by decide +kernel
theorem yq_tl_29 : (SN.take 29).length = 29 := by decide +kernel
theorem yq_tl_30 : (SN.take 30).length = 30 := by decide +kernel
theorem yq_tl_31 : (SN.take 31).length = 31 := by decide +kernel
theorem yq_tl_32 : (SN.take 32).length = 32 := by decide +kernel
theorem yq_tl_33 : (SN.take 33).length = 33 := by decide +kernel
theorem yq_tl_34 : (SN.take 34).length = 34 := by decide +kernel
theorem yq_tl_35 : (SN.take 35).length = 35 := by decide +kernel
theorem yq_tl_36 : (SN.take 36).length = 36 := by decide +kernel
theorem yq_tl_37 : (SN.take 37).length = 37 := by decide +kernel
theorem yq_tl_38 : (SN.take 38).length = 38 := by decide +kernel
theorem yq_tl_39 : (SN.take 39).length = 39 := by decide +kernel
theorem yq_tl_40 : (SN.take 40).length = 40 := by decide +kernel
theorem yq_tl_41 : (SN.take 41).length = 41 := by decide +kernel
theorem yq_tl_42 : (SN.take 42).length = 42 := by decide +kernel
theorem yq_tl_43 : (SN.take 43).length = 43 := by decide +kernel
theorem yq_tl_44 : (SN.take 44).length = 44 := by decide +kernel
theorem yq_tl_45 : (SN.take 45).length = 45 := by decide +kernel
theorem yq_tl_46 : (SN.take 46).length = 46 := by decide +kernel
theorem yq_tl_47 : (SN.take 47).length = 47 := by decide +kernel
theorem yq_tl_48 : (SN.take 48).length = 48 := by decide +kernel
theorem yq_tl_49 : (SN.take 49).length = 49 := by decide +kernel
theorem yq_tl_50 : (SN.take 50).length = 50 := by decide +kernel
theorem yq_tl_51 : (SN.take 51).length = 51 := by decide +kernel
theorem yq_tl_52 : (SN.take 52).length = 52 := by decide +kernel
theorem yq_tl_53 : (SN.take 53).length = 53 := by decide +kernel
theorem yq_tl_54 : (SN.take 54).length = 54 := by decide +kernel
theorem yq_tl_55 : (SN.take 55).length = 55 := by decide +kernel
theorem yq_tl_56 : (SN.take 56).length = 56 := by decide +kernel
theorem yq_tl_57 : (SN.take 57).length = 57 := by decide +kernel
theorem yq_tl_58 : (SN.take 58).length = 58 := by decide +kernel
theorem yq_tl_59 : (SN.take 59).length = 59 := by decide +kernel
theorem yq_tl_60 : (SN.take 60).length = 60 := by decide +kernel
theorem yq_tl_61 : (SN.take 61).length = 61 := by decide +kernel
theorem yq_tl_62 : (SN.take 62).length = 62 := by decide +kernel
theorem yq_tl_63 : (SN.take 63).length = 63 := by decide +kernel
theorem yq_tl_64 : (SN.take 64).length = 64 := by decide +kernel
theorem yq_tl_65 : (SN.take 65).length = 65 := by decide +kernel
theorem yq_tl_66 : (SN.take 66).length = 66 := by decide +kernel
theorem yq_tl_67 : (SN.take 67).length = 67 := by decide +kernel
theorem yq_tl_68 : (SN.take 68).length = 68 := by decide +kernel
theorem yq_tl_69 : (SN.take 69).length = 69 := by decide +kernel
theorem yq_tl_70 : (SN.take 70).length = 70 := by decide +kernel
theorem yq_tl_71 : (SN.take 71).length = 71 := by decide +kernel
theorem yq_tl_72 : (SN.take 72).length = 72 := by decide +kernel
theorem yq_tl_73 : (SN.take 73).length = 73 := by decide +kernel
theorem yq_tl_74 : (SN.take 74).length = 74 := by decide +kernel
theorem yq_tl_75 : (SN.take 75).length = 75 := by decide +kernel
theorem yq_tl_76 : (SN.take 76).length = 76 := by decide +kernel
theorem yq_tl_77 : (SN.take 77).length = 77 := by decide +kernel
theorem yq_tl_78 : (SN.take 78).length = 78 := by decide +kernel
theorem yq_tl_79 : (SN.take 79).length = 79 := by decide +kernel
theorem yq_tl_80 : (SN.take 80).length = 80 := by decide +kernel
theorem yq_tl_81 : (SN.take 81).length = 81 := by decide +kernel
theorem yq_tl_82 : (SN.take 82).length = 82 := by decide +kernel
theorem yq_tl_83 : (SN.take 83).length = 83 := by decide +kernel
theorem yq_tl_84 : (SN.take 84).length = 84 := by decide +kernel
theorem yq_tl_85 : (SN.take 85).length = 85 := by decide +kernel
theorem yq_ta_0 : SN.take 0 ++ [(11, 10)] = SN.take 1 := by decide +kernel
theorem yq_ta_1 : SN.take 1 ++ [(10, 8)] = SN.take 2 := by decide +kernel
theorem yq_ta_2 : SN.take 2 ++ [(0, 10)] = SN.take 3 := by decide +kernel
theorem yq_ta_3 : SN.take 3 ++ [(0, 10)] = SN.take 4 := by decide +kernel
theorem yq_ta_4 : SN.take 4 ++ [(0, 10)] = SN.take 5 := by decide +kernel
theorem yq_ta_5 : SN.take 5 ++ [(0, 10)] = SN.take 6 := by decide +kernel
theorem yq_ta_6 : SN.take 6 ++ [(0, 5)] = SN.take 7 := by decide +kernel
theorem yq_ta_7 : SN.take 7 ++ [(10, 8)] = SN.take 8 := by decide +kernel
theorem yq_ta_8 : SN.take 8 ++ [(0, 10)] = SN.take 9 := by decide +kernel
theorem yq_ta_9 : SN.take 9 ++ [(0, 10)] = SN.take 10 := by decide +kernel
theorem yq_ta_10 : SN.take 10 ++ [(0, 10)] = SN.take 11 := by decide +kernel
theorem yq_ta_11 : SN.take 11 ++ [(0, 10)] = SN.take 12 := by decide +kernel
theorem yq_ta_12 : SN.take 12 ++ [(0, 5)] = SN.take 13 := by decide +kernel
theorem yq_ta_13 : SN.take 13 ++ [(4, 9)] = SN.take 14 := by decide +kernel
theorem yq_ta_14 : SN.take 14 ++ [(0, 120)] = SN.take 15 := by decide +kernel
theorem yq_ta_15 : SN.take 15 ++ [(0, 121)] = SN.take 16 := by decide +kernel
theorem yq_ta_16 : SN.take 16 ++ [(0, 121)] = SN.take 17 := by decide +kernel
theorem yq_ta_17 : SN.take 17 ++ [(0, 121)] = SN.take 18 := by decide +kernel
theorem yq_ta_18 : SN.take 18 ++ [(6, 4)] = SN.take 19 := by decide +kernel
theorem yq_ta_19 : SN.take 19 ++ [(10, 8)] = SN.take 20 := by decide +kernel
theorem yq_ta_20 : SN.take 20 ++ [(0, 10)] = SN.take 21 := by decide +kernel
theorem yq_ta_21 : SN.take 21 ++ [(0, 10)] = SN.take 22 := by decide +kernel
theorem yq_ta_22 : SN.take 22 ++ [(0, 10)] = SN.take 23 := by decide +kernel
theorem yq_ta_23 : SN.take 23 ++ [(0, 10)] = SN.take 24 := by decide +kernel
theorem yq_ta_24 : SN.take 24 ++ [(0, 5)] = SN.take 25 := by decide +kernel
theorem yq_ta_25 : SN.take 25 ++ [(0, 10)] = SN.take 26 := by decide +kernel
theorem yq_ta_26 : SN.take 26 ++ [(5, 5)] = SN.take 27 := by decide +kernel
theorem yq_ta_27 : SN.take 27 ++ [(0, 10)] = SN.take 28 := by decide +kernel
theorem yq_ta_28 : SN.take 28 ++ [(1, 10)] = SN.take 29 := by decide +kernel
theorem yq_ta_29 : SN.take 29 ++ [(1, 1024)] = SN.take 30 := by decide +kernel
theorem yq_ta_30 : SN.take 30 ++ [(0, 1024)] = SN.take 31 := by decide +kernel
theorem yq_ta_31 : SN.take 31 ++ [(9, 4)] = SN.take 32 := by decide +kernel
theorem yq_ta_32 : SN.take 32 ++ [(10, 8)] = SN.take 33 := by decide +kernel
theorem yq_ta_33 : SN.take 33 ++ [(0, 10)] = SN.take 34 := by decide +kernel
theorem yq_ta_34 : SN.take 34 ++ [(0, 10)] = SN.take 35 := by decide +kernel
theorem yq_ta_35 : SN.take 35 ++ [(0, 10)] = SN.take 36 := by decide +kernel
theorem yq_ta_36 : SN.take 36 ++ [(0, 10)] = SN.take 37 := by decide +kernel
theorem yq_ta_37 : SN.take 37 ++ [(0, 5)] = SN.take 38 := by decide +kernel
theorem yq_ta_38 : SN.take 38 ++ [(0, 100)] = SN.take 39 := by decide +kernel
theorem yq_ta_39 : SN.take 39 ++ [(3, 6)] = SN.take 40 := by decide +kernel
theorem yq_ta_40 : SN.take 40 ++ [(0, 40)] = SN.take 41 := by decide +kernel
theorem yq_ta_41 : SN.take 41 ++ [(0, 40)] = SN.take 42 := by decide +kernel
theorem yq_ta_42 : SN.take 42 ++ [(0, 40)] = SN.take 43 := by decide +kernel
theorem yq_ta_43 : SN.take 43 ++ [(0, 40)] = SN.take 44 := by decide +kernel
theorem yq_ta_44 : SN.take 44 ++ [(8, 5)] = SN.take 45 := by decide +kernel
theorem yq_ta_45 : SN.take 45 ++ [(0, 50)] = SN.take 46 := by decide +kernel
theorem yq_ta_46 : SN.take 46 ++ [(0, 24)] = SN.take 47 := by decide +kernel
theorem yq_ta_47 : SN.take 47 ++ [(2, 6)] = SN.take 48 := by decide +kernel
theorem yq_ta_48 : SN.take 48 ++ [(7, 4)] = SN.take 49 := by decide +kernel
theorem yq_ta_49 : SN.take 49 ++ [(1, 60)] = SN.take 50 := by decide +kernel
theorem yq_ta_50 : SN.take 50 ++ [(7, 4)] = SN.take 51 := by decide +kernel
theorem yq_ta_51 : SN.take 51 ++ [(1, 60)] = SN.take 52 := by decide +kernel
theorem yq_ta_52 : SN.take 52 ++ [(7, 4)] = SN.take 53 := by decide +kernel
theorem yq_ta_53 : SN.take 53 ++ [(1, 60)] = SN.take 54 := by decide +kernel
theorem yq_ta_54 : SN.take 54 ++ [(7, 4)] = SN.take 55 := by decide +kernel
theorem yq_ta_55 : SN.take 55 ++ [(1, 60)] = SN.take 56 := by decide +kernel
theorem yq_ta_56 : SN.take 56 ++ [(7, 4)] = SN.take 57 := by decide +kernel
theorem yq_ta_57 : SN.take 57 ++ [(1, 60)] = SN.take 58 := by decide +kernel
theorem yq_ta_58 : SN.take 58 ++ [(7, 4)] = SN.take 59 := by decide +kernel
theorem yq_ta_59 : SN.take 59 ++ [(1, 60)] = SN.take 60 := by decide +kernel
theorem yq_ta_60 : SN.take 60 ++ [(12, 42)] = SN.take 61 := by decide +kernel
theorem yq_ta_61 : SN.take 61 ++ [(0, 42)] = SN.take 62 := by decide +kernel
theorem yq_ta_62 : SN.take 62 ++ [(0, 40)] = SN.take 63 := by decide +kernel
theorem yq_ta_63 : SN.take 63 ++ [(0, 40)] = SN.take 64 := by decide +kernel
theorem yq_ta_64 : SN.take 64 ++ [(0, 40)] = SN.take 65 := by decide +kernel
theorem yq_ta_65 : SN.take 65 ++ [(0, 120)] = SN.take 66 := by decide +kernel
theorem yq_ta_66 : SN.take 66 ++ [(0, 120)] = SN.take 67 := by decide +kernel
theorem yq_ta_67 : SN.take 67 ++ [(0, 6)] = SN.take 68 := by decide +kernel
theorem yq_ta_68 : SN.take 68 ++ [(0, 10)] = SN.take 69 := by decide +kernel
theorem yq_ta_69 : SN.take 69 ++ [(0, 10)] = SN.take 70 := by decide +kernel
theorem yq_ta_70 : SN.take 70 ++ [(0, 10)] = SN.take 71 := by decide +kernel
theorem yq_ta_71 : SN.take 71 ++ [(0, 3)] = SN.take 72 := by decide +kernel
theorem yq_ta_72 : SN.take 72 ++ [(0, 3)] = SN.take 73 := by decide +kernel
theorem yq_ta_73 : SN.take 73 ++ [(0, 100)] = SN.take 74 := by decide +kernel
theorem yq_ta_74 : SN.take 74 ++ [(0, 1024)] = SN.take 75 := by decide +kernel
theorem yq_ta_75 : SN.take 75 ++ [(0, 100)] = SN.take 76 := by decide +kernel
theorem yq_ta_76 : SN.take 76 ++ [(0, 5)] = SN.take 77 := by decide +kernel
theorem yq_ta_77 : SN.take 77 ++ [(0, 42)] = SN.take 78 := by decide +kernel
theorem yq_ta_78 : SN.take 78 ++ [(0, 5)] = SN.take 79 := by decide +kernel
theorem yq_ta_79 : SN.take 79 ++ [(0, 50)] = SN.take 80 := by decide +kernel
theorem yq_ta_80 : SN.take 80 ++ [(0, 24)] = SN.take 81 := by decide +kernel
theorem yq_ta_81 : SN.take 81 ++ [(0, 6)] = SN.take 82 := by decide +kernel
theorem yq_ta_82 : SN.take 82 ++ [(0, 6)] = SN.take 83 := by decide +kernel
theorem yq_ta_83 : SN.take 83 ++ [(1, 360)] = SN.take 84 := by decide +kernel
theorem yq_ta_84 : SN.take 84 ++ [(1, 60)] = SN.take 85 := by decide +kernel
theorem yq_tg_2_1 : (SN.take 2)[1]? = some (10, 8) := by decide +kernel
theorem yq_tg_3_1 : (SN.take 3)[1]? = some (10, 8) := by decide +kernel
theorem yq_tg_4_1 : (SN.take 4)[1]? = some (10, 8) := by decide +kernel
theorem yq_tg_5_1 : (SN.take 5)[1]? = some (10, 8) := by decide +kernel
theorem yq_tg_6_1 : (SN.take 6)[1]? = some (10, 8) := by decide +kernel
theorem yq_tg_7_0 : (SN.take 7)[0]? = some (11, 10) := by decide +kernel
theorem yq_tg_7_1 : (SN.take 7)[1]? = some (10, 8) := by decide +kernel
theorem yq_tg_8_7 : (SN.take 8)[7]? = some (10, 8) := by decide +kernel
theorem yq_tg_9_7 : (SN.take 9)[7]? = some (10, 8) := by decide +kernel
theorem yq_tg_10_7 : (SN.take 10)[7]? = some (10, 8) := by decide +kernel
theorem yq_tg_11_7 : (SN.take 11)[7]? = some (10, 8) := by decide +kernel
theorem yq_tg_12_7 : (SN.take 12)[7]? = some (10, 8) := by decide +kernel
theorem yq_tg_13_0 : (SN.take 13)[0]? = some (11, 10) := by decide +kernel
theorem yq_tg_13_7 : (SN.take 13)[7]? = some (10, 8) := by decide +kernel
theorem yq_tg_15_13 : (SN.take 15)[13]? = some (4, 9) := by decide +kernel
theorem yq_tg_16_13 : (SN.take 16)[13]? = some (4, 9) := by decide +kernel
theorem yq_tg_17_13 : (SN.take 17)[13]? = some (4, 9) := by decide +kernel
theorem yq_tg_18_0 : (SN.take 18)[0]? = some (11, 10) := by decide +kernel
theorem yq_tg_18_13 : (SN.take 18)[13]? = some (4, 9) := by decide +kernel
theorem yq_tg_20_19 : (SN.take 20)[19]? = some (10, 8) := by decide +kernel
theorem yq_tg_21_19 : (SN.take 21)[19]? = some (10, 8) := by decide +kernel
theorem yq_tg_22_19 : (SN.take 22)[19]? = some (10, 8) := by decide +kernel
theorem yq_tg_23_19 : (SN.take 23)[19]? = some (10, 8) := by decide +kernel
theorem yq_tg_24_19 : (SN.take 24)[19]? = some (10, 8) := by decide +kernel
theorem yq_tg_25_18 : (SN.take 25)[18]? = some (6, 4) := by decide +kernel
theorem yq_tg_25_19 : (SN.take 25)[19]? = some (10, 8) := by decide +kernel
theorem yq_tg_26_0 : (SN.take 26)[0]? = some (11, 10) := by decide +kernel
theorem yq_tg_26_18 : (SN.take 26)[18]? = some (6, 4) := by decide +kernel
theorem yq_tg_27_26 : (SN.take 27)[26]? = some (5, 5) := by decide +kernel
theorem yq_tg_28_26 : (SN.take 28)[26]? = some (5, 5) := by decide +kernel
theorem yq_tg_29_26 : (SN.take 29)[26]? = some (5, 5) := by decide +kernel
theorem yq_tg_30_26 : (SN.take 30)[26]? = some (5, 5) := by decide +kernel
theorem yq_tg_31_0 : (SN.take 31)[0]? = some (11, 10) := by decide +kernel
theorem yq_tg_31_26 : (SN.take 31)[26]? = some (5, 5) := by decide +kernel
theorem yq_tg_33_32 : (SN.take 33)[32]? = some (10, 8) := by decide +kernel
theorem yq_tg_34_32 : (SN.take 34)[32]? = some (10, 8) := by decide +kernel
theorem yq_tg_35_32 : (SN.take 35)[32]? = some (10, 8) := by decide +kernel
theorem yq_tg_36_32 : (SN.take 36)[32]? = some (10, 8) := by decide +kernel
theorem yq_tg_37_32 : (SN.take 37)[32]? = some (10, 8) := by decide +kernel
theorem yq_tg_38_31 : (SN.take 38)[31]? = some (9, 4) := by decide +kernel
theorem yq_tg_38_32 : (SN.take 38)[32]? = some (10, 8) := by decide +kernel
theorem yq_tg_39_0 : (SN.take 39)[0]? = some (11, 10) := by decide +kernel
theorem yq_tg_39_31 : (SN.take 39)[31]? = some (9, 4) := by decide +kernel
theorem yq_tg_41_39 : (SN.take 41)[39]? = some (3, 6) := by decide +kernel
theorem yq_tg_42_39 : (SN.take 42)[39]? = some (3, 6) := by decide +kernel
theorem yq_tg_43_39 : (SN.take 43)[39]? = some (3, 6) := by decide +kernel
theorem yq_tg_44_0 : (SN.take 44)[0]? = some (11, 10) := by decide +kernel
theorem yq_tg_44_39 : (SN.take 44)[39]? = some (3, 6) := by decide +kernel
theorem yq_tg_46_44 : (SN.take 46)[44]? = some (8, 5) := by decide +kernel
theorem yq_tg_47_0 : (SN.take 47)[0]? = some (11, 10) := by decide +kernel
theorem yq_tg_47_44 : (SN.take 47)[44]? = some (8, 5) := by decide +kernel
theorem yq_tg_48_0 : (SN.take 48)[0]? = some (11, 10) := by decide +kernel
theorem yq_tg_48_47 : (SN.take 48)[47]? = some (2, 6) := by decide +kernel
theorem yq_tg_49_48 : (SN.take 49)[48]? = some (7, 4) := by decide +kernel
theorem yq_tg_50_0 : (SN.take 50)[0]? = some (11, 10) := by decide +kernel
theorem yq_tg_50_47 : (SN.take 50)[47]? = some (2, 6) := by decide +kernel
theorem yq_tg_50_48 : (SN.take 50)[48]? = some (7, 4) := by decide +kernel
theorem yq_tg_51_50 : (SN.take 51)[50]? = some (7, 4) := by decide +kernel
theorem yq_tg_52_0 : (SN.take 52)[0]? = some (11, 10) := by decide +kernel
theorem yq_tg_52_47 : (SN.take 52)[47]? = some (2, 6) := by decide +kernel
theorem yq_tg_52_50 : (SN.take 52)[50]? = some (7, 4) := by decide +kernel
theorem yq_tg_53_52 : (SN.take 53)[52]? = some (7, 4) := by decide +kernel
theorem yq_tg_54_0 : (SN.take 54)[0]? = some (11, 10) := by decide +kernel
theorem yq_tg_54_47 : (SN.take 54)[47]? = some (2, 6) := by decide +kernel
theorem yq_tg_54_52 : (SN.take 54)[52]? = some (7, 4) := by decide +kernel
theorem yq_tg_55_54 : (SN.take 55)[54]? = some (7, 4) := by decide +kernel
theorem yq_tg_56_0 : (SN.take 56)[0]? = some (11, 10) := by decide +kernel
theorem yq_tg_56_47 : (SN.take 56)[47]? = some (2, 6) := by decide +kernel
theorem yq_tg_56_54 : (SN.take 56)[54]? = some (7, 4) := by decide +kernel
theorem yq_tg_57_56 : (SN.take 57)[56]? = some (7, 4) := by decide +kernel
theorem yq_tg_58_0 : (SN.take 58)[0]? = some (11, 10) := by decide +kernel
theorem yq_tg_58_47 : (SN.take 58)[47]? = some (2, 6) := by decide +kernel
theorem yq_tg_58_56 : (SN.take 58)[56]? = some (7, 4) := by decide +kernel
theorem yq_tg_59_58 : (SN.take 59)[58]? = some (7, 4) := by decide +kernel
theorem yq_tg_60_0 : (SN.take 60)[0]? = some (11, 10) := by decide +kernel
theorem yq_tg_60_47 : (SN.take 60)[47]? = some (2, 6) := by decide +kernel
theorem yq_tg_60_58 : (SN.take 60)[58]? = some (7, 4) := by decide +kernel
theorem yq_tg_62_60 : (SN.take 62)[60]? = some (12, 42) := by decide +kernel
theorem yq_tg_63_60 : (SN.take 63)[60]? = some (12, 42) := by decide +kernel
theorem yq_tg_64_60 : (SN.take 64)[60]? = some (12, 42) := by decide +kernel
theorem yq_tg_65_60 : (SN.take 65)[60]? = some (12, 42) := by decide +kernel
theorem yq_tg_66_60 : (SN.take 66)[60]? = some (12, 42) := by decide +kernel
theorem yq_tg_67_60 : (SN.take 67)[60]? = some (12, 42) := by decide +kernel
theorem yq_tg_68_60 : (SN.take 68)[60]? = some (12, 42) := by decide +kernel
theorem yq_tg_69_60 : (SN.take 69)[60]? = some (12, 42) := by decide +kernel
theorem yq_tg_70_60 : (SN.take 70)[60]? = some (12, 42) := by decide +kernel
theorem yq_tg_71_60 : (SN.take 71)[60]? = some (12, 42) := by decide +kernel
theorem yq_tg_72_60 : (SN.take 72)[60]? = some (12, 42) := by decide +kernel
theorem yq_tg_73_60 : (SN.take 73)[60]? = some (12, 42) := by decide +kernel
theorem yq_tg_74_60 : (SN.take 74)[60]? = some (12, 42) := by decide +kernel
theorem yq_tg_75_60 : (SN.take 75)[60]? = some (12, 42) := by decide +kernel
theorem yq_tg_76_60 : (SN.take 76)[60]? = some (12, 42) := by decide +kernel
theorem yq_tg_77_60 : (SN.take 77)[60]? = some (12, 42) := by decide +kernel
theorem yq_tg_78_60 : (SN.take 78)[60]? = some (12, 42) := by decide +kernel
theorem yq_tg_79_60 : (SN.take 79)[60]? = some (12, 42) := by decide +kernel
theorem yq_tg_80_60 : (SN.take 80)[60]? = some (12, 42) := by decide +kernel
theorem yq_tg_81_60 : (SN.take 81)[60]? = some (12, 42) := by decide +kernel
theorem yq_tg_82_60 : (SN.take 82)[60]? = some (12, 42) := by decide +kernel
theorem yq_tg_83_60 : (SN.take 83)[60]? = some (12, 42) := by decide +kernel
theorem yq_tg_84_60 : (SN.take 84)[60]? = some (12, 42) := by decide +kernel
theorem yq_tg_85_60 : (SN.take 85)[60]? = some (12, 42) := by decide +kernel
theorem yq_tg_85_61 : (SN.take 85)[61]? = some (0, 42) := by decide +kernel
theorem yq_tg_85_81 : (SN.take 85)[81]? = some (0, 6) := by decide +kernel
/-- behind a constructor: n cells, this store -/
def yq_ret (n : Nat) (μ1 : z_M) : Option Value → z_Sh → z_M → Prop := fun r sh μ => r = none ∧ sh = SN.take n ∧ μ = μ1
/-- nothing stands yet from cell n on -/
def yq_Z (n : Nat) (I : Nat → Nat → Int32) (L : Nat → Nat → Int64) (R : Nat → Nat → Option Nat) : Prop := ∀ a, n ≤ a → ∀ j, I a j = 0 ∧ L a j = 0 ∧ R a j = none
theorem yq_ZI {n : Nat} {I : Nat → Nat → Int32} {L : Nat → Nat → Int64} {R : Nat → Nat → Option Nat} (h : yq_Z n I L R) {k : Nat} (hk : k < n) (j : Nat) (v : Int32) : yq_Z n (z_up I k j v) L R := fun a ha x => ⟨(z_up_k _ _ (by omega)).trans (h a ha x).1, (h a ha x).2⟩
theorem yq_ZR {n : Nat} {I : Nat → Nat → Int32} {L : Nat → Nat → Int64} {R : Nat → Nat → Option Nat} (h : yq_Z n I L R) {k : Nat} (hk : k < n) (j : Nat) (v : Option Nat) : yq_Z n I L (z_up R k j v) := fun a ha x => ⟨(h a ha x).1, (h a ha x).2.1, (z_up_k _ _ (by omega)).trans (h a ha x).2.2⟩
theorem yq_Zm {n m : Nat} {I : Nat → Nat → Int32} {L : Nat → Nat → Int64} {R : Nat → Nat → Option Nat} (h : yq_Z n I L R) (hm : n ≤ m) : yq_Z m I L R := fun a ha => h a (Nat.le_trans hm ha)
theorem q_newI {mi : z_Mi} {d pc n : Nat} {lv : List (Nat × Value)} {st : List Value} {E : Option Value → z_Sh → z_M → Prop} {I : Nat → Nat → Int32} {L : Nat → Nat → Int64} {R : Nat → Nat → Option Nat} {v : Int32} {N mc ms : Nat} (k : Nat) (hd : decode mi.2.1 pc = .ok (.newarray .int, 2)) (hv : v = nI N) (hN : N < 2000) (hk : (SN.take k).length = k) (hk0 : k < 1000) (hZ : yq_Z k I L R) (hsh : SN.take k ++ [(0, N)] = SN.take (k + 1)) (hn : pc + 2 = n) (h : PW mi d n lv (.ref k :: st) (SN.take (k + 1)) (I, L, R) mc ms E) : PW mi d pc lv (.int v :: st) (SN.take k) (I, L, R) (mc + 1) (ms + N) E := by
  refine p_newI hd yq_ai hv hN (by rw [hk]; exact hk0) (by rw [hk]; exact fun j => (hZ k (Nat.le_refl _) j).1) (by omega) (by omega) hn ?_
  rw [hk, hsh, Nat.add_sub_cancel, Nat.add_sub_cancel]
  exact h
theorem q_newL {mi : z_Mi} {d pc n : Nat} {lv : List (Nat × Value)} {st : List Value} {E : Option Value → z_Sh → z_M → Prop} {I : Nat → Nat → Int32} {L : Nat → Nat → Int64} {R : Nat → Nat → Option Nat} {v : Int32} {N mc ms : Nat} (k : Nat) (hd : decode mi.2.1 pc = .ok (.newarray .long, 2)) (hv : v = nI N) (hN : N < 2000) (hk : (SN.take k).length = k) (hk0 : k < 1000) (hZ : yq_Z k I L R) (hsh : SN.take k ++ [(1, N)] = SN.take (k + 1)) (hn : pc + 2 = n) (h : PW mi d n lv (.ref k :: st) (SN.take (k + 1)) (I, L, R) mc ms E) : PW mi d pc lv (.int v :: st) (SN.take k) (I, L, R) (mc + 1) (ms + N) E := by
  refine p_newL hd yq_al hv hN (by rw [hk]; exact hk0) (by rw [hk]; exact fun j => (hZ k (Nat.le_refl _) j).2.1) (by omega) (by omega) hn ?_
  rw [hk, hsh, Nat.add_sub_cancel, Nat.add_sub_cancel]
  exact h
theorem q_newA {mi : z_Mi} {d pc n : Nat} {lv : List (Nat × Value)} {st : List Value} {E : Option Value → z_Sh → z_M → Prop} {I : Nat → Nat → Int32} {L : Nat → Nat → Int64} {R : Nat → Nat → Option Nat} {v : Int32} {N mc ms idx : Nat} (k : Nat) (hd : decode mi.2.1 pc = .ok (.anewarray idx, 3)) (hw : Cond.classLink mi.1.cls idx RX4 ∈ z_tbl) (hv : v = nI N) (hN : N < 2000) (hk : (SN.take k).length = k) (hk0 : k < 1000) (hZ : yq_Z k I L R) (hsh : SN.take k ++ [(2, N)] = SN.take (k + 1)) (hn : pc + 3 = n) (h : PW mi d n lv (.ref k :: st) (SN.take (k + 1)) (I, L, R) mc ms E) : PW mi d pc lv (.int v :: st) (SN.take k) (I, L, R) (mc + 1) (ms + N) E := by
  refine p_newA hd hw hv hN (by rw [hk]; exact hk0) (by rw [hk]; exact fun j => (hZ k (Nat.le_refl _) j).2.2) (by omega) (by omega) hn ?_
  rw [hk, hsh, Nat.add_sub_cancel, Nat.add_sub_cancel]
  exact h
theorem q_new {mi : z_Mi} {d pc n : Nat} {lv : List (Nat × Value)} {st : List Value} {E : Option Value → z_Sh → z_M → Prop} {I : Nat → Nat → Int32} {L : Nat → Nat → Int64} {R : Nat → Nat → Option Nat} {ci N idx mc ms : Nat} {C : String} {T : u_T} (k : Nat) (hd : decode mi.2.1 pc = .ok (.new idx, 3)) (hc0 : z_cl[ci]? = some (C, T, N)) (hw : Cond.classLink mi.1.cls idx C ∈ z_tbl ∧ Cond.instantiable C N ∈ z_tbl ∧ Cond.initialized C ∈ z_tbl) (hk : (SN.take k).length = k) (hk0 : k < 1000) (hZ : yq_Z k I L R) (hsh : SN.take k ++ [(ci + 3, N)] = SN.take (k + 1)) (hn : pc + 3 = n) (h : PW mi d n lv (.ref k :: st) (SN.take (k + 1)) (I, L, R) mc ms E) : PW mi d pc lv st (SN.take k) (I, L, R) (mc + 1) (ms + N) E := by
  refine p_new hd hc0 hw (by rw [hk]; exact hk0) (by rw [hk]; exact fun j => (hZ k (Nat.le_refl _) j).1) (by rw [hk]; exact fun j => (hZ k (Nat.le_refl _) j).2.2) (by omega) (by omega) hn ?_
  rw [hk, hsh, Nat.add_sub_cancel, Nat.add_sub_cancel]
  exact h
theorem q_callIN {mi : z_Mi} {d pc n : Nat} {lv : List (Nat × Value)} {st : List Value} {E : Option Value → z_Sh → z_M → Prop} {mi2 : z_Mi} {d2 idx mc2 ms2 nn mc ms k n0 n1 : Nat} {As : List Value} {μ μ1 : z_M} (hd : decode mi.2.1 pc = .ok (.invokespecial idx, 3)) (hlk : yq_lN mi.1.cls idx mi2 nn) (hv : mi2.2.2.2 = none) (hin : mi2.1.name = "<init>" ∧ Cond.instanceMethod mi2.1 ∈ z_tbl) (hct : z_CT mi2 d2 (.ref k :: As) (SN.take n0) μ mc2 ms2 (yq_ret n1 μ1)) (rest : List Value) (hst : st = As.reverse ++ .ref k :: rest) (hnn : As.length = nn) (hrest : (rest.map fun v => v.category).sum ≤ 8) (hdd : d2 + 1 ≤ d) (hlen : (SN.take n1).length = (SN.take n0).length + mc2) (hn : pc + 3 = n) (h : PW mi d n lv rest (SN.take n1) μ1 mc ms E) : PW mi d pc lv st (SN.take n0) μ (mc + mc2) (ms + ms2) E := by
  refine p_callIN hd hlk hv hin hct hst hnn hrest hdd (by omega) (by omega) (fun r sh' μ' q => by rw [q.2.1]; exact hlen) hn (fun r sh' μ' q => ?_)
  obtain ⟨rfl, rfl, rfl⟩ := q
  rw [Nat.add_sub_cancel, Nat.add_sub_cancel]
  exact h
theorem q_callI {mi : z_Mi} {d pc n : Nat} {lv : List (Nat × Value)} {st : List Value} {E : Option Value → z_Sh → z_M → Prop} {mi2 : z_Mi} {d2 idx mc2 ms2 nn mc ms k n0 n1 : Nat} {As : List Value} {μ μ1 : z_M} (hd : decode mi.2.1 pc = .ok (.invokespecial idx, 3)) (hlk : z_lk mi.1.cls idx mi2 nn) (hv : mi2.2.2.2 = none) (hin : mi2.1.name = "<init>" ∧ Cond.instanceMethod mi2.1 ∈ z_tbl) (hct : z_CT mi2 d2 (.ref k :: As) (SN.take n0) μ mc2 ms2 (yq_ret n1 μ1)) (rest : List Value) (hst : st = As.reverse ++ .ref k :: rest) (hnn : As.length = nn) (hrest : (rest.map fun v => v.category).sum ≤ 8) (hdd : d2 + 1 ≤ d) (hlen : (SN.take n1).length = (SN.take n0).length + mc2) (hn : pc + 3 = n) (h : PW mi d n lv rest (SN.take n1) μ1 mc ms E) : PW mi d pc lv st (SN.take n0) μ (mc + mc2) (ms + ms2) E := by
  refine p_callI hd hlk hv hin hct hst hnn hrest hdd (by omega) (by omega) (fun r sh' μ' q => by rw [q.2.1]; exact hlen) hn (fun r sh' μ' q => ?_)
  obtain ⟨rfl, rfl, rfl⟩ := q
  rw [Nat.add_sub_cancel, Nat.add_sub_cancel]
  exact h
def yq_IX7_init_1 (I : Nat → Nat → Int32) : Nat → Nat → Int32 := (z_up (z_up (z_up I 1 0 0) 1 5 0) 1 6 1)
def yq_RX7_init_1 (R : Nat → Nat → Option Nat) : Nat → Nat → Option Nat := (z_up (z_up (z_up (z_up (z_up R 1 1 (some 2)) 1 2 (some 3)) 1 3 (some 4)) 1 4 (some 5)) 1 7 (some 6))
set_option maxHeartbeats 8000000 in
set_option maxRecDepth 100000 in
theorem c_X7_init_1 (d : Nat) (hd : 1 ≤ d) (I : Nat → Nat → Int32) (L : Nat → Nat → Int64) (R : Nat → Nat → Option Nat) (hZ : yq_Z 2 I L R) : z_CT zm_X7_init d [.ref 1] (SN.take 2) (I, L, R) 5 45 (yq_ret 7 (yq_IX7_init_1 I, L, yq_RX7_init_1 R)) := by
  refine z_enter (by decide +kernel) (Nat.le_of_ble_eq_true rfl) ?_
  have hentry : PW zm_X7_init d 0 [(0, .ref 1)] [] (SN.take 2) (I, L, R) 5 45 (yq_ret 7 ((z_up (z_up (z_up I 1 0 0) 1 5 0) 1 6 1), L, (z_up (z_up (z_up (z_up (z_up R 1 1 (some 2)) 1 2 (some 3)) 1 3 (some 4)) 1 4 (some 5)) 1 7 (some 6)))) := by
    refine p_aload_n (z_dec zd_X7_init 0 rfl) rfl 0 rfl (n := 1) rfl ?_
    refine p_objI (z_dec zd_X7_init 1 rfl) zk_X7_3 (by omega) (by decide) (n := 4) rfl ?_
    refine p_aload_n (z_dec zd_X7_init 2 rfl) rfl 0 rfl (n := 5) rfl ?_
    refine p_iconst (z_dec zd_X7_init 3 rfl) (v := 0) (by decide) (n := 6) rfl ?_
    refine q_putI (z_dec zd_X7_init 4 rfl) zp_X7_9 (fun q => by cases q) yq_tg_2_1 (n := 9) rfl ?_
    have hZ1 := yq_ZI hZ (show 1 < 2 by decide) 0 0
    refine p_aload_n (z_dec zd_X7_init 5 rfl) rfl 0 rfl (n := 10) rfl ?_
    refine p_bipush (z_dec zd_X7_init 6 rfl) (v := 10) (by decide) (n := 12) rfl ?_
    refine q_newI (N := 10) (mc := 4) (ms := 35) 2 (z_dec zd_X7_init 7 rfl) rfl (by decide) yq_tl_2 (by decide) hZ1 yq_ta_2 (n := 14) rfl ?_
    have hZ2 := yq_Zm hZ1 (show 2 ≤ 3 by decide)
    refine q_putR (z_dec zd_X7_init 8 rfl) zp_X7_15 (fun _ => rfl) (fun _ => ⟨rfl, rfl⟩) yq_tg_3_1 (n := 17) rfl ?_
    have hZ3 := yq_ZR hZ2 (show 1 < 3 by decide) 1 (some 2)
    refine p_aload_n (z_dec zd_X7_init 9 rfl) rfl 0 rfl (n := 18) rfl ?_
    refine p_bipush (z_dec zd_X7_init 10 rfl) (v := 10) (by decide) (n := 20) rfl ?_
    refine q_newI (N := 10) (mc := 3) (ms := 25) 3 (z_dec zd_X7_init 11 rfl) rfl (by decide) yq_tl_3 (by decide) hZ3 yq_ta_3 (n := 22) rfl ?_
    have hZ4 := yq_Zm hZ3 (show 3 ≤ 4 by decide)
    refine q_putR (z_dec zd_X7_init 12 rfl) zp_X7_19 (fun _ => rfl) (fun _ => ⟨rfl, rfl⟩) yq_tg_4_1 (n := 25) rfl ?_
    have hZ5 := yq_ZR hZ4 (show 1 < 4 by decide) 2 (some 3)
    refine p_aload_n (z_dec zd_X7_init 13 rfl) rfl 0 rfl (n := 26) rfl ?_
    refine p_bipush (z_dec zd_X7_init 14 rfl) (v := 10) (by decide) (n := 28) rfl ?_
    refine q_newI (N := 10) (mc := 2) (ms := 15) 4 (z_dec zd_X7_init 15 rfl) rfl (by decide) yq_tl_4 (by decide) hZ5 yq_ta_4 (n := 30) rfl ?_
    have hZ6 := yq_Zm hZ5 (show 4 ≤ 5 by decide)
    refine q_putR (z_dec zd_X7_init 16 rfl) zp_X7_22 (fun _ => rfl) (fun _ => ⟨rfl, rfl⟩) yq_tg_5_1 (n := 33) rfl ?_
    have hZ7 := yq_ZR hZ6 (show 1 < 5 by decide) 3 (some 4)
    refine p_aload_n (z_dec zd_X7_init 17 rfl) rfl 0 rfl (n := 34) rfl ?_
    refine p_bipush (z_dec zd_X7_init 18 rfl) (v := 10) (by decide) (n := 36) rfl ?_
    refine q_newI (N := 10) (mc := 1) (ms := 5) 5 (z_dec zd_X7_init 19 rfl) rfl (by decide) yq_tl_5 (by decide) hZ7 yq_ta_5 (n := 38) rfl ?_
    have hZ8 := yq_Zm hZ7 (show 5 ≤ 6 by decide)
    refine q_putR (z_dec zd_X7_init 20 rfl) zp_X7_25 (fun _ => rfl) (fun _ => ⟨rfl, rfl⟩) yq_tg_6_1 (n := 41) rfl ?_
    have hZ9 := yq_ZR hZ8 (show 1 < 6 by decide) 4 (some 5)
    refine p_aload_n (z_dec zd_X7_init 21 rfl) rfl 0 rfl (n := 42) rfl ?_
    refine p_iconst (z_dec zd_X7_init 22 rfl) (v := 0) (by decide) (n := 43) rfl ?_
    refine q_putI (z_dec zd_X7_init 23 rfl) zp_X7_28 (fun q => by cases q) yq_tg_6_1 (n := 46) rfl ?_
    have hZ10 := yq_ZI hZ9 (show 1 < 6 by decide) 5 0
    refine p_aload_n (z_dec zd_X7_init 24 rfl) rfl 0 rfl (n := 47) rfl ?_
    refine p_iconst (z_dec zd_X7_init 25 rfl) (v := 1) (by decide) (n := 48) rfl ?_
    refine q_putI (z_dec zd_X7_init 26 rfl) zp_X7_31 (fun q => by cases q) yq_tg_6_1 (n := 51) rfl ?_
    have hZ11 := yq_ZI hZ10 (show 1 < 6 by decide) 6 1
    refine p_aload_n (z_dec zd_X7_init 27 rfl) rfl 0 rfl (n := 52) rfl ?_
    refine p_iconst (z_dec zd_X7_init 28 rfl) (v := 5) (by decide) (n := 53) rfl ?_
    refine q_newI (N := 5) (mc := 0) (ms := 0) 6 (z_dec zd_X7_init 29 rfl) rfl (by decide) yq_tl_6 (by decide) hZ11 yq_ta_6 (n := 55) rfl ?_
    have hZ12 := yq_Zm hZ11 (show 6 ≤ 7 by decide)
    refine q_putR (z_dec zd_X7_init 30 rfl) zp_X7_34 (fun _ => rfl) (fun _ => ⟨rfl, rfl⟩) yq_tg_7_1 (n := 58) rfl ?_
    have hZ13 := yq_ZR hZ12 (show 1 < 7 by decide) 7 (some 6)
    exact p_vret (z_dec zd_X7_init 31 rfl) rfl ⟨rfl, rfl, rfl⟩
  exact hentry
set_option maxHeartbeats 2000000 in
set_option maxRecDepth 100000 in
theorem c_X7_init_1Z {I : Nat → Nat → Int32} {L : Nat → Nat → Int64} {R : Nat → Nat → Option Nat} (hZ : yq_Z 2 I L R) : yq_Z 7 (yq_IX7_init_1 I) L (yq_RX7_init_1 R) := by
  intro a ha j
  obtain ⟨h1, h2, h3⟩ := hZ a (by omega) j
  refine ⟨?_, h2, ?_⟩
  · unfold yq_IX7_init_1
    (repeat (first | exact h1 | rw [z_up_k _ _ (by omega)] | fail))
  · unfold yq_RX7_init_1
    (repeat (first | exact h3 | rw [z_up_k _ _ (by omega)] | fail))
def yq_IX7_init_7 (I : Nat → Nat → Int32) : Nat → Nat → Int32 := (z_up (z_up (z_up I 7 0 0) 7 5 0) 7 6 1)
def yq_RX7_init_7 (R : Nat → Nat → Option Nat) : Nat → Nat → Option Nat := (z_up (z_up (z_up (z_up (z_up R 7 1 (some 8)) 7 2 (some 9)) 7 3 (some 10)) 7 4 (some 11)) 7 7 (some 12))
set_option maxHeartbeats 8000000 in
set_option maxRecDepth 100000 in
theorem c_X7_init_7 (d : Nat) (hd : 1 ≤ d) (I : Nat → Nat → Int32) (L : Nat → Nat → Int64) (R : Nat → Nat → Option Nat) (hZ : yq_Z 8 I L R) : z_CT zm_X7_init d [.ref 7] (SN.take 8) (I, L, R) 5 45 (yq_ret 13 (yq_IX7_init_7 I, L, yq_RX7_init_7 R)) := by
  refine z_enter (by decide +kernel) (Nat.le_of_ble_eq_true rfl) ?_
  have hentry : PW zm_X7_init d 0 [(0, .ref 7)] [] (SN.take 8) (I, L, R) 5 45 (yq_ret 13 ((z_up (z_up (z_up I 7 0 0) 7 5 0) 7 6 1), L, (z_up (z_up (z_up (z_up (z_up R 7 1 (some 8)) 7 2 (some 9)) 7 3 (some 10)) 7 4 (some 11)) 7 7 (some 12)))) := by
    refine p_aload_n (z_dec zd_X7_init 0 rfl) rfl 0 rfl (n := 1) rfl ?_
    refine p_objI (z_dec zd_X7_init 1 rfl) zk_X7_3 (by omega) (by decide) (n := 4) rfl ?_
    refine p_aload_n (z_dec zd_X7_init 2 rfl) rfl 0 rfl (n := 5) rfl ?_
    refine p_iconst (z_dec zd_X7_init 3 rfl) (v := 0) (by decide) (n := 6) rfl ?_
    refine q_putI (z_dec zd_X7_init 4 rfl) zp_X7_9 (fun q => by cases q) yq_tg_8_7 (n := 9) rfl ?_
    have hZ1 := yq_ZI hZ (show 7 < 8 by decide) 0 0
    refine p_aload_n (z_dec zd_X7_init 5 rfl) rfl 0 rfl (n := 10) rfl ?_
    refine p_bipush (z_dec zd_X7_init 6 rfl) (v := 10) (by decide) (n := 12) rfl ?_
    refine q_newI (N := 10) (mc := 4) (ms := 35) 8 (z_dec zd_X7_init 7 rfl) rfl (by decide) yq_tl_8 (by decide) hZ1 yq_ta_8 (n := 14) rfl ?_
    have hZ2 := yq_Zm hZ1 (show 8 ≤ 9 by decide)
    refine q_putR (z_dec zd_X7_init 8 rfl) zp_X7_15 (fun _ => rfl) (fun _ => ⟨rfl, rfl⟩) yq_tg_9_7 (n := 17) rfl ?_
    have hZ3 := yq_ZR hZ2 (show 7 < 9 by decide) 1 (some 8)
    refine p_aload_n (z_dec zd_X7_init 9 rfl) rfl 0 rfl (n := 18) rfl ?_
    refine p_bipush (z_dec zd_X7_init 10 rfl) (v := 10) (by decide) (n := 20) rfl ?_
    refine q_newI (N := 10) (mc := 3) (ms := 25) 9 (z_dec zd_X7_init 11 rfl) rfl (by decide) yq_tl_9 (by decide) hZ3 yq_ta_9 (n := 22) rfl ?_
    have hZ4 := yq_Zm hZ3 (show 9 ≤ 10 by decide)
    refine q_putR (z_dec zd_X7_init 12 rfl) zp_X7_19 (fun _ => rfl) (fun _ => ⟨rfl, rfl⟩) yq_tg_10_7 (n := 25) rfl ?_
    have hZ5 := yq_ZR hZ4 (show 7 < 10 by decide) 2 (some 9)
    refine p_aload_n (z_dec zd_X7_init 13 rfl) rfl 0 rfl (n := 26) rfl ?_
    refine p_bipush (z_dec zd_X7_init 14 rfl) (v := 10) (by decide) (n := 28) rfl ?_
    refine q_newI (N := 10) (mc := 2) (ms := 15) 10 (z_dec zd_X7_init 15 rfl) rfl (by decide) yq_tl_10 (by decide) hZ5 yq_ta_10 (n := 30) rfl ?_
    have hZ6 := yq_Zm hZ5 (show 10 ≤ 11 by decide)
    refine q_putR (z_dec zd_X7_init 16 rfl) zp_X7_22 (fun _ => rfl) (fun _ => ⟨rfl, rfl⟩) yq_tg_11_7 (n := 33) rfl ?_
    have hZ7 := yq_ZR hZ6 (show 7 < 11 by decide) 3 (some 10)
    refine p_aload_n (z_dec zd_X7_init 17 rfl) rfl 0 rfl (n := 34) rfl ?_
    refine p_bipush (z_dec zd_X7_init 18 rfl) (v := 10) (by decide) (n := 36) rfl ?_
    refine q_newI (N := 10) (mc := 1) (ms := 5) 11 (z_dec zd_X7_init 19 rfl) rfl (by decide) yq_tl_11 (by decide) hZ7 yq_ta_11 (n := 38) rfl ?_
    have hZ8 := yq_Zm hZ7 (show 11 ≤ 12 by decide)
    refine q_putR (z_dec zd_X7_init 20 rfl) zp_X7_25 (fun _ => rfl) (fun _ => ⟨rfl, rfl⟩) yq_tg_12_7 (n := 41) rfl ?_
    have hZ9 := yq_ZR hZ8 (show 7 < 12 by decide) 4 (some 11)
    refine p_aload_n (z_dec zd_X7_init 21 rfl) rfl 0 rfl (n := 42) rfl ?_
    refine p_iconst (z_dec zd_X7_init 22 rfl) (v := 0) (by decide) (n := 43) rfl ?_
    refine q_putI (z_dec zd_X7_init 23 rfl) zp_X7_28 (fun q => by cases q) yq_tg_12_7 (n := 46) rfl ?_
    have hZ10 := yq_ZI hZ9 (show 7 < 12 by decide) 5 0
    refine p_aload_n (z_dec zd_X7_init 24 rfl) rfl 0 rfl (n := 47) rfl ?_
    refine p_iconst (z_dec zd_X7_init 25 rfl) (v := 1) (by decide) (n := 48) rfl ?_
    refine q_putI (z_dec zd_X7_init 26 rfl) zp_X7_31 (fun q => by cases q) yq_tg_12_7 (n := 51) rfl ?_
    have hZ11 := yq_ZI hZ10 (show 7 < 12 by decide) 6 1
    refine p_aload_n (z_dec zd_X7_init 27 rfl) rfl 0 rfl (n := 52) rfl ?_
    refine p_iconst (z_dec zd_X7_init 28 rfl) (v := 5) (by decide) (n := 53) rfl ?_
    refine q_newI (N := 5) (mc := 0) (ms := 0) 12 (z_dec zd_X7_init 29 rfl) rfl (by decide) yq_tl_12 (by decide) hZ11 yq_ta_12 (n := 55) rfl ?_
    have hZ12 := yq_Zm hZ11 (show 12 ≤ 13 by decide)
    refine q_putR (z_dec zd_X7_init 30 rfl) zp_X7_34 (fun _ => rfl) (fun _ => ⟨rfl, rfl⟩) yq_tg_13_7 (n := 58) rfl ?_
    have hZ13 := yq_ZR hZ12 (show 7 < 13 by decide) 7 (some 12)
    exact p_vret (z_dec zd_X7_init 31 rfl) rfl ⟨rfl, rfl, rfl⟩
  exact hentry
set_option maxHeartbeats 2000000 in
set_option maxRecDepth 100000 in
theorem c_X7_init_7Z {I : Nat → Nat → Int32} {L : Nat → Nat → Int64} {R : Nat → Nat → Option Nat} (hZ : yq_Z 8 I L R) : yq_Z 13 (yq_IX7_init_7 I) L (yq_RX7_init_7 R) := by
  intro a ha j
  obtain ⟨h1, h2, h3⟩ := hZ a (by omega) j
  refine ⟨?_, h2, ?_⟩
  · unfold yq_IX7_init_7
    (repeat (first | exact h1 | rw [z_up_k _ _ (by omega)] | fail))
  · unfold yq_RX7_init_7
    (repeat (first | exact h3 | rw [z_up_k _ _ (by omega)] | fail))
def yq_IX1_init_13 (I : Nat → Nat → Int32) : Nat → Nat → Int32 := (z_up (z_up (z_up (z_up (z_up I 13 1 0) 13 2 0) 13 4 0) 13 6 0) 13 8 0)
def yq_RX1_init_13 (R : Nat → Nat → Option Nat) : Nat → Nat → Option Nat := (z_up (z_up (z_up (z_up R 13 0 (some 14)) 13 3 (some 15)) 13 5 (some 16)) 13 7 (some 17))
set_option maxHeartbeats 8000000 in
set_option maxRecDepth 100000 in
theorem c_X1_init_13 (d : Nat) (hd : 1 ≤ d) (I : Nat → Nat → Int32) (L : Nat → Nat → Int64) (R : Nat → Nat → Option Nat) (hZ : yq_Z 14 I L R) : z_CT zm_X1_init d [.ref 13] (SN.take 14) (I, L, R) 4 483 (yq_ret 18 (yq_IX1_init_13 I, L, yq_RX1_init_13 R)) := by
  refine z_enter (by decide +kernel) (Nat.le_of_ble_eq_true rfl) ?_
  have hentry : PW zm_X1_init d 0 [(0, .ref 13)] [] (SN.take 14) (I, L, R) 4 483 (yq_ret 18 ((z_up (z_up (z_up (z_up (z_up I 13 1 0) 13 2 0) 13 4 0) 13 6 0) 13 8 0), L, (z_up (z_up (z_up (z_up R 13 0 (some 14)) 13 3 (some 15)) 13 5 (some 16)) 13 7 (some 17)))) := by
    refine p_aload_n (z_dec zd_X1_init 0 rfl) rfl 0 rfl (n := 1) rfl ?_
    refine p_objI (z_dec zd_X1_init 1 rfl) zk_X1_3 (by omega) (by decide) (n := 4) rfl ?_
    refine p_aload_n (z_dec zd_X1_init 2 rfl) rfl 0 rfl (n := 5) rfl ?_
    refine p_bipush (z_dec zd_X1_init 3 rfl) (v := 120) (by decide) (n := 7) rfl ?_
    refine q_newI (N := 120) (mc := 3) (ms := 363) 14 (z_dec zd_X1_init 4 rfl) rfl (by decide) yq_tl_14 (by decide) hZ yq_ta_14 (n := 9) rfl ?_
    have hZ1 := yq_Zm hZ (show 14 ≤ 15 by decide)
    refine q_putR (z_dec zd_X1_init 5 rfl) zp_X1_9 (fun _ => rfl) (fun _ => ⟨rfl, rfl⟩) yq_tg_15_13 (n := 12) rfl ?_
    have hZ2 := yq_ZR hZ1 (show 13 < 15 by decide) 0 (some 14)
    refine p_aload_n (z_dec zd_X1_init 6 rfl) rfl 0 rfl (n := 13) rfl ?_
    refine p_iconst (z_dec zd_X1_init 7 rfl) (v := 0) (by decide) (n := 14) rfl ?_
    refine q_putI (z_dec zd_X1_init 8 rfl) zp_X1_15 (fun q => by cases q) yq_tg_15_13 (n := 17) rfl ?_
    have hZ3 := yq_ZI hZ2 (show 13 < 15 by decide) 1 0
    refine p_aload_n (z_dec zd_X1_init 9 rfl) rfl 0 rfl (n := 18) rfl ?_
    refine p_iconst (z_dec zd_X1_init 10 rfl) (v := 0) (by decide) (n := 19) rfl ?_
    refine q_putI (z_dec zd_X1_init 11 rfl) zp_X1_19 (fun q => by cases q) yq_tg_15_13 (n := 22) rfl ?_
    have hZ4 := yq_ZI hZ3 (show 13 < 15 by decide) 2 0
    refine p_aload_n (z_dec zd_X1_init 12 rfl) rfl 0 rfl (n := 23) rfl ?_
    refine p_bipush (z_dec zd_X1_init 13 rfl) (v := 121) (by decide) (n := 25) rfl ?_
    refine q_newI (N := 121) (mc := 2) (ms := 242) 15 (z_dec zd_X1_init 14 rfl) rfl (by decide) yq_tl_15 (by decide) hZ4 yq_ta_15 (n := 27) rfl ?_
    have hZ5 := yq_Zm hZ4 (show 15 ≤ 16 by decide)
    refine q_putR (z_dec zd_X1_init 15 rfl) zp_X1_22 (fun q => by cases q) (fun _ => ⟨rfl, rfl⟩) yq_tg_16_13 (n := 30) rfl ?_
    have hZ6 := yq_ZR hZ5 (show 13 < 16 by decide) 3 (some 15)
    refine p_aload_n (z_dec zd_X1_init 16 rfl) rfl 0 rfl (n := 31) rfl ?_
    refine p_iconst (z_dec zd_X1_init 17 rfl) (v := 0) (by decide) (n := 32) rfl ?_
    refine q_putI (z_dec zd_X1_init 18 rfl) zp_X1_25 (fun q => by cases q) yq_tg_16_13 (n := 35) rfl ?_
    have hZ7 := yq_ZI hZ6 (show 13 < 16 by decide) 4 0
    refine p_aload_n (z_dec zd_X1_init 19 rfl) rfl 0 rfl (n := 36) rfl ?_
    refine p_bipush (z_dec zd_X1_init 20 rfl) (v := 121) (by decide) (n := 38) rfl ?_
    refine q_newI (N := 121) (mc := 1) (ms := 121) 16 (z_dec zd_X1_init 21 rfl) rfl (by decide) yq_tl_16 (by decide) hZ7 yq_ta_16 (n := 40) rfl ?_
    have hZ8 := yq_Zm hZ7 (show 16 ≤ 17 by decide)
    refine q_putR (z_dec zd_X1_init 22 rfl) zp_X1_28 (fun q => by cases q) (fun _ => ⟨rfl, rfl⟩) yq_tg_17_13 (n := 43) rfl ?_
    have hZ9 := yq_ZR hZ8 (show 13 < 17 by decide) 5 (some 16)
    refine p_aload_n (z_dec zd_X1_init 23 rfl) rfl 0 rfl (n := 44) rfl ?_
    refine p_iconst (z_dec zd_X1_init 24 rfl) (v := 0) (by decide) (n := 45) rfl ?_
    refine q_putI (z_dec zd_X1_init 25 rfl) zp_X1_31 (fun q => by cases q) yq_tg_17_13 (n := 48) rfl ?_
    have hZ10 := yq_ZI hZ9 (show 13 < 17 by decide) 6 0
    refine p_aload_n (z_dec zd_X1_init 26 rfl) rfl 0 rfl (n := 49) rfl ?_
    refine p_bipush (z_dec zd_X1_init 27 rfl) (v := 121) (by decide) (n := 51) rfl ?_
    refine q_newI (N := 121) (mc := 0) (ms := 0) 17 (z_dec zd_X1_init 28 rfl) rfl (by decide) yq_tl_17 (by decide) hZ10 yq_ta_17 (n := 53) rfl ?_
    have hZ11 := yq_Zm hZ10 (show 17 ≤ 18 by decide)
    refine q_putR (z_dec zd_X1_init 29 rfl) zp_X1_34 (fun _ => rfl) (fun _ => ⟨rfl, rfl⟩) yq_tg_18_13 (n := 56) rfl ?_
    have hZ12 := yq_ZR hZ11 (show 13 < 18 by decide) 7 (some 17)
    refine p_aload_n (z_dec zd_X1_init 30 rfl) rfl 0 rfl (n := 57) rfl ?_
    refine p_iconst (z_dec zd_X1_init 31 rfl) (v := 0) (by decide) (n := 58) rfl ?_
    refine q_putI (z_dec zd_X1_init 32 rfl) zp_X1_37 (fun q => by cases q) yq_tg_18_13 (n := 61) rfl ?_
    have hZ13 := yq_ZI hZ12 (show 13 < 18 by decide) 8 0
    exact p_vret (z_dec zd_X1_init 33 rfl) rfl ⟨rfl, rfl, rfl⟩
  exact hentry
set_option maxHeartbeats 2000000 in
set_option maxRecDepth 100000 in
theorem c_X1_init_13Z {I : Nat → Nat → Int32} {L : Nat → Nat → Int64} {R : Nat → Nat → Option Nat} (hZ : yq_Z 14 I L R) : yq_Z 18 (yq_IX1_init_13 I) L (yq_RX1_init_13 R) := by
  intro a ha j
  obtain ⟨h1, h2, h3⟩ := hZ a (by omega) j
  refine ⟨?_, h2, ?_⟩
  · unfold yq_IX1_init_13
    (repeat (first | exact h1 | rw [z_up_k _ _ (by omega)] | fail))
  · unfold yq_RX1_init_13
    (repeat (first | exact h3 | rw [z_up_k _ _ (by omega)] | fail))
def yq_IX7_init_19 (I : Nat → Nat → Int32) : Nat → Nat → Int32 := (z_up (z_up (z_up I 19 0 0) 19 5 0) 19 6 1)
def yq_RX7_init_19 (R : Nat → Nat → Option Nat) : Nat → Nat → Option Nat := (z_up (z_up (z_up (z_up (z_up R 19 1 (some 20)) 19 2 (some 21)) 19 3 (some 22)) 19 4 (some 23)) 19 7 (some 24))
set_option maxHeartbeats 8000000 in
set_option maxRecDepth 100000 in
theorem c_X7_init_19 (d : Nat) (hd : 1 ≤ d) (I : Nat → Nat → Int32) (L : Nat → Nat → Int64) (R : Nat → Nat → Option Nat) (hZ : yq_Z 20 I L R) : z_CT zm_X7_init d [.ref 19] (SN.take 20) (I, L, R) 5 45 (yq_ret 25 (yq_IX7_init_19 I, L, yq_RX7_init_19 R)) := by
  refine z_enter (by decide +kernel) (Nat.le_of_ble_eq_true rfl) ?_
  have hentry : PW zm_X7_init d 0 [(0, .ref 19)] [] (SN.take 20) (I, L, R) 5 45 (yq_ret 25 ((z_up (z_up (z_up I 19 0 0) 19 5 0) 19 6 1), L, (z_up (z_up (z_up (z_up (z_up R 19 1 (some 20)) 19 2 (some 21)) 19 3 (some 22)) 19 4 (some 23)) 19 7 (some 24)))) := by
    refine p_aload_n (z_dec zd_X7_init 0 rfl) rfl 0 rfl (n := 1) rfl ?_
    refine p_objI (z_dec zd_X7_init 1 rfl) zk_X7_3 (by omega) (by decide) (n := 4) rfl ?_
    refine p_aload_n (z_dec zd_X7_init 2 rfl) rfl 0 rfl (n := 5) rfl ?_
    refine p_iconst (z_dec zd_X7_init 3 rfl) (v := 0) (by decide) (n := 6) rfl ?_
    refine q_putI (z_dec zd_X7_init 4 rfl) zp_X7_9 (fun q => by cases q) yq_tg_20_19 (n := 9) rfl ?_
    have hZ1 := yq_ZI hZ (show 19 < 20 by decide) 0 0
    refine p_aload_n (z_dec zd_X7_init 5 rfl) rfl 0 rfl (n := 10) rfl ?_
    refine p_bipush (z_dec zd_X7_init 6 rfl) (v := 10) (by decide) (n := 12) rfl ?_
    refine q_newI (N := 10) (mc := 4) (ms := 35) 20 (z_dec zd_X7_init 7 rfl) rfl (by decide) yq_tl_20 (by decide) hZ1 yq_ta_20 (n := 14) rfl ?_
    have hZ2 := yq_Zm hZ1 (show 20 ≤ 21 by decide)
    refine q_putR (z_dec zd_X7_init 8 rfl) zp_X7_15 (fun _ => rfl) (fun _ => ⟨rfl, rfl⟩) yq_tg_21_19 (n := 17) rfl ?_
    have hZ3 := yq_ZR hZ2 (show 19 < 21 by decide) 1 (some 20)
    refine p_aload_n (z_dec zd_X7_init 9 rfl) rfl 0 rfl (n := 18) rfl ?_
    refine p_bipush (z_dec zd_X7_init 10 rfl) (v := 10) (by decide) (n := 20) rfl ?_
    refine q_newI (N := 10) (mc := 3) (ms := 25) 21 (z_dec zd_X7_init 11 rfl) rfl (by decide) yq_tl_21 (by decide) hZ3 yq_ta_21 (n := 22) rfl ?_
    have hZ4 := yq_Zm hZ3 (show 21 ≤ 22 by decide)
    refine q_putR (z_dec zd_X7_init 12 rfl) zp_X7_19 (fun _ => rfl) (fun _ => ⟨rfl, rfl⟩) yq_tg_22_19 (n := 25) rfl ?_
    have hZ5 := yq_ZR hZ4 (show 19 < 22 by decide) 2 (some 21)
    refine p_aload_n (z_dec zd_X7_init 13 rfl) rfl 0 rfl (n := 26) rfl ?_
    refine p_bipush (z_dec zd_X7_init 14 rfl) (v := 10) (by decide) (n := 28) rfl ?_
    refine q_newI (N := 10) (mc := 2) (ms := 15) 22 (z_dec zd_X7_init 15 rfl) rfl (by decide) yq_tl_22 (by decide) hZ5 yq_ta_22 (n := 30) rfl ?_
    have hZ6 := yq_Zm hZ5 (show 22 ≤ 23 by decide)
    refine q_putR (z_dec zd_X7_init 16 rfl) zp_X7_22 (fun _ => rfl) (fun _ => ⟨rfl, rfl⟩) yq_tg_23_19 (n := 33) rfl ?_
    have hZ7 := yq_ZR hZ6 (show 19 < 23 by decide) 3 (some 22)
    refine p_aload_n (z_dec zd_X7_init 17 rfl) rfl 0 rfl (n := 34) rfl ?_
    refine p_bipush (z_dec zd_X7_init 18 rfl) (v := 10) (by decide) (n := 36) rfl ?_
    refine q_newI (N := 10) (mc := 1) (ms := 5) 23 (z_dec zd_X7_init 19 rfl) rfl (by decide) yq_tl_23 (by decide) hZ7 yq_ta_23 (n := 38) rfl ?_
    have hZ8 := yq_Zm hZ7 (show 23 ≤ 24 by decide)
    refine q_putR (z_dec zd_X7_init 20 rfl) zp_X7_25 (fun _ => rfl) (fun _ => ⟨rfl, rfl⟩) yq_tg_24_19 (n := 41) rfl ?_
    have hZ9 := yq_ZR hZ8 (show 19 < 24 by decide) 4 (some 23)
    refine p_aload_n (z_dec zd_X7_init 21 rfl) rfl 0 rfl (n := 42) rfl ?_
    refine p_iconst (z_dec zd_X7_init 22 rfl) (v := 0) (by decide) (n := 43) rfl ?_
    refine q_putI (z_dec zd_X7_init 23 rfl) zp_X7_28 (fun q => by cases q) yq_tg_24_19 (n := 46) rfl ?_
    have hZ10 := yq_ZI hZ9 (show 19 < 24 by decide) 5 0
    refine p_aload_n (z_dec zd_X7_init 24 rfl) rfl 0 rfl (n := 47) rfl ?_
    refine p_iconst (z_dec zd_X7_init 25 rfl) (v := 1) (by decide) (n := 48) rfl ?_
    refine q_putI (z_dec zd_X7_init 26 rfl) zp_X7_31 (fun q => by cases q) yq_tg_24_19 (n := 51) rfl ?_
    have hZ11 := yq_ZI hZ10 (show 19 < 24 by decide) 6 1
    refine p_aload_n (z_dec zd_X7_init 27 rfl) rfl 0 rfl (n := 52) rfl ?_
    refine p_iconst (z_dec zd_X7_init 28 rfl) (v := 5) (by decide) (n := 53) rfl ?_
    refine q_newI (N := 5) (mc := 0) (ms := 0) 24 (z_dec zd_X7_init 29 rfl) rfl (by decide) yq_tl_24 (by decide) hZ11 yq_ta_24 (n := 55) rfl ?_
    have hZ12 := yq_Zm hZ11 (show 24 ≤ 25 by decide)
    refine q_putR (z_dec zd_X7_init 30 rfl) zp_X7_34 (fun _ => rfl) (fun _ => ⟨rfl, rfl⟩) yq_tg_25_19 (n := 58) rfl ?_
    have hZ13 := yq_ZR hZ12 (show 19 < 25 by decide) 7 (some 24)
    exact p_vret (z_dec zd_X7_init 31 rfl) rfl ⟨rfl, rfl, rfl⟩
  exact hentry
set_option maxHeartbeats 2000000 in
set_option maxRecDepth 100000 in
theorem c_X7_init_19Z {I : Nat → Nat → Int32} {L : Nat → Nat → Int64} {R : Nat → Nat → Option Nat} (hZ : yq_Z 20 I L R) : yq_Z 25 (yq_IX7_init_19 I) L (yq_RX7_init_19 R) := by
  intro a ha j
  obtain ⟨h1, h2, h3⟩ := hZ a (by omega) j
  refine ⟨?_, h2, ?_⟩
  · unfold yq_IX7_init_19
    (repeat (first | exact h1 | rw [z_up_k _ _ (by omega)] | fail))
  · unfold yq_RX7_init_19
    (repeat (first | exact h3 | rw [z_up_k _ _ (by omega)] | fail))
def yq_IX3_init_18 (I : Nat → Nat → Int32) : Nat → Nat → Int32 := (z_up (z_up (yq_IX7_init_19 I) 18 2 0) 18 3 0)
def yq_RX3_init_18 (R : Nat → Nat → Option Nat) : Nat → Nat → Option Nat := (z_up (z_up (yq_RX7_init_19 R) 18 0 (some 19)) 18 1 (some 25))
set_option maxHeartbeats 8000000 in
set_option maxRecDepth 100000 in
theorem c_X3_init_18 (d : Nat) (hd : 2 ≤ d) (I : Nat → Nat → Int32) (L : Nat → Nat → Int64) (R : Nat → Nat → Option Nat) (hZ : yq_Z 19 I L R) : z_CT zm_X3_init d [.ref 18] (SN.take 19) (I, L, R) 7 63 (yq_ret 26 (yq_IX3_init_18 I, L, yq_RX3_init_18 R)) := by
  refine z_enter (by decide +kernel) (Nat.le_of_ble_eq_true rfl) ?_
  have hentry : PW zm_X3_init d 0 [(0, .ref 18)] [] (SN.take 19) (I, L, R) 7 63 (yq_ret 26 ((z_up (z_up (yq_IX7_init_19 I) 18 2 0) 18 3 0), L, (z_up (z_up (yq_RX7_init_19 R) 18 0 (some 19)) 18 1 (some 25)))) := by
    refine p_aload_n (z_dec zd_X3_init 0 rfl) rfl 0 rfl (n := 1) rfl ?_
    refine p_objI (z_dec zd_X3_init 1 rfl) zk_X3_3 (by omega) (by decide) (n := 4) rfl ?_
    refine p_aload_n (z_dec zd_X3_init 2 rfl) rfl 0 rfl (n := 5) rfl ?_
    refine q_new (ci := 7) (N := 8) (mc := 6) (ms := 55) 19 (z_dec zd_X3_init 3 rfl) rfl yq_nw_X3_9 yq_tl_19 (by decide) hZ yq_ta_19 (n := 8) rfl ?_
    have hZ1 := yq_Zm hZ (show 19 ≤ 20 by decide)
    refine p_dup (z_dec zd_X3_init 4 rfl) rfl (n := 9) rfl ?_
    refine q_callIN (As := []) (mc := 1) (ms := 10) (mc2 := 5) (ms2 := 45) (n0 := 20) (n1 := 25) (z_dec zd_X3_init 5 rfl) ⟨List.mem_of_getElem? (i := 3) (by decide +kernel), zn_X7, zw_X7_init, by decide +kernel, by decide +kernel, by decide⟩ rfl ⟨rfl, zi_X7_init⟩ (c_X7_init_19 (d - 1) (by omega) I L R hZ1) [.ref 19, .ref 18] rfl rfl (by decide) (by omega) (by rw [yq_tl_25, yq_tl_20]) (n := 12) rfl ?_
    have hZ2 := c_X7_init_19Z hZ1
    refine q_putR (z_dec zd_X3_init 6 rfl) zp_X3_12 (fun _ => rfl) (fun _ => ⟨rfl, rfl⟩) yq_tg_25_18 (n := 15) rfl ?_
    have hZ3 := yq_ZR hZ2 (show 18 < 25 by decide) 0 (some 19)
    refine p_aload_n (z_dec zd_X3_init 7 rfl) rfl 0 rfl (n := 16) rfl ?_
    refine p_bipush (z_dec zd_X3_init 8 rfl) (v := 10) (by decide) (n := 18) rfl ?_
    refine q_newI (N := 10) (mc := 0) (ms := 0) 25 (z_dec zd_X3_init 9 rfl) rfl (by decide) yq_tl_25 (by decide) hZ3 yq_ta_25 (n := 20) rfl ?_
    have hZ4 := yq_Zm hZ3 (show 25 ≤ 26 by decide)
    refine q_putR (z_dec zd_X3_init 10 rfl) zp_X3_18 (fun _ => rfl) (fun _ => ⟨rfl, rfl⟩) yq_tg_26_18 (n := 23) rfl ?_
    have hZ5 := yq_ZR hZ4 (show 18 < 26 by decide) 1 (some 25)
    refine p_aload_n (z_dec zd_X3_init 11 rfl) rfl 0 rfl (n := 24) rfl ?_
    refine p_iconst (z_dec zd_X3_init 12 rfl) (v := 0) (by decide) (n := 25) rfl ?_
    refine q_putI (z_dec zd_X3_init 13 rfl) zp_X3_22 (fun q => by cases q) yq_tg_26_18 (n := 28) rfl ?_
    have hZ6 := yq_ZI hZ5 (show 18 < 26 by decide) 2 0
    refine p_aload_n (z_dec zd_X3_init 14 rfl) rfl 0 rfl (n := 29) rfl ?_
    refine p_iconst (z_dec zd_X3_init 15 rfl) (v := 0) (by decide) (n := 30) rfl ?_
    refine q_putI (z_dec zd_X3_init 16 rfl) zp_X3_26 (fun q => by cases q) yq_tg_26_18 (n := 33) rfl ?_
    have hZ7 := yq_ZI hZ6 (show 18 < 26 by decide) 3 0
    exact p_vret (z_dec zd_X3_init 17 rfl) rfl ⟨rfl, rfl, rfl⟩
  exact hentry
set_option maxHeartbeats 2000000 in
set_option maxRecDepth 100000 in
theorem c_X3_init_18Z {I : Nat → Nat → Int32} {L : Nat → Nat → Int64} {R : Nat → Nat → Option Nat} (hZ : yq_Z 19 I L R) : yq_Z 26 (yq_IX3_init_18 I) L (yq_RX3_init_18 R) := by
  intro a ha j
  obtain ⟨h1, h2, h3⟩ := hZ a (by omega) j
  refine ⟨?_, h2, ?_⟩
  · unfold yq_IX3_init_18 yq_IX7_init_19
    (repeat (first | exact h1 | rw [z_up_k _ _ (by omega)] | fail))
  · unfold yq_RX3_init_18 yq_RX7_init_19
    (repeat (first | exact h3 | rw [z_up_k _ _ (by omega)] | fail))
def yq_IX2_init_26 (I : Nat → Nat → Int32) : Nat → Nat → Int32 := (z_up I 26 0 0)
def yq_RX2_init_26 (R : Nat → Nat → Option Nat) : Nat → Nat → Option Nat := (z_up (z_up (z_up (z_up R 26 1 (some 27)) 26 2 (some 28)) 26 3 (some 29)) 26 4 (some 30))
set_option maxHeartbeats 8000000 in
set_option maxRecDepth 100000 in
theorem c_X2_init_26 (d : Nat) (hd : 1 ≤ d) (I : Nat → Nat → Int32) (L : Nat → Nat → Int64) (R : Nat → Nat → Option Nat) (hZ : yq_Z 27 I L R) : z_CT zm_X2_init d [.ref 26] (SN.take 27) (I, L, R) 4 2068 (yq_ret 31 (yq_IX2_init_26 I, L, yq_RX2_init_26 R)) := by
  refine z_enter (by decide +kernel) (Nat.le_of_ble_eq_true rfl) ?_
  have hentry : PW zm_X2_init d 0 [(0, .ref 26)] [] (SN.take 27) (I, L, R) 4 2068 (yq_ret 31 ((z_up I 26 0 0), L, (z_up (z_up (z_up (z_up R 26 1 (some 27)) 26 2 (some 28)) 26 3 (some 29)) 26 4 (some 30)))) := by
    refine p_aload_n (z_dec zd_X2_init 0 rfl) rfl 0 rfl (n := 1) rfl ?_
    refine p_objI (z_dec zd_X2_init 1 rfl) zk_X2_3 (by omega) (by decide) (n := 4) rfl ?_
    refine p_aload_n (z_dec zd_X2_init 2 rfl) rfl 0 rfl (n := 5) rfl ?_
    refine p_iconst (z_dec zd_X2_init 3 rfl) (v := 0) (by decide) (n := 6) rfl ?_
    refine q_putI (z_dec zd_X2_init 4 rfl) zp_X2_9 (fun q => by cases q) yq_tg_27_26 (n := 9) rfl ?_
    have hZ1 := yq_ZI hZ (show 26 < 27 by decide) 0 0
    refine p_aload_n (z_dec zd_X2_init 5 rfl) rfl 0 rfl (n := 10) rfl ?_
    refine p_bipush (z_dec zd_X2_init 6 rfl) (v := 10) (by decide) (n := 12) rfl ?_
    refine q_newI (N := 10) (mc := 3) (ms := 2058) 27 (z_dec zd_X2_init 7 rfl) rfl (by decide) yq_tl_27 (by decide) hZ1 yq_ta_27 (n := 14) rfl ?_
    have hZ2 := yq_Zm hZ1 (show 27 ≤ 28 by decide)
    refine q_putR (z_dec zd_X2_init 8 rfl) zp_X2_15 (fun _ => rfl) (fun _ => ⟨rfl, rfl⟩) yq_tg_28_26 (n := 17) rfl ?_
    have hZ3 := yq_ZR hZ2 (show 26 < 28 by decide) 1 (some 27)
    refine p_aload_n (z_dec zd_X2_init 9 rfl) rfl 0 rfl (n := 18) rfl ?_
    refine p_bipush (z_dec zd_X2_init 10 rfl) (v := 10) (by decide) (n := 20) rfl ?_
    refine q_newL (N := 10) (mc := 2) (ms := 2048) 28 (z_dec zd_X2_init 11 rfl) rfl (by decide) yq_tl_28 (by decide) hZ3 yq_ta_28 (n := 22) rfl ?_
    have hZ4 := yq_Zm hZ3 (show 28 ≤ 29 by decide)
    refine q_putR (z_dec zd_X2_init 12 rfl) zp_X2_19 (fun _ => rfl) (fun _ => ⟨rfl, rfl⟩) yq_tg_29_26 (n := 25) rfl ?_
    have hZ5 := yq_ZR hZ4 (show 26 < 29 by decide) 2 (some 28)
    refine p_aload_n (z_dec zd_X2_init 13 rfl) rfl 0 rfl (n := 26) rfl ?_
    refine p_sipush (z_dec zd_X2_init 14 rfl) (v := 1024) (by decide) (n := 29) rfl ?_
    refine q_newL (N := 1024) (mc := 1) (ms := 1024) 29 (z_dec zd_X2_init 15 rfl) rfl (by decide) yq_tl_29 (by decide) hZ5 yq_ta_29 (n := 31) rfl ?_
    have hZ6 := yq_Zm hZ5 (show 29 ≤ 30 by decide)
    refine q_putR (z_dec zd_X2_init 16 rfl) zp_X2_23 (fun _ => rfl) (fun _ => ⟨rfl, rfl⟩) yq_tg_30_26 (n := 34) rfl ?_
    have hZ7 := yq_ZR hZ6 (show 26 < 30 by decide) 3 (some 29)
    refine p_aload_n (z_dec zd_X2_init 17 rfl) rfl 0 rfl (n := 35) rfl ?_
    refine p_sipush (z_dec zd_X2_init 18 rfl) (v := 1024) (by decide) (n := 38) rfl ?_
    refine q_newI (N := 1024) (mc := 0) (ms := 0) 30 (z_dec zd_X2_init 19 rfl) rfl (by decide) yq_tl_30 (by decide) hZ7 yq_ta_30 (n := 40) rfl ?_
    have hZ8 := yq_Zm hZ7 (show 30 ≤ 31 by decide)
    refine q_putR (z_dec zd_X2_init 20 rfl) zp_X2_26 (fun _ => rfl) (fun _ => ⟨rfl, rfl⟩) yq_tg_31_26 (n := 43) rfl ?_
    have hZ9 := yq_ZR hZ8 (show 26 < 31 by decide) 4 (some 30)
    exact p_vret (z_dec zd_X2_init 21 rfl) rfl ⟨rfl, rfl, rfl⟩
  exact hentry
set_option maxHeartbeats 2000000 in
set_option maxRecDepth 100000 in
theorem c_X2_init_26Z {I : Nat → Nat → Int32} {L : Nat → Nat → Int64} {R : Nat → Nat → Option Nat} (hZ : yq_Z 27 I L R) : yq_Z 31 (yq_IX2_init_26 I) L (yq_RX2_init_26 R) := by
  intro a ha j
  obtain ⟨h1, h2, h3⟩ := hZ a (by omega) j
  refine ⟨?_, h2, ?_⟩
  · unfold yq_IX2_init_26
    (repeat (first | exact h1 | rw [z_up_k _ _ (by omega)] | fail))
  · unfold yq_RX2_init_26
    (repeat (first | exact h3 | rw [z_up_k _ _ (by omega)] | fail))
def yq_IX7_init_32 (I : Nat → Nat → Int32) : Nat → Nat → Int32 := (z_up (z_up (z_up I 32 0 0) 32 5 0) 32 6 1)
def yq_RX7_init_32 (R : Nat → Nat → Option Nat) : Nat → Nat → Option Nat := (z_up (z_up (z_up (z_up (z_up R 32 1 (some 33)) 32 2 (some 34)) 32 3 (some 35)) 32 4 (some 36)) 32 7 (some 37))
set_option maxHeartbeats 8000000 in
set_option maxRecDepth 100000 in
theorem c_X7_init_32 (d : Nat) (hd : 1 ≤ d) (I : Nat → Nat → Int32) (L : Nat → Nat → Int64) (R : Nat → Nat → Option Nat) (hZ : yq_Z 33 I L R) : z_CT zm_X7_init d [.ref 32] (SN.take 33) (I, L, R) 5 45 (yq_ret 38 (yq_IX7_init_32 I, L, yq_RX7_init_32 R)) := by
  refine z_enter (by decide +kernel) (Nat.le_of_ble_eq_true rfl) ?_
  have hentry : PW zm_X7_init d 0 [(0, .ref 32)] [] (SN.take 33) (I, L, R) 5 45 (yq_ret 38 ((z_up (z_up (z_up I 32 0 0) 32 5 0) 32 6 1), L, (z_up (z_up (z_up (z_up (z_up R 32 1 (some 33)) 32 2 (some 34)) 32 3 (some 35)) 32 4 (some 36)) 32 7 (some 37)))) := by
    refine p_aload_n (z_dec zd_X7_init 0 rfl) rfl 0 rfl (n := 1) rfl ?_
    refine p_objI (z_dec zd_X7_init 1 rfl) zk_X7_3 (by omega) (by decide) (n := 4) rfl ?_
    refine p_aload_n (z_dec zd_X7_init 2 rfl) rfl 0 rfl (n := 5) rfl ?_
    refine p_iconst (z_dec zd_X7_init 3 rfl) (v := 0) (by decide) (n := 6) rfl ?_
    refine q_putI (z_dec zd_X7_init 4 rfl) zp_X7_9 (fun q => by cases q) yq_tg_33_32 (n := 9) rfl ?_
    have hZ1 := yq_ZI hZ (show 32 < 33 by decide) 0 0
    refine p_aload_n (z_dec zd_X7_init 5 rfl) rfl 0 rfl (n := 10) rfl ?_
    refine p_bipush (z_dec zd_X7_init 6 rfl) (v := 10) (by decide) (n := 12) rfl ?_
    refine q_newI (N := 10) (mc := 4) (ms := 35) 33 (z_dec zd_X7_init 7 rfl) rfl (by decide) yq_tl_33 (by decide) hZ1 yq_ta_33 (n := 14) rfl ?_
    have hZ2 := yq_Zm hZ1 (show 33 ≤ 34 by decide)
    refine q_putR (z_dec zd_X7_init 8 rfl) zp_X7_15 (fun _ => rfl) (fun _ => ⟨rfl, rfl⟩) yq_tg_34_32 (n := 17) rfl ?_
    have hZ3 := yq_ZR hZ2 (show 32 < 34 by decide) 1 (some 33)
    refine p_aload_n (z_dec zd_X7_init 9 rfl) rfl 0 rfl (n := 18) rfl ?_
    refine p_bipush (z_dec zd_X7_init 10 rfl) (v := 10) (by decide) (n := 20) rfl ?_
    refine q_newI (N := 10) (mc := 3) (ms := 25) 34 (z_dec zd_X7_init 11 rfl) rfl (by decide) yq_tl_34 (by decide) hZ3 yq_ta_34 (n := 22) rfl ?_
    have hZ4 := yq_Zm hZ3 (show 34 ≤ 35 by decide)
    refine q_putR (z_dec zd_X7_init 12 rfl) zp_X7_19 (fun _ => rfl) (fun _ => ⟨rfl, rfl⟩) yq_tg_35_32 (n := 25) rfl ?_
    have hZ5 := yq_ZR hZ4 (show 32 < 35 by decide) 2 (some 34)
    refine p_aload_n (z_dec zd_X7_init 13 rfl) rfl 0 rfl (n := 26) rfl ?_
    refine p_bipush (z_dec zd_X7_init 14 rfl) (v := 10) (by decide) (n := 28) rfl ?_
    refine q_newI (N := 10) (mc := 2) (ms := 15) 35 (z_dec zd_X7_init 15 rfl) rfl (by decide) yq_tl_35 (by decide) hZ5 yq_ta_35 (n := 30) rfl ?_
    have hZ6 := yq_Zm hZ5 (show 35 ≤ 36 by decide)
    refine q_putR (z_dec zd_X7_init 16 rfl) zp_X7_22 (fun _ => rfl) (fun _ => ⟨rfl, rfl⟩) yq_tg_36_32 (n := 33) rfl ?_
    have hZ7 := yq_ZR hZ6 (show 32 < 36 by decide) 3 (some 35)
    refine p_aload_n (z_dec zd_X7_init 17 rfl) rfl 0 rfl (n := 34) rfl ?_
    refine p_bipush (z_dec zd_X7_init 18 rfl) (v := 10) (by decide) (n := 36) rfl ?_
    refine q_newI (N := 10) (mc := 1) (ms := 5) 36 (z_dec zd_X7_init 19 rfl) rfl (by decide) yq_tl_36 (by decide) hZ7 yq_ta_36 (n := 38) rfl ?_
    have hZ8 := yq_Zm hZ7 (show 36 ≤ 37 by decide)
    refine q_putR (z_dec zd_X7_init 20 rfl) zp_X7_25 (fun _ => rfl) (fun _ => ⟨rfl, rfl⟩) yq_tg_37_32 (n := 41) rfl ?_
    have hZ9 := yq_ZR hZ8 (show 32 < 37 by decide) 4 (some 36)
    refine p_aload_n (z_dec zd_X7_init 21 rfl) rfl 0 rfl (n := 42) rfl ?_
    refine p_iconst (z_dec zd_X7_init 22 rfl) (v := 0) (by decide) (n := 43) rfl ?_
    refine q_putI (z_dec zd_X7_init 23 rfl) zp_X7_28 (fun q => by cases q) yq_tg_37_32 (n := 46) rfl ?_
    have hZ10 := yq_ZI hZ9 (show 32 < 37 by decide) 5 0
    refine p_aload_n (z_dec zd_X7_init 24 rfl) rfl 0 rfl (n := 47) rfl ?_
    refine p_iconst (z_dec zd_X7_init 25 rfl) (v := 1) (by decide) (n := 48) rfl ?_
    refine q_putI (z_dec zd_X7_init 26 rfl) zp_X7_31 (fun q => by cases q) yq_tg_37_32 (n := 51) rfl ?_
    have hZ11 := yq_ZI hZ10 (show 32 < 37 by decide) 6 1
    refine p_aload_n (z_dec zd_X7_init 27 rfl) rfl 0 rfl (n := 52) rfl ?_
    refine p_iconst (z_dec zd_X7_init 28 rfl) (v := 5) (by decide) (n := 53) rfl ?_
    refine q_newI (N := 5) (mc := 0) (ms := 0) 37 (z_dec zd_X7_init 29 rfl) rfl (by decide) yq_tl_37 (by decide) hZ11 yq_ta_37 (n := 55) rfl ?_
    have hZ12 := yq_Zm hZ11 (show 37 ≤ 38 by decide)
    refine q_putR (z_dec zd_X7_init 30 rfl) zp_X7_34 (fun _ => rfl) (fun _ => ⟨rfl, rfl⟩) yq_tg_38_32 (n := 58) rfl ?_
    have hZ13 := yq_ZR hZ12 (show 32 < 38 by decide) 7 (some 37)
    exact p_vret (z_dec zd_X7_init 31 rfl) rfl ⟨rfl, rfl, rfl⟩
  exact hentry
set_option maxHeartbeats 2000000 in
set_option maxRecDepth 100000 in
theorem c_X7_init_32Z {I : Nat → Nat → Int32} {L : Nat → Nat → Int64} {R : Nat → Nat → Option Nat} (hZ : yq_Z 33 I L R) : yq_Z 38 (yq_IX7_init_32 I) L (yq_RX7_init_32 R) := by
  intro a ha j
  obtain ⟨h1, h2, h3⟩ := hZ a (by omega) j
  refine ⟨?_, h2, ?_⟩
  · unfold yq_IX7_init_32
    (repeat (first | exact h1 | rw [z_up_k _ _ (by omega)] | fail))
  · unfold yq_RX7_init_32
    (repeat (first | exact h3 | rw [z_up_k _ _ (by omega)] | fail))
def yq_IX6_init_31 (I : Nat → Nat → Int32) : Nat → Nat → Int32 := (z_up (z_up (yq_IX7_init_32 I) 31 1 0) 31 2 0)
def yq_RX6_init_31 (R : Nat → Nat → Option Nat) : Nat → Nat → Option Nat := (z_up (z_up (yq_RX7_init_32 R) 31 0 (some 32)) 31 3 (some 38))
set_option maxHeartbeats 8000000 in
set_option maxRecDepth 100000 in
theorem c_X6_init_31 (d : Nat) (hd : 2 ≤ d) (I : Nat → Nat → Int32) (L : Nat → Nat → Int64) (R : Nat → Nat → Option Nat) (hZ : yq_Z 32 I L R) : z_CT zm_X6_init d [.ref 31] (SN.take 32) (I, L, R) 7 153 (yq_ret 39 (yq_IX6_init_31 I, L, yq_RX6_init_31 R)) := by
  refine z_enter (by decide +kernel) (Nat.le_of_ble_eq_true rfl) ?_
  have hentry : PW zm_X6_init d 0 [(0, .ref 31)] [] (SN.take 32) (I, L, R) 7 153 (yq_ret 39 ((z_up (z_up (yq_IX7_init_32 I) 31 1 0) 31 2 0), L, (z_up (z_up (yq_RX7_init_32 R) 31 0 (some 32)) 31 3 (some 38)))) := by
    refine p_aload_n (z_dec zd_X6_init 0 rfl) rfl 0 rfl (n := 1) rfl ?_
    refine p_objI (z_dec zd_X6_init 1 rfl) zk_X6_3 (by omega) (by decide) (n := 4) rfl ?_
    refine p_aload_n (z_dec zd_X6_init 2 rfl) rfl 0 rfl (n := 5) rfl ?_
    refine q_new (ci := 7) (N := 8) (mc := 6) (ms := 145) 32 (z_dec zd_X6_init 3 rfl) rfl yq_nw_X6_9 yq_tl_32 (by decide) hZ yq_ta_32 (n := 8) rfl ?_
    have hZ1 := yq_Zm hZ (show 32 ≤ 33 by decide)
    refine p_dup (z_dec zd_X6_init 4 rfl) rfl (n := 9) rfl ?_
    refine q_callIN (As := []) (mc := 1) (ms := 100) (mc2 := 5) (ms2 := 45) (n0 := 33) (n1 := 38) (z_dec zd_X6_init 5 rfl) ⟨List.mem_of_getElem? (i := 6) (by decide +kernel), zn_X7, zw_X7_init, by decide +kernel, by decide +kernel, by decide⟩ rfl ⟨rfl, zi_X7_init⟩ (c_X7_init_32 (d - 1) (by omega) I L R hZ1) [.ref 32, .ref 31] rfl rfl (by decide) (by omega) (by rw [yq_tl_38, yq_tl_33]) (n := 12) rfl ?_
    have hZ2 := c_X7_init_32Z hZ1
    refine q_putR (z_dec zd_X6_init 6 rfl) zp_X6_12 (fun _ => rfl) (fun _ => ⟨rfl, rfl⟩) yq_tg_38_31 (n := 15) rfl ?_
    have hZ3 := yq_ZR hZ2 (show 31 < 38 by decide) 0 (some 32)
    refine p_aload_n (z_dec zd_X6_init 7 rfl) rfl 0 rfl (n := 16) rfl ?_
    refine p_iconst (z_dec zd_X6_init 8 rfl) (v := 0) (by decide) (n := 17) rfl ?_
    refine q_putI (z_dec zd_X6_init 9 rfl) zp_X6_18 (fun q => by cases q) yq_tg_38_31 (n := 20) rfl ?_
    have hZ4 := yq_ZI hZ3 (show 31 < 38 by decide) 1 0
    refine p_aload_n (z_dec zd_X6_init 10 rfl) rfl 0 rfl (n := 21) rfl ?_
    refine p_iconst (z_dec zd_X6_init 11 rfl) (v := 0) (by decide) (n := 22) rfl ?_
    refine q_putI (z_dec zd_X6_init 12 rfl) zp_X6_22 (fun q => by cases q) yq_tg_38_31 (n := 25) rfl ?_
    have hZ5 := yq_ZI hZ4 (show 31 < 38 by decide) 2 0
    refine p_aload_n (z_dec zd_X6_init 13 rfl) rfl 0 rfl (n := 26) rfl ?_
    refine p_bipush (z_dec zd_X6_init 14 rfl) (v := 100) (by decide) (n := 28) rfl ?_
    refine q_newI (N := 100) (mc := 0) (ms := 0) 38 (z_dec zd_X6_init 15 rfl) rfl (by decide) yq_tl_38 (by decide) hZ5 yq_ta_38 (n := 30) rfl ?_
    have hZ6 := yq_Zm hZ5 (show 38 ≤ 39 by decide)
    refine q_putR (z_dec zd_X6_init 16 rfl) zp_X6_25 (fun _ => rfl) (fun _ => ⟨rfl, rfl⟩) yq_tg_39_31 (n := 33) rfl ?_
    have hZ7 := yq_ZR hZ6 (show 31 < 39 by decide) 3 (some 38)
    exact p_vret (z_dec zd_X6_init 17 rfl) rfl ⟨rfl, rfl, rfl⟩
  exact hentry
set_option maxHeartbeats 2000000 in
set_option maxRecDepth 100000 in
theorem c_X6_init_31Z {I : Nat → Nat → Int32} {L : Nat → Nat → Int64} {R : Nat → Nat → Option Nat} (hZ : yq_Z 32 I L R) : yq_Z 39 (yq_IX6_init_31 I) L (yq_RX6_init_31 R) := by
  intro a ha j
  obtain ⟨h1, h2, h3⟩ := hZ a (by omega) j
  refine ⟨?_, h2, ?_⟩
  · unfold yq_IX6_init_31 yq_IX7_init_32
    (repeat (first | exact h1 | rw [z_up_k _ _ (by omega)] | fail))
  · unfold yq_RX6_init_31 yq_RX7_init_32
    (repeat (first | exact h3 | rw [z_up_k _ _ (by omega)] | fail))
def yq_IX0_init_39 (I : Nat → Nat → Int32) : Nat → Nat → Int32 := (z_up (z_up I 39 4 0) 39 5 0)
def yq_RX0_init_39 (R : Nat → Nat → Option Nat) : Nat → Nat → Option Nat := (z_up (z_up (z_up (z_up R 39 0 (some 40)) 39 1 (some 41)) 39 2 (some 42)) 39 3 (some 43))
set_option maxHeartbeats 8000000 in
set_option maxRecDepth 100000 in
theorem c_X0_init_39 (d : Nat) (hd : 1 ≤ d) (I : Nat → Nat → Int32) (L : Nat → Nat → Int64) (R : Nat → Nat → Option Nat) (hZ : yq_Z 40 I L R) : z_CT zm_X0_init d [.ref 39] (SN.take 40) (I, L, R) 4 160 (yq_ret 44 (yq_IX0_init_39 I, L, yq_RX0_init_39 R)) := by
  refine z_enter (by decide +kernel) (Nat.le_of_ble_eq_true rfl) ?_
  have hentry : PW zm_X0_init d 0 [(0, .ref 39)] [] (SN.take 40) (I, L, R) 4 160 (yq_ret 44 ((z_up (z_up I 39 4 0) 39 5 0), L, (z_up (z_up (z_up (z_up R 39 0 (some 40)) 39 1 (some 41)) 39 2 (some 42)) 39 3 (some 43)))) := by
    refine p_aload_n (z_dec zd_X0_init 0 rfl) rfl 0 rfl (n := 1) rfl ?_
    refine p_objI (z_dec zd_X0_init 1 rfl) zk_X0_1 (by omega) (by decide) (n := 4) rfl ?_
    refine p_aload_n (z_dec zd_X0_init 2 rfl) rfl 0 rfl (n := 5) rfl ?_
    refine p_bipush (z_dec zd_X0_init 3 rfl) (v := 40) (by decide) (n := 7) rfl ?_
    refine q_newI (N := 40) (mc := 3) (ms := 120) 40 (z_dec zd_X0_init 4 rfl) rfl (by decide) yq_tl_40 (by decide) hZ yq_ta_40 (n := 9) rfl ?_
    have hZ1 := yq_Zm hZ (show 40 ≤ 41 by decide)
    refine q_putR (z_dec zd_X0_init 5 rfl) zp_X0_9 (fun _ => rfl) (fun _ => ⟨rfl, rfl⟩) yq_tg_41_39 (n := 12) rfl ?_
    have hZ2 := yq_ZR hZ1 (show 39 < 41 by decide) 0 (some 40)
    refine p_aload_n (z_dec zd_X0_init 6 rfl) rfl 0 rfl (n := 13) rfl ?_
    refine p_bipush (z_dec zd_X0_init 7 rfl) (v := 40) (by decide) (n := 15) rfl ?_
    refine q_newI (N := 40) (mc := 2) (ms := 80) 41 (z_dec zd_X0_init 8 rfl) rfl (by decide) yq_tl_41 (by decide) hZ2 yq_ta_41 (n := 17) rfl ?_
    have hZ3 := yq_Zm hZ2 (show 41 ≤ 42 by decide)
    refine q_putR (z_dec zd_X0_init 9 rfl) zp_X0_13 (fun _ => rfl) (fun _ => ⟨rfl, rfl⟩) yq_tg_42_39 (n := 20) rfl ?_
    have hZ4 := yq_ZR hZ3 (show 39 < 42 by decide) 1 (some 41)
    refine p_aload_n (z_dec zd_X0_init 10 rfl) rfl 0 rfl (n := 21) rfl ?_
    refine p_bipush (z_dec zd_X0_init 11 rfl) (v := 40) (by decide) (n := 23) rfl ?_
    refine q_newI (N := 40) (mc := 1) (ms := 40) 42 (z_dec zd_X0_init 12 rfl) rfl (by decide) yq_tl_42 (by decide) hZ4 yq_ta_42 (n := 25) rfl ?_
    have hZ5 := yq_Zm hZ4 (show 42 ≤ 43 by decide)
    refine q_putR (z_dec zd_X0_init 13 rfl) zp_X0_16 (fun _ => rfl) (fun _ => ⟨rfl, rfl⟩) yq_tg_43_39 (n := 28) rfl ?_
    have hZ6 := yq_ZR hZ5 (show 39 < 43 by decide) 2 (some 42)
    refine p_aload_n (z_dec zd_X0_init 14 rfl) rfl 0 rfl (n := 29) rfl ?_
    refine p_bipush (z_dec zd_X0_init 15 rfl) (v := 40) (by decide) (n := 31) rfl ?_
    refine q_newI (N := 40) (mc := 0) (ms := 0) 43 (z_dec zd_X0_init 16 rfl) rfl (by decide) yq_tl_43 (by decide) hZ6 yq_ta_43 (n := 33) rfl ?_
    have hZ7 := yq_Zm hZ6 (show 43 ≤ 44 by decide)
    refine q_putR (z_dec zd_X0_init 17 rfl) zp_X0_19 (fun _ => rfl) (fun _ => ⟨rfl, rfl⟩) yq_tg_44_39 (n := 36) rfl ?_
    have hZ8 := yq_ZR hZ7 (show 39 < 44 by decide) 3 (some 43)
    refine p_aload_n (z_dec zd_X0_init 18 rfl) rfl 0 rfl (n := 37) rfl ?_
    refine p_iconst (z_dec zd_X0_init 19 rfl) (v := 0) (by decide) (n := 38) rfl ?_
    refine q_putI (z_dec zd_X0_init 20 rfl) zp_X0_22 (fun q => by cases q) yq_tg_44_39 (n := 41) rfl ?_
    have hZ9 := yq_ZI hZ8 (show 39 < 44 by decide) 4 0
    refine p_aload_n (z_dec zd_X0_init 21 rfl) rfl 0 rfl (n := 42) rfl ?_
    refine p_iconst (z_dec zd_X0_init 22 rfl) (v := 0) (by decide) (n := 43) rfl ?_
    refine q_putI (z_dec zd_X0_init 23 rfl) zp_X0_26 (fun q => by cases q) yq_tg_44_39 (n := 46) rfl ?_
    have hZ10 := yq_ZI hZ9 (show 39 < 44 by decide) 5 0
    exact p_vret (z_dec zd_X0_init 24 rfl) rfl ⟨rfl, rfl, rfl⟩
  exact hentry
set_option maxHeartbeats 2000000 in
set_option maxRecDepth 100000 in
theorem c_X0_init_39Z {I : Nat → Nat → Int32} {L : Nat → Nat → Int64} {R : Nat → Nat → Option Nat} (hZ : yq_Z 40 I L R) : yq_Z 44 (yq_IX0_init_39 I) L (yq_RX0_init_39 R) := by
  intro a ha j
  obtain ⟨h1, h2, h3⟩ := hZ a (by omega) j
  refine ⟨?_, h2, ?_⟩
  · unfold yq_IX0_init_39
    (repeat (first | exact h1 | rw [z_up_k _ _ (by omega)] | fail))
  · unfold yq_RX0_init_39
    (repeat (first | exact h3 | rw [z_up_k _ _ (by omega)] | fail))
def yq_IX5_init_44 (I : Nat → Nat → Int32) : Nat → Nat → Int32 := (z_up (z_up (z_up I 44 1 0) 44 3 0) 44 4 0)
def yq_RX5_init_44 (R : Nat → Nat → Option Nat) : Nat → Nat → Option Nat := (z_up (z_up R 44 0 (some 45)) 44 2 (some 46))
set_option maxHeartbeats 8000000 in
set_option maxRecDepth 100000 in
theorem c_X5_init_44 (d : Nat) (hd : 1 ≤ d) (I : Nat → Nat → Int32) (L : Nat → Nat → Int64) (R : Nat → Nat → Option Nat) (hZ : yq_Z 45 I L R) : z_CT zm_X5_init d [.ref 44] (SN.take 45) (I, L, R) 2 74 (yq_ret 47 (yq_IX5_init_44 I, L, yq_RX5_init_44 R)) := by
  refine z_enter (by decide +kernel) (Nat.le_of_ble_eq_true rfl) ?_
  have hentry : PW zm_X5_init d 0 [(0, .ref 44)] [] (SN.take 45) (I, L, R) 2 74 (yq_ret 47 ((z_up (z_up (z_up I 44 1 0) 44 3 0) 44 4 0), L, (z_up (z_up R 44 0 (some 45)) 44 2 (some 46)))) := by
    refine p_aload_n (z_dec zd_X5_init 0 rfl) rfl 0 rfl (n := 1) rfl ?_
    refine p_objI (z_dec zd_X5_init 1 rfl) zk_X5_3 (by omega) (by decide) (n := 4) rfl ?_
    refine p_aload_n (z_dec zd_X5_init 2 rfl) rfl 0 rfl (n := 5) rfl ?_
    refine p_bipush (z_dec zd_X5_init 3 rfl) (v := 50) (by decide) (n := 7) rfl ?_
    refine q_newI (N := 50) (mc := 1) (ms := 24) 45 (z_dec zd_X5_init 4 rfl) rfl (by decide) yq_tl_45 (by decide) hZ yq_ta_45 (n := 9) rfl ?_
    have hZ1 := yq_Zm hZ (show 45 ≤ 46 by decide)
    refine q_putR (z_dec zd_X5_init 5 rfl) zp_X5_11 (fun _ => rfl) (fun _ => ⟨rfl, rfl⟩) yq_tg_46_44 (n := 12) rfl ?_
    have hZ2 := yq_ZR hZ1 (show 44 < 46 by decide) 0 (some 45)
    refine p_aload_n (z_dec zd_X5_init 6 rfl) rfl 0 rfl (n := 13) rfl ?_
    refine p_iconst (z_dec zd_X5_init 7 rfl) (v := 0) (by decide) (n := 14) rfl ?_
    refine q_putI (z_dec zd_X5_init 8 rfl) zp_X5_15 (fun q => by cases q) yq_tg_46_44 (n := 17) rfl ?_
    have hZ3 := yq_ZI hZ2 (show 44 < 46 by decide) 1 0
    refine p_aload_n (z_dec zd_X5_init 9 rfl) rfl 0 rfl (n := 18) rfl ?_
    refine p_bipush (z_dec zd_X5_init 10 rfl) (v := 24) (by decide) (n := 20) rfl ?_
    refine q_newI (N := 24) (mc := 0) (ms := 0) 46 (z_dec zd_X5_init 11 rfl) rfl (by decide) yq_tl_46 (by decide) hZ3 yq_ta_46 (n := 22) rfl ?_
    have hZ4 := yq_Zm hZ3 (show 46 ≤ 47 by decide)
    refine q_putR (z_dec zd_X5_init 12 rfl) zp_X5_19 (fun _ => rfl) (fun _ => ⟨rfl, rfl⟩) yq_tg_47_44 (n := 25) rfl ?_
    have hZ5 := yq_ZR hZ4 (show 44 < 47 by decide) 2 (some 46)
    refine p_aload_n (z_dec zd_X5_init 13 rfl) rfl 0 rfl (n := 26) rfl ?_
    refine p_iconst (z_dec zd_X5_init 14 rfl) (v := 0) (by decide) (n := 27) rfl ?_
    refine q_putI (z_dec zd_X5_init 15 rfl) zp_X5_22 (fun q => by cases q) yq_tg_47_44 (n := 30) rfl ?_
    have hZ6 := yq_ZI hZ5 (show 44 < 47 by decide) 3 0
    refine p_aload_n (z_dec zd_X5_init 16 rfl) rfl 0 rfl (n := 31) rfl ?_
    refine p_iconst (z_dec zd_X5_init 17 rfl) (v := 0) (by decide) (n := 32) rfl ?_
    refine q_putI (z_dec zd_X5_init 18 rfl) zp_X5_25 (fun q => by cases q) yq_tg_47_44 (n := 35) rfl ?_
    have hZ7 := yq_ZI hZ6 (show 44 < 47 by decide) 4 0
    exact p_vret (z_dec zd_X5_init 19 rfl) rfl ⟨rfl, rfl, rfl⟩
  exact hentry
set_option maxHeartbeats 2000000 in
set_option maxRecDepth 100000 in
theorem c_X5_init_44Z {I : Nat → Nat → Int32} {L : Nat → Nat → Int64} {R : Nat → Nat → Option Nat} (hZ : yq_Z 45 I L R) : yq_Z 47 (yq_IX5_init_44 I) L (yq_RX5_init_44 R) := by
  intro a ha j
  obtain ⟨h1, h2, h3⟩ := hZ a (by omega) j
  refine ⟨?_, h2, ?_⟩
  · unfold yq_IX5_init_44
    (repeat (first | exact h1 | rw [z_up_k _ _ (by omega)] | fail))
  · unfold yq_RX5_init_44
    (repeat (first | exact h3 | rw [z_up_k _ _ (by omega)] | fail))
def yq_IX4_init_48 (I : Nat → Nat → Int32) : Nat → Nat → Int32 := (z_up (z_up (z_up I 48 0 (-1)) 48 1 (-1)) 48 2 0)
def yq_RX4_init_48 (R : Nat → Nat → Option Nat) : Nat → Nat → Option Nat := (z_up R 48 3 (some 49))
set_option maxHeartbeats 8000000 in
set_option maxRecDepth 100000 in
theorem c_X4_init_48 (d : Nat) (hd : 1 ≤ d) (I : Nat → Nat → Int32) (L : Nat → Nat → Int64) (R : Nat → Nat → Option Nat) (hZ : yq_Z 49 I L R) : z_CT zm_X4_init d [.ref 48] (SN.take 49) (I, L, R) 1 60 (yq_ret 50 (yq_IX4_init_48 I, L, yq_RX4_init_48 R)) := by
  refine z_enter (by decide +kernel) (Nat.le_of_ble_eq_true rfl) ?_
  have hentry : PW zm_X4_init d 0 [(0, .ref 48)] [] (SN.take 49) (I, L, R) 1 60 (yq_ret 50 ((z_up (z_up (z_up I 48 0 (-1)) 48 1 (-1)) 48 2 0), L, (z_up R 48 3 (some 49)))) := by
    refine p_aload_n (z_dec zd_X4_init 0 rfl) rfl 0 rfl (n := 1) rfl ?_
    refine p_objI (z_dec zd_X4_init 1 rfl) zk_X4_3 (by omega) (by decide) (n := 4) rfl ?_
    refine p_aload_n (z_dec zd_X4_init 2 rfl) rfl 0 rfl (n := 5) rfl ?_
    refine p_iconst (z_dec zd_X4_init 3 rfl) (v := (-1)) (by decide) (n := 6) rfl ?_
    refine q_putI (z_dec zd_X4_init 4 rfl) zp_X4_9 (fun q => by cases q) yq_tg_49_48 (n := 9) rfl ?_
    have hZ1 := yq_ZI hZ (show 48 < 49 by decide) 0 (-1)
    refine p_aload_n (z_dec zd_X4_init 5 rfl) rfl 0 rfl (n := 10) rfl ?_
    refine p_iconst (z_dec zd_X4_init 6 rfl) (v := (-1)) (by decide) (n := 11) rfl ?_
    refine q_putI (z_dec zd_X4_init 7 rfl) zp_X4_15 (fun q => by cases q) yq_tg_49_48 (n := 14) rfl ?_
    have hZ2 := yq_ZI hZ1 (show 48 < 49 by decide) 1 (-1)
    refine p_aload_n (z_dec zd_X4_init 8 rfl) rfl 0 rfl (n := 15) rfl ?_
    refine p_iconst (z_dec zd_X4_init 9 rfl) (v := 0) (by decide) (n := 16) rfl ?_
    refine q_putI (z_dec zd_X4_init 10 rfl) zp_X4_18 (fun q => by cases q) yq_tg_49_48 (n := 19) rfl ?_
    have hZ3 := yq_ZI hZ2 (show 48 < 49 by decide) 2 0
    refine p_aload_n (z_dec zd_X4_init 11 rfl) rfl 0 rfl (n := 20) rfl ?_
    refine p_bipush (z_dec zd_X4_init 12 rfl) (v := 60) (by decide) (n := 22) rfl ?_
    refine q_newL (N := 60) (mc := 0) (ms := 0) 49 (z_dec zd_X4_init 13 rfl) rfl (by decide) yq_tl_49 (by decide) hZ3 yq_ta_49 (n := 24) rfl ?_
    have hZ4 := yq_Zm hZ3 (show 49 ≤ 50 by decide)
    refine q_putR (z_dec zd_X4_init 14 rfl) zp_X4_21 (fun _ => rfl) (fun _ => ⟨rfl, rfl⟩) yq_tg_50_48 (n := 27) rfl ?_
    have hZ5 := yq_ZR hZ4 (show 48 < 50 by decide) 3 (some 49)
    exact p_vret (z_dec zd_X4_init 15 rfl) rfl ⟨rfl, rfl, rfl⟩
  exact hentry
set_option maxHeartbeats 2000000 in
set_option maxRecDepth 100000 in
theorem c_X4_init_48Z {I : Nat → Nat → Int32} {L : Nat → Nat → Int64} {R : Nat → Nat → Option Nat} (hZ : yq_Z 49 I L R) : yq_Z 50 (yq_IX4_init_48 I) L (yq_RX4_init_48 R) := by
  intro a ha j
  obtain ⟨h1, h2, h3⟩ := hZ a (by omega) j
  refine ⟨?_, h2, ?_⟩
  · unfold yq_IX4_init_48
    (repeat (first | exact h1 | rw [z_up_k _ _ (by omega)] | fail))
  · unfold yq_RX4_init_48
    (repeat (first | exact h3 | rw [z_up_k _ _ (by omega)] | fail))
def yq_IX4_init_50 (I : Nat → Nat → Int32) : Nat → Nat → Int32 := (z_up (z_up (z_up I 50 0 (-1)) 50 1 (-1)) 50 2 0)
def yq_RX4_init_50 (R : Nat → Nat → Option Nat) : Nat → Nat → Option Nat := (z_up R 50 3 (some 51))
set_option maxHeartbeats 8000000 in
set_option maxRecDepth 100000 in
theorem c_X4_init_50 (d : Nat) (hd : 1 ≤ d) (I : Nat → Nat → Int32) (L : Nat → Nat → Int64) (R : Nat → Nat → Option Nat) (hZ : yq_Z 51 I L R) : z_CT zm_X4_init d [.ref 50] (SN.take 51) (I, L, R) 1 60 (yq_ret 52 (yq_IX4_init_50 I, L, yq_RX4_init_50 R)) := by
  refine z_enter (by decide +kernel) (Nat.le_of_ble_eq_true rfl) ?_
  have hentry : PW zm_X4_init d 0 [(0, .ref 50)] [] (SN.take 51) (I, L, R) 1 60 (yq_ret 52 ((z_up (z_up (z_up I 50 0 (-1)) 50 1 (-1)) 50 2 0), L, (z_up R 50 3 (some 51)))) := by
    refine p_aload_n (z_dec zd_X4_init 0 rfl) rfl 0 rfl (n := 1) rfl ?_
    refine p_objI (z_dec zd_X4_init 1 rfl) zk_X4_3 (by omega) (by decide) (n := 4) rfl ?_
    refine p_aload_n (z_dec zd_X4_init 2 rfl) rfl 0 rfl (n := 5) rfl ?_
    refine p_iconst (z_dec zd_X4_init 3 rfl) (v := (-1)) (by decide) (n := 6) rfl ?_
    refine q_putI (z_dec zd_X4_init 4 rfl) zp_X4_9 (fun q => by cases q) yq_tg_51_50 (n := 9) rfl ?_
    have hZ1 := yq_ZI hZ (show 50 < 51 by decide) 0 (-1)
    refine p_aload_n (z_dec zd_X4_init 5 rfl) rfl 0 rfl (n := 10) rfl ?_
    refine p_iconst (z_dec zd_X4_init 6 rfl) (v := (-1)) (by decide) (n := 11) rfl ?_
    refine q_putI (z_dec zd_X4_init 7 rfl) zp_X4_15 (fun q => by cases q) yq_tg_51_50 (n := 14) rfl ?_
    have hZ2 := yq_ZI hZ1 (show 50 < 51 by decide) 1 (-1)
    refine p_aload_n (z_dec zd_X4_init 8 rfl) rfl 0 rfl (n := 15) rfl ?_
    refine p_iconst (z_dec zd_X4_init 9 rfl) (v := 0) (by decide) (n := 16) rfl ?_
    refine q_putI (z_dec zd_X4_init 10 rfl) zp_X4_18 (fun q => by cases q) yq_tg_51_50 (n := 19) rfl ?_
    have hZ3 := yq_ZI hZ2 (show 50 < 51 by decide) 2 0
    refine p_aload_n (z_dec zd_X4_init 11 rfl) rfl 0 rfl (n := 20) rfl ?_
    refine p_bipush (z_dec zd_X4_init 12 rfl) (v := 60) (by decide) (n := 22) rfl ?_
    refine q_newL (N := 60) (mc := 0) (ms := 0) 51 (z_dec zd_X4_init 13 rfl) rfl (by decide) yq_tl_51 (by decide) hZ3 yq_ta_51 (n := 24) rfl ?_
    have hZ4 := yq_Zm hZ3 (show 51 ≤ 52 by decide)
    refine q_putR (z_dec zd_X4_init 14 rfl) zp_X4_21 (fun _ => rfl) (fun _ => ⟨rfl, rfl⟩) yq_tg_52_50 (n := 27) rfl ?_
    have hZ5 := yq_ZR hZ4 (show 50 < 52 by decide) 3 (some 51)
    exact p_vret (z_dec zd_X4_init 15 rfl) rfl ⟨rfl, rfl, rfl⟩
  exact hentry
set_option maxHeartbeats 2000000 in
set_option maxRecDepth 100000 in
theorem c_X4_init_50Z {I : Nat → Nat → Int32} {L : Nat → Nat → Int64} {R : Nat → Nat → Option Nat} (hZ : yq_Z 51 I L R) : yq_Z 52 (yq_IX4_init_50 I) L (yq_RX4_init_50 R) := by
  intro a ha j
  obtain ⟨h1, h2, h3⟩ := hZ a (by omega) j
  refine ⟨?_, h2, ?_⟩
  · unfold yq_IX4_init_50
    (repeat (first | exact h1 | rw [z_up_k _ _ (by omega)] | fail))
  · unfold yq_RX4_init_50
    (repeat (first | exact h3 | rw [z_up_k _ _ (by omega)] | fail))
def yq_IX4_init_52 (I : Nat → Nat → Int32) : Nat → Nat → Int32 := (z_up (z_up (z_up I 52 0 (-1)) 52 1 (-1)) 52 2 0)
def yq_RX4_init_52 (R : Nat → Nat → Option Nat) : Nat → Nat → Option Nat := (z_up R 52 3 (some 53))
set_option maxHeartbeats 8000000 in
set_option maxRecDepth 100000 in
theorem c_X4_init_52 (d : Nat) (hd : 1 ≤ d) (I : Nat → Nat → Int32) (L : Nat → Nat → Int64) (R : Nat → Nat → Option Nat) (hZ : yq_Z 53 I L R) : z_CT zm_X4_init d [.ref 52] (SN.take 53) (I, L, R) 1 60 (yq_ret 54 (yq_IX4_init_52 I, L, yq_RX4_init_52 R)) := by
  refine z_enter (by decide +kernel) (Nat.le_of_ble_eq_true rfl) ?_
  have hentry : PW zm_X4_init d 0 [(0, .ref 52)] [] (SN.take 53) (I, L, R) 1 60 (yq_ret 54 ((z_up (z_up (z_up I 52 0 (-1)) 52 1 (-1)) 52 2 0), L, (z_up R 52 3 (some 53)))) := by
    refine p_aload_n (z_dec zd_X4_init 0 rfl) rfl 0 rfl (n := 1) rfl ?_
    refine p_objI (z_dec zd_X4_init 1 rfl) zk_X4_3 (by omega) (by decide) (n := 4) rfl ?_
    refine p_aload_n (z_dec zd_X4_init 2 rfl) rfl 0 rfl (n := 5) rfl ?_
    refine p_iconst (z_dec zd_X4_init 3 rfl) (v := (-1)) (by decide) (n := 6) rfl ?_
    refine q_putI (z_dec zd_X4_init 4 rfl) zp_X4_9 (fun q => by cases q) yq_tg_53_52 (n := 9) rfl ?_
    have hZ1 := yq_ZI hZ (show 52 < 53 by decide) 0 (-1)
    refine p_aload_n (z_dec zd_X4_init 5 rfl) rfl 0 rfl (n := 10) rfl ?_
    refine p_iconst (z_dec zd_X4_init 6 rfl) (v := (-1)) (by decide) (n := 11) rfl ?_
    refine q_putI (z_dec zd_X4_init 7 rfl) zp_X4_15 (fun q => by cases q) yq_tg_53_52 (n := 14) rfl ?_
    have hZ2 := yq_ZI hZ1 (show 52 < 53 by decide) 1 (-1)
    refine p_aload_n (z_dec zd_X4_init 8 rfl) rfl 0 rfl (n := 15) rfl ?_
    refine p_iconst (z_dec zd_X4_init 9 rfl) (v := 0) (by decide) (n := 16) rfl ?_
    refine q_putI (z_dec zd_X4_init 10 rfl) zp_X4_18 (fun q => by cases q) yq_tg_53_52 (n := 19) rfl ?_
    have hZ3 := yq_ZI hZ2 (show 52 < 53 by decide) 2 0
    refine p_aload_n (z_dec zd_X4_init 11 rfl) rfl 0 rfl (n := 20) rfl ?_
    refine p_bipush (z_dec zd_X4_init 12 rfl) (v := 60) (by decide) (n := 22) rfl ?_
    refine q_newL (N := 60) (mc := 0) (ms := 0) 53 (z_dec zd_X4_init 13 rfl) rfl (by decide) yq_tl_53 (by decide) hZ3 yq_ta_53 (n := 24) rfl ?_
    have hZ4 := yq_Zm hZ3 (show 53 ≤ 54 by decide)
    refine q_putR (z_dec zd_X4_init 14 rfl) zp_X4_21 (fun _ => rfl) (fun _ => ⟨rfl, rfl⟩) yq_tg_54_52 (n := 27) rfl ?_
    have hZ5 := yq_ZR hZ4 (show 52 < 54 by decide) 3 (some 53)
    exact p_vret (z_dec zd_X4_init 15 rfl) rfl ⟨rfl, rfl, rfl⟩
  exact hentry
set_option maxHeartbeats 2000000 in
set_option maxRecDepth 100000 in
theorem c_X4_init_52Z {I : Nat → Nat → Int32} {L : Nat → Nat → Int64} {R : Nat → Nat → Option Nat} (hZ : yq_Z 53 I L R) : yq_Z 54 (yq_IX4_init_52 I) L (yq_RX4_init_52 R) := by
  intro a ha j
  obtain ⟨h1, h2, h3⟩ := hZ a (by omega) j
  refine ⟨?_, h2, ?_⟩
  · unfold yq_IX4_init_52
    (repeat (first | exact h1 | rw [z_up_k _ _ (by omega)] | fail))
  · unfold yq_RX4_init_52
    (repeat (first | exact h3 | rw [z_up_k _ _ (by omega)] | fail))
def yq_IX4_init_54 (I : Nat → Nat → Int32) : Nat → Nat → Int32 := (z_up (z_up (z_up I 54 0 (-1)) 54 1 (-1)) 54 2 0)
def yq_RX4_init_54 (R : Nat → Nat → Option Nat) : Nat → Nat → Option Nat := (z_up R 54 3 (some 55))
set_option maxHeartbeats 8000000 in
set_option maxRecDepth 100000 in
theorem c_X4_init_54 (d : Nat) (hd : 1 ≤ d) (I : Nat → Nat → Int32) (L : Nat → Nat → Int64) (R : Nat → Nat → Option Nat) (hZ : yq_Z 55 I L R) : z_CT zm_X4_init d [.ref 54] (SN.take 55) (I, L, R) 1 60 (yq_ret 56 (yq_IX4_init_54 I, L, yq_RX4_init_54 R)) := by
  refine z_enter (by decide +kernel) (Nat.le_of_ble_eq_true rfl) ?_
  have hentry : PW zm_X4_init d 0 [(0, .ref 54)] [] (SN.take 55) (I, L, R) 1 60 (yq_ret 56 ((z_up (z_up (z_up I 54 0 (-1)) 54 1 (-1)) 54 2 0), L, (z_up R 54 3 (some 55)))) := by
    refine p_aload_n (z_dec zd_X4_init 0 rfl) rfl 0 rfl (n := 1) rfl ?_
    refine p_objI (z_dec zd_X4_init 1 rfl) zk_X4_3 (by omega) (by decide) (n := 4) rfl ?_
    refine p_aload_n (z_dec zd_X4_init 2 rfl) rfl 0 rfl (n := 5) rfl ?_
    refine p_iconst (z_dec zd_X4_init 3 rfl) (v := (-1)) (by decide) (n := 6) rfl ?_
    refine q_putI (z_dec zd_X4_init 4 rfl) zp_X4_9 (fun q => by cases q) yq_tg_55_54 (n := 9) rfl ?_
    have hZ1 := yq_ZI hZ (show 54 < 55 by decide) 0 (-1)
    refine p_aload_n (z_dec zd_X4_init 5 rfl) rfl 0 rfl (n := 10) rfl ?_
    refine p_iconst (z_dec zd_X4_init 6 rfl) (v := (-1)) (by decide) (n := 11) rfl ?_
    refine q_putI (z_dec zd_X4_init 7 rfl) zp_X4_15 (fun q => by cases q) yq_tg_55_54 (n := 14) rfl ?_
    have hZ2 := yq_ZI hZ1 (show 54 < 55 by decide) 1 (-1)
    refine p_aload_n (z_dec zd_X4_init 8 rfl) rfl 0 rfl (n := 15) rfl ?_
    refine p_iconst (z_dec zd_X4_init 9 rfl) (v := 0) (by decide) (n := 16) rfl ?_
    refine q_putI (z_dec zd_X4_init 10 rfl) zp_X4_18 (fun q => by cases q) yq_tg_55_54 (n := 19) rfl ?_
    have hZ3 := yq_ZI hZ2 (show 54 < 55 by decide) 2 0
    refine p_aload_n (z_dec zd_X4_init 11 rfl) rfl 0 rfl (n := 20) rfl ?_
    refine p_bipush (z_dec zd_X4_init 12 rfl) (v := 60) (by decide) (n := 22) rfl ?_
    refine q_newL (N := 60) (mc := 0) (ms := 0) 55 (z_dec zd_X4_init 13 rfl) rfl (by decide) yq_tl_55 (by decide) hZ3 yq_ta_55 (n := 24) rfl ?_
    have hZ4 := yq_Zm hZ3 (show 55 ≤ 56 by decide)
    refine q_putR (z_dec zd_X4_init 14 rfl) zp_X4_21 (fun _ => rfl) (fun _ => ⟨rfl, rfl⟩) yq_tg_56_54 (n := 27) rfl ?_
    have hZ5 := yq_ZR hZ4 (show 54 < 56 by decide) 3 (some 55)
    exact p_vret (z_dec zd_X4_init 15 rfl) rfl ⟨rfl, rfl, rfl⟩
  exact hentry
set_option maxHeartbeats 2000000 in
set_option maxRecDepth 100000 in
theorem c_X4_init_54Z {I : Nat → Nat → Int32} {L : Nat → Nat → Int64} {R : Nat → Nat → Option Nat} (hZ : yq_Z 55 I L R) : yq_Z 56 (yq_IX4_init_54 I) L (yq_RX4_init_54 R) := by
  intro a ha j
  obtain ⟨h1, h2, h3⟩ := hZ a (by omega) j
  refine ⟨?_, h2, ?_⟩
  · unfold yq_IX4_init_54
    (repeat (first | exact h1 | rw [z_up_k _ _ (by omega)] | fail))
  · unfold yq_RX4_init_54
    (repeat (first | exact h3 | rw [z_up_k _ _ (by omega)] | fail))
def yq_IX4_init_56 (I : Nat → Nat → Int32) : Nat → Nat → Int32 := (z_up (z_up (z_up I 56 0 (-1)) 56 1 (-1)) 56 2 0)
def yq_RX4_init_56 (R : Nat → Nat → Option Nat) : Nat → Nat → Option Nat := (z_up R 56 3 (some 57))
set_option maxHeartbeats 8000000 in
set_option maxRecDepth 100000 in
theorem c_X4_init_56 (d : Nat) (hd : 1 ≤ d) (I : Nat → Nat → Int32) (L : Nat → Nat → Int64) (R : Nat → Nat → Option Nat) (hZ : yq_Z 57 I L R) : z_CT zm_X4_init d [.ref 56] (SN.take 57) (I, L, R) 1 60 (yq_ret 58 (yq_IX4_init_56 I, L, yq_RX4_init_56 R)) := by
  refine z_enter (by decide +kernel) (Nat.le_of_ble_eq_true rfl) ?_
  have hentry : PW zm_X4_init d 0 [(0, .ref 56)] [] (SN.take 57) (I, L, R) 1 60 (yq_ret 58 ((z_up (z_up (z_up I 56 0 (-1)) 56 1 (-1)) 56 2 0), L, (z_up R 56 3 (some 57)))) := by
    refine p_aload_n (z_dec zd_X4_init 0 rfl) rfl 0 rfl (n := 1) rfl ?_
    refine p_objI (z_dec zd_X4_init 1 rfl) zk_X4_3 (by omega) (by decide) (n := 4) rfl ?_
    refine p_aload_n (z_dec zd_X4_init 2 rfl) rfl 0 rfl (n := 5) rfl ?_
    refine p_iconst (z_dec zd_X4_init 3 rfl) (v := (-1)) (by decide) (n := 6) rfl ?_
    refine q_putI (z_dec zd_X4_init 4 rfl) zp_X4_9 (fun q => by cases q) yq_tg_57_56 (n := 9) rfl ?_
    have hZ1 := yq_ZI hZ (show 56 < 57 by decide) 0 (-1)
    refine p_aload_n (z_dec zd_X4_init 5 rfl) rfl 0 rfl (n := 10) rfl ?_
    refine p_iconst (z_dec zd_X4_init 6 rfl) (v := (-1)) (by decide) (n := 11) rfl ?_
    refine q_putI (z_dec zd_X4_init 7 rfl) zp_X4_15 (fun q => by cases q) yq_tg_57_56 (n := 14) rfl ?_
    have hZ2 := yq_ZI hZ1 (show 56 < 57 by decide) 1 (-1)
    refine p_aload_n (z_dec zd_X4_init 8 rfl) rfl 0 rfl (n := 15) rfl ?_
    refine p_iconst (z_dec zd_X4_init 9 rfl) (v := 0) (by decide) (n := 16) rfl ?_
    refine q_putI (z_dec zd_X4_init 10 rfl) zp_X4_18 (fun q => by cases q) yq_tg_57_56 (n := 19) rfl ?_
    have hZ3 := yq_ZI hZ2 (show 56 < 57 by decide) 2 0
    refine p_aload_n (z_dec zd_X4_init 11 rfl) rfl 0 rfl (n := 20) rfl ?_
    refine p_bipush (z_dec zd_X4_init 12 rfl) (v := 60) (by decide) (n := 22) rfl ?_
    refine q_newL (N := 60) (mc := 0) (ms := 0) 57 (z_dec zd_X4_init 13 rfl) rfl (by decide) yq_tl_57 (by decide) hZ3 yq_ta_57 (n := 24) rfl ?_
    have hZ4 := yq_Zm hZ3 (show 57 ≤ 58 by decide)
    refine q_putR (z_dec zd_X4_init 14 rfl) zp_X4_21 (fun _ => rfl) (fun _ => ⟨rfl, rfl⟩) yq_tg_58_56 (n := 27) rfl ?_
    have hZ5 := yq_ZR hZ4 (show 56 < 58 by decide) 3 (some 57)
    exact p_vret (z_dec zd_X4_init 15 rfl) rfl ⟨rfl, rfl, rfl⟩
  exact hentry
set_option maxHeartbeats 2000000 in
set_option maxRecDepth 100000 in
theorem c_X4_init_56Z {I : Nat → Nat → Int32} {L : Nat → Nat → Int64} {R : Nat → Nat → Option Nat} (hZ : yq_Z 57 I L R) : yq_Z 58 (yq_IX4_init_56 I) L (yq_RX4_init_56 R) := by
  intro a ha j
  obtain ⟨h1, h2, h3⟩ := hZ a (by omega) j
  refine ⟨?_, h2, ?_⟩
  · unfold yq_IX4_init_56
    (repeat (first | exact h1 | rw [z_up_k _ _ (by omega)] | fail))
  · unfold yq_RX4_init_56
    (repeat (first | exact h3 | rw [z_up_k _ _ (by omega)] | fail))
def yq_IX4_init_58 (I : Nat → Nat → Int32) : Nat → Nat → Int32 := (z_up (z_up (z_up I 58 0 (-1)) 58 1 (-1)) 58 2 0)
def yq_RX4_init_58 (R : Nat → Nat → Option Nat) : Nat → Nat → Option Nat := (z_up R 58 3 (some 59))
set_option maxHeartbeats 8000000 in
set_option maxRecDepth 100000 in
theorem c_X4_init_58 (d : Nat) (hd : 1 ≤ d) (I : Nat → Nat → Int32) (L : Nat → Nat → Int64) (R : Nat → Nat → Option Nat) (hZ : yq_Z 59 I L R) : z_CT zm_X4_init d [.ref 58] (SN.take 59) (I, L, R) 1 60 (yq_ret 60 (yq_IX4_init_58 I, L, yq_RX4_init_58 R)) := by
  refine z_enter (by decide +kernel) (Nat.le_of_ble_eq_true rfl) ?_
  have hentry : PW zm_X4_init d 0 [(0, .ref 58)] [] (SN.take 59) (I, L, R) 1 60 (yq_ret 60 ((z_up (z_up (z_up I 58 0 (-1)) 58 1 (-1)) 58 2 0), L, (z_up R 58 3 (some 59)))) := by
    refine p_aload_n (z_dec zd_X4_init 0 rfl) rfl 0 rfl (n := 1) rfl ?_
    refine p_objI (z_dec zd_X4_init 1 rfl) zk_X4_3 (by omega) (by decide) (n := 4) rfl ?_
    refine p_aload_n (z_dec zd_X4_init 2 rfl) rfl 0 rfl (n := 5) rfl ?_
    refine p_iconst (z_dec zd_X4_init 3 rfl) (v := (-1)) (by decide) (n := 6) rfl ?_
    refine q_putI (z_dec zd_X4_init 4 rfl) zp_X4_9 (fun q => by cases q) yq_tg_59_58 (n := 9) rfl ?_
    have hZ1 := yq_ZI hZ (show 58 < 59 by decide) 0 (-1)
    refine p_aload_n (z_dec zd_X4_init 5 rfl) rfl 0 rfl (n := 10) rfl ?_
    refine p_iconst (z_dec zd_X4_init 6 rfl) (v := (-1)) (by decide) (n := 11) rfl ?_
    refine q_putI (z_dec zd_X4_init 7 rfl) zp_X4_15 (fun q => by cases q) yq_tg_59_58 (n := 14) rfl ?_
    have hZ2 := yq_ZI hZ1 (show 58 < 59 by decide) 1 (-1)
    refine p_aload_n (z_dec zd_X4_init 8 rfl) rfl 0 rfl (n := 15) rfl ?_
    refine p_iconst (z_dec zd_X4_init 9 rfl) (v := 0) (by decide) (n := 16) rfl ?_
    refine q_putI (z_dec zd_X4_init 10 rfl) zp_X4_18 (fun q => by cases q) yq_tg_59_58 (n := 19) rfl ?_
    have hZ3 := yq_ZI hZ2 (show 58 < 59 by decide) 2 0
    refine p_aload_n (z_dec zd_X4_init 11 rfl) rfl 0 rfl (n := 20) rfl ?_
    refine p_bipush (z_dec zd_X4_init 12 rfl) (v := 60) (by decide) (n := 22) rfl ?_
    refine q_newL (N := 60) (mc := 0) (ms := 0) 59 (z_dec zd_X4_init 13 rfl) rfl (by decide) yq_tl_59 (by decide) hZ3 yq_ta_59 (n := 24) rfl ?_
    have hZ4 := yq_Zm hZ3 (show 59 ≤ 60 by decide)
    refine q_putR (z_dec zd_X4_init 14 rfl) zp_X4_21 (fun _ => rfl) (fun _ => ⟨rfl, rfl⟩) yq_tg_60_58 (n := 27) rfl ?_
    have hZ5 := yq_ZR hZ4 (show 58 < 60 by decide) 3 (some 59)
    exact p_vret (z_dec zd_X4_init 15 rfl) rfl ⟨rfl, rfl, rfl⟩
  exact hentry
set_option maxHeartbeats 2000000 in
set_option maxRecDepth 100000 in
theorem c_X4_init_58Z {I : Nat → Nat → Int32} {L : Nat → Nat → Int64} {R : Nat → Nat → Option Nat} (hZ : yq_Z 59 I L R) : yq_Z 60 (yq_IX4_init_58 I) L (yq_RX4_init_58 R) := by
  intro a ha j
  obtain ⟨h1, h2, h3⟩ := hZ a (by omega) j
  refine ⟨?_, h2, ?_⟩
  · unfold yq_IX4_init_58
    (repeat (first | exact h1 | rw [z_up_k _ _ (by omega)] | fail))
  · unfold yq_RX4_init_58
    (repeat (first | exact h3 | rw [z_up_k _ _ (by omega)] | fail))
