theorem sq_l_3 : sp_l 3 = 4 := by decide +kernel
theorem sq_r_3 : sp_r 3 = none := by decide +kernel
theorem sq_p_3 : plainName (sp_y 3).cls = true := by decide +kernel
theorem sq_l_10 : sp_l 10 = 3 := by decide +kernel
theorem sq_r_10 : sp_r 10 = some .int := by decide +kernel
theorem sq_p_10 : plainName (sp_y 10).cls = true := by decide +kernel
theorem sq_c_10 : (sp_cl 7).1 = (sp_y 10).cls := by decide +kernel
theorem sq_l_11 : sp_l 11 = 2 := by decide +kernel
theorem sq_r_11 : sp_r 11 = some .boolean := by decide +kernel
theorem sq_p_11 : plainName (sp_y 11).cls = true := by decide +kernel
theorem sq_c_11 : (sp_cl 5).1 = (sp_y 11).cls := by decide +kernel
theorem sq_l_12 : sp_l 12 = 2 := by decide +kernel
theorem sq_r_12 : sp_r 12 = some .int := by decide +kernel
theorem sq_p_12 : plainName (sp_y 12).cls = true := by decide +kernel
theorem sq_c_12 : (sp_cl 7).1 = (sp_y 12).cls := by decide +kernel
theorem sq_l_13 : sp_l 13 = 4 := by decide +kernel
theorem sq_r_13 : sp_r 13 = none := by decide +kernel
theorem sq_p_13 : plainName (sp_y 13).cls = true := by decide +kernel
theorem sq_c_13 : (sp_cl 5).1 = (sp_y 13).cls := by decide +kernel
theorem sq_l_14 : sp_l 14 = 5 := by decide +kernel
theorem sq_r_14 : sp_r 14 = some .int := by decide +kernel
theorem sq_p_14 : plainName (sp_y 14).cls = true := by decide +kernel
theorem sq_c_14 : (sp_cl 7).1 = (sp_y 14).cls := by decide +kernel
theorem sq_l_15 : sp_l 15 = 3 := by decide +kernel
theorem sq_r_15 : sp_r 15 = some .int := by decide +kernel
theorem sq_p_15 : plainName (sp_y 15).cls = true := by decide +kernel
theorem sq_c_15 : (sp_cl 7).1 = (sp_y 15).cls := by decide +kernel
theorem sq_l_16 : sp_l 16 = 2 := by decide +kernel
theorem sq_r_16 : sp_r 16 = some .boolean := by decide +kernel
theorem sq_p_16 : plainName (sp_y 16).cls = true := by decide +kernel
theorem sq_c_16 : (sp_cl 5).1 = (sp_y 16).cls := by decide +kernel
theorem sq_l_17 : sp_l 17 = 4 := by decide +kernel
theorem sq_r_17 : sp_r 17 = some .boolean := by decide +kernel
theorem sq_p_17 : plainName (sp_y 17).cls = true := by decide +kernel
theorem sq_c_17 : (sp_cl 5).1 = (sp_y 17).cls := by decide +kernel
theorem sq_l_18 : sp_l 18 = 3 := by decide +kernel
theorem sq_r_18 : sp_r 18 = some .int := by decide +kernel
theorem sq_p_18 : plainName (sp_y 18).cls = true := by decide +kernel
theorem sq_c_18 : (sp_cl 5).1 = (sp_y 18).cls := by decide +kernel
theorem sq_l_19 : sp_l 19 = 4 := by decide +kernel
theorem sq_r_19 : sp_r 19 = none := by decide +kernel
theorem sq_p_19 : plainName (sp_y 19).cls = true := by decide +kernel
theorem sq_c_19 : (sp_cl 5).1 = (sp_y 19).cls := by decide +kernel
theorem sq_l_20 : sp_l 20 = 4 := by decide +kernel
theorem sq_r_20 : sp_r 20 = some .int := by decide +kernel
theorem sq_p_20 : plainName (sp_y 20).cls = true := by decide +kernel
theorem sq_c_20 : (sp_cl 7).1 = (sp_y 20).cls := by decide +kernel
theorem sq_l_21 : sp_l 21 = 2 := by decide +kernel
theorem sq_r_21 : sp_r 21 = some .int := by decide +kernel
theorem sq_p_21 : plainName (sp_y 21).cls = true := by decide +kernel
theorem sq_c_21 : (sp_cl 7).1 = (sp_y 21).cls := by decide +kernel
theorem sq_l_22 : sp_l 22 = 2 := by decide +kernel
theorem sq_r_22 : sp_r 22 = none := by decide +kernel
theorem sq_p_22 : plainName (sp_y 22).cls = true := by decide +kernel
theorem sq_c_22 : (sp_cl 5).1 = (sp_y 22).cls := by decide +kernel
theorem sq_l_23 : sp_l 23 = 6 := by decide +kernel
theorem sq_r_23 : sp_r 23 = some .int := by decide +kernel
theorem sq_p_23 : plainName (sp_y 23).cls = true := by decide +kernel
theorem sq_c_23 : (sp_cl 7).1 = (sp_y 23).cls := by decide +kernel
theorem sq_l_24 : sp_l 24 = 6 := by decide +kernel
theorem sq_r_24 : sp_r 24 = none := by decide +kernel
theorem sq_p_24 : plainName (sp_y 24).cls = true := by decide +kernel
theorem sq_c_24 : (sp_cl 5).1 = (sp_y 24).cls := by decide +kernel
theorem sq_l_25 : sp_l 25 = 6 := by decide +kernel
theorem sq_r_25 : sp_r 25 = some .int := by decide +kernel
theorem sq_p_25 : plainName (sp_y 25).cls = true := by decide +kernel
theorem sq_c_25 : (sp_cl 7).1 = (sp_y 25).cls := by decide +kernel
theorem sq_l_26 : sp_l 26 = 2 := by decide +kernel
theorem sq_r_26 : sp_r 26 = some .int := by decide +kernel
theorem sq_p_26 : plainName (sp_y 26).cls = true := by decide +kernel
theorem sq_c_26 : (sp_cl 5).1 = (sp_y 26).cls := by decide +kernel
theorem sq_l_27 : sp_l 27 = 3 := by decide +kernel
theorem sq_r_27 : sp_r 27 = some .int := by decide +kernel
theorem sq_p_27 : plainName (sp_y 27).cls = true := by decide +kernel
theorem sq_c_27 : (sp_cl 7).1 = (sp_y 27).cls := by decide +kernel
theorem sq_l_28 : sp_l 28 = 6 := by decide +kernel
theorem sq_r_28 : sp_r 28 = some .int := by decide +kernel
theorem sq_p_28 : plainName (sp_y 28).cls = true := by decide +kernel
theorem sq_c_28 : (sp_cl 7).1 = (sp_y 28).cls := by decide +kernel
theorem sq_l_29 : sp_l 29 = 2 := by decide +kernel
theorem sq_r_29 : sp_r 29 = some .int := by decide +kernel
theorem sq_p_29 : plainName (sp_y 29).cls = true := by decide +kernel
theorem sq_c_29 : (sp_cl 7).1 = (sp_y 29).cls := by decide +kernel
theorem sq_l_30 : sp_l 30 = 5 := by decide +kernel
theorem sq_r_30 : sp_r 30 = some .int := by decide +kernel
theorem sq_p_30 : plainName (sp_y 30).cls = true := by decide +kernel
theorem sq_c_30 : (sp_cl 1).1 = (sp_y 30).cls := by decide +kernel
theorem sq_l_31 : sp_l 31 = 1 := by decide +kernel
theorem sq_r_31 : sp_r 31 = none := by decide +kernel
theorem sq_p_31 : plainName (sp_y 31).cls = true := by decide +kernel
theorem sq_c_31 : (sp_cl 2).1 = (sp_y 31).cls := by decide +kernel
theorem sq_l_32 : sp_l 32 = 4 := by decide +kernel
theorem sq_r_32 : sp_r 32 = some .int := by decide +kernel
theorem sq_p_32 : plainName (sp_y 32).cls = true := by decide +kernel
theorem sq_c_32 : (sp_cl 1).1 = (sp_y 32).cls := by decide +kernel
theorem sq_l_33 : sp_l 33 = 4 := by decide +kernel
theorem sq_r_33 : sp_r 33 = some .int := by decide +kernel
theorem sq_p_33 : plainName (sp_y 33).cls = true := by decide +kernel
theorem sq_c_33 : (sp_cl 1).1 = (sp_y 33).cls := by decide +kernel
theorem sq_l_34 : sp_l 34 = 8 := by decide +kernel
theorem sq_r_34 : sp_r 34 = some .int := by decide +kernel
theorem sq_p_34 : plainName (sp_y 34).cls = true := by decide +kernel
theorem sq_c_34 : (sp_cl 1).1 = (sp_y 34).cls := by decide +kernel
theorem sq_l_35 : sp_l 35 = 9 := by decide +kernel
theorem sq_r_35 : sp_r 35 = some .int := by decide +kernel
theorem sq_p_35 : plainName (sp_y 35).cls = true := by decide +kernel
theorem sq_c_35 : (sp_cl 1).1 = (sp_y 35).cls := by decide +kernel
theorem sq_l_36 : sp_l 36 = 2 := by decide +kernel
theorem sq_r_36 : sp_r 36 = some .int := by decide +kernel
theorem sq_p_36 : plainName (sp_y 36).cls = true := by decide +kernel
theorem sq_c_36 : (sp_cl 1).1 = (sp_y 36).cls := by decide +kernel
theorem sq_l_37 : sp_l 37 = 3 := by decide +kernel
theorem sq_r_37 : sp_r 37 = some .int := by decide +kernel
theorem sq_p_37 : plainName (sp_y 37).cls = true := by decide +kernel
theorem sq_c_37 : (sp_cl 7).1 = (sp_y 37).cls := by decide +kernel
theorem sq_l_38 : sp_l 38 = 2 := by decide +kernel
theorem sq_r_38 : sp_r 38 = none := by decide +kernel
theorem sq_p_38 : plainName (sp_y 38).cls = true := by decide +kernel
theorem sq_c_38 : (sp_cl 0).1 = (sp_y 38).cls := by decide +kernel
theorem sq_l_39 : sp_l 39 = 2 := by decide +kernel
theorem sq_r_39 : sp_r 39 = none := by decide +kernel
theorem sq_p_39 : plainName (sp_y 39).cls = true := by decide +kernel
theorem sq_c_39 : (sp_cl 2).1 = (sp_y 39).cls := by decide +kernel
theorem sq_l_40 : sp_l 40 = 3 := by decide +kernel
theorem sq_r_40 : sp_r 40 = none := by decide +kernel
theorem sq_p_40 : plainName (sp_y 40).cls = true := by decide +kernel
theorem sq_c_40 : (sp_cl 6).1 = (sp_y 40).cls := by decide +kernel
theorem sq_l_41 : sp_l 41 = 3 := by decide +kernel
theorem sq_r_41 : sp_r 41 = none := by decide +kernel
theorem sq_p_41 : plainName (sp_y 41).cls = true := by decide +kernel
theorem sq_c_41 : (sp_cl 6).1 = (sp_y 41).cls := by decide +kernel
theorem sq_l_42 : sp_l 42 = 3 := by decide +kernel
theorem sq_r_42 : sp_r 42 = some .int := by decide +kernel
theorem sq_p_42 : plainName (sp_y 42).cls = true := by decide +kernel
theorem sq_c_42 : (sp_cl 7).1 = (sp_y 42).cls := by decide +kernel
theorem sq_l_43 : sp_l 43 = 2 := by decide +kernel
theorem sq_r_43 : sp_r 43 = some .boolean := by decide +kernel
theorem sq_p_43 : plainName (sp_y 43).cls = true := by decide +kernel
theorem sq_c_43 : (sp_cl 0).1 = (sp_y 43).cls := by decide +kernel
theorem sq_l_44 : sp_l 44 = 3 := by decide +kernel
theorem sq_r_44 : sp_r 44 = some .int := by decide +kernel
theorem sq_p_44 : plainName (sp_y 44).cls = true := by decide +kernel
theorem sq_c_44 : (sp_cl 7).1 = (sp_y 44).cls := by decide +kernel
theorem sq_l_45 : sp_l 45 = 3 := by decide +kernel
theorem sq_r_45 : sp_r 45 = some .boolean := by decide +kernel
theorem sq_p_45 : plainName (sp_y 45).cls = true := by decide +kernel
theorem sq_c_45 : (sp_cl 0).1 = (sp_y 45).cls := by decide +kernel
theorem sq_l_46 : sp_l 46 = 3 := by decide +kernel
theorem sq_r_46 : sp_r 46 = some .int := by decide +kernel
theorem sq_p_46 : plainName (sp_y 46).cls = true := by decide +kernel
theorem sq_c_46 : (sp_cl 7).1 = (sp_y 46).cls := by decide +kernel
theorem sq_l_47 : sp_l 47 = 3 := by decide +kernel
theorem sq_r_47 : sp_r 47 = some .boolean := by decide +kernel
theorem sq_p_47 : plainName (sp_y 47).cls = true := by decide +kernel
theorem sq_c_47 : (sp_cl 0).1 = (sp_y 47).cls := by decide +kernel
theorem sq_l_50 : sp_l 50 = 4 := by decide +kernel
theorem sq_r_50 : sp_r 50 = some .int := by decide +kernel
theorem sq_p_50 : plainName (sp_y 50).cls = true := by decide +kernel
theorem sq_c_50 : (sp_cl 0).1 = (sp_y 50).cls := by decide +kernel
theorem sq_l_51 : sp_l 51 = 1 := by decide +kernel
theorem sq_r_51 : sp_r 51 = some .int := by decide +kernel
theorem sq_p_51 : plainName (sp_y 51).cls = true := by decide +kernel
theorem sq_l_52 : sp_l 52 = 3 := by decide +kernel
theorem sq_r_52 : sp_r 52 = some .int := by decide +kernel
theorem sq_p_52 : plainName (sp_y 52).cls = true := by decide +kernel
theorem sq_c_52 : (sp_cl 7).1 = (sp_y 52).cls := by decide +kernel
theorem sq_l_53 : sp_l 53 = 2 := by decide +kernel
theorem sq_r_53 : sp_r 53 = some .int := by decide +kernel
theorem sq_p_53 : plainName (sp_y 53).cls = true := by decide +kernel
theorem sq_c_53 : (sp_cl 7).1 = (sp_y 53).cls := by decide +kernel
theorem sq_l_54 : sp_l 54 = 2 := by decide +kernel
theorem sq_r_54 : sp_r 54 = some .boolean := by decide +kernel
theorem sq_p_54 : plainName (sp_y 54).cls = true := by decide +kernel
theorem sq_c_54 : (sp_cl 6).1 = (sp_y 54).cls := by decide +kernel
theorem sq_l_55 : sp_l 55 = 3 := by decide +kernel
theorem sq_r_55 : sp_r 55 = none := by decide +kernel
theorem sq_p_55 : plainName (sp_y 55).cls = true := by decide +kernel
theorem sq_c_55 : (sp_cl 0).1 = (sp_y 55).cls := by decide +kernel
theorem sq_l_56 : sp_l 56 = 6 := by decide +kernel
theorem sq_r_56 : sp_r 56 = none := by decide +kernel
theorem sq_p_56 : plainName (sp_y 56).cls = true := by decide +kernel
theorem sq_c_56 : (sp_cl 2).1 = (sp_y 56).cls := by decide +kernel
theorem sq_l_57 : sp_l 57 = 1 := by decide +kernel
theorem sq_r_57 : sp_r 57 = none := by decide +kernel
theorem sq_p_57 : plainName (sp_y 57).cls = true := by decide +kernel
theorem sq_c_57 : (sp_cl 2).1 = (sp_y 57).cls := by decide +kernel
theorem sq_l_58 : sp_l 58 = 2 := by decide +kernel
theorem sq_r_58 : sp_r 58 = none := by decide +kernel
theorem sq_p_58 : plainName (sp_y 58).cls = true := by decide +kernel
theorem sq_c_58 : (sp_cl 6).1 = (sp_y 58).cls := by decide +kernel
theorem sq_l_59 : sp_l 59 = 3 := by decide +kernel
theorem sq_r_59 : sp_r 59 = some .int := by decide +kernel
theorem sq_p_59 : plainName (sp_y 59).cls = true := by decide +kernel
theorem sq_c_59 : (sp_cl 7).1 = (sp_y 59).cls := by decide +kernel
theorem sq_l_60 : sp_l 60 = 5 := by decide +kernel
theorem sq_r_60 : sp_r 60 = some .int := by decide +kernel
theorem sq_p_60 : plainName (sp_y 60).cls = true := by decide +kernel
theorem sq_c_60 : (sp_cl 2).1 = (sp_y 60).cls := by decide +kernel
theorem sq_l_61 : sp_l 61 = 3 := by decide +kernel
theorem sq_r_61 : sp_r 61 = some .int := by decide +kernel
theorem sq_p_61 : plainName (sp_y 61).cls = true := by decide +kernel
theorem sq_c_61 : (sp_cl 7).1 = (sp_y 61).cls := by decide +kernel
theorem sq_l_62 : sp_l 62 = 4 := by decide +kernel
theorem sq_r_62 : sp_r 62 = some .int := by decide +kernel
theorem sq_p_62 : plainName (sp_y 62).cls = true := by decide +kernel
theorem sq_c_62 : (sp_cl 2).1 = (sp_y 62).cls := by decide +kernel
theorem sq_l_63 : sp_l 63 = 4 := by decide +kernel
theorem sq_r_63 : sp_r 63 = some .int := by decide +kernel
theorem sq_p_63 : plainName (sp_y 63).cls = true := by decide +kernel
theorem sq_c_63 : (sp_cl 2).1 = (sp_y 63).cls := by decide +kernel
theorem sq_l_64 : sp_l 64 = 3 := by decide +kernel
theorem sq_r_64 : sp_r 64 = some .int := by decide +kernel
theorem sq_p_64 : plainName (sp_y 64).cls = true := by decide +kernel
theorem sq_c_64 : (sp_cl 7).1 = (sp_y 64).cls := by decide +kernel
theorem sq_l_65 : sp_l 65 = 4 := by decide +kernel
theorem sq_r_65 : sp_r 65 = some .int := by decide +kernel
theorem sq_p_65 : plainName (sp_y 65).cls = true := by decide +kernel
theorem sq_c_65 : (sp_cl 2).1 = (sp_y 65).cls := by decide +kernel
theorem sq_l_66 : sp_l 66 = 3 := by decide +kernel
theorem sq_r_66 : sp_r 66 = some .int := by decide +kernel
theorem sq_p_66 : plainName (sp_y 66).cls = true := by decide +kernel
theorem sq_c_66 : (sp_cl 7).1 = (sp_y 66).cls := by decide +kernel
theorem sq_l_67 : sp_l 67 = 3 := by decide +kernel
theorem sq_r_67 : sp_r 67 = none := by decide +kernel
theorem sq_p_67 : plainName (sp_y 67).cls = true := by decide +kernel
theorem sq_c_67 : (sp_cl 6).1 = (sp_y 67).cls := by decide +kernel
theorem sq_l_68 : sp_l 68 = 1 := by decide +kernel
theorem sq_r_68 : sp_r 68 = some .int := by decide +kernel
theorem sq_p_68 : plainName (sp_y 68).cls = true := by decide +kernel
theorem sq_c_68 : (sp_cl 7).1 = (sp_y 68).cls := by decide +kernel
theorem sq_l_69 : sp_l 69 = 2 := by decide +kernel
theorem sq_r_69 : sp_r 69 = some .int := by decide +kernel
theorem sq_p_69 : plainName (sp_y 69).cls = true := by decide +kernel
theorem sq_c_69 : (sp_cl 7).1 = (sp_y 69).cls := by decide +kernel
theorem sq_l_70 : sp_l 70 = 2 := by decide +kernel
theorem sq_r_70 : sp_r 70 = none := by decide +kernel
theorem sq_p_70 : plainName (sp_y 70).cls = true := by decide +kernel
theorem sq_c_70 : (sp_cl 6).1 = (sp_y 70).cls := by decide +kernel
theorem sq_l_71 : sp_l 71 = 2 := by decide +kernel
theorem sq_r_71 : sp_r 71 = some .int := by decide +kernel
theorem sq_p_71 : plainName (sp_y 71).cls = true := by decide +kernel
theorem sq_c_71 : (sp_cl 7).1 = (sp_y 71).cls := by decide +kernel
theorem sq_l_72 : sp_l 72 = 4 := by decide +kernel
theorem sq_r_72 : sp_r 72 = some .int := by decide +kernel
theorem sq_p_72 : plainName (sp_y 72).cls = true := by decide +kernel
theorem sq_c_72 : (sp_cl 7).1 = (sp_y 72).cls := by decide +kernel
theorem sq_l_73 : sp_l 73 = 4 := by decide +kernel
theorem sq_r_73 : sp_r 73 = some .int := by decide +kernel
theorem sq_p_73 : plainName (sp_y 73).cls = true := by decide +kernel
theorem sq_c_73 : (sp_cl 7).1 = (sp_y 73).cls := by decide +kernel
theorem sq_l_74 : sp_l 74 = 7 := by decide +kernel
theorem sq_r_74 : sp_r 74 = some .int := by decide +kernel
theorem sq_p_74 : plainName (sp_y 74).cls = true := by decide +kernel
theorem sq_c_74 : (sp_cl 0).1 = (sp_y 74).cls := by decide +kernel
theorem sq_l_75 : sp_l 75 = 3 := by decide +kernel
theorem sq_r_75 : sp_r 75 = some .int := by decide +kernel
theorem sq_p_75 : plainName (sp_y 75).cls = true := by decide +kernel
theorem sq_c_75 : (sp_cl 7).1 = (sp_y 75).cls := by decide +kernel
theorem sq_l_76 : sp_l 76 = 5 := by decide +kernel
theorem sq_r_76 : sp_r 76 = some .int := by decide +kernel
theorem sq_p_76 : plainName (sp_y 76).cls = true := by decide +kernel
theorem sq_c_76 : (sp_cl 7).1 = (sp_y 76).cls := by decide +kernel
theorem sq_l_77 : sp_l 77 = 6 := by decide +kernel
theorem sq_r_77 : sp_r 77 = some .int := by decide +kernel
theorem sq_p_77 : plainName (sp_y 77).cls = true := by decide +kernel
theorem sq_c_77 : (sp_cl 4).1 = (sp_y 77).cls := by decide +kernel
theorem sq_l_78 : sp_l 78 = 2 := by decide +kernel
theorem sq_r_78 : sp_r 78 = none := by decide +kernel
theorem sq_p_78 : plainName (sp_y 78).cls = true := by decide +kernel
theorem sq_c_78 : (sp_cl 4).1 = (sp_y 78).cls := by decide +kernel
theorem sq_l_79 : sp_l 79 = 9 := by decide +kernel
theorem sq_r_79 : sp_r 79 = some .boolean := by decide +kernel
theorem sq_p_79 : plainName (sp_y 79).cls = true := by decide +kernel
theorem sq_c_79 : (sp_cl 4).1 = (sp_y 79).cls := by decide +kernel
theorem sq_l_80 : sp_l 80 = 2 := by decide +kernel
theorem sq_r_80 : sp_r 80 = none := by decide +kernel
theorem sq_p_80 : plainName (sp_y 80).cls = true := by decide +kernel
theorem sq_c_80 : (sp_cl 4).1 = (sp_y 80).cls := by decide +kernel
theorem sq_l_81 : sp_l 81 = 4 := by decide +kernel
theorem sq_r_81 : sp_r 81 = none := by decide +kernel
theorem sq_p_81 : plainName (sp_y 81).cls = true := by decide +kernel
theorem sq_c_81 : (sp_cl 4).1 = (sp_y 81).cls := by decide +kernel
theorem sq_l_82 : sp_l 82 = 1 := by decide +kernel
theorem sq_r_82 : sp_r 82 = some .boolean := by decide +kernel
theorem sq_p_82 : plainName (sp_y 82).cls = true := by decide +kernel
theorem sq_c_82 : (sp_cl 4).1 = (sp_y 82).cls := by decide +kernel
theorem sq_l_83 : sp_l 83 = 5 := by decide +kernel
theorem sq_r_83 : sp_r 83 = some .int := by decide +kernel
theorem sq_p_83 : plainName (sp_y 83).cls = true := by decide +kernel
theorem sq_c_83 : (sp_cl 7).1 = (sp_y 83).cls := by decide +kernel
theorem sq_l_84 : sp_l 84 = 8 := by decide +kernel
theorem sq_r_84 : sp_r 84 = some .int := by decide +kernel
theorem sq_p_84 : plainName (sp_y 84).cls = true := by decide +kernel
theorem sq_c_84 : (sp_cl 7).1 = (sp_y 84).cls := by decide +kernel
theorem sq_l_85 : sp_l 85 = 3 := by decide +kernel
theorem sq_r_85 : sp_r 85 = some .int := by decide +kernel
theorem sq_p_85 : plainName (sp_y 85).cls = true := by decide +kernel
theorem sq_c_85 : (sp_cl 7).1 = (sp_y 85).cls := by decide +kernel
theorem sq_l_86 : sp_l 86 = 2 := by decide +kernel
theorem sq_r_86 : sp_r 86 = some .int := by decide +kernel
theorem sq_p_86 : plainName (sp_y 86).cls = true := by decide +kernel
theorem sq_c_86 : (sp_cl 4).1 = (sp_y 86).cls := by decide +kernel
theorem sq_l_87 : sp_l 87 = 4 := by decide +kernel
theorem sq_r_87 : sp_r 87 = none := by decide +kernel
theorem sq_p_87 : plainName (sp_y 87).cls = true := by decide +kernel
theorem sq_c_87 : (sp_cl 4).1 = (sp_y 87).cls := by decide +kernel
theorem sq_l_88 : sp_l 88 = 3 := by decide +kernel
theorem sq_r_88 : sp_r 88 = some .boolean := by decide +kernel
theorem sq_p_88 : plainName (sp_y 88).cls = true := by decide +kernel
theorem sq_c_88 : (sp_cl 4).1 = (sp_y 88).cls := by decide +kernel
theorem sq_l_89 : sp_l 89 = 4 := by decide +kernel
theorem sq_r_89 : sp_r 89 = some .int := by decide +kernel
theorem sq_p_89 : plainName (sp_y 89).cls = true := by decide +kernel
theorem sq_c_89 : (sp_cl 7).1 = (sp_y 89).cls := by decide +kernel
theorem sq_l_90 : sp_l 90 = 3 := by decide +kernel
theorem sq_r_90 : sp_r 90 = some .int := by decide +kernel
theorem sq_p_90 : plainName (sp_y 90).cls = true := by decide +kernel
theorem sq_c_90 : (sp_cl 4).1 = (sp_y 90).cls := by decide +kernel
theorem sq_l_91 : sp_l 91 = 3 := by decide +kernel
theorem sq_r_91 : sp_r 91 = some .int := by decide +kernel
theorem sq_p_91 : plainName (sp_y 91).cls = true := by decide +kernel
theorem sq_c_91 : (sp_cl 0).1 = (sp_y 91).cls := by decide +kernel
theorem sq_l_92 : sp_l 92 = 5 := by decide +kernel
theorem sq_r_92 : sp_r 92 = none := by decide +kernel
theorem sq_p_92 : plainName (sp_y 92).cls = true := by decide +kernel
theorem sq_c_92 : (sp_cl 4).1 = (sp_y 92).cls := by decide +kernel
theorem sq_l_93 : sp_l 93 = 3 := by decide +kernel
theorem sq_r_93 : sp_r 93 = some .int := by decide +kernel
theorem sq_p_93 : plainName (sp_y 93).cls = true := by decide +kernel
theorem sq_c_93 : (sp_cl 7).1 = (sp_y 93).cls := by decide +kernel
theorem sq_l_94 : sp_l 94 = 3 := by decide +kernel
theorem sq_r_94 : sp_r 94 = some .int := by decide +kernel
theorem sq_p_94 : plainName (sp_y 94).cls = true := by decide +kernel
theorem sq_c_94 : (sp_cl 4).1 = (sp_y 94).cls := by decide +kernel
theorem sq_l_95 : sp_l 95 = 1 := by decide +kernel
theorem sq_r_95 : sp_r 95 = none := by decide +kernel
theorem sq_p_95 : plainName (sp_y 95).cls = true := by decide +kernel
theorem sq_c_95 : (sp_cl 3).1 = (sp_y 95).cls := by decide +kernel
theorem sq_l_96 : sp_l 96 = 5 := by decide +kernel
theorem sq_r_96 : sp_r 96 = none := by decide +kernel
theorem sq_p_96 : plainName (sp_y 96).cls = true := by decide +kernel
theorem sq_l_97 : sp_l 97 = 5 := by decide +kernel
theorem sq_r_97 : sp_r 97 = some .int := by decide +kernel
theorem sq_p_97 : plainName (sp_y 97).cls = true := by decide +kernel
theorem sq_c_97 : (sp_cl 4).1 = (sp_y 97).cls := by decide +kernel
theorem sq_l_98 : sp_l 98 = 6 := by decide +kernel
theorem sq_r_98 : sp_r 98 = none := by decide +kernel
theorem sq_p_98 : plainName (sp_y 98).cls = true := by decide +kernel
theorem sq_c_98 : (sp_cl 3).1 = (sp_y 98).cls := by decide +kernel
theorem sq_l_99 : sp_l 99 = 1 := by decide +kernel
theorem sq_r_99 : sp_r 99 = some .int := by decide +kernel
theorem sq_p_99 : plainName (sp_y 99).cls = true := by decide +kernel
theorem sq_c_99 : (sp_cl 4).1 = (sp_y 99).cls := by decide +kernel
theorem sq_l_100 : sp_l 100 = 6 := by decide +kernel
theorem sq_r_100 : sp_r 100 = some .int := by decide +kernel
theorem sq_p_100 : plainName (sp_y 100).cls = true := by decide +kernel
theorem sq_c_100 : (sp_cl 7).1 = (sp_y 100).cls := by decide +kernel
theorem sq_l_101 : sp_l 101 = 5 := by decide +kernel
theorem sq_r_101 : sp_r 101 = some .int := by decide +kernel
theorem sq_p_101 : plainName (sp_y 101).cls = true := by decide +kernel
theorem sq_c_101 : (sp_cl 7).1 = (sp_y 101).cls := by decide +kernel
theorem sq_l_102 : sp_l 102 = 4 := by decide +kernel
theorem sq_r_102 : sp_r 102 = some .int := by decide +kernel
theorem sq_p_102 : plainName (sp_y 102).cls = true := by decide +kernel
theorem sq_c_102 : (sp_cl 4).1 = (sp_y 102).cls := by decide +kernel
theorem sq_l_103 : sp_l 103 = 6 := by decide +kernel
theorem sq_r_103 : sp_r 103 = some .int := by decide +kernel
theorem sq_p_103 : plainName (sp_y 103).cls = true := by decide +kernel
theorem sq_c_103 : (sp_cl 4).1 = (sp_y 103).cls := by decide +kernel
theorem sq_l_104 : sp_l 104 = 4 := by decide +kernel
theorem sq_r_104 : sp_r 104 = some .boolean := by decide +kernel
theorem sq_p_104 : plainName (sp_y 104).cls = true := by decide +kernel
theorem sq_c_104 : (sp_cl 2).1 = (sp_y 104).cls := by decide +kernel
theorem sq_l_105 : sp_l 105 = 3 := by decide +kernel
theorem sq_r_105 : sp_r 105 = some .int := by decide +kernel
theorem sq_p_105 : plainName (sp_y 105).cls = true := by decide +kernel
theorem sq_c_105 : (sp_cl 7).1 = (sp_y 105).cls := by decide +kernel
theorem sq_l_106 : sp_l 106 = 5 := by decide +kernel
theorem sq_r_106 : sp_r 106 = some .int := by decide +kernel
theorem sq_p_106 : plainName (sp_y 106).cls = true := by decide +kernel
theorem sq_c_106 : (sp_cl 7).1 = (sp_y 106).cls := by decide +kernel
theorem sq_l_107 : sp_l 107 = 5 := by decide +kernel
theorem sq_r_107 : sp_r 107 = some .int := by decide +kernel
theorem sq_p_107 : plainName (sp_y 107).cls = true := by decide +kernel
theorem sq_c_107 : (sp_cl 7).1 = (sp_y 107).cls := by decide +kernel
theorem sq_l_108 : sp_l 108 = 1 := by decide +kernel
theorem sq_r_108 : sp_r 108 = some .int := by decide +kernel
theorem sq_p_108 : plainName (sp_y 108).cls = true := by decide +kernel
theorem sq_c_108 : (sp_cl 0).1 = (sp_y 108).cls := by decide +kernel
theorem sq_l_109 : sp_l 109 = 2 := by decide +kernel
theorem sq_r_109 : sp_r 109 = some .int := by decide +kernel
theorem sq_p_109 : plainName (sp_y 109).cls = true := by decide +kernel
theorem sq_c_109 : (sp_cl 0).1 = (sp_y 109).cls := by decide +kernel
theorem sq_l_110 : sp_l 110 = 9 := by decide +kernel
theorem sq_r_110 : sp_r 110 = some .int := by decide +kernel
theorem sq_p_110 : plainName (sp_y 110).cls = true := by decide +kernel
theorem sq_c_110 : (sp_cl 7).1 = (sp_y 110).cls := by decide +kernel
theorem sq_l_111 : sp_l 111 = 7 := by decide +kernel
theorem sq_r_111 : sp_r 111 = some .int := by decide +kernel
theorem sq_p_111 : plainName (sp_y 111).cls = true := by decide +kernel
theorem sq_c_111 : (sp_cl 7).1 = (sp_y 111).cls := by decide +kernel
theorem sq_l_112 : sp_l 112 = 7 := by decide +kernel
theorem sq_r_112 : sp_r 112 = some .int := by decide +kernel
theorem sq_p_112 : plainName (sp_y 112).cls = true := by decide +kernel
theorem sq_c_112 : (sp_cl 7).1 = (sp_y 112).cls := by decide +kernel
theorem sq_l_113 : sp_l 113 = 11 := by decide +kernel
theorem sq_r_113 : sp_r 113 = some .long := by decide +kernel
theorem sq_p_113 : plainName (sp_y 113).cls = true := by decide +kernel
theorem sq_c_113 : (sp_cl 7).1 = (sp_y 113).cls := by decide +kernel
theorem sq_l_114 : sp_l 114 = 3 := by decide +kernel
theorem sq_r_114 : sp_r 114 = some .int := by decide +kernel
theorem sq_p_114 : plainName (sp_y 114).cls = true := by decide +kernel
theorem sq_c_114 : (sp_cl 7).1 = (sp_y 114).cls := by decide +kernel
theorem sq_l_115 : sp_l 115 = 4 := by decide +kernel
theorem sq_r_115 : sp_r 115 = some .long := by decide +kernel
theorem sq_p_115 : plainName (sp_y 115).cls = true := by decide +kernel
theorem sq_c_115 : (sp_cl 4).1 = (sp_y 115).cls := by decide +kernel
theorem sq_l_116 : sp_l 116 = 8 := by decide +kernel
theorem sq_r_116 : sp_r 116 = some .long := by decide +kernel
theorem sq_p_116 : plainName (sp_y 116).cls = true := by decide +kernel
theorem sq_c_116 : (sp_cl 4).1 = (sp_y 116).cls := by decide +kernel
theorem sq_l_117 : sp_l 117 = 4 := by decide +kernel
theorem sq_r_117 : sp_r 117 = some .long := by decide +kernel
theorem sq_p_117 : plainName (sp_y 117).cls = true := by decide +kernel
theorem sq_c_117 : (sp_cl 4).1 = (sp_y 117).cls := by decide +kernel
theorem sq_l_118 : sp_l 118 = 8 := by decide +kernel
theorem sq_r_118 : sp_r 118 = some .int := by decide +kernel
theorem sq_p_118 : plainName (sp_y 118).cls = true := by decide +kernel
theorem sq_c_118 : (sp_cl 7).1 = (sp_y 118).cls := by decide +kernel
theorem sq_l_119 : sp_l 119 = 4 := by decide +kernel
theorem sq_r_119 : sp_r 119 = some .int := by decide +kernel
theorem sq_p_119 : plainName (sp_y 119).cls = true := by decide +kernel
theorem sq_c_119 : (sp_cl 7).1 = (sp_y 119).cls := by decide +kernel
theorem sq_l_120 : sp_l 120 = 1 := by decide +kernel
theorem sq_r_120 : sp_r 120 = some .int := by decide +kernel
theorem sq_p_120 : plainName (sp_y 120).cls = true := by decide +kernel
theorem sq_c_120 : (sp_cl 7).1 = (sp_y 120).cls := by decide +kernel
theorem sq_l_121 : sp_l 121 = 1 := by decide +kernel
theorem sq_r_121 : sp_r 121 = some .long := by decide +kernel
theorem sq_p_121 : plainName (sp_y 121).cls = true := by decide +kernel
theorem sq_c_121 : (sp_cl 7).1 = (sp_y 121).cls := by decide +kernel
theorem sq_l_122 : sp_l 122 = 1 := by decide +kernel
theorem sq_r_122 : sp_r 122 = some .long := by decide +kernel
theorem sq_p_122 : plainName (sp_y 122).cls = true := by decide +kernel
theorem sq_c_122 : (sp_cl 7).1 = (sp_y 122).cls := by decide +kernel
theorem sq_l_123 : sp_l 123 = 2 := by decide +kernel
theorem sq_r_123 : sp_r 123 = some .int := by decide +kernel
theorem sq_p_123 : plainName (sp_y 123).cls = true := by decide +kernel
theorem sq_c_123 : (sp_cl 7).1 = (sp_y 123).cls := by decide +kernel
theorem sq_l_124 : sp_l 124 = 2 := by decide +kernel
theorem sq_r_124 : sp_r 124 = some .int := by decide +kernel
theorem sq_p_124 : plainName (sp_y 124).cls = true := by decide +kernel
theorem sq_c_124 : (sp_cl 7).1 = (sp_y 124).cls := by decide +kernel
theorem sq_l_125 : sp_l 125 = 4 := by decide +kernel
theorem sq_r_125 : sp_r 125 = some .int := by decide +kernel
theorem sq_p_125 : plainName (sp_y 125).cls = true := by decide +kernel
theorem sq_c_125 : (sp_cl 0).1 = (sp_y 125).cls := by decide +kernel
theorem sq_l_126 : sp_l 126 = 3 := by decide +kernel
theorem sq_r_126 : sp_r 126 = some .int := by decide +kernel
theorem sq_p_126 : plainName (sp_y 126).cls = true := by decide +kernel
theorem sq_c_126 : (sp_cl 5).1 = (sp_y 126).cls := by decide +kernel
theorem sq_l_127 : sp_l 127 = 3 := by decide +kernel
theorem sq_r_127 : sp_r 127 = some .int := by decide +kernel
theorem sq_p_127 : plainName (sp_y 127).cls = true := by decide +kernel
theorem sq_c_127 : (sp_cl 7).1 = (sp_y 127).cls := by decide +kernel
theorem sq_l_128 : sp_l 128 = 1 := by decide +kernel
theorem sq_r_128 : sp_r 128 = some .int := by decide +kernel
theorem sq_p_128 : plainName (sp_y 128).cls = true := by decide +kernel
theorem sq_c_128 : (sp_cl 7).1 = (sp_y 128).cls := by decide +kernel
theorem sq_l_129 : sp_l 129 = 2 := by decide +kernel
theorem sq_r_129 : sp_r 129 = some .int := by decide +kernel
theorem sq_p_129 : plainName (sp_y 129).cls = true := by decide +kernel
theorem sq_c_129 : (sp_cl 7).1 = (sp_y 129).cls := by decide +kernel
theorem sq_l_130 : sp_l 130 = 5 := by decide +kernel
theorem sq_r_130 : sp_r 130 = some .long := by decide +kernel
theorem sq_p_130 : plainName (sp_y 130).cls = true := by decide +kernel
theorem sq_c_130 : (sp_cl 7).1 = (sp_y 130).cls := by decide +kernel
theorem sq_l_131 : sp_l 131 = 7 := by decide +kernel
theorem sq_r_131 : sp_r 131 = some .long := by decide +kernel
theorem sq_p_131 : plainName (sp_y 131).cls = true := by decide +kernel
theorem sq_c_131 : (sp_cl 5).1 = (sp_y 131).cls := by decide +kernel
theorem sq_l_133 : sp_l 133 = 1 := by decide +kernel
theorem sq_r_133 : sp_r 133 = some .int := by decide +kernel
theorem sq_p_133 : plainName (sp_y 133).cls = true := by decide +kernel
theorem sq_c_133 : (sp_cl 8).1 = (sp_y 133).cls := by decide +kernel
theorem sq_l_134 : sp_l 134 = 2 := by decide +kernel
theorem sq_r_134 : sp_r 134 = some .int := by decide +kernel
theorem sq_p_134 : plainName (sp_y 134).cls = true := by decide +kernel
theorem sq_c_134 : (sp_cl 8).1 = (sp_y 134).cls := by decide +kernel
theorem sq_l_135 : sp_l 135 = 3 := by decide +kernel
theorem sq_r_135 : sp_r 135 = some .boolean := by decide +kernel
theorem sq_p_135 : plainName (sp_y 135).cls = true := by decide +kernel
theorem sq_c_135 : (sp_cl 8).1 = (sp_y 135).cls := by decide +kernel
theorem sq_l_136 : sp_l 136 = 1 := by decide +kernel
theorem sq_r_136 : sp_r 136 = some .int := by decide +kernel
theorem sq_p_136 : plainName (sp_y 136).cls = true := by decide +kernel
theorem sq_c_136 : (sp_cl 8).1 = (sp_y 136).cls := by decide +kernel
theorem sq_l_137 : sp_l 137 = 1 := by decide +kernel
theorem sq_r_137 : sp_r 137 = some .long := by decide +kernel
theorem sq_p_137 : plainName (sp_y 137).cls = true := by decide +kernel
theorem sq_c_137 : (sp_cl 8).1 = (sp_y 137).cls := by decide +kernel
theorem sq_l_138 : sp_l 138 = 1 := by decide +kernel
theorem sq_r_138 : sp_r 138 = some .long := by decide +kernel
theorem sq_p_138 : plainName (sp_y 138).cls = true := by decide +kernel
theorem sq_c_138 : (sp_cl 8).1 = (sp_y 138).cls := by decide +kernel
theorem sq_l_139 : sp_l 139 = 4 := by decide +kernel
theorem sq_r_139 : sp_r 139 = some .int := by decide +kernel
theorem sq_p_139 : plainName (sp_y 139).cls = true := by decide +kernel
theorem sq_c_139 : (sp_cl 8).1 = (sp_y 139).cls := by decide +kernel
theorem sq_l_140 : sp_l 140 = 1 := by decide +kernel
theorem sq_r_140 : sp_r 140 = some .boolean := by decide +kernel
theorem sq_p_140 : plainName (sp_y 140).cls = true := by decide +kernel
theorem sq_c_140 : (sp_cl 8).1 = (sp_y 140).cls := by decide +kernel
theorem sq_l_141 : sp_l 141 = 2 := by decide +kernel
theorem sq_r_141 : sp_r 141 = some .int := by decide +kernel
theorem sq_p_141 : plainName (sp_y 141).cls = true := by decide +kernel
theorem sq_c_141 : (sp_cl 8).1 = (sp_y 141).cls := by decide +kernel
theorem sq_l_142 : sp_l 142 = 5 := by decide +kernel
theorem sq_r_142 : sp_r 142 = some .int := by decide +kernel
theorem sq_p_142 : plainName (sp_y 142).cls = true := by decide +kernel
theorem sq_c_142 : (sp_cl 8).1 = (sp_y 142).cls := by decide +kernel
theorem sq_l_143 : sp_l 143 = 3 := by decide +kernel
theorem sq_r_143 : sp_r 143 = some .int := by decide +kernel
theorem sq_p_143 : plainName (sp_y 143).cls = true := by decide +kernel
theorem sq_c_143 : (sp_cl 8).1 = (sp_y 143).cls := by decide +kernel
theorem sq_l_144 : sp_l 144 = 3 := by decide +kernel
theorem sq_r_144 : sp_r 144 = some .int := by decide +kernel
theorem sq_p_144 : plainName (sp_y 144).cls = true := by decide +kernel
theorem sq_c_144 : (sp_cl 8).1 = (sp_y 144).cls := by decide +kernel
theorem sq_l_145 : sp_l 145 = 3 := by decide +kernel
theorem sq_r_145 : sp_r 145 = some .int := by decide +kernel
theorem sq_p_145 : plainName (sp_y 145).cls = true := by decide +kernel
theorem sq_c_145 : (sp_cl 8).1 = (sp_y 145).cls := by decide +kernel
theorem sq_l_146 : sp_l 146 = 2 := by decide +kernel
theorem sq_r_146 : sp_r 146 = some .int := by decide +kernel
theorem sq_p_146 : plainName (sp_y 146).cls = true := by decide +kernel
theorem sq_c_146 : (sp_cl 8).1 = (sp_y 146).cls := by decide +kernel
theorem sq_l_147 : sp_l 147 = 7 := by decide +kernel
theorem sq_r_147 : sp_r 147 = some .int := by decide +kernel
theorem sq_p_147 : plainName (sp_y 147).cls = true := by decide +kernel
theorem sq_c_147 : (sp_cl 8).1 = (sp_y 147).cls := by decide +kernel
theorem sq_l_148 : sp_l 148 = 5 := by decide +kernel
theorem sq_r_148 : sp_r 148 = some .int := by decide +kernel
theorem sq_p_148 : plainName (sp_y 148).cls = true := by decide +kernel
theorem sq_c_148 : (sp_cl 8).1 = (sp_y 148).cls := by decide +kernel
theorem sq_l_149 : sp_l 149 = 4 := by decide +kernel
theorem sq_r_149 : sp_r 149 = some .int := by decide +kernel
theorem sq_p_149 : plainName (sp_y 149).cls = true := by decide +kernel
theorem sq_c_149 : (sp_cl 8).1 = (sp_y 149).cls := by decide +kernel
theorem sq_l_150 : sp_l 150 = 1 := by decide +kernel
theorem sq_r_150 : sp_r 150 = some .boolean := by decide +kernel
theorem sq_p_150 : plainName (sp_y 150).cls = true := by decide +kernel
theorem sq_c_150 : (sp_cl 8).1 = (sp_y 150).cls := by decide +kernel
theorem sq_l_151 : sp_l 151 = 5 := by decide +kernel
theorem sq_r_151 : sp_r 151 = some .int := by decide +kernel
theorem sq_p_151 : plainName (sp_y 151).cls = true := by decide +kernel
theorem sq_c_151 : (sp_cl 8).1 = (sp_y 151).cls := by decide +kernel
theorem sq_l_152 : sp_l 152 = 2 := by decide +kernel
theorem sq_r_152 : sp_r 152 = some .int := by decide +kernel
theorem sq_p_152 : plainName (sp_y 152).cls = true := by decide +kernel
theorem sq_c_152 : (sp_cl 8).1 = (sp_y 152).cls := by decide +kernel
theorem sq_l_153 : sp_l 153 = 2 := by decide +kernel
theorem sq_r_153 : sp_r 153 = some .int := by decide +kernel
theorem sq_p_153 : plainName (sp_y 153).cls = true := by decide +kernel
theorem sq_c_153 : (sp_cl 8).1 = (sp_y 153).cls := by decide +kernel
theorem sq_l_154 : sp_l 154 = 3 := by decide +kernel
theorem sq_r_154 : sp_r 154 = some .int := by decide +kernel
theorem sq_p_154 : plainName (sp_y 154).cls = true := by decide +kernel
theorem sq_c_154 : (sp_cl 8).1 = (sp_y 154).cls := by decide +kernel
theorem sq_l_155 : sp_l 155 = 3 := by decide +kernel
theorem sq_r_155 : sp_r 155 = some .boolean := by decide +kernel
theorem sq_p_155 : plainName (sp_y 155).cls = true := by decide +kernel
theorem sq_c_155 : (sp_cl 8).1 = (sp_y 155).cls := by decide +kernel
theorem sq_l_156 : sp_l 156 = 4 := by decide +kernel
theorem sq_r_156 : sp_r 156 = some .boolean := by decide +kernel
theorem sq_p_156 : plainName (sp_y 156).cls = true := by decide +kernel
theorem sq_c_156 : (sp_cl 8).1 = (sp_y 156).cls := by decide +kernel
theorem sq_l_157 : sp_l 157 = 5 := by decide +kernel
theorem sq_r_157 : sp_r 157 = some .boolean := by decide +kernel
theorem sq_p_157 : plainName (sp_y 157).cls = true := by decide +kernel
theorem sq_c_157 : (sp_cl 8).1 = (sp_y 157).cls := by decide +kernel
theorem sq_l_158 : sp_l 158 = 1 := by decide +kernel
theorem sq_r_158 : sp_r 158 = some .int := by decide +kernel
theorem sq_p_158 : plainName (sp_y 158).cls = true := by decide +kernel
theorem sq_c_158 : (sp_cl 8).1 = (sp_y 158).cls := by decide +kernel
theorem sq_l_159 : sp_l 159 = 3 := by decide +kernel
theorem sq_r_159 : sp_r 159 = some .int := by decide +kernel
theorem sq_p_159 : plainName (sp_y 159).cls = true := by decide +kernel
theorem sq_c_159 : (sp_cl 8).1 = (sp_y 159).cls := by decide +kernel
theorem sq_l_160 : sp_l 160 = 4 := by decide +kernel
theorem sq_r_160 : sp_r 160 = none := by decide +kernel
theorem sq_p_160 : plainName (sp_y 160).cls = true := by decide +kernel
theorem sq_c_160 : (sp_cl 8).1 = (sp_y 160).cls := by decide +kernel
theorem sq_l_161 : sp_l 161 = 3 := by decide +kernel
theorem sq_r_161 : sp_r 161 = some .int := by decide +kernel
theorem sq_p_161 : plainName (sp_y 161).cls = true := by decide +kernel
theorem sq_c_161 : (sp_cl 8).1 = (sp_y 161).cls := by decide +kernel
theorem sq_l_162 : sp_l 162 = 2 := by decide +kernel
theorem sq_r_162 : sp_r 162 = some .boolean := by decide +kernel
theorem sq_p_162 : plainName (sp_y 162).cls = true := by decide +kernel
theorem sq_c_162 : (sp_cl 8).1 = (sp_y 162).cls := by decide +kernel
theorem sq_l_163 : sp_l 163 = 3 := by decide +kernel
theorem sq_r_163 : sp_r 163 = some .int := by decide +kernel
theorem sq_p_163 : plainName (sp_y 163).cls = true := by decide +kernel
theorem sq_c_163 : (sp_cl 8).1 = (sp_y 163).cls := by decide +kernel
theorem sq_l_164 : sp_l 164 = 3 := by decide +kernel
theorem sq_r_164 : sp_r 164 = some .int := by decide +kernel
theorem sq_p_164 : plainName (sp_y 164).cls = true := by decide +kernel
theorem sq_c_164 : (sp_cl 8).1 = (sp_y 164).cls := by decide +kernel
theorem sq_l_165 : sp_l 165 = 4 := by decide +kernel
theorem sq_r_165 : sp_r 165 = some .boolean := by decide +kernel
theorem sq_p_165 : plainName (sp_y 165).cls = true := by decide +kernel
theorem sq_c_165 : (sp_cl 8).1 = (sp_y 165).cls := by decide +kernel
theorem sq_l_166 : sp_l 166 = 4 := by decide +kernel
theorem sq_r_166 : sp_r 166 = some .int := by decide +kernel
theorem sq_p_166 : plainName (sp_y 166).cls = true := by decide +kernel
theorem sq_c_166 : (sp_cl 8).1 = (sp_y 166).cls := by decide +kernel
theorem sq_l_167 : sp_l 167 = 2 := by decide +kernel
theorem sq_r_167 : sp_r 167 = some .int := by decide +kernel
theorem sq_p_167 : plainName (sp_y 167).cls = true := by decide +kernel
theorem sq_c_167 : (sp_cl 8).1 = (sp_y 167).cls := by decide +kernel
theorem sq_l_168 : sp_l 168 = 2 := by decide +kernel
theorem sq_r_168 : sp_r 168 = some .int := by decide +kernel
theorem sq_p_168 : plainName (sp_y 168).cls = true := by decide +kernel
theorem sq_c_168 : (sp_cl 8).1 = (sp_y 168).cls := by decide +kernel
theorem sq_l_169 : sp_l 169 = 2 := by decide +kernel
theorem sq_r_169 : sp_r 169 = some .int := by decide +kernel
theorem sq_p_169 : plainName (sp_y 169).cls = true := by decide +kernel
theorem sq_c_169 : (sp_cl 8).1 = (sp_y 169).cls := by decide +kernel
theorem sq_l_170 : sp_l 170 = 4 := by decide +kernel
theorem sq_r_170 : sp_r 170 = some .int := by decide +kernel
theorem sq_p_170 : plainName (sp_y 170).cls = true := by decide +kernel
theorem sq_c_170 : (sp_cl 8).1 = (sp_y 170).cls := by decide +kernel
theorem sq_l_171 : sp_l 171 = 3 := by decide +kernel
theorem sq_r_171 : sp_r 171 = some .int := by decide +kernel
theorem sq_p_171 : plainName (sp_y 171).cls = true := by decide +kernel
theorem sq_c_171 : (sp_cl 8).1 = (sp_y 171).cls := by decide +kernel
theorem sq_l_172 : sp_l 172 = 3 := by decide +kernel
theorem sq_r_172 : sp_r 172 = some .int := by decide +kernel
theorem sq_p_172 : plainName (sp_y 172).cls = true := by decide +kernel
theorem sq_c_172 : (sp_cl 8).1 = (sp_y 172).cls := by decide +kernel
theorem sq_l_173 : sp_l 173 = 2 := by decide +kernel
theorem sq_r_173 : sp_r 173 = some .int := by decide +kernel
theorem sq_p_173 : plainName (sp_y 173).cls = true := by decide +kernel
theorem sq_c_173 : (sp_cl 8).1 = (sp_y 173).cls := by decide +kernel
theorem sq_l_174 : sp_l 174 = 2 := by decide +kernel
theorem sq_r_174 : sp_r 174 = none := by decide +kernel
theorem sq_p_174 : plainName (sp_y 174).cls = true := by decide +kernel
theorem sq_c_174 : (sp_cl 8).1 = (sp_y 174).cls := by decide +kernel
theorem sq_l_175 : sp_l 175 = 3 := by decide +kernel
theorem sq_r_175 : sp_r 175 = none := by decide +kernel
theorem sq_p_175 : plainName (sp_y 175).cls = true := by decide +kernel
theorem sq_c_175 : (sp_cl 8).1 = (sp_y 175).cls := by decide +kernel
theorem sq_l_176 : sp_l 176 = 2 := by decide +kernel
theorem sq_r_176 : sp_r 176 = some .int := by decide +kernel
theorem sq_p_176 : plainName (sp_y 176).cls = true := by decide +kernel
theorem sq_c_176 : (sp_cl 8).1 = (sp_y 176).cls := by decide +kernel
theorem sq_l_177 : sp_l 177 = 6 := by decide +kernel
theorem sq_r_177 : sp_r 177 = some .int := by decide +kernel
theorem sq_p_177 : plainName (sp_y 177).cls = true := by decide +kernel
theorem sq_c_177 : (sp_cl 8).1 = (sp_y 177).cls := by decide +kernel
theorem sq_l_178 : sp_l 178 = 4 := by decide +kernel
theorem sq_r_178 : sp_r 178 = none := by decide +kernel
theorem sq_p_178 : plainName (sp_y 178).cls = true := by decide +kernel
theorem sq_c_178 : (sp_cl 8).1 = (sp_y 178).cls := by decide +kernel
theorem sq_l_179 : sp_l 179 = 3 := by decide +kernel
theorem sq_r_179 : sp_r 179 = some .int := by decide +kernel
theorem sq_p_179 : plainName (sp_y 179).cls = true := by decide +kernel
theorem sq_c_179 : (sp_cl 8).1 = (sp_y 179).cls := by decide +kernel
theorem sq_l_180 : sp_l 180 = 1 := by decide +kernel
theorem sq_r_180 : sp_r 180 = some .int := by decide +kernel
theorem sq_p_180 : plainName (sp_y 180).cls = true := by decide +kernel
theorem sq_c_180 : (sp_cl 8).1 = (sp_y 180).cls := by decide +kernel
theorem sq_l_181 : sp_l 181 = 5 := by decide +kernel
theorem sq_r_181 : sp_r 181 = some .int := by decide +kernel
theorem sq_p_181 : plainName (sp_y 181).cls = true := by decide +kernel
theorem sq_c_181 : (sp_cl 8).1 = (sp_y 181).cls := by decide +kernel
theorem sq_l_182 : sp_l 182 = 3 := by decide +kernel
theorem sq_r_182 : sp_r 182 = some .int := by decide +kernel
theorem sq_p_182 : plainName (sp_y 182).cls = true := by decide +kernel
theorem sq_c_182 : (sp_cl 8).1 = (sp_y 182).cls := by decide +kernel
theorem sq_l_183 : sp_l 183 = 8 := by decide +kernel
theorem sq_r_183 : sp_r 183 = some .int := by decide +kernel
theorem sq_p_183 : plainName (sp_y 183).cls = true := by decide +kernel
theorem sq_c_183 : (sp_cl 8).1 = (sp_y 183).cls := by decide +kernel
theorem sq_l_184 : sp_l 184 = 2 := by decide +kernel
theorem sq_r_184 : sp_r 184 = some .int := by decide +kernel
theorem sq_p_184 : plainName (sp_y 184).cls = true := by decide +kernel
theorem sq_c_184 : (sp_cl 8).1 = (sp_y 184).cls := by decide +kernel
theorem sq_l_185 : sp_l 185 = 4 := by decide +kernel
theorem sq_r_185 : sp_r 185 = some .int := by decide +kernel
theorem sq_p_185 : plainName (sp_y 185).cls = true := by decide +kernel
theorem sq_c_185 : (sp_cl 8).1 = (sp_y 185).cls := by decide +kernel
theorem sq_l_186 : sp_l 186 = 1 := by decide +kernel
theorem sq_r_186 : sp_r 186 = some .int := by decide +kernel
theorem sq_p_186 : plainName (sp_y 186).cls = true := by decide +kernel
theorem sq_c_186 : (sp_cl 8).1 = (sp_y 186).cls := by decide +kernel
theorem sq_l_187 : sp_l 187 = 3 := by decide +kernel
theorem sq_r_187 : sp_r 187 = some .int := by decide +kernel
theorem sq_p_187 : plainName (sp_y 187).cls = true := by decide +kernel
theorem sq_c_187 : (sp_cl 8).1 = (sp_y 187).cls := by decide +kernel
theorem sq_l_188 : sp_l 188 = 3 := by decide +kernel
theorem sq_r_188 : sp_r 188 = some .int := by decide +kernel
theorem sq_p_188 : plainName (sp_y 188).cls = true := by decide +kernel
theorem sq_c_188 : (sp_cl 8).1 = (sp_y 188).cls := by decide +kernel
theorem sq_l_189 : sp_l 189 = 4 := by decide +kernel
theorem sq_r_189 : sp_r 189 = some .int := by decide +kernel
theorem sq_p_189 : plainName (sp_y 189).cls = true := by decide +kernel
theorem sq_c_189 : (sp_cl 8).1 = (sp_y 189).cls := by decide +kernel
theorem sq_l_190 : sp_l 190 = 2 := by decide +kernel
theorem sq_r_190 : sp_r 190 = some .int := by decide +kernel
theorem sq_p_190 : plainName (sp_y 190).cls = true := by decide +kernel
theorem sq_c_190 : (sp_cl 8).1 = (sp_y 190).cls := by decide +kernel
theorem sq_l_191 : sp_l 191 = 4 := by decide +kernel
theorem sq_r_191 : sp_r 191 = some .int := by decide +kernel
theorem sq_p_191 : plainName (sp_y 191).cls = true := by decide +kernel
theorem sq_c_191 : (sp_cl 8).1 = (sp_y 191).cls := by decide +kernel
theorem sq_l_192 : sp_l 192 = 4 := by decide +kernel
theorem sq_r_192 : sp_r 192 = none := by decide +kernel
theorem sq_p_192 : plainName (sp_y 192).cls = true := by decide +kernel
theorem sq_c_192 : (sp_cl 8).1 = (sp_y 192).cls := by decide +kernel
theorem sq_l_193 : sp_l 193 = 4 := by decide +kernel
theorem sq_r_193 : sp_r 193 = some .int := by decide +kernel
theorem sq_p_193 : plainName (sp_y 193).cls = true := by decide +kernel
theorem sq_c_193 : (sp_cl 8).1 = (sp_y 193).cls := by decide +kernel
theorem sq_l_194 : sp_l 194 = 3 := by decide +kernel
theorem sq_r_194 : sp_r 194 = some .int := by decide +kernel
theorem sq_p_194 : plainName (sp_y 194).cls = true := by decide +kernel
theorem sq_c_194 : (sp_cl 8).1 = (sp_y 194).cls := by decide +kernel
theorem sq_l_195 : sp_l 195 = 5 := by decide +kernel
theorem sq_r_195 : sp_r 195 = some .int := by decide +kernel
theorem sq_p_195 : plainName (sp_y 195).cls = true := by decide +kernel
theorem sq_c_195 : (sp_cl 8).1 = (sp_y 195).cls := by decide +kernel
theorem sq_l_196 : sp_l 196 = 5 := by decide +kernel
theorem sq_r_196 : sp_r 196 = some .boolean := by decide +kernel
theorem sq_p_196 : plainName (sp_y 196).cls = true := by decide +kernel
theorem sq_c_196 : (sp_cl 8).1 = (sp_y 196).cls := by decide +kernel
theorem sq_l_197 : sp_l 197 = 5 := by decide +kernel
theorem sq_r_197 : sp_r 197 = none := by decide +kernel
theorem sq_p_197 : plainName (sp_y 197).cls = true := by decide +kernel
theorem sq_c_197 : (sp_cl 8).1 = (sp_y 197).cls := by decide +kernel
theorem sq_l_198 : sp_l 198 = 5 := by decide +kernel
theorem sq_r_198 : sp_r 198 = some .int := by decide +kernel
theorem sq_p_198 : plainName (sp_y 198).cls = true := by decide +kernel
theorem sq_c_198 : (sp_cl 8).1 = (sp_y 198).cls := by decide +kernel
theorem sq_l_199 : sp_l 199 = 5 := by decide +kernel
theorem sq_r_199 : sp_r 199 = some .int := by decide +kernel
theorem sq_p_199 : plainName (sp_y 199).cls = true := by decide +kernel
theorem sq_c_199 : (sp_cl 8).1 = (sp_y 199).cls := by decide +kernel
theorem sq_l_200 : sp_l 200 = 2 := by decide +kernel
theorem sq_r_200 : sp_r 200 = some .int := by decide +kernel
theorem sq_p_200 : plainName (sp_y 200).cls = true := by decide +kernel
theorem sq_c_200 : (sp_cl 8).1 = (sp_y 200).cls := by decide +kernel
theorem sq_l_201 : sp_l 201 = 4 := by decide +kernel
theorem sq_r_201 : sp_r 201 = none := by decide +kernel
theorem sq_p_201 : plainName (sp_y 201).cls = true := by decide +kernel
theorem sq_c_201 : (sp_cl 8).1 = (sp_y 201).cls := by decide +kernel
theorem sq_l_202 : sp_l 202 = 3 := by decide +kernel
theorem sq_r_202 : sp_r 202 = none := by decide +kernel
theorem sq_p_202 : plainName (sp_y 202).cls = true := by decide +kernel
theorem sq_c_202 : (sp_cl 8).1 = (sp_y 202).cls := by decide +kernel
theorem sq_l_203 : sp_l 203 = 2 := by decide +kernel
theorem sq_r_203 : sp_r 203 = some .boolean := by decide +kernel
theorem sq_p_203 : plainName (sp_y 203).cls = true := by decide +kernel
theorem sq_c_203 : (sp_cl 8).1 = (sp_y 203).cls := by decide +kernel
theorem sq_l_204 : sp_l 204 = 3 := by decide +kernel
theorem sq_r_204 : sp_r 204 = some .int := by decide +kernel
theorem sq_p_204 : plainName (sp_y 204).cls = true := by decide +kernel
theorem sq_c_204 : (sp_cl 8).1 = (sp_y 204).cls := by decide +kernel
theorem sq_l_205 : sp_l 205 = 4 := by decide +kernel
theorem sq_r_205 : sp_r 205 = none := by decide +kernel
theorem sq_p_205 : plainName (sp_y 205).cls = true := by decide +kernel
theorem sq_c_205 : (sp_cl 8).1 = (sp_y 205).cls := by decide +kernel
theorem sq_l_206 : sp_l 206 = 2 := by decide +kernel
theorem sq_r_206 : sp_r 206 = some .int := by decide +kernel
theorem sq_p_206 : plainName (sp_y 206).cls = true := by decide +kernel
theorem sq_c_206 : (sp_cl 8).1 = (sp_y 206).cls := by decide +kernel
theorem sq_l_207 : sp_l 207 = 4 := by decide +kernel
theorem sq_r_207 : sp_r 207 = none := by decide +kernel
theorem sq_p_207 : plainName (sp_y 207).cls = true := by decide +kernel
theorem sq_c_207 : (sp_cl 8).1 = (sp_y 207).cls := by decide +kernel
theorem sq_l_208 : sp_l 208 = 6 := by decide +kernel
theorem sq_r_208 : sp_r 208 = none := by decide +kernel
theorem sq_p_208 : plainName (sp_y 208).cls = true := by decide +kernel
theorem sq_c_208 : (sp_cl 8).1 = (sp_y 208).cls := by decide +kernel
theorem sq_l_209 : sp_l 209 = 6 := by decide +kernel
theorem sq_r_209 : sp_r 209 = some .int := by decide +kernel
theorem sq_p_209 : plainName (sp_y 209).cls = true := by decide +kernel
theorem sq_c_209 : (sp_cl 8).1 = (sp_y 209).cls := by decide +kernel
theorem sq_l_210 : sp_l 210 = 4 := by decide +kernel
theorem sq_r_210 : sp_r 210 = none := by decide +kernel
theorem sq_p_210 : plainName (sp_y 210).cls = true := by decide +kernel
theorem sq_c_210 : (sp_cl 8).1 = (sp_y 210).cls := by decide +kernel
theorem sq_l_211 : sp_l 211 = 4 := by decide +kernel
theorem sq_r_211 : sp_r 211 = some .boolean := by decide +kernel
theorem sq_p_211 : plainName (sp_y 211).cls = true := by decide +kernel
theorem sq_c_211 : (sp_cl 8).1 = (sp_y 211).cls := by decide +kernel
theorem sq_l_212 : sp_l 212 = 3 := by decide +kernel
theorem sq_r_212 : sp_r 212 = some .int := by decide +kernel
theorem sq_p_212 : plainName (sp_y 212).cls = true := by decide +kernel
theorem sq_c_212 : (sp_cl 8).1 = (sp_y 212).cls := by decide +kernel
theorem sq_l_213 : sp_l 213 = 4 := by decide +kernel
theorem sq_r_213 : sp_r 213 = some .int := by decide +kernel
theorem sq_p_213 : plainName (sp_y 213).cls = true := by decide +kernel
theorem sq_c_213 : (sp_cl 8).1 = (sp_y 213).cls := by decide +kernel
theorem sq_l_214 : sp_l 214 = 6 := by decide +kernel
theorem sq_r_214 : sp_r 214 = some .int := by decide +kernel
theorem sq_p_214 : plainName (sp_y 214).cls = true := by decide +kernel
theorem sq_c_214 : (sp_cl 8).1 = (sp_y 214).cls := by decide +kernel
theorem sq_l_215 : sp_l 215 = 2 := by decide +kernel
theorem sq_r_215 : sp_r 215 = some .boolean := by decide +kernel
theorem sq_p_215 : plainName (sp_y 215).cls = true := by decide +kernel
theorem sq_c_215 : (sp_cl 8).1 = (sp_y 215).cls := by decide +kernel
theorem sq_l_216 : sp_l 216 = 9 := by decide +kernel
theorem sq_r_216 : sp_r 216 = some .int := by decide +kernel
theorem sq_p_216 : plainName (sp_y 216).cls = true := by decide +kernel
theorem sq_c_216 : (sp_cl 8).1 = (sp_y 216).cls := by decide +kernel
theorem sq_l_217 : sp_l 217 = 6 := by decide +kernel
theorem sq_r_217 : sp_r 217 = some .int := by decide +kernel
theorem sq_p_217 : plainName (sp_y 217).cls = true := by decide +kernel
theorem sq_c_217 : (sp_cl 8).1 = (sp_y 217).cls := by decide +kernel
theorem sq_l_218 : sp_l 218 = 11 := by decide +kernel
theorem sq_r_218 : sp_r 218 = some .int := by decide +kernel
theorem sq_p_218 : plainName (sp_y 218).cls = true := by decide +kernel
theorem sq_c_218 : (sp_cl 8).1 = (sp_y 218).cls := by decide +kernel
theorem sq_l_219 : sp_l 219 = 6 := by decide +kernel
theorem sq_r_219 : sp_r 219 = some .int := by decide +kernel
theorem sq_p_219 : plainName (sp_y 219).cls = true := by decide +kernel
theorem sq_c_219 : (sp_cl 8).1 = (sp_y 219).cls := by decide +kernel
theorem sq_l_220 : sp_l 220 = 10 := by decide +kernel
theorem sq_r_220 : sp_r 220 = some .long := by decide +kernel
theorem sq_p_220 : plainName (sp_y 220).cls = true := by decide +kernel
theorem sq_c_220 : (sp_cl 8).1 = (sp_y 220).cls := by decide +kernel
theorem sq_l_221 : sp_l 221 = 9 := by decide +kernel
theorem sq_r_221 : sp_r 221 = some .int := by decide +kernel
theorem sq_p_221 : plainName (sp_y 221).cls = true := by decide +kernel
theorem sq_c_221 : (sp_cl 8).1 = (sp_y 221).cls := by decide +kernel
theorem sq_l_222 : sp_l 222 = 2 := by decide +kernel
theorem sq_r_222 : sp_r 222 = some .int := by decide +kernel
theorem sq_p_222 : plainName (sp_y 222).cls = true := by decide +kernel
theorem sq_c_222 : (sp_cl 8).1 = (sp_y 222).cls := by decide +kernel
theorem sq_l_223 : sp_l 223 = 4 := by decide +kernel
theorem sq_r_223 : sp_r 223 = some .int := by decide +kernel
theorem sq_p_223 : plainName (sp_y 223).cls = true := by decide +kernel
theorem sq_c_223 : (sp_cl 8).1 = (sp_y 223).cls := by decide +kernel
theorem sq_l_224 : sp_l 224 = 3 := by decide +kernel
theorem sq_r_224 : sp_r 224 = some .long := by decide +kernel
theorem sq_p_224 : plainName (sp_y 224).cls = true := by decide +kernel
theorem sq_c_224 : (sp_cl 8).1 = (sp_y 224).cls := by decide +kernel
theorem sq_l_225 : sp_l 225 = 3 := by decide +kernel
theorem sq_r_225 : sp_r 225 = none := by decide +kernel
theorem sq_p_225 : plainName (sp_y 225).cls = true := by decide +kernel
theorem sq_c_225 : (sp_cl 8).1 = (sp_y 225).cls := by decide +kernel
theorem sq_l_226 : sp_l 226 = 3 := by decide +kernel
theorem sq_r_226 : sp_r 226 = none := by decide +kernel
theorem sq_p_226 : plainName (sp_y 226).cls = true := by decide +kernel
theorem sq_c_226 : (sp_cl 8).1 = (sp_y 226).cls := by decide +kernel
theorem sq_l_227 : sp_l 227 = 4 := by decide +kernel
theorem sq_r_227 : sp_r 227 = some .boolean := by decide +kernel
theorem sq_p_227 : plainName (sp_y 227).cls = true := by decide +kernel
theorem sp_walkN {X : sp_X} {d N n : Nat} {as : List Value} {g : sp_G} {Rt : sp_Rt} (hp : plainName (sp_y N).cls = true) (hn : sp_l N = n) (hlen : (as.flatMap (fun v => if v.category = 2 then [v, Value.null] else [v])).length ≤ n)
    (h : ∀ a : sp_Ac, sp_Act X N d Rt a → sp_Ev X a N 0 (sp_en0 as n) [] g) : sp_Ct X d N as g Rt := sp_walk hp (by rw [hn]; exact hlen) (by rw [hn]; exact h)
