theorem si_53_0 : decode (sp_b 53) 0 = .ok (.aload_n 0, 1) := by decide +kernel
theorem si_53_1 : decode (sp_b 53) 1 = .ok (.getfield 32, 3) := by decide +kernel
theorem sf_53_32 : sp_okF 53 32 7 3 265 = true := by decide +kernel
theorem si_53_4 : decode (sp_b 53) 4 = .ok (.iload_n 1, 1) := by decide +kernel
theorem si_53_5 : decode (sp_b 53) 5 = .ok (.invokevirtual 148, 3) := by decide +kernel
theorem sk_53_148 : sp_okL 53 148 43 447 = true := by decide +kernel
theorem si_53_8 : decode (sp_b 53) 8 = .ok (.ifCond .ne 5, 3) := by decide +kernel
theorem si_53_11 : decode (sp_b 53) 11 = .ok (.iconst (-1), 1) := by decide +kernel
theorem si_53_12 : decode (sp_b 53) 12 = .ok (.ireturn, 1) := by decide +kernel
theorem si_53_13 : decode (sp_b 53) 13 = .ok (.aload_n 0, 1) := by decide +kernel
theorem si_53_14 : decode (sp_b 53) 14 = .ok (.getfield 32, 3) := by decide +kernel
theorem si_53_17 : decode (sp_b 53) 17 = .ok (.iload_n 1, 1) := by decide +kernel
theorem si_53_18 : decode (sp_b 53) 18 = .ok (.aload_n 0, 1) := by decide +kernel
theorem si_53_19 : decode (sp_b 53) 19 = .ok (.getfield 36, 3) := by decide +kernel
theorem sf_53_36 : sp_okF 53 36 7 4 266 = true := by decide +kernel
theorem si_53_22 : decode (sp_b 53) 22 = .ok (.invokevirtual 185, 3) := by decide +kernel
theorem sk_53_185 : sp_okL 53 185 45 455 = true := by decide +kernel
theorem si_53_25 : decode (sp_b 53) 25 = .ok (.ifCond .ne 6, 3) := by decide +kernel
theorem si_53_28 : decode (sp_b 53) 28 = .ok (.bipush (-4), 2) := by decide +kernel
theorem si_53_30 : decode (sp_b 53) 30 = .ok (.ireturn, 1) := by decide +kernel
theorem si_53_31 : decode (sp_b 53) 31 = .ok (.aload_n 0, 1) := by decide +kernel
theorem si_53_32 : decode (sp_b 53) 32 = .ok (.getfield 49, 3) := by decide +kernel
theorem sf_53_49 : sp_okF 53 49 7 7 269 = true := by decide +kernel
theorem si_53_35 : decode (sp_b 53) 35 = .ok (.iconst 1, 1) := by decide +kernel
theorem si_53_36 : decode (sp_b 53) 36 = .ok (.invokevirtual 189, 3) := by decide +kernel
theorem sk_53_189 : sp_okL 53 189 54 494 = true := by decide +kernel
theorem si_53_39 : decode (sp_b 53) 39 = .ok (.ifCond .eq 6, 3) := by decide +kernel
theorem si_53_42 : decode (sp_b 53) 42 = .ok (.bipush (-2), 2) := by decide +kernel
theorem si_53_44 : decode (sp_b 53) 44 = .ok (.ireturn, 1) := by decide +kernel
theorem si_53_45 : decode (sp_b 53) 45 = .ok (.aload_n 0, 1) := by decide +kernel
theorem si_53_46 : decode (sp_b 53) 46 = .ok (.getfield 32, 3) := by decide +kernel
theorem si_53_49 : decode (sp_b 53) 49 = .ok (.iload_n 1, 1) := by decide +kernel
theorem si_53_50 : decode (sp_b 53) 50 = .ok (.aload_n 0, 1) := by decide +kernel
theorem si_53_51 : decode (sp_b 53) 51 = .ok (.getfield 36, 3) := by decide +kernel
theorem si_53_54 : decode (sp_b 53) 54 = .ok (.invokevirtual 192, 3) := by decide +kernel
theorem sk_53_192 : sp_okL 53 192 55 498 = true := by decide +kernel
theorem si_53_57 : decode (sp_b 53) 57 = .ok (.aload_n 0, 1) := by decide +kernel
theorem si_53_58 : decode (sp_b 53) 58 = .ok (.getfield 49, 3) := by decide +kernel
theorem si_53_61 : decode (sp_b 53) 61 = .ok (.aload_n 0, 1) := by decide +kernel
theorem si_53_62 : decode (sp_b 53) 62 = .ok (.getfield 36, 3) := by decide +kernel
theorem si_53_65 : decode (sp_b 53) 65 = .ok (.invokevirtual 196, 3) := by decide +kernel
theorem sk_53_196 : sp_okL 53 196 58 511 = true := by decide +kernel
theorem si_53_68 : decode (sp_b 53) 68 = .ok (.aload_n 0, 1) := by decide +kernel
theorem si_53_69 : decode (sp_b 53) 69 = .ok (.getfield 32, 3) := by decide +kernel
theorem si_53_72 : decode (sp_b 53) 72 = .ok (.getfield 199, 3) := by decide +kernel
theorem sf_53_199 : sp_okF 53 199 0 2 126 = true := by decide +kernel
theorem si_53_75 : decode (sp_b 53) 75 = .ok (.iload_n 1, 1) := by decide +kernel
theorem si_53_76 : decode (sp_b 53) 76 = .ok (.iaload, 1) := by decide +kernel
theorem si_53_77 : decode (sp_b 53) 77 = .ok (.ireturn, 1) := by decide +kernel
theorem si_54_0 : decode (sp_b 54) 0 = .ok (.aload_n 0, 1) := by decide +kernel
theorem si_54_1 : decode (sp_b 54) 1 = .ok (.getfield 21, 3) := by decide +kernel
theorem sf_54_21 : sp_okF 54 21 6 1 223 = true := by decide +kernel
theorem si_54_4 : decode (sp_b 54) 4 = .ok (.iload_n 1, 1) := by decide +kernel
theorem si_54_5 : decode (sp_b 54) 5 = .ok (.iadd, 1) := by decide +kernel
theorem si_54_6 : decode (sp_b 54) 6 = .ok (.bipush 60, 2) := by decide +kernel
theorem si_54_8 : decode (sp_b 54) 8 = .ok (.if_icmp .le 7, 3) := by decide +kernel
theorem si_54_11 : decode (sp_b 54) 11 = .ok (.iconst 1, 1) := by decide +kernel
theorem si_54_12 : decode (sp_b 54) 12 = .ok (.goto 4, 3) := by decide +kernel
theorem si_54_15 : decode (sp_b 54) 15 = .ok (.iconst 0, 1) := by decide +kernel
theorem si_54_16 : decode (sp_b 54) 16 = .ok (.ireturn, 1) := by decide +kernel
theorem si_55_0 : decode (sp_b 55) 0 = .ok (.aload_n 0, 1) := by decide +kernel
theorem si_55_1 : decode (sp_b 55) 1 = .ok (.getfield 9, 3) := by decide +kernel
theorem sf_55_9 : sp_okF 55 9 0 0 118 = true := by decide +kernel
theorem si_55_4 : decode (sp_b 55) 4 = .ok (.iload_n 1, 1) := by decide +kernel
theorem si_55_5 : decode (sp_b 55) 5 = .ok (.iaload, 1) := by decide +kernel
theorem si_55_6 : decode (sp_b 55) 6 = .ok (.tableswitch 122 0 4 #[34, 50, 122, 95, 66], 34) := by decide +kernel
theorem si_55_40 : decode (sp_b 55) 40 = .ok (.aload_n 2, 1) := by decide +kernel
theorem si_55_41 : decode (sp_b 55) 41 = .ok (.iload_n 1, 1) := by decide +kernel
theorem si_55_42 : decode (sp_b 55) 42 = .ok (.iload_n 1, 1) := by decide +kernel
theorem si_55_43 : decode (sp_b 55) 43 = .ok (.iconst 1, 1) := by decide +kernel
theorem si_55_44 : decode (sp_b 55) 44 = .ok (.iadd, 1) := by decide +kernel
theorem si_55_45 : decode (sp_b 55) 45 = .ok (.iconst 1, 1) := by decide +kernel
theorem si_55_46 : decode (sp_b 55) 46 = .ok (.aload_n 0, 1) := by decide +kernel
theorem si_55_47 : decode (sp_b 55) 47 = .ok (.getfield 21, 3) := by decide +kernel
theorem sf_55_21 : sp_okF 55 21 0 3 127 = true := by decide +kernel
theorem si_55_50 : decode (sp_b 55) 50 = .ok (.invokevirtual 57, 3) := by decide +kernel
theorem sk_55_57 : sp_okL 55 57 56 502 = true := by decide +kernel
theorem si_55_53 : decode (sp_b 55) 53 = .ok (.goto 75, 3) := by decide +kernel
theorem si_55_56 : decode (sp_b 55) 56 = .ok (.aload_n 2, 1) := by decide +kernel
theorem si_55_57 : decode (sp_b 55) 57 = .ok (.iload_n 1, 1) := by decide +kernel
theorem si_55_58 : decode (sp_b 55) 58 = .ok (.iload_n 1, 1) := by decide +kernel
theorem si_55_59 : decode (sp_b 55) 59 = .ok (.iconst 1, 1) := by decide +kernel
theorem si_55_60 : decode (sp_b 55) 60 = .ok (.isub, 1) := by decide +kernel
theorem si_55_61 : decode (sp_b 55) 61 = .ok (.iconst 2, 1) := by decide +kernel
theorem si_55_62 : decode (sp_b 55) 62 = .ok (.aload_n 0, 1) := by decide +kernel
theorem si_55_63 : decode (sp_b 55) 63 = .ok (.getfield 21, 3) := by decide +kernel
theorem si_55_66 : decode (sp_b 55) 66 = .ok (.invokevirtual 57, 3) := by decide +kernel
theorem si_55_69 : decode (sp_b 55) 69 = .ok (.goto 59, 3) := by decide +kernel
theorem si_55_72 : decode (sp_b 55) 72 = .ok (.aload_n 2, 1) := by decide +kernel
theorem si_55_73 : decode (sp_b 55) 73 = .ok (.iload_n 1, 1) := by decide +kernel
theorem si_55_74 : decode (sp_b 55) 74 = .ok (.iload_n 1, 1) := by decide +kernel
theorem si_55_75 : decode (sp_b 55) 75 = .ok (.iconst 1, 1) := by decide +kernel
theorem si_55_76 : decode (sp_b 55) 76 = .ok (.isub, 1) := by decide +kernel
theorem si_55_77 : decode (sp_b 55) 77 = .ok (.iconst 1, 1) := by decide +kernel
theorem si_55_78 : decode (sp_b 55) 78 = .ok (.aload_n 0, 1) := by decide +kernel
theorem si_55_79 : decode (sp_b 55) 79 = .ok (.getfield 21, 3) := by decide +kernel
theorem si_55_82 : decode (sp_b 55) 82 = .ok (.invokevirtual 57, 3) := by decide +kernel
theorem si_55_85 : decode (sp_b 55) 85 = .ok (.aload_n 2, 1) := by decide +kernel
theorem si_55_86 : decode (sp_b 55) 86 = .ok (.iload_n 1, 1) := by decide +kernel
theorem si_55_87 : decode (sp_b 55) 87 = .ok (.iload_n 1, 1) := by decide +kernel
theorem si_55_88 : decode (sp_b 55) 88 = .ok (.iconst 1, 1) := by decide +kernel
theorem si_55_89 : decode (sp_b 55) 89 = .ok (.iadd, 1) := by decide +kernel
theorem si_55_90 : decode (sp_b 55) 90 = .ok (.iconst 1, 1) := by decide +kernel
theorem si_55_91 : decode (sp_b 55) 91 = .ok (.aload_n 0, 1) := by decide +kernel
theorem si_55_92 : decode (sp_b 55) 92 = .ok (.getfield 21, 3) := by decide +kernel
theorem si_55_95 : decode (sp_b 55) 95 = .ok (.invokevirtual 57, 3) := by decide +kernel
theorem si_55_98 : decode (sp_b 55) 98 = .ok (.goto 30, 3) := by decide +kernel
theorem si_55_101 : decode (sp_b 55) 101 = .ok (.iload_n 1, 1) := by decide +kernel
theorem si_55_102 : decode (sp_b 55) 102 = .ok (.ifCond .ne 10, 3) := by decide +kernel
theorem si_55_105 : decode (sp_b 55) 105 = .ok (.aload_n 2, 1) := by decide +kernel
theorem si_55_106 : decode (sp_b 55) 106 = .ok (.invokevirtual 61, 3) := by decide +kernel
theorem sk_55_61 : sp_okL 55 61 57 507 = true := by decide +kernel
theorem si_55_109 : decode (sp_b 55) 109 = .ok (.goto 19, 3) := by decide +kernel
theorem si_55_112 : decode (sp_b 55) 112 = .ok (.aload_n 2, 1) := by decide +kernel
theorem si_55_113 : decode (sp_b 55) 113 = .ok (.iload_n 1, 1) := by decide +kernel
theorem si_55_114 : decode (sp_b 55) 114 = .ok (.iconst 1, 1) := by decide +kernel
theorem si_55_115 : decode (sp_b 55) 115 = .ok (.isub, 1) := by decide +kernel
theorem si_55_116 : decode (sp_b 55) 116 = .ok (.iload_n 1, 1) := by decide +kernel
theorem si_55_117 : decode (sp_b 55) 117 = .ok (.iconst 1, 1) := by decide +kernel
theorem si_55_118 : decode (sp_b 55) 118 = .ok (.aload_n 0, 1) := by decide +kernel
theorem si_55_119 : decode (sp_b 55) 119 = .ok (.getfield 21, 3) := by decide +kernel
theorem si_55_122 : decode (sp_b 55) 122 = .ok (.invokevirtual 57, 3) := by decide +kernel
theorem si_55_125 : decode (sp_b 55) 125 = .ok (.goto 3, 3) := by decide +kernel
theorem si_55_128 : decode (sp_b 55) 128 = .ok (.aload_n 2, 1) := by decide +kernel
theorem si_55_129 : decode (sp_b 55) 129 = .ok (.dup, 1) := by decide +kernel
theorem si_55_130 : decode (sp_b 55) 130 = .ok (.getfield 64, 3) := by decide +kernel
theorem sf_55_64 : sp_okF 55 64 2 3 177 = true := by decide +kernel
theorem si_55_133 : decode (sp_b 55) 133 = .ok (.aload_n 0, 1) := by decide +kernel
theorem si_55_134 : decode (sp_b 55) 134 = .ok (.getfield 18, 3) := by decide +kernel
theorem sf_55_18 : sp_okF 55 18 0 2 124 = true := by decide +kernel
theorem si_55_137 : decode (sp_b 55) 137 = .ok (.iload_n 1, 1) := by decide +kernel
theorem si_55_138 : decode (sp_b 55) 138 = .ok (.iaload, 1) := by decide +kernel
theorem si_55_139 : decode (sp_b 55) 139 = .ok (.iadd, 1) := by decide +kernel
theorem si_55_140 : decode (sp_b 55) 140 = .ok (.putfield 64, 3) := by decide +kernel
theorem si_55_143 : decode (sp_b 55) 143 = .ok (.return_, 1) := by decide +kernel
theorem si_56_0 : decode (sp_b 56) 0 = .ok (.iload_n 3, 1) := by decide +kernel
theorem si_56_1 : decode (sp_b 56) 1 = .ok (.aload_n 0, 1) := by decide +kernel
theorem si_56_2 : decode (sp_b 56) 2 = .ok (.getfield 9, 3) := by decide +kernel
theorem sf_56_9 : sp_okF 56 9 2 0 162 = true := by decide +kernel
theorem si_56_5 : decode (sp_b 56) 5 = .ok (.iload_n 1, 1) := by decide +kernel
theorem si_56_6 : decode (sp_b 56) 6 = .ok (.iaload, 1) := by decide +kernel
theorem si_56_7 : decode (sp_b 56) 7 = .ok (.invokestatic 37, 3) := by decide +kernel
theorem sk_56_37 : sp_okL 56 37 48 506 = true := by decide +kernel
theorem si_56_10 : decode (sp_b 56) 10 = .ok (.istore 5, 2) := by decide +kernel
theorem si_56_12 : decode (sp_b 56) 12 = .ok (.aload_n 0, 1) := by decide +kernel
theorem si_56_13 : decode (sp_b 56) 13 = .ok (.getfield 9, 3) := by decide +kernel
theorem si_56_16 : decode (sp_b 56) 16 = .ok (.iload_n 1, 1) := by decide +kernel
theorem si_56_17 : decode (sp_b 56) 17 = .ok (.dup2, 1) := by decide +kernel
theorem si_56_18 : decode (sp_b 56) 18 = .ok (.iaload, 1) := by decide +kernel
theorem si_56_19 : decode (sp_b 56) 19 = .ok (.iload 5, 2) := by decide +kernel
theorem si_56_21 : decode (sp_b 56) 21 = .ok (.isub, 1) := by decide +kernel
theorem si_56_22 : decode (sp_b 56) 22 = .ok (.iastore, 1) := by decide +kernel
theorem si_56_23 : decode (sp_b 56) 23 = .ok (.iload_n 2, 1) := by decide +kernel
theorem si_56_24 : decode (sp_b 56) 24 = .ok (.ifCond .lt 9, 3) := by decide +kernel
theorem si_56_27 : decode (sp_b 56) 27 = .ok (.iload_n 2, 1) := by decide +kernel
theorem si_56_28 : decode (sp_b 56) 28 = .ok (.iload 4, 2) := by decide +kernel
theorem si_56_30 : decode (sp_b 56) 30 = .ok (.if_icmp .lt 17, 3) := by decide +kernel
theorem si_56_33 : decode (sp_b 56) 33 = .ok (.aload_n 0, 1) := by decide +kernel
theorem si_56_34 : decode (sp_b 56) 34 = .ok (.dup, 1) := by decide +kernel
theorem si_56_35 : decode (sp_b 56) 35 = .ok (.getfield 21, 3) := by decide +kernel
theorem sf_56_21 : sp_okF 56 21 2 1 168 = true := by decide +kernel
theorem si_56_38 : decode (sp_b 56) 38 = .ok (.iload 5, 2) := by decide +kernel
theorem si_56_40 : decode (sp_b 56) 40 = .ok (.iadd, 1) := by decide +kernel
theorem si_56_41 : decode (sp_b 56) 41 = .ok (.putfield 21, 3) := by decide +kernel
theorem si_56_44 : decode (sp_b 56) 44 = .ok (.goto 14, 3) := by decide +kernel
theorem si_56_47 : decode (sp_b 56) 47 = .ok (.aload_n 0, 1) := by decide +kernel
theorem si_56_48 : decode (sp_b 56) 48 = .ok (.getfield 9, 3) := by decide +kernel
theorem si_56_51 : decode (sp_b 56) 51 = .ok (.iload_n 2, 1) := by decide +kernel
theorem si_56_52 : decode (sp_b 56) 52 = .ok (.dup2, 1) := by decide +kernel
theorem si_56_53 : decode (sp_b 56) 53 = .ok (.iaload, 1) := by decide +kernel
theorem si_56_54 : decode (sp_b 56) 54 = .ok (.iload 5, 2) := by decide +kernel
theorem si_56_56 : decode (sp_b 56) 56 = .ok (.iadd, 1) := by decide +kernel
theorem si_56_57 : decode (sp_b 56) 57 = .ok (.iastore, 1) := by decide +kernel
theorem si_56_58 : decode (sp_b 56) 58 = .ok (.return_, 1) := by decide +kernel
theorem si_57_0 : decode (sp_b 57) 0 = .ok (.aload_n 0, 1) := by decide +kernel
theorem si_57_1 : decode (sp_b 57) 1 = .ok (.getfield 21, 3) := by decide +kernel
theorem sf_57_21 : sp_okF 57 21 2 1 168 = true := by decide +kernel
theorem si_57_4 : decode (sp_b 57) 4 = .ok (.ifCond .le 23, 3) := by decide +kernel
theorem si_57_7 : decode (sp_b 57) 7 = .ok (.aload_n 0, 1) := by decide +kernel
theorem si_57_8 : decode (sp_b 57) 8 = .ok (.dup, 1) := by decide +kernel
theorem si_57_9 : decode (sp_b 57) 9 = .ok (.getfield 21, 3) := by decide +kernel
theorem si_57_12 : decode (sp_b 57) 12 = .ok (.iconst 1, 1) := by decide +kernel
theorem si_57_13 : decode (sp_b 57) 13 = .ok (.isub, 1) := by decide +kernel
theorem si_57_14 : decode (sp_b 57) 14 = .ok (.putfield 21, 3) := by decide +kernel
theorem si_57_17 : decode (sp_b 57) 17 = .ok (.aload_n 0, 1) := by decide +kernel
theorem si_57_18 : decode (sp_b 57) 18 = .ok (.getfield 9, 3) := by decide +kernel
theorem sf_57_9 : sp_okF 57 9 2 0 162 = true := by decide +kernel
theorem si_57_21 : decode (sp_b 57) 21 = .ok (.iconst 0, 1) := by decide +kernel
theorem si_57_22 : decode (sp_b 57) 22 = .ok (.dup2, 1) := by decide +kernel
theorem si_57_23 : decode (sp_b 57) 23 = .ok (.iaload, 1) := by decide +kernel
theorem si_57_24 : decode (sp_b 57) 24 = .ok (.iconst 1, 1) := by decide +kernel
theorem si_57_25 : decode (sp_b 57) 25 = .ok (.iadd, 1) := by decide +kernel
theorem si_57_26 : decode (sp_b 57) 26 = .ok (.iastore, 1) := by decide +kernel
theorem si_57_27 : decode (sp_b 57) 27 = .ok (.return_, 1) := by decide +kernel
theorem si_58_0 : decode (sp_b 58) 0 = .ok (.aload_n 0, 1) := by decide +kernel
theorem si_58_1 : decode (sp_b 58) 1 = .ok (.iconst 1, 1) := by decide +kernel
theorem si_58_2 : decode (sp_b 58) 2 = .ok (.invokevirtual 28, 3) := by decide +kernel
theorem sk_58_28 : sp_okL 58 28 54 515 = true := by decide +kernel
theorem si_58_5 : decode (sp_b 58) 5 = .ok (.ifCond .ne 18, 3) := by decide +kernel
theorem si_58_8 : decode (sp_b 58) 8 = .ok (.aload_n 0, 1) := by decide +kernel
theorem si_58_9 : decode (sp_b 58) 9 = .ok (.dup, 1) := by decide +kernel
theorem si_58_10 : decode (sp_b 58) 10 = .ok (.getfield 21, 3) := by decide +kernel
theorem sf_58_21 : sp_okF 58 21 6 1 223 = true := by decide +kernel
theorem si_58_13 : decode (sp_b 58) 13 = .ok (.iconst 1, 1) := by decide +kernel
theorem si_58_14 : decode (sp_b 58) 14 = .ok (.iadd, 1) := by decide +kernel
theorem si_58_15 : decode (sp_b 58) 15 = .ok (.putfield 21, 3) := by decide +kernel
theorem si_58_18 : decode (sp_b 58) 18 = .ok (.aload_n 0, 1) := by decide +kernel
theorem si_58_19 : decode (sp_b 58) 19 = .ok (.aload_n 1, 1) := by decide +kernel
theorem si_58_20 : decode (sp_b 58) 20 = .ok (.invokevirtual 24, 3) := by decide +kernel
theorem sk_58_24 : sp_okL 58 24 41 438 = true := by decide +kernel
theorem si_58_23 : decode (sp_b 58) 23 = .ok (.return_, 1) := by decide +kernel
theorem si_59_0 : decode (sp_b 59) 0 = .ok (.iload_n 1, 1) := by decide +kernel
theorem si_59_1 : decode (sp_b 59) 1 = .ok (.ifCond .lt 9, 3) := by decide +kernel
theorem si_59_4 : decode (sp_b 59) 4 = .ok (.iload_n 1, 1) := by decide +kernel
theorem si_59_5 : decode (sp_b 59) 5 = .ok (.bipush 9, 2) := by decide +kernel
theorem si_59_7 : decode (sp_b 59) 7 = .ok (.if_icmp .le 5, 3) := by decide +kernel
theorem si_59_10 : decode (sp_b 59) 10 = .ok (.iconst (-1), 1) := by decide +kernel
theorem si_59_11 : decode (sp_b 59) 11 = .ok (.ireturn, 1) := by decide +kernel
theorem si_59_12 : decode (sp_b 59) 12 = .ok (.aload_n 0, 1) := by decide +kernel
theorem si_59_13 : decode (sp_b 59) 13 = .ok (.getfield 32, 3) := by decide +kernel
theorem sf_59_32 : sp_okF 59 32 7 3 265 = true := by decide +kernel
theorem si_59_16 : decode (sp_b 59) 16 = .ok (.getfield 145, 3) := by decide +kernel
theorem sf_59_145 : sp_okF 59 145 0 3 130 = true := by decide +kernel
theorem si_59_19 : decode (sp_b 59) 19 = .ok (.ifCond .ne 6, 3) := by decide +kernel
theorem si_59_22 : decode (sp_b 59) 22 = .ok (.bipush (-4), 2) := by decide +kernel
theorem si_59_24 : decode (sp_b 59) 24 = .ok (.ireturn, 1) := by decide +kernel
theorem si_59_25 : decode (sp_b 59) 25 = .ok (.aload_n 0, 1) := by decide +kernel
theorem si_59_26 : decode (sp_b 59) 26 = .ok (.getfield 49, 3) := by decide +kernel
theorem sf_59_49 : sp_okF 59 49 7 7 269 = true := by decide +kernel
theorem si_59_29 : decode (sp_b 59) 29 = .ok (.iconst 1, 1) := by decide +kernel
theorem si_59_30 : decode (sp_b 59) 30 = .ok (.invokevirtual 189, 3) := by decide +kernel
theorem sk_59_189 : sp_okL 59 189 54 494 = true := by decide +kernel
theorem si_59_33 : decode (sp_b 59) 33 = .ok (.ifCond .eq 6, 3) := by decide +kernel
theorem si_59_36 : decode (sp_b 59) 36 = .ok (.bipush (-2), 2) := by decide +kernel
theorem si_59_38 : decode (sp_b 59) 38 = .ok (.ireturn, 1) := by decide +kernel
theorem si_59_39 : decode (sp_b 59) 39 = .ok (.aload_n 0, 1) := by decide +kernel
theorem si_59_40 : decode (sp_b 59) 40 = .ok (.getfield 36, 3) := by decide +kernel
theorem sf_59_36 : sp_okF 59 36 7 4 266 = true := by decide +kernel
theorem si_59_43 : decode (sp_b 59) 43 = .ok (.iload_n 1, 1) := by decide +kernel
theorem si_59_44 : decode (sp_b 59) 44 = .ok (.aload_n 0, 1) := by decide +kernel
theorem si_59_45 : decode (sp_b 59) 45 = .ok (.getfield 32, 3) := by decide +kernel
theorem si_59_48 : decode (sp_b 59) 48 = .ok (.getfield 145, 3) := by decide +kernel
theorem si_59_51 : decode (sp_b 59) 51 = .ok (.invokevirtual 202, 3) := by decide +kernel
theorem sk_59_202 : sp_okL 59 202 60 520 = true := by decide +kernel
theorem si_59_54 : decode (sp_b 59) 54 = .ok (.istore_n 2, 1) := by decide +kernel
theorem si_59_55 : decode (sp_b 59) 55 = .ok (.aload_n 0, 1) := by decide +kernel
theorem si_59_56 : decode (sp_b 59) 56 = .ok (.getfield 49, 3) := by decide +kernel
theorem si_59_59 : decode (sp_b 59) 59 = .ok (.aload_n 0, 1) := by decide +kernel
theorem si_59_60 : decode (sp_b 59) 60 = .ok (.getfield 36, 3) := by decide +kernel
theorem si_59_63 : decode (sp_b 59) 63 = .ok (.invokevirtual 196, 3) := by decide +kernel
theorem sk_59_196 : sp_okL 59 196 58 511 = true := by decide +kernel
theorem si_59_66 : decode (sp_b 59) 66 = .ok (.iload_n 2, 1) := by decide +kernel
theorem si_59_67 : decode (sp_b 59) 67 = .ok (.ireturn, 1) := by decide +kernel
theorem si_60_0 : decode (sp_b 60) 0 = .ok (.iconst 0, 1) := by decide +kernel
theorem si_60_1 : decode (sp_b 60) 1 = .ok (.istore_n 3, 1) := by decide +kernel
theorem si_60_2 : decode (sp_b 60) 2 = .ok (.iconst 0, 1) := by decide +kernel
theorem si_60_3 : decode (sp_b 60) 3 = .ok (.istore 4, 2) := by decide +kernel
theorem si_60_5 : decode (sp_b 60) 5 = .ok (.iload 4, 2) := by decide +kernel
theorem si_60_7 : decode (sp_b 60) 7 = .ok (.iload_n 2, 1) := by decide +kernel
theorem si_60_8 : decode (sp_b 60) 8 = .ok (.if_icmp .ge 36, 3) := by decide +kernel
theorem si_60_11 : decode (sp_b 60) 11 = .ok (.iload 4, 2) := by decide +kernel
theorem si_60_13 : decode (sp_b 60) 13 = .ok (.iload_n 1, 1) := by decide +kernel
theorem si_60_14 : decode (sp_b 60) 14 = .ok (.if_icmp .ge 30, 3) := by decide +kernel
theorem si_60_17 : decode (sp_b 60) 17 = .ok (.aload_n 0, 1) := by decide +kernel
theorem si_60_18 : decode (sp_b 60) 18 = .ok (.getfield 9, 3) := by decide +kernel
theorem sf_60_9 : sp_okF 60 9 2 0 162 = true := by decide +kernel
theorem si_60_21 : decode (sp_b 60) 21 = .ok (.iload 4, 2) := by decide +kernel
theorem si_60_23 : decode (sp_b 60) 23 = .ok (.dup2, 1) := by decide +kernel
theorem si_60_24 : decode (sp_b 60) 24 = .ok (.iaload, 1) := by decide +kernel
theorem si_60_25 : decode (sp_b 60) 25 = .ok (.iload_n 1, 1) := by decide +kernel
theorem si_60_26 : decode (sp_b 60) 26 = .ok (.iload 4, 2) := by decide +kernel
theorem si_60_28 : decode (sp_b 60) 28 = .ok (.isub, 1) := by decide +kernel
theorem si_60_29 : decode (sp_b 60) 29 = .ok (.iadd, 1) := by decide +kernel
theorem si_60_30 : decode (sp_b 60) 30 = .ok (.iastore, 1) := by decide +kernel
theorem si_60_31 : decode (sp_b 60) 31 = .ok (.iload_n 3, 1) := by decide +kernel
theorem si_60_32 : decode (sp_b 60) 32 = .ok (.iload_n 1, 1) := by decide +kernel
theorem si_60_33 : decode (sp_b 60) 33 = .ok (.iload 4, 2) := by decide +kernel
theorem si_60_35 : decode (sp_b 60) 35 = .ok (.isub, 1) := by decide +kernel
theorem si_60_36 : decode (sp_b 60) 36 = .ok (.iadd, 1) := by decide +kernel
theorem si_60_37 : decode (sp_b 60) 37 = .ok (.istore_n 3, 1) := by decide +kernel
theorem si_60_38 : decode (sp_b 60) 38 = .ok (.iinc 4 1, 3) := by decide +kernel
theorem si_60_41 : decode (sp_b 60) 41 = .ok (.goto (-36), 3) := by decide +kernel
theorem si_60_44 : decode (sp_b 60) 44 = .ok (.aload_n 0, 1) := by decide +kernel
theorem si_60_45 : decode (sp_b 60) 45 = .ok (.dup, 1) := by decide +kernel
theorem si_60_46 : decode (sp_b 60) 46 = .ok (.getfield 25, 3) := by decide +kernel
theorem sf_60_25 : sp_okF 60 25 2 2 171 = true := by decide +kernel
theorem si_60_49 : decode (sp_b 60) 49 = .ok (.iload_n 3, 1) := by decide +kernel
theorem si_60_50 : decode (sp_b 60) 50 = .ok (.iadd, 1) := by decide +kernel
theorem si_60_51 : decode (sp_b 60) 51 = .ok (.putfield 25, 3) := by decide +kernel
theorem si_60_54 : decode (sp_b 60) 54 = .ok (.iload_n 3, 1) := by decide +kernel
theorem si_60_55 : decode (sp_b 60) 55 = .ok (.ireturn, 1) := by decide +kernel
theorem si_61_0 : decode (sp_b 61) 0 = .ok (.iload_n 1, 1) := by decide +kernel
theorem si_61_1 : decode (sp_b 61) 1 = .ok (.ifCond .lt 8, 3) := by decide +kernel
theorem si_61_4 : decode (sp_b 61) 4 = .ok (.iload_n 1, 1) := by decide +kernel
theorem si_61_5 : decode (sp_b 61) 5 = .ok (.iconst 1, 1) := by decide +kernel
theorem si_61_6 : decode (sp_b 61) 6 = .ok (.if_icmp .le 5, 3) := by decide +kernel
theorem si_61_9 : decode (sp_b 61) 9 = .ok (.iconst (-1), 1) := by decide +kernel
theorem si_61_10 : decode (sp_b 61) 10 = .ok (.ireturn, 1) := by decide +kernel
theorem si_61_11 : decode (sp_b 61) 11 = .ok (.aload_n 0, 1) := by decide +kernel
theorem si_61_12 : decode (sp_b 61) 12 = .ok (.getfield 32, 3) := by decide +kernel
theorem sf_61_32 : sp_okF 61 32 7 3 265 = true := by decide +kernel
theorem si_61_15 : decode (sp_b 61) 15 = .ok (.getfield 145, 3) := by decide +kernel
theorem sf_61_145 : sp_okF 61 145 0 3 130 = true := by decide +kernel
theorem si_61_18 : decode (sp_b 61) 18 = .ok (.ifCond .ne 6, 3) := by decide +kernel
theorem si_61_21 : decode (sp_b 61) 21 = .ok (.bipush (-4), 2) := by decide +kernel
theorem si_61_23 : decode (sp_b 61) 23 = .ok (.ireturn, 1) := by decide +kernel
theorem si_61_24 : decode (sp_b 61) 24 = .ok (.aload_n 0, 1) := by decide +kernel
theorem si_61_25 : decode (sp_b 61) 25 = .ok (.getfield 49, 3) := by decide +kernel
theorem sf_61_49 : sp_okF 61 49 7 7 269 = true := by decide +kernel
theorem si_61_28 : decode (sp_b 61) 28 = .ok (.iconst 1, 1) := by decide +kernel
theorem si_61_29 : decode (sp_b 61) 29 = .ok (.invokevirtual 189, 3) := by decide +kernel
theorem sk_61_189 : sp_okL 61 189 54 494 = true := by decide +kernel
theorem si_61_32 : decode (sp_b 61) 32 = .ok (.ifCond .eq 6, 3) := by decide +kernel
theorem si_61_35 : decode (sp_b 61) 35 = .ok (.bipush (-2), 2) := by decide +kernel
theorem si_61_37 : decode (sp_b 61) 37 = .ok (.ireturn, 1) := by decide +kernel
theorem si_61_38 : decode (sp_b 61) 38 = .ok (.iload_n 1, 1) := by decide +kernel
theorem si_61_39 : decode (sp_b 61) 39 = .ok (.ifCond .ne 20, 3) := by decide +kernel
theorem si_61_42 : decode (sp_b 61) 42 = .ok (.aload_n 0, 1) := by decide +kernel
theorem si_61_43 : decode (sp_b 61) 43 = .ok (.getfield 36, 3) := by decide +kernel
theorem sf_61_36 : sp_okF 61 36 7 4 266 = true := by decide +kernel
theorem si_61_46 : decode (sp_b 61) 46 = .ok (.aload_n 0, 1) := by decide +kernel
theorem si_61_47 : decode (sp_b 61) 47 = .ok (.getfield 32, 3) := by decide +kernel
theorem si_61_50 : decode (sp_b 61) 50 = .ok (.getfield 145, 3) := by decide +kernel
theorem si_61_53 : decode (sp_b 61) 53 = .ok (.invokevirtual 205, 3) := by decide +kernel
theorem sk_61_205 : sp_okL 61 205 62 528 = true := by decide +kernel
theorem si_61_56 : decode (sp_b 61) 56 = .ok (.goto 17, 3) := by decide +kernel
theorem si_61_59 : decode (sp_b 61) 59 = .ok (.aload_n 0, 1) := by decide +kernel
theorem si_61_60 : decode (sp_b 61) 60 = .ok (.getfield 36, 3) := by decide +kernel
theorem si_61_63 : decode (sp_b 61) 63 = .ok (.aload_n 0, 1) := by decide +kernel
theorem si_61_64 : decode (sp_b 61) 64 = .ok (.getfield 32, 3) := by decide +kernel
theorem si_61_67 : decode (sp_b 61) 67 = .ok (.getfield 145, 3) := by decide +kernel
theorem si_61_70 : decode (sp_b 61) 70 = .ok (.invokevirtual 208, 3) := by decide +kernel
theorem sk_61_208 : sp_okL 61 208 63 532 = true := by decide +kernel
theorem si_61_73 : decode (sp_b 61) 73 = .ok (.istore_n 2, 1) := by decide +kernel
theorem si_61_74 : decode (sp_b 61) 74 = .ok (.aload_n 0, 1) := by decide +kernel
theorem si_61_75 : decode (sp_b 61) 75 = .ok (.getfield 49, 3) := by decide +kernel
theorem si_61_78 : decode (sp_b 61) 78 = .ok (.aload_n 0, 1) := by decide +kernel
theorem si_61_79 : decode (sp_b 61) 79 = .ok (.getfield 36, 3) := by decide +kernel
theorem si_61_82 : decode (sp_b 61) 82 = .ok (.invokevirtual 196, 3) := by decide +kernel
theorem sk_61_196 : sp_okL 61 196 58 511 = true := by decide +kernel
theorem si_61_85 : decode (sp_b 61) 85 = .ok (.iload_n 2, 1) := by decide +kernel
theorem si_61_86 : decode (sp_b 61) 86 = .ok (.ireturn, 1) := by decide +kernel
theorem si_62_0 : decode (sp_b 62) 0 = .ok (.aload_n 0, 1) := by decide +kernel
theorem si_62_1 : decode (sp_b 62) 1 = .ok (.getfield 9, 3) := by decide +kernel
theorem sf_62_9 : sp_okF 62 9 2 0 162 = true := by decide +kernel
theorem si_62_4 : decode (sp_b 62) 4 = .ok (.iconst 0, 1) := by decide +kernel
theorem si_62_5 : decode (sp_b 62) 5 = .ok (.iaload, 1) := by decide +kernel
theorem si_62_6 : decode (sp_b 62) 6 = .ok (.istore_n 2, 1) := by decide +kernel
theorem si_62_7 : decode (sp_b 62) 7 = .ok (.iconst 0, 1) := by decide +kernel
theorem si_62_8 : decode (sp_b 62) 8 = .ok (.istore_n 3, 1) := by decide +kernel
theorem si_62_9 : decode (sp_b 62) 9 = .ok (.iload_n 3, 1) := by decide +kernel
theorem si_62_10 : decode (sp_b 62) 10 = .ok (.iconst 1, 1) := by decide +kernel
theorem si_62_11 : decode (sp_b 62) 11 = .ok (.iadd, 1) := by decide +kernel
theorem si_62_12 : decode (sp_b 62) 12 = .ok (.iload_n 1, 1) := by decide +kernel
theorem si_62_13 : decode (sp_b 62) 13 = .ok (.if_icmp .ge 23, 3) := by decide +kernel
theorem si_62_16 : decode (sp_b 62) 16 = .ok (.aload_n 0, 1) := by decide +kernel
theorem si_62_17 : decode (sp_b 62) 17 = .ok (.getfield 9, 3) := by decide +kernel
theorem si_62_20 : decode (sp_b 62) 20 = .ok (.iload_n 3, 1) := by decide +kernel
theorem si_62_21 : decode (sp_b 62) 21 = .ok (.aload_n 0, 1) := by decide +kernel
theorem si_62_22 : decode (sp_b 62) 22 = .ok (.getfield 9, 3) := by decide +kernel
theorem si_62_25 : decode (sp_b 62) 25 = .ok (.iload_n 3, 1) := by decide +kernel
theorem si_62_26 : decode (sp_b 62) 26 = .ok (.iconst 1, 1) := by decide +kernel
theorem si_62_27 : decode (sp_b 62) 27 = .ok (.iadd, 1) := by decide +kernel
theorem si_62_28 : decode (sp_b 62) 28 = .ok (.iaload, 1) := by decide +kernel
theorem si_62_29 : decode (sp_b 62) 29 = .ok (.iastore, 1) := by decide +kernel
theorem si_62_30 : decode (sp_b 62) 30 = .ok (.iinc 3 1, 3) := by decide +kernel
theorem si_62_33 : decode (sp_b 62) 33 = .ok (.goto (-24), 3) := by decide +kernel
theorem si_62_36 : decode (sp_b 62) 36 = .ok (.aload_n 0, 1) := by decide +kernel
theorem si_62_37 : decode (sp_b 62) 37 = .ok (.getfield 9, 3) := by decide +kernel
theorem si_62_40 : decode (sp_b 62) 40 = .ok (.iload_n 1, 1) := by decide +kernel
theorem si_62_41 : decode (sp_b 62) 41 = .ok (.iconst 1, 1) := by decide +kernel
theorem si_62_42 : decode (sp_b 62) 42 = .ok (.isub, 1) := by decide +kernel
theorem si_62_43 : decode (sp_b 62) 43 = .ok (.iconst 0, 1) := by decide +kernel
theorem si_62_44 : decode (sp_b 62) 44 = .ok (.iastore, 1) := by decide +kernel
theorem si_62_45 : decode (sp_b 62) 45 = .ok (.aload_n 0, 1) := by decide +kernel
theorem si_62_46 : decode (sp_b 62) 46 = .ok (.dup, 1) := by decide +kernel
theorem si_62_47 : decode (sp_b 62) 47 = .ok (.getfield 21, 3) := by decide +kernel
theorem sf_62_21 : sp_okF 62 21 2 1 168 = true := by decide +kernel
theorem si_62_50 : decode (sp_b 62) 50 = .ok (.iload_n 2, 1) := by decide +kernel
theorem si_62_51 : decode (sp_b 62) 51 = .ok (.iadd, 1) := by decide +kernel
theorem si_62_52 : decode (sp_b 62) 52 = .ok (.putfield 21, 3) := by decide +kernel
theorem si_62_55 : decode (sp_b 62) 55 = .ok (.iload_n 2, 1) := by decide +kernel
theorem si_62_56 : decode (sp_b 62) 56 = .ok (.ireturn, 1) := by decide +kernel
theorem si_63_0 : decode (sp_b 63) 0 = .ok (.aload_n 0, 1) := by decide +kernel
theorem si_63_1 : decode (sp_b 63) 1 = .ok (.getfield 9, 3) := by decide +kernel
theorem sf_63_9 : sp_okF 63 9 2 0 162 = true := by decide +kernel
theorem si_63_4 : decode (sp_b 63) 4 = .ok (.iload_n 1, 1) := by decide +kernel
theorem si_63_5 : decode (sp_b 63) 5 = .ok (.iconst 1, 1) := by decide +kernel
theorem si_63_6 : decode (sp_b 63) 6 = .ok (.isub, 1) := by decide +kernel
theorem si_63_7 : decode (sp_b 63) 7 = .ok (.iaload, 1) := by decide +kernel
theorem si_63_8 : decode (sp_b 63) 8 = .ok (.istore_n 2, 1) := by decide +kernel
theorem si_63_9 : decode (sp_b 63) 9 = .ok (.iload_n 1, 1) := by decide +kernel
theorem si_63_10 : decode (sp_b 63) 10 = .ok (.iconst 1, 1) := by decide +kernel
theorem si_63_11 : decode (sp_b 63) 11 = .ok (.isub, 1) := by decide +kernel
theorem si_63_12 : decode (sp_b 63) 12 = .ok (.istore_n 3, 1) := by decide +kernel
theorem si_63_13 : decode (sp_b 63) 13 = .ok (.iload_n 3, 1) := by decide +kernel
theorem si_63_14 : decode (sp_b 63) 14 = .ok (.ifCond .le 23, 3) := by decide +kernel
theorem si_63_17 : decode (sp_b 63) 17 = .ok (.aload_n 0, 1) := by decide +kernel
theorem si_63_18 : decode (sp_b 63) 18 = .ok (.getfield 9, 3) := by decide +kernel
theorem si_63_21 : decode (sp_b 63) 21 = .ok (.iload_n 3, 1) := by decide +kernel
theorem si_63_22 : decode (sp_b 63) 22 = .ok (.aload_n 0, 1) := by decide +kernel
theorem si_63_23 : decode (sp_b 63) 23 = .ok (.getfield 9, 3) := by decide +kernel
theorem si_63_26 : decode (sp_b 63) 26 = .ok (.iload_n 3, 1) := by decide +kernel
theorem si_63_27 : decode (sp_b 63) 27 = .ok (.iconst 1, 1) := by decide +kernel
theorem si_63_28 : decode (sp_b 63) 28 = .ok (.isub, 1) := by decide +kernel
theorem si_63_29 : decode (sp_b 63) 29 = .ok (.iaload, 1) := by decide +kernel
theorem si_63_30 : decode (sp_b 63) 30 = .ok (.iastore, 1) := by decide +kernel
theorem si_63_31 : decode (sp_b 63) 31 = .ok (.iinc 3 (-1), 3) := by decide +kernel
theorem si_63_34 : decode (sp_b 63) 34 = .ok (.goto (-21), 3) := by decide +kernel
theorem si_63_37 : decode (sp_b 63) 37 = .ok (.aload_n 0, 1) := by decide +kernel
theorem si_63_38 : decode (sp_b 63) 38 = .ok (.getfield 9, 3) := by decide +kernel
theorem si_63_41 : decode (sp_b 63) 41 = .ok (.iconst 0, 1) := by decide +kernel
theorem si_63_42 : decode (sp_b 63) 42 = .ok (.iconst 0, 1) := by decide +kernel
theorem si_63_43 : decode (sp_b 63) 43 = .ok (.iastore, 1) := by decide +kernel
theorem si_63_44 : decode (sp_b 63) 44 = .ok (.aload_n 0, 1) := by decide +kernel
theorem si_63_45 : decode (sp_b 63) 45 = .ok (.dup, 1) := by decide +kernel
theorem si_63_46 : decode (sp_b 63) 46 = .ok (.getfield 21, 3) := by decide +kernel
theorem sf_63_21 : sp_okF 63 21 2 1 168 = true := by decide +kernel
theorem si_63_49 : decode (sp_b 63) 49 = .ok (.iload_n 2, 1) := by decide +kernel
theorem si_63_50 : decode (sp_b 63) 50 = .ok (.iadd, 1) := by decide +kernel
theorem si_63_51 : decode (sp_b 63) 51 = .ok (.putfield 21, 3) := by decide +kernel
theorem si_63_54 : decode (sp_b 63) 54 = .ok (.iload_n 2, 1) := by decide +kernel
theorem si_63_55 : decode (sp_b 63) 55 = .ok (.ireturn, 1) := by decide +kernel
theorem si_64_0 : decode (sp_b 64) 0 = .ok (.aload_n 0, 1) := by decide +kernel
theorem si_64_1 : decode (sp_b 64) 1 = .ok (.getfield 32, 3) := by decide +kernel
theorem sf_64_32 : sp_okF 64 32 7 3 265 = true := by decide +kernel
theorem si_64_4 : decode (sp_b 64) 4 = .ok (.iload_n 1, 1) := by decide +kernel
theorem si_64_5 : decode (sp_b 64) 5 = .ok (.invokevirtual 148, 3) := by decide +kernel
theorem sk_64_148 : sp_okL 64 148 43 447 = true := by decide +kernel
theorem si_64_8 : decode (sp_b 64) 8 = .ok (.ifCond .ne 5, 3) := by decide +kernel
theorem si_64_11 : decode (sp_b 64) 11 = .ok (.iconst (-1), 1) := by decide +kernel
theorem si_64_12 : decode (sp_b 64) 12 = .ok (.ireturn, 1) := by decide +kernel
theorem si_64_13 : decode (sp_b 64) 13 = .ok (.aload_n 0, 1) := by decide +kernel
theorem si_64_14 : decode (sp_b 64) 14 = .ok (.getfield 49, 3) := by decide +kernel
theorem sf_64_49 : sp_okF 64 49 7 7 269 = true := by decide +kernel
theorem si_64_17 : decode (sp_b 64) 17 = .ok (.iconst 1, 1) := by decide +kernel
theorem si_64_18 : decode (sp_b 64) 18 = .ok (.invokevirtual 189, 3) := by decide +kernel
theorem sk_64_189 : sp_okL 64 189 54 494 = true := by decide +kernel
theorem si_64_21 : decode (sp_b 64) 21 = .ok (.ifCond .eq 6, 3) := by decide +kernel
theorem si_64_24 : decode (sp_b 64) 24 = .ok (.bipush (-2), 2) := by decide +kernel
theorem si_64_26 : decode (sp_b 64) 26 = .ok (.ireturn, 1) := by decide +kernel
theorem si_64_27 : decode (sp_b 64) 27 = .ok (.aload_n 0, 1) := by decide +kernel
theorem si_64_28 : decode (sp_b 64) 28 = .ok (.getfield 36, 3) := by decide +kernel
theorem sf_64_36 : sp_okF 64 36 7 4 266 = true := by decide +kernel
theorem si_64_31 : decode (sp_b 64) 31 = .ok (.iload_n 1, 1) := by decide +kernel
theorem si_64_32 : decode (sp_b 64) 32 = .ok (.aload_n 0, 1) := by decide +kernel
theorem si_64_33 : decode (sp_b 64) 33 = .ok (.getfield 49, 3) := by decide +kernel
theorem si_64_36 : decode (sp_b 64) 36 = .ok (.getfield 184, 3) := by decide +kernel
theorem sf_64_184 : sp_okF 64 184 6 2 226 = true := by decide +kernel
theorem si_64_39 : decode (sp_b 64) 39 = .ok (.invokevirtual 211, 3) := by decide +kernel
theorem sk_64_211 : sp_okL 64 211 65 540 = true := by decide +kernel
theorem si_64_42 : decode (sp_b 64) 42 = .ok (.istore_n 2, 1) := by decide +kernel
theorem si_64_43 : decode (sp_b 64) 43 = .ok (.aload_n 0, 1) := by decide +kernel
theorem si_64_44 : decode (sp_b 64) 44 = .ok (.getfield 49, 3) := by decide +kernel
theorem si_64_47 : decode (sp_b 64) 47 = .ok (.aload_n 0, 1) := by decide +kernel
theorem si_64_48 : decode (sp_b 64) 48 = .ok (.getfield 36, 3) := by decide +kernel
theorem si_64_51 : decode (sp_b 64) 51 = .ok (.invokevirtual 196, 3) := by decide +kernel
theorem sk_64_196 : sp_okL 64 196 58 511 = true := by decide +kernel
theorem si_64_54 : decode (sp_b 64) 54 = .ok (.iload_n 2, 1) := by decide +kernel
theorem si_64_55 : decode (sp_b 64) 55 = .ok (.ireturn, 1) := by decide +kernel
theorem si_65_0 : decode (sp_b 65) 0 = .ok (.iload_n 2, 1) := by decide +kernel
theorem si_65_1 : decode (sp_b 65) 1 = .ok (.aload_n 0, 1) := by decide +kernel
theorem si_65_2 : decode (sp_b 65) 2 = .ok (.getfield 9, 3) := by decide +kernel
theorem sf_65_9 : sp_okF 65 9 2 0 162 = true := by decide +kernel
theorem si_65_5 : decode (sp_b 65) 5 = .ok (.iload_n 1, 1) := by decide +kernel
theorem si_65_6 : decode (sp_b 65) 6 = .ok (.iaload, 1) := by decide +kernel
theorem si_65_7 : decode (sp_b 65) 7 = .ok (.invokestatic 37, 3) := by decide +kernel
theorem sk_65_37 : sp_okL 65 37 48 506 = true := by decide +kernel
theorem si_65_10 : decode (sp_b 65) 10 = .ok (.istore_n 3, 1) := by decide +kernel
theorem si_65_11 : decode (sp_b 65) 11 = .ok (.aload_n 0, 1) := by decide +kernel
theorem si_65_12 : decode (sp_b 65) 12 = .ok (.getfield 9, 3) := by decide +kernel
theorem si_65_15 : decode (sp_b 65) 15 = .ok (.iload_n 1, 1) := by decide +kernel
theorem si_65_16 : decode (sp_b 65) 16 = .ok (.dup2, 1) := by decide +kernel
theorem si_65_17 : decode (sp_b 65) 17 = .ok (.iaload, 1) := by decide +kernel
theorem si_65_18 : decode (sp_b 65) 18 = .ok (.iload_n 3, 1) := by decide +kernel
theorem si_65_19 : decode (sp_b 65) 19 = .ok (.isub, 1) := by decide +kernel
theorem si_65_20 : decode (sp_b 65) 20 = .ok (.iastore, 1) := by decide +kernel
theorem si_65_21 : decode (sp_b 65) 21 = .ok (.aload_n 0, 1) := by decide +kernel
theorem si_65_22 : decode (sp_b 65) 22 = .ok (.dup, 1) := by decide +kernel
theorem si_65_23 : decode (sp_b 65) 23 = .ok (.getfield 21, 3) := by decide +kernel
theorem sf_65_21 : sp_okF 65 21 2 1 168 = true := by decide +kernel
theorem si_65_26 : decode (sp_b 65) 26 = .ok (.iload_n 3, 1) := by decide +kernel
theorem si_65_27 : decode (sp_b 65) 27 = .ok (.iadd, 1) := by decide +kernel
theorem si_65_28 : decode (sp_b 65) 28 = .ok (.putfield 21, 3) := by decide +kernel
theorem si_65_31 : decode (sp_b 65) 31 = .ok (.iload_n 3, 1) := by decide +kernel
theorem si_65_32 : decode (sp_b 65) 32 = .ok (.ireturn, 1) := by decide +kernel
theorem si_66_0 : decode (sp_b 66) 0 = .ok (.iload_n 1, 1) := by decide +kernel
theorem si_66_1 : decode (sp_b 66) 1 = .ok (.ifCond .lt 14, 3) := by decide +kernel
theorem si_66_4 : decode (sp_b 66) 4 = .ok (.iload_n 1, 1) := by decide +kernel
theorem si_66_5 : decode (sp_b 66) 5 = .ok (.aload_n 0, 1) := by decide +kernel
theorem si_66_6 : decode (sp_b 66) 6 = .ok (.getfield 49, 3) := by decide +kernel
theorem sf_66_49 : sp_okF 66 49 7 7 269 = true := by decide +kernel
theorem si_66_9 : decode (sp_b 66) 9 = .ok (.getfield 214, 3) := by decide +kernel
theorem sf_66_214 : sp_okF 66 214 6 1 224 = true := by decide +kernel
theorem si_66_12 : decode (sp_b 66) 12 = .ok (.if_icmp .le 5, 3) := by decide +kernel
theorem si_66_15 : decode (sp_b 66) 15 = .ok (.iconst (-1), 1) := by decide +kernel
theorem si_66_16 : decode (sp_b 66) 16 = .ok (.ireturn, 1) := by decide +kernel
theorem si_66_17 : decode (sp_b 66) 17 = .ok (.aload_n 0, 1) := by decide +kernel
theorem si_66_18 : decode (sp_b 66) 18 = .ok (.getfield 49, 3) := by decide +kernel
theorem si_66_21 : decode (sp_b 66) 21 = .ok (.getfield 214, 3) := by decide +kernel
theorem si_66_24 : decode (sp_b 66) 24 = .ok (.iload_n 1, 1) := by decide +kernel
theorem si_66_25 : decode (sp_b 66) 25 = .ok (.isub, 1) := by decide +kernel
theorem si_66_26 : decode (sp_b 66) 26 = .ok (.istore_n 2, 1) := by decide +kernel
theorem si_66_27 : decode (sp_b 66) 27 = .ok (.aload_n 0, 1) := by decide +kernel
theorem si_66_28 : decode (sp_b 66) 28 = .ok (.getfield 49, 3) := by decide +kernel
theorem si_66_31 : decode (sp_b 66) 31 = .ok (.iload_n 1, 1) := by decide +kernel
theorem si_66_32 : decode (sp_b 66) 32 = .ok (.putfield 214, 3) := by decide +kernel
theorem si_66_35 : decode (sp_b 66) 35 = .ok (.aload_n 0, 1) := by decide +kernel
theorem si_66_36 : decode (sp_b 66) 36 = .ok (.getfield 49, 3) := by decide +kernel
theorem si_66_39 : decode (sp_b 66) 39 = .ok (.aload_n 0, 1) := by decide +kernel
theorem si_66_40 : decode (sp_b 66) 40 = .ok (.getfield 36, 3) := by decide +kernel
theorem sf_66_36 : sp_okF 66 36 7 4 266 = true := by decide +kernel
theorem si_66_43 : decode (sp_b 66) 43 = .ok (.invokevirtual 217, 3) := by decide +kernel
theorem sk_66_217 : sp_okL 66 217 67 548 = true := by decide +kernel
theorem si_66_46 : decode (sp_b 66) 46 = .ok (.iload_n 2, 1) := by decide +kernel
theorem si_66_47 : decode (sp_b 66) 47 = .ok (.ireturn, 1) := by decide +kernel
theorem si_67_0 : decode (sp_b 67) 0 = .ok (.aload_n 0, 1) := by decide +kernel
theorem si_67_1 : decode (sp_b 67) 1 = .ok (.getfield 21, 3) := by decide +kernel
theorem sf_67_21 : sp_okF 67 21 6 1 223 = true := by decide +kernel
theorem si_67_4 : decode (sp_b 67) 4 = .ok (.bipush 9, 2) := by decide +kernel
theorem si_67_6 : decode (sp_b 67) 6 = .ok (.imul, 1) := by decide +kernel
theorem si_67_7 : decode (sp_b 67) 7 = .ok (.istore_n 2, 1) := by decide +kernel
theorem si_67_8 : decode (sp_b 67) 8 = .ok (.aload_n 0, 1) := by decide +kernel
theorem si_67_9 : decode (sp_b 67) 9 = .ok (.getfield 11, 3) := by decide +kernel
theorem sf_67_11 : sp_okF 67 11 6 0 222 = true := by decide +kernel
theorem si_67_12 : decode (sp_b 67) 12 = .ok (.iload_n 2, 1) := by decide +kernel
theorem si_67_13 : decode (sp_b 67) 13 = .ok (.aload_n 1, 1) := by decide +kernel
theorem si_67_14 : decode (sp_b 67) 14 = .ok (.getfield 32, 3) := by decide +kernel
theorem sf_67_32 : sp_okF 67 32 2 0 165 = true := by decide +kernel
theorem si_67_17 : decode (sp_b 67) 17 = .ok (.iconst 0, 1) := by decide +kernel
theorem si_67_18 : decode (sp_b 67) 18 = .ok (.bipush 6, 2) := by decide +kernel
theorem si_67_20 : decode (sp_b 67) 20 = .ok (.invokestatic 35, 3) := by decide +kernel
theorem sk_67_35 : sp_has 442 (.methodLink (sp_y 67).cls 35 arraycopyName) = true := by decide +kernel
theorem si_67_23 : decode (sp_b 67) 23 = .ok (.aload_n 1, 1) := by decide +kernel
theorem si_67_24 : decode (sp_b 67) 24 = .ok (.aload_n 0, 1) := by decide +kernel
theorem si_67_25 : decode (sp_b 67) 25 = .ok (.getfield 11, 3) := by decide +kernel
theorem si_67_28 : decode (sp_b 67) 28 = .ok (.iload_n 2, 1) := by decide +kernel
theorem si_67_29 : decode (sp_b 67) 29 = .ok (.bipush 6, 2) := by decide +kernel
theorem si_67_31 : decode (sp_b 67) 31 = .ok (.iadd, 1) := by decide +kernel
theorem si_67_32 : decode (sp_b 67) 32 = .ok (.iaload, 1) := by decide +kernel
theorem si_67_33 : decode (sp_b 67) 33 = .ok (.putfield 41, 3) := by decide +kernel
theorem sf_67_41 : sp_okF 67 41 2 1 169 = true := by decide +kernel
theorem si_67_36 : decode (sp_b 67) 36 = .ok (.aload_n 1, 1) := by decide +kernel
theorem si_67_37 : decode (sp_b 67) 37 = .ok (.aload_n 0, 1) := by decide +kernel
theorem si_67_38 : decode (sp_b 67) 38 = .ok (.getfield 11, 3) := by decide +kernel
theorem si_67_41 : decode (sp_b 67) 41 = .ok (.iload_n 2, 1) := by decide +kernel
theorem si_67_42 : decode (sp_b 67) 42 = .ok (.bipush 6, 2) := by decide +kernel
theorem si_67_44 : decode (sp_b 67) 44 = .ok (.iadd, 1) := by decide +kernel
theorem si_67_45 : decode (sp_b 67) 45 = .ok (.iconst 1, 1) := by decide +kernel
theorem si_67_46 : decode (sp_b 67) 46 = .ok (.iadd, 1) := by decide +kernel
theorem si_67_47 : decode (sp_b 67) 47 = .ok (.iaload, 1) := by decide +kernel
theorem si_67_48 : decode (sp_b 67) 48 = .ok (.putfield 44, 3) := by decide +kernel
theorem sf_67_44 : sp_okF 67 44 2 2 172 = true := by decide +kernel
theorem si_67_51 : decode (sp_b 67) 51 = .ok (.aload_n 1, 1) := by decide +kernel
theorem si_67_52 : decode (sp_b 67) 52 = .ok (.aload_n 0, 1) := by decide +kernel
theorem si_67_53 : decode (sp_b 67) 53 = .ok (.getfield 11, 3) := by decide +kernel
theorem si_67_56 : decode (sp_b 67) 56 = .ok (.iload_n 2, 1) := by decide +kernel
theorem si_67_57 : decode (sp_b 67) 57 = .ok (.bipush 6, 2) := by decide +kernel
theorem si_67_59 : decode (sp_b 67) 59 = .ok (.iadd, 1) := by decide +kernel
theorem si_67_60 : decode (sp_b 67) 60 = .ok (.iconst 2, 1) := by decide +kernel
theorem si_67_61 : decode (sp_b 67) 61 = .ok (.iadd, 1) := by decide +kernel
theorem si_67_62 : decode (sp_b 67) 62 = .ok (.iaload, 1) := by decide +kernel
theorem si_67_63 : decode (sp_b 67) 63 = .ok (.putfield 47, 3) := by decide +kernel
theorem sf_67_47 : sp_okF 67 47 2 3 176 = true := by decide +kernel
theorem si_67_66 : decode (sp_b 67) 66 = .ok (.return_, 1) := by decide +kernel
theorem si_68_0 : decode (sp_b 68) 0 = .ok (.aload_n 0, 1) := by decide +kernel
theorem si_68_1 : decode (sp_b 68) 1 = .ok (.getfield 32, 3) := by decide +kernel
theorem sf_68_32 : sp_okF 68 32 7 3 265 = true := by decide +kernel
theorem si_68_4 : decode (sp_b 68) 4 = .ok (.aload_n 0, 1) := by decide +kernel
theorem si_68_5 : decode (sp_b 68) 5 = .ok (.getfield 36, 3) := by decide +kernel
theorem sf_68_36 : sp_okF 68 36 7 4 266 = true := by decide +kernel
theorem si_68_8 : decode (sp_b 68) 8 = .ok (.invokevirtual 175, 3) := by decide +kernel
theorem sk_68_175 : sp_okL 68 175 50 475 = true := by decide +kernel
theorem si_68_11 : decode (sp_b 68) 11 = .ok (.ireturn, 1) := by decide +kernel
theorem si_69_0 : decode (sp_b 69) 0 = .ok (.iload_n 1, 1) := by decide +kernel
theorem si_69_1 : decode (sp_b 69) 1 = .ok (.ifCond .lt 8, 3) := by decide +kernel
theorem si_69_4 : decode (sp_b 69) 4 = .ok (.iload_n 1, 1) := by decide +kernel
theorem si_69_5 : decode (sp_b 69) 5 = .ok (.iconst 3, 1) := by decide +kernel
theorem si_69_6 : decode (sp_b 69) 6 = .ok (.if_icmp .lt 5, 3) := by decide +kernel
theorem si_69_9 : decode (sp_b 69) 9 = .ok (.iconst (-1), 1) := by decide +kernel
theorem si_69_10 : decode (sp_b 69) 10 = .ok (.ireturn, 1) := by decide +kernel
theorem si_69_11 : decode (sp_b 69) 11 = .ok (.aload_n 0, 1) := by decide +kernel
theorem si_69_12 : decode (sp_b 69) 12 = .ok (.getfield 32, 3) := by decide +kernel
theorem sf_69_32 : sp_okF 69 32 7 3 265 = true := by decide +kernel
theorem si_69_15 : decode (sp_b 69) 15 = .ok (.getfield 145, 3) := by decide +kernel
theorem sf_69_145 : sp_okF 69 145 0 3 130 = true := by decide +kernel
theorem si_69_18 : decode (sp_b 69) 18 = .ok (.ifCond .ne 6, 3) := by decide +kernel
theorem si_69_21 : decode (sp_b 69) 21 = .ok (.bipush (-4), 2) := by decide +kernel
theorem si_69_23 : decode (sp_b 69) 23 = .ok (.ireturn, 1) := by decide +kernel
theorem si_69_24 : decode (sp_b 69) 24 = .ok (.aload_n 0, 1) := by decide +kernel
theorem si_69_25 : decode (sp_b 69) 25 = .ok (.getfield 53, 3) := by decide +kernel
theorem sf_69_53 : sp_okF 69 53 7 8 270 = true := by decide +kernel
theorem si_69_28 : decode (sp_b 69) 28 = .ok (.iload_n 1, 1) := by decide +kernel
theorem si_69_29 : decode (sp_b 69) 29 = .ok (.aaload, 1) := by decide +kernel
theorem si_69_30 : decode (sp_b 69) 30 = .ok (.aload_n 0, 1) := by decide +kernel
theorem si_69_31 : decode (sp_b 69) 31 = .ok (.getfield 49, 3) := by decide +kernel
theorem sf_69_49 : sp_okF 69 49 7 7 269 = true := by decide +kernel
theorem si_69_34 : decode (sp_b 69) 34 = .ok (.invokevirtual 220, 3) := by decide +kernel
theorem sk_69_220 : sp_okL 69 220 70 560 = true := by decide +kernel
theorem si_69_37 : decode (sp_b 69) 37 = .ok (.aload_n 0, 1) := by decide +kernel
theorem si_69_38 : decode (sp_b 69) 38 = .ok (.getfield 49, 3) := by decide +kernel
theorem si_69_41 : decode (sp_b 69) 41 = .ok (.getfield 214, 3) := by decide +kernel
theorem sf_69_214 : sp_okF 69 214 6 1 224 = true := by decide +kernel
theorem si_69_44 : decode (sp_b 69) 44 = .ok (.ireturn, 1) := by decide +kernel
theorem si_70_0 : decode (sp_b 70) 0 = .ok (.aload_n 0, 1) := by decide +kernel
theorem si_70_1 : decode (sp_b 70) 1 = .ok (.aload_n 1, 1) := by decide +kernel
theorem si_70_2 : decode (sp_b 70) 2 = .ok (.getfield 21, 3) := by decide +kernel
theorem sf_70_21 : sp_okF 70 21 6 1 223 = true := by decide +kernel
theorem si_70_5 : decode (sp_b 70) 5 = .ok (.putfield 21, 3) := by decide +kernel
theorem si_70_8 : decode (sp_b 70) 8 = .ok (.aload_n 0, 1) := by decide +kernel
theorem si_70_9 : decode (sp_b 70) 9 = .ok (.aload_n 1, 1) := by decide +kernel
theorem si_70_10 : decode (sp_b 70) 10 = .ok (.getfield 17, 3) := by decide +kernel
theorem sf_70_17 : sp_okF 70 17 6 2 225 = true := by decide +kernel
theorem si_70_13 : decode (sp_b 70) 13 = .ok (.putfield 17, 3) := by decide +kernel
theorem si_70_16 : decode (sp_b 70) 16 = .ok (.aload_n 0, 1) := by decide +kernel
theorem si_70_17 : decode (sp_b 70) 17 = .ok (.iconst 1, 1) := by decide +kernel
theorem si_70_18 : decode (sp_b 70) 18 = .ok (.putfield 50, 3) := by decide +kernel
theorem sf_70_50 : sp_okF 70 50 6 3 227 = true := by decide +kernel
theorem si_70_21 : decode (sp_b 70) 21 = .ok (.aload_n 1, 1) := by decide +kernel
theorem si_70_22 : decode (sp_b 70) 22 = .ok (.getfield 11, 3) := by decide +kernel
theorem sf_70_11 : sp_okF 70 11 6 0 222 = true := by decide +kernel
theorem si_70_25 : decode (sp_b 70) 25 = .ok (.iconst 0, 1) := by decide +kernel
theorem si_70_26 : decode (sp_b 70) 26 = .ok (.aload_n 0, 1) := by decide +kernel
theorem si_70_27 : decode (sp_b 70) 27 = .ok (.getfield 11, 3) := by decide +kernel
theorem si_70_30 : decode (sp_b 70) 30 = .ok (.iconst 0, 1) := by decide +kernel
theorem si_70_31 : decode (sp_b 70) 31 = .ok (.aload_n 0, 1) := by decide +kernel
theorem si_70_32 : decode (sp_b 70) 32 = .ok (.getfield 21, 3) := by decide +kernel
theorem si_70_35 : decode (sp_b 70) 35 = .ok (.iconst 1, 1) := by decide +kernel
theorem si_70_36 : decode (sp_b 70) 36 = .ok (.iadd, 1) := by decide +kernel
theorem si_70_37 : decode (sp_b 70) 37 = .ok (.bipush 9, 2) := by decide +kernel
theorem si_70_39 : decode (sp_b 70) 39 = .ok (.imul, 1) := by decide +kernel
theorem si_70_40 : decode (sp_b 70) 40 = .ok (.invokestatic 35, 3) := by decide +kernel
theorem sk_70_35 : sp_has 442 (.methodLink (sp_y 70).cls 35 arraycopyName) = true := by decide +kernel
theorem si_70_43 : decode (sp_b 70) 43 = .ok (.return_, 1) := by decide +kernel
theorem si_71_0 : decode (sp_b 71) 0 = .ok (.iload_n 1, 1) := by decide +kernel
theorem si_71_1 : decode (sp_b 71) 1 = .ok (.ifCond .lt 8, 3) := by decide +kernel
theorem si_71_4 : decode (sp_b 71) 4 = .ok (.iload_n 1, 1) := by decide +kernel
theorem si_71_5 : decode (sp_b 71) 5 = .ok (.iconst 3, 1) := by decide +kernel
theorem si_71_6 : decode (sp_b 71) 6 = .ok (.if_icmp .lt 5, 3) := by decide +kernel
theorem si_71_9 : decode (sp_b 71) 9 = .ok (.iconst (-1), 1) := by decide +kernel
theorem si_71_10 : decode (sp_b 71) 10 = .ok (.ireturn, 1) := by decide +kernel
theorem si_71_11 : decode (sp_b 71) 11 = .ok (.aload_n 0, 1) := by decide +kernel
theorem si_71_12 : decode (sp_b 71) 12 = .ok (.getfield 53, 3) := by decide +kernel
theorem sf_71_53 : sp_okF 71 53 7 8 270 = true := by decide +kernel
theorem si_71_15 : decode (sp_b 71) 15 = .ok (.iload_n 1, 1) := by decide +kernel
theorem si_71_16 : decode (sp_b 71) 16 = .ok (.aaload, 1) := by decide +kernel
theorem si_71_17 : decode (sp_b 71) 17 = .ok (.getfield 141, 3) := by decide +kernel
theorem sf_71_141 : sp_okF 71 141 6 3 228 = true := by decide +kernel
theorem si_71_20 : decode (sp_b 71) 20 = .ok (.ifCond .ne 9, 3) := by decide +kernel
theorem si_71_23 : decode (sp_b 71) 23 = .ok (.aload_n 0, 1) := by decide +kernel
theorem si_71_24 : decode (sp_b 71) 24 = .ok (.iconst 1, 1) := by decide +kernel
theorem si_71_25 : decode (sp_b 71) 25 = .ok (.invokevirtual 76, 3) := by decide +kernel
theorem sk_71_76 : sp_okL 71 76 12 316 = true := by decide +kernel
theorem si_71_28 : decode (sp_b 71) 28 = .ok (.ireturn, 1) := by decide +kernel
theorem si_71_29 : decode (sp_b 71) 29 = .ok (.aload_n 0, 1) := by decide +kernel
theorem si_71_30 : decode (sp_b 71) 30 = .ok (.getfield 49, 3) := by decide +kernel
theorem sf_71_49 : sp_okF 71 49 7 7 269 = true := by decide +kernel
theorem si_71_33 : decode (sp_b 71) 33 = .ok (.aload_n 0, 1) := by decide +kernel
theorem si_71_34 : decode (sp_b 71) 34 = .ok (.getfield 53, 3) := by decide +kernel
theorem si_71_37 : decode (sp_b 71) 37 = .ok (.iload_n 1, 1) := by decide +kernel
theorem si_71_38 : decode (sp_b 71) 38 = .ok (.aaload, 1) := by decide +kernel
theorem si_71_39 : decode (sp_b 71) 39 = .ok (.invokevirtual 220, 3) := by decide +kernel
theorem sk_71_220 : sp_okL 71 220 70 560 = true := by decide +kernel
theorem si_71_42 : decode (sp_b 71) 42 = .ok (.aload_n 0, 1) := by decide +kernel
theorem si_71_43 : decode (sp_b 71) 43 = .ok (.getfield 49, 3) := by decide +kernel
theorem si_71_46 : decode (sp_b 71) 46 = .ok (.aload_n 0, 1) := by decide +kernel
theorem si_71_47 : decode (sp_b 71) 47 = .ok (.getfield 36, 3) := by decide +kernel
theorem sf_71_36 : sp_okF 71 36 7 4 266 = true := by decide +kernel
theorem si_71_50 : decode (sp_b 71) 50 = .ok (.invokevirtual 217, 3) := by decide +kernel
theorem sk_71_217 : sp_okL 71 217 67 548 = true := by decide +kernel
theorem si_71_53 : decode (sp_b 71) 53 = .ok (.aload_n 0, 1) := by decide +kernel
theorem si_71_54 : decode (sp_b 71) 54 = .ok (.getfield 49, 3) := by decide +kernel
theorem si_71_57 : decode (sp_b 71) 57 = .ok (.getfield 214, 3) := by decide +kernel
theorem sf_71_214 : sp_okF 71 214 6 1 224 = true := by decide +kernel
theorem si_71_60 : decode (sp_b 71) 60 = .ok (.ireturn, 1) := by decide +kernel
theorem si_72_0 : decode (sp_b 72) 0 = .ok (.aload_n 0, 1) := by decide +kernel
theorem si_72_1 : decode (sp_b 72) 1 = .ok (.getfield 14, 3) := by decide +kernel
theorem sf_72_14 : sp_okF 72 14 7 0 262 = true := by decide +kernel
theorem si_72_4 : decode (sp_b 72) 4 = .ok (.iload_n 1, 1) := by decide +kernel
theorem si_72_5 : decode (sp_b 72) 5 = .ok (.invokevirtual 72, 3) := by decide +kernel
theorem sk_72_72 : sp_okL 72 72 11 312 = true := by decide +kernel
theorem si_72_8 : decode (sp_b 72) 8 = .ok (.ifCond .ne 5, 3) := by decide +kernel
theorem si_72_11 : decode (sp_b 72) 11 = .ok (.iconst (-1), 1) := by decide +kernel
theorem si_72_12 : decode (sp_b 72) 12 = .ok (.ireturn, 1) := by decide +kernel
theorem si_72_13 : decode (sp_b 72) 13 = .ok (.aload_n 0, 1) := by decide +kernel
theorem si_72_14 : decode (sp_b 72) 14 = .ok (.iload_n 1, 1) := by decide +kernel
theorem si_72_15 : decode (sp_b 72) 15 = .ok (.invokevirtual 223, 3) := by decide +kernel
theorem sk_72_223 : sp_okL 72 223 73 572 = true := by decide +kernel
theorem si_72_18 : decode (sp_b 72) 18 = .ok (.istore_n 2, 1) := by decide +kernel
theorem si_72_19 : decode (sp_b 72) 19 = .ok (.iload_n 2, 1) := by decide +kernel
theorem si_72_20 : decode (sp_b 72) 20 = .ok (.ifCond .eq 9, 3) := by decide +kernel
theorem si_72_23 : decode (sp_b 72) 23 = .ok (.aload_n 0, 1) := by decide +kernel
theorem si_72_24 : decode (sp_b 72) 24 = .ok (.iload_n 2, 1) := by decide +kernel
theorem si_72_25 : decode (sp_b 72) 25 = .ok (.invokevirtual 76, 3) := by decide +kernel
theorem sk_72_76 : sp_okL 72 76 12 316 = true := by decide +kernel
theorem si_72_28 : decode (sp_b 72) 28 = .ok (.ireturn, 1) := by decide +kernel
theorem si_72_29 : decode (sp_b 72) 29 = .ok (.aload_n 0, 1) := by decide +kernel
theorem si_72_30 : decode (sp_b 72) 30 = .ok (.getfield 40, 3) := by decide +kernel
theorem sf_72_40 : sp_okF 72 40 7 5 267 = true := by decide +kernel
theorem si_72_33 : decode (sp_b 72) 33 = .ok (.aload_n 0, 1) := by decide +kernel
theorem si_72_34 : decode (sp_b 72) 34 = .ok (.getfield 36, 3) := by decide +kernel
theorem sf_72_36 : sp_okF 72 36 7 4 266 = true := by decide +kernel
theorem si_72_37 : decode (sp_b 72) 37 = .ok (.invokevirtual 131, 3) := by decide +kernel
theorem sk_72_131 : sp_okL 72 131 39 429 = true := by decide +kernel
theorem si_72_40 : decode (sp_b 72) 40 = .ok (.aload_n 0, 1) := by decide +kernel
theorem si_72_41 : decode (sp_b 72) 41 = .ok (.getfield 32, 3) := by decide +kernel
theorem sf_72_32 : sp_okF 72 32 7 3 265 = true := by decide +kernel
theorem si_72_44 : decode (sp_b 72) 44 = .ok (.aload_n 0, 1) := by decide +kernel
theorem si_72_45 : decode (sp_b 72) 45 = .ok (.getfield 14, 3) := by decide +kernel
theorem si_72_48 : decode (sp_b 72) 48 = .ok (.iload_n 1, 1) := by decide +kernel
theorem si_72_49 : decode (sp_b 72) 49 = .ok (.aload_n 0, 1) := by decide +kernel
theorem si_72_50 : decode (sp_b 72) 50 = .ok (.getfield 40, 3) := by decide +kernel
theorem si_72_53 : decode (sp_b 72) 53 = .ok (.invokevirtual 226, 3) := by decide +kernel
theorem sk_72_226 : sp_okL 72 226 74 576 = true := by decide +kernel
theorem si_72_56 : decode (sp_b 72) 56 = .ok (.istore_n 3, 1) := by decide +kernel
theorem si_72_57 : decode (sp_b 72) 57 = .ok (.aload_n 0, 1) := by decide +kernel
theorem si_72_58 : decode (sp_b 72) 58 = .ok (.aload_n 0, 1) := by decide +kernel
theorem si_72_59 : decode (sp_b 72) 59 = .ok (.getfield 40, 3) := by decide +kernel
theorem si_72_62 : decode (sp_b 72) 62 = .ok (.getfield 172, 3) := by decide +kernel
theorem sf_72_172 : sp_okF 72 172 2 1 170 = true := by decide +kernel
theorem si_72_65 : decode (sp_b 72) 65 = .ok (.aload_n 0, 1) := by decide +kernel
theorem si_72_66 : decode (sp_b 72) 66 = .ok (.getfield 36, 3) := by decide +kernel
theorem si_72_69 : decode (sp_b 72) 69 = .ok (.getfield 172, 3) := by decide +kernel
theorem si_72_72 : decode (sp_b 72) 72 = .ok (.isub, 1) := by decide +kernel
theorem si_72_73 : decode (sp_b 72) 73 = .ok (.putfield 92, 3) := by decide +kernel
theorem sf_72_92 : sp_okF 72 92 7 12 274 = true := by decide +kernel
theorem si_72_76 : decode (sp_b 72) 76 = .ok (.iload_n 3, 1) := by decide +kernel
theorem si_72_77 : decode (sp_b 72) 77 = .ok (.ireturn, 1) := by decide +kernel
theorem si_73_0 : decode (sp_b 73) 0 = .ok (.aload_n 0, 1) := by decide +kernel
theorem si_73_1 : decode (sp_b 73) 1 = .ok (.getfield 14, 3) := by decide +kernel
theorem sf_73_14 : sp_okF 73 14 7 0 262 = true := by decide +kernel
theorem si_73_4 : decode (sp_b 73) 4 = .ok (.iload_n 1, 1) := by decide +kernel
theorem si_73_5 : decode (sp_b 73) 5 = .ok (.invokevirtual 99, 3) := by decide +kernel
theorem sk_73_99 : sp_okL 73 99 16 331 = true := by decide +kernel
theorem si_73_8 : decode (sp_b 73) 8 = .ok (.ifCond .ne 5, 3) := by decide +kernel
theorem si_73_11 : decode (sp_b 73) 11 = .ok (.iconst 1, 1) := by decide +kernel
theorem si_73_12 : decode (sp_b 73) 12 = .ok (.ireturn, 1) := by decide +kernel
theorem si_73_13 : decode (sp_b 73) 13 = .ok (.aload_n 0, 1) := by decide +kernel
theorem si_73_14 : decode (sp_b 73) 14 = .ok (.getfield 14, 3) := by decide +kernel
theorem si_73_17 : decode (sp_b 73) 17 = .ok (.iload_n 1, 1) := by decide +kernel
theorem si_73_18 : decode (sp_b 73) 18 = .ok (.invokevirtual 114, 3) := by decide +kernel
theorem sk_73_114 : sp_okL 73 114 26 374 = true := by decide +kernel
theorem si_73_21 : decode (sp_b 73) 21 = .ok (.istore_n 2, 1) := by decide +kernel
theorem si_73_22 : decode (sp_b 73) 22 = .ok (.iload_n 2, 1) := by decide +kernel
theorem si_73_23 : decode (sp_b 73) 23 = .ok (.bipush 12, 2) := by decide +kernel
theorem si_73_25 : decode (sp_b 73) 25 = .ok (.if_icmp .le 5, 3) := by decide +kernel
theorem si_73_28 : decode (sp_b 73) 28 = .ok (.iconst 5, 1) := by decide +kernel
theorem si_73_29 : decode (sp_b 73) 29 = .ok (.ireturn, 1) := by decide +kernel
theorem si_73_30 : decode (sp_b 73) 30 = .ok (.iconst 0, 1) := by decide +kernel
theorem si_73_31 : decode (sp_b 73) 31 = .ok (.istore_n 3, 1) := by decide +kernel
theorem si_73_32 : decode (sp_b 73) 32 = .ok (.iload_n 3, 1) := by decide +kernel
theorem si_73_33 : decode (sp_b 73) 33 = .ok (.iload_n 2, 1) := by decide +kernel
theorem si_73_34 : decode (sp_b 73) 34 = .ok (.if_icmp .ge 30, 3) := by decide +kernel
theorem si_73_37 : decode (sp_b 73) 37 = .ok (.aload_n 0, 1) := by decide +kernel
theorem si_73_38 : decode (sp_b 73) 38 = .ok (.getfield 32, 3) := by decide +kernel
theorem sf_73_32 : sp_okF 73 32 7 3 265 = true := by decide +kernel
theorem si_73_41 : decode (sp_b 73) 41 = .ok (.aload_n 0, 1) := by decide +kernel
theorem si_73_42 : decode (sp_b 73) 42 = .ok (.getfield 14, 3) := by decide +kernel
theorem si_73_45 : decode (sp_b 73) 45 = .ok (.iload_n 1, 1) := by decide +kernel
theorem si_73_46 : decode (sp_b 73) 46 = .ok (.iload_n 3, 1) := by decide +kernel
theorem si_73_47 : decode (sp_b 73) 47 = .ok (.invokevirtual 88, 3) := by decide +kernel
theorem sk_73_88 : sp_okL 73 88 18 339 = true := by decide +kernel
theorem si_73_50 : decode (sp_b 73) 50 = .ok (.invokevirtual 148, 3) := by decide +kernel
theorem sk_73_148 : sp_okL 73 148 43 447 = true := by decide +kernel
theorem si_73_53 : decode (sp_b 73) 53 = .ok (.ifCond .ne 5, 3) := by decide +kernel
theorem si_73_56 : decode (sp_b 73) 56 = .ok (.iconst 3, 1) := by decide +kernel
theorem si_73_57 : decode (sp_b 73) 57 = .ok (.ireturn, 1) := by decide +kernel
theorem si_73_58 : decode (sp_b 73) 58 = .ok (.iinc 3 1, 3) := by decide +kernel
theorem si_73_61 : decode (sp_b 73) 61 = .ok (.goto (-29), 3) := by decide +kernel
theorem si_73_64 : decode (sp_b 73) 64 = .ok (.iconst 0, 1) := by decide +kernel
theorem si_73_65 : decode (sp_b 73) 65 = .ok (.ireturn, 1) := by decide +kernel
theorem si_74_0 : decode (sp_b 74) 0 = .ok (.aload_n 1, 1) := by decide +kernel
theorem si_74_1 : decode (sp_b 74) 1 = .ok (.iload_n 2, 1) := by decide +kernel
theorem si_74_2 : decode (sp_b 74) 2 = .ok (.invokevirtual 67, 3) := by decide +kernel
theorem sk_74_67 : sp_okL 74 67 26 580 = true := by decide +kernel
theorem si_74_5 : decode (sp_b 74) 5 = .ok (.istore 4, 2) := by decide +kernel
theorem si_74_7 : decode (sp_b 74) 7 = .ok (.iconst 0, 1) := by decide +kernel
theorem si_74_8 : decode (sp_b 74) 8 = .ok (.istore 5, 2) := by decide +kernel
theorem si_74_10 : decode (sp_b 74) 10 = .ok (.iload 5, 2) := by decide +kernel
theorem si_74_12 : decode (sp_b 74) 12 = .ok (.iload 4, 2) := by decide +kernel
theorem si_74_14 : decode (sp_b 74) 14 = .ok (.if_icmp .ge 38, 3) := by decide +kernel
theorem si_74_17 : decode (sp_b 74) 17 = .ok (.aload_n 1, 1) := by decide +kernel
theorem si_74_18 : decode (sp_b 74) 18 = .ok (.iload_n 2, 1) := by decide +kernel
theorem si_74_19 : decode (sp_b 74) 19 = .ok (.iload 5, 2) := by decide +kernel
theorem si_74_21 : decode (sp_b 74) 21 = .ok (.invokevirtual 73, 3) := by decide +kernel
theorem sk_74_73 : sp_okL 74 73 18 581 = true := by decide +kernel
theorem si_74_24 : decode (sp_b 74) 24 = .ok (.istore 6, 2) := by decide +kernel
theorem si_74_26 : decode (sp_b 74) 26 = .ok (.aload_n 0, 1) := by decide +kernel
theorem si_74_27 : decode (sp_b 74) 27 = .ok (.iload 6, 2) := by decide +kernel
theorem si_74_29 : decode (sp_b 74) 29 = .ok (.aload_n 3, 1) := by decide +kernel
theorem si_74_30 : decode (sp_b 74) 30 = .ok (.invokevirtual 53, 3) := by decide +kernel
theorem sk_74_53 : sp_okL 74 53 45 479 = true := by decide +kernel
theorem si_74_33 : decode (sp_b 74) 33 = .ok (.ifCond .ne 6, 3) := by decide +kernel
theorem si_74_36 : decode (sp_b 74) 36 = .ok (.iload 5, 2) := by decide +kernel
theorem si_74_38 : decode (sp_b 74) 38 = .ok (.ireturn, 1) := by decide +kernel
theorem si_74_39 : decode (sp_b 74) 39 = .ok (.aload_n 0, 1) := by decide +kernel
theorem si_74_40 : decode (sp_b 74) 40 = .ok (.iload 6, 2) := by decide +kernel
theorem si_74_42 : decode (sp_b 74) 42 = .ok (.aload_n 3, 1) := by decide +kernel
theorem si_74_43 : decode (sp_b 74) 43 = .ok (.invokevirtual 76, 3) := by decide +kernel
theorem sk_74_76 : sp_okL 74 76 55 582 = true := by decide +kernel
theorem si_74_46 : decode (sp_b 74) 46 = .ok (.iinc 5 1, 3) := by decide +kernel
theorem si_74_49 : decode (sp_b 74) 49 = .ok (.goto (-39), 3) := by decide +kernel
theorem si_74_52 : decode (sp_b 74) 52 = .ok (.iload 4, 2) := by decide +kernel
theorem si_74_54 : decode (sp_b 74) 54 = .ok (.ireturn, 1) := by decide +kernel
theorem si_75_0 : decode (sp_b 75) 0 = .ok (.aload_n 0, 1) := by decide +kernel
theorem si_75_1 : decode (sp_b 75) 1 = .ok (.getfield 14, 3) := by decide +kernel
theorem sf_75_14 : sp_okF 75 14 7 0 262 = true := by decide +kernel
theorem si_75_4 : decode (sp_b 75) 4 = .ok (.iload_n 1, 1) := by decide +kernel
theorem si_75_5 : decode (sp_b 75) 5 = .ok (.invokevirtual 72, 3) := by decide +kernel
theorem sk_75_72 : sp_okL 75 72 11 312 = true := by decide +kernel
theorem si_75_8 : decode (sp_b 75) 8 = .ok (.ifCond .ne 5, 3) := by decide +kernel
theorem si_75_11 : decode (sp_b 75) 11 = .ok (.iconst (-1), 1) := by decide +kernel
theorem si_75_12 : decode (sp_b 75) 12 = .ok (.ireturn, 1) := by decide +kernel
theorem si_75_13 : decode (sp_b 75) 13 = .ok (.aload_n 0, 1) := by decide +kernel
theorem si_75_14 : decode (sp_b 75) 14 = .ok (.iload_n 1, 1) := by decide +kernel
theorem si_75_15 : decode (sp_b 75) 15 = .ok (.invokevirtual 223, 3) := by decide +kernel
theorem sk_75_223 : sp_okL 75 223 73 572 = true := by decide +kernel
theorem si_75_18 : decode (sp_b 75) 18 = .ok (.istore_n 2, 1) := by decide +kernel
theorem si_75_19 : decode (sp_b 75) 19 = .ok (.iload_n 2, 1) := by decide +kernel
theorem si_75_20 : decode (sp_b 75) 20 = .ok (.ifCond .eq 9, 3) := by decide +kernel
theorem si_75_23 : decode (sp_b 75) 23 = .ok (.aload_n 0, 1) := by decide +kernel
theorem si_75_24 : decode (sp_b 75) 24 = .ok (.iload_n 2, 1) := by decide +kernel
theorem si_75_25 : decode (sp_b 75) 25 = .ok (.invokevirtual 76, 3) := by decide +kernel
theorem sk_75_76 : sp_okL 75 76 12 316 = true := by decide +kernel
theorem si_75_28 : decode (sp_b 75) 28 = .ok (.ireturn, 1) := by decide +kernel
theorem si_75_29 : decode (sp_b 75) 29 = .ok (.aload_n 0, 1) := by decide +kernel
theorem si_75_30 : decode (sp_b 75) 30 = .ok (.getfield 40, 3) := by decide +kernel
theorem sf_75_40 : sp_okF 75 40 7 5 267 = true := by decide +kernel
theorem si_75_33 : decode (sp_b 75) 33 = .ok (.aload_n 0, 1) := by decide +kernel
theorem si_75_34 : decode (sp_b 75) 34 = .ok (.getfield 36, 3) := by decide +kernel
theorem sf_75_36 : sp_okF 75 36 7 4 266 = true := by decide +kernel
theorem si_75_37 : decode (sp_b 75) 37 = .ok (.invokevirtual 131, 3) := by decide +kernel
theorem sk_75_131 : sp_okL 75 131 39 429 = true := by decide +kernel
theorem si_75_40 : decode (sp_b 75) 40 = .ok (.aload_n 0, 1) := by decide +kernel
theorem si_75_41 : decode (sp_b 75) 41 = .ok (.getfield 32, 3) := by decide +kernel
theorem sf_75_32 : sp_okF 75 32 7 3 265 = true := by decide +kernel
theorem si_75_44 : decode (sp_b 75) 44 = .ok (.aload_n 0, 1) := by decide +kernel
theorem si_75_45 : decode (sp_b 75) 45 = .ok (.getfield 14, 3) := by decide +kernel
theorem si_75_48 : decode (sp_b 75) 48 = .ok (.iload_n 1, 1) := by decide +kernel
theorem si_75_49 : decode (sp_b 75) 49 = .ok (.aload_n 0, 1) := by decide +kernel
theorem si_75_50 : decode (sp_b 75) 50 = .ok (.getfield 40, 3) := by decide +kernel
theorem si_75_53 : decode (sp_b 75) 53 = .ok (.invokevirtual 226, 3) := by decide +kernel
theorem sk_75_226 : sp_okL 75 226 74 576 = true := by decide +kernel
theorem si_75_56 : decode (sp_b 75) 56 = .ok (.pop, 1) := by decide +kernel
theorem si_75_57 : decode (sp_b 75) 57 = .ok (.aload_n 0, 1) := by decide +kernel
theorem si_75_58 : decode (sp_b 75) 58 = .ok (.getfield 40, 3) := by decide +kernel
theorem si_75_61 : decode (sp_b 75) 61 = .ok (.getfield 230, 3) := by decide +kernel
theorem sf_75_230 : sp_okF 75 230 2 3 178 = true := by decide +kernel
theorem si_75_64 : decode (sp_b 75) 64 = .ok (.aload_n 0, 1) := by decide +kernel
theorem si_75_65 : decode (sp_b 75) 65 = .ok (.getfield 36, 3) := by decide +kernel
theorem si_75_68 : decode (sp_b 75) 68 = .ok (.getfield 230, 3) := by decide +kernel
theorem si_75_71 : decode (sp_b 75) 71 = .ok (.isub, 1) := by decide +kernel
theorem si_75_72 : decode (sp_b 75) 72 = .ok (.ireturn, 1) := by decide +kernel
theorem si_76_0 : decode (sp_b 76) 0 = .ok (.aload_n 0, 1) := by decide +kernel
theorem si_76_1 : decode (sp_b 76) 1 = .ok (.getfield 14, 3) := by decide +kernel
theorem sf_76_14 : sp_okF 76 14 7 0 262 = true := by decide +kernel
theorem si_76_4 : decode (sp_b 76) 4 = .ok (.iload_n 1, 1) := by decide +kernel
theorem si_76_5 : decode (sp_b 76) 5 = .ok (.invokevirtual 72, 3) := by decide +kernel
theorem sk_76_72 : sp_okL 76 72 11 312 = true := by decide +kernel
theorem si_76_8 : decode (sp_b 76) 8 = .ok (.ifCond .eq 14, 3) := by decide +kernel
theorem si_76_11 : decode (sp_b 76) 11 = .ok (.aload_n 0, 1) := by decide +kernel
theorem si_76_12 : decode (sp_b 76) 12 = .ok (.getfield 14, 3) := by decide +kernel
theorem si_76_15 : decode (sp_b 76) 15 = .ok (.iload_n 2, 1) := by decide +kernel
theorem si_76_16 : decode (sp_b 76) 16 = .ok (.invokevirtual 72, 3) := by decide +kernel
theorem si_76_19 : decode (sp_b 76) 19 = .ok (.ifCond .ne 5, 3) := by decide +kernel
theorem si_76_22 : decode (sp_b 76) 22 = .ok (.iconst (-1), 1) := by decide +kernel
theorem si_76_23 : decode (sp_b 76) 23 = .ok (.ireturn, 1) := by decide +kernel
theorem si_76_24 : decode (sp_b 76) 24 = .ok (.aload_n 0, 1) := by decide +kernel
theorem si_76_25 : decode (sp_b 76) 25 = .ok (.iload_n 1, 1) := by decide +kernel
theorem si_76_26 : decode (sp_b 76) 26 = .ok (.invokevirtual 223, 3) := by decide +kernel
theorem sk_76_223 : sp_okL 76 223 73 572 = true := by decide +kernel
theorem si_76_29 : decode (sp_b 76) 29 = .ok (.istore_n 3, 1) := by decide +kernel
theorem si_76_30 : decode (sp_b 76) 30 = .ok (.iload_n 3, 1) := by decide +kernel
theorem si_76_31 : decode (sp_b 76) 31 = .ok (.ifCond .eq 9, 3) := by decide +kernel
theorem si_76_34 : decode (sp_b 76) 34 = .ok (.aload_n 0, 1) := by decide +kernel
theorem si_76_35 : decode (sp_b 76) 35 = .ok (.iload_n 3, 1) := by decide +kernel
theorem si_76_36 : decode (sp_b 76) 36 = .ok (.invokevirtual 76, 3) := by decide +kernel
theorem sk_76_76 : sp_okL 76 76 12 316 = true := by decide +kernel
theorem si_76_39 : decode (sp_b 76) 39 = .ok (.ireturn, 1) := by decide +kernel
theorem si_76_40 : decode (sp_b 76) 40 = .ok (.aload_n 0, 1) := by decide +kernel
theorem si_76_41 : decode (sp_b 76) 41 = .ok (.getfield 24, 3) := by decide +kernel
theorem sf_76_24 : sp_okF 76 24 7 2 264 = true := by decide +kernel
theorem si_76_44 : decode (sp_b 76) 44 = .ok (.aload_n 0, 1) := by decide +kernel
theorem si_76_45 : decode (sp_b 76) 45 = .ok (.getfield 36, 3) := by decide +kernel
theorem sf_76_36 : sp_okF 76 36 7 4 266 = true := by decide +kernel
theorem si_76_48 : decode (sp_b 76) 48 = .ok (.aload_n 0, 1) := by decide +kernel
theorem si_76_49 : decode (sp_b 76) 49 = .ok (.getfield 49, 3) := by decide +kernel
theorem sf_76_49 : sp_okF 76 49 7 7 269 = true := by decide +kernel
theorem si_76_52 : decode (sp_b 76) 52 = .ok (.getfield 184, 3) := by decide +kernel
theorem sf_76_184 : sp_okF 76 184 6 2 226 = true := by decide +kernel
theorem si_76_55 : decode (sp_b 76) 55 = .ok (.aload_n 0, 1) := by decide +kernel
theorem si_76_56 : decode (sp_b 76) 56 = .ok (.getfield 14, 3) := by decide +kernel
theorem si_76_59 : decode (sp_b 76) 59 = .ok (.iload_n 1, 1) := by decide +kernel
theorem si_76_60 : decode (sp_b 76) 60 = .ok (.invokevirtual 233, 3) := by decide +kernel
theorem sk_76_233 : sp_okL 76 233 77 591 = true := by decide +kernel
theorem si_76_63 : decode (sp_b 76) 63 = .ok (.istore 4, 2) := by decide +kernel
theorem si_76_65 : decode (sp_b 76) 65 = .ok (.aload_n 0, 1) := by decide +kernel
theorem si_76_66 : decode (sp_b 76) 66 = .ok (.getfield 24, 3) := by decide +kernel
theorem si_76_69 : decode (sp_b 76) 69 = .ok (.aload_n 0, 1) := by decide +kernel
theorem si_76_70 : decode (sp_b 76) 70 = .ok (.getfield 14, 3) := by decide +kernel
theorem si_76_73 : decode (sp_b 76) 73 = .ok (.iload_n 2, 1) := by decide +kernel
theorem si_76_74 : decode (sp_b 76) 74 = .ok (.invokevirtual 237, 3) := by decide +kernel
theorem sk_76_237 : sp_okL 76 237 81 612 = true := by decide +kernel
theorem si_76_77 : decode (sp_b 76) 77 = .ok (.iload 4, 2) := by decide +kernel
theorem si_76_79 : decode (sp_b 76) 79 = .ok (.ireturn, 1) := by decide +kernel
theorem si_77_0 : decode (sp_b 77) 0 = .ok (.iconst 0, 1) := by decide +kernel
theorem si_77_1 : decode (sp_b 77) 1 = .ok (.istore 5, 2) := by decide +kernel
theorem si_77_3 : decode (sp_b 77) 3 = .ok (.iload 5, 2) := by decide +kernel
theorem si_77_5 : decode (sp_b 77) 5 = .ok (.iconst 4, 1) := by decide +kernel
theorem si_77_6 : decode (sp_b 77) 6 = .ok (.if_icmp .gt 38, 3) := by decide +kernel
theorem si_77_9 : decode (sp_b 77) 9 = .ok (.aload_n 0, 1) := by decide +kernel
theorem si_77_10 : decode (sp_b 77) 10 = .ok (.aload_n 1, 1) := by decide +kernel
theorem si_77_11 : decode (sp_b 77) 11 = .ok (.invokevirtual 77, 3) := by decide +kernel
theorem sk_77_77 : sp_okL 77 77 78 595 = true := by decide +kernel
theorem si_77_14 : decode (sp_b 77) 14 = .ok (.aload_n 0, 1) := by decide +kernel
theorem si_77_15 : decode (sp_b 77) 15 = .ok (.iconst 0, 1) := by decide +kernel
theorem si_77_16 : decode (sp_b 77) 16 = .ok (.iload 5, 2) := by decide +kernel
theorem si_77_18 : decode (sp_b 77) 18 = .ok (.iconst 0, 1) := by decide +kernel
theorem si_77_19 : decode (sp_b 77) 19 = .ok (.iload_n 2, 1) := by decide +kernel
theorem si_77_20 : decode (sp_b 77) 20 = .ok (.aload_n 3, 1) := by decide +kernel
theorem si_77_21 : decode (sp_b 77) 21 = .ok (.iload 4, 2) := by decide +kernel
theorem si_77_23 : decode (sp_b 77) 23 = .ok (.invokevirtual 80, 3) := by decide +kernel
theorem sk_77_80 : sp_okL 77 80 79 600 = true := by decide +kernel
theorem si_77_26 : decode (sp_b 77) 26 = .ok (.ifCond .eq 12, 3) := by decide +kernel
theorem si_77_29 : decode (sp_b 77) 29 = .ok (.aload_n 0, 1) := by decide +kernel
theorem si_77_30 : decode (sp_b 77) 30 = .ok (.iload 5, 2) := by decide +kernel
theorem si_77_32 : decode (sp_b 77) 32 = .ok (.invokevirtual 84, 3) := by decide +kernel
theorem sk_77_84 : sp_okL 77 84 80 607 = true := by decide +kernel
theorem si_77_35 : decode (sp_b 77) 35 = .ok (.iload 5, 2) := by decide +kernel
theorem si_77_37 : decode (sp_b 77) 37 = .ok (.ireturn, 1) := by decide +kernel
theorem si_77_38 : decode (sp_b 77) 38 = .ok (.iinc 5 1, 3) := by decide +kernel
theorem si_77_41 : decode (sp_b 77) 41 = .ok (.goto (-38), 3) := by decide +kernel
theorem si_77_44 : decode (sp_b 77) 44 = .ok (.bipush (-9), 2) := by decide +kernel
theorem si_77_46 : decode (sp_b 77) 46 = .ok (.ireturn, 1) := by decide +kernel
theorem si_78_0 : decode (sp_b 78) 0 = .ok (.aload_n 0, 1) := by decide +kernel
theorem si_78_1 : decode (sp_b 78) 1 = .ok (.getfield 20, 3) := by decide +kernel
theorem sf_78_20 : sp_okF 78 20 4 1 190 = true := by decide +kernel
theorem si_78_4 : decode (sp_b 78) 4 = .ok (.iconst 0, 1) := by decide +kernel
theorem si_78_5 : decode (sp_b 78) 5 = .ok (.aaload, 1) := by decide +kernel
theorem si_78_6 : decode (sp_b 78) 6 = .ok (.aload_n 1, 1) := by decide +kernel
theorem si_78_7 : decode (sp_b 78) 7 = .ok (.invokevirtual 56, 3) := by decide +kernel
theorem sk_78_56 : sp_okL 78 56 39 599 = true := by decide +kernel
theorem si_78_10 : decode (sp_b 78) 10 = .ok (.aload_n 0, 1) := by decide +kernel
theorem si_78_11 : decode (sp_b 78) 11 = .ok (.getfield 20, 3) := by decide +kernel
theorem si_78_14 : decode (sp_b 78) 14 = .ok (.iconst 0, 1) := by decide +kernel
theorem si_78_15 : decode (sp_b 78) 15 = .ok (.aaload, 1) := by decide +kernel
theorem si_78_16 : decode (sp_b 78) 16 = .ok (.iconst 0, 1) := by decide +kernel
theorem si_78_17 : decode (sp_b 78) 17 = .ok (.putfield 60, 3) := by decide +kernel
theorem sf_78_60 : sp_okF 78 60 2 3 175 = true := by decide +kernel
theorem si_78_20 : decode (sp_b 78) 20 = .ok (.aload_n 0, 1) := by decide +kernel
theorem si_78_21 : decode (sp_b 78) 21 = .ok (.iconst (-1), 1) := by decide +kernel
theorem si_78_22 : decode (sp_b 78) 22 = .ok (.putfield 38, 3) := by decide +kernel
theorem sf_78_38 : sp_okF 78 38 4 5 194 = true := by decide +kernel
theorem si_78_25 : decode (sp_b 78) 25 = .ok (.return_, 1) := by decide +kernel
theorem si_79_0 : decode (sp_b 79) 0 = .ok (.iload_n 1, 1) := by decide +kernel
theorem si_79_1 : decode (sp_b 79) 1 = .ok (.bipush 6, 2) := by decide +kernel
theorem si_79_3 : decode (sp_b 79) 3 = .ok (.if_icmp .lt 5, 3) := by decide +kernel
theorem si_79_6 : decode (sp_b 79) 6 = .ok (.iconst 0, 1) := by decide +kernel
theorem si_79_7 : decode (sp_b 79) 7 = .ok (.ireturn, 1) := by decide +kernel
theorem si_79_8 : decode (sp_b 79) 8 = .ok (.aload_n 0, 1) := by decide +kernel
theorem si_79_9 : decode (sp_b 79) 9 = .ok (.getfield 20, 3) := by decide +kernel
theorem sf_79_20 : sp_okF 79 20 4 1 190 = true := by decide +kernel
theorem si_79_12 : decode (sp_b 79) 12 = .ok (.iload_n 1, 1) := by decide +kernel
theorem si_79_13 : decode (sp_b 79) 13 = .ok (.iconst 1, 1) := by decide +kernel
theorem si_79_14 : decode (sp_b 79) 14 = .ok (.iadd, 1) := by decide +kernel
theorem si_79_15 : decode (sp_b 79) 15 = .ok (.aaload, 1) := by decide +kernel
theorem si_79_16 : decode (sp_b 79) 16 = .ok (.astore 7, 2) := by decide +kernel
theorem si_79_18 : decode (sp_b 79) 18 = .ok (.iload_n 1, 1) := by decide +kernel
theorem si_79_19 : decode (sp_b 79) 19 = .ok (.iload_n 2, 1) := by decide +kernel
theorem si_79_20 : decode (sp_b 79) 20 = .ok (.if_icmp .ne 43, 3) := by decide +kernel
theorem si_79_23 : decode (sp_b 79) 23 = .ok (.aload 7, 2) := by decide +kernel
theorem si_79_25 : decode (sp_b 79) 25 = .ok (.aload_n 0, 1) := by decide +kernel
theorem si_79_26 : decode (sp_b 79) 26 = .ok (.getfield 20, 3) := by decide +kernel
theorem si_79_29 : decode (sp_b 79) 29 = .ok (.iload_n 1, 1) := by decide +kernel
theorem si_79_30 : decode (sp_b 79) 30 = .ok (.aaload, 1) := by decide +kernel
theorem si_79_31 : decode (sp_b 79) 31 = .ok (.invokevirtual 56, 3) := by decide +kernel
theorem sk_79_56 : sp_okL 79 56 39 599 = true := by decide +kernel
theorem si_79_34 : decode (sp_b 79) 34 = .ok (.aload_n 0, 1) := by decide +kernel
theorem si_79_35 : decode (sp_b 79) 35 = .ok (.getfield 12, 3) := by decide +kernel
theorem sf_79_12 : sp_okF 79 12 4 0 188 = true := by decide +kernel
theorem si_79_38 : decode (sp_b 79) 38 = .ok (.aload 5, 2) := by decide +kernel
theorem si_79_40 : decode (sp_b 79) 40 = .ok (.iload 6, 2) := by decide +kernel
theorem si_79_42 : decode (sp_b 79) 42 = .ok (.aload 7, 2) := by decide +kernel
theorem si_79_44 : decode (sp_b 79) 44 = .ok (.invokevirtual 88, 3) := by decide +kernel
theorem sk_79_88 : sp_okL 79 88 74 604 = true := by decide +kernel
theorem si_79_47 : decode (sp_b 79) 47 = .ok (.aload 5, 2) := by decide +kernel
theorem si_79_49 : decode (sp_b 79) 49 = .ok (.iload 6, 2) := by decide +kernel
theorem si_79_51 : decode (sp_b 79) 51 = .ok (.invokevirtual 92, 3) := by decide +kernel
theorem sk_79_92 : sp_okL 79 92 26 605 = true := by decide +kernel
theorem si_79_54 : decode (sp_b 79) 54 = .ok (.if_icmp .ne 7, 3) := by decide +kernel
theorem si_79_57 : decode (sp_b 79) 57 = .ok (.iconst 1, 1) := by decide +kernel
theorem si_79_58 : decode (sp_b 79) 58 = .ok (.goto 4, 3) := by decide +kernel
theorem si_79_61 : decode (sp_b 79) 61 = .ok (.iconst 0, 1) := by decide +kernel
theorem si_79_62 : decode (sp_b 79) 62 = .ok (.ireturn, 1) := by decide +kernel
theorem si_79_63 : decode (sp_b 79) 63 = .ok (.iload_n 3, 1) := by decide +kernel
theorem si_79_64 : decode (sp_b 79) 64 = .ok (.istore 8, 2) := by decide +kernel
theorem si_79_66 : decode (sp_b 79) 66 = .ok (.iload 8, 2) := by decide +kernel
theorem si_79_68 : decode (sp_b 79) 68 = .ok (.aload_n 0, 1) := by decide +kernel
theorem si_79_69 : decode (sp_b 79) 69 = .ok (.getfield 12, 3) := by decide +kernel
theorem si_79_72 : decode (sp_b 79) 72 = .ok (.getfield 96, 3) := by decide +kernel
theorem sf_79_96 : sp_okF 79 96 0 3 129 = true := by decide +kernel
theorem si_79_75 : decode (sp_b 79) 75 = .ok (.if_icmp .ge 59, 3) := by decide +kernel
theorem si_79_78 : decode (sp_b 79) 78 = .ok (.aload_n 0, 1) := by decide +kernel
theorem si_79_79 : decode (sp_b 79) 79 = .ok (.getfield 24, 3) := by decide +kernel
theorem sf_79_24 : sp_okF 79 24 4 2 191 = true := by decide +kernel
theorem si_79_82 : decode (sp_b 79) 82 = .ok (.iload_n 1, 1) := by decide +kernel
theorem si_79_83 : decode (sp_b 79) 83 = .ok (.iload 8, 2) := by decide +kernel
theorem si_79_85 : decode (sp_b 79) 85 = .ok (.iastore, 1) := by decide +kernel
theorem si_79_86 : decode (sp_b 79) 86 = .ok (.aload 7, 2) := by decide +kernel
theorem si_79_88 : decode (sp_b 79) 88 = .ok (.aload_n 0, 1) := by decide +kernel
theorem si_79_89 : decode (sp_b 79) 89 = .ok (.getfield 20, 3) := by decide +kernel
theorem si_79_92 : decode (sp_b 79) 92 = .ok (.iload_n 1, 1) := by decide +kernel
theorem si_79_93 : decode (sp_b 79) 93 = .ok (.aaload, 1) := by decide +kernel
theorem si_79_94 : decode (sp_b 79) 94 = .ok (.invokevirtual 56, 3) := by decide +kernel
theorem si_79_97 : decode (sp_b 79) 97 = .ok (.aload 7, 2) := by decide +kernel
theorem si_79_99 : decode (sp_b 79) 99 = .ok (.iload 8, 2) := by decide +kernel
theorem si_79_101 : decode (sp_b 79) 101 = .ok (.iload 4, 2) := by decide +kernel
theorem si_79_103 : decode (sp_b 79) 103 = .ok (.invokevirtual 99, 3) := by decide +kernel
theorem sk_79_99 : sp_okL 79 99 65 606 = true := by decide +kernel
theorem si_79_106 : decode (sp_b 79) 106 = .ok (.pop, 1) := by decide +kernel
theorem si_79_107 : decode (sp_b 79) 107 = .ok (.aload_n 0, 1) := by decide +kernel
theorem si_79_108 : decode (sp_b 79) 108 = .ok (.iload_n 1, 1) := by decide +kernel
theorem si_79_109 : decode (sp_b 79) 109 = .ok (.iconst 1, 1) := by decide +kernel
theorem si_79_110 : decode (sp_b 79) 110 = .ok (.iadd, 1) := by decide +kernel
theorem si_79_111 : decode (sp_b 79) 111 = .ok (.iload_n 2, 1) := by decide +kernel
theorem si_79_112 : decode (sp_b 79) 112 = .ok (.iload 8, 2) := by decide +kernel
theorem si_79_114 : decode (sp_b 79) 114 = .ok (.iload 4, 2) := by decide +kernel
theorem si_79_116 : decode (sp_b 79) 116 = .ok (.aload 5, 2) := by decide +kernel
theorem si_79_118 : decode (sp_b 79) 118 = .ok (.iload 6, 2) := by decide +kernel
theorem si_79_120 : decode (sp_b 79) 120 = .ok (.invokevirtual 80, 3) := by decide +kernel
theorem sk_79_80 : sp_okL 79 80 79 600 = true := by decide +kernel
theorem si_79_123 : decode (sp_b 79) 123 = .ok (.ifCond .eq 5, 3) := by decide +kernel
theorem si_79_126 : decode (sp_b 79) 126 = .ok (.iconst 1, 1) := by decide +kernel
theorem si_79_127 : decode (sp_b 79) 127 = .ok (.ireturn, 1) := by decide +kernel
theorem si_79_128 : decode (sp_b 79) 128 = .ok (.iinc 8 1, 3) := by decide +kernel
theorem si_79_131 : decode (sp_b 79) 131 = .ok (.goto (-65), 3) := by decide +kernel
theorem si_79_134 : decode (sp_b 79) 134 = .ok (.iconst 0, 1) := by decide +kernel
theorem si_79_135 : decode (sp_b 79) 135 = .ok (.ireturn, 1) := by decide +kernel
theorem si_80_0 : decode (sp_b 80) 0 = .ok (.aload_n 0, 1) := by decide +kernel
theorem si_80_1 : decode (sp_b 80) 1 = .ok (.iload_n 1, 1) := by decide +kernel
theorem si_80_2 : decode (sp_b 80) 2 = .ok (.putfield 38, 3) := by decide +kernel
theorem sf_80_38 : sp_okF 80 38 4 5 194 = true := by decide +kernel
theorem si_80_5 : decode (sp_b 80) 5 = .ok (.aload_n 0, 1) := by decide +kernel
theorem si_80_6 : decode (sp_b 80) 6 = .ok (.getfield 24, 3) := by decide +kernel
theorem sf_80_24 : sp_okF 80 24 4 2 191 = true := by decide +kernel
theorem si_80_9 : decode (sp_b 80) 9 = .ok (.iconst 0, 1) := by decide +kernel
theorem si_80_10 : decode (sp_b 80) 10 = .ok (.aload_n 0, 1) := by decide +kernel
theorem si_80_11 : decode (sp_b 80) 11 = .ok (.getfield 28, 3) := by decide +kernel
theorem sf_80_28 : sp_okF 80 28 4 3 192 = true := by decide +kernel
theorem si_80_14 : decode (sp_b 80) 14 = .ok (.iconst 0, 1) := by decide +kernel
theorem si_80_15 : decode (sp_b 80) 15 = .ok (.iload_n 1, 1) := by decide +kernel
theorem si_80_16 : decode (sp_b 80) 16 = .ok (.invokestatic 63, 3) := by decide +kernel
theorem sk_80_63 : sp_has 611 (.methodLink (sp_y 80).cls 63 arraycopyName) = true := by decide +kernel
theorem si_80_19 : decode (sp_b 80) 19 = .ok (.return_, 1) := by decide +kernel
theorem si_81_0 : decode (sp_b 81) 0 = .ok (.aload_n 0, 1) := by decide +kernel
theorem si_81_1 : decode (sp_b 81) 1 = .ok (.invokevirtual 43, 3) := by decide +kernel
theorem sk_81_43 : sp_okL 81 43 82 616 = true := by decide +kernel
theorem si_81_4 : decode (sp_b 81) 4 = .ok (.ifCond .ne 4, 3) := by decide +kernel
theorem si_81_7 : decode (sp_b 81) 7 = .ok (.return_, 1) := by decide +kernel
theorem si_81_8 : decode (sp_b 81) 8 = .ok (.aload_n 1, 1) := by decide +kernel
theorem si_81_9 : decode (sp_b 81) 9 = .ok (.iload_n 2, 1) := by decide +kernel
theorem si_81_10 : decode (sp_b 81) 10 = .ok (.aload_n 0, 1) := by decide +kernel
theorem si_81_11 : decode (sp_b 81) 11 = .ok (.getfield 38, 3) := by decide +kernel
theorem sf_81_38 : sp_okF 81 38 4 5 194 = true := by decide +kernel
theorem si_81_14 : decode (sp_b 81) 14 = .ok (.iconst 0, 1) := by decide +kernel
theorem si_81_15 : decode (sp_b 81) 15 = .ok (.invokevirtual 47, 3) := by decide +kernel
theorem sk_81_47 : sp_okL 81 47 13 620 = true := by decide +kernel
theorem si_81_18 : decode (sp_b 81) 18 = .ok (.iconst 0, 1) := by decide +kernel
theorem si_81_19 : decode (sp_b 81) 19 = .ok (.istore_n 3, 1) := by decide +kernel
theorem si_81_20 : decode (sp_b 81) 20 = .ok (.iload_n 3, 1) := by decide +kernel
theorem si_81_21 : decode (sp_b 81) 21 = .ok (.aload_n 0, 1) := by decide +kernel
theorem si_81_22 : decode (sp_b 81) 22 = .ok (.getfield 38, 3) := by decide +kernel
theorem si_81_25 : decode (sp_b 81) 25 = .ok (.if_icmp .ge 21, 3) := by decide +kernel
theorem si_81_28 : decode (sp_b 81) 28 = .ok (.aload_n 1, 1) := by decide +kernel
theorem si_81_29 : decode (sp_b 81) 29 = .ok (.iload_n 2, 1) := by decide +kernel
theorem si_81_30 : decode (sp_b 81) 30 = .ok (.iload_n 3, 1) := by decide +kernel
theorem si_81_31 : decode (sp_b 81) 31 = .ok (.aload_n 0, 1) := by decide +kernel
theorem si_81_32 : decode (sp_b 81) 32 = .ok (.getfield 28, 3) := by decide +kernel
theorem sf_81_28 : sp_okF 81 28 4 3 192 = true := by decide +kernel
theorem si_81_35 : decode (sp_b 81) 35 = .ok (.iload_n 3, 1) := by decide +kernel
theorem si_81_36 : decode (sp_b 81) 36 = .ok (.iaload, 1) := by decide +kernel
theorem si_81_37 : decode (sp_b 81) 37 = .ok (.invokevirtual 53, 3) := by decide +kernel
theorem sk_81_53 : sp_okL 81 53 19 621 = true := by decide +kernel
theorem si_81_40 : decode (sp_b 81) 40 = .ok (.iinc 3 1, 3) := by decide +kernel
theorem si_81_43 : decode (sp_b 81) 43 = .ok (.goto (-23), 3) := by decide +kernel
theorem si_81_46 : decode (sp_b 81) 46 = .ok (.return_, 1) := by decide +kernel
theorem si_82_0 : decode (sp_b 82) 0 = .ok (.aload_n 0, 1) := by decide +kernel
theorem si_82_1 : decode (sp_b 82) 1 = .ok (.getfield 38, 3) := by decide +kernel
theorem sf_82_38 : sp_okF 82 38 4 5 194 = true := by decide +kernel
theorem si_82_4 : decode (sp_b 82) 4 = .ok (.ifCond .lt 7, 3) := by decide +kernel
theorem si_82_7 : decode (sp_b 82) 7 = .ok (.iconst 1, 1) := by decide +kernel
theorem si_82_8 : decode (sp_b 82) 8 = .ok (.goto 4, 3) := by decide +kernel
theorem si_82_11 : decode (sp_b 82) 11 = .ok (.iconst 0, 1) := by decide +kernel
theorem si_82_12 : decode (sp_b 82) 12 = .ok (.ireturn, 1) := by decide +kernel
theorem si_83_0 : decode (sp_b 83) 0 = .ok (.aload_n 0, 1) := by decide +kernel
theorem si_83_1 : decode (sp_b 83) 1 = .ok (.getfield 14, 3) := by decide +kernel
theorem sf_83_14 : sp_okF 83 14 7 0 262 = true := by decide +kernel
theorem si_83_4 : decode (sp_b 83) 4 = .ok (.iload_n 1, 1) := by decide +kernel
theorem si_83_5 : decode (sp_b 83) 5 = .ok (.invokevirtual 72, 3) := by decide +kernel
theorem sk_83_72 : sp_okL 83 72 11 312 = true := by decide +kernel
theorem si_83_8 : decode (sp_b 83) 8 = .ok (.ifCond .eq 13, 3) := by decide +kernel
theorem si_83_11 : decode (sp_b 83) 11 = .ok (.iload_n 2, 1) := by decide +kernel
theorem si_83_12 : decode (sp_b 83) 12 = .ok (.ifCond .lt 9, 3) := by decide +kernel
theorem si_83_15 : decode (sp_b 83) 15 = .ok (.iload_n 2, 1) := by decide +kernel
theorem si_83_16 : decode (sp_b 83) 16 = .ok (.bipush 9, 2) := by decide +kernel
theorem si_83_18 : decode (sp_b 83) 18 = .ok (.if_icmp .le 5, 3) := by decide +kernel
theorem si_83_21 : decode (sp_b 83) 21 = .ok (.iconst (-1), 1) := by decide +kernel
theorem si_83_22 : decode (sp_b 83) 22 = .ok (.ireturn, 1) := by decide +kernel
theorem si_83_23 : decode (sp_b 83) 23 = .ok (.aload_n 0, 1) := by decide +kernel
theorem si_83_24 : decode (sp_b 83) 24 = .ok (.iload_n 1, 1) := by decide +kernel
theorem si_83_25 : decode (sp_b 83) 25 = .ok (.invokevirtual 223, 3) := by decide +kernel
theorem sk_83_223 : sp_okL 83 223 73 572 = true := by decide +kernel
theorem si_83_28 : decode (sp_b 83) 28 = .ok (.istore_n 3, 1) := by decide +kernel
theorem si_83_29 : decode (sp_b 83) 29 = .ok (.iload_n 3, 1) := by decide +kernel
theorem si_83_30 : decode (sp_b 83) 30 = .ok (.ifCond .eq 9, 3) := by decide +kernel
theorem si_83_33 : decode (sp_b 83) 33 = .ok (.aload_n 0, 1) := by decide +kernel
theorem si_83_34 : decode (sp_b 83) 34 = .ok (.iload_n 3, 1) := by decide +kernel
theorem si_83_35 : decode (sp_b 83) 35 = .ok (.invokevirtual 76, 3) := by decide +kernel
theorem sk_83_76 : sp_okL 83 76 12 316 = true := by decide +kernel
theorem si_83_38 : decode (sp_b 83) 38 = .ok (.ireturn, 1) := by decide +kernel
theorem si_83_39 : decode (sp_b 83) 39 = .ok (.aload_n 0, 1) := by decide +kernel
theorem si_83_40 : decode (sp_b 83) 40 = .ok (.getfield 40, 3) := by decide +kernel
theorem sf_83_40 : sp_okF 83 40 7 5 267 = true := by decide +kernel
theorem si_83_43 : decode (sp_b 83) 43 = .ok (.aload_n 0, 1) := by decide +kernel
theorem si_83_44 : decode (sp_b 83) 44 = .ok (.getfield 36, 3) := by decide +kernel
theorem sf_83_36 : sp_okF 83 36 7 4 266 = true := by decide +kernel
theorem si_83_47 : decode (sp_b 83) 47 = .ok (.invokevirtual 131, 3) := by decide +kernel
theorem sk_83_131 : sp_okL 83 131 39 429 = true := by decide +kernel
theorem si_83_50 : decode (sp_b 83) 50 = .ok (.iconst 0, 1) := by decide +kernel
theorem si_83_51 : decode (sp_b 83) 51 = .ok (.istore 4, 2) := by decide +kernel
theorem si_83_53 : decode (sp_b 83) 53 = .ok (.iload 4, 2) := by decide +kernel
theorem si_83_55 : decode (sp_b 83) 55 = .ok (.bipush 20, 2) := by decide +kernel
theorem si_83_57 : decode (sp_b 83) 57 = .ok (.if_icmp .ge 66, 3) := by decide +kernel
theorem si_83_60 : decode (sp_b 83) 60 = .ok (.aload_n 0, 1) := by decide +kernel
theorem si_83_61 : decode (sp_b 83) 61 = .ok (.getfield 40, 3) := by decide +kernel
theorem si_83_64 : decode (sp_b 83) 64 = .ok (.iload_n 2, 1) := by decide +kernel
theorem si_83_65 : decode (sp_b 83) 65 = .ok (.aload_n 0, 1) := by decide +kernel
theorem si_83_66 : decode (sp_b 83) 66 = .ok (.getfield 32, 3) := by decide +kernel
theorem sf_83_32 : sp_okF 83 32 7 3 265 = true := by decide +kernel
theorem si_83_69 : decode (sp_b 83) 69 = .ok (.getfield 145, 3) := by decide +kernel
theorem sf_83_145 : sp_okF 83 145 0 3 130 = true := by decide +kernel
theorem si_83_72 : decode (sp_b 83) 72 = .ok (.invokevirtual 202, 3) := by decide +kernel
theorem sk_83_202 : sp_okL 83 202 60 520 = true := by decide +kernel
theorem si_83_75 : decode (sp_b 83) 75 = .ok (.pop, 1) := by decide +kernel
theorem si_83_76 : decode (sp_b 83) 76 = .ok (.aload_n 0, 1) := by decide +kernel
theorem si_83_77 : decode (sp_b 83) 77 = .ok (.getfield 43, 3) := by decide +kernel
theorem sf_83_43 : sp_okF 83 43 7 6 268 = true := by decide +kernel
theorem si_83_80 : decode (sp_b 83) 80 = .ok (.aload_n 0, 1) := by decide +kernel
theorem si_83_81 : decode (sp_b 83) 81 = .ok (.getfield 40, 3) := by decide +kernel
theorem si_83_84 : decode (sp_b 83) 84 = .ok (.invokevirtual 131, 3) := by decide +kernel
theorem si_83_87 : decode (sp_b 83) 87 = .ok (.aload_n 0, 1) := by decide +kernel
theorem si_83_88 : decode (sp_b 83) 88 = .ok (.getfield 32, 3) := by decide +kernel
theorem si_83_91 : decode (sp_b 83) 91 = .ok (.aload_n 0, 1) := by decide +kernel
theorem si_83_92 : decode (sp_b 83) 92 = .ok (.getfield 14, 3) := by decide +kernel
theorem si_83_95 : decode (sp_b 83) 95 = .ok (.iload_n 1, 1) := by decide +kernel
theorem si_83_96 : decode (sp_b 83) 96 = .ok (.aload_n 0, 1) := by decide +kernel
theorem si_83_97 : decode (sp_b 83) 97 = .ok (.getfield 43, 3) := by decide +kernel
theorem si_83_100 : decode (sp_b 83) 100 = .ok (.invokevirtual 226, 3) := by decide +kernel
theorem sk_83_226 : sp_okL 83 226 74 576 = true := by decide +kernel
theorem si_83_103 : decode (sp_b 83) 103 = .ok (.aload_n 0, 1) := by decide +kernel
theorem si_83_104 : decode (sp_b 83) 104 = .ok (.getfield 14, 3) := by decide +kernel
theorem si_83_107 : decode (sp_b 83) 107 = .ok (.iload_n 1, 1) := by decide +kernel
theorem si_83_108 : decode (sp_b 83) 108 = .ok (.invokevirtual 114, 3) := by decide +kernel
theorem sk_83_114 : sp_okL 83 114 26 374 = true := by decide +kernel
theorem si_83_111 : decode (sp_b 83) 111 = .ok (.if_icmp .ge 6, 3) := by decide +kernel
theorem si_83_114 : decode (sp_b 83) 114 = .ok (.iload 4, 2) := by decide +kernel
theorem si_83_116 : decode (sp_b 83) 116 = .ok (.ireturn, 1) := by decide +kernel
theorem si_83_117 : decode (sp_b 83) 117 = .ok (.iinc 4 1, 3) := by decide +kernel
theorem si_83_120 : decode (sp_b 83) 120 = .ok (.goto (-67), 3) := by decide +kernel
theorem si_83_123 : decode (sp_b 83) 123 = .ok (.bipush 20, 2) := by decide +kernel
theorem si_83_125 : decode (sp_b 83) 125 = .ok (.ireturn, 1) := by decide +kernel
theorem si_84_0 : decode (sp_b 84) 0 = .ok (.iload_n 1, 1) := by decide +kernel
theorem si_84_1 : decode (sp_b 84) 1 = .ok (.ifCond .lt 19, 3) := by decide +kernel
theorem si_84_4 : decode (sp_b 84) 4 = .ok (.iload_n 1, 1) := by decide +kernel
theorem si_84_5 : decode (sp_b 84) 5 = .ok (.iconst 3, 1) := by decide +kernel
theorem si_84_6 : decode (sp_b 84) 6 = .ok (.if_icmp .ge 14, 3) := by decide +kernel
theorem si_84_9 : decode (sp_b 84) 9 = .ok (.aload_n 0, 1) := by decide +kernel
theorem si_84_10 : decode (sp_b 84) 10 = .ok (.getfield 14, 3) := by decide +kernel
theorem sf_84_14 : sp_okF 84 14 7 0 262 = true := by decide +kernel
theorem si_84_13 : decode (sp_b 84) 13 = .ok (.iload_n 2, 1) := by decide +kernel
theorem si_84_14 : decode (sp_b 84) 14 = .ok (.invokevirtual 72, 3) := by decide +kernel
theorem sk_84_72 : sp_okL 84 72 11 312 = true := by decide +kernel
theorem si_84_17 : decode (sp_b 84) 17 = .ok (.ifCond .ne 5, 3) := by decide +kernel
theorem si_84_20 : decode (sp_b 84) 20 = .ok (.iconst (-1), 1) := by decide +kernel
theorem si_84_21 : decode (sp_b 84) 21 = .ok (.ireturn, 1) := by decide +kernel
theorem si_84_22 : decode (sp_b 84) 22 = .ok (.aload_n 0, 1) := by decide +kernel
theorem si_84_23 : decode (sp_b 84) 23 = .ok (.getfield 53, 3) := by decide +kernel
theorem sf_84_53 : sp_okF 84 53 7 8 270 = true := by decide +kernel
theorem si_84_26 : decode (sp_b 84) 26 = .ok (.iload_n 1, 1) := by decide +kernel
theorem si_84_27 : decode (sp_b 84) 27 = .ok (.aaload, 1) := by decide +kernel
theorem si_84_28 : decode (sp_b 84) 28 = .ok (.getfield 141, 3) := by decide +kernel
theorem sf_84_141 : sp_okF 84 141 6 3 228 = true := by decide +kernel
theorem si_84_31 : decode (sp_b 84) 31 = .ok (.ifCond .eq 11, 3) := by decide +kernel
theorem si_84_34 : decode (sp_b 84) 34 = .ok (.aload_n 0, 1) := by decide +kernel
theorem si_84_35 : decode (sp_b 84) 35 = .ok (.iload_n 2, 1) := by decide +kernel
theorem si_84_36 : decode (sp_b 84) 36 = .ok (.invokevirtual 223, 3) := by decide +kernel
theorem sk_84_223 : sp_okL 84 223 73 572 = true := by decide +kernel
theorem si_84_39 : decode (sp_b 84) 39 = .ok (.goto 4, 3) := by decide +kernel
theorem si_84_42 : decode (sp_b 84) 42 = .ok (.iconst 1, 1) := by decide +kernel
theorem si_84_43 : decode (sp_b 84) 43 = .ok (.istore_n 3, 1) := by decide +kernel
theorem si_84_44 : decode (sp_b 84) 44 = .ok (.iload_n 3, 1) := by decide +kernel
theorem si_84_45 : decode (sp_b 84) 45 = .ok (.ifCond .eq 9, 3) := by decide +kernel
theorem si_84_48 : decode (sp_b 84) 48 = .ok (.aload_n 0, 1) := by decide +kernel
theorem si_84_49 : decode (sp_b 84) 49 = .ok (.iload_n 3, 1) := by decide +kernel
theorem si_84_50 : decode (sp_b 84) 50 = .ok (.invokevirtual 76, 3) := by decide +kernel
theorem sk_84_76 : sp_okL 84 76 12 316 = true := by decide +kernel
theorem si_84_53 : decode (sp_b 84) 53 = .ok (.ireturn, 1) := by decide +kernel
theorem si_84_54 : decode (sp_b 84) 54 = .ok (.aload_n 0, 1) := by decide +kernel
theorem si_84_55 : decode (sp_b 84) 55 = .ok (.getfield 40, 3) := by decide +kernel
theorem sf_84_40 : sp_okF 84 40 7 5 267 = true := by decide +kernel
theorem si_84_58 : decode (sp_b 84) 58 = .ok (.aload_n 0, 1) := by decide +kernel
theorem si_84_59 : decode (sp_b 84) 59 = .ok (.getfield 36, 3) := by decide +kernel
theorem sf_84_36 : sp_okF 84 36 7 4 266 = true := by decide +kernel
theorem si_84_62 : decode (sp_b 84) 62 = .ok (.invokevirtual 131, 3) := by decide +kernel
theorem sk_84_131 : sp_okL 84 131 39 429 = true := by decide +kernel
theorem si_84_65 : decode (sp_b 84) 65 = .ok (.aload_n 0, 1) := by decide +kernel
theorem si_84_66 : decode (sp_b 84) 66 = .ok (.getfield 53, 3) := by decide +kernel
theorem si_84_69 : decode (sp_b 84) 69 = .ok (.iload_n 1, 1) := by decide +kernel
theorem si_84_70 : decode (sp_b 84) 70 = .ok (.aaload, 1) := by decide +kernel
theorem si_84_71 : decode (sp_b 84) 71 = .ok (.aload_n 0, 1) := by decide +kernel
theorem si_84_72 : decode (sp_b 84) 72 = .ok (.getfield 43, 3) := by decide +kernel
theorem sf_84_43 : sp_okF 84 43 7 6 268 = true := by decide +kernel
theorem si_84_75 : decode (sp_b 84) 75 = .ok (.invokevirtual 217, 3) := by decide +kernel
theorem sk_84_217 : sp_okL 84 217 67 548 = true := by decide +kernel
theorem si_84_78 : decode (sp_b 84) 78 = .ok (.aload_n 0, 1) := by decide +kernel
theorem si_84_79 : decode (sp_b 84) 79 = .ok (.getfield 14, 3) := by decide +kernel
theorem si_84_82 : decode (sp_b 84) 82 = .ok (.iload_n 2, 1) := by decide +kernel
theorem si_84_83 : decode (sp_b 84) 83 = .ok (.invokevirtual 114, 3) := by decide +kernel
theorem sk_84_114 : sp_okL 84 114 26 374 = true := by decide +kernel
theorem si_84_86 : decode (sp_b 84) 86 = .ok (.istore 4, 2) := by decide +kernel
theorem si_84_88 : decode (sp_b 84) 88 = .ok (.iconst 0, 1) := by decide +kernel
theorem si_84_89 : decode (sp_b 84) 89 = .ok (.istore 5, 2) := by decide +kernel
theorem si_84_91 : decode (sp_b 84) 91 = .ok (.iload 5, 2) := by decide +kernel
theorem si_84_93 : decode (sp_b 84) 93 = .ok (.iload 4, 2) := by decide +kernel
theorem si_84_95 : decode (sp_b 84) 95 = .ok (.if_icmp .ge 69, 3) := by decide +kernel
theorem si_84_98 : decode (sp_b 84) 98 = .ok (.iload 5, 2) := by decide +kernel
theorem si_84_100 : decode (sp_b 84) 100 = .ok (.iconst 2, 1) := by decide +kernel
theorem si_84_101 : decode (sp_b 84) 101 = .ok (.irem, 1) := by decide +kernel
theorem si_84_102 : decode (sp_b 84) 102 = .ok (.ifCond .ne 10, 3) := by decide +kernel
theorem si_84_105 : decode (sp_b 84) 105 = .ok (.aload_n 0, 1) := by decide +kernel
theorem si_84_106 : decode (sp_b 84) 106 = .ok (.getfield 40, 3) := by decide +kernel
theorem si_84_109 : decode (sp_b 84) 109 = .ok (.goto 7, 3) := by decide +kernel
theorem si_84_112 : decode (sp_b 84) 112 = .ok (.aload_n 0, 1) := by decide +kernel
theorem si_84_113 : decode (sp_b 84) 113 = .ok (.getfield 43, 3) := by decide +kernel
theorem si_84_116 : decode (sp_b 84) 116 = .ok (.astore 6, 2) := by decide +kernel
theorem si_84_118 : decode (sp_b 84) 118 = .ok (.aload_n 0, 1) := by decide +kernel
theorem si_84_119 : decode (sp_b 84) 119 = .ok (.getfield 14, 3) := by decide +kernel
theorem si_84_122 : decode (sp_b 84) 122 = .ok (.iload_n 2, 1) := by decide +kernel
theorem si_84_123 : decode (sp_b 84) 123 = .ok (.iload 5, 2) := by decide +kernel
theorem si_84_125 : decode (sp_b 84) 125 = .ok (.invokevirtual 88, 3) := by decide +kernel
theorem sk_84_88 : sp_okL 84 88 18 339 = true := by decide +kernel
theorem si_84_128 : decode (sp_b 84) 128 = .ok (.istore 7, 2) := by decide +kernel
theorem si_84_130 : decode (sp_b 84) 130 = .ok (.aload_n 0, 1) := by decide +kernel
theorem si_84_131 : decode (sp_b 84) 131 = .ok (.getfield 32, 3) := by decide +kernel
theorem sf_84_32 : sp_okF 84 32 7 3 265 = true := by decide +kernel
theorem si_84_134 : decode (sp_b 84) 134 = .ok (.iload 7, 2) := by decide +kernel
theorem si_84_136 : decode (sp_b 84) 136 = .ok (.aload 6, 2) := by decide +kernel
theorem si_84_138 : decode (sp_b 84) 138 = .ok (.invokevirtual 185, 3) := by decide +kernel
theorem sk_84_185 : sp_okL 84 185 45 455 = true := by decide +kernel
theorem si_84_141 : decode (sp_b 84) 141 = .ok (.ifCond .ne 6, 3) := by decide +kernel
theorem si_84_144 : decode (sp_b 84) 144 = .ok (.iload 5, 2) := by decide +kernel
theorem si_84_146 : decode (sp_b 84) 146 = .ok (.ireturn, 1) := by decide +kernel
theorem si_84_147 : decode (sp_b 84) 147 = .ok (.aload_n 0, 1) := by decide +kernel
theorem si_84_148 : decode (sp_b 84) 148 = .ok (.getfield 32, 3) := by decide +kernel
theorem si_84_151 : decode (sp_b 84) 151 = .ok (.iload 7, 2) := by decide +kernel
theorem si_84_153 : decode (sp_b 84) 153 = .ok (.aload 6, 2) := by decide +kernel
theorem si_84_155 : decode (sp_b 84) 155 = .ok (.invokevirtual 192, 3) := by decide +kernel
theorem sk_84_192 : sp_okL 84 192 55 498 = true := by decide +kernel
theorem si_84_158 : decode (sp_b 84) 158 = .ok (.iinc 5 1, 3) := by decide +kernel
theorem si_84_161 : decode (sp_b 84) 161 = .ok (.goto (-70), 3) := by decide +kernel
theorem si_84_164 : decode (sp_b 84) 164 = .ok (.iload 4, 2) := by decide +kernel
theorem si_84_166 : decode (sp_b 84) 166 = .ok (.ireturn, 1) := by decide +kernel
theorem si_85_0 : decode (sp_b 85) 0 = .ok (.aload_n 0, 1) := by decide +kernel
theorem si_85_1 : decode (sp_b 85) 1 = .ok (.getfield 14, 3) := by decide +kernel
theorem sf_85_14 : sp_okF 85 14 7 0 262 = true := by decide +kernel
theorem si_85_4 : decode (sp_b 85) 4 = .ok (.iload_n 1, 1) := by decide +kernel
theorem si_85_5 : decode (sp_b 85) 5 = .ok (.invokevirtual 72, 3) := by decide +kernel
theorem sk_85_72 : sp_okL 85 72 11 312 = true := by decide +kernel
theorem si_85_8 : decode (sp_b 85) 8 = .ok (.ifCond .ne 5, 3) := by decide +kernel
theorem si_85_11 : decode (sp_b 85) 11 = .ok (.iconst (-1), 1) := by decide +kernel
theorem si_85_12 : decode (sp_b 85) 12 = .ok (.ireturn, 1) := by decide +kernel
theorem si_85_13 : decode (sp_b 85) 13 = .ok (.aload_n 0, 1) := by decide +kernel
theorem si_85_14 : decode (sp_b 85) 14 = .ok (.getfield 32, 3) := by decide +kernel
theorem sf_85_32 : sp_okF 85 32 7 3 265 = true := by decide +kernel
theorem si_85_17 : decode (sp_b 85) 17 = .ok (.getfield 145, 3) := by decide +kernel
theorem sf_85_145 : sp_okF 85 145 0 3 130 = true := by decide +kernel
theorem si_85_20 : decode (sp_b 85) 20 = .ok (.ifCond .ne 6, 3) := by decide +kernel
theorem si_85_23 : decode (sp_b 85) 23 = .ok (.bipush (-4), 2) := by decide +kernel
theorem si_85_25 : decode (sp_b 85) 25 = .ok (.ireturn, 1) := by decide +kernel
theorem si_85_26 : decode (sp_b 85) 26 = .ok (.aload_n 0, 1) := by decide +kernel
theorem si_85_27 : decode (sp_b 85) 27 = .ok (.getfield 24, 3) := by decide +kernel
theorem sf_85_24 : sp_okF 85 24 7 2 264 = true := by decide +kernel
theorem si_85_30 : decode (sp_b 85) 30 = .ok (.aload_n 0, 1) := by decide +kernel
theorem si_85_31 : decode (sp_b 85) 31 = .ok (.getfield 36, 3) := by decide +kernel
theorem sf_85_36 : sp_okF 85 36 7 4 266 = true := by decide +kernel
theorem si_85_34 : decode (sp_b 85) 34 = .ok (.invokevirtual 241, 3) := by decide +kernel
theorem sk_85_241 : sp_okL 85 241 86 634 = true := by decide +kernel
theorem si_85_37 : decode (sp_b 85) 37 = .ok (.istore_n 2, 1) := by decide +kernel
theorem si_85_38 : decode (sp_b 85) 38 = .ok (.aload_n 0, 1) := by decide +kernel
theorem si_85_39 : decode (sp_b 85) 39 = .ok (.getfield 24, 3) := by decide +kernel
theorem si_85_42 : decode (sp_b 85) 42 = .ok (.aload_n 0, 1) := by decide +kernel
theorem si_85_43 : decode (sp_b 85) 43 = .ok (.getfield 14, 3) := by decide +kernel
theorem si_85_46 : decode (sp_b 85) 46 = .ok (.iload_n 1, 1) := by decide +kernel
theorem si_85_47 : decode (sp_b 85) 47 = .ok (.invokevirtual 237, 3) := by decide +kernel
theorem sk_85_237 : sp_okL 85 237 81 612 = true := by decide +kernel
theorem si_85_50 : decode (sp_b 85) 50 = .ok (.iload_n 2, 1) := by decide +kernel
theorem si_85_51 : decode (sp_b 85) 51 = .ok (.ireturn, 1) := by decide +kernel
