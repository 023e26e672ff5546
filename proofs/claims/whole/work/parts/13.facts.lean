theorem si_121_0 : decode (sp_b 121) 0 = .ok (.aload_n 0, 1) := by decide +kernel
theorem si_121_1 : decode (sp_b 121) 1 = .ok (.getfield 293, 3) := by decide +kernel
theorem sf_121_293 : sp_okF 121 293 7 13 275 = true := by decide +kernel
theorem si_121_4 : decode (sp_b 121) 4 = .ok (.lreturn, 1) := by decide +kernel
theorem si_122_0 : decode (sp_b 122) 0 = .ok (.aload_n 0, 1) := by decide +kernel
theorem si_122_1 : decode (sp_b 122) 1 = .ok (.getfield 68, 3) := by decide +kernel
theorem sf_122_68 : sp_okF 122 68 7 14 276 = true := by decide +kernel
theorem si_122_4 : decode (sp_b 122) 4 = .ok (.lreturn, 1) := by decide +kernel
theorem si_123_0 : decode (sp_b 123) 0 = .ok (.iload_n 1, 1) := by decide +kernel
theorem si_123_1 : decode (sp_b 123) 1 = .ok (.ifCond .lt 9, 3) := by decide +kernel
theorem si_123_4 : decode (sp_b 123) 4 = .ok (.iload_n 1, 1) := by decide +kernel
theorem si_123_5 : decode (sp_b 123) 5 = .ok (.bipush 9, 2) := by decide +kernel
theorem si_123_7 : decode (sp_b 123) 7 = .ok (.if_icmp .lt 5, 3) := by decide +kernel
theorem si_123_10 : decode (sp_b 123) 10 = .ok (.iconst (-1), 1) := by decide +kernel
theorem si_123_11 : decode (sp_b 123) 11 = .ok (.ireturn, 1) := by decide +kernel
theorem si_123_12 : decode (sp_b 123) 12 = .ok (.aload_n 0, 1) := by decide +kernel
theorem si_123_13 : decode (sp_b 123) 13 = .ok (.iload_n 1, 1) := by decide +kernel
theorem si_123_14 : decode (sp_b 123) 14 = .ok (.invokevirtual 296, 3) := by decide +kernel
theorem sk_123_296 : sp_okL 123 296 124 794 = true := by decide +kernel
theorem si_123_17 : decode (sp_b 123) 17 = .ok (.ireturn, 1) := by decide +kernel
theorem si_124_0 : decode (sp_b 124) 0 = .ok (.iload_n 1, 1) := by decide +kernel
theorem si_124_1 : decode (sp_b 124) 1 = .ok (.tableswitch 112 0 7 #[47, 55, 63, 71, 79, 87, 96, 104], 47) := by decide +kernel
theorem si_124_48 : decode (sp_b 124) 48 = .ok (.aload_n 0, 1) := by decide +kernel
theorem si_124_49 : decode (sp_b 124) 49 = .ok (.getfield 32, 3) := by decide +kernel
theorem sf_124_32 : sp_okF 124 32 7 3 265 = true := by decide +kernel
theorem si_124_52 : decode (sp_b 124) 52 = .ok (.getfield 145, 3) := by decide +kernel
theorem sf_124_145 : sp_okF 124 145 0 3 130 = true := by decide +kernel
theorem si_124_55 : decode (sp_b 124) 55 = .ok (.ireturn, 1) := by decide +kernel
theorem si_124_56 : decode (sp_b 124) 56 = .ok (.aload_n 0, 1) := by decide +kernel
theorem si_124_57 : decode (sp_b 124) 57 = .ok (.getfield 49, 3) := by decide +kernel
theorem sf_124_49 : sp_okF 124 49 7 7 269 = true := by decide +kernel
theorem si_124_60 : decode (sp_b 124) 60 = .ok (.getfield 214, 3) := by decide +kernel
theorem sf_124_214 : sp_okF 124 214 6 1 224 = true := by decide +kernel
theorem si_124_63 : decode (sp_b 124) 63 = .ok (.ireturn, 1) := by decide +kernel
theorem si_124_64 : decode (sp_b 124) 64 = .ok (.aload_n 0, 1) := by decide +kernel
theorem si_124_65 : decode (sp_b 124) 65 = .ok (.getfield 36, 3) := by decide +kernel
theorem sf_124_36 : sp_okF 124 36 7 4 266 = true := by decide +kernel
theorem si_124_68 : decode (sp_b 124) 68 = .ok (.getfield 172, 3) := by decide +kernel
theorem sf_124_172 : sp_okF 124 172 2 1 170 = true := by decide +kernel
theorem si_124_71 : decode (sp_b 124) 71 = .ok (.ireturn, 1) := by decide +kernel
theorem si_124_72 : decode (sp_b 124) 72 = .ok (.aload_n 0, 1) := by decide +kernel
theorem si_124_73 : decode (sp_b 124) 73 = .ok (.getfield 36, 3) := by decide +kernel
theorem si_124_76 : decode (sp_b 124) 76 = .ok (.getfield 316, 3) := by decide +kernel
theorem sf_124_316 : sp_okF 124 316 2 2 173 = true := by decide +kernel
theorem si_124_79 : decode (sp_b 124) 79 = .ok (.ireturn, 1) := by decide +kernel
theorem si_124_80 : decode (sp_b 124) 80 = .ok (.aload_n 0, 1) := by decide +kernel
theorem si_124_81 : decode (sp_b 124) 81 = .ok (.getfield 36, 3) := by decide +kernel
theorem si_124_84 : decode (sp_b 124) 84 = .ok (.getfield 230, 3) := by decide +kernel
theorem sf_124_230 : sp_okF 124 230 2 3 178 = true := by decide +kernel
theorem si_124_87 : decode (sp_b 124) 87 = .ok (.ireturn, 1) := by decide +kernel
theorem si_124_88 : decode (sp_b 124) 88 = .ok (.aload_n 0, 1) := by decide +kernel
theorem si_124_89 : decode (sp_b 124) 89 = .ok (.getfield 32, 3) := by decide +kernel
theorem si_124_92 : decode (sp_b 124) 92 = .ok (.iconst 1, 1) := by decide +kernel
theorem si_124_93 : decode (sp_b 124) 93 = .ok (.invokevirtual 319, 3) := by decide +kernel
theorem sk_124_319 : sp_okL 124 319 125 798 = true := by decide +kernel
theorem si_124_96 : decode (sp_b 124) 96 = .ok (.ireturn, 1) := by decide +kernel
theorem si_124_97 : decode (sp_b 124) 97 = .ok (.aload_n 0, 1) := by decide +kernel
theorem si_124_98 : decode (sp_b 124) 98 = .ok (.getfield 14, 3) := by decide +kernel
theorem sf_124_14 : sp_okF 124 14 7 0 262 = true := by decide +kernel
theorem si_124_101 : decode (sp_b 124) 101 = .ok (.invokevirtual 320, 3) := by decide +kernel
theorem sk_124_320 : sp_okL 124 320 126 803 = true := by decide +kernel
theorem si_124_104 : decode (sp_b 124) 104 = .ok (.ireturn, 1) := by decide +kernel
theorem si_124_105 : decode (sp_b 124) 105 = .ok (.aload_n 0, 1) := by decide +kernel
theorem si_124_106 : decode (sp_b 124) 106 = .ok (.getfield 18, 3) := by decide +kernel
theorem sf_124_18 : sp_okF 124 18 7 1 263 = true := by decide +kernel
theorem si_124_109 : decode (sp_b 124) 109 = .ok (.invokevirtual 320, 3) := by decide +kernel
theorem si_124_112 : decode (sp_b 124) 112 = .ok (.ireturn, 1) := by decide +kernel
theorem si_124_113 : decode (sp_b 124) 113 = .ok (.aload_n 0, 1) := by decide +kernel
theorem si_124_114 : decode (sp_b 124) 114 = .ok (.invokevirtual 323, 3) := by decide +kernel
theorem sk_124_323 : sp_okL 124 323 127 807 = true := by decide +kernel
theorem si_124_117 : decode (sp_b 124) 117 = .ok (.ireturn, 1) := by decide +kernel
theorem si_125_0 : decode (sp_b 125) 0 = .ok (.iconst 0, 1) := by decide +kernel
theorem si_125_1 : decode (sp_b 125) 1 = .ok (.istore_n 2, 1) := by decide +kernel
theorem si_125_2 : decode (sp_b 125) 2 = .ok (.iconst 0, 1) := by decide +kernel
theorem si_125_3 : decode (sp_b 125) 3 = .ok (.istore_n 3, 1) := by decide +kernel
theorem si_125_4 : decode (sp_b 125) 4 = .ok (.iload_n 3, 1) := by decide +kernel
theorem si_125_5 : decode (sp_b 125) 5 = .ok (.aload_n 0, 1) := by decide +kernel
theorem si_125_6 : decode (sp_b 125) 6 = .ok (.getfield 21, 3) := by decide +kernel
theorem sf_125_21 : sp_okF 125 21 0 3 127 = true := by decide +kernel
theorem si_125_9 : decode (sp_b 125) 9 = .ok (.if_icmp .ge 21, 3) := by decide +kernel
theorem si_125_12 : decode (sp_b 125) 12 = .ok (.aload_n 0, 1) := by decide +kernel
theorem si_125_13 : decode (sp_b 125) 13 = .ok (.iload_n 3, 1) := by decide +kernel
theorem si_125_14 : decode (sp_b 125) 14 = .ok (.iload_n 1, 1) := by decide +kernel
theorem si_125_15 : decode (sp_b 125) 15 = .ok (.invokevirtual 34, 3) := by decide +kernel
theorem sk_125_34 : sp_okL 125 34 47 802 = true := by decide +kernel
theorem si_125_18 : decode (sp_b 125) 18 = .ok (.ifCond .eq 6, 3) := by decide +kernel
theorem si_125_21 : decode (sp_b 125) 21 = .ok (.iinc 2 1, 3) := by decide +kernel
theorem si_125_24 : decode (sp_b 125) 24 = .ok (.iinc 3 1, 3) := by decide +kernel
theorem si_125_27 : decode (sp_b 125) 27 = .ok (.goto (-23), 3) := by decide +kernel
theorem si_125_30 : decode (sp_b 125) 30 = .ok (.iload_n 2, 1) := by decide +kernel
theorem si_125_31 : decode (sp_b 125) 31 = .ok (.ireturn, 1) := by decide +kernel
theorem si_126_0 : decode (sp_b 126) 0 = .ok (.iconst 0, 1) := by decide +kernel
theorem si_126_1 : decode (sp_b 126) 1 = .ok (.istore_n 1, 1) := by decide +kernel
theorem si_126_2 : decode (sp_b 126) 2 = .ok (.iconst 0, 1) := by decide +kernel
theorem si_126_3 : decode (sp_b 126) 3 = .ok (.istore_n 2, 1) := by decide +kernel
theorem si_126_4 : decode (sp_b 126) 4 = .ok (.iload_n 2, 1) := by decide +kernel
theorem si_126_5 : decode (sp_b 126) 5 = .ok (.aload_n 0, 1) := by decide +kernel
theorem si_126_6 : decode (sp_b 126) 6 = .ok (.getfield 14, 3) := by decide +kernel
theorem sf_126_14 : sp_okF 126 14 5 1 99 = true := by decide +kernel
theorem si_126_9 : decode (sp_b 126) 9 = .ok (.arraylength, 1) := by decide +kernel
theorem si_126_10 : decode (sp_b 126) 10 = .ok (.if_icmp .ge 21, 3) := by decide +kernel
theorem si_126_13 : decode (sp_b 126) 13 = .ok (.aload_n 0, 1) := by decide +kernel
theorem si_126_14 : decode (sp_b 126) 14 = .ok (.getfield 14, 3) := by decide +kernel
theorem si_126_17 : decode (sp_b 126) 17 = .ok (.iload_n 2, 1) := by decide +kernel
theorem si_126_18 : decode (sp_b 126) 18 = .ok (.iaload, 1) := by decide +kernel
theorem si_126_19 : decode (sp_b 126) 19 = .ok (.ifCond .lt 6, 3) := by decide +kernel
theorem si_126_22 : decode (sp_b 126) 22 = .ok (.iinc 1 1, 3) := by decide +kernel
theorem si_126_25 : decode (sp_b 126) 25 = .ok (.iinc 2 1, 3) := by decide +kernel
theorem si_126_28 : decode (sp_b 126) 28 = .ok (.goto (-24), 3) := by decide +kernel
theorem si_126_31 : decode (sp_b 126) 31 = .ok (.iload_n 1, 1) := by decide +kernel
theorem si_126_32 : decode (sp_b 126) 32 = .ok (.ireturn, 1) := by decide +kernel
theorem si_127_0 : decode (sp_b 127) 0 = .ok (.iconst 0, 1) := by decide +kernel
theorem si_127_1 : decode (sp_b 127) 1 = .ok (.istore_n 1, 1) := by decide +kernel
theorem si_127_2 : decode (sp_b 127) 2 = .ok (.iconst 0, 1) := by decide +kernel
theorem si_127_3 : decode (sp_b 127) 3 = .ok (.istore_n 2, 1) := by decide +kernel
theorem si_127_4 : decode (sp_b 127) 4 = .ok (.iload_n 2, 1) := by decide +kernel
theorem si_127_5 : decode (sp_b 127) 5 = .ok (.iconst 3, 1) := by decide +kernel
theorem si_127_6 : decode (sp_b 127) 6 = .ok (.if_icmp .ge 24, 3) := by decide +kernel
theorem si_127_9 : decode (sp_b 127) 9 = .ok (.aload_n 0, 1) := by decide +kernel
theorem si_127_10 : decode (sp_b 127) 10 = .ok (.getfield 53, 3) := by decide +kernel
theorem sf_127_53 : sp_okF 127 53 7 8 270 = true := by decide +kernel
theorem si_127_13 : decode (sp_b 127) 13 = .ok (.iload_n 2, 1) := by decide +kernel
theorem si_127_14 : decode (sp_b 127) 14 = .ok (.aaload, 1) := by decide +kernel
theorem si_127_15 : decode (sp_b 127) 15 = .ok (.getfield 141, 3) := by decide +kernel
theorem sf_127_141 : sp_okF 127 141 6 3 228 = true := by decide +kernel
theorem si_127_18 : decode (sp_b 127) 18 = .ok (.ifCond .eq 6, 3) := by decide +kernel
theorem si_127_21 : decode (sp_b 127) 21 = .ok (.iinc 1 1, 3) := by decide +kernel
theorem si_127_24 : decode (sp_b 127) 24 = .ok (.iinc 2 1, 3) := by decide +kernel
theorem si_127_27 : decode (sp_b 127) 27 = .ok (.goto (-23), 3) := by decide +kernel
theorem si_127_30 : decode (sp_b 127) 30 = .ok (.iload_n 1, 1) := by decide +kernel
theorem si_127_31 : decode (sp_b 127) 31 = .ok (.ireturn, 1) := by decide +kernel
theorem si_128_0 : decode (sp_b 128) 0 = .ok (.aload_n 0, 1) := by decide +kernel
theorem si_128_1 : decode (sp_b 128) 1 = .ok (.getfield 299, 3) := by decide +kernel
theorem sf_128_299 : sp_okF 128 299 7 11 273 = true := by decide +kernel
theorem si_128_4 : decode (sp_b 128) 4 = .ok (.ireturn, 1) := by decide +kernel
theorem si_129_0 : decode (sp_b 129) 0 = .ok (.iload_n 1, 1) := by decide +kernel
theorem si_129_1 : decode (sp_b 129) 1 = .ok (.iconst 1, 1) := by decide +kernel
theorem si_129_2 : decode (sp_b 129) 2 = .ok (.if_icmp .lt 8, 3) := by decide +kernel
theorem si_129_5 : decode (sp_b 129) 5 = .ok (.iload_n 1, 1) := by decide +kernel
theorem si_129_6 : decode (sp_b 129) 6 = .ok (.iconst 5, 1) := by decide +kernel
theorem si_129_7 : decode (sp_b 129) 7 = .ok (.if_icmp .le 5, 3) := by decide +kernel
theorem si_129_10 : decode (sp_b 129) 10 = .ok (.iconst (-1), 1) := by decide +kernel
theorem si_129_11 : decode (sp_b 129) 11 = .ok (.ireturn, 1) := by decide +kernel
theorem si_129_12 : decode (sp_b 129) 12 = .ok (.aload_n 0, 1) := by decide +kernel
theorem si_129_13 : decode (sp_b 129) 13 = .ok (.getfield 64, 3) := by decide +kernel
theorem sf_129_64 : sp_okF 129 64 7 10 272 = true := by decide +kernel
theorem si_129_16 : decode (sp_b 129) 16 = .ok (.iload_n 1, 1) := by decide +kernel
theorem si_129_17 : decode (sp_b 129) 17 = .ok (.iaload, 1) := by decide +kernel
theorem si_129_18 : decode (sp_b 129) 18 = .ok (.ireturn, 1) := by decide +kernel
theorem si_130_0 : decode (sp_b 130) 0 = .ok (.ldc2_w 302, 3) := by decide +kernel
theorem sc_130_302 : sp_okCL 130 302 823 (17) = true := by decide +kernel
theorem si_130_3 : decode (sp_b 130) 3 = .ok (.lstore_n 1, 1) := by decide +kernel
theorem si_130_4 : decode (sp_b 130) 4 = .ok (.iconst 0, 1) := by decide +kernel
theorem si_130_5 : decode (sp_b 130) 5 = .ok (.istore_n 3, 1) := by decide +kernel
theorem si_130_6 : decode (sp_b 130) 6 = .ok (.iload_n 3, 1) := by decide +kernel
theorem si_130_7 : decode (sp_b 130) 7 = .ok (.bipush 9, 2) := by decide +kernel
theorem si_130_9 : decode (sp_b 130) 9 = .ok (.if_icmp .ge 22, 3) := by decide +kernel
theorem si_130_12 : decode (sp_b 130) 12 = .ok (.ldc2_w 304, 3) := by decide +kernel
theorem sc_130_304 : sp_okCL 130 304 824 (31) = true := by decide +kernel
theorem si_130_15 : decode (sp_b 130) 15 = .ok (.lload_n 1, 1) := by decide +kernel
theorem si_130_16 : decode (sp_b 130) 16 = .ok (.lmul, 1) := by decide +kernel
theorem si_130_17 : decode (sp_b 130) 17 = .ok (.aload_n 0, 1) := by decide +kernel
theorem si_130_18 : decode (sp_b 130) 18 = .ok (.iload_n 3, 1) := by decide +kernel
theorem si_130_19 : decode (sp_b 130) 19 = .ok (.invokevirtual 296, 3) := by decide +kernel
theorem sk_130_296 : sp_okL 130 296 124 794 = true := by decide +kernel
theorem si_130_22 : decode (sp_b 130) 22 = .ok (.i2l, 1) := by decide +kernel
theorem si_130_23 : decode (sp_b 130) 23 = .ok (.ladd, 1) := by decide +kernel
theorem si_130_24 : decode (sp_b 130) 24 = .ok (.lstore_n 1, 1) := by decide +kernel
theorem si_130_25 : decode (sp_b 130) 25 = .ok (.iinc 3 1, 3) := by decide +kernel
theorem si_130_28 : decode (sp_b 130) 28 = .ok (.goto (-22), 3) := by decide +kernel
theorem si_130_31 : decode (sp_b 130) 31 = .ok (.ldc2_w 304, 3) := by decide +kernel
theorem si_130_34 : decode (sp_b 130) 34 = .ok (.lload_n 1, 1) := by decide +kernel
theorem si_130_35 : decode (sp_b 130) 35 = .ok (.lmul, 1) := by decide +kernel
theorem si_130_36 : decode (sp_b 130) 36 = .ok (.aload_n 0, 1) := by decide +kernel
theorem si_130_37 : decode (sp_b 130) 37 = .ok (.getfield 49, 3) := by decide +kernel
theorem sf_130_49 : sp_okF 130 49 7 7 269 = true := by decide +kernel
theorem si_130_40 : decode (sp_b 130) 40 = .ok (.getfield 184, 3) := by decide +kernel
theorem sf_130_184 : sp_okF 130 184 6 2 226 = true := by decide +kernel
theorem si_130_43 : decode (sp_b 130) 43 = .ok (.i2l, 1) := by decide +kernel
theorem si_130_44 : decode (sp_b 130) 44 = .ok (.ladd, 1) := by decide +kernel
theorem si_130_45 : decode (sp_b 130) 45 = .ok (.lstore_n 1, 1) := by decide +kernel
theorem si_130_46 : decode (sp_b 130) 46 = .ok (.iconst 0, 1) := by decide +kernel
theorem si_130_47 : decode (sp_b 130) 47 = .ok (.istore_n 3, 1) := by decide +kernel
theorem si_130_48 : decode (sp_b 130) 48 = .ok (.iload_n 3, 1) := by decide +kernel
theorem si_130_49 : decode (sp_b 130) 49 = .ok (.aload_n 0, 1) := by decide +kernel
theorem si_130_50 : decode (sp_b 130) 50 = .ok (.getfield 32, 3) := by decide +kernel
theorem sf_130_32 : sp_okF 130 32 7 3 265 = true := by decide +kernel
theorem si_130_53 : decode (sp_b 130) 53 = .ok (.getfield 145, 3) := by decide +kernel
theorem sf_130_145 : sp_okF 130 145 0 3 130 = true := by decide +kernel
theorem si_130_56 : decode (sp_b 130) 56 = .ok (.if_icmp .ge 39, 3) := by decide +kernel
theorem si_130_59 : decode (sp_b 130) 59 = .ok (.iconst 0, 1) := by decide +kernel
theorem si_130_60 : decode (sp_b 130) 60 = .ok (.istore 4, 2) := by decide +kernel
theorem si_130_62 : decode (sp_b 130) 62 = .ok (.iload 4, 2) := by decide +kernel
theorem si_130_64 : decode (sp_b 130) 64 = .ok (.iconst 5, 1) := by decide +kernel
theorem si_130_65 : decode (sp_b 130) 65 = .ok (.if_icmp .ge 24, 3) := by decide +kernel
theorem si_130_68 : decode (sp_b 130) 68 = .ok (.ldc2_w 304, 3) := by decide +kernel
theorem si_130_71 : decode (sp_b 130) 71 = .ok (.lload_n 1, 1) := by decide +kernel
theorem si_130_72 : decode (sp_b 130) 72 = .ok (.lmul, 1) := by decide +kernel
theorem si_130_73 : decode (sp_b 130) 73 = .ok (.aload_n 0, 1) := by decide +kernel
theorem si_130_74 : decode (sp_b 130) 74 = .ok (.iload_n 3, 1) := by decide +kernel
theorem si_130_75 : decode (sp_b 130) 75 = .ok (.iload 4, 2) := by decide +kernel
theorem si_130_77 : decode (sp_b 130) 77 = .ok (.invokevirtual 151, 3) := by decide +kernel
theorem sk_130_151 : sp_okL 130 151 44 451 = true := by decide +kernel
theorem si_130_80 : decode (sp_b 130) 80 = .ok (.i2l, 1) := by decide +kernel
theorem si_130_81 : decode (sp_b 130) 81 = .ok (.ladd, 1) := by decide +kernel
theorem si_130_82 : decode (sp_b 130) 82 = .ok (.lstore_n 1, 1) := by decide +kernel
theorem si_130_83 : decode (sp_b 130) 83 = .ok (.iinc 4 1, 3) := by decide +kernel
theorem si_130_86 : decode (sp_b 130) 86 = .ok (.goto (-24), 3) := by decide +kernel
theorem si_130_89 : decode (sp_b 130) 89 = .ok (.iinc 3 1, 3) := by decide +kernel
theorem si_130_92 : decode (sp_b 130) 92 = .ok (.goto (-44), 3) := by decide +kernel
theorem si_130_95 : decode (sp_b 130) 95 = .ok (.iconst 0, 1) := by decide +kernel
theorem si_130_96 : decode (sp_b 130) 96 = .ok (.istore_n 3, 1) := by decide +kernel
theorem si_130_97 : decode (sp_b 130) 97 = .ok (.iload_n 3, 1) := by decide +kernel
theorem si_130_98 : decode (sp_b 130) 98 = .ok (.iconst 3, 1) := by decide +kernel
theorem si_130_99 : decode (sp_b 130) 99 = .ok (.if_icmp .ge 42, 3) := by decide +kernel
theorem si_130_102 : decode (sp_b 130) 102 = .ok (.ldc2_w 304, 3) := by decide +kernel
theorem si_130_105 : decode (sp_b 130) 105 = .ok (.lload_n 1, 1) := by decide +kernel
theorem si_130_106 : decode (sp_b 130) 106 = .ok (.lmul, 1) := by decide +kernel
theorem si_130_107 : decode (sp_b 130) 107 = .ok (.aload_n 0, 1) := by decide +kernel
theorem si_130_108 : decode (sp_b 130) 108 = .ok (.getfield 53, 3) := by decide +kernel
theorem sf_130_53 : sp_okF 130 53 7 8 270 = true := by decide +kernel
theorem si_130_111 : decode (sp_b 130) 111 = .ok (.iload_n 3, 1) := by decide +kernel
theorem si_130_112 : decode (sp_b 130) 112 = .ok (.aaload, 1) := by decide +kernel
theorem si_130_113 : decode (sp_b 130) 113 = .ok (.getfield 141, 3) := by decide +kernel
theorem sf_130_141 : sp_okF 130 141 6 3 228 = true := by decide +kernel
theorem si_130_116 : decode (sp_b 130) 116 = .ok (.ifCond .eq 15, 3) := by decide +kernel
theorem si_130_119 : decode (sp_b 130) 119 = .ok (.aload_n 0, 1) := by decide +kernel
theorem si_130_120 : decode (sp_b 130) 120 = .ok (.getfield 53, 3) := by decide +kernel
theorem si_130_123 : decode (sp_b 130) 123 = .ok (.iload_n 3, 1) := by decide +kernel
theorem si_130_124 : decode (sp_b 130) 124 = .ok (.aaload, 1) := by decide +kernel
theorem si_130_125 : decode (sp_b 130) 125 = .ok (.getfield 214, 3) := by decide +kernel
theorem sf_130_214 : sp_okF 130 214 6 1 224 = true := by decide +kernel
theorem si_130_128 : decode (sp_b 130) 128 = .ok (.goto 4, 3) := by decide +kernel
theorem si_130_131 : decode (sp_b 130) 131 = .ok (.iconst (-1), 1) := by decide +kernel
theorem si_130_132 : decode (sp_b 130) 132 = .ok (.i2l, 1) := by decide +kernel
theorem si_130_133 : decode (sp_b 130) 133 = .ok (.ladd, 1) := by decide +kernel
theorem si_130_134 : decode (sp_b 130) 134 = .ok (.lstore_n 1, 1) := by decide +kernel
theorem si_130_135 : decode (sp_b 130) 135 = .ok (.iinc 3 1, 3) := by decide +kernel
theorem si_130_138 : decode (sp_b 130) 138 = .ok (.goto (-41), 3) := by decide +kernel
theorem si_130_141 : decode (sp_b 130) 141 = .ok (.aload_n 0, 1) := by decide +kernel
theorem si_130_142 : decode (sp_b 130) 142 = .ok (.getfield 18, 3) := by decide +kernel
theorem sf_130_18 : sp_okF 130 18 7 1 263 = true := by decide +kernel
theorem si_130_145 : decode (sp_b 130) 145 = .ok (.aload_n 0, 1) := by decide +kernel
theorem si_130_146 : decode (sp_b 130) 146 = .ok (.getfield 14, 3) := by decide +kernel
theorem sf_130_14 : sp_okF 130 14 7 0 262 = true := by decide +kernel
theorem si_130_149 : decode (sp_b 130) 149 = .ok (.lload_n 1, 1) := by decide +kernel
theorem si_130_150 : decode (sp_b 130) 150 = .ok (.invokevirtual 306, 3) := by decide +kernel
theorem sk_130_306 : sp_okL 130 306 131 825 = true := by decide +kernel
theorem si_130_153 : decode (sp_b 130) 153 = .ok (.invokevirtual 306, 3) := by decide +kernel
theorem si_130_156 : decode (sp_b 130) 156 = .ok (.lreturn, 1) := by decide +kernel
theorem si_131_0 : decode (sp_b 131) 0 = .ok (.lload_n 1, 1) := by decide +kernel
theorem si_131_1 : decode (sp_b 131) 1 = .ok (.lstore_n 3, 1) := by decide +kernel
theorem si_131_2 : decode (sp_b 131) 2 = .ok (.iconst 0, 1) := by decide +kernel
theorem si_131_3 : decode (sp_b 131) 3 = .ok (.istore 5, 2) := by decide +kernel
theorem si_131_5 : decode (sp_b 131) 5 = .ok (.iload 5, 2) := by decide +kernel
theorem si_131_7 : decode (sp_b 131) 7 = .ok (.aload_n 0, 1) := by decide +kernel
theorem si_131_8 : decode (sp_b 131) 8 = .ok (.getfield 14, 3) := by decide +kernel
theorem sf_131_14 : sp_okF 131 14 5 1 99 = true := by decide +kernel
theorem si_131_11 : decode (sp_b 131) 11 = .ok (.arraylength, 1) := by decide +kernel
theorem si_131_12 : decode (sp_b 131) 12 = .ok (.if_icmp .ge 63, 3) := by decide +kernel
theorem si_131_15 : decode (sp_b 131) 15 = .ok (.ldc2_w 30, 3) := by decide +kernel
theorem sc_131_30 : sp_okCL 131 30 829 (31) = true := by decide +kernel
theorem si_131_18 : decode (sp_b 131) 18 = .ok (.lload_n 3, 1) := by decide +kernel
theorem si_131_19 : decode (sp_b 131) 19 = .ok (.lmul, 1) := by decide +kernel
theorem si_131_20 : decode (sp_b 131) 20 = .ok (.aload_n 0, 1) := by decide +kernel
theorem si_131_21 : decode (sp_b 131) 21 = .ok (.getfield 14, 3) := by decide +kernel
theorem si_131_24 : decode (sp_b 131) 24 = .ok (.iload 5, 2) := by decide +kernel
theorem si_131_26 : decode (sp_b 131) 26 = .ok (.iaload, 1) := by decide +kernel
theorem si_131_27 : decode (sp_b 131) 27 = .ok (.i2l, 1) := by decide +kernel
theorem si_131_28 : decode (sp_b 131) 28 = .ok (.ladd, 1) := by decide +kernel
theorem si_131_29 : decode (sp_b 131) 29 = .ok (.lstore_n 3, 1) := by decide +kernel
theorem si_131_30 : decode (sp_b 131) 30 = .ok (.iconst 0, 1) := by decide +kernel
theorem si_131_31 : decode (sp_b 131) 31 = .ok (.istore 6, 2) := by decide +kernel
theorem si_131_33 : decode (sp_b 131) 33 = .ok (.iload 6, 2) := by decide +kernel
theorem si_131_35 : decode (sp_b 131) 35 = .ok (.aload_n 0, 1) := by decide +kernel
theorem si_131_36 : decode (sp_b 131) 36 = .ok (.getfield 14, 3) := by decide +kernel
theorem si_131_39 : decode (sp_b 131) 39 = .ok (.iload 5, 2) := by decide +kernel
theorem si_131_41 : decode (sp_b 131) 41 = .ok (.iaload, 1) := by decide +kernel
theorem si_131_42 : decode (sp_b 131) 42 = .ok (.if_icmp .ge 27, 3) := by decide +kernel
theorem si_131_45 : decode (sp_b 131) 45 = .ok (.ldc2_w 30, 3) := by decide +kernel
theorem si_131_48 : decode (sp_b 131) 48 = .ok (.lload_n 3, 1) := by decide +kernel
theorem si_131_49 : decode (sp_b 131) 49 = .ok (.lmul, 1) := by decide +kernel
theorem si_131_50 : decode (sp_b 131) 50 = .ok (.aload_n 0, 1) := by decide +kernel
theorem si_131_51 : decode (sp_b 131) 51 = .ok (.getfield 9, 3) := by decide +kernel
theorem sf_131_9 : sp_okF 131 9 5 0 98 = true := by decide +kernel
theorem si_131_54 : decode (sp_b 131) 54 = .ok (.iload 5, 2) := by decide +kernel
theorem si_131_56 : decode (sp_b 131) 56 = .ok (.aaload, 1) := by decide +kernel
theorem si_131_57 : decode (sp_b 131) 57 = .ok (.iload 6, 2) := by decide +kernel
theorem si_131_59 : decode (sp_b 131) 59 = .ok (.iaload, 1) := by decide +kernel
theorem si_131_60 : decode (sp_b 131) 60 = .ok (.i2l, 1) := by decide +kernel
theorem si_131_61 : decode (sp_b 131) 61 = .ok (.ladd, 1) := by decide +kernel
theorem si_131_62 : decode (sp_b 131) 62 = .ok (.lstore_n 3, 1) := by decide +kernel
theorem si_131_63 : decode (sp_b 131) 63 = .ok (.iinc 6 1, 3) := by decide +kernel
theorem si_131_66 : decode (sp_b 131) 66 = .ok (.goto (-33), 3) := by decide +kernel
theorem si_131_69 : decode (sp_b 131) 69 = .ok (.iinc 5 1, 3) := by decide +kernel
theorem si_131_72 : decode (sp_b 131) 72 = .ok (.goto (-67), 3) := by decide +kernel
theorem si_131_75 : decode (sp_b 131) 75 = .ok (.lload_n 3, 1) := by decide +kernel
theorem si_131_76 : decode (sp_b 131) 76 = .ok (.lreturn, 1) := by decide +kernel
theorem si_133_0 : decode (sp_b 133) 0 = .ok (.aload_n 0, 1) := by decide +kernel
theorem si_133_1 : decode (sp_b 133) 1 = .ok (.getfield 80, 3) := by decide +kernel
theorem sf_133_80 : sp_okF 133 80 8 0 836 = true := by decide +kernel
theorem si_133_4 : decode (sp_b 133) 4 = .ok (.ireturn, 1) := by decide +kernel
theorem si_134_0 : decode (sp_b 134) 0 = .ok (.iload_n 1, 1) := by decide +kernel
theorem si_134_1 : decode (sp_b 134) 1 = .ok (.iconst 1, 1) := by decide +kernel
theorem si_134_2 : decode (sp_b 134) 2 = .ok (.iconst 5, 1) := by decide +kernel
theorem si_134_3 : decode (sp_b 134) 3 = .ok (.invokestatic 83, 3) := by decide +kernel
theorem sk_134_83 : sp_okL 134 83 135 955 = true := by decide +kernel
theorem si_134_6 : decode (sp_b 134) 6 = .ok (.ifCond .eq 12, 3) := by decide +kernel
theorem si_134_9 : decode (sp_b 134) 9 = .ok (.aload_n 0, 1) := by decide +kernel
theorem si_134_10 : decode (sp_b 134) 10 = .ok (.getfield 7, 3) := by decide +kernel
theorem sf_134_7 : sp_okF 134 7 8 1 837 = true := by decide +kernel
theorem si_134_13 : decode (sp_b 134) 13 = .ok (.iload_n 1, 1) := by decide +kernel
theorem si_134_14 : decode (sp_b 134) 14 = .ok (.iaload, 1) := by decide +kernel
theorem si_134_15 : decode (sp_b 134) 15 = .ok (.goto 4, 3) := by decide +kernel
theorem si_134_18 : decode (sp_b 134) 18 = .ok (.iconst (-1), 1) := by decide +kernel
theorem si_134_19 : decode (sp_b 134) 19 = .ok (.ireturn, 1) := by decide +kernel
theorem si_135_0 : decode (sp_b 135) 0 = .ok (.iload_n 0, 1) := by decide +kernel
theorem si_135_1 : decode (sp_b 135) 1 = .ok (.iload_n 1, 1) := by decide +kernel
theorem si_135_2 : decode (sp_b 135) 2 = .ok (.if_icmp .lt 12, 3) := by decide +kernel
theorem si_135_5 : decode (sp_b 135) 5 = .ok (.iload_n 0, 1) := by decide +kernel
theorem si_135_6 : decode (sp_b 135) 6 = .ok (.iload_n 2, 1) := by decide +kernel
theorem si_135_7 : decode (sp_b 135) 7 = .ok (.if_icmp .gt 7, 3) := by decide +kernel
theorem si_135_10 : decode (sp_b 135) 10 = .ok (.iconst 1, 1) := by decide +kernel
theorem si_135_11 : decode (sp_b 135) 11 = .ok (.goto 4, 3) := by decide +kernel
theorem si_135_14 : decode (sp_b 135) 14 = .ok (.iconst 0, 1) := by decide +kernel
theorem si_135_15 : decode (sp_b 135) 15 = .ok (.ireturn, 1) := by decide +kernel
theorem si_136_0 : decode (sp_b 136) 0 = .ok (.aload_n 0, 1) := by decide +kernel
theorem si_136_1 : decode (sp_b 136) 1 = .ok (.getfield 87, 3) := by decide +kernel
theorem sf_136_87 : sp_okF 136 87 8 2 838 = true := by decide +kernel
theorem si_136_4 : decode (sp_b 136) 4 = .ok (.ireturn, 1) := by decide +kernel
theorem si_137_0 : decode (sp_b 137) 0 = .ok (.aload_n 0, 1) := by decide +kernel
theorem si_137_1 : decode (sp_b 137) 1 = .ok (.getfield 90, 3) := by decide +kernel
theorem sf_137_90 : sp_okF 137 90 8 3 839 = true := by decide +kernel
theorem si_137_4 : decode (sp_b 137) 4 = .ok (.lreturn, 1) := by decide +kernel
theorem si_138_0 : decode (sp_b 138) 0 = .ok (.aload_n 0, 1) := by decide +kernel
theorem si_138_1 : decode (sp_b 138) 1 = .ok (.getfield 13, 3) := by decide +kernel
theorem sf_138_13 : sp_okF 138 13 8 4 840 = true := by decide +kernel
theorem si_138_4 : decode (sp_b 138) 4 = .ok (.lreturn, 1) := by decide +kernel
theorem si_139_0 : decode (sp_b 139) 0 = .ok (.iload_n 1, 1) := by decide +kernel
theorem si_139_1 : decode (sp_b 139) 1 = .ok (.invokestatic 93, 3) := by decide +kernel
theorem sk_139_93 : sp_okL 139 93 140 974 = true := by decide +kernel
theorem si_139_4 : decode (sp_b 139) 4 = .ok (.ifCond .eq 9, 3) := by decide +kernel
theorem si_139_7 : decode (sp_b 139) 7 = .ok (.iload_n 2, 1) := by decide +kernel
theorem si_139_8 : decode (sp_b 139) 8 = .ok (.bipush 40, 2) := by decide +kernel
theorem si_139_10 : decode (sp_b 139) 10 = .ok (.if_icmp .le 5, 3) := by decide +kernel
theorem si_139_13 : decode (sp_b 139) 13 = .ok (.iconst (-1), 1) := by decide +kernel
theorem si_139_14 : decode (sp_b 139) 14 = .ok (.ireturn, 1) := by decide +kernel
theorem si_139_15 : decode (sp_b 139) 15 = .ok (.iload_n 2, 1) := by decide +kernel
theorem si_139_16 : decode (sp_b 139) 16 = .ok (.ifCond .ge 9, 3) := by decide +kernel
theorem si_139_19 : decode (sp_b 139) 19 = .ok (.aload_n 0, 1) := by decide +kernel
theorem si_139_20 : decode (sp_b 139) 20 = .ok (.iconst 5, 1) := by decide +kernel
theorem si_139_21 : decode (sp_b 139) 21 = .ok (.invokevirtual 97, 3) := by decide +kernel
theorem sk_139_97 : sp_okL 139 97 141 977 = true := by decide +kernel
theorem si_139_24 : decode (sp_b 139) 24 = .ok (.ireturn, 1) := by decide +kernel
theorem si_139_25 : decode (sp_b 139) 25 = .ok (.aload_n 0, 1) := by decide +kernel
theorem si_139_26 : decode (sp_b 139) 26 = .ok (.getfield 17, 3) := by decide +kernel
theorem sf_139_17 : sp_okF 139 17 8 5 841 = true := by decide +kernel
theorem si_139_29 : decode (sp_b 139) 29 = .ok (.iload_n 1, 1) := by decide +kernel
theorem si_139_30 : decode (sp_b 139) 30 = .ok (.iload_n 2, 1) := by decide +kernel
theorem si_139_31 : decode (sp_b 139) 31 = .ok (.iastore, 1) := by decide +kernel
theorem si_139_32 : decode (sp_b 139) 32 = .ok (.iconst 0, 1) := by decide +kernel
theorem si_139_33 : decode (sp_b 139) 33 = .ok (.istore_n 3, 1) := by decide +kernel
theorem si_139_34 : decode (sp_b 139) 34 = .ok (.iload_n 3, 1) := by decide +kernel
theorem si_139_35 : decode (sp_b 139) 35 = .ok (.bipush 40, 2) := by decide +kernel
theorem si_139_37 : decode (sp_b 139) 37 = .ok (.if_icmp .ge 21, 3) := by decide +kernel
theorem si_139_40 : decode (sp_b 139) 40 = .ok (.aload_n 0, 1) := by decide +kernel
theorem si_139_41 : decode (sp_b 139) 41 = .ok (.getfield 20, 3) := by decide +kernel
theorem sf_139_20 : sp_okF 139 20 8 6 842 = true := by decide +kernel
theorem si_139_44 : decode (sp_b 139) 44 = .ok (.bipush 40, 2) := by decide +kernel
theorem si_139_46 : decode (sp_b 139) 46 = .ok (.iload_n 1, 1) := by decide +kernel
theorem si_139_47 : decode (sp_b 139) 47 = .ok (.imul, 1) := by decide +kernel
theorem si_139_48 : decode (sp_b 139) 48 = .ok (.iload_n 3, 1) := by decide +kernel
theorem si_139_49 : decode (sp_b 139) 49 = .ok (.iadd, 1) := by decide +kernel
theorem si_139_50 : decode (sp_b 139) 50 = .ok (.iconst 0, 1) := by decide +kernel
theorem si_139_51 : decode (sp_b 139) 51 = .ok (.iastore, 1) := by decide +kernel
theorem si_139_52 : decode (sp_b 139) 52 = .ok (.iinc 3 1, 3) := by decide +kernel
theorem si_139_55 : decode (sp_b 139) 55 = .ok (.goto (-21), 3) := by decide +kernel
theorem si_139_58 : decode (sp_b 139) 58 = .ok (.iload_n 2, 1) := by decide +kernel
theorem si_139_59 : decode (sp_b 139) 59 = .ok (.ireturn, 1) := by decide +kernel
theorem si_140_0 : decode (sp_b 140) 0 = .ok (.iload_n 0, 1) := by decide +kernel
theorem si_140_1 : decode (sp_b 140) 1 = .ok (.iconst 0, 1) := by decide +kernel
theorem si_140_2 : decode (sp_b 140) 2 = .ok (.iconst 5, 1) := by decide +kernel
theorem si_140_3 : decode (sp_b 140) 3 = .ok (.invokestatic 83, 3) := by decide +kernel
theorem sk_140_83 : sp_okL 140 83 135 955 = true := by decide +kernel
theorem si_140_6 : decode (sp_b 140) 6 = .ok (.ireturn, 1) := by decide +kernel
theorem si_141_0 : decode (sp_b 141) 0 = .ok (.aload_n 0, 1) := by decide +kernel
theorem si_141_1 : decode (sp_b 141) 1 = .ok (.iload_n 1, 1) := by decide +kernel
theorem si_141_2 : decode (sp_b 141) 2 = .ok (.putfield 80, 3) := by decide +kernel
theorem sf_141_80 : sp_okF 141 80 8 0 836 = true := by decide +kernel
theorem si_141_5 : decode (sp_b 141) 5 = .ok (.aload_n 0, 1) := by decide +kernel
theorem si_141_6 : decode (sp_b 141) 6 = .ok (.getfield 7, 3) := by decide +kernel
theorem sf_141_7 : sp_okF 141 7 8 1 837 = true := by decide +kernel
theorem si_141_9 : decode (sp_b 141) 9 = .ok (.iload_n 1, 1) := by decide +kernel
theorem si_141_10 : decode (sp_b 141) 10 = .ok (.dup2, 1) := by decide +kernel
theorem si_141_11 : decode (sp_b 141) 11 = .ok (.iaload, 1) := by decide +kernel
theorem si_141_12 : decode (sp_b 141) 12 = .ok (.iconst 1, 1) := by decide +kernel
theorem si_141_13 : decode (sp_b 141) 13 = .ok (.iadd, 1) := by decide +kernel
theorem si_141_14 : decode (sp_b 141) 14 = .ok (.iastore, 1) := by decide +kernel
theorem si_141_15 : decode (sp_b 141) 15 = .ok (.bipush (-3), 2) := by decide +kernel
theorem si_141_17 : decode (sp_b 141) 17 = .ok (.ireturn, 1) := by decide +kernel
theorem si_142_0 : decode (sp_b 142) 0 = .ok (.iload_n 1, 1) := by decide +kernel
theorem si_142_1 : decode (sp_b 142) 1 = .ok (.invokestatic 93, 3) := by decide +kernel
theorem sk_142_93 : sp_okL 142 93 140 974 = true := by decide +kernel
theorem si_142_4 : decode (sp_b 142) 4 = .ok (.ifCond .ne 5, 3) := by decide +kernel
theorem si_142_7 : decode (sp_b 142) 7 = .ok (.iconst (-1), 1) := by decide +kernel
theorem si_142_8 : decode (sp_b 142) 8 = .ok (.ireturn, 1) := by decide +kernel
theorem si_142_9 : decode (sp_b 142) 9 = .ok (.aload_n 0, 1) := by decide +kernel
theorem si_142_10 : decode (sp_b 142) 10 = .ok (.getfield 17, 3) := by decide +kernel
theorem sf_142_17 : sp_okF 142 17 8 5 841 = true := by decide +kernel
theorem si_142_13 : decode (sp_b 142) 13 = .ok (.iload_n 1, 1) := by decide +kernel
theorem si_142_14 : decode (sp_b 142) 14 = .ok (.iaload, 1) := by decide +kernel
theorem si_142_15 : decode (sp_b 142) 15 = .ok (.ifCond .ge 9, 3) := by decide +kernel
theorem si_142_18 : decode (sp_b 142) 18 = .ok (.aload_n 0, 1) := by decide +kernel
theorem si_142_19 : decode (sp_b 142) 19 = .ok (.iconst 1, 1) := by decide +kernel
theorem si_142_20 : decode (sp_b 142) 20 = .ok (.invokevirtual 97, 3) := by decide +kernel
theorem sk_142_97 : sp_okL 142 97 141 977 = true := by decide +kernel
theorem si_142_23 : decode (sp_b 142) 23 = .ok (.ireturn, 1) := by decide +kernel
theorem si_142_24 : decode (sp_b 142) 24 = .ok (.iload_n 2, 1) := by decide +kernel
theorem si_142_25 : decode (sp_b 142) 25 = .ok (.iconst 0, 1) := by decide +kernel
theorem si_142_26 : decode (sp_b 142) 26 = .ok (.aload_n 0, 1) := by decide +kernel
theorem si_142_27 : decode (sp_b 142) 27 = .ok (.getfield 17, 3) := by decide +kernel
theorem si_142_30 : decode (sp_b 142) 30 = .ok (.iload_n 1, 1) := by decide +kernel
theorem si_142_31 : decode (sp_b 142) 31 = .ok (.iaload, 1) := by decide +kernel
theorem si_142_32 : decode (sp_b 142) 32 = .ok (.iconst 1, 1) := by decide +kernel
theorem si_142_33 : decode (sp_b 142) 33 = .ok (.isub, 1) := by decide +kernel
theorem si_142_34 : decode (sp_b 142) 34 = .ok (.invokestatic 83, 3) := by decide +kernel
theorem sk_142_83 : sp_okL 142 83 135 955 = true := by decide +kernel
theorem si_142_37 : decode (sp_b 142) 37 = .ok (.ifCond .ne 9, 3) := by decide +kernel
theorem si_142_40 : decode (sp_b 142) 40 = .ok (.aload_n 0, 1) := by decide +kernel
theorem si_142_41 : decode (sp_b 142) 41 = .ok (.iconst 2, 1) := by decide +kernel
theorem si_142_42 : decode (sp_b 142) 42 = .ok (.invokevirtual 97, 3) := by decide +kernel
theorem si_142_45 : decode (sp_b 142) 45 = .ok (.ireturn, 1) := by decide +kernel
theorem si_142_46 : decode (sp_b 142) 46 = .ok (.aload_n 0, 1) := by decide +kernel
theorem si_142_47 : decode (sp_b 142) 47 = .ok (.iload_n 1, 1) := by decide +kernel
theorem si_142_48 : decode (sp_b 142) 48 = .ok (.iload_n 2, 1) := by decide +kernel
theorem si_142_49 : decode (sp_b 142) 49 = .ok (.invokevirtual 101, 3) := by decide +kernel
theorem sk_142_101 : sp_okL 142 101 143 985 = true := by decide +kernel
theorem si_142_52 : decode (sp_b 142) 52 = .ok (.istore 4, 2) := by decide +kernel
theorem si_142_54 : decode (sp_b 142) 54 = .ok (.aload_n 0, 1) := by decide +kernel
theorem si_142_55 : decode (sp_b 142) 55 = .ok (.getfield 20, 3) := by decide +kernel
theorem sf_142_20 : sp_okF 142 20 8 6 842 = true := by decide +kernel
theorem si_142_58 : decode (sp_b 142) 58 = .ok (.bipush 40, 2) := by decide +kernel
theorem si_142_60 : decode (sp_b 142) 60 = .ok (.iload_n 1, 1) := by decide +kernel
theorem si_142_61 : decode (sp_b 142) 61 = .ok (.imul, 1) := by decide +kernel
theorem si_142_62 : decode (sp_b 142) 62 = .ok (.iload_n 2, 1) := by decide +kernel
theorem si_142_63 : decode (sp_b 142) 63 = .ok (.iadd, 1) := by decide +kernel
theorem si_142_64 : decode (sp_b 142) 64 = .ok (.iload_n 3, 1) := by decide +kernel
theorem si_142_65 : decode (sp_b 142) 65 = .ok (.iastore, 1) := by decide +kernel
theorem si_142_66 : decode (sp_b 142) 66 = .ok (.aload_n 0, 1) := by decide +kernel
theorem si_142_67 : decode (sp_b 142) 67 = .ok (.iload 4, 2) := by decide +kernel
theorem si_142_69 : decode (sp_b 142) 69 = .ok (.iconst 1, 1) := by decide +kernel
theorem si_142_70 : decode (sp_b 142) 70 = .ok (.invokevirtual 105, 3) := by decide +kernel
theorem sk_142_105 : sp_okL 142 105 144 989 = true := by decide +kernel
theorem si_142_73 : decode (sp_b 142) 73 = .ok (.ireturn, 1) := by decide +kernel
theorem si_143_0 : decode (sp_b 143) 0 = .ok (.aload_n 0, 1) := by decide +kernel
theorem si_143_1 : decode (sp_b 143) 1 = .ok (.getfield 20, 3) := by decide +kernel
theorem sf_143_20 : sp_okF 143 20 8 6 842 = true := by decide +kernel
theorem si_143_4 : decode (sp_b 143) 4 = .ok (.bipush 40, 2) := by decide +kernel
theorem si_143_6 : decode (sp_b 143) 6 = .ok (.iload_n 1, 1) := by decide +kernel
theorem si_143_7 : decode (sp_b 143) 7 = .ok (.imul, 1) := by decide +kernel
theorem si_143_8 : decode (sp_b 143) 8 = .ok (.iload_n 2, 1) := by decide +kernel
theorem si_143_9 : decode (sp_b 143) 9 = .ok (.iadd, 1) := by decide +kernel
theorem si_143_10 : decode (sp_b 143) 10 = .ok (.iaload, 1) := by decide +kernel
theorem si_143_11 : decode (sp_b 143) 11 = .ok (.ireturn, 1) := by decide +kernel
theorem si_144_0 : decode (sp_b 144) 0 = .ok (.aload_n 0, 1) := by decide +kernel
theorem si_144_1 : decode (sp_b 144) 1 = .ok (.iload_n 1, 1) := by decide +kernel
theorem si_144_2 : decode (sp_b 144) 2 = .ok (.putfield 87, 3) := by decide +kernel
theorem sf_144_87 : sp_okF 144 87 8 2 838 = true := by decide +kernel
theorem si_144_5 : decode (sp_b 144) 5 = .ok (.iload_n 2, 1) := by decide +kernel
theorem si_144_6 : decode (sp_b 144) 6 = .ok (.ireturn, 1) := by decide +kernel
theorem si_145_0 : decode (sp_b 145) 0 = .ok (.iload_n 1, 1) := by decide +kernel
theorem si_145_1 : decode (sp_b 145) 1 = .ok (.invokestatic 93, 3) := by decide +kernel
theorem sk_145_93 : sp_okL 145 93 140 974 = true := by decide +kernel
theorem si_145_4 : decode (sp_b 145) 4 = .ok (.ifCond .ne 5, 3) := by decide +kernel
theorem si_145_7 : decode (sp_b 145) 7 = .ok (.iconst (-1), 1) := by decide +kernel
theorem si_145_8 : decode (sp_b 145) 8 = .ok (.ireturn, 1) := by decide +kernel
theorem si_145_9 : decode (sp_b 145) 9 = .ok (.aload_n 0, 1) := by decide +kernel
theorem si_145_10 : decode (sp_b 145) 10 = .ok (.getfield 17, 3) := by decide +kernel
theorem sf_145_17 : sp_okF 145 17 8 5 841 = true := by decide +kernel
theorem si_145_13 : decode (sp_b 145) 13 = .ok (.iload_n 1, 1) := by decide +kernel
theorem si_145_14 : decode (sp_b 145) 14 = .ok (.iaload, 1) := by decide +kernel
theorem si_145_15 : decode (sp_b 145) 15 = .ok (.ifCond .ge 9, 3) := by decide +kernel
theorem si_145_18 : decode (sp_b 145) 18 = .ok (.aload_n 0, 1) := by decide +kernel
theorem si_145_19 : decode (sp_b 145) 19 = .ok (.iconst 1, 1) := by decide +kernel
theorem si_145_20 : decode (sp_b 145) 20 = .ok (.invokevirtual 97, 3) := by decide +kernel
theorem sk_145_97 : sp_okL 145 97 141 977 = true := by decide +kernel
theorem si_145_23 : decode (sp_b 145) 23 = .ok (.ireturn, 1) := by decide +kernel
theorem si_145_24 : decode (sp_b 145) 24 = .ok (.iload_n 2, 1) := by decide +kernel
theorem si_145_25 : decode (sp_b 145) 25 = .ok (.iconst 0, 1) := by decide +kernel
theorem si_145_26 : decode (sp_b 145) 26 = .ok (.aload_n 0, 1) := by decide +kernel
theorem si_145_27 : decode (sp_b 145) 27 = .ok (.getfield 17, 3) := by decide +kernel
theorem si_145_30 : decode (sp_b 145) 30 = .ok (.iload_n 1, 1) := by decide +kernel
theorem si_145_31 : decode (sp_b 145) 31 = .ok (.iaload, 1) := by decide +kernel
theorem si_145_32 : decode (sp_b 145) 32 = .ok (.iconst 1, 1) := by decide +kernel
theorem si_145_33 : decode (sp_b 145) 33 = .ok (.isub, 1) := by decide +kernel
theorem si_145_34 : decode (sp_b 145) 34 = .ok (.invokestatic 83, 3) := by decide +kernel
theorem sk_145_83 : sp_okL 145 83 135 955 = true := by decide +kernel
theorem si_145_37 : decode (sp_b 145) 37 = .ok (.ifCond .eq 17, 3) := by decide +kernel
theorem si_145_40 : decode (sp_b 145) 40 = .ok (.aload_n 0, 1) := by decide +kernel
theorem si_145_41 : decode (sp_b 145) 41 = .ok (.aload_n 0, 1) := by decide +kernel
theorem si_145_42 : decode (sp_b 145) 42 = .ok (.iload_n 1, 1) := by decide +kernel
theorem si_145_43 : decode (sp_b 145) 43 = .ok (.iload_n 2, 1) := by decide +kernel
theorem si_145_44 : decode (sp_b 145) 44 = .ok (.invokevirtual 101, 3) := by decide +kernel
theorem sk_145_101 : sp_okL 145 101 143 985 = true := by decide +kernel
theorem si_145_47 : decode (sp_b 145) 47 = .ok (.iconst 1, 1) := by decide +kernel
theorem si_145_48 : decode (sp_b 145) 48 = .ok (.invokevirtual 105, 3) := by decide +kernel
theorem sk_145_105 : sp_okL 145 105 144 989 = true := by decide +kernel
theorem si_145_51 : decode (sp_b 145) 51 = .ok (.goto 8, 3) := by decide +kernel
theorem si_145_54 : decode (sp_b 145) 54 = .ok (.aload_n 0, 1) := by decide +kernel
theorem si_145_55 : decode (sp_b 145) 55 = .ok (.iconst 2, 1) := by decide +kernel
theorem si_145_56 : decode (sp_b 145) 56 = .ok (.invokevirtual 97, 3) := by decide +kernel
theorem si_145_59 : decode (sp_b 145) 59 = .ok (.ireturn, 1) := by decide +kernel
theorem si_146_0 : decode (sp_b 146) 0 = .ok (.iload_n 1, 1) := by decide +kernel
theorem si_146_1 : decode (sp_b 146) 1 = .ok (.invokestatic 93, 3) := by decide +kernel
theorem sk_146_93 : sp_okL 146 93 140 974 = true := by decide +kernel
theorem si_146_4 : decode (sp_b 146) 4 = .ok (.ifCond .ne 5, 3) := by decide +kernel
theorem si_146_7 : decode (sp_b 146) 7 = .ok (.iconst (-1), 1) := by decide +kernel
theorem si_146_8 : decode (sp_b 146) 8 = .ok (.ireturn, 1) := by decide +kernel
theorem si_146_9 : decode (sp_b 146) 9 = .ok (.aload_n 0, 1) := by decide +kernel
theorem si_146_10 : decode (sp_b 146) 10 = .ok (.getfield 17, 3) := by decide +kernel
theorem sf_146_17 : sp_okF 146 17 8 5 841 = true := by decide +kernel
theorem si_146_13 : decode (sp_b 146) 13 = .ok (.iload_n 1, 1) := by decide +kernel
theorem si_146_14 : decode (sp_b 146) 14 = .ok (.iaload, 1) := by decide +kernel
theorem si_146_15 : decode (sp_b 146) 15 = .ok (.ifCond .ge 9, 3) := by decide +kernel
theorem si_146_18 : decode (sp_b 146) 18 = .ok (.aload_n 0, 1) := by decide +kernel
theorem si_146_19 : decode (sp_b 146) 19 = .ok (.iconst 1, 1) := by decide +kernel
theorem si_146_20 : decode (sp_b 146) 20 = .ok (.invokevirtual 97, 3) := by decide +kernel
theorem sk_146_97 : sp_okL 146 97 141 977 = true := by decide +kernel
theorem si_146_23 : decode (sp_b 146) 23 = .ok (.ireturn, 1) := by decide +kernel
theorem si_146_24 : decode (sp_b 146) 24 = .ok (.aload_n 0, 1) := by decide +kernel
theorem si_146_25 : decode (sp_b 146) 25 = .ok (.getfield 17, 3) := by decide +kernel
theorem si_146_28 : decode (sp_b 146) 28 = .ok (.iload_n 1, 1) := by decide +kernel
theorem si_146_29 : decode (sp_b 146) 29 = .ok (.iconst (-1), 1) := by decide +kernel
theorem si_146_30 : decode (sp_b 146) 30 = .ok (.iastore, 1) := by decide +kernel
theorem si_146_31 : decode (sp_b 146) 31 = .ok (.iconst 1, 1) := by decide +kernel
theorem si_146_32 : decode (sp_b 146) 32 = .ok (.ireturn, 1) := by decide +kernel
theorem si_147_0 : decode (sp_b 147) 0 = .ok (.iload_n 1, 1) := by decide +kernel
theorem si_147_1 : decode (sp_b 147) 1 = .ok (.invokestatic 93, 3) := by decide +kernel
theorem sk_147_93 : sp_okL 147 93 140 974 = true := by decide +kernel
theorem si_147_4 : decode (sp_b 147) 4 = .ok (.ifCond .eq 10, 3) := by decide +kernel
theorem si_147_7 : decode (sp_b 147) 7 = .ok (.iload_n 3, 1) := by decide +kernel
theorem si_147_8 : decode (sp_b 147) 8 = .ok (.invokestatic 93, 3) := by decide +kernel
theorem si_147_11 : decode (sp_b 147) 11 = .ok (.ifCond .ne 5, 3) := by decide +kernel
theorem si_147_14 : decode (sp_b 147) 14 = .ok (.iconst (-1), 1) := by decide +kernel
theorem si_147_15 : decode (sp_b 147) 15 = .ok (.ireturn, 1) := by decide +kernel
theorem si_147_16 : decode (sp_b 147) 16 = .ok (.iload 5, 2) := by decide +kernel
theorem si_147_18 : decode (sp_b 147) 18 = .ok (.ifCond .ge 9, 3) := by decide +kernel
theorem si_147_21 : decode (sp_b 147) 21 = .ok (.aload_n 0, 1) := by decide +kernel
theorem si_147_22 : decode (sp_b 147) 22 = .ok (.iconst 5, 1) := by decide +kernel
theorem si_147_23 : decode (sp_b 147) 23 = .ok (.invokevirtual 97, 3) := by decide +kernel
theorem sk_147_97 : sp_okL 147 97 141 977 = true := by decide +kernel
theorem si_147_26 : decode (sp_b 147) 26 = .ok (.ireturn, 1) := by decide +kernel
theorem si_147_27 : decode (sp_b 147) 27 = .ok (.aload_n 0, 1) := by decide +kernel
theorem si_147_28 : decode (sp_b 147) 28 = .ok (.getfield 17, 3) := by decide +kernel
theorem sf_147_17 : sp_okF 147 17 8 5 841 = true := by decide +kernel
theorem si_147_31 : decode (sp_b 147) 31 = .ok (.iload_n 1, 1) := by decide +kernel
theorem si_147_32 : decode (sp_b 147) 32 = .ok (.iaload, 1) := by decide +kernel
theorem si_147_33 : decode (sp_b 147) 33 = .ok (.ifCond .lt 12, 3) := by decide +kernel
theorem si_147_36 : decode (sp_b 147) 36 = .ok (.aload_n 0, 1) := by decide +kernel
theorem si_147_37 : decode (sp_b 147) 37 = .ok (.getfield 17, 3) := by decide +kernel
theorem si_147_40 : decode (sp_b 147) 40 = .ok (.iload_n 3, 1) := by decide +kernel
theorem si_147_41 : decode (sp_b 147) 41 = .ok (.iaload, 1) := by decide +kernel
theorem si_147_42 : decode (sp_b 147) 42 = .ok (.ifCond .ge 9, 3) := by decide +kernel
theorem si_147_45 : decode (sp_b 147) 45 = .ok (.aload_n 0, 1) := by decide +kernel
theorem si_147_46 : decode (sp_b 147) 46 = .ok (.iconst 1, 1) := by decide +kernel
theorem si_147_47 : decode (sp_b 147) 47 = .ok (.invokevirtual 97, 3) := by decide +kernel
theorem si_147_50 : decode (sp_b 147) 50 = .ok (.ireturn, 1) := by decide +kernel
theorem si_147_51 : decode (sp_b 147) 51 = .ok (.iload_n 2, 1) := by decide +kernel
theorem si_147_52 : decode (sp_b 147) 52 = .ok (.ifCond .lt 43, 3) := by decide +kernel
theorem si_147_55 : decode (sp_b 147) 55 = .ok (.iload 4, 2) := by decide +kernel
theorem si_147_57 : decode (sp_b 147) 57 = .ok (.ifCond .lt 38, 3) := by decide +kernel
theorem si_147_60 : decode (sp_b 147) 60 = .ok (.iload_n 2, 1) := by decide +kernel
theorem si_147_61 : decode (sp_b 147) 61 = .ok (.i2l, 1) := by decide +kernel
theorem si_147_62 : decode (sp_b 147) 62 = .ok (.iload 5, 2) := by decide +kernel
theorem si_147_64 : decode (sp_b 147) 64 = .ok (.i2l, 1) := by decide +kernel
theorem si_147_65 : decode (sp_b 147) 65 = .ok (.ladd, 1) := by decide +kernel
theorem si_147_66 : decode (sp_b 147) 66 = .ok (.aload_n 0, 1) := by decide +kernel
theorem si_147_67 : decode (sp_b 147) 67 = .ok (.getfield 17, 3) := by decide +kernel
theorem si_147_70 : decode (sp_b 147) 70 = .ok (.iload_n 1, 1) := by decide +kernel
theorem si_147_71 : decode (sp_b 147) 71 = .ok (.iaload, 1) := by decide +kernel
theorem si_147_72 : decode (sp_b 147) 72 = .ok (.i2l, 1) := by decide +kernel
theorem si_147_73 : decode (sp_b 147) 73 = .ok (.lcmp, 1) := by decide +kernel
theorem si_147_74 : decode (sp_b 147) 74 = .ok (.ifCond .gt 21, 3) := by decide +kernel
theorem si_147_77 : decode (sp_b 147) 77 = .ok (.iload 4, 2) := by decide +kernel
theorem si_147_79 : decode (sp_b 147) 79 = .ok (.i2l, 1) := by decide +kernel
theorem si_147_80 : decode (sp_b 147) 80 = .ok (.iload 5, 2) := by decide +kernel
theorem si_147_82 : decode (sp_b 147) 82 = .ok (.i2l, 1) := by decide +kernel
theorem si_147_83 : decode (sp_b 147) 83 = .ok (.ladd, 1) := by decide +kernel
theorem si_147_84 : decode (sp_b 147) 84 = .ok (.aload_n 0, 1) := by decide +kernel
theorem si_147_85 : decode (sp_b 147) 85 = .ok (.getfield 17, 3) := by decide +kernel
theorem si_147_88 : decode (sp_b 147) 88 = .ok (.iload_n 3, 1) := by decide +kernel
theorem si_147_89 : decode (sp_b 147) 89 = .ok (.iaload, 1) := by decide +kernel
theorem si_147_90 : decode (sp_b 147) 90 = .ok (.i2l, 1) := by decide +kernel
theorem si_147_91 : decode (sp_b 147) 91 = .ok (.lcmp, 1) := by decide +kernel
theorem si_147_92 : decode (sp_b 147) 92 = .ok (.ifCond .le 9, 3) := by decide +kernel
theorem si_147_95 : decode (sp_b 147) 95 = .ok (.aload_n 0, 1) := by decide +kernel
theorem si_147_96 : decode (sp_b 147) 96 = .ok (.iconst 2, 1) := by decide +kernel
theorem si_147_97 : decode (sp_b 147) 97 = .ok (.invokevirtual 97, 3) := by decide +kernel
theorem si_147_100 : decode (sp_b 147) 100 = .ok (.ireturn, 1) := by decide +kernel
theorem si_147_101 : decode (sp_b 147) 101 = .ok (.iconst 0, 1) := by decide +kernel
theorem si_147_102 : decode (sp_b 147) 102 = .ok (.istore 6, 2) := by decide +kernel
theorem si_147_104 : decode (sp_b 147) 104 = .ok (.iload 6, 2) := by decide +kernel
theorem si_147_106 : decode (sp_b 147) 106 = .ok (.iload 5, 2) := by decide +kernel
theorem si_147_108 : decode (sp_b 147) 108 = .ok (.if_icmp .ge 25, 3) := by decide +kernel
theorem si_147_111 : decode (sp_b 147) 111 = .ok (.aload_n 0, 1) := by decide +kernel
theorem si_147_112 : decode (sp_b 147) 112 = .ok (.getfield 23, 3) := by decide +kernel
theorem sf_147_23 : sp_okF 147 23 8 7 843 = true := by decide +kernel
theorem si_147_115 : decode (sp_b 147) 115 = .ok (.iload 6, 2) := by decide +kernel
theorem si_147_117 : decode (sp_b 147) 117 = .ok (.aload_n 0, 1) := by decide +kernel
theorem si_147_118 : decode (sp_b 147) 118 = .ok (.iload_n 1, 1) := by decide +kernel
theorem si_147_119 : decode (sp_b 147) 119 = .ok (.iload_n 2, 1) := by decide +kernel
theorem si_147_120 : decode (sp_b 147) 120 = .ok (.iload 6, 2) := by decide +kernel
theorem si_147_122 : decode (sp_b 147) 122 = .ok (.iadd, 1) := by decide +kernel
theorem si_147_123 : decode (sp_b 147) 123 = .ok (.invokevirtual 101, 3) := by decide +kernel
theorem sk_147_101 : sp_okL 147 101 143 985 = true := by decide +kernel
theorem si_147_126 : decode (sp_b 147) 126 = .ok (.iastore, 1) := by decide +kernel
theorem si_147_127 : decode (sp_b 147) 127 = .ok (.iinc 6 1, 3) := by decide +kernel
theorem si_147_130 : decode (sp_b 147) 130 = .ok (.goto (-26), 3) := by decide +kernel
theorem si_147_133 : decode (sp_b 147) 133 = .ok (.iconst 0, 1) := by decide +kernel
theorem si_147_134 : decode (sp_b 147) 134 = .ok (.istore 6, 2) := by decide +kernel
theorem si_147_136 : decode (sp_b 147) 136 = .ok (.iload 6, 2) := by decide +kernel
theorem si_147_138 : decode (sp_b 147) 138 = .ok (.iload 5, 2) := by decide +kernel
theorem si_147_140 : decode (sp_b 147) 140 = .ok (.if_icmp .ge 31, 3) := by decide +kernel
theorem si_147_143 : decode (sp_b 147) 143 = .ok (.aload_n 0, 1) := by decide +kernel
theorem si_147_144 : decode (sp_b 147) 144 = .ok (.getfield 20, 3) := by decide +kernel
theorem sf_147_20 : sp_okF 147 20 8 6 842 = true := by decide +kernel
theorem si_147_147 : decode (sp_b 147) 147 = .ok (.bipush 40, 2) := by decide +kernel
theorem si_147_149 : decode (sp_b 147) 149 = .ok (.iload_n 3, 1) := by decide +kernel
theorem si_147_150 : decode (sp_b 147) 150 = .ok (.imul, 1) := by decide +kernel
theorem si_147_151 : decode (sp_b 147) 151 = .ok (.iload 4, 2) := by decide +kernel
theorem si_147_153 : decode (sp_b 147) 153 = .ok (.iadd, 1) := by decide +kernel
theorem si_147_154 : decode (sp_b 147) 154 = .ok (.iload 6, 2) := by decide +kernel
theorem si_147_156 : decode (sp_b 147) 156 = .ok (.iadd, 1) := by decide +kernel
theorem si_147_157 : decode (sp_b 147) 157 = .ok (.aload_n 0, 1) := by decide +kernel
theorem si_147_158 : decode (sp_b 147) 158 = .ok (.getfield 23, 3) := by decide +kernel
theorem si_147_161 : decode (sp_b 147) 161 = .ok (.iload 6, 2) := by decide +kernel
theorem si_147_163 : decode (sp_b 147) 163 = .ok (.iaload, 1) := by decide +kernel
theorem si_147_164 : decode (sp_b 147) 164 = .ok (.iastore, 1) := by decide +kernel
theorem si_147_165 : decode (sp_b 147) 165 = .ok (.iinc 6 1, 3) := by decide +kernel
theorem si_147_168 : decode (sp_b 147) 168 = .ok (.goto (-32), 3) := by decide +kernel
theorem si_147_171 : decode (sp_b 147) 171 = .ok (.iconst 1, 1) := by decide +kernel
theorem si_147_172 : decode (sp_b 147) 172 = .ok (.ireturn, 1) := by decide +kernel
theorem si_148_0 : decode (sp_b 148) 0 = .ok (.iload_n 1, 1) := by decide +kernel
theorem si_148_1 : decode (sp_b 148) 1 = .ok (.invokestatic 93, 3) := by decide +kernel
theorem sk_148_93 : sp_okL 148 93 140 974 = true := by decide +kernel
theorem si_148_4 : decode (sp_b 148) 4 = .ok (.ifCond .ne 5, 3) := by decide +kernel
theorem si_148_7 : decode (sp_b 148) 7 = .ok (.iconst (-1), 1) := by decide +kernel
theorem si_148_8 : decode (sp_b 148) 8 = .ok (.ireturn, 1) := by decide +kernel
theorem si_148_9 : decode (sp_b 148) 9 = .ok (.aload_n 0, 1) := by decide +kernel
theorem si_148_10 : decode (sp_b 148) 10 = .ok (.getfield 17, 3) := by decide +kernel
theorem sf_148_17 : sp_okF 148 17 8 5 841 = true := by decide +kernel
theorem si_148_13 : decode (sp_b 148) 13 = .ok (.iload_n 1, 1) := by decide +kernel
theorem si_148_14 : decode (sp_b 148) 14 = .ok (.iaload, 1) := by decide +kernel
theorem si_148_15 : decode (sp_b 148) 15 = .ok (.ifCond .ge 9, 3) := by decide +kernel
theorem si_148_18 : decode (sp_b 148) 18 = .ok (.aload_n 0, 1) := by decide +kernel
theorem si_148_19 : decode (sp_b 148) 19 = .ok (.iconst 1, 1) := by decide +kernel
theorem si_148_20 : decode (sp_b 148) 20 = .ok (.invokevirtual 97, 3) := by decide +kernel
theorem sk_148_97 : sp_okL 148 97 141 977 = true := by decide +kernel
theorem si_148_23 : decode (sp_b 148) 23 = .ok (.ireturn, 1) := by decide +kernel
theorem si_148_24 : decode (sp_b 148) 24 = .ok (.aload_n 0, 1) := by decide +kernel
theorem si_148_25 : decode (sp_b 148) 25 = .ok (.getfield 17, 3) := by decide +kernel
theorem si_148_28 : decode (sp_b 148) 28 = .ok (.iload_n 1, 1) := by decide +kernel
theorem si_148_29 : decode (sp_b 148) 29 = .ok (.iaload, 1) := by decide +kernel
theorem si_148_30 : decode (sp_b 148) 30 = .ok (.ifCond .ne 9, 3) := by decide +kernel
theorem si_148_33 : decode (sp_b 148) 33 = .ok (.aload_n 0, 1) := by decide +kernel
theorem si_148_34 : decode (sp_b 148) 34 = .ok (.iconst 4, 1) := by decide +kernel
theorem si_148_35 : decode (sp_b 148) 35 = .ok (.invokevirtual 97, 3) := by decide +kernel
theorem si_148_38 : decode (sp_b 148) 38 = .ok (.ireturn, 1) := by decide +kernel
theorem si_148_39 : decode (sp_b 148) 39 = .ok (.lconst 0, 1) := by decide +kernel
theorem si_148_40 : decode (sp_b 148) 40 = .ok (.lstore_n 2, 1) := by decide +kernel
theorem si_148_41 : decode (sp_b 148) 41 = .ok (.iconst 0, 1) := by decide +kernel
theorem si_148_42 : decode (sp_b 148) 42 = .ok (.istore 4, 2) := by decide +kernel
theorem si_148_44 : decode (sp_b 148) 44 = .ok (.iload 4, 2) := by decide +kernel
theorem si_148_46 : decode (sp_b 148) 46 = .ok (.aload_n 0, 1) := by decide +kernel
theorem si_148_47 : decode (sp_b 148) 47 = .ok (.getfield 17, 3) := by decide +kernel
theorem si_148_50 : decode (sp_b 148) 50 = .ok (.iload_n 1, 1) := by decide +kernel
theorem si_148_51 : decode (sp_b 148) 51 = .ok (.iaload, 1) := by decide +kernel
theorem si_148_52 : decode (sp_b 148) 52 = .ok (.if_icmp .ge 20, 3) := by decide +kernel
theorem si_148_55 : decode (sp_b 148) 55 = .ok (.lload_n 2, 1) := by decide +kernel
theorem si_148_56 : decode (sp_b 148) 56 = .ok (.aload_n 0, 1) := by decide +kernel
theorem si_148_57 : decode (sp_b 148) 57 = .ok (.iload_n 1, 1) := by decide +kernel
theorem si_148_58 : decode (sp_b 148) 58 = .ok (.iload 4, 2) := by decide +kernel
theorem si_148_60 : decode (sp_b 148) 60 = .ok (.invokevirtual 101, 3) := by decide +kernel
theorem sk_148_101 : sp_okL 148 101 143 985 = true := by decide +kernel
theorem si_148_63 : decode (sp_b 148) 63 = .ok (.i2l, 1) := by decide +kernel
theorem si_148_64 : decode (sp_b 148) 64 = .ok (.ladd, 1) := by decide +kernel
theorem si_148_65 : decode (sp_b 148) 65 = .ok (.lstore_n 2, 1) := by decide +kernel
theorem si_148_66 : decode (sp_b 148) 66 = .ok (.iinc 4 1, 3) := by decide +kernel
theorem si_148_69 : decode (sp_b 148) 69 = .ok (.goto (-25), 3) := by decide +kernel
theorem si_148_72 : decode (sp_b 148) 72 = .ok (.aload_n 0, 1) := by decide +kernel
theorem si_148_73 : decode (sp_b 148) 73 = .ok (.lload_n 2, 1) := by decide +kernel
theorem si_148_74 : decode (sp_b 148) 74 = .ok (.aload_n 0, 1) := by decide +kernel
theorem si_148_75 : decode (sp_b 148) 75 = .ok (.getfield 17, 3) := by decide +kernel
theorem si_148_78 : decode (sp_b 148) 78 = .ok (.iload_n 1, 1) := by decide +kernel
theorem si_148_79 : decode (sp_b 148) 79 = .ok (.iaload, 1) := by decide +kernel
theorem si_148_80 : decode (sp_b 148) 80 = .ok (.i2l, 1) := by decide +kernel
theorem si_148_81 : decode (sp_b 148) 81 = .ok (.ldiv, 1) := by decide +kernel
theorem si_148_82 : decode (sp_b 148) 82 = .ok (.l2i, 1) := by decide +kernel
theorem si_148_83 : decode (sp_b 148) 83 = .ok (.iconst 1, 1) := by decide +kernel
theorem si_148_84 : decode (sp_b 148) 84 = .ok (.invokevirtual 105, 3) := by decide +kernel
theorem sk_148_105 : sp_okL 148 105 144 989 = true := by decide +kernel
theorem si_148_87 : decode (sp_b 148) 87 = .ok (.ireturn, 1) := by decide +kernel
theorem si_149_0 : decode (sp_b 149) 0 = .ok (.iload_n 1, 1) := by decide +kernel
theorem si_149_1 : decode (sp_b 149) 1 = .ok (.invokestatic 108, 3) := by decide +kernel
theorem sk_149_108 : sp_okL 149 108 150 1013 = true := by decide +kernel
theorem si_149_4 : decode (sp_b 149) 4 = .ok (.ifCond .eq 9, 3) := by decide +kernel
theorem si_149_7 : decode (sp_b 149) 7 = .ok (.iload_n 2, 1) := by decide +kernel
theorem si_149_8 : decode (sp_b 149) 8 = .ok (.bipush 60, 2) := by decide +kernel
theorem si_149_10 : decode (sp_b 149) 10 = .ok (.if_icmp .le 5, 3) := by decide +kernel
theorem si_149_13 : decode (sp_b 149) 13 = .ok (.iconst (-1), 1) := by decide +kernel
theorem si_149_14 : decode (sp_b 149) 14 = .ok (.ireturn, 1) := by decide +kernel
theorem si_149_15 : decode (sp_b 149) 15 = .ok (.iload_n 2, 1) := by decide +kernel
theorem si_149_16 : decode (sp_b 149) 16 = .ok (.ifCond .ge 9, 3) := by decide +kernel
theorem si_149_19 : decode (sp_b 149) 19 = .ok (.aload_n 0, 1) := by decide +kernel
theorem si_149_20 : decode (sp_b 149) 20 = .ok (.iconst 5, 1) := by decide +kernel
theorem si_149_21 : decode (sp_b 149) 21 = .ok (.invokevirtual 97, 3) := by decide +kernel
theorem sk_149_97 : sp_okL 149 97 141 977 = true := by decide +kernel
theorem si_149_24 : decode (sp_b 149) 24 = .ok (.ireturn, 1) := by decide +kernel
theorem si_149_25 : decode (sp_b 149) 25 = .ok (.aload_n 0, 1) := by decide +kernel
theorem si_149_26 : decode (sp_b 149) 26 = .ok (.getfield 26, 3) := by decide +kernel
theorem sf_149_26 : sp_okF 149 26 8 8 844 = true := by decide +kernel
theorem si_149_29 : decode (sp_b 149) 29 = .ok (.iload_n 1, 1) := by decide +kernel
theorem si_149_30 : decode (sp_b 149) 30 = .ok (.iload_n 2, 1) := by decide +kernel
theorem si_149_31 : decode (sp_b 149) 31 = .ok (.iastore, 1) := by decide +kernel
theorem si_149_32 : decode (sp_b 149) 32 = .ok (.iconst 0, 1) := by decide +kernel
theorem si_149_33 : decode (sp_b 149) 33 = .ok (.istore_n 3, 1) := by decide +kernel
theorem si_149_34 : decode (sp_b 149) 34 = .ok (.iload_n 3, 1) := by decide +kernel
theorem si_149_35 : decode (sp_b 149) 35 = .ok (.bipush 60, 2) := by decide +kernel
theorem si_149_37 : decode (sp_b 149) 37 = .ok (.if_icmp .ge 22, 3) := by decide +kernel
theorem si_149_40 : decode (sp_b 149) 40 = .ok (.aload_n 0, 1) := by decide +kernel
theorem si_149_41 : decode (sp_b 149) 41 = .ok (.getfield 29, 3) := by decide +kernel
theorem sf_149_29 : sp_okF 149 29 8 9 845 = true := by decide +kernel
theorem si_149_44 : decode (sp_b 149) 44 = .ok (.bipush 60, 2) := by decide +kernel
theorem si_149_46 : decode (sp_b 149) 46 = .ok (.iload_n 1, 1) := by decide +kernel
theorem si_149_47 : decode (sp_b 149) 47 = .ok (.imul, 1) := by decide +kernel
theorem si_149_48 : decode (sp_b 149) 48 = .ok (.iload_n 3, 1) := by decide +kernel
theorem si_149_49 : decode (sp_b 149) 49 = .ok (.iadd, 1) := by decide +kernel
theorem si_149_50 : decode (sp_b 149) 50 = .ok (.bipush 32, 2) := by decide +kernel
theorem si_149_52 : decode (sp_b 149) 52 = .ok (.bastore, 1) := by decide +kernel
theorem si_149_53 : decode (sp_b 149) 53 = .ok (.iinc 3 1, 3) := by decide +kernel
theorem si_149_56 : decode (sp_b 149) 56 = .ok (.goto (-22), 3) := by decide +kernel
theorem si_149_59 : decode (sp_b 149) 59 = .ok (.iload_n 2, 1) := by decide +kernel
theorem si_149_60 : decode (sp_b 149) 60 = .ok (.ireturn, 1) := by decide +kernel
theorem si_150_0 : decode (sp_b 150) 0 = .ok (.iload_n 0, 1) := by decide +kernel
theorem si_150_1 : decode (sp_b 150) 1 = .ok (.iconst 0, 1) := by decide +kernel
theorem si_150_2 : decode (sp_b 150) 2 = .ok (.iconst 3, 1) := by decide +kernel
theorem si_150_3 : decode (sp_b 150) 3 = .ok (.invokestatic 83, 3) := by decide +kernel
theorem sk_150_83 : sp_okL 150 83 135 955 = true := by decide +kernel
theorem si_150_6 : decode (sp_b 150) 6 = .ok (.ireturn, 1) := by decide +kernel
theorem si_151_0 : decode (sp_b 151) 0 = .ok (.iload_n 1, 1) := by decide +kernel
theorem si_151_1 : decode (sp_b 151) 1 = .ok (.invokestatic 108, 3) := by decide +kernel
theorem sk_151_108 : sp_okL 151 108 150 1013 = true := by decide +kernel
theorem si_151_4 : decode (sp_b 151) 4 = .ok (.ifCond .ne 5, 3) := by decide +kernel
theorem si_151_7 : decode (sp_b 151) 7 = .ok (.iconst (-1), 1) := by decide +kernel
theorem si_151_8 : decode (sp_b 151) 8 = .ok (.ireturn, 1) := by decide +kernel
theorem si_151_9 : decode (sp_b 151) 9 = .ok (.aload_n 0, 1) := by decide +kernel
theorem si_151_10 : decode (sp_b 151) 10 = .ok (.getfield 26, 3) := by decide +kernel
theorem sf_151_26 : sp_okF 151 26 8 8 844 = true := by decide +kernel
theorem si_151_13 : decode (sp_b 151) 13 = .ok (.iload_n 1, 1) := by decide +kernel
theorem si_151_14 : decode (sp_b 151) 14 = .ok (.iaload, 1) := by decide +kernel
theorem si_151_15 : decode (sp_b 151) 15 = .ok (.ifCond .ge 9, 3) := by decide +kernel
theorem si_151_18 : decode (sp_b 151) 18 = .ok (.aload_n 0, 1) := by decide +kernel
theorem si_151_19 : decode (sp_b 151) 19 = .ok (.iconst 1, 1) := by decide +kernel
theorem si_151_20 : decode (sp_b 151) 20 = .ok (.invokevirtual 97, 3) := by decide +kernel
theorem sk_151_97 : sp_okL 151 97 141 977 = true := by decide +kernel
theorem si_151_23 : decode (sp_b 151) 23 = .ok (.ireturn, 1) := by decide +kernel
theorem si_151_24 : decode (sp_b 151) 24 = .ok (.iload_n 2, 1) := by decide +kernel
theorem si_151_25 : decode (sp_b 151) 25 = .ok (.iconst 0, 1) := by decide +kernel
theorem si_151_26 : decode (sp_b 151) 26 = .ok (.aload_n 0, 1) := by decide +kernel
theorem si_151_27 : decode (sp_b 151) 27 = .ok (.getfield 26, 3) := by decide +kernel
theorem si_151_30 : decode (sp_b 151) 30 = .ok (.iload_n 1, 1) := by decide +kernel
theorem si_151_31 : decode (sp_b 151) 31 = .ok (.iaload, 1) := by decide +kernel
theorem si_151_32 : decode (sp_b 151) 32 = .ok (.iconst 1, 1) := by decide +kernel
theorem si_151_33 : decode (sp_b 151) 33 = .ok (.isub, 1) := by decide +kernel
theorem si_151_34 : decode (sp_b 151) 34 = .ok (.invokestatic 83, 3) := by decide +kernel
theorem sk_151_83 : sp_okL 151 83 135 955 = true := by decide +kernel
theorem si_151_37 : decode (sp_b 151) 37 = .ok (.ifCond .ne 9, 3) := by decide +kernel
theorem si_151_40 : decode (sp_b 151) 40 = .ok (.aload_n 0, 1) := by decide +kernel
theorem si_151_41 : decode (sp_b 151) 41 = .ok (.iconst 2, 1) := by decide +kernel
theorem si_151_42 : decode (sp_b 151) 42 = .ok (.invokevirtual 97, 3) := by decide +kernel
theorem si_151_45 : decode (sp_b 151) 45 = .ok (.ireturn, 1) := by decide +kernel
theorem si_151_46 : decode (sp_b 151) 46 = .ok (.aload_n 0, 1) := by decide +kernel
theorem si_151_47 : decode (sp_b 151) 47 = .ok (.getfield 29, 3) := by decide +kernel
theorem sf_151_29 : sp_okF 151 29 8 9 845 = true := by decide +kernel
theorem si_151_50 : decode (sp_b 151) 50 = .ok (.bipush 60, 2) := by decide +kernel
theorem si_151_52 : decode (sp_b 151) 52 = .ok (.iload_n 1, 1) := by decide +kernel
theorem si_151_53 : decode (sp_b 151) 53 = .ok (.imul, 1) := by decide +kernel
theorem si_151_54 : decode (sp_b 151) 54 = .ok (.iload_n 2, 1) := by decide +kernel
theorem si_151_55 : decode (sp_b 151) 55 = .ok (.iadd, 1) := by decide +kernel
theorem si_151_56 : decode (sp_b 151) 56 = .ok (.baload, 1) := by decide +kernel
theorem si_151_57 : decode (sp_b 151) 57 = .ok (.istore 4, 2) := by decide +kernel
theorem si_151_59 : decode (sp_b 151) 59 = .ok (.aload_n 0, 1) := by decide +kernel
theorem si_151_60 : decode (sp_b 151) 60 = .ok (.getfield 29, 3) := by decide +kernel
theorem si_151_63 : decode (sp_b 151) 63 = .ok (.bipush 60, 2) := by decide +kernel
theorem si_151_65 : decode (sp_b 151) 65 = .ok (.iload_n 1, 1) := by decide +kernel
theorem si_151_66 : decode (sp_b 151) 66 = .ok (.imul, 1) := by decide +kernel
theorem si_151_67 : decode (sp_b 151) 67 = .ok (.iload_n 2, 1) := by decide +kernel
theorem si_151_68 : decode (sp_b 151) 68 = .ok (.iadd, 1) := by decide +kernel
theorem si_151_69 : decode (sp_b 151) 69 = .ok (.iload_n 3, 1) := by decide +kernel
theorem si_151_70 : decode (sp_b 151) 70 = .ok (.i2b, 1) := by decide +kernel
theorem si_151_71 : decode (sp_b 151) 71 = .ok (.bastore, 1) := by decide +kernel
theorem si_151_72 : decode (sp_b 151) 72 = .ok (.sipush 1000, 3) := by decide +kernel
theorem si_151_75 : decode (sp_b 151) 75 = .ok (.iload 4, 2) := by decide +kernel
theorem si_151_77 : decode (sp_b 151) 77 = .ok (.iadd, 1) := by decide +kernel
theorem si_151_78 : decode (sp_b 151) 78 = .ok (.ireturn, 1) := by decide +kernel
theorem si_152_0 : decode (sp_b 152) 0 = .ok (.iload_n 1, 1) := by decide +kernel
theorem si_152_1 : decode (sp_b 152) 1 = .ok (.invokestatic 108, 3) := by decide +kernel
theorem sk_152_108 : sp_okL 152 108 150 1013 = true := by decide +kernel
theorem si_152_4 : decode (sp_b 152) 4 = .ok (.ifCond .ne 5, 3) := by decide +kernel
theorem si_152_7 : decode (sp_b 152) 7 = .ok (.iconst (-1), 1) := by decide +kernel
theorem si_152_8 : decode (sp_b 152) 8 = .ok (.ireturn, 1) := by decide +kernel
theorem si_152_9 : decode (sp_b 152) 9 = .ok (.aload_n 0, 1) := by decide +kernel
theorem si_152_10 : decode (sp_b 152) 10 = .ok (.getfield 26, 3) := by decide +kernel
theorem sf_152_26 : sp_okF 152 26 8 8 844 = true := by decide +kernel
theorem si_152_13 : decode (sp_b 152) 13 = .ok (.iload_n 1, 1) := by decide +kernel
theorem si_152_14 : decode (sp_b 152) 14 = .ok (.iaload, 1) := by decide +kernel
theorem si_152_15 : decode (sp_b 152) 15 = .ok (.ifCond .ge 11, 3) := by decide +kernel
theorem si_152_18 : decode (sp_b 152) 18 = .ok (.aload_n 0, 1) := by decide +kernel
theorem si_152_19 : decode (sp_b 152) 19 = .ok (.iconst 1, 1) := by decide +kernel
theorem si_152_20 : decode (sp_b 152) 20 = .ok (.invokevirtual 97, 3) := by decide +kernel
theorem sk_152_97 : sp_okL 152 97 141 977 = true := by decide +kernel
theorem si_152_23 : decode (sp_b 152) 23 = .ok (.goto 8, 3) := by decide +kernel
theorem si_152_26 : decode (sp_b 152) 26 = .ok (.aload_n 0, 1) := by decide +kernel
theorem si_152_27 : decode (sp_b 152) 27 = .ok (.iload_n 1, 1) := by decide +kernel
theorem si_152_28 : decode (sp_b 152) 28 = .ok (.invokevirtual 139, 3) := by decide +kernel
theorem sk_152_139 : sp_okL 152 139 153 1024 = true := by decide +kernel
theorem si_152_31 : decode (sp_b 152) 31 = .ok (.ireturn, 1) := by decide +kernel
theorem si_153_0 : decode (sp_b 153) 0 = .ok (.aload_n 0, 1) := by decide +kernel
theorem si_153_1 : decode (sp_b 153) 1 = .ok (.iconst 0, 1) := by decide +kernel
theorem si_153_2 : decode (sp_b 153) 2 = .ok (.putfield 111, 3) := by decide +kernel
theorem sf_153_111 : sp_okF 153 111 8 15 851 = true := by decide +kernel
theorem si_153_5 : decode (sp_b 153) 5 = .ok (.aload_n 0, 1) := by decide +kernel
theorem si_153_6 : decode (sp_b 153) 6 = .ok (.iconst 0, 1) := by decide +kernel
theorem si_153_7 : decode (sp_b 153) 7 = .ok (.putfield 124, 3) := by decide +kernel
theorem sf_153_124 : sp_okF 153 124 8 17 853 = true := by decide +kernel
theorem si_153_10 : decode (sp_b 153) 10 = .ok (.aload_n 0, 1) := by decide +kernel
theorem si_153_11 : decode (sp_b 153) 11 = .ok (.iconst 0, 1) := by decide +kernel
theorem si_153_12 : decode (sp_b 153) 12 = .ok (.putfield 130, 3) := by decide +kernel
theorem sf_153_130 : sp_okF 153 130 8 18 854 = true := by decide +kernel
theorem si_153_15 : decode (sp_b 153) 15 = .ok (.aload_n 0, 1) := by decide +kernel
theorem si_153_16 : decode (sp_b 153) 16 = .ok (.getfield 111, 3) := by decide +kernel
theorem si_153_19 : decode (sp_b 153) 19 = .ok (.aload_n 0, 1) := by decide +kernel
theorem si_153_20 : decode (sp_b 153) 20 = .ok (.getfield 26, 3) := by decide +kernel
theorem sf_153_26 : sp_okF 153 26 8 8 844 = true := by decide +kernel
theorem si_153_23 : decode (sp_b 153) 23 = .ok (.iload_n 1, 1) := by decide +kernel
theorem si_153_24 : decode (sp_b 153) 24 = .ok (.iaload, 1) := by decide +kernel
theorem si_153_25 : decode (sp_b 153) 25 = .ok (.if_icmp .ge 61, 3) := by decide +kernel
theorem si_153_28 : decode (sp_b 153) 28 = .ok (.aload_n 0, 1) := by decide +kernel
theorem si_153_29 : decode (sp_b 153) 29 = .ok (.iload_n 1, 1) := by decide +kernel
theorem si_153_30 : decode (sp_b 153) 30 = .ok (.aload_n 0, 1) := by decide +kernel
theorem si_153_31 : decode (sp_b 153) 31 = .ok (.getfield 111, 3) := by decide +kernel
theorem si_153_34 : decode (sp_b 153) 34 = .ok (.invokevirtual 114, 3) := by decide +kernel
theorem sk_153_114 : sp_okL 153 114 154 1028 = true := by decide +kernel
theorem si_153_37 : decode (sp_b 153) 37 = .ok (.bipush 32, 2) := by decide +kernel
theorem si_153_39 : decode (sp_b 153) 39 = .ok (.if_icmp .ne 16, 3) := by decide +kernel
theorem si_153_42 : decode (sp_b 153) 42 = .ok (.aload_n 0, 1) := by decide +kernel
theorem si_153_43 : decode (sp_b 153) 43 = .ok (.dup, 1) := by decide +kernel
theorem si_153_44 : decode (sp_b 153) 44 = .ok (.getfield 111, 3) := by decide +kernel
theorem si_153_47 : decode (sp_b 153) 47 = .ok (.iconst 1, 1) := by decide +kernel
theorem si_153_48 : decode (sp_b 153) 48 = .ok (.iadd, 1) := by decide +kernel
theorem si_153_49 : decode (sp_b 153) 49 = .ok (.putfield 111, 3) := by decide +kernel
theorem si_153_52 : decode (sp_b 153) 52 = .ok (.goto (-37), 3) := by decide +kernel
theorem si_153_55 : decode (sp_b 153) 55 = .ok (.aload_n 0, 1) := by decide +kernel
theorem si_153_56 : decode (sp_b 153) 56 = .ok (.getfield 124, 3) := by decide +kernel
theorem si_153_59 : decode (sp_b 153) 59 = .ok (.ifCond .ne 14, 3) := by decide +kernel
theorem si_153_62 : decode (sp_b 153) 62 = .ok (.aload_n 0, 1) := by decide +kernel
theorem si_153_63 : decode (sp_b 153) 63 = .ok (.iload_n 1, 1) := by decide +kernel
theorem si_153_64 : decode (sp_b 153) 64 = .ok (.invokevirtual 133, 3) := by decide +kernel
theorem sk_153_133 : sp_okL 153 133 155 1032 = true := by decide +kernel
theorem si_153_67 : decode (sp_b 153) 67 = .ok (.ifCond .eq 14, 3) := by decide +kernel
theorem si_153_70 : decode (sp_b 153) 70 = .ok (.goto (-55), 3) := by decide +kernel
theorem si_153_73 : decode (sp_b 153) 73 = .ok (.aload_n 0, 1) := by decide +kernel
theorem si_153_74 : decode (sp_b 153) 74 = .ok (.iload_n 1, 1) := by decide +kernel
theorem si_153_75 : decode (sp_b 153) 75 = .ok (.invokevirtual 136, 3) := by decide +kernel
theorem sk_153_136 : sp_okL 153 136 157 1040 = true := by decide +kernel
theorem si_153_78 : decode (sp_b 153) 78 = .ok (.ifCond .ne (-63), 3) := by decide +kernel
theorem si_153_81 : decode (sp_b 153) 81 = .ok (.aload_n 0, 1) := by decide +kernel
theorem si_153_82 : decode (sp_b 153) 82 = .ok (.getfield 111, 3) := by decide +kernel
theorem si_153_85 : decode (sp_b 153) 85 = .ok (.ireturn, 1) := by decide +kernel
theorem si_153_86 : decode (sp_b 153) 86 = .ok (.aload_n 0, 1) := by decide +kernel
theorem si_153_87 : decode (sp_b 153) 87 = .ok (.getfield 124, 3) := by decide +kernel
theorem si_153_90 : decode (sp_b 153) 90 = .ok (.ifCond .ne 12, 3) := by decide +kernel
theorem si_153_93 : decode (sp_b 153) 93 = .ok (.aload_n 0, 1) := by decide +kernel
theorem si_153_94 : decode (sp_b 153) 94 = .ok (.getfield 26, 3) := by decide +kernel
theorem si_153_97 : decode (sp_b 153) 97 = .ok (.iload_n 1, 1) := by decide +kernel
theorem si_153_98 : decode (sp_b 153) 98 = .ok (.iaload, 1) := by decide +kernel
theorem si_153_99 : decode (sp_b 153) 99 = .ok (.goto 5, 3) := by decide +kernel
theorem si_153_102 : decode (sp_b 153) 102 = .ok (.bipush (-9), 2) := by decide +kernel
theorem si_153_104 : decode (sp_b 153) 104 = .ok (.ireturn, 1) := by decide +kernel
theorem si_154_0 : decode (sp_b 154) 0 = .ok (.iload_n 2, 1) := by decide +kernel
theorem si_154_1 : decode (sp_b 154) 1 = .ok (.aload_n 0, 1) := by decide +kernel
theorem si_154_2 : decode (sp_b 154) 2 = .ok (.getfield 26, 3) := by decide +kernel
theorem sf_154_26 : sp_okF 154 26 8 8 844 = true := by decide +kernel
theorem si_154_5 : decode (sp_b 154) 5 = .ok (.iload_n 1, 1) := by decide +kernel
theorem si_154_6 : decode (sp_b 154) 6 = .ok (.iaload, 1) := by decide +kernel
theorem si_154_7 : decode (sp_b 154) 7 = .ok (.if_icmp .ge 17, 3) := by decide +kernel
theorem si_154_10 : decode (sp_b 154) 10 = .ok (.aload_n 0, 1) := by decide +kernel
theorem si_154_11 : decode (sp_b 154) 11 = .ok (.getfield 29, 3) := by decide +kernel
theorem sf_154_29 : sp_okF 154 29 8 9 845 = true := by decide +kernel
theorem si_154_14 : decode (sp_b 154) 14 = .ok (.bipush 60, 2) := by decide +kernel
theorem si_154_16 : decode (sp_b 154) 16 = .ok (.iload_n 1, 1) := by decide +kernel
theorem si_154_17 : decode (sp_b 154) 17 = .ok (.imul, 1) := by decide +kernel
theorem si_154_18 : decode (sp_b 154) 18 = .ok (.iload_n 2, 1) := by decide +kernel
theorem si_154_19 : decode (sp_b 154) 19 = .ok (.iadd, 1) := by decide +kernel
theorem si_154_20 : decode (sp_b 154) 20 = .ok (.baload, 1) := by decide +kernel
theorem si_154_21 : decode (sp_b 154) 21 = .ok (.goto 4, 3) := by decide +kernel
theorem si_154_24 : decode (sp_b 154) 24 = .ok (.iconst 0, 1) := by decide +kernel
theorem si_154_25 : decode (sp_b 154) 25 = .ok (.ireturn, 1) := by decide +kernel
theorem si_155_0 : decode (sp_b 155) 0 = .ok (.aload_n 0, 1) := by decide +kernel
theorem si_155_1 : decode (sp_b 155) 1 = .ok (.iload_n 1, 1) := by decide +kernel
theorem si_155_2 : decode (sp_b 155) 2 = .ok (.aload_n 0, 1) := by decide +kernel
theorem si_155_3 : decode (sp_b 155) 3 = .ok (.getfield 111, 3) := by decide +kernel
theorem sf_155_111 : sp_okF 155 111 8 15 851 = true := by decide +kernel
theorem si_155_6 : decode (sp_b 155) 6 = .ok (.invokevirtual 114, 3) := by decide +kernel
theorem sk_155_114 : sp_okL 155 114 154 1028 = true := by decide +kernel
theorem si_155_9 : decode (sp_b 155) 9 = .ok (.bipush 112, 2) := by decide +kernel
theorem si_155_11 : decode (sp_b 155) 11 = .ok (.if_icmp .eq 5, 3) := by decide +kernel
theorem si_155_14 : decode (sp_b 155) 14 = .ok (.iconst 0, 1) := by decide +kernel
theorem si_155_15 : decode (sp_b 155) 15 = .ok (.ireturn, 1) := by decide +kernel
theorem si_155_16 : decode (sp_b 155) 16 = .ok (.aload_n 0, 1) := by decide +kernel
theorem si_155_17 : decode (sp_b 155) 17 = .ok (.dup, 1) := by decide +kernel
theorem si_155_18 : decode (sp_b 155) 18 = .ok (.getfield 111, 3) := by decide +kernel
theorem si_155_21 : decode (sp_b 155) 21 = .ok (.iconst 1, 1) := by decide +kernel
theorem si_155_22 : decode (sp_b 155) 22 = .ok (.iadd, 1) := by decide +kernel
theorem si_155_23 : decode (sp_b 155) 23 = .ok (.putfield 111, 3) := by decide +kernel
theorem si_155_26 : decode (sp_b 155) 26 = .ok (.aload_n 0, 1) := by decide +kernel
theorem si_155_27 : decode (sp_b 155) 27 = .ok (.iload_n 1, 1) := by decide +kernel
theorem si_155_28 : decode (sp_b 155) 28 = .ok (.iconst 1, 1) := by decide +kernel
theorem si_155_29 : decode (sp_b 155) 29 = .ok (.invokevirtual 120, 3) := by decide +kernel
theorem sk_155_120 : sp_okL 155 120 156 1036 = true := by decide +kernel
theorem si_155_32 : decode (sp_b 155) 32 = .ok (.istore_n 2, 1) := by decide +kernel
theorem si_155_33 : decode (sp_b 155) 33 = .ok (.aload_n 0, 1) := by decide +kernel
theorem si_155_34 : decode (sp_b 155) 34 = .ok (.iload_n 2, 1) := by decide +kernel
theorem si_155_35 : decode (sp_b 155) 35 = .ok (.ifCond .eq 10, 3) := by decide +kernel
theorem si_155_38 : decode (sp_b 155) 38 = .ok (.aload_n 0, 1) := by decide +kernel
theorem si_155_39 : decode (sp_b 155) 39 = .ok (.getfield 117, 3) := by decide +kernel
theorem sf_155_117 : sp_okF 155 117 8 16 852 = true := by decide +kernel
theorem si_155_42 : decode (sp_b 155) 42 = .ok (.goto 4, 3) := by decide +kernel
theorem si_155_45 : decode (sp_b 155) 45 = .ok (.iconst 0, 1) := by decide +kernel
theorem si_155_46 : decode (sp_b 155) 46 = .ok (.putfield 124, 3) := by decide +kernel
theorem sf_155_124 : sp_okF 155 124 8 17 853 = true := by decide +kernel
theorem si_155_49 : decode (sp_b 155) 49 = .ok (.iload_n 2, 1) := by decide +kernel
theorem si_155_50 : decode (sp_b 155) 50 = .ok (.ireturn, 1) := by decide +kernel
theorem si_156_0 : decode (sp_b 156) 0 = .ok (.aload_n 0, 1) := by decide +kernel
theorem si_156_1 : decode (sp_b 156) 1 = .ok (.aload_n 0, 1) := by decide +kernel
theorem si_156_2 : decode (sp_b 156) 2 = .ok (.iload_n 1, 1) := by decide +kernel
theorem si_156_3 : decode (sp_b 156) 3 = .ok (.aload_n 0, 1) := by decide +kernel
theorem si_156_4 : decode (sp_b 156) 4 = .ok (.getfield 111, 3) := by decide +kernel
theorem sf_156_111 : sp_okF 156 111 8 15 851 = true := by decide +kernel
theorem si_156_7 : decode (sp_b 156) 7 = .ok (.invokevirtual 114, 3) := by decide +kernel
theorem sk_156_114 : sp_okL 156 114 154 1028 = true := by decide +kernel
theorem si_156_10 : decode (sp_b 156) 10 = .ok (.bipush 48, 2) := by decide +kernel
theorem si_156_12 : decode (sp_b 156) 12 = .ok (.isub, 1) := by decide +kernel
theorem si_156_13 : decode (sp_b 156) 13 = .ok (.putfield 117, 3) := by decide +kernel
theorem sf_156_117 : sp_okF 156 117 8 16 852 = true := by decide +kernel
theorem si_156_16 : decode (sp_b 156) 16 = .ok (.aload_n 0, 1) := by decide +kernel
theorem si_156_17 : decode (sp_b 156) 17 = .ok (.getfield 117, 3) := by decide +kernel
theorem si_156_20 : decode (sp_b 156) 20 = .ok (.iload_n 2, 1) := by decide +kernel
theorem si_156_21 : decode (sp_b 156) 21 = .ok (.bipush 9, 2) := by decide +kernel
theorem si_156_23 : decode (sp_b 156) 23 = .ok (.invokestatic 83, 3) := by decide +kernel
theorem sk_156_83 : sp_okL 156 83 135 955 = true := by decide +kernel
theorem si_156_26 : decode (sp_b 156) 26 = .ok (.istore_n 3, 1) := by decide +kernel
theorem si_156_27 : decode (sp_b 156) 27 = .ok (.aload_n 0, 1) := by decide +kernel
theorem si_156_28 : decode (sp_b 156) 28 = .ok (.dup, 1) := by decide +kernel
theorem si_156_29 : decode (sp_b 156) 29 = .ok (.getfield 111, 3) := by decide +kernel
theorem si_156_32 : decode (sp_b 156) 32 = .ok (.iload_n 3, 1) := by decide +kernel
theorem si_156_33 : decode (sp_b 156) 33 = .ok (.ifCond .eq 7, 3) := by decide +kernel
theorem si_156_36 : decode (sp_b 156) 36 = .ok (.iconst 1, 1) := by decide +kernel
theorem si_156_37 : decode (sp_b 156) 37 = .ok (.goto 4, 3) := by decide +kernel
theorem si_156_40 : decode (sp_b 156) 40 = .ok (.iconst 0, 1) := by decide +kernel
theorem si_156_41 : decode (sp_b 156) 41 = .ok (.iadd, 1) := by decide +kernel
theorem si_156_42 : decode (sp_b 156) 42 = .ok (.putfield 111, 3) := by decide +kernel
theorem si_156_45 : decode (sp_b 156) 45 = .ok (.iload_n 3, 1) := by decide +kernel
theorem si_156_46 : decode (sp_b 156) 46 = .ok (.ireturn, 1) := by decide +kernel
theorem si_157_0 : decode (sp_b 157) 0 = .ok (.aload_n 0, 1) := by decide +kernel
theorem si_157_1 : decode (sp_b 157) 1 = .ok (.iload_n 1, 1) := by decide +kernel
theorem si_157_2 : decode (sp_b 157) 2 = .ok (.aload_n 0, 1) := by decide +kernel
theorem si_157_3 : decode (sp_b 157) 3 = .ok (.getfield 111, 3) := by decide +kernel
theorem sf_157_111 : sp_okF 157 111 8 15 851 = true := by decide +kernel
theorem si_157_6 : decode (sp_b 157) 6 = .ok (.invokevirtual 114, 3) := by decide +kernel
theorem sk_157_114 : sp_okL 157 114 154 1028 = true := by decide +kernel
theorem si_157_9 : decode (sp_b 157) 9 = .ok (.invokestatic 127, 3) := by decide +kernel
theorem sk_157_127 : sp_okL 157 127 158 1044 = true := by decide +kernel
theorem si_157_12 : decode (sp_b 157) 12 = .ok (.istore_n 2, 1) := by decide +kernel
theorem si_157_13 : decode (sp_b 157) 13 = .ok (.iload_n 2, 1) := by decide +kernel
theorem si_157_14 : decode (sp_b 157) 14 = .ok (.bipush (-9), 2) := by decide +kernel
theorem si_157_16 : decode (sp_b 157) 16 = .ok (.if_icmp .eq 12, 3) := by decide +kernel
theorem si_157_19 : decode (sp_b 157) 19 = .ok (.aload_n 0, 1) := by decide +kernel
theorem si_157_20 : decode (sp_b 157) 20 = .ok (.getfield 130, 3) := by decide +kernel
theorem sf_157_130 : sp_okF 157 130 8 18 854 = true := by decide +kernel
theorem si_157_23 : decode (sp_b 157) 23 = .ok (.bipush 6, 2) := by decide +kernel
theorem si_157_25 : decode (sp_b 157) 25 = .ok (.if_icmp .ne 5, 3) := by decide +kernel
theorem si_157_28 : decode (sp_b 157) 28 = .ok (.iconst 0, 1) := by decide +kernel
theorem si_157_29 : decode (sp_b 157) 29 = .ok (.ireturn, 1) := by decide +kernel
theorem si_157_30 : decode (sp_b 157) 30 = .ok (.aload_n 0, 1) := by decide +kernel
theorem si_157_31 : decode (sp_b 157) 31 = .ok (.dup, 1) := by decide +kernel
theorem si_157_32 : decode (sp_b 157) 32 = .ok (.getfield 111, 3) := by decide +kernel
theorem si_157_35 : decode (sp_b 157) 35 = .ok (.iconst 1, 1) := by decide +kernel
theorem si_157_36 : decode (sp_b 157) 36 = .ok (.iadd, 1) := by decide +kernel
theorem si_157_37 : decode (sp_b 157) 37 = .ok (.putfield 111, 3) := by decide +kernel
theorem si_157_40 : decode (sp_b 157) 40 = .ok (.iconst 4, 1) := by decide +kernel
theorem si_157_41 : decode (sp_b 157) 41 = .ok (.aload_n 0, 1) := by decide +kernel
theorem si_157_42 : decode (sp_b 157) 42 = .ok (.getfield 130, 3) := by decide +kernel
theorem si_157_45 : decode (sp_b 157) 45 = .ok (.imul, 1) := by decide +kernel
theorem si_157_46 : decode (sp_b 157) 46 = .ok (.istore_n 3, 1) := by decide +kernel
theorem si_157_47 : decode (sp_b 157) 47 = .ok (.aload_n 0, 1) := by decide +kernel
theorem si_157_48 : decode (sp_b 157) 48 = .ok (.getfield 42, 3) := by decide +kernel
theorem sf_157_42 : sp_okF 157 42 8 19 855 = true := by decide +kernel
theorem si_157_51 : decode (sp_b 157) 51 = .ok (.iload_n 3, 1) := by decide +kernel
theorem si_157_52 : decode (sp_b 157) 52 = .ok (.iload_n 2, 1) := by decide +kernel
theorem si_157_53 : decode (sp_b 157) 53 = .ok (.iastore, 1) := by decide +kernel
theorem si_157_54 : decode (sp_b 157) 54 = .ok (.aload_n 0, 1) := by decide +kernel
theorem si_157_55 : decode (sp_b 157) 55 = .ok (.getfield 42, 3) := by decide +kernel
theorem si_157_58 : decode (sp_b 157) 58 = .ok (.iload_n 3, 1) := by decide +kernel
theorem si_157_59 : decode (sp_b 157) 59 = .ok (.iconst 2, 1) := by decide +kernel
theorem si_157_60 : decode (sp_b 157) 60 = .ok (.iadd, 1) := by decide +kernel
theorem si_157_61 : decode (sp_b 157) 61 = .ok (.iconst 0, 1) := by decide +kernel
theorem si_157_62 : decode (sp_b 157) 62 = .ok (.iastore, 1) := by decide +kernel
theorem si_157_63 : decode (sp_b 157) 63 = .ok (.iconst 0, 1) := by decide +kernel
theorem si_157_64 : decode (sp_b 157) 64 = .ok (.istore 4, 2) := by decide +kernel
theorem si_157_66 : decode (sp_b 157) 66 = .ok (.iload 4, 2) := by decide +kernel
theorem si_157_68 : decode (sp_b 157) 68 = .ok (.iconst 4, 1) := by decide +kernel
theorem si_157_69 : decode (sp_b 157) 69 = .ok (.if_icmp .ge 85, 3) := by decide +kernel
theorem si_157_72 : decode (sp_b 157) 72 = .ok (.aload_n 0, 1) := by decide +kernel
theorem si_157_73 : decode (sp_b 157) 73 = .ok (.iload_n 1, 1) := by decide +kernel
theorem si_157_74 : decode (sp_b 157) 74 = .ok (.iconst 0, 1) := by decide +kernel
theorem si_157_75 : decode (sp_b 157) 75 = .ok (.invokevirtual 120, 3) := by decide +kernel
theorem sk_157_120 : sp_okL 157 120 156 1036 = true := by decide +kernel
theorem si_157_78 : decode (sp_b 157) 78 = .ok (.ifCond .ne 5, 3) := by decide +kernel
theorem si_157_81 : decode (sp_b 157) 81 = .ok (.iconst 0, 1) := by decide +kernel
theorem si_157_82 : decode (sp_b 157) 82 = .ok (.ireturn, 1) := by decide +kernel
theorem si_157_83 : decode (sp_b 157) 83 = .ok (.iload 4, 2) := by decide +kernel
theorem si_157_85 : decode (sp_b 157) 85 = .ok (.ifCond .ne 18, 3) := by decide +kernel
theorem si_157_88 : decode (sp_b 157) 88 = .ok (.aload_n 0, 1) := by decide +kernel
theorem si_157_89 : decode (sp_b 157) 89 = .ok (.getfield 42, 3) := by decide +kernel
theorem si_157_92 : decode (sp_b 157) 92 = .ok (.iload_n 3, 1) := by decide +kernel
theorem si_157_93 : decode (sp_b 157) 93 = .ok (.iconst 1, 1) := by decide +kernel
theorem si_157_94 : decode (sp_b 157) 94 = .ok (.iadd, 1) := by decide +kernel
theorem si_157_95 : decode (sp_b 157) 95 = .ok (.aload_n 0, 1) := by decide +kernel
theorem si_157_96 : decode (sp_b 157) 96 = .ok (.getfield 117, 3) := by decide +kernel
theorem sf_157_117 : sp_okF 157 117 8 16 852 = true := by decide +kernel
theorem si_157_99 : decode (sp_b 157) 99 = .ok (.iastore, 1) := by decide +kernel
theorem si_157_100 : decode (sp_b 157) 100 = .ok (.goto 48, 3) := by decide +kernel
theorem si_157_103 : decode (sp_b 157) 103 = .ok (.iload 4, 2) := by decide +kernel
theorem si_157_105 : decode (sp_b 157) 105 = .ok (.iconst 3, 1) := by decide +kernel
theorem si_157_106 : decode (sp_b 157) 106 = .ok (.if_icmp .ne 18, 3) := by decide +kernel
theorem si_157_109 : decode (sp_b 157) 109 = .ok (.aload_n 0, 1) := by decide +kernel
theorem si_157_110 : decode (sp_b 157) 110 = .ok (.getfield 42, 3) := by decide +kernel
theorem si_157_113 : decode (sp_b 157) 113 = .ok (.iload_n 3, 1) := by decide +kernel
theorem si_157_114 : decode (sp_b 157) 114 = .ok (.iconst 3, 1) := by decide +kernel
theorem si_157_115 : decode (sp_b 157) 115 = .ok (.iadd, 1) := by decide +kernel
theorem si_157_116 : decode (sp_b 157) 116 = .ok (.aload_n 0, 1) := by decide +kernel
theorem si_157_117 : decode (sp_b 157) 117 = .ok (.getfield 117, 3) := by decide +kernel
theorem si_157_120 : decode (sp_b 157) 120 = .ok (.iastore, 1) := by decide +kernel
theorem si_157_121 : decode (sp_b 157) 121 = .ok (.goto 27, 3) := by decide +kernel
theorem si_157_124 : decode (sp_b 157) 124 = .ok (.aload_n 0, 1) := by decide +kernel
theorem si_157_125 : decode (sp_b 157) 125 = .ok (.getfield 42, 3) := by decide +kernel
theorem si_157_128 : decode (sp_b 157) 128 = .ok (.iload_n 3, 1) := by decide +kernel
theorem si_157_129 : decode (sp_b 157) 129 = .ok (.iconst 2, 1) := by decide +kernel
theorem si_157_130 : decode (sp_b 157) 130 = .ok (.iadd, 1) := by decide +kernel
theorem si_157_131 : decode (sp_b 157) 131 = .ok (.bipush 10, 2) := by decide +kernel
theorem si_157_133 : decode (sp_b 157) 133 = .ok (.aload_n 0, 1) := by decide +kernel
theorem si_157_134 : decode (sp_b 157) 134 = .ok (.getfield 42, 3) := by decide +kernel
theorem si_157_137 : decode (sp_b 157) 137 = .ok (.iload_n 3, 1) := by decide +kernel
theorem si_157_138 : decode (sp_b 157) 138 = .ok (.iconst 2, 1) := by decide +kernel
theorem si_157_139 : decode (sp_b 157) 139 = .ok (.iadd, 1) := by decide +kernel
theorem si_157_140 : decode (sp_b 157) 140 = .ok (.iaload, 1) := by decide +kernel
theorem si_157_141 : decode (sp_b 157) 141 = .ok (.imul, 1) := by decide +kernel
theorem si_157_142 : decode (sp_b 157) 142 = .ok (.aload_n 0, 1) := by decide +kernel
theorem si_157_143 : decode (sp_b 157) 143 = .ok (.getfield 117, 3) := by decide +kernel
theorem si_157_146 : decode (sp_b 157) 146 = .ok (.iadd, 1) := by decide +kernel
theorem si_157_147 : decode (sp_b 157) 147 = .ok (.iastore, 1) := by decide +kernel
theorem si_157_148 : decode (sp_b 157) 148 = .ok (.iinc 4 1, 3) := by decide +kernel
theorem si_157_151 : decode (sp_b 157) 151 = .ok (.goto (-85), 3) := by decide +kernel
theorem si_157_154 : decode (sp_b 157) 154 = .ok (.aload_n 0, 1) := by decide +kernel
theorem si_157_155 : decode (sp_b 157) 155 = .ok (.dup, 1) := by decide +kernel
theorem si_157_156 : decode (sp_b 157) 156 = .ok (.getfield 130, 3) := by decide +kernel
theorem si_157_159 : decode (sp_b 157) 159 = .ok (.iconst 1, 1) := by decide +kernel
theorem si_157_160 : decode (sp_b 157) 160 = .ok (.iadd, 1) := by decide +kernel
theorem si_157_161 : decode (sp_b 157) 161 = .ok (.putfield 130, 3) := by decide +kernel
theorem si_157_164 : decode (sp_b 157) 164 = .ok (.iconst 1, 1) := by decide +kernel
theorem si_157_165 : decode (sp_b 157) 165 = .ok (.ireturn, 1) := by decide +kernel
theorem si_158_0 : decode (sp_b 158) 0 = .ok (.iload_n 0, 1) := by decide +kernel
theorem si_158_1 : decode (sp_b 158) 1 = .ok (.tableswitch 99 98 115 #[89, 93, 95, 99, 99, 99, 99, 99, 99, 87, 99, 99, 99, 99, 99, 99, 97, 91], 87) := by decide +kernel
theorem si_158_88 : decode (sp_b 158) 88 = .ok (.iconst 0, 1) := by decide +kernel
theorem si_158_89 : decode (sp_b 158) 89 = .ok (.ireturn, 1) := by decide +kernel
theorem si_158_90 : decode (sp_b 158) 90 = .ok (.iconst 1, 1) := by decide +kernel
theorem si_158_91 : decode (sp_b 158) 91 = .ok (.ireturn, 1) := by decide +kernel
theorem si_158_92 : decode (sp_b 158) 92 = .ok (.iconst 2, 1) := by decide +kernel
theorem si_158_93 : decode (sp_b 158) 93 = .ok (.ireturn, 1) := by decide +kernel
theorem si_158_94 : decode (sp_b 158) 94 = .ok (.iconst 3, 1) := by decide +kernel
theorem si_158_95 : decode (sp_b 158) 95 = .ok (.ireturn, 1) := by decide +kernel
theorem si_158_96 : decode (sp_b 158) 96 = .ok (.iconst 4, 1) := by decide +kernel
theorem si_158_97 : decode (sp_b 158) 97 = .ok (.ireturn, 1) := by decide +kernel
theorem si_158_98 : decode (sp_b 158) 98 = .ok (.iconst 5, 1) := by decide +kernel
theorem si_158_99 : decode (sp_b 158) 99 = .ok (.ireturn, 1) := by decide +kernel
theorem si_158_100 : decode (sp_b 158) 100 = .ok (.bipush (-9), 2) := by decide +kernel
theorem si_158_102 : decode (sp_b 158) 102 = .ok (.ireturn, 1) := by decide +kernel
theorem si_159_0 : decode (sp_b 159) 0 = .ok (.iload_n 1, 1) := by decide +kernel
theorem si_159_1 : decode (sp_b 159) 1 = .ok (.invokestatic 108, 3) := by decide +kernel
theorem sk_159_108 : sp_okL 159 108 150 1013 = true := by decide +kernel
theorem si_159_4 : decode (sp_b 159) 4 = .ok (.ifCond .ne 5, 3) := by decide +kernel
theorem si_159_7 : decode (sp_b 159) 7 = .ok (.iconst (-1), 1) := by decide +kernel
theorem si_159_8 : decode (sp_b 159) 8 = .ok (.ireturn, 1) := by decide +kernel
theorem si_159_9 : decode (sp_b 159) 9 = .ok (.aload_n 0, 1) := by decide +kernel
theorem si_159_10 : decode (sp_b 159) 10 = .ok (.getfield 26, 3) := by decide +kernel
theorem sf_159_26 : sp_okF 159 26 8 8 844 = true := by decide +kernel
theorem si_159_13 : decode (sp_b 159) 13 = .ok (.iload_n 1, 1) := by decide +kernel
theorem si_159_14 : decode (sp_b 159) 14 = .ok (.iaload, 1) := by decide +kernel
theorem si_159_15 : decode (sp_b 159) 15 = .ok (.ifCond .ge 9, 3) := by decide +kernel
theorem si_159_18 : decode (sp_b 159) 18 = .ok (.aload_n 0, 1) := by decide +kernel
theorem si_159_19 : decode (sp_b 159) 19 = .ok (.iconst 1, 1) := by decide +kernel
theorem si_159_20 : decode (sp_b 159) 20 = .ok (.invokevirtual 97, 3) := by decide +kernel
theorem sk_159_97 : sp_okL 159 97 141 977 = true := by decide +kernel
theorem si_159_23 : decode (sp_b 159) 23 = .ok (.ireturn, 1) := by decide +kernel
theorem si_159_24 : decode (sp_b 159) 24 = .ok (.aload_n 0, 1) := by decide +kernel
theorem si_159_25 : decode (sp_b 159) 25 = .ok (.iload_n 1, 1) := by decide +kernel
theorem si_159_26 : decode (sp_b 159) 26 = .ok (.invokevirtual 139, 3) := by decide +kernel
theorem sk_159_139 : sp_okL 159 139 153 1024 = true := by decide +kernel
theorem si_159_29 : decode (sp_b 159) 29 = .ok (.bipush (-9), 2) := by decide +kernel
theorem si_159_31 : decode (sp_b 159) 31 = .ok (.if_icmp .eq 6, 3) := by decide +kernel
theorem si_159_34 : decode (sp_b 159) 34 = .ok (.bipush (-4), 2) := by decide +kernel
theorem si_159_36 : decode (sp_b 159) 36 = .ok (.ireturn, 1) := by decide +kernel
theorem si_159_37 : decode (sp_b 159) 37 = .ok (.aload_n 0, 1) := by decide +kernel
theorem si_159_38 : decode (sp_b 159) 38 = .ok (.aload_n 0, 1) := by decide +kernel
theorem si_159_39 : decode (sp_b 159) 39 = .ok (.getfield 124, 3) := by decide +kernel
theorem sf_159_124 : sp_okF 159 124 8 17 853 = true := by decide +kernel
theorem si_159_42 : decode (sp_b 159) 42 = .ok (.putfield 76, 3) := by decide +kernel
theorem sf_159_76 : sp_okF 159 76 8 10 846 = true := by decide +kernel
theorem si_159_45 : decode (sp_b 159) 45 = .ok (.aload_n 0, 1) := by decide +kernel
theorem si_159_46 : decode (sp_b 159) 46 = .ok (.aload_n 0, 1) := by decide +kernel
theorem si_159_47 : decode (sp_b 159) 47 = .ok (.getfield 130, 3) := by decide +kernel
theorem sf_159_130 : sp_okF 159 130 8 18 854 = true := by decide +kernel
theorem si_159_50 : decode (sp_b 159) 50 = .ok (.putfield 142, 3) := by decide +kernel
theorem sf_159_142 : sp_okF 159 142 8 11 847 = true := by decide +kernel
theorem si_159_53 : decode (sp_b 159) 53 = .ok (.iconst 0, 1) := by decide +kernel
theorem si_159_54 : decode (sp_b 159) 54 = .ok (.istore_n 2, 1) := by decide +kernel
theorem si_159_55 : decode (sp_b 159) 55 = .ok (.iload_n 2, 1) := by decide +kernel
theorem si_159_56 : decode (sp_b 159) 56 = .ok (.bipush 9, 2) := by decide +kernel
theorem si_159_58 : decode (sp_b 159) 58 = .ok (.if_icmp .ge 16, 3) := by decide +kernel
theorem si_159_61 : decode (sp_b 159) 61 = .ok (.aload_n 0, 1) := by decide +kernel
theorem si_159_62 : decode (sp_b 159) 62 = .ok (.iconst 0, 1) := by decide +kernel
theorem si_159_63 : decode (sp_b 159) 63 = .ok (.iload_n 2, 1) := by decide +kernel
theorem si_159_64 : decode (sp_b 159) 64 = .ok (.iconst 0, 1) := by decide +kernel
theorem si_159_65 : decode (sp_b 159) 65 = .ok (.invokevirtual 145, 3) := by decide +kernel
theorem sk_159_145 : sp_okL 159 145 160 1051 = true := by decide +kernel
theorem si_159_68 : decode (sp_b 159) 68 = .ok (.iinc 2 1, 3) := by decide +kernel
theorem si_159_71 : decode (sp_b 159) 71 = .ok (.goto (-16), 3) := by decide +kernel
theorem si_159_74 : decode (sp_b 159) 74 = .ok (.iconst 0, 1) := by decide +kernel
theorem si_159_75 : decode (sp_b 159) 75 = .ok (.istore_n 2, 1) := by decide +kernel
theorem si_159_76 : decode (sp_b 159) 76 = .ok (.iload_n 2, 1) := by decide +kernel
theorem si_159_77 : decode (sp_b 159) 77 = .ok (.aload_n 0, 1) := by decide +kernel
theorem si_159_78 : decode (sp_b 159) 78 = .ok (.getfield 142, 3) := by decide +kernel
theorem si_159_81 : decode (sp_b 159) 81 = .ok (.if_icmp .ge 71, 3) := by decide +kernel
theorem si_159_84 : decode (sp_b 159) 84 = .ok (.aload_n 0, 1) := by decide +kernel
theorem si_159_85 : decode (sp_b 159) 85 = .ok (.getfield 33, 3) := by decide +kernel
theorem sf_159_33 : sp_okF 159 33 8 12 848 = true := by decide +kernel
theorem si_159_88 : decode (sp_b 159) 88 = .ok (.iload_n 2, 1) := by decide +kernel
theorem si_159_89 : decode (sp_b 159) 89 = .ok (.aload_n 0, 1) := by decide +kernel
theorem si_159_90 : decode (sp_b 159) 90 = .ok (.getfield 42, 3) := by decide +kernel
theorem sf_159_42 : sp_okF 159 42 8 19 855 = true := by decide +kernel
theorem si_159_93 : decode (sp_b 159) 93 = .ok (.iconst 4, 1) := by decide +kernel
theorem si_159_94 : decode (sp_b 159) 94 = .ok (.iload_n 2, 1) := by decide +kernel
theorem si_159_95 : decode (sp_b 159) 95 = .ok (.imul, 1) := by decide +kernel
theorem si_159_96 : decode (sp_b 159) 96 = .ok (.iaload, 1) := by decide +kernel
theorem si_159_97 : decode (sp_b 159) 97 = .ok (.iastore, 1) := by decide +kernel
theorem si_159_98 : decode (sp_b 159) 98 = .ok (.aload_n 0, 1) := by decide +kernel
theorem si_159_99 : decode (sp_b 159) 99 = .ok (.getfield 36, 3) := by decide +kernel
theorem sf_159_36 : sp_okF 159 36 8 13 849 = true := by decide +kernel
theorem si_159_102 : decode (sp_b 159) 102 = .ok (.iload_n 2, 1) := by decide +kernel
theorem si_159_103 : decode (sp_b 159) 103 = .ok (.aload_n 0, 1) := by decide +kernel
theorem si_159_104 : decode (sp_b 159) 104 = .ok (.getfield 42, 3) := by decide +kernel
theorem si_159_107 : decode (sp_b 159) 107 = .ok (.iconst 4, 1) := by decide +kernel
theorem si_159_108 : decode (sp_b 159) 108 = .ok (.iload_n 2, 1) := by decide +kernel
theorem si_159_109 : decode (sp_b 159) 109 = .ok (.imul, 1) := by decide +kernel
theorem si_159_110 : decode (sp_b 159) 110 = .ok (.iconst 1, 1) := by decide +kernel
theorem si_159_111 : decode (sp_b 159) 111 = .ok (.iadd, 1) := by decide +kernel
theorem si_159_112 : decode (sp_b 159) 112 = .ok (.iaload, 1) := by decide +kernel
theorem si_159_113 : decode (sp_b 159) 113 = .ok (.iastore, 1) := by decide +kernel
theorem si_159_114 : decode (sp_b 159) 114 = .ok (.aload_n 0, 1) := by decide +kernel
theorem si_159_115 : decode (sp_b 159) 115 = .ok (.getfield 39, 3) := by decide +kernel
theorem sf_159_39 : sp_okF 159 39 8 14 850 = true := by decide +kernel
theorem si_159_118 : decode (sp_b 159) 118 = .ok (.iload_n 2, 1) := by decide +kernel
theorem si_159_119 : decode (sp_b 159) 119 = .ok (.aload_n 0, 1) := by decide +kernel
theorem si_159_120 : decode (sp_b 159) 120 = .ok (.getfield 42, 3) := by decide +kernel
theorem si_159_123 : decode (sp_b 159) 123 = .ok (.iconst 4, 1) := by decide +kernel
theorem si_159_124 : decode (sp_b 159) 124 = .ok (.iload_n 2, 1) := by decide +kernel
theorem si_159_125 : decode (sp_b 159) 125 = .ok (.imul, 1) := by decide +kernel
theorem si_159_126 : decode (sp_b 159) 126 = .ok (.iconst 3, 1) := by decide +kernel
theorem si_159_127 : decode (sp_b 159) 127 = .ok (.iadd, 1) := by decide +kernel
theorem si_159_128 : decode (sp_b 159) 128 = .ok (.iaload, 1) := by decide +kernel
theorem si_159_129 : decode (sp_b 159) 129 = .ok (.iastore, 1) := by decide +kernel
theorem si_159_130 : decode (sp_b 159) 130 = .ok (.aload_n 0, 1) := by decide +kernel
theorem si_159_131 : decode (sp_b 159) 131 = .ok (.iconst 0, 1) := by decide +kernel
theorem si_159_132 : decode (sp_b 159) 132 = .ok (.iload_n 2, 1) := by decide +kernel
theorem si_159_133 : decode (sp_b 159) 133 = .ok (.aload_n 0, 1) := by decide +kernel
theorem si_159_134 : decode (sp_b 159) 134 = .ok (.getfield 42, 3) := by decide +kernel
theorem si_159_137 : decode (sp_b 159) 137 = .ok (.iconst 4, 1) := by decide +kernel
theorem si_159_138 : decode (sp_b 159) 138 = .ok (.iload_n 2, 1) := by decide +kernel
theorem si_159_139 : decode (sp_b 159) 139 = .ok (.imul, 1) := by decide +kernel
theorem si_159_140 : decode (sp_b 159) 140 = .ok (.iconst 2, 1) := by decide +kernel
theorem si_159_141 : decode (sp_b 159) 141 = .ok (.iadd, 1) := by decide +kernel
theorem si_159_142 : decode (sp_b 159) 142 = .ok (.iaload, 1) := by decide +kernel
theorem si_159_143 : decode (sp_b 159) 143 = .ok (.invokevirtual 145, 3) := by decide +kernel
theorem si_159_146 : decode (sp_b 159) 146 = .ok (.iinc 2 1, 3) := by decide +kernel
theorem si_159_149 : decode (sp_b 159) 149 = .ok (.goto (-73), 3) := by decide +kernel
theorem si_159_152 : decode (sp_b 159) 152 = .ok (.aload_n 0, 1) := by decide +kernel
theorem si_159_153 : decode (sp_b 159) 153 = .ok (.iconst 0, 1) := by decide +kernel
theorem si_159_154 : decode (sp_b 159) 154 = .ok (.putfield 149, 3) := by decide +kernel
theorem sf_159_149 : sp_okF 159 149 8 21 857 = true := by decide +kernel
theorem si_159_157 : decode (sp_b 159) 157 = .ok (.iconst 0, 1) := by decide +kernel
theorem si_159_158 : decode (sp_b 159) 158 = .ok (.istore_n 2, 1) := by decide +kernel
theorem si_159_159 : decode (sp_b 159) 159 = .ok (.iload_n 2, 1) := by decide +kernel
theorem si_159_160 : decode (sp_b 159) 160 = .ok (.iconst 3, 1) := by decide +kernel
theorem si_159_161 : decode (sp_b 159) 161 = .ok (.if_icmp .ge 16, 3) := by decide +kernel
theorem si_159_164 : decode (sp_b 159) 164 = .ok (.aload_n 0, 1) := by decide +kernel
theorem si_159_165 : decode (sp_b 159) 165 = .ok (.getfield 51, 3) := by decide +kernel
theorem sf_159_51 : sp_okF 159 51 8 23 859 = true := by decide +kernel
theorem si_159_168 : decode (sp_b 159) 168 = .ok (.iload_n 2, 1) := by decide +kernel
theorem si_159_169 : decode (sp_b 159) 169 = .ok (.iconst 0, 1) := by decide +kernel
theorem si_159_170 : decode (sp_b 159) 170 = .ok (.bastore, 1) := by decide +kernel
theorem si_159_171 : decode (sp_b 159) 171 = .ok (.iinc 2 1, 3) := by decide +kernel
theorem si_159_174 : decode (sp_b 159) 174 = .ok (.goto (-15), 3) := by decide +kernel
theorem si_159_177 : decode (sp_b 159) 177 = .ok (.aload_n 0, 1) := by decide +kernel
theorem si_159_178 : decode (sp_b 159) 178 = .ok (.getfield 142, 3) := by decide +kernel
theorem si_159_181 : decode (sp_b 159) 181 = .ok (.ireturn, 1) := by decide +kernel
theorem si_160_0 : decode (sp_b 160) 0 = .ok (.aload_n 0, 1) := by decide +kernel
theorem si_160_1 : decode (sp_b 160) 1 = .ok (.getfield 45, 3) := by decide +kernel
theorem sf_160_45 : sp_okF 160 45 8 20 856 = true := by decide +kernel
theorem si_160_4 : decode (sp_b 160) 4 = .ok (.bipush 9, 2) := by decide +kernel
theorem si_160_6 : decode (sp_b 160) 6 = .ok (.iload_n 1, 1) := by decide +kernel
theorem si_160_7 : decode (sp_b 160) 7 = .ok (.imul, 1) := by decide +kernel
theorem si_160_8 : decode (sp_b 160) 8 = .ok (.iload_n 2, 1) := by decide +kernel
theorem si_160_9 : decode (sp_b 160) 9 = .ok (.iadd, 1) := by decide +kernel
theorem si_160_10 : decode (sp_b 160) 10 = .ok (.iload_n 3, 1) := by decide +kernel
theorem si_160_11 : decode (sp_b 160) 11 = .ok (.iastore, 1) := by decide +kernel
theorem si_160_12 : decode (sp_b 160) 12 = .ok (.return_, 1) := by decide +kernel
theorem si_161_0 : decode (sp_b 161) 0 = .ok (.aload_n 0, 1) := by decide +kernel
theorem si_161_1 : decode (sp_b 161) 1 = .ok (.iload_n 1, 1) := by decide +kernel
theorem si_161_2 : decode (sp_b 161) 2 = .ok (.invokevirtual 174, 3) := by decide +kernel
theorem sk_161_174 : sp_okL 161 174 162 1059 = true := by decide +kernel
theorem si_161_5 : decode (sp_b 161) 5 = .ok (.ifCond .eq 26, 3) := by decide +kernel
theorem si_161_8 : decode (sp_b 161) 8 = .ok (.iload_n 2, 1) := by decide +kernel
theorem si_161_9 : decode (sp_b 161) 9 = .ok (.iconst 0, 1) := by decide +kernel
theorem si_161_10 : decode (sp_b 161) 10 = .ok (.iconst 4, 1) := by decide +kernel
theorem si_161_11 : decode (sp_b 161) 11 = .ok (.invokestatic 83, 3) := by decide +kernel
theorem sk_161_83 : sp_okL 161 83 135 955 = true := by decide +kernel
theorem si_161_14 : decode (sp_b 161) 14 = .ok (.ifCond .eq 17, 3) := by decide +kernel
theorem si_161_17 : decode (sp_b 161) 17 = .ok (.aload_n 0, 1) := by decide +kernel
theorem si_161_18 : decode (sp_b 161) 18 = .ok (.aload_n 0, 1) := by decide +kernel
theorem si_161_19 : decode (sp_b 161) 19 = .ok (.iload_n 1, 1) := by decide +kernel
theorem si_161_20 : decode (sp_b 161) 20 = .ok (.iload_n 2, 1) := by decide +kernel
theorem si_161_21 : decode (sp_b 161) 21 = .ok (.invokevirtual 177, 3) := by decide +kernel
theorem sk_161_177 : sp_okL 161 177 163 1063 = true := by decide +kernel
theorem si_161_24 : decode (sp_b 161) 24 = .ok (.iconst 1, 1) := by decide +kernel
theorem si_161_25 : decode (sp_b 161) 25 = .ok (.invokevirtual 105, 3) := by decide +kernel
theorem sk_161_105 : sp_okL 161 105 144 989 = true := by decide +kernel
theorem si_161_28 : decode (sp_b 161) 28 = .ok (.goto 4, 3) := by decide +kernel
theorem si_161_31 : decode (sp_b 161) 31 = .ok (.iconst (-1), 1) := by decide +kernel
theorem si_161_32 : decode (sp_b 161) 32 = .ok (.ireturn, 1) := by decide +kernel
theorem si_162_0 : decode (sp_b 162) 0 = .ok (.iload_n 1, 1) := by decide +kernel
theorem si_162_1 : decode (sp_b 162) 1 = .ok (.iconst 0, 1) := by decide +kernel
theorem si_162_2 : decode (sp_b 162) 2 = .ok (.aload_n 0, 1) := by decide +kernel
theorem si_162_3 : decode (sp_b 162) 3 = .ok (.getfield 142, 3) := by decide +kernel
theorem sf_162_142 : sp_okF 162 142 8 11 847 = true := by decide +kernel
theorem si_162_6 : decode (sp_b 162) 6 = .ok (.iconst 1, 1) := by decide +kernel
theorem si_162_7 : decode (sp_b 162) 7 = .ok (.isub, 1) := by decide +kernel
theorem si_162_8 : decode (sp_b 162) 8 = .ok (.invokestatic 83, 3) := by decide +kernel
theorem sk_162_83 : sp_okL 162 83 135 955 = true := by decide +kernel
theorem si_162_11 : decode (sp_b 162) 11 = .ok (.ireturn, 1) := by decide +kernel
theorem si_163_0 : decode (sp_b 163) 0 = .ok (.iload_n 2, 1) := by decide +kernel
theorem si_163_1 : decode (sp_b 163) 1 = .ok (.tableswitch 59 0 3 #[31, 38, 45, 52], 31) := by decide +kernel
theorem si_163_32 : decode (sp_b 163) 32 = .ok (.aload_n 0, 1) := by decide +kernel
theorem si_163_33 : decode (sp_b 163) 33 = .ok (.getfield 33, 3) := by decide +kernel
theorem sf_163_33 : sp_okF 163 33 8 12 848 = true := by decide +kernel
theorem si_163_36 : decode (sp_b 163) 36 = .ok (.iload_n 1, 1) := by decide +kernel
theorem si_163_37 : decode (sp_b 163) 37 = .ok (.iaload, 1) := by decide +kernel
theorem si_163_38 : decode (sp_b 163) 38 = .ok (.ireturn, 1) := by decide +kernel
theorem si_163_39 : decode (sp_b 163) 39 = .ok (.aload_n 0, 1) := by decide +kernel
theorem si_163_40 : decode (sp_b 163) 40 = .ok (.getfield 36, 3) := by decide +kernel
theorem sf_163_36 : sp_okF 163 36 8 13 849 = true := by decide +kernel
theorem si_163_43 : decode (sp_b 163) 43 = .ok (.iload_n 1, 1) := by decide +kernel
theorem si_163_44 : decode (sp_b 163) 44 = .ok (.iaload, 1) := by decide +kernel
theorem si_163_45 : decode (sp_b 163) 45 = .ok (.ireturn, 1) := by decide +kernel
theorem si_163_46 : decode (sp_b 163) 46 = .ok (.aload_n 0, 1) := by decide +kernel
theorem si_163_47 : decode (sp_b 163) 47 = .ok (.iconst 0, 1) := by decide +kernel
theorem si_163_48 : decode (sp_b 163) 48 = .ok (.iload_n 1, 1) := by decide +kernel
theorem si_163_49 : decode (sp_b 163) 49 = .ok (.invokevirtual 152, 3) := by decide +kernel
theorem sk_163_152 : sp_okL 163 152 164 1067 = true := by decide +kernel
theorem si_163_52 : decode (sp_b 163) 52 = .ok (.ireturn, 1) := by decide +kernel
theorem si_163_53 : decode (sp_b 163) 53 = .ok (.aload_n 0, 1) := by decide +kernel
theorem si_163_54 : decode (sp_b 163) 54 = .ok (.getfield 39, 3) := by decide +kernel
theorem sf_163_39 : sp_okF 163 39 8 14 850 = true := by decide +kernel
theorem si_163_57 : decode (sp_b 163) 57 = .ok (.iload_n 1, 1) := by decide +kernel
theorem si_163_58 : decode (sp_b 163) 58 = .ok (.iaload, 1) := by decide +kernel
theorem si_163_59 : decode (sp_b 163) 59 = .ok (.ireturn, 1) := by decide +kernel
theorem si_163_60 : decode (sp_b 163) 60 = .ok (.aload_n 0, 1) := by decide +kernel
theorem si_163_61 : decode (sp_b 163) 61 = .ok (.iconst 0, 1) := by decide +kernel
theorem si_163_62 : decode (sp_b 163) 62 = .ok (.iload_n 1, 1) := by decide +kernel
theorem si_163_63 : decode (sp_b 163) 63 = .ok (.invokevirtual 155, 3) := by decide +kernel
theorem sk_163_155 : sp_okL 163 155 165 1071 = true := by decide +kernel
theorem si_163_66 : decode (sp_b 163) 66 = .ok (.ifCond .eq 7, 3) := by decide +kernel
theorem si_163_69 : decode (sp_b 163) 69 = .ok (.iconst 1, 1) := by decide +kernel
theorem si_163_70 : decode (sp_b 163) 70 = .ok (.goto 4, 3) := by decide +kernel
theorem si_163_73 : decode (sp_b 163) 73 = .ok (.iconst 0, 1) := by decide +kernel
theorem si_163_74 : decode (sp_b 163) 74 = .ok (.ireturn, 1) := by decide +kernel
