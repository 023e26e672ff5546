theorem si_3_0 : decode (sp_b 3) 0 = .ok (.iconst 0, 1) := by decide +kernel
theorem si_3_1 : decode (sp_b 3) 1 = .ok (.istore_n 2, 1) := by decide +kernel
theorem si_3_2 : decode (sp_b 3) 2 = .ok (.aload_n 0, 1) := by decide +kernel
theorem si_3_3 : decode (sp_b 3) 3 = .ok (.arraylength, 1) := by decide +kernel
theorem si_3_4 : decode (sp_b 3) 4 = .ok (.istore_n 3, 1) := by decide +kernel
theorem si_3_5 : decode (sp_b 3) 5 = .ok (.iload_n 2, 1) := by decide +kernel
theorem si_3_6 : decode (sp_b 3) 6 = .ok (.iload_n 3, 1) := by decide +kernel
theorem si_3_7 : decode (sp_b 3) 7 = .ok (.if_icmp .ge 13, 3) := by decide +kernel
theorem si_3_10 : decode (sp_b 3) 10 = .ok (.aload_n 0, 1) := by decide +kernel
theorem si_3_11 : decode (sp_b 3) 11 = .ok (.iload_n 2, 1) := by decide +kernel
theorem si_3_12 : decode (sp_b 3) 12 = .ok (.iload_n 1, 1) := by decide +kernel
theorem si_3_13 : decode (sp_b 3) 13 = .ok (.iastore, 1) := by decide +kernel
theorem si_3_14 : decode (sp_b 3) 14 = .ok (.iinc 2 1, 3) := by decide +kernel
theorem si_3_17 : decode (sp_b 3) 17 = .ok (.goto (-12), 3) := by decide +kernel
theorem si_3_20 : decode (sp_b 3) 20 = .ok (.return_, 1) := by decide +kernel
theorem si_10_0 : decode (sp_b 10) 0 = .ok (.aload_n 0, 1) := by decide +kernel
theorem si_10_1 : decode (sp_b 10) 1 = .ok (.getfield 14, 3) := by decide +kernel
theorem sf_10_14 : sp_okF 10 14 7 0 262 = true := by decide +kernel
theorem si_10_4 : decode (sp_b 10) 4 = .ok (.iload_n 1, 1) := by decide +kernel
theorem si_10_5 : decode (sp_b 10) 5 = .ok (.invokevirtual 72, 3) := by decide +kernel
theorem sk_10_72 : sp_okL 10 72 11 312 = true := by decide +kernel
theorem si_10_8 : decode (sp_b 10) 8 = .ok (.ifCond .eq 9, 3) := by decide +kernel
theorem si_10_11 : decode (sp_b 10) 11 = .ok (.iload_n 2, 1) := by decide +kernel
theorem si_10_12 : decode (sp_b 10) 12 = .ok (.bipush 40, 2) := by decide +kernel
theorem si_10_14 : decode (sp_b 10) 14 = .ok (.if_icmp .le 5, 3) := by decide +kernel
theorem si_10_17 : decode (sp_b 10) 17 = .ok (.iconst (-1), 1) := by decide +kernel
theorem si_10_18 : decode (sp_b 10) 18 = .ok (.ireturn, 1) := by decide +kernel
theorem si_10_19 : decode (sp_b 10) 19 = .ok (.iload_n 2, 1) := by decide +kernel
theorem si_10_20 : decode (sp_b 10) 20 = .ok (.ifCond .ge 9, 3) := by decide +kernel
theorem si_10_23 : decode (sp_b 10) 23 = .ok (.aload_n 0, 1) := by decide +kernel
theorem si_10_24 : decode (sp_b 10) 24 = .ok (.iconst 5, 1) := by decide +kernel
theorem si_10_25 : decode (sp_b 10) 25 = .ok (.invokevirtual 76, 3) := by decide +kernel
theorem sk_10_76 : sp_okL 10 76 12 316 = true := by decide +kernel
theorem si_10_28 : decode (sp_b 10) 28 = .ok (.ireturn, 1) := by decide +kernel
theorem si_10_29 : decode (sp_b 10) 29 = .ok (.aload_n 0, 1) := by decide +kernel
theorem si_10_30 : decode (sp_b 10) 30 = .ok (.getfield 14, 3) := by decide +kernel
theorem si_10_33 : decode (sp_b 10) 33 = .ok (.iload_n 1, 1) := by decide +kernel
theorem si_10_34 : decode (sp_b 10) 34 = .ok (.iload_n 2, 1) := by decide +kernel
theorem si_10_35 : decode (sp_b 10) 35 = .ok (.iconst 0, 1) := by decide +kernel
theorem si_10_36 : decode (sp_b 10) 36 = .ok (.invokevirtual 80, 3) := by decide +kernel
theorem sk_10_80 : sp_okL 10 80 13 320 = true := by decide +kernel
theorem si_10_39 : decode (sp_b 10) 39 = .ok (.iload_n 2, 1) := by decide +kernel
theorem si_10_40 : decode (sp_b 10) 40 = .ok (.ireturn, 1) := by decide +kernel
theorem si_11_0 : decode (sp_b 11) 0 = .ok (.iload_n 1, 1) := by decide +kernel
theorem si_11_1 : decode (sp_b 11) 1 = .ok (.ifCond .lt 16, 3) := by decide +kernel
theorem si_11_4 : decode (sp_b 11) 4 = .ok (.iload_n 1, 1) := by decide +kernel
theorem si_11_5 : decode (sp_b 11) 5 = .ok (.aload_n 0, 1) := by decide +kernel
theorem si_11_6 : decode (sp_b 11) 6 = .ok (.getfield 14, 3) := by decide +kernel
theorem sf_11_14 : sp_okF 11 14 5 1 99 = true := by decide +kernel
theorem si_11_9 : decode (sp_b 11) 9 = .ok (.arraylength, 1) := by decide +kernel
theorem si_11_10 : decode (sp_b 11) 10 = .ok (.if_icmp .ge 7, 3) := by decide +kernel
theorem si_11_13 : decode (sp_b 11) 13 = .ok (.iconst 1, 1) := by decide +kernel
theorem si_11_14 : decode (sp_b 11) 14 = .ok (.goto 4, 3) := by decide +kernel
theorem si_11_17 : decode (sp_b 11) 17 = .ok (.iconst 0, 1) := by decide +kernel
theorem si_11_18 : decode (sp_b 11) 18 = .ok (.ireturn, 1) := by decide +kernel
theorem si_12_0 : decode (sp_b 12) 0 = .ok (.aload_n 0, 1) := by decide +kernel
theorem si_12_1 : decode (sp_b 12) 1 = .ok (.iload_n 1, 1) := by decide +kernel
theorem si_12_2 : decode (sp_b 12) 2 = .ok (.putfield 299, 3) := by decide +kernel
theorem sf_12_299 : sp_okF 12 299 7 11 273 = true := by decide +kernel
theorem si_12_5 : decode (sp_b 12) 5 = .ok (.aload_n 0, 1) := by decide +kernel
theorem si_12_6 : decode (sp_b 12) 6 = .ok (.getfield 64, 3) := by decide +kernel
theorem sf_12_64 : sp_okF 12 64 7 10 272 = true := by decide +kernel
theorem si_12_9 : decode (sp_b 12) 9 = .ok (.iload_n 1, 1) := by decide +kernel
theorem si_12_10 : decode (sp_b 12) 10 = .ok (.dup2, 1) := by decide +kernel
theorem si_12_11 : decode (sp_b 12) 11 = .ok (.iaload, 1) := by decide +kernel
theorem si_12_12 : decode (sp_b 12) 12 = .ok (.iconst 1, 1) := by decide +kernel
theorem si_12_13 : decode (sp_b 12) 13 = .ok (.iadd, 1) := by decide +kernel
theorem si_12_14 : decode (sp_b 12) 14 = .ok (.iastore, 1) := by decide +kernel
theorem si_12_15 : decode (sp_b 12) 15 = .ok (.bipush (-3), 2) := by decide +kernel
theorem si_12_17 : decode (sp_b 12) 17 = .ok (.ireturn, 1) := by decide +kernel
theorem si_13_0 : decode (sp_b 13) 0 = .ok (.aload_n 0, 1) := by decide +kernel
theorem si_13_1 : decode (sp_b 13) 1 = .ok (.getfield 14, 3) := by decide +kernel
theorem sf_13_14 : sp_okF 13 14 5 1 99 = true := by decide +kernel
theorem si_13_4 : decode (sp_b 13) 4 = .ok (.iload_n 1, 1) := by decide +kernel
theorem si_13_5 : decode (sp_b 13) 5 = .ok (.iload_n 2, 1) := by decide +kernel
theorem si_13_6 : decode (sp_b 13) 6 = .ok (.iastore, 1) := by decide +kernel
theorem si_13_7 : decode (sp_b 13) 7 = .ok (.aload_n 0, 1) := by decide +kernel
theorem si_13_8 : decode (sp_b 13) 8 = .ok (.getfield 9, 3) := by decide +kernel
theorem sf_13_9 : sp_okF 13 9 5 0 98 = true := by decide +kernel
theorem si_13_11 : decode (sp_b 13) 11 = .ok (.iload_n 1, 1) := by decide +kernel
theorem si_13_12 : decode (sp_b 13) 12 = .ok (.aaload, 1) := by decide +kernel
theorem si_13_13 : decode (sp_b 13) 13 = .ok (.iload_n 3, 1) := by decide +kernel
theorem si_13_14 : decode (sp_b 13) 14 = .ok (.invokestatic 18, 3) := by decide +kernel
theorem sk_13_18 : sp_okL 13 18 3 95 = true := by decide +kernel
theorem si_13_17 : decode (sp_b 13) 17 = .ok (.return_, 1) := by decide +kernel
theorem si_14_0 : decode (sp_b 14) 0 = .ok (.aload_n 0, 1) := by decide +kernel
theorem si_14_1 : decode (sp_b 14) 1 = .ok (.getfield 14, 3) := by decide +kernel
theorem sf_14_14 : sp_okF 14 14 7 0 262 = true := by decide +kernel
theorem si_14_4 : decode (sp_b 14) 4 = .ok (.iload_n 1, 1) := by decide +kernel
theorem si_14_5 : decode (sp_b 14) 5 = .ok (.invokevirtual 72, 3) := by decide +kernel
theorem sk_14_72 : sp_okL 14 72 11 312 = true := by decide +kernel
theorem si_14_8 : decode (sp_b 14) 8 = .ok (.ifCond .ne 5, 3) := by decide +kernel
theorem si_14_11 : decode (sp_b 14) 11 = .ok (.iconst (-1), 1) := by decide +kernel
theorem si_14_12 : decode (sp_b 14) 12 = .ok (.ireturn, 1) := by decide +kernel
theorem si_14_13 : decode (sp_b 14) 13 = .ok (.aload_n 0, 1) := by decide +kernel
theorem si_14_14 : decode (sp_b 14) 14 = .ok (.getfield 14, 3) := by decide +kernel
theorem si_14_17 : decode (sp_b 14) 17 = .ok (.iload_n 1, 1) := by decide +kernel
theorem si_14_18 : decode (sp_b 14) 18 = .ok (.iload_n 2, 1) := by decide +kernel
theorem si_14_19 : decode (sp_b 14) 19 = .ok (.invokestatic 84, 3) := by decide +kernel
theorem sk_14_84 : sp_okL 14 84 15 328 = true := by decide +kernel
theorem si_14_22 : decode (sp_b 14) 22 = .ok (.istore 4, 2) := by decide +kernel
theorem si_14_24 : decode (sp_b 14) 24 = .ok (.iload 4, 2) := by decide +kernel
theorem si_14_26 : decode (sp_b 14) 26 = .ok (.ifCond .eq 10, 3) := by decide +kernel
theorem si_14_29 : decode (sp_b 14) 29 = .ok (.aload_n 0, 1) := by decide +kernel
theorem si_14_30 : decode (sp_b 14) 30 = .ok (.iload 4, 2) := by decide +kernel
theorem si_14_32 : decode (sp_b 14) 32 = .ok (.invokevirtual 76, 3) := by decide +kernel
theorem sk_14_76 : sp_okL 14 76 12 316 = true := by decide +kernel
theorem si_14_35 : decode (sp_b 14) 35 = .ok (.ireturn, 1) := by decide +kernel
theorem si_14_36 : decode (sp_b 14) 36 = .ok (.aload_n 0, 1) := by decide +kernel
theorem si_14_37 : decode (sp_b 14) 37 = .ok (.aload_n 0, 1) := by decide +kernel
theorem si_14_38 : decode (sp_b 14) 38 = .ok (.getfield 14, 3) := by decide +kernel
theorem si_14_41 : decode (sp_b 14) 41 = .ok (.iload_n 1, 1) := by decide +kernel
theorem si_14_42 : decode (sp_b 14) 42 = .ok (.iload_n 2, 1) := by decide +kernel
theorem si_14_43 : decode (sp_b 14) 43 = .ok (.invokevirtual 88, 3) := by decide +kernel
theorem sk_14_88 : sp_okL 14 88 18 339 = true := by decide +kernel
theorem si_14_46 : decode (sp_b 14) 46 = .ok (.putfield 92, 3) := by decide +kernel
theorem sf_14_92 : sp_okF 14 92 7 12 274 = true := by decide +kernel
theorem si_14_49 : decode (sp_b 14) 49 = .ok (.aload_n 0, 1) := by decide +kernel
theorem si_14_50 : decode (sp_b 14) 50 = .ok (.getfield 14, 3) := by decide +kernel
theorem si_14_53 : decode (sp_b 14) 53 = .ok (.iload_n 1, 1) := by decide +kernel
theorem si_14_54 : decode (sp_b 14) 54 = .ok (.iload_n 2, 1) := by decide +kernel
theorem si_14_55 : decode (sp_b 14) 55 = .ok (.iload_n 3, 1) := by decide +kernel
theorem si_14_56 : decode (sp_b 14) 56 = .ok (.invokevirtual 96, 3) := by decide +kernel
theorem sk_14_96 : sp_okL 14 96 19 343 = true := by decide +kernel
theorem si_14_59 : decode (sp_b 14) 59 = .ok (.iconst 1, 1) := by decide +kernel
theorem si_14_60 : decode (sp_b 14) 60 = .ok (.ireturn, 1) := by decide +kernel
theorem si_15_0 : decode (sp_b 15) 0 = .ok (.aload_n 0, 1) := by decide +kernel
theorem si_15_1 : decode (sp_b 15) 1 = .ok (.iload_n 1, 1) := by decide +kernel
theorem si_15_2 : decode (sp_b 15) 2 = .ok (.invokevirtual 99, 3) := by decide +kernel
theorem sk_15_99 : sp_okL 15 99 16 331 = true := by decide +kernel
theorem si_15_5 : decode (sp_b 15) 5 = .ok (.ifCond .ne 5, 3) := by decide +kernel
theorem si_15_8 : decode (sp_b 15) 8 = .ok (.iconst 1, 1) := by decide +kernel
theorem si_15_9 : decode (sp_b 15) 9 = .ok (.ireturn, 1) := by decide +kernel
theorem si_15_10 : decode (sp_b 15) 10 = .ok (.aload_n 0, 1) := by decide +kernel
theorem si_15_11 : decode (sp_b 15) 11 = .ok (.iload_n 1, 1) := by decide +kernel
theorem si_15_12 : decode (sp_b 15) 12 = .ok (.iload_n 2, 1) := by decide +kernel
theorem si_15_13 : decode (sp_b 15) 13 = .ok (.iconst 1, 1) := by decide +kernel
theorem si_15_14 : decode (sp_b 15) 14 = .ok (.invokevirtual 106, 3) := by decide +kernel
theorem sk_15_106 : sp_okL 15 106 17 335 = true := by decide +kernel
theorem si_15_17 : decode (sp_b 15) 17 = .ok (.ifCond .eq 7, 3) := by decide +kernel
theorem si_15_20 : decode (sp_b 15) 20 = .ok (.iconst 0, 1) := by decide +kernel
theorem si_15_21 : decode (sp_b 15) 21 = .ok (.goto 4, 3) := by decide +kernel
theorem si_15_24 : decode (sp_b 15) 24 = .ok (.iconst 2, 1) := by decide +kernel
theorem si_15_25 : decode (sp_b 15) 25 = .ok (.ireturn, 1) := by decide +kernel
theorem si_16_0 : decode (sp_b 16) 0 = .ok (.aload_n 0, 1) := by decide +kernel
theorem si_16_1 : decode (sp_b 16) 1 = .ok (.getfield 14, 3) := by decide +kernel
theorem sf_16_14 : sp_okF 16 14 5 1 99 = true := by decide +kernel
theorem si_16_4 : decode (sp_b 16) 4 = .ok (.iload_n 1, 1) := by decide +kernel
theorem si_16_5 : decode (sp_b 16) 5 = .ok (.iaload, 1) := by decide +kernel
theorem si_16_6 : decode (sp_b 16) 6 = .ok (.ifCond .lt 7, 3) := by decide +kernel
theorem si_16_9 : decode (sp_b 16) 9 = .ok (.iconst 1, 1) := by decide +kernel
theorem si_16_10 : decode (sp_b 16) 10 = .ok (.goto 4, 3) := by decide +kernel
theorem si_16_13 : decode (sp_b 16) 13 = .ok (.iconst 0, 1) := by decide +kernel
theorem si_16_14 : decode (sp_b 16) 14 = .ok (.ireturn, 1) := by decide +kernel
theorem si_17_0 : decode (sp_b 17) 0 = .ok (.iload_n 2, 1) := by decide +kernel
theorem si_17_1 : decode (sp_b 17) 1 = .ok (.ifCond .lt 19, 3) := by decide +kernel
theorem si_17_4 : decode (sp_b 17) 4 = .ok (.iload_n 2, 1) := by decide +kernel
theorem si_17_5 : decode (sp_b 17) 5 = .ok (.aload_n 0, 1) := by decide +kernel
theorem si_17_6 : decode (sp_b 17) 6 = .ok (.getfield 14, 3) := by decide +kernel
theorem sf_17_14 : sp_okF 17 14 5 1 99 = true := by decide +kernel
theorem si_17_9 : decode (sp_b 17) 9 = .ok (.iload_n 1, 1) := by decide +kernel
theorem si_17_10 : decode (sp_b 17) 10 = .ok (.iaload, 1) := by decide +kernel
theorem si_17_11 : decode (sp_b 17) 11 = .ok (.iload_n 3, 1) := by decide +kernel
theorem si_17_12 : decode (sp_b 17) 12 = .ok (.isub, 1) := by decide +kernel
theorem si_17_13 : decode (sp_b 17) 13 = .ok (.if_icmp .gt 7, 3) := by decide +kernel
theorem si_17_16 : decode (sp_b 17) 16 = .ok (.iconst 1, 1) := by decide +kernel
theorem si_17_17 : decode (sp_b 17) 17 = .ok (.goto 4, 3) := by decide +kernel
theorem si_17_20 : decode (sp_b 17) 20 = .ok (.iconst 0, 1) := by decide +kernel
theorem si_17_21 : decode (sp_b 17) 21 = .ok (.ireturn, 1) := by decide +kernel
theorem si_18_0 : decode (sp_b 18) 0 = .ok (.aload_n 0, 1) := by decide +kernel
theorem si_18_1 : decode (sp_b 18) 1 = .ok (.getfield 9, 3) := by decide +kernel
theorem sf_18_9 : sp_okF 18 9 5 0 98 = true := by decide +kernel
theorem si_18_4 : decode (sp_b 18) 4 = .ok (.iload_n 1, 1) := by decide +kernel
theorem si_18_5 : decode (sp_b 18) 5 = .ok (.aaload, 1) := by decide +kernel
theorem si_18_6 : decode (sp_b 18) 6 = .ok (.iload_n 2, 1) := by decide +kernel
theorem si_18_7 : decode (sp_b 18) 7 = .ok (.iaload, 1) := by decide +kernel
theorem si_18_8 : decode (sp_b 18) 8 = .ok (.ireturn, 1) := by decide +kernel
theorem si_19_0 : decode (sp_b 19) 0 = .ok (.aload_n 0, 1) := by decide +kernel
theorem si_19_1 : decode (sp_b 19) 1 = .ok (.getfield 9, 3) := by decide +kernel
theorem sf_19_9 : sp_okF 19 9 5 0 98 = true := by decide +kernel
theorem si_19_4 : decode (sp_b 19) 4 = .ok (.iload_n 1, 1) := by decide +kernel
theorem si_19_5 : decode (sp_b 19) 5 = .ok (.aaload, 1) := by decide +kernel
theorem si_19_6 : decode (sp_b 19) 6 = .ok (.iload_n 2, 1) := by decide +kernel
theorem si_19_7 : decode (sp_b 19) 7 = .ok (.iload_n 3, 1) := by decide +kernel
theorem si_19_8 : decode (sp_b 19) 8 = .ok (.iastore, 1) := by decide +kernel
theorem si_19_9 : decode (sp_b 19) 9 = .ok (.return_, 1) := by decide +kernel
theorem si_20_0 : decode (sp_b 20) 0 = .ok (.aload_n 0, 1) := by decide +kernel
theorem si_20_1 : decode (sp_b 20) 1 = .ok (.getfield 14, 3) := by decide +kernel
theorem sf_20_14 : sp_okF 20 14 7 0 262 = true := by decide +kernel
theorem si_20_4 : decode (sp_b 20) 4 = .ok (.iload_n 1, 1) := by decide +kernel
theorem si_20_5 : decode (sp_b 20) 5 = .ok (.invokevirtual 72, 3) := by decide +kernel
theorem sk_20_72 : sp_okL 20 72 11 312 = true := by decide +kernel
theorem si_20_8 : decode (sp_b 20) 8 = .ok (.ifCond .ne 5, 3) := by decide +kernel
theorem si_20_11 : decode (sp_b 20) 11 = .ok (.iconst (-1), 1) := by decide +kernel
theorem si_20_12 : decode (sp_b 20) 12 = .ok (.ireturn, 1) := by decide +kernel
theorem si_20_13 : decode (sp_b 20) 13 = .ok (.aload_n 0, 1) := by decide +kernel
theorem si_20_14 : decode (sp_b 20) 14 = .ok (.getfield 14, 3) := by decide +kernel
theorem si_20_17 : decode (sp_b 20) 17 = .ok (.iload_n 1, 1) := by decide +kernel
theorem si_20_18 : decode (sp_b 20) 18 = .ok (.iload_n 2, 1) := by decide +kernel
theorem si_20_19 : decode (sp_b 20) 19 = .ok (.invokestatic 84, 3) := by decide +kernel
theorem sk_20_84 : sp_okL 20 84 15 328 = true := by decide +kernel
theorem si_20_22 : decode (sp_b 20) 22 = .ok (.istore_n 3, 1) := by decide +kernel
theorem si_20_23 : decode (sp_b 20) 23 = .ok (.iload_n 3, 1) := by decide +kernel
theorem si_20_24 : decode (sp_b 20) 24 = .ok (.ifCond .eq 9, 3) := by decide +kernel
theorem si_20_27 : decode (sp_b 20) 27 = .ok (.aload_n 0, 1) := by decide +kernel
theorem si_20_28 : decode (sp_b 20) 28 = .ok (.iload_n 3, 1) := by decide +kernel
theorem si_20_29 : decode (sp_b 20) 29 = .ok (.invokevirtual 76, 3) := by decide +kernel
theorem sk_20_76 : sp_okL 20 76 12 316 = true := by decide +kernel
theorem si_20_32 : decode (sp_b 20) 32 = .ok (.ireturn, 1) := by decide +kernel
theorem si_20_33 : decode (sp_b 20) 33 = .ok (.aload_n 0, 1) := by decide +kernel
theorem si_20_34 : decode (sp_b 20) 34 = .ok (.aload_n 0, 1) := by decide +kernel
theorem si_20_35 : decode (sp_b 20) 35 = .ok (.getfield 14, 3) := by decide +kernel
theorem si_20_38 : decode (sp_b 20) 38 = .ok (.iload_n 1, 1) := by decide +kernel
theorem si_20_39 : decode (sp_b 20) 39 = .ok (.iload_n 2, 1) := by decide +kernel
theorem si_20_40 : decode (sp_b 20) 40 = .ok (.invokevirtual 88, 3) := by decide +kernel
theorem sk_20_88 : sp_okL 20 88 18 339 = true := by decide +kernel
theorem si_20_43 : decode (sp_b 20) 43 = .ok (.putfield 92, 3) := by decide +kernel
theorem sf_20_92 : sp_okF 20 92 7 12 274 = true := by decide +kernel
theorem si_20_46 : decode (sp_b 20) 46 = .ok (.iconst 1, 1) := by decide +kernel
theorem si_20_47 : decode (sp_b 20) 47 = .ok (.ireturn, 1) := by decide +kernel
theorem si_21_0 : decode (sp_b 21) 0 = .ok (.aload_n 0, 1) := by decide +kernel
theorem si_21_1 : decode (sp_b 21) 1 = .ok (.getfield 14, 3) := by decide +kernel
theorem sf_21_14 : sp_okF 21 14 7 0 262 = true := by decide +kernel
theorem si_21_4 : decode (sp_b 21) 4 = .ok (.iload_n 1, 1) := by decide +kernel
theorem si_21_5 : decode (sp_b 21) 5 = .ok (.invokevirtual 72, 3) := by decide +kernel
theorem sk_21_72 : sp_okL 21 72 11 312 = true := by decide +kernel
theorem si_21_8 : decode (sp_b 21) 8 = .ok (.ifCond .ne 5, 3) := by decide +kernel
theorem si_21_11 : decode (sp_b 21) 11 = .ok (.iconst (-1), 1) := by decide +kernel
theorem si_21_12 : decode (sp_b 21) 12 = .ok (.ireturn, 1) := by decide +kernel
theorem si_21_13 : decode (sp_b 21) 13 = .ok (.aload_n 0, 1) := by decide +kernel
theorem si_21_14 : decode (sp_b 21) 14 = .ok (.getfield 14, 3) := by decide +kernel
theorem si_21_17 : decode (sp_b 21) 17 = .ok (.iload_n 1, 1) := by decide +kernel
theorem si_21_18 : decode (sp_b 21) 18 = .ok (.invokevirtual 99, 3) := by decide +kernel
theorem sk_21_99 : sp_okL 21 99 16 331 = true := by decide +kernel
theorem si_21_21 : decode (sp_b 21) 21 = .ok (.ifCond .ne 9, 3) := by decide +kernel
theorem si_21_24 : decode (sp_b 21) 24 = .ok (.aload_n 0, 1) := by decide +kernel
theorem si_21_25 : decode (sp_b 21) 25 = .ok (.iconst 1, 1) := by decide +kernel
theorem si_21_26 : decode (sp_b 21) 26 = .ok (.invokevirtual 76, 3) := by decide +kernel
theorem sk_21_76 : sp_okL 21 76 12 316 = true := by decide +kernel
theorem si_21_29 : decode (sp_b 21) 29 = .ok (.ireturn, 1) := by decide +kernel
theorem si_21_30 : decode (sp_b 21) 30 = .ok (.aload_n 0, 1) := by decide +kernel
theorem si_21_31 : decode (sp_b 21) 31 = .ok (.getfield 14, 3) := by decide +kernel
theorem si_21_34 : decode (sp_b 21) 34 = .ok (.iload_n 1, 1) := by decide +kernel
theorem si_21_35 : decode (sp_b 21) 35 = .ok (.invokevirtual 102, 3) := by decide +kernel
theorem sk_21_102 : sp_okL 21 102 22 355 = true := by decide +kernel
theorem si_21_38 : decode (sp_b 21) 38 = .ok (.iconst 1, 1) := by decide +kernel
theorem si_21_39 : decode (sp_b 21) 39 = .ok (.ireturn, 1) := by decide +kernel
theorem si_22_0 : decode (sp_b 22) 0 = .ok (.aload_n 0, 1) := by decide +kernel
theorem si_22_1 : decode (sp_b 22) 1 = .ok (.getfield 14, 3) := by decide +kernel
theorem sf_22_14 : sp_okF 22 14 5 1 99 = true := by decide +kernel
theorem si_22_4 : decode (sp_b 22) 4 = .ok (.iload_n 1, 1) := by decide +kernel
theorem si_22_5 : decode (sp_b 22) 5 = .ok (.iconst (-1), 1) := by decide +kernel
theorem si_22_6 : decode (sp_b 22) 6 = .ok (.iastore, 1) := by decide +kernel
theorem si_22_7 : decode (sp_b 22) 7 = .ok (.return_, 1) := by decide +kernel
theorem si_23_0 : decode (sp_b 23) 0 = .ok (.aload_n 0, 1) := by decide +kernel
theorem si_23_1 : decode (sp_b 23) 1 = .ok (.getfield 14, 3) := by decide +kernel
theorem sf_23_14 : sp_okF 23 14 7 0 262 = true := by decide +kernel
theorem si_23_4 : decode (sp_b 23) 4 = .ok (.iload_n 1, 1) := by decide +kernel
theorem si_23_5 : decode (sp_b 23) 5 = .ok (.invokevirtual 72, 3) := by decide +kernel
theorem sk_23_72 : sp_okL 23 72 11 312 = true := by decide +kernel
theorem si_23_8 : decode (sp_b 23) 8 = .ok (.ifCond .eq 14, 3) := by decide +kernel
theorem si_23_11 : decode (sp_b 23) 11 = .ok (.aload_n 0, 1) := by decide +kernel
theorem si_23_12 : decode (sp_b 23) 12 = .ok (.getfield 14, 3) := by decide +kernel
theorem si_23_15 : decode (sp_b 23) 15 = .ok (.iload_n 3, 1) := by decide +kernel
theorem si_23_16 : decode (sp_b 23) 16 = .ok (.invokevirtual 72, 3) := by decide +kernel
theorem si_23_19 : decode (sp_b 23) 19 = .ok (.ifCond .ne 5, 3) := by decide +kernel
theorem si_23_22 : decode (sp_b 23) 22 = .ok (.iconst (-1), 1) := by decide +kernel
theorem si_23_23 : decode (sp_b 23) 23 = .ok (.ireturn, 1) := by decide +kernel
theorem si_23_24 : decode (sp_b 23) 24 = .ok (.iload 5, 2) := by decide +kernel
theorem si_23_26 : decode (sp_b 23) 26 = .ok (.ifCond .ge 9, 3) := by decide +kernel
theorem si_23_29 : decode (sp_b 23) 29 = .ok (.aload_n 0, 1) := by decide +kernel
theorem si_23_30 : decode (sp_b 23) 30 = .ok (.iconst 5, 1) := by decide +kernel
theorem si_23_31 : decode (sp_b 23) 31 = .ok (.invokevirtual 76, 3) := by decide +kernel
theorem sk_23_76 : sp_okL 23 76 12 316 = true := by decide +kernel
theorem si_23_34 : decode (sp_b 23) 34 = .ok (.ireturn, 1) := by decide +kernel
theorem si_23_35 : decode (sp_b 23) 35 = .ok (.aload_n 0, 1) := by decide +kernel
theorem si_23_36 : decode (sp_b 23) 36 = .ok (.getfield 14, 3) := by decide +kernel
theorem si_23_39 : decode (sp_b 23) 39 = .ok (.iload_n 1, 1) := by decide +kernel
theorem si_23_40 : decode (sp_b 23) 40 = .ok (.invokevirtual 99, 3) := by decide +kernel
theorem sk_23_99 : sp_okL 23 99 16 331 = true := by decide +kernel
theorem si_23_43 : decode (sp_b 23) 43 = .ok (.ifCond .eq 14, 3) := by decide +kernel
theorem si_23_46 : decode (sp_b 23) 46 = .ok (.aload_n 0, 1) := by decide +kernel
theorem si_23_47 : decode (sp_b 23) 47 = .ok (.getfield 14, 3) := by decide +kernel
theorem si_23_50 : decode (sp_b 23) 50 = .ok (.iload_n 3, 1) := by decide +kernel
theorem si_23_51 : decode (sp_b 23) 51 = .ok (.invokevirtual 99, 3) := by decide +kernel
theorem si_23_54 : decode (sp_b 23) 54 = .ok (.ifCond .ne 9, 3) := by decide +kernel
theorem si_23_57 : decode (sp_b 23) 57 = .ok (.aload_n 0, 1) := by decide +kernel
theorem si_23_58 : decode (sp_b 23) 58 = .ok (.iconst 1, 1) := by decide +kernel
theorem si_23_59 : decode (sp_b 23) 59 = .ok (.invokevirtual 76, 3) := by decide +kernel
theorem si_23_62 : decode (sp_b 23) 62 = .ok (.ireturn, 1) := by decide +kernel
theorem si_23_63 : decode (sp_b 23) 63 = .ok (.aload_n 0, 1) := by decide +kernel
theorem si_23_64 : decode (sp_b 23) 64 = .ok (.getfield 14, 3) := by decide +kernel
theorem si_23_67 : decode (sp_b 23) 67 = .ok (.iload_n 1, 1) := by decide +kernel
theorem si_23_68 : decode (sp_b 23) 68 = .ok (.iload_n 2, 1) := by decide +kernel
theorem si_23_69 : decode (sp_b 23) 69 = .ok (.iload 5, 2) := by decide +kernel
theorem si_23_71 : decode (sp_b 23) 71 = .ok (.invokevirtual 106, 3) := by decide +kernel
theorem sk_23_106 : sp_okL 23 106 17 335 = true := by decide +kernel
theorem si_23_74 : decode (sp_b 23) 74 = .ok (.ifCond .eq 18, 3) := by decide +kernel
theorem si_23_77 : decode (sp_b 23) 77 = .ok (.aload_n 0, 1) := by decide +kernel
theorem si_23_78 : decode (sp_b 23) 78 = .ok (.getfield 14, 3) := by decide +kernel
theorem si_23_81 : decode (sp_b 23) 81 = .ok (.iload_n 3, 1) := by decide +kernel
theorem si_23_82 : decode (sp_b 23) 82 = .ok (.iload 4, 2) := by decide +kernel
theorem si_23_84 : decode (sp_b 23) 84 = .ok (.iload 5, 2) := by decide +kernel
theorem si_23_86 : decode (sp_b 23) 86 = .ok (.invokevirtual 106, 3) := by decide +kernel
theorem si_23_89 : decode (sp_b 23) 89 = .ok (.ifCond .ne 9, 3) := by decide +kernel
theorem si_23_92 : decode (sp_b 23) 92 = .ok (.aload_n 0, 1) := by decide +kernel
theorem si_23_93 : decode (sp_b 23) 93 = .ok (.iconst 2, 1) := by decide +kernel
theorem si_23_94 : decode (sp_b 23) 94 = .ok (.invokevirtual 76, 3) := by decide +kernel
theorem si_23_97 : decode (sp_b 23) 97 = .ok (.ireturn, 1) := by decide +kernel
theorem si_23_98 : decode (sp_b 23) 98 = .ok (.aload_n 0, 1) := by decide +kernel
theorem si_23_99 : decode (sp_b 23) 99 = .ok (.getfield 14, 3) := by decide +kernel
theorem si_23_102 : decode (sp_b 23) 102 = .ok (.iload_n 1, 1) := by decide +kernel
theorem si_23_103 : decode (sp_b 23) 103 = .ok (.iload_n 2, 1) := by decide +kernel
theorem si_23_104 : decode (sp_b 23) 104 = .ok (.iload_n 3, 1) := by decide +kernel
theorem si_23_105 : decode (sp_b 23) 105 = .ok (.iload 4, 2) := by decide +kernel
theorem si_23_107 : decode (sp_b 23) 107 = .ok (.iload 5, 2) := by decide +kernel
theorem si_23_109 : decode (sp_b 23) 109 = .ok (.invokevirtual 110, 3) := by decide +kernel
theorem sk_23_110 : sp_okL 23 110 24 363 = true := by decide +kernel
theorem si_23_112 : decode (sp_b 23) 112 = .ok (.iconst 1, 1) := by decide +kernel
theorem si_23_113 : decode (sp_b 23) 113 = .ok (.ireturn, 1) := by decide +kernel
theorem si_24_0 : decode (sp_b 24) 0 = .ok (.aload_n 0, 1) := by decide +kernel
theorem si_24_1 : decode (sp_b 24) 1 = .ok (.getfield 9, 3) := by decide +kernel
theorem sf_24_9 : sp_okF 24 9 5 0 98 = true := by decide +kernel
theorem si_24_4 : decode (sp_b 24) 4 = .ok (.iload_n 1, 1) := by decide +kernel
theorem si_24_5 : decode (sp_b 24) 5 = .ok (.aaload, 1) := by decide +kernel
theorem si_24_6 : decode (sp_b 24) 6 = .ok (.iload_n 2, 1) := by decide +kernel
theorem si_24_7 : decode (sp_b 24) 7 = .ok (.aload_n 0, 1) := by decide +kernel
theorem si_24_8 : decode (sp_b 24) 8 = .ok (.getfield 9, 3) := by decide +kernel
theorem si_24_11 : decode (sp_b 24) 11 = .ok (.iload_n 3, 1) := by decide +kernel
theorem si_24_12 : decode (sp_b 24) 12 = .ok (.aaload, 1) := by decide +kernel
theorem si_24_13 : decode (sp_b 24) 13 = .ok (.iload 4, 2) := by decide +kernel
theorem si_24_15 : decode (sp_b 24) 15 = .ok (.iload 5, 2) := by decide +kernel
theorem si_24_17 : decode (sp_b 24) 17 = .ok (.invokestatic 24, 3) := by decide +kernel
theorem sk_24_24 : sp_has 367 (.methodLink (sp_y 24).cls 24 arraycopyName) = true := by decide +kernel
theorem si_24_20 : decode (sp_b 24) 20 = .ok (.return_, 1) := by decide +kernel
theorem si_25_0 : decode (sp_b 25) 0 = .ok (.aload_n 0, 1) := by decide +kernel
theorem si_25_1 : decode (sp_b 25) 1 = .ok (.getfield 14, 3) := by decide +kernel
theorem sf_25_14 : sp_okF 25 14 7 0 262 = true := by decide +kernel
theorem si_25_4 : decode (sp_b 25) 4 = .ok (.iload_n 1, 1) := by decide +kernel
theorem si_25_5 : decode (sp_b 25) 5 = .ok (.invokevirtual 72, 3) := by decide +kernel
theorem sk_25_72 : sp_okL 25 72 11 312 = true := by decide +kernel
theorem si_25_8 : decode (sp_b 25) 8 = .ok (.ifCond .ne 5, 3) := by decide +kernel
theorem si_25_11 : decode (sp_b 25) 11 = .ok (.iconst (-1), 1) := by decide +kernel
theorem si_25_12 : decode (sp_b 25) 12 = .ok (.ireturn, 1) := by decide +kernel
theorem si_25_13 : decode (sp_b 25) 13 = .ok (.aload_n 0, 1) := by decide +kernel
theorem si_25_14 : decode (sp_b 25) 14 = .ok (.getfield 14, 3) := by decide +kernel
theorem si_25_17 : decode (sp_b 25) 17 = .ok (.iload_n 1, 1) := by decide +kernel
theorem si_25_18 : decode (sp_b 25) 18 = .ok (.invokevirtual 99, 3) := by decide +kernel
theorem sk_25_99 : sp_okL 25 99 16 331 = true := by decide +kernel
theorem si_25_21 : decode (sp_b 25) 21 = .ok (.ifCond .ne 9, 3) := by decide +kernel
theorem si_25_24 : decode (sp_b 25) 24 = .ok (.aload_n 0, 1) := by decide +kernel
theorem si_25_25 : decode (sp_b 25) 25 = .ok (.iconst 1, 1) := by decide +kernel
theorem si_25_26 : decode (sp_b 25) 26 = .ok (.invokevirtual 76, 3) := by decide +kernel
theorem sk_25_76 : sp_okL 25 76 12 316 = true := by decide +kernel
theorem si_25_29 : decode (sp_b 25) 29 = .ok (.ireturn, 1) := by decide +kernel
theorem si_25_30 : decode (sp_b 25) 30 = .ok (.aload_n 0, 1) := by decide +kernel
theorem si_25_31 : decode (sp_b 25) 31 = .ok (.getfield 14, 3) := by decide +kernel
theorem si_25_34 : decode (sp_b 25) 34 = .ok (.iload_n 1, 1) := by decide +kernel
theorem si_25_35 : decode (sp_b 25) 35 = .ok (.invokevirtual 114, 3) := by decide +kernel
theorem sk_25_114 : sp_okL 25 114 26 374 = true := by decide +kernel
theorem si_25_38 : decode (sp_b 25) 38 = .ok (.istore_n 2, 1) := by decide +kernel
theorem si_25_39 : decode (sp_b 25) 39 = .ok (.iload_n 2, 1) := by decide +kernel
theorem si_25_40 : decode (sp_b 25) 40 = .ok (.ifCond .gt 9, 3) := by decide +kernel
theorem si_25_43 : decode (sp_b 25) 43 = .ok (.aload_n 0, 1) := by decide +kernel
theorem si_25_44 : decode (sp_b 25) 44 = .ok (.iconst 4, 1) := by decide +kernel
theorem si_25_45 : decode (sp_b 25) 45 = .ok (.invokevirtual 76, 3) := by decide +kernel
theorem si_25_48 : decode (sp_b 25) 48 = .ok (.ireturn, 1) := by decide +kernel
theorem si_25_49 : decode (sp_b 25) 49 = .ok (.lconst 0, 1) := by decide +kernel
theorem si_25_50 : decode (sp_b 25) 50 = .ok (.lstore_n 3, 1) := by decide +kernel
theorem si_25_51 : decode (sp_b 25) 51 = .ok (.iconst 0, 1) := by decide +kernel
theorem si_25_52 : decode (sp_b 25) 52 = .ok (.istore 5, 2) := by decide +kernel
theorem si_25_54 : decode (sp_b 25) 54 = .ok (.iload 5, 2) := by decide +kernel
theorem si_25_56 : decode (sp_b 25) 56 = .ok (.iload_n 2, 1) := by decide +kernel
theorem si_25_57 : decode (sp_b 25) 57 = .ok (.if_icmp .ge 23, 3) := by decide +kernel
theorem si_25_60 : decode (sp_b 25) 60 = .ok (.lload_n 3, 1) := by decide +kernel
theorem si_25_61 : decode (sp_b 25) 61 = .ok (.aload_n 0, 1) := by decide +kernel
theorem si_25_62 : decode (sp_b 25) 62 = .ok (.getfield 14, 3) := by decide +kernel
theorem si_25_65 : decode (sp_b 25) 65 = .ok (.iload_n 1, 1) := by decide +kernel
theorem si_25_66 : decode (sp_b 25) 66 = .ok (.iload 5, 2) := by decide +kernel
theorem si_25_68 : decode (sp_b 25) 68 = .ok (.invokevirtual 88, 3) := by decide +kernel
theorem sk_25_88 : sp_okL 25 88 18 339 = true := by decide +kernel
theorem si_25_71 : decode (sp_b 25) 71 = .ok (.i2l, 1) := by decide +kernel
theorem si_25_72 : decode (sp_b 25) 72 = .ok (.ladd, 1) := by decide +kernel
theorem si_25_73 : decode (sp_b 25) 73 = .ok (.lstore_n 3, 1) := by decide +kernel
theorem si_25_74 : decode (sp_b 25) 74 = .ok (.iinc 5 1, 3) := by decide +kernel
theorem si_25_77 : decode (sp_b 25) 77 = .ok (.goto (-23), 3) := by decide +kernel
theorem si_25_80 : decode (sp_b 25) 80 = .ok (.aload_n 0, 1) := by decide +kernel
theorem si_25_81 : decode (sp_b 25) 81 = .ok (.lload_n 3, 1) := by decide +kernel
theorem si_25_82 : decode (sp_b 25) 82 = .ok (.iload_n 2, 1) := by decide +kernel
theorem si_25_83 : decode (sp_b 25) 83 = .ok (.i2l, 1) := by decide +kernel
theorem si_25_84 : decode (sp_b 25) 84 = .ok (.ldiv, 1) := by decide +kernel
theorem si_25_85 : decode (sp_b 25) 85 = .ok (.l2i, 1) := by decide +kernel
theorem si_25_86 : decode (sp_b 25) 86 = .ok (.putfield 92, 3) := by decide +kernel
theorem sf_25_92 : sp_okF 25 92 7 12 274 = true := by decide +kernel
theorem si_25_89 : decode (sp_b 25) 89 = .ok (.iconst 1, 1) := by decide +kernel
theorem si_25_90 : decode (sp_b 25) 90 = .ok (.ireturn, 1) := by decide +kernel
theorem si_26_0 : decode (sp_b 26) 0 = .ok (.aload_n 0, 1) := by decide +kernel
theorem si_26_1 : decode (sp_b 26) 1 = .ok (.getfield 14, 3) := by decide +kernel
theorem sf_26_14 : sp_okF 26 14 5 1 99 = true := by decide +kernel
theorem si_26_4 : decode (sp_b 26) 4 = .ok (.iload_n 1, 1) := by decide +kernel
theorem si_26_5 : decode (sp_b 26) 5 = .ok (.iaload, 1) := by decide +kernel
theorem si_26_6 : decode (sp_b 26) 6 = .ok (.ireturn, 1) := by decide +kernel
theorem si_27_0 : decode (sp_b 27) 0 = .ok (.aload_n 0, 1) := by decide +kernel
theorem si_27_1 : decode (sp_b 27) 1 = .ok (.getfield 18, 3) := by decide +kernel
theorem sf_27_18 : sp_okF 27 18 7 1 263 = true := by decide +kernel
theorem si_27_4 : decode (sp_b 27) 4 = .ok (.iload_n 1, 1) := by decide +kernel
theorem si_27_5 : decode (sp_b 27) 5 = .ok (.invokevirtual 72, 3) := by decide +kernel
theorem sk_27_72 : sp_okL 27 72 11 312 = true := by decide +kernel
theorem si_27_8 : decode (sp_b 27) 8 = .ok (.ifCond .eq 9, 3) := by decide +kernel
theorem si_27_11 : decode (sp_b 27) 11 = .ok (.iload_n 2, 1) := by decide +kernel
theorem si_27_12 : decode (sp_b 27) 12 = .ok (.bipush 60, 2) := by decide +kernel
theorem si_27_14 : decode (sp_b 27) 14 = .ok (.if_icmp .le 5, 3) := by decide +kernel
theorem si_27_17 : decode (sp_b 27) 17 = .ok (.iconst (-1), 1) := by decide +kernel
theorem si_27_18 : decode (sp_b 27) 18 = .ok (.ireturn, 1) := by decide +kernel
theorem si_27_19 : decode (sp_b 27) 19 = .ok (.iload_n 2, 1) := by decide +kernel
theorem si_27_20 : decode (sp_b 27) 20 = .ok (.ifCond .ge 9, 3) := by decide +kernel
theorem si_27_23 : decode (sp_b 27) 23 = .ok (.aload_n 0, 1) := by decide +kernel
theorem si_27_24 : decode (sp_b 27) 24 = .ok (.iconst 5, 1) := by decide +kernel
theorem si_27_25 : decode (sp_b 27) 25 = .ok (.invokevirtual 76, 3) := by decide +kernel
theorem sk_27_76 : sp_okL 27 76 12 316 = true := by decide +kernel
theorem si_27_28 : decode (sp_b 27) 28 = .ok (.ireturn, 1) := by decide +kernel
theorem si_27_29 : decode (sp_b 27) 29 = .ok (.aload_n 0, 1) := by decide +kernel
theorem si_27_30 : decode (sp_b 27) 30 = .ok (.getfield 18, 3) := by decide +kernel
theorem si_27_33 : decode (sp_b 27) 33 = .ok (.iload_n 1, 1) := by decide +kernel
theorem si_27_34 : decode (sp_b 27) 34 = .ok (.iload_n 2, 1) := by decide +kernel
theorem si_27_35 : decode (sp_b 27) 35 = .ok (.bipush 32, 2) := by decide +kernel
theorem si_27_37 : decode (sp_b 27) 37 = .ok (.invokevirtual 80, 3) := by decide +kernel
theorem sk_27_80 : sp_okL 27 80 13 320 = true := by decide +kernel
theorem si_27_40 : decode (sp_b 27) 40 = .ok (.iload_n 2, 1) := by decide +kernel
theorem si_27_41 : decode (sp_b 27) 41 = .ok (.ireturn, 1) := by decide +kernel
theorem si_28_0 : decode (sp_b 28) 0 = .ok (.aload_n 0, 1) := by decide +kernel
theorem si_28_1 : decode (sp_b 28) 1 = .ok (.getfield 18, 3) := by decide +kernel
theorem sf_28_18 : sp_okF 28 18 7 1 263 = true := by decide +kernel
theorem si_28_4 : decode (sp_b 28) 4 = .ok (.iload_n 1, 1) := by decide +kernel
theorem si_28_5 : decode (sp_b 28) 5 = .ok (.invokevirtual 72, 3) := by decide +kernel
theorem sk_28_72 : sp_okL 28 72 11 312 = true := by decide +kernel
theorem si_28_8 : decode (sp_b 28) 8 = .ok (.ifCond .ne 5, 3) := by decide +kernel
theorem si_28_11 : decode (sp_b 28) 11 = .ok (.iconst (-1), 1) := by decide +kernel
theorem si_28_12 : decode (sp_b 28) 12 = .ok (.ireturn, 1) := by decide +kernel
theorem si_28_13 : decode (sp_b 28) 13 = .ok (.aload_n 0, 1) := by decide +kernel
theorem si_28_14 : decode (sp_b 28) 14 = .ok (.getfield 18, 3) := by decide +kernel
theorem si_28_17 : decode (sp_b 28) 17 = .ok (.iload_n 1, 1) := by decide +kernel
theorem si_28_18 : decode (sp_b 28) 18 = .ok (.iload_n 2, 1) := by decide +kernel
theorem si_28_19 : decode (sp_b 28) 19 = .ok (.invokestatic 84, 3) := by decide +kernel
theorem sk_28_84 : sp_okL 28 84 15 328 = true := by decide +kernel
theorem si_28_22 : decode (sp_b 28) 22 = .ok (.istore 4, 2) := by decide +kernel
theorem si_28_24 : decode (sp_b 28) 24 = .ok (.iload 4, 2) := by decide +kernel
theorem si_28_26 : decode (sp_b 28) 26 = .ok (.ifCond .eq 10, 3) := by decide +kernel
theorem si_28_29 : decode (sp_b 28) 29 = .ok (.aload_n 0, 1) := by decide +kernel
theorem si_28_30 : decode (sp_b 28) 30 = .ok (.iload 4, 2) := by decide +kernel
theorem si_28_32 : decode (sp_b 28) 32 = .ok (.invokevirtual 76, 3) := by decide +kernel
theorem sk_28_76 : sp_okL 28 76 12 316 = true := by decide +kernel
theorem si_28_35 : decode (sp_b 28) 35 = .ok (.ireturn, 1) := by decide +kernel
theorem si_28_36 : decode (sp_b 28) 36 = .ok (.aload_n 0, 1) := by decide +kernel
theorem si_28_37 : decode (sp_b 28) 37 = .ok (.getfield 18, 3) := by decide +kernel
theorem si_28_40 : decode (sp_b 28) 40 = .ok (.iload_n 1, 1) := by decide +kernel
theorem si_28_41 : decode (sp_b 28) 41 = .ok (.iload_n 2, 1) := by decide +kernel
theorem si_28_42 : decode (sp_b 28) 42 = .ok (.invokevirtual 88, 3) := by decide +kernel
theorem sk_28_88 : sp_okL 28 88 18 339 = true := by decide +kernel
theorem si_28_45 : decode (sp_b 28) 45 = .ok (.istore 5, 2) := by decide +kernel
theorem si_28_47 : decode (sp_b 28) 47 = .ok (.aload_n 0, 1) := by decide +kernel
theorem si_28_48 : decode (sp_b 28) 48 = .ok (.getfield 18, 3) := by decide +kernel
theorem si_28_51 : decode (sp_b 28) 51 = .ok (.iload_n 1, 1) := by decide +kernel
theorem si_28_52 : decode (sp_b 28) 52 = .ok (.iload_n 2, 1) := by decide +kernel
theorem si_28_53 : decode (sp_b 28) 53 = .ok (.iload_n 3, 1) := by decide +kernel
theorem si_28_54 : decode (sp_b 28) 54 = .ok (.i2b, 1) := by decide +kernel
theorem si_28_55 : decode (sp_b 28) 55 = .ok (.invokevirtual 96, 3) := by decide +kernel
theorem sk_28_96 : sp_okL 28 96 19 343 = true := by decide +kernel
theorem si_28_58 : decode (sp_b 28) 58 = .ok (.iload 5, 2) := by decide +kernel
theorem si_28_60 : decode (sp_b 28) 60 = .ok (.sipush 1000, 3) := by decide +kernel
theorem si_28_63 : decode (sp_b 28) 63 = .ok (.iadd, 1) := by decide +kernel
theorem si_28_64 : decode (sp_b 28) 64 = .ok (.ireturn, 1) := by decide +kernel
theorem si_29_0 : decode (sp_b 29) 0 = .ok (.aload_n 0, 1) := by decide +kernel
theorem si_29_1 : decode (sp_b 29) 1 = .ok (.getfield 18, 3) := by decide +kernel
theorem sf_29_18 : sp_okF 29 18 7 1 263 = true := by decide +kernel
theorem si_29_4 : decode (sp_b 29) 4 = .ok (.iload_n 1, 1) := by decide +kernel
theorem si_29_5 : decode (sp_b 29) 5 = .ok (.invokevirtual 72, 3) := by decide +kernel
theorem sk_29_72 : sp_okL 29 72 11 312 = true := by decide +kernel
theorem si_29_8 : decode (sp_b 29) 8 = .ok (.ifCond .ne 5, 3) := by decide +kernel
theorem si_29_11 : decode (sp_b 29) 11 = .ok (.iconst (-1), 1) := by decide +kernel
theorem si_29_12 : decode (sp_b 29) 12 = .ok (.ireturn, 1) := by decide +kernel
theorem si_29_13 : decode (sp_b 29) 13 = .ok (.aload_n 0, 1) := by decide +kernel
theorem si_29_14 : decode (sp_b 29) 14 = .ok (.getfield 18, 3) := by decide +kernel
theorem si_29_17 : decode (sp_b 29) 17 = .ok (.iload_n 1, 1) := by decide +kernel
theorem si_29_18 : decode (sp_b 29) 18 = .ok (.invokevirtual 99, 3) := by decide +kernel
theorem sk_29_99 : sp_okL 29 99 16 331 = true := by decide +kernel
theorem si_29_21 : decode (sp_b 29) 21 = .ok (.ifCond .ne 9, 3) := by decide +kernel
theorem si_29_24 : decode (sp_b 29) 24 = .ok (.aload_n 0, 1) := by decide +kernel
theorem si_29_25 : decode (sp_b 29) 25 = .ok (.iconst 1, 1) := by decide +kernel
theorem si_29_26 : decode (sp_b 29) 26 = .ok (.invokevirtual 76, 3) := by decide +kernel
theorem sk_29_76 : sp_okL 29 76 12 316 = true := by decide +kernel
theorem si_29_29 : decode (sp_b 29) 29 = .ok (.ireturn, 1) := by decide +kernel
theorem si_29_30 : decode (sp_b 29) 30 = .ok (.aload_n 0, 1) := by decide +kernel
theorem si_29_31 : decode (sp_b 29) 31 = .ok (.getfield 60, 3) := by decide +kernel
theorem sf_29_60 : sp_okF 29 60 7 9 271 = true := by decide +kernel
theorem si_29_34 : decode (sp_b 29) 34 = .ok (.aload_n 0, 1) := by decide +kernel
theorem si_29_35 : decode (sp_b 29) 35 = .ok (.getfield 18, 3) := by decide +kernel
theorem si_29_38 : decode (sp_b 29) 38 = .ok (.iload_n 1, 1) := by decide +kernel
theorem si_29_39 : decode (sp_b 29) 39 = .ok (.invokevirtual 117, 3) := by decide +kernel
theorem sk_29_117 : sp_okL 29 117 30 390 = true := by decide +kernel
theorem si_29_42 : decode (sp_b 29) 42 = .ok (.ireturn, 1) := by decide +kernel
theorem si_30_0 : decode (sp_b 30) 0 = .ok (.aload_n 1, 1) := by decide +kernel
theorem si_30_1 : decode (sp_b 30) 1 = .ok (.iload_n 2, 1) := by decide +kernel
theorem si_30_2 : decode (sp_b 30) 2 = .ok (.invokevirtual 29, 3) := by decide +kernel
theorem sk_30_29 : sp_okL 30 29 26 394 = true := by decide +kernel
theorem si_30_5 : decode (sp_b 30) 5 = .ok (.istore_n 3, 1) := by decide +kernel
theorem si_30_6 : decode (sp_b 30) 6 = .ok (.aload_n 0, 1) := by decide +kernel
theorem si_30_7 : decode (sp_b 30) 7 = .ok (.getfield 12, 3) := by decide +kernel
theorem sf_30_12 : sp_okF 30 12 1 0 249 = true := by decide +kernel
theorem si_30_10 : decode (sp_b 30) 10 = .ok (.iconst 0, 1) := by decide +kernel
theorem si_30_11 : decode (sp_b 30) 11 = .ok (.putfield 35, 3) := by decide +kernel
theorem sf_30_35 : sp_okF 30 35 0 3 128 = true := by decide +kernel
theorem si_30_14 : decode (sp_b 30) 14 = .ok (.aload_n 0, 1) := by decide +kernel
theorem si_30_15 : decode (sp_b 30) 15 = .ok (.getfield 21, 3) := by decide +kernel
theorem sf_30_21 : sp_okF 30 21 1 1 251 = true := by decide +kernel
theorem si_30_18 : decode (sp_b 30) 18 = .ok (.invokevirtual 38, 3) := by decide +kernel
theorem sk_30_38 : sp_okL 30 38 31 395 = true := by decide +kernel
theorem si_30_21 : decode (sp_b 30) 21 = .ok (.aload_n 1, 1) := by decide +kernel
theorem si_30_22 : decode (sp_b 30) 22 = .ok (.iload_n 2, 1) := by decide +kernel
theorem si_30_23 : decode (sp_b 30) 23 = .ok (.iconst 0, 1) := by decide +kernel
theorem si_30_24 : decode (sp_b 30) 24 = .ok (.invokestatic 41, 3) := by decide +kernel
theorem sk_30_41 : sp_okL 30 41 32 400 = true := by decide +kernel
theorem si_30_27 : decode (sp_b 30) 27 = .ok (.istore 4, 2) := by decide +kernel
theorem si_30_29 : decode (sp_b 30) 29 = .ok (.iload 4, 2) := by decide +kernel
theorem si_30_31 : decode (sp_b 30) 31 = .ok (.iload_n 3, 1) := by decide +kernel
theorem si_30_32 : decode (sp_b 30) 32 = .ok (.if_icmp .ge 18, 3) := by decide +kernel
theorem si_30_35 : decode (sp_b 30) 35 = .ok (.aload_n 1, 1) := by decide +kernel
theorem si_30_36 : decode (sp_b 30) 36 = .ok (.iload_n 2, 1) := by decide +kernel
theorem si_30_37 : decode (sp_b 30) 37 = .ok (.iload 4, 2) := by decide +kernel
theorem si_30_39 : decode (sp_b 30) 39 = .ok (.invokevirtual 45, 3) := by decide +kernel
theorem sk_30_45 : sp_okL 30 45 18 403 = true := by decide +kernel
theorem si_30_42 : decode (sp_b 30) 42 = .ok (.bipush 112, 2) := by decide +kernel
theorem si_30_44 : decode (sp_b 30) 44 = .ok (.if_icmp .eq 6, 3) := by decide +kernel
theorem si_30_47 : decode (sp_b 30) 47 = .ok (.iload 4, 2) := by decide +kernel
theorem si_30_49 : decode (sp_b 30) 49 = .ok (.ireturn, 1) := by decide +kernel
theorem si_30_50 : decode (sp_b 30) 50 = .ok (.iload 4, 2) := by decide +kernel
theorem si_30_52 : decode (sp_b 30) 52 = .ok (.iconst 1, 1) := by decide +kernel
theorem si_30_53 : decode (sp_b 30) 53 = .ok (.iadd, 1) := by decide +kernel
theorem si_30_54 : decode (sp_b 30) 54 = .ok (.iload_n 3, 1) := by decide +kernel
theorem si_30_55 : decode (sp_b 30) 55 = .ok (.if_icmp .lt 5, 3) := by decide +kernel
theorem si_30_58 : decode (sp_b 30) 58 = .ok (.iload_n 3, 1) := by decide +kernel
theorem si_30_59 : decode (sp_b 30) 59 = .ok (.ireturn, 1) := by decide +kernel
theorem si_30_60 : decode (sp_b 30) 60 = .ok (.aload_n 0, 1) := by decide +kernel
theorem si_30_61 : decode (sp_b 30) 61 = .ok (.aload_n 1, 1) := by decide +kernel
theorem si_30_62 : decode (sp_b 30) 62 = .ok (.iload_n 2, 1) := by decide +kernel
theorem si_30_63 : decode (sp_b 30) 63 = .ok (.iload 4, 2) := by decide +kernel
theorem si_30_65 : decode (sp_b 30) 65 = .ok (.iconst 1, 1) := by decide +kernel
theorem si_30_66 : decode (sp_b 30) 66 = .ok (.iadd, 1) := by decide +kernel
theorem si_30_67 : decode (sp_b 30) 67 = .ok (.invokestatic 49, 3) := by decide +kernel
theorem sk_30_49 : sp_okL 30 49 33 404 = true := by decide +kernel
theorem si_30_70 : decode (sp_b 30) 70 = .ok (.putfield 25, 3) := by decide +kernel
theorem sf_30_25 : sp_okF 30 25 1 2 253 = true := by decide +kernel
theorem si_30_73 : decode (sp_b 30) 73 = .ok (.aload_n 0, 1) := by decide +kernel
theorem si_30_74 : decode (sp_b 30) 74 = .ok (.getfield 25, 3) := by decide +kernel
theorem si_30_77 : decode (sp_b 30) 77 = .ok (.iconst 1, 1) := by decide +kernel
theorem si_30_78 : decode (sp_b 30) 78 = .ok (.if_icmp .ge 8, 3) := by decide +kernel
theorem si_30_81 : decode (sp_b 30) 81 = .ok (.iload 4, 2) := by decide +kernel
theorem si_30_83 : decode (sp_b 30) 83 = .ok (.iconst 1, 1) := by decide +kernel
theorem si_30_84 : decode (sp_b 30) 84 = .ok (.iadd, 1) := by decide +kernel
theorem si_30_85 : decode (sp_b 30) 85 = .ok (.ireturn, 1) := by decide +kernel
theorem si_30_86 : decode (sp_b 30) 86 = .ok (.aload_n 0, 1) := by decide +kernel
theorem si_30_87 : decode (sp_b 30) 87 = .ok (.aload_n 1, 1) := by decide +kernel
theorem si_30_88 : decode (sp_b 30) 88 = .ok (.iload_n 2, 1) := by decide +kernel
theorem si_30_89 : decode (sp_b 30) 89 = .ok (.iload 4, 2) := by decide +kernel
theorem si_30_91 : decode (sp_b 30) 91 = .ok (.iconst 2, 1) := by decide +kernel
theorem si_30_92 : decode (sp_b 30) 92 = .ok (.iadd, 1) := by decide +kernel
theorem si_30_93 : decode (sp_b 30) 93 = .ok (.invokevirtual 52, 3) := by decide +kernel
theorem sk_30_52 : sp_okL 30 52 34 407 = true := by decide +kernel
theorem si_30_96 : decode (sp_b 30) 96 = .ok (.ireturn, 1) := by decide +kernel
theorem si_31_0 : decode (sp_b 31) 0 = .ok (.aload_n 0, 1) := by decide +kernel
theorem si_31_1 : decode (sp_b 31) 1 = .ok (.getfield 9, 3) := by decide +kernel
theorem sf_31_9 : sp_okF 31 9 2 0 162 = true := by decide +kernel
theorem si_31_4 : decode (sp_b 31) 4 = .ok (.iconst 0, 1) := by decide +kernel
theorem si_31_5 : decode (sp_b 31) 5 = .ok (.invokestatic 15, 3) := by decide +kernel
theorem sk_31_15 : sp_okL 31 15 3 399 = true := by decide +kernel
theorem si_31_8 : decode (sp_b 31) 8 = .ok (.aload_n 0, 1) := by decide +kernel
theorem si_31_9 : decode (sp_b 31) 9 = .ok (.iconst 0, 1) := by decide +kernel
theorem si_31_10 : decode (sp_b 31) 10 = .ok (.putfield 21, 3) := by decide +kernel
theorem sf_31_21 : sp_okF 31 21 2 1 168 = true := by decide +kernel
theorem si_31_13 : decode (sp_b 31) 13 = .ok (.aload_n 0, 1) := by decide +kernel
theorem si_31_14 : decode (sp_b 31) 14 = .ok (.iconst 0, 1) := by decide +kernel
theorem si_31_15 : decode (sp_b 31) 15 = .ok (.putfield 25, 3) := by decide +kernel
theorem sf_31_25 : sp_okF 31 25 2 2 171 = true := by decide +kernel
theorem si_31_18 : decode (sp_b 31) 18 = .ok (.aload_n 0, 1) := by decide +kernel
theorem si_31_19 : decode (sp_b 31) 19 = .ok (.iconst 0, 1) := by decide +kernel
theorem si_31_20 : decode (sp_b 31) 20 = .ok (.putfield 28, 3) := by decide +kernel
theorem sf_31_28 : sp_okF 31 28 2 3 174 = true := by decide +kernel
theorem si_31_23 : decode (sp_b 31) 23 = .ok (.return_, 1) := by decide +kernel
theorem si_32_0 : decode (sp_b 32) 0 = .ok (.iload_n 2, 1) := by decide +kernel
theorem si_32_1 : decode (sp_b 32) 1 = .ok (.istore_n 3, 1) := by decide +kernel
theorem si_32_2 : decode (sp_b 32) 2 = .ok (.iload_n 3, 1) := by decide +kernel
theorem si_32_3 : decode (sp_b 32) 3 = .ok (.aload_n 0, 1) := by decide +kernel
theorem si_32_4 : decode (sp_b 32) 4 = .ok (.iload_n 1, 1) := by decide +kernel
theorem si_32_5 : decode (sp_b 32) 5 = .ok (.invokevirtual 29, 3) := by decide +kernel
theorem sk_32_29 : sp_okL 32 29 26 394 = true := by decide +kernel
theorem si_32_8 : decode (sp_b 32) 8 = .ok (.if_icmp .ge 20, 3) := by decide +kernel
theorem si_32_11 : decode (sp_b 32) 11 = .ok (.aload_n 0, 1) := by decide +kernel
theorem si_32_12 : decode (sp_b 32) 12 = .ok (.iload_n 1, 1) := by decide +kernel
theorem si_32_13 : decode (sp_b 32) 13 = .ok (.iload_n 3, 1) := by decide +kernel
theorem si_32_14 : decode (sp_b 32) 14 = .ok (.invokevirtual 45, 3) := by decide +kernel
theorem sk_32_45 : sp_okL 32 45 18 403 = true := by decide +kernel
theorem si_32_17 : decode (sp_b 32) 17 = .ok (.bipush 32, 2) := by decide +kernel
theorem si_32_19 : decode (sp_b 32) 19 = .ok (.if_icmp .ne 9, 3) := by decide +kernel
theorem si_32_22 : decode (sp_b 32) 22 = .ok (.iinc 3 1, 3) := by decide +kernel
theorem si_32_25 : decode (sp_b 32) 25 = .ok (.goto (-23), 3) := by decide +kernel
theorem si_32_28 : decode (sp_b 32) 28 = .ok (.iload_n 3, 1) := by decide +kernel
theorem si_32_29 : decode (sp_b 32) 29 = .ok (.ireturn, 1) := by decide +kernel
theorem si_33_0 : decode (sp_b 33) 0 = .ok (.aload_n 0, 1) := by decide +kernel
theorem si_33_1 : decode (sp_b 33) 1 = .ok (.iload_n 1, 1) := by decide +kernel
theorem si_33_2 : decode (sp_b 33) 2 = .ok (.iload_n 2, 1) := by decide +kernel
theorem si_33_3 : decode (sp_b 33) 3 = .ok (.invokevirtual 45, 3) := by decide +kernel
theorem sk_33_45 : sp_okL 33 45 18 403 = true := by decide +kernel
theorem si_33_6 : decode (sp_b 33) 6 = .ok (.bipush 48, 2) := by decide +kernel
theorem si_33_8 : decode (sp_b 33) 8 = .ok (.isub, 1) := by decide +kernel
theorem si_33_9 : decode (sp_b 33) 9 = .ok (.istore_n 3, 1) := by decide +kernel
theorem si_33_10 : decode (sp_b 33) 10 = .ok (.iload_n 3, 1) := by decide +kernel
theorem si_33_11 : decode (sp_b 33) 11 = .ok (.ifCond .lt 13, 3) := by decide +kernel
theorem si_33_14 : decode (sp_b 33) 14 = .ok (.iload_n 3, 1) := by decide +kernel
theorem si_33_15 : decode (sp_b 33) 15 = .ok (.bipush 9, 2) := by decide +kernel
theorem si_33_17 : decode (sp_b 33) 17 = .ok (.if_icmp .gt 7, 3) := by decide +kernel
theorem si_33_20 : decode (sp_b 33) 20 = .ok (.iload_n 3, 1) := by decide +kernel
theorem si_33_21 : decode (sp_b 33) 21 = .ok (.goto 4, 3) := by decide +kernel
theorem si_33_24 : decode (sp_b 33) 24 = .ok (.iconst (-1), 1) := by decide +kernel
theorem si_33_25 : decode (sp_b 33) 25 = .ok (.ireturn, 1) := by decide +kernel
theorem si_34_0 : decode (sp_b 34) 0 = .ok (.aload_n 1, 1) := by decide +kernel
theorem si_34_1 : decode (sp_b 34) 1 = .ok (.iload_n 2, 1) := by decide +kernel
theorem si_34_2 : decode (sp_b 34) 2 = .ok (.invokevirtual 29, 3) := by decide +kernel
theorem sk_34_29 : sp_okL 34 29 26 394 = true := by decide +kernel
theorem si_34_5 : decode (sp_b 34) 5 = .ok (.istore 4, 2) := by decide +kernel
theorem si_34_7 : decode (sp_b 34) 7 = .ok (.aload_n 1, 1) := by decide +kernel
theorem si_34_8 : decode (sp_b 34) 8 = .ok (.iload_n 2, 1) := by decide +kernel
theorem si_34_9 : decode (sp_b 34) 9 = .ok (.iload_n 3, 1) := by decide +kernel
theorem si_34_10 : decode (sp_b 34) 10 = .ok (.invokestatic 41, 3) := by decide +kernel
theorem sk_34_41 : sp_okL 34 41 32 400 = true := by decide +kernel
theorem si_34_13 : decode (sp_b 34) 13 = .ok (.istore 5, 2) := by decide +kernel
theorem si_34_15 : decode (sp_b 34) 15 = .ok (.iconst 0, 1) := by decide +kernel
theorem si_34_16 : decode (sp_b 34) 16 = .ok (.istore 6, 2) := by decide +kernel
theorem si_34_18 : decode (sp_b 34) 18 = .ok (.iload 6, 2) := by decide +kernel
theorem si_34_20 : decode (sp_b 34) 20 = .ok (.bipush 6, 2) := by decide +kernel
theorem si_34_22 : decode (sp_b 34) 22 = .ok (.if_icmp .ge 60, 3) := by decide +kernel
theorem si_34_25 : decode (sp_b 34) 25 = .ok (.iload 5, 2) := by decide +kernel
theorem si_34_27 : decode (sp_b 34) 27 = .ok (.iload 4, 2) := by decide +kernel
theorem si_34_29 : decode (sp_b 34) 29 = .ok (.if_icmp .ge 53, 3) := by decide +kernel
theorem si_34_32 : decode (sp_b 34) 32 = .ok (.aload_n 0, 1) := by decide +kernel
theorem si_34_33 : decode (sp_b 34) 33 = .ok (.aload_n 1, 1) := by decide +kernel
theorem si_34_34 : decode (sp_b 34) 34 = .ok (.iload_n 2, 1) := by decide +kernel
theorem si_34_35 : decode (sp_b 34) 35 = .ok (.iload 5, 2) := by decide +kernel
theorem si_34_37 : decode (sp_b 34) 37 = .ok (.iload 6, 2) := by decide +kernel
theorem si_34_39 : decode (sp_b 34) 39 = .ok (.invokevirtual 55, 3) := by decide +kernel
theorem sk_34_55 : sp_okL 34 55 35 411 = true := by decide +kernel
theorem si_34_42 : decode (sp_b 34) 42 = .ok (.istore 7, 2) := by decide +kernel
theorem si_34_44 : decode (sp_b 34) 44 = .ok (.iload 7, 2) := by decide +kernel
theorem si_34_46 : decode (sp_b 34) 46 = .ok (.bipush (-9), 2) := by decide +kernel
theorem si_34_48 : decode (sp_b 34) 48 = .ok (.if_icmp .eq 6, 3) := by decide +kernel
theorem si_34_51 : decode (sp_b 34) 51 = .ok (.iload 7, 2) := by decide +kernel
theorem si_34_53 : decode (sp_b 34) 53 = .ok (.ireturn, 1) := by decide +kernel
theorem si_34_54 : decode (sp_b 34) 54 = .ok (.aload_n 0, 1) := by decide +kernel
theorem si_34_55 : decode (sp_b 34) 55 = .ok (.getfield 12, 3) := by decide +kernel
theorem sf_34_12 : sp_okF 34 12 1 0 249 = true := by decide +kernel
theorem si_34_58 : decode (sp_b 34) 58 = .ok (.iload 6, 2) := by decide +kernel
theorem si_34_60 : decode (sp_b 34) 60 = .ok (.iconst 1, 1) := by decide +kernel
theorem si_34_61 : decode (sp_b 34) 61 = .ok (.iadd, 1) := by decide +kernel
theorem si_34_62 : decode (sp_b 34) 62 = .ok (.putfield 35, 3) := by decide +kernel
theorem sf_34_35 : sp_okF 34 35 0 3 128 = true := by decide +kernel
theorem si_34_65 : decode (sp_b 34) 65 = .ok (.aload_n 1, 1) := by decide +kernel
theorem si_34_66 : decode (sp_b 34) 66 = .ok (.iload_n 2, 1) := by decide +kernel
theorem si_34_67 : decode (sp_b 34) 67 = .ok (.iload 5, 2) := by decide +kernel
theorem si_34_69 : decode (sp_b 34) 69 = .ok (.iconst 5, 1) := by decide +kernel
theorem si_34_70 : decode (sp_b 34) 70 = .ok (.iadd, 1) := by decide +kernel
theorem si_34_71 : decode (sp_b 34) 71 = .ok (.invokestatic 41, 3) := by decide +kernel
theorem si_34_74 : decode (sp_b 34) 74 = .ok (.istore 5, 2) := by decide +kernel
theorem si_34_76 : decode (sp_b 34) 76 = .ok (.iinc 6 1, 3) := by decide +kernel
theorem si_34_79 : decode (sp_b 34) 79 = .ok (.goto (-61), 3) := by decide +kernel
theorem si_34_82 : decode (sp_b 34) 82 = .ok (.iload 5, 2) := by decide +kernel
theorem si_34_84 : decode (sp_b 34) 84 = .ok (.iload 4, 2) := by decide +kernel
theorem si_34_86 : decode (sp_b 34) 86 = .ok (.if_icmp .ge 8, 3) := by decide +kernel
theorem si_34_89 : decode (sp_b 34) 89 = .ok (.iload 5, 2) := by decide +kernel
theorem si_34_91 : decode (sp_b 34) 91 = .ok (.goto 5, 3) := by decide +kernel
theorem si_34_94 : decode (sp_b 34) 94 = .ok (.bipush (-9), 2) := by decide +kernel
theorem si_34_96 : decode (sp_b 34) 96 = .ok (.ireturn, 1) := by decide +kernel
theorem si_35_0 : decode (sp_b 35) 0 = .ok (.aload_n 1, 1) := by decide +kernel
theorem si_35_1 : decode (sp_b 35) 1 = .ok (.iload_n 2, 1) := by decide +kernel
theorem si_35_2 : decode (sp_b 35) 2 = .ok (.iload_n 3, 1) := by decide +kernel
theorem si_35_3 : decode (sp_b 35) 3 = .ok (.invokevirtual 45, 3) := by decide +kernel
theorem sk_35_45 : sp_okL 35 45 18 403 = true := by decide +kernel
theorem si_35_6 : decode (sp_b 35) 6 = .ok (.invokestatic 59, 3) := by decide +kernel
theorem sk_35_59 : sp_okL 35 59 36 415 = true := by decide +kernel
theorem si_35_9 : decode (sp_b 35) 9 = .ok (.istore 5, 2) := by decide +kernel
theorem si_35_11 : decode (sp_b 35) 11 = .ok (.iload 5, 2) := by decide +kernel
theorem si_35_13 : decode (sp_b 35) 13 = .ok (.bipush (-9), 2) := by decide +kernel
theorem si_35_15 : decode (sp_b 35) 15 = .ok (.if_icmp .ne 5, 3) := by decide +kernel
theorem si_35_18 : decode (sp_b 35) 18 = .ok (.iload_n 3, 1) := by decide +kernel
theorem si_35_19 : decode (sp_b 35) 19 = .ok (.ireturn, 1) := by decide +kernel
theorem si_35_20 : decode (sp_b 35) 20 = .ok (.iconst 0, 1) := by decide +kernel
theorem si_35_21 : decode (sp_b 35) 21 = .ok (.istore 6, 2) := by decide +kernel
theorem si_35_23 : decode (sp_b 35) 23 = .ok (.iload_n 3, 1) := by decide +kernel
theorem si_35_24 : decode (sp_b 35) 24 = .ok (.iconst 1, 1) := by decide +kernel
theorem si_35_25 : decode (sp_b 35) 25 = .ok (.iadd, 1) := by decide +kernel
theorem si_35_26 : decode (sp_b 35) 26 = .ok (.istore 7, 2) := by decide +kernel
theorem si_35_28 : decode (sp_b 35) 28 = .ok (.iload 7, 2) := by decide +kernel
theorem si_35_30 : decode (sp_b 35) 30 = .ok (.iload_n 3, 1) := by decide +kernel
theorem si_35_31 : decode (sp_b 35) 31 = .ok (.iconst 5, 1) := by decide +kernel
theorem si_35_32 : decode (sp_b 35) 32 = .ok (.iadd, 1) := by decide +kernel
theorem si_35_33 : decode (sp_b 35) 33 = .ok (.if_icmp .ge 49, 3) := by decide +kernel
theorem si_35_36 : decode (sp_b 35) 36 = .ok (.iload 7, 2) := by decide +kernel
theorem si_35_38 : decode (sp_b 35) 38 = .ok (.aload_n 1, 1) := by decide +kernel
theorem si_35_39 : decode (sp_b 35) 39 = .ok (.iload_n 2, 1) := by decide +kernel
theorem si_35_40 : decode (sp_b 35) 40 = .ok (.invokevirtual 29, 3) := by decide +kernel
theorem sk_35_29 : sp_okL 35 29 26 394 = true := by decide +kernel
theorem si_35_43 : decode (sp_b 35) 43 = .ok (.if_icmp .lt 6, 3) := by decide +kernel
theorem si_35_46 : decode (sp_b 35) 46 = .ok (.iload 7, 2) := by decide +kernel
theorem si_35_48 : decode (sp_b 35) 48 = .ok (.ireturn, 1) := by decide +kernel
theorem si_35_49 : decode (sp_b 35) 49 = .ok (.aload_n 1, 1) := by decide +kernel
theorem si_35_50 : decode (sp_b 35) 50 = .ok (.iload_n 2, 1) := by decide +kernel
theorem si_35_51 : decode (sp_b 35) 51 = .ok (.iload 7, 2) := by decide +kernel
theorem si_35_53 : decode (sp_b 35) 53 = .ok (.invokestatic 49, 3) := by decide +kernel
theorem sk_35_49 : sp_okL 35 49 33 404 = true := by decide +kernel
theorem si_35_56 : decode (sp_b 35) 56 = .ok (.istore 8, 2) := by decide +kernel
theorem si_35_58 : decode (sp_b 35) 58 = .ok (.iload 8, 2) := by decide +kernel
theorem si_35_60 : decode (sp_b 35) 60 = .ok (.ifCond .ge 6, 3) := by decide +kernel
theorem si_35_63 : decode (sp_b 35) 63 = .ok (.iload 7, 2) := by decide +kernel
theorem si_35_65 : decode (sp_b 35) 65 = .ok (.ireturn, 1) := by decide +kernel
theorem si_35_66 : decode (sp_b 35) 66 = .ok (.iload 6, 2) := by decide +kernel
theorem si_35_68 : decode (sp_b 35) 68 = .ok (.bipush 10, 2) := by decide +kernel
theorem si_35_70 : decode (sp_b 35) 70 = .ok (.imul, 1) := by decide +kernel
theorem si_35_71 : decode (sp_b 35) 71 = .ok (.iload 8, 2) := by decide +kernel
theorem si_35_73 : decode (sp_b 35) 73 = .ok (.iadd, 1) := by decide +kernel
theorem si_35_74 : decode (sp_b 35) 74 = .ok (.istore 6, 2) := by decide +kernel
theorem si_35_76 : decode (sp_b 35) 76 = .ok (.iinc 7 1, 3) := by decide +kernel
theorem si_35_79 : decode (sp_b 35) 79 = .ok (.goto (-51), 3) := by decide +kernel
theorem si_35_82 : decode (sp_b 35) 82 = .ok (.aload_n 0, 1) := by decide +kernel
theorem si_35_83 : decode (sp_b 35) 83 = .ok (.getfield 12, 3) := by decide +kernel
theorem sf_35_12 : sp_okF 35 12 1 0 249 = true := by decide +kernel
theorem si_35_86 : decode (sp_b 35) 86 = .ok (.getfield 62, 3) := by decide +kernel
theorem sf_35_62 : sp_okF 35 62 0 0 119 = true := by decide +kernel
theorem si_35_89 : decode (sp_b 35) 89 = .ok (.iload 4, 2) := by decide +kernel
theorem si_35_91 : decode (sp_b 35) 91 = .ok (.iload 5, 2) := by decide +kernel
theorem si_35_93 : decode (sp_b 35) 93 = .ok (.iastore, 1) := by decide +kernel
theorem si_35_94 : decode (sp_b 35) 94 = .ok (.aload_n 0, 1) := by decide +kernel
theorem si_35_95 : decode (sp_b 35) 95 = .ok (.getfield 12, 3) := by decide +kernel
theorem si_35_98 : decode (sp_b 35) 98 = .ok (.getfield 66, 3) := by decide +kernel
theorem sf_35_66 : sp_okF 35 66 0 1 122 = true := by decide +kernel
theorem si_35_101 : decode (sp_b 35) 101 = .ok (.iload 4, 2) := by decide +kernel
theorem si_35_103 : decode (sp_b 35) 103 = .ok (.iload 6, 2) := by decide +kernel
theorem si_35_105 : decode (sp_b 35) 105 = .ok (.sipush 1000, 3) := by decide +kernel
theorem si_35_108 : decode (sp_b 35) 108 = .ok (.idiv, 1) := by decide +kernel
theorem si_35_109 : decode (sp_b 35) 109 = .ok (.iastore, 1) := by decide +kernel
theorem si_35_110 : decode (sp_b 35) 110 = .ok (.aload_n 0, 1) := by decide +kernel
theorem si_35_111 : decode (sp_b 35) 111 = .ok (.getfield 21, 3) := by decide +kernel
theorem sf_35_21 : sp_okF 35 21 1 1 251 = true := by decide +kernel
theorem si_35_114 : decode (sp_b 35) 114 = .ok (.getfield 69, 3) := by decide +kernel
theorem sf_35_69 : sp_okF 35 69 2 0 164 = true := by decide +kernel
theorem si_35_117 : decode (sp_b 35) 117 = .ok (.iload 4, 2) := by decide +kernel
theorem si_35_119 : decode (sp_b 35) 119 = .ok (.iload 6, 2) := by decide +kernel
theorem si_35_121 : decode (sp_b 35) 121 = .ok (.bipush 10, 2) := by decide +kernel
theorem si_35_123 : decode (sp_b 35) 123 = .ok (.idiv, 1) := by decide +kernel
theorem si_35_124 : decode (sp_b 35) 124 = .ok (.bipush 100, 2) := by decide +kernel
theorem si_35_126 : decode (sp_b 35) 126 = .ok (.irem, 1) := by decide +kernel
theorem si_35_127 : decode (sp_b 35) 127 = .ok (.iastore, 1) := by decide +kernel
theorem si_35_128 : decode (sp_b 35) 128 = .ok (.aload_n 0, 1) := by decide +kernel
theorem si_35_129 : decode (sp_b 35) 129 = .ok (.getfield 12, 3) := by decide +kernel
theorem si_35_132 : decode (sp_b 35) 132 = .ok (.getfield 72, 3) := by decide +kernel
theorem sf_35_72 : sp_okF 35 72 0 2 125 = true := by decide +kernel
theorem si_35_135 : decode (sp_b 35) 135 = .ok (.iload 4, 2) := by decide +kernel
theorem si_35_137 : decode (sp_b 35) 137 = .ok (.iload 6, 2) := by decide +kernel
theorem si_35_139 : decode (sp_b 35) 139 = .ok (.bipush 10, 2) := by decide +kernel
theorem si_35_141 : decode (sp_b 35) 141 = .ok (.irem, 1) := by decide +kernel
theorem si_35_142 : decode (sp_b 35) 142 = .ok (.iastore, 1) := by decide +kernel
theorem si_35_143 : decode (sp_b 35) 143 = .ok (.bipush (-9), 2) := by decide +kernel
theorem si_35_145 : decode (sp_b 35) 145 = .ok (.ireturn, 1) := by decide +kernel
theorem si_36_0 : decode (sp_b 36) 0 = .ok (.iconst 0, 1) := by decide +kernel
theorem si_36_1 : decode (sp_b 36) 1 = .ok (.istore_n 1, 1) := by decide +kernel
theorem si_36_2 : decode (sp_b 36) 2 = .ok (.iload_n 1, 1) := by decide +kernel
theorem si_36_3 : decode (sp_b 36) 3 = .ok (.getstatic 75, 3) := by decide +kernel
theorem si_36_6 : decode (sp_b 36) 6 = .ok (.arraylength, 1) := by decide +kernel
theorem si_36_7 : decode (sp_b 36) 7 = .ok (.if_icmp .ge 20, 3) := by decide +kernel
theorem si_36_10 : decode (sp_b 36) 10 = .ok (.getstatic 75, 3) := by decide +kernel
theorem si_36_13 : decode (sp_b 36) 13 = .ok (.iload_n 1, 1) := by decide +kernel
theorem si_36_14 : decode (sp_b 36) 14 = .ok (.iaload, 1) := by decide +kernel
theorem si_36_15 : decode (sp_b 36) 15 = .ok (.iload_n 0, 1) := by decide +kernel
theorem si_36_16 : decode (sp_b 36) 16 = .ok (.if_icmp .ne 5, 3) := by decide +kernel
theorem si_36_19 : decode (sp_b 36) 19 = .ok (.iload_n 1, 1) := by decide +kernel
theorem si_36_20 : decode (sp_b 36) 20 = .ok (.ireturn, 1) := by decide +kernel
theorem si_36_21 : decode (sp_b 36) 21 = .ok (.iinc 1 1, 3) := by decide +kernel
theorem si_36_24 : decode (sp_b 36) 24 = .ok (.goto (-22), 3) := by decide +kernel
theorem si_36_27 : decode (sp_b 36) 27 = .ok (.bipush (-9), 2) := by decide +kernel
theorem si_36_29 : decode (sp_b 36) 29 = .ok (.ireturn, 1) := by decide +kernel
theorem si_37_0 : decode (sp_b 37) 0 = .ok (.aload_n 0, 1) := by decide +kernel
theorem si_37_1 : decode (sp_b 37) 1 = .ok (.getfield 18, 3) := by decide +kernel
theorem sf_37_18 : sp_okF 37 18 7 1 263 = true := by decide +kernel
theorem si_37_4 : decode (sp_b 37) 4 = .ok (.iload_n 1, 1) := by decide +kernel
theorem si_37_5 : decode (sp_b 37) 5 = .ok (.invokevirtual 72, 3) := by decide +kernel
theorem sk_37_72 : sp_okL 37 72 11 312 = true := by decide +kernel
theorem si_37_8 : decode (sp_b 37) 8 = .ok (.ifCond .ne 5, 3) := by decide +kernel
theorem si_37_11 : decode (sp_b 37) 11 = .ok (.iconst (-1), 1) := by decide +kernel
theorem si_37_12 : decode (sp_b 37) 12 = .ok (.ireturn, 1) := by decide +kernel
theorem si_37_13 : decode (sp_b 37) 13 = .ok (.aload_n 0, 1) := by decide +kernel
theorem si_37_14 : decode (sp_b 37) 14 = .ok (.getfield 18, 3) := by decide +kernel
theorem si_37_17 : decode (sp_b 37) 17 = .ok (.iload_n 1, 1) := by decide +kernel
theorem si_37_18 : decode (sp_b 37) 18 = .ok (.invokevirtual 99, 3) := by decide +kernel
theorem sk_37_99 : sp_okL 37 99 16 331 = true := by decide +kernel
theorem si_37_21 : decode (sp_b 37) 21 = .ok (.ifCond .ne 9, 3) := by decide +kernel
theorem si_37_24 : decode (sp_b 37) 24 = .ok (.aload_n 0, 1) := by decide +kernel
theorem si_37_25 : decode (sp_b 37) 25 = .ok (.iconst 1, 1) := by decide +kernel
theorem si_37_26 : decode (sp_b 37) 26 = .ok (.invokevirtual 76, 3) := by decide +kernel
theorem sk_37_76 : sp_okL 37 76 12 316 = true := by decide +kernel
theorem si_37_29 : decode (sp_b 37) 29 = .ok (.ireturn, 1) := by decide +kernel
theorem si_37_30 : decode (sp_b 37) 30 = .ok (.aload_n 0, 1) := by decide +kernel
theorem si_37_31 : decode (sp_b 37) 31 = .ok (.getfield 60, 3) := by decide +kernel
theorem sf_37_60 : sp_okF 37 60 7 9 271 = true := by decide +kernel
theorem si_37_34 : decode (sp_b 37) 34 = .ok (.aload_n 0, 1) := by decide +kernel
theorem si_37_35 : decode (sp_b 37) 35 = .ok (.getfield 18, 3) := by decide +kernel
theorem si_37_38 : decode (sp_b 37) 38 = .ok (.iload_n 1, 1) := by decide +kernel
theorem si_37_39 : decode (sp_b 37) 39 = .ok (.invokevirtual 117, 3) := by decide +kernel
theorem sk_37_117 : sp_okL 37 117 30 390 = true := by decide +kernel
theorem si_37_42 : decode (sp_b 37) 42 = .ok (.bipush (-9), 2) := by decide +kernel
theorem si_37_44 : decode (sp_b 37) 44 = .ok (.if_icmp .eq 6, 3) := by decide +kernel
theorem si_37_47 : decode (sp_b 37) 47 = .ok (.bipush (-4), 2) := by decide +kernel
theorem si_37_49 : decode (sp_b 37) 49 = .ok (.ireturn, 1) := by decide +kernel
theorem si_37_50 : decode (sp_b 37) 50 = .ok (.aload_n 0, 1) := by decide +kernel
theorem si_37_51 : decode (sp_b 37) 51 = .ok (.getfield 32, 3) := by decide +kernel
theorem sf_37_32 : sp_okF 37 32 7 3 265 = true := by decide +kernel
theorem si_37_54 : decode (sp_b 37) 54 = .ok (.aload_n 0, 1) := by decide +kernel
theorem si_37_55 : decode (sp_b 37) 55 = .ok (.getfield 60, 3) := by decide +kernel
theorem si_37_58 : decode (sp_b 37) 58 = .ok (.getfield 121, 3) := by decide +kernel
theorem sf_37_121 : sp_okF 37 121 1 0 250 = true := by decide +kernel
theorem si_37_61 : decode (sp_b 37) 61 = .ok (.invokevirtual 122, 3) := by decide +kernel
theorem sk_37_122 : sp_okL 37 122 38 424 = true := by decide +kernel
theorem si_37_64 : decode (sp_b 37) 64 = .ok (.aload_n 0, 1) := by decide +kernel
theorem si_37_65 : decode (sp_b 37) 65 = .ok (.getfield 36, 3) := by decide +kernel
theorem sf_37_36 : sp_okF 37 36 7 4 266 = true := by decide +kernel
theorem si_37_68 : decode (sp_b 37) 68 = .ok (.aload_n 0, 1) := by decide +kernel
theorem si_37_69 : decode (sp_b 37) 69 = .ok (.getfield 60, 3) := by decide +kernel
theorem si_37_72 : decode (sp_b 37) 72 = .ok (.getfield 128, 3) := by decide +kernel
theorem sf_37_128 : sp_okF 37 128 1 1 252 = true := by decide +kernel
theorem si_37_75 : decode (sp_b 37) 75 = .ok (.invokevirtual 131, 3) := by decide +kernel
theorem sk_37_131 : sp_okL 37 131 39 429 = true := by decide +kernel
theorem si_37_78 : decode (sp_b 37) 78 = .ok (.aload_n 0, 1) := by decide +kernel
theorem si_37_79 : decode (sp_b 37) 79 = .ok (.getfield 49, 3) := by decide +kernel
theorem sf_37_49 : sp_okF 37 49 7 7 269 = true := by decide +kernel
theorem si_37_82 : decode (sp_b 37) 82 = .ok (.aload_n 0, 1) := by decide +kernel
theorem si_37_83 : decode (sp_b 37) 83 = .ok (.getfield 36, 3) := by decide +kernel
theorem si_37_86 : decode (sp_b 37) 86 = .ok (.aload_n 0, 1) := by decide +kernel
theorem si_37_87 : decode (sp_b 37) 87 = .ok (.getfield 60, 3) := by decide +kernel
theorem si_37_90 : decode (sp_b 37) 90 = .ok (.getfield 134, 3) := by decide +kernel
theorem sf_37_134 : sp_okF 37 134 1 2 254 = true := by decide +kernel
theorem si_37_93 : decode (sp_b 37) 93 = .ok (.invokevirtual 137, 3) := by decide +kernel
theorem sk_37_137 : sp_okL 37 137 40 434 = true := by decide +kernel
theorem si_37_96 : decode (sp_b 37) 96 = .ok (.iconst 0, 1) := by decide +kernel
theorem si_37_97 : decode (sp_b 37) 97 = .ok (.istore_n 2, 1) := by decide +kernel
theorem si_37_98 : decode (sp_b 37) 98 = .ok (.iload_n 2, 1) := by decide +kernel
theorem si_37_99 : decode (sp_b 37) 99 = .ok (.iconst 3, 1) := by decide +kernel
theorem si_37_100 : decode (sp_b 37) 100 = .ok (.if_icmp .ge 19, 3) := by decide +kernel
theorem si_37_103 : decode (sp_b 37) 103 = .ok (.aload_n 0, 1) := by decide +kernel
theorem si_37_104 : decode (sp_b 37) 104 = .ok (.getfield 53, 3) := by decide +kernel
theorem sf_37_53 : sp_okF 37 53 7 8 270 = true := by decide +kernel
theorem si_37_107 : decode (sp_b 37) 107 = .ok (.iload_n 2, 1) := by decide +kernel
theorem si_37_108 : decode (sp_b 37) 108 = .ok (.aaload, 1) := by decide +kernel
theorem si_37_109 : decode (sp_b 37) 109 = .ok (.iconst 0, 1) := by decide +kernel
theorem si_37_110 : decode (sp_b 37) 110 = .ok (.putfield 141, 3) := by decide +kernel
theorem sf_37_141 : sp_okF 37 141 6 3 228 = true := by decide +kernel
theorem si_37_113 : decode (sp_b 37) 113 = .ok (.iinc 2 1, 3) := by decide +kernel
theorem si_37_116 : decode (sp_b 37) 116 = .ok (.goto (-18), 3) := by decide +kernel
theorem si_37_119 : decode (sp_b 37) 119 = .ok (.aload_n 0, 1) := by decide +kernel
theorem si_37_120 : decode (sp_b 37) 120 = .ok (.getfield 32, 3) := by decide +kernel
theorem si_37_123 : decode (sp_b 37) 123 = .ok (.getfield 145, 3) := by decide +kernel
theorem sf_37_145 : sp_okF 37 145 0 3 130 = true := by decide +kernel
theorem si_37_126 : decode (sp_b 37) 126 = .ok (.ireturn, 1) := by decide +kernel
theorem si_38_0 : decode (sp_b 38) 0 = .ok (.aload_n 0, 1) := by decide +kernel
theorem si_38_1 : decode (sp_b 38) 1 = .ok (.aload_n 1, 1) := by decide +kernel
theorem si_38_2 : decode (sp_b 38) 2 = .ok (.getfield 21, 3) := by decide +kernel
theorem sf_38_21 : sp_okF 38 21 0 3 127 = true := by decide +kernel
theorem si_38_5 : decode (sp_b 38) 5 = .ok (.putfield 21, 3) := by decide +kernel
theorem si_38_8 : decode (sp_b 38) 8 = .ok (.aload_n 1, 1) := by decide +kernel
theorem si_38_9 : decode (sp_b 38) 9 = .ok (.getfield 9, 3) := by decide +kernel
theorem sf_38_9 : sp_okF 38 9 0 0 118 = true := by decide +kernel
theorem si_38_12 : decode (sp_b 38) 12 = .ok (.iconst 0, 1) := by decide +kernel
theorem si_38_13 : decode (sp_b 38) 13 = .ok (.aload_n 0, 1) := by decide +kernel
theorem si_38_14 : decode (sp_b 38) 14 = .ok (.getfield 9, 3) := by decide +kernel
theorem si_38_17 : decode (sp_b 38) 17 = .ok (.iconst 0, 1) := by decide +kernel
theorem si_38_18 : decode (sp_b 38) 18 = .ok (.bipush 6, 2) := by decide +kernel
theorem si_38_20 : decode (sp_b 38) 20 = .ok (.invokestatic 25, 3) := by decide +kernel
theorem sk_38_25 : sp_has 428 (.methodLink (sp_y 38).cls 25 arraycopyName) = true := by decide +kernel
theorem si_38_23 : decode (sp_b 38) 23 = .ok (.aload_n 1, 1) := by decide +kernel
theorem si_38_24 : decode (sp_b 38) 24 = .ok (.getfield 15, 3) := by decide +kernel
theorem sf_38_15 : sp_okF 38 15 0 1 121 = true := by decide +kernel
theorem si_38_27 : decode (sp_b 38) 27 = .ok (.iconst 0, 1) := by decide +kernel
theorem si_38_28 : decode (sp_b 38) 28 = .ok (.aload_n 0, 1) := by decide +kernel
theorem si_38_29 : decode (sp_b 38) 29 = .ok (.getfield 15, 3) := by decide +kernel
theorem si_38_32 : decode (sp_b 38) 32 = .ok (.iconst 0, 1) := by decide +kernel
theorem si_38_33 : decode (sp_b 38) 33 = .ok (.bipush 6, 2) := by decide +kernel
theorem si_38_35 : decode (sp_b 38) 35 = .ok (.invokestatic 25, 3) := by decide +kernel
theorem si_38_38 : decode (sp_b 38) 38 = .ok (.aload_n 1, 1) := by decide +kernel
theorem si_38_39 : decode (sp_b 38) 39 = .ok (.getfield 18, 3) := by decide +kernel
theorem sf_38_18 : sp_okF 38 18 0 2 124 = true := by decide +kernel
theorem si_38_42 : decode (sp_b 38) 42 = .ok (.iconst 0, 1) := by decide +kernel
theorem si_38_43 : decode (sp_b 38) 43 = .ok (.aload_n 0, 1) := by decide +kernel
theorem si_38_44 : decode (sp_b 38) 44 = .ok (.getfield 18, 3) := by decide +kernel
theorem si_38_47 : decode (sp_b 38) 47 = .ok (.iconst 0, 1) := by decide +kernel
theorem si_38_48 : decode (sp_b 38) 48 = .ok (.bipush 6, 2) := by decide +kernel
theorem si_38_50 : decode (sp_b 38) 50 = .ok (.invokestatic 25, 3) := by decide +kernel
theorem si_38_53 : decode (sp_b 38) 53 = .ok (.return_, 1) := by decide +kernel
theorem si_39_0 : decode (sp_b 39) 0 = .ok (.aload_n 1, 1) := by decide +kernel
theorem si_39_1 : decode (sp_b 39) 1 = .ok (.getfield 9, 3) := by decide +kernel
theorem sf_39_9 : sp_okF 39 9 2 0 162 = true := by decide +kernel
theorem si_39_4 : decode (sp_b 39) 4 = .ok (.iconst 0, 1) := by decide +kernel
theorem si_39_5 : decode (sp_b 39) 5 = .ok (.aload_n 0, 1) := by decide +kernel
theorem si_39_6 : decode (sp_b 39) 6 = .ok (.getfield 9, 3) := by decide +kernel
theorem si_39_9 : decode (sp_b 39) 9 = .ok (.iconst 0, 1) := by decide +kernel
theorem si_39_10 : decode (sp_b 39) 10 = .ok (.bipush 6, 2) := by decide +kernel
theorem si_39_12 : decode (sp_b 39) 12 = .ok (.invokestatic 31, 3) := by decide +kernel
theorem sk_39_31 : sp_has 433 (.methodLink (sp_y 39).cls 31 arraycopyName) = true := by decide +kernel
theorem si_39_15 : decode (sp_b 39) 15 = .ok (.aload_n 0, 1) := by decide +kernel
theorem si_39_16 : decode (sp_b 39) 16 = .ok (.aload_n 1, 1) := by decide +kernel
theorem si_39_17 : decode (sp_b 39) 17 = .ok (.getfield 21, 3) := by decide +kernel
theorem sf_39_21 : sp_okF 39 21 2 1 168 = true := by decide +kernel
theorem si_39_20 : decode (sp_b 39) 20 = .ok (.putfield 21, 3) := by decide +kernel
theorem si_39_23 : decode (sp_b 39) 23 = .ok (.aload_n 0, 1) := by decide +kernel
theorem si_39_24 : decode (sp_b 39) 24 = .ok (.aload_n 1, 1) := by decide +kernel
theorem si_39_25 : decode (sp_b 39) 25 = .ok (.getfield 25, 3) := by decide +kernel
theorem sf_39_25 : sp_okF 39 25 2 2 171 = true := by decide +kernel
theorem si_39_28 : decode (sp_b 39) 28 = .ok (.putfield 25, 3) := by decide +kernel
theorem si_39_31 : decode (sp_b 39) 31 = .ok (.aload_n 0, 1) := by decide +kernel
theorem si_39_32 : decode (sp_b 39) 32 = .ok (.aload_n 1, 1) := by decide +kernel
theorem si_39_33 : decode (sp_b 39) 33 = .ok (.getfield 28, 3) := by decide +kernel
theorem sf_39_28 : sp_okF 39 28 2 3 174 = true := by decide +kernel
theorem si_39_36 : decode (sp_b 39) 36 = .ok (.putfield 28, 3) := by decide +kernel
theorem si_39_39 : decode (sp_b 39) 39 = .ok (.return_, 1) := by decide +kernel
theorem si_40_0 : decode (sp_b 40) 0 = .ok (.aload_n 0, 1) := by decide +kernel
theorem si_40_1 : decode (sp_b 40) 1 = .ok (.iconst 0, 1) := by decide +kernel
theorem si_40_2 : decode (sp_b 40) 2 = .ok (.putfield 21, 3) := by decide +kernel
theorem sf_40_21 : sp_okF 40 21 6 1 223 = true := by decide +kernel
theorem si_40_5 : decode (sp_b 40) 5 = .ok (.aload_n 0, 1) := by decide +kernel
theorem si_40_6 : decode (sp_b 40) 6 = .ok (.iload_n 2, 1) := by decide +kernel
theorem si_40_7 : decode (sp_b 40) 7 = .ok (.putfield 17, 3) := by decide +kernel
theorem sf_40_17 : sp_okF 40 17 6 2 225 = true := by decide +kernel
theorem si_40_10 : decode (sp_b 40) 10 = .ok (.aload_n 0, 1) := by decide +kernel
theorem si_40_11 : decode (sp_b 40) 11 = .ok (.aload_n 1, 1) := by decide +kernel
theorem si_40_12 : decode (sp_b 40) 12 = .ok (.invokevirtual 24, 3) := by decide +kernel
theorem sk_40_24 : sp_okL 40 24 41 438 = true := by decide +kernel
theorem si_40_15 : decode (sp_b 40) 15 = .ok (.return_, 1) := by decide +kernel
theorem si_41_0 : decode (sp_b 41) 0 = .ok (.aload_n 0, 1) := by decide +kernel
theorem si_41_1 : decode (sp_b 41) 1 = .ok (.getfield 21, 3) := by decide +kernel
theorem sf_41_21 : sp_okF 41 21 6 1 223 = true := by decide +kernel
theorem si_41_4 : decode (sp_b 41) 4 = .ok (.bipush 9, 2) := by decide +kernel
theorem si_41_6 : decode (sp_b 41) 6 = .ok (.imul, 1) := by decide +kernel
theorem si_41_7 : decode (sp_b 41) 7 = .ok (.istore_n 2, 1) := by decide +kernel
theorem si_41_8 : decode (sp_b 41) 8 = .ok (.aload_n 1, 1) := by decide +kernel
theorem si_41_9 : decode (sp_b 41) 9 = .ok (.getfield 32, 3) := by decide +kernel
theorem sf_41_32 : sp_okF 41 32 2 0 165 = true := by decide +kernel
theorem si_41_12 : decode (sp_b 41) 12 = .ok (.iconst 0, 1) := by decide +kernel
theorem si_41_13 : decode (sp_b 41) 13 = .ok (.aload_n 0, 1) := by decide +kernel
theorem si_41_14 : decode (sp_b 41) 14 = .ok (.getfield 11, 3) := by decide +kernel
theorem sf_41_11 : sp_okF 41 11 6 0 222 = true := by decide +kernel
theorem si_41_17 : decode (sp_b 41) 17 = .ok (.iload_n 2, 1) := by decide +kernel
theorem si_41_18 : decode (sp_b 41) 18 = .ok (.bipush 6, 2) := by decide +kernel
theorem si_41_20 : decode (sp_b 41) 20 = .ok (.invokestatic 35, 3) := by decide +kernel
theorem sk_41_35 : sp_has 442 (.methodLink (sp_y 41).cls 35 arraycopyName) = true := by decide +kernel
theorem si_41_23 : decode (sp_b 41) 23 = .ok (.aload_n 0, 1) := by decide +kernel
theorem si_41_24 : decode (sp_b 41) 24 = .ok (.getfield 11, 3) := by decide +kernel
theorem si_41_27 : decode (sp_b 41) 27 = .ok (.iload_n 2, 1) := by decide +kernel
theorem si_41_28 : decode (sp_b 41) 28 = .ok (.bipush 6, 2) := by decide +kernel
theorem si_41_30 : decode (sp_b 41) 30 = .ok (.iadd, 1) := by decide +kernel
theorem si_41_31 : decode (sp_b 41) 31 = .ok (.aload_n 1, 1) := by decide +kernel
theorem si_41_32 : decode (sp_b 41) 32 = .ok (.getfield 41, 3) := by decide +kernel
theorem sf_41_41 : sp_okF 41 41 2 1 169 = true := by decide +kernel
theorem si_41_35 : decode (sp_b 41) 35 = .ok (.iastore, 1) := by decide +kernel
theorem si_41_36 : decode (sp_b 41) 36 = .ok (.aload_n 0, 1) := by decide +kernel
theorem si_41_37 : decode (sp_b 41) 37 = .ok (.getfield 11, 3) := by decide +kernel
theorem si_41_40 : decode (sp_b 41) 40 = .ok (.iload_n 2, 1) := by decide +kernel
theorem si_41_41 : decode (sp_b 41) 41 = .ok (.bipush 6, 2) := by decide +kernel
theorem si_41_43 : decode (sp_b 41) 43 = .ok (.iadd, 1) := by decide +kernel
theorem si_41_44 : decode (sp_b 41) 44 = .ok (.iconst 1, 1) := by decide +kernel
theorem si_41_45 : decode (sp_b 41) 45 = .ok (.iadd, 1) := by decide +kernel
theorem si_41_46 : decode (sp_b 41) 46 = .ok (.aload_n 1, 1) := by decide +kernel
theorem si_41_47 : decode (sp_b 41) 47 = .ok (.getfield 44, 3) := by decide +kernel
theorem sf_41_44 : sp_okF 41 44 2 2 172 = true := by decide +kernel
theorem si_41_50 : decode (sp_b 41) 50 = .ok (.iastore, 1) := by decide +kernel
theorem si_41_51 : decode (sp_b 41) 51 = .ok (.aload_n 0, 1) := by decide +kernel
theorem si_41_52 : decode (sp_b 41) 52 = .ok (.getfield 11, 3) := by decide +kernel
theorem si_41_55 : decode (sp_b 41) 55 = .ok (.iload_n 2, 1) := by decide +kernel
theorem si_41_56 : decode (sp_b 41) 56 = .ok (.bipush 6, 2) := by decide +kernel
theorem si_41_58 : decode (sp_b 41) 58 = .ok (.iadd, 1) := by decide +kernel
theorem si_41_59 : decode (sp_b 41) 59 = .ok (.iconst 2, 1) := by decide +kernel
theorem si_41_60 : decode (sp_b 41) 60 = .ok (.iadd, 1) := by decide +kernel
theorem si_41_61 : decode (sp_b 41) 61 = .ok (.aload_n 1, 1) := by decide +kernel
theorem si_41_62 : decode (sp_b 41) 62 = .ok (.getfield 47, 3) := by decide +kernel
theorem sf_41_47 : sp_okF 41 47 2 3 176 = true := by decide +kernel
theorem si_41_65 : decode (sp_b 41) 65 = .ok (.iastore, 1) := by decide +kernel
theorem si_41_66 : decode (sp_b 41) 66 = .ok (.return_, 1) := by decide +kernel
theorem si_42_0 : decode (sp_b 42) 0 = .ok (.aload_n 0, 1) := by decide +kernel
theorem si_42_1 : decode (sp_b 42) 1 = .ok (.getfield 32, 3) := by decide +kernel
theorem sf_42_32 : sp_okF 42 32 7 3 265 = true := by decide +kernel
theorem si_42_4 : decode (sp_b 42) 4 = .ok (.iload_n 1, 1) := by decide +kernel
theorem si_42_5 : decode (sp_b 42) 5 = .ok (.invokevirtual 148, 3) := by decide +kernel
theorem sk_42_148 : sp_okL 42 148 43 447 = true := by decide +kernel
theorem si_42_8 : decode (sp_b 42) 8 = .ok (.ifCond .eq 12, 3) := by decide +kernel
theorem si_42_11 : decode (sp_b 42) 11 = .ok (.iload_n 2, 1) := by decide +kernel
theorem si_42_12 : decode (sp_b 42) 12 = .ok (.ifCond .lt 8, 3) := by decide +kernel
theorem si_42_15 : decode (sp_b 42) 15 = .ok (.iload_n 2, 1) := by decide +kernel
theorem si_42_16 : decode (sp_b 42) 16 = .ok (.iconst 5, 1) := by decide +kernel
theorem si_42_17 : decode (sp_b 42) 17 = .ok (.if_icmp .lt 5, 3) := by decide +kernel
theorem si_42_20 : decode (sp_b 42) 20 = .ok (.iconst (-1), 1) := by decide +kernel
theorem si_42_21 : decode (sp_b 42) 21 = .ok (.ireturn, 1) := by decide +kernel
theorem si_42_22 : decode (sp_b 42) 22 = .ok (.aload_n 0, 1) := by decide +kernel
theorem si_42_23 : decode (sp_b 42) 23 = .ok (.aload_n 0, 1) := by decide +kernel
theorem si_42_24 : decode (sp_b 42) 24 = .ok (.iload_n 1, 1) := by decide +kernel
theorem si_42_25 : decode (sp_b 42) 25 = .ok (.iload_n 2, 1) := by decide +kernel
theorem si_42_26 : decode (sp_b 42) 26 = .ok (.invokevirtual 151, 3) := by decide +kernel
theorem sk_42_151 : sp_okL 42 151 44 451 = true := by decide +kernel
theorem si_42_29 : decode (sp_b 42) 29 = .ok (.putfield 92, 3) := by decide +kernel
theorem sf_42_92 : sp_okF 42 92 7 12 274 = true := by decide +kernel
theorem si_42_32 : decode (sp_b 42) 32 = .ok (.iconst 1, 1) := by decide +kernel
theorem si_42_33 : decode (sp_b 42) 33 = .ok (.ireturn, 1) := by decide +kernel
theorem si_43_0 : decode (sp_b 43) 0 = .ok (.iload_n 1, 1) := by decide +kernel
theorem si_43_1 : decode (sp_b 43) 1 = .ok (.ifCond .lt 15, 3) := by decide +kernel
theorem si_43_4 : decode (sp_b 43) 4 = .ok (.iload_n 1, 1) := by decide +kernel
theorem si_43_5 : decode (sp_b 43) 5 = .ok (.aload_n 0, 1) := by decide +kernel
theorem si_43_6 : decode (sp_b 43) 6 = .ok (.getfield 21, 3) := by decide +kernel
theorem sf_43_21 : sp_okF 43 21 0 3 127 = true := by decide +kernel
theorem si_43_9 : decode (sp_b 43) 9 = .ok (.if_icmp .ge 7, 3) := by decide +kernel
theorem si_43_12 : decode (sp_b 43) 12 = .ok (.iconst 1, 1) := by decide +kernel
theorem si_43_13 : decode (sp_b 43) 13 = .ok (.goto 4, 3) := by decide +kernel
theorem si_43_16 : decode (sp_b 43) 16 = .ok (.iconst 0, 1) := by decide +kernel
theorem si_43_17 : decode (sp_b 43) 17 = .ok (.ireturn, 1) := by decide +kernel
theorem si_44_0 : decode (sp_b 44) 0 = .ok (.iload_n 2, 1) := by decide +kernel
theorem si_44_1 : decode (sp_b 44) 1 = .ok (.tableswitch 71 0 3 #[31, 41, 51, 61], 31) := by decide +kernel
theorem si_44_32 : decode (sp_b 44) 32 = .ok (.aload_n 0, 1) := by decide +kernel
theorem si_44_33 : decode (sp_b 44) 33 = .ok (.getfield 32, 3) := by decide +kernel
theorem sf_44_32 : sp_okF 44 32 7 3 265 = true := by decide +kernel
theorem si_44_36 : decode (sp_b 44) 36 = .ok (.getfield 313, 3) := by decide +kernel
theorem sf_44_313 : sp_okF 44 313 0 0 120 = true := by decide +kernel
theorem si_44_39 : decode (sp_b 44) 39 = .ok (.iload_n 1, 1) := by decide +kernel
theorem si_44_40 : decode (sp_b 44) 40 = .ok (.iaload, 1) := by decide +kernel
theorem si_44_41 : decode (sp_b 44) 41 = .ok (.ireturn, 1) := by decide +kernel
theorem si_44_42 : decode (sp_b 44) 42 = .ok (.aload_n 0, 1) := by decide +kernel
theorem si_44_43 : decode (sp_b 44) 43 = .ok (.getfield 32, 3) := by decide +kernel
theorem si_44_46 : decode (sp_b 44) 46 = .ok (.getfield 166, 3) := by decide +kernel
theorem sf_44_166 : sp_okF 44 166 0 1 123 = true := by decide +kernel
theorem si_44_49 : decode (sp_b 44) 49 = .ok (.iload_n 1, 1) := by decide +kernel
theorem si_44_50 : decode (sp_b 44) 50 = .ok (.iaload, 1) := by decide +kernel
theorem si_44_51 : decode (sp_b 44) 51 = .ok (.ireturn, 1) := by decide +kernel
theorem si_44_52 : decode (sp_b 44) 52 = .ok (.aload_n 0, 1) := by decide +kernel
theorem si_44_53 : decode (sp_b 44) 53 = .ok (.getfield 36, 3) := by decide +kernel
theorem sf_44_36 : sp_okF 44 36 7 4 266 = true := by decide +kernel
theorem si_44_56 : decode (sp_b 44) 56 = .ok (.getfield 158, 3) := by decide +kernel
theorem sf_44_158 : sp_okF 44 158 2 0 167 = true := by decide +kernel
theorem si_44_59 : decode (sp_b 44) 59 = .ok (.iload_n 1, 1) := by decide +kernel
theorem si_44_60 : decode (sp_b 44) 60 = .ok (.iaload, 1) := by decide +kernel
theorem si_44_61 : decode (sp_b 44) 61 = .ok (.ireturn, 1) := by decide +kernel
theorem si_44_62 : decode (sp_b 44) 62 = .ok (.aload_n 0, 1) := by decide +kernel
theorem si_44_63 : decode (sp_b 44) 63 = .ok (.getfield 32, 3) := by decide +kernel
theorem si_44_66 : decode (sp_b 44) 66 = .ok (.getfield 199, 3) := by decide +kernel
theorem sf_44_199 : sp_okF 44 199 0 2 126 = true := by decide +kernel
theorem si_44_69 : decode (sp_b 44) 69 = .ok (.iload_n 1, 1) := by decide +kernel
theorem si_44_70 : decode (sp_b 44) 70 = .ok (.iaload, 1) := by decide +kernel
theorem si_44_71 : decode (sp_b 44) 71 = .ok (.ireturn, 1) := by decide +kernel
theorem si_44_72 : decode (sp_b 44) 72 = .ok (.aload_n 0, 1) := by decide +kernel
theorem si_44_73 : decode (sp_b 44) 73 = .ok (.getfield 32, 3) := by decide +kernel
theorem si_44_76 : decode (sp_b 44) 76 = .ok (.iload_n 1, 1) := by decide +kernel
theorem si_44_77 : decode (sp_b 44) 77 = .ok (.aload_n 0, 1) := by decide +kernel
theorem si_44_78 : decode (sp_b 44) 78 = .ok (.getfield 36, 3) := by decide +kernel
theorem si_44_81 : decode (sp_b 44) 81 = .ok (.invokevirtual 185, 3) := by decide +kernel
theorem sk_44_185 : sp_okL 44 185 45 455 = true := by decide +kernel
theorem si_44_84 : decode (sp_b 44) 84 = .ok (.ifCond .eq 7, 3) := by decide +kernel
theorem si_44_87 : decode (sp_b 44) 87 = .ok (.iconst 1, 1) := by decide +kernel
theorem si_44_88 : decode (sp_b 44) 88 = .ok (.goto 4, 3) := by decide +kernel
theorem si_44_91 : decode (sp_b 44) 91 = .ok (.iconst 0, 1) := by decide +kernel
theorem si_44_92 : decode (sp_b 44) 92 = .ok (.ireturn, 1) := by decide +kernel
theorem si_45_0 : decode (sp_b 45) 0 = .ok (.aload_n 0, 1) := by decide +kernel
theorem si_45_1 : decode (sp_b 45) 1 = .ok (.getfield 9, 3) := by decide +kernel
theorem sf_45_9 : sp_okF 45 9 0 0 118 = true := by decide +kernel
theorem si_45_4 : decode (sp_b 45) 4 = .ok (.iload_n 1, 1) := by decide +kernel
theorem si_45_5 : decode (sp_b 45) 5 = .ok (.iaload, 1) := by decide +kernel
theorem si_45_6 : decode (sp_b 45) 6 = .ok (.lookupswitch 51 #[(2, 28), (5, 26)], 26) := by decide +kernel
theorem si_45_32 : decode (sp_b 45) 32 = .ok (.iconst 1, 1) := by decide +kernel
theorem si_45_33 : decode (sp_b 45) 33 = .ok (.ireturn, 1) := by decide +kernel
theorem si_45_34 : decode (sp_b 45) 34 = .ok (.aload_n 2, 1) := by decide +kernel
theorem si_45_35 : decode (sp_b 45) 35 = .ok (.getfield 48, 3) := by decide +kernel
theorem sf_45_48 : sp_okF 45 48 2 0 166 = true := by decide +kernel
theorem si_45_38 : decode (sp_b 45) 38 = .ok (.iload_n 1, 1) := by decide +kernel
theorem si_45_39 : decode (sp_b 45) 39 = .ok (.iaload, 1) := by decide +kernel
theorem si_45_40 : decode (sp_b 45) 40 = .ok (.aload_n 0, 1) := by decide +kernel
theorem si_45_41 : decode (sp_b 45) 41 = .ok (.getfield 15, 3) := by decide +kernel
theorem sf_45_15 : sp_okF 45 15 0 1 121 = true := by decide +kernel
theorem si_45_44 : decode (sp_b 45) 44 = .ok (.iload_n 1, 1) := by decide +kernel
theorem si_45_45 : decode (sp_b 45) 45 = .ok (.iaload, 1) := by decide +kernel
theorem si_45_46 : decode (sp_b 45) 46 = .ok (.iconst 2, 1) := by decide +kernel
theorem si_45_47 : decode (sp_b 45) 47 = .ok (.iadd, 1) := by decide +kernel
theorem si_45_48 : decode (sp_b 45) 48 = .ok (.if_icmp .gt 7, 3) := by decide +kernel
theorem si_45_51 : decode (sp_b 45) 51 = .ok (.iconst 1, 1) := by decide +kernel
theorem si_45_52 : decode (sp_b 45) 52 = .ok (.goto 4, 3) := by decide +kernel
theorem si_45_55 : decode (sp_b 45) 55 = .ok (.iconst 0, 1) := by decide +kernel
theorem si_45_56 : decode (sp_b 45) 56 = .ok (.ireturn, 1) := by decide +kernel
theorem si_45_57 : decode (sp_b 45) 57 = .ok (.aload_n 2, 1) := by decide +kernel
theorem si_45_58 : decode (sp_b 45) 58 = .ok (.getfield 48, 3) := by decide +kernel
theorem si_45_61 : decode (sp_b 45) 61 = .ok (.iload_n 1, 1) := by decide +kernel
theorem si_45_62 : decode (sp_b 45) 62 = .ok (.iaload, 1) := by decide +kernel
theorem si_45_63 : decode (sp_b 45) 63 = .ok (.aload_n 0, 1) := by decide +kernel
theorem si_45_64 : decode (sp_b 45) 64 = .ok (.getfield 15, 3) := by decide +kernel
theorem si_45_67 : decode (sp_b 45) 67 = .ok (.iload_n 1, 1) := by decide +kernel
theorem si_45_68 : decode (sp_b 45) 68 = .ok (.iaload, 1) := by decide +kernel
theorem si_45_69 : decode (sp_b 45) 69 = .ok (.if_icmp .gt 7, 3) := by decide +kernel
theorem si_45_72 : decode (sp_b 45) 72 = .ok (.iconst 1, 1) := by decide +kernel
theorem si_45_73 : decode (sp_b 45) 73 = .ok (.goto 4, 3) := by decide +kernel
theorem si_45_76 : decode (sp_b 45) 76 = .ok (.iconst 0, 1) := by decide +kernel
theorem si_45_77 : decode (sp_b 45) 77 = .ok (.ireturn, 1) := by decide +kernel
theorem si_46_0 : decode (sp_b 46) 0 = .ok (.aload_n 0, 1) := by decide +kernel
theorem si_46_1 : decode (sp_b 46) 1 = .ok (.getfield 32, 3) := by decide +kernel
theorem sf_46_32 : sp_okF 46 32 7 3 265 = true := by decide +kernel
theorem si_46_4 : decode (sp_b 46) 4 = .ok (.iload_n 1, 1) := by decide +kernel
theorem si_46_5 : decode (sp_b 46) 5 = .ok (.invokevirtual 148, 3) := by decide +kernel
theorem sk_46_148 : sp_okL 46 148 43 447 = true := by decide +kernel
theorem si_46_8 : decode (sp_b 46) 8 = .ok (.ifCond .eq 13, 3) := by decide +kernel
theorem si_46_11 : decode (sp_b 46) 11 = .ok (.iload_n 2, 1) := by decide +kernel
theorem si_46_12 : decode (sp_b 46) 12 = .ok (.iconst 1, 1) := by decide +kernel
theorem si_46_13 : decode (sp_b 46) 13 = .ok (.if_icmp .lt 8, 3) := by decide +kernel
theorem si_46_16 : decode (sp_b 46) 16 = .ok (.iload_n 2, 1) := by decide +kernel
theorem si_46_17 : decode (sp_b 46) 17 = .ok (.iconst 5, 1) := by decide +kernel
theorem si_46_18 : decode (sp_b 46) 18 = .ok (.if_icmp .le 5, 3) := by decide +kernel
theorem si_46_21 : decode (sp_b 46) 21 = .ok (.iconst (-1), 1) := by decide +kernel
theorem si_46_22 : decode (sp_b 46) 22 = .ok (.ireturn, 1) := by decide +kernel
theorem si_46_23 : decode (sp_b 46) 23 = .ok (.aload_n 0, 1) := by decide +kernel
theorem si_46_24 : decode (sp_b 46) 24 = .ok (.getfield 32, 3) := by decide +kernel
theorem si_46_27 : decode (sp_b 46) 27 = .ok (.iload_n 1, 1) := by decide +kernel
theorem si_46_28 : decode (sp_b 46) 28 = .ok (.iload_n 2, 1) := by decide +kernel
theorem si_46_29 : decode (sp_b 46) 29 = .ok (.invokevirtual 154, 3) := by decide +kernel
theorem sk_46_154 : sp_okL 46 154 47 463 = true := by decide +kernel
theorem si_46_32 : decode (sp_b 46) 32 = .ok (.ifCond .ne 9, 3) := by decide +kernel
theorem si_46_35 : decode (sp_b 46) 35 = .ok (.aload_n 0, 1) := by decide +kernel
theorem si_46_36 : decode (sp_b 46) 36 = .ok (.iconst 3, 1) := by decide +kernel
theorem si_46_37 : decode (sp_b 46) 37 = .ok (.invokevirtual 76, 3) := by decide +kernel
theorem sk_46_76 : sp_okL 46 76 12 316 = true := by decide +kernel
theorem si_46_40 : decode (sp_b 46) 40 = .ok (.ireturn, 1) := by decide +kernel
theorem si_46_41 : decode (sp_b 46) 41 = .ok (.iload_n 2, 1) := by decide +kernel
theorem si_46_42 : decode (sp_b 46) 42 = .ok (.tableswitch 96 1 4 #[30, 44, 68, 94], 30) := by decide +kernel
theorem si_46_72 : decode (sp_b 46) 72 = .ok (.iconst 2, 1) := by decide +kernel
theorem si_46_73 : decode (sp_b 46) 73 = .ok (.aload_n 0, 1) := by decide +kernel
theorem si_46_74 : decode (sp_b 46) 74 = .ok (.getfield 36, 3) := by decide +kernel
theorem sf_46_36 : sp_okF 46 36 7 4 266 = true := by decide +kernel
theorem si_46_77 : decode (sp_b 46) 77 = .ok (.getfield 158, 3) := by decide +kernel
theorem sf_46_158 : sp_okF 46 158 2 0 167 = true := by decide +kernel
theorem si_46_80 : decode (sp_b 46) 80 = .ok (.iload_n 1, 1) := by decide +kernel
theorem si_46_81 : decode (sp_b 46) 81 = .ok (.iaload, 1) := by decide +kernel
theorem si_46_82 : decode (sp_b 46) 82 = .ok (.invokestatic 161, 3) := by decide +kernel
theorem sk_46_161 : sp_okL 46 161 48 469 = true := by decide +kernel
theorem si_46_85 : decode (sp_b 46) 85 = .ok (.ireturn, 1) := by decide +kernel
theorem si_46_86 : decode (sp_b 46) 86 = .ok (.iconst 0, 1) := by decide +kernel
theorem si_46_87 : decode (sp_b 46) 87 = .ok (.aload_n 0, 1) := by decide +kernel
theorem si_46_88 : decode (sp_b 46) 88 = .ok (.getfield 36, 3) := by decide +kernel
theorem si_46_91 : decode (sp_b 46) 91 = .ok (.getfield 158, 3) := by decide +kernel
theorem si_46_94 : decode (sp_b 46) 94 = .ok (.iload_n 1, 1) := by decide +kernel
theorem si_46_95 : decode (sp_b 46) 95 = .ok (.iaload, 1) := by decide +kernel
theorem si_46_96 : decode (sp_b 46) 96 = .ok (.aload_n 0, 1) := by decide +kernel
theorem si_46_97 : decode (sp_b 46) 97 = .ok (.getfield 32, 3) := by decide +kernel
theorem si_46_100 : decode (sp_b 46) 100 = .ok (.getfield 166, 3) := by decide +kernel
theorem sf_46_166 : sp_okF 46 166 0 1 123 = true := by decide +kernel
theorem si_46_103 : decode (sp_b 46) 103 = .ok (.iload_n 1, 1) := by decide +kernel
theorem si_46_104 : decode (sp_b 46) 104 = .ok (.iaload, 1) := by decide +kernel
theorem si_46_105 : decode (sp_b 46) 105 = .ok (.isub, 1) := by decide +kernel
theorem si_46_106 : decode (sp_b 46) 106 = .ok (.invokestatic 169, 3) := by decide +kernel
theorem sk_46_169 : sp_okL 46 169 49 472 = true := by decide +kernel
theorem si_46_109 : decode (sp_b 46) 109 = .ok (.ireturn, 1) := by decide +kernel
theorem si_46_110 : decode (sp_b 46) 110 = .ok (.iload_n 1, 1) := by decide +kernel
theorem si_46_111 : decode (sp_b 46) 111 = .ok (.ifCond .le 17, 3) := by decide +kernel
theorem si_46_114 : decode (sp_b 46) 114 = .ok (.aload_n 0, 1) := by decide +kernel
theorem si_46_115 : decode (sp_b 46) 115 = .ok (.getfield 36, 3) := by decide +kernel
theorem si_46_118 : decode (sp_b 46) 118 = .ok (.getfield 158, 3) := by decide +kernel
theorem si_46_121 : decode (sp_b 46) 121 = .ok (.iload_n 1, 1) := by decide +kernel
theorem si_46_122 : decode (sp_b 46) 122 = .ok (.iconst 1, 1) := by decide +kernel
theorem si_46_123 : decode (sp_b 46) 123 = .ok (.isub, 1) := by decide +kernel
theorem si_46_124 : decode (sp_b 46) 124 = .ok (.iaload, 1) := by decide +kernel
theorem si_46_125 : decode (sp_b 46) 125 = .ok (.goto 10, 3) := by decide +kernel
theorem si_46_128 : decode (sp_b 46) 128 = .ok (.aload_n 0, 1) := by decide +kernel
theorem si_46_129 : decode (sp_b 46) 129 = .ok (.getfield 36, 3) := by decide +kernel
theorem si_46_132 : decode (sp_b 46) 132 = .ok (.getfield 172, 3) := by decide +kernel
theorem sf_46_172 : sp_okF 46 172 2 1 170 = true := by decide +kernel
theorem si_46_135 : decode (sp_b 46) 135 = .ok (.ireturn, 1) := by decide +kernel
theorem si_46_136 : decode (sp_b 46) 136 = .ok (.iload_n 1, 1) := by decide +kernel
theorem si_46_137 : decode (sp_b 46) 137 = .ok (.ireturn, 1) := by decide +kernel
theorem si_46_138 : decode (sp_b 46) 138 = .ok (.aload_n 0, 1) := by decide +kernel
theorem si_46_139 : decode (sp_b 46) 139 = .ok (.getfield 32, 3) := by decide +kernel
theorem si_46_142 : decode (sp_b 46) 142 = .ok (.getfield 145, 3) := by decide +kernel
theorem sf_46_145 : sp_okF 46 145 0 3 130 = true := by decide +kernel
theorem si_46_145 : decode (sp_b 46) 145 = .ok (.aload_n 0, 1) := by decide +kernel
theorem si_46_146 : decode (sp_b 46) 146 = .ok (.getfield 32, 3) := by decide +kernel
theorem si_46_149 : decode (sp_b 46) 149 = .ok (.aload_n 0, 1) := by decide +kernel
theorem si_46_150 : decode (sp_b 46) 150 = .ok (.getfield 36, 3) := by decide +kernel
theorem si_46_153 : decode (sp_b 46) 153 = .ok (.invokevirtual 175, 3) := by decide +kernel
theorem sk_46_175 : sp_okL 46 175 50 475 = true := by decide +kernel
theorem si_46_156 : decode (sp_b 46) 156 = .ok (.invokestatic 179, 3) := by decide +kernel
theorem sk_46_179 : sp_okL 46 179 51 480 = true := by decide +kernel
theorem si_46_159 : decode (sp_b 46) 159 = .ok (.isub, 1) := by decide +kernel
theorem si_46_160 : decode (sp_b 46) 160 = .ok (.ireturn, 1) := by decide +kernel
theorem si_47_0 : decode (sp_b 47) 0 = .ok (.aload_n 0, 1) := by decide +kernel
theorem si_47_1 : decode (sp_b 47) 1 = .ok (.getfield 9, 3) := by decide +kernel
theorem sf_47_9 : sp_okF 47 9 0 0 118 = true := by decide +kernel
theorem si_47_4 : decode (sp_b 47) 4 = .ok (.iload_n 1, 1) := by decide +kernel
theorem si_47_5 : decode (sp_b 47) 5 = .ok (.iaload, 1) := by decide +kernel
theorem si_47_6 : decode (sp_b 47) 6 = .ok (.iload_n 2, 1) := by decide +kernel
theorem si_47_7 : decode (sp_b 47) 7 = .ok (.if_icmp .eq 17, 3) := by decide +kernel
theorem si_47_10 : decode (sp_b 47) 10 = .ok (.getstatic 31, 3) := by decide +kernel
theorem si_47_13 : decode (sp_b 47) 13 = .ok (.aload_n 0, 1) := by decide +kernel
theorem si_47_14 : decode (sp_b 47) 14 = .ok (.getfield 9, 3) := by decide +kernel
theorem si_47_17 : decode (sp_b 47) 17 = .ok (.iload_n 1, 1) := by decide +kernel
theorem si_47_18 : decode (sp_b 47) 18 = .ok (.iaload, 1) := by decide +kernel
theorem si_47_19 : decode (sp_b 47) 19 = .ok (.iaload, 1) := by decide +kernel
theorem si_47_20 : decode (sp_b 47) 20 = .ok (.iload_n 2, 1) := by decide +kernel
theorem si_47_21 : decode (sp_b 47) 21 = .ok (.if_icmp .ne 7, 3) := by decide +kernel
theorem si_47_24 : decode (sp_b 47) 24 = .ok (.iconst 1, 1) := by decide +kernel
theorem si_47_25 : decode (sp_b 47) 25 = .ok (.goto 4, 3) := by decide +kernel
theorem si_47_28 : decode (sp_b 47) 28 = .ok (.iconst 0, 1) := by decide +kernel
theorem si_47_29 : decode (sp_b 47) 29 = .ok (.ireturn, 1) := by decide +kernel
theorem si_50_0 : decode (sp_b 50) 0 = .ok (.iconst 0, 1) := by decide +kernel
theorem si_50_1 : decode (sp_b 50) 1 = .ok (.istore_n 2, 1) := by decide +kernel
theorem si_50_2 : decode (sp_b 50) 2 = .ok (.iconst 0, 1) := by decide +kernel
theorem si_50_3 : decode (sp_b 50) 3 = .ok (.istore_n 3, 1) := by decide +kernel
theorem si_50_4 : decode (sp_b 50) 4 = .ok (.iload_n 3, 1) := by decide +kernel
theorem si_50_5 : decode (sp_b 50) 5 = .ok (.aload_n 0, 1) := by decide +kernel
theorem si_50_6 : decode (sp_b 50) 6 = .ok (.getfield 21, 3) := by decide +kernel
theorem sf_50_21 : sp_okF 50 21 0 3 127 = true := by decide +kernel
theorem si_50_9 : decode (sp_b 50) 9 = .ok (.if_icmp .ge 24, 3) := by decide +kernel
theorem si_50_12 : decode (sp_b 50) 12 = .ok (.aload_n 0, 1) := by decide +kernel
theorem si_50_13 : decode (sp_b 50) 13 = .ok (.iload_n 3, 1) := by decide +kernel
theorem si_50_14 : decode (sp_b 50) 14 = .ok (.aload_n 1, 1) := by decide +kernel
theorem si_50_15 : decode (sp_b 50) 15 = .ok (.invokevirtual 53, 3) := by decide +kernel
theorem sk_50_53 : sp_okL 50 53 45 479 = true := by decide +kernel
theorem si_50_18 : decode (sp_b 50) 18 = .ok (.ifCond .eq 9, 3) := by decide +kernel
theorem si_50_21 : decode (sp_b 50) 21 = .ok (.iload_n 2, 1) := by decide +kernel
theorem si_50_22 : decode (sp_b 50) 22 = .ok (.iconst 1, 1) := by decide +kernel
theorem si_50_23 : decode (sp_b 50) 23 = .ok (.iload_n 3, 1) := by decide +kernel
theorem si_50_24 : decode (sp_b 50) 24 = .ok (.ishl, 1) := by decide +kernel
theorem si_50_25 : decode (sp_b 50) 25 = .ok (.ior, 1) := by decide +kernel
theorem si_50_26 : decode (sp_b 50) 26 = .ok (.istore_n 2, 1) := by decide +kernel
theorem si_50_27 : decode (sp_b 50) 27 = .ok (.iinc 3 1, 3) := by decide +kernel
theorem si_50_30 : decode (sp_b 50) 30 = .ok (.goto (-26), 3) := by decide +kernel
theorem si_50_33 : decode (sp_b 50) 33 = .ok (.iload_n 2, 1) := by decide +kernel
theorem si_50_34 : decode (sp_b 50) 34 = .ok (.ireturn, 1) := by decide +kernel
theorem si_51_0 : decode (sp_b 51) 0 = .ok (.iload_n 0, 1) := by decide +kernel
theorem si_51_1 : decode (sp_b 51) 1 = .ok (.iload_n 0, 1) := by decide +kernel
theorem si_51_2 : decode (sp_b 51) 2 = .ok (.iconst 1, 1) := by decide +kernel
theorem si_51_3 : decode (sp_b 51) 3 = .ok (.iushr, 1) := by decide +kernel
theorem si_51_4 : decode (sp_b 51) 4 = .ok (.ldc_w 265, 3) := by decide +kernel
theorem sc_51_265 : sp_okC 51 265 483 (1431655765) = true := by decide +kernel
theorem si_51_7 : decode (sp_b 51) 7 = .ok (.iand, 1) := by decide +kernel
theorem si_51_8 : decode (sp_b 51) 8 = .ok (.isub, 1) := by decide +kernel
theorem si_51_9 : decode (sp_b 51) 9 = .ok (.istore_n 0, 1) := by decide +kernel
theorem si_51_10 : decode (sp_b 51) 10 = .ok (.iload_n 0, 1) := by decide +kernel
theorem si_51_11 : decode (sp_b 51) 11 = .ok (.ldc_w 266, 3) := by decide +kernel
theorem sc_51_266 : sp_okC 51 266 484 (858993459) = true := by decide +kernel
theorem si_51_14 : decode (sp_b 51) 14 = .ok (.iand, 1) := by decide +kernel
theorem si_51_15 : decode (sp_b 51) 15 = .ok (.iload_n 0, 1) := by decide +kernel
theorem si_51_16 : decode (sp_b 51) 16 = .ok (.iconst 2, 1) := by decide +kernel
theorem si_51_17 : decode (sp_b 51) 17 = .ok (.iushr, 1) := by decide +kernel
theorem si_51_18 : decode (sp_b 51) 18 = .ok (.ldc_w 266, 3) := by decide +kernel
theorem si_51_21 : decode (sp_b 51) 21 = .ok (.iand, 1) := by decide +kernel
theorem si_51_22 : decode (sp_b 51) 22 = .ok (.iadd, 1) := by decide +kernel
theorem si_51_23 : decode (sp_b 51) 23 = .ok (.istore_n 0, 1) := by decide +kernel
theorem si_51_24 : decode (sp_b 51) 24 = .ok (.iload_n 0, 1) := by decide +kernel
theorem si_51_25 : decode (sp_b 51) 25 = .ok (.iload_n 0, 1) := by decide +kernel
theorem si_51_26 : decode (sp_b 51) 26 = .ok (.iconst 4, 1) := by decide +kernel
theorem si_51_27 : decode (sp_b 51) 27 = .ok (.iushr, 1) := by decide +kernel
theorem si_51_28 : decode (sp_b 51) 28 = .ok (.iadd, 1) := by decide +kernel
theorem si_51_29 : decode (sp_b 51) 29 = .ok (.ldc_w 267, 3) := by decide +kernel
theorem sc_51_267 : sp_okC 51 267 485 (252645135) = true := by decide +kernel
theorem si_51_32 : decode (sp_b 51) 32 = .ok (.iand, 1) := by decide +kernel
theorem si_51_33 : decode (sp_b 51) 33 = .ok (.istore_n 0, 1) := by decide +kernel
theorem si_51_34 : decode (sp_b 51) 34 = .ok (.iload_n 0, 1) := by decide +kernel
theorem si_51_35 : decode (sp_b 51) 35 = .ok (.iload_n 0, 1) := by decide +kernel
theorem si_51_36 : decode (sp_b 51) 36 = .ok (.bipush 8, 2) := by decide +kernel
theorem si_51_38 : decode (sp_b 51) 38 = .ok (.iushr, 1) := by decide +kernel
theorem si_51_39 : decode (sp_b 51) 39 = .ok (.iadd, 1) := by decide +kernel
theorem si_51_40 : decode (sp_b 51) 40 = .ok (.istore_n 0, 1) := by decide +kernel
theorem si_51_41 : decode (sp_b 51) 41 = .ok (.iload_n 0, 1) := by decide +kernel
theorem si_51_42 : decode (sp_b 51) 42 = .ok (.iload_n 0, 1) := by decide +kernel
theorem si_51_43 : decode (sp_b 51) 43 = .ok (.bipush 16, 2) := by decide +kernel
theorem si_51_45 : decode (sp_b 51) 45 = .ok (.iushr, 1) := by decide +kernel
theorem si_51_46 : decode (sp_b 51) 46 = .ok (.iadd, 1) := by decide +kernel
theorem si_51_47 : decode (sp_b 51) 47 = .ok (.istore_n 0, 1) := by decide +kernel
theorem si_51_48 : decode (sp_b 51) 48 = .ok (.iload_n 0, 1) := by decide +kernel
theorem si_51_49 : decode (sp_b 51) 49 = .ok (.bipush 63, 2) := by decide +kernel
theorem si_51_51 : decode (sp_b 51) 51 = .ok (.iand, 1) := by decide +kernel
theorem si_51_52 : decode (sp_b 51) 52 = .ok (.ireturn, 1) := by decide +kernel
theorem si_52_0 : decode (sp_b 52) 0 = .ok (.iload_n 1, 1) := by decide +kernel
theorem si_52_1 : decode (sp_b 52) 1 = .ok (.iconst 1, 1) := by decide +kernel
theorem si_52_2 : decode (sp_b 52) 2 = .ok (.if_icmp .lt 9, 3) := by decide +kernel
theorem si_52_5 : decode (sp_b 52) 5 = .ok (.iload_n 1, 1) := by decide +kernel
theorem si_52_6 : decode (sp_b 52) 6 = .ok (.bipush 9, 2) := by decide +kernel
theorem si_52_8 : decode (sp_b 52) 8 = .ok (.if_icmp .le 5, 3) := by decide +kernel
theorem si_52_11 : decode (sp_b 52) 11 = .ok (.iconst (-1), 1) := by decide +kernel
theorem si_52_12 : decode (sp_b 52) 12 = .ok (.ireturn, 1) := by decide +kernel
theorem si_52_13 : decode (sp_b 52) 13 = .ok (.aload_n 0, 1) := by decide +kernel
theorem si_52_14 : decode (sp_b 52) 14 = .ok (.getfield 32, 3) := by decide +kernel
theorem sf_52_32 : sp_okF 52 32 7 3 265 = true := by decide +kernel
theorem si_52_17 : decode (sp_b 52) 17 = .ok (.getfield 145, 3) := by decide +kernel
theorem sf_52_145 : sp_okF 52 145 0 3 130 = true := by decide +kernel
theorem si_52_20 : decode (sp_b 52) 20 = .ok (.ifCond .ne 6, 3) := by decide +kernel
theorem si_52_23 : decode (sp_b 52) 23 = .ok (.bipush (-4), 2) := by decide +kernel
theorem si_52_25 : decode (sp_b 52) 25 = .ok (.ireturn, 1) := by decide +kernel
theorem si_52_26 : decode (sp_b 52) 26 = .ok (.aload_n 0, 1) := by decide +kernel
theorem si_52_27 : decode (sp_b 52) 27 = .ok (.getfield 49, 3) := by decide +kernel
theorem sf_52_49 : sp_okF 52 49 7 7 269 = true := by decide +kernel
theorem si_52_30 : decode (sp_b 52) 30 = .ok (.getfield 184, 3) := by decide +kernel
theorem sf_52_184 : sp_okF 52 184 6 2 226 = true := by decide +kernel
theorem si_52_33 : decode (sp_b 52) 33 = .ok (.istore_n 2, 1) := by decide +kernel
theorem si_52_34 : decode (sp_b 52) 34 = .ok (.aload_n 0, 1) := by decide +kernel
theorem si_52_35 : decode (sp_b 52) 35 = .ok (.getfield 49, 3) := by decide +kernel
theorem si_52_38 : decode (sp_b 52) 38 = .ok (.iload_n 1, 1) := by decide +kernel
theorem si_52_39 : decode (sp_b 52) 39 = .ok (.putfield 184, 3) := by decide +kernel
theorem si_52_42 : decode (sp_b 52) 42 = .ok (.iload_n 2, 1) := by decide +kernel
theorem si_52_43 : decode (sp_b 52) 43 = .ok (.ireturn, 1) := by decide +kernel
