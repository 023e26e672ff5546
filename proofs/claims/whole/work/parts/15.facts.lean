theorem si_200_0 : decode (sp_b 200) 0 = .ok (.iload_n 1, 1) := by decide +kernel
theorem si_200_1 : decode (sp_b 200) 1 = .ok (.invokestatic 93, 3) := by decide +kernel
theorem sk_200_93 : sp_okL 200 93 140 974 = true := by decide +kernel
theorem si_200_4 : decode (sp_b 200) 4 = .ok (.ifCond .ne 5, 3) := by decide +kernel
theorem si_200_7 : decode (sp_b 200) 7 = .ok (.iconst (-1), 1) := by decide +kernel
theorem si_200_8 : decode (sp_b 200) 8 = .ok (.ireturn, 1) := by decide +kernel
theorem si_200_9 : decode (sp_b 200) 9 = .ok (.aload_n 0, 1) := by decide +kernel
theorem si_200_10 : decode (sp_b 200) 10 = .ok (.getfield 142, 3) := by decide +kernel
theorem sf_200_142 : sp_okF 200 142 8 11 847 = true := by decide +kernel
theorem si_200_13 : decode (sp_b 200) 13 = .ok (.ifCond .ne 6, 3) := by decide +kernel
theorem si_200_16 : decode (sp_b 200) 16 = .ok (.bipush (-4), 2) := by decide +kernel
theorem si_200_18 : decode (sp_b 200) 18 = .ok (.ireturn, 1) := by decide +kernel
theorem si_200_19 : decode (sp_b 200) 19 = .ok (.aload_n 0, 1) := by decide +kernel
theorem si_200_20 : decode (sp_b 200) 20 = .ok (.iconst 0, 1) := by decide +kernel
theorem si_200_21 : decode (sp_b 200) 21 = .ok (.putfield 225, 3) := by decide +kernel
theorem sf_200_225 : sp_okF 200 225 8 30 866 = true := by decide +kernel
theorem si_200_24 : decode (sp_b 200) 24 = .ok (.aload_n 0, 1) := by decide +kernel
theorem si_200_25 : decode (sp_b 200) 25 = .ok (.iconst 0, 1) := by decide +kernel
theorem si_200_26 : decode (sp_b 200) 26 = .ok (.iconst 0, 1) := by decide +kernel
theorem si_200_27 : decode (sp_b 200) 27 = .ok (.invokevirtual 235, 3) := by decide +kernel
theorem sk_200_235 : sp_okL 200 235 201 1212 = true := by decide +kernel
theorem si_200_30 : decode (sp_b 200) 30 = .ok (.aload_n 0, 1) := by decide +kernel
theorem si_200_31 : decode (sp_b 200) 31 = .ok (.iload_n 1, 1) := by decide +kernel
theorem si_200_32 : decode (sp_b 200) 32 = .ok (.aload_n 0, 1) := by decide +kernel
theorem si_200_33 : decode (sp_b 200) 33 = .ok (.getfield 70, 3) := by decide +kernel
theorem sf_200_70 : sp_okF 200 70 8 29 865 = true := by decide +kernel
theorem si_200_36 : decode (sp_b 200) 36 = .ok (.aload_n 0, 1) := by decide +kernel
theorem si_200_37 : decode (sp_b 200) 37 = .ok (.getfield 225, 3) := by decide +kernel
theorem si_200_40 : decode (sp_b 200) 40 = .ok (.invokevirtual 221, 3) := by decide +kernel
theorem sk_200_221 : sp_okL 200 221 197 1196 = true := by decide +kernel
theorem si_200_43 : decode (sp_b 200) 43 = .ok (.aload_n 0, 1) := by decide +kernel
theorem si_200_44 : decode (sp_b 200) 44 = .ok (.getfield 225, 3) := by decide +kernel
theorem si_200_47 : decode (sp_b 200) 47 = .ok (.ireturn, 1) := by decide +kernel
theorem si_201_0 : decode (sp_b 201) 0 = .ok (.iload_n 1, 1) := by decide +kernel
theorem si_201_1 : decode (sp_b 201) 1 = .ok (.aload_n 0, 1) := by decide +kernel
theorem si_201_2 : decode (sp_b 201) 2 = .ok (.getfield 225, 3) := by decide +kernel
theorem sf_201_225 : sp_okF 201 225 8 30 866 = true := by decide +kernel
theorem si_201_5 : decode (sp_b 201) 5 = .ok (.if_icmp .le 13, 3) := by decide +kernel
theorem si_201_8 : decode (sp_b 201) 8 = .ok (.aload_n 0, 1) := by decide +kernel
theorem si_201_9 : decode (sp_b 201) 9 = .ok (.iload_n 1, 1) := by decide +kernel
theorem si_201_10 : decode (sp_b 201) 10 = .ok (.putfield 225, 3) := by decide +kernel
theorem si_201_13 : decode (sp_b 201) 13 = .ok (.aload_n 0, 1) := by decide +kernel
theorem si_201_14 : decode (sp_b 201) 14 = .ok (.iload_n 1, 1) := by decide +kernel
theorem si_201_15 : decode (sp_b 201) 15 = .ok (.invokevirtual 228, 3) := by decide +kernel
theorem sk_201_228 : sp_okL 201 228 202 1216 = true := by decide +kernel
theorem si_201_18 : decode (sp_b 201) 18 = .ok (.iconst 0, 1) := by decide +kernel
theorem si_201_19 : decode (sp_b 201) 19 = .ok (.istore_n 3, 1) := by decide +kernel
theorem si_201_20 : decode (sp_b 201) 20 = .ok (.iload_n 3, 1) := by decide +kernel
theorem si_201_21 : decode (sp_b 201) 21 = .ok (.aload_n 0, 1) := by decide +kernel
theorem si_201_22 : decode (sp_b 201) 22 = .ok (.getfield 142, 3) := by decide +kernel
theorem sf_201_142 : sp_okF 201 142 8 11 847 = true := by decide +kernel
theorem si_201_25 : decode (sp_b 201) 25 = .ok (.if_icmp .ge 61, 3) := by decide +kernel
theorem si_201_28 : decode (sp_b 201) 28 = .ok (.iload_n 2, 1) := by decide +kernel
theorem si_201_29 : decode (sp_b 201) 29 = .ok (.iload_n 3, 1) := by decide +kernel
theorem si_201_30 : decode (sp_b 201) 30 = .ok (.invokestatic 232, 3) := by decide +kernel
theorem sk_201_232 : sp_okL 201 232 203 1220 = true := by decide +kernel
theorem si_201_33 : decode (sp_b 201) 33 = .ok (.ifCond .ne 47, 3) := by decide +kernel
theorem si_201_36 : decode (sp_b 201) 36 = .ok (.aload_n 0, 1) := by decide +kernel
theorem si_201_37 : decode (sp_b 201) 37 = .ok (.iload_n 1, 1) := by decide +kernel
theorem si_201_38 : decode (sp_b 201) 38 = .ok (.iload_n 3, 1) := by decide +kernel
theorem si_201_39 : decode (sp_b 201) 39 = .ok (.invokevirtual 155, 3) := by decide +kernel
theorem sk_201_155 : sp_okL 201 155 165 1071 = true := by decide +kernel
theorem si_201_42 : decode (sp_b 201) 42 = .ok (.ifCond .eq 38, 3) := by decide +kernel
theorem si_201_45 : decode (sp_b 201) 45 = .ok (.aload_n 0, 1) := by decide +kernel
theorem si_201_46 : decode (sp_b 201) 46 = .ok (.iload_n 1, 1) := by decide +kernel
theorem si_201_47 : decode (sp_b 201) 47 = .ok (.iload_n 1, 1) := by decide +kernel
theorem si_201_48 : decode (sp_b 201) 48 = .ok (.iconst 1, 1) := by decide +kernel
theorem si_201_49 : decode (sp_b 201) 49 = .ok (.iadd, 1) := by decide +kernel
theorem si_201_50 : decode (sp_b 201) 50 = .ok (.invokevirtual 212, 3) := by decide +kernel
theorem sk_201_212 : sp_okL 201 212 192 1176 = true := by decide +kernel
theorem si_201_53 : decode (sp_b 201) 53 = .ok (.aload_n 0, 1) := by decide +kernel
theorem si_201_54 : decode (sp_b 201) 54 = .ok (.iload_n 1, 1) := by decide +kernel
theorem si_201_55 : decode (sp_b 201) 55 = .ok (.iconst 1, 1) := by decide +kernel
theorem si_201_56 : decode (sp_b 201) 56 = .ok (.iadd, 1) := by decide +kernel
theorem si_201_57 : decode (sp_b 201) 57 = .ok (.iload_n 3, 1) := by decide +kernel
theorem si_201_58 : decode (sp_b 201) 58 = .ok (.invokevirtual 192, 3) := by decide +kernel
theorem sk_201_192 : sp_okL 201 192 175 1108 = true := by decide +kernel
theorem si_201_61 : decode (sp_b 201) 61 = .ok (.aload_n 0, 1) := by decide +kernel
theorem si_201_62 : decode (sp_b 201) 62 = .ok (.getfield 67, 3) := by decide +kernel
theorem sf_201_67 : sp_okF 201 67 8 28 864 = true := by decide +kernel
theorem si_201_65 : decode (sp_b 201) 65 = .ok (.iload_n 1, 1) := by decide +kernel
theorem si_201_66 : decode (sp_b 201) 66 = .ok (.iload_n 3, 1) := by decide +kernel
theorem si_201_67 : decode (sp_b 201) 67 = .ok (.iastore, 1) := by decide +kernel
theorem si_201_68 : decode (sp_b 201) 68 = .ok (.aload_n 0, 1) := by decide +kernel
theorem si_201_69 : decode (sp_b 201) 69 = .ok (.iload_n 1, 1) := by decide +kernel
theorem si_201_70 : decode (sp_b 201) 70 = .ok (.iconst 1, 1) := by decide +kernel
theorem si_201_71 : decode (sp_b 201) 71 = .ok (.iadd, 1) := by decide +kernel
theorem si_201_72 : decode (sp_b 201) 72 = .ok (.iload_n 2, 1) := by decide +kernel
theorem si_201_73 : decode (sp_b 201) 73 = .ok (.iconst 1, 1) := by decide +kernel
theorem si_201_74 : decode (sp_b 201) 74 = .ok (.iload_n 3, 1) := by decide +kernel
theorem si_201_75 : decode (sp_b 201) 75 = .ok (.ishl, 1) := by decide +kernel
theorem si_201_76 : decode (sp_b 201) 76 = .ok (.ior, 1) := by decide +kernel
theorem si_201_77 : decode (sp_b 201) 77 = .ok (.invokevirtual 235, 3) := by decide +kernel
theorem sk_201_235 : sp_okL 201 235 201 1212 = true := by decide +kernel
theorem si_201_80 : decode (sp_b 201) 80 = .ok (.iinc 3 1, 3) := by decide +kernel
theorem si_201_83 : decode (sp_b 201) 83 = .ok (.goto (-63), 3) := by decide +kernel
theorem si_201_86 : decode (sp_b 201) 86 = .ok (.return_, 1) := by decide +kernel
theorem si_202_0 : decode (sp_b 202) 0 = .ok (.iconst 0, 1) := by decide +kernel
theorem si_202_1 : decode (sp_b 202) 1 = .ok (.istore_n 2, 1) := by decide +kernel
theorem si_202_2 : decode (sp_b 202) 2 = .ok (.iload_n 2, 1) := by decide +kernel
theorem si_202_3 : decode (sp_b 202) 3 = .ok (.iload_n 1, 1) := by decide +kernel
theorem si_202_4 : decode (sp_b 202) 4 = .ok (.if_icmp .ge 21, 3) := by decide +kernel
theorem si_202_7 : decode (sp_b 202) 7 = .ok (.aload_n 0, 1) := by decide +kernel
theorem si_202_8 : decode (sp_b 202) 8 = .ok (.getfield 70, 3) := by decide +kernel
theorem sf_202_70 : sp_okF 202 70 8 29 865 = true := by decide +kernel
theorem si_202_11 : decode (sp_b 202) 11 = .ok (.iload_n 2, 1) := by decide +kernel
theorem si_202_12 : decode (sp_b 202) 12 = .ok (.aload_n 0, 1) := by decide +kernel
theorem si_202_13 : decode (sp_b 202) 13 = .ok (.getfield 67, 3) := by decide +kernel
theorem sf_202_67 : sp_okF 202 67 8 28 864 = true := by decide +kernel
theorem si_202_16 : decode (sp_b 202) 16 = .ok (.iload_n 2, 1) := by decide +kernel
theorem si_202_17 : decode (sp_b 202) 17 = .ok (.iaload, 1) := by decide +kernel
theorem si_202_18 : decode (sp_b 202) 18 = .ok (.iastore, 1) := by decide +kernel
theorem si_202_19 : decode (sp_b 202) 19 = .ok (.iinc 2 1, 3) := by decide +kernel
theorem si_202_22 : decode (sp_b 202) 22 = .ok (.goto (-20), 3) := by decide +kernel
theorem si_202_25 : decode (sp_b 202) 25 = .ok (.return_, 1) := by decide +kernel
theorem si_203_0 : decode (sp_b 203) 0 = .ok (.iload_n 0, 1) := by decide +kernel
theorem si_203_1 : decode (sp_b 203) 1 = .ok (.iload_n 1, 1) := by decide +kernel
theorem si_203_2 : decode (sp_b 203) 2 = .ok (.ishr, 1) := by decide +kernel
theorem si_203_3 : decode (sp_b 203) 3 = .ok (.iconst 1, 1) := by decide +kernel
theorem si_203_4 : decode (sp_b 203) 4 = .ok (.iand, 1) := by decide +kernel
theorem si_203_5 : decode (sp_b 203) 5 = .ok (.iconst 1, 1) := by decide +kernel
theorem si_203_6 : decode (sp_b 203) 6 = .ok (.if_icmp .ne 7, 3) := by decide +kernel
theorem si_203_9 : decode (sp_b 203) 9 = .ok (.iconst 1, 1) := by decide +kernel
theorem si_203_10 : decode (sp_b 203) 10 = .ok (.goto 4, 3) := by decide +kernel
theorem si_203_13 : decode (sp_b 203) 13 = .ok (.iconst 0, 1) := by decide +kernel
theorem si_203_14 : decode (sp_b 203) 14 = .ok (.ireturn, 1) := by decide +kernel
theorem si_204_0 : decode (sp_b 204) 0 = .ok (.iload_n 1, 1) := by decide +kernel
theorem si_204_1 : decode (sp_b 204) 1 = .ok (.iconst 0, 1) := by decide +kernel
theorem si_204_2 : decode (sp_b 204) 2 = .ok (.iconst 5, 1) := by decide +kernel
theorem si_204_3 : decode (sp_b 204) 3 = .ok (.invokestatic 83, 3) := by decide +kernel
theorem sk_204_83 : sp_okL 204 83 135 955 = true := by decide +kernel
theorem si_204_6 : decode (sp_b 204) 6 = .ok (.ifCond .eq 10, 3) := by decide +kernel
theorem si_204_9 : decode (sp_b 204) 9 = .ok (.iload_n 2, 1) := by decide +kernel
theorem si_204_10 : decode (sp_b 204) 10 = .ok (.invokestatic 93, 3) := by decide +kernel
theorem sk_204_93 : sp_okL 204 93 140 974 = true := by decide +kernel
theorem si_204_13 : decode (sp_b 204) 13 = .ok (.ifCond .ne 5, 3) := by decide +kernel
theorem si_204_16 : decode (sp_b 204) 16 = .ok (.iconst (-1), 1) := by decide +kernel
theorem si_204_17 : decode (sp_b 204) 17 = .ok (.ireturn, 1) := by decide +kernel
theorem si_204_18 : decode (sp_b 204) 18 = .ok (.aload_n 0, 1) := by decide +kernel
theorem si_204_19 : decode (sp_b 204) 19 = .ok (.getfield 142, 3) := by decide +kernel
theorem sf_204_142 : sp_okF 204 142 8 11 847 = true := by decide +kernel
theorem si_204_22 : decode (sp_b 204) 22 = .ok (.ifCond .ne 6, 3) := by decide +kernel
theorem si_204_25 : decode (sp_b 204) 25 = .ok (.bipush (-4), 2) := by decide +kernel
theorem si_204_27 : decode (sp_b 204) 27 = .ok (.ireturn, 1) := by decide +kernel
theorem si_204_28 : decode (sp_b 204) 28 = .ok (.aload_n 0, 1) := by decide +kernel
theorem si_204_29 : decode (sp_b 204) 29 = .ok (.iconst (-1), 1) := by decide +kernel
theorem si_204_30 : decode (sp_b 204) 30 = .ok (.putfield 238, 3) := by decide +kernel
theorem sf_204_238 : sp_okF 204 238 8 31 867 = true := by decide +kernel
theorem si_204_33 : decode (sp_b 204) 33 = .ok (.aload_n 0, 1) := by decide +kernel
theorem si_204_34 : decode (sp_b 204) 34 = .ok (.iconst 0, 1) := by decide +kernel
theorem si_204_35 : decode (sp_b 204) 35 = .ok (.iload_n 1, 1) := by decide +kernel
theorem si_204_36 : decode (sp_b 204) 36 = .ok (.invokevirtual 241, 3) := by decide +kernel
theorem sk_204_241 : sp_okL 204 241 205 1227 = true := by decide +kernel
theorem si_204_39 : decode (sp_b 204) 39 = .ok (.aload_n 0, 1) := by decide +kernel
theorem si_204_40 : decode (sp_b 204) 40 = .ok (.getfield 238, 3) := by decide +kernel
theorem si_204_43 : decode (sp_b 204) 43 = .ok (.ifCond .ge 6, 3) := by decide +kernel
theorem si_204_46 : decode (sp_b 204) 46 = .ok (.bipush (-9), 2) := by decide +kernel
theorem si_204_48 : decode (sp_b 204) 48 = .ok (.ireturn, 1) := by decide +kernel
theorem si_204_49 : decode (sp_b 204) 49 = .ok (.aload_n 0, 1) := by decide +kernel
theorem si_204_50 : decode (sp_b 204) 50 = .ok (.iload_n 2, 1) := by decide +kernel
theorem si_204_51 : decode (sp_b 204) 51 = .ok (.aload_n 0, 1) := by decide +kernel
theorem si_204_52 : decode (sp_b 204) 52 = .ok (.getfield 70, 3) := by decide +kernel
theorem sf_204_70 : sp_okF 204 70 8 29 865 = true := by decide +kernel
theorem si_204_55 : decode (sp_b 204) 55 = .ok (.iload_n 1, 1) := by decide +kernel
theorem si_204_56 : decode (sp_b 204) 56 = .ok (.invokevirtual 221, 3) := by decide +kernel
theorem sk_204_221 : sp_okL 204 221 197 1196 = true := by decide +kernel
theorem si_204_59 : decode (sp_b 204) 59 = .ok (.aload_n 0, 1) := by decide +kernel
theorem si_204_60 : decode (sp_b 204) 60 = .ok (.getfield 238, 3) := by decide +kernel
theorem si_204_63 : decode (sp_b 204) 63 = .ok (.ireturn, 1) := by decide +kernel
theorem si_205_0 : decode (sp_b 205) 0 = .ok (.iload_n 1, 1) := by decide +kernel
theorem si_205_1 : decode (sp_b 205) 1 = .ok (.iload_n 2, 1) := by decide +kernel
theorem si_205_2 : decode (sp_b 205) 2 = .ok (.if_icmp .ne 38, 3) := by decide +kernel
theorem si_205_5 : decode (sp_b 205) 5 = .ok (.aload_n 0, 1) := by decide +kernel
theorem si_205_6 : decode (sp_b 205) 6 = .ok (.iload_n 1, 1) := by decide +kernel
theorem si_205_7 : decode (sp_b 205) 7 = .ok (.bipush 8, 2) := by decide +kernel
theorem si_205_9 : decode (sp_b 205) 9 = .ok (.invokevirtual 152, 3) := by decide +kernel
theorem sk_205_152 : sp_okL 205 152 164 1067 = true := by decide +kernel
theorem si_205_12 : decode (sp_b 205) 12 = .ok (.aload_n 0, 1) := by decide +kernel
theorem si_205_13 : decode (sp_b 205) 13 = .ok (.iconst 0, 1) := by decide +kernel
theorem si_205_14 : decode (sp_b 205) 14 = .ok (.bipush 8, 2) := by decide +kernel
theorem si_205_16 : decode (sp_b 205) 16 = .ok (.invokevirtual 152, 3) := by decide +kernel
theorem si_205_19 : decode (sp_b 205) 19 = .ok (.isub, 1) := by decide +kernel
theorem si_205_20 : decode (sp_b 205) 20 = .ok (.istore_n 3, 1) := by decide +kernel
theorem si_205_21 : decode (sp_b 205) 21 = .ok (.iload_n 3, 1) := by decide +kernel
theorem si_205_22 : decode (sp_b 205) 22 = .ok (.aload_n 0, 1) := by decide +kernel
theorem si_205_23 : decode (sp_b 205) 23 = .ok (.getfield 238, 3) := by decide +kernel
theorem sf_205_238 : sp_okF 205 238 8 31 867 = true := by decide +kernel
theorem si_205_26 : decode (sp_b 205) 26 = .ok (.if_icmp .le 13, 3) := by decide +kernel
theorem si_205_29 : decode (sp_b 205) 29 = .ok (.aload_n 0, 1) := by decide +kernel
theorem si_205_30 : decode (sp_b 205) 30 = .ok (.iload_n 3, 1) := by decide +kernel
theorem si_205_31 : decode (sp_b 205) 31 = .ok (.putfield 238, 3) := by decide +kernel
theorem si_205_34 : decode (sp_b 205) 34 = .ok (.aload_n 0, 1) := by decide +kernel
theorem si_205_35 : decode (sp_b 205) 35 = .ok (.iload_n 2, 1) := by decide +kernel
theorem si_205_36 : decode (sp_b 205) 36 = .ok (.invokevirtual 228, 3) := by decide +kernel
theorem sk_205_228 : sp_okL 205 228 202 1216 = true := by decide +kernel
theorem si_205_39 : decode (sp_b 205) 39 = .ok (.return_, 1) := by decide +kernel
theorem si_205_40 : decode (sp_b 205) 40 = .ok (.iconst 0, 1) := by decide +kernel
theorem si_205_41 : decode (sp_b 205) 41 = .ok (.istore_n 3, 1) := by decide +kernel
theorem si_205_42 : decode (sp_b 205) 42 = .ok (.iload_n 3, 1) := by decide +kernel
theorem si_205_43 : decode (sp_b 205) 43 = .ok (.aload_n 0, 1) := by decide +kernel
theorem si_205_44 : decode (sp_b 205) 44 = .ok (.getfield 142, 3) := by decide +kernel
theorem sf_205_142 : sp_okF 205 142 8 11 847 = true := by decide +kernel
theorem si_205_47 : decode (sp_b 205) 47 = .ok (.if_icmp .ge 49, 3) := by decide +kernel
theorem si_205_50 : decode (sp_b 205) 50 = .ok (.aload_n 0, 1) := by decide +kernel
theorem si_205_51 : decode (sp_b 205) 51 = .ok (.iload_n 1, 1) := by decide +kernel
theorem si_205_52 : decode (sp_b 205) 52 = .ok (.iload_n 3, 1) := by decide +kernel
theorem si_205_53 : decode (sp_b 205) 53 = .ok (.invokevirtual 155, 3) := by decide +kernel
theorem sk_205_155 : sp_okL 205 155 165 1071 = true := by decide +kernel
theorem si_205_56 : decode (sp_b 205) 56 = .ok (.ifCond .eq 34, 3) := by decide +kernel
theorem si_205_59 : decode (sp_b 205) 59 = .ok (.aload_n 0, 1) := by decide +kernel
theorem si_205_60 : decode (sp_b 205) 60 = .ok (.iload_n 1, 1) := by decide +kernel
theorem si_205_61 : decode (sp_b 205) 61 = .ok (.iload_n 1, 1) := by decide +kernel
theorem si_205_62 : decode (sp_b 205) 62 = .ok (.iconst 1, 1) := by decide +kernel
theorem si_205_63 : decode (sp_b 205) 63 = .ok (.iadd, 1) := by decide +kernel
theorem si_205_64 : decode (sp_b 205) 64 = .ok (.invokevirtual 212, 3) := by decide +kernel
theorem sk_205_212 : sp_okL 205 212 192 1176 = true := by decide +kernel
theorem si_205_67 : decode (sp_b 205) 67 = .ok (.aload_n 0, 1) := by decide +kernel
theorem si_205_68 : decode (sp_b 205) 68 = .ok (.iload_n 1, 1) := by decide +kernel
theorem si_205_69 : decode (sp_b 205) 69 = .ok (.iconst 1, 1) := by decide +kernel
theorem si_205_70 : decode (sp_b 205) 70 = .ok (.iadd, 1) := by decide +kernel
theorem si_205_71 : decode (sp_b 205) 71 = .ok (.iload_n 3, 1) := by decide +kernel
theorem si_205_72 : decode (sp_b 205) 72 = .ok (.invokevirtual 192, 3) := by decide +kernel
theorem sk_205_192 : sp_okL 205 192 175 1108 = true := by decide +kernel
theorem si_205_75 : decode (sp_b 205) 75 = .ok (.aload_n 0, 1) := by decide +kernel
theorem si_205_76 : decode (sp_b 205) 76 = .ok (.getfield 67, 3) := by decide +kernel
theorem sf_205_67 : sp_okF 205 67 8 28 864 = true := by decide +kernel
theorem si_205_79 : decode (sp_b 205) 79 = .ok (.iload_n 1, 1) := by decide +kernel
theorem si_205_80 : decode (sp_b 205) 80 = .ok (.iload_n 3, 1) := by decide +kernel
theorem si_205_81 : decode (sp_b 205) 81 = .ok (.iastore, 1) := by decide +kernel
theorem si_205_82 : decode (sp_b 205) 82 = .ok (.aload_n 0, 1) := by decide +kernel
theorem si_205_83 : decode (sp_b 205) 83 = .ok (.iload_n 1, 1) := by decide +kernel
theorem si_205_84 : decode (sp_b 205) 84 = .ok (.iconst 1, 1) := by decide +kernel
theorem si_205_85 : decode (sp_b 205) 85 = .ok (.iadd, 1) := by decide +kernel
theorem si_205_86 : decode (sp_b 205) 86 = .ok (.iload_n 2, 1) := by decide +kernel
theorem si_205_87 : decode (sp_b 205) 87 = .ok (.invokevirtual 241, 3) := by decide +kernel
theorem sk_205_241 : sp_okL 205 241 205 1227 = true := by decide +kernel
theorem si_205_90 : decode (sp_b 205) 90 = .ok (.iinc 3 1, 3) := by decide +kernel
theorem si_205_93 : decode (sp_b 205) 93 = .ok (.goto (-51), 3) := by decide +kernel
theorem si_205_96 : decode (sp_b 205) 96 = .ok (.return_, 1) := by decide +kernel
theorem si_206_0 : decode (sp_b 206) 0 = .ok (.iload_n 1, 1) := by decide +kernel
theorem si_206_1 : decode (sp_b 206) 1 = .ok (.iconst 0, 1) := by decide +kernel
theorem si_206_2 : decode (sp_b 206) 2 = .ok (.iconst 4, 1) := by decide +kernel
theorem si_206_3 : decode (sp_b 206) 3 = .ok (.invokestatic 83, 3) := by decide +kernel
theorem sk_206_83 : sp_okL 206 83 135 955 = true := by decide +kernel
theorem si_206_6 : decode (sp_b 206) 6 = .ok (.ifCond .ne 5, 3) := by decide +kernel
theorem si_206_9 : decode (sp_b 206) 9 = .ok (.iconst (-1), 1) := by decide +kernel
theorem si_206_10 : decode (sp_b 206) 10 = .ok (.ireturn, 1) := by decide +kernel
theorem si_206_11 : decode (sp_b 206) 11 = .ok (.aload_n 0, 1) := by decide +kernel
theorem si_206_12 : decode (sp_b 206) 12 = .ok (.getfield 142, 3) := by decide +kernel
theorem sf_206_142 : sp_okF 206 142 8 11 847 = true := by decide +kernel
theorem si_206_15 : decode (sp_b 206) 15 = .ok (.ifCond .ne 6, 3) := by decide +kernel
theorem si_206_18 : decode (sp_b 206) 18 = .ok (.bipush (-4), 2) := by decide +kernel
theorem si_206_20 : decode (sp_b 206) 20 = .ok (.ireturn, 1) := by decide +kernel
theorem si_206_21 : decode (sp_b 206) 21 = .ok (.aload_n 0, 1) := by decide +kernel
theorem si_206_22 : decode (sp_b 206) 22 = .ok (.iconst 0, 1) := by decide +kernel
theorem si_206_23 : decode (sp_b 206) 23 = .ok (.putfield 247, 3) := by decide +kernel
theorem sf_206_247 : sp_okF 206 247 8 32 868 = true := by decide +kernel
theorem si_206_26 : decode (sp_b 206) 26 = .ok (.aload_n 0, 1) := by decide +kernel
theorem si_206_27 : decode (sp_b 206) 27 = .ok (.iconst 0, 1) := by decide +kernel
theorem si_206_28 : decode (sp_b 206) 28 = .ok (.putfield 244, 3) := by decide +kernel
theorem sf_206_244 : sp_okF 206 244 8 33 869 = true := by decide +kernel
theorem si_206_31 : decode (sp_b 206) 31 = .ok (.aload_n 0, 1) := by decide +kernel
theorem si_206_32 : decode (sp_b 206) 32 = .ok (.iconst 0, 1) := by decide +kernel
theorem si_206_33 : decode (sp_b 206) 33 = .ok (.iload_n 1, 1) := by decide +kernel
theorem si_206_34 : decode (sp_b 206) 34 = .ok (.invokevirtual 253, 3) := by decide +kernel
theorem sk_206_253 : sp_okL 206 253 207 1235 = true := by decide +kernel
theorem si_206_37 : decode (sp_b 206) 37 = .ok (.aload_n 0, 1) := by decide +kernel
theorem si_206_38 : decode (sp_b 206) 38 = .ok (.aload_n 0, 1) := by decide +kernel
theorem si_206_39 : decode (sp_b 206) 39 = .ok (.getfield 244, 3) := by decide +kernel
theorem si_206_42 : decode (sp_b 206) 42 = .ok (.aload_n 0, 1) := by decide +kernel
theorem si_206_43 : decode (sp_b 206) 43 = .ok (.getfield 247, 3) := by decide +kernel
theorem si_206_46 : decode (sp_b 206) 46 = .ok (.invokevirtual 105, 3) := by decide +kernel
theorem sk_206_105 : sp_okL 206 105 144 989 = true := by decide +kernel
theorem si_206_49 : decode (sp_b 206) 49 = .ok (.ireturn, 1) := by decide +kernel
theorem si_207_0 : decode (sp_b 207) 0 = .ok (.iload_n 1, 1) := by decide +kernel
theorem si_207_1 : decode (sp_b 207) 1 = .ok (.iload_n 2, 1) := by decide +kernel
theorem si_207_2 : decode (sp_b 207) 2 = .ok (.if_icmp .ne 19, 3) := by decide +kernel
theorem si_207_5 : decode (sp_b 207) 5 = .ok (.aload_n 0, 1) := by decide +kernel
theorem si_207_6 : decode (sp_b 207) 6 = .ok (.dup, 1) := by decide +kernel
theorem si_207_7 : decode (sp_b 207) 7 = .ok (.getfield 247, 3) := by decide +kernel
theorem sf_207_247 : sp_okF 207 247 8 32 868 = true := by decide +kernel
theorem si_207_10 : decode (sp_b 207) 10 = .ok (.iconst 1, 1) := by decide +kernel
theorem si_207_11 : decode (sp_b 207) 11 = .ok (.iadd, 1) := by decide +kernel
theorem si_207_12 : decode (sp_b 207) 12 = .ok (.putfield 247, 3) := by decide +kernel
theorem si_207_15 : decode (sp_b 207) 15 = .ok (.aload_n 0, 1) := by decide +kernel
theorem si_207_16 : decode (sp_b 207) 16 = .ok (.iload_n 1, 1) := by decide +kernel
theorem si_207_17 : decode (sp_b 207) 17 = .ok (.invokevirtual 250, 3) := by decide +kernel
theorem sk_207_250 : sp_okL 207 250 208 1239 = true := by decide +kernel
theorem si_207_20 : decode (sp_b 207) 20 = .ok (.return_, 1) := by decide +kernel
theorem si_207_21 : decode (sp_b 207) 21 = .ok (.iconst 0, 1) := by decide +kernel
theorem si_207_22 : decode (sp_b 207) 22 = .ok (.istore_n 3, 1) := by decide +kernel
theorem si_207_23 : decode (sp_b 207) 23 = .ok (.iload_n 3, 1) := by decide +kernel
theorem si_207_24 : decode (sp_b 207) 24 = .ok (.aload_n 0, 1) := by decide +kernel
theorem si_207_25 : decode (sp_b 207) 25 = .ok (.getfield 142, 3) := by decide +kernel
theorem sf_207_142 : sp_okF 207 142 8 11 847 = true := by decide +kernel
theorem si_207_28 : decode (sp_b 207) 28 = .ok (.if_icmp .ge 42, 3) := by decide +kernel
theorem si_207_31 : decode (sp_b 207) 31 = .ok (.aload_n 0, 1) := by decide +kernel
theorem si_207_32 : decode (sp_b 207) 32 = .ok (.iload_n 1, 1) := by decide +kernel
theorem si_207_33 : decode (sp_b 207) 33 = .ok (.iload_n 3, 1) := by decide +kernel
theorem si_207_34 : decode (sp_b 207) 34 = .ok (.invokevirtual 155, 3) := by decide +kernel
theorem sk_207_155 : sp_okL 207 155 165 1071 = true := by decide +kernel
theorem si_207_37 : decode (sp_b 207) 37 = .ok (.ifCond .eq 27, 3) := by decide +kernel
theorem si_207_40 : decode (sp_b 207) 40 = .ok (.aload_n 0, 1) := by decide +kernel
theorem si_207_41 : decode (sp_b 207) 41 = .ok (.iload_n 1, 1) := by decide +kernel
theorem si_207_42 : decode (sp_b 207) 42 = .ok (.iload_n 1, 1) := by decide +kernel
theorem si_207_43 : decode (sp_b 207) 43 = .ok (.iconst 1, 1) := by decide +kernel
theorem si_207_44 : decode (sp_b 207) 44 = .ok (.iadd, 1) := by decide +kernel
theorem si_207_45 : decode (sp_b 207) 45 = .ok (.invokevirtual 212, 3) := by decide +kernel
theorem sk_207_212 : sp_okL 207 212 192 1176 = true := by decide +kernel
theorem si_207_48 : decode (sp_b 207) 48 = .ok (.aload_n 0, 1) := by decide +kernel
theorem si_207_49 : decode (sp_b 207) 49 = .ok (.iload_n 1, 1) := by decide +kernel
theorem si_207_50 : decode (sp_b 207) 50 = .ok (.iconst 1, 1) := by decide +kernel
theorem si_207_51 : decode (sp_b 207) 51 = .ok (.iadd, 1) := by decide +kernel
theorem si_207_52 : decode (sp_b 207) 52 = .ok (.iload_n 3, 1) := by decide +kernel
theorem si_207_53 : decode (sp_b 207) 53 = .ok (.invokevirtual 192, 3) := by decide +kernel
theorem sk_207_192 : sp_okL 207 192 175 1108 = true := by decide +kernel
theorem si_207_56 : decode (sp_b 207) 56 = .ok (.aload_n 0, 1) := by decide +kernel
theorem si_207_57 : decode (sp_b 207) 57 = .ok (.iload_n 1, 1) := by decide +kernel
theorem si_207_58 : decode (sp_b 207) 58 = .ok (.iconst 1, 1) := by decide +kernel
theorem si_207_59 : decode (sp_b 207) 59 = .ok (.iadd, 1) := by decide +kernel
theorem si_207_60 : decode (sp_b 207) 60 = .ok (.iload_n 2, 1) := by decide +kernel
theorem si_207_61 : decode (sp_b 207) 61 = .ok (.invokevirtual 253, 3) := by decide +kernel
theorem sk_207_253 : sp_okL 207 253 207 1235 = true := by decide +kernel
theorem si_207_64 : decode (sp_b 207) 64 = .ok (.iinc 3 1, 3) := by decide +kernel
theorem si_207_67 : decode (sp_b 207) 67 = .ok (.goto (-44), 3) := by decide +kernel
theorem si_207_70 : decode (sp_b 207) 70 = .ok (.return_, 1) := by decide +kernel
theorem si_208_0 : decode (sp_b 208) 0 = .ok (.iconst 1, 1) := by decide +kernel
theorem si_208_1 : decode (sp_b 208) 1 = .ok (.istore_n 2, 1) := by decide +kernel
theorem si_208_2 : decode (sp_b 208) 2 = .ok (.iconst 0, 1) := by decide +kernel
theorem si_208_3 : decode (sp_b 208) 3 = .ok (.istore_n 3, 1) := by decide +kernel
theorem si_208_4 : decode (sp_b 208) 4 = .ok (.iload_n 3, 1) := by decide +kernel
theorem si_208_5 : decode (sp_b 208) 5 = .ok (.aload_n 0, 1) := by decide +kernel
theorem si_208_6 : decode (sp_b 208) 6 = .ok (.getfield 244, 3) := by decide +kernel
theorem sf_208_244 : sp_okF 208 244 8 33 869 = true := by decide +kernel
theorem si_208_9 : decode (sp_b 208) 9 = .ok (.if_icmp .ge 79, 3) := by decide +kernel
theorem si_208_12 : decode (sp_b 208) 12 = .ok (.iload_n 2, 1) := by decide +kernel
theorem si_208_13 : decode (sp_b 208) 13 = .ok (.ifCond .eq 75, 3) := by decide +kernel
theorem si_208_16 : decode (sp_b 208) 16 = .ok (.iconst 1, 1) := by decide +kernel
theorem si_208_17 : decode (sp_b 208) 17 = .ok (.istore 4, 2) := by decide +kernel
theorem si_208_19 : decode (sp_b 208) 19 = .ok (.iconst 0, 1) := by decide +kernel
theorem si_208_20 : decode (sp_b 208) 20 = .ok (.istore 5, 2) := by decide +kernel
theorem si_208_22 : decode (sp_b 208) 22 = .ok (.iload 5, 2) := by decide +kernel
theorem si_208_24 : decode (sp_b 208) 24 = .ok (.aload_n 0, 1) := by decide +kernel
theorem si_208_25 : decode (sp_b 208) 25 = .ok (.getfield 142, 3) := by decide +kernel
theorem sf_208_142 : sp_okF 208 142 8 11 847 = true := by decide +kernel
theorem si_208_28 : decode (sp_b 208) 28 = .ok (.if_icmp .ge 43, 3) := by decide +kernel
theorem si_208_31 : decode (sp_b 208) 31 = .ok (.iload 4, 2) := by decide +kernel
theorem si_208_33 : decode (sp_b 208) 33 = .ok (.ifCond .eq 29, 3) := by decide +kernel
theorem si_208_36 : decode (sp_b 208) 36 = .ok (.aload_n 0, 1) := by decide +kernel
theorem si_208_37 : decode (sp_b 208) 37 = .ok (.getfield 73, 3) := by decide +kernel
theorem sf_208_73 : sp_okF 208 73 8 34 870 = true := by decide +kernel
theorem si_208_40 : decode (sp_b 208) 40 = .ok (.bipush 6, 2) := by decide +kernel
theorem si_208_42 : decode (sp_b 208) 42 = .ok (.iload_n 3, 1) := by decide +kernel
theorem si_208_43 : decode (sp_b 208) 43 = .ok (.imul, 1) := by decide +kernel
theorem si_208_44 : decode (sp_b 208) 44 = .ok (.iload 5, 2) := by decide +kernel
theorem si_208_46 : decode (sp_b 208) 46 = .ok (.iadd, 1) := by decide +kernel
theorem si_208_47 : decode (sp_b 208) 47 = .ok (.iaload, 1) := by decide +kernel
theorem si_208_48 : decode (sp_b 208) 48 = .ok (.aload_n 0, 1) := by decide +kernel
theorem si_208_49 : decode (sp_b 208) 49 = .ok (.iload_n 1, 1) := by decide +kernel
theorem si_208_50 : decode (sp_b 208) 50 = .ok (.iload 5, 2) := by decide +kernel
theorem si_208_52 : decode (sp_b 208) 52 = .ok (.invokevirtual 152, 3) := by decide +kernel
theorem sk_208_152 : sp_okL 208 152 164 1067 = true := by decide +kernel
theorem si_208_55 : decode (sp_b 208) 55 = .ok (.if_icmp .ne 7, 3) := by decide +kernel
theorem si_208_58 : decode (sp_b 208) 58 = .ok (.iconst 1, 1) := by decide +kernel
theorem si_208_59 : decode (sp_b 208) 59 = .ok (.goto 4, 3) := by decide +kernel
theorem si_208_62 : decode (sp_b 208) 62 = .ok (.iconst 0, 1) := by decide +kernel
theorem si_208_63 : decode (sp_b 208) 63 = .ok (.istore 4, 2) := by decide +kernel
theorem si_208_65 : decode (sp_b 208) 65 = .ok (.iinc 5 1, 3) := by decide +kernel
theorem si_208_68 : decode (sp_b 208) 68 = .ok (.goto (-46), 3) := by decide +kernel
theorem si_208_71 : decode (sp_b 208) 71 = .ok (.iload 4, 2) := by decide +kernel
theorem si_208_73 : decode (sp_b 208) 73 = .ok (.ifCond .ne 7, 3) := by decide +kernel
theorem si_208_76 : decode (sp_b 208) 76 = .ok (.iconst 1, 1) := by decide +kernel
theorem si_208_77 : decode (sp_b 208) 77 = .ok (.goto 4, 3) := by decide +kernel
theorem si_208_80 : decode (sp_b 208) 80 = .ok (.iconst 0, 1) := by decide +kernel
theorem si_208_81 : decode (sp_b 208) 81 = .ok (.istore_n 2, 1) := by decide +kernel
theorem si_208_82 : decode (sp_b 208) 82 = .ok (.iinc 3 1, 3) := by decide +kernel
theorem si_208_85 : decode (sp_b 208) 85 = .ok (.goto (-81), 3) := by decide +kernel
theorem si_208_88 : decode (sp_b 208) 88 = .ok (.iconst 0, 1) := by decide +kernel
theorem si_208_89 : decode (sp_b 208) 89 = .ok (.istore_n 3, 1) := by decide +kernel
theorem si_208_90 : decode (sp_b 208) 90 = .ok (.iload_n 3, 1) := by decide +kernel
theorem si_208_91 : decode (sp_b 208) 91 = .ok (.aload_n 0, 1) := by decide +kernel
theorem si_208_92 : decode (sp_b 208) 92 = .ok (.getfield 142, 3) := by decide +kernel
theorem si_208_95 : decode (sp_b 208) 95 = .ok (.if_icmp .ge 33, 3) := by decide +kernel
theorem si_208_98 : decode (sp_b 208) 98 = .ok (.iload_n 2, 1) := by decide +kernel
theorem si_208_99 : decode (sp_b 208) 99 = .ok (.ifCond .eq 29, 3) := by decide +kernel
theorem si_208_102 : decode (sp_b 208) 102 = .ok (.aload_n 0, 1) := by decide +kernel
theorem si_208_103 : decode (sp_b 208) 103 = .ok (.getfield 73, 3) := by decide +kernel
theorem si_208_106 : decode (sp_b 208) 106 = .ok (.bipush 6, 2) := by decide +kernel
theorem si_208_108 : decode (sp_b 208) 108 = .ok (.aload_n 0, 1) := by decide +kernel
theorem si_208_109 : decode (sp_b 208) 109 = .ok (.getfield 244, 3) := by decide +kernel
theorem si_208_112 : decode (sp_b 208) 112 = .ok (.imul, 1) := by decide +kernel
theorem si_208_113 : decode (sp_b 208) 113 = .ok (.iload_n 3, 1) := by decide +kernel
theorem si_208_114 : decode (sp_b 208) 114 = .ok (.iadd, 1) := by decide +kernel
theorem si_208_115 : decode (sp_b 208) 115 = .ok (.aload_n 0, 1) := by decide +kernel
theorem si_208_116 : decode (sp_b 208) 116 = .ok (.iload_n 1, 1) := by decide +kernel
theorem si_208_117 : decode (sp_b 208) 117 = .ok (.iload_n 3, 1) := by decide +kernel
theorem si_208_118 : decode (sp_b 208) 118 = .ok (.invokevirtual 152, 3) := by decide +kernel
theorem si_208_121 : decode (sp_b 208) 121 = .ok (.iastore, 1) := by decide +kernel
theorem si_208_122 : decode (sp_b 208) 122 = .ok (.iinc 3 1, 3) := by decide +kernel
theorem si_208_125 : decode (sp_b 208) 125 = .ok (.goto (-35), 3) := by decide +kernel
theorem si_208_128 : decode (sp_b 208) 128 = .ok (.aload_n 0, 1) := by decide +kernel
theorem si_208_129 : decode (sp_b 208) 129 = .ok (.dup, 1) := by decide +kernel
theorem si_208_130 : decode (sp_b 208) 130 = .ok (.getfield 244, 3) := by decide +kernel
theorem si_208_133 : decode (sp_b 208) 133 = .ok (.iload_n 2, 1) := by decide +kernel
theorem si_208_134 : decode (sp_b 208) 134 = .ok (.ifCond .eq 7, 3) := by decide +kernel
theorem si_208_137 : decode (sp_b 208) 137 = .ok (.iconst 1, 1) := by decide +kernel
theorem si_208_138 : decode (sp_b 208) 138 = .ok (.goto 4, 3) := by decide +kernel
theorem si_208_141 : decode (sp_b 208) 141 = .ok (.iconst 0, 1) := by decide +kernel
theorem si_208_142 : decode (sp_b 208) 142 = .ok (.iadd, 1) := by decide +kernel
theorem si_208_143 : decode (sp_b 208) 143 = .ok (.putfield 244, 3) := by decide +kernel
theorem si_208_146 : decode (sp_b 208) 146 = .ok (.return_, 1) := by decide +kernel
theorem si_209_0 : decode (sp_b 209) 0 = .ok (.iload_n 1, 1) := by decide +kernel
theorem si_209_1 : decode (sp_b 209) 1 = .ok (.invokestatic 93, 3) := by decide +kernel
theorem sk_209_93 : sp_okL 209 93 140 974 = true := by decide +kernel
theorem si_209_4 : decode (sp_b 209) 4 = .ok (.ifCond .eq 19, 3) := by decide +kernel
theorem si_209_7 : decode (sp_b 209) 7 = .ok (.iload_n 2, 1) := by decide +kernel
theorem si_209_8 : decode (sp_b 209) 8 = .ok (.iconst 0, 1) := by decide +kernel
theorem si_209_9 : decode (sp_b 209) 9 = .ok (.iconst 4, 1) := by decide +kernel
theorem si_209_10 : decode (sp_b 209) 10 = .ok (.invokestatic 83, 3) := by decide +kernel
theorem sk_209_83 : sp_okL 209 83 135 955 = true := by decide +kernel
theorem si_209_13 : decode (sp_b 209) 13 = .ok (.ifCond .eq 10, 3) := by decide +kernel
theorem si_209_16 : decode (sp_b 209) 16 = .ok (.iload_n 3, 1) := by decide +kernel
theorem si_209_17 : decode (sp_b 209) 17 = .ok (.invokestatic 93, 3) := by decide +kernel
theorem si_209_20 : decode (sp_b 209) 20 = .ok (.ifCond .ne 5, 3) := by decide +kernel
theorem si_209_23 : decode (sp_b 209) 23 = .ok (.iconst (-1), 1) := by decide +kernel
theorem si_209_24 : decode (sp_b 209) 24 = .ok (.ireturn, 1) := by decide +kernel
theorem si_209_25 : decode (sp_b 209) 25 = .ok (.aload_n 0, 1) := by decide +kernel
theorem si_209_26 : decode (sp_b 209) 26 = .ok (.getfield 142, 3) := by decide +kernel
theorem sf_209_142 : sp_okF 209 142 8 11 847 = true := by decide +kernel
theorem si_209_29 : decode (sp_b 209) 29 = .ok (.ifCond .ne 6, 3) := by decide +kernel
theorem si_209_32 : decode (sp_b 209) 32 = .ok (.bipush (-4), 2) := by decide +kernel
theorem si_209_34 : decode (sp_b 209) 34 = .ok (.ireturn, 1) := by decide +kernel
theorem si_209_35 : decode (sp_b 209) 35 = .ok (.aload_n 0, 1) := by decide +kernel
theorem si_209_36 : decode (sp_b 209) 36 = .ok (.getfield 17, 3) := by decide +kernel
theorem sf_209_17 : sp_okF 209 17 8 5 841 = true := by decide +kernel
theorem si_209_39 : decode (sp_b 209) 39 = .ok (.iload_n 1, 1) := by decide +kernel
theorem si_209_40 : decode (sp_b 209) 40 = .ok (.iaload, 1) := by decide +kernel
theorem si_209_41 : decode (sp_b 209) 41 = .ok (.ifCond .ge 9, 3) := by decide +kernel
theorem si_209_44 : decode (sp_b 209) 44 = .ok (.aload_n 0, 1) := by decide +kernel
theorem si_209_45 : decode (sp_b 209) 45 = .ok (.iconst 1, 1) := by decide +kernel
theorem si_209_46 : decode (sp_b 209) 46 = .ok (.invokevirtual 97, 3) := by decide +kernel
theorem sk_209_97 : sp_okL 209 97 141 977 = true := by decide +kernel
theorem si_209_49 : decode (sp_b 209) 49 = .ok (.ireturn, 1) := by decide +kernel
theorem si_209_50 : decode (sp_b 209) 50 = .ok (.aload_n 0, 1) := by decide +kernel
theorem si_209_51 : decode (sp_b 209) 51 = .ok (.getfield 17, 3) := by decide +kernel
theorem si_209_54 : decode (sp_b 209) 54 = .ok (.iload_n 1, 1) := by decide +kernel
theorem si_209_55 : decode (sp_b 209) 55 = .ok (.iaload, 1) := by decide +kernel
theorem si_209_56 : decode (sp_b 209) 56 = .ok (.aload_n 0, 1) := by decide +kernel
theorem si_209_57 : decode (sp_b 209) 57 = .ok (.getfield 142, 3) := by decide +kernel
theorem si_209_60 : decode (sp_b 209) 60 = .ok (.if_icmp .eq 9, 3) := by decide +kernel
theorem si_209_63 : decode (sp_b 209) 63 = .ok (.aload_n 0, 1) := by decide +kernel
theorem si_209_64 : decode (sp_b 209) 64 = .ok (.iconst 5, 1) := by decide +kernel
theorem si_209_65 : decode (sp_b 209) 65 = .ok (.invokevirtual 97, 3) := by decide +kernel
theorem si_209_68 : decode (sp_b 209) 68 = .ok (.ireturn, 1) := by decide +kernel
theorem si_209_69 : decode (sp_b 209) 69 = .ok (.iconst 1, 1) := by decide +kernel
theorem si_209_70 : decode (sp_b 209) 70 = .ok (.istore 4, 2) := by decide +kernel
theorem si_209_72 : decode (sp_b 209) 72 = .ok (.iconst 0, 1) := by decide +kernel
theorem si_209_73 : decode (sp_b 209) 73 = .ok (.istore 5, 2) := by decide +kernel
theorem si_209_75 : decode (sp_b 209) 75 = .ok (.iload 5, 2) := by decide +kernel
theorem si_209_77 : decode (sp_b 209) 77 = .ok (.aload_n 0, 1) := by decide +kernel
theorem si_209_78 : decode (sp_b 209) 78 = .ok (.getfield 142, 3) := by decide +kernel
theorem si_209_81 : decode (sp_b 209) 81 = .ok (.if_icmp .ge 38, 3) := by decide +kernel
theorem si_209_84 : decode (sp_b 209) 84 = .ok (.iload 4, 2) := by decide +kernel
theorem si_209_86 : decode (sp_b 209) 86 = .ok (.ifCond .eq 24, 3) := by decide +kernel
theorem si_209_89 : decode (sp_b 209) 89 = .ok (.aload_n 0, 1) := by decide +kernel
theorem si_209_90 : decode (sp_b 209) 90 = .ok (.iload_n 1, 1) := by decide +kernel
theorem si_209_91 : decode (sp_b 209) 91 = .ok (.iload 5, 2) := by decide +kernel
theorem si_209_93 : decode (sp_b 209) 93 = .ok (.invokevirtual 101, 3) := by decide +kernel
theorem sk_209_101 : sp_okL 209 101 143 985 = true := by decide +kernel
theorem si_209_96 : decode (sp_b 209) 96 = .ok (.iconst 0, 1) := by decide +kernel
theorem si_209_97 : decode (sp_b 209) 97 = .ok (.sipush 999, 3) := by decide +kernel
theorem si_209_100 : decode (sp_b 209) 100 = .ok (.invokestatic 83, 3) := by decide +kernel
theorem si_209_103 : decode (sp_b 209) 103 = .ok (.ifCond .eq 7, 3) := by decide +kernel
theorem si_209_106 : decode (sp_b 209) 106 = .ok (.iconst 1, 1) := by decide +kernel
theorem si_209_107 : decode (sp_b 209) 107 = .ok (.goto 4, 3) := by decide +kernel
theorem si_209_110 : decode (sp_b 209) 110 = .ok (.iconst 0, 1) := by decide +kernel
theorem si_209_111 : decode (sp_b 209) 111 = .ok (.istore 4, 2) := by decide +kernel
theorem si_209_113 : decode (sp_b 209) 113 = .ok (.iinc 5 1, 3) := by decide +kernel
theorem si_209_116 : decode (sp_b 209) 116 = .ok (.goto (-41), 3) := by decide +kernel
theorem si_209_119 : decode (sp_b 209) 119 = .ok (.iload 4, 2) := by decide +kernel
theorem si_209_121 : decode (sp_b 209) 121 = .ok (.ifCond .ne 9, 3) := by decide +kernel
theorem si_209_124 : decode (sp_b 209) 124 = .ok (.aload_n 0, 1) := by decide +kernel
theorem si_209_125 : decode (sp_b 209) 125 = .ok (.iconst 3, 1) := by decide +kernel
theorem si_209_126 : decode (sp_b 209) 126 = .ok (.invokevirtual 97, 3) := by decide +kernel
theorem si_209_129 : decode (sp_b 209) 129 = .ok (.ireturn, 1) := by decide +kernel
theorem si_209_130 : decode (sp_b 209) 130 = .ok (.iconst 0, 1) := by decide +kernel
theorem si_209_131 : decode (sp_b 209) 131 = .ok (.istore 5, 2) := by decide +kernel
theorem si_209_133 : decode (sp_b 209) 133 = .ok (.iload 5, 2) := by decide +kernel
theorem si_209_135 : decode (sp_b 209) 135 = .ok (.bipush 9, 2) := by decide +kernel
theorem si_209_137 : decode (sp_b 209) 137 = .ok (.if_icmp .ge 36, 3) := by decide +kernel
theorem si_209_140 : decode (sp_b 209) 140 = .ok (.aload_n 0, 1) := by decide +kernel
theorem si_209_141 : decode (sp_b 209) 141 = .ok (.iconst 1, 1) := by decide +kernel
theorem si_209_142 : decode (sp_b 209) 142 = .ok (.iload 5, 2) := by decide +kernel
theorem si_209_144 : decode (sp_b 209) 144 = .ok (.iload 5, 2) := by decide +kernel
theorem si_209_146 : decode (sp_b 209) 146 = .ok (.aload_n 0, 1) := by decide +kernel
theorem si_209_147 : decode (sp_b 209) 147 = .ok (.getfield 142, 3) := by decide +kernel
theorem si_209_150 : decode (sp_b 209) 150 = .ok (.if_icmp .ge 13, 3) := by decide +kernel
theorem si_209_153 : decode (sp_b 209) 153 = .ok (.aload_n 0, 1) := by decide +kernel
theorem si_209_154 : decode (sp_b 209) 154 = .ok (.iload_n 1, 1) := by decide +kernel
theorem si_209_155 : decode (sp_b 209) 155 = .ok (.iload 5, 2) := by decide +kernel
theorem si_209_157 : decode (sp_b 209) 157 = .ok (.invokevirtual 101, 3) := by decide +kernel
theorem si_209_160 : decode (sp_b 209) 160 = .ok (.goto 4, 3) := by decide +kernel
theorem si_209_163 : decode (sp_b 209) 163 = .ok (.iconst 0, 1) := by decide +kernel
theorem si_209_164 : decode (sp_b 209) 164 = .ok (.invokevirtual 145, 3) := by decide +kernel
theorem sk_209_145 : sp_okL 209 145 160 1051 = true := by decide +kernel
theorem si_209_167 : decode (sp_b 209) 167 = .ok (.iinc 5 1, 3) := by decide +kernel
theorem si_209_170 : decode (sp_b 209) 170 = .ok (.goto (-37), 3) := by decide +kernel
theorem si_209_173 : decode (sp_b 209) 173 = .ok (.aload_n 0, 1) := by decide +kernel
theorem si_209_174 : decode (sp_b 209) 174 = .ok (.iconst 0, 1) := by decide +kernel
theorem si_209_175 : decode (sp_b 209) 175 = .ok (.putfield 247, 3) := by decide +kernel
theorem sf_209_247 : sp_okF 209 247 8 32 868 = true := by decide +kernel
theorem si_209_178 : decode (sp_b 209) 178 = .ok (.aload_n 0, 1) := by decide +kernel
theorem si_209_179 : decode (sp_b 209) 179 = .ok (.iconst 0, 1) := by decide +kernel
theorem si_209_180 : decode (sp_b 209) 180 = .ok (.iload_n 2, 1) := by decide +kernel
theorem si_209_181 : decode (sp_b 209) 181 = .ok (.invokevirtual 259, 3) := by decide +kernel
theorem sk_209_259 : sp_okL 209 259 210 1247 = true := by decide +kernel
theorem si_209_184 : decode (sp_b 209) 184 = .ok (.aload_n 0, 1) := by decide +kernel
theorem si_209_185 : decode (sp_b 209) 185 = .ok (.getfield 247, 3) := by decide +kernel
theorem si_209_188 : decode (sp_b 209) 188 = .ok (.ifCond .le 13, 3) := by decide +kernel
theorem si_209_191 : decode (sp_b 209) 191 = .ok (.aload_n 0, 1) := by decide +kernel
theorem si_209_192 : decode (sp_b 209) 192 = .ok (.iload_n 3, 1) := by decide +kernel
theorem si_209_193 : decode (sp_b 209) 193 = .ok (.aload_n 0, 1) := by decide +kernel
theorem si_209_194 : decode (sp_b 209) 194 = .ok (.getfield 70, 3) := by decide +kernel
theorem sf_209_70 : sp_okF 209 70 8 29 865 = true := by decide +kernel
theorem si_209_197 : decode (sp_b 209) 197 = .ok (.iload_n 2, 1) := by decide +kernel
theorem si_209_198 : decode (sp_b 209) 198 = .ok (.invokevirtual 221, 3) := by decide +kernel
theorem sk_209_221 : sp_okL 209 221 197 1196 = true := by decide +kernel
theorem si_209_201 : decode (sp_b 209) 201 = .ok (.aload_n 0, 1) := by decide +kernel
theorem si_209_202 : decode (sp_b 209) 202 = .ok (.getfield 247, 3) := by decide +kernel
theorem si_209_205 : decode (sp_b 209) 205 = .ok (.ireturn, 1) := by decide +kernel
theorem si_210_0 : decode (sp_b 210) 0 = .ok (.iload_n 1, 1) := by decide +kernel
theorem si_210_1 : decode (sp_b 210) 1 = .ok (.iload_n 2, 1) := by decide +kernel
theorem si_210_2 : decode (sp_b 210) 2 = .ok (.if_icmp .ne 36, 3) := by decide +kernel
theorem si_210_5 : decode (sp_b 210) 5 = .ok (.aload_n 0, 1) := by decide +kernel
theorem si_210_6 : decode (sp_b 210) 6 = .ok (.iconst 1, 1) := by decide +kernel
theorem si_210_7 : decode (sp_b 210) 7 = .ok (.iload_n 1, 1) := by decide +kernel
theorem si_210_8 : decode (sp_b 210) 8 = .ok (.iadd, 1) := by decide +kernel
theorem si_210_9 : decode (sp_b 210) 9 = .ok (.invokevirtual 256, 3) := by decide +kernel
theorem sk_210_256 : sp_okL 210 256 211 1251 = true := by decide +kernel
theorem si_210_12 : decode (sp_b 210) 12 = .ok (.ifCond .eq 25, 3) := by decide +kernel
theorem si_210_15 : decode (sp_b 210) 15 = .ok (.aload_n 0, 1) := by decide +kernel
theorem si_210_16 : decode (sp_b 210) 16 = .ok (.getfield 247, 3) := by decide +kernel
theorem sf_210_247 : sp_okF 210 247 8 32 868 = true := by decide +kernel
theorem si_210_19 : decode (sp_b 210) 19 = .ok (.ifCond .ne 8, 3) := by decide +kernel
theorem si_210_22 : decode (sp_b 210) 22 = .ok (.aload_n 0, 1) := by decide +kernel
theorem si_210_23 : decode (sp_b 210) 23 = .ok (.iload_n 2, 1) := by decide +kernel
theorem si_210_24 : decode (sp_b 210) 24 = .ok (.invokevirtual 228, 3) := by decide +kernel
theorem sk_210_228 : sp_okL 210 228 202 1216 = true := by decide +kernel
theorem si_210_27 : decode (sp_b 210) 27 = .ok (.aload_n 0, 1) := by decide +kernel
theorem si_210_28 : decode (sp_b 210) 28 = .ok (.dup, 1) := by decide +kernel
theorem si_210_29 : decode (sp_b 210) 29 = .ok (.getfield 247, 3) := by decide +kernel
theorem si_210_32 : decode (sp_b 210) 32 = .ok (.iconst 1, 1) := by decide +kernel
theorem si_210_33 : decode (sp_b 210) 33 = .ok (.iadd, 1) := by decide +kernel
theorem si_210_34 : decode (sp_b 210) 34 = .ok (.putfield 247, 3) := by decide +kernel
theorem si_210_37 : decode (sp_b 210) 37 = .ok (.return_, 1) := by decide +kernel
theorem si_210_38 : decode (sp_b 210) 38 = .ok (.iconst 0, 1) := by decide +kernel
theorem si_210_39 : decode (sp_b 210) 39 = .ok (.istore_n 3, 1) := by decide +kernel
theorem si_210_40 : decode (sp_b 210) 40 = .ok (.iload_n 3, 1) := by decide +kernel
theorem si_210_41 : decode (sp_b 210) 41 = .ok (.aload_n 0, 1) := by decide +kernel
theorem si_210_42 : decode (sp_b 210) 42 = .ok (.getfield 142, 3) := by decide +kernel
theorem sf_210_142 : sp_okF 210 142 8 11 847 = true := by decide +kernel
theorem si_210_45 : decode (sp_b 210) 45 = .ok (.if_icmp .ge 53, 3) := by decide +kernel
theorem si_210_48 : decode (sp_b 210) 48 = .ok (.aload_n 0, 1) := by decide +kernel
theorem si_210_49 : decode (sp_b 210) 49 = .ok (.iconst 1, 1) := by decide +kernel
theorem si_210_50 : decode (sp_b 210) 50 = .ok (.iload_n 1, 1) := by decide +kernel
theorem si_210_51 : decode (sp_b 210) 51 = .ok (.iadd, 1) := by decide +kernel
theorem si_210_52 : decode (sp_b 210) 52 = .ok (.iload_n 3, 1) := by decide +kernel
theorem si_210_53 : decode (sp_b 210) 53 = .ok (.invokevirtual 155, 3) := by decide +kernel
theorem sk_210_155 : sp_okL 210 155 165 1071 = true := by decide +kernel
theorem si_210_56 : decode (sp_b 210) 56 = .ok (.ifCond .eq 36, 3) := by decide +kernel
theorem si_210_59 : decode (sp_b 210) 59 = .ok (.aload_n 0, 1) := by decide +kernel
theorem si_210_60 : decode (sp_b 210) 60 = .ok (.iconst 1, 1) := by decide +kernel
theorem si_210_61 : decode (sp_b 210) 61 = .ok (.iload_n 1, 1) := by decide +kernel
theorem si_210_62 : decode (sp_b 210) 62 = .ok (.iadd, 1) := by decide +kernel
theorem si_210_63 : decode (sp_b 210) 63 = .ok (.iconst 2, 1) := by decide +kernel
theorem si_210_64 : decode (sp_b 210) 64 = .ok (.iload_n 1, 1) := by decide +kernel
theorem si_210_65 : decode (sp_b 210) 65 = .ok (.iadd, 1) := by decide +kernel
theorem si_210_66 : decode (sp_b 210) 66 = .ok (.invokevirtual 212, 3) := by decide +kernel
theorem sk_210_212 : sp_okL 210 212 192 1176 = true := by decide +kernel
theorem si_210_69 : decode (sp_b 210) 69 = .ok (.aload_n 0, 1) := by decide +kernel
theorem si_210_70 : decode (sp_b 210) 70 = .ok (.iconst 2, 1) := by decide +kernel
theorem si_210_71 : decode (sp_b 210) 71 = .ok (.iload_n 1, 1) := by decide +kernel
theorem si_210_72 : decode (sp_b 210) 72 = .ok (.iadd, 1) := by decide +kernel
theorem si_210_73 : decode (sp_b 210) 73 = .ok (.iload_n 3, 1) := by decide +kernel
theorem si_210_74 : decode (sp_b 210) 74 = .ok (.invokevirtual 192, 3) := by decide +kernel
theorem sk_210_192 : sp_okL 210 192 175 1108 = true := by decide +kernel
theorem si_210_77 : decode (sp_b 210) 77 = .ok (.aload_n 0, 1) := by decide +kernel
theorem si_210_78 : decode (sp_b 210) 78 = .ok (.getfield 67, 3) := by decide +kernel
theorem sf_210_67 : sp_okF 210 67 8 28 864 = true := by decide +kernel
theorem si_210_81 : decode (sp_b 210) 81 = .ok (.iload_n 1, 1) := by decide +kernel
theorem si_210_82 : decode (sp_b 210) 82 = .ok (.iload_n 3, 1) := by decide +kernel
theorem si_210_83 : decode (sp_b 210) 83 = .ok (.iastore, 1) := by decide +kernel
theorem si_210_84 : decode (sp_b 210) 84 = .ok (.aload_n 0, 1) := by decide +kernel
theorem si_210_85 : decode (sp_b 210) 85 = .ok (.iload_n 1, 1) := by decide +kernel
theorem si_210_86 : decode (sp_b 210) 86 = .ok (.iconst 1, 1) := by decide +kernel
theorem si_210_87 : decode (sp_b 210) 87 = .ok (.iadd, 1) := by decide +kernel
theorem si_210_88 : decode (sp_b 210) 88 = .ok (.iload_n 2, 1) := by decide +kernel
theorem si_210_89 : decode (sp_b 210) 89 = .ok (.invokevirtual 259, 3) := by decide +kernel
theorem sk_210_259 : sp_okL 210 259 210 1247 = true := by decide +kernel
theorem si_210_92 : decode (sp_b 210) 92 = .ok (.iinc 3 1, 3) := by decide +kernel
theorem si_210_95 : decode (sp_b 210) 95 = .ok (.goto (-55), 3) := by decide +kernel
theorem si_210_98 : decode (sp_b 210) 98 = .ok (.return_, 1) := by decide +kernel
theorem si_211_0 : decode (sp_b 211) 0 = .ok (.iconst 1, 1) := by decide +kernel
theorem si_211_1 : decode (sp_b 211) 1 = .ok (.istore_n 2, 1) := by decide +kernel
theorem si_211_2 : decode (sp_b 211) 2 = .ok (.iconst 0, 1) := by decide +kernel
theorem si_211_3 : decode (sp_b 211) 3 = .ok (.istore_n 3, 1) := by decide +kernel
theorem si_211_4 : decode (sp_b 211) 4 = .ok (.iload_n 3, 1) := by decide +kernel
theorem si_211_5 : decode (sp_b 211) 5 = .ok (.aload_n 0, 1) := by decide +kernel
theorem si_211_6 : decode (sp_b 211) 6 = .ok (.getfield 142, 3) := by decide +kernel
theorem sf_211_142 : sp_okF 211 142 8 11 847 = true := by decide +kernel
theorem si_211_9 : decode (sp_b 211) 9 = .ok (.if_icmp .ge 34, 3) := by decide +kernel
theorem si_211_12 : decode (sp_b 211) 12 = .ok (.iload_n 2, 1) := by decide +kernel
theorem si_211_13 : decode (sp_b 211) 13 = .ok (.ifCond .eq 22, 3) := by decide +kernel
theorem si_211_16 : decode (sp_b 211) 16 = .ok (.aload_n 0, 1) := by decide +kernel
theorem si_211_17 : decode (sp_b 211) 17 = .ok (.iload_n 1, 1) := by decide +kernel
theorem si_211_18 : decode (sp_b 211) 18 = .ok (.iload_n 3, 1) := by decide +kernel
theorem si_211_19 : decode (sp_b 211) 19 = .ok (.invokevirtual 152, 3) := by decide +kernel
theorem sk_211_152 : sp_okL 211 152 164 1067 = true := by decide +kernel
theorem si_211_22 : decode (sp_b 211) 22 = .ok (.aload_n 0, 1) := by decide +kernel
theorem si_211_23 : decode (sp_b 211) 23 = .ok (.iconst 0, 1) := by decide +kernel
theorem si_211_24 : decode (sp_b 211) 24 = .ok (.iload_n 3, 1) := by decide +kernel
theorem si_211_25 : decode (sp_b 211) 25 = .ok (.invokevirtual 152, 3) := by decide +kernel
theorem si_211_28 : decode (sp_b 211) 28 = .ok (.if_icmp .ne 7, 3) := by decide +kernel
theorem si_211_31 : decode (sp_b 211) 31 = .ok (.iconst 1, 1) := by decide +kernel
theorem si_211_32 : decode (sp_b 211) 32 = .ok (.goto 4, 3) := by decide +kernel
theorem si_211_35 : decode (sp_b 211) 35 = .ok (.iconst 0, 1) := by decide +kernel
theorem si_211_36 : decode (sp_b 211) 36 = .ok (.istore_n 2, 1) := by decide +kernel
theorem si_211_37 : decode (sp_b 211) 37 = .ok (.iinc 3 1, 3) := by decide +kernel
theorem si_211_40 : decode (sp_b 211) 40 = .ok (.goto (-36), 3) := by decide +kernel
theorem si_211_43 : decode (sp_b 211) 43 = .ok (.iload_n 2, 1) := by decide +kernel
theorem si_211_44 : decode (sp_b 211) 44 = .ok (.ireturn, 1) := by decide +kernel
theorem si_212_0 : decode (sp_b 212) 0 = .ok (.iload_n 1, 1) := by decide +kernel
theorem si_212_1 : decode (sp_b 212) 1 = .ok (.invokestatic 93, 3) := by decide +kernel
theorem sk_212_93 : sp_okL 212 93 140 974 = true := by decide +kernel
theorem si_212_4 : decode (sp_b 212) 4 = .ok (.ifCond .ne 5, 3) := by decide +kernel
theorem si_212_7 : decode (sp_b 212) 7 = .ok (.iconst (-1), 1) := by decide +kernel
theorem si_212_8 : decode (sp_b 212) 8 = .ok (.ireturn, 1) := by decide +kernel
theorem si_212_9 : decode (sp_b 212) 9 = .ok (.aload_n 0, 1) := by decide +kernel
theorem si_212_10 : decode (sp_b 212) 10 = .ok (.iload_n 1, 1) := by decide +kernel
theorem si_212_11 : decode (sp_b 212) 11 = .ok (.invokevirtual 265, 3) := by decide +kernel
theorem sk_212_265 : sp_okL 212 265 213 1259 = true := by decide +kernel
theorem si_212_14 : decode (sp_b 212) 14 = .ok (.istore_n 2, 1) := by decide +kernel
theorem si_212_15 : decode (sp_b 212) 15 = .ok (.iload_n 2, 1) := by decide +kernel
theorem si_212_16 : decode (sp_b 212) 16 = .ok (.ifCond .ge 7, 3) := by decide +kernel
theorem si_212_19 : decode (sp_b 212) 19 = .ok (.iload_n 2, 1) := by decide +kernel
theorem si_212_20 : decode (sp_b 212) 20 = .ok (.goto 8, 3) := by decide +kernel
theorem si_212_23 : decode (sp_b 212) 23 = .ok (.aload_n 0, 1) := by decide +kernel
theorem si_212_24 : decode (sp_b 212) 24 = .ok (.iload_n 1, 1) := by decide +kernel
theorem si_212_25 : decode (sp_b 212) 25 = .ok (.invokevirtual 268, 3) := by decide +kernel
theorem sk_212_268 : sp_okL 212 268 214 1263 = true := by decide +kernel
theorem si_212_28 : decode (sp_b 212) 28 = .ok (.ireturn, 1) := by decide +kernel
theorem si_213_0 : decode (sp_b 213) 0 = .ok (.aload_n 0, 1) := by decide +kernel
theorem si_213_1 : decode (sp_b 213) 1 = .ok (.getfield 17, 3) := by decide +kernel
theorem sf_213_17 : sp_okF 213 17 8 5 841 = true := by decide +kernel
theorem si_213_4 : decode (sp_b 213) 4 = .ok (.iload_n 1, 1) := by decide +kernel
theorem si_213_5 : decode (sp_b 213) 5 = .ok (.iaload, 1) := by decide +kernel
theorem si_213_6 : decode (sp_b 213) 6 = .ok (.ifCond .ge 9, 3) := by decide +kernel
theorem si_213_9 : decode (sp_b 213) 9 = .ok (.aload_n 0, 1) := by decide +kernel
theorem si_213_10 : decode (sp_b 213) 10 = .ok (.iconst 1, 1) := by decide +kernel
theorem si_213_11 : decode (sp_b 213) 11 = .ok (.invokevirtual 97, 3) := by decide +kernel
theorem sk_213_97 : sp_okL 213 97 141 977 = true := by decide +kernel
theorem si_213_14 : decode (sp_b 213) 14 = .ok (.ireturn, 1) := by decide +kernel
theorem si_213_15 : decode (sp_b 213) 15 = .ok (.aload_n 0, 1) := by decide +kernel
theorem si_213_16 : decode (sp_b 213) 16 = .ok (.getfield 17, 3) := by decide +kernel
theorem si_213_19 : decode (sp_b 213) 19 = .ok (.iload_n 1, 1) := by decide +kernel
theorem si_213_20 : decode (sp_b 213) 20 = .ok (.iaload, 1) := by decide +kernel
theorem si_213_21 : decode (sp_b 213) 21 = .ok (.iconst 2, 1) := by decide +kernel
theorem si_213_22 : decode (sp_b 213) 22 = .ok (.irem, 1) := by decide +kernel
theorem si_213_23 : decode (sp_b 213) 23 = .ok (.iconst 1, 1) := by decide +kernel
theorem si_213_24 : decode (sp_b 213) 24 = .ok (.if_icmp .ne 9, 3) := by decide +kernel
theorem si_213_27 : decode (sp_b 213) 27 = .ok (.aload_n 0, 1) := by decide +kernel
theorem si_213_28 : decode (sp_b 213) 28 = .ok (.iconst 5, 1) := by decide +kernel
theorem si_213_29 : decode (sp_b 213) 29 = .ok (.invokevirtual 97, 3) := by decide +kernel
theorem si_213_32 : decode (sp_b 213) 32 = .ok (.ireturn, 1) := by decide +kernel
theorem si_213_33 : decode (sp_b 213) 33 = .ok (.iconst 1, 1) := by decide +kernel
theorem si_213_34 : decode (sp_b 213) 34 = .ok (.istore_n 2, 1) := by decide +kernel
theorem si_213_35 : decode (sp_b 213) 35 = .ok (.iconst 0, 1) := by decide +kernel
theorem si_213_36 : decode (sp_b 213) 36 = .ok (.istore_n 3, 1) := by decide +kernel
theorem si_213_37 : decode (sp_b 213) 37 = .ok (.iload_n 3, 1) := by decide +kernel
theorem si_213_38 : decode (sp_b 213) 38 = .ok (.aload_n 0, 1) := by decide +kernel
theorem si_213_39 : decode (sp_b 213) 39 = .ok (.getfield 17, 3) := by decide +kernel
theorem si_213_42 : decode (sp_b 213) 42 = .ok (.iload_n 1, 1) := by decide +kernel
theorem si_213_43 : decode (sp_b 213) 43 = .ok (.iaload, 1) := by decide +kernel
theorem si_213_44 : decode (sp_b 213) 44 = .ok (.if_icmp .ge 55, 3) := by decide +kernel
theorem si_213_47 : decode (sp_b 213) 47 = .ok (.iload_n 2, 1) := by decide +kernel
theorem si_213_48 : decode (sp_b 213) 48 = .ok (.ifCond .eq 43, 3) := by decide +kernel
theorem si_213_51 : decode (sp_b 213) 51 = .ok (.iload_n 3, 1) := by decide +kernel
theorem si_213_52 : decode (sp_b 213) 52 = .ok (.iconst 2, 1) := by decide +kernel
theorem si_213_53 : decode (sp_b 213) 53 = .ok (.irem, 1) := by decide +kernel
theorem si_213_54 : decode (sp_b 213) 54 = .ok (.ifCond .ne 19, 3) := by decide +kernel
theorem si_213_57 : decode (sp_b 213) 57 = .ok (.aload_n 0, 1) := by decide +kernel
theorem si_213_58 : decode (sp_b 213) 58 = .ok (.aload_n 0, 1) := by decide +kernel
theorem si_213_59 : decode (sp_b 213) 59 = .ok (.iload_n 1, 1) := by decide +kernel
theorem si_213_60 : decode (sp_b 213) 60 = .ok (.iload_n 3, 1) := by decide +kernel
theorem si_213_61 : decode (sp_b 213) 61 = .ok (.invokevirtual 101, 3) := by decide +kernel
theorem sk_213_101 : sp_okL 213 101 143 985 = true := by decide +kernel
theorem si_213_64 : decode (sp_b 213) 64 = .ok (.invokevirtual 174, 3) := by decide +kernel
theorem sk_213_174 : sp_okL 213 174 162 1059 = true := by decide +kernel
theorem si_213_67 : decode (sp_b 213) 67 = .ok (.ifCond .eq 24, 3) := by decide +kernel
theorem si_213_70 : decode (sp_b 213) 70 = .ok (.goto 17, 3) := by decide +kernel
theorem si_213_73 : decode (sp_b 213) 73 = .ok (.aload_n 0, 1) := by decide +kernel
theorem si_213_74 : decode (sp_b 213) 74 = .ok (.iload_n 1, 1) := by decide +kernel
theorem si_213_75 : decode (sp_b 213) 75 = .ok (.iload_n 3, 1) := by decide +kernel
theorem si_213_76 : decode (sp_b 213) 76 = .ok (.invokevirtual 101, 3) := by decide +kernel
theorem si_213_79 : decode (sp_b 213) 79 = .ok (.iconst 0, 1) := by decide +kernel
theorem si_213_80 : decode (sp_b 213) 80 = .ok (.iconst 1, 1) := by decide +kernel
theorem si_213_81 : decode (sp_b 213) 81 = .ok (.invokestatic 83, 3) := by decide +kernel
theorem sk_213_83 : sp_okL 213 83 135 955 = true := by decide +kernel
theorem si_213_84 : decode (sp_b 213) 84 = .ok (.ifCond .eq 7, 3) := by decide +kernel
theorem si_213_87 : decode (sp_b 213) 87 = .ok (.iconst 1, 1) := by decide +kernel
theorem si_213_88 : decode (sp_b 213) 88 = .ok (.goto 4, 3) := by decide +kernel
theorem si_213_91 : decode (sp_b 213) 91 = .ok (.iconst 0, 1) := by decide +kernel
theorem si_213_92 : decode (sp_b 213) 92 = .ok (.istore_n 2, 1) := by decide +kernel
theorem si_213_93 : decode (sp_b 213) 93 = .ok (.iinc 3 1, 3) := by decide +kernel
theorem si_213_96 : decode (sp_b 213) 96 = .ok (.goto (-59), 3) := by decide +kernel
theorem si_213_99 : decode (sp_b 213) 99 = .ok (.iload_n 2, 1) := by decide +kernel
theorem si_213_100 : decode (sp_b 213) 100 = .ok (.ifCond .eq 7, 3) := by decide +kernel
theorem si_213_103 : decode (sp_b 213) 103 = .ok (.iconst 0, 1) := by decide +kernel
theorem si_213_104 : decode (sp_b 213) 104 = .ok (.goto 8, 3) := by decide +kernel
theorem si_213_107 : decode (sp_b 213) 107 = .ok (.aload_n 0, 1) := by decide +kernel
theorem si_213_108 : decode (sp_b 213) 108 = .ok (.iconst 3, 1) := by decide +kernel
theorem si_213_109 : decode (sp_b 213) 109 = .ok (.invokevirtual 97, 3) := by decide +kernel
theorem si_213_112 : decode (sp_b 213) 112 = .ok (.ireturn, 1) := by decide +kernel
theorem si_214_0 : decode (sp_b 214) 0 = .ok (.iconst 0, 1) := by decide +kernel
theorem si_214_1 : decode (sp_b 214) 1 = .ok (.istore_n 2, 1) := by decide +kernel
theorem si_214_2 : decode (sp_b 214) 2 = .ok (.iconst 0, 1) := by decide +kernel
theorem si_214_3 : decode (sp_b 214) 3 = .ok (.istore_n 3, 1) := by decide +kernel
theorem si_214_4 : decode (sp_b 214) 4 = .ok (.iload_n 3, 1) := by decide +kernel
theorem si_214_5 : decode (sp_b 214) 5 = .ok (.aload_n 0, 1) := by decide +kernel
theorem si_214_6 : decode (sp_b 214) 6 = .ok (.getfield 142, 3) := by decide +kernel
theorem sf_214_142 : sp_okF 214 142 8 11 847 = true := by decide +kernel
theorem si_214_9 : decode (sp_b 214) 9 = .ok (.if_icmp .ge 91, 3) := by decide +kernel
theorem si_214_12 : decode (sp_b 214) 12 = .ok (.iconst 1, 1) := by decide +kernel
theorem si_214_13 : decode (sp_b 214) 13 = .ok (.istore 4, 2) := by decide +kernel
theorem si_214_15 : decode (sp_b 214) 15 = .ok (.iconst 0, 1) := by decide +kernel
theorem si_214_16 : decode (sp_b 214) 16 = .ok (.istore 5, 2) := by decide +kernel
theorem si_214_18 : decode (sp_b 214) 18 = .ok (.iload 5, 2) := by decide +kernel
theorem si_214_20 : decode (sp_b 214) 20 = .ok (.aload_n 0, 1) := by decide +kernel
theorem si_214_21 : decode (sp_b 214) 21 = .ok (.getfield 17, 3) := by decide +kernel
theorem sf_214_17 : sp_okF 214 17 8 5 841 = true := by decide +kernel
theorem si_214_24 : decode (sp_b 214) 24 = .ok (.iload_n 1, 1) := by decide +kernel
theorem si_214_25 : decode (sp_b 214) 25 = .ok (.iaload, 1) := by decide +kernel
theorem si_214_26 : decode (sp_b 214) 26 = .ok (.if_icmp .ge 53, 3) := by decide +kernel
theorem si_214_29 : decode (sp_b 214) 29 = .ok (.iload 4, 2) := by decide +kernel
theorem si_214_31 : decode (sp_b 214) 31 = .ok (.ifCond .eq 39, 3) := by decide +kernel
theorem si_214_34 : decode (sp_b 214) 34 = .ok (.aload_n 0, 1) := by decide +kernel
theorem si_214_35 : decode (sp_b 214) 35 = .ok (.iload_n 1, 1) := by decide +kernel
theorem si_214_36 : decode (sp_b 214) 36 = .ok (.iload 5, 2) := by decide +kernel
theorem si_214_38 : decode (sp_b 214) 38 = .ok (.invokevirtual 101, 3) := by decide +kernel
theorem sk_214_101 : sp_okL 214 101 143 985 = true := by decide +kernel
theorem si_214_41 : decode (sp_b 214) 41 = .ok (.iload_n 3, 1) := by decide +kernel
theorem si_214_42 : decode (sp_b 214) 42 = .ok (.invokestatic 262, 3) := by decide +kernel
theorem sk_214_262 : sp_okL 214 262 215 1267 = true := by decide +kernel
theorem si_214_45 : decode (sp_b 214) 45 = .ok (.aload_n 0, 1) := by decide +kernel
theorem si_214_46 : decode (sp_b 214) 46 = .ok (.iload_n 1, 1) := by decide +kernel
theorem si_214_47 : decode (sp_b 214) 47 = .ok (.iload 5, 2) := by decide +kernel
theorem si_214_49 : decode (sp_b 214) 49 = .ok (.iconst 1, 1) := by decide +kernel
theorem si_214_50 : decode (sp_b 214) 50 = .ok (.iadd, 1) := by decide +kernel
theorem si_214_51 : decode (sp_b 214) 51 = .ok (.invokevirtual 101, 3) := by decide +kernel
theorem si_214_54 : decode (sp_b 214) 54 = .ok (.iconst 1, 1) := by decide +kernel
theorem si_214_55 : decode (sp_b 214) 55 = .ok (.if_icmp .ne 7, 3) := by decide +kernel
theorem si_214_58 : decode (sp_b 214) 58 = .ok (.iconst 1, 1) := by decide +kernel
theorem si_214_59 : decode (sp_b 214) 59 = .ok (.goto 4, 3) := by decide +kernel
theorem si_214_62 : decode (sp_b 214) 62 = .ok (.iconst 0, 1) := by decide +kernel
theorem si_214_63 : decode (sp_b 214) 63 = .ok (.if_icmp .ne 7, 3) := by decide +kernel
theorem si_214_66 : decode (sp_b 214) 66 = .ok (.iconst 1, 1) := by decide +kernel
theorem si_214_67 : decode (sp_b 214) 67 = .ok (.goto 4, 3) := by decide +kernel
theorem si_214_70 : decode (sp_b 214) 70 = .ok (.iconst 0, 1) := by decide +kernel
theorem si_214_71 : decode (sp_b 214) 71 = .ok (.istore 4, 2) := by decide +kernel
theorem si_214_73 : decode (sp_b 214) 73 = .ok (.iinc 5 2, 3) := by decide +kernel
theorem si_214_76 : decode (sp_b 214) 76 = .ok (.goto (-58), 3) := by decide +kernel
theorem si_214_79 : decode (sp_b 214) 79 = .ok (.iload_n 2, 1) := by decide +kernel
theorem si_214_80 : decode (sp_b 214) 80 = .ok (.iload 4, 2) := by decide +kernel
theorem si_214_82 : decode (sp_b 214) 82 = .ok (.ifCond .eq 9, 3) := by decide +kernel
theorem si_214_85 : decode (sp_b 214) 85 = .ok (.iconst 1, 1) := by decide +kernel
theorem si_214_86 : decode (sp_b 214) 86 = .ok (.iload_n 3, 1) := by decide +kernel
theorem si_214_87 : decode (sp_b 214) 87 = .ok (.ishl, 1) := by decide +kernel
theorem si_214_88 : decode (sp_b 214) 88 = .ok (.goto 4, 3) := by decide +kernel
theorem si_214_91 : decode (sp_b 214) 91 = .ok (.iconst 0, 1) := by decide +kernel
theorem si_214_92 : decode (sp_b 214) 92 = .ok (.ior, 1) := by decide +kernel
theorem si_214_93 : decode (sp_b 214) 93 = .ok (.istore_n 2, 1) := by decide +kernel
theorem si_214_94 : decode (sp_b 214) 94 = .ok (.iinc 3 1, 3) := by decide +kernel
theorem si_214_97 : decode (sp_b 214) 97 = .ok (.goto (-93), 3) := by decide +kernel
theorem si_214_100 : decode (sp_b 214) 100 = .ok (.iload_n 2, 1) := by decide +kernel
theorem si_214_101 : decode (sp_b 214) 101 = .ok (.ireturn, 1) := by decide +kernel
theorem si_215_0 : decode (sp_b 215) 0 = .ok (.iload_n 0, 1) := by decide +kernel
theorem si_215_1 : decode (sp_b 215) 1 = .ok (.iload_n 1, 1) := by decide +kernel
theorem si_215_2 : decode (sp_b 215) 2 = .ok (.isub, 1) := by decide +kernel
theorem si_215_3 : decode (sp_b 215) 3 = .ok (.iconst (-1), 1) := by decide +kernel
theorem si_215_4 : decode (sp_b 215) 4 = .ok (.iconst 1, 1) := by decide +kernel
theorem si_215_5 : decode (sp_b 215) 5 = .ok (.invokestatic 83, 3) := by decide +kernel
theorem sk_215_83 : sp_okL 215 83 135 955 = true := by decide +kernel
theorem si_215_8 : decode (sp_b 215) 8 = .ok (.ireturn, 1) := by decide +kernel
theorem si_216_0 : decode (sp_b 216) 0 = .ok (.iload_n 1, 1) := by decide +kernel
theorem si_216_1 : decode (sp_b 216) 1 = .ok (.invokestatic 93, 3) := by decide +kernel
theorem sk_216_93 : sp_okL 216 93 140 974 = true := by decide +kernel
theorem si_216_4 : decode (sp_b 216) 4 = .ok (.ifCond .ne 5, 3) := by decide +kernel
theorem si_216_7 : decode (sp_b 216) 7 = .ok (.iconst (-1), 1) := by decide +kernel
theorem si_216_8 : decode (sp_b 216) 8 = .ok (.ireturn, 1) := by decide +kernel
theorem si_216_9 : decode (sp_b 216) 9 = .ok (.aload_n 0, 1) := by decide +kernel
theorem si_216_10 : decode (sp_b 216) 10 = .ok (.iload_n 1, 1) := by decide +kernel
theorem si_216_11 : decode (sp_b 216) 11 = .ok (.invokevirtual 265, 3) := by decide +kernel
theorem sk_216_265 : sp_okL 216 265 213 1259 = true := by decide +kernel
theorem si_216_14 : decode (sp_b 216) 14 = .ok (.istore_n 2, 1) := by decide +kernel
theorem si_216_15 : decode (sp_b 216) 15 = .ok (.iload_n 2, 1) := by decide +kernel
theorem si_216_16 : decode (sp_b 216) 16 = .ok (.ifCond .ge 5, 3) := by decide +kernel
theorem si_216_19 : decode (sp_b 216) 19 = .ok (.iload_n 2, 1) := by decide +kernel
theorem si_216_20 : decode (sp_b 216) 20 = .ok (.ireturn, 1) := by decide +kernel
theorem si_216_21 : decode (sp_b 216) 21 = .ok (.aload_n 0, 1) := by decide +kernel
theorem si_216_22 : decode (sp_b 216) 22 = .ok (.iload_n 1, 1) := by decide +kernel
theorem si_216_23 : decode (sp_b 216) 23 = .ok (.invokevirtual 268, 3) := by decide +kernel
theorem sk_216_268 : sp_okL 216 268 214 1263 = true := by decide +kernel
theorem si_216_26 : decode (sp_b 216) 26 = .ok (.istore_n 3, 1) := by decide +kernel
theorem si_216_27 : decode (sp_b 216) 27 = .ok (.iload_n 3, 1) := by decide +kernel
theorem si_216_28 : decode (sp_b 216) 28 = .ok (.ifCond .ne 6, 3) := by decide +kernel
theorem si_216_31 : decode (sp_b 216) 31 = .ok (.bipush (-9), 2) := by decide +kernel
theorem si_216_33 : decode (sp_b 216) 33 = .ok (.ireturn, 1) := by decide +kernel
theorem si_216_34 : decode (sp_b 216) 34 = .ok (.bipush (-9), 2) := by decide +kernel
theorem si_216_36 : decode (sp_b 216) 36 = .ok (.istore 4, 2) := by decide +kernel
theorem si_216_38 : decode (sp_b 216) 38 = .ok (.iconst 0, 1) := by decide +kernel
theorem si_216_39 : decode (sp_b 216) 39 = .ok (.istore 5, 2) := by decide +kernel
theorem si_216_41 : decode (sp_b 216) 41 = .ok (.iconst 0, 1) := by decide +kernel
theorem si_216_42 : decode (sp_b 216) 42 = .ok (.istore 6, 2) := by decide +kernel
theorem si_216_44 : decode (sp_b 216) 44 = .ok (.iload 6, 2) := by decide +kernel
theorem si_216_46 : decode (sp_b 216) 46 = .ok (.aload_n 0, 1) := by decide +kernel
theorem si_216_47 : decode (sp_b 216) 47 = .ok (.getfield 142, 3) := by decide +kernel
theorem sf_216_142 : sp_okF 216 142 8 11 847 = true := by decide +kernel
theorem si_216_50 : decode (sp_b 216) 50 = .ok (.if_icmp .ge 95, 3) := by decide +kernel
theorem si_216_53 : decode (sp_b 216) 53 = .ok (.iconst 0, 1) := by decide +kernel
theorem si_216_54 : decode (sp_b 216) 54 = .ok (.istore 7, 2) := by decide +kernel
theorem si_216_56 : decode (sp_b 216) 56 = .ok (.iconst 0, 1) := by decide +kernel
theorem si_216_57 : decode (sp_b 216) 57 = .ok (.istore 8, 2) := by decide +kernel
theorem si_216_59 : decode (sp_b 216) 59 = .ok (.iload 8, 2) := by decide +kernel
theorem si_216_61 : decode (sp_b 216) 61 = .ok (.aload_n 0, 1) := by decide +kernel
theorem si_216_62 : decode (sp_b 216) 62 = .ok (.getfield 142, 3) := by decide +kernel
theorem si_216_65 : decode (sp_b 216) 65 = .ok (.if_icmp .ge 38, 3) := by decide +kernel
theorem si_216_68 : decode (sp_b 216) 68 = .ok (.iload 7, 2) := by decide +kernel
theorem si_216_70 : decode (sp_b 216) 70 = .ok (.iload_n 3, 1) := by decide +kernel
theorem si_216_71 : decode (sp_b 216) 71 = .ok (.iload 8, 2) := by decide +kernel
theorem si_216_73 : decode (sp_b 216) 73 = .ok (.invokestatic 232, 3) := by decide +kernel
theorem sk_216_232 : sp_okL 216 232 203 1220 = true := by decide +kernel
theorem si_216_76 : decode (sp_b 216) 76 = .ok (.ifCond .eq 17, 3) := by decide +kernel
theorem si_216_79 : decode (sp_b 216) 79 = .ok (.iload 6, 2) := by decide +kernel
theorem si_216_81 : decode (sp_b 216) 81 = .ok (.iload 8, 2) := by decide +kernel
theorem si_216_83 : decode (sp_b 216) 83 = .ok (.invokestatic 262, 3) := by decide +kernel
theorem sk_216_262 : sp_okL 216 262 215 1267 = true := by decide +kernel
theorem si_216_86 : decode (sp_b 216) 86 = .ok (.ifCond .eq 7, 3) := by decide +kernel
theorem si_216_89 : decode (sp_b 216) 89 = .ok (.iconst 1, 1) := by decide +kernel
theorem si_216_90 : decode (sp_b 216) 90 = .ok (.goto 4, 3) := by decide +kernel
theorem si_216_93 : decode (sp_b 216) 93 = .ok (.iconst 0, 1) := by decide +kernel
theorem si_216_94 : decode (sp_b 216) 94 = .ok (.iadd, 1) := by decide +kernel
theorem si_216_95 : decode (sp_b 216) 95 = .ok (.istore 7, 2) := by decide +kernel
theorem si_216_97 : decode (sp_b 216) 97 = .ok (.iinc 8 1, 3) := by decide +kernel
theorem si_216_100 : decode (sp_b 216) 100 = .ok (.goto (-41), 3) := by decide +kernel
theorem si_216_103 : decode (sp_b 216) 103 = .ok (.iload 7, 2) := by decide +kernel
theorem si_216_105 : decode (sp_b 216) 105 = .ok (.iload_n 3, 1) := by decide +kernel
theorem si_216_106 : decode (sp_b 216) 106 = .ok (.invokestatic 186, 3) := by decide +kernel
theorem sk_216_186 : sp_okL 216 186 171 1093 = true := by decide +kernel
theorem si_216_109 : decode (sp_b 216) 109 = .ok (.iload 7, 2) := by decide +kernel
theorem si_216_111 : decode (sp_b 216) 111 = .ok (.isub, 1) := by decide +kernel
theorem si_216_112 : decode (sp_b 216) 112 = .ok (.invokestatic 180, 3) := by decide +kernel
theorem sk_216_180 : sp_okL 216 180 168 1082 = true := by decide +kernel
theorem si_216_115 : decode (sp_b 216) 115 = .ok (.istore 8, 2) := by decide +kernel
theorem si_216_117 : decode (sp_b 216) 117 = .ok (.iload 4, 2) := by decide +kernel
theorem si_216_119 : decode (sp_b 216) 119 = .ok (.bipush (-9), 2) := by decide +kernel
theorem si_216_121 : decode (sp_b 216) 121 = .ok (.if_icmp .eq 10, 3) := by decide +kernel
theorem si_216_124 : decode (sp_b 216) 124 = .ok (.iload 8, 2) := by decide +kernel
theorem si_216_126 : decode (sp_b 216) 126 = .ok (.iload 5, 2) := by decide +kernel
theorem si_216_128 : decode (sp_b 216) 128 = .ok (.if_icmp .ge 11, 3) := by decide +kernel
theorem si_216_131 : decode (sp_b 216) 131 = .ok (.iload 6, 2) := by decide +kernel
theorem si_216_133 : decode (sp_b 216) 133 = .ok (.istore 4, 2) := by decide +kernel
theorem si_216_135 : decode (sp_b 216) 135 = .ok (.iload 8, 2) := by decide +kernel
theorem si_216_137 : decode (sp_b 216) 137 = .ok (.istore 5, 2) := by decide +kernel
theorem si_216_139 : decode (sp_b 216) 139 = .ok (.iinc 6 1, 3) := by decide +kernel
theorem si_216_142 : decode (sp_b 216) 142 = .ok (.goto (-98), 3) := by decide +kernel
theorem si_216_145 : decode (sp_b 216) 145 = .ok (.aload_n 0, 1) := by decide +kernel
theorem si_216_146 : decode (sp_b 216) 146 = .ok (.iload 5, 2) := by decide +kernel
theorem si_216_148 : decode (sp_b 216) 148 = .ok (.iload 4, 2) := by decide +kernel
theorem si_216_150 : decode (sp_b 216) 150 = .ok (.invokevirtual 105, 3) := by decide +kernel
theorem sk_216_105 : sp_okL 216 105 144 989 = true := by decide +kernel
theorem si_216_153 : decode (sp_b 216) 153 = .ok (.ireturn, 1) := by decide +kernel
theorem si_217_0 : decode (sp_b 217) 0 = .ok (.iload_n 1, 1) := by decide +kernel
theorem si_217_1 : decode (sp_b 217) 1 = .ok (.invokestatic 93, 3) := by decide +kernel
theorem sk_217_93 : sp_okL 217 93 140 974 = true := by decide +kernel
theorem si_217_4 : decode (sp_b 217) 4 = .ok (.ifCond .ne 5, 3) := by decide +kernel
theorem si_217_7 : decode (sp_b 217) 7 = .ok (.iconst (-1), 1) := by decide +kernel
theorem si_217_8 : decode (sp_b 217) 8 = .ok (.ireturn, 1) := by decide +kernel
theorem si_217_9 : decode (sp_b 217) 9 = .ok (.aload_n 0, 1) := by decide +kernel
theorem si_217_10 : decode (sp_b 217) 10 = .ok (.iload_n 1, 1) := by decide +kernel
theorem si_217_11 : decode (sp_b 217) 11 = .ok (.invokevirtual 209, 3) := by decide +kernel
theorem sk_217_209 : sp_okL 217 209 190 1168 = true := by decide +kernel
theorem si_217_14 : decode (sp_b 217) 14 = .ok (.istore_n 2, 1) := by decide +kernel
theorem si_217_15 : decode (sp_b 217) 15 = .ok (.iload_n 2, 1) := by decide +kernel
theorem si_217_16 : decode (sp_b 217) 16 = .ok (.ifCond .ge 5, 3) := by decide +kernel
theorem si_217_19 : decode (sp_b 217) 19 = .ok (.iload_n 2, 1) := by decide +kernel
theorem si_217_20 : decode (sp_b 217) 20 = .ok (.ireturn, 1) := by decide +kernel
theorem si_217_21 : decode (sp_b 217) 21 = .ok (.aload_n 0, 1) := by decide +kernel
theorem si_217_22 : decode (sp_b 217) 22 = .ok (.iconst 0, 1) := by decide +kernel
theorem si_217_23 : decode (sp_b 217) 23 = .ok (.iconst 1, 1) := by decide +kernel
theorem si_217_24 : decode (sp_b 217) 24 = .ok (.invokevirtual 212, 3) := by decide +kernel
theorem sk_217_212 : sp_okL 217 212 192 1176 = true := by decide +kernel
theorem si_217_27 : decode (sp_b 217) 27 = .ok (.lconst 1, 1) := by decide +kernel
theorem si_217_28 : decode (sp_b 217) 28 = .ok (.lstore_n 3, 1) := by decide +kernel
theorem si_217_29 : decode (sp_b 217) 29 = .ok (.iconst 0, 1) := by decide +kernel
theorem si_217_30 : decode (sp_b 217) 30 = .ok (.istore 5, 2) := by decide +kernel
theorem si_217_32 : decode (sp_b 217) 32 = .ok (.iload 5, 2) := by decide +kernel
theorem si_217_34 : decode (sp_b 217) 34 = .ok (.aload_n 0, 1) := by decide +kernel
theorem si_217_35 : decode (sp_b 217) 35 = .ok (.getfield 17, 3) := by decide +kernel
theorem sf_217_17 : sp_okF 217 17 8 5 841 = true := by decide +kernel
theorem si_217_38 : decode (sp_b 217) 38 = .ok (.iload_n 1, 1) := by decide +kernel
theorem si_217_39 : decode (sp_b 217) 39 = .ok (.iaload, 1) := by decide +kernel
theorem si_217_40 : decode (sp_b 217) 40 = .ok (.if_icmp .ge 55, 3) := by decide +kernel
theorem si_217_43 : decode (sp_b 217) 43 = .ok (.aload_n 0, 1) := by decide +kernel
theorem si_217_44 : decode (sp_b 217) 44 = .ok (.iconst 1, 1) := by decide +kernel
theorem si_217_45 : decode (sp_b 217) 45 = .ok (.aload_n 0, 1) := by decide +kernel
theorem si_217_46 : decode (sp_b 217) 46 = .ok (.iload_n 1, 1) := by decide +kernel
theorem si_217_47 : decode (sp_b 217) 47 = .ok (.iload 5, 2) := by decide +kernel
theorem si_217_49 : decode (sp_b 217) 49 = .ok (.invokevirtual 101, 3) := by decide +kernel
theorem sk_217_101 : sp_okL 217 101 143 985 = true := by decide +kernel
theorem si_217_52 : decode (sp_b 217) 52 = .ok (.invokevirtual 155, 3) := by decide +kernel
theorem sk_217_155 : sp_okL 217 155 165 1071 = true := by decide +kernel
theorem si_217_55 : decode (sp_b 217) 55 = .ok (.ifCond .ne 10, 3) := by decide +kernel
theorem si_217_58 : decode (sp_b 217) 58 = .ok (.aload_n 0, 1) := by decide +kernel
theorem si_217_59 : decode (sp_b 217) 59 = .ok (.lconst 0, 1) := by decide +kernel
theorem si_217_60 : decode (sp_b 217) 60 = .ok (.lconst 1, 1) := by decide +kernel
theorem si_217_61 : decode (sp_b 217) 61 = .ok (.invokevirtual 271, 3) := by decide +kernel
theorem sk_217_271 : sp_okL 217 271 218 1278 = true := by decide +kernel
theorem si_217_64 : decode (sp_b 217) 64 = .ok (.ireturn, 1) := by decide +kernel
theorem si_217_65 : decode (sp_b 217) 65 = .ok (.lload_n 3, 1) := by decide +kernel
theorem si_217_66 : decode (sp_b 217) 66 = .ok (.aload_n 0, 1) := by decide +kernel
theorem si_217_67 : decode (sp_b 217) 67 = .ok (.iconst 1, 1) := by decide +kernel
theorem si_217_68 : decode (sp_b 217) 68 = .ok (.invokevirtual 183, 3) := by decide +kernel
theorem sk_217_183 : sp_okL 217 183 170 1089 = true := by decide +kernel
theorem si_217_71 : decode (sp_b 217) 71 = .ok (.invokestatic 186, 3) := by decide +kernel
theorem sk_217_186 : sp_okL 217 186 171 1093 = true := by decide +kernel
theorem si_217_74 : decode (sp_b 217) 74 = .ok (.i2l, 1) := by decide +kernel
theorem si_217_75 : decode (sp_b 217) 75 = .ok (.lmul, 1) := by decide +kernel
theorem si_217_76 : decode (sp_b 217) 76 = .ok (.lstore_n 3, 1) := by decide +kernel
theorem si_217_77 : decode (sp_b 217) 77 = .ok (.aload_n 0, 1) := by decide +kernel
theorem si_217_78 : decode (sp_b 217) 78 = .ok (.iconst 1, 1) := by decide +kernel
theorem si_217_79 : decode (sp_b 217) 79 = .ok (.aload_n 0, 1) := by decide +kernel
theorem si_217_80 : decode (sp_b 217) 80 = .ok (.iload_n 1, 1) := by decide +kernel
theorem si_217_81 : decode (sp_b 217) 81 = .ok (.iload 5, 2) := by decide +kernel
theorem si_217_83 : decode (sp_b 217) 83 = .ok (.invokevirtual 101, 3) := by decide +kernel
theorem si_217_86 : decode (sp_b 217) 86 = .ok (.invokevirtual 192, 3) := by decide +kernel
theorem sk_217_192 : sp_okL 217 192 175 1108 = true := by decide +kernel
theorem si_217_89 : decode (sp_b 217) 89 = .ok (.iinc 5 1, 3) := by decide +kernel
theorem si_217_92 : decode (sp_b 217) 92 = .ok (.goto (-60), 3) := by decide +kernel
theorem si_217_95 : decode (sp_b 217) 95 = .ok (.aload_n 0, 1) := by decide +kernel
theorem si_217_96 : decode (sp_b 217) 96 = .ok (.lconst 1, 1) := by decide +kernel
theorem si_217_97 : decode (sp_b 217) 97 = .ok (.lload_n 3, 1) := by decide +kernel
theorem si_217_98 : decode (sp_b 217) 98 = .ok (.invokevirtual 271, 3) := by decide +kernel
theorem si_217_101 : decode (sp_b 217) 101 = .ok (.ireturn, 1) := by decide +kernel
theorem si_218_0 : decode (sp_b 218) 0 = .ok (.lload_n 1, 1) := by decide +kernel
theorem si_218_1 : decode (sp_b 218) 1 = .ok (.lstore 5, 2) := by decide +kernel
theorem si_218_3 : decode (sp_b 218) 3 = .ok (.lload_n 3, 1) := by decide +kernel
theorem si_218_4 : decode (sp_b 218) 4 = .ok (.lstore 7, 2) := by decide +kernel
theorem si_218_6 : decode (sp_b 218) 6 = .ok (.lload 7, 2) := by decide +kernel
theorem si_218_8 : decode (sp_b 218) 8 = .ok (.lconst 0, 1) := by decide +kernel
theorem si_218_9 : decode (sp_b 218) 9 = .ok (.lcmp, 1) := by decide +kernel
theorem si_218_10 : decode (sp_b 218) 10 = .ok (.ifCond .eq 21, 3) := by decide +kernel
theorem si_218_13 : decode (sp_b 218) 13 = .ok (.lload 5, 2) := by decide +kernel
theorem si_218_15 : decode (sp_b 218) 15 = .ok (.lload 7, 2) := by decide +kernel
theorem si_218_17 : decode (sp_b 218) 17 = .ok (.lrem, 1) := by decide +kernel
theorem si_218_18 : decode (sp_b 218) 18 = .ok (.lstore 9, 2) := by decide +kernel
theorem si_218_20 : decode (sp_b 218) 20 = .ok (.lload 7, 2) := by decide +kernel
theorem si_218_22 : decode (sp_b 218) 22 = .ok (.lstore 5, 2) := by decide +kernel
theorem si_218_24 : decode (sp_b 218) 24 = .ok (.lload 9, 2) := by decide +kernel
theorem si_218_26 : decode (sp_b 218) 26 = .ok (.lstore 7, 2) := by decide +kernel
theorem si_218_28 : decode (sp_b 218) 28 = .ok (.goto (-22), 3) := by decide +kernel
theorem si_218_31 : decode (sp_b 218) 31 = .ok (.aload_n 0, 1) := by decide +kernel
theorem si_218_32 : decode (sp_b 218) 32 = .ok (.lload_n 1, 1) := by decide +kernel
theorem si_218_33 : decode (sp_b 218) 33 = .ok (.lload 5, 2) := by decide +kernel
theorem si_218_35 : decode (sp_b 218) 35 = .ok (.ldiv, 1) := by decide +kernel
theorem si_218_36 : decode (sp_b 218) 36 = .ok (.putfield 90, 3) := by decide +kernel
theorem sf_218_90 : sp_okF 218 90 8 3 839 = true := by decide +kernel
theorem si_218_39 : decode (sp_b 218) 39 = .ok (.aload_n 0, 1) := by decide +kernel
theorem si_218_40 : decode (sp_b 218) 40 = .ok (.lload_n 3, 1) := by decide +kernel
theorem si_218_41 : decode (sp_b 218) 41 = .ok (.lload 5, 2) := by decide +kernel
theorem si_218_43 : decode (sp_b 218) 43 = .ok (.ldiv, 1) := by decide +kernel
theorem si_218_44 : decode (sp_b 218) 44 = .ok (.putfield 13, 3) := by decide +kernel
theorem sf_218_13 : sp_okF 218 13 8 4 840 = true := by decide +kernel
theorem si_218_47 : decode (sp_b 218) 47 = .ok (.iconst 1, 1) := by decide +kernel
theorem si_218_48 : decode (sp_b 218) 48 = .ok (.ireturn, 1) := by decide +kernel
theorem si_219_0 : decode (sp_b 219) 0 = .ok (.aload_n 0, 1) := by decide +kernel
theorem si_219_1 : decode (sp_b 219) 1 = .ok (.iload_n 1, 1) := by decide +kernel
theorem si_219_2 : decode (sp_b 219) 2 = .ok (.invokevirtual 174, 3) := by decide +kernel
theorem sk_219_174 : sp_okL 219 174 162 1059 = true := by decide +kernel
theorem si_219_5 : decode (sp_b 219) 5 = .ok (.ifCond .eq 12, 3) := by decide +kernel
theorem si_219_8 : decode (sp_b 219) 8 = .ok (.iload_n 2, 1) := by decide +kernel
theorem si_219_9 : decode (sp_b 219) 9 = .ok (.iconst 0, 1) := by decide +kernel
theorem si_219_10 : decode (sp_b 219) 10 = .ok (.iconst 5, 1) := by decide +kernel
theorem si_219_11 : decode (sp_b 219) 11 = .ok (.invokestatic 83, 3) := by decide +kernel
theorem sk_219_83 : sp_okL 219 83 135 955 = true := by decide +kernel
theorem si_219_14 : decode (sp_b 219) 14 = .ok (.ifCond .ne 5, 3) := by decide +kernel
theorem si_219_17 : decode (sp_b 219) 17 = .ok (.iconst (-1), 1) := by decide +kernel
theorem si_219_18 : decode (sp_b 219) 18 = .ok (.ireturn, 1) := by decide +kernel
theorem si_219_19 : decode (sp_b 219) 19 = .ok (.lconst 1, 1) := by decide +kernel
theorem si_219_20 : decode (sp_b 219) 20 = .ok (.lstore_n 3, 1) := by decide +kernel
theorem si_219_21 : decode (sp_b 219) 21 = .ok (.iconst 0, 1) := by decide +kernel
theorem si_219_22 : decode (sp_b 219) 22 = .ok (.istore 5, 2) := by decide +kernel
theorem si_219_24 : decode (sp_b 219) 24 = .ok (.iload 5, 2) := by decide +kernel
theorem si_219_26 : decode (sp_b 219) 26 = .ok (.iload_n 2, 1) := by decide +kernel
theorem si_219_27 : decode (sp_b 219) 27 = .ok (.if_icmp .ge 15, 3) := by decide +kernel
theorem si_219_30 : decode (sp_b 219) 30 = .ok (.lload_n 3, 1) := by decide +kernel
theorem si_219_31 : decode (sp_b 219) 31 = .ok (.ldc2_w 279, 3) := by decide +kernel
theorem sc_219_279 : sp_okCL 219 279 1286 (60) = true := by decide +kernel
theorem si_219_34 : decode (sp_b 219) 34 = .ok (.lmul, 1) := by decide +kernel
theorem si_219_35 : decode (sp_b 219) 35 = .ok (.lstore_n 3, 1) := by decide +kernel
theorem si_219_36 : decode (sp_b 219) 36 = .ok (.iinc 5 1, 3) := by decide +kernel
theorem si_219_39 : decode (sp_b 219) 39 = .ok (.goto (-15), 3) := by decide +kernel
theorem si_219_42 : decode (sp_b 219) 42 = .ok (.aload_n 0, 1) := by decide +kernel
theorem si_219_43 : decode (sp_b 219) 43 = .ok (.aload_n 0, 1) := by decide +kernel
theorem si_219_44 : decode (sp_b 219) 44 = .ok (.iconst 0, 1) := by decide +kernel
theorem si_219_45 : decode (sp_b 219) 45 = .ok (.iload_n 2, 1) := by decide +kernel
theorem si_219_46 : decode (sp_b 219) 46 = .ok (.iload_n 1, 1) := by decide +kernel
theorem si_219_47 : decode (sp_b 219) 47 = .ok (.lload_n 3, 1) := by decide +kernel
theorem si_219_48 : decode (sp_b 219) 48 = .ok (.invokevirtual 275, 3) := by decide +kernel
theorem sk_219_275 : sp_okL 219 275 220 1287 = true := by decide +kernel
theorem si_219_51 : decode (sp_b 219) 51 = .ok (.lload_n 3, 1) := by decide +kernel
theorem si_219_52 : decode (sp_b 219) 52 = .ok (.invokevirtual 271, 3) := by decide +kernel
theorem sk_219_271 : sp_okL 219 271 218 1278 = true := by decide +kernel
theorem si_219_55 : decode (sp_b 219) 55 = .ok (.ireturn, 1) := by decide +kernel
theorem si_220_0 : decode (sp_b 220) 0 = .ok (.aload_n 0, 1) := by decide +kernel
theorem si_220_1 : decode (sp_b 220) 1 = .ok (.iload_n 1, 1) := by decide +kernel
theorem si_220_2 : decode (sp_b 220) 2 = .ok (.invokevirtual 183, 3) := by decide +kernel
theorem sk_220_183 : sp_okL 220 183 170 1089 = true := by decide +kernel
theorem si_220_5 : decode (sp_b 220) 5 = .ok (.istore 6, 2) := by decide +kernel
theorem si_220_7 : decode (sp_b 220) 7 = .ok (.iload_n 2, 1) := by decide +kernel
theorem si_220_8 : decode (sp_b 220) 8 = .ok (.ifCond .eq 8, 3) := by decide +kernel
theorem si_220_11 : decode (sp_b 220) 11 = .ok (.iload 6, 2) := by decide +kernel
theorem si_220_13 : decode (sp_b 220) 13 = .ok (.ifCond .ne 19, 3) := by decide +kernel
theorem si_220_16 : decode (sp_b 220) 16 = .ok (.iload 6, 2) := by decide +kernel
theorem si_220_18 : decode (sp_b 220) 18 = .ok (.iload_n 3, 1) := by decide +kernel
theorem si_220_19 : decode (sp_b 220) 19 = .ok (.invokestatic 232, 3) := by decide +kernel
theorem sk_220_232 : sp_okL 220 232 203 1220 = true := by decide +kernel
theorem si_220_22 : decode (sp_b 220) 22 = .ok (.ifCond .eq 8, 3) := by decide +kernel
theorem si_220_25 : decode (sp_b 220) 25 = .ok (.lload 4, 2) := by decide +kernel
theorem si_220_27 : decode (sp_b 220) 27 = .ok (.goto 4, 3) := by decide +kernel
theorem si_220_30 : decode (sp_b 220) 30 = .ok (.lconst 0, 1) := by decide +kernel
theorem si_220_31 : decode (sp_b 220) 31 = .ok (.lreturn, 1) := by decide +kernel
theorem si_220_32 : decode (sp_b 220) 32 = .ok (.lconst 0, 1) := by decide +kernel
theorem si_220_33 : decode (sp_b 220) 33 = .ok (.lstore 7, 2) := by decide +kernel
theorem si_220_35 : decode (sp_b 220) 35 = .ok (.iconst 0, 1) := by decide +kernel
theorem si_220_36 : decode (sp_b 220) 36 = .ok (.istore 9, 2) := by decide +kernel
theorem si_220_38 : decode (sp_b 220) 38 = .ok (.iload 9, 2) := by decide +kernel
theorem si_220_40 : decode (sp_b 220) 40 = .ok (.aload_n 0, 1) := by decide +kernel
theorem si_220_41 : decode (sp_b 220) 41 = .ok (.getfield 142, 3) := by decide +kernel
theorem sf_220_142 : sp_okF 220 142 8 11 847 = true := by decide +kernel
theorem si_220_44 : decode (sp_b 220) 44 = .ok (.if_icmp .ge 61, 3) := by decide +kernel
theorem si_220_47 : decode (sp_b 220) 47 = .ok (.iload 6, 2) := by decide +kernel
theorem si_220_49 : decode (sp_b 220) 49 = .ok (.iload 9, 2) := by decide +kernel
theorem si_220_51 : decode (sp_b 220) 51 = .ok (.invokestatic 232, 3) := by decide +kernel
theorem si_220_54 : decode (sp_b 220) 54 = .ok (.ifCond .eq 45, 3) := by decide +kernel
theorem si_220_57 : decode (sp_b 220) 57 = .ok (.aload_n 0, 1) := by decide +kernel
theorem si_220_58 : decode (sp_b 220) 58 = .ok (.iload_n 1, 1) := by decide +kernel
theorem si_220_59 : decode (sp_b 220) 59 = .ok (.iload_n 1, 1) := by decide +kernel
theorem si_220_60 : decode (sp_b 220) 60 = .ok (.iconst 1, 1) := by decide +kernel
theorem si_220_61 : decode (sp_b 220) 61 = .ok (.iadd, 1) := by decide +kernel
theorem si_220_62 : decode (sp_b 220) 62 = .ok (.invokevirtual 212, 3) := by decide +kernel
theorem sk_220_212 : sp_okL 220 212 192 1176 = true := by decide +kernel
theorem si_220_65 : decode (sp_b 220) 65 = .ok (.aload_n 0, 1) := by decide +kernel
theorem si_220_66 : decode (sp_b 220) 66 = .ok (.iload_n 1, 1) := by decide +kernel
theorem si_220_67 : decode (sp_b 220) 67 = .ok (.iconst 1, 1) := by decide +kernel
theorem si_220_68 : decode (sp_b 220) 68 = .ok (.iadd, 1) := by decide +kernel
theorem si_220_69 : decode (sp_b 220) 69 = .ok (.iload 9, 2) := by decide +kernel
theorem si_220_71 : decode (sp_b 220) 71 = .ok (.invokevirtual 192, 3) := by decide +kernel
theorem sk_220_192 : sp_okL 220 192 175 1108 = true := by decide +kernel
theorem si_220_74 : decode (sp_b 220) 74 = .ok (.lload 7, 2) := by decide +kernel
theorem si_220_76 : decode (sp_b 220) 76 = .ok (.aload_n 0, 1) := by decide +kernel
theorem si_220_77 : decode (sp_b 220) 77 = .ok (.iload_n 1, 1) := by decide +kernel
theorem si_220_78 : decode (sp_b 220) 78 = .ok (.iconst 1, 1) := by decide +kernel
theorem si_220_79 : decode (sp_b 220) 79 = .ok (.iadd, 1) := by decide +kernel
theorem si_220_80 : decode (sp_b 220) 80 = .ok (.iload_n 2, 1) := by decide +kernel
theorem si_220_81 : decode (sp_b 220) 81 = .ok (.iconst 1, 1) := by decide +kernel
theorem si_220_82 : decode (sp_b 220) 82 = .ok (.isub, 1) := by decide +kernel
theorem si_220_83 : decode (sp_b 220) 83 = .ok (.iload_n 3, 1) := by decide +kernel
theorem si_220_84 : decode (sp_b 220) 84 = .ok (.lload 4, 2) := by decide +kernel
theorem si_220_86 : decode (sp_b 220) 86 = .ok (.iload 6, 2) := by decide +kernel
theorem si_220_88 : decode (sp_b 220) 88 = .ok (.invokestatic 186, 3) := by decide +kernel
theorem sk_220_186 : sp_okL 220 186 171 1093 = true := by decide +kernel
theorem si_220_91 : decode (sp_b 220) 91 = .ok (.i2l, 1) := by decide +kernel
theorem si_220_92 : decode (sp_b 220) 92 = .ok (.ldiv, 1) := by decide +kernel
theorem si_220_93 : decode (sp_b 220) 93 = .ok (.invokevirtual 275, 3) := by decide +kernel
theorem sk_220_275 : sp_okL 220 275 220 1287 = true := by decide +kernel
theorem si_220_96 : decode (sp_b 220) 96 = .ok (.ladd, 1) := by decide +kernel
theorem si_220_97 : decode (sp_b 220) 97 = .ok (.lstore 7, 2) := by decide +kernel
theorem si_220_99 : decode (sp_b 220) 99 = .ok (.iinc 9 1, 3) := by decide +kernel
theorem si_220_102 : decode (sp_b 220) 102 = .ok (.goto (-64), 3) := by decide +kernel
theorem si_220_105 : decode (sp_b 220) 105 = .ok (.lload 7, 2) := by decide +kernel
theorem si_220_107 : decode (sp_b 220) 107 = .ok (.lreturn, 1) := by decide +kernel
theorem si_221_0 : decode (sp_b 221) 0 = .ok (.iload_n 1, 1) := by decide +kernel
theorem si_221_1 : decode (sp_b 221) 1 = .ok (.iconst 1, 1) := by decide +kernel
theorem si_221_2 : decode (sp_b 221) 2 = .ok (.bipush 60, 2) := by decide +kernel
theorem si_221_4 : decode (sp_b 221) 4 = .ok (.invokestatic 83, 3) := by decide +kernel
theorem sk_221_83 : sp_okL 221 83 135 955 = true := by decide +kernel
theorem si_221_7 : decode (sp_b 221) 7 = .ok (.ifCond .eq 14, 3) := by decide +kernel
theorem si_221_10 : decode (sp_b 221) 10 = .ok (.iload_n 2, 1) := by decide +kernel
theorem si_221_11 : decode (sp_b 221) 11 = .ok (.iconst 1, 1) := by decide +kernel
theorem si_221_12 : decode (sp_b 221) 12 = .ok (.ldc_w 281, 3) := by decide +kernel
theorem sc_221_281 : sp_okC 221 281 1295 (2147483646) = true := by decide +kernel
theorem si_221_15 : decode (sp_b 221) 15 = .ok (.invokestatic 83, 3) := by decide +kernel
theorem si_221_18 : decode (sp_b 221) 18 = .ok (.ifCond .ne 5, 3) := by decide +kernel
theorem si_221_21 : decode (sp_b 221) 21 = .ok (.iconst (-1), 1) := by decide +kernel
theorem si_221_22 : decode (sp_b 221) 22 = .ok (.ireturn, 1) := by decide +kernel
theorem si_221_23 : decode (sp_b 221) 23 = .ok (.aload_n 0, 1) := by decide +kernel
theorem si_221_24 : decode (sp_b 221) 24 = .ok (.getfield 142, 3) := by decide +kernel
theorem sf_221_142 : sp_okF 221 142 8 11 847 = true := by decide +kernel
theorem si_221_27 : decode (sp_b 221) 27 = .ok (.ifCond .ne 6, 3) := by decide +kernel
theorem si_221_30 : decode (sp_b 221) 30 = .ok (.bipush (-4), 2) := by decide +kernel
theorem si_221_32 : decode (sp_b 221) 32 = .ok (.ireturn, 1) := by decide +kernel
theorem si_221_33 : decode (sp_b 221) 33 = .ok (.aload_n 0, 1) := by decide +kernel
theorem si_221_34 : decode (sp_b 221) 34 = .ok (.getfield 149, 3) := by decide +kernel
theorem sf_221_149 : sp_okF 221 149 8 21 857 = true := by decide +kernel
theorem si_221_37 : decode (sp_b 221) 37 = .ok (.iload_n 1, 1) := by decide +kernel
theorem si_221_38 : decode (sp_b 221) 38 = .ok (.iadd, 1) := by decide +kernel
theorem si_221_39 : decode (sp_b 221) 39 = .ok (.bipush 60, 2) := by decide +kernel
theorem si_221_41 : decode (sp_b 221) 41 = .ok (.if_icmp .le 6, 3) := by decide +kernel
theorem si_221_44 : decode (sp_b 221) 44 = .ok (.bipush (-2), 2) := by decide +kernel
theorem si_221_46 : decode (sp_b 221) 46 = .ok (.ireturn, 1) := by decide +kernel
theorem si_221_47 : decode (sp_b 221) 47 = .ok (.iload_n 2, 1) := by decide +kernel
theorem si_221_48 : decode (sp_b 221) 48 = .ok (.i2l, 1) := by decide +kernel
theorem si_221_49 : decode (sp_b 221) 49 = .ok (.lstore_n 3, 1) := by decide +kernel
theorem si_221_50 : decode (sp_b 221) 50 = .ok (.iconst 0, 1) := by decide +kernel
theorem si_221_51 : decode (sp_b 221) 51 = .ok (.istore 5, 2) := by decide +kernel
theorem si_221_53 : decode (sp_b 221) 53 = .ok (.iload 5, 2) := by decide +kernel
theorem si_221_55 : decode (sp_b 221) 55 = .ok (.iload_n 1, 1) := by decide +kernel
theorem si_221_56 : decode (sp_b 221) 56 = .ok (.if_icmp .ge 100, 3) := by decide +kernel
theorem si_221_59 : decode (sp_b 221) 59 = .ok (.aload_n 0, 1) := by decide +kernel
theorem si_221_60 : decode (sp_b 221) 60 = .ok (.iconst 0, 1) := by decide +kernel
theorem si_221_61 : decode (sp_b 221) 61 = .ok (.invokevirtual 183, 3) := by decide +kernel
theorem sk_221_183 : sp_okL 221 183 170 1089 = true := by decide +kernel
theorem si_221_64 : decode (sp_b 221) 64 = .ok (.ifCond .eq 92, 3) := by decide +kernel
theorem si_221_67 : decode (sp_b 221) 67 = .ok (.ldc2_w 282, 3) := by decide +kernel
theorem sc_221_282 : sp_okCL 221 282 1296 (48271) = true := by decide +kernel
theorem si_221_70 : decode (sp_b 221) 70 = .ok (.lload_n 3, 1) := by decide +kernel
theorem si_221_71 : decode (sp_b 221) 71 = .ok (.lmul, 1) := by decide +kernel
theorem si_221_72 : decode (sp_b 221) 72 = .ok (.ldc2_w 284, 3) := by decide +kernel
theorem sc_221_284 : sp_okCL 221 284 1297 (2147483647) = true := by decide +kernel
theorem si_221_75 : decode (sp_b 221) 75 = .ok (.lrem, 1) := by decide +kernel
theorem si_221_76 : decode (sp_b 221) 76 = .ok (.lstore_n 3, 1) := by decide +kernel
theorem si_221_77 : decode (sp_b 221) 77 = .ok (.aload_n 0, 1) := by decide +kernel
theorem si_221_78 : decode (sp_b 221) 78 = .ok (.iconst 0, 1) := by decide +kernel
theorem si_221_79 : decode (sp_b 221) 79 = .ok (.invokevirtual 183, 3) := by decide +kernel
theorem si_221_82 : decode (sp_b 221) 82 = .ok (.istore 6, 2) := by decide +kernel
theorem si_221_84 : decode (sp_b 221) 84 = .ok (.lload_n 3, 1) := by decide +kernel
theorem si_221_85 : decode (sp_b 221) 85 = .ok (.iload 6, 2) := by decide +kernel
theorem si_221_87 : decode (sp_b 221) 87 = .ok (.invokestatic 186, 3) := by decide +kernel
theorem sk_221_186 : sp_okL 221 186 171 1093 = true := by decide +kernel
theorem si_221_90 : decode (sp_b 221) 90 = .ok (.i2l, 1) := by decide +kernel
theorem si_221_91 : decode (sp_b 221) 91 = .ok (.lrem, 1) := by decide +kernel
theorem si_221_92 : decode (sp_b 221) 92 = .ok (.l2i, 1) := by decide +kernel
theorem si_221_93 : decode (sp_b 221) 93 = .ok (.istore 7, 2) := by decide +kernel
theorem si_221_95 : decode (sp_b 221) 95 = .ok (.iconst 0, 1) := by decide +kernel
theorem si_221_96 : decode (sp_b 221) 96 = .ok (.istore 8, 2) := by decide +kernel
theorem si_221_98 : decode (sp_b 221) 98 = .ok (.iload 6, 2) := by decide +kernel
theorem si_221_100 : decode (sp_b 221) 100 = .ok (.iload 8, 2) := by decide +kernel
theorem si_221_102 : decode (sp_b 221) 102 = .ok (.invokestatic 232, 3) := by decide +kernel
theorem sk_221_232 : sp_okL 221 232 203 1220 = true := by decide +kernel
theorem si_221_105 : decode (sp_b 221) 105 = .ok (.ifCond .eq 8, 3) := by decide +kernel
theorem si_221_108 : decode (sp_b 221) 108 = .ok (.iload 7, 2) := by decide +kernel
theorem si_221_110 : decode (sp_b 221) 110 = .ok (.ifCond .le 29, 3) := by decide +kernel
theorem si_221_113 : decode (sp_b 221) 113 = .ok (.iload 7, 2) := by decide +kernel
theorem si_221_115 : decode (sp_b 221) 115 = .ok (.iload 6, 2) := by decide +kernel
theorem si_221_117 : decode (sp_b 221) 117 = .ok (.iload 8, 2) := by decide +kernel
theorem si_221_119 : decode (sp_b 221) 119 = .ok (.invokestatic 232, 3) := by decide +kernel
theorem si_221_122 : decode (sp_b 221) 122 = .ok (.ifCond .eq 7, 3) := by decide +kernel
theorem si_221_125 : decode (sp_b 221) 125 = .ok (.iconst 1, 1) := by decide +kernel
theorem si_221_126 : decode (sp_b 221) 126 = .ok (.goto 4, 3) := by decide +kernel
theorem si_221_129 : decode (sp_b 221) 129 = .ok (.iconst 0, 1) := by decide +kernel
theorem si_221_130 : decode (sp_b 221) 130 = .ok (.isub, 1) := by decide +kernel
theorem si_221_131 : decode (sp_b 221) 131 = .ok (.istore 7, 2) := by decide +kernel
theorem si_221_133 : decode (sp_b 221) 133 = .ok (.iinc 8 1, 3) := by decide +kernel
theorem si_221_136 : decode (sp_b 221) 136 = .ok (.goto (-38), 3) := by decide +kernel
theorem si_221_139 : decode (sp_b 221) 139 = .ok (.aload_n 0, 1) := by decide +kernel
theorem si_221_140 : decode (sp_b 221) 140 = .ok (.invokevirtual 189, 3) := by decide +kernel
theorem sk_221_189 : sp_okL 221 189 174 1104 = true := by decide +kernel
theorem si_221_143 : decode (sp_b 221) 143 = .ok (.aload_n 0, 1) := by decide +kernel
theorem si_221_144 : decode (sp_b 221) 144 = .ok (.iconst 0, 1) := by decide +kernel
theorem si_221_145 : decode (sp_b 221) 145 = .ok (.iload 8, 2) := by decide +kernel
theorem si_221_147 : decode (sp_b 221) 147 = .ok (.invokevirtual 192, 3) := by decide +kernel
theorem sk_221_192 : sp_okL 221 192 175 1108 = true := by decide +kernel
theorem si_221_150 : decode (sp_b 221) 150 = .ok (.iinc 5 1, 3) := by decide +kernel
theorem si_221_153 : decode (sp_b 221) 153 = .ok (.goto (-100), 3) := by decide +kernel
theorem si_221_156 : decode (sp_b 221) 156 = .ok (.iload 5, 2) := by decide +kernel
theorem si_221_158 : decode (sp_b 221) 158 = .ok (.ireturn, 1) := by decide +kernel
theorem si_222_0 : decode (sp_b 222) 0 = .ok (.iload_n 1, 1) := by decide +kernel
theorem si_222_1 : decode (sp_b 222) 1 = .ok (.iconst 0, 1) := by decide +kernel
theorem si_222_2 : decode (sp_b 222) 2 = .ok (.bipush 8, 2) := by decide +kernel
theorem si_222_4 : decode (sp_b 222) 4 = .ok (.invokestatic 83, 3) := by decide +kernel
theorem sk_222_83 : sp_okL 222 83 135 955 = true := by decide +kernel
theorem si_222_7 : decode (sp_b 222) 7 = .ok (.ifCond .eq 11, 3) := by decide +kernel
theorem si_222_10 : decode (sp_b 222) 10 = .ok (.aload_n 0, 1) := by decide +kernel
theorem si_222_11 : decode (sp_b 222) 11 = .ok (.iload_n 1, 1) := by decide +kernel
theorem si_222_12 : decode (sp_b 222) 12 = .ok (.invokevirtual 286, 3) := by decide +kernel
theorem sk_222_286 : sp_okL 222 286 223 1302 = true := by decide +kernel
theorem si_222_15 : decode (sp_b 222) 15 = .ok (.goto 4, 3) := by decide +kernel
theorem si_222_18 : decode (sp_b 222) 18 = .ok (.iconst (-1), 1) := by decide +kernel
theorem si_222_19 : decode (sp_b 222) 19 = .ok (.ireturn, 1) := by decide +kernel
theorem si_223_0 : decode (sp_b 223) 0 = .ok (.iconst 0, 1) := by decide +kernel
theorem si_223_1 : decode (sp_b 223) 1 = .ok (.istore_n 2, 1) := by decide +kernel
theorem si_223_2 : decode (sp_b 223) 2 = .ok (.iconst 0, 1) := by decide +kernel
theorem si_223_3 : decode (sp_b 223) 3 = .ok (.istore_n 3, 1) := by decide +kernel
theorem si_223_4 : decode (sp_b 223) 4 = .ok (.iload_n 3, 1) := by decide +kernel
theorem si_223_5 : decode (sp_b 223) 5 = .ok (.aload_n 0, 1) := by decide +kernel
theorem si_223_6 : decode (sp_b 223) 6 = .ok (.getfield 142, 3) := by decide +kernel
theorem sf_223_142 : sp_okF 223 142 8 11 847 = true := by decide +kernel
theorem si_223_9 : decode (sp_b 223) 9 = .ok (.if_icmp .ge 42, 3) := by decide +kernel
theorem si_223_12 : decode (sp_b 223) 12 = .ok (.iload_n 2, 1) := by decide +kernel
theorem si_223_13 : decode (sp_b 223) 13 = .ok (.iload_n 1, 1) := by decide +kernel
theorem si_223_14 : decode (sp_b 223) 14 = .ok (.iconst 5, 1) := by decide +kernel
theorem si_223_15 : decode (sp_b 223) 15 = .ok (.if_icmp .ne 27, 3) := by decide +kernel
theorem si_223_18 : decode (sp_b 223) 18 = .ok (.aload_n 0, 1) := by decide +kernel
theorem si_223_19 : decode (sp_b 223) 19 = .ok (.getfield 33, 3) := by decide +kernel
theorem sf_223_33 : sp_okF 223 33 8 12 848 = true := by decide +kernel
theorem si_223_22 : decode (sp_b 223) 22 = .ok (.iload_n 3, 1) := by decide +kernel
theorem si_223_23 : decode (sp_b 223) 23 = .ok (.iaload, 1) := by decide +kernel
theorem si_223_24 : decode (sp_b 223) 24 = .ok (.iconst 1, 1) := by decide +kernel
theorem si_223_25 : decode (sp_b 223) 25 = .ok (.if_icmp .eq 13, 3) := by decide +kernel
theorem si_223_28 : decode (sp_b 223) 28 = .ok (.aload_n 0, 1) := by decide +kernel
theorem si_223_29 : decode (sp_b 223) 29 = .ok (.getfield 33, 3) := by decide +kernel
theorem si_223_32 : decode (sp_b 223) 32 = .ok (.iload_n 3, 1) := by decide +kernel
theorem si_223_33 : decode (sp_b 223) 33 = .ok (.iaload, 1) := by decide +kernel
theorem si_223_34 : decode (sp_b 223) 34 = .ok (.iconst 4, 1) := by decide +kernel
theorem si_223_35 : decode (sp_b 223) 35 = .ok (.if_icmp .ne 7, 3) := by decide +kernel
theorem si_223_38 : decode (sp_b 223) 38 = .ok (.iconst 1, 1) := by decide +kernel
theorem si_223_39 : decode (sp_b 223) 39 = .ok (.goto 4, 3) := by decide +kernel
theorem si_223_42 : decode (sp_b 223) 42 = .ok (.iconst 0, 1) := by decide +kernel
theorem si_223_43 : decode (sp_b 223) 43 = .ok (.iadd, 1) := by decide +kernel
theorem si_223_44 : decode (sp_b 223) 44 = .ok (.istore_n 2, 1) := by decide +kernel
theorem si_223_45 : decode (sp_b 223) 45 = .ok (.iinc 3 1, 3) := by decide +kernel
theorem si_223_48 : decode (sp_b 223) 48 = .ok (.goto (-44), 3) := by decide +kernel
theorem si_223_51 : decode (sp_b 223) 51 = .ok (.iconst 0, 1) := by decide +kernel
theorem si_223_52 : decode (sp_b 223) 52 = .ok (.istore_n 3, 1) := by decide +kernel
theorem si_223_53 : decode (sp_b 223) 53 = .ok (.iload_n 3, 1) := by decide +kernel
theorem si_223_54 : decode (sp_b 223) 54 = .ok (.bipush 6, 2) := by decide +kernel
theorem si_223_56 : decode (sp_b 223) 56 = .ok (.if_icmp .ge 32, 3) := by decide +kernel
theorem si_223_59 : decode (sp_b 223) 59 = .ok (.iload_n 2, 1) := by decide +kernel
theorem si_223_60 : decode (sp_b 223) 60 = .ok (.iload_n 1, 1) := by decide +kernel
theorem si_223_61 : decode (sp_b 223) 61 = .ok (.bipush 6, 2) := by decide +kernel
theorem si_223_63 : decode (sp_b 223) 63 = .ok (.if_icmp .ne 16, 3) := by decide +kernel
theorem si_223_66 : decode (sp_b 223) 66 = .ok (.aload_n 0, 1) := by decide +kernel
theorem si_223_67 : decode (sp_b 223) 67 = .ok (.getfield 17, 3) := by decide +kernel
theorem sf_223_17 : sp_okF 223 17 8 5 841 = true := by decide +kernel
theorem si_223_70 : decode (sp_b 223) 70 = .ok (.iload_n 3, 1) := by decide +kernel
theorem si_223_71 : decode (sp_b 223) 71 = .ok (.iaload, 1) := by decide +kernel
theorem si_223_72 : decode (sp_b 223) 72 = .ok (.ifCond .lt 7, 3) := by decide +kernel
theorem si_223_75 : decode (sp_b 223) 75 = .ok (.iconst 1, 1) := by decide +kernel
theorem si_223_76 : decode (sp_b 223) 76 = .ok (.goto 4, 3) := by decide +kernel
theorem si_223_79 : decode (sp_b 223) 79 = .ok (.iconst 0, 1) := by decide +kernel
theorem si_223_80 : decode (sp_b 223) 80 = .ok (.iadd, 1) := by decide +kernel
theorem si_223_81 : decode (sp_b 223) 81 = .ok (.istore_n 2, 1) := by decide +kernel
theorem si_223_82 : decode (sp_b 223) 82 = .ok (.iinc 3 1, 3) := by decide +kernel
theorem si_223_85 : decode (sp_b 223) 85 = .ok (.goto (-32), 3) := by decide +kernel
theorem si_223_88 : decode (sp_b 223) 88 = .ok (.iconst 0, 1) := by decide +kernel
theorem si_223_89 : decode (sp_b 223) 89 = .ok (.istore_n 3, 1) := by decide +kernel
theorem si_223_90 : decode (sp_b 223) 90 = .ok (.iload_n 3, 1) := by decide +kernel
theorem si_223_91 : decode (sp_b 223) 91 = .ok (.iconst 4, 1) := by decide +kernel
theorem si_223_92 : decode (sp_b 223) 92 = .ok (.if_icmp .ge 32, 3) := by decide +kernel
theorem si_223_95 : decode (sp_b 223) 95 = .ok (.iload_n 2, 1) := by decide +kernel
theorem si_223_96 : decode (sp_b 223) 96 = .ok (.iload_n 1, 1) := by decide +kernel
theorem si_223_97 : decode (sp_b 223) 97 = .ok (.bipush 7, 2) := by decide +kernel
theorem si_223_99 : decode (sp_b 223) 99 = .ok (.if_icmp .ne 16, 3) := by decide +kernel
theorem si_223_102 : decode (sp_b 223) 102 = .ok (.aload_n 0, 1) := by decide +kernel
theorem si_223_103 : decode (sp_b 223) 103 = .ok (.getfield 26, 3) := by decide +kernel
theorem sf_223_26 : sp_okF 223 26 8 8 844 = true := by decide +kernel
theorem si_223_106 : decode (sp_b 223) 106 = .ok (.iload_n 3, 1) := by decide +kernel
theorem si_223_107 : decode (sp_b 223) 107 = .ok (.iaload, 1) := by decide +kernel
theorem si_223_108 : decode (sp_b 223) 108 = .ok (.ifCond .lt 7, 3) := by decide +kernel
theorem si_223_111 : decode (sp_b 223) 111 = .ok (.iconst 1, 1) := by decide +kernel
theorem si_223_112 : decode (sp_b 223) 112 = .ok (.goto 4, 3) := by decide +kernel
theorem si_223_115 : decode (sp_b 223) 115 = .ok (.iconst 0, 1) := by decide +kernel
theorem si_223_116 : decode (sp_b 223) 116 = .ok (.iadd, 1) := by decide +kernel
theorem si_223_117 : decode (sp_b 223) 117 = .ok (.istore_n 2, 1) := by decide +kernel
theorem si_223_118 : decode (sp_b 223) 118 = .ok (.iinc 3 1, 3) := by decide +kernel
theorem si_223_121 : decode (sp_b 223) 121 = .ok (.goto (-31), 3) := by decide +kernel
theorem si_223_124 : decode (sp_b 223) 124 = .ok (.iconst 0, 1) := by decide +kernel
theorem si_223_125 : decode (sp_b 223) 125 = .ok (.istore_n 3, 1) := by decide +kernel
theorem si_223_126 : decode (sp_b 223) 126 = .ok (.iload_n 3, 1) := by decide +kernel
theorem si_223_127 : decode (sp_b 223) 127 = .ok (.iconst 3, 1) := by decide +kernel
theorem si_223_128 : decode (sp_b 223) 128 = .ok (.if_icmp .ge 32, 3) := by decide +kernel
theorem si_223_131 : decode (sp_b 223) 131 = .ok (.iload_n 2, 1) := by decide +kernel
theorem si_223_132 : decode (sp_b 223) 132 = .ok (.iload_n 1, 1) := by decide +kernel
theorem si_223_133 : decode (sp_b 223) 133 = .ok (.bipush 8, 2) := by decide +kernel
theorem si_223_135 : decode (sp_b 223) 135 = .ok (.if_icmp .ne 16, 3) := by decide +kernel
theorem si_223_138 : decode (sp_b 223) 138 = .ok (.aload_n 0, 1) := by decide +kernel
theorem si_223_139 : decode (sp_b 223) 139 = .ok (.getfield 51, 3) := by decide +kernel
theorem sf_223_51 : sp_okF 223 51 8 23 859 = true := by decide +kernel
theorem si_223_142 : decode (sp_b 223) 142 = .ok (.iload_n 3, 1) := by decide +kernel
theorem si_223_143 : decode (sp_b 223) 143 = .ok (.baload, 1) := by decide +kernel
theorem si_223_144 : decode (sp_b 223) 144 = .ok (.ifCond .eq 7, 3) := by decide +kernel
theorem si_223_147 : decode (sp_b 223) 147 = .ok (.iconst 1, 1) := by decide +kernel
theorem si_223_148 : decode (sp_b 223) 148 = .ok (.goto 4, 3) := by decide +kernel
theorem si_223_151 : decode (sp_b 223) 151 = .ok (.iconst 0, 1) := by decide +kernel
theorem si_223_152 : decode (sp_b 223) 152 = .ok (.iadd, 1) := by decide +kernel
theorem si_223_153 : decode (sp_b 223) 153 = .ok (.istore_n 2, 1) := by decide +kernel
theorem si_223_154 : decode (sp_b 223) 154 = .ok (.iinc 3 1, 3) := by decide +kernel
theorem si_223_157 : decode (sp_b 223) 157 = .ok (.goto (-31), 3) := by decide +kernel
theorem si_223_160 : decode (sp_b 223) 160 = .ok (.iload_n 1, 1) := by decide +kernel
theorem si_223_161 : decode (sp_b 223) 161 = .ok (.tableswitch 69 0 4 #[35, 40, 45, 53, 61], 35) := by decide +kernel
theorem si_223_196 : decode (sp_b 223) 196 = .ok (.aload_n 0, 1) := by decide +kernel
theorem si_223_197 : decode (sp_b 223) 197 = .ok (.getfield 142, 3) := by decide +kernel
theorem si_223_200 : decode (sp_b 223) 200 = .ok (.ireturn, 1) := by decide +kernel
theorem si_223_201 : decode (sp_b 223) 201 = .ok (.aload_n 0, 1) := by decide +kernel
theorem si_223_202 : decode (sp_b 223) 202 = .ok (.getfield 149, 3) := by decide +kernel
theorem sf_223_149 : sp_okF 223 149 8 21 857 = true := by decide +kernel
theorem si_223_205 : decode (sp_b 223) 205 = .ok (.ireturn, 1) := by decide +kernel
theorem si_223_206 : decode (sp_b 223) 206 = .ok (.aload_n 0, 1) := by decide +kernel
theorem si_223_207 : decode (sp_b 223) 207 = .ok (.iconst 0, 1) := by decide +kernel
theorem si_223_208 : decode (sp_b 223) 208 = .ok (.bipush 6, 2) := by decide +kernel
theorem si_223_210 : decode (sp_b 223) 210 = .ok (.invokevirtual 152, 3) := by decide +kernel
theorem sk_223_152 : sp_okL 223 152 164 1067 = true := by decide +kernel
theorem si_223_213 : decode (sp_b 223) 213 = .ok (.ireturn, 1) := by decide +kernel
theorem si_223_214 : decode (sp_b 223) 214 = .ok (.aload_n 0, 1) := by decide +kernel
theorem si_223_215 : decode (sp_b 223) 215 = .ok (.iconst 0, 1) := by decide +kernel
theorem si_223_216 : decode (sp_b 223) 216 = .ok (.bipush 7, 2) := by decide +kernel
theorem si_223_218 : decode (sp_b 223) 218 = .ok (.invokevirtual 152, 3) := by decide +kernel
theorem si_223_221 : decode (sp_b 223) 221 = .ok (.ireturn, 1) := by decide +kernel
theorem si_223_222 : decode (sp_b 223) 222 = .ok (.aload_n 0, 1) := by decide +kernel
theorem si_223_223 : decode (sp_b 223) 223 = .ok (.iconst 0, 1) := by decide +kernel
theorem si_223_224 : decode (sp_b 223) 224 = .ok (.bipush 8, 2) := by decide +kernel
theorem si_223_226 : decode (sp_b 223) 226 = .ok (.invokevirtual 152, 3) := by decide +kernel
theorem si_223_229 : decode (sp_b 223) 229 = .ok (.ireturn, 1) := by decide +kernel
theorem si_223_230 : decode (sp_b 223) 230 = .ok (.iload_n 2, 1) := by decide +kernel
theorem si_223_231 : decode (sp_b 223) 231 = .ok (.ireturn, 1) := by decide +kernel
