/-! decode rows of class PropertyDocuments$Fitting: laid by wip/gen/names.py -/
theorem dF_numberIn_0 : decode bF_numberIn 0 = .ok (.aload_n 0, 1) := by decide +kernel
theorem dF_numberIn_1 : decode bF_numberIn 1 = .ok (.getfield 28, 3) := by decide +kernel
theorem dF_numberIn_4 : decode bF_numberIn 4 = .ok (.iload_n 1, 1) := by decide +kernel
theorem dF_numberIn_5 : decode bF_numberIn 5 = .ok (.invokevirtual 62, 3) := by decide +kernel
theorem dF_numberIn_8 : decode bF_numberIn 8 = .ok (.istore_n 2, 1) := by decide +kernel
theorem dF_numberIn_9 : decode bF_numberIn 9 = .ok (.aload_n 0, 1) := by decide +kernel
theorem dF_numberIn_10 : decode bF_numberIn 10 = .ok (.getfield 28, 3) := by decide +kernel
theorem dF_numberIn_13 : decode bF_numberIn 13 = .ok (.iload_n 1, 1) := by decide +kernel
theorem dF_numberIn_14 : decode bF_numberIn 14 = .ok (.invokevirtual 65, 3) := by decide +kernel
theorem dF_numberIn_17 : decode bF_numberIn 17 = .ok (.lookupswitch 46 #[(16, 27), (18, 37)], 27) := by decide +kernel
theorem dF_numberIn_44 : decode bF_numberIn 44 = .ok (.aload_n 0, 1) := by decide +kernel
theorem dF_numberIn_45 : decode bF_numberIn 45 = .ok (.getfield 24, 3) := by decide +kernel
theorem dF_numberIn_48 : decode bF_numberIn 48 = .ok (.iload_n 2, 1) := by decide +kernel
theorem dF_numberIn_49 : decode bF_numberIn 49 = .ok (.invokevirtual 68, 3) := by decide +kernel
theorem dF_numberIn_52 : decode bF_numberIn 52 = .ok (.i2l, 1) := by decide +kernel
theorem dF_numberIn_53 : decode bF_numberIn 53 = .ok (.lreturn, 1) := by decide +kernel
theorem dF_numberIn_54 : decode bF_numberIn 54 = .ok (.aload_n 0, 1) := by decide +kernel
theorem dF_numberIn_55 : decode bF_numberIn 55 = .ok (.getfield 24, 3) := by decide +kernel
theorem dF_numberIn_58 : decode bF_numberIn 58 = .ok (.iload_n 2, 1) := by decide +kernel
theorem dF_numberIn_59 : decode bF_numberIn 59 = .ok (.invokevirtual 126, 3) := by decide +kernel
theorem dF_numberIn_62 : decode bF_numberIn 62 = .ok (.lreturn, 1) := by decide +kernel
theorem dF_numberIn_63 : decode bF_numberIn 63 = .ok (.aload_n 0, 1) := by decide +kernel
theorem dF_numberIn_64 : decode bF_numberIn 64 = .ok (.getfield 24, 3) := by decide +kernel
theorem dF_numberIn_67 : decode bF_numberIn 67 = .ok (.iload_n 2, 1) := by decide +kernel
theorem dF_numberIn_68 : decode bF_numberIn 68 = .ok (.invokevirtual 73, 3) := by decide +kernel
theorem dF_numberIn_71 : decode bF_numberIn 71 = .ok (.i2l, 1) := by decide +kernel
theorem dF_numberIn_72 : decode bF_numberIn 72 = .ok (.lreturn, 1) := by decide +kernel
theorem dF_init_0 : decode bF_init 0 = .ok (.aload_n 0, 1) := by decide +kernel
theorem dF_init_1 : decode bF_init 1 = .ok (.invokespecial 3, 3) := by decide +kernel
theorem dF_init_4 : decode bF_init 4 = .ok (.aload_n 0, 1) := by decide +kernel
theorem dF_init_5 : decode bF_init 5 = .ok (.bipush 30, 2) := by decide +kernel
theorem dF_init_7 : decode bF_init 7 = .ok (.newarray .int, 2) := by decide +kernel
theorem dF_init_9 : decode bF_init 9 = .ok (.putfield 11, 3) := by decide +kernel
theorem dF_init_12 : decode bF_init 12 = .ok (.aload_n 0, 1) := by decide +kernel
theorem dF_init_13 : decode bF_init 13 = .ok (.bipush 30, 2) := by decide +kernel
theorem dF_init_15 : decode bF_init 15 = .ok (.newarray .int, 2) := by decide +kernel
theorem dF_init_17 : decode bF_init 17 = .ok (.putfield 17, 3) := by decide +kernel
theorem dF_init_20 : decode bF_init 20 = .ok (.aload_n 0, 1) := by decide +kernel
theorem dF_init_21 : decode bF_init 21 = .ok (.aload_n 1, 1) := by decide +kernel
theorem dF_init_22 : decode bF_init 22 = .ok (.putfield 20, 3) := by decide +kernel
theorem dF_init_25 : decode bF_init 25 = .ok (.aload_n 0, 1) := by decide +kernel
theorem dF_init_26 : decode bF_init 26 = .ok (.aload_n 2, 1) := by decide +kernel
theorem dF_init_27 : decode bF_init 27 = .ok (.putfield 24, 3) := by decide +kernel
theorem dF_init_30 : decode bF_init 30 = .ok (.aload_n 0, 1) := by decide +kernel
theorem dF_init_31 : decode bF_init 31 = .ok (.aload_n 3, 1) := by decide +kernel
theorem dF_init_32 : decode bF_init 32 = .ok (.putfield 28, 3) := by decide +kernel
theorem dF_init_35 : decode bF_init 35 = .ok (.return_, 1) := by decide +kernel
theorem dF_fits_0 : decode bF_fits 0 = .ok (.aload_n 0, 1) := by decide +kernel
theorem dF_fits_1 : decode bF_fits 1 = .ok (.getfield 11, 3) := by decide +kernel
theorem dF_fits_4 : decode bF_fits 4 = .ok (.iconst 0, 1) := by decide +kernel
theorem dF_fits_5 : decode bF_fits 5 = .ok (.iload_n 1, 1) := by decide +kernel
theorem dF_fits_6 : decode bF_fits 6 = .ok (.iastore, 1) := by decide +kernel
theorem dF_fits_7 : decode bF_fits 7 = .ok (.iconst 1, 1) := by decide +kernel
theorem dF_fits_8 : decode bF_fits 8 = .ok (.istore_n 2, 1) := by decide +kernel
theorem dF_fits_9 : decode bF_fits 9 = .ok (.iconst 0, 1) := by decide +kernel
theorem dF_fits_10 : decode bF_fits 10 = .ok (.istore_n 3, 1) := by decide +kernel
theorem dF_fits_11 : decode bF_fits 11 = .ok (.iload_n 3, 1) := by decide +kernel
theorem dF_fits_12 : decode bF_fits 12 = .ok (.aload_n 0, 1) := by decide +kernel
theorem dF_fits_13 : decode bF_fits 13 = .ok (.getfield 28, 3) := by decide +kernel
theorem dF_fits_16 : decode bF_fits 16 = .ok (.getfield 32, 3) := by decide +kernel
theorem dF_fits_19 : decode bF_fits 19 = .ok (.if_icmp .ge 48, 3) := by decide +kernel
theorem dF_fits_22 : decode bF_fits 22 = .ok (.iload_n 2, 1) := by decide +kernel
theorem dF_fits_23 : decode bF_fits 23 = .ok (.ifCond .eq 44, 3) := by decide +kernel
theorem dF_fits_26 : decode bF_fits 26 = .ok (.aload_n 0, 1) := by decide +kernel
theorem dF_fits_27 : decode bF_fits 27 = .ok (.getfield 17, 3) := by decide +kernel
theorem dF_fits_30 : decode bF_fits 30 = .ok (.iload_n 3, 1) := by decide +kernel
theorem dF_fits_31 : decode bF_fits 31 = .ok (.aload_n 0, 1) := by decide +kernel
theorem dF_fits_32 : decode bF_fits 32 = .ok (.iload_n 3, 1) := by decide +kernel
theorem dF_fits_33 : decode bF_fits 33 = .ok (.invokevirtual 36, 3) := by decide +kernel
theorem dF_fits_36 : decode bF_fits 36 = .ok (.iastore, 1) := by decide +kernel
theorem dF_fits_37 : decode bF_fits 37 = .ok (.aload_n 0, 1) := by decide +kernel
theorem dF_fits_38 : decode bF_fits 38 = .ok (.getfield 17, 3) := by decide +kernel
theorem dF_fits_41 : decode bF_fits 41 = .ok (.iload_n 3, 1) := by decide +kernel
theorem dF_fits_42 : decode bF_fits 42 = .ok (.iaload, 1) := by decide +kernel
theorem dF_fits_43 : decode bF_fits 43 = .ok (.iconst (-1), 1) := by decide +kernel
theorem dF_fits_44 : decode bF_fits 44 = .ok (.if_icmp .eq 15, 3) := by decide +kernel
theorem dF_fits_47 : decode bF_fits 47 = .ok (.aload_n 0, 1) := by decide +kernel
theorem dF_fits_48 : decode bF_fits 48 = .ok (.iload_n 3, 1) := by decide +kernel
theorem dF_fits_49 : decode bF_fits 49 = .ok (.invokevirtual 40, 3) := by decide +kernel
theorem dF_fits_52 : decode bF_fits 52 = .ok (.ifCond .eq 7, 3) := by decide +kernel
theorem dF_fits_55 : decode bF_fits 55 = .ok (.iconst 1, 1) := by decide +kernel
theorem dF_fits_56 : decode bF_fits 56 = .ok (.goto 4, 3) := by decide +kernel
theorem dF_fits_59 : decode bF_fits 59 = .ok (.iconst 0, 1) := by decide +kernel
theorem dF_fits_60 : decode bF_fits 60 = .ok (.istore_n 2, 1) := by decide +kernel
theorem dF_fits_61 : decode bF_fits 61 = .ok (.iinc 3 1, 3) := by decide +kernel
theorem dF_fits_64 : decode bF_fits 64 = .ok (.goto (-53), 3) := by decide +kernel
theorem dF_fits_67 : decode bF_fits 67 = .ok (.iload_n 2, 1) := by decide +kernel
theorem dF_fits_68 : decode bF_fits 68 = .ok (.ireturn, 1) := by decide +kernel
theorem dF_findMeant_0 : decode bF_findMeant 0 = .ok (.aload_n 0, 1) := by decide +kernel
theorem dF_findMeant_1 : decode bF_findMeant 1 = .ok (.getfield 11, 3) := by decide +kernel
theorem dF_findMeant_4 : decode bF_findMeant 4 = .ok (.iload_n 1, 1) := by decide +kernel
theorem dF_findMeant_5 : decode bF_findMeant 5 = .ok (.iaload, 1) := by decide +kernel
theorem dF_findMeant_6 : decode bF_findMeant 6 = .ok (.istore_n 2, 1) := by decide +kernel
theorem dF_findMeant_7 : decode bF_findMeant 7 = .ok (.iconst 0, 1) := by decide +kernel
theorem dF_findMeant_8 : decode bF_findMeant 8 = .ok (.istore_n 3, 1) := by decide +kernel
theorem dF_findMeant_9 : decode bF_findMeant 9 = .ok (.iconst 0, 1) := by decide +kernel
theorem dF_findMeant_10 : decode bF_findMeant 10 = .ok (.istore 4, 2) := by decide +kernel
theorem dF_findMeant_12 : decode bF_findMeant 12 = .ok (.iload 4, 2) := by decide +kernel
theorem dF_findMeant_14 : decode bF_findMeant 14 = .ok (.aload_n 0, 1) := by decide +kernel
theorem dF_findMeant_15 : decode bF_findMeant 15 = .ok (.getfield 28, 3) := by decide +kernel
theorem dF_findMeant_18 : decode bF_findMeant 18 = .ok (.getfield 44, 3) := by decide +kernel
theorem dF_findMeant_21 : decode bF_findMeant 21 = .ok (.if_icmp .ge 44, 3) := by decide +kernel
theorem dF_findMeant_24 : decode bF_findMeant 24 = .ok (.aload_n 0, 1) := by decide +kernel
theorem dF_findMeant_25 : decode bF_findMeant 25 = .ok (.getfield 28, 3) := by decide +kernel
theorem dF_findMeant_28 : decode bF_findMeant 28 = .ok (.iload 4, 2) := by decide +kernel
theorem dF_findMeant_30 : decode bF_findMeant 30 = .ok (.invokevirtual 47, 3) := by decide +kernel
theorem dF_findMeant_33 : decode bF_findMeant 33 = .ok (.iload_n 1, 1) := by decide +kernel
theorem dF_findMeant_34 : decode bF_findMeant 34 = .ok (.if_icmp .ne 25, 3) := by decide +kernel
theorem dF_findMeant_37 : decode bF_findMeant 37 = .ok (.aload_n 0, 1) := by decide +kernel
theorem dF_findMeant_38 : decode bF_findMeant 38 = .ok (.getfield 28, 3) := by decide +kernel
theorem dF_findMeant_41 : decode bF_findMeant 41 = .ok (.iload 4, 2) := by decide +kernel
theorem dF_findMeant_43 : decode bF_findMeant 43 = .ok (.invokevirtual 50, 3) := by decide +kernel
theorem dF_findMeant_46 : decode bF_findMeant 46 = .ok (.ifCond .eq 13, 3) := by decide +kernel
theorem dF_findMeant_49 : decode bF_findMeant 49 = .ok (.aload_n 0, 1) := by decide +kernel
theorem dF_findMeant_50 : decode bF_findMeant 50 = .ok (.iload 4, 2) := by decide +kernel
theorem dF_findMeant_52 : decode bF_findMeant 52 = .ok (.invokevirtual 53, 3) := by decide +kernel
theorem dF_findMeant_55 : decode bF_findMeant 55 = .ok (.istore_n 2, 1) := by decide +kernel
theorem dF_findMeant_56 : decode bF_findMeant 56 = .ok (.iinc 3 1, 3) := by decide +kernel
theorem dF_findMeant_59 : decode bF_findMeant 59 = .ok (.iinc 4 1, 3) := by decide +kernel
theorem dF_findMeant_62 : decode bF_findMeant 62 = .ok (.goto (-50), 3) := by decide +kernel
theorem dF_findMeant_65 : decode bF_findMeant 65 = .ok (.iload_n 3, 1) := by decide +kernel
theorem dF_findMeant_66 : decode bF_findMeant 66 = .ok (.iconst 1, 1) := by decide +kernel
theorem dF_findMeant_67 : decode bF_findMeant 67 = .ok (.if_icmp .gt 24, 3) := by decide +kernel
theorem dF_findMeant_70 : decode bF_findMeant 70 = .ok (.aload_n 0, 1) := by decide +kernel
theorem dF_findMeant_71 : decode bF_findMeant 71 = .ok (.getfield 20, 3) := by decide +kernel
theorem dF_findMeant_74 : decode bF_findMeant 74 = .ok (.iload_n 2, 1) := by decide +kernel
theorem dF_findMeant_75 : decode bF_findMeant 75 = .ok (.aload_n 0, 1) := by decide +kernel
theorem dF_findMeant_76 : decode bF_findMeant 76 = .ok (.getfield 11, 3) := by decide +kernel
theorem dF_findMeant_79 : decode bF_findMeant 79 = .ok (.iload_n 1, 1) := by decide +kernel
theorem dF_findMeant_80 : decode bF_findMeant 80 = .ok (.iaload, 1) := by decide +kernel
theorem dF_findMeant_81 : decode bF_findMeant 81 = .ok (.invokevirtual 56, 3) := by decide +kernel
theorem dF_findMeant_84 : decode bF_findMeant 84 = .ok (.ifCond .eq 7, 3) := by decide +kernel
theorem dF_findMeant_87 : decode bF_findMeant 87 = .ok (.iload_n 2, 1) := by decide +kernel
theorem dF_findMeant_88 : decode bF_findMeant 88 = .ok (.goto 4, 3) := by decide +kernel
theorem dF_findMeant_91 : decode bF_findMeant 91 = .ok (.iconst (-1), 1) := by decide +kernel
theorem dF_findMeant_92 : decode bF_findMeant 92 = .ok (.ireturn, 1) := by decide +kernel
theorem dF_markedClass_0 : decode bF_markedClass 0 = .ok (.aload_n 0, 1) := by decide +kernel
theorem dF_markedClass_1 : decode bF_markedClass 1 = .ok (.getfield 28, 3) := by decide +kernel
theorem dF_markedClass_4 : decode bF_markedClass 4 = .ok (.iload_n 1, 1) := by decide +kernel
theorem dF_markedClass_5 : decode bF_markedClass 5 = .ok (.invokevirtual 62, 3) := by decide +kernel
theorem dF_markedClass_8 : decode bF_markedClass 8 = .ok (.istore_n 2, 1) := by decide +kernel
theorem dF_markedClass_9 : decode bF_markedClass 9 = .ok (.aload_n 0, 1) := by decide +kernel
theorem dF_markedClass_10 : decode bF_markedClass 10 = .ok (.getfield 28, 3) := by decide +kernel
theorem dF_markedClass_13 : decode bF_markedClass 13 = .ok (.iload_n 1, 1) := by decide +kernel
theorem dF_markedClass_14 : decode bF_markedClass 14 = .ok (.invokevirtual 65, 3) := by decide +kernel
theorem dF_markedClass_17 : decode bF_markedClass 17 = .ok (.iconst 2, 1) := by decide +kernel
theorem dF_markedClass_18 : decode bF_markedClass 18 = .ok (.if_icmp .ne 19, 3) := by decide +kernel
theorem dF_markedClass_21 : decode bF_markedClass 21 = .ok (.aload_n 0, 1) := by decide +kernel
theorem dF_markedClass_22 : decode bF_markedClass 22 = .ok (.getfield 24, 3) := by decide +kernel
theorem dF_markedClass_25 : decode bF_markedClass 25 = .ok (.iload_n 2, 1) := by decide +kernel
theorem dF_markedClass_26 : decode bF_markedClass 26 = .ok (.invokevirtual 68, 3) := by decide +kernel
theorem dF_markedClass_29 : decode bF_markedClass 29 = .ok (.iconst 2, 1) := by decide +kernel
theorem dF_markedClass_30 : decode bF_markedClass 30 = .ok (.if_icmp .ne 7, 3) := by decide +kernel
theorem dF_markedClass_33 : decode bF_markedClass 33 = .ok (.iconst 1, 1) := by decide +kernel
theorem dF_markedClass_34 : decode bF_markedClass 34 = .ok (.goto 4, 3) := by decide +kernel
theorem dF_markedClass_37 : decode bF_markedClass 37 = .ok (.iconst 0, 1) := by decide +kernel
theorem dF_markedClass_38 : decode bF_markedClass 38 = .ok (.istore_n 3, 1) := by decide +kernel
theorem dF_markedClass_39 : decode bF_markedClass 39 = .ok (.iload_n 3, 1) := by decide +kernel
theorem dF_markedClass_40 : decode bF_markedClass 40 = .ok (.ifCond .eq 19, 3) := by decide +kernel
theorem dF_markedClass_43 : decode bF_markedClass 43 = .ok (.aload_n 0, 1) := by decide +kernel
theorem dF_markedClass_44 : decode bF_markedClass 44 = .ok (.getfield 24, 3) := by decide +kernel
theorem dF_markedClass_47 : decode bF_markedClass 47 = .ok (.iload_n 2, 1) := by decide +kernel
theorem dF_markedClass_48 : decode bF_markedClass 48 = .ok (.iconst 4, 1) := by decide +kernel
theorem dF_markedClass_49 : decode bF_markedClass 49 = .ok (.iadd, 1) := by decide +kernel
theorem dF_markedClass_50 : decode bF_markedClass 50 = .ok (.invokevirtual 73, 3) := by decide +kernel
theorem dF_markedClass_53 : decode bF_markedClass 53 = .ok (.bipush 65, 2) := by decide +kernel
theorem dF_markedClass_55 : decode bF_markedClass 55 = .ok (.isub, 1) := by decide +kernel
theorem dF_markedClass_56 : decode bF_markedClass 56 = .ok (.goto 4, 3) := by decide +kernel
theorem dF_markedClass_59 : decode bF_markedClass 59 = .ok (.iconst (-1), 1) := by decide +kernel
theorem dF_markedClass_60 : decode bF_markedClass 60 = .ok (.ireturn, 1) := by decide +kernel
theorem dF_elementsFit_0 : decode bF_elementsFit 0 = .ok (.iconst 0, 1) := by decide +kernel
theorem dF_elementsFit_1 : decode bF_elementsFit 1 = .ok (.istore_n 2, 1) := by decide +kernel
theorem dF_elementsFit_2 : decode bF_elementsFit 2 = .ok (.iconst 0, 1) := by decide +kernel
theorem dF_elementsFit_3 : decode bF_elementsFit 3 = .ok (.istore_n 3, 1) := by decide +kernel
theorem dF_elementsFit_4 : decode bF_elementsFit 4 = .ok (.iload_n 3, 1) := by decide +kernel
theorem dF_elementsFit_5 : decode bF_elementsFit 5 = .ok (.aload_n 0, 1) := by decide +kernel
theorem dF_elementsFit_6 : decode bF_elementsFit 6 = .ok (.getfield 28, 3) := by decide +kernel
theorem dF_elementsFit_9 : decode bF_elementsFit 9 = .ok (.getfield 44, 3) := by decide +kernel
theorem dF_elementsFit_12 : decode bF_elementsFit 12 = .ok (.if_icmp .ge 84, 3) := by decide +kernel
theorem dF_elementsFit_15 : decode bF_elementsFit 15 = .ok (.aload_n 0, 1) := by decide +kernel
theorem dF_elementsFit_16 : decode bF_elementsFit 16 = .ok (.getfield 28, 3) := by decide +kernel
theorem dF_elementsFit_19 : decode bF_elementsFit 19 = .ok (.iload_n 3, 1) := by decide +kernel
theorem dF_elementsFit_20 : decode bF_elementsFit 20 = .ok (.invokevirtual 47, 3) := by decide +kernel
theorem dF_elementsFit_23 : decode bF_elementsFit 23 = .ok (.iload_n 1, 1) := by decide +kernel
theorem dF_elementsFit_24 : decode bF_elementsFit 24 = .ok (.if_icmp .ne 66, 3) := by decide +kernel
theorem dF_elementsFit_27 : decode bF_elementsFit 27 = .ok (.aload_n 0, 1) := by decide +kernel
theorem dF_elementsFit_28 : decode bF_elementsFit 28 = .ok (.getfield 28, 3) := by decide +kernel
theorem dF_elementsFit_31 : decode bF_elementsFit 31 = .ok (.iload_n 3, 1) := by decide +kernel
theorem dF_elementsFit_32 : decode bF_elementsFit 32 = .ok (.invokevirtual 50, 3) := by decide +kernel
theorem dF_elementsFit_35 : decode bF_elementsFit 35 = .ok (.ifCond .ne 55, 3) := by decide +kernel
theorem dF_elementsFit_38 : decode bF_elementsFit 38 = .ok (.aload_n 0, 1) := by decide +kernel
theorem dF_elementsFit_39 : decode bF_elementsFit 39 = .ok (.iload_n 3, 1) := by decide +kernel
theorem dF_elementsFit_40 : decode bF_elementsFit 40 = .ok (.invokevirtual 76, 3) := by decide +kernel
theorem dF_elementsFit_43 : decode bF_elementsFit 43 = .ok (.istore 4, 2) := by decide +kernel
theorem dF_elementsFit_45 : decode bF_elementsFit 45 = .ok (.aload_n 0, 1) := by decide +kernel
theorem dF_elementsFit_46 : decode bF_elementsFit 46 = .ok (.getfield 20, 3) := by decide +kernel
theorem dF_elementsFit_49 : decode bF_elementsFit 49 = .ok (.iload 4, 2) := by decide +kernel
theorem dF_elementsFit_51 : decode bF_elementsFit 51 = .ok (.aload_n 0, 1) := by decide +kernel
theorem dF_elementsFit_52 : decode bF_elementsFit 52 = .ok (.getfield 28, 3) := by decide +kernel
theorem dF_elementsFit_55 : decode bF_elementsFit 55 = .ok (.iload_n 3, 1) := by decide +kernel
theorem dF_elementsFit_56 : decode bF_elementsFit 56 = .ok (.invokevirtual 65, 3) := by decide +kernel
theorem dF_elementsFit_59 : decode bF_elementsFit 59 = .ok (.invokevirtual 79, 3) := by decide +kernel
theorem dF_elementsFit_62 : decode bF_elementsFit 62 = .ok (.ifCond .eq 12, 3) := by decide +kernel
theorem dF_elementsFit_65 : decode bF_elementsFit 65 = .ok (.iload_n 2, 1) := by decide +kernel
theorem dF_elementsFit_66 : decode bF_elementsFit 66 = .ok (.iconst 1, 1) := by decide +kernel
theorem dF_elementsFit_67 : decode bF_elementsFit 67 = .ok (.iload 4, 2) := by decide +kernel
theorem dF_elementsFit_69 : decode bF_elementsFit 69 = .ok (.ishl, 1) := by decide +kernel
theorem dF_elementsFit_70 : decode bF_elementsFit 70 = .ok (.iand, 1) := by decide +kernel
theorem dF_elementsFit_71 : decode bF_elementsFit 71 = .ok (.ifCond .eq 5, 3) := by decide +kernel
theorem dF_elementsFit_74 : decode bF_elementsFit 74 = .ok (.iconst 0, 1) := by decide +kernel
theorem dF_elementsFit_75 : decode bF_elementsFit 75 = .ok (.ireturn, 1) := by decide +kernel
theorem dF_elementsFit_76 : decode bF_elementsFit 76 = .ok (.iload_n 2, 1) := by decide +kernel
theorem dF_elementsFit_77 : decode bF_elementsFit 77 = .ok (.iconst 1, 1) := by decide +kernel
theorem dF_elementsFit_78 : decode bF_elementsFit 78 = .ok (.iload 4, 2) := by decide +kernel
theorem dF_elementsFit_80 : decode bF_elementsFit 80 = .ok (.ishl, 1) := by decide +kernel
theorem dF_elementsFit_81 : decode bF_elementsFit 81 = .ok (.ior, 1) := by decide +kernel
theorem dF_elementsFit_82 : decode bF_elementsFit 82 = .ok (.istore_n 2, 1) := by decide +kernel
theorem dF_elementsFit_83 : decode bF_elementsFit 83 = .ok (.aload_n 0, 1) := by decide +kernel
theorem dF_elementsFit_84 : decode bF_elementsFit 84 = .ok (.iload_n 3, 1) := by decide +kernel
theorem dF_elementsFit_85 : decode bF_elementsFit 85 = .ok (.iload 4, 2) := by decide +kernel
theorem dF_elementsFit_87 : decode bF_elementsFit 87 = .ok (.invokevirtual 82, 3) := by decide +kernel
theorem dF_elementsFit_90 : decode bF_elementsFit 90 = .ok (.iinc 3 1, 3) := by decide +kernel
theorem dF_elementsFit_93 : decode bF_elementsFit 93 = .ok (.goto (-89), 3) := by decide +kernel
theorem dF_elementsFit_96 : decode bF_elementsFit 96 = .ok (.iconst 1, 1) := by decide +kernel
theorem dF_elementsFit_97 : decode bF_elementsFit 97 = .ok (.ireturn, 1) := by decide +kernel
theorem dF_wantInside_0 : decode bF_wantInside 0 = .ok (.aload_n 0, 1) := by decide +kernel
theorem dF_wantInside_1 : decode bF_wantInside 1 = .ok (.getfield 28, 3) := by decide +kernel
theorem dF_wantInside_4 : decode bF_wantInside 4 = .ok (.iload_n 1, 1) := by decide +kernel
theorem dF_wantInside_5 : decode bF_wantInside 5 = .ok (.invokevirtual 86, 3) := by decide +kernel
theorem dF_wantInside_8 : decode bF_wantInside 8 = .ok (.istore_n 3, 1) := by decide +kernel
theorem dF_wantInside_9 : decode bF_wantInside 9 = .ok (.iload_n 3, 1) := by decide +kernel
theorem dF_wantInside_10 : decode bF_wantInside 10 = .ok (.ifCond .lt 26, 3) := by decide +kernel
theorem dF_wantInside_13 : decode bF_wantInside 13 = .ok (.iload_n 3, 1) := by decide +kernel
theorem dF_wantInside_14 : decode bF_wantInside 14 = .ok (.aload_n 0, 1) := by decide +kernel
theorem dF_wantInside_15 : decode bF_wantInside 15 = .ok (.getfield 11, 3) := by decide +kernel
theorem dF_wantInside_18 : decode bF_wantInside 18 = .ok (.arraylength, 1) := by decide +kernel
theorem dF_wantInside_19 : decode bF_wantInside 19 = .ok (.if_icmp .ge 17, 3) := by decide +kernel
theorem dF_wantInside_22 : decode bF_wantInside 22 = .ok (.aload_n 0, 1) := by decide +kernel
theorem dF_wantInside_23 : decode bF_wantInside 23 = .ok (.getfield 11, 3) := by decide +kernel
theorem dF_wantInside_26 : decode bF_wantInside 26 = .ok (.iload_n 3, 1) := by decide +kernel
theorem dF_wantInside_27 : decode bF_wantInside 27 = .ok (.aload_n 0, 1) := by decide +kernel
theorem dF_wantInside_28 : decode bF_wantInside 28 = .ok (.getfield 20, 3) := by decide +kernel
theorem dF_wantInside_31 : decode bF_wantInside 31 = .ok (.iload_n 2, 1) := by decide +kernel
theorem dF_wantInside_32 : decode bF_wantInside 32 = .ok (.invokevirtual 89, 3) := by decide +kernel
theorem dF_wantInside_35 : decode bF_wantInside 35 = .ok (.iastore, 1) := by decide +kernel
theorem dF_wantInside_36 : decode bF_wantInside 36 = .ok (.return_, 1) := by decide +kernel
theorem dF_propertyFor_0 : decode bF_propertyFor 0 = .ok (.aload_n 0, 1) := by decide +kernel
theorem dF_propertyFor_1 : decode bF_propertyFor 1 = .ok (.getfield 28, 3) := by decide +kernel
theorem dF_propertyFor_4 : decode bF_propertyFor 4 = .ok (.iload_n 1, 1) := by decide +kernel
theorem dF_propertyFor_5 : decode bF_propertyFor 5 = .ok (.invokevirtual 47, 3) := by decide +kernel
theorem dF_propertyFor_8 : decode bF_propertyFor 8 = .ok (.istore_n 2, 1) := by decide +kernel
theorem dF_propertyFor_9 : decode bF_propertyFor 9 = .ok (.iload_n 2, 1) := by decide +kernel
theorem dF_propertyFor_10 : decode bF_propertyFor 10 = .ok (.ifCond .lt 16, 3) := by decide +kernel
theorem dF_propertyFor_13 : decode bF_propertyFor 13 = .ok (.iload_n 2, 1) := by decide +kernel
theorem dF_propertyFor_14 : decode bF_propertyFor 14 = .ok (.aload_n 0, 1) := by decide +kernel
theorem dF_propertyFor_15 : decode bF_propertyFor 15 = .ok (.getfield 17, 3) := by decide +kernel
theorem dF_propertyFor_18 : decode bF_propertyFor 18 = .ok (.arraylength, 1) := by decide +kernel
theorem dF_propertyFor_19 : decode bF_propertyFor 19 = .ok (.if_icmp .ge 7, 3) := by decide +kernel
theorem dF_propertyFor_22 : decode bF_propertyFor 22 = .ok (.iconst 1, 1) := by decide +kernel
theorem dF_propertyFor_23 : decode bF_propertyFor 23 = .ok (.goto 4, 3) := by decide +kernel
theorem dF_propertyFor_26 : decode bF_propertyFor 26 = .ok (.iconst 0, 1) := by decide +kernel
theorem dF_propertyFor_27 : decode bF_propertyFor 27 = .ok (.istore_n 3, 1) := by decide +kernel
theorem dF_propertyFor_28 : decode bF_propertyFor 28 = .ok (.iload_n 3, 1) := by decide +kernel
theorem dF_propertyFor_29 : decode bF_propertyFor 29 = .ok (.ifCond .eq 27, 3) := by decide +kernel
theorem dF_propertyFor_32 : decode bF_propertyFor 32 = .ok (.aload_n 0, 1) := by decide +kernel
theorem dF_propertyFor_33 : decode bF_propertyFor 33 = .ok (.getfield 20, 3) := by decide +kernel
theorem dF_propertyFor_36 : decode bF_propertyFor 36 = .ok (.aload_n 0, 1) := by decide +kernel
theorem dF_propertyFor_37 : decode bF_propertyFor 37 = .ok (.getfield 17, 3) := by decide +kernel
theorem dF_propertyFor_40 : decode bF_propertyFor 40 = .ok (.iload_n 2, 1) := by decide +kernel
theorem dF_propertyFor_41 : decode bF_propertyFor 41 = .ok (.iaload, 1) := by decide +kernel
theorem dF_propertyFor_42 : decode bF_propertyFor 42 = .ok (.aload_n 0, 1) := by decide +kernel
theorem dF_propertyFor_43 : decode bF_propertyFor 43 = .ok (.getfield 28, 3) := by decide +kernel
theorem dF_propertyFor_46 : decode bF_propertyFor 46 = .ok (.iload_n 1, 1) := by decide +kernel
theorem dF_propertyFor_47 : decode bF_propertyFor 47 = .ok (.invokevirtual 92, 3) := by decide +kernel
theorem dF_propertyFor_50 : decode bF_propertyFor 50 = .ok (.invokevirtual 95, 3) := by decide +kernel
theorem dF_propertyFor_53 : decode bF_propertyFor 53 = .ok (.goto 4, 3) := by decide +kernel
theorem dF_propertyFor_56 : decode bF_propertyFor 56 = .ok (.iconst (-1), 1) := by decide +kernel
theorem dF_propertyFor_57 : decode bF_propertyFor 57 = .ok (.ireturn, 1) := by decide +kernel
theorem dF_fill_0 : decode bF_fill 0 = .ok (.aload_n 1, 1) := by decide +kernel
theorem dF_fill_1 : decode bF_fill 1 = .ok (.getfield 99, 3) := by decide +kernel
theorem dF_fill_4 : decode bF_fill 4 = .ok (.istore_n 2, 1) := by decide +kernel
theorem dF_fill_5 : decode bF_fill 5 = .ok (.iconst 0, 1) := by decide +kernel
theorem dF_fill_6 : decode bF_fill 6 = .ok (.istore_n 3, 1) := by decide +kernel
theorem dF_fill_7 : decode bF_fill 7 = .ok (.iload_n 3, 1) := by decide +kernel
theorem dF_fill_8 : decode bF_fill 8 = .ok (.aload_n 0, 1) := by decide +kernel
theorem dF_fill_9 : decode bF_fill 9 = .ok (.getfield 28, 3) := by decide +kernel
theorem dF_fill_12 : decode bF_fill 12 = .ok (.getfield 32, 3) := by decide +kernel
theorem dF_fill_15 : decode bF_fill 15 = .ok (.if_icmp .ge 20, 3) := by decide +kernel
theorem dF_fill_18 : decode bF_fill 18 = .ok (.aload_n 1, 1) := by decide +kernel
theorem dF_fill_19 : decode bF_fill 19 = .ok (.aload_n 0, 1) := by decide +kernel
theorem dF_fill_20 : decode bF_fill 20 = .ok (.getfield 17, 3) := by decide +kernel
theorem dF_fill_23 : decode bF_fill 23 = .ok (.iload_n 3, 1) := by decide +kernel
theorem dF_fill_24 : decode bF_fill 24 = .ok (.iaload, 1) := by decide +kernel
theorem dF_fill_25 : decode bF_fill 25 = .ok (.invokevirtual 104, 3) := by decide +kernel
theorem dF_fill_28 : decode bF_fill 28 = .ok (.pop, 1) := by decide +kernel
theorem dF_fill_29 : decode bF_fill 29 = .ok (.iinc 3 1, 3) := by decide +kernel
theorem dF_fill_32 : decode bF_fill 32 = .ok (.goto (-25), 3) := by decide +kernel
theorem dF_fill_35 : decode bF_fill 35 = .ok (.iconst 0, 1) := by decide +kernel
theorem dF_fill_36 : decode bF_fill 36 = .ok (.istore_n 3, 1) := by decide +kernel
theorem dF_fill_37 : decode bF_fill 37 = .ok (.iload_n 3, 1) := by decide +kernel
theorem dF_fill_38 : decode bF_fill 38 = .ok (.aload_n 0, 1) := by decide +kernel
theorem dF_fill_39 : decode bF_fill 39 = .ok (.getfield 28, 3) := by decide +kernel
theorem dF_fill_42 : decode bF_fill 42 = .ok (.getfield 44, 3) := by decide +kernel
theorem dF_fill_45 : decode bF_fill 45 = .ok (.if_icmp .ge 27, 3) := by decide +kernel
theorem dF_fill_48 : decode bF_fill 48 = .ok (.aload_n 0, 1) := by decide +kernel
theorem dF_fill_49 : decode bF_fill 49 = .ok (.getfield 28, 3) := by decide +kernel
theorem dF_fill_52 : decode bF_fill 52 = .ok (.iload_n 3, 1) := by decide +kernel
theorem dF_fill_53 : decode bF_fill 53 = .ok (.invokevirtual 50, 3) := by decide +kernel
theorem dF_fill_56 : decode bF_fill 56 = .ok (.ifCond .ne 10, 3) := by decide +kernel
theorem dF_fill_59 : decode bF_fill 59 = .ok (.aload_n 0, 1) := by decide +kernel
theorem dF_fill_60 : decode bF_fill 60 = .ok (.aload_n 1, 1) := by decide +kernel
theorem dF_fill_61 : decode bF_fill 61 = .ok (.iload_n 2, 1) := by decide +kernel
theorem dF_fill_62 : decode bF_fill 62 = .ok (.iload_n 3, 1) := by decide +kernel
theorem dF_fill_63 : decode bF_fill 63 = .ok (.invokevirtual 107, 3) := by decide +kernel
theorem dF_fill_66 : decode bF_fill 66 = .ok (.iinc 3 1, 3) := by decide +kernel
theorem dF_fill_69 : decode bF_fill 69 = .ok (.goto (-32), 3) := by decide +kernel
theorem dF_fill_72 : decode bF_fill 72 = .ok (.iload_n 2, 1) := by decide +kernel
theorem dF_fill_73 : decode bF_fill 73 = .ok (.ireturn, 1) := by decide +kernel
theorem dF_fillProperty_0 : decode bF_fillProperty 0 = .ok (.iload_n 2, 1) := by decide +kernel
theorem dF_fillProperty_1 : decode bF_fillProperty 1 = .ok (.aload_n 0, 1) := by decide +kernel
theorem dF_fillProperty_2 : decode bF_fillProperty 2 = .ok (.getfield 28, 3) := by decide +kernel
theorem dF_fillProperty_5 : decode bF_fillProperty 5 = .ok (.iload_n 3, 1) := by decide +kernel
theorem dF_fillProperty_6 : decode bF_fillProperty 6 = .ok (.invokevirtual 47, 3) := by decide +kernel
theorem dF_fillProperty_9 : decode bF_fillProperty 9 = .ok (.iadd, 1) := by decide +kernel
theorem dF_fillProperty_10 : decode bF_fillProperty 10 = .ok (.istore 4, 2) := by decide +kernel
theorem dF_fillProperty_12 : decode bF_fillProperty 12 = .ok (.aload_n 0, 1) := by decide +kernel
theorem dF_fillProperty_13 : decode bF_fillProperty 13 = .ok (.iload_n 3, 1) := by decide +kernel
theorem dF_fillProperty_14 : decode bF_fillProperty 14 = .ok (.invokevirtual 76, 3) := by decide +kernel
theorem dF_fillProperty_17 : decode bF_fillProperty 17 = .ok (.istore 5, 2) := by decide +kernel
theorem dF_fillProperty_19 : decode bF_fillProperty 19 = .ok (.aload_n 0, 1) := by decide +kernel
theorem dF_fillProperty_20 : decode bF_fillProperty 20 = .ok (.getfield 20, 3) := by decide +kernel
theorem dF_fillProperty_23 : decode bF_fillProperty 23 = .ok (.iload 5, 2) := by decide +kernel
theorem dF_fillProperty_25 : decode bF_fillProperty 25 = .ok (.invokevirtual 111, 3) := by decide +kernel
theorem dF_fillProperty_28 : decode bF_fillProperty 28 = .ok (.ifCond .ne 19, 3) := by decide +kernel
theorem dF_fillProperty_31 : decode bF_fillProperty 31 = .ok (.aload_n 1, 1) := by decide +kernel
theorem dF_fillProperty_32 : decode bF_fillProperty 32 = .ok (.iload 4, 2) := by decide +kernel
theorem dF_fillProperty_34 : decode bF_fillProperty 34 = .ok (.iload 5, 2) := by decide +kernel
theorem dF_fillProperty_36 : decode bF_fillProperty 36 = .ok (.aload_n 0, 1) := by decide +kernel
theorem dF_fillProperty_37 : decode bF_fillProperty 37 = .ok (.iload_n 3, 1) := by decide +kernel
theorem dF_fillProperty_38 : decode bF_fillProperty 38 = .ok (.invokevirtual 114, 3) := by decide +kernel
theorem dF_fillProperty_41 : decode bF_fillProperty 41 = .ok (.invokevirtual 118, 3) := by decide +kernel
theorem dF_fillProperty_44 : decode bF_fillProperty 44 = .ok (.goto 33, 3) := by decide +kernel
theorem dF_fillProperty_47 : decode bF_fillProperty 47 = .ok (.aload_n 0, 1) := by decide +kernel
theorem dF_fillProperty_48 : decode bF_fillProperty 48 = .ok (.getfield 28, 3) := by decide +kernel
theorem dF_fillProperty_51 : decode bF_fillProperty 51 = .ok (.iload_n 3, 1) := by decide +kernel
theorem dF_fillProperty_52 : decode bF_fillProperty 52 = .ok (.invokevirtual 86, 3) := by decide +kernel
theorem dF_fillProperty_55 : decode bF_fillProperty 55 = .ok (.iconst (-1), 1) := by decide +kernel
theorem dF_fillProperty_56 : decode bF_fillProperty 56 = .ok (.if_icmp .eq 21, 3) := by decide +kernel
theorem dF_fillProperty_59 : decode bF_fillProperty 59 = .ok (.aload_n 1, 1) := by decide +kernel
theorem dF_fillProperty_60 : decode bF_fillProperty 60 = .ok (.iload 4, 2) := by decide +kernel
theorem dF_fillProperty_62 : decode bF_fillProperty 62 = .ok (.iload 5, 2) := by decide +kernel
theorem dF_fillProperty_64 : decode bF_fillProperty 64 = .ok (.iload_n 2, 1) := by decide +kernel
theorem dF_fillProperty_65 : decode bF_fillProperty 65 = .ok (.aload_n 0, 1) := by decide +kernel
theorem dF_fillProperty_66 : decode bF_fillProperty 66 = .ok (.getfield 28, 3) := by decide +kernel
theorem dF_fillProperty_69 : decode bF_fillProperty 69 = .ok (.iload_n 3, 1) := by decide +kernel
theorem dF_fillProperty_70 : decode bF_fillProperty 70 = .ok (.invokevirtual 86, 3) := by decide +kernel
theorem dF_fillProperty_73 : decode bF_fillProperty 73 = .ok (.iadd, 1) := by decide +kernel
theorem dF_fillProperty_74 : decode bF_fillProperty 74 = .ok (.invokevirtual 122, 3) := by decide +kernel
theorem dF_fillProperty_77 : decode bF_fillProperty 77 = .ok (.return_, 1) := by decide +kernel
