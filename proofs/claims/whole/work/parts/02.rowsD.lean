/-! decode rows of class PropertyDocuments$Description: laid by wip/gen/names.py -/
theorem dD_letter_0 : decode bD_letter 0 = .ok (.aload_n 0, 1) := by decide +kernel
theorem dD_letter_1 : decode bD_letter 1 = .ok (.iload_n 1, 1) := by decide +kernel
theorem dD_letter_2 : decode bD_letter 2 = .ok (.invokevirtual 45, 3) := by decide +kernel
theorem dD_letter_5 : decode bD_letter 5 = .ok (.ifCond .eq 12, 3) := by decide +kernel
theorem dD_letter_8 : decode bD_letter 8 = .ok (.aload_n 0, 1) := by decide +kernel
theorem dD_letter_9 : decode bD_letter 9 = .ok (.getfield 18, 3) := by decide +kernel
theorem dD_letter_12 : decode bD_letter 12 = .ok (.iload_n 1, 1) := by decide +kernel
theorem dD_letter_13 : decode bD_letter 13 = .ok (.iaload, 1) := by decide +kernel
theorem dD_letter_14 : decode bD_letter 14 = .ok (.goto 4, 3) := by decide +kernel
theorem dD_letter_17 : decode bD_letter 17 = .ok (.iconst (-1), 1) := by decide +kernel
theorem dD_letter_18 : decode bD_letter 18 = .ok (.ireturn, 1) := by decide +kernel
theorem dD_sort_0 : decode bD_sort 0 = .ok (.aload_n 0, 1) := by decide +kernel
theorem dD_sort_1 : decode bD_sort 1 = .ok (.iload_n 1, 1) := by decide +kernel
theorem dD_sort_2 : decode bD_sort 2 = .ok (.invokevirtual 45, 3) := by decide +kernel
theorem dD_sort_5 : decode bD_sort 5 = .ok (.ifCond .eq 12, 3) := by decide +kernel
theorem dD_sort_8 : decode bD_sort 8 = .ok (.aload_n 0, 1) := by decide +kernel
theorem dD_sort_9 : decode bD_sort 9 = .ok (.getfield 21, 3) := by decide +kernel
theorem dD_sort_12 : decode bD_sort 12 = .ok (.iload_n 1, 1) := by decide +kernel
theorem dD_sort_13 : decode bD_sort 13 = .ok (.iaload, 1) := by decide +kernel
theorem dD_sort_14 : decode bD_sort 14 = .ok (.goto 4, 3) := by decide +kernel
theorem dD_sort_17 : decode bD_sort 17 = .ok (.iconst (-1), 1) := by decide +kernel
theorem dD_sort_18 : decode bD_sort 18 = .ok (.ireturn, 1) := by decide +kernel
theorem dD_target_0 : decode bD_target 0 = .ok (.aload_n 0, 1) := by decide +kernel
theorem dD_target_1 : decode bD_target 1 = .ok (.iload_n 1, 1) := by decide +kernel
theorem dD_target_2 : decode bD_target 2 = .ok (.invokevirtual 45, 3) := by decide +kernel
theorem dD_target_5 : decode bD_target 5 = .ok (.ifCond .eq 12, 3) := by decide +kernel
theorem dD_target_8 : decode bD_target 8 = .ok (.aload_n 0, 1) := by decide +kernel
theorem dD_target_9 : decode bD_target 9 = .ok (.getfield 24, 3) := by decide +kernel
theorem dD_target_12 : decode bD_target 12 = .ok (.iload_n 1, 1) := by decide +kernel
theorem dD_target_13 : decode bD_target 13 = .ok (.iaload, 1) := by decide +kernel
theorem dD_target_14 : decode bD_target 14 = .ok (.goto 4, 3) := by decide +kernel
theorem dD_target_17 : decode bD_target 17 = .ok (.iconst (-1), 1) := by decide +kernel
theorem dD_target_18 : decode bD_target 18 = .ok (.ireturn, 1) := by decide +kernel
theorem dD_isLink_0 : decode bD_isLink 0 = .ok (.aload_n 0, 1) := by decide +kernel
theorem dD_isLink_1 : decode bD_isLink 1 = .ok (.iload_n 1, 1) := by decide +kernel
theorem dD_isLink_2 : decode bD_isLink 2 = .ok (.invokevirtual 48, 3) := by decide +kernel
theorem dD_isLink_5 : decode bD_isLink 5 = .ok (.iconst 3, 1) := by decide +kernel
theorem dD_isLink_6 : decode bD_isLink 6 = .ok (.if_icmp .ne 7, 3) := by decide +kernel
theorem dD_isLink_9 : decode bD_isLink 9 = .ok (.iconst 1, 1) := by decide +kernel
theorem dD_isLink_10 : decode bD_isLink 10 = .ok (.goto 4, 3) := by decide +kernel
theorem dD_isLink_13 : decode bD_isLink 13 = .ok (.iconst 0, 1) := by decide +kernel
theorem dD_isLink_14 : decode bD_isLink 14 = .ok (.ireturn, 1) := by decide +kernel
theorem dD_allowsValue_0 : decode bD_allowsValue 0 = .ok (.aload_n 0, 1) := by decide +kernel
theorem dD_allowsValue_1 : decode bD_allowsValue 1 = .ok (.iload_n 1, 1) := by decide +kernel
theorem dD_allowsValue_2 : decode bD_allowsValue 2 = .ok (.invokevirtual 48, 3) := by decide +kernel
theorem dD_allowsValue_5 : decode bD_allowsValue 5 = .ok (.tableswitch 61 0 2 #[27, 41, 43], 27) := by decide +kernel
theorem dD_allowsValue_32 : decode bD_allowsValue 32 = .ok (.lload_n 2, 1) := by decide +kernel
theorem dD_allowsValue_33 : decode bD_allowsValue 33 = .ok (.lload_n 2, 1) := by decide +kernel
theorem dD_allowsValue_34 : decode bD_allowsValue 34 = .ok (.l2i, 1) := by decide +kernel
theorem dD_allowsValue_35 : decode bD_allowsValue 35 = .ok (.i2l, 1) := by decide +kernel
theorem dD_allowsValue_36 : decode bD_allowsValue 36 = .ok (.lcmp, 1) := by decide +kernel
theorem dD_allowsValue_37 : decode bD_allowsValue 37 = .ok (.ifCond .ne 7, 3) := by decide +kernel
theorem dD_allowsValue_40 : decode bD_allowsValue 40 = .ok (.iconst 1, 1) := by decide +kernel
theorem dD_allowsValue_41 : decode bD_allowsValue 41 = .ok (.goto 4, 3) := by decide +kernel
theorem dD_allowsValue_44 : decode bD_allowsValue 44 = .ok (.iconst 0, 1) := by decide +kernel
theorem dD_allowsValue_45 : decode bD_allowsValue 45 = .ok (.ireturn, 1) := by decide +kernel
theorem dD_allowsValue_46 : decode bD_allowsValue 46 = .ok (.iconst 1, 1) := by decide +kernel
theorem dD_allowsValue_47 : decode bD_allowsValue 47 = .ok (.ireturn, 1) := by decide +kernel
theorem dD_allowsValue_48 : decode bD_allowsValue 48 = .ok (.lload_n 2, 1) := by decide +kernel
theorem dD_allowsValue_49 : decode bD_allowsValue 49 = .ok (.lconst 0, 1) := by decide +kernel
theorem dD_allowsValue_50 : decode bD_allowsValue 50 = .ok (.lcmp, 1) := by decide +kernel
theorem dD_allowsValue_51 : decode bD_allowsValue 51 = .ok (.ifCond .eq 9, 3) := by decide +kernel
theorem dD_allowsValue_54 : decode bD_allowsValue 54 = .ok (.lload_n 2, 1) := by decide +kernel
theorem dD_allowsValue_55 : decode bD_allowsValue 55 = .ok (.lconst 1, 1) := by decide +kernel
theorem dD_allowsValue_56 : decode bD_allowsValue 56 = .ok (.lcmp, 1) := by decide +kernel
theorem dD_allowsValue_57 : decode bD_allowsValue 57 = .ok (.ifCond .ne 7, 3) := by decide +kernel
theorem dD_allowsValue_60 : decode bD_allowsValue 60 = .ok (.iconst 1, 1) := by decide +kernel
theorem dD_allowsValue_61 : decode bD_allowsValue 61 = .ok (.goto 4, 3) := by decide +kernel
theorem dD_allowsValue_64 : decode bD_allowsValue 64 = .ok (.iconst 0, 1) := by decide +kernel
theorem dD_allowsValue_65 : decode bD_allowsValue 65 = .ok (.ireturn, 1) := by decide +kernel
theorem dD_allowsValue_66 : decode bD_allowsValue 66 = .ok (.iconst 0, 1) := by decide +kernel
theorem dD_allowsValue_67 : decode bD_allowsValue 67 = .ok (.ireturn, 1) := by decide +kernel
theorem dD_allowsType_0 : decode bD_allowsType 0 = .ok (.aload_n 0, 1) := by decide +kernel
theorem dD_allowsType_1 : decode bD_allowsType 1 = .ok (.iload_n 1, 1) := by decide +kernel
theorem dD_allowsType_2 : decode bD_allowsType 2 = .ok (.invokevirtual 48, 3) := by decide +kernel
theorem dD_allowsType_5 : decode bD_allowsType 5 = .ok (.tableswitch 90 0 3 #[31, 43, 61, 73], 31) := by decide +kernel
theorem dD_allowsType_36 : decode bD_allowsType 36 = .ok (.iload_n 2, 1) := by decide +kernel
theorem dD_allowsType_37 : decode bD_allowsType 37 = .ok (.bipush 16, 2) := by decide +kernel
theorem dD_allowsType_39 : decode bD_allowsType 39 = .ok (.if_icmp .ne 7, 3) := by decide +kernel
theorem dD_allowsType_42 : decode bD_allowsType 42 = .ok (.iconst 1, 1) := by decide +kernel
theorem dD_allowsType_43 : decode bD_allowsType 43 = .ok (.goto 4, 3) := by decide +kernel
theorem dD_allowsType_46 : decode bD_allowsType 46 = .ok (.iconst 0, 1) := by decide +kernel
theorem dD_allowsType_47 : decode bD_allowsType 47 = .ok (.ireturn, 1) := by decide +kernel
theorem dD_allowsType_48 : decode bD_allowsType 48 = .ok (.iload_n 2, 1) := by decide +kernel
theorem dD_allowsType_49 : decode bD_allowsType 49 = .ok (.bipush 18, 2) := by decide +kernel
theorem dD_allowsType_51 : decode bD_allowsType 51 = .ok (.if_icmp .eq 9, 3) := by decide +kernel
theorem dD_allowsType_54 : decode bD_allowsType 54 = .ok (.iload_n 2, 1) := by decide +kernel
theorem dD_allowsType_55 : decode bD_allowsType 55 = .ok (.bipush 16, 2) := by decide +kernel
theorem dD_allowsType_57 : decode bD_allowsType 57 = .ok (.if_icmp .ne 7, 3) := by decide +kernel
theorem dD_allowsType_60 : decode bD_allowsType 60 = .ok (.iconst 1, 1) := by decide +kernel
theorem dD_allowsType_61 : decode bD_allowsType 61 = .ok (.goto 4, 3) := by decide +kernel
theorem dD_allowsType_64 : decode bD_allowsType 64 = .ok (.iconst 0, 1) := by decide +kernel
theorem dD_allowsType_65 : decode bD_allowsType 65 = .ok (.ireturn, 1) := by decide +kernel
theorem dD_allowsType_66 : decode bD_allowsType 66 = .ok (.iload_n 2, 1) := by decide +kernel
theorem dD_allowsType_67 : decode bD_allowsType 67 = .ok (.bipush 8, 2) := by decide +kernel
theorem dD_allowsType_69 : decode bD_allowsType 69 = .ok (.if_icmp .ne 7, 3) := by decide +kernel
theorem dD_allowsType_72 : decode bD_allowsType 72 = .ok (.iconst 1, 1) := by decide +kernel
theorem dD_allowsType_73 : decode bD_allowsType 73 = .ok (.goto 4, 3) := by decide +kernel
theorem dD_allowsType_76 : decode bD_allowsType 76 = .ok (.iconst 0, 1) := by decide +kernel
theorem dD_allowsType_77 : decode bD_allowsType 77 = .ok (.ireturn, 1) := by decide +kernel
theorem dD_allowsType_78 : decode bD_allowsType 78 = .ok (.iload_n 2, 1) := by decide +kernel
theorem dD_allowsType_79 : decode bD_allowsType 79 = .ok (.bipush 10, 2) := by decide +kernel
theorem dD_allowsType_81 : decode bD_allowsType 81 = .ok (.if_icmp .eq 8, 3) := by decide +kernel
theorem dD_allowsType_84 : decode bD_allowsType 84 = .ok (.iload_n 2, 1) := by decide +kernel
theorem dD_allowsType_85 : decode bD_allowsType 85 = .ok (.iconst 3, 1) := by decide +kernel
theorem dD_allowsType_86 : decode bD_allowsType 86 = .ok (.if_icmp .ne 7, 3) := by decide +kernel
theorem dD_allowsType_89 : decode bD_allowsType 89 = .ok (.iconst 1, 1) := by decide +kernel
theorem dD_allowsType_90 : decode bD_allowsType 90 = .ok (.goto 4, 3) := by decide +kernel
theorem dD_allowsType_93 : decode bD_allowsType 93 = .ok (.iconst 0, 1) := by decide +kernel
theorem dD_allowsType_94 : decode bD_allowsType 94 = .ok (.ireturn, 1) := by decide +kernel
theorem dD_allowsType_95 : decode bD_allowsType 95 = .ok (.iconst 0, 1) := by decide +kernel
theorem dD_allowsType_96 : decode bD_allowsType 96 = .ok (.ireturn, 1) := by decide +kernel
theorem dD_init_0 : decode bD_init 0 = .ok (.aload_n 0, 1) := by decide +kernel
theorem dD_init_1 : decode bD_init 1 = .ok (.invokespecial 3, 3) := by decide +kernel
theorem dD_init_4 : decode bD_init 4 = .ok (.aload_n 0, 1) := by decide +kernel
theorem dD_init_5 : decode bD_init 5 = .ok (.bipush 6, 2) := by decide +kernel
theorem dD_init_7 : decode bD_init 7 = .ok (.newarray .int, 2) := by decide +kernel
theorem dD_init_9 : decode bD_init 9 = .ok (.putfield 9, 3) := by decide +kernel
theorem dD_init_12 : decode bD_init 12 = .ok (.aload_n 0, 1) := by decide +kernel
theorem dD_init_13 : decode bD_init 13 = .ok (.bipush 8, 2) := by decide +kernel
theorem dD_init_15 : decode bD_init 15 = .ok (.newarray .int, 2) := by decide +kernel
theorem dD_init_17 : decode bD_init 17 = .ok (.putfield 15, 3) := by decide +kernel
theorem dD_init_20 : decode bD_init 20 = .ok (.aload_n 0, 1) := by decide +kernel
theorem dD_init_21 : decode bD_init 21 = .ok (.bipush 8, 2) := by decide +kernel
theorem dD_init_23 : decode bD_init 23 = .ok (.newarray .int, 2) := by decide +kernel
theorem dD_init_25 : decode bD_init 25 = .ok (.putfield 18, 3) := by decide +kernel
theorem dD_init_28 : decode bD_init 28 = .ok (.aload_n 0, 1) := by decide +kernel
theorem dD_init_29 : decode bD_init 29 = .ok (.bipush 8, 2) := by decide +kernel
theorem dD_init_31 : decode bD_init 31 = .ok (.newarray .int, 2) := by decide +kernel
theorem dD_init_33 : decode bD_init 33 = .ok (.putfield 21, 3) := by decide +kernel
theorem dD_init_36 : decode bD_init 36 = .ok (.aload_n 0, 1) := by decide +kernel
theorem dD_init_37 : decode bD_init 37 = .ok (.bipush 8, 2) := by decide +kernel
theorem dD_init_39 : decode bD_init 39 = .ok (.newarray .int, 2) := by decide +kernel
theorem dD_init_41 : decode bD_init 41 = .ok (.putfield 24, 3) := by decide +kernel
theorem dD_init_44 : decode bD_init 44 = .ok (.aload_n 0, 1) := by decide +kernel
theorem dD_init_45 : decode bD_init 45 = .ok (.iconst 0, 1) := by decide +kernel
theorem dD_init_46 : decode bD_init 46 = .ok (.putfield 27, 3) := by decide +kernel
theorem dD_init_49 : decode bD_init 49 = .ok (.aload_n 0, 1) := by decide +kernel
theorem dD_init_50 : decode bD_init 50 = .ok (.iconst 0, 1) := by decide +kernel
theorem dD_init_51 : decode bD_init 51 = .ok (.putfield 31, 3) := by decide +kernel
theorem dD_init_54 : decode bD_init 54 = .ok (.return_, 1) := by decide +kernel
theorem dD_hasClass_0 : decode bD_hasClass 0 = .ok (.iload_n 1, 1) := by decide +kernel
theorem dD_hasClass_1 : decode bD_hasClass 1 = .ok (.ifCond .lt 15, 3) := by decide +kernel
theorem dD_hasClass_4 : decode bD_hasClass 4 = .ok (.iload_n 1, 1) := by decide +kernel
theorem dD_hasClass_5 : decode bD_hasClass 5 = .ok (.aload_n 0, 1) := by decide +kernel
theorem dD_hasClass_6 : decode bD_hasClass 6 = .ok (.getfield 27, 3) := by decide +kernel
theorem dD_hasClass_9 : decode bD_hasClass 9 = .ok (.if_icmp .ge 7, 3) := by decide +kernel
theorem dD_hasClass_12 : decode bD_hasClass 12 = .ok (.iconst 1, 1) := by decide +kernel
theorem dD_hasClass_13 : decode bD_hasClass 13 = .ok (.goto 4, 3) := by decide +kernel
theorem dD_hasClass_16 : decode bD_hasClass 16 = .ok (.iconst 0, 1) := by decide +kernel
theorem dD_hasClass_17 : decode bD_hasClass 17 = .ok (.ireturn, 1) := by decide +kernel
theorem dD_hasProperty_0 : decode bD_hasProperty 0 = .ok (.iload_n 1, 1) := by decide +kernel
theorem dD_hasProperty_1 : decode bD_hasProperty 1 = .ok (.ifCond .lt 15, 3) := by decide +kernel
theorem dD_hasProperty_4 : decode bD_hasProperty 4 = .ok (.iload_n 1, 1) := by decide +kernel
theorem dD_hasProperty_5 : decode bD_hasProperty 5 = .ok (.aload_n 0, 1) := by decide +kernel
theorem dD_hasProperty_6 : decode bD_hasProperty 6 = .ok (.getfield 31, 3) := by decide +kernel
theorem dD_hasProperty_9 : decode bD_hasProperty 9 = .ok (.if_icmp .ge 7, 3) := by decide +kernel
theorem dD_hasProperty_12 : decode bD_hasProperty 12 = .ok (.iconst 1, 1) := by decide +kernel
theorem dD_hasProperty_13 : decode bD_hasProperty 13 = .ok (.goto 4, 3) := by decide +kernel
theorem dD_hasProperty_16 : decode bD_hasProperty 16 = .ok (.iconst 0, 1) := by decide +kernel
theorem dD_hasProperty_17 : decode bD_hasProperty 17 = .ok (.ireturn, 1) := by decide +kernel
theorem dD_addClass_0 : decode bD_addClass 0 = .ok (.aload_n 0, 1) := by decide +kernel
theorem dD_addClass_1 : decode bD_addClass 1 = .ok (.getfield 27, 3) := by decide +kernel
theorem dD_addClass_4 : decode bD_addClass 4 = .ok (.bipush 6, 2) := by decide +kernel
theorem dD_addClass_6 : decode bD_addClass 6 = .ok (.if_icmp .ge 16, 3) := by decide +kernel
theorem dD_addClass_9 : decode bD_addClass 9 = .ok (.iload_n 1, 1) := by decide +kernel
theorem dD_addClass_10 : decode bD_addClass 10 = .ok (.iconst (-1), 1) := by decide +kernel
theorem dD_addClass_11 : decode bD_addClass 11 = .ok (.if_icmp .eq 13, 3) := by decide +kernel
theorem dD_addClass_14 : decode bD_addClass 14 = .ok (.aload_n 0, 1) := by decide +kernel
theorem dD_addClass_15 : decode bD_addClass 15 = .ok (.iload_n 1, 1) := by decide +kernel
theorem dD_addClass_16 : decode bD_addClass 16 = .ok (.invokevirtual 34, 3) := by decide +kernel
theorem dD_addClass_19 : decode bD_addClass 19 = .ok (.ifCond .ne 5, 3) := by decide +kernel
theorem dD_addClass_22 : decode bD_addClass 22 = .ok (.iconst (-1), 1) := by decide +kernel
theorem dD_addClass_23 : decode bD_addClass 23 = .ok (.ireturn, 1) := by decide +kernel
theorem dD_addClass_24 : decode bD_addClass 24 = .ok (.aload_n 0, 1) := by decide +kernel
theorem dD_addClass_25 : decode bD_addClass 25 = .ok (.getfield 9, 3) := by decide +kernel
theorem dD_addClass_28 : decode bD_addClass 28 = .ok (.aload_n 0, 1) := by decide +kernel
theorem dD_addClass_29 : decode bD_addClass 29 = .ok (.getfield 27, 3) := by decide +kernel
theorem dD_addClass_32 : decode bD_addClass 32 = .ok (.iload_n 1, 1) := by decide +kernel
theorem dD_addClass_33 : decode bD_addClass 33 = .ok (.iastore, 1) := by decide +kernel
theorem dD_addClass_34 : decode bD_addClass 34 = .ok (.aload_n 0, 1) := by decide +kernel
theorem dD_addClass_35 : decode bD_addClass 35 = .ok (.dup, 1) := by decide +kernel
theorem dD_addClass_36 : decode bD_addClass 36 = .ok (.getfield 27, 3) := by decide +kernel
theorem dD_addClass_39 : decode bD_addClass 39 = .ok (.iconst 1, 1) := by decide +kernel
theorem dD_addClass_40 : decode bD_addClass 40 = .ok (.iadd, 1) := by decide +kernel
theorem dD_addClass_41 : decode bD_addClass 41 = .ok (.putfield 27, 3) := by decide +kernel
theorem dD_addClass_44 : decode bD_addClass 44 = .ok (.aload_n 0, 1) := by decide +kernel
theorem dD_addClass_45 : decode bD_addClass 45 = .ok (.getfield 27, 3) := by decide +kernel
theorem dD_addClass_48 : decode bD_addClass 48 = .ok (.iconst 1, 1) := by decide +kernel
theorem dD_addClass_49 : decode bD_addClass 49 = .ok (.isub, 1) := by decide +kernel
theorem dD_addClass_50 : decode bD_addClass 50 = .ok (.ireturn, 1) := by decide +kernel
theorem dD_addProperty_0 : decode bD_addProperty 0 = .ok (.aload_n 0, 1) := by decide +kernel
theorem dD_addProperty_1 : decode bD_addProperty 1 = .ok (.getfield 31, 3) := by decide +kernel
theorem dD_addProperty_4 : decode bD_addProperty 4 = .ok (.bipush 8, 2) := by decide +kernel
theorem dD_addProperty_6 : decode bD_addProperty 6 = .ok (.if_icmp .ge 11, 3) := by decide +kernel
theorem dD_addProperty_9 : decode bD_addProperty 9 = .ok (.aload_n 0, 1) := by decide +kernel
theorem dD_addProperty_10 : decode bD_addProperty 10 = .ok (.iload_n 1, 1) := by decide +kernel
theorem dD_addProperty_11 : decode bD_addProperty 11 = .ok (.invokevirtual 34, 3) := by decide +kernel
theorem dD_addProperty_14 : decode bD_addProperty 14 = .ok (.ifCond .ne 5, 3) := by decide +kernel
theorem dD_addProperty_17 : decode bD_addProperty 17 = .ok (.iconst 0, 1) := by decide +kernel
theorem dD_addProperty_18 : decode bD_addProperty 18 = .ok (.ireturn, 1) := by decide +kernel
theorem dD_addProperty_19 : decode bD_addProperty 19 = .ok (.iload_n 2, 1) := by decide +kernel
theorem dD_addProperty_20 : decode bD_addProperty 20 = .ok (.ifCond .lt 18, 3) := by decide +kernel
theorem dD_addProperty_23 : decode bD_addProperty 23 = .ok (.iload_n 2, 1) := by decide +kernel
theorem dD_addProperty_24 : decode bD_addProperty 24 = .ok (.bipush 26, 2) := by decide +kernel
theorem dD_addProperty_26 : decode bD_addProperty 26 = .ok (.if_icmp .ge 12, 3) := by decide +kernel
theorem dD_addProperty_29 : decode bD_addProperty 29 = .ok (.iload_n 3, 1) := by decide +kernel
theorem dD_addProperty_30 : decode bD_addProperty 30 = .ok (.ifCond .lt 8, 3) := by decide +kernel
theorem dD_addProperty_33 : decode bD_addProperty 33 = .ok (.iload_n 3, 1) := by decide +kernel
theorem dD_addProperty_34 : decode bD_addProperty 34 = .ok (.iconst 3, 1) := by decide +kernel
theorem dD_addProperty_35 : decode bD_addProperty 35 = .ok (.if_icmp .le 5, 3) := by decide +kernel
theorem dD_addProperty_38 : decode bD_addProperty 38 = .ok (.iconst 0, 1) := by decide +kernel
theorem dD_addProperty_39 : decode bD_addProperty 39 = .ok (.ireturn, 1) := by decide +kernel
theorem dD_addProperty_40 : decode bD_addProperty 40 = .ok (.iload_n 3, 1) := by decide +kernel
theorem dD_addProperty_41 : decode bD_addProperty 41 = .ok (.iconst 3, 1) := by decide +kernel
theorem dD_addProperty_42 : decode bD_addProperty 42 = .ok (.if_icmp .ne 12, 3) := by decide +kernel
theorem dD_addProperty_45 : decode bD_addProperty 45 = .ok (.aload_n 0, 1) := by decide +kernel
theorem dD_addProperty_46 : decode bD_addProperty 46 = .ok (.iload 4, 2) := by decide +kernel
theorem dD_addProperty_48 : decode bD_addProperty 48 = .ok (.invokevirtual 34, 3) := by decide +kernel
theorem dD_addProperty_51 : decode bD_addProperty 51 = .ok (.ifCond .eq 12, 3) := by decide +kernel
theorem dD_addProperty_54 : decode bD_addProperty 54 = .ok (.aload_n 0, 1) := by decide +kernel
theorem dD_addProperty_55 : decode bD_addProperty 55 = .ok (.iload_n 1, 1) := by decide +kernel
theorem dD_addProperty_56 : decode bD_addProperty 56 = .ok (.iload_n 2, 1) := by decide +kernel
theorem dD_addProperty_57 : decode bD_addProperty 57 = .ok (.invokevirtual 38, 3) := by decide +kernel
theorem dD_addProperty_60 : decode bD_addProperty 60 = .ok (.ifCond .eq 5, 3) := by decide +kernel
theorem dD_addProperty_63 : decode bD_addProperty 63 = .ok (.iconst 0, 1) := by decide +kernel
theorem dD_addProperty_64 : decode bD_addProperty 64 = .ok (.ireturn, 1) := by decide +kernel
theorem dD_addProperty_65 : decode bD_addProperty 65 = .ok (.aload_n 0, 1) := by decide +kernel
theorem dD_addProperty_66 : decode bD_addProperty 66 = .ok (.getfield 15, 3) := by decide +kernel
theorem dD_addProperty_69 : decode bD_addProperty 69 = .ok (.aload_n 0, 1) := by decide +kernel
theorem dD_addProperty_70 : decode bD_addProperty 70 = .ok (.getfield 31, 3) := by decide +kernel
theorem dD_addProperty_73 : decode bD_addProperty 73 = .ok (.iload_n 1, 1) := by decide +kernel
theorem dD_addProperty_74 : decode bD_addProperty 74 = .ok (.iastore, 1) := by decide +kernel
theorem dD_addProperty_75 : decode bD_addProperty 75 = .ok (.aload_n 0, 1) := by decide +kernel
theorem dD_addProperty_76 : decode bD_addProperty 76 = .ok (.getfield 18, 3) := by decide +kernel
theorem dD_addProperty_79 : decode bD_addProperty 79 = .ok (.aload_n 0, 1) := by decide +kernel
theorem dD_addProperty_80 : decode bD_addProperty 80 = .ok (.getfield 31, 3) := by decide +kernel
theorem dD_addProperty_83 : decode bD_addProperty 83 = .ok (.iload_n 2, 1) := by decide +kernel
theorem dD_addProperty_84 : decode bD_addProperty 84 = .ok (.iastore, 1) := by decide +kernel
theorem dD_addProperty_85 : decode bD_addProperty 85 = .ok (.aload_n 0, 1) := by decide +kernel
theorem dD_addProperty_86 : decode bD_addProperty 86 = .ok (.getfield 21, 3) := by decide +kernel
theorem dD_addProperty_89 : decode bD_addProperty 89 = .ok (.aload_n 0, 1) := by decide +kernel
theorem dD_addProperty_90 : decode bD_addProperty 90 = .ok (.getfield 31, 3) := by decide +kernel
theorem dD_addProperty_93 : decode bD_addProperty 93 = .ok (.iload_n 3, 1) := by decide +kernel
theorem dD_addProperty_94 : decode bD_addProperty 94 = .ok (.iastore, 1) := by decide +kernel
theorem dD_addProperty_95 : decode bD_addProperty 95 = .ok (.aload_n 0, 1) := by decide +kernel
theorem dD_addProperty_96 : decode bD_addProperty 96 = .ok (.getfield 24, 3) := by decide +kernel
theorem dD_addProperty_99 : decode bD_addProperty 99 = .ok (.aload_n 0, 1) := by decide +kernel
theorem dD_addProperty_100 : decode bD_addProperty 100 = .ok (.getfield 31, 3) := by decide +kernel
theorem dD_addProperty_103 : decode bD_addProperty 103 = .ok (.iload 4, 2) := by decide +kernel
theorem dD_addProperty_105 : decode bD_addProperty 105 = .ok (.iastore, 1) := by decide +kernel
theorem dD_addProperty_106 : decode bD_addProperty 106 = .ok (.aload_n 0, 1) := by decide +kernel
theorem dD_addProperty_107 : decode bD_addProperty 107 = .ok (.dup, 1) := by decide +kernel
theorem dD_addProperty_108 : decode bD_addProperty 108 = .ok (.getfield 31, 3) := by decide +kernel
theorem dD_addProperty_111 : decode bD_addProperty 111 = .ok (.iconst 1, 1) := by decide +kernel
theorem dD_addProperty_112 : decode bD_addProperty 112 = .ok (.iadd, 1) := by decide +kernel
theorem dD_addProperty_113 : decode bD_addProperty 113 = .ok (.putfield 31, 3) := by decide +kernel
theorem dD_addProperty_116 : decode bD_addProperty 116 = .ok (.iconst 1, 1) := by decide +kernel
theorem dD_addProperty_117 : decode bD_addProperty 117 = .ok (.ireturn, 1) := by decide +kernel
theorem dD_isTaken_0 : decode bD_isTaken 0 = .ok (.iconst 0, 1) := by decide +kernel
theorem dD_isTaken_1 : decode bD_isTaken 1 = .ok (.istore_n 3, 1) := by decide +kernel
theorem dD_isTaken_2 : decode bD_isTaken 2 = .ok (.iload_n 3, 1) := by decide +kernel
theorem dD_isTaken_3 : decode bD_isTaken 3 = .ok (.aload_n 0, 1) := by decide +kernel
theorem dD_isTaken_4 : decode bD_isTaken 4 = .ok (.getfield 31, 3) := by decide +kernel
theorem dD_isTaken_7 : decode bD_isTaken 7 = .ok (.if_icmp .ge 49, 3) := by decide +kernel
theorem dD_isTaken_10 : decode bD_isTaken 10 = .ok (.aload_n 0, 1) := by decide +kernel
theorem dD_isTaken_11 : decode bD_isTaken 11 = .ok (.getfield 18, 3) := by decide +kernel
theorem dD_isTaken_14 : decode bD_isTaken 14 = .ok (.iload_n 3, 1) := by decide +kernel
theorem dD_isTaken_15 : decode bD_isTaken 15 = .ok (.iaload, 1) := by decide +kernel
theorem dD_isTaken_16 : decode bD_isTaken 16 = .ok (.iload_n 2, 1) := by decide +kernel
theorem dD_isTaken_17 : decode bD_isTaken 17 = .ok (.if_icmp .ne 33, 3) := by decide +kernel
theorem dD_isTaken_20 : decode bD_isTaken 20 = .ok (.aload_n 0, 1) := by decide +kernel
theorem dD_isTaken_21 : decode bD_isTaken 21 = .ok (.iload_n 1, 1) := by decide +kernel
theorem dD_isTaken_22 : decode bD_isTaken 22 = .ok (.aload_n 0, 1) := by decide +kernel
theorem dD_isTaken_23 : decode bD_isTaken 23 = .ok (.getfield 15, 3) := by decide +kernel
theorem dD_isTaken_26 : decode bD_isTaken 26 = .ok (.iload_n 3, 1) := by decide +kernel
theorem dD_isTaken_27 : decode bD_isTaken 27 = .ok (.iaload, 1) := by decide +kernel
theorem dD_isTaken_28 : decode bD_isTaken 28 = .ok (.invokevirtual 42, 3) := by decide +kernel
theorem dD_isTaken_31 : decode bD_isTaken 31 = .ok (.ifCond .ne 17, 3) := by decide +kernel
theorem dD_isTaken_34 : decode bD_isTaken 34 = .ok (.aload_n 0, 1) := by decide +kernel
theorem dD_isTaken_35 : decode bD_isTaken 35 = .ok (.aload_n 0, 1) := by decide +kernel
theorem dD_isTaken_36 : decode bD_isTaken 36 = .ok (.getfield 15, 3) := by decide +kernel
theorem dD_isTaken_39 : decode bD_isTaken 39 = .ok (.iload_n 3, 1) := by decide +kernel
theorem dD_isTaken_40 : decode bD_isTaken 40 = .ok (.iaload, 1) := by decide +kernel
theorem dD_isTaken_41 : decode bD_isTaken 41 = .ok (.iload_n 1, 1) := by decide +kernel
theorem dD_isTaken_42 : decode bD_isTaken 42 = .ok (.invokevirtual 42, 3) := by decide +kernel
theorem dD_isTaken_45 : decode bD_isTaken 45 = .ok (.ifCond .eq 5, 3) := by decide +kernel
theorem dD_isTaken_48 : decode bD_isTaken 48 = .ok (.iconst 1, 1) := by decide +kernel
theorem dD_isTaken_49 : decode bD_isTaken 49 = .ok (.ireturn, 1) := by decide +kernel
theorem dD_isTaken_50 : decode bD_isTaken 50 = .ok (.iinc 3 1, 3) := by decide +kernel
theorem dD_isTaken_53 : decode bD_isTaken 53 = .ok (.goto (-51), 3) := by decide +kernel
theorem dD_isTaken_56 : decode bD_isTaken 56 = .ok (.iconst 0, 1) := by decide +kernel
theorem dD_isTaken_57 : decode bD_isTaken 57 = .ok (.ireturn, 1) := by decide +kernel
theorem dD_isKindOf_0 : decode bD_isKindOf 0 = .ok (.iload_n 1, 1) := by decide +kernel
theorem dD_isKindOf_1 : decode bD_isKindOf 1 = .ok (.istore_n 3, 1) := by decide +kernel
theorem dD_isKindOf_2 : decode bD_isKindOf 2 = .ok (.iconst 0, 1) := by decide +kernel
theorem dD_isKindOf_3 : decode bD_isKindOf 3 = .ok (.istore 4, 2) := by decide +kernel
theorem dD_isKindOf_5 : decode bD_isKindOf 5 = .ok (.iload 4, 2) := by decide +kernel
theorem dD_isKindOf_7 : decode bD_isKindOf 7 = .ok (.bipush 6, 2) := by decide +kernel
theorem dD_isKindOf_9 : decode bD_isKindOf 9 = .ok (.if_icmp .ge 31, 3) := by decide +kernel
theorem dD_isKindOf_12 : decode bD_isKindOf 12 = .ok (.aload_n 0, 1) := by decide +kernel
theorem dD_isKindOf_13 : decode bD_isKindOf 13 = .ok (.iload_n 3, 1) := by decide +kernel
theorem dD_isKindOf_14 : decode bD_isKindOf 14 = .ok (.invokevirtual 34, 3) := by decide +kernel
theorem dD_isKindOf_17 : decode bD_isKindOf 17 = .ok (.ifCond .eq 23, 3) := by decide +kernel
theorem dD_isKindOf_20 : decode bD_isKindOf 20 = .ok (.iload_n 3, 1) := by decide +kernel
theorem dD_isKindOf_21 : decode bD_isKindOf 21 = .ok (.iload_n 2, 1) := by decide +kernel
theorem dD_isKindOf_22 : decode bD_isKindOf 22 = .ok (.if_icmp .ne 5, 3) := by decide +kernel
theorem dD_isKindOf_25 : decode bD_isKindOf 25 = .ok (.iconst 1, 1) := by decide +kernel
theorem dD_isKindOf_26 : decode bD_isKindOf 26 = .ok (.ireturn, 1) := by decide +kernel
theorem dD_isKindOf_27 : decode bD_isKindOf 27 = .ok (.aload_n 0, 1) := by decide +kernel
theorem dD_isKindOf_28 : decode bD_isKindOf 28 = .ok (.getfield 9, 3) := by decide +kernel
theorem dD_isKindOf_31 : decode bD_isKindOf 31 = .ok (.iload_n 3, 1) := by decide +kernel
theorem dD_isKindOf_32 : decode bD_isKindOf 32 = .ok (.iaload, 1) := by decide +kernel
theorem dD_isKindOf_33 : decode bD_isKindOf 33 = .ok (.istore_n 3, 1) := by decide +kernel
theorem dD_isKindOf_34 : decode bD_isKindOf 34 = .ok (.iinc 4 1, 3) := by decide +kernel
theorem dD_isKindOf_37 : decode bD_isKindOf 37 = .ok (.goto (-32), 3) := by decide +kernel
theorem dD_isKindOf_40 : decode bD_isKindOf 40 = .ok (.iconst 0, 1) := by decide +kernel
theorem dD_isKindOf_41 : decode bD_isKindOf 41 = .ok (.ireturn, 1) := by decide +kernel
theorem dD_propertyOf_0 : decode bD_propertyOf 0 = .ok (.iconst 0, 1) := by decide +kernel
theorem dD_propertyOf_1 : decode bD_propertyOf 1 = .ok (.istore_n 3, 1) := by decide +kernel
theorem dD_propertyOf_2 : decode bD_propertyOf 2 = .ok (.iload_n 3, 1) := by decide +kernel
theorem dD_propertyOf_3 : decode bD_propertyOf 3 = .ok (.aload_n 0, 1) := by decide +kernel
theorem dD_propertyOf_4 : decode bD_propertyOf 4 = .ok (.getfield 31, 3) := by decide +kernel
theorem dD_propertyOf_7 : decode bD_propertyOf 7 = .ok (.if_icmp .ge 35, 3) := by decide +kernel
theorem dD_propertyOf_10 : decode bD_propertyOf 10 = .ok (.aload_n 0, 1) := by decide +kernel
theorem dD_propertyOf_11 : decode bD_propertyOf 11 = .ok (.getfield 18, 3) := by decide +kernel
theorem dD_propertyOf_14 : decode bD_propertyOf 14 = .ok (.iload_n 3, 1) := by decide +kernel
theorem dD_propertyOf_15 : decode bD_propertyOf 15 = .ok (.iaload, 1) := by decide +kernel
theorem dD_propertyOf_16 : decode bD_propertyOf 16 = .ok (.iload_n 2, 1) := by decide +kernel
theorem dD_propertyOf_17 : decode bD_propertyOf 17 = .ok (.if_icmp .ne 19, 3) := by decide +kernel
theorem dD_propertyOf_20 : decode bD_propertyOf 20 = .ok (.aload_n 0, 1) := by decide +kernel
theorem dD_propertyOf_21 : decode bD_propertyOf 21 = .ok (.iload_n 1, 1) := by decide +kernel
theorem dD_propertyOf_22 : decode bD_propertyOf 22 = .ok (.aload_n 0, 1) := by decide +kernel
theorem dD_propertyOf_23 : decode bD_propertyOf 23 = .ok (.getfield 15, 3) := by decide +kernel
theorem dD_propertyOf_26 : decode bD_propertyOf 26 = .ok (.iload_n 3, 1) := by decide +kernel
theorem dD_propertyOf_27 : decode bD_propertyOf 27 = .ok (.iaload, 1) := by decide +kernel
theorem dD_propertyOf_28 : decode bD_propertyOf 28 = .ok (.invokevirtual 42, 3) := by decide +kernel
theorem dD_propertyOf_31 : decode bD_propertyOf 31 = .ok (.ifCond .eq 5, 3) := by decide +kernel
theorem dD_propertyOf_34 : decode bD_propertyOf 34 = .ok (.iload_n 3, 1) := by decide +kernel
theorem dD_propertyOf_35 : decode bD_propertyOf 35 = .ok (.ireturn, 1) := by decide +kernel
theorem dD_propertyOf_36 : decode bD_propertyOf 36 = .ok (.iinc 3 1, 3) := by decide +kernel
theorem dD_propertyOf_39 : decode bD_propertyOf 39 = .ok (.goto (-37), 3) := by decide +kernel
theorem dD_propertyOf_42 : decode bD_propertyOf 42 = .ok (.iconst (-1), 1) := by decide +kernel
theorem dD_propertyOf_43 : decode bD_propertyOf 43 = .ok (.ireturn, 1) := by decide +kernel
theorem dD_isOwn_0 : decode bD_isOwn 0 = .ok (.aload_n 0, 1) := by decide +kernel
theorem dD_isOwn_1 : decode bD_isOwn 1 = .ok (.iload_n 1, 1) := by decide +kernel
theorem dD_isOwn_2 : decode bD_isOwn 2 = .ok (.invokevirtual 45, 3) := by decide +kernel
theorem dD_isOwn_5 : decode bD_isOwn 5 = .ok (.ifCond .eq 17, 3) := by decide +kernel
theorem dD_isOwn_8 : decode bD_isOwn 8 = .ok (.aload_n 0, 1) := by decide +kernel
theorem dD_isOwn_9 : decode bD_isOwn 9 = .ok (.getfield 15, 3) := by decide +kernel
theorem dD_isOwn_12 : decode bD_isOwn 12 = .ok (.iload_n 1, 1) := by decide +kernel
theorem dD_isOwn_13 : decode bD_isOwn 13 = .ok (.iaload, 1) := by decide +kernel
theorem dD_isOwn_14 : decode bD_isOwn 14 = .ok (.iload_n 2, 1) := by decide +kernel
theorem dD_isOwn_15 : decode bD_isOwn 15 = .ok (.if_icmp .ne 7, 3) := by decide +kernel
theorem dD_isOwn_18 : decode bD_isOwn 18 = .ok (.iconst 1, 1) := by decide +kernel
theorem dD_isOwn_19 : decode bD_isOwn 19 = .ok (.goto 4, 3) := by decide +kernel
theorem dD_isOwn_22 : decode bD_isOwn 22 = .ok (.iconst 0, 1) := by decide +kernel
theorem dD_isOwn_23 : decode bD_isOwn 23 = .ok (.ireturn, 1) := by decide +kernel
