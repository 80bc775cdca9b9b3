/-! decode rows of class PropertyDocumentsModel: laid by wip/gen/names.py -/
theorem dM_clear_0 : decode bM_clear 0 = .ok (.iconst 0, 1) := by decide +kernel
theorem dM_clear_1 : decode bM_clear 1 = .ok (.istore_n 2, 1) := by decide +kernel
theorem dM_clear_2 : decode bM_clear 2 = .ok (.iload_n 2, 1) := by decide +kernel
theorem dM_clear_3 : decode bM_clear 3 = .ok (.bipush 8, 2) := by decide +kernel
theorem dM_clear_5 : decode bM_clear 5 = .ok (.if_icmp .ge 45, 3) := by decide +kernel
theorem dM_clear_8 : decode bM_clear 8 = .ok (.aload_n 0, 1) := by decide +kernel
theorem dM_clear_9 : decode bM_clear 9 = .ok (.getfield 28, 3) := by decide +kernel
theorem dM_clear_12 : decode bM_clear 12 = .ok (.bipush 8, 2) := by decide +kernel
theorem dM_clear_14 : decode bM_clear 14 = .ok (.iload_n 1, 1) := by decide +kernel
theorem dM_clear_15 : decode bM_clear 15 = .ok (.imul, 1) := by decide +kernel
theorem dM_clear_16 : decode bM_clear 16 = .ok (.iload_n 2, 1) := by decide +kernel
theorem dM_clear_17 : decode bM_clear 17 = .ok (.iadd, 1) := by decide +kernel
theorem dM_clear_18 : decode bM_clear 18 = .ok (.iload_n 2, 1) := by decide +kernel
theorem dM_clear_19 : decode bM_clear 19 = .ok (.aload_n 0, 1) := by decide +kernel
theorem dM_clear_20 : decode bM_clear 20 = .ok (.getfield 88, 3) := by decide +kernel
theorem dM_clear_23 : decode bM_clear 23 = .ok (.if_icmp .ge 19, 3) := by decide +kernel
theorem dM_clear_26 : decode bM_clear 26 = .ok (.aload_n 0, 1) := by decide +kernel
theorem dM_clear_27 : decode bM_clear 27 = .ok (.getfield 19, 3) := by decide +kernel
theorem dM_clear_30 : decode bM_clear 30 = .ok (.iload_n 2, 1) := by decide +kernel
theorem dM_clear_31 : decode bM_clear 31 = .ok (.iaload, 1) := by decide +kernel
theorem dM_clear_32 : decode bM_clear 32 = .ok (.iconst 3, 1) := by decide +kernel
theorem dM_clear_33 : decode bM_clear 33 = .ok (.if_icmp .ne 9, 3) := by decide +kernel
theorem dM_clear_36 : decode bM_clear 36 = .ok (.ldc2_w 105, 3) := by decide +kernel
theorem dM_clear_39 : decode bM_clear 39 = .ok (.goto 4, 3) := by decide +kernel
theorem dM_clear_42 : decode bM_clear 42 = .ok (.lconst 0, 1) := by decide +kernel
theorem dM_clear_43 : decode bM_clear 43 = .ok (.lastore, 1) := by decide +kernel
theorem dM_clear_44 : decode bM_clear 44 = .ok (.iinc 2 1, 3) := by decide +kernel
theorem dM_clear_47 : decode bM_clear 47 = .ok (.goto (-45), 3) := by decide +kernel
theorem dM_clear_50 : decode bM_clear 50 = .ok (.return_, 1) := by decide +kernel
theorem dM_make_0 : decode bM_make 0 = .ok (.aload_n 0, 1) := by decide +kernel
theorem dM_make_1 : decode bM_make 1 = .ok (.iload_n 1, 1) := by decide +kernel
theorem dM_make_2 : decode bM_make 2 = .ok (.invokevirtual 94, 3) := by decide +kernel
theorem dM_make_5 : decode bM_make 5 = .ok (.ifCond .eq 12, 3) := by decide +kernel
theorem dM_make_8 : decode bM_make 8 = .ok (.aload_n 0, 1) := by decide +kernel
theorem dM_make_9 : decode bM_make 9 = .ok (.getfield 98, 3) := by decide +kernel
theorem dM_make_12 : decode bM_make 12 = .ok (.bipush 12, 2) := by decide +kernel
theorem dM_make_14 : decode bM_make 14 = .ok (.if_icmp .lt 5, 3) := by decide +kernel
theorem dM_make_17 : decode bM_make 17 = .ok (.iconst (-1), 1) := by decide +kernel
theorem dM_make_18 : decode bM_make 18 = .ok (.ireturn, 1) := by decide +kernel
theorem dM_make_19 : decode bM_make 19 = .ok (.aload_n 0, 1) := by decide +kernel
theorem dM_make_20 : decode bM_make 20 = .ok (.getfield 25, 3) := by decide +kernel
theorem dM_make_23 : decode bM_make 23 = .ok (.aload_n 0, 1) := by decide +kernel
theorem dM_make_24 : decode bM_make 24 = .ok (.getfield 98, 3) := by decide +kernel
theorem dM_make_27 : decode bM_make 27 = .ok (.iload_n 1, 1) := by decide +kernel
theorem dM_make_28 : decode bM_make 28 = .ok (.iastore, 1) := by decide +kernel
theorem dM_make_29 : decode bM_make 29 = .ok (.aload_n 0, 1) := by decide +kernel
theorem dM_make_30 : decode bM_make 30 = .ok (.aload_n 0, 1) := by decide +kernel
theorem dM_make_31 : decode bM_make 31 = .ok (.getfield 98, 3) := by decide +kernel
theorem dM_make_34 : decode bM_make 34 = .ok (.invokevirtual 107, 3) := by decide +kernel
theorem dM_make_37 : decode bM_make 37 = .ok (.aload_n 0, 1) := by decide +kernel
theorem dM_make_38 : decode bM_make 38 = .ok (.dup, 1) := by decide +kernel
theorem dM_make_39 : decode bM_make 39 = .ok (.getfield 98, 3) := by decide +kernel
theorem dM_make_42 : decode bM_make 42 = .ok (.iconst 1, 1) := by decide +kernel
theorem dM_make_43 : decode bM_make 43 = .ok (.iadd, 1) := by decide +kernel
theorem dM_make_44 : decode bM_make 44 = .ok (.putfield 98, 3) := by decide +kernel
theorem dM_make_47 : decode bM_make 47 = .ok (.aload_n 0, 1) := by decide +kernel
theorem dM_make_48 : decode bM_make 48 = .ok (.getfield 98, 3) := by decide +kernel
theorem dM_make_51 : decode bM_make 51 = .ok (.iconst 1, 1) := by decide +kernel
theorem dM_make_52 : decode bM_make 52 = .ok (.isub, 1) := by decide +kernel
theorem dM_make_53 : decode bM_make 53 = .ok (.ireturn, 1) := by decide +kernel
theorem dM_slot_0 : decode bM_slot 0 = .ok (.aload_n 0, 1) := by decide +kernel
theorem dM_slot_1 : decode bM_slot 1 = .ok (.iload_n 1, 1) := by decide +kernel
theorem dM_slot_2 : decode bM_slot 2 = .ok (.invokevirtual 111, 3) := by decide +kernel
theorem dM_slot_5 : decode bM_slot 5 = .ok (.ifCond .eq 17, 3) := by decide +kernel
theorem dM_slot_8 : decode bM_slot 8 = .ok (.aload_n 0, 1) := by decide +kernel
theorem dM_slot_9 : decode bM_slot 9 = .ok (.aload_n 0, 1) := by decide +kernel
theorem dM_slot_10 : decode bM_slot 10 = .ok (.getfield 25, 3) := by decide +kernel
theorem dM_slot_13 : decode bM_slot 13 = .ok (.iload_n 1, 1) := by decide +kernel
theorem dM_slot_14 : decode bM_slot 14 = .ok (.iaload, 1) := by decide +kernel
theorem dM_slot_15 : decode bM_slot 15 = .ok (.iload_n 2, 1) := by decide +kernel
theorem dM_slot_16 : decode bM_slot 16 = .ok (.invokevirtual 101, 3) := by decide +kernel
theorem dM_slot_19 : decode bM_slot 19 = .ok (.goto 4, 3) := by decide +kernel
theorem dM_slot_22 : decode bM_slot 22 = .ok (.iconst (-1), 1) := by decide +kernel
theorem dM_slot_23 : decode bM_slot 23 = .ok (.ireturn, 1) := by decide +kernel
theorem dM_put_0 : decode bM_put 0 = .ok (.aload_n 0, 1) := by decide +kernel
theorem dM_put_1 : decode bM_put 1 = .ok (.iload_n 1, 1) := by decide +kernel
theorem dM_put_2 : decode bM_put 2 = .ok (.iload_n 2, 1) := by decide +kernel
theorem dM_put_3 : decode bM_put 3 = .ok (.invokevirtual 114, 3) := by decide +kernel
theorem dM_put_6 : decode bM_put 6 = .ok (.istore 5, 2) := by decide +kernel
theorem dM_put_8 : decode bM_put 8 = .ok (.iload 5, 2) := by decide +kernel
theorem dM_put_10 : decode bM_put 10 = .ok (.ifCond .lt 14, 3) := by decide +kernel
theorem dM_put_13 : decode bM_put 13 = .ok (.aload_n 0, 1) := by decide +kernel
theorem dM_put_14 : decode bM_put 14 = .ok (.getfield 19, 3) := by decide +kernel
theorem dM_put_17 : decode bM_put 17 = .ok (.iload 5, 2) := by decide +kernel
theorem dM_put_19 : decode bM_put 19 = .ok (.iaload, 1) := by decide +kernel
theorem dM_put_20 : decode bM_put 20 = .ok (.iconst 3, 1) := by decide +kernel
theorem dM_put_21 : decode bM_put 21 = .ok (.if_icmp .ne 5, 3) := by decide +kernel
theorem dM_put_24 : decode bM_put 24 = .ok (.iconst 0, 1) := by decide +kernel
theorem dM_put_25 : decode bM_put 25 = .ok (.ireturn, 1) := by decide +kernel
theorem dM_put_26 : decode bM_put 26 = .ok (.aload_n 0, 1) := by decide +kernel
theorem dM_put_27 : decode bM_put 27 = .ok (.getfield 19, 3) := by decide +kernel
theorem dM_put_30 : decode bM_put 30 = .ok (.iload 5, 2) := by decide +kernel
theorem dM_put_32 : decode bM_put 32 = .ok (.iaload, 1) := by decide +kernel
theorem dM_put_33 : decode bM_put 33 = .ok (.ifCond .ne 19, 3) := by decide +kernel
theorem dM_put_36 : decode bM_put 36 = .ok (.lload_n 3, 1) := by decide +kernel
theorem dM_put_37 : decode bM_put 37 = .ok (.ldc2_w 117, 3) := by decide +kernel
theorem dM_put_40 : decode bM_put 40 = .ok (.lcmp, 1) := by decide +kernel
theorem dM_put_41 : decode bM_put 41 = .ok (.ifCond .lt 34, 3) := by decide +kernel
theorem dM_put_44 : decode bM_put 44 = .ok (.lload_n 3, 1) := by decide +kernel
theorem dM_put_45 : decode bM_put 45 = .ok (.ldc2_w 119, 3) := by decide +kernel
theorem dM_put_48 : decode bM_put 48 = .ok (.lcmp, 1) := by decide +kernel
theorem dM_put_49 : decode bM_put 49 = .ok (.ifCond .gt 26, 3) := by decide +kernel
theorem dM_put_52 : decode bM_put 52 = .ok (.aload_n 0, 1) := by decide +kernel
theorem dM_put_53 : decode bM_put 53 = .ok (.getfield 19, 3) := by decide +kernel
theorem dM_put_56 : decode bM_put 56 = .ok (.iload 5, 2) := by decide +kernel
theorem dM_put_58 : decode bM_put 58 = .ok (.iaload, 1) := by decide +kernel
theorem dM_put_59 : decode bM_put 59 = .ok (.iconst 2, 1) := by decide +kernel
theorem dM_put_60 : decode bM_put 60 = .ok (.if_icmp .ne 17, 3) := by decide +kernel
theorem dM_put_63 : decode bM_put 63 = .ok (.lload_n 3, 1) := by decide +kernel
theorem dM_put_64 : decode bM_put 64 = .ok (.lconst 0, 1) := by decide +kernel
theorem dM_put_65 : decode bM_put 65 = .ok (.lcmp, 1) := by decide +kernel
theorem dM_put_66 : decode bM_put 66 = .ok (.ifCond .lt 9, 3) := by decide +kernel
theorem dM_put_69 : decode bM_put 69 = .ok (.lload_n 3, 1) := by decide +kernel
theorem dM_put_70 : decode bM_put 70 = .ok (.lconst 1, 1) := by decide +kernel
theorem dM_put_71 : decode bM_put 71 = .ok (.lcmp, 1) := by decide +kernel
theorem dM_put_72 : decode bM_put 72 = .ok (.ifCond .le 5, 3) := by decide +kernel
theorem dM_put_75 : decode bM_put 75 = .ok (.iconst 0, 1) := by decide +kernel
theorem dM_put_76 : decode bM_put 76 = .ok (.ireturn, 1) := by decide +kernel
theorem dM_put_77 : decode bM_put 77 = .ok (.aload_n 0, 1) := by decide +kernel
theorem dM_put_78 : decode bM_put 78 = .ok (.getfield 28, 3) := by decide +kernel
theorem dM_put_81 : decode bM_put 81 = .ok (.bipush 8, 2) := by decide +kernel
theorem dM_put_83 : decode bM_put 83 = .ok (.iload_n 1, 1) := by decide +kernel
theorem dM_put_84 : decode bM_put 84 = .ok (.imul, 1) := by decide +kernel
theorem dM_put_85 : decode bM_put 85 = .ok (.iload 5, 2) := by decide +kernel
theorem dM_put_87 : decode bM_put 87 = .ok (.iadd, 1) := by decide +kernel
theorem dM_put_88 : decode bM_put 88 = .ok (.lload_n 3, 1) := by decide +kernel
theorem dM_put_89 : decode bM_put 89 = .ok (.lastore, 1) := by decide +kernel
theorem dM_put_90 : decode bM_put 90 = .ok (.iconst 1, 1) := by decide +kernel
theorem dM_put_91 : decode bM_put 91 = .ok (.ireturn, 1) := by decide +kernel
theorem dM_link_0 : decode bM_link 0 = .ok (.aload_n 0, 1) := by decide +kernel
theorem dM_link_1 : decode bM_link 1 = .ok (.iload_n 1, 1) := by decide +kernel
theorem dM_link_2 : decode bM_link 2 = .ok (.iload_n 2, 1) := by decide +kernel
theorem dM_link_3 : decode bM_link 3 = .ok (.invokevirtual 114, 3) := by decide +kernel
theorem dM_link_6 : decode bM_link 6 = .ok (.istore 4, 2) := by decide +kernel
theorem dM_link_8 : decode bM_link 8 = .ok (.iload 4, 2) := by decide +kernel
theorem dM_link_10 : decode bM_link 10 = .ok (.ifCond .lt 14, 3) := by decide +kernel
theorem dM_link_13 : decode bM_link 13 = .ok (.aload_n 0, 1) := by decide +kernel
theorem dM_link_14 : decode bM_link 14 = .ok (.getfield 19, 3) := by decide +kernel
theorem dM_link_17 : decode bM_link 17 = .ok (.iload 4, 2) := by decide +kernel
theorem dM_link_19 : decode bM_link 19 = .ok (.iaload, 1) := by decide +kernel
theorem dM_link_20 : decode bM_link 20 = .ok (.iconst 3, 1) := by decide +kernel
theorem dM_link_21 : decode bM_link 21 = .ok (.if_icmp .eq 5, 3) := by decide +kernel
theorem dM_link_24 : decode bM_link 24 = .ok (.iconst 0, 1) := by decide +kernel
theorem dM_link_25 : decode bM_link 25 = .ok (.ireturn, 1) := by decide +kernel
theorem dM_link_26 : decode bM_link 26 = .ok (.iload_n 3, 1) := by decide +kernel
theorem dM_link_27 : decode bM_link 27 = .ok (.iconst (-1), 1) := by decide +kernel
theorem dM_link_28 : decode bM_link 28 = .ok (.if_icmp .eq 33, 3) := by decide +kernel
theorem dM_link_31 : decode bM_link 31 = .ok (.aload_n 0, 1) := by decide +kernel
theorem dM_link_32 : decode bM_link 32 = .ok (.iload_n 3, 1) := by decide +kernel
theorem dM_link_33 : decode bM_link 33 = .ok (.invokevirtual 111, 3) := by decide +kernel
theorem dM_link_36 : decode bM_link 36 = .ok (.ifCond .eq 23, 3) := by decide +kernel
theorem dM_link_39 : decode bM_link 39 = .ok (.aload_n 0, 1) := by decide +kernel
theorem dM_link_40 : decode bM_link 40 = .ok (.aload_n 0, 1) := by decide +kernel
theorem dM_link_41 : decode bM_link 41 = .ok (.getfield 25, 3) := by decide +kernel
theorem dM_link_44 : decode bM_link 44 = .ok (.iload_n 3, 1) := by decide +kernel
theorem dM_link_45 : decode bM_link 45 = .ok (.iaload, 1) := by decide +kernel
theorem dM_link_46 : decode bM_link 46 = .ok (.aload_n 0, 1) := by decide +kernel
theorem dM_link_47 : decode bM_link 47 = .ok (.getfield 22, 3) := by decide +kernel
theorem dM_link_50 : decode bM_link 50 = .ok (.iload 4, 2) := by decide +kernel
theorem dM_link_52 : decode bM_link 52 = .ok (.iaload, 1) := by decide +kernel
theorem dM_link_53 : decode bM_link 53 = .ok (.invokevirtual 84, 3) := by decide +kernel
theorem dM_link_56 : decode bM_link 56 = .ok (.ifCond .ne 5, 3) := by decide +kernel
theorem dM_link_59 : decode bM_link 59 = .ok (.iconst 0, 1) := by decide +kernel
theorem dM_link_60 : decode bM_link 60 = .ok (.ireturn, 1) := by decide +kernel
theorem dM_link_61 : decode bM_link 61 = .ok (.aload_n 0, 1) := by decide +kernel
theorem dM_link_62 : decode bM_link 62 = .ok (.getfield 28, 3) := by decide +kernel
theorem dM_link_65 : decode bM_link 65 = .ok (.bipush 8, 2) := by decide +kernel
theorem dM_link_67 : decode bM_link 67 = .ok (.iload_n 1, 1) := by decide +kernel
theorem dM_link_68 : decode bM_link 68 = .ok (.imul, 1) := by decide +kernel
theorem dM_link_69 : decode bM_link 69 = .ok (.iload 4, 2) := by decide +kernel
theorem dM_link_71 : decode bM_link 71 = .ok (.iadd, 1) := by decide +kernel
theorem dM_link_72 : decode bM_link 72 = .ok (.iload_n 3, 1) := by decide +kernel
theorem dM_link_73 : decode bM_link 73 = .ok (.i2l, 1) := by decide +kernel
theorem dM_link_74 : decode bM_link 74 = .ok (.lastore, 1) := by decide +kernel
theorem dM_link_75 : decode bM_link 75 = .ok (.iconst 1, 1) := by decide +kernel
theorem dM_link_76 : decode bM_link 76 = .ok (.ireturn, 1) := by decide +kernel
theorem dM_value_0 : decode bM_value 0 = .ok (.aload_n 0, 1) := by decide +kernel
theorem dM_value_1 : decode bM_value 1 = .ok (.iload_n 1, 1) := by decide +kernel
theorem dM_value_2 : decode bM_value 2 = .ok (.iload_n 2, 1) := by decide +kernel
theorem dM_value_3 : decode bM_value 3 = .ok (.invokevirtual 114, 3) := by decide +kernel
theorem dM_value_6 : decode bM_value 6 = .ok (.istore_n 3, 1) := by decide +kernel
theorem dM_value_7 : decode bM_value 7 = .ok (.iload_n 3, 1) := by decide +kernel
theorem dM_value_8 : decode bM_value 8 = .ok (.ifCond .lt 13, 3) := by decide +kernel
theorem dM_value_11 : decode bM_value 11 = .ok (.aload_n 0, 1) := by decide +kernel
theorem dM_value_12 : decode bM_value 12 = .ok (.getfield 19, 3) := by decide +kernel
theorem dM_value_15 : decode bM_value 15 = .ok (.iload_n 3, 1) := by decide +kernel
theorem dM_value_16 : decode bM_value 16 = .ok (.iaload, 1) := by decide +kernel
theorem dM_value_17 : decode bM_value 17 = .ok (.iconst 3, 1) := by decide +kernel
theorem dM_value_18 : decode bM_value 18 = .ok (.if_icmp .ne 7, 3) := by decide +kernel
theorem dM_value_21 : decode bM_value 21 = .ok (.lconst 0, 1) := by decide +kernel
theorem dM_value_22 : decode bM_value 22 = .ok (.goto 14, 3) := by decide +kernel
theorem dM_value_25 : decode bM_value 25 = .ok (.aload_n 0, 1) := by decide +kernel
theorem dM_value_26 : decode bM_value 26 = .ok (.getfield 28, 3) := by decide +kernel
theorem dM_value_29 : decode bM_value 29 = .ok (.bipush 8, 2) := by decide +kernel
theorem dM_value_31 : decode bM_value 31 = .ok (.iload_n 1, 1) := by decide +kernel
theorem dM_value_32 : decode bM_value 32 = .ok (.imul, 1) := by decide +kernel
theorem dM_value_33 : decode bM_value 33 = .ok (.iload_n 3, 1) := by decide +kernel
theorem dM_value_34 : decode bM_value 34 = .ok (.iadd, 1) := by decide +kernel
theorem dM_value_35 : decode bM_value 35 = .ok (.laload, 1) := by decide +kernel
theorem dM_value_36 : decode bM_value 36 = .ok (.lreturn, 1) := by decide +kernel
theorem dM_linked_0 : decode bM_linked 0 = .ok (.aload_n 0, 1) := by decide +kernel
theorem dM_linked_1 : decode bM_linked 1 = .ok (.iload_n 1, 1) := by decide +kernel
theorem dM_linked_2 : decode bM_linked 2 = .ok (.iload_n 2, 1) := by decide +kernel
theorem dM_linked_3 : decode bM_linked 3 = .ok (.invokevirtual 114, 3) := by decide +kernel
theorem dM_linked_6 : decode bM_linked 6 = .ok (.istore_n 3, 1) := by decide +kernel
theorem dM_linked_7 : decode bM_linked 7 = .ok (.iload_n 3, 1) := by decide +kernel
theorem dM_linked_8 : decode bM_linked 8 = .ok (.ifCond .lt 13, 3) := by decide +kernel
theorem dM_linked_11 : decode bM_linked 11 = .ok (.aload_n 0, 1) := by decide +kernel
theorem dM_linked_12 : decode bM_linked 12 = .ok (.getfield 19, 3) := by decide +kernel
theorem dM_linked_15 : decode bM_linked 15 = .ok (.iload_n 3, 1) := by decide +kernel
theorem dM_linked_16 : decode bM_linked 16 = .ok (.iaload, 1) := by decide +kernel
theorem dM_linked_17 : decode bM_linked 17 = .ok (.iconst 3, 1) := by decide +kernel
theorem dM_linked_18 : decode bM_linked 18 = .ok (.if_icmp .eq 7, 3) := by decide +kernel
theorem dM_linked_21 : decode bM_linked 21 = .ok (.iconst (-1), 1) := by decide +kernel
theorem dM_linked_22 : decode bM_linked 22 = .ok (.goto 15, 3) := by decide +kernel
theorem dM_linked_25 : decode bM_linked 25 = .ok (.aload_n 0, 1) := by decide +kernel
theorem dM_linked_26 : decode bM_linked 26 = .ok (.getfield 28, 3) := by decide +kernel
theorem dM_linked_29 : decode bM_linked 29 = .ok (.bipush 8, 2) := by decide +kernel
theorem dM_linked_31 : decode bM_linked 31 = .ok (.iload_n 1, 1) := by decide +kernel
theorem dM_linked_32 : decode bM_linked 32 = .ok (.imul, 1) := by decide +kernel
theorem dM_linked_33 : decode bM_linked 33 = .ok (.iload_n 3, 1) := by decide +kernel
theorem dM_linked_34 : decode bM_linked 34 = .ok (.iadd, 1) := by decide +kernel
theorem dM_linked_35 : decode bM_linked 35 = .ok (.laload, 1) := by decide +kernel
theorem dM_linked_36 : decode bM_linked 36 = .ok (.l2i, 1) := by decide +kernel
theorem dM_linked_37 : decode bM_linked 37 = .ok (.ireturn, 1) := by decide +kernel
theorem dM_classOf_0 : decode bM_classOf 0 = .ok (.aload_n 0, 1) := by decide +kernel
theorem dM_classOf_1 : decode bM_classOf 1 = .ok (.iload_n 1, 1) := by decide +kernel
theorem dM_classOf_2 : decode bM_classOf 2 = .ok (.invokevirtual 111, 3) := by decide +kernel
theorem dM_classOf_5 : decode bM_classOf 5 = .ok (.ifCond .eq 12, 3) := by decide +kernel
theorem dM_classOf_8 : decode bM_classOf 8 = .ok (.aload_n 0, 1) := by decide +kernel
theorem dM_classOf_9 : decode bM_classOf 9 = .ok (.getfield 25, 3) := by decide +kernel
theorem dM_classOf_12 : decode bM_classOf 12 = .ok (.iload_n 1, 1) := by decide +kernel
theorem dM_classOf_13 : decode bM_classOf 13 = .ok (.iaload, 1) := by decide +kernel
theorem dM_classOf_14 : decode bM_classOf 14 = .ok (.goto 4, 3) := by decide +kernel
theorem dM_classOf_17 : decode bM_classOf 17 = .ok (.iconst (-1), 1) := by decide +kernel
theorem dM_classOf_18 : decode bM_classOf 18 = .ok (.ireturn, 1) := by decide +kernel
theorem dM_objects_0 : decode bM_objects 0 = .ok (.aload_n 0, 1) := by decide +kernel
theorem dM_objects_1 : decode bM_objects 1 = .ok (.getfield 98, 3) := by decide +kernel
theorem dM_objects_4 : decode bM_objects 4 = .ok (.ireturn, 1) := by decide +kernel
theorem dM_drop_0 : decode bM_drop 0 = .ok (.aload_n 0, 1) := by decide +kernel
theorem dM_drop_1 : decode bM_drop 1 = .ok (.iconst 0, 1) := by decide +kernel
theorem dM_drop_2 : decode bM_drop 2 = .ok (.putfield 98, 3) := by decide +kernel
theorem dM_drop_5 : decode bM_drop 5 = .ok (.return_, 1) := by decide +kernel
theorem dM_init_0 : decode bM_init 0 = .ok (.aload_n 0, 1) := by decide +kernel
theorem dM_init_1 : decode bM_init 1 = .ok (.invokespecial 1, 3) := by decide +kernel
theorem dM_init_4 : decode bM_init 4 = .ok (.aload_n 0, 1) := by decide +kernel
theorem dM_init_5 : decode bM_init 5 = .ok (.bipush 6, 2) := by decide +kernel
theorem dM_init_7 : decode bM_init 7 = .ok (.newarray .int, 2) := by decide +kernel
theorem dM_init_9 : decode bM_init 9 = .ok (.putfield 7, 3) := by decide +kernel
theorem dM_init_12 : decode bM_init 12 = .ok (.aload_n 0, 1) := by decide +kernel
theorem dM_init_13 : decode bM_init 13 = .ok (.bipush 8, 2) := by decide +kernel
theorem dM_init_15 : decode bM_init 15 = .ok (.newarray .int, 2) := by decide +kernel
theorem dM_init_17 : decode bM_init 17 = .ok (.putfield 13, 3) := by decide +kernel
theorem dM_init_20 : decode bM_init 20 = .ok (.aload_n 0, 1) := by decide +kernel
theorem dM_init_21 : decode bM_init 21 = .ok (.bipush 8, 2) := by decide +kernel
theorem dM_init_23 : decode bM_init 23 = .ok (.newarray .int, 2) := by decide +kernel
theorem dM_init_25 : decode bM_init 25 = .ok (.putfield 16, 3) := by decide +kernel
theorem dM_init_28 : decode bM_init 28 = .ok (.aload_n 0, 1) := by decide +kernel
theorem dM_init_29 : decode bM_init 29 = .ok (.bipush 8, 2) := by decide +kernel
theorem dM_init_31 : decode bM_init 31 = .ok (.newarray .int, 2) := by decide +kernel
theorem dM_init_33 : decode bM_init 33 = .ok (.putfield 19, 3) := by decide +kernel
theorem dM_init_36 : decode bM_init 36 = .ok (.aload_n 0, 1) := by decide +kernel
theorem dM_init_37 : decode bM_init 37 = .ok (.bipush 8, 2) := by decide +kernel
theorem dM_init_39 : decode bM_init 39 = .ok (.newarray .int, 2) := by decide +kernel
theorem dM_init_41 : decode bM_init 41 = .ok (.putfield 22, 3) := by decide +kernel
theorem dM_init_44 : decode bM_init 44 = .ok (.aload_n 0, 1) := by decide +kernel
theorem dM_init_45 : decode bM_init 45 = .ok (.bipush 12, 2) := by decide +kernel
theorem dM_init_47 : decode bM_init 47 = .ok (.newarray .int, 2) := by decide +kernel
theorem dM_init_49 : decode bM_init 49 = .ok (.putfield 25, 3) := by decide +kernel
theorem dM_init_52 : decode bM_init 52 = .ok (.aload_n 0, 1) := by decide +kernel
theorem dM_init_53 : decode bM_init 53 = .ok (.bipush 96, 2) := by decide +kernel
theorem dM_init_55 : decode bM_init 55 = .ok (.newarray .long, 2) := by decide +kernel
theorem dM_init_57 : decode bM_init 57 = .ok (.putfield 28, 3) := by decide +kernel
theorem dM_init_60 : decode bM_init 60 = .ok (.aload_n 0, 1) := by decide +kernel
theorem dM_init_61 : decode bM_init 61 = .ok (.bipush 120, 2) := by decide +kernel
theorem dM_init_63 : decode bM_init 63 = .ok (.newarray .int, 2) := by decide +kernel
theorem dM_init_65 : decode bM_init 65 = .ok (.putfield 32, 3) := by decide +kernel
theorem dM_init_68 : decode bM_init 68 = .ok (.aload_n 0, 1) := by decide +kernel
theorem dM_init_69 : decode bM_init 69 = .ok (.bipush 120, 2) := by decide +kernel
theorem dM_init_71 : decode bM_init 71 = .ok (.newarray .int, 2) := by decide +kernel
theorem dM_init_73 : decode bM_init 73 = .ok (.putfield 35, 3) := by decide +kernel
theorem dM_init_76 : decode bM_init 76 = .ok (.aload_n 0, 1) := by decide +kernel
theorem dM_init_77 : decode bM_init 77 = .ok (.iconst 5, 1) := by decide +kernel
theorem dM_init_78 : decode bM_init 78 = .ok (.newarray .int, 2) := by decide +kernel
theorem dM_init_80 : decode bM_init 80 = .ok (.putfield 38, 3) := by decide +kernel
theorem dM_init_83 : decode bM_init 83 = .ok (.aload_n 0, 1) := by decide +kernel
theorem dM_init_84 : decode bM_init 84 = .ok (.iconst 5, 1) := by decide +kernel
theorem dM_init_85 : decode bM_init 85 = .ok (.newarray .int, 2) := by decide +kernel
theorem dM_init_87 : decode bM_init 87 = .ok (.putfield 41, 3) := by decide +kernel
theorem dM_init_90 : decode bM_init 90 = .ok (.aload_n 0, 1) := by decide +kernel
theorem dM_init_91 : decode bM_init 91 = .ok (.iconst 5, 1) := by decide +kernel
theorem dM_init_92 : decode bM_init 92 = .ok (.newarray .int, 2) := by decide +kernel
theorem dM_init_94 : decode bM_init 94 = .ok (.putfield 44, 3) := by decide +kernel
theorem dM_init_97 : decode bM_init 97 = .ok (.aload_n 0, 1) := by decide +kernel
theorem dM_init_98 : decode bM_init 98 = .ok (.bipush 25, 2) := by decide +kernel
theorem dM_init_100 : decode bM_init 100 = .ok (.newarray .int, 2) := by decide +kernel
theorem dM_init_102 : decode bM_init 102 = .ok (.putfield 47, 3) := by decide +kernel
theorem dM_init_105 : decode bM_init 105 = .ok (.aload_n 0, 1) := by decide +kernel
theorem dM_init_106 : decode bM_init 106 = .ok (.bipush 25, 2) := by decide +kernel
theorem dM_init_108 : decode bM_init 108 = .ok (.newarray .int, 2) := by decide +kernel
theorem dM_init_110 : decode bM_init 110 = .ok (.putfield 50, 3) := by decide +kernel
theorem dM_init_113 : decode bM_init 113 = .ok (.aload_n 0, 1) := by decide +kernel
theorem dM_init_114 : decode bM_init 114 = .ok (.bipush 25, 2) := by decide +kernel
theorem dM_init_116 : decode bM_init 116 = .ok (.newarray .int, 2) := by decide +kernel
theorem dM_init_118 : decode bM_init 118 = .ok (.putfield 53, 3) := by decide +kernel
theorem dM_init_121 : decode bM_init 121 = .ok (.aload_n 0, 1) := by decide +kernel
theorem dM_init_122 : decode bM_init 122 = .ok (.bipush 25, 2) := by decide +kernel
theorem dM_init_124 : decode bM_init 124 = .ok (.newarray .int, 2) := by decide +kernel
theorem dM_init_126 : decode bM_init 126 = .ok (.putfield 56, 3) := by decide +kernel
theorem dM_init_129 : decode bM_init 129 = .ok (.aload_n 0, 1) := by decide +kernel
theorem dM_init_130 : decode bM_init 130 = .ok (.bipush 60, 2) := by decide +kernel
theorem dM_init_132 : decode bM_init 132 = .ok (.newarray .int, 2) := by decide +kernel
theorem dM_init_134 : decode bM_init 134 = .ok (.putfield 59, 3) := by decide +kernel
theorem dM_init_137 : decode bM_init 137 = .ok (.aload_n 0, 1) := by decide +kernel
theorem dM_init_138 : decode bM_init 138 = .ok (.bipush 60, 2) := by decide +kernel
theorem dM_init_140 : decode bM_init 140 = .ok (.newarray .int, 2) := by decide +kernel
theorem dM_init_142 : decode bM_init 142 = .ok (.putfield 62, 3) := by decide +kernel
theorem dM_init_145 : decode bM_init 145 = .ok (.aload_n 0, 1) := by decide +kernel
theorem dM_init_146 : decode bM_init 146 = .ok (.bipush 60, 2) := by decide +kernel
theorem dM_init_148 : decode bM_init 148 = .ok (.newarray .int, 2) := by decide +kernel
theorem dM_init_150 : decode bM_init 150 = .ok (.putfield 65, 3) := by decide +kernel
theorem dM_init_153 : decode bM_init 153 = .ok (.aload_n 0, 1) := by decide +kernel
theorem dM_init_154 : decode bM_init 154 = .ok (.bipush 60, 2) := by decide +kernel
theorem dM_init_156 : decode bM_init 156 = .ok (.newarray .int, 2) := by decide +kernel
theorem dM_init_158 : decode bM_init 158 = .ok (.putfield 68, 3) := by decide +kernel
theorem dM_init_161 : decode bM_init 161 = .ok (.aload_n 0, 1) := by decide +kernel
theorem dM_init_162 : decode bM_init 162 = .ok (.bipush 60, 2) := by decide +kernel
theorem dM_init_164 : decode bM_init 164 = .ok (.newarray .int, 2) := by decide +kernel
theorem dM_init_166 : decode bM_init 166 = .ok (.putfield 71, 3) := by decide +kernel
theorem dM_init_169 : decode bM_init 169 = .ok (.aload_n 0, 1) := by decide +kernel
theorem dM_init_170 : decode bM_init 170 = .ok (.bipush 60, 2) := by decide +kernel
theorem dM_init_172 : decode bM_init 172 = .ok (.newarray .int, 2) := by decide +kernel
theorem dM_init_174 : decode bM_init 174 = .ok (.putfield 74, 3) := by decide +kernel
theorem dM_init_177 : decode bM_init 177 = .ok (.aload_n 0, 1) := by decide +kernel
theorem dM_init_178 : decode bM_init 178 = .ok (.bipush 6, 2) := by decide +kernel
theorem dM_init_180 : decode bM_init 180 = .ok (.newarray .int, 2) := by decide +kernel
theorem dM_init_182 : decode bM_init 182 = .ok (.putfield 77, 3) := by decide +kernel
theorem dM_init_185 : decode bM_init 185 = .ok (.return_, 1) := by decide +kernel
theorem dM_write_0 : decode bM_write 0 = .ok (.aload_n 0, 1) := by decide +kernel
theorem dM_write_1 : decode bM_write 1 = .ok (.getfield 121, 3) := by decide +kernel
theorem dM_write_4 : decode bM_write 4 = .ok (.bipush 120, 2) := by decide +kernel
theorem dM_write_6 : decode bM_write 6 = .ok (.if_icmp .lt 9, 3) := by decide +kernel
theorem dM_write_9 : decode bM_write 9 = .ok (.aload_n 0, 1) := by decide +kernel
theorem dM_write_10 : decode bM_write 10 = .ok (.iconst 1, 1) := by decide +kernel
theorem dM_write_11 : decode bM_write 11 = .ok (.putfield 124, 3) := by decide +kernel
theorem dM_write_14 : decode bM_write 14 = .ok (.return_, 1) := by decide +kernel
theorem dM_write_15 : decode bM_write 15 = .ok (.aload_n 0, 1) := by decide +kernel
theorem dM_write_16 : decode bM_write 16 = .ok (.getfield 35, 3) := by decide +kernel
theorem dM_write_19 : decode bM_write 19 = .ok (.aload_n 0, 1) := by decide +kernel
theorem dM_write_20 : decode bM_write 20 = .ok (.getfield 121, 3) := by decide +kernel
theorem dM_write_23 : decode bM_write 23 = .ok (.iload_n 1, 1) := by decide +kernel
theorem dM_write_24 : decode bM_write 24 = .ok (.iastore, 1) := by decide +kernel
theorem dM_write_25 : decode bM_write 25 = .ok (.aload_n 0, 1) := by decide +kernel
theorem dM_write_26 : decode bM_write 26 = .ok (.dup, 1) := by decide +kernel
theorem dM_write_27 : decode bM_write 27 = .ok (.getfield 121, 3) := by decide +kernel
theorem dM_write_30 : decode bM_write 30 = .ok (.iconst 1, 1) := by decide +kernel
theorem dM_write_31 : decode bM_write 31 = .ok (.iadd, 1) := by decide +kernel
theorem dM_write_32 : decode bM_write 32 = .ok (.putfield 121, 3) := by decide +kernel
theorem dM_write_35 : decode bM_write 35 = .ok (.return_, 1) := by decide +kernel
theorem dM_writeNumber_0 : decode bM_writeNumber 0 = .ok (.iconst 0, 1) := by decide +kernel
theorem dM_writeNumber_1 : decode bM_writeNumber 1 = .ok (.istore 4, 2) := by decide +kernel
theorem dM_writeNumber_3 : decode bM_writeNumber 3 = .ok (.iload 4, 2) := by decide +kernel
theorem dM_writeNumber_5 : decode bM_writeNumber 5 = .ok (.iload_n 3, 1) := by decide +kernel
theorem dM_writeNumber_6 : decode bM_writeNumber 6 = .ok (.if_icmp .ge 25, 3) := by decide +kernel
theorem dM_writeNumber_9 : decode bM_writeNumber 9 = .ok (.aload_n 0, 1) := by decide +kernel
theorem dM_writeNumber_10 : decode bM_writeNumber 10 = .ok (.lload_n 1, 1) := by decide +kernel
theorem dM_writeNumber_11 : decode bM_writeNumber 11 = .ok (.bipush 8, 2) := by decide +kernel
theorem dM_writeNumber_13 : decode bM_writeNumber 13 = .ok (.iload 4, 2) := by decide +kernel
theorem dM_writeNumber_15 : decode bM_writeNumber 15 = .ok (.imul, 1) := by decide +kernel
theorem dM_writeNumber_16 : decode bM_writeNumber 16 = .ok (.lshr, 1) := by decide +kernel
theorem dM_writeNumber_17 : decode bM_writeNumber 17 = .ok (.ldc2_w 128, 3) := by decide +kernel
theorem dM_writeNumber_20 : decode bM_writeNumber 20 = .ok (.land, 1) := by decide +kernel
theorem dM_writeNumber_21 : decode bM_writeNumber 21 = .ok (.l2i, 1) := by decide +kernel
theorem dM_writeNumber_22 : decode bM_writeNumber 22 = .ok (.invokevirtual 130, 3) := by decide +kernel
theorem dM_writeNumber_25 : decode bM_writeNumber 25 = .ok (.iinc 4 1, 3) := by decide +kernel
theorem dM_writeNumber_28 : decode bM_writeNumber 28 = .ok (.goto (-25), 3) := by decide +kernel
theorem dM_writeNumber_31 : decode bM_writeNumber 31 = .ok (.return_, 1) := by decide +kernel
theorem dM_begin_0 : decode bM_begin 0 = .ok (.aload_n 0, 1) := by decide +kernel
theorem dM_begin_1 : decode bM_begin 1 = .ok (.getfield 133, 3) := by decide +kernel
theorem dM_begin_4 : decode bM_begin 4 = .ok (.iconst 5, 1) := by decide +kernel
theorem dM_begin_5 : decode bM_begin 5 = .ok (.if_icmp .lt 9, 3) := by decide +kernel
theorem dM_begin_8 : decode bM_begin 8 = .ok (.aload_n 0, 1) := by decide +kernel
theorem dM_begin_9 : decode bM_begin 9 = .ok (.iconst 1, 1) := by decide +kernel
theorem dM_begin_10 : decode bM_begin 10 = .ok (.putfield 124, 3) := by decide +kernel
theorem dM_begin_13 : decode bM_begin 13 = .ok (.return_, 1) := by decide +kernel
theorem dM_begin_14 : decode bM_begin 14 = .ok (.aload_n 0, 1) := by decide +kernel
theorem dM_begin_15 : decode bM_begin 15 = .ok (.getfield 38, 3) := by decide +kernel
theorem dM_begin_18 : decode bM_begin 18 = .ok (.aload_n 0, 1) := by decide +kernel
theorem dM_begin_19 : decode bM_begin 19 = .ok (.getfield 133, 3) := by decide +kernel
theorem dM_begin_22 : decode bM_begin 22 = .ok (.iload_n 1, 1) := by decide +kernel
theorem dM_begin_23 : decode bM_begin 23 = .ok (.iastore, 1) := by decide +kernel
theorem dM_begin_24 : decode bM_begin 24 = .ok (.aload_n 0, 1) := by decide +kernel
theorem dM_begin_25 : decode bM_begin 25 = .ok (.getfield 41, 3) := by decide +kernel
theorem dM_begin_28 : decode bM_begin 28 = .ok (.aload_n 0, 1) := by decide +kernel
theorem dM_begin_29 : decode bM_begin 29 = .ok (.getfield 133, 3) := by decide +kernel
theorem dM_begin_32 : decode bM_begin 32 = .ok (.aload_n 0, 1) := by decide +kernel
theorem dM_begin_33 : decode bM_begin 33 = .ok (.getfield 121, 3) := by decide +kernel
theorem dM_begin_36 : decode bM_begin 36 = .ok (.iastore, 1) := by decide +kernel
theorem dM_begin_37 : decode bM_begin 37 = .ok (.aload_n 0, 1) := by decide +kernel
theorem dM_begin_38 : decode bM_begin 38 = .ok (.getfield 44, 3) := by decide +kernel
theorem dM_begin_41 : decode bM_begin 41 = .ok (.aload_n 0, 1) := by decide +kernel
theorem dM_begin_42 : decode bM_begin 42 = .ok (.getfield 133, 3) := by decide +kernel
theorem dM_begin_45 : decode bM_begin 45 = .ok (.iconst 0, 1) := by decide +kernel
theorem dM_begin_46 : decode bM_begin 46 = .ok (.iastore, 1) := by decide +kernel
theorem dM_begin_47 : decode bM_begin 47 = .ok (.aload_n 0, 1) := by decide +kernel
theorem dM_begin_48 : decode bM_begin 48 = .ok (.dup, 1) := by decide +kernel
theorem dM_begin_49 : decode bM_begin 49 = .ok (.getfield 133, 3) := by decide +kernel
theorem dM_begin_52 : decode bM_begin 52 = .ok (.iconst 1, 1) := by decide +kernel
theorem dM_begin_53 : decode bM_begin 53 = .ok (.iadd, 1) := by decide +kernel
theorem dM_begin_54 : decode bM_begin 54 = .ok (.putfield 133, 3) := by decide +kernel
theorem dM_begin_57 : decode bM_begin 57 = .ok (.aload_n 0, 1) := by decide +kernel
theorem dM_begin_58 : decode bM_begin 58 = .ok (.lconst 0, 1) := by decide +kernel
theorem dM_begin_59 : decode bM_begin 59 = .ok (.iconst 4, 1) := by decide +kernel
theorem dM_begin_60 : decode bM_begin 60 = .ok (.invokevirtual 136, 3) := by decide +kernel
theorem dM_begin_63 : decode bM_begin 63 = .ok (.aload_n 0, 1) := by decide +kernel
theorem dM_begin_64 : decode bM_begin 64 = .ok (.getfield 25, 3) := by decide +kernel
theorem dM_begin_67 : decode bM_begin 67 = .ok (.iload_n 1, 1) := by decide +kernel
theorem dM_begin_68 : decode bM_begin 68 = .ok (.iaload, 1) := by decide +kernel
theorem dM_begin_69 : decode bM_begin 69 = .ok (.iload_n 2, 1) := by decide +kernel
theorem dM_begin_70 : decode bM_begin 70 = .ok (.if_icmp .eq 51, 3) := by decide +kernel
theorem dM_begin_73 : decode bM_begin 73 = .ok (.aload_n 0, 1) := by decide +kernel
theorem dM_begin_74 : decode bM_begin 74 = .ok (.iconst 2, 1) := by decide +kernel
theorem dM_begin_75 : decode bM_begin 75 = .ok (.invokevirtual 130, 3) := by decide +kernel
theorem dM_begin_78 : decode bM_begin 78 = .ok (.aload_n 0, 1) := by decide +kernel
theorem dM_begin_79 : decode bM_begin 79 = .ok (.bipush 95, 2) := by decide +kernel
theorem dM_begin_81 : decode bM_begin 81 = .ok (.invokevirtual 130, 3) := by decide +kernel
theorem dM_begin_84 : decode bM_begin 84 = .ok (.aload_n 0, 1) := by decide +kernel
theorem dM_begin_85 : decode bM_begin 85 = .ok (.bipush 116, 2) := by decide +kernel
theorem dM_begin_87 : decode bM_begin 87 = .ok (.invokevirtual 130, 3) := by decide +kernel
theorem dM_begin_90 : decode bM_begin 90 = .ok (.aload_n 0, 1) := by decide +kernel
theorem dM_begin_91 : decode bM_begin 91 = .ok (.iconst 0, 1) := by decide +kernel
theorem dM_begin_92 : decode bM_begin 92 = .ok (.invokevirtual 130, 3) := by decide +kernel
theorem dM_begin_95 : decode bM_begin 95 = .ok (.aload_n 0, 1) := by decide +kernel
theorem dM_begin_96 : decode bM_begin 96 = .ok (.ldc2_w 140, 3) := by decide +kernel
theorem dM_begin_99 : decode bM_begin 99 = .ok (.iconst 4, 1) := by decide +kernel
theorem dM_begin_100 : decode bM_begin 100 = .ok (.invokevirtual 136, 3) := by decide +kernel
theorem dM_begin_103 : decode bM_begin 103 = .ok (.aload_n 0, 1) := by decide +kernel
theorem dM_begin_104 : decode bM_begin 104 = .ok (.bipush 65, 2) := by decide +kernel
theorem dM_begin_106 : decode bM_begin 106 = .ok (.aload_n 0, 1) := by decide +kernel
theorem dM_begin_107 : decode bM_begin 107 = .ok (.getfield 25, 3) := by decide +kernel
theorem dM_begin_110 : decode bM_begin 110 = .ok (.iload_n 1, 1) := by decide +kernel
theorem dM_begin_111 : decode bM_begin 111 = .ok (.iaload, 1) := by decide +kernel
theorem dM_begin_112 : decode bM_begin 112 = .ok (.iadd, 1) := by decide +kernel
theorem dM_begin_113 : decode bM_begin 113 = .ok (.invokevirtual 130, 3) := by decide +kernel
theorem dM_begin_116 : decode bM_begin 116 = .ok (.aload_n 0, 1) := by decide +kernel
theorem dM_begin_117 : decode bM_begin 117 = .ok (.iconst 0, 1) := by decide +kernel
theorem dM_begin_118 : decode bM_begin 118 = .ok (.invokevirtual 130, 3) := by decide +kernel
theorem dM_begin_121 : decode bM_begin 121 = .ok (.return_, 1) := by decide +kernel
theorem dM_end_0 : decode bM_end 0 = .ok (.aload_n 0, 1) := by decide +kernel
theorem dM_end_1 : decode bM_end 1 = .ok (.iconst 0, 1) := by decide +kernel
theorem dM_end_2 : decode bM_end 2 = .ok (.invokevirtual 130, 3) := by decide +kernel
theorem dM_end_5 : decode bM_end 5 = .ok (.aload_n 0, 1) := by decide +kernel
theorem dM_end_6 : decode bM_end 6 = .ok (.dup, 1) := by decide +kernel
theorem dM_end_7 : decode bM_end 7 = .ok (.getfield 133, 3) := by decide +kernel
theorem dM_end_10 : decode bM_end 10 = .ok (.iconst 1, 1) := by decide +kernel
theorem dM_end_11 : decode bM_end 11 = .ok (.isub, 1) := by decide +kernel
theorem dM_end_12 : decode bM_end 12 = .ok (.putfield 133, 3) := by decide +kernel
theorem dM_end_15 : decode bM_end 15 = .ok (.aload_n 0, 1) := by decide +kernel
theorem dM_end_16 : decode bM_end 16 = .ok (.getfield 41, 3) := by decide +kernel
theorem dM_end_19 : decode bM_end 19 = .ok (.aload_n 0, 1) := by decide +kernel
theorem dM_end_20 : decode bM_end 20 = .ok (.getfield 133, 3) := by decide +kernel
theorem dM_end_23 : decode bM_end 23 = .ok (.iaload, 1) := by decide +kernel
theorem dM_end_24 : decode bM_end 24 = .ok (.istore_n 1, 1) := by decide +kernel
theorem dM_end_25 : decode bM_end 25 = .ok (.aload_n 0, 1) := by decide +kernel
