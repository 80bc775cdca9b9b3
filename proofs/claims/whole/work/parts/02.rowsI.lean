/-! decode rows of class PropertyDocuments$Instances: laid by wip/gen/names.py -/
theorem dI_setPartner_0 : decode bI_setPartner 0 = .ok (.aload_n 0, 1) := by decide +kernel
theorem dI_setPartner_1 : decode bI_setPartner 1 = .ok (.iload_n 1, 1) := by decide +kernel
theorem dI_setPartner_2 : decode bI_setPartner 2 = .ok (.iload_n 2, 1) := by decide +kernel
theorem dI_setPartner_3 : decode bI_setPartner 3 = .ok (.invokevirtual 38, 3) := by decide +kernel
theorem dI_setPartner_6 : decode bI_setPartner 6 = .ok (.ifCond .eq 15, 3) := by decide +kernel
theorem dI_setPartner_9 : decode bI_setPartner 9 = .ok (.aload_n 0, 1) := by decide +kernel
theorem dI_setPartner_10 : decode bI_setPartner 10 = .ok (.getfield 19, 3) := by decide +kernel
theorem dI_setPartner_13 : decode bI_setPartner 13 = .ok (.aload_n 0, 1) := by decide +kernel
theorem dI_setPartner_14 : decode bI_setPartner 14 = .ok (.iload_n 1, 1) := by decide +kernel
theorem dI_setPartner_15 : decode bI_setPartner 15 = .ok (.iload_n 2, 1) := by decide +kernel
theorem dI_setPartner_16 : decode bI_setPartner 16 = .ok (.invokevirtual 42, 3) := by decide +kernel
theorem dI_setPartner_19 : decode bI_setPartner 19 = .ok (.iload_n 3, 1) := by decide +kernel
theorem dI_setPartner_20 : decode bI_setPartner 20 = .ok (.iastore, 1) := by decide +kernel
theorem dI_setPartner_21 : decode bI_setPartner 21 = .ok (.return_, 1) := by decide +kernel
theorem dI_init_0 : decode bI_init 0 = .ok (.aload_n 0, 1) := by decide +kernel
theorem dI_init_1 : decode bI_init 1 = .ok (.invokespecial 3, 3) := by decide +kernel
theorem dI_init_4 : decode bI_init 4 = .ok (.aload_n 0, 1) := by decide +kernel
theorem dI_init_5 : decode bI_init 5 = .ok (.bipush 12, 2) := by decide +kernel
theorem dI_init_7 : decode bI_init 7 = .ok (.newarray .int, 2) := by decide +kernel
theorem dI_init_9 : decode bI_init 9 = .ok (.putfield 9, 3) := by decide +kernel
theorem dI_init_12 : decode bI_init 12 = .ok (.aload_n 0, 1) := by decide +kernel
theorem dI_init_13 : decode bI_init 13 = .ok (.bipush 96, 2) := by decide +kernel
theorem dI_init_15 : decode bI_init 15 = .ok (.newarray .long, 2) := by decide +kernel
theorem dI_init_17 : decode bI_init 17 = .ok (.putfield 15, 3) := by decide +kernel
theorem dI_init_20 : decode bI_init 20 = .ok (.aload_n 0, 1) := by decide +kernel
theorem dI_init_21 : decode bI_init 21 = .ok (.bipush 96, 2) := by decide +kernel
theorem dI_init_23 : decode bI_init 23 = .ok (.newarray .int, 2) := by decide +kernel
theorem dI_init_25 : decode bI_init 25 = .ok (.putfield 19, 3) := by decide +kernel
theorem dI_init_28 : decode bI_init 28 = .ok (.aload_n 0, 1) := by decide +kernel
theorem dI_init_29 : decode bI_init 29 = .ok (.iconst 0, 1) := by decide +kernel
theorem dI_init_30 : decode bI_init 30 = .ok (.putfield 22, 3) := by decide +kernel
theorem dI_init_33 : decode bI_init 33 = .ok (.return_, 1) := by decide +kernel
theorem dI_has_0 : decode bI_has 0 = .ok (.iload_n 1, 1) := by decide +kernel
theorem dI_has_1 : decode bI_has 1 = .ok (.ifCond .lt 15, 3) := by decide +kernel
theorem dI_has_4 : decode bI_has 4 = .ok (.iload_n 1, 1) := by decide +kernel
theorem dI_has_5 : decode bI_has 5 = .ok (.aload_n 0, 1) := by decide +kernel
theorem dI_has_6 : decode bI_has 6 = .ok (.getfield 22, 3) := by decide +kernel
theorem dI_has_9 : decode bI_has 9 = .ok (.if_icmp .ge 7, 3) := by decide +kernel
theorem dI_has_12 : decode bI_has 12 = .ok (.iconst 1, 1) := by decide +kernel
theorem dI_has_13 : decode bI_has 13 = .ok (.goto 4, 3) := by decide +kernel
theorem dI_has_16 : decode bI_has 16 = .ok (.iconst 0, 1) := by decide +kernel
theorem dI_has_17 : decode bI_has 17 = .ok (.ireturn, 1) := by decide +kernel
theorem dI_kind_0 : decode bI_kind 0 = .ok (.aload_n 0, 1) := by decide +kernel
theorem dI_kind_1 : decode bI_kind 1 = .ok (.iload_n 1, 1) := by decide +kernel
theorem dI_kind_2 : decode bI_kind 2 = .ok (.invokevirtual 26, 3) := by decide +kernel
theorem dI_kind_5 : decode bI_kind 5 = .ok (.ifCond .eq 12, 3) := by decide +kernel
theorem dI_kind_8 : decode bI_kind 8 = .ok (.aload_n 0, 1) := by decide +kernel
theorem dI_kind_9 : decode bI_kind 9 = .ok (.getfield 9, 3) := by decide +kernel
theorem dI_kind_12 : decode bI_kind 12 = .ok (.iload_n 1, 1) := by decide +kernel
theorem dI_kind_13 : decode bI_kind 13 = .ok (.iaload, 1) := by decide +kernel
theorem dI_kind_14 : decode bI_kind 14 = .ok (.goto 4, 3) := by decide +kernel
theorem dI_kind_17 : decode bI_kind 17 = .ok (.iconst (-1), 1) := by decide +kernel
theorem dI_kind_18 : decode bI_kind 18 = .ok (.ireturn, 1) := by decide +kernel
theorem dI_add_0 : decode bI_add 0 = .ok (.aload_n 0, 1) := by decide +kernel
theorem dI_add_1 : decode bI_add 1 = .ok (.getfield 22, 3) := by decide +kernel
theorem dI_add_4 : decode bI_add 4 = .ok (.bipush 12, 2) := by decide +kernel
theorem dI_add_6 : decode bI_add 6 = .ok (.if_icmp .lt 5, 3) := by decide +kernel
theorem dI_add_9 : decode bI_add 9 = .ok (.iconst (-1), 1) := by decide +kernel
theorem dI_add_10 : decode bI_add 10 = .ok (.ireturn, 1) := by decide +kernel
theorem dI_add_11 : decode bI_add 11 = .ok (.aload_n 0, 1) := by decide +kernel
theorem dI_add_12 : decode bI_add 12 = .ok (.getfield 22, 3) := by decide +kernel
theorem dI_add_15 : decode bI_add 15 = .ok (.istore_n 2, 1) := by decide +kernel
theorem dI_add_16 : decode bI_add 16 = .ok (.aload_n 0, 1) := by decide +kernel
theorem dI_add_17 : decode bI_add 17 = .ok (.getfield 9, 3) := by decide +kernel
theorem dI_add_20 : decode bI_add 20 = .ok (.iload_n 2, 1) := by decide +kernel
theorem dI_add_21 : decode bI_add 21 = .ok (.iload_n 1, 1) := by decide +kernel
theorem dI_add_22 : decode bI_add 22 = .ok (.iastore, 1) := by decide +kernel
theorem dI_add_23 : decode bI_add 23 = .ok (.aload_n 0, 1) := by decide +kernel
theorem dI_add_24 : decode bI_add 24 = .ok (.dup, 1) := by decide +kernel
theorem dI_add_25 : decode bI_add 25 = .ok (.getfield 22, 3) := by decide +kernel
theorem dI_add_28 : decode bI_add 28 = .ok (.iconst 1, 1) := by decide +kernel
theorem dI_add_29 : decode bI_add 29 = .ok (.iadd, 1) := by decide +kernel
theorem dI_add_30 : decode bI_add 30 = .ok (.putfield 22, 3) := by decide +kernel
theorem dI_add_33 : decode bI_add 33 = .ok (.iconst 0, 1) := by decide +kernel
theorem dI_add_34 : decode bI_add 34 = .ok (.istore_n 3, 1) := by decide +kernel
theorem dI_add_35 : decode bI_add 35 = .ok (.iload_n 3, 1) := by decide +kernel
theorem dI_add_36 : decode bI_add 36 = .ok (.bipush 8, 2) := by decide +kernel
theorem dI_add_38 : decode bI_add 38 = .ok (.if_icmp .ge 23, 3) := by decide +kernel
theorem dI_add_41 : decode bI_add 41 = .ok (.aload_n 0, 1) := by decide +kernel
theorem dI_add_42 : decode bI_add 42 = .ok (.iload_n 2, 1) := by decide +kernel
theorem dI_add_43 : decode bI_add 43 = .ok (.iload_n 3, 1) := by decide +kernel
theorem dI_add_44 : decode bI_add 44 = .ok (.lconst 0, 1) := by decide +kernel
theorem dI_add_45 : decode bI_add 45 = .ok (.invokevirtual 30, 3) := by decide +kernel
theorem dI_add_48 : decode bI_add 48 = .ok (.aload_n 0, 1) := by decide +kernel
theorem dI_add_49 : decode bI_add 49 = .ok (.iload_n 2, 1) := by decide +kernel
theorem dI_add_50 : decode bI_add 50 = .ok (.iload_n 3, 1) := by decide +kernel
theorem dI_add_51 : decode bI_add 51 = .ok (.iconst (-1), 1) := by decide +kernel
theorem dI_add_52 : decode bI_add 52 = .ok (.invokevirtual 34, 3) := by decide +kernel
theorem dI_add_55 : decode bI_add 55 = .ok (.iinc 3 1, 3) := by decide +kernel
theorem dI_add_58 : decode bI_add 58 = .ok (.goto (-23), 3) := by decide +kernel
theorem dI_add_61 : decode bI_add 61 = .ok (.iload_n 2, 1) := by decide +kernel
theorem dI_add_62 : decode bI_add 62 = .ok (.ireturn, 1) := by decide +kernel
theorem dI_hasCell_0 : decode bI_hasCell 0 = .ok (.aload_n 0, 1) := by decide +kernel
theorem dI_hasCell_1 : decode bI_hasCell 1 = .ok (.iload_n 1, 1) := by decide +kernel
theorem dI_hasCell_2 : decode bI_hasCell 2 = .ok (.invokevirtual 26, 3) := by decide +kernel
theorem dI_hasCell_5 : decode bI_hasCell 5 = .ok (.ifCond .eq 17, 3) := by decide +kernel
theorem dI_hasCell_8 : decode bI_hasCell 8 = .ok (.iload_n 2, 1) := by decide +kernel
theorem dI_hasCell_9 : decode bI_hasCell 9 = .ok (.ifCond .lt 13, 3) := by decide +kernel
theorem dI_hasCell_12 : decode bI_hasCell 12 = .ok (.iload_n 2, 1) := by decide +kernel
theorem dI_hasCell_13 : decode bI_hasCell 13 = .ok (.bipush 8, 2) := by decide +kernel
theorem dI_hasCell_15 : decode bI_hasCell 15 = .ok (.if_icmp .ge 7, 3) := by decide +kernel
theorem dI_hasCell_18 : decode bI_hasCell 18 = .ok (.iconst 1, 1) := by decide +kernel
theorem dI_hasCell_19 : decode bI_hasCell 19 = .ok (.goto 4, 3) := by decide +kernel
theorem dI_hasCell_22 : decode bI_hasCell 22 = .ok (.iconst 0, 1) := by decide +kernel
theorem dI_hasCell_23 : decode bI_hasCell 23 = .ok (.ireturn, 1) := by decide +kernel
theorem dI_cell_0 : decode bI_cell 0 = .ok (.iload_n 1, 1) := by decide +kernel
theorem dI_cell_1 : decode bI_cell 1 = .ok (.bipush 8, 2) := by decide +kernel
theorem dI_cell_3 : decode bI_cell 3 = .ok (.imul, 1) := by decide +kernel
theorem dI_cell_4 : decode bI_cell 4 = .ok (.iload_n 2, 1) := by decide +kernel
theorem dI_cell_5 : decode bI_cell 5 = .ok (.iadd, 1) := by decide +kernel
theorem dI_cell_6 : decode bI_cell 6 = .ok (.ireturn, 1) := by decide +kernel
theorem dI_valueAt_0 : decode bI_valueAt 0 = .ok (.aload_n 0, 1) := by decide +kernel
theorem dI_valueAt_1 : decode bI_valueAt 1 = .ok (.iload_n 1, 1) := by decide +kernel
theorem dI_valueAt_2 : decode bI_valueAt 2 = .ok (.iload_n 2, 1) := by decide +kernel
theorem dI_valueAt_3 : decode bI_valueAt 3 = .ok (.invokevirtual 38, 3) := by decide +kernel
theorem dI_valueAt_6 : decode bI_valueAt 6 = .ok (.ifCond .eq 17, 3) := by decide +kernel
theorem dI_valueAt_9 : decode bI_valueAt 9 = .ok (.aload_n 0, 1) := by decide +kernel
theorem dI_valueAt_10 : decode bI_valueAt 10 = .ok (.getfield 15, 3) := by decide +kernel
theorem dI_valueAt_13 : decode bI_valueAt 13 = .ok (.aload_n 0, 1) := by decide +kernel
theorem dI_valueAt_14 : decode bI_valueAt 14 = .ok (.iload_n 1, 1) := by decide +kernel
theorem dI_valueAt_15 : decode bI_valueAt 15 = .ok (.iload_n 2, 1) := by decide +kernel
theorem dI_valueAt_16 : decode bI_valueAt 16 = .ok (.invokevirtual 42, 3) := by decide +kernel
theorem dI_valueAt_19 : decode bI_valueAt 19 = .ok (.laload, 1) := by decide +kernel
theorem dI_valueAt_20 : decode bI_valueAt 20 = .ok (.goto 4, 3) := by decide +kernel
theorem dI_valueAt_23 : decode bI_valueAt 23 = .ok (.lconst 0, 1) := by decide +kernel
theorem dI_valueAt_24 : decode bI_valueAt 24 = .ok (.lreturn, 1) := by decide +kernel
theorem dI_partnerAt_0 : decode bI_partnerAt 0 = .ok (.aload_n 0, 1) := by decide +kernel
theorem dI_partnerAt_1 : decode bI_partnerAt 1 = .ok (.iload_n 1, 1) := by decide +kernel
theorem dI_partnerAt_2 : decode bI_partnerAt 2 = .ok (.iload_n 2, 1) := by decide +kernel
theorem dI_partnerAt_3 : decode bI_partnerAt 3 = .ok (.invokevirtual 38, 3) := by decide +kernel
theorem dI_partnerAt_6 : decode bI_partnerAt 6 = .ok (.ifCond .eq 17, 3) := by decide +kernel
theorem dI_partnerAt_9 : decode bI_partnerAt 9 = .ok (.aload_n 0, 1) := by decide +kernel
theorem dI_partnerAt_10 : decode bI_partnerAt 10 = .ok (.getfield 19, 3) := by decide +kernel
theorem dI_partnerAt_13 : decode bI_partnerAt 13 = .ok (.aload_n 0, 1) := by decide +kernel
theorem dI_partnerAt_14 : decode bI_partnerAt 14 = .ok (.iload_n 1, 1) := by decide +kernel
theorem dI_partnerAt_15 : decode bI_partnerAt 15 = .ok (.iload_n 2, 1) := by decide +kernel
theorem dI_partnerAt_16 : decode bI_partnerAt 16 = .ok (.invokevirtual 42, 3) := by decide +kernel
theorem dI_partnerAt_19 : decode bI_partnerAt 19 = .ok (.iaload, 1) := by decide +kernel
theorem dI_partnerAt_20 : decode bI_partnerAt 20 = .ok (.goto 4, 3) := by decide +kernel
theorem dI_partnerAt_23 : decode bI_partnerAt 23 = .ok (.iconst (-1), 1) := by decide +kernel
theorem dI_partnerAt_24 : decode bI_partnerAt 24 = .ok (.ireturn, 1) := by decide +kernel
theorem dI_setValue_0 : decode bI_setValue 0 = .ok (.aload_n 0, 1) := by decide +kernel
theorem dI_setValue_1 : decode bI_setValue 1 = .ok (.iload_n 1, 1) := by decide +kernel
theorem dI_setValue_2 : decode bI_setValue 2 = .ok (.iload_n 2, 1) := by decide +kernel
theorem dI_setValue_3 : decode bI_setValue 3 = .ok (.invokevirtual 38, 3) := by decide +kernel
theorem dI_setValue_6 : decode bI_setValue 6 = .ok (.ifCond .eq 15, 3) := by decide +kernel
theorem dI_setValue_9 : decode bI_setValue 9 = .ok (.aload_n 0, 1) := by decide +kernel
theorem dI_setValue_10 : decode bI_setValue 10 = .ok (.getfield 15, 3) := by decide +kernel
theorem dI_setValue_13 : decode bI_setValue 13 = .ok (.aload_n 0, 1) := by decide +kernel
theorem dI_setValue_14 : decode bI_setValue 14 = .ok (.iload_n 1, 1) := by decide +kernel
theorem dI_setValue_15 : decode bI_setValue 15 = .ok (.iload_n 2, 1) := by decide +kernel
theorem dI_setValue_16 : decode bI_setValue 16 = .ok (.invokevirtual 42, 3) := by decide +kernel
theorem dI_setValue_19 : decode bI_setValue 19 = .ok (.lload_n 3, 1) := by decide +kernel
theorem dI_setValue_20 : decode bI_setValue 20 = .ok (.lastore, 1) := by decide +kernel
theorem dI_setValue_21 : decode bI_setValue 21 = .ok (.return_, 1) := by decide +kernel
