/-! decode rows of class PropertyDocuments: laid by wip/gen/names.py -/
theorem dP_objects_0 : decode bP_objects 0 = .ok (.aload_n 0, 1) := by decide +kernel
theorem dP_objects_1 : decode bP_objects 1 = .ok (.getfield 19, 3) := by decide +kernel
theorem dP_objects_4 : decode bP_objects 4 = .ok (.getfield 57, 3) := by decide +kernel
theorem dP_objects_7 : decode bP_objects 7 = .ok (.ireturn, 1) := by decide +kernel
theorem dP_drop_0 : decode bP_drop 0 = .ok (.aload_n 0, 1) := by decide +kernel
theorem dP_drop_1 : decode bP_drop 1 = .ok (.getfield 19, 3) := by decide +kernel
theorem dP_drop_4 : decode bP_drop 4 = .ok (.iconst 0, 1) := by decide +kernel
theorem dP_drop_5 : decode bP_drop 5 = .ok (.putfield 57, 3) := by decide +kernel
theorem dP_drop_8 : decode bP_drop 8 = .ok (.return_, 1) := by decide +kernel
theorem dP_encode_0 : decode bP_encode 0 = .ok (.aload_n 0, 1) := by decide +kernel
theorem dP_encode_1 : decode bP_encode 1 = .ok (.getfield 10, 3) := by decide +kernel
theorem dP_encode_4 : decode bP_encode 4 = .ok (.aload_n 0, 1) := by decide +kernel
theorem dP_encode_5 : decode bP_encode 5 = .ok (.getfield 19, 3) := by decide +kernel
theorem dP_encode_8 : decode bP_encode 8 = .ok (.iload_n 1, 1) := by decide +kernel
theorem dP_encode_9 : decode bP_encode 9 = .ok (.invokevirtual 91, 3) := by decide +kernel
theorem dP_encode_12 : decode bP_encode 12 = .ok (.iload_n 2, 1) := by decide +kernel
theorem dP_encode_13 : decode bP_encode 13 = .ok (.invokevirtual 97, 3) := by decide +kernel
theorem dP_encode_16 : decode bP_encode 16 = .ok (.ifCond .ne 5, 3) := by decide +kernel
theorem dP_encode_19 : decode bP_encode 19 = .ok (.iconst (-1), 1) := by decide +kernel
theorem dP_encode_20 : decode bP_encode 20 = .ok (.ireturn, 1) := by decide +kernel
theorem dP_encode_21 : decode bP_encode 21 = .ok (.aload_n 0, 1) := by decide +kernel
theorem dP_encode_22 : decode bP_encode 22 = .ok (.getfield 35, 3) := by decide +kernel
theorem dP_encode_25 : decode bP_encode 25 = .ok (.iload_n 1, 1) := by decide +kernel
theorem dP_encode_26 : decode bP_encode 26 = .ok (.iload_n 2, 1) := by decide +kernel
theorem dP_encode_27 : decode bP_encode 27 = .ok (.invokevirtual 112, 3) := by decide +kernel
theorem dP_encode_30 : decode bP_encode 30 = .ok (.ifCond .ne 6, 3) := by decide +kernel
theorem dP_encode_33 : decode bP_encode 33 = .ok (.bipush (-2), 2) := by decide +kernel
theorem dP_encode_35 : decode bP_encode 35 = .ok (.ireturn, 1) := by decide +kernel
theorem dP_encode_36 : decode bP_encode 36 = .ok (.aload_n 0, 1) := by decide +kernel
theorem dP_encode_37 : decode bP_encode 37 = .ok (.getfield 26, 3) := by decide +kernel
theorem dP_encode_40 : decode bP_encode 40 = .ok (.aload_n 0, 1) := by decide +kernel
theorem dP_encode_41 : decode bP_encode 41 = .ok (.getfield 35, 3) := by decide +kernel
theorem dP_encode_44 : decode bP_encode 44 = .ok (.getfield 115, 3) := by decide +kernel
theorem dP_encode_47 : decode bP_encode 47 = .ok (.invokevirtual 118, 3) := by decide +kernel
theorem dP_encode_50 : decode bP_encode 50 = .ok (.aload_n 0, 1) := by decide +kernel
theorem dP_encode_51 : decode bP_encode 51 = .ok (.getfield 26, 3) := by decide +kernel
theorem dP_encode_54 : decode bP_encode 54 = .ok (.getfield 121, 3) := by decide +kernel
theorem dP_encode_57 : decode bP_encode 57 = .ok (.ireturn, 1) := by decide +kernel
theorem dP_decode_0 : decode bP_decode 0 = .ok (.aload_n 0, 1) := by decide +kernel
theorem dP_decode_1 : decode bP_decode 1 = .ok (.getfield 10, 3) := by decide +kernel
theorem dP_decode_4 : decode bP_decode 4 = .ok (.iload_n 1, 1) := by decide +kernel
theorem dP_decode_5 : decode bP_decode 5 = .ok (.invokevirtual 69, 3) := by decide +kernel
theorem dP_decode_8 : decode bP_decode 8 = .ok (.ifCond .ne 5, 3) := by decide +kernel
theorem dP_decode_11 : decode bP_decode 11 = .ok (.iconst (-1), 1) := by decide +kernel
theorem dP_decode_12 : decode bP_decode 12 = .ok (.ireturn, 1) := by decide +kernel
theorem dP_decode_13 : decode bP_decode 13 = .ok (.aload_n 0, 1) := by decide +kernel
theorem dP_decode_14 : decode bP_decode 14 = .ok (.getfield 44, 3) := by decide +kernel
theorem dP_decode_17 : decode bP_decode 17 = .ok (.invokevirtual 122, 3) := by decide +kernel
theorem dP_decode_20 : decode bP_decode 20 = .ok (.ifCond .ne 6, 3) := by decide +kernel
theorem dP_decode_23 : decode bP_decode 23 = .ok (.bipush (-3), 2) := by decide +kernel
theorem dP_decode_25 : decode bP_decode 25 = .ok (.ireturn, 1) := by decide +kernel
theorem dP_decode_26 : decode bP_decode 26 = .ok (.aload_n 0, 1) := by decide +kernel
theorem dP_decode_27 : decode bP_decode 27 = .ok (.getfield 53, 3) := by decide +kernel
theorem dP_decode_30 : decode bP_decode 30 = .ok (.iload_n 1, 1) := by decide +kernel
theorem dP_decode_31 : decode bP_decode 31 = .ok (.invokevirtual 126, 3) := by decide +kernel
theorem dP_decode_34 : decode bP_decode 34 = .ok (.ifCond .ne 6, 3) := by decide +kernel
theorem dP_decode_37 : decode bP_decode 37 = .ok (.bipush (-4), 2) := by decide +kernel
theorem dP_decode_39 : decode bP_decode 39 = .ok (.ireturn, 1) := by decide +kernel
theorem dP_decode_40 : decode bP_decode 40 = .ok (.aload_n 0, 1) := by decide +kernel
theorem dP_decode_41 : decode bP_decode 41 = .ok (.getfield 19, 3) := by decide +kernel
theorem dP_decode_44 : decode bP_decode 44 = .ok (.getfield 57, 3) := by decide +kernel
theorem dP_decode_47 : decode bP_decode 47 = .ok (.aload_n 0, 1) := by decide +kernel
theorem dP_decode_48 : decode bP_decode 48 = .ok (.getfield 44, 3) := by decide +kernel
theorem dP_decode_51 : decode bP_decode 51 = .ok (.getfield 129, 3) := by decide +kernel
theorem dP_decode_54 : decode bP_decode 54 = .ok (.iadd, 1) := by decide +kernel
theorem dP_decode_55 : decode bP_decode 55 = .ok (.bipush 12, 2) := by decide +kernel
theorem dP_decode_57 : decode bP_decode 57 = .ok (.if_icmp .le 6, 3) := by decide +kernel
theorem dP_decode_60 : decode bP_decode 60 = .ok (.bipush (-5), 2) := by decide +kernel
theorem dP_decode_62 : decode bP_decode 62 = .ok (.ireturn, 1) := by decide +kernel
theorem dP_decode_63 : decode bP_decode 63 = .ok (.aload_n 0, 1) := by decide +kernel
theorem dP_decode_64 : decode bP_decode 64 = .ok (.getfield 53, 3) := by decide +kernel
theorem dP_decode_67 : decode bP_decode 67 = .ok (.aload_n 0, 1) := by decide +kernel
theorem dP_decode_68 : decode bP_decode 68 = .ok (.getfield 19, 3) := by decide +kernel
theorem dP_decode_71 : decode bP_decode 71 = .ok (.invokevirtual 132, 3) := by decide +kernel
theorem dP_decode_74 : decode bP_decode 74 = .ok (.ireturn, 1) := by decide +kernel
theorem dP_sound_0 : decode bP_sound 0 = .ok (.aload_n 0, 1) := by decide +kernel
theorem dP_sound_1 : decode bP_sound 1 = .ok (.getfield 44, 3) := by decide +kernel
theorem dP_sound_4 : decode bP_sound 4 = .ok (.invokevirtual 122, 3) := by decide +kernel
theorem dP_sound_7 : decode bP_sound 7 = .ok (.ireturn, 1) := by decide +kernel
theorem dP_depth_0 : decode bP_depth 0 = .ok (.aload_n 0, 1) := by decide +kernel
theorem dP_depth_1 : decode bP_depth 1 = .ok (.getfield 44, 3) := by decide +kernel
theorem dP_depth_4 : decode bP_depth 4 = .ok (.invokevirtual 122, 3) := by decide +kernel
theorem dP_depth_7 : decode bP_depth 7 = .ok (.ifCond .eq 13, 3) := by decide +kernel
theorem dP_depth_10 : decode bP_depth 10 = .ok (.aload_n 0, 1) := by decide +kernel
theorem dP_depth_11 : decode bP_depth 11 = .ok (.getfield 44, 3) := by decide +kernel
theorem dP_depth_14 : decode bP_depth 14 = .ok (.getfield 136, 3) := by decide +kernel
theorem dP_depth_17 : decode bP_depth 17 = .ok (.goto 4, 3) := by decide +kernel
theorem dP_depth_20 : decode bP_depth 20 = .ok (.iconst 0, 1) := by decide +kernel
theorem dP_depth_21 : decode bP_depth 21 = .ok (.ireturn, 1) := by decide +kernel
theorem dP_elements_0 : decode bP_elements 0 = .ok (.aload_n 0, 1) := by decide +kernel
theorem dP_elements_1 : decode bP_elements 1 = .ok (.getfield 44, 3) := by decide +kernel
theorem dP_elements_4 : decode bP_elements 4 = .ok (.invokevirtual 122, 3) := by decide +kernel
theorem dP_elements_7 : decode bP_elements 7 = .ok (.ifCond .eq 13, 3) := by decide +kernel
theorem dP_elements_10 : decode bP_elements 10 = .ok (.aload_n 0, 1) := by decide +kernel
theorem dP_elements_11 : decode bP_elements 11 = .ok (.getfield 44, 3) := by decide +kernel
theorem dP_elements_14 : decode bP_elements 14 = .ok (.getfield 139, 3) := by decide +kernel
theorem dP_elements_17 : decode bP_elements 17 = .ok (.goto 4, 3) := by decide +kernel
theorem dP_elements_20 : decode bP_elements 20 = .ok (.iconst 0, 1) := by decide +kernel
theorem dP_elements_21 : decode bP_elements 21 = .ok (.ireturn, 1) := by decide +kernel
theorem dP_size_0 : decode bP_size 0 = .ok (.aload_n 0, 1) := by decide +kernel
theorem dP_size_1 : decode bP_size 1 = .ok (.getfield 26, 3) := by decide +kernel
theorem dP_size_4 : decode bP_size 4 = .ok (.getfield 121, 3) := by decide +kernel
theorem dP_size_7 : decode bP_size 7 = .ok (.ireturn, 1) := by decide +kernel
theorem dP_byteAt_0 : decode bP_byteAt 0 = .ok (.aload_n 0, 1) := by decide +kernel
theorem dP_byteAt_1 : decode bP_byteAt 1 = .ok (.getfield 26, 3) := by decide +kernel
theorem dP_byteAt_4 : decode bP_byteAt 4 = .ok (.iload_n 1, 1) := by decide +kernel
theorem dP_byteAt_5 : decode bP_byteAt 5 = .ok (.invokevirtual 142, 3) := by decide +kernel
theorem dP_byteAt_8 : decode bP_byteAt 8 = .ok (.ireturn, 1) := by decide +kernel
theorem dP_poke_0 : decode bP_poke 0 = .ok (.iload_n 2, 1) := by decide +kernel
theorem dP_poke_1 : decode bP_poke 1 = .ok (.ifCond .lt 10, 3) := by decide +kernel
theorem dP_poke_4 : decode bP_poke 4 = .ok (.iload_n 2, 1) := by decide +kernel
theorem dP_poke_5 : decode bP_poke 5 = .ok (.sipush 255, 3) := by decide +kernel
theorem dP_poke_8 : decode bP_poke 8 = .ok (.if_icmp .le 5, 3) := by decide +kernel
theorem dP_poke_11 : decode bP_poke 11 = .ok (.iconst 0, 1) := by decide +kernel
theorem dP_poke_12 : decode bP_poke 12 = .ok (.ireturn, 1) := by decide +kernel
theorem dP_poke_13 : decode bP_poke 13 = .ok (.iload_n 1, 1) := by decide +kernel
theorem dP_poke_14 : decode bP_poke 14 = .ok (.aload_n 0, 1) := by decide +kernel
theorem dP_poke_15 : decode bP_poke 15 = .ok (.getfield 26, 3) := by decide +kernel
theorem dP_poke_18 : decode bP_poke 18 = .ok (.getfield 121, 3) := by decide +kernel
theorem dP_poke_21 : decode bP_poke 21 = .ok (.if_icmp .ne 14, 3) := by decide +kernel
theorem dP_poke_24 : decode bP_poke 24 = .ok (.aload_n 0, 1) := by decide +kernel
theorem dP_poke_25 : decode bP_poke 25 = .ok (.getfield 26, 3) := by decide +kernel
theorem dP_poke_28 : decode bP_poke 28 = .ok (.iload_n 2, 1) := by decide +kernel
theorem dP_poke_29 : decode bP_poke 29 = .ok (.invokevirtual 145, 3) := by decide +kernel
theorem dP_poke_32 : decode bP_poke 32 = .ok (.goto 12, 3) := by decide +kernel
theorem dP_poke_35 : decode bP_poke 35 = .ok (.aload_n 0, 1) := by decide +kernel
theorem dP_poke_36 : decode bP_poke 36 = .ok (.getfield 26, 3) := by decide +kernel
theorem dP_poke_39 : decode bP_poke 39 = .ok (.iload_n 1, 1) := by decide +kernel
theorem dP_poke_40 : decode bP_poke 40 = .ok (.iload_n 2, 1) := by decide +kernel
theorem dP_poke_41 : decode bP_poke 41 = .ok (.invokevirtual 147, 3) := by decide +kernel
theorem dP_poke_44 : decode bP_poke 44 = .ok (.ireturn, 1) := by decide +kernel
theorem dP_init_0 : decode bP_init 0 = .ok (.aload_n 0, 1) := by decide +kernel
theorem dP_init_1 : decode bP_init 1 = .ok (.invokespecial 1, 3) := by decide +kernel
theorem dP_init_4 : decode bP_init 4 = .ok (.aload_n 0, 1) := by decide +kernel
theorem dP_init_5 : decode bP_init 5 = .ok (.new 7, 3) := by decide +kernel
theorem dP_init_8 : decode bP_init 8 = .ok (.dup, 1) := by decide +kernel
theorem dP_init_9 : decode bP_init 9 = .ok (.invokespecial 9, 3) := by decide +kernel
theorem dP_init_12 : decode bP_init 12 = .ok (.putfield 10, 3) := by decide +kernel
theorem dP_init_15 : decode bP_init 15 = .ok (.aload_n 0, 1) := by decide +kernel
theorem dP_init_16 : decode bP_init 16 = .ok (.new 16, 3) := by decide +kernel
theorem dP_init_19 : decode bP_init 19 = .ok (.dup, 1) := by decide +kernel
theorem dP_init_20 : decode bP_init 20 = .ok (.invokespecial 18, 3) := by decide +kernel
theorem dP_init_23 : decode bP_init 23 = .ok (.putfield 19, 3) := by decide +kernel
theorem dP_init_26 : decode bP_init 26 = .ok (.aload_n 0, 1) := by decide +kernel
theorem dP_init_27 : decode bP_init 27 = .ok (.new 23, 3) := by decide +kernel
theorem dP_init_30 : decode bP_init 30 = .ok (.dup, 1) := by decide +kernel
theorem dP_init_31 : decode bP_init 31 = .ok (.invokespecial 25, 3) := by decide +kernel
theorem dP_init_34 : decode bP_init 34 = .ok (.putfield 26, 3) := by decide +kernel
theorem dP_init_37 : decode bP_init 37 = .ok (.aload_n 0, 1) := by decide +kernel
theorem dP_init_38 : decode bP_init 38 = .ok (.new 30, 3) := by decide +kernel
theorem dP_init_41 : decode bP_init 41 = .ok (.dup, 1) := by decide +kernel
theorem dP_init_42 : decode bP_init 42 = .ok (.aload_n 0, 1) := by decide +kernel
theorem dP_init_43 : decode bP_init 43 = .ok (.getfield 10, 3) := by decide +kernel
theorem dP_init_46 : decode bP_init 46 = .ok (.aload_n 0, 1) := by decide +kernel
theorem dP_init_47 : decode bP_init 47 = .ok (.getfield 19, 3) := by decide +kernel
theorem dP_init_50 : decode bP_init 50 = .ok (.invokespecial 32, 3) := by decide +kernel
theorem dP_init_53 : decode bP_init 53 = .ok (.putfield 35, 3) := by decide +kernel
theorem dP_init_56 : decode bP_init 56 = .ok (.aload_n 0, 1) := by decide +kernel
theorem dP_init_57 : decode bP_init 57 = .ok (.new 39, 3) := by decide +kernel
theorem dP_init_60 : decode bP_init 60 = .ok (.dup, 1) := by decide +kernel
theorem dP_init_61 : decode bP_init 61 = .ok (.aload_n 0, 1) := by decide +kernel
theorem dP_init_62 : decode bP_init 62 = .ok (.getfield 26, 3) := by decide +kernel
theorem dP_init_65 : decode bP_init 65 = .ok (.invokespecial 41, 3) := by decide +kernel
theorem dP_init_68 : decode bP_init 68 = .ok (.putfield 44, 3) := by decide +kernel
theorem dP_init_71 : decode bP_init 71 = .ok (.aload_n 0, 1) := by decide +kernel
theorem dP_init_72 : decode bP_init 72 = .ok (.new 48, 3) := by decide +kernel
theorem dP_init_75 : decode bP_init 75 = .ok (.dup, 1) := by decide +kernel
theorem dP_init_76 : decode bP_init 76 = .ok (.aload_n 0, 1) := by decide +kernel
theorem dP_init_77 : decode bP_init 77 = .ok (.getfield 10, 3) := by decide +kernel
theorem dP_init_80 : decode bP_init 80 = .ok (.aload_n 0, 1) := by decide +kernel
theorem dP_init_81 : decode bP_init 81 = .ok (.getfield 26, 3) := by decide +kernel
theorem dP_init_84 : decode bP_init 84 = .ok (.aload_n 0, 1) := by decide +kernel
theorem dP_init_85 : decode bP_init 85 = .ok (.getfield 44, 3) := by decide +kernel
theorem dP_init_88 : decode bP_init 88 = .ok (.invokespecial 50, 3) := by decide +kernel
theorem dP_init_91 : decode bP_init 91 = .ok (.putfield 53, 3) := by decide +kernel
theorem dP_init_94 : decode bP_init 94 = .ok (.return_, 1) := by decide +kernel
theorem dP_cut_0 : decode bP_cut 0 = .ok (.iload_n 1, 1) := by decide +kernel
theorem dP_cut_1 : decode bP_cut 1 = .ok (.ifCond .lt 14, 3) := by decide +kernel
theorem dP_cut_4 : decode bP_cut 4 = .ok (.iload_n 1, 1) := by decide +kernel
theorem dP_cut_5 : decode bP_cut 5 = .ok (.aload_n 0, 1) := by decide +kernel
theorem dP_cut_6 : decode bP_cut 6 = .ok (.getfield 26, 3) := by decide +kernel
theorem dP_cut_9 : decode bP_cut 9 = .ok (.getfield 121, 3) := by decide +kernel
theorem dP_cut_12 : decode bP_cut 12 = .ok (.if_icmp .le 5, 3) := by decide +kernel
theorem dP_cut_15 : decode bP_cut 15 = .ok (.iconst 0, 1) := by decide +kernel
theorem dP_cut_16 : decode bP_cut 16 = .ok (.ireturn, 1) := by decide +kernel
theorem dP_cut_17 : decode bP_cut 17 = .ok (.aload_n 0, 1) := by decide +kernel
theorem dP_cut_18 : decode bP_cut 18 = .ok (.getfield 26, 3) := by decide +kernel
theorem dP_cut_21 : decode bP_cut 21 = .ok (.iload_n 1, 1) := by decide +kernel
theorem dP_cut_22 : decode bP_cut 22 = .ok (.putfield 121, 3) := by decide +kernel
theorem dP_cut_25 : decode bP_cut 25 = .ok (.iconst 1, 1) := by decide +kernel
theorem dP_cut_26 : decode bP_cut 26 = .ok (.ireturn, 1) := by decide +kernel
theorem dP_propertyOfObject_0 : decode bP_propertyOfObject 0 = .ok (.aload_n 0, 1) := by decide +kernel
theorem dP_propertyOfObject_1 : decode bP_propertyOfObject 1 = .ok (.getfield 10, 3) := by decide +kernel
theorem dP_propertyOfObject_4 : decode bP_propertyOfObject 4 = .ok (.aload_n 0, 1) := by decide +kernel
theorem dP_propertyOfObject_5 : decode bP_propertyOfObject 5 = .ok (.getfield 19, 3) := by decide +kernel
theorem dP_propertyOfObject_8 : decode bP_propertyOfObject 8 = .ok (.iload_n 1, 1) := by decide +kernel
theorem dP_propertyOfObject_9 : decode bP_propertyOfObject 9 = .ok (.invokevirtual 91, 3) := by decide +kernel
theorem dP_propertyOfObject_12 : decode bP_propertyOfObject 12 = .ok (.iload_n 2, 1) := by decide +kernel
theorem dP_propertyOfObject_13 : decode bP_propertyOfObject 13 = .ok (.invokevirtual 150, 3) := by decide +kernel
theorem dP_propertyOfObject_16 : decode bP_propertyOfObject 16 = .ok (.ireturn, 1) := by decide +kernel
theorem dP_define_0 : decode bP_define 0 = .ok (.aload_n 0, 1) := by decide +kernel
theorem dP_define_1 : decode bP_define 1 = .ok (.getfield 19, 3) := by decide +kernel
theorem dP_define_4 : decode bP_define 4 = .ok (.getfield 57, 3) := by decide +kernel
theorem dP_define_7 : decode bP_define 7 = .ok (.ifCond .le 7, 3) := by decide +kernel
theorem dP_define_10 : decode bP_define 10 = .ok (.iconst (-1), 1) := by decide +kernel
theorem dP_define_11 : decode bP_define 11 = .ok (.goto 11, 3) := by decide +kernel
theorem dP_define_14 : decode bP_define 14 = .ok (.aload_n 0, 1) := by decide +kernel
theorem dP_define_15 : decode bP_define 15 = .ok (.getfield 10, 3) := by decide +kernel
theorem dP_define_18 : decode bP_define 18 = .ok (.iload_n 1, 1) := by decide +kernel
theorem dP_define_19 : decode bP_define 19 = .ok (.invokevirtual 61, 3) := by decide +kernel
theorem dP_define_22 : decode bP_define 22 = .ok (.ireturn, 1) := by decide +kernel
theorem dP_property_0 : decode bP_property 0 = .ok (.aload_n 0, 1) := by decide +kernel
theorem dP_property_1 : decode bP_property 1 = .ok (.getfield 19, 3) := by decide +kernel
theorem dP_property_4 : decode bP_property 4 = .ok (.getfield 57, 3) := by decide +kernel
theorem dP_property_7 : decode bP_property 7 = .ok (.ifCond .ne 22, 3) := by decide +kernel
theorem dP_property_10 : decode bP_property 10 = .ok (.aload_n 0, 1) := by decide +kernel
theorem dP_property_11 : decode bP_property 11 = .ok (.getfield 10, 3) := by decide +kernel
theorem dP_property_14 : decode bP_property 14 = .ok (.iload_n 1, 1) := by decide +kernel
theorem dP_property_15 : decode bP_property 15 = .ok (.iload_n 2, 1) := by decide +kernel
theorem dP_property_16 : decode bP_property 16 = .ok (.iload_n 3, 1) := by decide +kernel
theorem dP_property_17 : decode bP_property 17 = .ok (.iload 4, 2) := by decide +kernel
theorem dP_property_19 : decode bP_property 19 = .ok (.invokevirtual 65, 3) := by decide +kernel
theorem dP_property_22 : decode bP_property 22 = .ok (.ifCond .eq 7, 3) := by decide +kernel
theorem dP_property_25 : decode bP_property 25 = .ok (.iconst 1, 1) := by decide +kernel
theorem dP_property_26 : decode bP_property 26 = .ok (.goto 4, 3) := by decide +kernel
theorem dP_property_29 : decode bP_property 29 = .ok (.iconst 0, 1) := by decide +kernel
theorem dP_property_30 : decode bP_property 30 = .ok (.ireturn, 1) := by decide +kernel
theorem dP_make_0 : decode bP_make 0 = .ok (.aload_n 0, 1) := by decide +kernel
theorem dP_make_1 : decode bP_make 1 = .ok (.getfield 10, 3) := by decide +kernel
theorem dP_make_4 : decode bP_make 4 = .ok (.iload_n 1, 1) := by decide +kernel
theorem dP_make_5 : decode bP_make 5 = .ok (.invokevirtual 69, 3) := by decide +kernel
theorem dP_make_8 : decode bP_make 8 = .ok (.ifCond .eq 14, 3) := by decide +kernel
theorem dP_make_11 : decode bP_make 11 = .ok (.aload_n 0, 1) := by decide +kernel
theorem dP_make_12 : decode bP_make 12 = .ok (.getfield 19, 3) := by decide +kernel
theorem dP_make_15 : decode bP_make 15 = .ok (.iload_n 1, 1) := by decide +kernel
theorem dP_make_16 : decode bP_make 16 = .ok (.invokevirtual 73, 3) := by decide +kernel
theorem dP_make_19 : decode bP_make 19 = .ok (.goto 4, 3) := by decide +kernel
theorem dP_make_22 : decode bP_make 22 = .ok (.iconst (-1), 1) := by decide +kernel
theorem dP_make_23 : decode bP_make 23 = .ok (.ireturn, 1) := by decide +kernel
theorem dP_put_0 : decode bP_put 0 = .ok (.aload_n 0, 1) := by decide +kernel
theorem dP_put_1 : decode bP_put 1 = .ok (.iload_n 1, 1) := by decide +kernel
theorem dP_put_2 : decode bP_put 2 = .ok (.iload_n 2, 1) := by decide +kernel
theorem dP_put_3 : decode bP_put 3 = .ok (.invokevirtual 76, 3) := by decide +kernel
theorem dP_put_6 : decode bP_put 6 = .ok (.istore 5, 2) := by decide +kernel
theorem dP_put_8 : decode bP_put 8 = .ok (.aload_n 0, 1) := by decide +kernel
theorem dP_put_9 : decode bP_put 9 = .ok (.getfield 10, 3) := by decide +kernel
theorem dP_put_12 : decode bP_put 12 = .ok (.iload 5, 2) := by decide +kernel
theorem dP_put_14 : decode bP_put 14 = .ok (.lload_n 3, 1) := by decide +kernel
theorem dP_put_15 : decode bP_put 15 = .ok (.invokevirtual 80, 3) := by decide +kernel
theorem dP_put_18 : decode bP_put 18 = .ok (.ifCond .ne 5, 3) := by decide +kernel
theorem dP_put_21 : decode bP_put 21 = .ok (.iconst 0, 1) := by decide +kernel
theorem dP_put_22 : decode bP_put 22 = .ok (.ireturn, 1) := by decide +kernel
theorem dP_put_23 : decode bP_put 23 = .ok (.aload_n 0, 1) := by decide +kernel
theorem dP_put_24 : decode bP_put 24 = .ok (.getfield 19, 3) := by decide +kernel
theorem dP_put_27 : decode bP_put 27 = .ok (.iload_n 1, 1) := by decide +kernel
theorem dP_put_28 : decode bP_put 28 = .ok (.iload 5, 2) := by decide +kernel
theorem dP_put_30 : decode bP_put 30 = .ok (.lload_n 3, 1) := by decide +kernel
theorem dP_put_31 : decode bP_put 31 = .ok (.invokevirtual 84, 3) := by decide +kernel
theorem dP_put_34 : decode bP_put 34 = .ok (.iconst 1, 1) := by decide +kernel
theorem dP_put_35 : decode bP_put 35 = .ok (.ireturn, 1) := by decide +kernel
theorem dP_link_0 : decode bP_link 0 = .ok (.aload_n 0, 1) := by decide +kernel
theorem dP_link_1 : decode bP_link 1 = .ok (.iload_n 1, 1) := by decide +kernel
theorem dP_link_2 : decode bP_link 2 = .ok (.iload_n 2, 1) := by decide +kernel
theorem dP_link_3 : decode bP_link 3 = .ok (.invokevirtual 76, 3) := by decide +kernel
theorem dP_link_6 : decode bP_link 6 = .ok (.istore 4, 2) := by decide +kernel
theorem dP_link_8 : decode bP_link 8 = .ok (.aload_n 0, 1) := by decide +kernel
theorem dP_link_9 : decode bP_link 9 = .ok (.getfield 10, 3) := by decide +kernel
theorem dP_link_12 : decode bP_link 12 = .ok (.iload 4, 2) := by decide +kernel
theorem dP_link_14 : decode bP_link 14 = .ok (.invokevirtual 88, 3) := by decide +kernel
theorem dP_link_17 : decode bP_link 17 = .ok (.ifCond .ne 5, 3) := by decide +kernel
theorem dP_link_20 : decode bP_link 20 = .ok (.iconst 0, 1) := by decide +kernel
theorem dP_link_21 : decode bP_link 21 = .ok (.ireturn, 1) := by decide +kernel
theorem dP_link_22 : decode bP_link 22 = .ok (.iload_n 3, 1) := by decide +kernel
theorem dP_link_23 : decode bP_link 23 = .ok (.iconst (-1), 1) := by decide +kernel
theorem dP_link_24 : decode bP_link 24 = .ok (.if_icmp .eq 32, 3) := by decide +kernel
theorem dP_link_27 : decode bP_link 27 = .ok (.aload_n 0, 1) := by decide +kernel
theorem dP_link_28 : decode bP_link 28 = .ok (.getfield 10, 3) := by decide +kernel
theorem dP_link_31 : decode bP_link 31 = .ok (.aload_n 0, 1) := by decide +kernel
theorem dP_link_32 : decode bP_link 32 = .ok (.getfield 19, 3) := by decide +kernel
theorem dP_link_35 : decode bP_link 35 = .ok (.iload_n 3, 1) := by decide +kernel
theorem dP_link_36 : decode bP_link 36 = .ok (.invokevirtual 91, 3) := by decide +kernel
theorem dP_link_39 : decode bP_link 39 = .ok (.aload_n 0, 1) := by decide +kernel
theorem dP_link_40 : decode bP_link 40 = .ok (.getfield 10, 3) := by decide +kernel
theorem dP_link_43 : decode bP_link 43 = .ok (.iload 4, 2) := by decide +kernel
theorem dP_link_45 : decode bP_link 45 = .ok (.invokevirtual 94, 3) := by decide +kernel
theorem dP_link_48 : decode bP_link 48 = .ok (.invokevirtual 97, 3) := by decide +kernel
theorem dP_link_51 : decode bP_link 51 = .ok (.ifCond .ne 5, 3) := by decide +kernel
theorem dP_link_54 : decode bP_link 54 = .ok (.iconst 0, 1) := by decide +kernel
theorem dP_link_55 : decode bP_link 55 = .ok (.ireturn, 1) := by decide +kernel
theorem dP_link_56 : decode bP_link 56 = .ok (.aload_n 0, 1) := by decide +kernel
theorem dP_link_57 : decode bP_link 57 = .ok (.getfield 19, 3) := by decide +kernel
theorem dP_link_60 : decode bP_link 60 = .ok (.iload_n 1, 1) := by decide +kernel
theorem dP_link_61 : decode bP_link 61 = .ok (.iload 4, 2) := by decide +kernel
theorem dP_link_63 : decode bP_link 63 = .ok (.iload_n 3, 1) := by decide +kernel
theorem dP_link_64 : decode bP_link 64 = .ok (.invokevirtual 101, 3) := by decide +kernel
theorem dP_link_67 : decode bP_link 67 = .ok (.iconst 1, 1) := by decide +kernel
theorem dP_link_68 : decode bP_link 68 = .ok (.ireturn, 1) := by decide +kernel
theorem dP_value_0 : decode bP_value 0 = .ok (.aload_n 0, 1) := by decide +kernel
theorem dP_value_1 : decode bP_value 1 = .ok (.getfield 19, 3) := by decide +kernel
theorem dP_value_4 : decode bP_value 4 = .ok (.iload_n 1, 1) := by decide +kernel
theorem dP_value_5 : decode bP_value 5 = .ok (.aload_n 0, 1) := by decide +kernel
theorem dP_value_6 : decode bP_value 6 = .ok (.iload_n 1, 1) := by decide +kernel
theorem dP_value_7 : decode bP_value 7 = .ok (.iload_n 2, 1) := by decide +kernel
theorem dP_value_8 : decode bP_value 8 = .ok (.invokevirtual 76, 3) := by decide +kernel
theorem dP_value_11 : decode bP_value 11 = .ok (.invokevirtual 105, 3) := by decide +kernel
theorem dP_value_14 : decode bP_value 14 = .ok (.lreturn, 1) := by decide +kernel
theorem dP_linked_0 : decode bP_linked 0 = .ok (.aload_n 0, 1) := by decide +kernel
theorem dP_linked_1 : decode bP_linked 1 = .ok (.getfield 19, 3) := by decide +kernel
theorem dP_linked_4 : decode bP_linked 4 = .ok (.iload_n 1, 1) := by decide +kernel
theorem dP_linked_5 : decode bP_linked 5 = .ok (.aload_n 0, 1) := by decide +kernel
theorem dP_linked_6 : decode bP_linked 6 = .ok (.iload_n 1, 1) := by decide +kernel
theorem dP_linked_7 : decode bP_linked 7 = .ok (.iload_n 2, 1) := by decide +kernel
theorem dP_linked_8 : decode bP_linked 8 = .ok (.invokevirtual 76, 3) := by decide +kernel
theorem dP_linked_11 : decode bP_linked 11 = .ok (.invokevirtual 109, 3) := by decide +kernel
theorem dP_linked_14 : decode bP_linked 14 = .ok (.ireturn, 1) := by decide +kernel
theorem dP_classOf_0 : decode bP_classOf 0 = .ok (.aload_n 0, 1) := by decide +kernel
theorem dP_classOf_1 : decode bP_classOf 1 = .ok (.getfield 19, 3) := by decide +kernel
theorem dP_classOf_4 : decode bP_classOf 4 = .ok (.iload_n 1, 1) := by decide +kernel
theorem dP_classOf_5 : decode bP_classOf 5 = .ok (.invokevirtual 91, 3) := by decide +kernel
theorem dP_classOf_8 : decode bP_classOf 8 = .ok (.ireturn, 1) := by decide +kernel
