/-! words of the calls and of the fields: laid by wip/gen/parts.py -/
theorem u_zB : ∀ w ∈ u_ws zB zB_T 2, w ∈ bw := by
  intro w hw
  obtain ⟨k, hk, rfl⟩ := List.mem_map.mp hw
  have hk := List.mem_range.mp hk
  rcases (show k = 0 ∨ k = 1 by omega) with rfl | rfl
  · exact w_132
  · exact w_134
theorem u_zD : ∀ w ∈ u_ws zD zD_T 7, w ∈ bw := by
  intro w hw
  obtain ⟨k, hk, rfl⟩ := List.mem_map.mp hw
  have hk := List.mem_range.mp hk
  rcases (show k = 0 ∨ k = 1 ∨ k = 2 ∨ k = 3 ∨ k = 4 ∨ k = 5 ∨ k = 6 by omega) with rfl | rfl | rfl | rfl | rfl | rfl | rfl
  · exact w_83
  · exact w_85
  · exact w_87
  · exact w_89
  · exact w_91
  · exact w_93
  · exact w_95
theorem u_zF : ∀ w ∈ u_ws zF zF_T 5, w ∈ bw := by
  intro w hw
  obtain ⟨k, hk, rfl⟩ := List.mem_map.mp hw
  have hk := List.mem_range.mp hk
  rcases (show k = 0 ∨ k = 1 ∨ k = 2 ∨ k = 3 ∨ k = 4 by omega) with rfl | rfl | rfl | rfl | rfl
  · exact w_206
  · exact w_208
  · exact w_210
  · exact w_212
  · exact w_214
theorem u_zI : ∀ w ∈ u_ws zI zI_T 4, w ∈ bw := by
  intro w hw
  obtain ⟨k, hk, rfl⟩ := List.mem_map.mp hw
  have hk := List.mem_range.mp hk
  rcases (show k = 0 ∨ k = 1 ∨ k = 2 ∨ k = 3 by omega) with rfl | rfl | rfl | rfl
  · exact w_111
  · exact w_113
  · exact w_115
  · exact w_117
theorem u_zO : ∀ w ∈ u_ws zO zO_T 9, w ∈ bw := by
  intro w hw
  obtain ⟨k, hk, rfl⟩ := List.mem_map.mp hw
  have hk := List.mem_range.mp hk
  rcases (show k = 0 ∨ k = 1 ∨ k = 2 ∨ k = 3 ∨ k = 4 ∨ k = 5 ∨ k = 6 ∨ k = 7 ∨ k = 8 by omega) with rfl | rfl | rfl | rfl | rfl | rfl | rfl | rfl | rfl
  · exact w_176
  · exact w_178
  · exact w_180
  · exact w_182
  · exact w_184
  · exact w_186
  · exact w_188
  · exact w_190
  · exact w_192
theorem u_zW : ∀ w ∈ u_ws zW zW_T 3, w ∈ bw := by
  intro w hw
  obtain ⟨k, hk, rfl⟩ := List.mem_map.mp hw
  have hk := List.mem_range.mp hk
  rcases (show k = 0 ∨ k = 1 ∨ k = 2 by omega) with rfl | rfl | rfl
  · exact w_149
  · exact w_151
  · exact w_153
theorem u_zP : ∀ w ∈ u_ws zP zP_T 6, w ∈ bw := by
  intro w hw
  obtain ⟨k, hk, rfl⟩ := List.mem_map.mp hw
  have hk := List.mem_range.mp hk
  rcases (show k = 0 ∨ k = 1 ∨ k = 2 ∨ k = 3 ∨ k = 4 ∨ k = 5 by omega) with rfl | rfl | rfl | rfl | rfl | rfl
  · exact w_223
  · exact w_225
  · exact w_227
  · exact w_229
  · exact w_231
  · exact w_233
theorem u_zM : ∀ w ∈ u_ws zM zM_T 35, w ∈ bw := by
  intro w hw
  obtain ⟨k, hk, rfl⟩ := List.mem_map.mp hw
  have hk := List.mem_range.mp hk
  rcases (show k = 0 ∨ k = 1 ∨ k = 2 ∨ k = 3 ∨ k = 4 ∨ k = 5 ∨ k = 6 ∨ k = 7 ∨ k = 8 ∨ k = 9 ∨ k = 10 ∨ k = 11 ∨ k = 12 ∨ k = 13 ∨ k = 14 ∨ k = 15 ∨ k = 16 ∨ k = 17 ∨ k = 18 ∨ k = 19 ∨ k = 20 ∨ k = 21 ∨ k = 22 ∨ k = 23 ∨ k = 24 ∨ k = 25 ∨ k = 26 ∨ k = 27 ∨ k = 28 ∨ k = 29 ∨ k = 30 ∨ k = 31 ∨ k = 32 ∨ k = 33 ∨ k = 34 by omega) with rfl | rfl | rfl | rfl | rfl | rfl | rfl | rfl | rfl | rfl | rfl | rfl | rfl | rfl | rfl | rfl | rfl | rfl | rfl | rfl | rfl | rfl | rfl | rfl | rfl | rfl | rfl | rfl | rfl | rfl | rfl | rfl | rfl | rfl | rfl
  · exact w_642
  · exact w_644
  · exact w_646
  · exact w_648
  · exact w_650
  · exact w_652
  · exact w_654
  · exact w_656
  · exact w_658
  · exact w_660
  · exact w_662
  · exact w_664
  · exact w_666
  · exact w_668
  · exact w_670
  · exact w_672
  · exact w_674
  · exact w_676
  · exact w_678
  · exact w_680
  · exact w_682
  · exact w_684
  · exact w_686
  · exact w_688
  · exact w_690
  · exact w_692
  · exact w_694
  · exact w_696
  · exact w_698
  · exact w_700
  · exact w_702
  · exact w_704
  · exact w_706
  · exact w_708
  · exact w_710
theorem k_P_61 : Cw "PropertyDocuments" 61 yD_addClass bD_addClass 2 (some .int) 1 := ⟨w_240, w_241, w_242, w_53, w_243, by decide +kernel, by decide +kernel, by decide +kernel⟩
theorem k_P_65 : Cw "PropertyDocuments" 65 yD_addProperty bD_addProperty 5 (some .boolean) 4 := ⟨w_252, w_253, w_254, w_53, w_255, by decide +kernel, by decide +kernel, by decide +kernel⟩
theorem k_P_69 : Cw "PropertyDocuments" 69 yD_hasClass bD_hasClass 2 (some .boolean) 1 := ⟨w_268, w_245, w_246, w_53, w_247, by decide +kernel, by decide +kernel, by decide +kernel⟩
theorem k_P_73 : Cw "PropertyDocuments" 73 yI_add bI_add 4 (some .int) 1 := ⟨w_269, w_270, w_271, w_54, w_272, by decide +kernel, by decide +kernel, by decide +kernel⟩
theorem k_P_76 : Cw "PropertyDocuments" 76 yP_propertyOfObject bP_propertyOfObject 3 (some .int) 2 := ⟨w_297, w_299, w_3, w_52, w_300, by decide +kernel, by decide +kernel, by decide +kernel⟩
theorem k_P_80 : Cw "PropertyDocuments" 80 yD_allowsValue bD_allowsValue 4 (some .boolean) 2 := ⟨w_309, w_310, w_311, w_53, w_312, by decide +kernel, by decide +kernel, by decide +kernel⟩
theorem k_P_84 : Cw "PropertyDocuments" 84 yI_setValue bI_setValue 5 none 3 := ⟨w_321, w_274, w_275, w_54, w_276, by decide +kernel, by decide +kernel, by decide +kernel⟩
theorem k_P_88 : Cw "PropertyDocuments" 88 yD_isLink bD_isLink 2 (some .boolean) 1 := ⟨w_326, w_327, w_328, w_53, w_329, by decide +kernel, by decide +kernel, by decide +kernel⟩
theorem k_P_91 : Cw "PropertyDocuments" 91 yI_kind bI_kind 2 (some .int) 1 := ⟨w_301, w_302, w_303, w_54, w_304, by decide +kernel, by decide +kernel, by decide +kernel⟩
theorem k_P_94 : Cw "PropertyDocuments" 94 yD_target bD_target 2 (some .int) 1 := ⟨w_330, w_331, w_332, w_53, w_333, by decide +kernel, by decide +kernel, by decide +kernel⟩
theorem k_P_97 : Cw "PropertyDocuments" 97 yD_isKindOf bD_isKindOf 5 (some .boolean) 2 := ⟨w_334, w_261, w_262, w_53, w_263, by decide +kernel, by decide +kernel, by decide +kernel⟩
theorem k_P_101 : Cw "PropertyDocuments" 101 yI_setPartner bI_setPartner 4 none 3 := ⟨w_335, w_290, w_291, w_54, w_292, by decide +kernel, by decide +kernel, by decide +kernel⟩
theorem k_P_105 : Cw "PropertyDocuments" 105 yI_valueAt bI_valueAt 3 (some .long) 2 := ⟨w_340, w_341, w_342, w_54, w_343, by decide +kernel, by decide +kernel, by decide +kernel⟩
theorem k_P_109 : Cw "PropertyDocuments" 109 yI_partnerAt bI_partnerAt 3 (some .int) 2 := ⟨w_348, w_349, w_350, w_54, w_351, by decide +kernel, by decide +kernel, by decide +kernel⟩
theorem k_P_112 : Cw "PropertyDocuments" 112 yW_write bW_write 3 (some .boolean) 2 := ⟨w_368, w_369, w_370, w_56, w_371, by decide +kernel, by decide +kernel, by decide +kernel⟩
theorem k_P_118 : Cw "PropertyDocuments" 118 yB_copyFrom bB_copyFrom 2 none 1 := ⟨w_432, w_433, w_434, w_55, w_435, by decide +kernel, by decide +kernel, by decide +kernel⟩
theorem k_P_122 : Cw "PropertyDocuments" 122 yO_read bO_read 1 (some .boolean) 0 := ⟨w_443, w_444, w_445, w_57, w_446, by decide +kernel, by decide +kernel, by decide +kernel⟩
theorem k_P_126 : Cw "PropertyDocuments" 126 yF_fits bF_fits 4 (some .boolean) 1 := ⟨w_483, w_484, w_485, w_58, w_486, by decide +kernel, by decide +kernel, by decide +kernel⟩
theorem k_P_132 : Cw "PropertyDocuments" 132 yF_fill bF_fill 4 (some .int) 1 := ⟨w_548, w_549, w_550, w_58, w_551, by decide +kernel, by decide +kernel, by decide +kernel⟩
theorem k_P_142 : Cw "PropertyDocuments" 142 yB_at bB_at 2 (some .int) 1 := ⟨w_590, w_459, w_460, w_55, w_461, by decide +kernel, by decide +kernel, by decide +kernel⟩
theorem k_P_145 : Cw "PropertyDocuments" 145 yB_add bB_add 2 (some .boolean) 1 := ⟨w_595, w_386, w_387, w_55, w_388, by decide +kernel, by decide +kernel, by decide +kernel⟩
theorem k_P_147 : Cw "PropertyDocuments" 147 yB_replace bB_replace 3 (some .boolean) 2 := ⟨w_596, w_429, w_430, w_55, w_431, by decide +kernel, by decide +kernel, by decide +kernel⟩
theorem k_P_150 : Cw "PropertyDocuments" 150 yD_propertyOf bD_propertyOf 4 (some .int) 2 := ⟨w_305, w_306, w_307, w_53, w_308, by decide +kernel, by decide +kernel, by decide +kernel⟩
theorem k_B_19 : Cw "PropertyDocuments$Bytes" 19 yB_lowByte bB_lowByte 4 (some .int) 2 := ⟨w_381, w_383, w_5, w_55, w_384, by decide +kernel, by decide +kernel, by decide +kernel⟩
theorem k_B_23 : Cw "PropertyDocuments$Bytes" 23 yB_add bB_add 2 (some .boolean) 1 := ⟨w_385, w_386, w_387, w_55, w_388, by decide +kernel, by decide +kernel, by decide +kernel⟩
theorem k_B_27 : Cw "PropertyDocuments$Bytes" 27 yB_replace bB_replace 3 (some .boolean) 2 := ⟨w_428, w_429, w_430, w_55, w_431, by decide +kernel, by decide +kernel, by decide +kernel⟩
theorem k_B_31 : Cw "PropertyDocuments$Bytes" 31 yB_at bB_at 2 (some .int) 1 := ⟨w_482, w_459, w_460, w_55, w_461, by decide +kernel, by decide +kernel, by decide +kernel⟩
theorem k_B_35 : Cw "PropertyDocuments$Bytes" 35 yB_intAt bB_intAt 4 (some .int) 1 := ⟨w_566, w_479, w_480, w_55, w_481, by decide +kernel, by decide +kernel, by decide +kernel⟩
theorem k_D_34 : Cw "PropertyDocuments$Description" 34 yD_hasClass bD_hasClass 2 (some .boolean) 1 := ⟨w_244, w_245, w_246, w_53, w_247, by decide +kernel, by decide +kernel, by decide +kernel⟩
theorem k_D_38 : Cw "PropertyDocuments$Description" 38 yD_isTaken bD_isTaken 4 (some .boolean) 2 := ⟨w_256, w_258, w_0, w_53, w_259, by decide +kernel, by decide +kernel, by decide +kernel⟩
theorem k_D_42 : Cw "PropertyDocuments$Description" 42 yD_isKindOf bD_isKindOf 5 (some .boolean) 2 := ⟨w_260, w_261, w_262, w_53, w_263, by decide +kernel, by decide +kernel, by decide +kernel⟩
theorem k_D_45 : Cw "PropertyDocuments$Description" 45 yD_hasProperty bD_hasProperty 2 (some .boolean) 1 := ⟨w_317, w_318, w_319, w_53, w_320, by decide +kernel, by decide +kernel, by decide +kernel⟩
theorem k_D_48 : Cw "PropertyDocuments$Description" 48 yD_sort bD_sort 2 (some .int) 1 := ⟨w_313, w_314, w_315, w_53, w_316, by decide +kernel, by decide +kernel, by decide +kernel⟩
theorem k_F_36 : Cw "PropertyDocuments$Fitting" 36 yF_findMeant bF_findMeant 5 (some .int) 1 := ⟨w_487, w_489, w_16, w_58, w_490, by decide +kernel, by decide +kernel, by decide +kernel⟩
theorem k_F_40 : Cw "PropertyDocuments$Fitting" 40 yF_elementsFit bF_elementsFit 5 (some .boolean) 1 := ⟨w_522, w_524, w_20, w_58, w_525, by decide +kernel, by decide +kernel, by decide +kernel⟩
theorem k_F_47 : Cw "PropertyDocuments$Fitting" 47 yO_holder bO_holder 2 (some .int) 1 := ⟨w_491, w_492, w_493, w_57, w_494, by decide +kernel, by decide +kernel, by decide +kernel⟩
theorem k_F_50 : Cw "PropertyDocuments$Fitting" 50 yO_isMark bO_isMark 2 (some .boolean) 1 := ⟨w_499, w_500, w_501, w_57, w_502, by decide +kernel, by decide +kernel, by decide +kernel⟩
theorem k_F_53 : Cw "PropertyDocuments$Fitting" 53 yF_markedClass bF_markedClass 4 (some .int) 1 := ⟨w_507, w_509, w_19, w_58, w_510, by decide +kernel, by decide +kernel, by decide +kernel⟩
theorem k_F_56 : Cw "PropertyDocuments$Fitting" 56 yD_isKindOf bD_isKindOf 5 (some .boolean) 2 := ⟨w_521, w_261, w_262, w_53, w_263, by decide +kernel, by decide +kernel, by decide +kernel⟩
theorem k_F_62 : Cw "PropertyDocuments$Fitting" 62 yO_content bO_content 2 (some .int) 1 := ⟨w_511, w_512, w_513, w_57, w_514, by decide +kernel, by decide +kernel, by decide +kernel⟩
theorem k_F_65 : Cw "PropertyDocuments$Fitting" 65 yO_type bO_type 2 (some .int) 1 := ⟨w_515, w_516, w_517, w_57, w_518, by decide +kernel, by decide +kernel, by decide +kernel⟩
theorem k_F_68 : Cw "PropertyDocuments$Fitting" 68 yB_intAt bB_intAt 4 (some .int) 1 := ⟨w_519, w_479, w_480, w_55, w_481, by decide +kernel, by decide +kernel, by decide +kernel⟩
theorem k_F_73 : Cw "PropertyDocuments$Fitting" 73 yB_at bB_at 2 (some .int) 1 := ⟨w_520, w_459, w_460, w_55, w_461, by decide +kernel, by decide +kernel, by decide +kernel⟩
theorem k_F_76 : Cw "PropertyDocuments$Fitting" 76 yF_propertyFor bF_propertyFor 4 (some .int) 1 := ⟨w_526, w_528, w_21, w_58, w_529, by decide +kernel, by decide +kernel, by decide +kernel⟩
theorem k_F_79 : Cw "PropertyDocuments$Fitting" 79 yD_allowsType bD_allowsType 3 (some .boolean) 2 := ⟨w_535, w_536, w_537, w_53, w_538, by decide +kernel, by decide +kernel, by decide +kernel⟩
theorem k_F_82 : Cw "PropertyDocuments$Fitting" 82 yF_wantInside bF_wantInside 4 none 2 := ⟨w_539, w_541, w_22, w_58, w_542, by decide +kernel, by decide +kernel, by decide +kernel⟩
theorem k_F_86 : Cw "PropertyDocuments$Fitting" 86 yO_inner bO_inner 2 (some .int) 1 := ⟨w_543, w_544, w_545, w_57, w_546, by decide +kernel, by decide +kernel, by decide +kernel⟩
theorem k_F_89 : Cw "PropertyDocuments$Fitting" 89 yD_target bD_target 2 (some .int) 1 := ⟨w_547, w_331, w_332, w_53, w_333, by decide +kernel, by decide +kernel, by decide +kernel⟩
theorem k_F_92 : Cw "PropertyDocuments$Fitting" 92 yO_letter bO_letter 3 (some .int) 1 := ⟨w_530, w_531, w_532, w_57, w_533, by decide +kernel, by decide +kernel, by decide +kernel⟩
theorem k_F_95 : Cw "PropertyDocuments$Fitting" 95 yD_propertyOf bD_propertyOf 4 (some .int) 2 := ⟨w_534, w_306, w_307, w_53, w_308, by decide +kernel, by decide +kernel, by decide +kernel⟩
theorem k_F_104 : Cw "PropertyDocuments$Fitting" 104 yI_add bI_add 4 (some .int) 1 := ⟨w_552, w_270, w_271, w_54, w_272, by decide +kernel, by decide +kernel, by decide +kernel⟩
theorem k_F_107 : Cw "PropertyDocuments$Fitting" 107 yF_fillProperty bF_fillProperty 6 none 3 := ⟨w_553, w_555, w_23, w_58, w_556, by decide +kernel, by decide +kernel, by decide +kernel⟩
theorem k_F_111 : Cw "PropertyDocuments$Fitting" 111 yD_isLink bD_isLink 2 (some .boolean) 1 := ⟨w_557, w_327, w_328, w_53, w_329, by decide +kernel, by decide +kernel, by decide +kernel⟩
theorem k_F_114 : Cw "PropertyDocuments$Fitting" 114 yF_numberIn bF_numberIn 3 (some .long) 1 := ⟨w_558, w_560, w_24, w_58, w_561, by decide +kernel, by decide +kernel, by decide +kernel⟩
theorem k_F_118 : Cw "PropertyDocuments$Fitting" 118 yI_setValue bI_setValue 5 none 3 := ⟨w_568, w_274, w_275, w_54, w_276, by decide +kernel, by decide +kernel, by decide +kernel⟩
theorem k_F_122 : Cw "PropertyDocuments$Fitting" 122 yI_setPartner bI_setPartner 4 none 3 := ⟨w_569, w_290, w_291, w_54, w_292, by decide +kernel, by decide +kernel, by decide +kernel⟩
theorem k_F_126 : Cw "PropertyDocuments$Fitting" 126 yB_longAt bB_longAt 6 (some .long) 1 := ⟨w_562, w_563, w_564, w_55, w_565, by decide +kernel, by decide +kernel, by decide +kernel⟩
theorem k_I_26 : Cw "PropertyDocuments$Instances" 26 yI_has bI_has 2 (some .boolean) 1 := ⟨w_281, w_282, w_283, w_54, w_284, by decide +kernel, by decide +kernel, by decide +kernel⟩
theorem k_I_30 : Cw "PropertyDocuments$Instances" 30 yI_setValue bI_setValue 5 none 3 := ⟨w_273, w_274, w_275, w_54, w_276, by decide +kernel, by decide +kernel, by decide +kernel⟩
theorem k_I_34 : Cw "PropertyDocuments$Instances" 34 yI_setPartner bI_setPartner 4 none 3 := ⟨w_289, w_290, w_291, w_54, w_292, by decide +kernel, by decide +kernel, by decide +kernel⟩
theorem k_I_38 : Cw "PropertyDocuments$Instances" 38 yI_hasCell bI_hasCell 3 (some .boolean) 2 := ⟨w_277, w_279, w_1, w_54, w_280, by decide +kernel, by decide +kernel, by decide +kernel⟩
theorem k_I_42 : Cw "PropertyDocuments$Instances" 42 yI_cell bI_cell 3 (some .int) 2 := ⟨w_285, w_287, w_2, w_54, w_288, by decide +kernel, by decide +kernel, by decide +kernel⟩
theorem k_O_41 : Cw "PropertyDocuments$Outline" 41 yO_readDocument bO_readDocument 6 (some .int) 2 := ⟨w_447, w_449, w_11, w_57, w_450, by decide +kernel, by decide +kernel, by decide +kernel⟩
theorem k_O_50 : Cw "PropertyDocuments$Outline" 50 yB_holds bB_holds 3 (some .boolean) 2 := ⟨w_451, w_452, w_453, w_55, w_454, by decide +kernel, by decide +kernel, by decide +kernel⟩
theorem k_O_59 : Cw "PropertyDocuments$Outline" 59 yB_at bB_at 2 (some .int) 1 := ⟨w_458, w_459, w_460, w_55, w_461, by decide +kernel, by decide +kernel, by decide +kernel⟩
theorem k_O_63 : Cw "PropertyDocuments$Outline" 63 yO_readElement bO_readElement 7 (some .int) 3 := ⟨w_462, w_464, w_12, w_57, w_465, by decide +kernel, by decide +kernel, by decide +kernel⟩
theorem k_O_67 : Cw "PropertyDocuments$Outline" 67 yB_intAt bB_intAt 4 (some .int) 1 := ⟨w_478, w_479, w_480, w_55, w_481, by decide +kernel, by decide +kernel, by decide +kernel⟩
theorem k_O_70 : Cw "PropertyDocuments$Outline" 70 yO_endOfText bO_endOfText 4 (some .int) 1 := ⟨w_466, w_468, w_13, w_57, w_469, by decide +kernel, by decide +kernel, by decide +kernel⟩
theorem k_O_73 : Cw "PropertyDocuments$Outline" 73 yO_readContent bO_readContent 4 (some .int) 3 := ⟨w_470, w_472, w_14, w_57, w_473, by decide +kernel, by decide +kernel, by decide +kernel⟩
theorem k_O_76 : Cw "PropertyDocuments$Outline" 76 yO_readText bO_readText 5 (some .int) 1 := ⟨w_474, w_476, w_15, w_57, w_477, by decide +kernel, by decide +kernel, by decide +kernel⟩
theorem k_O_79 : Cw "PropertyDocuments$Outline" 79 yO_hasElement bO_hasElement 2 (some .boolean) 1 := ⟨w_495, w_497, w_17, w_57, w_498, by decide +kernel, by decide +kernel, by decide +kernel⟩
theorem k_O_83 : Cw "PropertyDocuments$Outline" 83 yO_nameByte bO_nameByte 3 (some .int) 2 := ⟨w_503, w_505, w_18, w_57, w_506, by decide +kernel, by decide +kernel, by decide +kernel⟩
theorem k_W_30 : Cw "PropertyDocuments$Writer" 30 yW_writeDocument bW_writeDocument 8 (some .boolean) 3 := ⟨w_372, w_374, w_4, w_56, w_375, by decide +kernel, by decide +kernel, by decide +kernel⟩
theorem k_W_34 : Cw "PropertyDocuments$Writer" 34 yI_kind bI_kind 2 (some .int) 1 := ⟨w_376, w_302, w_303, w_54, w_304, by decide +kernel, by decide +kernel, by decide +kernel⟩
theorem k_W_40 : Cw "PropertyDocuments$Writer" 40 yB_addNumber bB_addNumber 6 (some .boolean) 2 := ⟨w_377, w_378, w_379, w_55, w_380, by decide +kernel, by decide +kernel, by decide +kernel⟩
theorem k_W_44 : Cw "PropertyDocuments$Writer" 44 yW_writeMark bW_writeMark 2 (some .boolean) 1 := ⟨w_389, w_391, w_6, w_56, w_392, by decide +kernel, by decide +kernel, by decide +kernel⟩
theorem k_W_48 : Cw "PropertyDocuments$Writer" 48 yD_isKindOf bD_isKindOf 5 (some .boolean) 2 := ⟨w_395, w_261, w_262, w_53, w_263, by decide +kernel, by decide +kernel, by decide +kernel⟩
theorem k_W_54 : Cw "PropertyDocuments$Writer" 54 yW_writeOwnProperties bW_writeOwnProperties 6 (some .boolean) 3 := ⟨w_396, w_398, w_7, w_56, w_399, by decide +kernel, by decide +kernel, by decide +kernel⟩
theorem k_W_57 : Cw "PropertyDocuments$Writer" 57 yB_add bB_add 2 (some .boolean) 1 := ⟨w_393, w_386, w_387, w_55, w_388, by decide +kernel, by decide +kernel, by decide +kernel⟩
theorem k_W_60 : Cw "PropertyDocuments$Writer" 60 yB_replaceNumber bB_replaceNumber 6 none 3 := ⟨w_424, w_425, w_426, w_55, w_427, by decide +kernel, by decide +kernel, by decide +kernel⟩
theorem k_W_66 : Cw "PropertyDocuments$Writer" 66 yD_isOwn bD_isOwn 3 (some .boolean) 2 := ⟨w_400, w_401, w_402, w_53, w_403, by decide +kernel, by decide +kernel, by decide +kernel⟩
theorem k_W_69 : Cw "PropertyDocuments$Writer" 69 yW_writeProperty bW_writeProperty 8 (some .boolean) 3 := ⟨w_404, w_406, w_8, w_56, w_407, by decide +kernel, by decide +kernel, by decide +kernel⟩
theorem k_W_72 : Cw "PropertyDocuments$Writer" 72 yD_letter bD_letter 2 (some .int) 1 := ⟨w_408, w_409, w_410, w_53, w_411, by decide +kernel, by decide +kernel, by decide +kernel⟩
theorem k_W_75 : Cw "PropertyDocuments$Writer" 75 yI_valueAt bI_valueAt 3 (some .long) 2 := ⟨w_412, w_341, w_342, w_54, w_343, by decide +kernel, by decide +kernel, by decide +kernel⟩
theorem k_W_79 : Cw "PropertyDocuments$Writer" 79 yD_sort bD_sort 2 (some .int) 1 := ⟨w_413, w_314, w_315, w_53, w_316, by decide +kernel, by decide +kernel, by decide +kernel⟩
theorem k_W_82 : Cw "PropertyDocuments$Writer" 82 yW_writeHead bW_writeHead 3 (some .boolean) 2 := ⟨w_414, w_416, w_9, w_56, w_417, by decide +kernel, by decide +kernel, by decide +kernel⟩
theorem k_W_85 : Cw "PropertyDocuments$Writer" 85 yI_partnerAt bI_partnerAt 3 (some .int) 2 := ⟨w_418, w_349, w_350, w_54, w_351, by decide +kernel, by decide +kernel, by decide +kernel⟩
theorem k_W_89 : Cw "PropertyDocuments$Writer" 89 yD_target bD_target 2 (some .int) 1 := ⟨w_419, w_331, w_332, w_53, w_333, by decide +kernel, by decide +kernel, by decide +kernel⟩
theorem k_W_92 : Cw "PropertyDocuments$Writer" 92 yW_writeLink bW_writeLink 5 (some .boolean) 4 := ⟨w_420, w_422, w_10, w_56, w_423, by decide +kernel, by decide +kernel, by decide +kernel⟩
theorem k_L_13 : Cw "PropertyDocumentsLaw" 13 yP_define bP_define 2 (some .int) 1 := ⟨w_236, w_237, w_238, w_52, w_239, by decide +kernel, by decide +kernel, by decide +kernel⟩
theorem k_L_17 : Cw "PropertyDocumentsLaw" 17 yM_define bM_define 2 (some .int) 1 := ⟨w_713, w_714, w_715, w_59, w_716, by decide +kernel, by decide +kernel, by decide +kernel⟩
theorem k_L_18 : Cw "PropertyDocumentsLaw" 18 yP_property bP_property 5 (some .boolean) 4 := ⟨w_248, w_249, w_250, w_52, w_251, by decide +kernel, by decide +kernel, by decide +kernel⟩
theorem k_L_22 : Cw "PropertyDocumentsLaw" 22 yM_property bM_property 6 (some .boolean) 4 := ⟨w_721, w_722, w_723, w_59, w_724, by decide +kernel, by decide +kernel, by decide +kernel⟩
theorem k_L_23 : Cw "PropertyDocumentsLaw" 23 yP_make bP_make 2 (some .int) 1 := ⟨w_264, w_265, w_266, w_52, w_267, by decide +kernel, by decide +kernel, by decide +kernel⟩
theorem k_L_26 : Cw "PropertyDocumentsLaw" 26 yM_make bM_make 2 (some .int) 1 := ⟨w_737, w_738, w_739, w_59, w_740, by decide +kernel, by decide +kernel, by decide +kernel⟩
theorem k_L_29 : Cw "PropertyDocumentsLaw" 29 yP_put bP_put 6 (some .boolean) 3 := ⟨w_293, w_294, w_295, w_52, w_296, by decide +kernel, by decide +kernel, by decide +kernel⟩
theorem k_L_33 : Cw "PropertyDocumentsLaw" 33 yM_put bM_put 6 (some .boolean) 3 := ⟨w_746, w_747, w_748, w_59, w_749, by decide +kernel, by decide +kernel, by decide +kernel⟩
theorem k_L_34 : Cw "PropertyDocumentsLaw" 34 yP_link bP_link 5 (some .boolean) 3 := ⟨w_322, w_323, w_324, w_52, w_325, by decide +kernel, by decide +kernel, by decide +kernel⟩
theorem k_L_38 : Cw "PropertyDocumentsLaw" 38 yM_link bM_link 5 (some .boolean) 3 := ⟨w_760, w_761, w_762, w_59, w_763, by decide +kernel, by decide +kernel, by decide +kernel⟩
theorem k_L_39 : Cw "PropertyDocumentsLaw" 39 yP_value bP_value 3 (some .long) 2 := ⟨w_336, w_337, w_338, w_52, w_339, by decide +kernel, by decide +kernel, by decide +kernel⟩
theorem k_L_43 : Cw "PropertyDocumentsLaw" 43 yM_value bM_value 4 (some .long) 2 := ⟨w_764, w_765, w_766, w_59, w_767, by decide +kernel, by decide +kernel, by decide +kernel⟩
theorem k_L_44 : Cw "PropertyDocumentsLaw" 44 yP_linked bP_linked 3 (some .int) 2 := ⟨w_344, w_345, w_346, w_52, w_347, by decide +kernel, by decide +kernel, by decide +kernel⟩
theorem k_L_48 : Cw "PropertyDocumentsLaw" 48 yM_linked bM_linked 4 (some .int) 2 := ⟨w_768, w_769, w_770, w_59, w_771, by decide +kernel, by decide +kernel, by decide +kernel⟩
theorem k_L_49 : Cw "PropertyDocumentsLaw" 49 yP_classOf bP_classOf 2 (some .int) 1 := ⟨w_352, w_353, w_354, w_52, w_355, by decide +kernel, by decide +kernel, by decide +kernel⟩
theorem k_L_52 : Cw "PropertyDocumentsLaw" 52 yM_classOf bM_classOf 2 (some .int) 1 := ⟨w_772, w_773, w_774, w_59, w_775, by decide +kernel, by decide +kernel, by decide +kernel⟩
theorem k_L_53 : Cw "PropertyDocumentsLaw" 53 yP_objects bP_objects 1 (some .int) 0 := ⟨w_356, w_357, w_358, w_52, w_359, by decide +kernel, by decide +kernel, by decide +kernel⟩
theorem k_L_57 : Cw "PropertyDocumentsLaw" 57 yM_objects bM_objects 1 (some .int) 0 := ⟨w_776, w_777, w_778, w_59, w_779, by decide +kernel, by decide +kernel, by decide +kernel⟩
theorem k_L_58 : Cw "PropertyDocumentsLaw" 58 yP_drop bP_drop 1 none 0 := ⟨w_360, w_361, w_362, w_52, w_363, by decide +kernel, by decide +kernel, by decide +kernel⟩
theorem k_L_61 : Cw "PropertyDocumentsLaw" 61 yM_drop bM_drop 1 none 0 := ⟨w_780, w_781, w_782, w_59, w_783, by decide +kernel, by decide +kernel, by decide +kernel⟩
theorem k_L_62 : Cw "PropertyDocumentsLaw" 62 yP_encode bP_encode 3 (some .int) 2 := ⟨w_364, w_365, w_366, w_52, w_367, by decide +kernel, by decide +kernel, by decide +kernel⟩
theorem k_L_65 : Cw "PropertyDocumentsLaw" 65 yM_encode bM_encode 5 (some .int) 2 := ⟨w_784, w_785, w_786, w_59, w_787, by decide +kernel, by decide +kernel, by decide +kernel⟩
theorem k_L_66 : Cw "PropertyDocumentsLaw" 66 yP_decode bP_decode 2 (some .int) 1 := ⟨w_439, w_440, w_441, w_52, w_442, by decide +kernel, by decide +kernel, by decide +kernel⟩
theorem k_L_69 : Cw "PropertyDocumentsLaw" 69 yM_decode bM_decode 4 (some .int) 1 := ⟨w_854, w_855, w_856, w_59, w_857, by decide +kernel, by decide +kernel, by decide +kernel⟩
theorem k_L_70 : Cw "PropertyDocumentsLaw" 70 yP_sound bP_sound 1 (some .boolean) 0 := ⟨w_570, w_571, w_572, w_52, w_573, by decide +kernel, by decide +kernel, by decide +kernel⟩
theorem k_L_74 : Cw "PropertyDocumentsLaw" 74 yM_sound bM_sound 1 (some .boolean) 0 := ⟨w_814, w_815, w_816, w_59, w_817, by decide +kernel, by decide +kernel, by decide +kernel⟩
theorem k_L_75 : Cw "PropertyDocumentsLaw" 75 yP_depth bP_depth 1 (some .int) 0 := ⟨w_574, w_575, w_576, w_52, w_577, by decide +kernel, by decide +kernel, by decide +kernel⟩
theorem k_L_78 : Cw "PropertyDocumentsLaw" 78 yM_depth bM_depth 3 (some .int) 0 := ⟨w_846, w_847, w_848, w_59, w_849, by decide +kernel, by decide +kernel, by decide +kernel⟩
theorem k_L_79 : Cw "PropertyDocumentsLaw" 79 yP_elements bP_elements 1 (some .int) 0 := ⟨w_578, w_579, w_580, w_52, w_581, by decide +kernel, by decide +kernel, by decide +kernel⟩
theorem k_L_82 : Cw "PropertyDocumentsLaw" 82 yM_elements bM_elements 1 (some .int) 0 := ⟨w_850, w_851, w_852, w_59, w_853, by decide +kernel, by decide +kernel, by decide +kernel⟩
theorem k_L_83 : Cw "PropertyDocumentsLaw" 83 yP_size bP_size 1 (some .int) 0 := ⟨w_582, w_583, w_584, w_52, w_585, by decide +kernel, by decide +kernel, by decide +kernel⟩
theorem k_L_86 : Cw "PropertyDocumentsLaw" 86 yM_size bM_size 1 (some .int) 0 := ⟨w_886, w_887, w_888, w_59, w_889, by decide +kernel, by decide +kernel, by decide +kernel⟩
theorem k_L_87 : Cw "PropertyDocumentsLaw" 87 yP_byteAt bP_byteAt 2 (some .int) 1 := ⟨w_586, w_587, w_588, w_52, w_589, by decide +kernel, by decide +kernel, by decide +kernel⟩
theorem k_L_90 : Cw "PropertyDocumentsLaw" 90 yM_byteAt bM_byteAt 2 (some .int) 1 := ⟨w_890, w_891, w_892, w_59, w_893, by decide +kernel, by decide +kernel, by decide +kernel⟩
theorem k_L_91 : Cw "PropertyDocumentsLaw" 91 yP_poke bP_poke 3 (some .boolean) 2 := ⟨w_591, w_592, w_593, w_52, w_594, by decide +kernel, by decide +kernel, by decide +kernel⟩
theorem k_L_95 : Cw "PropertyDocumentsLaw" 95 yM_poke bM_poke 3 (some .boolean) 2 := ⟨w_894, w_895, w_896, w_59, w_897, by decide +kernel, by decide +kernel, by decide +kernel⟩
theorem k_L_96 : Cw "PropertyDocumentsLaw" 96 yP_cut bP_cut 2 (some .boolean) 1 := ⟨w_597, w_598, w_599, w_52, w_600, by decide +kernel, by decide +kernel, by decide +kernel⟩
theorem k_L_100 : Cw "PropertyDocumentsLaw" 100 yM_cut bM_cut 2 (some .boolean) 1 := ⟨w_898, w_899, w_900, w_59, w_901, by decide +kernel, by decide +kernel, by decide +kernel⟩
theorem k_M_84 : Cw "PropertyDocumentsModel" 84 yM_isKind bM_isKind 5 (some .boolean) 2 := ⟨w_725, w_727, w_26, w_59, w_728, by decide +kernel, by decide +kernel, by decide +kernel⟩
theorem k_M_91 : Cw "PropertyDocumentsModel" 91 yM_isOf bM_isOf 3 (some .boolean) 2 := ⟨w_733, w_735, w_28, w_59, w_736, by decide +kernel, by decide +kernel, by decide +kernel⟩
theorem k_M_94 : Cw "PropertyDocumentsModel" 94 yM_isClass bM_isClass 2 (some .boolean) 1 := ⟨w_717, w_719, w_25, w_59, w_720, by decide +kernel, by decide +kernel, by decide +kernel⟩
theorem k_M_101 : Cw "PropertyDocumentsModel" 101 yM_find bM_find 5 (some .int) 2 := ⟨w_729, w_731, w_27, w_59, w_732, by decide +kernel, by decide +kernel, by decide +kernel⟩
theorem k_M_107 : Cw "PropertyDocumentsModel" 107 yM_clear bM_clear 3 none 1 := ⟨w_741, w_743, w_29, w_59, w_744, by decide +kernel, by decide +kernel, by decide +kernel⟩
theorem k_M_111 : Cw "PropertyDocumentsModel" 111 yM_isObject bM_isObject 2 (some .boolean) 1 := ⟨w_754, w_756, w_31, w_59, w_757, by decide +kernel, by decide +kernel, by decide +kernel⟩
theorem k_M_114 : Cw "PropertyDocumentsModel" 114 yM_slot bM_slot 3 (some .int) 2 := ⟨w_750, w_752, w_30, w_59, w_753, by decide +kernel, by decide +kernel, by decide +kernel⟩
theorem k_M_130 : Cw "PropertyDocumentsModel" 130 yM_write bM_write 2 none 1 := ⟨w_797, w_799, w_34, w_59, w_800, by decide +kernel, by decide +kernel, by decide +kernel⟩
theorem k_M_136 : Cw "PropertyDocumentsModel" 136 yM_writeNumber bM_writeNumber 5 none 2 := ⟨w_792, w_794, w_33, w_59, w_795, by decide +kernel, by decide +kernel, by decide +kernel⟩
theorem k_M_142 : Cw "PropertyDocumentsModel" 142 yM_begin bM_begin 3 none 2 := ⟨w_788, w_790, w_32, w_59, w_791, by decide +kernel, by decide +kernel, by decide +kernel⟩
theorem k_M_146 : Cw "PropertyDocumentsModel" 146 yM_nth bM_nth 6 (some .int) 2 := ⟨w_802, w_804, w_35, w_59, w_805, by decide +kernel, by decide +kernel, by decide +kernel⟩
theorem k_M_149 : Cw "PropertyDocumentsModel" 149 yM_end bM_end 3 none 0 := ⟨w_806, w_808, w_36, w_59, w_809, by decide +kernel, by decide +kernel, by decide +kernel⟩
theorem k_M_152 : Cw "PropertyDocumentsModel" 152 yM_element bM_element 6 none 2 := ⟨w_810, w_812, w_37, w_59, w_813, by decide +kernel, by decide +kernel, by decide +kernel⟩
theorem k_M_164 : Cw "PropertyDocumentsModel" 164 yM_next bM_next 1 (some .int) 0 := ⟨w_830, w_832, w_41, w_59, w_833, by decide +kernel, by decide +kernel, by decide +kernel⟩
theorem k_M_174 : Cw "PropertyDocumentsModel" 174 yM_skip bM_skip 3 none 1 := ⟨w_826, w_828, w_40, w_59, w_829, by decide +kernel, by decide +kernel, by decide +kernel⟩
theorem k_M_180 : Cw "PropertyDocumentsModel" 180 yM_line bM_line 3 (some .int) 0 := ⟨w_838, w_840, w_43, w_59, w_841, by decide +kernel, by decide +kernel, by decide +kernel⟩
theorem k_M_183 : Cw "PropertyDocumentsModel" 183 yM_number bM_number 2 (some .int) 1 := ⟨w_842, w_844, w_44, w_59, w_845, by decide +kernel, by decide +kernel, by decide +kernel⟩
theorem k_M_187 : Cw "PropertyDocumentsModel" 187 yM_readDocument bM_readDocument 1 none 0 := ⟨w_822, w_824, w_39, w_59, w_825, by decide +kernel, by decide +kernel, by decide +kernel⟩
theorem k_M_190 : Cw "PropertyDocumentsModel" 190 yM_readElement bM_readElement 4 none 1 := ⟨w_834, w_836, w_42, w_59, w_837, by decide +kernel, by decide +kernel, by decide +kernel⟩
theorem k_M_193 : Cw "PropertyDocumentsModel" 193 yM_read bM_read 2 (some .boolean) 0 := ⟨w_818, w_820, w_38, w_59, w_821, by decide +kernel, by decide +kernel, by decide +kernel⟩
theorem k_M_197 : Cw "PropertyDocumentsModel" 197 yM_isMark bM_isMark 2 (some .boolean) 1 := ⟨w_866, w_868, w_47, w_59, w_869, by decide +kernel, by decide +kernel, by decide +kernel⟩
theorem k_M_200 : Cw "PropertyDocumentsModel" 200 yM_mean bM_mean 5 (some .boolean) 1 := ⟨w_862, w_864, w_46, w_59, w_865, by decide +kernel, by decide +kernel, by decide +kernel⟩
theorem k_M_203 : Cw "PropertyDocumentsModel" 203 yM_about bM_about 2 (some .int) 1 := ⟨w_870, w_872, w_48, w_59, w_873, by decide +kernel, by decide +kernel, by decide +kernel⟩
theorem k_M_206 : Cs "PropertyDocumentsModel" 206 yM_typeFits bM_typeFits 2 (some .boolean) 2 := ⟨w_874, w_875, w_59, w_876, by decide +kernel, by decide +kernel, by decide +kernel⟩
theorem k_M_211 : Cw "PropertyDocumentsModel" 211 yM_long64 bM_long64 2 (some .long) 1 := ⟨w_881, w_883, w_50, w_59, w_884, by decide +kernel, by decide +kernel, by decide +kernel⟩
theorem k_M_215 : Cw "PropertyDocumentsModel" 215 yM_fits bM_fits 5 (some .boolean) 1 := ⟨w_858, w_860, w_45, w_59, w_861, by decide +kernel, by decide +kernel, by decide +kernel⟩
theorem k_M_218 : Cw "PropertyDocumentsModel" 218 yM_take bM_take 5 none 2 := ⟨w_877, w_879, w_49, w_59, w_880, by decide +kernel, by decide +kernel, by decide +kernel⟩
theorem w_max1 : Cond.methodLink "PropertyDocuments$Outline" 54 Lib.Math.max.name ∈ bw := w_455
theorem w_max2 : Cond.static Lib.Math.max.name ∈ bw := w_456
theorem w_max3 : Cond.initialized "java/lang/Math" ∈ bw := w_61
theorem w_max4 : Cond.code Lib.Math.max.name Lib.Math.max.code 2 (some .int) ∈ bw := w_457
theorem w_cp1 : Cond.methodLink "PropertyDocuments$Bytes" 40 arraycopyName ∈ bw := w_436
theorem w_cp2 : Cond.native arraycopyName ∈ bw := w_438
theorem w_cp3 : Cond.static arraycopyName ∈ bw := w_437
theorem w_cp4 : Cond.initialized "java/lang/System" ∈ bw := w_60
