/-! THE LAW'S LOOP -/
section
variable {E : XE} {d : Nat} {Q : XQt}
theorem law_end {I : Iv} {J : Jv} {i : Nat} (hE : E.1 ≤ 448) (hi : i ≤ 455) (h : E.1 < i + 7) (hQ : Q (some (.int 1)) I J) : X E (d + 13) 195 18 [.ref xScr, .ref 0, .ref 157, .int (o i)] [] I J Q := by
  have e : (o E.1 - 7).toInt = (E.1 : Int) - 7 := by
    rw [ti_sub (by rw [o_toInt (by omega), show (7 : Int32).toInt = 7 from rfl]; omega), o_toInt (by omega)]
    rfl
  have z : (E.1 : Int) - 7 < (i : Int) := by omega
  rw [eL_law_18]
  simp (disch := first | omega | (simp only [nar_0, nar_1, nar_b, and_self, Nat.reduceLeDiff, Nat.reduceLT]; done) | fail) only [eL_law_20, eL_law_29, eL_law_165, eL_law_170, eL_law_179, eL_law_184, eL_law_198, eL_law_203, eL_law_212, eL_law_217, eL_law_231, eL_law_236, eL_law_245, eL_law_250, eL_law_264, eL_law_269, eL_law_274, eL_law_279, eL_law_284, eL_law_293, eL_law_298, eL_law_303, eL_law_308, eL_law_313, eL_law_327, eL_law_332, eL_law_337, eL_law_342, eL_law_351, eL_law_356, eL_law_361, eL_law_366, eL_law_380, eL_law_385, eL_law_390, eL_law_395, eL_law_400, eL_law_406, eL_law_415, eL_law_420, eL_law_425, eL_law_430, eL_law_435, eL_law_441, eL_law_455, eL_law_460, eL_law_469, eL_law_474, eL_law_488, eL_law_493, eL_law_502, eL_law_513, eL_law_522, eL_law_527, eL_law_536, eL_law_547, eL_law_561, eL_law_570, eL_law_584, eL_law_593, eL_law_607, eL_law_612, eL_law_621, eL_law_626, eL_law_640, eL_law_645, eL_law_654, eL_law_659, eL_law_673, eL_law_678, eL_law_687, eL_law_692, eL_law_706, eL_law_715, eL_law_729, eL_law_738, eL_law_752, eL_law_757, eL_law_766, eL_law_771, eL_law_785, eL_law_790, eL_law_799, eL_law_804, eL_law_818, eL_law_827, eL_law_841, eL_law_850, eL_law_864, eL_law_873, eL_law_887, eL_law_896, eL_law_910, eL_law_915, eL_law_920, eL_law_929, eL_law_934, eL_law_939, eL_law_953, eL_law_958, eL_law_967, eL_law_972, eL_law_986, eL_law_995, eL_law_1010, eL_law_1019, eL_law_1033, eL_law_1042, eL_law_1056, eL_law_1065, eL_law_19, eL_law_21, eL_law_23, eL_law_24, eL_law_27, eL_law_28, eL_law_30, eL_law_32, eL_law_160, eL_law_161, eL_law_162, eL_law_163, eL_law_164, eL_law_166, eL_law_167, eL_law_168, eL_law_169, eL_law_171, eL_law_174, eL_law_175, eL_law_176, eL_law_177, eL_law_178, eL_law_180, eL_law_181, eL_law_182, eL_law_183, eL_law_185, eL_law_188, eL_law_191, eL_law_192, eL_law_193, eL_law_194, eL_law_195, eL_law_196, eL_law_197, eL_law_199, eL_law_200, eL_law_201, eL_law_202, eL_law_204, eL_law_207, eL_law_208, eL_law_209, eL_law_210, eL_law_211, eL_law_213, eL_law_214, eL_law_215, eL_law_216, eL_law_218, eL_law_221, eL_law_224, eL_law_225, eL_law_226, eL_law_227, eL_law_228, eL_law_229, eL_law_230, eL_law_232, eL_law_233, eL_law_234, eL_law_235, eL_law_237, eL_law_240, eL_law_241, eL_law_242, eL_law_243, eL_law_244, eL_law_246, eL_law_247, eL_law_248, eL_law_249, eL_law_251, eL_law_254, eL_law_257, eL_law_258, eL_law_259, eL_law_260, eL_law_261, eL_law_262, eL_law_263, eL_law_265, eL_law_266, eL_law_267, eL_law_268, eL_law_270, eL_law_271, eL_law_272, eL_law_273, eL_law_275, eL_law_276, eL_law_277, eL_law_278, eL_law_280, eL_law_281, eL_law_282, eL_law_283, eL_law_285, eL_law_288, eL_law_289, eL_law_290, eL_law_291, eL_law_292, eL_law_294, eL_law_295, eL_law_296, eL_law_297, eL_law_299, eL_law_300, eL_law_301, eL_law_302, eL_law_304, eL_law_305, eL_law_306, eL_law_307, eL_law_309, eL_law_310, eL_law_311, eL_law_312, eL_law_314, eL_law_317, eL_law_320, eL_law_321, eL_law_322, eL_law_323, eL_law_324, eL_law_325, eL_law_326, eL_law_328, eL_law_329, eL_law_330, eL_law_331, eL_law_333, eL_law_334, eL_law_335, eL_law_336, eL_law_338, eL_law_339, eL_law_340, eL_law_341, eL_law_343, eL_law_346, eL_law_347, eL_law_348, eL_law_349, eL_law_350, eL_law_352, eL_law_353, eL_law_354, eL_law_355, eL_law_357, eL_law_358, eL_law_359, eL_law_360, eL_law_362, eL_law_363, eL_law_364, eL_law_365, eL_law_367, eL_law_370, eL_law_373, eL_law_374, eL_law_375, eL_law_376, eL_law_377, eL_law_378, eL_law_379, eL_law_381, eL_law_382, eL_law_383, eL_law_384, eL_law_386, eL_law_387, eL_law_388, eL_law_389, eL_law_391, eL_law_392, eL_law_393, eL_law_394, eL_law_396, eL_law_397, eL_law_398, eL_law_399, eL_law_401, eL_law_402, eL_law_403, eL_law_405, eL_law_407, eL_law_410, eL_law_411, eL_law_412, eL_law_413, eL_law_414, eL_law_416, eL_law_417, eL_law_418, eL_law_419, eL_law_421, eL_law_422, eL_law_423, eL_law_424, eL_law_426, eL_law_427, eL_law_428, eL_law_429, eL_law_431, eL_law_432, eL_law_433, eL_law_434, eL_law_436, eL_law_437, eL_law_438, eL_law_440, eL_law_442, eL_law_445, eL_law_448, eL_law_449, eL_law_450, eL_law_451, eL_law_452, eL_law_453, eL_law_454, eL_law_456, eL_law_457, eL_law_458, eL_law_459, eL_law_461, eL_law_464, eL_law_465, eL_law_466, eL_law_467, eL_law_468, eL_law_470, eL_law_471, eL_law_472, eL_law_473, eL_law_475, eL_law_478, eL_law_481, eL_law_482, eL_law_483, eL_law_484, eL_law_485, eL_law_486, eL_law_487, eL_law_489, eL_law_490, eL_law_491, eL_law_492, eL_law_494, eL_law_495, eL_law_497, eL_law_498, eL_law_499, eL_law_500, eL_law_501, eL_law_503, eL_law_504, eL_law_507, eL_law_508, eL_law_509, eL_law_510, eL_law_511, eL_law_512, eL_law_514, eL_law_517, eL_law_518, eL_law_519, eL_law_520, eL_law_521, eL_law_523, eL_law_524, eL_law_525, eL_law_526, eL_law_528, eL_law_529, eL_law_531, eL_law_532, eL_law_533, eL_law_534, eL_law_535, eL_law_537, eL_law_538, eL_law_541, eL_law_542, eL_law_543, eL_law_544, eL_law_545, eL_law_546, eL_law_548, eL_law_551, eL_law_554, eL_law_555, eL_law_556, eL_law_557, eL_law_558, eL_law_559, eL_law_560, eL_law_562, eL_law_565, eL_law_566, eL_law_567, eL_law_568, eL_law_569, eL_law_571, eL_law_574, eL_law_577, eL_law_578, eL_law_579, eL_law_580, eL_law_581, eL_law_582, eL_law_583, eL_law_585, eL_law_588, eL_law_589, eL_law_590, eL_law_591, eL_law_592, eL_law_594, eL_law_597, eL_law_600, eL_law_601, eL_law_602, eL_law_603, eL_law_604, eL_law_605, eL_law_606, eL_law_608, eL_law_609, eL_law_610, eL_law_611, eL_law_613, eL_law_616, eL_law_617, eL_law_618, eL_law_619, eL_law_620, eL_law_622, eL_law_623, eL_law_624, eL_law_625, eL_law_627, eL_law_630, eL_law_633, eL_law_634, eL_law_635, eL_law_636, eL_law_637, eL_law_638, eL_law_639, eL_law_641, eL_law_642, eL_law_643, eL_law_644, eL_law_646, eL_law_649, eL_law_650, eL_law_651, eL_law_652, eL_law_653, eL_law_655, eL_law_656, eL_law_657, eL_law_658, eL_law_660, eL_law_663, eL_law_666, eL_law_667, eL_law_668, eL_law_669, eL_law_670, eL_law_671, eL_law_672, eL_law_674, eL_law_675, eL_law_676, eL_law_677, eL_law_679, eL_law_682, eL_law_683, eL_law_684, eL_law_685, eL_law_686, eL_law_688, eL_law_689, eL_law_690, eL_law_691, eL_law_693, eL_law_696, eL_law_699, eL_law_700, eL_law_701, eL_law_702, eL_law_703, eL_law_704, eL_law_705, eL_law_707, eL_law_710, eL_law_711, eL_law_712, eL_law_713, eL_law_714, eL_law_716, eL_law_719, eL_law_722, eL_law_723, eL_law_724, eL_law_725, eL_law_726, eL_law_727, eL_law_728, eL_law_730, eL_law_733, eL_law_734, eL_law_735, eL_law_736, eL_law_737, eL_law_739, eL_law_742, eL_law_745, eL_law_746, eL_law_747, eL_law_748, eL_law_749, eL_law_750, eL_law_751, eL_law_753, eL_law_754, eL_law_755, eL_law_756, eL_law_758, eL_law_761, eL_law_762, eL_law_763, eL_law_764, eL_law_765, eL_law_767, eL_law_768, eL_law_769, eL_law_770, eL_law_772, eL_law_775, eL_law_778, eL_law_779, eL_law_780, eL_law_781, eL_law_782, eL_law_783, eL_law_784, eL_law_786, eL_law_787, eL_law_788, eL_law_789, eL_law_791, eL_law_794, eL_law_795, eL_law_796, eL_law_797, eL_law_798, eL_law_800, eL_law_801, eL_law_802, eL_law_803, eL_law_805, eL_law_808, eL_law_811, eL_law_812, eL_law_813, eL_law_814, eL_law_815, eL_law_816, eL_law_817, eL_law_819, eL_law_822, eL_law_823, eL_law_824, eL_law_825, eL_law_826, eL_law_828, eL_law_831, eL_law_834, eL_law_835, eL_law_836, eL_law_837, eL_law_838, eL_law_839, eL_law_840, eL_law_842, eL_law_845, eL_law_846, eL_law_847, eL_law_848, eL_law_849, eL_law_851, eL_law_854, eL_law_857, eL_law_858, eL_law_859, eL_law_860, eL_law_861, eL_law_862, eL_law_863, eL_law_865, eL_law_868, eL_law_869, eL_law_870, eL_law_871, eL_law_872, eL_law_874, eL_law_877, eL_law_880, eL_law_881, eL_law_882, eL_law_883, eL_law_884, eL_law_885, eL_law_886, eL_law_888, eL_law_891, eL_law_892, eL_law_893, eL_law_894, eL_law_895, eL_law_897, eL_law_900, eL_law_903, eL_law_904, eL_law_905, eL_law_906, eL_law_907, eL_law_908, eL_law_909, eL_law_911, eL_law_912, eL_law_913, eL_law_914, eL_law_916, eL_law_917, eL_law_918, eL_law_919, eL_law_921, eL_law_924, eL_law_925, eL_law_926, eL_law_927, eL_law_928, eL_law_930, eL_law_931, eL_law_932, eL_law_933, eL_law_935, eL_law_936, eL_law_937, eL_law_938, eL_law_940, eL_law_943, eL_law_946, eL_law_947, eL_law_948, eL_law_949, eL_law_950, eL_law_951, eL_law_952, eL_law_954, eL_law_955, eL_law_956, eL_law_957, eL_law_959, eL_law_962, eL_law_963, eL_law_964, eL_law_965, eL_law_966, eL_law_968, eL_law_969, eL_law_970, eL_law_971, eL_law_973, eL_law_976, eL_law_979, eL_law_980, eL_law_981, eL_law_982, eL_law_983, eL_law_984, eL_law_985, eL_law_987, eL_law_990, eL_law_991, eL_law_992, eL_law_993, eL_law_994, eL_law_996, eL_law_999, eL_law_1000, eL_law_1003, eL_law_1004, eL_law_1005, eL_law_1006, eL_law_1007, eL_law_1008, eL_law_1009, eL_law_1011, eL_law_1014, eL_law_1015, eL_law_1016, eL_law_1017, eL_law_1018, eL_law_1020, eL_law_1023, eL_law_1026, eL_law_1027, eL_law_1028, eL_law_1029, eL_law_1030, eL_law_1031, eL_law_1032, eL_law_1034, eL_law_1037, eL_law_1038, eL_law_1039, eL_law_1040, eL_law_1041, eL_law_1043, eL_law_1046, eL_law_1049, eL_law_1050, eL_law_1051, eL_law_1052, eL_law_1053, eL_law_1054, eL_law_1055, eL_law_1057, eL_law_1060, eL_law_1061, eL_law_1062, eL_law_1063, eL_law_1064, eL_law_1066, eL_law_1069, eL_law_1072, eL_law_1073, eL_law_1074, eL_law_1075, eL_law_1078, eL_law_1079, eL_law_1082, eL_law_1083, eL_law_1086, eL_law_1087, eL_law_1088, eL_law_1091, eL_law_1094, eL_law_1095, va_rf_some, xl_0, xl_1, xl_2, xl_3, xl_4, xl_5, xl_6, xl_7, xl_8, xl_458, xl_459, xl_460, and_false, false_and, tl_some, tl_none, xkl_int, xkl_ref, xkl_dm, xkl_long, true_and, and_true, o_cl, xin_o, lt_ti, le_ti, ito_o, t32_64, o_add1, oz, op0, op1, op2, op3, op4, op5, op6, op7, o8m, o3m, o161m, o461m, o48p, o66p, o72p, o136p, Int32.reduceToInt, Int32.reduceToNatClampNeg, i_10, i_01, le_om1, Int64.reduceToInt, ↓reduceIte, ite_n, ite_p, xu_hit, xu_miss, op11, not_true_eq_false, not_false_eq_true, decide_true, decide_false, bIt0, bIf0, and_self, Int.reduceLE, Int.reduceLT, Int32.reduceAdd, Nat.reduceLeDiff, Nat.reduceLT, Nat.reduceAdd, Nat.reduceMul, Nat.reduceEqDiff, Nat.add_zero, Nat.zero_add, e, z]
  exact hQ
theorem law_go {I : Iv} {J : Jv} {i : Nat} (hE : E.1 ≤ 448) (h : i + 7 ≤ E.1) (hi : Inv I J) (next : ∀ I' J', Inv I' J' → X E (d + 13) 195 18 [.ref xScr, .ref 0, .ref 157, .int (o (i + 7))] [] I' J' Q) : X E (d + 13) 195 18 [.ref xScr, .ref 0, .ref 157, .int (o i)] [] I J Q := by
  have e : (o E.1 - 7).toInt = (E.1 : Int) - 7 := by
    rw [ti_sub (by rw [o_toInt (by omega), show (7 : Int32).toInt = 7 from rfl]; omega), o_toInt (by omega)]
    rfl
  have z : ¬ (E.1 : Int) - 7 < (i : Int) := by omega
  have b0 : i < E.1 := by omega
  have b1 : i + 6 < E.1 := by omega
  have nx : ∀ I' J', Inv I' J' → X E (d + 13) 195 1088 [.ref xScr, .ref 0, .ref 157, .int (o i)] [] I' J' Q := by
    intro I' J' h'
    have o7 : o i + 7 = o (i + 7) := by rw [o_lit7, o_add]
    simp (disch := first | omega | (simp only [nar_0, nar_1, nar_b, and_self, Nat.reduceLeDiff, Nat.reduceLT]; done) | fail) only [eL_law_1088, eL_law_1091, va_rf_some, xl_0, xl_1, xl_2, xl_3, xl_4, xl_5, xl_6, xl_7, xl_8, xl_458, xl_459, xl_460, and_false, false_and, tl_some, tl_none, xkl_int, xkl_ref, xkl_dm, xkl_long, true_and, and_true, o_cl, xin_o, lt_ti, le_ti, ito_o, t32_64, o_add1, oz, op0, op1, op2, op3, op4, op5, op6, op7, o8m, o3m, o161m, o461m, o48p, o66p, o72p, o136p, Int32.reduceToInt, Int32.reduceToNatClampNeg, i_10, i_01, le_om1, Int64.reduceToInt, ↓reduceIte, ite_n, ite_p, xu_hit, xu_miss, op11, not_true_eq_false, not_false_eq_true, decide_true, decide_false, bIt0, bIf0, and_self, Int.reduceLE, Int.reduceLT, Int32.reduceAdd, Nat.reduceLeDiff, Nat.reduceLT, Nat.reduceAdd, Nat.reduceMul, Nat.reduceEqDiff, Nat.add_zero, Nat.zero_add, o7]
    exact next I' J' h'
  rw [eL_law_18]
  simp (disch := first | omega | (simp only [nar_0, nar_1, nar_b, and_self, Nat.reduceLeDiff, Nat.reduceLT]; done) | fail) only [eL_law_19, eL_law_20, eL_law_21, eL_law_23, eL_law_24, eL_law_27, eL_law_28, eL_law_29, eL_law_30, eL_law_32, va_rf_some, xl_0, xl_1, xl_2, xl_3, xl_4, xl_5, xl_6, xl_7, xl_8, xl_458, xl_459, xl_460, and_false, false_and, tl_some, tl_none, xkl_int, xkl_ref, xkl_dm, xkl_long, true_and, and_true, o_cl, xin_o, lt_ti, le_ti, ito_o, t32_64, o_add1, oz, op0, op1, op2, op3, op4, op5, op6, op7, o8m, o3m, o161m, o461m, o48p, o66p, o72p, o136p, Int32.reduceToInt, Int32.reduceToNatClampNeg, i_10, i_01, le_om1, Int64.reduceToInt, ↓reduceIte, ite_n, ite_p, xu_hit, xu_miss, op11, not_true_eq_false, not_false_eq_true, decide_true, decide_false, bIt0, bIf0, and_self, Int.reduceLE, Int.reduceLT, Int32.reduceAdd, Nat.reduceLeDiff, Nat.reduceLT, Nat.reduceAdd, Nat.reduceMul, Nat.reduceEqDiff, Nat.add_zero, Nat.zero_add, e, z, b0]
  generalize E.2 i &&& 31 = c
  have hc : (c.toInt < 0 ∨ 27 < c.toInt) ∨ c.toInt = 0 ∨ c.toInt = 1 ∨ c.toInt = 2 ∨ c.toInt = 3 ∨ c.toInt = 4 ∨ c.toInt = 5 ∨ c.toInt = 6 ∨ c.toInt = 7 ∨ c.toInt = 8 ∨ c.toInt = 9 ∨ c.toInt = 10 ∨ c.toInt = 11 ∨ c.toInt = 12 ∨ c.toInt = 13 ∨ c.toInt = 14 ∨ c.toInt = 15 ∨ c.toInt = 16 ∨ c.toInt = 17 ∨ c.toInt = 18 ∨ c.toInt = 19 ∨ c.toInt = 20 ∨ c.toInt = 21 ∨ c.toInt = 22 ∨ c.toInt = 23 ∨ c.toInt = 24 ∨ c.toInt = 25 ∨ c.toInt = 26 ∨ c.toInt = 27 := by omega
  rcases hc with hc | hc | hc | hc | hc | hc | hc | hc | hc | hc | hc | hc | hc | hc | hc | hc | hc | hc | hc | hc | hc | hc | hc | hc | hc | hc | hc | hc | hc
  · rw [w195_d hc]
    exact nx I J hi
  · exact law_0 hi hc b1 hE nx
  · exact law_1 hi hc b1 hE nx
  · exact law_2 hi hc b1 hE nx
  · exact law_3 hi hc b1 hE nx
  · exact law_4 hi hc b1 hE nx
  · exact law_5 hi hc b1 hE nx
  · exact law_6 hi hc b1 hE nx
  · exact law_7 hi hc b1 hE nx
  · exact law_8 hi hc b1 hE nx
  · exact law_9 hi hc b1 hE nx
  · exact law_10 hi hc b1 hE nx
  · exact law_11 hi hc b1 hE nx
  · exact law_12 hi hc b1 hE nx
  · exact law_13 hi hc b1 hE nx
  · exact law_14 hi hc b1 hE nx
  · exact law_15 hi hc b1 hE nx
  · exact law_16 hi hc b1 hE nx
  · exact law_17 hi hc b1 hE nx
  · exact law_18 hi hc b1 hE nx
  · exact law_19 hi hc b1 hE nx
  · exact law_20 hi hc b1 hE nx
  · exact law_21 hi hc b1 hE nx
  · exact law_22 hi hc b1 hE nx
  · exact law_23 hi hc b1 hE nx
  · exact law_24 hi hc b1 hE nx
  · exact law_25 hi hc b1 hE nx
  · exact law_26 hi hc b1 hE nx
  · exact law_27 hi hc b1 hE nx
theorem law_loop (hE : E.1 ≤ 448) : ∀ (m i : Nat) (I : Iv) (J : Jv), Inv I J → i ≤ E.1 → E.1 < i + 7 * (m + 1) → (∀ I' J', Q (some (.int 1)) I' J') → X E (d + 13) 195 18 [.ref xScr, .ref 0, .ref 157, .int (o i)] [] I J Q
  | 0, i, I, J, hi, h1, h2, hQ => law_end hE (by omega) (by omega) (hQ I J)
  | m + 1, i, I, J, hi, h1, h2, hQ => by
    by_cases h : i + 7 ≤ E.1
    · exact law_go hE h hi (fun I' J' h' => law_loop hE m (i + 7) I' J' h' h (by omega) hQ)
    · exact law_end hE (by omega) (by omega) (hQ I J)
end
/-! THE HEAP THAT THE LOOP BEGINS WITH -/
def LI0 : List (Nat × Nat × Int32) := [(2, 2, 0), (10, 2, 0), (18, 2, 0), (2, 1, 7), (10, 1, 3), (18, 1, 8), (36, 1, 7), (44, 1, 3), (52, 1, 8), (69, 1, 7), (77, 1, 3), (85, 1, 8), (30, 1, 0), (32, 1, 0), (28, 0, 100), (28, 1, 2), (28, 2, -1), (28, 3, 100), (28, 4, 0), (28, 5, -1), (101, 0, 0), (101, 1, 0), (160, 0, 0), (160, 1, 0), (158, 458, 0), (158, 459, 0), (158, 460, 0), (158, 136, 0), (158, 297, 0), (158, 66, 100), (158, 67, 2), (158, 68, -1), (158, 69, 100), (158, 70, 0), (158, 71, -1)]
def LJ0 : List (Nat × Nat × Int64) := [(156, 0, 0), (156, 1, 1), (157, 3, 0), (157, 4, 1)]
theorem I0_all0 : LI0.all (fun e => decide (hD.2.1 e.1 e.2.1 = e.2.2)) = true := by decide +kernel
theorem J0_all0 : LJ0.all (fun e => decide (hD.2.2.1 e.1 e.2.1 = e.2.2)) = true := by decide +kernel
theorem I0_all : LI0.all (fun e => decide (I0 e.1 e.2.1 = e.2.2)) = true := by
  rw [I0_def]
  exact I0_all0
theorem J0_all : LJ0.all (fun e => decide (J0 e.1 e.2.1 = e.2.2)) = true := by
  rw [J0_def]
  exact J0_all0
theorem I0_at {a k : Nat} {x : Int32} (h : (a, k, x) ∈ LI0) : I0 a k = x := by
  exact of_decide_eq_true (List.all_eq_true.mp I0_all _ h)
theorem J0_at {a k : Nat} {x : Int64} (h : (a, k, x) ∈ LJ0) : J0 a k = x := by
  exact of_decide_eq_true (List.all_eq_true.mp J0_all _ h)
theorem inv_0 : Inv I0 J0 := by
  have z458 : I0 158 458 = 0 := I0_at (by decide)
  have z459 : I0 158 459 = 0 := I0_at (by decide)
  have z460 : I0 158 460 = 0 := I0_at (by decide)
  have z136 : I0 158 136 = 0 := I0_at (by decide)
  have z297 : I0 158 297 = 0 := I0_at (by decide)
  have cl : gl (I0 158) = 0 := by unfold gl; rw [z458]; rfl
  have ct : gt (I0 158) = 0 := by unfold gt; rw [z459]; rfl
  have cc : gc (I0 158) = 0 := by unfold gc; rw [z460]; rfl
  have c0 : ln (I0 158) 0 = 0 := by
    show (I0 158 136).toNatClampNeg = 0
    rw [z136]; rfl
  have c1 : ln (I0 158) 1 = 0 := by
    show (I0 158 297).toNatClampNeg = 0
    rw [z297]; rfl
  have n0 : I0 158 66 = 100 := I0_at (by decide)
  have n1 : I0 158 67 = 2 := I0_at (by decide)
  have n2 : I0 158 68 = -1 := I0_at (by decide)
  have n3 : I0 158 69 = 100 := I0_at (by decide)
  have n4 : I0 158 70 = 0 := I0_at (by decide)
  have n5 : I0 158 71 = -1 := I0_at (by decide)
  refine ⟨⟨?_, ?_, ?_, ?_, ?_, ?_, ?_, ?_⟩, ⟨⟨?_, ?_⟩, ⟨?_, ?_⟩, ⟨?_, ?_⟩, ?_, ?_, ?_, ?_, ?_⟩, ⟨?_, ?_⟩, ?_, ⟨?_, ?_, ?_⟩, ⟨?_, ?_, ?_⟩, ⟨?_, ?_, ?_⟩⟩
  · rw [z458]; exact I0_at (by decide)
  · rw [z459]; exact I0_at (by decide)
  · rw [z460]; exact I0_at (by decide)
  · intro l k hl; omega
  · intro l k hl; omega
  · intro k hk
    match k, hk with
    | 0, _ => rw [n0]; exact I0_at (by decide)
    | 1, _ => rw [n1]; exact I0_at (by decide)
    | 2, _ => rw [n2]; exact I0_at (by decide)
    | 3, _ => rw [n3]; exact I0_at (by decide)
    | 4, _ => rw [n4]; exact I0_at (by decide)
    | 5, _ => rw [n5]; exact I0_at (by decide)
    | k + 6, h => omega
  · intro l k hl; omega
  · intro t ht
    match t, ht with
    | 0, _ => exact ⟨(I0_at (by decide) : I0 30 1 = 0).trans z136.symm, fun i hi => by rw [c0] at hi; omega⟩
    | 1, _ => exact ⟨(I0_at (by decide) : I0 32 1 = 0).trans z297.symm, fun i hi => by rw [c1] at hi; omega⟩
    | t + 2, h => omega
  · rw [cl]; exact z458
  · omega
  · rw [ct]; exact z459
  · omega
  · rw [cc]; exact z460
  · omega
  · intro t ht
    match t, ht with
    | 0, _ => rw [c0]; exact ⟨z136, by omega⟩
    | 1, _ => rw [c1]; exact ⟨z297, by omega⟩
    | t + 2, h => omega
  · intro l hl; omega
  · intro l hl; omega
  · unfold OkN
    rw [n0, n1, n2, n3, n4, n5, cl, ct]
    exact ⟨⟨by decide, by decide⟩, ⟨by decide, by decide⟩, ⟨by decide, by decide⟩, ⟨by decide, by decide⟩, ⟨by decide, by decide⟩, ⟨by decide, by decide⟩⟩
  · intro l hl; omega
  · rw [(J0_at (by decide) : J0 156 0 = 0), (J0_at (by decide) : J0 157 3 = 0)]
  · rw [(J0_at (by decide) : J0 156 1 = 1), (J0_at (by decide) : J0 157 4 = 1)]
  · intro i hi
    match i, hi with
    | 0, _ => exact ⟨(I0_at (by decide) : I0 101 0 = 0).trans (I0_at (by decide) : I0 160 0 = 0).symm, Or.inl (I0_at (by decide))⟩
    | 1, _ => exact ⟨(I0_at (by decide) : I0 101 1 = 0).trans (I0_at (by decide) : I0 160 1 = 0).symm, Or.inl (I0_at (by decide))⟩
    | i + 2, h => omega
  · exact I0_at (by decide)
  · exact I0_at (by decide)
  · exact I0_at (by decide)
  · exact I0_at (by decide)
  · exact I0_at (by decide)
  · exact I0_at (by decide)
  · exact I0_at (by decide)
  · exact I0_at (by decide)
  · exact I0_at (by decide)
