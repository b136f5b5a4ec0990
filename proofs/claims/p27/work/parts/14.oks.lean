/-! what the tables say of each method that is called, of each class, of each throw -/
theorem inj_J0 : ∀ w ∈ u_ws RJ0 TJ0 4, w ∈ jTg := by decide +kernel
theorem inj_J4 : ∀ w ∈ u_ws RJ4 TJ4 4, w ∈ jTg := by decide +kernel
theorem inj_X2 : ∀ w ∈ u_ws RX2 TX2 3, w ∈ jTg := by decide +kernel
theorem inj_X3 : ∀ w ∈ u_ws RX3 TX3 5, w ∈ jTg := by decide +kernel
theorem inj_X4 : ∀ w ∈ u_ws RX4 TX4 2, w ∈ jTg := by decide +kernel
theorem inj_X5 : ∀ w ∈ u_ws RX5 TX5 6, w ∈ jTg := by decide +kernel
theorem nmh_X0 : (yX0_far.cls ≠ "java/lang/invoke/MethodHandle" ∧ yX0_far.cls ≠ "java/lang/invoke/VarHandle") := by decide +kernel
theorem ok_X0_far : jVokS yX0_far cX0_far 1 (some .long) 1 := ⟨⟨w_120, w_35, nmh_X0, by decide +kernel, by decide⟩, w_119⟩
theorem ok_X0_holdsPlace : jVokS yX0_holdsPlace cX0_holdsPlace 4 (some .boolean) 2 := ⟨⟨w_95, w_35, nmh_X0, by decide +kernel, by decide⟩, w_94⟩
theorem ok_X0_holdsSpan : jVokS yX0_holdsSpan cX0_holdsSpan 6 (some .boolean) 3 := ⟨⟨w_106, w_35, nmh_X0, by decide +kernel, by decide⟩, w_105⟩
theorem ok_X0_holdsStretch : jVokS yX0_holdsStretch cX0_holdsStretch 6 (some .boolean) 3 := ⟨⟨w_113, w_35, nmh_X0, by decide +kernel, by decide⟩, w_112⟩
theorem ok_X0_countPlaces : jVokS yX0_countPlaces cX0_countPlaces 3 (some .int) 1 := ⟨⟨w_473, w_35, nmh_X0, by decide +kernel, by decide⟩, w_472⟩
theorem ok_X0_countSpans : jVokS yX0_countSpans cX0_countSpans 4 (some .int) 1 := ⟨⟨w_477, w_35, nmh_X0, by decide +kernel, by decide⟩, w_476⟩
theorem ok_X0_countStretches : jVokS yX0_countStretches cX0_countStretches 4 (some .int) 1 := ⟨⟨w_481, w_35, nmh_X0, by decide +kernel, by decide⟩, w_480⟩
theorem nmh_X1 : (yX1_holds.cls ≠ "java/lang/invoke/MethodHandle" ∧ yX1_holds.cls ≠ "java/lang/invoke/VarHandle") := by decide +kernel
theorem ok_X1_holds : jVokS yX1_holds cX1_holds 3 (some .boolean) 1 := ⟨⟨w_140, w_47, nmh_X1, by decide +kernel, by decide⟩, w_139⟩
theorem ok_X1_isSoundAlone : jVokS yX1_isSoundAlone cX1_isSoundAlone 5 (some .boolean) 2 := ⟨⟨w_147, w_47, nmh_X1, by decide +kernel, by decide⟩, w_146⟩
theorem ok_X1_isSoundPlace : jVokS yX1_isSoundPlace cX1_isSoundPlace 9 (some .boolean) 2 := ⟨⟨w_154, w_47, nmh_X1, by decide +kernel, by decide⟩, w_153⟩
theorem ok_X1_isSoundSpan : jVokS yX1_isSoundSpan cX1_isSoundSpan 6 (some .boolean) 4 := ⟨⟨w_161, w_47, nmh_X1, by decide +kernel, by decide⟩, w_160⟩
theorem ok_X1_isBehindItsBeginnings : jVokS yX1_isBehindItsBeginnings cX1_isBehindItsBeginnings 4 (some .boolean) 2 := ⟨⟨w_172, w_47, nmh_X1, by decide +kernel, by decide⟩, w_171⟩
theorem ok_X1_isSoundPair : jVokS yX1_isSoundPair cX1_isSoundPair 4 (some .boolean) 3 := ⟨⟨w_185, w_47, nmh_X1, by decide +kernel, by decide⟩, w_184⟩
theorem ok_X1_isSoundPairThere : jVokS yX1_isSoundPairThere cX1_isSoundPairThere 5 (some .boolean) 3 := ⟨⟨w_202, w_47, nmh_X1, by decide +kernel, by decide⟩, w_201⟩
theorem ok_X1_areChainsSound : jVokS yX1_areChainsSound cX1_areChainsSound 4 (some .boolean) 1 := ⟨⟨w_216, w_47, nmh_X1, by decide +kernel, by decide⟩, w_215⟩
theorem ok_X1_isThereAhead : jVokS yX1_isThereAhead cX1_isThereAhead 3 (some .boolean) 3 := ⟨⟨w_219, w_47, nmh_X1, by decide +kernel, by decide⟩, w_218⟩
theorem nmh_X2 : (yX2_init.cls ≠ "java/lang/invoke/MethodHandle" ∧ yX2_init.cls ≠ "java/lang/invoke/VarHandle") := by decide +kernel
theorem ok_X2_init : jVokI yX2_init cX2_init 1 0 := ⟨⟨w_60, w_26, nmh_X2, by decide +kernel, by decide⟩, rfl, w_59⟩
theorem ok_X2_isAway : jVokV yX2_isAway cX2_isAway 2 (some .boolean) 1 := ⟨⟨w_144, w_26, nmh_X2, by decide +kernel, by decide⟩, w_142, w_143⟩
theorem ok_X2_size : jVokV yX2_size cX2_size 2 (some .int) 1 := ⟨⟨w_151, w_26, nmh_X2, by decide +kernel, by decide⟩, w_149, w_150⟩
theorem ok_X2_sign : jVokV yX2_sign cX2_sign 3 (some .int) 2 := ⟨⟨w_169, w_26, nmh_X2, by decide +kernel, by decide⟩, w_167, w_168⟩
theorem ok_X2_change : jVokV yX2_change cX2_change 4 (none : Option Jvm.ClassFile.FieldType) 3 := ⟨⟨w_398, w_26, nmh_X2, by decide +kernel, by decide⟩, w_396, w_397⟩
theorem ok_X2_clear : jVokV yX2_clear cX2_clear 2 (none : Option Jvm.ClassFile.FieldType) 1 := ⟨⟨w_413, w_26, nmh_X2, by decide +kernel, by decide⟩, w_411, w_412⟩
theorem ok_X2_remove : jVokV yX2_remove cX2_remove 2 (none : Option Jvm.ClassFile.FieldType) 1 := ⟨⟨w_463, w_26, nmh_X2, by decide +kernel, by decide⟩, w_461, w_462⟩
theorem ok_X2_add : jVokV yX2_add cX2_add 3 (none : Option Jvm.ClassFile.FieldType) 2 := ⟨⟨w_394, w_26, nmh_X2, by decide +kernel, by decide⟩, w_392, w_393⟩
theorem ok_X2_become : jVokV yX2_become cX2_become 4 (none : Option Jvm.ClassFile.FieldType) 2 := ⟨⟨w_452, w_26, nmh_X2, by decide +kernel, by decide⟩, w_450, w_451⟩
theorem ok_X2_keep : jVokV yX2_keep cX2_keep 6 (some .int) 3 := ⟨⟨w_424, w_26, nmh_X2, by decide +kernel, by decide⟩, w_422, w_423⟩
theorem ok_X2_lay : jVokV yX2_lay cX2_lay 6 (some .int) 3 := ⟨⟨w_165, w_26, nmh_X2, by decide +kernel, by decide⟩, w_163, w_164⟩
theorem ok_X2_spell : jVokV yX2_spell cX2_spell 7 (some (.object "java/lang/String")) 3 := ⟨⟨w_498, w_26, nmh_X2, by decide +kernel, by decide⟩, w_496, w_497⟩
theorem ok_X2_spellAll : jVokV yX2_spellAll cX2_spellAll 2 (some (.object "java/lang/String")) 1 := ⟨⟨w_494, w_26, nmh_X2, by decide +kernel, by decide⟩, w_492, w_493⟩
theorem ok_X2_compared : jVokV yX2_compared cX2_compared 3 (some .int) 2 := ⟨⟨w_194, w_26, nmh_X2, by decide +kernel, by decide⟩, w_192, w_193⟩
theorem ok_X2_comparedFrom : jVokV yX2_comparedFrom cX2_comparedFrom 9 (some .int) 5 := ⟨⟨w_176, w_26, nmh_X2, by decide +kernel, by decide⟩, w_174, w_175⟩
theorem ok_X2_ordered : jVokV yX2_ordered cX2_ordered 4 (some .int) 3 := ⟨⟨w_189, w_26, nmh_X2, by decide +kernel, by decide⟩, w_187, w_188⟩
theorem ok_X2_haveSameSigns : jVokV yX2_haveSameSigns cX2_haveSameSigns 4 (some .boolean) 2 := ⟨⟨w_207, w_26, nmh_X2, by decide +kernel, by decide⟩, w_205, w_206⟩
theorem ok_X2_codeOf : jVokV yX2_codeOf cX2_codeOf 4 (some .int) 1 := ⟨⟨w_211, w_26, nmh_X2, by decide +kernel, by decide⟩, w_209, w_210⟩
theorem ok_X2_codeOfThree : jVokV yX2_codeOfThree cX2_codeOfThree 5 (some .int) 3 := ⟨⟨w_247, w_26, nmh_X2, by decide +kernel, by decide⟩, w_245, w_246⟩
theorem ok_X2_countOf : jVokV yX2_countOf cX2_countOf 5 (some .int) 2 := ⟨⟨w_199, w_26, nmh_X2, by decide +kernel, by decide⟩, w_197, w_198⟩
theorem ok_X2_countSigns : jVokV yX2_countSigns cX2_countSigns 3 (some .int) 0 := ⟨⟨w_233, w_26, nmh_X2, by decide +kernel, by decide⟩, w_231, w_232⟩
theorem ok_X2_countAway : jVokV yX2_countAway cX2_countAway 3 (some .int) 0 := ⟨⟨w_240, w_26, nmh_X2, by decide +kernel, by decide⟩, w_238, w_239⟩
theorem ok_X2_smaller : jVokS yX2_smaller cX2_smaller 2 (some .int) 2 := ⟨⟨w_182, w_26, nmh_X2, by decide +kernel, by decide⟩, w_181⟩
theorem nmh_X3 : (yX3_init.cls ≠ "java/lang/invoke/MethodHandle" ∧ yX3_init.cls ≠ "java/lang/invoke/VarHandle") := by decide +kernel
theorem ok_X3_init : jVokI yX3_init cX3_init 1 0 := ⟨⟨w_52, w_25, nmh_X3, by decide +kernel, by decide⟩, rfl, w_51⟩
theorem ok_X3_write : jVokV yX3_write cX3_write 6 (some .int) 4 := ⟨⟨w_271, w_25, nmh_X3, by decide +kernel, by decide⟩, w_269, w_270⟩
theorem ok_X3_fill : jVokV yX3_fill cX3_fill 6 (some .int) 3 := ⟨⟨w_405, w_25, nmh_X3, by decide +kernel, by decide⟩, w_403, w_404⟩
theorem ok_X3_cut : jVokV yX3_cut cX3_cut 4 (some .int) 3 := ⟨⟨w_420, w_25, nmh_X3, by decide +kernel, by decide⟩, w_418, w_419⟩
theorem ok_X3_take : jVokV yX3_take cX3_take 4 (some .int) 3 := ⟨⟨w_432, w_25, nmh_X3, by decide +kernel, by decide⟩, w_430, w_431⟩
theorem ok_X3_put : jVokV yX3_put cX3_put 5 (some .int) 3 := ⟨⟨w_439, w_25, nmh_X3, by decide +kernel, by decide⟩, w_437, w_438⟩
theorem ok_X3_copy : jVokV yX3_copy cX3_copy 3 (some .int) 2 := ⟨⟨w_448, w_25, nmh_X3, by decide +kernel, by decide⟩, w_446, w_447⟩
theorem ok_X3_leave : jVokV yX3_leave cX3_leave 3 (some .int) 1 := ⟨⟨w_459, w_25, nmh_X3, by decide +kernel, by decide⟩, w_457, w_458⟩
theorem ok_X3_place : jVokV yX3_place cX3_place 3 (some .int) 2 := ⟨⟨w_92, w_25, nmh_X3, by decide +kernel, by decide⟩, w_90, w_91⟩
theorem ok_X3_span : jVokV yX3_span cX3_span 4 (some .int) 3 := ⟨⟨w_103, w_25, nmh_X3, by decide +kernel, by decide⟩, w_101, w_102⟩
theorem ok_X3_stretch : jVokV yX3_stretch cX3_stretch 4 (some .int) 3 := ⟨⟨w_110, w_25, nmh_X3, by decide +kernel, by decide⟩, w_108, w_109⟩
theorem ok_X3_isFarPlace : jVokV yX3_isFarPlace cX3_isFarPlace 3 (some .boolean) 2 := ⟨⟨w_117, w_25, nmh_X3, by decide +kernel, by decide⟩, w_115, w_116⟩
theorem ok_X3_isFarSpan : jVokV yX3_isFarSpan cX3_isFarSpan 4 (some .boolean) 3 := ⟨⟨w_125, w_25, nmh_X3, by decide +kernel, by decide⟩, w_123, w_124⟩
theorem ok_X3_isFarStretch : jVokV yX3_isFarStretch cX3_isFarStretch 4 (some .boolean) 3 := ⟨⟨w_129, w_25, nmh_X3, by decide +kernel, by decide⟩, w_127, w_128⟩
theorem ok_X3_insides : jVokV yX3_insides cX3_insides 4 (some .int) 2 := ⟨⟨w_470, w_25, nmh_X3, by decide +kernel, by decide⟩, w_468, w_469⟩
theorem ok_X3_text : jVokV yX3_text cX3_text 2 (some (.object "java/lang/String")) 1 := ⟨⟨w_489, w_25, nmh_X3, by decide +kernel, by decide⟩, w_487, w_488⟩
theorem ok_X3_length : jVokV yX3_length cX3_length 2 (some .int) 1 := ⟨⟨w_765, w_25, nmh_X3, by decide +kernel, by decide⟩, w_763, w_764⟩
theorem ok_X3_signAt : jVokV yX3_signAt cX3_signAt 3 (some .int) 2 := ⟨⟨w_772, w_25, nmh_X3, by decide +kernel, by decide⟩, w_770, w_771⟩
theorem ok_X3_part : jVokV yX3_part cX3_part 4 (some (.object "java/lang/String")) 3 := ⟨⟨w_779, w_25, nmh_X3, by decide +kernel, by decide⟩, w_777, w_778⟩
theorem ok_X3_isEmpty : jVokV yX3_isEmpty cX3_isEmpty 2 (some .boolean) 1 := ⟨⟨w_792, w_25, nmh_X3, by decide +kernel, by decide⟩, w_790, w_791⟩
theorem ok_X3_compare : jVokV yX3_compare cX3_compare 3 (some .int) 2 := ⟨⟨w_799, w_25, nmh_X3, by decide +kernel, by decide⟩, w_797, w_798⟩
theorem ok_X3_compareParts : jVokV yX3_compareParts cX3_compareParts 5 (some .int) 4 := ⟨⟨w_807, w_25, nmh_X3, by decide +kernel, by decide⟩, w_805, w_806⟩
theorem ok_X3_isLike : jVokV yX3_isLike cX3_isLike 3 (some .int) 2 := ⟨⟨w_815, w_25, nmh_X3, by decide +kernel, by decide⟩, w_813, w_814⟩
theorem ok_X3_order : jVokV yX3_order cX3_order 4 (some .int) 3 := ⟨⟨w_827, w_25, nmh_X3, by decide +kernel, by decide⟩, w_825, w_826⟩
theorem ok_X3_ahead : jVokV yX3_ahead cX3_ahead 5 (some .int) 2 := ⟨⟨w_838, w_25, nmh_X3, by decide +kernel, by decide⟩, w_836, w_837⟩
theorem ok_X3_must : jVokV yX3_must cX3_must 2 (some .int) 1 := ⟨⟨w_845, w_25, nmh_X3, by decide +kernel, by decide⟩, w_843, w_844⟩
theorem ok_X3_mustSaying : jVokV yX3_mustSaying cX3_mustSaying 2 (some .int) 1 := ⟨⟨w_852, w_25, nmh_X3, by decide +kernel, by decide⟩, w_850, w_851⟩
theorem ok_X3_orElse : jVokV yX3_orElse cX3_orElse 3 (some (.object "java/lang/String")) 2 := ⟨⟨w_859, w_25, nmh_X3, by decide +kernel, by decide⟩, w_857, w_858⟩
theorem ok_X3_orGiven : jVokV yX3_orGiven cX3_orGiven 3 (some (.object "java/lang/String")) 2 := ⟨⟨w_870, w_25, nmh_X3, by decide +kernel, by decide⟩, w_868, w_869⟩
theorem ok_X3_isMissing : jVokV yX3_isMissing cX3_isMissing 2 (some .boolean) 1 := ⟨⟨w_877, w_25, nmh_X3, by decide +kernel, by decide⟩, w_875, w_876⟩
theorem ok_X3_isThere : jVokV yX3_isThere cX3_isThere 2 (some .boolean) 1 := ⟨⟨w_884, w_25, nmh_X3, by decide +kernel, by decide⟩, w_882, w_883⟩
theorem ok_X3_areSame : jVokV yX3_areSame cX3_areSame 3 (some .boolean) 2 := ⟨⟨w_891, w_25, nmh_X3, by decide +kernel, by decide⟩, w_889, w_890⟩
theorem ok_X3_code : jVokV yX3_code cX3_code 2 (some .int) 1 := ⟨⟨w_898, w_25, nmh_X3, by decide +kernel, by decide⟩, w_896, w_897⟩
theorem ok_X3_codes : jVokV yX3_codes cX3_codes 4 (some .int) 3 := ⟨⟨w_905, w_25, nmh_X3, by decide +kernel, by decide⟩, w_903, w_904⟩
theorem ok_X3_knock : jVokV yX3_knock cX3_knock 1 (some .int) 0 := ⟨⟨w_133, w_25, nmh_X3, by decide +kernel, by decide⟩, w_131, w_132⟩
theorem ok_X3_house : jVokV yX3_house cX3_house 2 (some .int) 1 := ⟨⟨w_912, w_25, nmh_X3, by decide +kernel, by decide⟩, w_910, w_911⟩
theorem ok_X3_isSound : jVokV yX3_isSound cX3_isSound 1 (some .boolean) 0 := ⟨⟨w_137, w_25, nmh_X3, by decide +kernel, by decide⟩, w_135, w_136⟩
theorem ok_X3_digest : jVokV yX3_digest cX3_digest 6 (some .long) 0 := ⟨⟨w_223, w_25, nmh_X3, by decide +kernel, by decide⟩, w_221, w_222⟩
theorem ok_X3_refuse : jVokV yX3_refuse cX3_refuse 1 (some .int) 0 := ⟨⟨w_99, w_25, nmh_X3, by decide +kernel, by decide⟩, w_98, w_0⟩
theorem ok_X3_refuseText : jVokV yX3_refuseText cX3_refuseText 1 (some (.object "java/lang/String")) 0 := ⟨⟨w_783, w_25, nmh_X3, by decide +kernel, by decide⟩, w_782, w_5⟩
theorem ok_X3_askOrder : jVokV yX3_askOrder cX3_askOrder 4 (some .int) 3 := ⟨⟨w_831, w_25, nmh_X3, by decide +kernel, by decide⟩, w_830, w_6⟩
theorem ok_X3_spellEither : jVokV yX3_spellEither cX3_spellEither 3 (some (.object "java/lang/String")) 2 := ⟨⟨w_863, w_25, nmh_X3, by decide +kernel, by decide⟩, w_862, w_7⟩
theorem ok_X3_tell : jVokV yX3_tell cX3_tell 2 (some .int) 1 := ⟨⟨w_229, w_25, nmh_X3, by decide +kernel, by decide⟩, w_228, w_1⟩
theorem ok_X3_wantSeat : jVokS yX3_wantSeat cX3_wantSeat 1 (none : Option Jvm.ClassFile.FieldType) 1 := ⟨⟨w_274, w_25, nmh_X3, by decide +kernel, by decide⟩, w_273⟩
theorem ok_X3_wantPaper : jVokS yX3_wantPaper cX3_wantPaper 1 (none : Option Jvm.ClassFile.FieldType) 1 := ⟨⟨w_818, w_25, nmh_X3, by decide +kernel, by decide⟩, w_817⟩
theorem ok_X3_wantSign : jVokS yX3_wantSign cX3_wantSign 1 (none : Option Jvm.ClassFile.FieldType) 1 := ⟨⟨w_348, w_25, nmh_X3, by decide +kernel, by decide⟩, w_347⟩
theorem ok_X3_wantSignOrNone : jVokS yX3_wantSignOrNone cX3_wantSignOrNone 1 (none : Option Jvm.ClassFile.FieldType) 1 := ⟨⟨w_345, w_25, nmh_X3, by decide +kernel, by decide⟩, w_344⟩
theorem ok_X3_wantUpTo : jVokS yX3_wantUpTo cX3_wantUpTo 2 (none : Option Jvm.ClassFile.FieldType) 2 := ⟨⟨w_408, w_25, nmh_X3, by decide +kernel, by decide⟩, w_407⟩
theorem ok_X3_wantThere : jVokV yX3_wantThere cX3_wantThere 2 (none : Option Jvm.ClassFile.FieldType) 1 := ⟨⟨w_368, w_25, nmh_X3, by decide +kernel, by decide⟩, w_367, w_3⟩
theorem ok_X3_wantRoom : jVokV yX3_wantRoom cX3_wantRoom 3 (none : Option Jvm.ClassFile.FieldType) 2 := ⟨⟨w_389, w_25, nmh_X3, by decide +kernel, by decide⟩, w_388, w_4⟩
theorem nmh_X4 : (yX4_init.cls ≠ "java/lang/invoke/MethodHandle" ∧ yX4_init.cls ≠ "java/lang/invoke/VarHandle") := by decide +kernel
theorem ok_X4_init : jVokI yX4_init cX4_init 1 0 := ⟨⟨w_253, w_28, nmh_X4, by decide +kernel, by decide⟩, rfl, w_252⟩
theorem nmh_X5 : (yX5_isIn.cls ≠ "java/lang/invoke/MethodHandle" ∧ yX5_isIn.cls ≠ "java/lang/invoke/VarHandle") := by decide +kernel
theorem ok_X5_isIn : jVokS yX5_isIn cX5_isIn 3 (some .boolean) 3 := ⟨⟨w_955, w_27, nmh_X5, by decide +kernel, by decide⟩, w_954⟩
theorem ok_X5_one : jVokS yX5_one cX5_one 1 (some .int) 1 := ⟨⟨w_958, w_27, nmh_X5, by decide +kernel, by decide⟩, w_957⟩
theorem ok_X5_init : jVokI yX5_init cX5_init 1 0 := ⟨⟨w_917, w_27, nmh_X5, by decide +kernel, by decide⟩, rfl, w_916⟩
theorem ok_X5_thrown : jVokV yX5_thrown cX5_thrown 1 (some .int) 0 := ⟨⟨w_943, w_27, nmh_X5, by decide +kernel, by decide⟩, w_941, w_942⟩
theorem ok_X5_refuse : jVokV yX5_refuse cX5_refuse 3 (some .boolean) 2 := ⟨⟨w_969, w_27, nmh_X5, by decide +kernel, by decide⟩, w_968, w_9⟩
theorem ok_X5_start : jVokV yX5_start cX5_start 3 (some .boolean) 2 := ⟨⟨w_965, w_27, nmh_X5, by decide +kernel, by decide⟩, w_964, w_8⟩
theorem ok_X5_isNo : jVokS yX5_isNo cX5_isNo 1 (some .boolean) 1 := ⟨⟨w_961, w_27, nmh_X5, by decide +kernel, by decide⟩, w_960⟩
theorem ok_X5_isSign : jVokS yX5_isSign cX5_isSign 1 (some .boolean) 1 := ⟨⟨w_950, w_27, nmh_X5, by decide +kernel, by decide⟩, w_949⟩
theorem ok_X5_no : jVokV yX5_no cX5_no 1 (some .int) 0 := ⟨⟨w_995, w_27, nmh_X5, by decide +kernel, by decide⟩, w_994, w_12⟩
theorem ok_X5_many : jVokV yX5_many cX5_many 2 (some .int) 1 := ⟨⟨w_973, w_27, nmh_X5, by decide +kernel, by decide⟩, w_972, w_10⟩
theorem ok_X5_part : jVokS yX5_part cX5_part 5 (some (.array .int)) 3 := ⟨⟨w_998, w_27, nmh_X5, by decide +kernel, by decide⟩, w_997⟩
theorem ok_X5_with : jVokS yX5_with cX5_with 4 (some (.array .int)) 2 := ⟨⟨w_976, w_27, nmh_X5, by decide +kernel, by decide⟩, w_975⟩
theorem ok_X5_textOf : jVokS yX5_textOf cX5_textOf 6 (some (.object "java/lang/String")) 1 := ⟨⟨w_1066, w_27, nmh_X5, by decide +kernel, by decide⟩, w_1065⟩
theorem ok_X5_codeOf : jVokS yX5_codeOf cX5_codeOf 3 (some .int) 1 := ⟨⟨w_1172, w_27, nmh_X5, by decide +kernel, by decide⟩, w_1171⟩
theorem ok_X5_isSpan : jVokS yX5_isSpan cX5_isSpan 6 (some .boolean) 3 := ⟨⟨w_991, w_27, nmh_X5, by decide +kernel, by decide⟩, w_990⟩
theorem ok_X5_isStretch : jVokS yX5_isStretch cX5_isStretch 6 (some .boolean) 3 := ⟨⟨w_1005, w_27, nmh_X5, by decide +kernel, by decide⟩, w_1004⟩
theorem ok_X5_compared : jVokS yX5_compared cX5_compared 3 (some .int) 2 := ⟨⟨w_1099, w_27, nmh_X5, by decide +kernel, by decide⟩, w_1098⟩
theorem ok_X5_smalls : jVokS yX5_smalls cX5_smalls 6 (some .int) 1 := ⟨⟨w_1125, w_27, nmh_X5, by decide +kernel, by decide⟩, w_1124⟩
theorem ok_X5_before : jVokS yX5_before cX5_before 2 (some .int) 2 := ⟨⟨w_1122, w_27, nmh_X5, by decide +kernel, by decide⟩, w_1121⟩
theorem ok_X5_ordered : jVokV yX5_ordered cX5_ordered 7 (some .int) 3 := ⟨⟨w_1119, w_27, nmh_X5, by decide +kernel, by decide⟩, w_1118, w_18⟩
theorem ok_X5_isAsked : jVokV yX5_isAsked cX5_isAsked 3 (some .boolean) 2 := ⟨⟨w_1115, w_27, nmh_X5, by decide +kernel, by decide⟩, w_1114, w_17⟩
theorem ok_X5_write : jVokV yX5_write cX5_write 9 (some .int) 4 := ⟨⟨w_947, w_27, nmh_X5, by decide +kernel, by decide⟩, w_945, w_946⟩
theorem ok_X5_fill : jVokV yX5_fill cX5_fill 6 (some .int) 3 := ⟨⟨w_980, w_27, nmh_X5, by decide +kernel, by decide⟩, w_978, w_979⟩
theorem ok_X5_isNone : jVokV yX5_isNone cX5_isNone 2 (some .boolean) 1 := ⟨⟨w_988, w_27, nmh_X5, by decide +kernel, by decide⟩, w_987, w_11⟩
theorem ok_X5_cut : jVokV yX5_cut cX5_cut 4 (some .int) 3 := ⟨⟨w_984, w_27, nmh_X5, by decide +kernel, by decide⟩, w_982, w_983⟩
theorem ok_X5_take : jVokV yX5_take cX5_take 4 (some .int) 3 := ⟨⟨w_1002, w_27, nmh_X5, by decide +kernel, by decide⟩, w_1000, w_1001⟩
theorem ok_X5_put : jVokV yX5_put cX5_put 5 (some .int) 3 := ⟨⟨w_1009, w_27, nmh_X5, by decide +kernel, by decide⟩, w_1007, w_1008⟩
theorem ok_X5_areNo : jVokV yX5_areNo cX5_areNo 3 (some .boolean) 2 := ⟨⟨w_1017, w_27, nmh_X5, by decide +kernel, by decide⟩, w_1016, w_13⟩
theorem ok_X5_copy : jVokV yX5_copy cX5_copy 3 (some .int) 2 := ⟨⟨w_1013, w_27, nmh_X5, by decide +kernel, by decide⟩, w_1011, w_1012⟩
theorem ok_X5_leave : jVokV yX5_leave cX5_leave 3 (some .int) 1 := ⟨⟨w_1021, w_27, nmh_X5, by decide +kernel, by decide⟩, w_1019, w_1020⟩
theorem ok_X5_told : jVokV yX5_told cX5_told 3 (some .int) 2 := ⟨⟨w_1029, w_27, nmh_X5, by decide +kernel, by decide⟩, w_1028, w_14⟩
theorem ok_X5_place : jVokV yX5_place cX5_place 3 (some .int) 2 := ⟨⟨w_1025, w_27, nmh_X5, by decide +kernel, by decide⟩, w_1023, w_1024⟩
theorem ok_X5_span : jVokV yX5_span cX5_span 4 (some .int) 3 := ⟨⟨w_1033, w_27, nmh_X5, by decide +kernel, by decide⟩, w_1031, w_1032⟩
theorem ok_X5_stretch : jVokV yX5_stretch cX5_stretch 4 (some .int) 3 := ⟨⟨w_1037, w_27, nmh_X5, by decide +kernel, by decide⟩, w_1035, w_1036⟩
theorem ok_X5_is : jVokV yX5_is cX5_is 2 (some .boolean) 1 := ⟨⟨w_1045, w_27, nmh_X5, by decide +kernel, by decide⟩, w_1044, w_15⟩
theorem ok_X5_isFarPlace : jVokV yX5_isFarPlace cX5_isFarPlace 3 (some .boolean) 2 := ⟨⟨w_1041, w_27, nmh_X5, by decide +kernel, by decide⟩, w_1039, w_1040⟩
theorem ok_X5_isFarSpan : jVokV yX5_isFarSpan cX5_isFarSpan 4 (some .boolean) 3 := ⟨⟨w_1049, w_27, nmh_X5, by decide +kernel, by decide⟩, w_1047, w_1048⟩
theorem ok_X5_isFarStretch : jVokV yX5_isFarStretch cX5_isFarStretch 4 (some .boolean) 3 := ⟨⟨w_1053, w_27, nmh_X5, by decide +kernel, by decide⟩, w_1051, w_1052⟩
theorem ok_X5_insides : jVokV yX5_insides cX5_insides 6 (some .int) 2 := ⟨⟨w_1057, w_27, nmh_X5, by decide +kernel, by decide⟩, w_1055, w_1056⟩
theorem ok_X5_text : jVokV yX5_text cX5_text 2 (some (.object "java/lang/String")) 1 := ⟨⟨w_1061, w_27, nmh_X5, by decide +kernel, by decide⟩, w_1059, w_1060⟩
theorem ok_X5_length : jVokV yX5_length cX5_length 2 (some .int) 1 := ⟨⟨w_1075, w_27, nmh_X5, by decide +kernel, by decide⟩, w_1073, w_1074⟩
theorem ok_X5_signAt : jVokV yX5_signAt cX5_signAt 3 (some .int) 2 := ⟨⟨w_1079, w_27, nmh_X5, by decide +kernel, by decide⟩, w_1077, w_1078⟩
theorem ok_X5_noText : jVokV yX5_noText cX5_noText 1 (some (.object "java/lang/String")) 0 := ⟨⟨w_1087, w_27, nmh_X5, by decide +kernel, by decide⟩, w_1086, w_16⟩
theorem ok_X5_part_ : jVokV yX5_part_ cX5_part_ 4 (some (.object "java/lang/String")) 3 := ⟨⟨w_1083, w_27, nmh_X5, by decide +kernel, by decide⟩, w_1081, w_1082⟩
theorem ok_X5_isEmpty : jVokV yX5_isEmpty cX5_isEmpty 2 (some .boolean) 1 := ⟨⟨w_1092, w_27, nmh_X5, by decide +kernel, by decide⟩, w_1090, w_1091⟩
theorem ok_X5_compare : jVokV yX5_compare cX5_compare 3 (some .int) 2 := ⟨⟨w_1096, w_27, nmh_X5, by decide +kernel, by decide⟩, w_1094, w_1095⟩
theorem ok_X5_compareParts : jVokV yX5_compareParts cX5_compareParts 5 (some .int) 4 := ⟨⟨w_1103, w_27, nmh_X5, by decide +kernel, by decide⟩, w_1101, w_1102⟩
theorem ok_X5_isLike : jVokV yX5_isLike cX5_isLike 3 (some .int) 2 := ⟨⟨w_1107, w_27, nmh_X5, by decide +kernel, by decide⟩, w_1105, w_1106⟩
theorem ok_X5_order : jVokV yX5_order cX5_order 4 (some .int) 3 := ⟨⟨w_1111, w_27, nmh_X5, by decide +kernel, by decide⟩, w_1109, w_1110⟩
theorem ok_X5_ahead : jVokV yX5_ahead cX5_ahead 5 (some .int) 2 := ⟨⟨w_1129, w_27, nmh_X5, by decide +kernel, by decide⟩, w_1127, w_1128⟩
theorem ok_X5_must : jVokV yX5_must cX5_must 2 (some .int) 1 := ⟨⟨w_1133, w_27, nmh_X5, by decide +kernel, by decide⟩, w_1131, w_1132⟩
theorem ok_X5_mustSaying : jVokV yX5_mustSaying cX5_mustSaying 2 (some .int) 1 := ⟨⟨w_1137, w_27, nmh_X5, by decide +kernel, by decide⟩, w_1135, w_1136⟩
theorem ok_X5_either : jVokV yX5_either cX5_either 4 (some (.object "java/lang/String")) 2 := ⟨⟨w_1145, w_27, nmh_X5, by decide +kernel, by decide⟩, w_1144, w_19⟩
theorem ok_X5_orElse : jVokV yX5_orElse cX5_orElse 3 (some (.object "java/lang/String")) 2 := ⟨⟨w_1141, w_27, nmh_X5, by decide +kernel, by decide⟩, w_1139, w_1140⟩
theorem ok_X5_orGiven : jVokV yX5_orGiven cX5_orGiven 3 (some (.object "java/lang/String")) 2 := ⟨⟨w_1149, w_27, nmh_X5, by decide +kernel, by decide⟩, w_1147, w_1148⟩
theorem ok_X5_isMissing : jVokV yX5_isMissing cX5_isMissing 2 (some .boolean) 1 := ⟨⟨w_1153, w_27, nmh_X5, by decide +kernel, by decide⟩, w_1151, w_1152⟩
theorem ok_X5_isThere : jVokV yX5_isThere cX5_isThere 2 (some .boolean) 1 := ⟨⟨w_1157, w_27, nmh_X5, by decide +kernel, by decide⟩, w_1155, w_1156⟩
theorem ok_X5_areLike : jVokV yX5_areLike cX5_areLike 5 (some .boolean) 2 := ⟨⟨w_1165, w_27, nmh_X5, by decide +kernel, by decide⟩, w_1164, w_20⟩
theorem ok_X5_areSame : jVokV yX5_areSame cX5_areSame 3 (some .boolean) 2 := ⟨⟨w_1161, w_27, nmh_X5, by decide +kernel, by decide⟩, w_1159, w_1160⟩
theorem ok_X5_code : jVokV yX5_code cX5_code 2 (some .int) 1 := ⟨⟨w_1169, w_27, nmh_X5, by decide +kernel, by decide⟩, w_1167, w_1168⟩
theorem ok_X5_codesOf : jVokV yX5_codesOf cX5_codesOf 4 (some .int) 3 := ⟨⟨w_1180, w_27, nmh_X5, by decide +kernel, by decide⟩, w_1179, w_21⟩
theorem ok_X5_codes : jVokV yX5_codes cX5_codes 4 (some .int) 3 := ⟨⟨w_1176, w_27, nmh_X5, by decide +kernel, by decide⟩, w_1174, w_1175⟩
theorem ok_X5_knock : jVokV yX5_knock cX5_knock 1 (some .int) 0 := ⟨⟨w_1184, w_27, nmh_X5, by decide +kernel, by decide⟩, w_1182, w_1183⟩
theorem ok_X5_houseTold : jVokV yX5_houseTold cX5_houseTold 8 (some .int) 1 := ⟨⟨w_1192, w_27, nmh_X5, by decide +kernel, by decide⟩, w_1191, w_22⟩
theorem ok_X5_house : jVokV yX5_house cX5_house 2 (some .int) 1 := ⟨⟨w_1188, w_27, nmh_X5, by decide +kernel, by decide⟩, w_1186, w_1187⟩
theorem ok_X5_isWhole : jVokV yX5_isWhole cX5_isWhole 5 (some .boolean) 0 := ⟨⟨w_1200, w_27, nmh_X5, by decide +kernel, by decide⟩, w_1199, w_23⟩
theorem ok_X5_isSound : jVokV yX5_isSound cX5_isSound 1 (some .boolean) 0 := ⟨⟨w_1196, w_27, nmh_X5, by decide +kernel, by decide⟩, w_1194, w_1195⟩
theorem ok_X5_add : jVokS yX5_add cX5_add 4 (some .long) 2 := ⟨⟨w_1208, w_27, nmh_X5, by decide +kernel, by decide⟩, w_1207⟩
theorem ok_X5_digest : jVokV yX5_digest cX5_digest 6 (some .long) 0 := ⟨⟨w_1204, w_27, nmh_X5, by decide +kernel, by decide⟩, w_1202, w_1203⟩
theorem nmh_J5 : (yJ5_init_d00df.cls ≠ "java/lang/invoke/MethodHandle" ∧ yJ5_init_d00df.cls ≠ "java/lang/invoke/VarHandle") := by decide +kernel
theorem ok_J5_init_d00df : jVokI yJ5_init_d00df cJ5_init_d00df 2 1 := ⟨⟨w_506, w_36, nmh_J5, by decide +kernel, by decide⟩, rfl, w_505⟩
theorem nmh_J6 : (yJ6_getChars_ba4f3.cls ≠ "java/lang/invoke/MethodHandle" ∧ yJ6_getChars_ba4f3.cls ≠ "java/lang/invoke/VarHandle") := by decide +kernel
theorem nmh_J9 : (yJ9_max_7cf53.cls ≠ "java/lang/invoke/MethodHandle" ∧ yJ9_max_7cf53.cls ≠ "java/lang/invoke/VarHandle") := by decide +kernel
theorem nmh_J0 : (yJ0_init_81219.cls ≠ "java/lang/invoke/MethodHandle" ∧ yJ0_init_81219.cls ≠ "java/lang/invoke/VarHandle") := by decide +kernel
theorem ok_J0_init_81219 : jVokI yJ0_init_81219 cJ0_init_81219 2 1 := ⟨⟨w_629, w_38, nmh_J0, by decide +kernel, by decide⟩, rfl, w_628⟩
theorem ok_J0_length_8abf5 : jVokV yJ0_length_8abf5 cJ0_length_8abf5 1 (some .int) 0 := ⟨⟨w_712, w_38, nmh_J0, by decide +kernel, by decide⟩, w_710, w_711⟩
theorem ok_J0_getBytes_840e7 : jVokV yJ0_getBytes_840e7 cJ0_getBytes_840e7 4 (none : Option Jvm.ClassFile.FieldType) 3 := ⟨⟨w_730, w_38, nmh_J0, by decide +kernel, by decide⟩, w_728, w_729⟩
theorem ok_J0_init_db425 : jVokI yJ0_init_db425 cJ0_init_db425 5 2 := ⟨⟨w_632, w_38, nmh_J0, by decide +kernel, by decide⟩, rfl, w_631⟩
theorem ok_J0_coder_7d493 : jVokV yJ0_coder_7d493 cJ0_coder_7d493 1 (some .byte) 0 := ⟨⟨w_716, w_38, nmh_J0, by decide +kernel, by decide⟩, w_714, w_715⟩
theorem nmh_J4 : (yJ4_init_da8c8.cls ≠ "java/lang/invoke/MethodHandle" ∧ yJ4_init_da8c8.cls ≠ "java/lang/invoke/VarHandle") := by decide +kernel
theorem ok_J4_init_da8c8 : jVokI yJ4_init_da8c8 cJ4_init_da8c8 1 0 := ⟨⟨w_503, w_37, nmh_J4, by decide +kernel, by decide⟩, rfl, w_502⟩
theorem ok_J4_append_15ec4 : jVokV yJ4_append_15ec4 cJ4_append_15ec4 2 (some (.object "java/lang/StringBuilder")) 1 := ⟨⟨w_698, w_37, nmh_J4, by decide +kernel, by decide⟩, w_696, w_697⟩
theorem ok_J4_append_cf468 : jVokV yJ4_append_cf468 cJ4_append_cf468 2 (some (.object "java/lang/StringBuilder")) 1 := ⟨⟨w_533, w_37, nmh_J4, by decide +kernel, by decide⟩, w_531, w_532⟩
theorem ok_J4_toString_0e30d : jVokV yJ4_toString_0e30d cJ4_toString_0e30d 1 (some (.object "java/lang/String")) 0 := ⟨⟨w_624, w_37, nmh_J4, by decide +kernel, by decide⟩, w_622, w_623⟩
theorem nmh_J1 : (yJ1_canEncode_fc78d.cls ≠ "java/lang/invoke/MethodHandle" ∧ yJ1_canEncode_fc78d.cls ≠ "java/lang/invoke/VarHandle") := by decide +kernel
theorem ok_J1_canEncode_fc78d : jVokS yJ1_canEncode_fc78d cJ1_canEncode_fc78d 1 (some .boolean) 1 := ⟨⟨w_575, w_44, nmh_J1, by decide +kernel, by decide⟩, w_574⟩
theorem nmh_J2 : (yJ2_newBytesFor_77867.cls ≠ "java/lang/invoke/MethodHandle" ∧ yJ2_newBytesFor_77867.cls ≠ "java/lang/invoke/VarHandle") := by decide +kernel
theorem nmh_J7 : (yJ7_copyOf_9075b.cls ≠ "java/lang/invoke/MethodHandle" ∧ yJ7_copyOf_9075b.cls ≠ "java/lang/invoke/VarHandle") := by decide +kernel
theorem ok_J7_copyOf_9075b : jVokS yJ7_copyOf_9075b cJ7_copyOf_9075b 3 (some (.array .byte)) 2 := ⟨⟨w_556, w_42, nmh_J7, by decide +kernel, by decide⟩, w_555⟩
theorem ok_J7_checkLength_df160 : jVokS yJ7_checkLength_df160 cJ7_checkLength_df160 2 (none : Option Jvm.ClassFile.FieldType) 2 := ⟨⟨w_656, w_42, nmh_J7, by decide +kernel, by decide⟩, w_655⟩
theorem ok_J7_copyOfRange_39247 : jVokS yJ7_copyOfRange_39247 cJ7_copyOfRange_39247 3 (some (.array .byte)) 3 := ⟨⟨w_650, w_42, nmh_J7, by decide +kernel, by decide⟩, w_649⟩
theorem ok_J7_copyOfRangeByte_39247 : jVokS yJ7_copyOfRangeByte_39247 cJ7_copyOfRangeByte_39247 5 (some (.array .byte)) 3 := ⟨⟨w_653, w_42, nmh_J7, by decide +kernel, by decide⟩, w_652⟩
theorem nmh_J8 : (yJ8_newLength_cabcc.cls ≠ "java/lang/invoke/MethodHandle" ∧ yJ8_newLength_cabcc.cls ≠ "java/lang/invoke/VarHandle") := by decide +kernel
theorem ok_J8_newLength_cabcc : jVokS yJ8_newLength_cabcc cJ8_newLength_cabcc 4 (some .int) 3 := ⟨⟨w_547, w_40, nmh_J8, by decide +kernel, by decide⟩, w_546⟩
theorem nmh_J3 : (yJ3_checkIndex_8e157.cls ≠ "java/lang/invoke/MethodHandle" ∧ yJ3_checkIndex_8e157.cls ≠ "java/lang/invoke/VarHandle") := by decide +kernel
theorem nmh_L : (yL_write.cls ≠ "java/lang/invoke/MethodHandle" ∧ yL_write.cls ≠ "java/lang/invoke/VarHandle") := by decide +kernel
theorem jS_X3_165 : ("Checkdesk", 165, "!") ∈ jStr := List.mem_of_getElem? (i := 0) rfl
theorem jS_X3_178 : ("Checkdesk", 178, "no such seat") ∈ jStr := List.mem_of_getElem? (i := 1) rfl
theorem jS_X3_183 : ("Checkdesk", 183, "no such seat with a paper") ∈ jStr := List.mem_of_getElem? (i := 2) rfl
theorem jS_X3_187 : ("Checkdesk", 187, "no such sign") ∈ jStr := List.mem_of_getElem? (i := 3) rfl
theorem jS_X3_190 : ("Checkdesk", 190, "the number is not one of those that are told") ∈ jStr := List.mem_of_getElem? (i := 4) rfl
theorem jS_X3_194 : ("Checkdesk", 194, "what is on the seat is missing") ∈ jStr := List.mem_of_getElem? (i := 5) rfl
theorem jS_X3_197 : ("Checkdesk", 197, "the text would have too many signs") ∈ jStr := List.mem_of_getElem? (i := 6) rfl
theorem jS_X3_98 : ("Checkdesk", 98, "none") ∈ jStr := List.mem_of_getElem? (i := 7) rfl
theorem jS_X5_113 : ("CheckdeskModel", 113, "none") ∈ jStr := List.mem_of_getElem? (i := 8) rfl
theorem jS_X5_119 : ("CheckdeskModel", 119, "!") ∈ jStr := List.mem_of_getElem? (i := 9) rfl
theorem jxc_jIO : (jIO, jIO) ∈ jCast := List.mem_of_getElem? (i := 0) rfl
theorem jxc_jIA : (jIA, jIA) ∈ jCast := List.mem_of_getElem? (i := 1) rfl
theorem jxc_jIS : (jIS, jIS) ∈ jCast := List.mem_of_getElem? (i := 2) rfl
theorem jxin_X3_180 : ∀ w ∈ (vx_atS RX3 180 "java/lang/IndexOutOfBoundsException" ["java/lang/RuntimeException", "java/lang/Exception"]).filter goodWord, w ∈ jTg := fun w h => List.mem_append_left _ (List.mem_filter.mpr ⟨(by decide +kernel : ∀ w ∈ (vx_atS RX3 180 "java/lang/IndexOutOfBoundsException" ["java/lang/RuntimeException", "java/lang/Exception"]).filter goodWord, w ∈ lw_tbl) w h, (List.mem_filter.mp h).2⟩)
theorem jxbad_X3_180 : ∀ w ∈ (vx_atS RX3 180 "java/lang/IndexOutOfBoundsException" ["java/lang/RuntimeException", "java/lang/Exception"]).filter (fun w => !goodWord w), w ∈ Cond.castable "java/lang/IndexOutOfBoundsException" "java/lang/IndexOutOfBoundsException" :: jDecl.map Cond.declares := by decide +kernel
theorem jxgood_X3_176_180 : ∀ w ∈ Cond.classLink RX3 176 "java/lang/IndexOutOfBoundsException" :: Cond.initialized "java/lang/IndexOutOfBoundsException" :: vx_atS RX3 180 "java/lang/IndexOutOfBoundsException" ["java/lang/RuntimeException", "java/lang/Exception"], vx_ot w = true := by decide +kernel
theorem jxin_X3_189 : ∀ w ∈ (vx_atS RX3 189 "java/lang/IllegalArgumentException" ["java/lang/RuntimeException", "java/lang/Exception"]).filter goodWord, w ∈ jTg := fun w h => List.mem_append_left _ (List.mem_filter.mpr ⟨(by decide +kernel : ∀ w ∈ (vx_atS RX3 189 "java/lang/IllegalArgumentException" ["java/lang/RuntimeException", "java/lang/Exception"]).filter goodWord, w ∈ lw_tbl) w h, (List.mem_filter.mp h).2⟩)
theorem jxbad_X3_189 : ∀ w ∈ (vx_atS RX3 189 "java/lang/IllegalArgumentException" ["java/lang/RuntimeException", "java/lang/Exception"]).filter (fun w => !goodWord w), w ∈ Cond.castable "java/lang/IllegalArgumentException" "java/lang/IllegalArgumentException" :: jDecl.map Cond.declares := by decide +kernel
theorem jxgood_X3_185_189 : ∀ w ∈ Cond.classLink RX3 185 "java/lang/IllegalArgumentException" :: Cond.initialized "java/lang/IllegalArgumentException" :: vx_atS RX3 189 "java/lang/IllegalArgumentException" ["java/lang/RuntimeException", "java/lang/Exception"], vx_ot w = true := by decide +kernel
theorem jxin_X3_196 : ∀ w ∈ (vx_atS RX3 196 "java/lang/IllegalStateException" ["java/lang/RuntimeException", "java/lang/Exception"]).filter goodWord, w ∈ jTg := fun w h => List.mem_append_left _ (List.mem_filter.mpr ⟨(by decide +kernel : ∀ w ∈ (vx_atS RX3 196 "java/lang/IllegalStateException" ["java/lang/RuntimeException", "java/lang/Exception"]).filter goodWord, w ∈ lw_tbl) w h, (List.mem_filter.mp h).2⟩)
theorem jxbad_X3_196 : ∀ w ∈ (vx_atS RX3 196 "java/lang/IllegalStateException" ["java/lang/RuntimeException", "java/lang/Exception"]).filter (fun w => !goodWord w), w ∈ Cond.castable "java/lang/IllegalStateException" "java/lang/IllegalStateException" :: jDecl.map Cond.declares := by decide +kernel
theorem jxgood_X3_192_196 : ∀ w ∈ Cond.classLink RX3 192 "java/lang/IllegalStateException" :: Cond.initialized "java/lang/IllegalStateException" :: vx_atS RX3 196 "java/lang/IllegalStateException" ["java/lang/RuntimeException", "java/lang/Exception"], vx_ot w = true := by decide +kernel
