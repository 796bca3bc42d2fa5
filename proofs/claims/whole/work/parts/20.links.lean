theorem lw_in {w : Cond} (h : w ∈ lw_tbl) (hg : goodWord w = true) : w ∈ lw_all := List.mem_filter.mpr ⟨h, hg⟩
theorem lw_inN {w : Cond} (h : w ∈ lw_tbl) (hg : mm_isN w = true) : w ∈ lw_nst := List.mem_filter.mpr ⟨h, hg⟩
theorem lk0 : Cond.selects "VoiceHouse" yX11_refuse yX11_refuse ∈ lw_all := lw_in (lkc0 _ (List.mem_of_getElem? (i := 0) rfl)) rfl
theorem lk1 : Cond.selects "VoiceHouse" yX11_coderAt yX11_coderAt ∈ lw_all := lw_in (lkc0 _ (List.mem_of_getElem? (i := 1) rfl)) rfl
theorem lk2 : Cond.selects "VoiceHouse$Encoder" yX2_framed yX2_framed ∈ lw_all := lw_in (lkc0 _ (List.mem_of_getElem? (i := 2) rfl)) rfl
theorem lk3 : Cond.selects "VoiceHouse$Encoder" yX2_predict yX2_predict ∈ lw_all := lw_in (lkc0 _ (List.mem_of_getElem? (i := 3) rfl)) rfl
theorem lk4 : Cond.selects "VoiceHouse$Encoder" yX2_correlate yX2_correlate ∈ lw_all := lw_in (lkc0 _ (List.mem_of_getElem? (i := 4) rfl)) rfl
theorem lk5 : Cond.selects "VoiceHouse$Encoder" yX2_reflect yX2_reflect ∈ lw_all := lw_in (lkc0 _ (List.mem_of_getElem? (i := 5) rfl)) rfl
theorem lk6 : Cond.selects "VoiceHouse$Encoder" yX2_reflectOnce yX2_reflectOnce ∈ lw_all := lw_in (lkc0 _ (List.mem_of_getElem? (i := 6) rfl)) rfl
theorem lk7 : Cond.selects "VoiceHouse$Encoder" yX2_whiten yX2_whiten ∈ lw_all := lw_in (lkc0 _ (List.mem_of_getElem? (i := 7) rfl)) rfl
theorem lk8 : Cond.selects "VoiceHouse$Encoder" yX2_restOf yX2_restOf ∈ lw_all := lw_in (lkc0 _ (List.mem_of_getElem? (i := 8) rfl)) rfl
theorem lk9 : Cond.selects "VoiceHouse$Encoder" yX2_encodeParts yX2_encodeParts ∈ lw_all := lw_in (lkc0 _ (List.mem_of_getElem? (i := 9) rfl)) rfl
theorem lk10 : Cond.selects "VoiceHouse$Search" yX9_tryLags yX9_tryLags ∈ lw_all := lw_in (lkc0 _ (List.mem_of_getElem? (i := 10) rfl)) rfl
theorem lk11 : Cond.selects "VoiceHouse$Search" yX9_tryLag yX9_tryLag ∈ lw_all := lw_in (lkc0 _ (List.mem_of_getElem? (i := 11) rfl)) rfl
theorem lk12 : Cond.selects "VoiceHouse$Search" yX9_weighPlaces yX9_weighPlaces ∈ lw_all := lw_in (lkc0 _ (List.mem_of_getElem? (i := 12) rfl)) rfl
theorem lk13 : Cond.selects "VoiceHouse$Search" yX9_overlap yX9_overlap ∈ lw_all := lw_in (lkc0 _ (List.mem_of_getElem? (i := 13) rfl)) rfl
theorem lk14 : Cond.selects "VoiceHouse$Search" yX9_findPair yX9_findPair ∈ lw_all := lw_in (lkc0 _ (List.mem_of_getElem? (i := 14) rfl)) rfl
theorem lk15 : Cond.selects "VoiceHouse$Search" yX9_findOdd yX9_findOdd ∈ lw_all := lw_in (lkc0 _ (List.mem_of_getElem? (i := 15) rfl)) rfl
theorem lk16 : Cond.selects "VoiceHouse$Search" yX9_betters yX9_betters ∈ lw_all := lw_in (lkc0 _ (List.mem_of_getElem? (i := 16) rfl)) rfl
theorem lk17 : Cond.selects "VoiceHouse$Search" yX9_findEven yX9_findEven ∈ lw_all := lw_in (lkc0 _ (List.mem_of_getElem? (i := 17) rfl)) rfl
theorem lk18 : Cond.selects "VoiceHouse$Memory" yX6_settle yX6_settle ∈ lw_all := lw_in (lkc0 _ (List.mem_of_getElem? (i := 18) rfl)) rfl
theorem lk19 : Cond.selects "VoiceHouse$Memory" yX6_synthesized yX6_synthesized ∈ lw_all := lw_in (lkc0 _ (List.mem_of_getElem? (i := 19) rfl)) rfl
theorem lk20 : Cond.selects "VoiceHouse$Encoder" yX2_headed yX2_headed ∈ lw_all := lw_in (lkc0 _ (List.mem_of_getElem? (i := 20) rfl)) rfl
theorem lk21 : Cond.selects "VoiceHouse$Encoder" yX2_writeBody yX2_writeBody ∈ lw_all := lw_in (lkc0 _ (List.mem_of_getElem? (i := 21) rfl)) rfl
theorem lk22 : Cond.selects "VoiceHouse" yX11_pickRefusal yX11_pickRefusal ∈ lw_all := lw_in (lkc0 _ (List.mem_of_getElem? (i := 22) rfl)) rfl
theorem lk23 : Cond.selects "VoiceHouse" yX11_frameAt yX11_frameAt ∈ lw_all := lw_in (lkc0 _ (List.mem_of_getElem? (i := 23) rfl)) rfl
theorem lk24 : Cond.selects "VoiceHouse$Decoder" yX1_missed yX1_missed ∈ lw_all := lw_in (lkc0 _ (List.mem_of_getElem? (i := 24) rfl)) rfl
theorem lk25 : Cond.selects "VoiceHouse$Decoder" yX1_openedWith yX1_openedWith ∈ lw_all := lw_in (lkc25 _ (List.mem_of_getElem? (i := 0) rfl)) rfl
theorem lk26 : Cond.selects "VoiceHouse$Decoder" yX1_decodeFrame yX1_decodeFrame ∈ lw_all := lw_in (lkc25 _ (List.mem_of_getElem? (i := 1) rfl)) rfl
theorem lk27 : Cond.selects "VoiceHouse$Decoder" yX1_repairFrom yX1_repairFrom ∈ lw_all := lw_in (lkc25 _ (List.mem_of_getElem? (i := 2) rfl)) rfl
theorem lk28 : Cond.selects "VoiceHouse$Decoder" yX1_filterAll yX1_filterAll ∈ lw_all := lw_in (lkc25 _ (List.mem_of_getElem? (i := 3) rfl)) rfl
theorem lk29 : Cond.selects "VoiceHouse$Filter" yX3_addNoise yX3_addNoise ∈ lw_all := lw_in (lkc25 _ (List.mem_of_getElem? (i := 4) rfl)) rfl
theorem lk30 : Cond.selects "VoiceHouse$Filter" yX3_tilt yX3_tilt ∈ lw_all := lw_in (lkc25 _ (List.mem_of_getElem? (i := 5) rfl)) rfl
theorem lk31 : Cond.selects "VoiceHouse$Filter" yX3_comb yX3_comb ∈ lw_all := lw_in (lkc25 _ (List.mem_of_getElem? (i := 6) rfl)) rfl
theorem lk32 : Cond.selects "VoiceHouse$Filter" yX3_emphasize yX3_emphasize ∈ lw_all := lw_in (lkc25 _ (List.mem_of_getElem? (i := 7) rfl)) rfl
theorem lk33 : Cond.selects "VoiceHouse$Decoder" yX1_joinOn yX1_joinOn ∈ lw_all := lw_in (lkc25 _ (List.mem_of_getElem? (i := 8) rfl)) rfl
theorem lk34 : Cond.selects "VoiceHouse$Decoder" yX1_bringOut yX1_bringOut ∈ lw_all := lw_in (lkc25 _ (List.mem_of_getElem? (i := 9) rfl)) rfl
theorem lk35 : Cond.selects "VoiceHouse" yX11_unknown yX11_unknown ∈ lw_all := lw_in (lkc25 _ (List.mem_of_getElem? (i := 10) rfl)) rfl
theorem lk36 : Cond.selects "VoiceHouse" yX11_entry yX11_entry ∈ lw_all := lw_in (lkc25 _ (List.mem_of_getElem? (i := 11) rfl)) rfl
theorem lk37 : Cond.selects "VoiceHouse" yX11_memoryOf yX11_memoryOf ∈ lw_all := lw_in (lkc25 _ (List.mem_of_getElem? (i := 12) rfl)) rfl
theorem lk38 : Cond.selects "VoiceHouseModel" yX12_refused yX12_refused ∈ lw_all := lw_in (lkc25 _ (List.mem_of_getElem? (i := 13) rfl)) rfl
theorem lk39 : Cond.selects "VoiceHouseModel" yX12_done yX12_done ∈ lw_all := lw_in (lkc25 _ (List.mem_of_getElem? (i := 14) rfl)) rfl
theorem lk40 : Cond.selects "VoiceHouseModel" yX12_isCoder yX12_isCoder ∈ lw_all := lw_in (lkc25 _ (List.mem_of_getElem? (i := 15) rfl)) rfl
theorem lk41 : Cond.selects "VoiceHouseModel" yX12_tell yX12_tell ∈ lw_all := lw_in (lkc25 _ (List.mem_of_getElem? (i := 16) rfl)) rfl
theorem lk42 : Cond.selects "VoiceHouseModel" yX12_sample16 yX12_sample16 ∈ lw_all := lw_in (lkc25 _ (List.mem_of_getElem? (i := 17) rfl)) rfl
theorem lk43 : Cond.selects "VoiceHouseModel" yX12_newRow yX12_newRow ∈ lw_all := lw_in (lkc25 _ (List.mem_of_getElem? (i := 18) rfl)) rfl
theorem lk44 : Cond.selects "VoiceHouseModel" yX12_hush yX12_hush ∈ lw_all := lw_in (lkc25 _ (List.mem_of_getElem? (i := 19) rfl)) rfl
theorem lk45 : Cond.selects "VoiceHouseModel" yX12_sound yX12_sound ∈ lw_all := lw_in (lkc25 _ (List.mem_of_getElem? (i := 20) rfl)) rfl
theorem lk46 : Cond.selects "VoiceHouseModel" yX12_synthesis yX12_synthesis ∈ lw_all := lw_in (lkc25 _ (List.mem_of_getElem? (i := 21) rfl)) rfl
theorem lk47 : Cond.selects "VoiceHouseModel" yX12_put yX12_put ∈ lw_all := lw_in (lkc25 _ (List.mem_of_getElem? (i := 22) rfl)) rfl
theorem lk48 : Cond.selects "VoiceHouseModel" yX12_voice yX12_voice ∈ lw_all := lw_in (lkc25 _ (List.mem_of_getElem? (i := 23) rfl)) rfl
theorem lk49 : Cond.selects "VoiceHouseModel" yX12_predict yX12_predict ∈ lw_all := lw_in (lkc25 _ (List.mem_of_getElem? (i := 24) rfl)) rfl
theorem lk50 : Cond.selects "VoiceHouseModel" yX12_word32 yX12_word32 ∈ lw_all := lw_in (lkc50 _ (List.mem_of_getElem? (i := 0) rfl)) rfl
theorem lk51 : Cond.selects "VoiceHouseModel" yX12_lattice yX12_lattice ∈ lw_all := lw_in (lkc50 _ (List.mem_of_getElem? (i := 1) rfl)) rfl
theorem lk52 : Cond.selects "VoiceHouseModel" yX12_pitch yX12_pitch ∈ lw_all := lw_in (lkc50 _ (List.mem_of_getElem? (i := 2) rfl)) rfl
theorem lk53 : Cond.selects "VoiceHouseModel" yX12_tryLag yX12_tryLag ∈ lw_all := lw_in (lkc50 _ (List.mem_of_getElem? (i := 3) rfl)) rfl
theorem lk54 : Cond.selects "VoiceHouseModel" yX12_pulses yX12_pulses ∈ lw_all := lw_in (lkc50 _ (List.mem_of_getElem? (i := 4) rfl)) rfl
theorem lk55 : Cond.selects "VoiceHouseModel" yX12_tryPair yX12_tryPair ∈ lw_all := lw_in (lkc50 _ (List.mem_of_getElem? (i := 5) rfl)) rfl
theorem lk56 : Cond.selects "VoiceHouseModel" yX12_tryGains yX12_tryGains ∈ lw_all := lw_in (lkc50 _ (List.mem_of_getElem? (i := 6) rfl)) rfl
theorem lk57 : Cond.selects "VoiceHouseModel" yX12_excited yX12_excited ∈ lw_all := lw_in (lkc50 _ (List.mem_of_getElem? (i := 7) rfl)) rfl
theorem lk58 : Cond.selects "VoiceHouseModel" yX12_behind yX12_behind ∈ lw_all := lw_in (lkc50 _ (List.mem_of_getElem? (i := 8) rfl)) rfl
theorem lk59 : Cond.selects "VoiceHouseModel" yX12_sumOf yX12_sumOf ∈ lw_all := lw_in (lkc50 _ (List.mem_of_getElem? (i := 9) rfl)) rfl
theorem lk60 : Cond.selects "VoiceHouseModel" yX12_append yX12_append ∈ lw_all := lw_in (lkc50 _ (List.mem_of_getElem? (i := 10) rfl)) rfl
theorem lk61 : Cond.selects "VoiceHouseModel" yX12_refusedNo yX12_refusedNo ∈ lw_all := lw_in (lkc50 _ (List.mem_of_getElem? (i := 11) rfl)) rfl
theorem lk62 : Cond.selects "VoiceHouseModel" yX12_isFrame yX12_isFrame ∈ lw_all := lw_in (lkc50 _ (List.mem_of_getElem? (i := 12) rfl)) rfl
theorem lk63 : Cond.selects "VoiceHouseModel" yX12_take yX12_take ∈ lw_all := lw_in (lkc50 _ (List.mem_of_getElem? (i := 13) rfl)) rfl
theorem lk64 : Cond.selects "VoiceHouseModel" yX12_firstWith yX12_firstWith ∈ lw_all := lw_in (lkc50 _ (List.mem_of_getElem? (i := 14) rfl)) rfl
theorem lk65 : Cond.selects "VoiceHouseModel" yX12_open yX12_open ∈ lw_all := lw_in (lkc50 _ (List.mem_of_getElem? (i := 15) rfl)) rfl
theorem lk66 : Cond.selects "VoiceHouseModel" yX12_opened yX12_opened ∈ lw_all := lw_in (lkc50 _ (List.mem_of_getElem? (i := 16) rfl)) rfl
theorem lk67 : Cond.selects "VoiceHouseModel" yX12_isVoice yX12_isVoice ∈ lw_all := lw_in (lkc50 _ (List.mem_of_getElem? (i := 17) rfl)) rfl
theorem lk68 : Cond.selects "VoiceHouseModel" yX12_repair0 yX12_repair0 ∈ lw_all := lw_in (lkc50 _ (List.mem_of_getElem? (i := 18) rfl)) rfl
theorem lk69 : Cond.selects "VoiceHouseModel" yX12_body yX12_body ∈ lw_all := lw_in (lkc50 _ (List.mem_of_getElem? (i := 19) rfl)) rfl
theorem lk70 : Cond.selects "VoiceHouseModel" yX12_play yX12_play ∈ lw_all := lw_in (lkc50 _ (List.mem_of_getElem? (i := 20) rfl)) rfl
theorem lk71 : Cond.selects "VoiceHouseModel" yX12_filter yX12_filter ∈ lw_all := lw_in (lkc50 _ (List.mem_of_getElem? (i := 21) rfl)) rfl
theorem lk72 : Cond.selects "VoiceHouseModel" yX12_join0 yX12_join0 ∈ lw_all := lw_in (lkc50 _ (List.mem_of_getElem? (i := 22) rfl)) rfl
theorem lk73 : Cond.selects "VoiceHouseModel" yX12_drift0 yX12_drift0 ∈ lw_all := lw_in (lkc50 _ (List.mem_of_getElem? (i := 23) rfl)) rfl
theorem lk74 : Cond.initialized "VoiceHouseLaw" ∈ lw_all := lw_in (lkc74 _ (List.mem_of_getElem? (i := 0) rfl)) rfl
theorem lk75 : Cond.initialized "VoiceHouse" ∈ lw_all := lw_in (lkc74 _ (List.mem_of_getElem? (i := 1) rfl)) rfl
theorem lk76 : Cond.initialized "VoiceHouse$Tally" ∈ lw_all := lw_in (lkc74 _ (List.mem_of_getElem? (i := 2) rfl)) rfl
theorem lk77 : Cond.initialized "VoiceHouse$Rows" ∈ lw_all := lw_in (lkc74 _ (List.mem_of_getElem? (i := 3) rfl)) rfl
theorem lk78 : Cond.initialized "VoiceHouse$Search" ∈ lw_all := lw_in (lkc74 _ (List.mem_of_getElem? (i := 4) rfl)) rfl
theorem lk79 : Cond.initialized "VoiceHouse$Part" ∈ lw_all := lw_in (lkc74 _ (List.mem_of_getElem? (i := 5) rfl)) rfl
theorem lk80 : Cond.initialized "VoiceHouseModel" ∈ lw_all := lw_in (lkc74 _ (List.mem_of_getElem? (i := 6) rfl)) rfl
theorem lk81 : Cond.initialized "VoiceHouse$Coder" ∈ lw_all := lw_in (lkc74 _ (List.mem_of_getElem? (i := 7) rfl)) rfl
theorem lk82 : Cond.initialized "VoiceHouse$Line" ∈ lw_all := lw_in (lkc74 _ (List.mem_of_getElem? (i := 8) rfl)) rfl
theorem lk83 : Cond.initialized "VoiceHouse$Encoder" ∈ lw_all := lw_in (lkc74 _ (List.mem_of_getElem? (i := 9) rfl)) rfl
theorem lk84 : Cond.initialized "VoiceHouse$Memory" ∈ lw_all := lw_in (lkc74 _ (List.mem_of_getElem? (i := 10) rfl)) rfl
theorem lk85 : Cond.initialized "VoiceHouse$Decoder" ∈ lw_all := lw_in (lkc74 _ (List.mem_of_getElem? (i := 11) rfl)) rfl
theorem lk86 : Cond.initialized "VoiceHouse$Filter" ∈ lw_all := lw_in (lkc74 _ (List.mem_of_getElem? (i := 12) rfl)) rfl
theorem lk87 : Cond.initialized "java/lang/Math" ∈ lw_all := lw_in (lkc74 _ (List.mem_of_getElem? (i := 13) rfl)) rfl
theorem lk88 : Cond.initialized "java/lang/System" ∈ lw_all := lw_in (lkc74 _ (List.mem_of_getElem? (i := 14) rfl)) rfl
theorem lk89 : Cond.initialized "VoiceHouse$Frame" ∈ lw_all := lw_in (lkc74 _ (List.mem_of_getElem? (i := 15) rfl)) rfl
theorem lk90 : Cond.initialized "java/util/Arrays" ∈ lw_all := lw_in (lkc74 _ (List.mem_of_getElem? (i := 16) rfl)) rfl
theorem lk91 : Cond.classLink "VoiceHouseLaw" 7 "VoiceHouse" ∈ lw_all := lw_in (lkc74 _ (List.mem_of_getElem? (i := 17) rfl)) rfl
theorem lk92 : Cond.instantiable "VoiceHouse" 10 ∈ lw_all := lw_in (lkc74 _ (List.mem_of_getElem? (i := 18) rfl)) rfl
theorem lk93 : Cond.methodLink "VoiceHouseLaw" 9 yX11_init ∈ lw_all := lw_in (lkc74 _ (List.mem_of_getElem? (i := 19) rfl)) rfl
theorem lk94 : Cond.instanceMethod yX11_init ∈ lw_all := lw_in (lkc74 _ (List.mem_of_getElem? (i := 20) rfl)) rfl
theorem lk95 : Cond.code yX11_init cX11_init 1 (none) ∈ lw_all := lw_in (lkc74 _ (List.mem_of_getElem? (i := 21) rfl)) rfl
theorem lk96 : Cond.methodLink "VoiceHouse" 1 (⟨"java/lang/Object", "<init>", "()V"⟩ : MethodName) ∈ lw_all := lw_in (lkc74 _ (List.mem_of_getElem? (i := 22) rfl)) rfl
theorem lk97 : Cond.instanceMethod (⟨"java/lang/Object", "<init>", "()V"⟩ : MethodName) ∈ lw_all := lw_in (lkc74 _ (List.mem_of_getElem? (i := 23) rfl)) rfl
theorem lk98 : Cond.code (⟨"java/lang/Object", "<init>", "()V"⟩ : MethodName) object_method_1_code 1 (none) ∈ lw_all := lw_in (lkc74 _ (List.mem_of_getElem? (i := 24) rfl)) rfl
theorem lk99 : Cond.classLink "VoiceHouse" 7 "VoiceHouse$Tally" ∈ lw_all := lw_in (lkc99 _ (List.mem_of_getElem? (i := 0) rfl)) rfl
theorem lk100 : Cond.instantiable "VoiceHouse$Tally" 4 ∈ lw_all := lw_in (lkc99 _ (List.mem_of_getElem? (i := 1) rfl)) rfl
theorem lk101 : Cond.methodLinkNest "VoiceHouse" 9 yX10_init "VoiceHouse" ∈ lw_nst := lw_inN (lkc99 _ (List.mem_of_getElem? (i := 2) rfl)) rfl
theorem lk102 : Cond.instanceMethod yX10_init ∈ lw_all := lw_in (lkc99 _ (List.mem_of_getElem? (i := 3) rfl)) rfl
theorem lk103 : Cond.code yX10_init cX10_init 1 (none) ∈ lw_all := lw_in (lkc99 _ (List.mem_of_getElem? (i := 4) rfl)) rfl
theorem lk104 : Cond.methodLink "VoiceHouse$Tally" 3 (⟨"java/lang/Object", "<init>", "()V"⟩ : MethodName) ∈ lw_all := lw_in (lkc99 _ (List.mem_of_getElem? (i := 5) rfl)) rfl
theorem lk105 : Cond.fieldLink "VoiceHouse$Tally" 9 "VoiceHouse$Tally" "findings" "[I" ∈ lw_all := lw_in (lkc99 _ (List.mem_of_getElem? (i := 6) rfl)) rfl
theorem lk106 : Cond.fieldLink "VoiceHouse$Decoder" 124 "VoiceHouse$Tally" "findings" "[I" ∈ lw_all := lw_in (lkc99 _ (List.mem_of_getElem? (i := 7) rfl)) rfl
theorem lk107 : Cond.fieldLink "VoiceHouse" 359 "VoiceHouse$Tally" "findings" "[I" ∈ lw_all := lw_in (lkc99 _ (List.mem_of_getElem? (i := 8) rfl)) rfl
theorem lk108 : Cond.fieldLink "VoiceHouse$Tally" 15 "VoiceHouse$Tally" "trace" "[I" ∈ lw_all := lw_in (lkc99 _ (List.mem_of_getElem? (i := 9) rfl)) rfl
theorem lk109 : Cond.fieldLink "VoiceHouse" 344 "VoiceHouse$Tally" "trace" "[I" ∈ lw_all := lw_in (lkc99 _ (List.mem_of_getElem? (i := 10) rfl)) rfl
theorem lk110 : Cond.fieldLink "VoiceHouse$Tally" 18 "VoiceHouse$Tally" "traced" "I" ∈ lw_all := lw_in (lkc99 _ (List.mem_of_getElem? (i := 11) rfl)) rfl
theorem lk111 : Cond.fieldLink "VoiceHouse$Encoder" 53 "VoiceHouse$Tally" "traced" "I" ∈ lw_all := lw_in (lkc99 _ (List.mem_of_getElem? (i := 12) rfl)) rfl
theorem lk112 : Cond.fieldLink "VoiceHouse$Decoder" 55 "VoiceHouse$Tally" "traced" "I" ∈ lw_all := lw_in (lkc99 _ (List.mem_of_getElem? (i := 13) rfl)) rfl
theorem lk113 : Cond.fieldLink "VoiceHouse" 341 "VoiceHouse$Tally" "traced" "I" ∈ lw_all := lw_in (lkc99 _ (List.mem_of_getElem? (i := 14) rfl)) rfl
theorem lk114 : Cond.fieldLink "VoiceHouse$Tally" 24 "VoiceHouse$Tally" "saturated" "J" ∈ lw_all := lw_in (lkc99 _ (List.mem_of_getElem? (i := 15) rfl)) rfl
theorem lk115 : Cond.fieldLink "VoiceHouse" 362 "VoiceHouse$Tally" "saturated" "J" ∈ lw_all := lw_in (lkc99 _ (List.mem_of_getElem? (i := 16) rfl)) rfl
theorem lk125 : Cond.arrayClass FieldType.int ∈ lw_all := lw_in (lkc124 _ (List.mem_of_getElem? (i := 1) rfl)) rfl
theorem lk126 : Cond.classLink "VoiceHouse" 16 "VoiceHouse$Rows" ∈ lw_all := lw_in (lkc124 _ (List.mem_of_getElem? (i := 2) rfl)) rfl
theorem lk127 : Cond.instantiable "VoiceHouse$Rows" 12 ∈ lw_all := lw_in (lkc124 _ (List.mem_of_getElem? (i := 3) rfl)) rfl
theorem lk128 : Cond.methodLinkNest "VoiceHouse" 18 yX8_init "VoiceHouse" ∈ lw_nst := lw_inN (lkc124 _ (List.mem_of_getElem? (i := 4) rfl)) rfl
theorem lk129 : Cond.instanceMethod yX8_init ∈ lw_all := lw_in (lkc124 _ (List.mem_of_getElem? (i := 5) rfl)) rfl
theorem lk130 : Cond.code yX8_init cX8_init 1 (none) ∈ lw_all := lw_in (lkc124 _ (List.mem_of_getElem? (i := 6) rfl)) rfl
theorem lk131 : Cond.methodLink "VoiceHouse$Rows" 3 (⟨"java/lang/Object", "<init>", "()V"⟩ : MethodName) ∈ lw_all := lw_in (lkc124 _ (List.mem_of_getElem? (i := 7) rfl)) rfl
theorem lk132 : Cond.fieldLink "VoiceHouse$Rows" 9 "VoiceHouse$Rows" "x" "[I" ∈ lw_all := lw_in (lkc124 _ (List.mem_of_getElem? (i := 8) rfl)) rfl
theorem lk133 : Cond.fieldLink "VoiceHouse$Encoder" 122 "VoiceHouse$Rows" "x" "[I" ∈ lw_all := lw_in (lkc124 _ (List.mem_of_getElem? (i := 9) rfl)) rfl
theorem lk134 : Cond.fieldLink "VoiceHouse" 161 "VoiceHouse$Rows" "x" "[I" ∈ lw_all := lw_in (lkc124 _ (List.mem_of_getElem? (i := 10) rfl)) rfl
theorem lk135 : Cond.fieldLink "VoiceHouse$Rows" 15 "VoiceHouse$Rows" "y" "[I" ∈ lw_all := lw_in (lkc124 _ (List.mem_of_getElem? (i := 11) rfl)) rfl
theorem lk136 : Cond.fieldLink "VoiceHouse$Memory" 92 "VoiceHouse$Rows" "y" "[I" ∈ lw_all := lw_in (lkc124 _ (List.mem_of_getElem? (i := 12) rfl)) rfl
theorem lk137 : Cond.fieldLink "VoiceHouse$Decoder" 200 "VoiceHouse$Rows" "y" "[I" ∈ lw_all := lw_in (lkc124 _ (List.mem_of_getElem? (i := 13) rfl)) rfl
theorem lk138 : Cond.fieldLink "VoiceHouse$Rows" 18 "VoiceHouse$Rows" "behind" "[I" ∈ lw_all := lw_in (lkc124 _ (List.mem_of_getElem? (i := 14) rfl)) rfl
theorem lk139 : Cond.fieldLink "VoiceHouse$Memory" 36 "VoiceHouse$Rows" "behind" "[I" ∈ lw_all := lw_in (lkc124 _ (List.mem_of_getElem? (i := 15) rfl)) rfl
theorem lk140 : Cond.fieldLink "VoiceHouse$Search" 68 "VoiceHouse$Rows" "behind" "[I" ∈ lw_all := lw_in (lkc124 _ (List.mem_of_getElem? (i := 16) rfl)) rfl
theorem lk141 : Cond.fieldLink "VoiceHouse$Rows" 21 "VoiceHouse$Rows" "pulses" "[I" ∈ lw_all := lw_in (lkc124 _ (List.mem_of_getElem? (i := 17) rfl)) rfl
theorem lk142 : Cond.fieldLink "VoiceHouse$Memory" 45 "VoiceHouse$Rows" "pulses" "[I" ∈ lw_all := lw_in (lkc124 _ (List.mem_of_getElem? (i := 18) rfl)) rfl
theorem lk143 : Cond.fieldLink "VoiceHouse$Rows" 24 "VoiceHouse$Rows" "excited" "[I" ∈ lw_all := lw_in (lkc124 _ (List.mem_of_getElem? (i := 19) rfl)) rfl
theorem lk144 : Cond.fieldLink "VoiceHouse$Memory" 61 "VoiceHouse$Rows" "excited" "[I" ∈ lw_all := lw_in (lkc124 _ (List.mem_of_getElem? (i := 20) rfl)) rfl
theorem lk145 : Cond.fieldLink "VoiceHouse$Encoder" 200 "VoiceHouse$Rows" "excited" "[I" ∈ lw_all := lw_in (lkc124 _ (List.mem_of_getElem? (i := 21) rfl)) rfl
theorem lk146 : Cond.fieldLink "VoiceHouse$Rows" 27 "VoiceHouse$Rows" "past" "[I" ∈ lw_all := lw_in (lkc124 _ (List.mem_of_getElem? (i := 22) rfl)) rfl
theorem lk147 : Cond.fieldLink "VoiceHouse$Search" 38 "VoiceHouse$Rows" "past" "[I" ∈ lw_all := lw_in (lkc124 _ (List.mem_of_getElem? (i := 23) rfl)) rfl
theorem lk148 : Cond.fieldLink "VoiceHouse$Rows" 30 "VoiceHouse$Rows" "rests" "[I" ∈ lw_all := lw_in (lkc124 _ (List.mem_of_getElem? (i := 24) rfl)) rfl
theorem lk149 : Cond.fieldLink "VoiceHouse$Search" 26 "VoiceHouse$Rows" "rests" "[I" ∈ lw_all := lw_in (lkc149 _ (List.mem_of_getElem? (i := 0) rfl)) rfl
theorem lk150 : Cond.fieldLink "VoiceHouse$Rows" 33 "VoiceHouse$Rows" "left" "[I" ∈ lw_all := lw_in (lkc149 _ (List.mem_of_getElem? (i := 1) rfl)) rfl
theorem lk151 : Cond.fieldLink "VoiceHouse$Search" 109 "VoiceHouse$Rows" "left" "[I" ∈ lw_all := lw_in (lkc149 _ (List.mem_of_getElem? (i := 2) rfl)) rfl
theorem lk152 : Cond.fieldLink "VoiceHouse$Rows" 36 "VoiceHouse$Rows" "hits" "[I" ∈ lw_all := lw_in (lkc149 _ (List.mem_of_getElem? (i := 3) rfl)) rfl
theorem lk153 : Cond.fieldLink "VoiceHouse$Search" 115 "VoiceHouse$Rows" "hits" "[I" ∈ lw_all := lw_in (lkc149 _ (List.mem_of_getElem? (i := 4) rfl)) rfl
theorem lk154 : Cond.fieldLink "VoiceHouse$Rows" 39 "VoiceHouse$Rows" "energies" "[I" ∈ lw_all := lw_in (lkc149 _ (List.mem_of_getElem? (i := 5) rfl)) rfl
theorem lk155 : Cond.fieldLink "VoiceHouse$Search" 118 "VoiceHouse$Rows" "energies" "[I" ∈ lw_all := lw_in (lkc149 _ (List.mem_of_getElem? (i := 6) rfl)) rfl
theorem lk156 : Cond.fieldLink "VoiceHouse$Rows" 42 "VoiceHouse$Rows" "forward" "[J" ∈ lw_all := lw_in (lkc149 _ (List.mem_of_getElem? (i := 7) rfl)) rfl
theorem lk157 : Cond.fieldLink "VoiceHouse$Encoder" 204 "VoiceHouse$Rows" "forward" "[J" ∈ lw_all := lw_in (lkc149 _ (List.mem_of_getElem? (i := 8) rfl)) rfl
theorem lk158 : Cond.fieldLink "VoiceHouse$Rows" 46 "VoiceHouse$Rows" "backward" "[J" ∈ lw_all := lw_in (lkc149 _ (List.mem_of_getElem? (i := 9) rfl)) rfl
theorem lk159 : Cond.fieldLink "VoiceHouse$Encoder" 210 "VoiceHouse$Rows" "backward" "[J" ∈ lw_all := lw_in (lkc149 _ (List.mem_of_getElem? (i := 10) rfl)) rfl
theorem lk185 : Cond.arrayClass FieldType.long ∈ lw_all := lw_in (lkc174 _ (List.mem_of_getElem? (i := 11) rfl)) rfl
theorem lk186 : Cond.classLink "VoiceHouse" 23 "VoiceHouse$Search" ∈ lw_all := lw_in (lkc174 _ (List.mem_of_getElem? (i := 12) rfl)) rfl
theorem lk187 : Cond.instantiable "VoiceHouse$Search" 5 ∈ lw_all := lw_in (lkc174 _ (List.mem_of_getElem? (i := 13) rfl)) rfl
theorem lk188 : Cond.methodLink "VoiceHouse" 25 yX9_init ∈ lw_all := lw_in (lkc174 _ (List.mem_of_getElem? (i := 14) rfl)) rfl
theorem lk189 : Cond.instanceMethod yX9_init ∈ lw_all := lw_in (lkc174 _ (List.mem_of_getElem? (i := 15) rfl)) rfl
theorem lk190 : Cond.code yX9_init cX9_init 2 (none) ∈ lw_all := lw_in (lkc174 _ (List.mem_of_getElem? (i := 16) rfl)) rfl
theorem lk191 : Cond.methodLink "VoiceHouse$Search" 3 (⟨"java/lang/Object", "<init>", "()V"⟩ : MethodName) ∈ lw_all := lw_in (lkc174 _ (List.mem_of_getElem? (i := 17) rfl)) rfl
theorem lk192 : Cond.classLink "VoiceHouse$Search" 9 "VoiceHouse$Part" ∈ lw_all := lw_in (lkc174 _ (List.mem_of_getElem? (i := 18) rfl)) rfl
theorem lk193 : Cond.instantiable "VoiceHouse$Part" 9 ∈ lw_all := lw_in (lkc174 _ (List.mem_of_getElem? (i := 19) rfl)) rfl
theorem lk194 : Cond.methodLinkNest "VoiceHouse$Search" 11 yX7_init "VoiceHouse" ∈ lw_nst := lw_inN (lkc174 _ (List.mem_of_getElem? (i := 20) rfl)) rfl
theorem lk195 : Cond.instanceMethod yX7_init ∈ lw_all := lw_in (lkc174 _ (List.mem_of_getElem? (i := 21) rfl)) rfl
theorem lk196 : Cond.code yX7_init cX7_init 1 (none) ∈ lw_all := lw_in (lkc174 _ (List.mem_of_getElem? (i := 22) rfl)) rfl
theorem lk197 : Cond.methodLink "VoiceHouse$Part" 3 (⟨"java/lang/Object", "<init>", "()V"⟩ : MethodName) ∈ lw_all := lw_in (lkc174 _ (List.mem_of_getElem? (i := 23) rfl)) rfl
theorem lk198 : Cond.fieldLink "VoiceHouse$Part" 9 "VoiceHouse$Part" "lag" "I" ∈ lw_all := lw_in (lkc174 _ (List.mem_of_getElem? (i := 24) rfl)) rfl
theorem lk199 : Cond.fieldLink "VoiceHouse$Memory" 33 "VoiceHouse$Part" "lag" "I" ∈ lw_all := lw_in (lkc199 _ (List.mem_of_getElem? (i := 0) rfl)) rfl
theorem lk200 : Cond.fieldLink "VoiceHouse$Encoder" 65 "VoiceHouse$Part" "lag" "I" ∈ lw_all := lw_in (lkc199 _ (List.mem_of_getElem? (i := 1) rfl)) rfl
theorem lk201 : Cond.fieldLink "VoiceHouse$Search" 45 "VoiceHouse$Part" "lag" "I" ∈ lw_all := lw_in (lkc199 _ (List.mem_of_getElem? (i := 2) rfl)) rfl
theorem lk202 : Cond.fieldLink "VoiceHouse$Decoder" 169 "VoiceHouse$Part" "lag" "I" ∈ lw_all := lw_in (lkc199 _ (List.mem_of_getElem? (i := 3) rfl)) rfl
theorem lk203 : Cond.fieldLink "VoiceHouse$Encoder" 68 "VoiceHouse$Part" "p" "I" ∈ lw_all := lw_in (lkc199 _ (List.mem_of_getElem? (i := 4) rfl)) rfl
theorem lk204 : Cond.fieldLink "VoiceHouse$Part" 18 "VoiceHouse$Part" "p" "I" ∈ lw_all := lw_in (lkc199 _ (List.mem_of_getElem? (i := 5) rfl)) rfl
theorem lk205 : Cond.fieldLink "VoiceHouse$Memory" 58 "VoiceHouse$Part" "p" "I" ∈ lw_all := lw_in (lkc199 _ (List.mem_of_getElem? (i := 6) rfl)) rfl
theorem lk206 : Cond.fieldLink "VoiceHouse$Search" 57 "VoiceHouse$Part" "p" "I" ∈ lw_all := lw_in (lkc199 _ (List.mem_of_getElem? (i := 7) rfl)) rfl
theorem lk207 : Cond.fieldLink "VoiceHouse$Part" 21 "VoiceHouse$Part" "even" "I" ∈ lw_all := lw_in (lkc199 _ (List.mem_of_getElem? (i := 8) rfl)) rfl
theorem lk208 : Cond.fieldLink "VoiceHouse$Search" 90 "VoiceHouse$Part" "even" "I" ∈ lw_all := lw_in (lkc199 _ (List.mem_of_getElem? (i := 9) rfl)) rfl
theorem lk209 : Cond.fieldLink "VoiceHouse$Part" 24 "VoiceHouse$Part" "evenSign" "I" ∈ lw_all := lw_in (lkc199 _ (List.mem_of_getElem? (i := 10) rfl)) rfl
theorem lk210 : Cond.fieldLink "VoiceHouse$Search" 93 "VoiceHouse$Part" "evenSign" "I" ∈ lw_all := lw_in (lkc199 _ (List.mem_of_getElem? (i := 11) rfl)) rfl
theorem lk211 : Cond.fieldLink "VoiceHouse$Part" 15 "VoiceHouse$Part" "odd" "I" ∈ lw_all := lw_in (lkc199 _ (List.mem_of_getElem? (i := 12) rfl)) rfl
theorem lk212 : Cond.fieldLink "VoiceHouse$Search" 131 "VoiceHouse$Part" "odd" "I" ∈ lw_all := lw_in (lkc199 _ (List.mem_of_getElem? (i := 13) rfl)) rfl
theorem lk213 : Cond.fieldLink "VoiceHouse$Part" 27 "VoiceHouse$Part" "oddSign" "I" ∈ lw_all := lw_in (lkc199 _ (List.mem_of_getElem? (i := 14) rfl)) rfl
theorem lk214 : Cond.fieldLink "VoiceHouse$Search" 134 "VoiceHouse$Part" "oddSign" "I" ∈ lw_all := lw_in (lkc199 _ (List.mem_of_getElem? (i := 15) rfl)) rfl
theorem lk215 : Cond.fieldLink "VoiceHouse$Memory" 55 "VoiceHouse$Part" "j" "I" ∈ lw_all := lw_in (lkc199 _ (List.mem_of_getElem? (i := 16) rfl)) rfl
theorem lk216 : Cond.fieldLink "VoiceHouse$Part" 30 "VoiceHouse$Part" "j" "I" ∈ lw_all := lw_in (lkc199 _ (List.mem_of_getElem? (i := 17) rfl)) rfl
theorem lk217 : Cond.fieldLink "VoiceHouse$Decoder" 176 "VoiceHouse$Part" "j" "I" ∈ lw_all := lw_in (lkc199 _ (List.mem_of_getElem? (i := 18) rfl)) rfl
theorem lk218 : Cond.fieldLink "VoiceHouse$Search" 106 "VoiceHouse$Part" "j" "I" ∈ lw_all := lw_in (lkc199 _ (List.mem_of_getElem? (i := 19) rfl)) rfl
theorem lk219 : Cond.fieldLink "VoiceHouse$Part" 33 "VoiceHouse$Part" "pitchCost" "J" ∈ lw_all := lw_in (lkc199 _ (List.mem_of_getElem? (i := 20) rfl)) rfl
theorem lk220 : Cond.fieldLink "VoiceHouse$Search" 60 "VoiceHouse$Part" "pitchCost" "J" ∈ lw_all := lw_in (lkc199 _ (List.mem_of_getElem? (i := 21) rfl)) rfl
theorem lk221 : Cond.fieldLink "VoiceHouse$Part" 37 "VoiceHouse$Part" "pulseCost" "J" ∈ lw_all := lw_in (lkc199 _ (List.mem_of_getElem? (i := 22) rfl)) rfl
theorem lk222 : Cond.fieldLink "VoiceHouse$Search" 100 "VoiceHouse$Part" "pulseCost" "J" ∈ lw_all := lw_in (lkc199 _ (List.mem_of_getElem? (i := 23) rfl)) rfl
theorem lk242 : Cond.fieldLink "VoiceHouse$Search" 18 "VoiceHouse$Search" "rows" "LVoiceHouse$Rows;" ∈ lw_all := lw_in (lkc224 _ (List.mem_of_getElem? (i := 18) rfl)) rfl
theorem lk243 : Cond.fieldLink "VoiceHouse$Search" 12 "VoiceHouse$Search" "trial" "LVoiceHouse$Part;" ∈ lw_all := lw_in (lkc224 _ (List.mem_of_getElem? (i := 19) rfl)) rfl
theorem lk244 : Cond.fieldLink "VoiceHouse$Encoder" 240 "VoiceHouse$Search" "trial" "LVoiceHouse$Part;" ∈ lw_all := lw_in (lkc224 _ (List.mem_of_getElem? (i := 20) rfl)) rfl
theorem lk245 : Cond.fieldLink "VoiceHouse$Search" 22 "VoiceHouse$Search" "sub" "I" ∈ lw_all := lw_in (lkc224 _ (List.mem_of_getElem? (i := 21) rfl)) rfl
theorem lk246 : Cond.fieldLink "VoiceHouse$Search" 87 "VoiceHouse$Search" "least" "J" ∈ lw_all := lw_in (lkc224 _ (List.mem_of_getElem? (i := 22) rfl)) rfl
theorem lk247 : Cond.fieldLink "VoiceHouse$Search" 103 "VoiceHouse$Search" "leastJ" "I" ∈ lw_all := lw_in (lkc224 _ (List.mem_of_getElem? (i := 23) rfl)) rfl
theorem lk259 : Cond.classLink "VoiceHouse" 32 "VoiceHouse$Coder" ∈ lw_all := lw_in (lkc249 _ (List.mem_of_getElem? (i := 10) rfl)) rfl
theorem lk260 : Cond.arrayOver (FieldType.object "VoiceHouse$Coder") ∈ lw_nst := lw_inN (lkc249 _ (List.mem_of_getElem? (i := 11) rfl)) rfl
theorem lk261 : Cond.fieldLink "VoiceHouse" 10 "VoiceHouse" "tally" "LVoiceHouse$Tally;" ∈ lw_all := lw_in (lkc249 _ (List.mem_of_getElem? (i := 12) rfl)) rfl
theorem lk262 : Cond.fieldLink "VoiceHouse" 19 "VoiceHouse" "rows" "LVoiceHouse$Rows;" ∈ lw_all := lw_in (lkc249 _ (List.mem_of_getElem? (i := 13) rfl)) rfl
theorem lk263 : Cond.fieldLink "VoiceHouse" 28 "VoiceHouse" "seeker" "LVoiceHouse$Search;" ∈ lw_all := lw_in (lkc249 _ (List.mem_of_getElem? (i := 14) rfl)) rfl
theorem lk264 : Cond.fieldLink "VoiceHouse" 34 "VoiceHouse" "coders" "[LVoiceHouse$Coder;" ∈ lw_all := lw_in (lkc249 _ (List.mem_of_getElem? (i := 15) rfl)) rfl
theorem lk265 : Cond.fieldLink "VoiceHouse" 58 "VoiceHouse" "made" "I" ∈ lw_all := lw_in (lkc249 _ (List.mem_of_getElem? (i := 16) rfl)) rfl
theorem lk266 : Cond.fieldLink "VoiceHouse" 38 "VoiceHouse" "tape" "[B" ∈ lw_all := lw_in (lkc249 _ (List.mem_of_getElem? (i := 17) rfl)) rfl
theorem lk267 : Cond.fieldLink "VoiceHouse" 264 "VoiceHouse" "taped" "I" ∈ lw_all := lw_in (lkc249 _ (List.mem_of_getElem? (i := 18) rfl)) rfl
theorem lk268 : Cond.fieldLink "VoiceHouse" 42 "VoiceHouse" "bench" "[I" ∈ lw_all := lw_in (lkc249 _ (List.mem_of_getElem? (i := 19) rfl)) rfl
theorem lk269 : Cond.fieldLink "VoiceHouse" 335 "VoiceHouse" "benched" "I" ∈ lw_all := lw_in (lkc249 _ (List.mem_of_getElem? (i := 20) rfl)) rfl
theorem lk270 : Cond.fieldLink "VoiceHouse" 46 "VoiceHouse" "refusal" "I" ∈ lw_all := lw_in (lkc249 _ (List.mem_of_getElem? (i := 21) rfl)) rfl
theorem lk292 : Cond.arrayClass FieldType.byte ∈ lw_all := lw_in (lkc274 _ (List.mem_of_getElem? (i := 18) rfl)) rfl
theorem lk293 : Cond.methodLink "VoiceHouseLaw" 13 yX11_coder ∈ lw_all := lw_in (lkc274 _ (List.mem_of_getElem? (i := 19) rfl)) rfl
theorem lk294 : Cond.instanceMethod yX11_coder ∈ lw_all := lw_in (lkc274 _ (List.mem_of_getElem? (i := 20) rfl)) rfl
theorem lk295 : Cond.selects "VoiceHouse" yX11_coder yX11_coder ∈ lw_all := lw_in (lkc274 _ (List.mem_of_getElem? (i := 21) rfl)) rfl
theorem lk296 : Cond.code yX11_coder cX11_coder 2 (some (FieldType.int)) ∈ lw_all := lw_in (lkc274 _ (List.mem_of_getElem? (i := 22) rfl)) rfl
theorem lk297 : Cond.methodLink "VoiceHouse" 50 yX11_isBit ∈ lw_all := lw_in (lkc274 _ (List.mem_of_getElem? (i := 23) rfl)) rfl
theorem lk298 : Cond.static yX11_isBit ∈ lw_all := lw_in (lkc274 _ (List.mem_of_getElem? (i := 24) rfl)) rfl
theorem lk299 : Cond.code yX11_isBit cX11_isBit 1 (some (FieldType.boolean)) ∈ lw_all := lw_in (lkc299 _ (List.mem_of_getElem? (i := 0) rfl)) rfl
theorem lk300 : Cond.methodLink "VoiceHouse" 54 yX11_refuse ∈ lw_all := lw_in (lkc299 _ (List.mem_of_getElem? (i := 1) rfl)) rfl
theorem lk302 : Cond.instanceMethod yX11_refuse ∈ lw_all := lw_in (lkc299 _ (List.mem_of_getElem? (i := 3) rfl)) rfl
theorem lk303 : Cond.code yX11_refuse cX11_refuse 2 (some (FieldType.int)) ∈ lw_all := lw_in (lkc299 _ (List.mem_of_getElem? (i := 4) rfl)) rfl
theorem lk304 : Cond.instantiable "VoiceHouse$Coder" 5 ∈ lw_all := lw_in (lkc299 _ (List.mem_of_getElem? (i := 5) rfl)) rfl
theorem lk305 : Cond.methodLink "VoiceHouse" 61 yX0_init ∈ lw_all := lw_in (lkc299 _ (List.mem_of_getElem? (i := 6) rfl)) rfl
theorem lk306 : Cond.instanceMethod yX0_init ∈ lw_all := lw_in (lkc299 _ (List.mem_of_getElem? (i := 7) rfl)) rfl
theorem lk307 : Cond.code yX0_init cX0_init 5 (none) ∈ lw_all := lw_in (lkc299 _ (List.mem_of_getElem? (i := 8) rfl)) rfl
theorem lk308 : Cond.methodLink "VoiceHouse$Coder" 3 (⟨"java/lang/Object", "<init>", "()V"⟩ : MethodName) ∈ lw_all := lw_in (lkc299 _ (List.mem_of_getElem? (i := 9) rfl)) rfl
theorem lk309 : Cond.classLink "VoiceHouse$Coder" 15 "VoiceHouse$Line" ∈ lw_all := lw_in (lkc299 _ (List.mem_of_getElem? (i := 10) rfl)) rfl
theorem lk310 : Cond.instantiable "VoiceHouse$Line" 2 ∈ lw_all := lw_in (lkc299 _ (List.mem_of_getElem? (i := 11) rfl)) rfl
theorem lk311 : Cond.methodLinkNest "VoiceHouse$Coder" 17 yX5_init "VoiceHouse" ∈ lw_nst := lw_inN (lkc299 _ (List.mem_of_getElem? (i := 12) rfl)) rfl
theorem lk312 : Cond.instanceMethod yX5_init ∈ lw_all := lw_in (lkc299 _ (List.mem_of_getElem? (i := 13) rfl)) rfl
theorem lk313 : Cond.code yX5_init cX5_init 1 (none) ∈ lw_all := lw_in (lkc299 _ (List.mem_of_getElem? (i := 14) rfl)) rfl
theorem lk314 : Cond.methodLink "VoiceHouse$Line" 3 (⟨"java/lang/Object", "<init>", "()V"⟩ : MethodName) ∈ lw_all := lw_in (lkc314 _ (List.mem_of_getElem? (i := 0) rfl)) rfl
theorem lk315 : Cond.classLink "VoiceHouse$Line" 9 "VoiceHouse$Frame" ∈ lw_all := lw_in (lkc314 _ (List.mem_of_getElem? (i := 1) rfl)) rfl
theorem lk316 : Cond.arrayOver (FieldType.object "VoiceHouse$Frame") ∈ lw_nst := lw_inN (lkc314 _ (List.mem_of_getElem? (i := 2) rfl)) rfl
theorem lk317 : Cond.fieldLink "VoiceHouse$Line" 11 "VoiceHouse$Line" "frames" "[LVoiceHouse$Frame;" ∈ lw_all := lw_in (lkc314 _ (List.mem_of_getElem? (i := 3) rfl)) rfl
theorem lk318 : Cond.fieldLink "VoiceHouse" 257 "VoiceHouse$Line" "frames" "[LVoiceHouse$Frame;" ∈ lw_all := lw_in (lkc314 _ (List.mem_of_getElem? (i := 4) rfl)) rfl
theorem lk319 : Cond.fieldLink "VoiceHouse$Line" 17 "VoiceHouse$Line" "size" "I" ∈ lw_all := lw_in (lkc314 _ (List.mem_of_getElem? (i := 5) rfl)) rfl
theorem lk320 : Cond.fieldLink "VoiceHouse" 117 "VoiceHouse$Line" "size" "I" ∈ lw_all := lw_in (lkc314 _ (List.mem_of_getElem? (i := 6) rfl)) rfl
theorem lk326 : Cond.classLink "VoiceHouse$Coder" 22 "VoiceHouse$Encoder" ∈ lw_all := lw_in (lkc314 _ (List.mem_of_getElem? (i := 12) rfl)) rfl
theorem lk327 : Cond.instantiable "VoiceHouse$Encoder" 19 ∈ lw_all := lw_in (lkc314 _ (List.mem_of_getElem? (i := 13) rfl)) rfl
theorem lk328 : Cond.methodLink "VoiceHouse$Coder" 24 yX2_init ∈ lw_all := lw_in (lkc314 _ (List.mem_of_getElem? (i := 14) rfl)) rfl
theorem lk329 : Cond.instanceMethod yX2_init ∈ lw_all := lw_in (lkc314 _ (List.mem_of_getElem? (i := 15) rfl)) rfl
theorem lk330 : Cond.code yX2_init cX2_init 5 (none) ∈ lw_all := lw_in (lkc314 _ (List.mem_of_getElem? (i := 16) rfl)) rfl
theorem lk331 : Cond.methodLink "VoiceHouse$Encoder" 3 (⟨"java/lang/Object", "<init>", "()V"⟩ : MethodName) ∈ lw_all := lw_in (lkc314 _ (List.mem_of_getElem? (i := 17) rfl)) rfl
theorem lk332 : Cond.classLink "VoiceHouse$Encoder" 15 "VoiceHouse$Part" ∈ lw_all := lw_in (lkc314 _ (List.mem_of_getElem? (i := 18) rfl)) rfl
theorem lk333 : Cond.arrayOver (FieldType.object "VoiceHouse$Part") ∈ lw_nst := lw_inN (lkc314 _ (List.mem_of_getElem? (i := 19) rfl)) rfl
theorem lk334 : Cond.methodLinkNest "VoiceHouse$Encoder" 17 yX7_init "VoiceHouse" ∈ lw_nst := lw_inN (lkc314 _ (List.mem_of_getElem? (i := 20) rfl)) rfl
theorem lk335 : Cond.classLink "VoiceHouse$Encoder" 44 "VoiceHouse$Memory" ∈ lw_all := lw_in (lkc314 _ (List.mem_of_getElem? (i := 21) rfl)) rfl
theorem lk336 : Cond.instantiable "VoiceHouse$Memory" 6 ∈ lw_all := lw_in (lkc314 _ (List.mem_of_getElem? (i := 22) rfl)) rfl
theorem lk337 : Cond.methodLink "VoiceHouse$Encoder" 46 yX6_init ∈ lw_all := lw_in (lkc314 _ (List.mem_of_getElem? (i := 23) rfl)) rfl
theorem lk338 : Cond.instanceMethod yX6_init ∈ lw_all := lw_in (lkc314 _ (List.mem_of_getElem? (i := 24) rfl)) rfl
theorem lk339 : Cond.code yX6_init cX6_init 3 (none) ∈ lw_all := lw_in (lkc339 _ (List.mem_of_getElem? (i := 0) rfl)) rfl
theorem lk340 : Cond.methodLink "VoiceHouse$Memory" 3 (⟨"java/lang/Object", "<init>", "()V"⟩ : MethodName) ∈ lw_all := lw_in (lkc339 _ (List.mem_of_getElem? (i := 1) rfl)) rfl
theorem lk341 : Cond.fieldLink "VoiceHouse$Memory" 9 "VoiceHouse$Memory" "h" "[I" ∈ lw_all := lw_in (lkc339 _ (List.mem_of_getElem? (i := 2) rfl)) rfl
theorem lk342 : Cond.fieldLink "VoiceHouse$Encoder" 168 "VoiceHouse$Memory" "h" "[I" ∈ lw_all := lw_in (lkc339 _ (List.mem_of_getElem? (i := 3) rfl)) rfl
theorem lk343 : Cond.fieldLink "VoiceHouse" 294 "VoiceHouse$Memory" "h" "[I" ∈ lw_all := lw_in (lkc339 _ (List.mem_of_getElem? (i := 4) rfl)) rfl
theorem lk344 : Cond.fieldLink "VoiceHouse$Memory" 15 "VoiceHouse$Memory" "v" "[I" ∈ lw_all := lw_in (lkc339 _ (List.mem_of_getElem? (i := 5) rfl)) rfl
theorem lk345 : Cond.fieldLink "VoiceHouse" 297 "VoiceHouse$Memory" "v" "[I" ∈ lw_all := lw_in (lkc339 _ (List.mem_of_getElem? (i := 6) rfl)) rfl
theorem lk346 : Cond.fieldLink "VoiceHouse$Memory" 18 "VoiceHouse$Memory" "index" "[I" ∈ lw_all := lw_in (lkc339 _ (List.mem_of_getElem? (i := 7) rfl)) rfl
theorem lk347 : Cond.fieldLink "VoiceHouse$Encoder" 150 "VoiceHouse$Memory" "index" "[I" ∈ lw_all := lw_in (lkc339 _ (List.mem_of_getElem? (i := 8) rfl)) rfl
theorem lk348 : Cond.fieldLink "VoiceHouse$Decoder" 152 "VoiceHouse$Memory" "index" "[I" ∈ lw_all := lw_in (lkc339 _ (List.mem_of_getElem? (i := 9) rfl)) rfl
theorem lk349 : Cond.fieldLink "VoiceHouse" 202 "VoiceHouse$Memory" "index" "[I" ∈ lw_all := lw_in (lkc339 _ (List.mem_of_getElem? (i := 10) rfl)) rfl
theorem lk350 : Cond.fieldLink "VoiceHouse$Memory" 21 "VoiceHouse$Memory" "lag" "I" ∈ lw_all := lw_in (lkc339 _ (List.mem_of_getElem? (i := 11) rfl)) rfl
theorem lk351 : Cond.fieldLink "VoiceHouse$Decoder" 172 "VoiceHouse$Memory" "lag" "I" ∈ lw_all := lw_in (lkc339 _ (List.mem_of_getElem? (i := 12) rfl)) rfl
theorem lk352 : Cond.fieldLink "VoiceHouse$Encoder" 203 "VoiceHouse$Memory" "lag" "I" ∈ lw_all := lw_in (lkc339 _ (List.mem_of_getElem? (i := 13) rfl)) rfl
theorem lk353 : Cond.fieldLink "VoiceHouse" 300 "VoiceHouse$Memory" "lag" "I" ∈ lw_all := lw_in (lkc339 _ (List.mem_of_getElem? (i := 14) rfl)) rfl
theorem lk354 : Cond.fieldLink "VoiceHouse$Memory" 25 "VoiceHouse$Memory" "tally" "LVoiceHouse$Tally;" ∈ lw_all := lw_in (lkc339 _ (List.mem_of_getElem? (i := 15) rfl)) rfl
theorem lk355 : Cond.fieldLink "VoiceHouse$Memory" 29 "VoiceHouse$Memory" "rows" "LVoiceHouse$Rows;" ∈ lw_all := lw_in (lkc339 _ (List.mem_of_getElem? (i := 16) rfl)) rfl
theorem lk369 : Cond.fieldLink "VoiceHouse$Encoder" 32 "VoiceHouse$Encoder" "tally" "LVoiceHouse$Tally;" ∈ lw_all := lw_in (lkc364 _ (List.mem_of_getElem? (i := 5) rfl)) rfl
theorem lk370 : Cond.fieldLink "VoiceHouse$Encoder" 36 "VoiceHouse$Encoder" "rows" "LVoiceHouse$Rows;" ∈ lw_all := lw_in (lkc364 _ (List.mem_of_getElem? (i := 6) rfl)) rfl
theorem lk371 : Cond.fieldLink "VoiceHouse$Encoder" 40 "VoiceHouse$Encoder" "seeker" "LVoiceHouse$Search;" ∈ lw_all := lw_in (lkc364 _ (List.mem_of_getElem? (i := 7) rfl)) rfl
theorem lk372 : Cond.fieldLink "VoiceHouse$Encoder" 49 "VoiceHouse$Encoder" "copy" "LVoiceHouse$Memory;" ∈ lw_all := lw_in (lkc364 _ (List.mem_of_getElem? (i := 8) rfl)) rfl
theorem lk373 : Cond.fieldLink "VoiceHouse" 198 "VoiceHouse$Encoder" "copy" "LVoiceHouse$Memory;" ∈ lw_all := lw_in (lkc364 _ (List.mem_of_getElem? (i := 9) rfl)) rfl
theorem lk374 : Cond.fieldLink "VoiceHouse$Encoder" 9 "VoiceHouse$Encoder" "lattice" "[I" ∈ lw_all := lw_in (lkc364 _ (List.mem_of_getElem? (i := 10) rfl)) rfl
theorem lk375 : Cond.fieldLink "VoiceHouse$Encoder" 18 "VoiceHouse$Encoder" "parts" "[LVoiceHouse$Part;" ∈ lw_all := lw_in (lkc364 _ (List.mem_of_getElem? (i := 11) rfl)) rfl
theorem lk376 : Cond.fieldLink "VoiceHouse" 188 "VoiceHouse$Encoder" "parts" "[LVoiceHouse$Part;" ∈ lw_all := lw_in (lkc364 _ (List.mem_of_getElem? (i := 12) rfl)) rfl
theorem lk377 : Cond.fieldLink "VoiceHouse$Encoder" 22 "VoiceHouse$Encoder" "rests" "[I" ∈ lw_all := lw_in (lkc364 _ (List.mem_of_getElem? (i := 13) rfl)) rfl
theorem lk378 : Cond.fieldLink "VoiceHouse$Encoder" 25 "VoiceHouse$Encoder" "history" "[I" ∈ lw_all := lw_in (lkc364 _ (List.mem_of_getElem? (i := 14) rfl)) rfl
theorem lk379 : Cond.fieldLink "VoiceHouse$Encoder" 110 "VoiceHouse$Encoder" "latestRate" "I" ∈ lw_all := lw_in (lkc364 _ (List.mem_of_getElem? (i := 15) rfl)) rfl
theorem lk380 : Cond.fieldLink "VoiceHouse$Encoder" 106 "VoiceHouse$Encoder" "spoke" "Z" ∈ lw_all := lw_in (lkc364 _ (List.mem_of_getElem? (i := 16) rfl)) rfl
theorem lk381 : Cond.fieldLink "VoiceHouse" 369 "VoiceHouse$Encoder" "spoke" "Z" ∈ lw_all := lw_in (lkc364 _ (List.mem_of_getElem? (i := 17) rfl)) rfl
theorem lk382 : Cond.fieldLink "VoiceHouse$Encoder" 28 "VoiceHouse$Encoder" "rate" "I" ∈ lw_all := lw_in (lkc364 _ (List.mem_of_getElem? (i := 18) rfl)) rfl
theorem lk383 : Cond.fieldLink "VoiceHouse" 72 "VoiceHouse$Encoder" "rate" "I" ∈ lw_all := lw_in (lkc364 _ (List.mem_of_getElem? (i := 19) rfl)) rfl
theorem lk384 : Cond.fieldLink "VoiceHouse" 85 "VoiceHouse$Encoder" "pitchKind" "I" ∈ lw_all := lw_in (lkc364 _ (List.mem_of_getElem? (i := 20) rfl)) rfl
theorem lk385 : Cond.fieldLink "VoiceHouse$Encoder" 183 "VoiceHouse$Encoder" "pitchKind" "I" ∈ lw_all := lw_in (lkc364 _ (List.mem_of_getElem? (i := 21) rfl)) rfl
theorem lk386 : Cond.fieldLink "VoiceHouse" 88 "VoiceHouse$Encoder" "pulseKind" "I" ∈ lw_all := lw_in (lkc364 _ (List.mem_of_getElem? (i := 22) rfl)) rfl
theorem lk387 : Cond.fieldLink "VoiceHouse$Encoder" 190 "VoiceHouse$Encoder" "pulseKind" "I" ∈ lw_all := lw_in (lkc364 _ (List.mem_of_getElem? (i := 23) rfl)) rfl
theorem lk388 : Cond.fieldLink "VoiceHouse$Encoder" 125 "VoiceHouse$Encoder" "emphasized" "Z" ∈ lw_all := lw_in (lkc364 _ (List.mem_of_getElem? (i := 24) rfl)) rfl
theorem lk389 : Cond.fieldLink "VoiceHouse" 77 "VoiceHouse$Encoder" "emphasized" "Z" ∈ lw_all := lw_in (lkc389 _ (List.mem_of_getElem? (i := 0) rfl)) rfl
theorem lk390 : Cond.fieldLink "VoiceHouse" 95 "VoiceHouse$Encoder" "redundant" "Z" ∈ lw_all := lw_in (lkc389 _ (List.mem_of_getElem? (i := 1) rfl)) rfl
theorem lk391 : Cond.fieldLink "VoiceHouse$Encoder" 230 "VoiceHouse$Encoder" "redundant" "Z" ∈ lw_all := lw_in (lkc389 _ (List.mem_of_getElem? (i := 2) rfl)) rfl
theorem lk392 : Cond.fieldLink "VoiceHouse$Encoder" 71 "VoiceHouse$Encoder" "level" "I" ∈ lw_all := lw_in (lkc389 _ (List.mem_of_getElem? (i := 3) rfl)) rfl
theorem lk393 : Cond.fieldLink "VoiceHouse" 92 "VoiceHouse$Encoder" "level" "I" ∈ lw_all := lw_in (lkc389 _ (List.mem_of_getElem? (i := 4) rfl)) rfl
theorem lk394 : Cond.fieldLink "VoiceHouse$Encoder" 87 "VoiceHouse$Encoder" "number" "I" ∈ lw_all := lw_in (lkc389 _ (List.mem_of_getElem? (i := 5) rfl)) rfl
theorem lk395 : Cond.fieldLink "VoiceHouse" 122 "VoiceHouse$Encoder" "number" "I" ∈ lw_all := lw_in (lkc389 _ (List.mem_of_getElem? (i := 6) rfl)) rfl
theorem lk396 : Cond.fieldLink "VoiceHouse$Encoder" 113 "VoiceHouse$Encoder" "encoded" "I" ∈ lw_all := lw_in (lkc389 _ (List.mem_of_getElem? (i := 7) rfl)) rfl
theorem lk397 : Cond.fieldLink "VoiceHouse" 101 "VoiceHouse$Encoder" "encoded" "I" ∈ lw_all := lw_in (lkc389 _ (List.mem_of_getElem? (i := 8) rfl)) rfl
theorem lk398 : Cond.fieldLink "VoiceHouse$Encoder" 128 "VoiceHouse$Encoder" "lastCame" "I" ∈ lw_all := lw_in (lkc389 _ (List.mem_of_getElem? (i := 9) rfl)) rfl
theorem lk438 : Cond.classLink "VoiceHouse$Coder" 31 "VoiceHouse$Decoder" ∈ lw_all := lw_in (lkc414 _ (List.mem_of_getElem? (i := 24) rfl)) rfl
theorem lk439 : Cond.instantiable "VoiceHouse$Decoder" 19 ∈ lw_all := lw_in (lkc439 _ (List.mem_of_getElem? (i := 0) rfl)) rfl
theorem lk440 : Cond.methodLink "VoiceHouse$Coder" 33 yX1_init ∈ lw_all := lw_in (lkc439 _ (List.mem_of_getElem? (i := 1) rfl)) rfl
theorem lk441 : Cond.instanceMethod yX1_init ∈ lw_all := lw_in (lkc439 _ (List.mem_of_getElem? (i := 2) rfl)) rfl
theorem lk442 : Cond.code yX1_init cX1_init 4 (none) ∈ lw_all := lw_in (lkc439 _ (List.mem_of_getElem? (i := 3) rfl)) rfl
theorem lk443 : Cond.methodLink "VoiceHouse$Decoder" 3 (⟨"java/lang/Object", "<init>", "()V"⟩ : MethodName) ∈ lw_all := lw_in (lkc439 _ (List.mem_of_getElem? (i := 4) rfl)) rfl
theorem lk444 : Cond.classLink "VoiceHouse$Decoder" 9 "VoiceHouse$Part" ∈ lw_all := lw_in (lkc439 _ (List.mem_of_getElem? (i := 5) rfl)) rfl
theorem lk445 : Cond.methodLinkNest "VoiceHouse$Decoder" 11 yX7_init "VoiceHouse" ∈ lw_nst := lw_inN (lkc439 _ (List.mem_of_getElem? (i := 6) rfl)) rfl
theorem lk446 : Cond.classLink "VoiceHouse$Decoder" 18 "VoiceHouse$Filter" ∈ lw_all := lw_in (lkc439 _ (List.mem_of_getElem? (i := 7) rfl)) rfl
theorem lk447 : Cond.arrayOver (FieldType.object "VoiceHouse$Filter") ∈ lw_nst := lw_inN (lkc439 _ (List.mem_of_getElem? (i := 8) rfl)) rfl
theorem lk448 : Cond.instantiable "VoiceHouse$Filter" 5 ∈ lw_all := lw_in (lkc439 _ (List.mem_of_getElem? (i := 9) rfl)) rfl
theorem lk449 : Cond.methodLink "VoiceHouse$Decoder" 20 yX3_init ∈ lw_all := lw_in (lkc439 _ (List.mem_of_getElem? (i := 10) rfl)) rfl
theorem lk450 : Cond.instanceMethod yX3_init ∈ lw_all := lw_in (lkc439 _ (List.mem_of_getElem? (i := 11) rfl)) rfl
theorem lk451 : Cond.code yX3_init cX3_init 2 (none) ∈ lw_all := lw_in (lkc439 _ (List.mem_of_getElem? (i := 12) rfl)) rfl
theorem lk452 : Cond.methodLink "VoiceHouse$Filter" 3 (⟨"java/lang/Object", "<init>", "()V"⟩ : MethodName) ∈ lw_all := lw_in (lkc439 _ (List.mem_of_getElem? (i := 13) rfl)) rfl
theorem lk453 : Cond.fieldLink "VoiceHouse$Filter" 15 "VoiceHouse$Filter" "kind" "I" ∈ lw_all := lw_in (lkc439 _ (List.mem_of_getElem? (i := 14) rfl)) rfl
theorem lk454 : Cond.fieldLink "VoiceHouse" 313 "VoiceHouse$Filter" "kind" "I" ∈ lw_all := lw_in (lkc439 _ (List.mem_of_getElem? (i := 15) rfl)) rfl
theorem lk455 : Cond.fieldLink "VoiceHouse$Filter" 19 "VoiceHouse$Filter" "kept" "[I" ∈ lw_all := lw_in (lkc439 _ (List.mem_of_getElem? (i := 16) rfl)) rfl
theorem lk456 : Cond.fieldLink "VoiceHouse$Filter" 9 "VoiceHouse$Filter" "z" "J" ∈ lw_all := lw_in (lkc439 _ (List.mem_of_getElem? (i := 17) rfl)) rfl
theorem lk457 : Cond.fieldLink "VoiceHouse$Filter" 54 "VoiceHouse$Filter" "lastCame" "I" ∈ lw_all := lw_in (lkc439 _ (List.mem_of_getElem? (i := 18) rfl)) rfl
theorem lk458 : Cond.fieldLink "VoiceHouse$Filter" 71 "VoiceHouse$Filter" "lastGiven" "I" ∈ lw_all := lw_in (lkc439 _ (List.mem_of_getElem? (i := 19) rfl)) rfl
theorem lk470 : Cond.classLink "VoiceHouse$Decoder" 46 "VoiceHouse$Memory" ∈ lw_all := lw_in (lkc464 _ (List.mem_of_getElem? (i := 6) rfl)) rfl
theorem lk471 : Cond.methodLink "VoiceHouse$Decoder" 48 yX6_init ∈ lw_all := lw_in (lkc464 _ (List.mem_of_getElem? (i := 7) rfl)) rfl
theorem lk472 : Cond.fieldLink "VoiceHouse$Decoder" 38 "VoiceHouse$Decoder" "tally" "LVoiceHouse$Tally;" ∈ lw_all := lw_in (lkc464 _ (List.mem_of_getElem? (i := 8) rfl)) rfl
theorem lk473 : Cond.fieldLink "VoiceHouse$Decoder" 42 "VoiceHouse$Decoder" "rows" "LVoiceHouse$Rows;" ∈ lw_all := lw_in (lkc464 _ (List.mem_of_getElem? (i := 9) rfl)) rfl
theorem lk474 : Cond.fieldLink "VoiceHouse$Decoder" 51 "VoiceHouse$Decoder" "memory" "LVoiceHouse$Memory;" ∈ lw_all := lw_in (lkc464 _ (List.mem_of_getElem? (i := 10) rfl)) rfl
theorem lk475 : Cond.fieldLink "VoiceHouse" 372 "VoiceHouse$Decoder" "memory" "LVoiceHouse$Memory;" ∈ lw_all := lw_in (lkc464 _ (List.mem_of_getElem? (i := 11) rfl)) rfl
theorem lk476 : Cond.fieldLink "VoiceHouse$Decoder" 12 "VoiceHouse$Decoder" "part" "LVoiceHouse$Part;" ∈ lw_all := lw_in (lkc464 _ (List.mem_of_getElem? (i := 12) rfl)) rfl
theorem lk477 : Cond.fieldLink "VoiceHouse$Decoder" 23 "VoiceHouse$Decoder" "path" "[LVoiceHouse$Filter;" ∈ lw_all := lw_in (lkc464 _ (List.mem_of_getElem? (i := 13) rfl)) rfl
theorem lk478 : Cond.fieldLink "VoiceHouse" 309 "VoiceHouse$Decoder" "path" "[LVoiceHouse$Filter;" ∈ lw_all := lw_in (lkc464 _ (List.mem_of_getElem? (i := 14) rfl)) rfl
theorem lk479 : Cond.fieldLink "VoiceHouse$Decoder" 27 "VoiceHouse$Decoder" "out" "[I" ∈ lw_all := lw_in (lkc464 _ (List.mem_of_getElem? (i := 15) rfl)) rfl
theorem lk480 : Cond.fieldLink "VoiceHouse" 283 "VoiceHouse$Decoder" "out" "[I" ∈ lw_all := lw_in (lkc464 _ (List.mem_of_getElem? (i := 16) rfl)) rfl
theorem lk481 : Cond.fieldLink "VoiceHouse$Decoder" 211 "VoiceHouse$Decoder" "outs" "I" ∈ lw_all := lw_in (lkc464 _ (List.mem_of_getElem? (i := 17) rfl)) rfl
theorem lk482 : Cond.fieldLink "VoiceHouse" 277 "VoiceHouse$Decoder" "outs" "I" ∈ lw_all := lw_in (lkc464 _ (List.mem_of_getElem? (i := 18) rfl)) rfl
theorem lk483 : Cond.fieldLink "VoiceHouse$Decoder" 35 "VoiceHouse$Decoder" "rate" "I" ∈ lw_all := lw_in (lkc464 _ (List.mem_of_getElem? (i := 19) rfl)) rfl
theorem lk484 : Cond.fieldLink "VoiceHouse$Decoder" 149 "VoiceHouse$Decoder" "gain" "I" ∈ lw_all := lw_in (lkc464 _ (List.mem_of_getElem? (i := 20) rfl)) rfl
theorem lk485 : Cond.fieldLink "VoiceHouse$Decoder" 63 "VoiceHouse$Decoder" "next" "I" ∈ lw_all := lw_in (lkc464 _ (List.mem_of_getElem? (i := 21) rfl)) rfl
theorem lk486 : Cond.fieldLink "VoiceHouse" 125 "VoiceHouse$Decoder" "next" "I" ∈ lw_all := lw_in (lkc464 _ (List.mem_of_getElem? (i := 22) rfl)) rfl
theorem lk487 : Cond.fieldLink "VoiceHouse$Decoder" 31 "VoiceHouse$Decoder" "bound" "I" ∈ lw_all := lw_in (lkc464 _ (List.mem_of_getElem? (i := 23) rfl)) rfl
theorem lk488 : Cond.fieldLink "VoiceHouse" 320 "VoiceHouse$Decoder" "bound" "I" ∈ lw_all := lw_in (lkc464 _ (List.mem_of_getElem? (i := 24) rfl)) rfl
theorem lk489 : Cond.fieldLink "VoiceHouse$Decoder" 220 "VoiceHouse$Decoder" "due" "I" ∈ lw_all := lw_in (lkc489 _ (List.mem_of_getElem? (i := 0) rfl)) rfl
theorem lk490 : Cond.fieldLink "VoiceHouse" 323 "VoiceHouse$Decoder" "due" "I" ∈ lw_all := lw_in (lkc489 _ (List.mem_of_getElem? (i := 1) rfl)) rfl
theorem lk491 : Cond.fieldLink "VoiceHouse$Decoder" 84 "VoiceHouse$Decoder" "told" "I" ∈ lw_all := lw_in (lkc489 _ (List.mem_of_getElem? (i := 2) rfl)) rfl
theorem lk492 : Cond.fieldLink "VoiceHouse" 303 "VoiceHouse$Decoder" "told" "I" ∈ lw_all := lw_in (lkc489 _ (List.mem_of_getElem? (i := 3) rfl)) rfl
theorem lk493 : Cond.fieldLink "VoiceHouse$Decoder" 139 "VoiceHouse$Decoder" "way" "I" ∈ lw_all := lw_in (lkc489 _ (List.mem_of_getElem? (i := 4) rfl)) rfl
theorem lk494 : Cond.fieldLink "VoiceHouse" 306 "VoiceHouse$Decoder" "way" "I" ∈ lw_all := lw_in (lkc489 _ (List.mem_of_getElem? (i := 5) rfl)) rfl
theorem lk495 : Cond.fieldLink "VoiceHouse$Decoder" 87 "VoiceHouse$Decoder" "repairsInARow" "I" ∈ lw_all := lw_in (lkc489 _ (List.mem_of_getElem? (i := 6) rfl)) rfl
theorem lk496 : Cond.fieldLink "VoiceHouse$Decoder" 116 "VoiceHouse$Decoder" "decoded" "I" ∈ lw_all := lw_in (lkc489 _ (List.mem_of_getElem? (i := 7) rfl)) rfl
theorem lk497 : Cond.fieldLink "VoiceHouse" 108 "VoiceHouse$Decoder" "decoded" "I" ∈ lw_all := lw_in (lkc489 _ (List.mem_of_getElem? (i := 8) rfl)) rfl
theorem lk498 : Cond.fieldLink "VoiceHouse$Decoder" 60 "VoiceHouse$Decoder" "late" "I" ∈ lw_all := lw_in (lkc489 _ (List.mem_of_getElem? (i := 9) rfl)) rfl
theorem lk499 : Cond.fieldLink "VoiceHouse" 347 "VoiceHouse$Decoder" "late" "I" ∈ lw_all := lw_in (lkc489 _ (List.mem_of_getElem? (i := 10) rfl)) rfl
theorem lk500 : Cond.fieldLink "VoiceHouse$Decoder" 194 "VoiceHouse$Decoder" "repaired" "I" ∈ lw_all := lw_in (lkc489 _ (List.mem_of_getElem? (i := 11) rfl)) rfl
theorem lk501 : Cond.fieldLink "VoiceHouse" 350 "VoiceHouse$Decoder" "repaired" "I" ∈ lw_all := lw_in (lkc489 _ (List.mem_of_getElem? (i := 12) rfl)) rfl
theorem lk502 : Cond.fieldLink "VoiceHouse$Decoder" 191 "VoiceHouse$Decoder" "mended" "I" ∈ lw_all := lw_in (lkc489 _ (List.mem_of_getElem? (i := 13) rfl)) rfl
theorem lk503 : Cond.fieldLink "VoiceHouse" 353 "VoiceHouse$Decoder" "mended" "I" ∈ lw_all := lw_in (lkc489 _ (List.mem_of_getElem? (i := 14) rfl)) rfl
theorem lk543 : Cond.fieldLink "VoiceHouse$Coder" 9 "VoiceHouse$Coder" "waiting" "[I" ∈ lw_all := lw_in (lkc539 _ (List.mem_of_getElem? (i := 4) rfl)) rfl
theorem lk544 : Cond.fieldLink "VoiceHouse$Coder" 40 "VoiceHouse$Coder" "waits" "I" ∈ lw_all := lw_in (lkc539 _ (List.mem_of_getElem? (i := 5) rfl)) rfl
theorem lk545 : Cond.fieldLink "VoiceHouse" 131 "VoiceHouse$Coder" "waits" "I" ∈ lw_all := lw_in (lkc539 _ (List.mem_of_getElem? (i := 6) rfl)) rfl
theorem lk546 : Cond.fieldLink "VoiceHouse$Coder" 18 "VoiceHouse$Coder" "line" "LVoiceHouse$Line;" ∈ lw_all := lw_in (lkc539 _ (List.mem_of_getElem? (i := 7) rfl)) rfl
theorem lk547 : Cond.fieldLink "VoiceHouse" 113 "VoiceHouse$Coder" "line" "LVoiceHouse$Line;" ∈ lw_all := lw_in (lkc539 _ (List.mem_of_getElem? (i := 8) rfl)) rfl
theorem lk548 : Cond.fieldLink "VoiceHouse$Coder" 27 "VoiceHouse$Coder" "encoder" "LVoiceHouse$Encoder;" ∈ lw_all := lw_in (lkc539 _ (List.mem_of_getElem? (i := 9) rfl)) rfl
theorem lk549 : Cond.fieldLink "VoiceHouse" 68 "VoiceHouse$Coder" "encoder" "LVoiceHouse$Encoder;" ∈ lw_all := lw_in (lkc539 _ (List.mem_of_getElem? (i := 10) rfl)) rfl
theorem lk550 : Cond.fieldLink "VoiceHouse$Coder" 36 "VoiceHouse$Coder" "decoder" "LVoiceHouse$Decoder;" ∈ lw_all := lw_in (lkc539 _ (List.mem_of_getElem? (i := 11) rfl)) rfl
theorem lk551 : Cond.fieldLink "VoiceHouse" 104 "VoiceHouse$Coder" "decoder" "LVoiceHouse$Decoder;" ∈ lw_all := lw_in (lkc539 _ (List.mem_of_getElem? (i := 12) rfl)) rfl
theorem lk563 : Cond.methodLink "VoiceHouseLaw" 18 yX11_rate ∈ lw_all := lw_in (lkc554 _ (List.mem_of_getElem? (i := 9) rfl)) rfl
theorem lk564 : Cond.instanceMethod yX11_rate ∈ lw_all := lw_in (lkc554 _ (List.mem_of_getElem? (i := 10) rfl)) rfl
theorem lk565 : Cond.selects "VoiceHouse" yX11_rate yX11_rate ∈ lw_all := lw_in (lkc554 _ (List.mem_of_getElem? (i := 11) rfl)) rfl
theorem lk566 : Cond.code yX11_rate cX11_rate 5 (some (FieldType.int)) ∈ lw_all := lw_in (lkc554 _ (List.mem_of_getElem? (i := 12) rfl)) rfl
theorem lk567 : Cond.methodLink "VoiceHouse" 64 yX11_coderAt ∈ lw_all := lw_in (lkc554 _ (List.mem_of_getElem? (i := 13) rfl)) rfl
theorem lk569 : Cond.instanceMethod yX11_coderAt ∈ lw_all := lw_in (lkc554 _ (List.mem_of_getElem? (i := 15) rfl)) rfl
theorem lk570 : Cond.code yX11_coderAt cX11_coderAt 2 (some ((FieldType.object "VoiceHouse$Coder"))) ∈ lw_all := lw_in (lkc554 _ (List.mem_of_getElem? (i := 16) rfl)) rfl
theorem lk571 : Cond.methodLink "VoiceHouseLaw" 23 yX11_emphasis ∈ lw_all := lw_in (lkc554 _ (List.mem_of_getElem? (i := 17) rfl)) rfl
theorem lk572 : Cond.instanceMethod yX11_emphasis ∈ lw_all := lw_in (lkc554 _ (List.mem_of_getElem? (i := 18) rfl)) rfl
theorem lk573 : Cond.selects "VoiceHouse" yX11_emphasis yX11_emphasis ∈ lw_all := lw_in (lkc554 _ (List.mem_of_getElem? (i := 19) rfl)) rfl
theorem lk574 : Cond.code yX11_emphasis cX11_emphasis 5 (some (FieldType.int)) ∈ lw_all := lw_in (lkc554 _ (List.mem_of_getElem? (i := 20) rfl)) rfl
theorem lk575 : Cond.methodLink "VoiceHouse" 81 yX11_bit ∈ lw_all := lw_in (lkc554 _ (List.mem_of_getElem? (i := 21) rfl)) rfl
theorem lk576 : Cond.static yX11_bit ∈ lw_all := lw_in (lkc554 _ (List.mem_of_getElem? (i := 22) rfl)) rfl
theorem lk577 : Cond.code yX11_bit cX11_bit 1 (some (FieldType.int)) ∈ lw_all := lw_in (lkc554 _ (List.mem_of_getElem? (i := 23) rfl)) rfl
theorem lk578 : Cond.methodLink "VoiceHouseLaw" 28 yX11_search ∈ lw_all := lw_in (lkc554 _ (List.mem_of_getElem? (i := 24) rfl)) rfl
theorem lk579 : Cond.instanceMethod yX11_search ∈ lw_all := lw_in (lkc579 _ (List.mem_of_getElem? (i := 0) rfl)) rfl
theorem lk580 : Cond.selects "VoiceHouse" yX11_search yX11_search ∈ lw_all := lw_in (lkc579 _ (List.mem_of_getElem? (i := 1) rfl)) rfl
theorem lk581 : Cond.code yX11_search cX11_search 7 (some (FieldType.int)) ∈ lw_all := lw_in (lkc579 _ (List.mem_of_getElem? (i := 2) rfl)) rfl
theorem lk582 : Cond.methodLink "VoiceHouseLaw" 33 yX11_silence ∈ lw_all := lw_in (lkc579 _ (List.mem_of_getElem? (i := 3) rfl)) rfl
theorem lk583 : Cond.instanceMethod yX11_silence ∈ lw_all := lw_in (lkc579 _ (List.mem_of_getElem? (i := 4) rfl)) rfl
theorem lk584 : Cond.selects "VoiceHouse" yX11_silence yX11_silence ∈ lw_all := lw_in (lkc579 _ (List.mem_of_getElem? (i := 5) rfl)) rfl
theorem lk585 : Cond.code yX11_silence cX11_silence 5 (some (FieldType.int)) ∈ lw_all := lw_in (lkc579 _ (List.mem_of_getElem? (i := 6) rfl)) rfl
theorem lk586 : Cond.constant "VoiceHouse" 91 (32769) ∈ lw_all := lw_in (lkc579 _ (List.mem_of_getElem? (i := 7) rfl)) rfl
theorem lk587 : Cond.methodLink "VoiceHouseLaw" 37 yX11_redundancy ∈ lw_all := lw_in (lkc579 _ (List.mem_of_getElem? (i := 8) rfl)) rfl
theorem lk588 : Cond.instanceMethod yX11_redundancy ∈ lw_all := lw_in (lkc579 _ (List.mem_of_getElem? (i := 9) rfl)) rfl
theorem lk589 : Cond.selects "VoiceHouse" yX11_redundancy yX11_redundancy ∈ lw_all := lw_in (lkc579 _ (List.mem_of_getElem? (i := 10) rfl)) rfl
theorem lk590 : Cond.code yX11_redundancy cX11_redundancy 5 (some (FieldType.int)) ∈ lw_all := lw_in (lkc579 _ (List.mem_of_getElem? (i := 11) rfl)) rfl
theorem lk591 : Cond.methodLink "VoiceHouseLaw" 41 yX11_start ∈ lw_all := lw_in (lkc579 _ (List.mem_of_getElem? (i := 12) rfl)) rfl
theorem lk592 : Cond.instanceMethod yX11_start ∈ lw_all := lw_in (lkc579 _ (List.mem_of_getElem? (i := 13) rfl)) rfl
theorem lk593 : Cond.selects "VoiceHouse" yX11_start yX11_start ∈ lw_all := lw_in (lkc579 _ (List.mem_of_getElem? (i := 14) rfl)) rfl
theorem lk594 : Cond.code yX11_start cX11_start 4 (some (FieldType.int)) ∈ lw_all := lw_in (lkc579 _ (List.mem_of_getElem? (i := 15) rfl)) rfl
theorem lk595 : Cond.methodLink "VoiceHouse" 98 yX11_isLabel ∈ lw_all := lw_in (lkc579 _ (List.mem_of_getElem? (i := 16) rfl)) rfl
theorem lk596 : Cond.static yX11_isLabel ∈ lw_all := lw_in (lkc579 _ (List.mem_of_getElem? (i := 17) rfl)) rfl
theorem lk597 : Cond.code yX11_isLabel cX11_isLabel 1 (some (FieldType.boolean)) ∈ lw_all := lw_in (lkc579 _ (List.mem_of_getElem? (i := 18) rfl)) rfl
theorem lk598 : Cond.constant "VoiceHouse" 375 (65536) ∈ lw_all := lw_in (lkc579 _ (List.mem_of_getElem? (i := 19) rfl)) rfl
theorem lk599 : Cond.methodLink "VoiceHouseLaw" 45 yX11_sample ∈ lw_all := lw_in (lkc579 _ (List.mem_of_getElem? (i := 20) rfl)) rfl
theorem lk600 : Cond.instanceMethod yX11_sample ∈ lw_all := lw_in (lkc579 _ (List.mem_of_getElem? (i := 21) rfl)) rfl
theorem lk601 : Cond.selects "VoiceHouse" yX11_sample yX11_sample ∈ lw_all := lw_in (lkc579 _ (List.mem_of_getElem? (i := 22) rfl)) rfl
theorem lk602 : Cond.code yX11_sample cX11_sample 4 (some (FieldType.int)) ∈ lw_all := lw_in (lkc579 _ (List.mem_of_getElem? (i := 23) rfl)) rfl
theorem lk603 : Cond.methodLink "VoiceHouse" 128 yX11_isSample ∈ lw_all := lw_in (lkc579 _ (List.mem_of_getElem? (i := 24) rfl)) rfl
theorem lk604 : Cond.static yX11_isSample ∈ lw_all := lw_in (lkc604 _ (List.mem_of_getElem? (i := 0) rfl)) rfl
theorem lk605 : Cond.code yX11_isSample cX11_isSample 1 (some (FieldType.boolean)) ∈ lw_all := lw_in (lkc604 _ (List.mem_of_getElem? (i := 1) rfl)) rfl
theorem lk606 : Cond.methodLink "VoiceHouse" 134 yX0_addSample ∈ lw_all := lw_in (lkc604 _ (List.mem_of_getElem? (i := 2) rfl)) rfl
theorem lk607 : Cond.instanceMethod yX0_addSample ∈ lw_all := lw_in (lkc604 _ (List.mem_of_getElem? (i := 3) rfl)) rfl
theorem lk608 : Cond.selects "VoiceHouse$Coder" yX0_addSample yX0_addSample ∈ lw_all := lw_in (lkc604 _ (List.mem_of_getElem? (i := 4) rfl)) rfl
theorem lk609 : Cond.code yX0_addSample cX0_addSample 2 (none) ∈ lw_all := lw_in (lkc604 _ (List.mem_of_getElem? (i := 5) rfl)) rfl
theorem lk610 : Cond.methodLink "VoiceHouseLaw" 49 yX11_wave ∈ lw_all := lw_in (lkc604 _ (List.mem_of_getElem? (i := 6) rfl)) rfl
theorem lk611 : Cond.instanceMethod yX11_wave ∈ lw_all := lw_in (lkc604 _ (List.mem_of_getElem? (i := 7) rfl)) rfl
theorem lk612 : Cond.selects "VoiceHouse" yX11_wave yX11_wave ∈ lw_all := lw_in (lkc604 _ (List.mem_of_getElem? (i := 8) rfl)) rfl
theorem lk613 : Cond.code yX11_wave cX11_wave 10 (some (FieldType.int)) ∈ lw_all := lw_in (lkc604 _ (List.mem_of_getElem? (i := 9) rfl)) rfl
theorem lk614 : Cond.methodLink "VoiceHouse" 138 yX11_isWave ∈ lw_all := lw_in (lkc604 _ (List.mem_of_getElem? (i := 10) rfl)) rfl
theorem lk615 : Cond.static yX11_isWave ∈ lw_all := lw_in (lkc604 _ (List.mem_of_getElem? (i := 11) rfl)) rfl
theorem lk616 : Cond.code yX11_isWave cX11_isWave 3 (some (FieldType.boolean)) ∈ lw_all := lw_in (lkc604 _ (List.mem_of_getElem? (i := 12) rfl)) rfl
theorem lk617 : Cond.methodLink "VoiceHouse" 142 yX11_drawnFrom ∈ lw_all := lw_in (lkc604 _ (List.mem_of_getElem? (i := 13) rfl)) rfl
theorem lk618 : Cond.static yX11_drawnFrom ∈ lw_all := lw_in (lkc604 _ (List.mem_of_getElem? (i := 14) rfl)) rfl
theorem lk619 : Cond.code yX11_drawnFrom cX11_drawnFrom 2 (some (FieldType.long)) ∈ lw_all := lw_in (lkc604 _ (List.mem_of_getElem? (i := 15) rfl)) rfl
theorem lk620 : Cond.constantLong "VoiceHouse" 379 (1103515245) ∈ lw_all := lw_in (lkc604 _ (List.mem_of_getElem? (i := 16) rfl)) rfl
theorem lk621 : Cond.constantLong "VoiceHouse" 381 (12345) ∈ lw_all := lw_in (lkc604 _ (List.mem_of_getElem? (i := 17) rfl)) rfl
theorem lk622 : Cond.constantLong "VoiceHouse" 383 (2147483647) ∈ lw_all := lw_in (lkc604 _ (List.mem_of_getElem? (i := 18) rfl)) rfl
theorem lk623 : Cond.methodLink "VoiceHouse" 146 yX11_drawOf ∈ lw_all := lw_in (lkc604 _ (List.mem_of_getElem? (i := 19) rfl)) rfl
theorem lk624 : Cond.static yX11_drawOf ∈ lw_all := lw_in (lkc604 _ (List.mem_of_getElem? (i := 20) rfl)) rfl
theorem lk625 : Cond.code yX11_drawOf cX11_drawOf 2 (some (FieldType.int)) ∈ lw_all := lw_in (lkc604 _ (List.mem_of_getElem? (i := 21) rfl)) rfl
theorem lk626 : Cond.constantLong "VoiceHouse" 385 (255) ∈ lw_all := lw_in (lkc604 _ (List.mem_of_getElem? (i := 22) rfl)) rfl
theorem lk627 : Cond.methodLink "VoiceHouse" 150 yX11_waveAt ∈ lw_all := lw_in (lkc604 _ (List.mem_of_getElem? (i := 23) rfl)) rfl
theorem lk628 : Cond.static yX11_waveAt ∈ lw_all := lw_in (lkc604 _ (List.mem_of_getElem? (i := 24) rfl)) rfl
theorem lk629 : Cond.code yX11_waveAt cX11_waveAt 5 (some (FieldType.int)) ∈ lw_all := lw_in (lkc629 _ (List.mem_of_getElem? (i := 0) rfl)) rfl
theorem lk630 : Cond.methodLink "VoiceHouse" 376 yJ9_abs_0f7a4 ∈ lw_all := lw_in (lkc629 _ (List.mem_of_getElem? (i := 1) rfl)) rfl
theorem lk631 : Cond.static yJ9_abs_0f7a4 ∈ lw_all := lw_in (lkc629 _ (List.mem_of_getElem? (i := 2) rfl)) rfl
theorem lk632 : Cond.code yJ9_abs_0f7a4 cJ9_abs_0f7a4 1 (some (FieldType.int)) ∈ lw_all := lw_in (lkc629 _ (List.mem_of_getElem? (i := 3) rfl)) rfl
theorem lk633 : Cond.methodLink "VoiceHouseLaw" 54 yX11_encode ∈ lw_all := lw_in (lkc629 _ (List.mem_of_getElem? (i := 4) rfl)) rfl
theorem lk634 : Cond.instanceMethod yX11_encode ∈ lw_all := lw_in (lkc629 _ (List.mem_of_getElem? (i := 5) rfl)) rfl
theorem lk635 : Cond.selects "VoiceHouse" yX11_encode yX11_encode ∈ lw_all := lw_in (lkc629 _ (List.mem_of_getElem? (i := 6) rfl)) rfl
theorem lk636 : Cond.code yX11_encode cX11_encode 4 (some (FieldType.int)) ∈ lw_all := lw_in (lkc629 _ (List.mem_of_getElem? (i := 7) rfl)) rfl
theorem lk637 : Cond.methodLink "VoiceHouse" 154 yX11_frameOf ∈ lw_all := lw_in (lkc629 _ (List.mem_of_getElem? (i := 8) rfl)) rfl
theorem lk638 : Cond.static yX11_frameOf ∈ lw_all := lw_in (lkc629 _ (List.mem_of_getElem? (i := 9) rfl)) rfl
theorem lk639 : Cond.code yX11_frameOf cX11_frameOf 1 (some (FieldType.int)) ∈ lw_all := lw_in (lkc629 _ (List.mem_of_getElem? (i := 10) rfl)) rfl
theorem lk640 : Cond.methodLink "VoiceHouse" 157 yX5_isFull ∈ lw_all := lw_in (lkc629 _ (List.mem_of_getElem? (i := 11) rfl)) rfl
theorem lk641 : Cond.instanceMethod yX5_isFull ∈ lw_all := lw_in (lkc629 _ (List.mem_of_getElem? (i := 12) rfl)) rfl
theorem lk642 : Cond.selects "VoiceHouse$Line" yX5_isFull yX5_isFull ∈ lw_all := lw_in (lkc629 _ (List.mem_of_getElem? (i := 13) rfl)) rfl
theorem lk643 : Cond.code yX5_isFull cX5_isFull 1 (some (FieldType.boolean)) ∈ lw_all := lw_in (lkc629 _ (List.mem_of_getElem? (i := 14) rfl)) rfl
theorem lk644 : Cond.methodLink "VoiceHouse" 164 yX0_takeWaiting ∈ lw_all := lw_in (lkc629 _ (List.mem_of_getElem? (i := 15) rfl)) rfl
theorem lk645 : Cond.instanceMethod yX0_takeWaiting ∈ lw_all := lw_in (lkc629 _ (List.mem_of_getElem? (i := 16) rfl)) rfl
theorem lk646 : Cond.selects "VoiceHouse$Coder" yX0_takeWaiting yX0_takeWaiting ∈ lw_all := lw_in (lkc629 _ (List.mem_of_getElem? (i := 17) rfl)) rfl
theorem lk647 : Cond.code yX0_takeWaiting cX0_takeWaiting 3 (none) ∈ lw_all := lw_in (lkc629 _ (List.mem_of_getElem? (i := 18) rfl)) rfl
theorem lk648 : Cond.methodLink "VoiceHouse$Coder" 44 (⟨"java/lang/System", "arraycopy", "(Ljava/lang/Object;ILjava/lang/Object;II)V"⟩ : MethodName) ∈ lw_all := lw_in (lkc629 _ (List.mem_of_getElem? (i := 19) rfl)) rfl
theorem lk649 : Cond.static (⟨"java/lang/System", "arraycopy", "(Ljava/lang/Object;ILjava/lang/Object;II)V"⟩ : MethodName) ∈ lw_all := lw_in (lkc629 _ (List.mem_of_getElem? (i := 20) rfl)) rfl
theorem lk650 : Cond.native (⟨"java/lang/System", "arraycopy", "(Ljava/lang/Object;ILjava/lang/Object;II)V"⟩ : MethodName) ∈ lw_all := lw_in (lkc629 _ (List.mem_of_getElem? (i := 21) rfl)) rfl
theorem lk651 : Cond.classLink "VoiceHouse" 168 "VoiceHouse$Frame" ∈ lw_all := lw_in (lkc629 _ (List.mem_of_getElem? (i := 22) rfl)) rfl
theorem lk652 : Cond.instantiable "VoiceHouse$Frame" 3 ∈ lw_all := lw_in (lkc629 _ (List.mem_of_getElem? (i := 23) rfl)) rfl
theorem lk653 : Cond.methodLink "VoiceHouse" 170 yX2_encodeFrame ∈ lw_all := lw_in (lkc629 _ (List.mem_of_getElem? (i := 24) rfl)) rfl
theorem lk654 : Cond.instanceMethod yX2_encodeFrame ∈ lw_all := lw_in (lkc654 _ (List.mem_of_getElem? (i := 0) rfl)) rfl
theorem lk655 : Cond.selects "VoiceHouse$Encoder" yX2_encodeFrame yX2_encodeFrame ∈ lw_all := lw_in (lkc654 _ (List.mem_of_getElem? (i := 1) rfl)) rfl
theorem lk656 : Cond.code yX2_encodeFrame cX2_encodeFrame 7 (some ((FieldType.array FieldType.byte))) ∈ lw_all := lw_in (lkc654 _ (List.mem_of_getElem? (i := 2) rfl)) rfl
theorem lk657 : Cond.methodLinkNest "VoiceHouse$Encoder" 58 yX11_frameOf "VoiceHouse" ∈ lw_nst := lw_inN (lkc654 _ (List.mem_of_getElem? (i := 3) rfl)) rfl
theorem lk658 : Cond.methodLink "VoiceHouse$Encoder" 62 yX2_framed ∈ lw_all := lw_in (lkc654 _ (List.mem_of_getElem? (i := 4) rfl)) rfl
theorem lk660 : Cond.instanceMethod yX2_framed ∈ lw_all := lw_in (lkc654 _ (List.mem_of_getElem? (i := 6) rfl)) rfl
theorem lk661 : Cond.code yX2_framed cX2_framed 6 (some (FieldType.int)) ∈ lw_all := lw_in (lkc654 _ (List.mem_of_getElem? (i := 7) rfl)) rfl
theorem lk662 : Cond.methodLink "VoiceHouse$Encoder" 84 yX10_mark ∈ lw_all := lw_in (lkc654 _ (List.mem_of_getElem? (i := 8) rfl)) rfl
theorem lk663 : Cond.instanceMethod yX10_mark ∈ lw_all := lw_in (lkc654 _ (List.mem_of_getElem? (i := 9) rfl)) rfl
theorem lk664 : Cond.selects "VoiceHouse$Tally" yX10_mark yX10_mark ∈ lw_all := lw_in (lkc654 _ (List.mem_of_getElem? (i := 10) rfl)) rfl
theorem lk665 : Cond.code yX10_mark cX10_mark 2 (none) ∈ lw_all := lw_in (lkc654 _ (List.mem_of_getElem? (i := 11) rfl)) rfl
theorem lk666 : Cond.constantLong "VoiceHouse$Encoder" 131 (22282) ∈ lw_all := lw_in (lkc654 _ (List.mem_of_getElem? (i := 12) rfl)) rfl
theorem lk667 : Cond.methodLinkNest "VoiceHouse$Encoder" 133 yX11_half "VoiceHouse" ∈ lw_nst := lw_inN (lkc654 _ (List.mem_of_getElem? (i := 13) rfl)) rfl
theorem lk668 : Cond.static yX11_half ∈ lw_all := lw_in (lkc654 _ (List.mem_of_getElem? (i := 14) rfl)) rfl
theorem lk669 : Cond.code yX11_half cX11_half 4 (some (FieldType.long)) ∈ lw_all := lw_in (lkc654 _ (List.mem_of_getElem? (i := 15) rfl)) rfl
theorem lk670 : Cond.constantLong "VoiceHouse" 387 (16384) ∈ lw_all := lw_in (lkc654 _ (List.mem_of_getElem? (i := 16) rfl)) rfl
theorem lk671 : Cond.methodLink "VoiceHouse$Encoder" 137 yX10_narrow ∈ lw_all := lw_in (lkc654 _ (List.mem_of_getElem? (i := 17) rfl)) rfl
theorem lk672 : Cond.instanceMethod yX10_narrow ∈ lw_all := lw_in (lkc654 _ (List.mem_of_getElem? (i := 18) rfl)) rfl
theorem lk673 : Cond.selects "VoiceHouse$Tally" yX10_narrow yX10_narrow ∈ lw_all := lw_in (lkc654 _ (List.mem_of_getElem? (i := 19) rfl)) rfl
theorem lk674 : Cond.code yX10_narrow cX10_narrow 3 (some (FieldType.int)) ∈ lw_all := lw_in (lkc654 _ (List.mem_of_getElem? (i := 20) rfl)) rfl
theorem lk675 : Cond.constantLong "VoiceHouse$Tally" 22 (-32768) ∈ lw_all := lw_in (lkc654 _ (List.mem_of_getElem? (i := 21) rfl)) rfl
theorem lk676 : Cond.constantLong "VoiceHouse$Tally" 28 (32767) ∈ lw_all := lw_in (lkc654 _ (List.mem_of_getElem? (i := 22) rfl)) rfl
theorem lk677 : Cond.methodLink "VoiceHouse$Encoder" 141 yJ9_abs_0f7a4 ∈ lw_all := lw_in (lkc654 _ (List.mem_of_getElem? (i := 23) rfl)) rfl
theorem lk678 : Cond.methodLink "VoiceHouse$Encoder" 146 yJ9_max_7cf53 ∈ lw_all := lw_in (lkc654 _ (List.mem_of_getElem? (i := 24) rfl)) rfl
theorem lk679 : Cond.static yJ9_max_7cf53 ∈ lw_all := lw_in (lkc679 _ (List.mem_of_getElem? (i := 0) rfl)) rfl
theorem lk680 : Cond.code yJ9_max_7cf53 cJ9_max_7cf53 2 (some (FieldType.int)) ∈ lw_all := lw_in (lkc679 _ (List.mem_of_getElem? (i := 1) rfl)) rfl
theorem lk681 : Cond.methodLink "VoiceHouse$Encoder" 74 yX2_predict ∈ lw_all := lw_in (lkc679 _ (List.mem_of_getElem? (i := 2) rfl)) rfl
theorem lk683 : Cond.instanceMethod yX2_predict ∈ lw_all := lw_in (lkc679 _ (List.mem_of_getElem? (i := 4) rfl)) rfl
theorem lk684 : Cond.code yX2_predict cX2_predict 2 (none) ∈ lw_all := lw_in (lkc679 _ (List.mem_of_getElem? (i := 5) rfl)) rfl
theorem lk685 : Cond.methodLink "VoiceHouse$Encoder" 153 yJ7_fill_53178 ∈ lw_all := lw_in (lkc679 _ (List.mem_of_getElem? (i := 6) rfl)) rfl
theorem lk686 : Cond.static yJ7_fill_53178 ∈ lw_all := lw_in (lkc679 _ (List.mem_of_getElem? (i := 7) rfl)) rfl
theorem lk687 : Cond.code yJ7_fill_53178 cJ7_fill_53178 4 (none) ∈ lw_all := lw_in (lkc679 _ (List.mem_of_getElem? (i := 8) rfl)) rfl
theorem lk688 : Cond.methodLink "VoiceHouse$Encoder" 159 yX2_correlate ∈ lw_all := lw_in (lkc679 _ (List.mem_of_getElem? (i := 9) rfl)) rfl
theorem lk690 : Cond.instanceMethod yX2_correlate ∈ lw_all := lw_in (lkc679 _ (List.mem_of_getElem? (i := 11) rfl)) rfl
theorem lk691 : Cond.code yX2_correlate cX2_correlate 8 (none) ∈ lw_all := lw_in (lkc679 _ (List.mem_of_getElem? (i := 12) rfl)) rfl
theorem lk692 : Cond.constantLong "VoiceHouse$Encoder" 208 (1073741824) ∈ lw_all := lw_in (lkc679 _ (List.mem_of_getElem? (i := 13) rfl)) rfl
theorem lk693 : Cond.methodLink "VoiceHouse$Encoder" 162 yX2_reflect ∈ lw_all := lw_in (lkc679 _ (List.mem_of_getElem? (i := 14) rfl)) rfl
theorem lk695 : Cond.instanceMethod yX2_reflect ∈ lw_all := lw_in (lkc679 _ (List.mem_of_getElem? (i := 16) rfl)) rfl
theorem lk696 : Cond.code yX2_reflect cX2_reflect 5 (none) ∈ lw_all := lw_in (lkc679 _ (List.mem_of_getElem? (i := 17) rfl)) rfl
theorem lk697 : Cond.methodLink "VoiceHouse$Encoder" 171 (⟨"java/lang/System", "arraycopy", "(Ljava/lang/Object;ILjava/lang/Object;II)V"⟩ : MethodName) ∈ lw_all := lw_in (lkc679 _ (List.mem_of_getElem? (i := 18) rfl)) rfl
theorem lk698 : Cond.methodLink "VoiceHouse$Encoder" 213 yJ9_abs_067f4 ∈ lw_all := lw_in (lkc679 _ (List.mem_of_getElem? (i := 19) rfl)) rfl
theorem lk699 : Cond.static yJ9_abs_067f4 ∈ lw_all := lw_in (lkc679 _ (List.mem_of_getElem? (i := 20) rfl)) rfl
theorem lk700 : Cond.code yJ9_abs_067f4 cJ9_abs_067f4 2 (some (FieldType.long)) ∈ lw_all := lw_in (lkc679 _ (List.mem_of_getElem? (i := 21) rfl)) rfl
theorem lk701 : Cond.constantLong "VoiceHouse$Encoder" 216 (-32768) ∈ lw_all := lw_in (lkc679 _ (List.mem_of_getElem? (i := 22) rfl)) rfl
theorem lk702 : Cond.constantLong "VoiceHouse$Encoder" 218 (512) ∈ lw_all := lw_in (lkc679 _ (List.mem_of_getElem? (i := 23) rfl)) rfl
theorem lk703 : Cond.methodLink "VoiceHouse$Encoder" 220 yX10_nearestIndex ∈ lw_all := lw_in (lkc679 _ (List.mem_of_getElem? (i := 24) rfl)) rfl
theorem lk704 : Cond.instanceMethod yX10_nearestIndex ∈ lw_all := lw_in (lkc704 _ (List.mem_of_getElem? (i := 0) rfl)) rfl
theorem lk705 : Cond.selects "VoiceHouse$Tally" yX10_nearestIndex yX10_nearestIndex ∈ lw_all := lw_in (lkc704 _ (List.mem_of_getElem? (i := 1) rfl)) rfl
theorem lk706 : Cond.code yX10_nearestIndex cX10_nearestIndex 5 (some (FieldType.int)) ∈ lw_all := lw_in (lkc704 _ (List.mem_of_getElem? (i := 2) rfl)) rfl
theorem lk707 : Cond.constantLong "VoiceHouse$Tally" 43 (-31) ∈ lw_all := lw_in (lkc704 _ (List.mem_of_getElem? (i := 3) rfl)) rfl
theorem lk708 : Cond.constantLong "VoiceHouse$Tally" 45 (31) ∈ lw_all := lw_in (lkc704 _ (List.mem_of_getElem? (i := 4) rfl)) rfl
theorem lk709 : Cond.methodLink "VoiceHouse$Tally" 34 yJ9_min_f86c9 ∈ lw_all := lw_in (lkc704 _ (List.mem_of_getElem? (i := 5) rfl)) rfl
theorem lk710 : Cond.static yJ9_min_f86c9 ∈ lw_all := lw_in (lkc704 _ (List.mem_of_getElem? (i := 6) rfl)) rfl
theorem lk711 : Cond.code yJ9_min_f86c9 cJ9_min_f86c9 4 (some (FieldType.long)) ∈ lw_all := lw_in (lkc704 _ (List.mem_of_getElem? (i := 7) rfl)) rfl
theorem lk712 : Cond.methodLink "VoiceHouse$Tally" 40 yJ9_max_f86c9 ∈ lw_all := lw_in (lkc704 _ (List.mem_of_getElem? (i := 8) rfl)) rfl
theorem lk713 : Cond.static yJ9_max_f86c9 ∈ lw_all := lw_in (lkc704 _ (List.mem_of_getElem? (i := 9) rfl)) rfl
theorem lk714 : Cond.code yJ9_max_f86c9 cJ9_max_f86c9 4 (some (FieldType.long)) ∈ lw_all := lw_in (lkc704 _ (List.mem_of_getElem? (i := 10) rfl)) rfl
theorem lk715 : Cond.methodLink "VoiceHouse$Encoder" 223 yX2_reflectOnce ∈ lw_all := lw_in (lkc704 _ (List.mem_of_getElem? (i := 11) rfl)) rfl
theorem lk717 : Cond.instanceMethod yX2_reflectOnce ∈ lw_all := lw_in (lkc704 _ (List.mem_of_getElem? (i := 13) rfl)) rfl
theorem lk718 : Cond.code yX2_reflectOnce cX2_reflectOnce 11 (none) ∈ lw_all := lw_in (lkc704 _ (List.mem_of_getElem? (i := 14) rfl)) rfl
theorem lk719 : Cond.methodLink "VoiceHouse$Encoder" 227 yX10_bounded ∈ lw_all := lw_in (lkc704 _ (List.mem_of_getElem? (i := 15) rfl)) rfl
theorem lk720 : Cond.instanceMethod yX10_bounded ∈ lw_all := lw_in (lkc704 _ (List.mem_of_getElem? (i := 16) rfl)) rfl
theorem lk721 : Cond.selects "VoiceHouse$Tally" yX10_bounded yX10_bounded ∈ lw_all := lw_in (lkc704 _ (List.mem_of_getElem? (i := 17) rfl)) rfl
theorem lk722 : Cond.code yX10_bounded cX10_bounded 5 (some (FieldType.long)) ∈ lw_all := lw_in (lkc704 _ (List.mem_of_getElem? (i := 18) rfl)) rfl
theorem lk723 : Cond.constantLong "VoiceHouse$Tally" 30 (-2147483648) ∈ lw_all := lw_in (lkc704 _ (List.mem_of_getElem? (i := 19) rfl)) rfl
theorem lk724 : Cond.constantLong "VoiceHouse$Tally" 32 (2147483647) ∈ lw_all := lw_in (lkc704 _ (List.mem_of_getElem? (i := 20) rfl)) rfl
theorem lk725 : Cond.methodLink "VoiceHouse$Encoder" 78 yX2_whiten ∈ lw_all := lw_in (lkc704 _ (List.mem_of_getElem? (i := 21) rfl)) rfl
theorem lk727 : Cond.instanceMethod yX2_whiten ∈ lw_all := lw_in (lkc704 _ (List.mem_of_getElem? (i := 23) rfl)) rfl
theorem lk728 : Cond.code yX2_whiten cX2_whiten 3 (none) ∈ lw_all := lw_in (lkc704 _ (List.mem_of_getElem? (i := 24) rfl)) rfl
theorem lk729 : Cond.methodLink "VoiceHouse$Encoder" 165 yX2_restOf ∈ lw_all := lw_in (lkc729 _ (List.mem_of_getElem? (i := 0) rfl)) rfl
theorem lk731 : Cond.instanceMethod yX2_restOf ∈ lw_all := lw_in (lkc729 _ (List.mem_of_getElem? (i := 2) rfl)) rfl
theorem lk732 : Cond.code yX2_restOf cX2_restOf 8 (some (FieldType.int)) ∈ lw_all := lw_in (lkc729 _ (List.mem_of_getElem? (i := 3) rfl)) rfl
theorem lk733 : Cond.methodLink "VoiceHouse$Encoder" 81 yX2_encodeParts ∈ lw_all := lw_in (lkc729 _ (List.mem_of_getElem? (i := 4) rfl)) rfl
theorem lk735 : Cond.instanceMethod yX2_encodeParts ∈ lw_all := lw_in (lkc729 _ (List.mem_of_getElem? (i := 6) rfl)) rfl
theorem lk736 : Cond.code yX2_encodeParts cX2_encodeParts 4 (none) ∈ lw_all := lw_in (lkc729 _ (List.mem_of_getElem? (i := 7) rfl)) rfl
theorem lk737 : Cond.methodLink "VoiceHouse$Encoder" 177 yX9_load ∈ lw_all := lw_in (lkc729 _ (List.mem_of_getElem? (i := 8) rfl)) rfl
theorem lk738 : Cond.instanceMethod yX9_load ∈ lw_all := lw_in (lkc729 _ (List.mem_of_getElem? (i := 9) rfl)) rfl
theorem lk739 : Cond.selects "VoiceHouse$Search" yX9_load yX9_load ∈ lw_all := lw_in (lkc729 _ (List.mem_of_getElem? (i := 10) rfl)) rfl
theorem lk740 : Cond.code yX9_load cX9_load 5 (none) ∈ lw_all := lw_in (lkc729 _ (List.mem_of_getElem? (i := 11) rfl)) rfl
theorem lk741 : Cond.methodLink "VoiceHouse$Search" 32 (⟨"java/lang/System", "arraycopy", "(Ljava/lang/Object;ILjava/lang/Object;II)V"⟩ : MethodName) ∈ lw_all := lw_in (lkc729 _ (List.mem_of_getElem? (i := 12) rfl)) rfl
theorem lk742 : Cond.methodLink "VoiceHouse$Encoder" 186 yX9_findPitch ∈ lw_all := lw_in (lkc729 _ (List.mem_of_getElem? (i := 13) rfl)) rfl
theorem lk743 : Cond.instanceMethod yX9_findPitch ∈ lw_all := lw_in (lkc729 _ (List.mem_of_getElem? (i := 14) rfl)) rfl
theorem lk744 : Cond.selects "VoiceHouse$Search" yX9_findPitch yX9_findPitch ∈ lw_all := lw_in (lkc729 _ (List.mem_of_getElem? (i := 15) rfl)) rfl
theorem lk745 : Cond.code yX9_findPitch cX9_findPitch 4 (none) ∈ lw_all := lw_in (lkc729 _ (List.mem_of_getElem? (i := 16) rfl)) rfl
theorem lk746 : Cond.methodLink "VoiceHouse$Search" 41 yX9_tryLags ∈ lw_all := lw_in (lkc729 _ (List.mem_of_getElem? (i := 17) rfl)) rfl
theorem lk748 : Cond.instanceMethod yX9_tryLags ∈ lw_all := lw_in (lkc729 _ (List.mem_of_getElem? (i := 19) rfl)) rfl
theorem lk749 : Cond.code yX9_tryLags cX9_tryLags 6 (none) ∈ lw_all := lw_in (lkc729 _ (List.mem_of_getElem? (i := 20) rfl)) rfl
theorem lk750 : Cond.methodLink "VoiceHouse$Search" 64 yX9_tryLag ∈ lw_all := lw_in (lkc729 _ (List.mem_of_getElem? (i := 21) rfl)) rfl
theorem lk752 : Cond.instanceMethod yX9_tryLag ∈ lw_all := lw_in (lkc729 _ (List.mem_of_getElem? (i := 23) rfl)) rfl
theorem lk753 : Cond.code yX9_tryLag cX9_tryLag 10 (none) ∈ lw_all := lw_in (lkc729 _ (List.mem_of_getElem? (i := 24) rfl)) rfl
theorem lk754 : Cond.methodLinkNest "VoiceHouse$Search" 71 yX11_lookBehind "VoiceHouse" ∈ lw_nst := lw_inN (lkc754 _ (List.mem_of_getElem? (i := 0) rfl)) rfl
theorem lk755 : Cond.static yX11_lookBehind ∈ lw_all := lw_in (lkc754 _ (List.mem_of_getElem? (i := 1) rfl)) rfl
theorem lk756 : Cond.code yX11_lookBehind cX11_lookBehind 7 (none) ∈ lw_all := lw_in (lkc754 _ (List.mem_of_getElem? (i := 2) rfl)) rfl
theorem lk757 : Cond.methodLink "VoiceHouse$Search" 48 yJ9_max_7cf53 ∈ lw_all := lw_in (lkc754 _ (List.mem_of_getElem? (i := 3) rfl)) rfl
theorem lk758 : Cond.methodLink "VoiceHouse$Search" 54 yJ9_min_7cf53 ∈ lw_all := lw_in (lkc754 _ (List.mem_of_getElem? (i := 4) rfl)) rfl
theorem lk759 : Cond.static yJ9_min_7cf53 ∈ lw_all := lw_in (lkc754 _ (List.mem_of_getElem? (i := 5) rfl)) rfl
theorem lk760 : Cond.code yJ9_min_7cf53 cJ9_min_7cf53 2 (some (FieldType.int)) ∈ lw_all := lw_in (lkc754 _ (List.mem_of_getElem? (i := 6) rfl)) rfl
theorem lk761 : Cond.methodLink "VoiceHouse$Encoder" 193 yX9_findPulses ∈ lw_all := lw_in (lkc754 _ (List.mem_of_getElem? (i := 7) rfl)) rfl
theorem lk762 : Cond.instanceMethod yX9_findPulses ∈ lw_all := lw_in (lkc754 _ (List.mem_of_getElem? (i := 8) rfl)) rfl
theorem lk763 : Cond.selects "VoiceHouse$Search" yX9_findPulses yX9_findPulses ∈ lw_all := lw_in (lkc754 _ (List.mem_of_getElem? (i := 9) rfl)) rfl
theorem lk764 : Cond.code yX9_findPulses cX9_findPulses 3 (none) ∈ lw_all := lw_in (lkc754 _ (List.mem_of_getElem? (i := 10) rfl)) rfl
theorem lk765 : Cond.methodLink "VoiceHouse$Search" 75 yX9_weighPlaces ∈ lw_all := lw_in (lkc754 _ (List.mem_of_getElem? (i := 11) rfl)) rfl
theorem lk767 : Cond.instanceMethod yX9_weighPlaces ∈ lw_all := lw_in (lkc754 _ (List.mem_of_getElem? (i := 13) rfl)) rfl
theorem lk768 : Cond.code yX9_weighPlaces cX9_weighPlaces 5 (none) ∈ lw_all := lw_in (lkc754 _ (List.mem_of_getElem? (i := 14) rfl)) rfl
theorem lk769 : Cond.fieldLinkNest "VoiceHouse$Search" 112 "VoiceHouse" "HEIGHTS" "[I" "VoiceHouse" ∈ lw_nst := lw_inN (lkc754 _ (List.mem_of_getElem? (i := 15) rfl)) rfl
theorem lk771 : Cond.methodLink "VoiceHouse$Search" 121 yX9_overlap ∈ lw_all := lw_in (lkc754 _ (List.mem_of_getElem? (i := 17) rfl)) rfl
theorem lk773 : Cond.instanceMethod yX9_overlap ∈ lw_all := lw_in (lkc754 _ (List.mem_of_getElem? (i := 19) rfl)) rfl
theorem lk774 : Cond.code yX9_overlap cX9_overlap 6 (some (FieldType.int)) ∈ lw_all := lw_in (lkc754 _ (List.mem_of_getElem? (i := 20) rfl)) rfl
theorem lk775 : Cond.methodLink "VoiceHouse$Search" 79 yX9_findPair ∈ lw_all := lw_in (lkc754 _ (List.mem_of_getElem? (i := 21) rfl)) rfl
theorem lk777 : Cond.instanceMethod yX9_findPair ∈ lw_all := lw_in (lkc754 _ (List.mem_of_getElem? (i := 23) rfl)) rfl
theorem lk778 : Cond.code yX9_findPair cX9_findPair 4 (none) ∈ lw_all := lw_in (lkc754 _ (List.mem_of_getElem? (i := 24) rfl)) rfl
theorem lk779 : Cond.constantLong "VoiceHouse$Search" 85 (1125899906842624) ∈ lw_all := lw_in (lkc779 _ (List.mem_of_getElem? (i := 0) rfl)) rfl
theorem lk780 : Cond.methodLink "VoiceHouse$Search" 96 yX9_findOdd ∈ lw_all := lw_in (lkc779 _ (List.mem_of_getElem? (i := 1) rfl)) rfl
theorem lk782 : Cond.instanceMethod yX9_findOdd ∈ lw_all := lw_in (lkc779 _ (List.mem_of_getElem? (i := 3) rfl)) rfl
theorem lk783 : Cond.code yX9_findOdd cX9_findOdd 10 (some (FieldType.boolean)) ∈ lw_all := lw_in (lkc779 _ (List.mem_of_getElem? (i := 4) rfl)) rfl
theorem lk784 : Cond.methodLink "VoiceHouse$Search" 124 yX9_turned ∈ lw_all := lw_in (lkc779 _ (List.mem_of_getElem? (i := 5) rfl)) rfl
theorem lk785 : Cond.static yX9_turned ∈ lw_all := lw_in (lkc779 _ (List.mem_of_getElem? (i := 6) rfl)) rfl
theorem lk786 : Cond.code yX9_turned cX9_turned 2 (some (FieldType.int)) ∈ lw_all := lw_in (lkc779 _ (List.mem_of_getElem? (i := 7) rfl)) rfl
theorem lk787 : Cond.methodLink "VoiceHouse$Search" 127 yX9_betters ∈ lw_all := lw_in (lkc779 _ (List.mem_of_getElem? (i := 8) rfl)) rfl
theorem lk789 : Cond.instanceMethod yX9_betters ∈ lw_all := lw_in (lkc779 _ (List.mem_of_getElem? (i := 10) rfl)) rfl
theorem lk790 : Cond.code yX9_betters cX9_betters 13 (some (FieldType.boolean)) ∈ lw_all := lw_in (lkc779 _ (List.mem_of_getElem? (i := 11) rfl)) rfl
theorem lk791 : Cond.constantLong "VoiceHouse$Search" 137 (-1024) ∈ lw_all := lw_in (lkc779 _ (List.mem_of_getElem? (i := 12) rfl)) rfl
theorem lk792 : Cond.fieldLinkNest "VoiceHouse$Search" 139 "VoiceHouse" "GAINS" "[I" "VoiceHouse" ∈ lw_nst := lw_inN (lkc779 _ (List.mem_of_getElem? (i := 13) rfl)) rfl
theorem lk794 : Cond.constantLong "VoiceHouse$Search" 142 (64) ∈ lw_all := lw_in (lkc794 _ (List.mem_of_getElem? (i := 0) rfl)) rfl
theorem lk795 : Cond.methodLink "VoiceHouse$Search" 82 yX9_findEven ∈ lw_all := lw_in (lkc794 _ (List.mem_of_getElem? (i := 1) rfl)) rfl
theorem lk797 : Cond.instanceMethod yX9_findEven ∈ lw_all := lw_in (lkc794 _ (List.mem_of_getElem? (i := 3) rfl)) rfl
theorem lk798 : Cond.code yX9_findEven cX9_findEven 4 (none) ∈ lw_all := lw_in (lkc794 _ (List.mem_of_getElem? (i := 4) rfl)) rfl
theorem lk799 : Cond.methodLink "VoiceHouse$Encoder" 196 yX6_speak ∈ lw_all := lw_in (lkc794 _ (List.mem_of_getElem? (i := 5) rfl)) rfl
theorem lk800 : Cond.instanceMethod yX6_speak ∈ lw_all := lw_in (lkc794 _ (List.mem_of_getElem? (i := 6) rfl)) rfl
theorem lk801 : Cond.selects "VoiceHouse$Memory" yX6_speak yX6_speak ∈ lw_all := lw_in (lkc794 _ (List.mem_of_getElem? (i := 7) rfl)) rfl
theorem lk802 : Cond.code yX6_speak cX6_speak 7 (none) ∈ lw_all := lw_in (lkc794 _ (List.mem_of_getElem? (i := 8) rfl)) rfl
theorem lk803 : Cond.methodLinkNest "VoiceHouse$Memory" 41 yX11_lookBehind "VoiceHouse" ∈ lw_nst := lw_inN (lkc794 _ (List.mem_of_getElem? (i := 9) rfl)) rfl
theorem lk804 : Cond.methodLink "VoiceHouse$Memory" 48 yX7_drawPulses ∈ lw_all := lw_in (lkc794 _ (List.mem_of_getElem? (i := 10) rfl)) rfl
theorem lk805 : Cond.instanceMethod yX7_drawPulses ∈ lw_all := lw_in (lkc794 _ (List.mem_of_getElem? (i := 11) rfl)) rfl
theorem lk806 : Cond.selects "VoiceHouse$Part" yX7_drawPulses yX7_drawPulses ∈ lw_all := lw_in (lkc794 _ (List.mem_of_getElem? (i := 12) rfl)) rfl
theorem lk807 : Cond.code yX7_drawPulses cX7_drawPulses 3 (none) ∈ lw_all := lw_in (lkc794 _ (List.mem_of_getElem? (i := 13) rfl)) rfl
theorem lk808 : Cond.methodLink "VoiceHouse$Part" 40 yJ7_fill_53178 ∈ lw_all := lw_in (lkc794 _ (List.mem_of_getElem? (i := 14) rfl)) rfl
theorem lk809 : Cond.methodLink "VoiceHouse$Part" 46 yX7_addPulse ∈ lw_all := lw_in (lkc794 _ (List.mem_of_getElem? (i := 15) rfl)) rfl
theorem lk810 : Cond.static yX7_addPulse ∈ lw_all := lw_in (lkc794 _ (List.mem_of_getElem? (i := 16) rfl)) rfl
theorem lk811 : Cond.code yX7_addPulse cX7_addPulse 5 (none) ∈ lw_all := lw_in (lkc794 _ (List.mem_of_getElem? (i := 17) rfl)) rfl
theorem lk812 : Cond.fieldLinkNest "VoiceHouse$Part" 50 "VoiceHouse" "HEIGHTS" "[I" "VoiceHouse" ∈ lw_nst := lw_inN (lkc794 _ (List.mem_of_getElem? (i := 18) rfl)) rfl
theorem lk813 : Cond.fieldLinkNest "VoiceHouse$Memory" 52 "VoiceHouse" "GAINS" "[I" "VoiceHouse" ∈ lw_nst := lw_inN (lkc794 _ (List.mem_of_getElem? (i := 19) rfl)) rfl
theorem lk814 : Cond.methodLink "VoiceHouse$Memory" 64 yX10_narrow ∈ lw_all := lw_in (lkc794 _ (List.mem_of_getElem? (i := 20) rfl)) rfl
theorem lk815 : Cond.methodLink "VoiceHouse$Memory" 70 yX6_settle ∈ lw_all := lw_in (lkc794 _ (List.mem_of_getElem? (i := 21) rfl)) rfl
theorem lk817 : Cond.instanceMethod yX6_settle ∈ lw_all := lw_in (lkc794 _ (List.mem_of_getElem? (i := 23) rfl)) rfl
theorem lk818 : Cond.code yX6_settle cX6_settle 4 (none) ∈ lw_all := lw_in (lkc794 _ (List.mem_of_getElem? (i := 24) rfl)) rfl
theorem lk819 : Cond.methodLink "VoiceHouse$Memory" 86 (⟨"java/lang/System", "arraycopy", "(Ljava/lang/Object;ILjava/lang/Object;II)V"⟩ : MethodName) ∈ lw_all := lw_in (lkc819 _ (List.mem_of_getElem? (i := 0) rfl)) rfl
theorem lk820 : Cond.methodLink "VoiceHouse$Memory" 95 yX6_synthesized ∈ lw_all := lw_in (lkc819 _ (List.mem_of_getElem? (i := 1) rfl)) rfl
theorem lk822 : Cond.instanceMethod yX6_synthesized ∈ lw_all := lw_in (lkc819 _ (List.mem_of_getElem? (i := 3) rfl)) rfl
theorem lk823 : Cond.code yX6_synthesized cX6_synthesized 7 (some (FieldType.int)) ∈ lw_all := lw_in (lkc819 _ (List.mem_of_getElem? (i := 4) rfl)) rfl
theorem lk824 : Cond.methodLinkNest "VoiceHouse$Memory" 99 yX11_half "VoiceHouse" ∈ lw_nst := lw_inN (lkc819 _ (List.mem_of_getElem? (i := 5) rfl)) rfl
theorem lk825 : Cond.methodLink "VoiceHouse$Encoder" 90 yX6_hush ∈ lw_all := lw_in (lkc819 _ (List.mem_of_getElem? (i := 6) rfl)) rfl
theorem lk826 : Cond.instanceMethod yX6_hush ∈ lw_all := lw_in (lkc819 _ (List.mem_of_getElem? (i := 7) rfl)) rfl
theorem lk827 : Cond.selects "VoiceHouse$Memory" yX6_hush yX6_hush ∈ lw_all := lw_in (lkc819 _ (List.mem_of_getElem? (i := 8) rfl)) rfl
theorem lk828 : Cond.code yX6_hush cX6_hush 8 (none) ∈ lw_all := lw_in (lkc819 _ (List.mem_of_getElem? (i := 9) rfl)) rfl
theorem lk829 : Cond.methodLink "VoiceHouse$Memory" 74 yJ7_fill_53178 ∈ lw_all := lw_in (lkc819 _ (List.mem_of_getElem? (i := 10) rfl)) rfl
theorem lk830 : Cond.methodLinkNest "VoiceHouse$Memory" 79 yX11_drawnFrom "VoiceHouse" ∈ lw_nst := lw_inN (lkc819 _ (List.mem_of_getElem? (i := 11) rfl)) rfl
theorem lk831 : Cond.methodLinkNest "VoiceHouse$Memory" 83 yX11_drawOf "VoiceHouse" ∈ lw_nst := lw_inN (lkc819 _ (List.mem_of_getElem? (i := 12) rfl)) rfl
theorem lk832 : Cond.methodLink "VoiceHouse$Encoder" 94 yX2_headed ∈ lw_all := lw_in (lkc819 _ (List.mem_of_getElem? (i := 13) rfl)) rfl
theorem lk834 : Cond.instanceMethod yX2_headed ∈ lw_all := lw_in (lkc819 _ (List.mem_of_getElem? (i := 15) rfl)) rfl
theorem lk835 : Cond.code yX2_headed cX2_headed 5 (some ((FieldType.array FieldType.byte))) ∈ lw_all := lw_in (lkc819 _ (List.mem_of_getElem? (i := 16) rfl)) rfl
theorem lk836 : Cond.methodLink "VoiceHouse$Encoder" 98 yX2_writeBody ∈ lw_all := lw_in (lkc819 _ (List.mem_of_getElem? (i := 17) rfl)) rfl
theorem lk838 : Cond.instanceMethod yX2_writeBody ∈ lw_all := lw_in (lkc819 _ (List.mem_of_getElem? (i := 19) rfl)) rfl
theorem lk839 : Cond.code yX2_writeBody cX2_writeBody 5 (none) ∈ lw_all := lw_in (lkc819 _ (List.mem_of_getElem? (i := 20) rfl)) rfl
theorem lk840 : Cond.methodLink "VoiceHouse$Encoder" 233 yX7_write ∈ lw_all := lw_in (lkc819 _ (List.mem_of_getElem? (i := 21) rfl)) rfl
theorem lk841 : Cond.instanceMethod yX7_write ∈ lw_all := lw_in (lkc819 _ (List.mem_of_getElem? (i := 22) rfl)) rfl
theorem lk842 : Cond.selects "VoiceHouse$Part" yX7_write yX7_write ∈ lw_all := lw_in (lkc819 _ (List.mem_of_getElem? (i := 23) rfl)) rfl
theorem lk843 : Cond.code yX7_write cX7_write 3 (none) ∈ lw_all := lw_in (lkc819 _ (List.mem_of_getElem? (i := 24) rfl)) rfl
theorem lk844 : Cond.methodLinkNest "VoiceHouse$Encoder" 102 yX11_sumOf "VoiceHouse" ∈ lw_nst := lw_inN (lkc844 _ (List.mem_of_getElem? (i := 0) rfl)) rfl
theorem lk845 : Cond.static yX11_sumOf ∈ lw_all := lw_in (lkc844 _ (List.mem_of_getElem? (i := 1) rfl)) rfl
theorem lk846 : Cond.code yX11_sumOf cX11_sumOf 3 (some (FieldType.byte)) ∈ lw_all := lw_in (lkc844 _ (List.mem_of_getElem? (i := 2) rfl)) rfl
theorem lk847 : Cond.constant "VoiceHouse$Encoder" 116 (65536) ∈ lw_all := lw_in (lkc844 _ (List.mem_of_getElem? (i := 3) rfl)) rfl
theorem lk848 : Cond.methodLink "VoiceHouse$Encoder" 117 yX8_wipe ∈ lw_all := lw_in (lkc844 _ (List.mem_of_getElem? (i := 4) rfl)) rfl
theorem lk849 : Cond.instanceMethod yX8_wipe ∈ lw_all := lw_in (lkc844 _ (List.mem_of_getElem? (i := 5) rfl)) rfl
theorem lk850 : Cond.selects "VoiceHouse$Rows" yX8_wipe yX8_wipe ∈ lw_all := lw_in (lkc844 _ (List.mem_of_getElem? (i := 6) rfl)) rfl
theorem lk851 : Cond.code yX8_wipe cX8_wipe 1 (none) ∈ lw_all := lw_in (lkc844 _ (List.mem_of_getElem? (i := 7) rfl)) rfl
theorem lk852 : Cond.methodLink "VoiceHouse$Rows" 49 yJ7_fill_53178 ∈ lw_all := lw_in (lkc844 _ (List.mem_of_getElem? (i := 8) rfl)) rfl
theorem lk853 : Cond.methodLink "VoiceHouse$Rows" 55 yJ7_fill_d0a16 ∈ lw_all := lw_in (lkc844 _ (List.mem_of_getElem? (i := 9) rfl)) rfl
theorem lk854 : Cond.static yJ7_fill_d0a16 ∈ lw_all := lw_in (lkc844 _ (List.mem_of_getElem? (i := 10) rfl)) rfl
theorem lk855 : Cond.code yJ7_fill_d0a16 cJ7_fill_d0a16 5 (none) ∈ lw_all := lw_in (lkc844 _ (List.mem_of_getElem? (i := 11) rfl)) rfl
theorem lk856 : Cond.methodLink "VoiceHouse" 174 yX4_init ∈ lw_all := lw_in (lkc844 _ (List.mem_of_getElem? (i := 12) rfl)) rfl
theorem lk857 : Cond.instanceMethod yX4_init ∈ lw_all := lw_in (lkc844 _ (List.mem_of_getElem? (i := 13) rfl)) rfl
theorem lk858 : Cond.code yX4_init cX4_init 4 (none) ∈ lw_all := lw_in (lkc844 _ (List.mem_of_getElem? (i := 14) rfl)) rfl
theorem lk859 : Cond.methodLink "VoiceHouse$Frame" 3 (⟨"java/lang/Object", "<init>", "()V"⟩ : MethodName) ∈ lw_all := lw_in (lkc844 _ (List.mem_of_getElem? (i := 15) rfl)) rfl
theorem lk860 : Cond.fieldLink "VoiceHouse$Frame" 9 "VoiceHouse$Frame" "label" "I" ∈ lw_all := lw_in (lkc844 _ (List.mem_of_getElem? (i := 16) rfl)) rfl
theorem lk861 : Cond.fieldLink "VoiceHouse$Line" 25 "VoiceHouse$Frame" "label" "I" ∈ lw_all := lw_in (lkc844 _ (List.mem_of_getElem? (i := 17) rfl)) rfl
theorem lk862 : Cond.fieldLink "VoiceHouse" 233 "VoiceHouse$Frame" "label" "I" ∈ lw_all := lw_in (lkc844 _ (List.mem_of_getElem? (i := 18) rfl)) rfl
theorem lk863 : Cond.fieldLink "VoiceHouse$Frame" 15 "VoiceHouse$Frame" "bytes" "[B" ∈ lw_all := lw_in (lkc844 _ (List.mem_of_getElem? (i := 19) rfl)) rfl
theorem lk864 : Cond.fieldLink "VoiceHouse" 236 "VoiceHouse$Frame" "bytes" "[B" ∈ lw_all := lw_in (lkc844 _ (List.mem_of_getElem? (i := 20) rfl)) rfl
theorem lk865 : Cond.fieldLink "VoiceHouse$Frame" 19 "VoiceHouse$Frame" "wide" "[S" ∈ lw_all := lw_in (lkc844 _ (List.mem_of_getElem? (i := 21) rfl)) rfl
theorem lk866 : Cond.fieldLink "VoiceHouse" 239 "VoiceHouse$Frame" "wide" "[S" ∈ lw_all := lw_in (lkc844 _ (List.mem_of_getElem? (i := 22) rfl)) rfl
theorem lk874 : Cond.methodLink "VoiceHouse" 177 yX5_insert ∈ lw_all := lw_in (lkc869 _ (List.mem_of_getElem? (i := 5) rfl)) rfl
theorem lk875 : Cond.instanceMethod yX5_insert ∈ lw_all := lw_in (lkc869 _ (List.mem_of_getElem? (i := 6) rfl)) rfl
theorem lk876 : Cond.selects "VoiceHouse$Line" yX5_insert yX5_insert ∈ lw_all := lw_in (lkc869 _ (List.mem_of_getElem? (i := 7) rfl)) rfl
theorem lk877 : Cond.code yX5_insert cX5_insert 4 (none) ∈ lw_all := lw_in (lkc869 _ (List.mem_of_getElem? (i := 8) rfl)) rfl
theorem lk878 : Cond.methodLink "VoiceHouse$Line" 21 yX5_isFull ∈ lw_all := lw_in (lkc869 _ (List.mem_of_getElem? (i := 9) rfl)) rfl
theorem lk879 : Cond.methodLink "VoiceHouseLaw" 58 yX11_pick ∈ lw_all := lw_in (lkc869 _ (List.mem_of_getElem? (i := 10) rfl)) rfl
theorem lk880 : Cond.instanceMethod yX11_pick ∈ lw_all := lw_in (lkc869 _ (List.mem_of_getElem? (i := 11) rfl)) rfl
theorem lk881 : Cond.selects "VoiceHouse" yX11_pick yX11_pick ∈ lw_all := lw_in (lkc869 _ (List.mem_of_getElem? (i := 12) rfl)) rfl
theorem lk882 : Cond.code yX11_pick cX11_pick 4 (some (FieldType.int)) ∈ lw_all := lw_in (lkc869 _ (List.mem_of_getElem? (i := 13) rfl)) rfl
theorem lk883 : Cond.methodLink "VoiceHouse" 181 yX11_isPart ∈ lw_all := lw_in (lkc869 _ (List.mem_of_getElem? (i := 14) rfl)) rfl
theorem lk884 : Cond.static yX11_isPart ∈ lw_all := lw_in (lkc869 _ (List.mem_of_getElem? (i := 15) rfl)) rfl
theorem lk885 : Cond.code yX11_isPart cX11_isPart 1 (some (FieldType.boolean)) ∈ lw_all := lw_in (lkc869 _ (List.mem_of_getElem? (i := 16) rfl)) rfl
theorem lk886 : Cond.methodLink "VoiceHouse" 184 yX11_pickRefusal ∈ lw_all := lw_in (lkc869 _ (List.mem_of_getElem? (i := 17) rfl)) rfl
theorem lk888 : Cond.instanceMethod yX11_pickRefusal ∈ lw_all := lw_in (lkc869 _ (List.mem_of_getElem? (i := 19) rfl)) rfl
theorem lk889 : Cond.code yX11_pickRefusal cX11_pickRefusal 4 (some (FieldType.int)) ∈ lw_all := lw_in (lkc869 _ (List.mem_of_getElem? (i := 20) rfl)) rfl
theorem lk890 : Cond.methodLink "VoiceHouse" 192 yX7_choice ∈ lw_all := lw_in (lkc869 _ (List.mem_of_getElem? (i := 21) rfl)) rfl
theorem lk891 : Cond.instanceMethod yX7_choice ∈ lw_all := lw_in (lkc869 _ (List.mem_of_getElem? (i := 22) rfl)) rfl
theorem lk892 : Cond.selects "VoiceHouse$Part" yX7_choice yX7_choice ∈ lw_all := lw_in (lkc869 _ (List.mem_of_getElem? (i := 23) rfl)) rfl
theorem lk893 : Cond.code yX7_choice cX7_choice 2 (some (FieldType.int)) ∈ lw_all := lw_in (lkc869 _ (List.mem_of_getElem? (i := 24) rfl)) rfl
theorem lk894 : Cond.methodLink "VoiceHouseLaw" 62 yX11_index ∈ lw_all := lw_in (lkc894 _ (List.mem_of_getElem? (i := 0) rfl)) rfl
theorem lk895 : Cond.instanceMethod yX11_index ∈ lw_all := lw_in (lkc894 _ (List.mem_of_getElem? (i := 1) rfl)) rfl
theorem lk896 : Cond.selects "VoiceHouse" yX11_index yX11_index ∈ lw_all := lw_in (lkc894 _ (List.mem_of_getElem? (i := 2) rfl)) rfl
theorem lk897 : Cond.code yX11_index cX11_index 3 (some (FieldType.int)) ∈ lw_all := lw_in (lkc894 _ (List.mem_of_getElem? (i := 3) rfl)) rfl
theorem lk898 : Cond.constant "VoiceHouse" 197 (-2147483648) ∈ lw_all := lw_in (lkc894 _ (List.mem_of_getElem? (i := 4) rfl)) rfl
theorem lk899 : Cond.methodLink "VoiceHouseLaw" 66 yX11_cost ∈ lw_all := lw_in (lkc894 _ (List.mem_of_getElem? (i := 5) rfl)) rfl
theorem lk900 : Cond.instanceMethod yX11_cost ∈ lw_all := lw_in (lkc894 _ (List.mem_of_getElem? (i := 6) rfl)) rfl
theorem lk901 : Cond.selects "VoiceHouse" yX11_cost yX11_cost ∈ lw_all := lw_in (lkc894 _ (List.mem_of_getElem? (i := 7) rfl)) rfl
theorem lk902 : Cond.code yX11_cost cX11_cost 6 (some (FieldType.long)) ∈ lw_all := lw_in (lkc894 _ (List.mem_of_getElem? (i := 8) rfl)) rfl
theorem lk903 : Cond.constantLong "VoiceHouse" 207 (-9223372036854775808) ∈ lw_all := lw_in (lkc894 _ (List.mem_of_getElem? (i := 9) rfl)) rfl
theorem lk904 : Cond.methodLink "VoiceHouse" 209 yX2_wholeCost ∈ lw_all := lw_in (lkc894 _ (List.mem_of_getElem? (i := 10) rfl)) rfl
theorem lk905 : Cond.instanceMethod yX2_wholeCost ∈ lw_all := lw_in (lkc894 _ (List.mem_of_getElem? (i := 11) rfl)) rfl
theorem lk906 : Cond.selects "VoiceHouse$Encoder" yX2_wholeCost yX2_wholeCost ∈ lw_all := lw_in (lkc894 _ (List.mem_of_getElem? (i := 12) rfl)) rfl
theorem lk907 : Cond.code yX2_wholeCost cX2_wholeCost 5 (some (FieldType.long)) ∈ lw_all := lw_in (lkc894 _ (List.mem_of_getElem? (i := 13) rfl)) rfl
theorem lk908 : Cond.methodLinkNest "VoiceHouse$Encoder" 237 yX11_partOf "VoiceHouse" ∈ lw_nst := lw_inN (lkc894 _ (List.mem_of_getElem? (i := 14) rfl)) rfl
theorem lk909 : Cond.static yX11_partOf ∈ lw_all := lw_in (lkc894 _ (List.mem_of_getElem? (i := 15) rfl)) rfl
theorem lk910 : Cond.code yX11_partOf cX11_partOf 1 (some (FieldType.int)) ∈ lw_all := lw_in (lkc894 _ (List.mem_of_getElem? (i := 16) rfl)) rfl
theorem lk911 : Cond.methodLink "VoiceHouse$Encoder" 244 yX7_costOf ∈ lw_all := lw_in (lkc894 _ (List.mem_of_getElem? (i := 17) rfl)) rfl
theorem lk912 : Cond.instanceMethod yX7_costOf ∈ lw_all := lw_in (lkc894 _ (List.mem_of_getElem? (i := 18) rfl)) rfl
theorem lk913 : Cond.selects "VoiceHouse$Part" yX7_costOf yX7_costOf ∈ lw_all := lw_in (lkc894 _ (List.mem_of_getElem? (i := 19) rfl)) rfl
theorem lk914 : Cond.code yX7_costOf cX7_costOf 2 (some (FieldType.long)) ∈ lw_all := lw_in (lkc894 _ (List.mem_of_getElem? (i := 20) rfl)) rfl
theorem lk915 : Cond.methodLink "VoiceHouse" 213 yX7_costOf ∈ lw_all := lw_in (lkc894 _ (List.mem_of_getElem? (i := 21) rfl)) rfl
theorem lk916 : Cond.methodLink "VoiceHouseLaw" 71 yX11_length ∈ lw_all := lw_in (lkc894 _ (List.mem_of_getElem? (i := 22) rfl)) rfl
theorem lk917 : Cond.instanceMethod yX11_length ∈ lw_all := lw_in (lkc894 _ (List.mem_of_getElem? (i := 23) rfl)) rfl
theorem lk918 : Cond.selects "VoiceHouse" yX11_length yX11_length ∈ lw_all := lw_in (lkc894 _ (List.mem_of_getElem? (i := 24) rfl)) rfl
theorem lk919 : Cond.code yX11_length cX11_length 4 (some (FieldType.int)) ∈ lw_all := lw_in (lkc919 _ (List.mem_of_getElem? (i := 0) rfl)) rfl
theorem lk920 : Cond.methodLink "VoiceHouse" 217 yX11_frameAt ∈ lw_all := lw_in (lkc919 _ (List.mem_of_getElem? (i := 1) rfl)) rfl
theorem lk922 : Cond.instanceMethod yX11_frameAt ∈ lw_all := lw_in (lkc919 _ (List.mem_of_getElem? (i := 3) rfl)) rfl
theorem lk923 : Cond.code yX11_frameAt cX11_frameAt 4 (some ((FieldType.object "VoiceHouse$Frame"))) ∈ lw_all := lw_in (lkc919 _ (List.mem_of_getElem? (i := 4) rfl)) rfl
theorem lk924 : Cond.methodLink "VoiceHouse" 221 yX4_hasRow ∈ lw_all := lw_in (lkc919 _ (List.mem_of_getElem? (i := 5) rfl)) rfl
theorem lk925 : Cond.instanceMethod yX4_hasRow ∈ lw_all := lw_in (lkc919 _ (List.mem_of_getElem? (i := 6) rfl)) rfl
theorem lk926 : Cond.selects "VoiceHouse$Frame" yX4_hasRow yX4_hasRow ∈ lw_all := lw_in (lkc919 _ (List.mem_of_getElem? (i := 7) rfl)) rfl
theorem lk927 : Cond.code yX4_hasRow cX4_hasRow 1 (some (FieldType.boolean)) ∈ lw_all := lw_in (lkc919 _ (List.mem_of_getElem? (i := 8) rfl)) rfl
theorem lk928 : Cond.methodLink "VoiceHouse" 224 yX4_size ∈ lw_all := lw_in (lkc919 _ (List.mem_of_getElem? (i := 9) rfl)) rfl
theorem lk929 : Cond.instanceMethod yX4_size ∈ lw_all := lw_in (lkc919 _ (List.mem_of_getElem? (i := 10) rfl)) rfl
theorem lk930 : Cond.selects "VoiceHouse$Frame" yX4_size yX4_size ∈ lw_all := lw_in (lkc919 _ (List.mem_of_getElem? (i := 11) rfl)) rfl
theorem lk931 : Cond.code yX4_size cX4_size 1 (some (FieldType.int)) ∈ lw_all := lw_in (lkc919 _ (List.mem_of_getElem? (i := 12) rfl)) rfl
theorem lk932 : Cond.methodLink "VoiceHouseLaw" 75 yX11_byteOf ∈ lw_all := lw_in (lkc919 _ (List.mem_of_getElem? (i := 13) rfl)) rfl
theorem lk933 : Cond.instanceMethod yX11_byteOf ∈ lw_all := lw_in (lkc919 _ (List.mem_of_getElem? (i := 14) rfl)) rfl
theorem lk934 : Cond.selects "VoiceHouse" yX11_byteOf yX11_byteOf ∈ lw_all := lw_in (lkc919 _ (List.mem_of_getElem? (i := 15) rfl)) rfl
theorem lk935 : Cond.code yX11_byteOf cX11_byteOf 5 (some (FieldType.int)) ∈ lw_all := lw_in (lkc919 _ (List.mem_of_getElem? (i := 16) rfl)) rfl
theorem lk936 : Cond.methodLink "VoiceHouse" 227 yX4_has ∈ lw_all := lw_in (lkc919 _ (List.mem_of_getElem? (i := 17) rfl)) rfl
theorem lk937 : Cond.instanceMethod yX4_has ∈ lw_all := lw_in (lkc919 _ (List.mem_of_getElem? (i := 18) rfl)) rfl
theorem lk938 : Cond.selects "VoiceHouse$Frame" yX4_has yX4_has ∈ lw_all := lw_in (lkc919 _ (List.mem_of_getElem? (i := 19) rfl)) rfl
theorem lk939 : Cond.code yX4_has cX4_has 2 (some (FieldType.boolean)) ∈ lw_all := lw_in (lkc919 _ (List.mem_of_getElem? (i := 20) rfl)) rfl
theorem lk940 : Cond.methodLink "VoiceHouse$Frame" 23 yX4_size ∈ lw_all := lw_in (lkc919 _ (List.mem_of_getElem? (i := 21) rfl)) rfl
theorem lk941 : Cond.methodLink "VoiceHouse" 230 yX4_read ∈ lw_all := lw_in (lkc919 _ (List.mem_of_getElem? (i := 22) rfl)) rfl
theorem lk942 : Cond.instanceMethod yX4_read ∈ lw_all := lw_in (lkc919 _ (List.mem_of_getElem? (i := 23) rfl)) rfl
theorem lk943 : Cond.selects "VoiceHouse$Frame" yX4_read yX4_read ∈ lw_all := lw_in (lkc919 _ (List.mem_of_getElem? (i := 24) rfl)) rfl
theorem lk944 : Cond.code yX4_read cX4_read 2 (some (FieldType.int)) ∈ lw_all := lw_in (lkc944 _ (List.mem_of_getElem? (i := 0) rfl)) rfl
theorem lk945 : Cond.methodLink "VoiceHouse$Frame" 27 yX4_has ∈ lw_all := lw_in (lkc944 _ (List.mem_of_getElem? (i := 1) rfl)) rfl
theorem lk946 : Cond.methodLink "VoiceHouseLaw" 79 yX11_label ∈ lw_all := lw_in (lkc944 _ (List.mem_of_getElem? (i := 2) rfl)) rfl
theorem lk947 : Cond.instanceMethod yX11_label ∈ lw_all := lw_in (lkc944 _ (List.mem_of_getElem? (i := 3) rfl)) rfl
theorem lk948 : Cond.selects "VoiceHouse" yX11_label yX11_label ∈ lw_all := lw_in (lkc944 _ (List.mem_of_getElem? (i := 4) rfl)) rfl
theorem lk949 : Cond.code yX11_label cX11_label 4 (some (FieldType.int)) ∈ lw_all := lw_in (lkc944 _ (List.mem_of_getElem? (i := 5) rfl)) rfl
theorem lk950 : Cond.methodLink "VoiceHouseLaw" 83 yX11_lose ∈ lw_all := lw_in (lkc944 _ (List.mem_of_getElem? (i := 6) rfl)) rfl
theorem lk951 : Cond.instanceMethod yX11_lose ∈ lw_all := lw_in (lkc944 _ (List.mem_of_getElem? (i := 7) rfl)) rfl
theorem lk952 : Cond.selects "VoiceHouse" yX11_lose yX11_lose ∈ lw_all := lw_in (lkc944 _ (List.mem_of_getElem? (i := 8) rfl)) rfl
theorem lk953 : Cond.code yX11_lose cX11_lose 4 (some (FieldType.int)) ∈ lw_all := lw_in (lkc944 _ (List.mem_of_getElem? (i := 9) rfl)) rfl
theorem lk954 : Cond.methodLink "VoiceHouseLaw" 87 yX11_cut ∈ lw_all := lw_in (lkc944 _ (List.mem_of_getElem? (i := 10) rfl)) rfl
theorem lk955 : Cond.instanceMethod yX11_cut ∈ lw_all := lw_in (lkc944 _ (List.mem_of_getElem? (i := 11) rfl)) rfl
theorem lk956 : Cond.selects "VoiceHouse" yX11_cut yX11_cut ∈ lw_all := lw_in (lkc944 _ (List.mem_of_getElem? (i := 12) rfl)) rfl
theorem lk957 : Cond.code yX11_cut cX11_cut 6 (some (FieldType.int)) ∈ lw_all := lw_in (lkc944 _ (List.mem_of_getElem? (i := 13) rfl)) rfl
theorem lk958 : Cond.methodLink "VoiceHouse" 243 yX4_shorten ∈ lw_all := lw_in (lkc944 _ (List.mem_of_getElem? (i := 14) rfl)) rfl
theorem lk959 : Cond.instanceMethod yX4_shorten ∈ lw_all := lw_in (lkc944 _ (List.mem_of_getElem? (i := 15) rfl)) rfl
theorem lk960 : Cond.selects "VoiceHouse$Frame" yX4_shorten yX4_shorten ∈ lw_all := lw_in (lkc944 _ (List.mem_of_getElem? (i := 16) rfl)) rfl
theorem lk961 : Cond.code yX4_shorten cX4_shorten 2 (none) ∈ lw_all := lw_in (lkc944 _ (List.mem_of_getElem? (i := 17) rfl)) rfl
theorem lk962 : Cond.methodLink "VoiceHouse$Frame" 31 yJ7_copyOf_9075b ∈ lw_all := lw_in (lkc944 _ (List.mem_of_getElem? (i := 18) rfl)) rfl
theorem lk963 : Cond.static yJ7_copyOf_9075b ∈ lw_all := lw_in (lkc944 _ (List.mem_of_getElem? (i := 19) rfl)) rfl
theorem lk964 : Cond.code yJ7_copyOf_9075b cJ7_copyOf_9075b 3 (some ((FieldType.array FieldType.byte))) ∈ lw_all := lw_in (lkc944 _ (List.mem_of_getElem? (i := 20) rfl)) rfl
theorem lk965 : Cond.methodLink "java/util/Arrays" 310 (⟨"[B", "clone", "()Ljava/lang/Object;"⟩ : MethodName) ∈ lw_all := lw_in (lkc944 _ (List.mem_of_getElem? (i := 21) rfl)) rfl
theorem lk966 : Cond.sameMethod "[B" "java/lang/Object" "clone" "()Ljava/lang/Object;" ∈ lw_all := lw_in (lkc944 _ (List.mem_of_getElem? (i := 22) rfl)) rfl
theorem lk967 : Cond.native (⟨"java/lang/Object", "clone", "()Ljava/lang/Object;"⟩ : MethodName) ∈ lw_all := lw_in (lkc944 _ (List.mem_of_getElem? (i := 23) rfl)) rfl
theorem lk968 : Cond.instanceMethod (⟨"java/lang/Object", "clone", "()Ljava/lang/Object;"⟩ : MethodName) ∈ lw_all := lw_in (lkc944 _ (List.mem_of_getElem? (i := 24) rfl)) rfl
theorem lk969 : Cond.selects "[B" (⟨"[B", "clone", "()Ljava/lang/Object;"⟩ : MethodName) (⟨"java/lang/Object", "clone", "()Ljava/lang/Object;"⟩ : MethodName) ∈ lw_all := lw_in (lkc969 _ (List.mem_of_getElem? (i := 0) rfl)) rfl
theorem lk970 : Cond.castable "[B" "java/lang/Cloneable" ∈ lw_nst := lw_inN (lkc969 _ (List.mem_of_getElem? (i := 1) rfl)) rfl
theorem lk971 : Cond.classLink "java/util/Arrays" 311 "[B" ∈ lw_all := lw_in (lkc969 _ (List.mem_of_getElem? (i := 2) rfl)) rfl
theorem lk972 : Cond.methodLink "java/util/Arrays" 304 yJ9_min_7cf53 ∈ lw_all := lw_in (lkc969 _ (List.mem_of_getElem? (i := 3) rfl)) rfl
theorem lk973 : Cond.methodLink "java/util/Arrays" 150 (⟨"java/lang/System", "arraycopy", "(Ljava/lang/Object;ILjava/lang/Object;II)V"⟩ : MethodName) ∈ lw_all := lw_in (lkc969 _ (List.mem_of_getElem? (i := 4) rfl)) rfl
theorem lk974 : Cond.methodLink "VoiceHouse$Frame" 37 yJ7_copyOf_974b1 ∈ lw_all := lw_in (lkc969 _ (List.mem_of_getElem? (i := 5) rfl)) rfl
theorem lk975 : Cond.static yJ7_copyOf_974b1 ∈ lw_all := lw_in (lkc969 _ (List.mem_of_getElem? (i := 6) rfl)) rfl
theorem lk976 : Cond.code yJ7_copyOf_974b1 cJ7_copyOf_974b1 3 (some ((FieldType.array FieldType.short))) ∈ lw_all := lw_in (lkc969 _ (List.mem_of_getElem? (i := 7) rfl)) rfl
theorem lk977 : Cond.methodLink "java/util/Arrays" 313 (⟨"[S", "clone", "()Ljava/lang/Object;"⟩ : MethodName) ∈ lw_all := lw_in (lkc969 _ (List.mem_of_getElem? (i := 8) rfl)) rfl
theorem lk978 : Cond.sameMethod "[S" "java/lang/Object" "clone" "()Ljava/lang/Object;" ∈ lw_all := lw_in (lkc969 _ (List.mem_of_getElem? (i := 9) rfl)) rfl
theorem lk979 : Cond.selects "[S" (⟨"[S", "clone", "()Ljava/lang/Object;"⟩ : MethodName) (⟨"java/lang/Object", "clone", "()Ljava/lang/Object;"⟩ : MethodName) ∈ lw_all := lw_in (lkc969 _ (List.mem_of_getElem? (i := 10) rfl)) rfl
theorem lk980 : Cond.castable "[S" "java/lang/Cloneable" ∈ lw_nst := lw_inN (lkc969 _ (List.mem_of_getElem? (i := 11) rfl)) rfl
theorem lk981 : Cond.classLink "java/util/Arrays" 314 "[S" ∈ lw_all := lw_in (lkc969 _ (List.mem_of_getElem? (i := 12) rfl)) rfl
theorem lk982 : Cond.arrayClass FieldType.short ∈ lw_all := lw_in (lkc969 _ (List.mem_of_getElem? (i := 13) rfl)) rfl
theorem lk983 : Cond.methodLink "VoiceHouseLaw" 91 yX11_damage ∈ lw_all := lw_in (lkc969 _ (List.mem_of_getElem? (i := 14) rfl)) rfl
theorem lk984 : Cond.instanceMethod yX11_damage ∈ lw_all := lw_in (lkc969 _ (List.mem_of_getElem? (i := 15) rfl)) rfl
theorem lk985 : Cond.selects "VoiceHouse" yX11_damage yX11_damage ∈ lw_all := lw_in (lkc969 _ (List.mem_of_getElem? (i := 16) rfl)) rfl
theorem lk986 : Cond.code yX11_damage cX11_damage 6 (some (FieldType.int)) ∈ lw_all := lw_in (lkc969 _ (List.mem_of_getElem? (i := 17) rfl)) rfl
theorem lk987 : Cond.methodLink "VoiceHouse" 246 yX4_flip ∈ lw_all := lw_in (lkc969 _ (List.mem_of_getElem? (i := 18) rfl)) rfl
theorem lk988 : Cond.instanceMethod yX4_flip ∈ lw_all := lw_in (lkc969 _ (List.mem_of_getElem? (i := 19) rfl)) rfl
theorem lk989 : Cond.selects "VoiceHouse$Frame" yX4_flip yX4_flip ∈ lw_all := lw_in (lkc969 _ (List.mem_of_getElem? (i := 20) rfl)) rfl
theorem lk990 : Cond.code yX4_flip cX4_flip 3 (none) ∈ lw_all := lw_in (lkc969 _ (List.mem_of_getElem? (i := 21) rfl)) rfl
theorem lk991 : Cond.methodLink "VoiceHouseLaw" 96 yX11_resum ∈ lw_all := lw_in (lkc969 _ (List.mem_of_getElem? (i := 22) rfl)) rfl
theorem lk992 : Cond.instanceMethod yX11_resum ∈ lw_all := lw_in (lkc969 _ (List.mem_of_getElem? (i := 23) rfl)) rfl
theorem lk993 : Cond.selects "VoiceHouse" yX11_resum yX11_resum ∈ lw_all := lw_in (lkc969 _ (List.mem_of_getElem? (i := 24) rfl)) rfl
theorem lk994 : Cond.code yX11_resum cX11_resum 5 (some (FieldType.int)) ∈ lw_all := lw_in (lkc994 _ (List.mem_of_getElem? (i := 0) rfl)) rfl
theorem lk995 : Cond.methodLink "VoiceHouse" 250 yX11_sumOf ∈ lw_all := lw_in (lkc994 _ (List.mem_of_getElem? (i := 1) rfl)) rfl
theorem lk996 : Cond.methodLink "VoiceHouseLaw" 100 yX11_shorts ∈ lw_all := lw_in (lkc994 _ (List.mem_of_getElem? (i := 2) rfl)) rfl
theorem lk997 : Cond.instanceMethod yX11_shorts ∈ lw_all := lw_in (lkc994 _ (List.mem_of_getElem? (i := 3) rfl)) rfl
theorem lk998 : Cond.selects "VoiceHouse" yX11_shorts yX11_shorts ∈ lw_all := lw_in (lkc994 _ (List.mem_of_getElem? (i := 4) rfl)) rfl
theorem lk999 : Cond.code yX11_shorts cX11_shorts 4 (some (FieldType.int)) ∈ lw_all := lw_in (lkc994 _ (List.mem_of_getElem? (i := 5) rfl)) rfl
theorem lk1000 : Cond.methodLink "VoiceHouse" 254 yX4_widen ∈ lw_all := lw_in (lkc994 _ (List.mem_of_getElem? (i := 6) rfl)) rfl
theorem lk1001 : Cond.instanceMethod yX4_widen ∈ lw_all := lw_in (lkc994 _ (List.mem_of_getElem? (i := 7) rfl)) rfl
theorem lk1002 : Cond.selects "VoiceHouse$Frame" yX4_widen yX4_widen ∈ lw_all := lw_in (lkc994 _ (List.mem_of_getElem? (i := 8) rfl)) rfl
theorem lk1003 : Cond.code yX4_widen cX4_widen 2 (none) ∈ lw_all := lw_in (lkc994 _ (List.mem_of_getElem? (i := 9) rfl)) rfl
theorem lk1004 : Cond.methodLink "VoiceHouseLaw" 104 yX11_order ∈ lw_all := lw_in (lkc994 _ (List.mem_of_getElem? (i := 10) rfl)) rfl
theorem lk1005 : Cond.instanceMethod yX11_order ∈ lw_all := lw_in (lkc994 _ (List.mem_of_getElem? (i := 11) rfl)) rfl
theorem lk1006 : Cond.selects "VoiceHouse" yX11_order yX11_order ∈ lw_all := lw_in (lkc994 _ (List.mem_of_getElem? (i := 12) rfl)) rfl
theorem lk1007 : Cond.code yX11_order cX11_order 6 (some (FieldType.int)) ∈ lw_all := lw_in (lkc994 _ (List.mem_of_getElem? (i := 13) rfl)) rfl
theorem lk1008 : Cond.methodLink "VoiceHouse" 261 yX5_remove ∈ lw_all := lw_in (lkc994 _ (List.mem_of_getElem? (i := 14) rfl)) rfl
theorem lk1009 : Cond.instanceMethod yX5_remove ∈ lw_all := lw_in (lkc994 _ (List.mem_of_getElem? (i := 15) rfl)) rfl
theorem lk1010 : Cond.selects "VoiceHouse$Line" yX5_remove yX5_remove ∈ lw_all := lw_in (lkc994 _ (List.mem_of_getElem? (i := 16) rfl)) rfl
theorem lk1011 : Cond.code yX5_remove cX5_remove 3 (none) ∈ lw_all := lw_in (lkc994 _ (List.mem_of_getElem? (i := 17) rfl)) rfl
theorem lk1012 : Cond.methodLink "VoiceHouseLaw" 108 yX11_drop ∈ lw_all := lw_in (lkc994 _ (List.mem_of_getElem? (i := 18) rfl)) rfl
theorem lk1013 : Cond.instanceMethod yX11_drop ∈ lw_all := lw_in (lkc994 _ (List.mem_of_getElem? (i := 19) rfl)) rfl
theorem lk1014 : Cond.selects "VoiceHouse" yX11_drop yX11_drop ∈ lw_all := lw_in (lkc994 _ (List.mem_of_getElem? (i := 20) rfl)) rfl
theorem lk1015 : Cond.code yX11_drop cX11_drop 4 (some (FieldType.int)) ∈ lw_all := lw_in (lkc994 _ (List.mem_of_getElem? (i := 21) rfl)) rfl
theorem lk1016 : Cond.methodLink "VoiceHouseLaw" 112 yX11_again ∈ lw_all := lw_in (lkc994 _ (List.mem_of_getElem? (i := 22) rfl)) rfl
theorem lk1017 : Cond.instanceMethod yX11_again ∈ lw_all := lw_in (lkc994 _ (List.mem_of_getElem? (i := 23) rfl)) rfl
theorem lk1018 : Cond.selects "VoiceHouse" yX11_again yX11_again ∈ lw_all := lw_in (lkc994 _ (List.mem_of_getElem? (i := 24) rfl)) rfl
theorem lk1019 : Cond.code yX11_again cX11_again 5 (some (FieldType.int)) ∈ lw_all := lw_in (lkc1019 _ (List.mem_of_getElem? (i := 0) rfl)) rfl
theorem lk1020 : Cond.methodLink "VoiceHouseLaw" 118 yX11_type ∈ lw_all := lw_in (lkc1019 _ (List.mem_of_getElem? (i := 1) rfl)) rfl
theorem lk1021 : Cond.instanceMethod yX11_type ∈ lw_all := lw_in (lkc1019 _ (List.mem_of_getElem? (i := 2) rfl)) rfl
theorem lk1022 : Cond.selects "VoiceHouse" yX11_type yX11_type ∈ lw_all := lw_in (lkc1019 _ (List.mem_of_getElem? (i := 3) rfl)) rfl
theorem lk1023 : Cond.code yX11_type cX11_type 5 (some (FieldType.int)) ∈ lw_all := lw_in (lkc1019 _ (List.mem_of_getElem? (i := 4) rfl)) rfl
theorem lk1024 : Cond.methodLink "VoiceHouseLaw" 123 yX11_feed ∈ lw_all := lw_in (lkc1019 _ (List.mem_of_getElem? (i := 5) rfl)) rfl
theorem lk1025 : Cond.instanceMethod yX11_feed ∈ lw_all := lw_in (lkc1019 _ (List.mem_of_getElem? (i := 6) rfl)) rfl
theorem lk1026 : Cond.selects "VoiceHouse" yX11_feed yX11_feed ∈ lw_all := lw_in (lkc1019 _ (List.mem_of_getElem? (i := 7) rfl)) rfl
theorem lk1027 : Cond.code yX11_feed cX11_feed 5 (some (FieldType.int)) ∈ lw_all := lw_in (lkc1019 _ (List.mem_of_getElem? (i := 8) rfl)) rfl
theorem lk1028 : Cond.methodLink "VoiceHouse" 267 yJ7_copyOf_9075b ∈ lw_all := lw_in (lkc1019 _ (List.mem_of_getElem? (i := 9) rfl)) rfl
theorem lk1029 : Cond.methodLink "VoiceHouseLaw" 127 yX11_decode ∈ lw_all := lw_in (lkc1019 _ (List.mem_of_getElem? (i := 10) rfl)) rfl
theorem lk1030 : Cond.instanceMethod yX11_decode ∈ lw_all := lw_in (lkc1019 _ (List.mem_of_getElem? (i := 11) rfl)) rfl
theorem lk1031 : Cond.selects "VoiceHouse" yX11_decode yX11_decode ∈ lw_all := lw_in (lkc1019 _ (List.mem_of_getElem? (i := 12) rfl)) rfl
theorem lk1032 : Cond.code yX11_decode cX11_decode 3 (some (FieldType.int)) ∈ lw_all := lw_in (lkc1019 _ (List.mem_of_getElem? (i := 13) rfl)) rfl
theorem lk1033 : Cond.methodLink "VoiceHouse" 273 yX1_decodeNext ∈ lw_all := lw_in (lkc1019 _ (List.mem_of_getElem? (i := 14) rfl)) rfl
theorem lk1034 : Cond.instanceMethod yX1_decodeNext ∈ lw_all := lw_in (lkc1034 _ (List.mem_of_getElem? (i := 0) rfl)) rfl
theorem lk1035 : Cond.selects "VoiceHouse$Decoder" yX1_decodeNext yX1_decodeNext ∈ lw_all := lw_in (lkc1034 _ (List.mem_of_getElem? (i := 1) rfl)) rfl
theorem lk1036 : Cond.code yX1_decodeNext cX1_decodeNext 5 (none) ∈ lw_all := lw_in (lkc1034 _ (List.mem_of_getElem? (i := 2) rfl)) rfl
theorem lk1037 : Cond.methodLink "VoiceHouse$Decoder" 66 yX5_removeLate ∈ lw_all := lw_in (lkc1034 _ (List.mem_of_getElem? (i := 3) rfl)) rfl
theorem lk1038 : Cond.instanceMethod yX5_removeLate ∈ lw_all := lw_in (lkc1034 _ (List.mem_of_getElem? (i := 4) rfl)) rfl
theorem lk1039 : Cond.selects "VoiceHouse$Line" yX5_removeLate yX5_removeLate ∈ lw_all := lw_in (lkc1034 _ (List.mem_of_getElem? (i := 5) rfl)) rfl
theorem lk1040 : Cond.code yX5_removeLate cX5_removeLate 4 (some (FieldType.int)) ∈ lw_all := lw_in (lkc1034 _ (List.mem_of_getElem? (i := 6) rfl)) rfl
theorem lk1041 : Cond.constant "VoiceHouse$Line" 36 (65535) ∈ lw_all := lw_in (lkc1034 _ (List.mem_of_getElem? (i := 7) rfl)) rfl
theorem lk1042 : Cond.constant "VoiceHouse$Line" 37 (32768) ∈ lw_all := lw_in (lkc1034 _ (List.mem_of_getElem? (i := 8) rfl)) rfl
theorem lk1043 : Cond.methodLink "VoiceHouse$Line" 32 yX5_remove ∈ lw_all := lw_in (lkc1034 _ (List.mem_of_getElem? (i := 9) rfl)) rfl
theorem lk1044 : Cond.methodLink "VoiceHouse$Decoder" 72 yX5_takeFirst ∈ lw_all := lw_in (lkc1034 _ (List.mem_of_getElem? (i := 10) rfl)) rfl
theorem lk1045 : Cond.instanceMethod yX5_takeFirst ∈ lw_all := lw_in (lkc1034 _ (List.mem_of_getElem? (i := 11) rfl)) rfl
theorem lk1046 : Cond.selects "VoiceHouse$Line" yX5_takeFirst yX5_takeFirst ∈ lw_all := lw_in (lkc1034 _ (List.mem_of_getElem? (i := 12) rfl)) rfl
theorem lk1047 : Cond.code yX5_takeFirst cX5_takeFirst 4 (some ((FieldType.object "VoiceHouse$Frame"))) ∈ lw_all := lw_in (lkc1034 _ (List.mem_of_getElem? (i := 13) rfl)) rfl
theorem lk1048 : Cond.methodLink "VoiceHouse$Line" 28 yX5_placeOf ∈ lw_all := lw_in (lkc1034 _ (List.mem_of_getElem? (i := 14) rfl)) rfl
theorem lk1049 : Cond.instanceMethod yX5_placeOf ∈ lw_all := lw_in (lkc1034 _ (List.mem_of_getElem? (i := 15) rfl)) rfl
theorem lk1050 : Cond.selects "VoiceHouse$Line" yX5_placeOf yX5_placeOf ∈ lw_all := lw_in (lkc1034 _ (List.mem_of_getElem? (i := 16) rfl)) rfl
theorem lk1051 : Cond.code yX5_placeOf cX5_placeOf 3 (some (FieldType.int)) ∈ lw_all := lw_in (lkc1034 _ (List.mem_of_getElem? (i := 17) rfl)) rfl
theorem lk1052 : Cond.methodLink "VoiceHouse$Decoder" 76 yX1_missed ∈ lw_all := lw_in (lkc1034 _ (List.mem_of_getElem? (i := 18) rfl)) rfl
theorem lk1054 : Cond.instanceMethod yX1_missed ∈ lw_all := lw_in (lkc1034 _ (List.mem_of_getElem? (i := 20) rfl)) rfl
theorem lk1055 : Cond.code yX1_missed cX1_missed 1 (some (FieldType.int)) ∈ lw_all := lw_in (lkc1034 _ (List.mem_of_getElem? (i := 21) rfl)) rfl
theorem lk1056 : Cond.methodLink "VoiceHouse$Decoder" 80 yX1_openedWith ∈ lw_all := lw_in (lkc1034 _ (List.mem_of_getElem? (i := 22) rfl)) rfl
theorem lk1058 : Cond.instanceMethod yX1_openedWith ∈ lw_all := lw_in (lkc1034 _ (List.mem_of_getElem? (i := 24) rfl)) rfl
theorem lk1059 : Cond.code yX1_openedWith cX1_openedWith 3 (some (FieldType.int)) ∈ lw_all := lw_in (lkc1059 _ (List.mem_of_getElem? (i := 0) rfl)) rfl
theorem lk1060 : Cond.methodLink "VoiceHouse$Decoder" 94 yX10_mark ∈ lw_all := lw_in (lkc1059 _ (List.mem_of_getElem? (i := 1) rfl)) rfl
theorem lk1061 : Cond.methodLink "VoiceHouse$Decoder" 127 yX4_openingFinding ∈ lw_all := lw_in (lkc1059 _ (List.mem_of_getElem? (i := 2) rfl)) rfl
theorem lk1062 : Cond.instanceMethod yX4_openingFinding ∈ lw_all := lw_in (lkc1059 _ (List.mem_of_getElem? (i := 3) rfl)) rfl
theorem lk1063 : Cond.selects "VoiceHouse$Frame" yX4_openingFinding yX4_openingFinding ∈ lw_all := lw_in (lkc1059 _ (List.mem_of_getElem? (i := 4) rfl)) rfl
theorem lk1064 : Cond.code yX4_openingFinding cX4_openingFinding 2 (some (FieldType.int)) ∈ lw_all := lw_in (lkc1059 _ (List.mem_of_getElem? (i := 5) rfl)) rfl
theorem lk1065 : Cond.methodLinkNest "VoiceHouse$Frame" 40 yX11_sumOf "VoiceHouse" ∈ lw_nst := lw_inN (lkc1059 _ (List.mem_of_getElem? (i := 6) rfl)) rfl
theorem lk1066 : Cond.methodLink "VoiceHouse$Frame" 44 yX4_isVoice ∈ lw_all := lw_in (lkc1059 _ (List.mem_of_getElem? (i := 7) rfl)) rfl
theorem lk1067 : Cond.instanceMethod yX4_isVoice ∈ lw_all := lw_in (lkc1059 _ (List.mem_of_getElem? (i := 8) rfl)) rfl
theorem lk1068 : Cond.selects "VoiceHouse$Frame" yX4_isVoice yX4_isVoice ∈ lw_all := lw_in (lkc1059 _ (List.mem_of_getElem? (i := 9) rfl)) rfl
theorem lk1069 : Cond.code yX4_isVoice cX4_isVoice 1 (some (FieldType.boolean)) ∈ lw_all := lw_in (lkc1059 _ (List.mem_of_getElem? (i := 10) rfl)) rfl
theorem lk1070 : Cond.methodLink "VoiceHouse$Frame" 48 yX4_at ∈ lw_all := lw_in (lkc1059 _ (List.mem_of_getElem? (i := 11) rfl)) rfl
theorem lk1071 : Cond.instanceMethod yX4_at ∈ lw_all := lw_in (lkc1059 _ (List.mem_of_getElem? (i := 12) rfl)) rfl
theorem lk1072 : Cond.selects "VoiceHouse$Frame" yX4_at yX4_at ∈ lw_all := lw_in (lkc1059 _ (List.mem_of_getElem? (i := 13) rfl)) rfl
theorem lk1073 : Cond.code yX4_at cX4_at 2 (some (FieldType.int)) ∈ lw_all := lw_in (lkc1059 _ (List.mem_of_getElem? (i := 14) rfl)) rfl
theorem lk1074 : Cond.methodLink "VoiceHouse$Decoder" 90 yX1_decodeFrame ∈ lw_all := lw_in (lkc1059 _ (List.mem_of_getElem? (i := 15) rfl)) rfl
theorem lk1076 : Cond.instanceMethod yX1_decodeFrame ∈ lw_all := lw_in (lkc1059 _ (List.mem_of_getElem? (i := 17) rfl)) rfl
theorem lk1077 : Cond.code yX1_decodeFrame cX1_decodeFrame 4 (none) ∈ lw_all := lw_in (lkc1059 _ (List.mem_of_getElem? (i := 18) rfl)) rfl
theorem lk1078 : Cond.methodLink "VoiceHouse$Decoder" 132 yX4_at ∈ lw_all := lw_in (lkc1059 _ (List.mem_of_getElem? (i := 19) rfl)) rfl
theorem lk1079 : Cond.methodLink "VoiceHouse$Decoder" 135 yX4_isVoice ∈ lw_all := lw_in (lkc1059 _ (List.mem_of_getElem? (i := 20) rfl)) rfl
theorem lk1080 : Cond.methodLinkNest "VoiceHouse$Decoder" 142 yX11_partOf "VoiceHouse" ∈ lw_nst := lw_inN (lkc1059 _ (List.mem_of_getElem? (i := 21) rfl)) rfl
theorem lk1081 : Cond.methodLink "VoiceHouse$Decoder" 145 yX6_hush ∈ lw_all := lw_in (lkc1059 _ (List.mem_of_getElem? (i := 22) rfl)) rfl
theorem lk1082 : Cond.methodLink "VoiceHouse$Decoder" 155 yJ9_max_7cf53 ∈ lw_all := lw_in (lkc1059 _ (List.mem_of_getElem? (i := 23) rfl)) rfl
theorem lk1083 : Cond.methodLink "VoiceHouse$Decoder" 161 yX7_readFrom ∈ lw_all := lw_in (lkc1059 _ (List.mem_of_getElem? (i := 24) rfl)) rfl
theorem lk1084 : Cond.instanceMethod yX7_readFrom ∈ lw_all := lw_in (lkc1084 _ (List.mem_of_getElem? (i := 0) rfl)) rfl
theorem lk1085 : Cond.selects "VoiceHouse$Part" yX7_readFrom yX7_readFrom ∈ lw_all := lw_in (lkc1084 _ (List.mem_of_getElem? (i := 1) rfl)) rfl
theorem lk1086 : Cond.code yX7_readFrom cX7_readFrom 4 (none) ∈ lw_all := lw_in (lkc1084 _ (List.mem_of_getElem? (i := 2) rfl)) rfl
theorem lk1087 : Cond.methodLink "VoiceHouse$Part" 54 yX4_at ∈ lw_all := lw_in (lkc1084 _ (List.mem_of_getElem? (i := 3) rfl)) rfl
theorem lk1088 : Cond.methodLinkNest "VoiceHouse$Part" 60 yX11_lagOf "VoiceHouse" ∈ lw_nst := lw_inN (lkc1084 _ (List.mem_of_getElem? (i := 4) rfl)) rfl
theorem lk1089 : Cond.static yX11_lagOf ∈ lw_all := lw_in (lkc1084 _ (List.mem_of_getElem? (i := 5) rfl)) rfl
theorem lk1090 : Cond.code yX11_lagOf cX11_lagOf 1 (some (FieldType.int)) ∈ lw_all := lw_in (lkc1084 _ (List.mem_of_getElem? (i := 6) rfl)) rfl
theorem lk1091 : Cond.methodLink "VoiceHouse$Part" 63 yX7_placeOf ∈ lw_all := lw_in (lkc1084 _ (List.mem_of_getElem? (i := 7) rfl)) rfl
theorem lk1092 : Cond.static yX7_placeOf ∈ lw_all := lw_in (lkc1084 _ (List.mem_of_getElem? (i := 8) rfl)) rfl
theorem lk1093 : Cond.code yX7_placeOf cX7_placeOf 3 (some (FieldType.int)) ∈ lw_all := lw_in (lkc1084 _ (List.mem_of_getElem? (i := 9) rfl)) rfl
theorem lk1094 : Cond.methodLink "VoiceHouse$Part" 67 yJ9_min_7cf53 ∈ lw_all := lw_in (lkc1084 _ (List.mem_of_getElem? (i := 10) rfl)) rfl
theorem lk1095 : Cond.methodLink "VoiceHouse$Decoder" 165 yX6_speak ∈ lw_all := lw_in (lkc1084 _ (List.mem_of_getElem? (i := 11) rfl)) rfl
theorem lk1096 : Cond.fieldLinkNest "VoiceHouse$Decoder" 173 "VoiceHouse" "GAINS" "[I" "VoiceHouse" ∈ lw_nst := lw_inN (lkc1084 _ (List.mem_of_getElem? (i := 12) rfl)) rfl
theorem lk1097 : Cond.constant "VoiceHouse$Decoder" 97 (65536) ∈ lw_all := lw_in (lkc1084 _ (List.mem_of_getElem? (i := 13) rfl)) rfl
theorem lk1098 : Cond.methodLink "VoiceHouse$Decoder" 98 yX5_first ∈ lw_all := lw_in (lkc1084 _ (List.mem_of_getElem? (i := 14) rfl)) rfl
theorem lk1099 : Cond.instanceMethod yX5_first ∈ lw_all := lw_in (lkc1084 _ (List.mem_of_getElem? (i := 15) rfl)) rfl
theorem lk1100 : Cond.selects "VoiceHouse$Line" yX5_first yX5_first ∈ lw_all := lw_in (lkc1084 _ (List.mem_of_getElem? (i := 16) rfl)) rfl
theorem lk1101 : Cond.code yX5_first cX5_first 3 (some ((FieldType.object "VoiceHouse$Frame"))) ∈ lw_all := lw_in (lkc1084 _ (List.mem_of_getElem? (i := 17) rfl)) rfl
theorem lk1102 : Cond.methodLink "VoiceHouse$Decoder" 101 yX1_repairFrom ∈ lw_all := lw_in (lkc1084 _ (List.mem_of_getElem? (i := 18) rfl)) rfl
theorem lk1104 : Cond.instanceMethod yX1_repairFrom ∈ lw_all := lw_in (lkc1084 _ (List.mem_of_getElem? (i := 20) rfl)) rfl
theorem lk1105 : Cond.code yX1_repairFrom cX1_repairFrom 5 (none) ∈ lw_all := lw_in (lkc1084 _ (List.mem_of_getElem? (i := 21) rfl)) rfl
theorem lk1106 : Cond.fieldLinkNest "VoiceHouse$Decoder" 179 "VoiceHouse" "FADING" "[I" "VoiceHouse" ∈ lw_nst := lw_inN (lkc1084 _ (List.mem_of_getElem? (i := 22) rfl)) rfl
theorem lk1108 : Cond.methodLink "VoiceHouse$Decoder" 182 yX4_spareBytes ∈ lw_all := lw_in (lkc1084 _ (List.mem_of_getElem? (i := 24) rfl)) rfl
theorem lk1109 : Cond.instanceMethod yX4_spareBytes ∈ lw_all := lw_in (lkc1109 _ (List.mem_of_getElem? (i := 0) rfl)) rfl
theorem lk1110 : Cond.selects "VoiceHouse$Frame" yX4_spareBytes yX4_spareBytes ∈ lw_all := lw_in (lkc1109 _ (List.mem_of_getElem? (i := 1) rfl)) rfl
theorem lk1111 : Cond.code yX4_spareBytes cX4_spareBytes 1 (some (FieldType.int)) ∈ lw_all := lw_in (lkc1109 _ (List.mem_of_getElem? (i := 2) rfl)) rfl
theorem lk1112 : Cond.methodLink "VoiceHouse$Decoder" 185 yX4_spare ∈ lw_all := lw_in (lkc1109 _ (List.mem_of_getElem? (i := 3) rfl)) rfl
theorem lk1113 : Cond.instanceMethod yX4_spare ∈ lw_all := lw_in (lkc1109 _ (List.mem_of_getElem? (i := 4) rfl)) rfl
theorem lk1114 : Cond.selects "VoiceHouse$Frame" yX4_spare yX4_spare ∈ lw_all := lw_in (lkc1109 _ (List.mem_of_getElem? (i := 5) rfl)) rfl
theorem lk1115 : Cond.code yX4_spare cX4_spare 2 (some (FieldType.int)) ∈ lw_all := lw_in (lkc1109 _ (List.mem_of_getElem? (i := 6) rfl)) rfl
theorem lk1116 : Cond.methodLinkNest "VoiceHouse$Decoder" 188 yX11_lagOf "VoiceHouse" ∈ lw_nst := lw_inN (lkc1109 _ (List.mem_of_getElem? (i := 7) rfl)) rfl
theorem lk1117 : Cond.methodLink "VoiceHouse$Decoder" 197 yX6_echo ∈ lw_all := lw_in (lkc1109 _ (List.mem_of_getElem? (i := 8) rfl)) rfl
theorem lk1118 : Cond.instanceMethod yX6_echo ∈ lw_all := lw_in (lkc1109 _ (List.mem_of_getElem? (i := 9) rfl)) rfl
theorem lk1119 : Cond.selects "VoiceHouse$Memory" yX6_echo yX6_echo ∈ lw_all := lw_in (lkc1109 _ (List.mem_of_getElem? (i := 10) rfl)) rfl
theorem lk1120 : Cond.code yX6_echo cX6_echo 5 (none) ∈ lw_all := lw_in (lkc1109 _ (List.mem_of_getElem? (i := 11) rfl)) rfl
theorem lk1121 : Cond.methodLinkNest "VoiceHouse$Decoder" 104 yX11_frameOf "VoiceHouse" ∈ lw_nst := lw_inN (lkc1109 _ (List.mem_of_getElem? (i := 12) rfl)) rfl
theorem lk1122 : Cond.methodLink "VoiceHouse$Decoder" 107 yX1_filterAll ∈ lw_all := lw_in (lkc1109 _ (List.mem_of_getElem? (i := 13) rfl)) rfl
theorem lk1124 : Cond.instanceMethod yX1_filterAll ∈ lw_all := lw_in (lkc1109 _ (List.mem_of_getElem? (i := 15) rfl)) rfl
theorem lk1125 : Cond.code yX1_filterAll cX1_filterAll 3 (none) ∈ lw_all := lw_in (lkc1109 _ (List.mem_of_getElem? (i := 16) rfl)) rfl
theorem lk1126 : Cond.methodLink "VoiceHouse$Decoder" 203 yX3_pass ∈ lw_all := lw_in (lkc1109 _ (List.mem_of_getElem? (i := 17) rfl)) rfl
theorem lk1127 : Cond.instanceMethod yX3_pass ∈ lw_all := lw_in (lkc1109 _ (List.mem_of_getElem? (i := 18) rfl)) rfl
theorem lk1128 : Cond.selects "VoiceHouse$Filter" yX3_pass yX3_pass ∈ lw_all := lw_in (lkc1109 _ (List.mem_of_getElem? (i := 19) rfl)) rfl
theorem lk1129 : Cond.code yX3_pass cX3_pass 6 (none) ∈ lw_all := lw_in (lkc1109 _ (List.mem_of_getElem? (i := 20) rfl)) rfl
theorem lk1130 : Cond.methodLink "VoiceHouse$Filter" 23 yX10_mark ∈ lw_all := lw_in (lkc1109 _ (List.mem_of_getElem? (i := 21) rfl)) rfl
theorem lk1131 : Cond.methodLink "VoiceHouse$Filter" 29 yX3_addNoise ∈ lw_all := lw_in (lkc1109 _ (List.mem_of_getElem? (i := 22) rfl)) rfl
theorem lk1133 : Cond.instanceMethod yX3_addNoise ∈ lw_all := lw_in (lkc1109 _ (List.mem_of_getElem? (i := 24) rfl)) rfl
theorem lk1134 : Cond.code yX3_addNoise cX3_addNoise 6 (none) ∈ lw_all := lw_in (lkc1134 _ (List.mem_of_getElem? (i := 0) rfl)) rfl
theorem lk1135 : Cond.methodLinkNest "VoiceHouse$Filter" 43 yX11_drawnFrom "VoiceHouse" ∈ lw_nst := lw_inN (lkc1134 _ (List.mem_of_getElem? (i := 1) rfl)) rfl
theorem lk1136 : Cond.methodLinkNest "VoiceHouse$Filter" 47 yX11_drawOf "VoiceHouse" ∈ lw_nst := lw_inN (lkc1134 _ (List.mem_of_getElem? (i := 2) rfl)) rfl
theorem lk1137 : Cond.methodLink "VoiceHouse$Filter" 51 yX10_narrow ∈ lw_all := lw_in (lkc1134 _ (List.mem_of_getElem? (i := 3) rfl)) rfl
theorem lk1138 : Cond.methodLink "VoiceHouse$Filter" 33 yX3_tilt ∈ lw_all := lw_in (lkc1134 _ (List.mem_of_getElem? (i := 4) rfl)) rfl
theorem lk1140 : Cond.instanceMethod yX3_tilt ∈ lw_all := lw_in (lkc1134 _ (List.mem_of_getElem? (i := 6) rfl)) rfl
theorem lk1141 : Cond.code yX3_tilt cX3_tilt 6 (none) ∈ lw_all := lw_in (lkc1134 _ (List.mem_of_getElem? (i := 7) rfl)) rfl
theorem lk1142 : Cond.constantLong "VoiceHouse$Filter" 57 (8192) ∈ lw_all := lw_in (lkc1134 _ (List.mem_of_getElem? (i := 8) rfl)) rfl
theorem lk1143 : Cond.methodLinkNest "VoiceHouse$Filter" 59 yX11_half "VoiceHouse" ∈ lw_nst := lw_inN (lkc1134 _ (List.mem_of_getElem? (i := 9) rfl)) rfl
theorem lk1144 : Cond.methodLink "VoiceHouse$Filter" 37 yX3_comb ∈ lw_all := lw_in (lkc1134 _ (List.mem_of_getElem? (i := 10) rfl)) rfl
theorem lk1146 : Cond.instanceMethod yX3_comb ∈ lw_all := lw_in (lkc1134 _ (List.mem_of_getElem? (i := 12) rfl)) rfl
theorem lk1147 : Cond.code yX3_comb cX3_comb 7 (none) ∈ lw_all := lw_in (lkc1134 _ (List.mem_of_getElem? (i := 13) rfl)) rfl
theorem lk1148 : Cond.constantLong "VoiceHouse$Filter" 63 (6554) ∈ lw_all := lw_in (lkc1134 _ (List.mem_of_getElem? (i := 14) rfl)) rfl
theorem lk1149 : Cond.methodLink "VoiceHouse$Filter" 65 (⟨"java/lang/System", "arraycopy", "(Ljava/lang/Object;ILjava/lang/Object;II)V"⟩ : MethodName) ∈ lw_all := lw_in (lkc1134 _ (List.mem_of_getElem? (i := 15) rfl)) rfl
theorem lk1150 : Cond.methodLink "VoiceHouse$Filter" 40 yX3_emphasize ∈ lw_all := lw_in (lkc1134 _ (List.mem_of_getElem? (i := 16) rfl)) rfl
theorem lk1152 : Cond.instanceMethod yX3_emphasize ∈ lw_all := lw_in (lkc1134 _ (List.mem_of_getElem? (i := 18) rfl)) rfl
theorem lk1153 : Cond.code yX3_emphasize cX3_emphasize 5 (none) ∈ lw_all := lw_in (lkc1134 _ (List.mem_of_getElem? (i := 19) rfl)) rfl
theorem lk1154 : Cond.constantLong "VoiceHouse$Filter" 74 (22282) ∈ lw_all := lw_in (lkc1134 _ (List.mem_of_getElem? (i := 20) rfl)) rfl
theorem lk1155 : Cond.methodLink "VoiceHouse$Decoder" 110 yX1_joinOn ∈ lw_all := lw_in (lkc1134 _ (List.mem_of_getElem? (i := 21) rfl)) rfl
theorem lk1157 : Cond.instanceMethod yX1_joinOn ∈ lw_all := lw_in (lkc1134 _ (List.mem_of_getElem? (i := 23) rfl)) rfl
theorem lk1158 : Cond.code yX1_joinOn cX1_joinOn 6 (none) ∈ lw_all := lw_in (lkc1134 _ (List.mem_of_getElem? (i := 24) rfl)) rfl
theorem lk1159 : Cond.methodLink "VoiceHouse$Decoder" 207 yX1_greatestStep ∈ lw_all := lw_in (lkc1159 _ (List.mem_of_getElem? (i := 0) rfl)) rfl
theorem lk1160 : Cond.static yX1_greatestStep ∈ lw_all := lw_in (lkc1159 _ (List.mem_of_getElem? (i := 1) rfl)) rfl
theorem lk1161 : Cond.code yX1_greatestStep cX1_greatestStep 4 (some (FieldType.int)) ∈ lw_all := lw_in (lkc1159 _ (List.mem_of_getElem? (i := 2) rfl)) rfl
theorem lk1162 : Cond.methodLink "VoiceHouse$Decoder" 217 yJ9_abs_0f7a4 ∈ lw_all := lw_in (lkc1159 _ (List.mem_of_getElem? (i := 3) rfl)) rfl
theorem lk1163 : Cond.methodLink "VoiceHouse$Decoder" 214 yJ9_min_7cf53 ∈ lw_all := lw_in (lkc1159 _ (List.mem_of_getElem? (i := 4) rfl)) rfl
theorem lk1164 : Cond.methodLink "VoiceHouse$Decoder" 113 yX1_bringOut ∈ lw_all := lw_in (lkc1159 _ (List.mem_of_getElem? (i := 5) rfl)) rfl
theorem lk1166 : Cond.instanceMethod yX1_bringOut ∈ lw_all := lw_in (lkc1159 _ (List.mem_of_getElem? (i := 7) rfl)) rfl
theorem lk1167 : Cond.code yX1_bringOut cX1_bringOut 5 (none) ∈ lw_all := lw_in (lkc1159 _ (List.mem_of_getElem? (i := 8) rfl)) rfl
theorem lk1168 : Cond.methodLink "VoiceHouse$Decoder" 223 (⟨"java/lang/System", "arraycopy", "(Ljava/lang/Object;ILjava/lang/Object;II)V"⟩ : MethodName) ∈ lw_all := lw_in (lkc1159 _ (List.mem_of_getElem? (i := 9) rfl)) rfl
theorem lk1169 : Cond.methodLink "VoiceHouse$Decoder" 119 yX8_wipe ∈ lw_all := lw_in (lkc1159 _ (List.mem_of_getElem? (i := 10) rfl)) rfl
theorem lk1170 : Cond.methodLink "VoiceHouseLaw" 131 yX11_out ∈ lw_all := lw_in (lkc1159 _ (List.mem_of_getElem? (i := 11) rfl)) rfl
theorem lk1171 : Cond.instanceMethod yX11_out ∈ lw_all := lw_in (lkc1159 _ (List.mem_of_getElem? (i := 12) rfl)) rfl
theorem lk1172 : Cond.selects "VoiceHouse" yX11_out yX11_out ∈ lw_all := lw_in (lkc1159 _ (List.mem_of_getElem? (i := 13) rfl)) rfl
theorem lk1173 : Cond.code yX11_out cX11_out 4 (some (FieldType.int)) ∈ lw_all := lw_in (lkc1159 _ (List.mem_of_getElem? (i := 14) rfl)) rfl
theorem lk1174 : Cond.methodLink "VoiceHouse" 280 yX11_unknown ∈ lw_all := lw_in (lkc1159 _ (List.mem_of_getElem? (i := 15) rfl)) rfl
theorem lk1176 : Cond.instanceMethod yX11_unknown ∈ lw_all := lw_in (lkc1159 _ (List.mem_of_getElem? (i := 17) rfl)) rfl
theorem lk1177 : Cond.code yX11_unknown cX11_unknown 1 (some (FieldType.int)) ∈ lw_all := lw_in (lkc1159 _ (List.mem_of_getElem? (i := 18) rfl)) rfl
theorem lk1178 : Cond.methodLink "VoiceHouse" 286 yX11_entry ∈ lw_all := lw_in (lkc1159 _ (List.mem_of_getElem? (i := 19) rfl)) rfl
theorem lk1180 : Cond.instanceMethod yX11_entry ∈ lw_all := lw_in (lkc1159 _ (List.mem_of_getElem? (i := 21) rfl)) rfl
theorem lk1181 : Cond.code yX11_entry cX11_entry 4 (some (FieldType.int)) ∈ lw_all := lw_in (lkc1159 _ (List.mem_of_getElem? (i := 22) rfl)) rfl
theorem lk1182 : Cond.methodLink "VoiceHouseLaw" 135 yX11_state ∈ lw_all := lw_in (lkc1159 _ (List.mem_of_getElem? (i := 23) rfl)) rfl
theorem lk1183 : Cond.instanceMethod yX11_state ∈ lw_all := lw_in (lkc1159 _ (List.mem_of_getElem? (i := 24) rfl)) rfl
theorem lk1184 : Cond.selects "VoiceHouse" yX11_state yX11_state ∈ lw_all := lw_in (lkc1184 _ (List.mem_of_getElem? (i := 0) rfl)) rfl
theorem lk1185 : Cond.code yX11_state cX11_state 6 (some (FieldType.int)) ∈ lw_all := lw_in (lkc1184 _ (List.mem_of_getElem? (i := 1) rfl)) rfl
theorem lk1186 : Cond.methodLink "VoiceHouse" 290 yX11_memoryOf ∈ lw_all := lw_in (lkc1184 _ (List.mem_of_getElem? (i := 2) rfl)) rfl
theorem lk1188 : Cond.instanceMethod yX11_memoryOf ∈ lw_all := lw_in (lkc1184 _ (List.mem_of_getElem? (i := 4) rfl)) rfl
theorem lk1189 : Cond.code yX11_memoryOf cX11_memoryOf 4 (some ((FieldType.object "VoiceHouse$Memory"))) ∈ lw_all := lw_in (lkc1184 _ (List.mem_of_getElem? (i := 5) rfl)) rfl
theorem lk1190 : Cond.methodLink "VoiceHouseLaw" 139 yX11_finding ∈ lw_all := lw_in (lkc1184 _ (List.mem_of_getElem? (i := 6) rfl)) rfl
theorem lk1191 : Cond.instanceMethod yX11_finding ∈ lw_all := lw_in (lkc1184 _ (List.mem_of_getElem? (i := 7) rfl)) rfl
theorem lk1192 : Cond.selects "VoiceHouse" yX11_finding yX11_finding ∈ lw_all := lw_in (lkc1184 _ (List.mem_of_getElem? (i := 8) rfl)) rfl
theorem lk1193 : Cond.code yX11_finding cX11_finding 3 (some (FieldType.int)) ∈ lw_all := lw_in (lkc1184 _ (List.mem_of_getElem? (i := 9) rfl)) rfl
theorem lk1194 : Cond.methodLink "VoiceHouseLaw" 143 yX11_repair ∈ lw_all := lw_in (lkc1184 _ (List.mem_of_getElem? (i := 10) rfl)) rfl
theorem lk1195 : Cond.instanceMethod yX11_repair ∈ lw_all := lw_in (lkc1184 _ (List.mem_of_getElem? (i := 11) rfl)) rfl
theorem lk1196 : Cond.selects "VoiceHouse" yX11_repair yX11_repair ∈ lw_all := lw_in (lkc1184 _ (List.mem_of_getElem? (i := 12) rfl)) rfl
theorem lk1197 : Cond.code yX11_repair cX11_repair 3 (some (FieldType.int)) ∈ lw_all := lw_in (lkc1184 _ (List.mem_of_getElem? (i := 13) rfl)) rfl
theorem lk1198 : Cond.methodLink "VoiceHouseLaw" 147 yX11_stage ∈ lw_all := lw_in (lkc1184 _ (List.mem_of_getElem? (i := 14) rfl)) rfl
theorem lk1199 : Cond.instanceMethod yX11_stage ∈ lw_all := lw_in (lkc1184 _ (List.mem_of_getElem? (i := 15) rfl)) rfl
theorem lk1200 : Cond.selects "VoiceHouse" yX11_stage yX11_stage ∈ lw_all := lw_in (lkc1184 _ (List.mem_of_getElem? (i := 16) rfl)) rfl
theorem lk1201 : Cond.code yX11_stage cX11_stage 7 (some (FieldType.int)) ∈ lw_all := lw_in (lkc1184 _ (List.mem_of_getElem? (i := 17) rfl)) rfl
theorem lk1202 : Cond.classLink "VoiceHouse" 314 "VoiceHouse$Filter" ∈ lw_all := lw_in (lkc1184 _ (List.mem_of_getElem? (i := 18) rfl)) rfl
theorem lk1203 : Cond.methodLink "VoiceHouse" 318 yX3_init ∈ lw_all := lw_in (lkc1184 _ (List.mem_of_getElem? (i := 19) rfl)) rfl
theorem lk1204 : Cond.methodLink "VoiceHouseLaw" 151 yX11_join ∈ lw_all := lw_in (lkc1184 _ (List.mem_of_getElem? (i := 20) rfl)) rfl
theorem lk1205 : Cond.instanceMethod yX11_join ∈ lw_all := lw_in (lkc1184 _ (List.mem_of_getElem? (i := 21) rfl)) rfl
theorem lk1206 : Cond.selects "VoiceHouse" yX11_join yX11_join ∈ lw_all := lw_in (lkc1184 _ (List.mem_of_getElem? (i := 22) rfl)) rfl
theorem lk1207 : Cond.code yX11_join cX11_join 5 (some (FieldType.int)) ∈ lw_all := lw_in (lkc1184 _ (List.mem_of_getElem? (i := 23) rfl)) rfl
theorem lk1208 : Cond.methodLink "VoiceHouseLaw" 155 yX11_drift ∈ lw_all := lw_in (lkc1184 _ (List.mem_of_getElem? (i := 24) rfl)) rfl
theorem lk1209 : Cond.instanceMethod yX11_drift ∈ lw_all := lw_in (lkc1209 _ (List.mem_of_getElem? (i := 0) rfl)) rfl
theorem lk1210 : Cond.selects "VoiceHouse" yX11_drift yX11_drift ∈ lw_all := lw_in (lkc1209 _ (List.mem_of_getElem? (i := 1) rfl)) rfl
theorem lk1211 : Cond.code yX11_drift cX11_drift 5 (some (FieldType.int)) ∈ lw_all := lw_in (lkc1209 _ (List.mem_of_getElem? (i := 2) rfl)) rfl
theorem lk1212 : Cond.methodLink "VoiceHouseLaw" 159 yX11_mix ∈ lw_all := lw_in (lkc1209 _ (List.mem_of_getElem? (i := 3) rfl)) rfl
theorem lk1213 : Cond.instanceMethod yX11_mix ∈ lw_all := lw_in (lkc1209 _ (List.mem_of_getElem? (i := 4) rfl)) rfl
theorem lk1214 : Cond.selects "VoiceHouse" yX11_mix yX11_mix ∈ lw_all := lw_in (lkc1209 _ (List.mem_of_getElem? (i := 5) rfl)) rfl
theorem lk1215 : Cond.code yX11_mix cX11_mix 8 (some (FieldType.int)) ∈ lw_all := lw_in (lkc1209 _ (List.mem_of_getElem? (i := 6) rfl)) rfl
theorem lk1216 : Cond.methodLink "VoiceHouse" 326 yX11_isWeight ∈ lw_all := lw_in (lkc1209 _ (List.mem_of_getElem? (i := 7) rfl)) rfl
theorem lk1217 : Cond.static yX11_isWeight ∈ lw_all := lw_in (lkc1209 _ (List.mem_of_getElem? (i := 8) rfl)) rfl
theorem lk1218 : Cond.code yX11_isWeight cX11_isWeight 1 (some (FieldType.boolean)) ∈ lw_all := lw_in (lkc1209 _ (List.mem_of_getElem? (i := 9) rfl)) rfl
theorem lk1219 : Cond.methodLink "VoiceHouse" 329 yJ9_min_7cf53 ∈ lw_all := lw_in (lkc1209 _ (List.mem_of_getElem? (i := 10) rfl)) rfl
theorem lk1220 : Cond.methodLink "VoiceHouse" 338 yX10_narrow ∈ lw_all := lw_in (lkc1209 _ (List.mem_of_getElem? (i := 11) rfl)) rfl
theorem lk1221 : Cond.methodLink "VoiceHouseLaw" 163 yX11_resample ∈ lw_all := lw_in (lkc1209 _ (List.mem_of_getElem? (i := 12) rfl)) rfl
theorem lk1222 : Cond.instanceMethod yX11_resample ∈ lw_all := lw_in (lkc1209 _ (List.mem_of_getElem? (i := 13) rfl)) rfl
theorem lk1223 : Cond.selects "VoiceHouse" yX11_resample yX11_resample ∈ lw_all := lw_in (lkc1209 _ (List.mem_of_getElem? (i := 14) rfl)) rfl
theorem lk1224 : Cond.code yX11_resample cX11_resample 10 (some (FieldType.int)) ∈ lw_all := lw_in (lkc1209 _ (List.mem_of_getElem? (i := 15) rfl)) rfl
theorem lk1225 : Cond.methodLink "VoiceHouseLaw" 167 yX11_work ∈ lw_all := lw_in (lkc1209 _ (List.mem_of_getElem? (i := 16) rfl)) rfl
theorem lk1226 : Cond.instanceMethod yX11_work ∈ lw_all := lw_in (lkc1209 _ (List.mem_of_getElem? (i := 17) rfl)) rfl
theorem lk1227 : Cond.selects "VoiceHouse" yX11_work yX11_work ∈ lw_all := lw_in (lkc1209 _ (List.mem_of_getElem? (i := 18) rfl)) rfl
theorem lk1228 : Cond.code yX11_work cX11_work 2 (some (FieldType.int)) ∈ lw_all := lw_in (lkc1209 _ (List.mem_of_getElem? (i := 19) rfl)) rfl
theorem lk1229 : Cond.methodLink "VoiceHouseLaw" 171 yX11_trace ∈ lw_all := lw_in (lkc1209 _ (List.mem_of_getElem? (i := 20) rfl)) rfl
theorem lk1230 : Cond.instanceMethod yX11_trace ∈ lw_all := lw_in (lkc1209 _ (List.mem_of_getElem? (i := 21) rfl)) rfl
theorem lk1231 : Cond.selects "VoiceHouse" yX11_trace yX11_trace ∈ lw_all := lw_in (lkc1209 _ (List.mem_of_getElem? (i := 22) rfl)) rfl
theorem lk1232 : Cond.code yX11_trace cX11_trace 2 (some (FieldType.int)) ∈ lw_all := lw_in (lkc1209 _ (List.mem_of_getElem? (i := 23) rfl)) rfl
theorem lk1233 : Cond.methodLink "VoiceHouseLaw" 175 yX11_count ∈ lw_all := lw_in (lkc1209 _ (List.mem_of_getElem? (i := 24) rfl)) rfl
theorem lk1234 : Cond.instanceMethod yX11_count ∈ lw_all := lw_in (lkc1234 _ (List.mem_of_getElem? (i := 0) rfl)) rfl
theorem lk1235 : Cond.selects "VoiceHouse" yX11_count yX11_count ∈ lw_all := lw_in (lkc1234 _ (List.mem_of_getElem? (i := 1) rfl)) rfl
theorem lk1236 : Cond.code yX11_count cX11_count 4 (some (FieldType.int)) ∈ lw_all := lw_in (lkc1234 _ (List.mem_of_getElem? (i := 2) rfl)) rfl
theorem lk1237 : Cond.methodLink "VoiceHouse" 356 yX8_leftovers ∈ lw_all := lw_in (lkc1234 _ (List.mem_of_getElem? (i := 3) rfl)) rfl
theorem lk1238 : Cond.instanceMethod yX8_leftovers ∈ lw_all := lw_in (lkc1234 _ (List.mem_of_getElem? (i := 4) rfl)) rfl
theorem lk1239 : Cond.selects "VoiceHouse$Rows" yX8_leftovers yX8_leftovers ∈ lw_all := lw_in (lkc1234 _ (List.mem_of_getElem? (i := 5) rfl)) rfl
theorem lk1240 : Cond.code yX8_leftovers cX8_leftovers 1 (some (FieldType.int)) ∈ lw_all := lw_in (lkc1234 _ (List.mem_of_getElem? (i := 6) rfl)) rfl
theorem lk1241 : Cond.methodLink "VoiceHouse$Rows" 58 yX8_inRow ∈ lw_all := lw_in (lkc1234 _ (List.mem_of_getElem? (i := 7) rfl)) rfl
theorem lk1242 : Cond.static yX8_inRow ∈ lw_all := lw_in (lkc1234 _ (List.mem_of_getElem? (i := 8) rfl)) rfl
theorem lk1243 : Cond.code yX8_inRow cX8_inRow 6 (some (FieldType.int)) ∈ lw_all := lw_in (lkc1234 _ (List.mem_of_getElem? (i := 9) rfl)) rfl
theorem lk1244 : Cond.methodLink "VoiceHouse$Rows" 62 yX8_inLongRow ∈ lw_all := lw_in (lkc1234 _ (List.mem_of_getElem? (i := 10) rfl)) rfl
theorem lk1245 : Cond.static yX8_inLongRow ∈ lw_all := lw_in (lkc1234 _ (List.mem_of_getElem? (i := 11) rfl)) rfl
theorem lk1246 : Cond.code yX8_inLongRow cX8_inLongRow 7 (some (FieldType.int)) ∈ lw_all := lw_in (lkc1234 _ (List.mem_of_getElem? (i := 12) rfl)) rfl
theorem lk1247 : Cond.methodLink "VoiceHouseLaw" 179 yX11_found ∈ lw_all := lw_in (lkc1234 _ (List.mem_of_getElem? (i := 13) rfl)) rfl
theorem lk1248 : Cond.instanceMethod yX11_found ∈ lw_all := lw_in (lkc1234 _ (List.mem_of_getElem? (i := 14) rfl)) rfl
theorem lk1249 : Cond.selects "VoiceHouse" yX11_found yX11_found ∈ lw_all := lw_in (lkc1234 _ (List.mem_of_getElem? (i := 15) rfl)) rfl
theorem lk1250 : Cond.code yX11_found cX11_found 2 (some (FieldType.int)) ∈ lw_all := lw_in (lkc1234 _ (List.mem_of_getElem? (i := 16) rfl)) rfl
theorem lk1251 : Cond.methodLink "VoiceHouseLaw" 183 yX11_saturations ∈ lw_all := lw_in (lkc1234 _ (List.mem_of_getElem? (i := 17) rfl)) rfl
theorem lk1252 : Cond.instanceMethod yX11_saturations ∈ lw_all := lw_in (lkc1234 _ (List.mem_of_getElem? (i := 18) rfl)) rfl
theorem lk1253 : Cond.selects "VoiceHouse" yX11_saturations yX11_saturations ∈ lw_all := lw_in (lkc1234 _ (List.mem_of_getElem? (i := 19) rfl)) rfl
theorem lk1254 : Cond.code yX11_saturations cX11_saturations 1 (some (FieldType.long)) ∈ lw_all := lw_in (lkc1234 _ (List.mem_of_getElem? (i := 20) rfl)) rfl
theorem lk1255 : Cond.methodLink "VoiceHouseLaw" 188 yX11_digest ∈ lw_all := lw_in (lkc1234 _ (List.mem_of_getElem? (i := 21) rfl)) rfl
theorem lk1256 : Cond.instanceMethod yX11_digest ∈ lw_all := lw_in (lkc1234 _ (List.mem_of_getElem? (i := 22) rfl)) rfl
theorem lk1257 : Cond.selects "VoiceHouse" yX11_digest yX11_digest ∈ lw_all := lw_in (lkc1234 _ (List.mem_of_getElem? (i := 23) rfl)) rfl
theorem lk1258 : Cond.code yX11_digest cX11_digest 4 (some (FieldType.int)) ∈ lw_all := lw_in (lkc1234 _ (List.mem_of_getElem? (i := 24) rfl)) rfl
theorem lk1259 : Cond.methodLink "VoiceHouse" 366 yX6_digested ∈ lw_all := lw_in (lkc1259 _ (List.mem_of_getElem? (i := 0) rfl)) rfl
theorem lk1260 : Cond.instanceMethod yX6_digested ∈ lw_all := lw_in (lkc1259 _ (List.mem_of_getElem? (i := 1) rfl)) rfl
theorem lk1261 : Cond.selects "VoiceHouse$Memory" yX6_digested yX6_digested ∈ lw_all := lw_in (lkc1259 _ (List.mem_of_getElem? (i := 2) rfl)) rfl
theorem lk1262 : Cond.code yX6_digested cX6_digested 2 (some (FieldType.int)) ∈ lw_all := lw_in (lkc1259 _ (List.mem_of_getElem? (i := 3) rfl)) rfl
theorem lk1263 : Cond.methodLink "VoiceHouse$Memory" 103 yX6_digestRow ∈ lw_all := lw_in (lkc1259 _ (List.mem_of_getElem? (i := 4) rfl)) rfl
theorem lk1264 : Cond.static yX6_digestRow ∈ lw_all := lw_in (lkc1259 _ (List.mem_of_getElem? (i := 5) rfl)) rfl
theorem lk1265 : Cond.code yX6_digestRow cX6_digestRow 7 (some (FieldType.int)) ∈ lw_all := lw_in (lkc1259 _ (List.mem_of_getElem? (i := 6) rfl)) rfl
theorem lk1266 : Cond.methodLink "VoiceHouseLaw" 192 yX11_status ∈ lw_all := lw_in (lkc1259 _ (List.mem_of_getElem? (i := 7) rfl)) rfl
theorem lk1267 : Cond.instanceMethod yX11_status ∈ lw_all := lw_in (lkc1259 _ (List.mem_of_getElem? (i := 8) rfl)) rfl
theorem lk1268 : Cond.selects "VoiceHouse" yX11_status yX11_status ∈ lw_all := lw_in (lkc1259 _ (List.mem_of_getElem? (i := 9) rfl)) rfl
theorem lk1269 : Cond.code yX11_status cX11_status 1 (some (FieldType.int)) ∈ lw_all := lw_in (lkc1259 _ (List.mem_of_getElem? (i := 10) rfl)) rfl
theorem lk1270 : Cond.methodLink "VoiceHouseLaw" 197 yX11_told ∈ lw_all := lw_in (lkc1259 _ (List.mem_of_getElem? (i := 11) rfl)) rfl
theorem lk1271 : Cond.instanceMethod yX11_told ∈ lw_all := lw_in (lkc1259 _ (List.mem_of_getElem? (i := 12) rfl)) rfl
theorem lk1272 : Cond.selects "VoiceHouse" yX11_told yX11_told ∈ lw_all := lw_in (lkc1259 _ (List.mem_of_getElem? (i := 13) rfl)) rfl
theorem lk1273 : Cond.code yX11_told cX11_told 2 (some (FieldType.int)) ∈ lw_all := lw_in (lkc1259 _ (List.mem_of_getElem? (i := 14) rfl)) rfl
theorem lk1274 : Cond.methodLink "VoiceHouseLaw" 201 yX11_clear ∈ lw_all := lw_in (lkc1274 _ (List.mem_of_getElem? (i := 0) rfl)) rfl
theorem lk1275 : Cond.instanceMethod yX11_clear ∈ lw_all := lw_in (lkc1274 _ (List.mem_of_getElem? (i := 1) rfl)) rfl
theorem lk1276 : Cond.selects "VoiceHouse" yX11_clear yX11_clear ∈ lw_all := lw_in (lkc1274 _ (List.mem_of_getElem? (i := 2) rfl)) rfl
theorem lk1277 : Cond.code yX11_clear cX11_clear 3 (some (FieldType.int)) ∈ lw_all := lw_in (lkc1274 _ (List.mem_of_getElem? (i := 3) rfl)) rfl
theorem lk1278 : Cond.classLink "VoiceHouseLaw" 10 "VoiceHouseModel" ∈ lw_all := lw_in (lkc1274 _ (List.mem_of_getElem? (i := 4) rfl)) rfl
theorem lk1279 : Cond.instantiable "VoiceHouseModel" 81 ∈ lw_all := lw_in (lkc1274 _ (List.mem_of_getElem? (i := 5) rfl)) rfl
theorem lk1280 : Cond.methodLink "VoiceHouseLaw" 12 yX12_init ∈ lw_all := lw_in (lkc1274 _ (List.mem_of_getElem? (i := 6) rfl)) rfl
theorem lk1281 : Cond.instanceMethod yX12_init ∈ lw_all := lw_in (lkc1274 _ (List.mem_of_getElem? (i := 7) rfl)) rfl
theorem lk1282 : Cond.code yX12_init cX12_init 1 (none) ∈ lw_all := lw_in (lkc1274 _ (List.mem_of_getElem? (i := 8) rfl)) rfl
theorem lk1283 : Cond.methodLink "VoiceHouseModel" 1 (⟨"java/lang/Object", "<init>", "()V"⟩ : MethodName) ∈ lw_all := lw_in (lkc1274 _ (List.mem_of_getElem? (i := 9) rfl)) rfl
theorem lk1284 : Cond.constant "VoiceHouseModel" 108 (275200) ∈ lw_all := lw_in (lkc1274 _ (List.mem_of_getElem? (i := 10) rfl)) rfl
theorem lk1285 : Cond.fieldLink "VoiceHouseModel" 207 "VoiceHouseModel" "coders" "I" ∈ lw_all := lw_in (lkc1274 _ (List.mem_of_getElem? (i := 11) rfl)) rfl
theorem lk1286 : Cond.fieldLink "VoiceHouseModel" 202 "VoiceHouseModel" "status" "I" ∈ lw_all := lw_in (lkc1274 _ (List.mem_of_getElem? (i := 12) rfl)) rfl
theorem lk1287 : Cond.fieldLink "VoiceHouseModel" 217 "VoiceHouseModel" "saturations" "J" ∈ lw_all := lw_in (lkc1274 _ (List.mem_of_getElem? (i := 13) rfl)) rfl
theorem lk1288 : Cond.fieldLink "VoiceHouseModel" 7 "VoiceHouseModel" "foundOf" "[I" ∈ lw_all := lw_in (lkc1274 _ (List.mem_of_getElem? (i := 14) rfl)) rfl
theorem lk1289 : Cond.fieldLink "VoiceHouseModel" 13 "VoiceHouseModel" "traces" "[I" ∈ lw_all := lw_in (lkc1274 _ (List.mem_of_getElem? (i := 15) rfl)) rfl
theorem lk1290 : Cond.fieldLink "VoiceHouseModel" 210 "VoiceHouseModel" "traced" "I" ∈ lw_all := lw_in (lkc1274 _ (List.mem_of_getElem? (i := 16) rfl)) rfl
theorem lk1291 : Cond.fieldLink "VoiceHouseModel" 16 "VoiceHouseModel" "tape" "[I" ∈ lw_all := lw_in (lkc1274 _ (List.mem_of_getElem? (i := 17) rfl)) rfl
theorem lk1292 : Cond.fieldLink "VoiceHouseModel" 402 "VoiceHouseModel" "taped" "I" ∈ lw_all := lw_in (lkc1274 _ (List.mem_of_getElem? (i := 18) rfl)) rfl
theorem lk1293 : Cond.fieldLink "VoiceHouseModel" 19 "VoiceHouseModel" "bench" "[I" ∈ lw_all := lw_in (lkc1274 _ (List.mem_of_getElem? (i := 19) rfl)) rfl
theorem lk1294 : Cond.fieldLink "VoiceHouseModel" 450 "VoiceHouseModel" "benched" "I" ∈ lw_all := lw_in (lkc1274 _ (List.mem_of_getElem? (i := 20) rfl)) rfl
theorem lk1295 : Cond.fieldLink "VoiceHouseModel" 22 "VoiceHouseModel" "rateOf" "[I" ∈ lw_all := lw_in (lkc1274 _ (List.mem_of_getElem? (i := 21) rfl)) rfl
theorem lk1296 : Cond.fieldLink "VoiceHouseModel" 25 "VoiceHouseModel" "emphOf" "[Z" ∈ lw_all := lw_in (lkc1274 _ (List.mem_of_getElem? (i := 22) rfl)) rfl
theorem lk1297 : Cond.fieldLink "VoiceHouseModel" 29 "VoiceHouseModel" "searchOf" "[I" ∈ lw_all := lw_in (lkc1274 _ (List.mem_of_getElem? (i := 23) rfl)) rfl
theorem lk1298 : Cond.fieldLink "VoiceHouseModel" 32 "VoiceHouseModel" "levelOf" "[I" ∈ lw_all := lw_in (lkc1274 _ (List.mem_of_getElem? (i := 24) rfl)) rfl
theorem lk1299 : Cond.fieldLink "VoiceHouseModel" 35 "VoiceHouseModel" "redOf" "[Z" ∈ lw_all := lw_in (lkc1299 _ (List.mem_of_getElem? (i := 0) rfl)) rfl
theorem lk1300 : Cond.fieldLink "VoiceHouseModel" 38 "VoiceHouseModel" "numberOf" "[I" ∈ lw_all := lw_in (lkc1299 _ (List.mem_of_getElem? (i := 1) rfl)) rfl
theorem lk1301 : Cond.fieldLink "VoiceHouseModel" 41 "VoiceHouseModel" "waits" "[I" ∈ lw_all := lw_in (lkc1299 _ (List.mem_of_getElem? (i := 2) rfl)) rfl
theorem lk1302 : Cond.fieldLink "VoiceHouseModel" 44 "VoiceHouseModel" "waiting" "[I" ∈ lw_all := lw_in (lkc1299 _ (List.mem_of_getElem? (i := 3) rfl)) rfl
theorem lk1303 : Cond.fieldLink "VoiceHouseModel" 47 "VoiceHouseModel" "rawOf" "[I" ∈ lw_all := lw_in (lkc1299 _ (List.mem_of_getElem? (i := 4) rfl)) rfl
theorem lk1304 : Cond.fieldLink "VoiceHouseModel" 50 "VoiceHouseModel" "encodedOf" "[I" ∈ lw_all := lw_in (lkc1299 _ (List.mem_of_getElem? (i := 5) rfl)) rfl
theorem lk1305 : Cond.fieldLink "VoiceHouseModel" 53 "VoiceHouseModel" "hist" "[I" ∈ lw_all := lw_in (lkc1299 _ (List.mem_of_getElem? (i := 6) rfl)) rfl
theorem lk1306 : Cond.fieldLink "VoiceHouseModel" 56 "VoiceHouseModel" "mem" "[I" ∈ lw_all := lw_in (lkc1299 _ (List.mem_of_getElem? (i := 7) rfl)) rfl
theorem lk1307 : Cond.fieldLink "VoiceHouseModel" 59 "VoiceHouseModel" "indexOf" "[I" ∈ lw_all := lw_in (lkc1299 _ (List.mem_of_getElem? (i := 8) rfl)) rfl
theorem lk1308 : Cond.fieldLink "VoiceHouseModel" 62 "VoiceHouseModel" "lagOf" "[I" ∈ lw_all := lw_in (lkc1299 _ (List.mem_of_getElem? (i := 9) rfl)) rfl
theorem lk1309 : Cond.fieldLink "VoiceHouseModel" 65 "VoiceHouseModel" "delay" "[I" ∈ lw_all := lw_in (lkc1299 _ (List.mem_of_getElem? (i := 10) rfl)) rfl
theorem lk1310 : Cond.fieldLink "VoiceHouseModel" 68 "VoiceHouseModel" "sortOf" "[I" ∈ lw_all := lw_in (lkc1299 _ (List.mem_of_getElem? (i := 11) rfl)) rfl
theorem lk1311 : Cond.fieldLink "VoiceHouseModel" 71 "VoiceHouseModel" "latestIndex" "[I" ∈ lw_all := lw_in (lkc1299 _ (List.mem_of_getElem? (i := 12) rfl)) rfl
theorem lk1312 : Cond.fieldLink "VoiceHouseModel" 74 "VoiceHouseModel" "picks" "[I" ∈ lw_all := lw_in (lkc1299 _ (List.mem_of_getElem? (i := 13) rfl)) rfl
theorem lk1313 : Cond.fieldLink "VoiceHouseModel" 77 "VoiceHouseModel" "pCost" "[J" ∈ lw_all := lw_in (lkc1299 _ (List.mem_of_getElem? (i := 14) rfl)) rfl
theorem lk1314 : Cond.fieldLink "VoiceHouseModel" 81 "VoiceHouseModel" "fCost" "[J" ∈ lw_all := lw_in (lkc1299 _ (List.mem_of_getElem? (i := 15) rfl)) rfl
theorem lk1315 : Cond.fieldLink "VoiceHouseModel" 84 "VoiceHouseModel" "subOf" "[I" ∈ lw_all := lw_in (lkc1299 _ (List.mem_of_getElem? (i := 16) rfl)) rfl
theorem lk1316 : Cond.fieldLink "VoiceHouseModel" 87 "VoiceHouseModel" "restOf" "[I" ∈ lw_all := lw_in (lkc1299 _ (List.mem_of_getElem? (i := 17) rfl)) rfl
theorem lk1317 : Cond.fieldLink "VoiceHouseModel" 90 "VoiceHouseModel" "histOf" "[I" ∈ lw_all := lw_in (lkc1299 _ (List.mem_of_getElem? (i := 18) rfl)) rfl
theorem lk1318 : Cond.fieldLink "VoiceHouseModel" 93 "VoiceHouseModel" "lineOf" "[I" ∈ lw_all := lw_in (lkc1299 _ (List.mem_of_getElem? (i := 19) rfl)) rfl
theorem lk1319 : Cond.fieldLink "VoiceHouseModel" 96 "VoiceHouseModel" "labels" "[I" ∈ lw_all := lw_in (lkc1299 _ (List.mem_of_getElem? (i := 20) rfl)) rfl
theorem lk1320 : Cond.fieldLink "VoiceHouseModel" 99 "VoiceHouseModel" "rowIn" "[I" ∈ lw_all := lw_in (lkc1299 _ (List.mem_of_getElem? (i := 21) rfl)) rfl
theorem lk1321 : Cond.fieldLink "VoiceHouseModel" 343 "VoiceHouseModel" "rows" "I" ∈ lw_all := lw_in (lkc1299 _ (List.mem_of_getElem? (i := 22) rfl)) rfl
theorem lk1322 : Cond.fieldLink "VoiceHouseModel" 102 "VoiceHouseModel" "rowLong" "[I" ∈ lw_all := lw_in (lkc1299 _ (List.mem_of_getElem? (i := 23) rfl)) rfl
theorem lk1323 : Cond.fieldLink "VoiceHouseModel" 105 "VoiceHouseModel" "rowShort" "[Z" ∈ lw_all := lw_in (lkc1299 _ (List.mem_of_getElem? (i := 24) rfl)) rfl
theorem lk1324 : Cond.fieldLink "VoiceHouseModel" 109 "VoiceHouseModel" "rowCell" "[I" ∈ lw_all := lw_in (lkc1324 _ (List.mem_of_getElem? (i := 0) rfl)) rfl
theorem lk1325 : Cond.fieldLink "VoiceHouseModel" 112 "VoiceHouseModel" "playRate" "[I" ∈ lw_all := lw_in (lkc1324 _ (List.mem_of_getElem? (i := 1) rfl)) rfl
theorem lk1326 : Cond.fieldLink "VoiceHouseModel" 115 "VoiceHouseModel" "gainOf" "[I" ∈ lw_all := lw_in (lkc1324 _ (List.mem_of_getElem? (i := 2) rfl)) rfl
theorem lk1327 : Cond.fieldLink "VoiceHouseModel" 118 "VoiceHouseModel" "nextOf" "[I" ∈ lw_all := lw_in (lkc1324 _ (List.mem_of_getElem? (i := 3) rfl)) rfl
theorem lk1328 : Cond.fieldLink "VoiceHouseModel" 121 "VoiceHouseModel" "runOf" "[I" ∈ lw_all := lw_in (lkc1324 _ (List.mem_of_getElem? (i := 4) rfl)) rfl
theorem lk1329 : Cond.fieldLink "VoiceHouseModel" 124 "VoiceHouseModel" "decodedOf" "[I" ∈ lw_all := lw_in (lkc1324 _ (List.mem_of_getElem? (i := 5) rfl)) rfl
theorem lk1330 : Cond.fieldLink "VoiceHouseModel" 127 "VoiceHouseModel" "lateOf" "[I" ∈ lw_all := lw_in (lkc1324 _ (List.mem_of_getElem? (i := 6) rfl)) rfl
theorem lk1331 : Cond.fieldLink "VoiceHouseModel" 130 "VoiceHouseModel" "repairedOf" "[I" ∈ lw_all := lw_in (lkc1324 _ (List.mem_of_getElem? (i := 7) rfl)) rfl
theorem lk1332 : Cond.fieldLink "VoiceHouseModel" 133 "VoiceHouseModel" "mendedOf" "[I" ∈ lw_all := lw_in (lkc1324 _ (List.mem_of_getElem? (i := 8) rfl)) rfl
theorem lk1333 : Cond.fieldLink "VoiceHouseModel" 136 "VoiceHouseModel" "findingOf" "[I" ∈ lw_all := lw_in (lkc1324 _ (List.mem_of_getElem? (i := 9) rfl)) rfl
theorem lk1334 : Cond.fieldLink "VoiceHouseModel" 139 "VoiceHouseModel" "howOf" "[I" ∈ lw_all := lw_in (lkc1324 _ (List.mem_of_getElem? (i := 10) rfl)) rfl
theorem lk1335 : Cond.fieldLink "VoiceHouseModel" 142 "VoiceHouseModel" "outs" "[I" ∈ lw_all := lw_in (lkc1324 _ (List.mem_of_getElem? (i := 11) rfl)) rfl
theorem lk1336 : Cond.fieldLink "VoiceHouseModel" 145 "VoiceHouseModel" "outOf" "[I" ∈ lw_all := lw_in (lkc1324 _ (List.mem_of_getElem? (i := 12) rfl)) rfl
theorem lk1337 : Cond.fieldLink "VoiceHouseModel" 148 "VoiceHouseModel" "boundOf" "[I" ∈ lw_all := lw_in (lkc1324 _ (List.mem_of_getElem? (i := 13) rfl)) rfl
theorem lk1338 : Cond.fieldLink "VoiceHouseModel" 151 "VoiceHouseModel" "driftOf" "[I" ∈ lw_all := lw_in (lkc1324 _ (List.mem_of_getElem? (i := 14) rfl)) rfl
theorem lk1339 : Cond.fieldLink "VoiceHouseModel" 154 "VoiceHouseModel" "pathOf" "[I" ∈ lw_all := lw_in (lkc1324 _ (List.mem_of_getElem? (i := 15) rfl)) rfl
theorem lk1340 : Cond.fieldLink "VoiceHouseModel" 157 "VoiceHouseModel" "noiseOf" "[I" ∈ lw_all := lw_in (lkc1324 _ (List.mem_of_getElem? (i := 16) rfl)) rfl
theorem lk1341 : Cond.fieldLink "VoiceHouseModel" 160 "VoiceHouseModel" "cameOf" "[I" ∈ lw_all := lw_in (lkc1324 _ (List.mem_of_getElem? (i := 17) rfl)) rfl
theorem lk1342 : Cond.fieldLink "VoiceHouseModel" 163 "VoiceHouseModel" "gaveOf" "[I" ∈ lw_all := lw_in (lkc1324 _ (List.mem_of_getElem? (i := 18) rfl)) rfl
theorem lk1343 : Cond.fieldLink "VoiceHouseModel" 166 "VoiceHouseModel" "combOf" "[I" ∈ lw_all := lw_in (lkc1324 _ (List.mem_of_getElem? (i := 19) rfl)) rfl
theorem lk1344 : Cond.fieldLink "VoiceHouseModel" 169 "VoiceHouseModel" "x" "[I" ∈ lw_all := lw_in (lkc1324 _ (List.mem_of_getElem? (i := 20) rfl)) rfl
theorem lk1345 : Cond.fieldLink "VoiceHouseModel" 172 "VoiceHouseModel" "y" "[I" ∈ lw_all := lw_in (lkc1324 _ (List.mem_of_getElem? (i := 21) rfl)) rfl
theorem lk1346 : Cond.fieldLink "VoiceHouseModel" 175 "VoiceHouseModel" "a" "[I" ∈ lw_all := lw_in (lkc1324 _ (List.mem_of_getElem? (i := 22) rfl)) rfl
theorem lk1347 : Cond.fieldLink "VoiceHouseModel" 178 "VoiceHouseModel" "u" "[I" ∈ lw_all := lw_in (lkc1324 _ (List.mem_of_getElem? (i := 23) rfl)) rfl
theorem lk1348 : Cond.fieldLink "VoiceHouseModel" 181 "VoiceHouseModel" "e" "[I" ∈ lw_all := lw_in (lkc1324 _ (List.mem_of_getElem? (i := 24) rfl)) rfl
theorem lk1349 : Cond.fieldLink "VoiceHouseModel" 184 "VoiceHouseModel" "v" "[I" ∈ lw_all := lw_in (lkc1349 _ (List.mem_of_getElem? (i := 0) rfl)) rfl
theorem lk1350 : Cond.fieldLink "VoiceHouseModel" 187 "VoiceHouseModel" "oneSquare" "[J" ∈ lw_all := lw_in (lkc1349 _ (List.mem_of_getElem? (i := 1) rfl)) rfl
theorem lk1351 : Cond.fieldLink "VoiceHouseModel" 190 "VoiceHouseModel" "oneProduct" "[J" ∈ lw_all := lw_in (lkc1349 _ (List.mem_of_getElem? (i := 2) rfl)) rfl
theorem lk1352 : Cond.fieldLink "VoiceHouseModel" 193 "VoiceHouseModel" "autoOf" "[J" ∈ lw_all := lw_in (lkc1349 _ (List.mem_of_getElem? (i := 3) rfl)) rfl
theorem lk1353 : Cond.fieldLink "VoiceHouseModel" 196 "VoiceHouseModel" "forward" "[J" ∈ lw_all := lw_in (lkc1349 _ (List.mem_of_getElem? (i := 4) rfl)) rfl
theorem lk1354 : Cond.fieldLink "VoiceHouseModel" 199 "VoiceHouseModel" "backward" "[J" ∈ lw_all := lw_in (lkc1349 _ (List.mem_of_getElem? (i := 5) rfl)) rfl
theorem lk1355 : Cond.fieldLink "VoiceHouseModel" 278 "VoiceHouseModel" "bestCost" "J" ∈ lw_all := lw_in (lkc1349 _ (List.mem_of_getElem? (i := 6) rfl)) rfl
theorem lk1356 : Cond.fieldLink "VoiceHouseModel" 281 "VoiceHouseModel" "bestLag" "I" ∈ lw_all := lw_in (lkc1349 _ (List.mem_of_getElem? (i := 7) rfl)) rfl
theorem lk1357 : Cond.fieldLink "VoiceHouseModel" 284 "VoiceHouseModel" "bestShare" "I" ∈ lw_all := lw_in (lkc1349 _ (List.mem_of_getElem? (i := 8) rfl)) rfl
theorem lk1358 : Cond.fieldLink "VoiceHouseModel" 320 "VoiceHouseModel" "bestEven" "I" ∈ lw_all := lw_in (lkc1349 _ (List.mem_of_getElem? (i := 9) rfl)) rfl
theorem lk1359 : Cond.fieldLink "VoiceHouseModel" 323 "VoiceHouseModel" "bestEvenSign" "I" ∈ lw_all := lw_in (lkc1349 _ (List.mem_of_getElem? (i := 10) rfl)) rfl
theorem lk1360 : Cond.fieldLink "VoiceHouseModel" 326 "VoiceHouseModel" "bestOdd" "I" ∈ lw_all := lw_in (lkc1349 _ (List.mem_of_getElem? (i := 11) rfl)) rfl
theorem lk1361 : Cond.fieldLink "VoiceHouseModel" 329 "VoiceHouseModel" "bestOddSign" "I" ∈ lw_all := lw_in (lkc1349 _ (List.mem_of_getElem? (i := 12) rfl)) rfl
theorem lk1362 : Cond.fieldLink "VoiceHouseModel" 301 "VoiceHouseModel" "bestGain" "I" ∈ lw_all := lw_in (lkc1349 _ (List.mem_of_getElem? (i := 13) rfl)) rfl
theorem lk1363 : Cond.fieldLink "VoiceHouseModel" 405 "VoiceHouseModel" "openRow" "I" ∈ lw_all := lw_in (lkc1349 _ (List.mem_of_getElem? (i := 14) rfl)) rfl
theorem lk1364 : Cond.fieldLink "VoiceHouseModel" 408 "VoiceHouseModel" "openBody" "I" ∈ lw_all := lw_in (lkc1349 _ (List.mem_of_getElem? (i := 15) rfl)) rfl
theorem lk1365 : Cond.fieldLink "VoiceHouseModel" 411 "VoiceHouseModel" "openMore" "I" ∈ lw_all := lw_in (lkc1349 _ (List.mem_of_getElem? (i := 16) rfl)) rfl
theorem lk1529 : Cond.arrayClass FieldType.boolean ∈ lw_all := lw_in (lkc1514 _ (List.mem_of_getElem? (i := 15) rfl)) rfl
theorem lk1530 : Cond.methodLink "VoiceHouseLaw" 17 yX12_coder ∈ lw_all := lw_in (lkc1514 _ (List.mem_of_getElem? (i := 16) rfl)) rfl
theorem lk1531 : Cond.instanceMethod yX12_coder ∈ lw_all := lw_in (lkc1514 _ (List.mem_of_getElem? (i := 17) rfl)) rfl
theorem lk1532 : Cond.selects "VoiceHouseModel" yX12_coder yX12_coder ∈ lw_all := lw_in (lkc1514 _ (List.mem_of_getElem? (i := 18) rfl)) rfl
theorem lk1533 : Cond.code yX12_coder cX12_coder 5 (some (FieldType.int)) ∈ lw_all := lw_in (lkc1514 _ (List.mem_of_getElem? (i := 19) rfl)) rfl
theorem lk1534 : Cond.methodLink "VoiceHouseModel" 227 yX12_in ∈ lw_all := lw_in (lkc1514 _ (List.mem_of_getElem? (i := 20) rfl)) rfl
theorem lk1535 : Cond.static yX12_in ∈ lw_all := lw_in (lkc1514 _ (List.mem_of_getElem? (i := 21) rfl)) rfl
theorem lk1536 : Cond.code yX12_in cX12_in 3 (some (FieldType.boolean)) ∈ lw_all := lw_in (lkc1514 _ (List.mem_of_getElem? (i := 22) rfl)) rfl
theorem lk1537 : Cond.methodLink "VoiceHouseModel" 231 yX12_refused ∈ lw_all := lw_in (lkc1514 _ (List.mem_of_getElem? (i := 23) rfl)) rfl
theorem lk1539 : Cond.instanceMethod yX12_refused ∈ lw_all := lw_in (lkc1539 _ (List.mem_of_getElem? (i := 0) rfl)) rfl
theorem lk1540 : Cond.code yX12_refused cX12_refused 2 (some (FieldType.int)) ∈ lw_all := lw_in (lkc1539 _ (List.mem_of_getElem? (i := 1) rfl)) rfl
theorem lk1541 : Cond.methodLink "VoiceHouseModel" 235 yX12_done ∈ lw_all := lw_in (lkc1539 _ (List.mem_of_getElem? (i := 2) rfl)) rfl
theorem lk1543 : Cond.instanceMethod yX12_done ∈ lw_all := lw_in (lkc1539 _ (List.mem_of_getElem? (i := 4) rfl)) rfl
theorem lk1544 : Cond.code yX12_done cX12_done 2 (some (FieldType.int)) ∈ lw_all := lw_in (lkc1539 _ (List.mem_of_getElem? (i := 5) rfl)) rfl
theorem lk1545 : Cond.methodLink "VoiceHouseLaw" 22 yX12_rate ∈ lw_all := lw_in (lkc1539 _ (List.mem_of_getElem? (i := 6) rfl)) rfl
theorem lk1546 : Cond.instanceMethod yX12_rate ∈ lw_all := lw_in (lkc1539 _ (List.mem_of_getElem? (i := 7) rfl)) rfl
theorem lk1547 : Cond.selects "VoiceHouseModel" yX12_rate yX12_rate ∈ lw_all := lw_in (lkc1539 _ (List.mem_of_getElem? (i := 8) rfl)) rfl
theorem lk1548 : Cond.code yX12_rate cX12_rate 4 (some (FieldType.int)) ∈ lw_all := lw_in (lkc1539 _ (List.mem_of_getElem? (i := 9) rfl)) rfl
theorem lk1549 : Cond.methodLink "VoiceHouseModel" 238 yX12_isCoder ∈ lw_all := lw_in (lkc1539 _ (List.mem_of_getElem? (i := 10) rfl)) rfl
theorem lk1551 : Cond.instanceMethod yX12_isCoder ∈ lw_all := lw_in (lkc1539 _ (List.mem_of_getElem? (i := 12) rfl)) rfl
theorem lk1552 : Cond.code yX12_isCoder cX12_isCoder 2 (some (FieldType.boolean)) ∈ lw_all := lw_in (lkc1539 _ (List.mem_of_getElem? (i := 13) rfl)) rfl
theorem lk1553 : Cond.methodLink "VoiceHouseLaw" 27 yX12_emphasis ∈ lw_all := lw_in (lkc1539 _ (List.mem_of_getElem? (i := 14) rfl)) rfl
theorem lk1554 : Cond.instanceMethod yX12_emphasis ∈ lw_all := lw_in (lkc1539 _ (List.mem_of_getElem? (i := 15) rfl)) rfl
theorem lk1555 : Cond.selects "VoiceHouseModel" yX12_emphasis yX12_emphasis ∈ lw_all := lw_in (lkc1539 _ (List.mem_of_getElem? (i := 16) rfl)) rfl
theorem lk1556 : Cond.code yX12_emphasis cX12_emphasis 4 (some (FieldType.int)) ∈ lw_all := lw_in (lkc1539 _ (List.mem_of_getElem? (i := 17) rfl)) rfl
theorem lk1557 : Cond.methodLink "VoiceHouseLaw" 32 yX12_search ∈ lw_all := lw_in (lkc1539 _ (List.mem_of_getElem? (i := 18) rfl)) rfl
theorem lk1558 : Cond.instanceMethod yX12_search ∈ lw_all := lw_in (lkc1539 _ (List.mem_of_getElem? (i := 19) rfl)) rfl
theorem lk1559 : Cond.selects "VoiceHouseModel" yX12_search yX12_search ∈ lw_all := lw_in (lkc1539 _ (List.mem_of_getElem? (i := 20) rfl)) rfl
theorem lk1560 : Cond.code yX12_search cX12_search 5 (some (FieldType.int)) ∈ lw_all := lw_in (lkc1539 _ (List.mem_of_getElem? (i := 21) rfl)) rfl
theorem lk1561 : Cond.methodLink "VoiceHouseLaw" 36 yX12_silence ∈ lw_all := lw_in (lkc1539 _ (List.mem_of_getElem? (i := 22) rfl)) rfl
theorem lk1562 : Cond.instanceMethod yX12_silence ∈ lw_all := lw_in (lkc1539 _ (List.mem_of_getElem? (i := 23) rfl)) rfl
theorem lk1563 : Cond.selects "VoiceHouseModel" yX12_silence yX12_silence ∈ lw_all := lw_in (lkc1539 _ (List.mem_of_getElem? (i := 24) rfl)) rfl
theorem lk1564 : Cond.code yX12_silence cX12_silence 4 (some (FieldType.int)) ∈ lw_all := lw_in (lkc1564 _ (List.mem_of_getElem? (i := 0) rfl)) rfl
theorem lk1565 : Cond.constant "VoiceHouseModel" 242 (32769) ∈ lw_all := lw_in (lkc1564 _ (List.mem_of_getElem? (i := 1) rfl)) rfl
theorem lk1566 : Cond.methodLink "VoiceHouseLaw" 40 yX12_redundancy ∈ lw_all := lw_in (lkc1564 _ (List.mem_of_getElem? (i := 2) rfl)) rfl
theorem lk1567 : Cond.instanceMethod yX12_redundancy ∈ lw_all := lw_in (lkc1564 _ (List.mem_of_getElem? (i := 3) rfl)) rfl
theorem lk1568 : Cond.selects "VoiceHouseModel" yX12_redundancy yX12_redundancy ∈ lw_all := lw_in (lkc1564 _ (List.mem_of_getElem? (i := 4) rfl)) rfl
theorem lk1569 : Cond.code yX12_redundancy cX12_redundancy 4 (some (FieldType.int)) ∈ lw_all := lw_in (lkc1564 _ (List.mem_of_getElem? (i := 5) rfl)) rfl
theorem lk1570 : Cond.methodLink "VoiceHouseLaw" 44 yX12_start ∈ lw_all := lw_in (lkc1564 _ (List.mem_of_getElem? (i := 6) rfl)) rfl
theorem lk1571 : Cond.instanceMethod yX12_start ∈ lw_all := lw_in (lkc1564 _ (List.mem_of_getElem? (i := 7) rfl)) rfl
theorem lk1572 : Cond.selects "VoiceHouseModel" yX12_start yX12_start ∈ lw_all := lw_in (lkc1564 _ (List.mem_of_getElem? (i := 8) rfl)) rfl
theorem lk1573 : Cond.code yX12_start cX12_start 3 (some (FieldType.int)) ∈ lw_all := lw_in (lkc1564 _ (List.mem_of_getElem? (i := 9) rfl)) rfl
theorem lk1574 : Cond.constant "VoiceHouseModel" 243 (65535) ∈ lw_all := lw_in (lkc1564 _ (List.mem_of_getElem? (i := 10) rfl)) rfl
theorem lk1575 : Cond.methodLink "VoiceHouseLaw" 48 yX12_sample ∈ lw_all := lw_in (lkc1564 _ (List.mem_of_getElem? (i := 11) rfl)) rfl
theorem lk1576 : Cond.instanceMethod yX12_sample ∈ lw_all := lw_in (lkc1564 _ (List.mem_of_getElem? (i := 12) rfl)) rfl
theorem lk1577 : Cond.selects "VoiceHouseModel" yX12_sample yX12_sample ∈ lw_all := lw_in (lkc1564 _ (List.mem_of_getElem? (i := 13) rfl)) rfl
theorem lk1578 : Cond.code yX12_sample cX12_sample 3 (some (FieldType.int)) ∈ lw_all := lw_in (lkc1564 _ (List.mem_of_getElem? (i := 14) rfl)) rfl
theorem lk1579 : Cond.methodLink "VoiceHouseLaw" 53 yX12_wave ∈ lw_all := lw_in (lkc1564 _ (List.mem_of_getElem? (i := 15) rfl)) rfl
theorem lk1580 : Cond.instanceMethod yX12_wave ∈ lw_all := lw_in (lkc1564 _ (List.mem_of_getElem? (i := 16) rfl)) rfl
theorem lk1581 : Cond.selects "VoiceHouseModel" yX12_wave yX12_wave ∈ lw_all := lw_in (lkc1564 _ (List.mem_of_getElem? (i := 17) rfl)) rfl
theorem lk1582 : Cond.code yX12_wave cX12_wave 11 (some (FieldType.int)) ∈ lw_all := lw_in (lkc1564 _ (List.mem_of_getElem? (i := 18) rfl)) rfl
theorem lk1583 : Cond.methodLink "VoiceHouseModel" 248 yX12_drawn ∈ lw_all := lw_in (lkc1564 _ (List.mem_of_getElem? (i := 19) rfl)) rfl
theorem lk1584 : Cond.static yX12_drawn ∈ lw_all := lw_in (lkc1564 _ (List.mem_of_getElem? (i := 20) rfl)) rfl
theorem lk1585 : Cond.code yX12_drawn cX12_drawn 1 (some (FieldType.int)) ∈ lw_all := lw_in (lkc1564 _ (List.mem_of_getElem? (i := 21) rfl)) rfl
theorem lk1586 : Cond.constantLong "VoiceHouseModel" 244 (1103515245) ∈ lw_all := lw_in (lkc1564 _ (List.mem_of_getElem? (i := 22) rfl)) rfl
theorem lk1587 : Cond.constantLong "VoiceHouseModel" 246 (12345) ∈ lw_all := lw_in (lkc1564 _ (List.mem_of_getElem? (i := 23) rfl)) rfl
theorem lk1588 : Cond.constantLong "VoiceHouseModel" 221 (2147483647) ∈ lw_all := lw_in (lkc1564 _ (List.mem_of_getElem? (i := 24) rfl)) rfl
theorem lk1589 : Cond.methodLink "VoiceHouseModel" 251 yX12_told8 ∈ lw_all := lw_in (lkc1589 _ (List.mem_of_getElem? (i := 0) rfl)) rfl
theorem lk1590 : Cond.static yX12_told8 ∈ lw_all := lw_in (lkc1589 _ (List.mem_of_getElem? (i := 1) rfl)) rfl
theorem lk1591 : Cond.code yX12_told8 cX12_told8 1 (some (FieldType.int)) ∈ lw_all := lw_in (lkc1589 _ (List.mem_of_getElem? (i := 2) rfl)) rfl
theorem lk1592 : Cond.methodLink "VoiceHouseLaw" 57 yX12_encode ∈ lw_all := lw_in (lkc1589 _ (List.mem_of_getElem? (i := 3) rfl)) rfl
theorem lk1593 : Cond.instanceMethod yX12_encode ∈ lw_all := lw_in (lkc1589 _ (List.mem_of_getElem? (i := 4) rfl)) rfl
theorem lk1594 : Cond.selects "VoiceHouseModel" yX12_encode yX12_encode ∈ lw_all := lw_in (lkc1589 _ (List.mem_of_getElem? (i := 5) rfl)) rfl
theorem lk1595 : Cond.code yX12_encode cX12_encode 12 (some (FieldType.int)) ∈ lw_all := lw_in (lkc1589 _ (List.mem_of_getElem? (i := 6) rfl)) rfl
theorem lk1596 : Cond.methodLink "VoiceHouseModel" 346 yX12_tell ∈ lw_all := lw_in (lkc1589 _ (List.mem_of_getElem? (i := 7) rfl)) rfl
theorem lk1598 : Cond.instanceMethod yX12_tell ∈ lw_all := lw_in (lkc1589 _ (List.mem_of_getElem? (i := 9) rfl)) rfl
theorem lk1599 : Cond.code yX12_tell cX12_tell 2 (none) ∈ lw_all := lw_in (lkc1589 _ (List.mem_of_getElem? (i := 10) rfl)) rfl
theorem lk1600 : Cond.constantLong "VoiceHouseModel" 350 (22282) ∈ lw_all := lw_in (lkc1589 _ (List.mem_of_getElem? (i := 11) rfl)) rfl
theorem lk1601 : Cond.methodLink "VoiceHouseModel" 262 yX12_half ∈ lw_all := lw_in (lkc1589 _ (List.mem_of_getElem? (i := 12) rfl)) rfl
theorem lk1602 : Cond.static yX12_half ∈ lw_all := lw_in (lkc1589 _ (List.mem_of_getElem? (i := 13) rfl)) rfl
theorem lk1603 : Cond.code yX12_half cX12_half 4 (some (FieldType.long)) ∈ lw_all := lw_in (lkc1589 _ (List.mem_of_getElem? (i := 14) rfl)) rfl
theorem lk1604 : Cond.constantLong "VoiceHouseModel" 225 (16384) ∈ lw_all := lw_in (lkc1589 _ (List.mem_of_getElem? (i := 15) rfl)) rfl
theorem lk1605 : Cond.methodLink "VoiceHouseModel" 270 yX12_sample16 ∈ lw_all := lw_in (lkc1589 _ (List.mem_of_getElem? (i := 16) rfl)) rfl
theorem lk1607 : Cond.instanceMethod yX12_sample16 ∈ lw_all := lw_in (lkc1589 _ (List.mem_of_getElem? (i := 18) rfl)) rfl
theorem lk1608 : Cond.code yX12_sample16 cX12_sample16 3 (some (FieldType.int)) ∈ lw_all := lw_in (lkc1589 _ (List.mem_of_getElem? (i := 19) rfl)) rfl
theorem lk1609 : Cond.constantLong "VoiceHouseModel" 213 (32767) ∈ lw_all := lw_in (lkc1589 _ (List.mem_of_getElem? (i := 20) rfl)) rfl
theorem lk1610 : Cond.constantLong "VoiceHouseModel" 215 (-32768) ∈ lw_all := lw_in (lkc1589 _ (List.mem_of_getElem? (i := 21) rfl)) rfl
theorem lk1611 : Cond.methodLink "VoiceHouseModel" 352 yX12_newRow ∈ lw_all := lw_in (lkc1589 _ (List.mem_of_getElem? (i := 22) rfl)) rfl
theorem lk1613 : Cond.instanceMethod yX12_newRow ∈ lw_all := lw_in (lkc1589 _ (List.mem_of_getElem? (i := 24) rfl)) rfl
theorem lk1614 : Cond.code yX12_newRow cX12_newRow 3 (some (FieldType.int)) ∈ lw_all := lw_in (lkc1614 _ (List.mem_of_getElem? (i := 0) rfl)) rfl
theorem lk1615 : Cond.methodLink "VoiceHouseModel" 356 yX12_hush ∈ lw_all := lw_in (lkc1614 _ (List.mem_of_getElem? (i := 1) rfl)) rfl
theorem lk1617 : Cond.instanceMethod yX12_hush ∈ lw_all := lw_in (lkc1614 _ (List.mem_of_getElem? (i := 3) rfl)) rfl
theorem lk1618 : Cond.code yX12_hush cX12_hush 8 (none) ∈ lw_all := lw_in (lkc1614 _ (List.mem_of_getElem? (i := 4) rfl)) rfl
theorem lk1619 : Cond.methodLink "VoiceHouseModel" 340 yX12_sound ∈ lw_all := lw_in (lkc1614 _ (List.mem_of_getElem? (i := 5) rfl)) rfl
theorem lk1621 : Cond.instanceMethod yX12_sound ∈ lw_all := lw_in (lkc1614 _ (List.mem_of_getElem? (i := 7) rfl)) rfl
theorem lk1622 : Cond.code yX12_sound cX12_sound 5 (none) ∈ lw_all := lw_in (lkc1614 _ (List.mem_of_getElem? (i := 8) rfl)) rfl
theorem lk1623 : Cond.methodLink "VoiceHouseModel" 332 yX12_synthesis ∈ lw_all := lw_in (lkc1614 _ (List.mem_of_getElem? (i := 9) rfl)) rfl
theorem lk1625 : Cond.instanceMethod yX12_synthesis ∈ lw_all := lw_in (lkc1614 _ (List.mem_of_getElem? (i := 11) rfl)) rfl
theorem lk1626 : Cond.code yX12_synthesis cX12_synthesis 8 (some (FieldType.int)) ∈ lw_all := lw_in (lkc1614 _ (List.mem_of_getElem? (i := 12) rfl)) rfl
theorem lk1627 : Cond.methodLink "VoiceHouseModel" 359 yX12_put ∈ lw_all := lw_in (lkc1614 _ (List.mem_of_getElem? (i := 13) rfl)) rfl
theorem lk1629 : Cond.instanceMethod yX12_put ∈ lw_all := lw_in (lkc1614 _ (List.mem_of_getElem? (i := 15) rfl)) rfl
theorem lk1630 : Cond.code yX12_put cX12_put 3 (none) ∈ lw_all := lw_in (lkc1614 _ (List.mem_of_getElem? (i := 16) rfl)) rfl
theorem lk1631 : Cond.methodLink "VoiceHouseModel" 363 yX12_voice ∈ lw_all := lw_in (lkc1614 _ (List.mem_of_getElem? (i := 17) rfl)) rfl
theorem lk1633 : Cond.instanceMethod yX12_voice ∈ lw_all := lw_in (lkc1614 _ (List.mem_of_getElem? (i := 19) rfl)) rfl
theorem lk1634 : Cond.code yX12_voice cX12_voice 6 (none) ∈ lw_all := lw_in (lkc1614 _ (List.mem_of_getElem? (i := 20) rfl)) rfl
theorem lk1635 : Cond.methodLink "VoiceHouseModel" 372 yX12_predict ∈ lw_all := lw_in (lkc1614 _ (List.mem_of_getElem? (i := 21) rfl)) rfl
theorem lk1637 : Cond.instanceMethod yX12_predict ∈ lw_all := lw_in (lkc1614 _ (List.mem_of_getElem? (i := 23) rfl)) rfl
theorem lk1638 : Cond.code yX12_predict cX12_predict 16 (none) ∈ lw_all := lw_in (lkc1614 _ (List.mem_of_getElem? (i := 24) rfl)) rfl
theorem lk1639 : Cond.constantLong "VoiceHouseModel" 254 (1073741824) ∈ lw_all := lw_in (lkc1639 _ (List.mem_of_getElem? (i := 0) rfl)) rfl
theorem lk1640 : Cond.constantLong "VoiceHouseModel" 256 (512) ∈ lw_all := lw_in (lkc1639 _ (List.mem_of_getElem? (i := 1) rfl)) rfl
theorem lk1641 : Cond.constantLong "VoiceHouseModel" 258 (31) ∈ lw_all := lw_in (lkc1639 _ (List.mem_of_getElem? (i := 2) rfl)) rfl
theorem lk1642 : Cond.constantLong "VoiceHouseModel" 260 (-31) ∈ lw_all := lw_in (lkc1639 _ (List.mem_of_getElem? (i := 3) rfl)) rfl
theorem lk1643 : Cond.methodLink "VoiceHouseModel" 266 yX12_word32 ∈ lw_all := lw_in (lkc1639 _ (List.mem_of_getElem? (i := 4) rfl)) rfl
theorem lk1645 : Cond.instanceMethod yX12_word32 ∈ lw_all := lw_in (lkc1639 _ (List.mem_of_getElem? (i := 6) rfl)) rfl
theorem lk1646 : Cond.code yX12_word32 cX12_word32 3 (some (FieldType.long)) ∈ lw_all := lw_in (lkc1639 _ (List.mem_of_getElem? (i := 7) rfl)) rfl
theorem lk1647 : Cond.constantLong "VoiceHouseModel" 223 (-2147483648) ∈ lw_all := lw_in (lkc1639 _ (List.mem_of_getElem? (i := 8) rfl)) rfl
theorem lk1648 : Cond.methodLink "VoiceHouseModel" 375 yX12_lattice ∈ lw_all := lw_in (lkc1639 _ (List.mem_of_getElem? (i := 9) rfl)) rfl
theorem lk1650 : Cond.instanceMethod yX12_lattice ∈ lw_all := lw_in (lkc1639 _ (List.mem_of_getElem? (i := 11) rfl)) rfl
theorem lk1651 : Cond.code yX12_lattice cX12_lattice 10 (none) ∈ lw_all := lw_in (lkc1639 _ (List.mem_of_getElem? (i := 12) rfl)) rfl
theorem lk1652 : Cond.methodLink "VoiceHouseModel" 378 yX12_pitch ∈ lw_all := lw_in (lkc1639 _ (List.mem_of_getElem? (i := 13) rfl)) rfl
theorem lk1654 : Cond.instanceMethod yX12_pitch ∈ lw_all := lw_in (lkc1639 _ (List.mem_of_getElem? (i := 15) rfl)) rfl
theorem lk1655 : Cond.code yX12_pitch cX12_pitch 7 (none) ∈ lw_all := lw_in (lkc1639 _ (List.mem_of_getElem? (i := 16) rfl)) rfl
theorem lk1656 : Cond.constantLong "VoiceHouseModel" 287 (9223372036854775807) ∈ lw_all := lw_in (lkc1639 _ (List.mem_of_getElem? (i := 17) rfl)) rfl
theorem lk1657 : Cond.methodLink "VoiceHouseModel" 289 yX12_tryLag ∈ lw_all := lw_in (lkc1639 _ (List.mem_of_getElem? (i := 18) rfl)) rfl
theorem lk1659 : Cond.instanceMethod yX12_tryLag ∈ lw_all := lw_in (lkc1639 _ (List.mem_of_getElem? (i := 20) rfl)) rfl
theorem lk1660 : Cond.code yX12_tryLag cX12_tryLag 12 (none) ∈ lw_all := lw_in (lkc1639 _ (List.mem_of_getElem? (i := 21) rfl)) rfl
theorem lk1661 : Cond.constantLong "VoiceHouseModel" 274 (25) ∈ lw_all := lw_in (lkc1639 _ (List.mem_of_getElem? (i := 22) rfl)) rfl
theorem lk1662 : Cond.constantLong "VoiceHouseModel" 276 (320) ∈ lw_all := lw_in (lkc1639 _ (List.mem_of_getElem? (i := 23) rfl)) rfl
theorem lk1663 : Cond.methodLink "VoiceHouseModel" 382 yX12_pulses ∈ lw_all := lw_in (lkc1639 _ (List.mem_of_getElem? (i := 24) rfl)) rfl
theorem lk1665 : Cond.instanceMethod yX12_pulses ∈ lw_all := lw_in (lkc1664 _ (List.mem_of_getElem? (i := 1) rfl)) rfl
theorem lk1666 : Cond.code yX12_pulses cX12_pulses 11 (none) ∈ lw_all := lw_in (lkc1664 _ (List.mem_of_getElem? (i := 2) rfl)) rfl
theorem lk1667 : Cond.methodLink "VoiceHouseModel" 293 yX12_pulse ∈ lw_all := lw_in (lkc1664 _ (List.mem_of_getElem? (i := 3) rfl)) rfl
theorem lk1668 : Cond.static yX12_pulse ∈ lw_all := lw_in (lkc1664 _ (List.mem_of_getElem? (i := 4) rfl)) rfl
theorem lk1669 : Cond.code yX12_pulse cX12_pulse 1 (some (FieldType.int)) ∈ lw_all := lw_in (lkc1664 _ (List.mem_of_getElem? (i := 5) rfl)) rfl
theorem lk1670 : Cond.methodLink "VoiceHouseModel" 316 yX12_tryPair ∈ lw_all := lw_in (lkc1664 _ (List.mem_of_getElem? (i := 6) rfl)) rfl
theorem lk1672 : Cond.instanceMethod yX12_tryPair ∈ lw_all := lw_in (lkc1664 _ (List.mem_of_getElem? (i := 8) rfl)) rfl
theorem lk1673 : Cond.code yX12_tryPair cX12_tryPair 12 (some (FieldType.boolean)) ∈ lw_all := lw_in (lkc1664 _ (List.mem_of_getElem? (i := 9) rfl)) rfl
theorem lk1674 : Cond.constantLong "VoiceHouseModel" 304 (-1) ∈ lw_all := lw_in (lkc1664 _ (List.mem_of_getElem? (i := 10) rfl)) rfl
theorem lk1675 : Cond.constantLong "VoiceHouseModel" 306 (2) ∈ lw_all := lw_in (lkc1664 _ (List.mem_of_getElem? (i := 11) rfl)) rfl
theorem lk1676 : Cond.methodLink "VoiceHouseModel" 308 yX12_shared ∈ lw_all := lw_in (lkc1664 _ (List.mem_of_getElem? (i := 12) rfl)) rfl
theorem lk1677 : Cond.static yX12_shared ∈ lw_all := lw_in (lkc1664 _ (List.mem_of_getElem? (i := 13) rfl)) rfl
theorem lk1678 : Cond.code yX12_shared cX12_shared 6 (some (FieldType.long)) ∈ lw_all := lw_in (lkc1664 _ (List.mem_of_getElem? (i := 14) rfl)) rfl
theorem lk1679 : Cond.methodLink "VoiceHouseModel" 312 yX12_tryGains ∈ lw_all := lw_in (lkc1664 _ (List.mem_of_getElem? (i := 15) rfl)) rfl
theorem lk1681 : Cond.instanceMethod yX12_tryGains ∈ lw_all := lw_in (lkc1664 _ (List.mem_of_getElem? (i := 17) rfl)) rfl
theorem lk1682 : Cond.code yX12_tryGains cX12_tryGains 14 (some (FieldType.boolean)) ∈ lw_all := lw_in (lkc1664 _ (List.mem_of_getElem? (i := 18) rfl)) rfl
theorem lk1683 : Cond.methodLink "VoiceHouseModel" 296 yX12_gain ∈ lw_all := lw_in (lkc1664 _ (List.mem_of_getElem? (i := 19) rfl)) rfl
theorem lk1684 : Cond.static yX12_gain ∈ lw_all := lw_in (lkc1664 _ (List.mem_of_getElem? (i := 20) rfl)) rfl
theorem lk1685 : Cond.code yX12_gain cX12_gain 1 (some (FieldType.int)) ∈ lw_all := lw_in (lkc1664 _ (List.mem_of_getElem? (i := 21) rfl)) rfl
theorem lk1686 : Cond.constantLong "VoiceHouseModel" 299 (64) ∈ lw_all := lw_in (lkc1664 _ (List.mem_of_getElem? (i := 22) rfl)) rfl
theorem lk1687 : Cond.methodLink "VoiceHouseModel" 386 yX12_excited ∈ lw_all := lw_in (lkc1664 _ (List.mem_of_getElem? (i := 23) rfl)) rfl
theorem lk1689 : Cond.instanceMethod yX12_excited ∈ lw_all := lw_in (lkc1689 _ (List.mem_of_getElem? (i := 0) rfl)) rfl
theorem lk1690 : Cond.code yX12_excited cX12_excited 12 (none) ∈ lw_all := lw_in (lkc1689 _ (List.mem_of_getElem? (i := 1) rfl)) rfl
theorem lk1691 : Cond.methodLink "VoiceHouseModel" 336 yX12_behind ∈ lw_all := lw_in (lkc1689 _ (List.mem_of_getElem? (i := 2) rfl)) rfl
theorem lk1693 : Cond.instanceMethod yX12_behind ∈ lw_all := lw_in (lkc1689 _ (List.mem_of_getElem? (i := 4) rfl)) rfl
theorem lk1694 : Cond.code yX12_behind cX12_behind 5 (none) ∈ lw_all := lw_in (lkc1689 _ (List.mem_of_getElem? (i := 5) rfl)) rfl
theorem lk1695 : Cond.methodLink "VoiceHouseModel" 366 yX12_sumOf ∈ lw_all := lw_in (lkc1689 _ (List.mem_of_getElem? (i := 6) rfl)) rfl
theorem lk1697 : Cond.instanceMethod yX12_sumOf ∈ lw_all := lw_in (lkc1689 _ (List.mem_of_getElem? (i := 8) rfl)) rfl
theorem lk1698 : Cond.code yX12_sumOf cX12_sumOf 5 (some (FieldType.int)) ∈ lw_all := lw_in (lkc1689 _ (List.mem_of_getElem? (i := 9) rfl)) rfl
theorem lk1699 : Cond.methodLink "VoiceHouseModel" 369 yX12_append ∈ lw_all := lw_in (lkc1689 _ (List.mem_of_getElem? (i := 10) rfl)) rfl
theorem lk1701 : Cond.instanceMethod yX12_append ∈ lw_all := lw_in (lkc1689 _ (List.mem_of_getElem? (i := 12) rfl)) rfl
theorem lk1702 : Cond.code yX12_append cX12_append 4 (none) ∈ lw_all := lw_in (lkc1689 _ (List.mem_of_getElem? (i := 13) rfl)) rfl
theorem lk1703 : Cond.methodLink "VoiceHouseLaw" 61 yX12_pick ∈ lw_all := lw_in (lkc1689 _ (List.mem_of_getElem? (i := 14) rfl)) rfl
theorem lk1704 : Cond.instanceMethod yX12_pick ∈ lw_all := lw_in (lkc1689 _ (List.mem_of_getElem? (i := 15) rfl)) rfl
theorem lk1705 : Cond.selects "VoiceHouseModel" yX12_pick yX12_pick ∈ lw_all := lw_in (lkc1689 _ (List.mem_of_getElem? (i := 16) rfl)) rfl
theorem lk1706 : Cond.code yX12_pick cX12_pick 4 (some (FieldType.int)) ∈ lw_all := lw_in (lkc1689 _ (List.mem_of_getElem? (i := 17) rfl)) rfl
theorem lk1707 : Cond.methodLink "VoiceHouseLaw" 65 yX12_index ∈ lw_all := lw_in (lkc1689 _ (List.mem_of_getElem? (i := 18) rfl)) rfl
theorem lk1708 : Cond.instanceMethod yX12_index ∈ lw_all := lw_in (lkc1689 _ (List.mem_of_getElem? (i := 19) rfl)) rfl
theorem lk1709 : Cond.selects "VoiceHouseModel" yX12_index yX12_index ∈ lw_all := lw_in (lkc1689 _ (List.mem_of_getElem? (i := 20) rfl)) rfl
theorem lk1710 : Cond.code yX12_index cX12_index 3 (some (FieldType.int)) ∈ lw_all := lw_in (lkc1689 _ (List.mem_of_getElem? (i := 21) rfl)) rfl
theorem lk1711 : Cond.methodLink "VoiceHouseModel" 390 yX12_refusedNo ∈ lw_all := lw_in (lkc1689 _ (List.mem_of_getElem? (i := 22) rfl)) rfl
theorem lk1713 : Cond.instanceMethod yX12_refusedNo ∈ lw_all := lw_in (lkc1689 _ (List.mem_of_getElem? (i := 24) rfl)) rfl
theorem lk1714 : Cond.code yX12_refusedNo cX12_refusedNo 2 (some (FieldType.int)) ∈ lw_all := lw_in (lkc1714 _ (List.mem_of_getElem? (i := 0) rfl)) rfl
theorem lk1715 : Cond.constant "VoiceHouseModel" 206 (-2147483648) ∈ lw_all := lw_in (lkc1714 _ (List.mem_of_getElem? (i := 1) rfl)) rfl
theorem lk1716 : Cond.methodLink "VoiceHouseLaw" 70 yX12_cost ∈ lw_all := lw_in (lkc1714 _ (List.mem_of_getElem? (i := 2) rfl)) rfl
theorem lk1717 : Cond.instanceMethod yX12_cost ∈ lw_all := lw_in (lkc1714 _ (List.mem_of_getElem? (i := 3) rfl)) rfl
theorem lk1718 : Cond.selects "VoiceHouseModel" yX12_cost yX12_cost ∈ lw_all := lw_in (lkc1714 _ (List.mem_of_getElem? (i := 4) rfl)) rfl
theorem lk1719 : Cond.code yX12_cost cX12_cost 5 (some (FieldType.long)) ∈ lw_all := lw_in (lkc1714 _ (List.mem_of_getElem? (i := 5) rfl)) rfl
theorem lk1720 : Cond.constantLong "VoiceHouseModel" 393 (-9223372036854775808) ∈ lw_all := lw_in (lkc1714 _ (List.mem_of_getElem? (i := 6) rfl)) rfl
theorem lk1721 : Cond.methodLink "VoiceHouseLaw" 74 yX12_length ∈ lw_all := lw_in (lkc1714 _ (List.mem_of_getElem? (i := 7) rfl)) rfl
theorem lk1722 : Cond.instanceMethod yX12_length ∈ lw_all := lw_in (lkc1714 _ (List.mem_of_getElem? (i := 8) rfl)) rfl
theorem lk1723 : Cond.selects "VoiceHouseModel" yX12_length yX12_length ∈ lw_all := lw_in (lkc1714 _ (List.mem_of_getElem? (i := 9) rfl)) rfl
theorem lk1724 : Cond.code yX12_length cX12_length 4 (some (FieldType.int)) ∈ lw_all := lw_in (lkc1714 _ (List.mem_of_getElem? (i := 10) rfl)) rfl
theorem lk1725 : Cond.methodLink "VoiceHouseModel" 395 yX12_isFrame ∈ lw_all := lw_in (lkc1714 _ (List.mem_of_getElem? (i := 11) rfl)) rfl
theorem lk1727 : Cond.instanceMethod yX12_isFrame ∈ lw_all := lw_in (lkc1714 _ (List.mem_of_getElem? (i := 13) rfl)) rfl
theorem lk1728 : Cond.code yX12_isFrame cX12_isFrame 3 (some (FieldType.boolean)) ∈ lw_all := lw_in (lkc1714 _ (List.mem_of_getElem? (i := 14) rfl)) rfl
theorem lk1729 : Cond.methodLink "VoiceHouseLaw" 78 yX12_byteOf ∈ lw_all := lw_in (lkc1714 _ (List.mem_of_getElem? (i := 15) rfl)) rfl
theorem lk1730 : Cond.instanceMethod yX12_byteOf ∈ lw_all := lw_in (lkc1714 _ (List.mem_of_getElem? (i := 16) rfl)) rfl
theorem lk1731 : Cond.selects "VoiceHouseModel" yX12_byteOf yX12_byteOf ∈ lw_all := lw_in (lkc1714 _ (List.mem_of_getElem? (i := 17) rfl)) rfl
theorem lk1732 : Cond.code yX12_byteOf cX12_byteOf 5 (some (FieldType.int)) ∈ lw_all := lw_in (lkc1714 _ (List.mem_of_getElem? (i := 18) rfl)) rfl
theorem lk1733 : Cond.methodLink "VoiceHouseLaw" 82 yX12_label ∈ lw_all := lw_in (lkc1714 _ (List.mem_of_getElem? (i := 19) rfl)) rfl
theorem lk1734 : Cond.instanceMethod yX12_label ∈ lw_all := lw_in (lkc1714 _ (List.mem_of_getElem? (i := 20) rfl)) rfl
theorem lk1735 : Cond.selects "VoiceHouseModel" yX12_label yX12_label ∈ lw_all := lw_in (lkc1714 _ (List.mem_of_getElem? (i := 21) rfl)) rfl
theorem lk1736 : Cond.code yX12_label cX12_label 3 (some (FieldType.int)) ∈ lw_all := lw_in (lkc1714 _ (List.mem_of_getElem? (i := 22) rfl)) rfl
theorem lk1737 : Cond.methodLink "VoiceHouseLaw" 86 yX12_lose ∈ lw_all := lw_in (lkc1714 _ (List.mem_of_getElem? (i := 23) rfl)) rfl
theorem lk1738 : Cond.instanceMethod yX12_lose ∈ lw_all := lw_in (lkc1714 _ (List.mem_of_getElem? (i := 24) rfl)) rfl
theorem lk1739 : Cond.selects "VoiceHouseModel" yX12_lose yX12_lose ∈ lw_all := lw_in (lkc1739 _ (List.mem_of_getElem? (i := 0) rfl)) rfl
theorem lk1740 : Cond.code yX12_lose cX12_lose 3 (some (FieldType.int)) ∈ lw_all := lw_in (lkc1739 _ (List.mem_of_getElem? (i := 1) rfl)) rfl
theorem lk1741 : Cond.methodLink "VoiceHouseLaw" 90 yX12_cut ∈ lw_all := lw_in (lkc1739 _ (List.mem_of_getElem? (i := 2) rfl)) rfl
theorem lk1742 : Cond.instanceMethod yX12_cut ∈ lw_all := lw_in (lkc1739 _ (List.mem_of_getElem? (i := 3) rfl)) rfl
theorem lk1743 : Cond.selects "VoiceHouseModel" yX12_cut yX12_cut ∈ lw_all := lw_in (lkc1739 _ (List.mem_of_getElem? (i := 4) rfl)) rfl
theorem lk1744 : Cond.code yX12_cut cX12_cut 8 (some (FieldType.int)) ∈ lw_all := lw_in (lkc1739 _ (List.mem_of_getElem? (i := 5) rfl)) rfl
theorem lk1745 : Cond.methodLink "VoiceHouseLaw" 95 yX12_damage ∈ lw_all := lw_in (lkc1739 _ (List.mem_of_getElem? (i := 6) rfl)) rfl
theorem lk1746 : Cond.instanceMethod yX12_damage ∈ lw_all := lw_in (lkc1739 _ (List.mem_of_getElem? (i := 7) rfl)) rfl
theorem lk1747 : Cond.selects "VoiceHouseModel" yX12_damage yX12_damage ∈ lw_all := lw_in (lkc1739 _ (List.mem_of_getElem? (i := 8) rfl)) rfl
theorem lk1748 : Cond.code yX12_damage cX12_damage 6 (some (FieldType.int)) ∈ lw_all := lw_in (lkc1739 _ (List.mem_of_getElem? (i := 9) rfl)) rfl
theorem lk1749 : Cond.methodLink "VoiceHouseLaw" 99 yX12_resum ∈ lw_all := lw_in (lkc1739 _ (List.mem_of_getElem? (i := 10) rfl)) rfl
theorem lk1750 : Cond.instanceMethod yX12_resum ∈ lw_all := lw_in (lkc1739 _ (List.mem_of_getElem? (i := 11) rfl)) rfl
theorem lk1751 : Cond.selects "VoiceHouseModel" yX12_resum yX12_resum ∈ lw_all := lw_in (lkc1739 _ (List.mem_of_getElem? (i := 12) rfl)) rfl
theorem lk1752 : Cond.code yX12_resum cX12_resum 5 (some (FieldType.int)) ∈ lw_all := lw_in (lkc1739 _ (List.mem_of_getElem? (i := 13) rfl)) rfl
theorem lk1753 : Cond.methodLink "VoiceHouseLaw" 103 yX12_shorts ∈ lw_all := lw_in (lkc1739 _ (List.mem_of_getElem? (i := 14) rfl)) rfl
theorem lk1754 : Cond.instanceMethod yX12_shorts ∈ lw_all := lw_in (lkc1754 _ (List.mem_of_getElem? (i := 0) rfl)) rfl
theorem lk1755 : Cond.selects "VoiceHouseModel" yX12_shorts yX12_shorts ∈ lw_all := lw_in (lkc1754 _ (List.mem_of_getElem? (i := 1) rfl)) rfl
theorem lk1756 : Cond.code yX12_shorts cX12_shorts 6 (some (FieldType.int)) ∈ lw_all := lw_in (lkc1754 _ (List.mem_of_getElem? (i := 2) rfl)) rfl
theorem lk1757 : Cond.methodLink "VoiceHouseLaw" 107 yX12_order ∈ lw_all := lw_in (lkc1754 _ (List.mem_of_getElem? (i := 3) rfl)) rfl
theorem lk1758 : Cond.instanceMethod yX12_order ∈ lw_all := lw_in (lkc1754 _ (List.mem_of_getElem? (i := 4) rfl)) rfl
theorem lk1759 : Cond.selects "VoiceHouseModel" yX12_order yX12_order ∈ lw_all := lw_in (lkc1754 _ (List.mem_of_getElem? (i := 5) rfl)) rfl
theorem lk1760 : Cond.code yX12_order cX12_order 7 (some (FieldType.int)) ∈ lw_all := lw_in (lkc1754 _ (List.mem_of_getElem? (i := 6) rfl)) rfl
theorem lk1761 : Cond.methodLink "VoiceHouseModel" 399 yX12_take ∈ lw_all := lw_in (lkc1754 _ (List.mem_of_getElem? (i := 7) rfl)) rfl
theorem lk1763 : Cond.instanceMethod yX12_take ∈ lw_all := lw_in (lkc1754 _ (List.mem_of_getElem? (i := 9) rfl)) rfl
theorem lk1764 : Cond.code yX12_take cX12_take 4 (none) ∈ lw_all := lw_in (lkc1754 _ (List.mem_of_getElem? (i := 10) rfl)) rfl
theorem lk1765 : Cond.methodLink "VoiceHouseLaw" 111 yX12_drop ∈ lw_all := lw_in (lkc1754 _ (List.mem_of_getElem? (i := 11) rfl)) rfl
theorem lk1766 : Cond.instanceMethod yX12_drop ∈ lw_all := lw_in (lkc1754 _ (List.mem_of_getElem? (i := 12) rfl)) rfl
theorem lk1767 : Cond.selects "VoiceHouseModel" yX12_drop yX12_drop ∈ lw_all := lw_in (lkc1754 _ (List.mem_of_getElem? (i := 13) rfl)) rfl
theorem lk1768 : Cond.code yX12_drop cX12_drop 3 (some (FieldType.int)) ∈ lw_all := lw_in (lkc1754 _ (List.mem_of_getElem? (i := 14) rfl)) rfl
theorem lk1769 : Cond.methodLink "VoiceHouseLaw" 115 yX12_again ∈ lw_all := lw_in (lkc1754 _ (List.mem_of_getElem? (i := 15) rfl)) rfl
theorem lk1770 : Cond.instanceMethod yX12_again ∈ lw_all := lw_in (lkc1754 _ (List.mem_of_getElem? (i := 16) rfl)) rfl
theorem lk1771 : Cond.selects "VoiceHouseModel" yX12_again yX12_again ∈ lw_all := lw_in (lkc1754 _ (List.mem_of_getElem? (i := 17) rfl)) rfl
theorem lk1772 : Cond.code yX12_again cX12_again 3 (some (FieldType.int)) ∈ lw_all := lw_in (lkc1754 _ (List.mem_of_getElem? (i := 18) rfl)) rfl
theorem lk1773 : Cond.methodLink "VoiceHouseLaw" 122 yX12_type ∈ lw_all := lw_in (lkc1754 _ (List.mem_of_getElem? (i := 19) rfl)) rfl
theorem lk1774 : Cond.instanceMethod yX12_type ∈ lw_all := lw_in (lkc1754 _ (List.mem_of_getElem? (i := 20) rfl)) rfl
theorem lk1775 : Cond.selects "VoiceHouseModel" yX12_type yX12_type ∈ lw_all := lw_in (lkc1754 _ (List.mem_of_getElem? (i := 21) rfl)) rfl
theorem lk1776 : Cond.code yX12_type cX12_type 5 (some (FieldType.int)) ∈ lw_all := lw_in (lkc1754 _ (List.mem_of_getElem? (i := 22) rfl)) rfl
theorem lk1777 : Cond.methodLink "VoiceHouseLaw" 126 yX12_feed ∈ lw_all := lw_in (lkc1754 _ (List.mem_of_getElem? (i := 23) rfl)) rfl
theorem lk1778 : Cond.instanceMethod yX12_feed ∈ lw_all := lw_in (lkc1754 _ (List.mem_of_getElem? (i := 24) rfl)) rfl
theorem lk1779 : Cond.selects "VoiceHouseModel" yX12_feed yX12_feed ∈ lw_all := lw_in (lkc1779 _ (List.mem_of_getElem? (i := 0) rfl)) rfl
theorem lk1780 : Cond.code yX12_feed cX12_feed 5 (some (FieldType.int)) ∈ lw_all := lw_in (lkc1779 _ (List.mem_of_getElem? (i := 1) rfl)) rfl
theorem lk1781 : Cond.methodLink "VoiceHouseLaw" 130 yX12_decode ∈ lw_all := lw_in (lkc1779 _ (List.mem_of_getElem? (i := 2) rfl)) rfl
theorem lk1782 : Cond.instanceMethod yX12_decode ∈ lw_all := lw_in (lkc1779 _ (List.mem_of_getElem? (i := 3) rfl)) rfl
theorem lk1783 : Cond.selects "VoiceHouseModel" yX12_decode yX12_decode ∈ lw_all := lw_in (lkc1779 _ (List.mem_of_getElem? (i := 4) rfl)) rfl
theorem lk1784 : Cond.code yX12_decode cX12_decode 8 (some (FieldType.int)) ∈ lw_all := lw_in (lkc1779 _ (List.mem_of_getElem? (i := 5) rfl)) rfl
theorem lk1785 : Cond.constant "VoiceHouseModel" 421 (32768) ∈ lw_all := lw_in (lkc1779 _ (List.mem_of_getElem? (i := 6) rfl)) rfl
theorem lk1786 : Cond.methodLink "VoiceHouseModel" 422 yX12_firstWith ∈ lw_all := lw_in (lkc1779 _ (List.mem_of_getElem? (i := 7) rfl)) rfl
theorem lk1788 : Cond.instanceMethod yX12_firstWith ∈ lw_all := lw_in (lkc1779 _ (List.mem_of_getElem? (i := 9) rfl)) rfl
theorem lk1789 : Cond.code yX12_firstWith cX12_firstWith 5 (some (FieldType.int)) ∈ lw_all := lw_in (lkc1779 _ (List.mem_of_getElem? (i := 10) rfl)) rfl
theorem lk1790 : Cond.methodLink "VoiceHouseModel" 425 yX12_open ∈ lw_all := lw_in (lkc1779 _ (List.mem_of_getElem? (i := 11) rfl)) rfl
theorem lk1792 : Cond.instanceMethod yX12_open ∈ lw_all := lw_in (lkc1779 _ (List.mem_of_getElem? (i := 13) rfl)) rfl
theorem lk1793 : Cond.code yX12_open cX12_open 3 (some (FieldType.int)) ∈ lw_all := lw_in (lkc1779 _ (List.mem_of_getElem? (i := 14) rfl)) rfl
theorem lk1794 : Cond.methodLink "VoiceHouseModel" 418 yX12_opened ∈ lw_all := lw_in (lkc1779 _ (List.mem_of_getElem? (i := 15) rfl)) rfl
theorem lk1796 : Cond.instanceMethod yX12_opened ∈ lw_all := lw_in (lkc1779 _ (List.mem_of_getElem? (i := 17) rfl)) rfl
theorem lk1797 : Cond.code yX12_opened cX12_opened 3 (some (FieldType.int)) ∈ lw_all := lw_in (lkc1779 _ (List.mem_of_getElem? (i := 18) rfl)) rfl
theorem lk1798 : Cond.methodLink "VoiceHouseModel" 414 yX12_isVoice ∈ lw_all := lw_in (lkc1779 _ (List.mem_of_getElem? (i := 19) rfl)) rfl
theorem lk1800 : Cond.instanceMethod yX12_isVoice ∈ lw_all := lw_in (lkc1779 _ (List.mem_of_getElem? (i := 21) rfl)) rfl
theorem lk1801 : Cond.code yX12_isVoice cX12_isVoice 1 (some (FieldType.boolean)) ∈ lw_all := lw_in (lkc1779 _ (List.mem_of_getElem? (i := 22) rfl)) rfl
theorem lk1802 : Cond.methodLink "VoiceHouseModel" 428 yX12_repair0 ∈ lw_all := lw_in (lkc1779 _ (List.mem_of_getElem? (i := 23) rfl)) rfl
theorem lk1804 : Cond.instanceMethod yX12_repair0 ∈ lw_all := lw_in (lkc1804 _ (List.mem_of_getElem? (i := 0) rfl)) rfl
theorem lk1805 : Cond.code yX12_repair0 cX12_repair0 10 (none) ∈ lw_all := lw_in (lkc1804 _ (List.mem_of_getElem? (i := 1) rfl)) rfl
theorem lk1806 : Cond.methodLink "VoiceHouseModel" 443 yX12_body ∈ lw_all := lw_in (lkc1804 _ (List.mem_of_getElem? (i := 2) rfl)) rfl
theorem lk1808 : Cond.instanceMethod yX12_body ∈ lw_all := lw_in (lkc1804 _ (List.mem_of_getElem? (i := 4) rfl)) rfl
theorem lk1809 : Cond.code yX12_body cX12_body 2 (some (FieldType.int)) ∈ lw_all := lw_in (lkc1804 _ (List.mem_of_getElem? (i := 5) rfl)) rfl
theorem lk1810 : Cond.methodLink "VoiceHouseModel" 431 yX12_play ∈ lw_all := lw_in (lkc1804 _ (List.mem_of_getElem? (i := 6) rfl)) rfl
theorem lk1812 : Cond.instanceMethod yX12_play ∈ lw_all := lw_in (lkc1804 _ (List.mem_of_getElem? (i := 8) rfl)) rfl
theorem lk1813 : Cond.code yX12_play cX12_play 11 (none) ∈ lw_all := lw_in (lkc1804 _ (List.mem_of_getElem? (i := 9) rfl)) rfl
theorem lk1814 : Cond.methodLink "VoiceHouseModel" 434 yX12_filter ∈ lw_all := lw_in (lkc1804 _ (List.mem_of_getElem? (i := 10) rfl)) rfl
theorem lk1816 : Cond.instanceMethod yX12_filter ∈ lw_all := lw_in (lkc1804 _ (List.mem_of_getElem? (i := 12) rfl)) rfl
theorem lk1817 : Cond.code yX12_filter cX12_filter 9 (none) ∈ lw_all := lw_in (lkc1804 _ (List.mem_of_getElem? (i := 13) rfl)) rfl
theorem lk1818 : Cond.constantLong "VoiceHouseModel" 446 (8192) ∈ lw_all := lw_in (lkc1804 _ (List.mem_of_getElem? (i := 14) rfl)) rfl
theorem lk1819 : Cond.constantLong "VoiceHouseModel" 448 (6554) ∈ lw_all := lw_in (lkc1804 _ (List.mem_of_getElem? (i := 15) rfl)) rfl
theorem lk1820 : Cond.methodLink "VoiceHouseModel" 437 yX12_join0 ∈ lw_all := lw_in (lkc1804 _ (List.mem_of_getElem? (i := 16) rfl)) rfl
theorem lk1822 : Cond.instanceMethod yX12_join0 ∈ lw_all := lw_in (lkc1804 _ (List.mem_of_getElem? (i := 18) rfl)) rfl
theorem lk1823 : Cond.code yX12_join0 cX12_join0 6 (none) ∈ lw_all := lw_in (lkc1804 _ (List.mem_of_getElem? (i := 19) rfl)) rfl
theorem lk1824 : Cond.methodLink "VoiceHouseModel" 440 yX12_drift0 ∈ lw_all := lw_in (lkc1804 _ (List.mem_of_getElem? (i := 20) rfl)) rfl
theorem lk1826 : Cond.instanceMethod yX12_drift0 ∈ lw_all := lw_in (lkc1804 _ (List.mem_of_getElem? (i := 22) rfl)) rfl
theorem lk1827 : Cond.code yX12_drift0 cX12_drift0 5 (some (FieldType.int)) ∈ lw_all := lw_in (lkc1804 _ (List.mem_of_getElem? (i := 23) rfl)) rfl
theorem lk1828 : Cond.methodLink "VoiceHouseLaw" 134 yX12_out ∈ lw_all := lw_in (lkc1804 _ (List.mem_of_getElem? (i := 24) rfl)) rfl
theorem lk1829 : Cond.instanceMethod yX12_out ∈ lw_all := lw_in (lkc1829 _ (List.mem_of_getElem? (i := 0) rfl)) rfl
theorem lk1830 : Cond.selects "VoiceHouseModel" yX12_out yX12_out ∈ lw_all := lw_in (lkc1829 _ (List.mem_of_getElem? (i := 1) rfl)) rfl
theorem lk1831 : Cond.code yX12_out cX12_out 3 (some (FieldType.int)) ∈ lw_all := lw_in (lkc1829 _ (List.mem_of_getElem? (i := 2) rfl)) rfl
theorem lk1832 : Cond.methodLink "VoiceHouseLaw" 138 yX12_state ∈ lw_all := lw_in (lkc1829 _ (List.mem_of_getElem? (i := 3) rfl)) rfl
theorem lk1833 : Cond.instanceMethod yX12_state ∈ lw_all := lw_in (lkc1829 _ (List.mem_of_getElem? (i := 4) rfl)) rfl
theorem lk1834 : Cond.selects "VoiceHouseModel" yX12_state yX12_state ∈ lw_all := lw_in (lkc1829 _ (List.mem_of_getElem? (i := 5) rfl)) rfl
theorem lk1835 : Cond.code yX12_state cX12_state 6 (some (FieldType.int)) ∈ lw_all := lw_in (lkc1829 _ (List.mem_of_getElem? (i := 6) rfl)) rfl
theorem lk1836 : Cond.methodLink "VoiceHouseLaw" 142 yX12_finding ∈ lw_all := lw_in (lkc1829 _ (List.mem_of_getElem? (i := 7) rfl)) rfl
theorem lk1837 : Cond.instanceMethod yX12_finding ∈ lw_all := lw_in (lkc1829 _ (List.mem_of_getElem? (i := 8) rfl)) rfl
theorem lk1838 : Cond.selects "VoiceHouseModel" yX12_finding yX12_finding ∈ lw_all := lw_in (lkc1829 _ (List.mem_of_getElem? (i := 9) rfl)) rfl
theorem lk1839 : Cond.code yX12_finding cX12_finding 2 (some (FieldType.int)) ∈ lw_all := lw_in (lkc1829 _ (List.mem_of_getElem? (i := 10) rfl)) rfl
theorem lk1840 : Cond.methodLink "VoiceHouseLaw" 146 yX12_repair ∈ lw_all := lw_in (lkc1829 _ (List.mem_of_getElem? (i := 11) rfl)) rfl
theorem lk1841 : Cond.instanceMethod yX12_repair ∈ lw_all := lw_in (lkc1829 _ (List.mem_of_getElem? (i := 12) rfl)) rfl
theorem lk1842 : Cond.selects "VoiceHouseModel" yX12_repair yX12_repair ∈ lw_all := lw_in (lkc1829 _ (List.mem_of_getElem? (i := 13) rfl)) rfl
theorem lk1843 : Cond.code yX12_repair cX12_repair 2 (some (FieldType.int)) ∈ lw_all := lw_in (lkc1829 _ (List.mem_of_getElem? (i := 14) rfl)) rfl
theorem lk1844 : Cond.methodLink "VoiceHouseLaw" 150 yX12_stage ∈ lw_all := lw_in (lkc1829 _ (List.mem_of_getElem? (i := 15) rfl)) rfl
theorem lk1845 : Cond.instanceMethod yX12_stage ∈ lw_all := lw_in (lkc1829 _ (List.mem_of_getElem? (i := 16) rfl)) rfl
theorem lk1846 : Cond.selects "VoiceHouseModel" yX12_stage yX12_stage ∈ lw_all := lw_in (lkc1829 _ (List.mem_of_getElem? (i := 17) rfl)) rfl
theorem lk1847 : Cond.code yX12_stage cX12_stage 7 (some (FieldType.int)) ∈ lw_all := lw_in (lkc1829 _ (List.mem_of_getElem? (i := 18) rfl)) rfl
theorem lk1848 : Cond.methodLink "VoiceHouseLaw" 154 yX12_join ∈ lw_all := lw_in (lkc1829 _ (List.mem_of_getElem? (i := 19) rfl)) rfl
theorem lk1849 : Cond.instanceMethod yX12_join ∈ lw_all := lw_in (lkc1829 _ (List.mem_of_getElem? (i := 20) rfl)) rfl
theorem lk1850 : Cond.selects "VoiceHouseModel" yX12_join yX12_join ∈ lw_all := lw_in (lkc1829 _ (List.mem_of_getElem? (i := 21) rfl)) rfl
theorem lk1851 : Cond.code yX12_join cX12_join 4 (some (FieldType.int)) ∈ lw_all := lw_in (lkc1829 _ (List.mem_of_getElem? (i := 22) rfl)) rfl
theorem lk1852 : Cond.methodLink "VoiceHouseLaw" 158 yX12_drift ∈ lw_all := lw_in (lkc1829 _ (List.mem_of_getElem? (i := 23) rfl)) rfl
theorem lk1853 : Cond.instanceMethod yX12_drift ∈ lw_all := lw_in (lkc1829 _ (List.mem_of_getElem? (i := 24) rfl)) rfl
theorem lk1854 : Cond.selects "VoiceHouseModel" yX12_drift yX12_drift ∈ lw_all := lw_in (lkc1854 _ (List.mem_of_getElem? (i := 0) rfl)) rfl
theorem lk1855 : Cond.code yX12_drift cX12_drift 4 (some (FieldType.int)) ∈ lw_all := lw_in (lkc1854 _ (List.mem_of_getElem? (i := 1) rfl)) rfl
theorem lk1856 : Cond.methodLink "VoiceHouseLaw" 162 yX12_mix ∈ lw_all := lw_in (lkc1854 _ (List.mem_of_getElem? (i := 2) rfl)) rfl
theorem lk1857 : Cond.instanceMethod yX12_mix ∈ lw_all := lw_in (lkc1854 _ (List.mem_of_getElem? (i := 3) rfl)) rfl
theorem lk1858 : Cond.selects "VoiceHouseModel" yX12_mix yX12_mix ∈ lw_all := lw_in (lkc1854 _ (List.mem_of_getElem? (i := 4) rfl)) rfl
theorem lk1859 : Cond.code yX12_mix cX12_mix 6 (some (FieldType.int)) ∈ lw_all := lw_in (lkc1854 _ (List.mem_of_getElem? (i := 5) rfl)) rfl
theorem lk1860 : Cond.methodLink "VoiceHouseLaw" 166 yX12_resample ∈ lw_all := lw_in (lkc1854 _ (List.mem_of_getElem? (i := 6) rfl)) rfl
theorem lk1861 : Cond.instanceMethod yX12_resample ∈ lw_all := lw_in (lkc1854 _ (List.mem_of_getElem? (i := 7) rfl)) rfl
theorem lk1862 : Cond.selects "VoiceHouseModel" yX12_resample yX12_resample ∈ lw_all := lw_in (lkc1854 _ (List.mem_of_getElem? (i := 8) rfl)) rfl
theorem lk1863 : Cond.code yX12_resample cX12_resample 10 (some (FieldType.int)) ∈ lw_all := lw_in (lkc1854 _ (List.mem_of_getElem? (i := 9) rfl)) rfl
theorem lk1864 : Cond.methodLink "VoiceHouseLaw" 170 yX12_work ∈ lw_all := lw_in (lkc1854 _ (List.mem_of_getElem? (i := 10) rfl)) rfl
theorem lk1865 : Cond.instanceMethod yX12_work ∈ lw_all := lw_in (lkc1854 _ (List.mem_of_getElem? (i := 11) rfl)) rfl
theorem lk1866 : Cond.selects "VoiceHouseModel" yX12_work yX12_work ∈ lw_all := lw_in (lkc1854 _ (List.mem_of_getElem? (i := 12) rfl)) rfl
theorem lk1867 : Cond.code yX12_work cX12_work 2 (some (FieldType.int)) ∈ lw_all := lw_in (lkc1854 _ (List.mem_of_getElem? (i := 13) rfl)) rfl
theorem lk1868 : Cond.methodLink "VoiceHouseLaw" 174 yX12_trace ∈ lw_all := lw_in (lkc1854 _ (List.mem_of_getElem? (i := 14) rfl)) rfl
theorem lk1869 : Cond.instanceMethod yX12_trace ∈ lw_all := lw_in (lkc1854 _ (List.mem_of_getElem? (i := 15) rfl)) rfl
theorem lk1870 : Cond.selects "VoiceHouseModel" yX12_trace yX12_trace ∈ lw_all := lw_in (lkc1854 _ (List.mem_of_getElem? (i := 16) rfl)) rfl
theorem lk1871 : Cond.code yX12_trace cX12_trace 2 (some (FieldType.int)) ∈ lw_all := lw_in (lkc1854 _ (List.mem_of_getElem? (i := 17) rfl)) rfl
theorem lk1872 : Cond.methodLink "VoiceHouseLaw" 178 yX12_count ∈ lw_all := lw_in (lkc1854 _ (List.mem_of_getElem? (i := 18) rfl)) rfl
theorem lk1873 : Cond.instanceMethod yX12_count ∈ lw_all := lw_in (lkc1854 _ (List.mem_of_getElem? (i := 19) rfl)) rfl
theorem lk1874 : Cond.selects "VoiceHouseModel" yX12_count yX12_count ∈ lw_all := lw_in (lkc1854 _ (List.mem_of_getElem? (i := 20) rfl)) rfl
theorem lk1875 : Cond.code yX12_count cX12_count 3 (some (FieldType.int)) ∈ lw_all := lw_in (lkc1854 _ (List.mem_of_getElem? (i := 21) rfl)) rfl
theorem lk1876 : Cond.methodLink "VoiceHouseLaw" 182 yX12_found ∈ lw_all := lw_in (lkc1854 _ (List.mem_of_getElem? (i := 22) rfl)) rfl
theorem lk1877 : Cond.instanceMethod yX12_found ∈ lw_all := lw_in (lkc1854 _ (List.mem_of_getElem? (i := 23) rfl)) rfl
theorem lk1878 : Cond.selects "VoiceHouseModel" yX12_found yX12_found ∈ lw_all := lw_in (lkc1854 _ (List.mem_of_getElem? (i := 24) rfl)) rfl
theorem lk1879 : Cond.code yX12_found cX12_found 2 (some (FieldType.int)) ∈ lw_all := lw_in (lkc1879 _ (List.mem_of_getElem? (i := 0) rfl)) rfl
theorem lk1880 : Cond.methodLink "VoiceHouseLaw" 187 yX12_saturations ∈ lw_all := lw_in (lkc1879 _ (List.mem_of_getElem? (i := 1) rfl)) rfl
theorem lk1881 : Cond.instanceMethod yX12_saturations ∈ lw_all := lw_in (lkc1879 _ (List.mem_of_getElem? (i := 2) rfl)) rfl
theorem lk1882 : Cond.selects "VoiceHouseModel" yX12_saturations yX12_saturations ∈ lw_all := lw_in (lkc1879 _ (List.mem_of_getElem? (i := 3) rfl)) rfl
theorem lk1883 : Cond.code yX12_saturations cX12_saturations 1 (some (FieldType.long)) ∈ lw_all := lw_in (lkc1879 _ (List.mem_of_getElem? (i := 4) rfl)) rfl
theorem lk1884 : Cond.methodLink "VoiceHouseLaw" 191 yX12_digest ∈ lw_all := lw_in (lkc1879 _ (List.mem_of_getElem? (i := 5) rfl)) rfl
theorem lk1885 : Cond.instanceMethod yX12_digest ∈ lw_all := lw_in (lkc1879 _ (List.mem_of_getElem? (i := 6) rfl)) rfl
theorem lk1886 : Cond.selects "VoiceHouseModel" yX12_digest yX12_digest ∈ lw_all := lw_in (lkc1879 _ (List.mem_of_getElem? (i := 7) rfl)) rfl
theorem lk1887 : Cond.code yX12_digest cX12_digest 6 (some (FieldType.int)) ∈ lw_all := lw_in (lkc1879 _ (List.mem_of_getElem? (i := 8) rfl)) rfl
theorem lk1888 : Cond.methodLink "VoiceHouseLaw" 196 yX12_status ∈ lw_all := lw_in (lkc1879 _ (List.mem_of_getElem? (i := 9) rfl)) rfl
theorem lk1889 : Cond.instanceMethod yX12_status ∈ lw_all := lw_in (lkc1879 _ (List.mem_of_getElem? (i := 10) rfl)) rfl
theorem lk1890 : Cond.selects "VoiceHouseModel" yX12_status yX12_status ∈ lw_all := lw_in (lkc1879 _ (List.mem_of_getElem? (i := 11) rfl)) rfl
theorem lk1891 : Cond.code yX12_status cX12_status 1 (some (FieldType.int)) ∈ lw_all := lw_in (lkc1879 _ (List.mem_of_getElem? (i := 12) rfl)) rfl
theorem lk1892 : Cond.methodLink "VoiceHouseLaw" 200 yX12_told ∈ lw_all := lw_in (lkc1879 _ (List.mem_of_getElem? (i := 13) rfl)) rfl
theorem lk1893 : Cond.instanceMethod yX12_told ∈ lw_all := lw_in (lkc1879 _ (List.mem_of_getElem? (i := 14) rfl)) rfl
theorem lk1894 : Cond.selects "VoiceHouseModel" yX12_told yX12_told ∈ lw_all := lw_in (lkc1879 _ (List.mem_of_getElem? (i := 15) rfl)) rfl
theorem lk1895 : Cond.code yX12_told cX12_told 2 (some (FieldType.int)) ∈ lw_all := lw_in (lkc1879 _ (List.mem_of_getElem? (i := 16) rfl)) rfl
theorem lk1896 : Cond.methodLink "VoiceHouseLaw" 204 yX12_clear ∈ lw_all := lw_in (lkc1879 _ (List.mem_of_getElem? (i := 17) rfl)) rfl
theorem lk1897 : Cond.instanceMethod yX12_clear ∈ lw_all := lw_in (lkc1879 _ (List.mem_of_getElem? (i := 18) rfl)) rfl
theorem lk1898 : Cond.selects "VoiceHouseModel" yX12_clear yX12_clear ∈ lw_all := lw_in (lkc1879 _ (List.mem_of_getElem? (i := 19) rfl)) rfl
theorem lk1899 : Cond.code yX12_clear cX12_clear 2 (some (FieldType.int)) ∈ lw_all := lw_in (lkc1879 _ (List.mem_of_getElem? (i := 20) rfl)) rfl
theorem lk1900 : Cond.constantLong "VoiceHouseLaw" 116 (4294967295) ∈ lw_all := lw_in (lkc1879 _ (List.mem_of_getElem? (i := 21) rfl)) rfl
