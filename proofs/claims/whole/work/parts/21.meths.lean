abbrev mX0_init : mm_M := (yX0_init, cX0_init, 5, none, 3, 66)
theorem hdX0_init : (yX0_init.cls ≠ "java/lang/invoke/MethodHandle" ∧ yX0_init.cls ≠ "java/lang/invoke/VarHandle" ∧ (parseMethodDescriptor yX0_init.desc).map (fun d => d.parameters.length) = some 4) := by decide +kernel
abbrev mX0_addSample : mm_M := (yX0_addSample, cX0_addSample, 2, none, 0, 0)
theorem hdX0_addSample : (yX0_addSample.cls ≠ "java/lang/invoke/MethodHandle" ∧ yX0_addSample.cls ≠ "java/lang/invoke/VarHandle" ∧ (parseMethodDescriptor yX0_addSample.desc).map (fun d => d.parameters.length) = some 1) := by decide +kernel
abbrev mX0_takeWaiting : mm_M := (yX0_takeWaiting, cX0_takeWaiting, 3, none, 1, 26)
theorem hdX0_takeWaiting : (yX0_takeWaiting.cls ≠ "java/lang/invoke/MethodHandle" ∧ yX0_takeWaiting.cls ≠ "java/lang/invoke/VarHandle" ∧ (parseMethodDescriptor yX0_takeWaiting.desc).map (fun d => d.parameters.length) = some 2) := by decide +kernel
abbrev mX1_init : mm_M := (yX1_init, cX1_init, 4, none, 2, 42)
theorem hdX1_init : (yX1_init.cls ≠ "java/lang/invoke/MethodHandle" ∧ yX1_init.cls ≠ "java/lang/invoke/VarHandle" ∧ (parseMethodDescriptor yX1_init.desc).map (fun d => d.parameters.length) = some 3) := by decide +kernel
abbrev mX1_decodeNext : mm_M := (yX1_decodeNext, cX1_decodeNext, 5, none, 5, 122)
theorem hdX1_decodeNext : (yX1_decodeNext.cls ≠ "java/lang/invoke/MethodHandle" ∧ yX1_decodeNext.cls ≠ "java/lang/invoke/VarHandle" ∧ (parseMethodDescriptor yX1_decodeNext.desc).map (fun d => d.parameters.length) = some 1) := by decide +kernel
abbrev mX1_missed : mm_M := (yX1_missed, cX1_missed, 1, some (FieldType.int), 0, 0)
theorem hdX1_missed : (yX1_missed.cls ≠ "java/lang/invoke/MethodHandle" ∧ yX1_missed.cls ≠ "java/lang/invoke/VarHandle" ∧ (parseMethodDescriptor yX1_missed.desc).map (fun d => d.parameters.length) = some 0) := by decide +kernel
abbrev mX1_openedWith : mm_M := (yX1_openedWith, cX1_openedWith, 3, some (FieldType.int), 3, 62)
theorem hdX1_openedWith : (yX1_openedWith.cls ≠ "java/lang/invoke/MethodHandle" ∧ yX1_openedWith.cls ≠ "java/lang/invoke/VarHandle" ∧ (parseMethodDescriptor yX1_openedWith.desc).map (fun d => d.parameters.length) = some 1) := by decide +kernel
abbrev mX1_decodeFrame : mm_M := (yX1_decodeFrame, cX1_decodeFrame, 4, none, 4, 99)
theorem hdX1_decodeFrame : (yX1_decodeFrame.cls ≠ "java/lang/invoke/MethodHandle" ∧ yX1_decodeFrame.cls ≠ "java/lang/invoke/VarHandle" ∧ (parseMethodDescriptor yX1_decodeFrame.desc).map (fun d => d.parameters.length) = some 1) := by decide +kernel
abbrev mX1_repairFrom : mm_M := (yX1_repairFrom, cX1_repairFrom, 5, none, 4, 96)
theorem hdX1_repairFrom : (yX1_repairFrom.cls ≠ "java/lang/invoke/MethodHandle" ∧ yX1_repairFrom.cls ≠ "java/lang/invoke/VarHandle" ∧ (parseMethodDescriptor yX1_repairFrom.desc).map (fun d => d.parameters.length) = some 1) := by decide +kernel
abbrev mX1_filterAll : mm_M := (yX1_filterAll, cX1_filterAll, 3, none, 3, 77)
theorem hdX1_filterAll : (yX1_filterAll.cls ≠ "java/lang/invoke/MethodHandle" ∧ yX1_filterAll.cls ≠ "java/lang/invoke/VarHandle" ∧ (parseMethodDescriptor yX1_filterAll.desc).map (fun d => d.parameters.length) = some 1) := by decide +kernel
abbrev mX1_joinOn : mm_M := (yX1_joinOn, cX1_joinOn, 6, none, 2, 46)
theorem hdX1_joinOn : (yX1_joinOn.cls ≠ "java/lang/invoke/MethodHandle" ∧ yX1_joinOn.cls ≠ "java/lang/invoke/VarHandle" ∧ (parseMethodDescriptor yX1_joinOn.desc).map (fun d => d.parameters.length) = some 1) := by decide +kernel
abbrev mX1_greatestStep : mm_M := (yX1_greatestStep, cX1_greatestStep, 4, some (FieldType.int), 1, 23)
theorem hdX1_greatestStep : (yX1_greatestStep.cls ≠ "java/lang/invoke/MethodHandle" ∧ yX1_greatestStep.cls ≠ "java/lang/invoke/VarHandle" ∧ (parseMethodDescriptor yX1_greatestStep.desc).map (fun d => d.parameters.length) = some 2) := by decide +kernel
abbrev mX1_bringOut : mm_M := (yX1_bringOut, cX1_bringOut, 5, none, 1, 26)
theorem hdX1_bringOut : (yX1_bringOut.cls ≠ "java/lang/invoke/MethodHandle" ∧ yX1_bringOut.cls ≠ "java/lang/invoke/VarHandle" ∧ (parseMethodDescriptor yX1_bringOut.desc).map (fun d => d.parameters.length) = some 1) := by decide +kernel
abbrev mX2_init : mm_M := (yX2_init, cX2_init, 5, none, 2, 42)
theorem hdX2_init : (yX2_init.cls ≠ "java/lang/invoke/MethodHandle" ∧ yX2_init.cls ≠ "java/lang/invoke/VarHandle" ∧ (parseMethodDescriptor yX2_init.desc).map (fun d => d.parameters.length) = some 4) := by decide +kernel
abbrev mX2_encodeFrame : mm_M := (yX2_encodeFrame, cX2_encodeFrame, 7, some ((FieldType.array FieldType.byte)), 5, 129)
theorem hdX2_encodeFrame : (yX2_encodeFrame.cls ≠ "java/lang/invoke/MethodHandle" ∧ yX2_encodeFrame.cls ≠ "java/lang/invoke/VarHandle" ∧ (parseMethodDescriptor yX2_encodeFrame.desc).map (fun d => d.parameters.length) = some 0) := by decide +kernel
abbrev mX2_framed : mm_M := (yX2_framed, cX2_framed, 6, some (FieldType.int), 1, 23)
theorem hdX2_framed : (yX2_framed.cls ≠ "java/lang/invoke/MethodHandle" ∧ yX2_framed.cls ≠ "java/lang/invoke/VarHandle" ∧ (parseMethodDescriptor yX2_framed.desc).map (fun d => d.parameters.length) = some 1) := by decide +kernel
abbrev mX2_predict : mm_M := (yX2_predict, cX2_predict, 2, none, 4, 101)
theorem hdX2_predict : (yX2_predict.cls ≠ "java/lang/invoke/MethodHandle" ∧ yX2_predict.cls ≠ "java/lang/invoke/VarHandle" ∧ (parseMethodDescriptor yX2_predict.desc).map (fun d => d.parameters.length) = some 1) := by decide +kernel
abbrev mX2_whiten : mm_M := (yX2_whiten, cX2_whiten, 3, none, 2, 50)
theorem hdX2_whiten : (yX2_whiten.cls ≠ "java/lang/invoke/MethodHandle" ∧ yX2_whiten.cls ≠ "java/lang/invoke/VarHandle" ∧ (parseMethodDescriptor yX2_whiten.desc).map (fun d => d.parameters.length) = some 1) := by decide +kernel
abbrev mX2_encodeParts : mm_M := (yX2_encodeParts, cX2_encodeParts, 4, none, 4, 106)
theorem hdX2_encodeParts : (yX2_encodeParts.cls ≠ "java/lang/invoke/MethodHandle" ∧ yX2_encodeParts.cls ≠ "java/lang/invoke/VarHandle" ∧ (parseMethodDescriptor yX2_encodeParts.desc).map (fun d => d.parameters.length) = some 1) := by decide +kernel
abbrev mX2_correlate : mm_M := (yX2_correlate, cX2_correlate, 8, none, 0, 0)
theorem hdX2_correlate : (yX2_correlate.cls ≠ "java/lang/invoke/MethodHandle" ∧ yX2_correlate.cls ≠ "java/lang/invoke/VarHandle" ∧ (parseMethodDescriptor yX2_correlate.desc).map (fun d => d.parameters.length) = some 1) := by decide +kernel
abbrev mX2_reflect : mm_M := (yX2_reflect, cX2_reflect, 5, none, 3, 77)
theorem hdX2_reflect : (yX2_reflect.cls ≠ "java/lang/invoke/MethodHandle" ∧ yX2_reflect.cls ≠ "java/lang/invoke/VarHandle" ∧ (parseMethodDescriptor yX2_reflect.desc).map (fun d => d.parameters.length) = some 0) := by decide +kernel
abbrev mX2_reflectOnce : mm_M := (yX2_reflectOnce, cX2_reflectOnce, 11, none, 2, 47)
theorem hdX2_reflectOnce : (yX2_reflectOnce.cls ≠ "java/lang/invoke/MethodHandle" ∧ yX2_reflectOnce.cls ≠ "java/lang/invoke/VarHandle" ∧ (parseMethodDescriptor yX2_reflectOnce.desc).map (fun d => d.parameters.length) = some 2) := by decide +kernel
abbrev mX2_restOf : mm_M := (yX2_restOf, cX2_restOf, 8, some (FieldType.int), 1, 23)
theorem hdX2_restOf : (yX2_restOf.cls ≠ "java/lang/invoke/MethodHandle" ∧ yX2_restOf.cls ≠ "java/lang/invoke/VarHandle" ∧ (parseMethodDescriptor yX2_restOf.desc).map (fun d => d.parameters.length) = some 1) := by decide +kernel
abbrev mX2_headed : mm_M := (yX2_headed, cX2_headed, 5, some ((FieldType.array FieldType.byte)), 0, 0)
theorem hdX2_headed : (yX2_headed.cls ≠ "java/lang/invoke/MethodHandle" ∧ yX2_headed.cls ≠ "java/lang/invoke/VarHandle" ∧ (parseMethodDescriptor yX2_headed.desc).map (fun d => d.parameters.length) = some 1) := by decide +kernel
abbrev mX2_writeBody : mm_M := (yX2_writeBody, cX2_writeBody, 5, none, 1, 22)
theorem hdX2_writeBody : (yX2_writeBody.cls ≠ "java/lang/invoke/MethodHandle" ∧ yX2_writeBody.cls ≠ "java/lang/invoke/VarHandle" ∧ (parseMethodDescriptor yX2_writeBody.desc).map (fun d => d.parameters.length) = some 3) := by decide +kernel
abbrev mX2_wholeCost : mm_M := (yX2_wholeCost, cX2_wholeCost, 5, some (FieldType.long), 4, 106)
theorem hdX2_wholeCost : (yX2_wholeCost.cls ≠ "java/lang/invoke/MethodHandle" ∧ yX2_wholeCost.cls ≠ "java/lang/invoke/VarHandle" ∧ (parseMethodDescriptor yX2_wholeCost.desc).map (fun d => d.parameters.length) = some 2) := by decide +kernel
abbrev mX3_init : mm_M := (yX3_init, cX3_init, 2, none, 1, 20)
theorem hdX3_init : (yX3_init.cls ≠ "java/lang/invoke/MethodHandle" ∧ yX3_init.cls ≠ "java/lang/invoke/VarHandle" ∧ (parseMethodDescriptor yX3_init.desc).map (fun d => d.parameters.length) = some 1) := by decide +kernel
abbrev mX3_pass : mm_M := (yX3_pass, cX3_pass, 6, none, 2, 52)
theorem hdX3_pass : (yX3_pass.cls ≠ "java/lang/invoke/MethodHandle" ∧ yX3_pass.cls ≠ "java/lang/invoke/VarHandle" ∧ (parseMethodDescriptor yX3_pass.desc).map (fun d => d.parameters.length) = some 5) := by decide +kernel
abbrev mX3_addNoise : mm_M := (yX3_addNoise, cX3_addNoise, 6, none, 1, 22)
theorem hdX3_addNoise : (yX3_addNoise.cls ≠ "java/lang/invoke/MethodHandle" ∧ yX3_addNoise.cls ≠ "java/lang/invoke/VarHandle" ∧ (parseMethodDescriptor yX3_addNoise.desc).map (fun d => d.parameters.length) = some 4) := by decide +kernel
abbrev mX3_tilt : mm_M := (yX3_tilt, cX3_tilt, 6, none, 1, 23)
theorem hdX3_tilt : (yX3_tilt.cls ≠ "java/lang/invoke/MethodHandle" ∧ yX3_tilt.cls ≠ "java/lang/invoke/VarHandle" ∧ (parseMethodDescriptor yX3_tilt.desc).map (fun d => d.parameters.length) = some 3) := by decide +kernel
abbrev mX3_comb : mm_M := (yX3_comb, cX3_comb, 7, none, 1, 26)
theorem hdX3_comb : (yX3_comb.cls ≠ "java/lang/invoke/MethodHandle" ∧ yX3_comb.cls ≠ "java/lang/invoke/VarHandle" ∧ (parseMethodDescriptor yX3_comb.desc).map (fun d => d.parameters.length) = some 4) := by decide +kernel
abbrev mX3_emphasize : mm_M := (yX3_emphasize, cX3_emphasize, 5, none, 1, 23)
theorem hdX3_emphasize : (yX3_emphasize.cls ≠ "java/lang/invoke/MethodHandle" ∧ yX3_emphasize.cls ≠ "java/lang/invoke/VarHandle" ∧ (parseMethodDescriptor yX3_emphasize.desc).map (fun d => d.parameters.length) = some 3) := by decide +kernel
abbrev mX4_init : mm_M := (yX4_init, cX4_init, 4, none, 1, 20)
theorem hdX4_init : (yX4_init.cls ≠ "java/lang/invoke/MethodHandle" ∧ yX4_init.cls ≠ "java/lang/invoke/VarHandle" ∧ (parseMethodDescriptor yX4_init.desc).map (fun d => d.parameters.length) = some 3) := by decide +kernel
abbrev mX4_hasRow : mm_M := (yX4_hasRow, cX4_hasRow, 1, some (FieldType.boolean), 0, 0)
theorem hdX4_hasRow : (yX4_hasRow.cls ≠ "java/lang/invoke/MethodHandle" ∧ yX4_hasRow.cls ≠ "java/lang/invoke/VarHandle" ∧ (parseMethodDescriptor yX4_hasRow.desc).map (fun d => d.parameters.length) = some 0) := by decide +kernel
abbrev mX4_size : mm_M := (yX4_size, cX4_size, 1, some (FieldType.int), 0, 0)
theorem hdX4_size : (yX4_size.cls ≠ "java/lang/invoke/MethodHandle" ∧ yX4_size.cls ≠ "java/lang/invoke/VarHandle" ∧ (parseMethodDescriptor yX4_size.desc).map (fun d => d.parameters.length) = some 0) := by decide +kernel
abbrev mX4_has : mm_M := (yX4_has, cX4_has, 2, some (FieldType.boolean), 1, 20)
theorem hdX4_has : (yX4_has.cls ≠ "java/lang/invoke/MethodHandle" ∧ yX4_has.cls ≠ "java/lang/invoke/VarHandle" ∧ (parseMethodDescriptor yX4_has.desc).map (fun d => d.parameters.length) = some 1) := by decide +kernel
abbrev mX4_read : mm_M := (yX4_read, cX4_read, 2, some (FieldType.int), 2, 41)
theorem hdX4_read : (yX4_read.cls ≠ "java/lang/invoke/MethodHandle" ∧ yX4_read.cls ≠ "java/lang/invoke/VarHandle" ∧ (parseMethodDescriptor yX4_read.desc).map (fun d => d.parameters.length) = some 1) := by decide +kernel
abbrev mX4_flip : mm_M := (yX4_flip, cX4_flip, 3, none, 2, 41)
theorem hdX4_flip : (yX4_flip.cls ≠ "java/lang/invoke/MethodHandle" ∧ yX4_flip.cls ≠ "java/lang/invoke/VarHandle" ∧ (parseMethodDescriptor yX4_flip.desc).map (fun d => d.parameters.length) = some 2) := by decide +kernel
abbrev mX4_shorten : mm_M := (yX4_shorten, cX4_shorten, 2, none, 2, 48)
theorem hdX4_shorten : (yX4_shorten.cls ≠ "java/lang/invoke/MethodHandle" ∧ yX4_shorten.cls ≠ "java/lang/invoke/VarHandle" ∧ (parseMethodDescriptor yX4_shorten.desc).map (fun d => d.parameters.length) = some 1) := by decide +kernel
abbrev mX4_widen : mm_M := (yX4_widen, cX4_widen, 2, none, 0, 0)
theorem hdX4_widen : (yX4_widen.cls ≠ "java/lang/invoke/MethodHandle" ∧ yX4_widen.cls ≠ "java/lang/invoke/VarHandle" ∧ (parseMethodDescriptor yX4_widen.desc).map (fun d => d.parameters.length) = some 0) := by decide +kernel
abbrev mX4_openingFinding : mm_M := (yX4_openingFinding, cX4_openingFinding, 2, some (FieldType.int), 2, 41)
theorem hdX4_openingFinding : (yX4_openingFinding.cls ≠ "java/lang/invoke/MethodHandle" ∧ yX4_openingFinding.cls ≠ "java/lang/invoke/VarHandle" ∧ (parseMethodDescriptor yX4_openingFinding.desc).map (fun d => d.parameters.length) = some 0) := by decide +kernel
abbrev mX4_at : mm_M := (yX4_at, cX4_at, 2, some (FieldType.int), 0, 0)
theorem hdX4_at : (yX4_at.cls ≠ "java/lang/invoke/MethodHandle" ∧ yX4_at.cls ≠ "java/lang/invoke/VarHandle" ∧ (parseMethodDescriptor yX4_at.desc).map (fun d => d.parameters.length) = some 1) := by decide +kernel
abbrev mX4_isVoice : mm_M := (yX4_isVoice, cX4_isVoice, 1, some (FieldType.boolean), 1, 21)
theorem hdX4_isVoice : (yX4_isVoice.cls ≠ "java/lang/invoke/MethodHandle" ∧ yX4_isVoice.cls ≠ "java/lang/invoke/VarHandle" ∧ (parseMethodDescriptor yX4_isVoice.desc).map (fun d => d.parameters.length) = some 0) := by decide +kernel
abbrev mX4_spareBytes : mm_M := (yX4_spareBytes, cX4_spareBytes, 1, some (FieldType.int), 1, 21)
theorem hdX4_spareBytes : (yX4_spareBytes.cls ≠ "java/lang/invoke/MethodHandle" ∧ yX4_spareBytes.cls ≠ "java/lang/invoke/VarHandle" ∧ (parseMethodDescriptor yX4_spareBytes.desc).map (fun d => d.parameters.length) = some 0) := by decide +kernel
abbrev mX4_spare : mm_M := (yX4_spare, cX4_spare, 2, some (FieldType.int), 1, 21)
theorem hdX4_spare : (yX4_spare.cls ≠ "java/lang/invoke/MethodHandle" ∧ yX4_spare.cls ≠ "java/lang/invoke/VarHandle" ∧ (parseMethodDescriptor yX4_spare.desc).map (fun d => d.parameters.length) = some 1) := by decide +kernel
abbrev mX5_init : mm_M := (yX5_init, cX5_init, 1, none, 1, 20)
theorem hdX5_init : (yX5_init.cls ≠ "java/lang/invoke/MethodHandle" ∧ yX5_init.cls ≠ "java/lang/invoke/VarHandle" ∧ (parseMethodDescriptor yX5_init.desc).map (fun d => d.parameters.length) = some 0) := by decide +kernel
abbrev mX5_isFull : mm_M := (yX5_isFull, cX5_isFull, 1, some (FieldType.boolean), 0, 0)
theorem hdX5_isFull : (yX5_isFull.cls ≠ "java/lang/invoke/MethodHandle" ∧ yX5_isFull.cls ≠ "java/lang/invoke/VarHandle" ∧ (parseMethodDescriptor yX5_isFull.desc).map (fun d => d.parameters.length) = some 0) := by decide +kernel
abbrev mX5_insert : mm_M := (yX5_insert, cX5_insert, 4, none, 1, 20)
theorem hdX5_insert : (yX5_insert.cls ≠ "java/lang/invoke/MethodHandle" ∧ yX5_insert.cls ≠ "java/lang/invoke/VarHandle" ∧ (parseMethodDescriptor yX5_insert.desc).map (fun d => d.parameters.length) = some 2) := by decide +kernel
abbrev mX5_remove : mm_M := (yX5_remove, cX5_remove, 3, none, 0, 0)
theorem hdX5_remove : (yX5_remove.cls ≠ "java/lang/invoke/MethodHandle" ∧ yX5_remove.cls ≠ "java/lang/invoke/VarHandle" ∧ (parseMethodDescriptor yX5_remove.desc).map (fun d => d.parameters.length) = some 1) := by decide +kernel
abbrev mX5_placeOf : mm_M := (yX5_placeOf, cX5_placeOf, 3, some (FieldType.int), 0, 0)
theorem hdX5_placeOf : (yX5_placeOf.cls ≠ "java/lang/invoke/MethodHandle" ∧ yX5_placeOf.cls ≠ "java/lang/invoke/VarHandle" ∧ (parseMethodDescriptor yX5_placeOf.desc).map (fun d => d.parameters.length) = some 1) := by decide +kernel
abbrev mX5_first : mm_M := (yX5_first, cX5_first, 3, some ((FieldType.object "VoiceHouse$Frame")), 1, 22)
theorem hdX5_first : (yX5_first.cls ≠ "java/lang/invoke/MethodHandle" ∧ yX5_first.cls ≠ "java/lang/invoke/VarHandle" ∧ (parseMethodDescriptor yX5_first.desc).map (fun d => d.parameters.length) = some 1) := by decide +kernel
abbrev mX5_takeFirst : mm_M := (yX5_takeFirst, cX5_takeFirst, 4, some ((FieldType.object "VoiceHouse$Frame")), 1, 22)
theorem hdX5_takeFirst : (yX5_takeFirst.cls ≠ "java/lang/invoke/MethodHandle" ∧ yX5_takeFirst.cls ≠ "java/lang/invoke/VarHandle" ∧ (parseMethodDescriptor yX5_takeFirst.desc).map (fun d => d.parameters.length) = some 1) := by decide +kernel
abbrev mX5_removeLate : mm_M := (yX5_removeLate, cX5_removeLate, 4, some (FieldType.int), 1, 22)
theorem hdX5_removeLate : (yX5_removeLate.cls ≠ "java/lang/invoke/MethodHandle" ∧ yX5_removeLate.cls ≠ "java/lang/invoke/VarHandle" ∧ (parseMethodDescriptor yX5_removeLate.desc).map (fun d => d.parameters.length) = some 1) := by decide +kernel
abbrev mX6_init : mm_M := (yX6_init, cX6_init, 3, none, 1, 20)
theorem hdX6_init : (yX6_init.cls ≠ "java/lang/invoke/MethodHandle" ∧ yX6_init.cls ≠ "java/lang/invoke/VarHandle" ∧ (parseMethodDescriptor yX6_init.desc).map (fun d => d.parameters.length) = some 2) := by decide +kernel
abbrev mX6_speak : mm_M := (yX6_speak, cX6_speak, 7, none, 3, 72)
theorem hdX6_speak : (yX6_speak.cls ≠ "java/lang/invoke/MethodHandle" ∧ yX6_speak.cls ≠ "java/lang/invoke/VarHandle" ∧ (parseMethodDescriptor yX6_speak.desc).map (fun d => d.parameters.length) = some 3) := by decide +kernel
abbrev mX6_echo : mm_M := (yX6_echo, cX6_echo, 5, none, 3, 72)
theorem hdX6_echo : (yX6_echo.cls ≠ "java/lang/invoke/MethodHandle" ∧ yX6_echo.cls ≠ "java/lang/invoke/VarHandle" ∧ (parseMethodDescriptor yX6_echo.desc).map (fun d => d.parameters.length) = some 3) := by decide +kernel
abbrev mX6_hush : mm_M := (yX6_hush, cX6_hush, 8, none, 3, 72)
theorem hdX6_hush : (yX6_hush.cls ≠ "java/lang/invoke/MethodHandle" ∧ yX6_hush.cls ≠ "java/lang/invoke/VarHandle" ∧ (parseMethodDescriptor yX6_hush.desc).map (fun d => d.parameters.length) = some 3) := by decide +kernel
abbrev mX6_settle : mm_M := (yX6_settle, cX6_settle, 4, none, 2, 49)
theorem hdX6_settle : (yX6_settle.cls ≠ "java/lang/invoke/MethodHandle" ∧ yX6_settle.cls ≠ "java/lang/invoke/VarHandle" ∧ (parseMethodDescriptor yX6_settle.desc).map (fun d => d.parameters.length) = some 2) := by decide +kernel
abbrev mX6_synthesized : mm_M := (yX6_synthesized, cX6_synthesized, 7, some (FieldType.int), 1, 23)
theorem hdX6_synthesized : (yX6_synthesized.cls ≠ "java/lang/invoke/MethodHandle" ∧ yX6_synthesized.cls ≠ "java/lang/invoke/VarHandle" ∧ (parseMethodDescriptor yX6_synthesized.desc).map (fun d => d.parameters.length) = some 1) := by decide +kernel
abbrev mX6_digested : mm_M := (yX6_digested, cX6_digested, 2, some (FieldType.int), 1, 26)
theorem hdX6_digested : (yX6_digested.cls ≠ "java/lang/invoke/MethodHandle" ∧ yX6_digested.cls ≠ "java/lang/invoke/VarHandle" ∧ (parseMethodDescriptor yX6_digested.desc).map (fun d => d.parameters.length) = some 0) := by decide +kernel
abbrev mX6_digestRow : mm_M := (yX6_digestRow, cX6_digestRow, 7, some (FieldType.int), 0, 0)
theorem hdX6_digestRow : (yX6_digestRow.cls ≠ "java/lang/invoke/MethodHandle" ∧ yX6_digestRow.cls ≠ "java/lang/invoke/VarHandle" ∧ (parseMethodDescriptor yX6_digestRow.desc).map (fun d => d.parameters.length) = some 2) := by decide +kernel
abbrev mX7_init : mm_M := (yX7_init, cX7_init, 1, none, 1, 20)
theorem hdX7_init : (yX7_init.cls ≠ "java/lang/invoke/MethodHandle" ∧ yX7_init.cls ≠ "java/lang/invoke/VarHandle" ∧ (parseMethodDescriptor yX7_init.desc).map (fun d => d.parameters.length) = some 0) := by decide +kernel
abbrev mX7_choice : mm_M := (yX7_choice, cX7_choice, 2, some (FieldType.int), 0, 0)
theorem hdX7_choice : (yX7_choice.cls ≠ "java/lang/invoke/MethodHandle" ∧ yX7_choice.cls ≠ "java/lang/invoke/VarHandle" ∧ (parseMethodDescriptor yX7_choice.desc).map (fun d => d.parameters.length) = some 1) := by decide +kernel
abbrev mX7_costOf : mm_M := (yX7_costOf, cX7_costOf, 2, some (FieldType.long), 0, 0)
theorem hdX7_costOf : (yX7_costOf.cls ≠ "java/lang/invoke/MethodHandle" ∧ yX7_costOf.cls ≠ "java/lang/invoke/VarHandle" ∧ (parseMethodDescriptor yX7_costOf.desc).map (fun d => d.parameters.length) = some 1) := by decide +kernel
abbrev mX7_drawPulses : mm_M := (yX7_drawPulses, cX7_drawPulses, 3, none, 1, 24)
theorem hdX7_drawPulses : (yX7_drawPulses.cls ≠ "java/lang/invoke/MethodHandle" ∧ yX7_drawPulses.cls ≠ "java/lang/invoke/VarHandle" ∧ (parseMethodDescriptor yX7_drawPulses.desc).map (fun d => d.parameters.length) = some 2) := by decide +kernel
abbrev mX7_addPulse : mm_M := (yX7_addPulse, cX7_addPulse, 5, none, 0, 0)
theorem hdX7_addPulse : (yX7_addPulse.cls ≠ "java/lang/invoke/MethodHandle" ∧ yX7_addPulse.cls ≠ "java/lang/invoke/VarHandle" ∧ (parseMethodDescriptor yX7_addPulse.desc).map (fun d => d.parameters.length) = some 4) := by decide +kernel
abbrev mX7_write : mm_M := (yX7_write, cX7_write, 3, none, 0, 0)
theorem hdX7_write : (yX7_write.cls ≠ "java/lang/invoke/MethodHandle" ∧ yX7_write.cls ≠ "java/lang/invoke/VarHandle" ∧ (parseMethodDescriptor yX7_write.desc).map (fun d => d.parameters.length) = some 2) := by decide +kernel
abbrev mX7_readFrom : mm_M := (yX7_readFrom, cX7_readFrom, 4, none, 1, 23)
theorem hdX7_readFrom : (yX7_readFrom.cls ≠ "java/lang/invoke/MethodHandle" ∧ yX7_readFrom.cls ≠ "java/lang/invoke/VarHandle" ∧ (parseMethodDescriptor yX7_readFrom.desc).map (fun d => d.parameters.length) = some 3) := by decide +kernel
abbrev mX7_placeOf : mm_M := (yX7_placeOf, cX7_placeOf, 3, some (FieldType.int), 0, 0)
theorem hdX7_placeOf : (yX7_placeOf.cls ≠ "java/lang/invoke/MethodHandle" ∧ yX7_placeOf.cls ≠ "java/lang/invoke/VarHandle" ∧ (parseMethodDescriptor yX7_placeOf.desc).map (fun d => d.parameters.length) = some 2) := by decide +kernel
abbrev mX8_init : mm_M := (yX8_init, cX8_init, 1, none, 1, 20)
theorem hdX8_init : (yX8_init.cls ≠ "java/lang/invoke/MethodHandle" ∧ yX8_init.cls ≠ "java/lang/invoke/VarHandle" ∧ (parseMethodDescriptor yX8_init.desc).map (fun d => d.parameters.length) = some 0) := by decide +kernel
abbrev mX8_wipe : mm_M := (yX8_wipe, cX8_wipe, 1, none, 1, 24)
theorem hdX8_wipe : (yX8_wipe.cls ≠ "java/lang/invoke/MethodHandle" ∧ yX8_wipe.cls ≠ "java/lang/invoke/VarHandle" ∧ (parseMethodDescriptor yX8_wipe.desc).map (fun d => d.parameters.length) = some 0) := by decide +kernel
abbrev mX8_leftovers : mm_M := (yX8_leftovers, cX8_leftovers, 1, some (FieldType.int), 1, 26)
theorem hdX8_leftovers : (yX8_leftovers.cls ≠ "java/lang/invoke/MethodHandle" ∧ yX8_leftovers.cls ≠ "java/lang/invoke/VarHandle" ∧ (parseMethodDescriptor yX8_leftovers.desc).map (fun d => d.parameters.length) = some 0) := by decide +kernel
abbrev mX8_inRow : mm_M := (yX8_inRow, cX8_inRow, 6, some (FieldType.int), 0, 0)
theorem hdX8_inRow : (yX8_inRow.cls ≠ "java/lang/invoke/MethodHandle" ∧ yX8_inRow.cls ≠ "java/lang/invoke/VarHandle" ∧ (parseMethodDescriptor yX8_inRow.desc).map (fun d => d.parameters.length) = some 1) := by decide +kernel
abbrev mX8_inLongRow : mm_M := (yX8_inLongRow, cX8_inLongRow, 7, some (FieldType.int), 0, 0)
theorem hdX8_inLongRow : (yX8_inLongRow.cls ≠ "java/lang/invoke/MethodHandle" ∧ yX8_inLongRow.cls ≠ "java/lang/invoke/VarHandle" ∧ (parseMethodDescriptor yX8_inLongRow.desc).map (fun d => d.parameters.length) = some 1) := by decide +kernel
abbrev mX9_init : mm_M := (yX9_init, cX9_init, 2, none, 2, 40)
theorem hdX9_init : (yX9_init.cls ≠ "java/lang/invoke/MethodHandle" ∧ yX9_init.cls ≠ "java/lang/invoke/VarHandle" ∧ (parseMethodDescriptor yX9_init.desc).map (fun d => d.parameters.length) = some 1) := by decide +kernel
abbrev mX9_load : mm_M := (yX9_load, cX9_load, 5, none, 1, 26)
theorem hdX9_load : (yX9_load.cls ≠ "java/lang/invoke/MethodHandle" ∧ yX9_load.cls ≠ "java/lang/invoke/VarHandle" ∧ (parseMethodDescriptor yX9_load.desc).map (fun d => d.parameters.length) = some 4) := by decide +kernel
abbrev mX9_findPitch : mm_M := (yX9_findPitch, cX9_findPitch, 4, none, 3, 80)
theorem hdX9_findPitch : (yX9_findPitch.cls ≠ "java/lang/invoke/MethodHandle" ∧ yX9_findPitch.cls ≠ "java/lang/invoke/VarHandle" ∧ (parseMethodDescriptor yX9_findPitch.desc).map (fun d => d.parameters.length) = some 2) := by decide +kernel
abbrev mX9_tryLags : mm_M := (yX9_tryLags, cX9_tryLags, 6, none, 2, 55)
theorem hdX9_tryLags : (yX9_tryLags.cls ≠ "java/lang/invoke/MethodHandle" ∧ yX9_tryLags.cls ≠ "java/lang/invoke/VarHandle" ∧ (parseMethodDescriptor yX9_tryLags.desc).map (fun d => d.parameters.length) = some 4) := by decide +kernel
abbrev mX9_tryLag : mm_M := (yX9_tryLag, cX9_tryLag, 10, none, 1, 26)
theorem hdX9_tryLag : (yX9_tryLag.cls ≠ "java/lang/invoke/MethodHandle" ∧ yX9_tryLag.cls ≠ "java/lang/invoke/VarHandle" ∧ (parseMethodDescriptor yX9_tryLag.desc).map (fun d => d.parameters.length) = some 2) := by decide +kernel
abbrev mX9_findPulses : mm_M := (yX9_findPulses, cX9_findPulses, 3, none, 3, 84)
theorem hdX9_findPulses : (yX9_findPulses.cls ≠ "java/lang/invoke/MethodHandle" ∧ yX9_findPulses.cls ≠ "java/lang/invoke/VarHandle" ∧ (parseMethodDescriptor yX9_findPulses.desc).map (fun d => d.parameters.length) = some 2) := by decide +kernel
abbrev mX9_weighPlaces : mm_M := (yX9_weighPlaces, cX9_weighPlaces, 5, none, 1, 26)
theorem hdX9_weighPlaces : (yX9_weighPlaces.cls ≠ "java/lang/invoke/MethodHandle" ∧ yX9_weighPlaces.cls ≠ "java/lang/invoke/VarHandle" ∧ (parseMethodDescriptor yX9_weighPlaces.desc).map (fun d => d.parameters.length) = some 1) := by decide +kernel
abbrev mX9_overlap : mm_M := (yX9_overlap, cX9_overlap, 6, some (FieldType.int), 0, 0)
theorem hdX9_overlap : (yX9_overlap.cls ≠ "java/lang/invoke/MethodHandle" ∧ yX9_overlap.cls ≠ "java/lang/invoke/VarHandle" ∧ (parseMethodDescriptor yX9_overlap.desc).map (fun d => d.parameters.length) = some 2) := by decide +kernel
abbrev mX9_findEven : mm_M := (yX9_findEven, cX9_findEven, 4, none, 1, 32)
theorem hdX9_findEven : (yX9_findEven.cls ≠ "java/lang/invoke/MethodHandle" ∧ yX9_findEven.cls ≠ "java/lang/invoke/VarHandle" ∧ (parseMethodDescriptor yX9_findEven.desc).map (fun d => d.parameters.length) = some 1) := by decide +kernel
abbrev mX9_findPair : mm_M := (yX9_findPair, cX9_findPair, 4, none, 2, 61)
theorem hdX9_findPair : (yX9_findPair.cls ≠ "java/lang/invoke/MethodHandle" ∧ yX9_findPair.cls ≠ "java/lang/invoke/VarHandle" ∧ (parseMethodDescriptor yX9_findPair.desc).map (fun d => d.parameters.length) = some 1) := by decide +kernel
abbrev mX9_findOdd : mm_M := (yX9_findOdd, cX9_findOdd, 10, some (FieldType.boolean), 1, 32)
theorem hdX9_findOdd : (yX9_findOdd.cls ≠ "java/lang/invoke/MethodHandle" ∧ yX9_findOdd.cls ≠ "java/lang/invoke/VarHandle" ∧ (parseMethodDescriptor yX9_findOdd.desc).map (fun d => d.parameters.length) = some 3) := by decide +kernel
abbrev mX9_turned : mm_M := (yX9_turned, cX9_turned, 2, some (FieldType.int), 0, 0)
theorem hdX9_turned : (yX9_turned.cls ≠ "java/lang/invoke/MethodHandle" ∧ yX9_turned.cls ≠ "java/lang/invoke/VarHandle" ∧ (parseMethodDescriptor yX9_turned.desc).map (fun d => d.parameters.length) = some 2) := by decide +kernel
abbrev mX9_betters : mm_M := (yX9_betters, cX9_betters, 13, some (FieldType.boolean), 0, 0)
theorem hdX9_betters : (yX9_betters.cls ≠ "java/lang/invoke/MethodHandle" ∧ yX9_betters.cls ≠ "java/lang/invoke/VarHandle" ∧ (parseMethodDescriptor yX9_betters.desc).map (fun d => d.parameters.length) = some 2) := by decide +kernel
abbrev mX10_init : mm_M := (yX10_init, cX10_init, 1, none, 1, 20)
theorem hdX10_init : (yX10_init.cls ≠ "java/lang/invoke/MethodHandle" ∧ yX10_init.cls ≠ "java/lang/invoke/VarHandle" ∧ (parseMethodDescriptor yX10_init.desc).map (fun d => d.parameters.length) = some 0) := by decide +kernel
abbrev mX10_mark : mm_M := (yX10_mark, cX10_mark, 2, none, 0, 0)
theorem hdX10_mark : (yX10_mark.cls ≠ "java/lang/invoke/MethodHandle" ∧ yX10_mark.cls ≠ "java/lang/invoke/VarHandle" ∧ (parseMethodDescriptor yX10_mark.desc).map (fun d => d.parameters.length) = some 1) := by decide +kernel
abbrev mX10_narrow : mm_M := (yX10_narrow, cX10_narrow, 3, some (FieldType.int), 0, 0)
theorem hdX10_narrow : (yX10_narrow.cls ≠ "java/lang/invoke/MethodHandle" ∧ yX10_narrow.cls ≠ "java/lang/invoke/VarHandle" ∧ (parseMethodDescriptor yX10_narrow.desc).map (fun d => d.parameters.length) = some 1) := by decide +kernel
abbrev mX10_bounded : mm_M := (yX10_bounded, cX10_bounded, 5, some (FieldType.long), 1, 23)
theorem hdX10_bounded : (yX10_bounded.cls ≠ "java/lang/invoke/MethodHandle" ∧ yX10_bounded.cls ≠ "java/lang/invoke/VarHandle" ∧ (parseMethodDescriptor yX10_bounded.desc).map (fun d => d.parameters.length) = some 1) := by decide +kernel
abbrev mX10_nearestIndex : mm_M := (yX10_nearestIndex, cX10_nearestIndex, 5, some (FieldType.int), 1, 23)
theorem hdX10_nearestIndex : (yX10_nearestIndex.cls ≠ "java/lang/invoke/MethodHandle" ∧ yX10_nearestIndex.cls ≠ "java/lang/invoke/VarHandle" ∧ (parseMethodDescriptor yX10_nearestIndex.desc).map (fun d => d.parameters.length) = some 1) := by decide +kernel
abbrev mX11_init : mm_M := (yX11_init, cX11_init, 1, none, 3, 61)
theorem hdX11_init : (yX11_init.cls ≠ "java/lang/invoke/MethodHandle" ∧ yX11_init.cls ≠ "java/lang/invoke/VarHandle" ∧ (parseMethodDescriptor yX11_init.desc).map (fun d => d.parameters.length) = some 0) := by decide +kernel
abbrev mX11_coder : mm_M := (yX11_coder, cX11_coder, 2, some (FieldType.int), 4, 90)
theorem hdX11_coder : (yX11_coder.cls ≠ "java/lang/invoke/MethodHandle" ∧ yX11_coder.cls ≠ "java/lang/invoke/VarHandle" ∧ (parseMethodDescriptor yX11_coder.desc).map (fun d => d.parameters.length) = some 1) := by decide +kernel
abbrev mX11_rate : mm_M := (yX11_rate, cX11_rate, 5, some (FieldType.int), 1, 21)
theorem hdX11_rate : (yX11_rate.cls ≠ "java/lang/invoke/MethodHandle" ∧ yX11_rate.cls ≠ "java/lang/invoke/VarHandle" ∧ (parseMethodDescriptor yX11_rate.desc).map (fun d => d.parameters.length) = some 2) := by decide +kernel
abbrev mX11_emphasis : mm_M := (yX11_emphasis, cX11_emphasis, 5, some (FieldType.int), 1, 21)
theorem hdX11_emphasis : (yX11_emphasis.cls ≠ "java/lang/invoke/MethodHandle" ∧ yX11_emphasis.cls ≠ "java/lang/invoke/VarHandle" ∧ (parseMethodDescriptor yX11_emphasis.desc).map (fun d => d.parameters.length) = some 2) := by decide +kernel
abbrev mX11_search : mm_M := (yX11_search, cX11_search, 7, some (FieldType.int), 1, 21)
theorem hdX11_search : (yX11_search.cls ≠ "java/lang/invoke/MethodHandle" ∧ yX11_search.cls ≠ "java/lang/invoke/VarHandle" ∧ (parseMethodDescriptor yX11_search.desc).map (fun d => d.parameters.length) = some 3) := by decide +kernel
abbrev mX11_silence : mm_M := (yX11_silence, cX11_silence, 5, some (FieldType.int), 1, 21)
theorem hdX11_silence : (yX11_silence.cls ≠ "java/lang/invoke/MethodHandle" ∧ yX11_silence.cls ≠ "java/lang/invoke/VarHandle" ∧ (parseMethodDescriptor yX11_silence.desc).map (fun d => d.parameters.length) = some 2) := by decide +kernel
abbrev mX11_redundancy : mm_M := (yX11_redundancy, cX11_redundancy, 5, some (FieldType.int), 1, 21)
theorem hdX11_redundancy : (yX11_redundancy.cls ≠ "java/lang/invoke/MethodHandle" ∧ yX11_redundancy.cls ≠ "java/lang/invoke/VarHandle" ∧ (parseMethodDescriptor yX11_redundancy.desc).map (fun d => d.parameters.length) = some 2) := by decide +kernel
abbrev mX11_start : mm_M := (yX11_start, cX11_start, 4, some (FieldType.int), 1, 21)
theorem hdX11_start : (yX11_start.cls ≠ "java/lang/invoke/MethodHandle" ∧ yX11_start.cls ≠ "java/lang/invoke/VarHandle" ∧ (parseMethodDescriptor yX11_start.desc).map (fun d => d.parameters.length) = some 2) := by decide +kernel
abbrev mX11_sample : mm_M := (yX11_sample, cX11_sample, 4, some (FieldType.int), 1, 21)
theorem hdX11_sample : (yX11_sample.cls ≠ "java/lang/invoke/MethodHandle" ∧ yX11_sample.cls ≠ "java/lang/invoke/VarHandle" ∧ (parseMethodDescriptor yX11_sample.desc).map (fun d => d.parameters.length) = some 2) := by decide +kernel
abbrev mX11_wave : mm_M := (yX11_wave, cX11_wave, 10, some (FieldType.int), 2, 47)
theorem hdX11_wave : (yX11_wave.cls ≠ "java/lang/invoke/MethodHandle" ∧ yX11_wave.cls ≠ "java/lang/invoke/VarHandle" ∧ (parseMethodDescriptor yX11_wave.desc).map (fun d => d.parameters.length) = some 5) := by decide +kernel
abbrev mX11_encode : mm_M := (yX11_encode, cX11_encode, 4, some (FieldType.int), 6, 155)
theorem hdX11_encode : (yX11_encode.cls ≠ "java/lang/invoke/MethodHandle" ∧ yX11_encode.cls ≠ "java/lang/invoke/VarHandle" ∧ (parseMethodDescriptor yX11_encode.desc).map (fun d => d.parameters.length) = some 1) := by decide +kernel
abbrev mX11_pick : mm_M := (yX11_pick, cX11_pick, 4, some (FieldType.int), 2, 44)
theorem hdX11_pick : (yX11_pick.cls ≠ "java/lang/invoke/MethodHandle" ∧ yX11_pick.cls ≠ "java/lang/invoke/VarHandle" ∧ (parseMethodDescriptor yX11_pick.desc).map (fun d => d.parameters.length) = some 3) := by decide +kernel
abbrev mX11_index : mm_M := (yX11_index, cX11_index, 3, some (FieldType.int), 2, 44)
theorem hdX11_index : (yX11_index.cls ≠ "java/lang/invoke/MethodHandle" ∧ yX11_index.cls ≠ "java/lang/invoke/VarHandle" ∧ (parseMethodDescriptor yX11_index.desc).map (fun d => d.parameters.length) = some 2) := by decide +kernel
abbrev mX11_cost : mm_M := (yX11_cost, cX11_cost, 6, some (FieldType.long), 5, 130)
theorem hdX11_cost : (yX11_cost.cls ≠ "java/lang/invoke/MethodHandle" ∧ yX11_cost.cls ≠ "java/lang/invoke/VarHandle" ∧ (parseMethodDescriptor yX11_cost.desc).map (fun d => d.parameters.length) = some 4) := by decide +kernel
abbrev mX11_length : mm_M := (yX11_length, cX11_length, 4, some (FieldType.int), 2, 44)
theorem hdX11_length : (yX11_length.cls ≠ "java/lang/invoke/MethodHandle" ∧ yX11_length.cls ≠ "java/lang/invoke/VarHandle" ∧ (parseMethodDescriptor yX11_length.desc).map (fun d => d.parameters.length) = some 2) := by decide +kernel
abbrev mX11_byteOf : mm_M := (yX11_byteOf, cX11_byteOf, 5, some (FieldType.int), 3, 62)
theorem hdX11_byteOf : (yX11_byteOf.cls ≠ "java/lang/invoke/MethodHandle" ∧ yX11_byteOf.cls ≠ "java/lang/invoke/VarHandle" ∧ (parseMethodDescriptor yX11_byteOf.desc).map (fun d => d.parameters.length) = some 3) := by decide +kernel
abbrev mX11_label : mm_M := (yX11_label, cX11_label, 4, some (FieldType.int), 2, 44)
theorem hdX11_label : (yX11_label.cls ≠ "java/lang/invoke/MethodHandle" ∧ yX11_label.cls ≠ "java/lang/invoke/VarHandle" ∧ (parseMethodDescriptor yX11_label.desc).map (fun d => d.parameters.length) = some 2) := by decide +kernel
abbrev mX11_lose : mm_M := (yX11_lose, cX11_lose, 4, some (FieldType.int), 2, 44)
theorem hdX11_lose : (yX11_lose.cls ≠ "java/lang/invoke/MethodHandle" ∧ yX11_lose.cls ≠ "java/lang/invoke/VarHandle" ∧ (parseMethodDescriptor yX11_lose.desc).map (fun d => d.parameters.length) = some 2) := by decide +kernel
abbrev mX11_cut : mm_M := (yX11_cut, cX11_cut, 6, some (FieldType.int), 3, 69)
theorem hdX11_cut : (yX11_cut.cls ≠ "java/lang/invoke/MethodHandle" ∧ yX11_cut.cls ≠ "java/lang/invoke/VarHandle" ∧ (parseMethodDescriptor yX11_cut.desc).map (fun d => d.parameters.length) = some 3) := by decide +kernel
abbrev mX11_damage : mm_M := (yX11_damage, cX11_damage, 6, some (FieldType.int), 3, 63)
theorem hdX11_damage : (yX11_damage.cls ≠ "java/lang/invoke/MethodHandle" ∧ yX11_damage.cls ≠ "java/lang/invoke/VarHandle" ∧ (parseMethodDescriptor yX11_damage.desc).map (fun d => d.parameters.length) = some 4) := by decide +kernel
abbrev mX11_resum : mm_M := (yX11_resum, cX11_resum, 5, some (FieldType.int), 3, 62)
theorem hdX11_resum : (yX11_resum.cls ≠ "java/lang/invoke/MethodHandle" ∧ yX11_resum.cls ≠ "java/lang/invoke/VarHandle" ∧ (parseMethodDescriptor yX11_resum.desc).map (fun d => d.parameters.length) = some 2) := by decide +kernel
abbrev mX11_shorts : mm_M := (yX11_shorts, cX11_shorts, 4, some (FieldType.int), 2, 44)
theorem hdX11_shorts : (yX11_shorts.cls ≠ "java/lang/invoke/MethodHandle" ∧ yX11_shorts.cls ≠ "java/lang/invoke/VarHandle" ∧ (parseMethodDescriptor yX11_shorts.desc).map (fun d => d.parameters.length) = some 2) := by decide +kernel
abbrev mX11_order : mm_M := (yX11_order, cX11_order, 6, some (FieldType.int), 2, 44)
theorem hdX11_order : (yX11_order.cls ≠ "java/lang/invoke/MethodHandle" ∧ yX11_order.cls ≠ "java/lang/invoke/VarHandle" ∧ (parseMethodDescriptor yX11_order.desc).map (fun d => d.parameters.length) = some 3) := by decide +kernel
abbrev mX11_drop : mm_M := (yX11_drop, cX11_drop, 4, some (FieldType.int), 2, 44)
theorem hdX11_drop : (yX11_drop.cls ≠ "java/lang/invoke/MethodHandle" ∧ yX11_drop.cls ≠ "java/lang/invoke/VarHandle" ∧ (parseMethodDescriptor yX11_drop.desc).map (fun d => d.parameters.length) = some 2) := by decide +kernel
abbrev mX11_again : mm_M := (yX11_again, cX11_again, 5, some (FieldType.int), 2, 44)
theorem hdX11_again : (yX11_again.cls ≠ "java/lang/invoke/MethodHandle" ∧ yX11_again.cls ≠ "java/lang/invoke/VarHandle" ∧ (parseMethodDescriptor yX11_again.desc).map (fun d => d.parameters.length) = some 2) := by decide +kernel
abbrev mX11_type : mm_M := (yX11_type, cX11_type, 5, some (FieldType.int), 1, 21)
theorem hdX11_type : (yX11_type.cls ≠ "java/lang/invoke/MethodHandle" ∧ yX11_type.cls ≠ "java/lang/invoke/VarHandle" ∧ (parseMethodDescriptor yX11_type.desc).map (fun d => d.parameters.length) = some 2) := by decide +kernel
abbrev mX11_feed : mm_M := (yX11_feed, cX11_feed, 5, some (FieldType.int), 2, 48)
theorem hdX11_feed : (yX11_feed.cls ≠ "java/lang/invoke/MethodHandle" ∧ yX11_feed.cls ≠ "java/lang/invoke/VarHandle" ∧ (parseMethodDescriptor yX11_feed.desc).map (fun d => d.parameters.length) = some 2) := by decide +kernel
abbrev mX11_decode : mm_M := (yX11_decode, cX11_decode, 3, some (FieldType.int), 6, 146)
theorem hdX11_decode : (yX11_decode.cls ≠ "java/lang/invoke/MethodHandle" ∧ yX11_decode.cls ≠ "java/lang/invoke/VarHandle" ∧ (parseMethodDescriptor yX11_decode.desc).map (fun d => d.parameters.length) = some 1) := by decide +kernel
abbrev mX11_out : mm_M := (yX11_out, cX11_out, 4, some (FieldType.int), 2, 43)
theorem hdX11_out : (yX11_out.cls ≠ "java/lang/invoke/MethodHandle" ∧ yX11_out.cls ≠ "java/lang/invoke/VarHandle" ∧ (parseMethodDescriptor yX11_out.desc).map (fun d => d.parameters.length) = some 2) := by decide +kernel
abbrev mX11_state : mm_M := (yX11_state, cX11_state, 6, some (FieldType.int), 2, 44)
theorem hdX11_state : (yX11_state.cls ≠ "java/lang/invoke/MethodHandle" ∧ yX11_state.cls ≠ "java/lang/invoke/VarHandle" ∧ (parseMethodDescriptor yX11_state.desc).map (fun d => d.parameters.length) = some 4) := by decide +kernel
abbrev mX11_finding : mm_M := (yX11_finding, cX11_finding, 3, some (FieldType.int), 1, 21)
theorem hdX11_finding : (yX11_finding.cls ≠ "java/lang/invoke/MethodHandle" ∧ yX11_finding.cls ≠ "java/lang/invoke/VarHandle" ∧ (parseMethodDescriptor yX11_finding.desc).map (fun d => d.parameters.length) = some 1) := by decide +kernel
abbrev mX11_repair : mm_M := (yX11_repair, cX11_repair, 3, some (FieldType.int), 1, 21)
theorem hdX11_repair : (yX11_repair.cls ≠ "java/lang/invoke/MethodHandle" ∧ yX11_repair.cls ≠ "java/lang/invoke/VarHandle" ∧ (parseMethodDescriptor yX11_repair.desc).map (fun d => d.parameters.length) = some 1) := by decide +kernel
abbrev mX11_stage : mm_M := (yX11_stage, cX11_stage, 7, some (FieldType.int), 2, 41)
theorem hdX11_stage : (yX11_stage.cls ≠ "java/lang/invoke/MethodHandle" ∧ yX11_stage.cls ≠ "java/lang/invoke/VarHandle" ∧ (parseMethodDescriptor yX11_stage.desc).map (fun d => d.parameters.length) = some 3) := by decide +kernel
abbrev mX11_join : mm_M := (yX11_join, cX11_join, 5, some (FieldType.int), 1, 21)
theorem hdX11_join : (yX11_join.cls ≠ "java/lang/invoke/MethodHandle" ∧ yX11_join.cls ≠ "java/lang/invoke/VarHandle" ∧ (parseMethodDescriptor yX11_join.desc).map (fun d => d.parameters.length) = some 2) := by decide +kernel
abbrev mX11_drift : mm_M := (yX11_drift, cX11_drift, 5, some (FieldType.int), 1, 21)
theorem hdX11_drift : (yX11_drift.cls ≠ "java/lang/invoke/MethodHandle" ∧ yX11_drift.cls ≠ "java/lang/invoke/VarHandle" ∧ (parseMethodDescriptor yX11_drift.desc).map (fun d => d.parameters.length) = some 2) := by decide +kernel
abbrev mX11_mix : mm_M := (yX11_mix, cX11_mix, 8, some (FieldType.int), 1, 23)
theorem hdX11_mix : (yX11_mix.cls ≠ "java/lang/invoke/MethodHandle" ∧ yX11_mix.cls ≠ "java/lang/invoke/VarHandle" ∧ (parseMethodDescriptor yX11_mix.desc).map (fun d => d.parameters.length) = some 4) := by decide +kernel
abbrev mX11_resample : mm_M := (yX11_resample, cX11_resample, 10, some (FieldType.int), 1, 23)
theorem hdX11_resample : (yX11_resample.cls ≠ "java/lang/invoke/MethodHandle" ∧ yX11_resample.cls ≠ "java/lang/invoke/VarHandle" ∧ (parseMethodDescriptor yX11_resample.desc).map (fun d => d.parameters.length) = some 3) := by decide +kernel
abbrev mX11_work : mm_M := (yX11_work, cX11_work, 2, some (FieldType.int), 2, 43)
theorem hdX11_work : (yX11_work.cls ≠ "java/lang/invoke/MethodHandle" ∧ yX11_work.cls ≠ "java/lang/invoke/VarHandle" ∧ (parseMethodDescriptor yX11_work.desc).map (fun d => d.parameters.length) = some 1) := by decide +kernel
abbrev mX11_trace : mm_M := (yX11_trace, cX11_trace, 2, some (FieldType.int), 1, 21)
theorem hdX11_trace : (yX11_trace.cls ≠ "java/lang/invoke/MethodHandle" ∧ yX11_trace.cls ≠ "java/lang/invoke/VarHandle" ∧ (parseMethodDescriptor yX11_trace.desc).map (fun d => d.parameters.length) = some 1) := by decide +kernel
abbrev mX11_count : mm_M := (yX11_count, cX11_count, 4, some (FieldType.int), 2, 46)
theorem hdX11_count : (yX11_count.cls ≠ "java/lang/invoke/MethodHandle" ∧ yX11_count.cls ≠ "java/lang/invoke/VarHandle" ∧ (parseMethodDescriptor yX11_count.desc).map (fun d => d.parameters.length) = some 2) := by decide +kernel
abbrev mX11_found : mm_M := (yX11_found, cX11_found, 2, some (FieldType.int), 1, 21)
theorem hdX11_found : (yX11_found.cls ≠ "java/lang/invoke/MethodHandle" ∧ yX11_found.cls ≠ "java/lang/invoke/VarHandle" ∧ (parseMethodDescriptor yX11_found.desc).map (fun d => d.parameters.length) = some 1) := by decide +kernel
abbrev mX11_saturations : mm_M := (yX11_saturations, cX11_saturations, 1, some (FieldType.long), 0, 0)
theorem hdX11_saturations : (yX11_saturations.cls ≠ "java/lang/invoke/MethodHandle" ∧ yX11_saturations.cls ≠ "java/lang/invoke/VarHandle" ∧ (parseMethodDescriptor yX11_saturations.desc).map (fun d => d.parameters.length) = some 0) := by decide +kernel
abbrev mX11_digest : mm_M := (yX11_digest, cX11_digest, 4, some (FieldType.int), 2, 47)
theorem hdX11_digest : (yX11_digest.cls ≠ "java/lang/invoke/MethodHandle" ∧ yX11_digest.cls ≠ "java/lang/invoke/VarHandle" ∧ (parseMethodDescriptor yX11_digest.desc).map (fun d => d.parameters.length) = some 2) := by decide +kernel
abbrev mX11_status : mm_M := (yX11_status, cX11_status, 1, some (FieldType.int), 0, 0)
theorem hdX11_status : (yX11_status.cls ≠ "java/lang/invoke/MethodHandle" ∧ yX11_status.cls ≠ "java/lang/invoke/VarHandle" ∧ (parseMethodDescriptor yX11_status.desc).map (fun d => d.parameters.length) = some 0) := by decide +kernel
abbrev mX11_told : mm_M := (yX11_told, cX11_told, 2, some (FieldType.int), 1, 21)
theorem hdX11_told : (yX11_told.cls ≠ "java/lang/invoke/MethodHandle" ∧ yX11_told.cls ≠ "java/lang/invoke/VarHandle" ∧ (parseMethodDescriptor yX11_told.desc).map (fun d => d.parameters.length) = some 1) := by decide +kernel
abbrev mX11_clear : mm_M := (yX11_clear, cX11_clear, 3, some (FieldType.int), 0, 0)
theorem hdX11_clear : (yX11_clear.cls ≠ "java/lang/invoke/MethodHandle" ∧ yX11_clear.cls ≠ "java/lang/invoke/VarHandle" ∧ (parseMethodDescriptor yX11_clear.desc).map (fun d => d.parameters.length) = some 0) := by decide +kernel
abbrev mX11_refuse : mm_M := (yX11_refuse, cX11_refuse, 2, some (FieldType.int), 0, 0)
theorem hdX11_refuse : (yX11_refuse.cls ≠ "java/lang/invoke/MethodHandle" ∧ yX11_refuse.cls ≠ "java/lang/invoke/VarHandle" ∧ (parseMethodDescriptor yX11_refuse.desc).map (fun d => d.parameters.length) = some 1) := by decide +kernel
abbrev mX11_unknown : mm_M := (yX11_unknown, cX11_unknown, 1, some (FieldType.int), 0, 0)
theorem hdX11_unknown : (yX11_unknown.cls ≠ "java/lang/invoke/MethodHandle" ∧ yX11_unknown.cls ≠ "java/lang/invoke/VarHandle" ∧ (parseMethodDescriptor yX11_unknown.desc).map (fun d => d.parameters.length) = some 0) := by decide +kernel
abbrev mX11_entry : mm_M := (yX11_entry, cX11_entry, 4, some (FieldType.int), 1, 20)
theorem hdX11_entry : (yX11_entry.cls ≠ "java/lang/invoke/MethodHandle" ∧ yX11_entry.cls ≠ "java/lang/invoke/VarHandle" ∧ (parseMethodDescriptor yX11_entry.desc).map (fun d => d.parameters.length) = some 3) := by decide +kernel
abbrev mX11_pickRefusal : mm_M := (yX11_pickRefusal, cX11_pickRefusal, 4, some (FieldType.int), 1, 21)
theorem hdX11_pickRefusal : (yX11_pickRefusal.cls ≠ "java/lang/invoke/MethodHandle" ∧ yX11_pickRefusal.cls ≠ "java/lang/invoke/VarHandle" ∧ (parseMethodDescriptor yX11_pickRefusal.desc).map (fun d => d.parameters.length) = some 2) := by decide +kernel
abbrev mX11_coderAt : mm_M := (yX11_coderAt, cX11_coderAt, 2, some ((FieldType.object "VoiceHouse$Coder")), 0, 0)
theorem hdX11_coderAt : (yX11_coderAt.cls ≠ "java/lang/invoke/MethodHandle" ∧ yX11_coderAt.cls ≠ "java/lang/invoke/VarHandle" ∧ (parseMethodDescriptor yX11_coderAt.desc).map (fun d => d.parameters.length) = some 1) := by decide +kernel
abbrev mX11_frameAt : mm_M := (yX11_frameAt, cX11_frameAt, 4, some ((FieldType.object "VoiceHouse$Frame")), 1, 21)
theorem hdX11_frameAt : (yX11_frameAt.cls ≠ "java/lang/invoke/MethodHandle" ∧ yX11_frameAt.cls ≠ "java/lang/invoke/VarHandle" ∧ (parseMethodDescriptor yX11_frameAt.desc).map (fun d => d.parameters.length) = some 2) := by decide +kernel
abbrev mX11_memoryOf : mm_M := (yX11_memoryOf, cX11_memoryOf, 4, some ((FieldType.object "VoiceHouse$Memory")), 1, 21)
theorem hdX11_memoryOf : (yX11_memoryOf.cls ≠ "java/lang/invoke/MethodHandle" ∧ yX11_memoryOf.cls ≠ "java/lang/invoke/VarHandle" ∧ (parseMethodDescriptor yX11_memoryOf.desc).map (fun d => d.parameters.length) = some 2) := by decide +kernel
abbrev mX11_isBit : mm_M := (yX11_isBit, cX11_isBit, 1, some (FieldType.boolean), 0, 0)
theorem hdX11_isBit : (yX11_isBit.cls ≠ "java/lang/invoke/MethodHandle" ∧ yX11_isBit.cls ≠ "java/lang/invoke/VarHandle" ∧ (parseMethodDescriptor yX11_isBit.desc).map (fun d => d.parameters.length) = some 1) := by decide +kernel
abbrev mX11_bit : mm_M := (yX11_bit, cX11_bit, 1, some (FieldType.int), 0, 0)
theorem hdX11_bit : (yX11_bit.cls ≠ "java/lang/invoke/MethodHandle" ∧ yX11_bit.cls ≠ "java/lang/invoke/VarHandle" ∧ (parseMethodDescriptor yX11_bit.desc).map (fun d => d.parameters.length) = some 1) := by decide +kernel
abbrev mX11_isPart : mm_M := (yX11_isPart, cX11_isPart, 1, some (FieldType.boolean), 0, 0)
theorem hdX11_isPart : (yX11_isPart.cls ≠ "java/lang/invoke/MethodHandle" ∧ yX11_isPart.cls ≠ "java/lang/invoke/VarHandle" ∧ (parseMethodDescriptor yX11_isPart.desc).map (fun d => d.parameters.length) = some 1) := by decide +kernel
abbrev mX11_isLabel : mm_M := (yX11_isLabel, cX11_isLabel, 1, some (FieldType.boolean), 0, 0)
theorem hdX11_isLabel : (yX11_isLabel.cls ≠ "java/lang/invoke/MethodHandle" ∧ yX11_isLabel.cls ≠ "java/lang/invoke/VarHandle" ∧ (parseMethodDescriptor yX11_isLabel.desc).map (fun d => d.parameters.length) = some 1) := by decide +kernel
abbrev mX11_isSample : mm_M := (yX11_isSample, cX11_isSample, 1, some (FieldType.boolean), 0, 0)
theorem hdX11_isSample : (yX11_isSample.cls ≠ "java/lang/invoke/MethodHandle" ∧ yX11_isSample.cls ≠ "java/lang/invoke/VarHandle" ∧ (parseMethodDescriptor yX11_isSample.desc).map (fun d => d.parameters.length) = some 1) := by decide +kernel
abbrev mX11_isWeight : mm_M := (yX11_isWeight, cX11_isWeight, 1, some (FieldType.boolean), 0, 0)
theorem hdX11_isWeight : (yX11_isWeight.cls ≠ "java/lang/invoke/MethodHandle" ∧ yX11_isWeight.cls ≠ "java/lang/invoke/VarHandle" ∧ (parseMethodDescriptor yX11_isWeight.desc).map (fun d => d.parameters.length) = some 1) := by decide +kernel
abbrev mX11_isWave : mm_M := (yX11_isWave, cX11_isWave, 3, some (FieldType.boolean), 1, 20)
theorem hdX11_isWave : (yX11_isWave.cls ≠ "java/lang/invoke/MethodHandle" ∧ yX11_isWave.cls ≠ "java/lang/invoke/VarHandle" ∧ (parseMethodDescriptor yX11_isWave.desc).map (fun d => d.parameters.length) = some 3) := by decide +kernel
abbrev mX11_waveAt : mm_M := (yX11_waveAt, cX11_waveAt, 5, some (FieldType.int), 1, 23)
theorem hdX11_waveAt : (yX11_waveAt.cls ≠ "java/lang/invoke/MethodHandle" ∧ yX11_waveAt.cls ≠ "java/lang/invoke/VarHandle" ∧ (parseMethodDescriptor yX11_waveAt.desc).map (fun d => d.parameters.length) = some 4) := by decide +kernel
abbrev mX11_drawnFrom : mm_M := (yX11_drawnFrom, cX11_drawnFrom, 2, some (FieldType.long), 0, 0)
theorem hdX11_drawnFrom : (yX11_drawnFrom.cls ≠ "java/lang/invoke/MethodHandle" ∧ yX11_drawnFrom.cls ≠ "java/lang/invoke/VarHandle" ∧ (parseMethodDescriptor yX11_drawnFrom.desc).map (fun d => d.parameters.length) = some 1) := by decide +kernel
abbrev mX11_drawOf : mm_M := (yX11_drawOf, cX11_drawOf, 2, some (FieldType.int), 0, 0)
theorem hdX11_drawOf : (yX11_drawOf.cls ≠ "java/lang/invoke/MethodHandle" ∧ yX11_drawOf.cls ≠ "java/lang/invoke/VarHandle" ∧ (parseMethodDescriptor yX11_drawOf.desc).map (fun d => d.parameters.length) = some 1) := by decide +kernel
abbrev mX11_half : mm_M := (yX11_half, cX11_half, 4, some (FieldType.long), 0, 0)
theorem hdX11_half : (yX11_half.cls ≠ "java/lang/invoke/MethodHandle" ∧ yX11_half.cls ≠ "java/lang/invoke/VarHandle" ∧ (parseMethodDescriptor yX11_half.desc).map (fun d => d.parameters.length) = some 2) := by decide +kernel
abbrev mX11_frameOf : mm_M := (yX11_frameOf, cX11_frameOf, 1, some (FieldType.int), 0, 0)
theorem hdX11_frameOf : (yX11_frameOf.cls ≠ "java/lang/invoke/MethodHandle" ∧ yX11_frameOf.cls ≠ "java/lang/invoke/VarHandle" ∧ (parseMethodDescriptor yX11_frameOf.desc).map (fun d => d.parameters.length) = some 1) := by decide +kernel
abbrev mX11_partOf : mm_M := (yX11_partOf, cX11_partOf, 1, some (FieldType.int), 1, 20)
theorem hdX11_partOf : (yX11_partOf.cls ≠ "java/lang/invoke/MethodHandle" ∧ yX11_partOf.cls ≠ "java/lang/invoke/VarHandle" ∧ (parseMethodDescriptor yX11_partOf.desc).map (fun d => d.parameters.length) = some 1) := by decide +kernel
abbrev mX11_lagOf : mm_M := (yX11_lagOf, cX11_lagOf, 1, some (FieldType.int), 0, 0)
theorem hdX11_lagOf : (yX11_lagOf.cls ≠ "java/lang/invoke/MethodHandle" ∧ yX11_lagOf.cls ≠ "java/lang/invoke/VarHandle" ∧ (parseMethodDescriptor yX11_lagOf.desc).map (fun d => d.parameters.length) = some 1) := by decide +kernel
abbrev mX11_sumOf : mm_M := (yX11_sumOf, cX11_sumOf, 3, some (FieldType.byte), 0, 0)
theorem hdX11_sumOf : (yX11_sumOf.cls ≠ "java/lang/invoke/MethodHandle" ∧ yX11_sumOf.cls ≠ "java/lang/invoke/VarHandle" ∧ (parseMethodDescriptor yX11_sumOf.desc).map (fun d => d.parameters.length) = some 1) := by decide +kernel
abbrev mX11_lookBehind : mm_M := (yX11_lookBehind, cX11_lookBehind, 7, none, 0, 0)
theorem hdX11_lookBehind : (yX11_lookBehind.cls ≠ "java/lang/invoke/MethodHandle" ∧ yX11_lookBehind.cls ≠ "java/lang/invoke/VarHandle" ∧ (parseMethodDescriptor yX11_lookBehind.desc).map (fun d => d.parameters.length) = some 4) := by decide +kernel
abbrev mX12_init : mm_M := (yX12_init, cX12_init, 1, none, 1, 20)
theorem hdX12_init : (yX12_init.cls ≠ "java/lang/invoke/MethodHandle" ∧ yX12_init.cls ≠ "java/lang/invoke/VarHandle" ∧ (parseMethodDescriptor yX12_init.desc).map (fun d => d.parameters.length) = some 0) := by decide +kernel
abbrev mX12_done : mm_M := (yX12_done, cX12_done, 2, some (FieldType.int), 0, 0)
theorem hdX12_done : (yX12_done.cls ≠ "java/lang/invoke/MethodHandle" ∧ yX12_done.cls ≠ "java/lang/invoke/VarHandle" ∧ (parseMethodDescriptor yX12_done.desc).map (fun d => d.parameters.length) = some 1) := by decide +kernel
abbrev mX12_refused : mm_M := (yX12_refused, cX12_refused, 2, some (FieldType.int), 0, 0)
theorem hdX12_refused : (yX12_refused.cls ≠ "java/lang/invoke/MethodHandle" ∧ yX12_refused.cls ≠ "java/lang/invoke/VarHandle" ∧ (parseMethodDescriptor yX12_refused.desc).map (fun d => d.parameters.length) = some 1) := by decide +kernel
abbrev mX12_refusedNo : mm_M := (yX12_refusedNo, cX12_refusedNo, 2, some (FieldType.int), 0, 0)
theorem hdX12_refusedNo : (yX12_refusedNo.cls ≠ "java/lang/invoke/MethodHandle" ∧ yX12_refusedNo.cls ≠ "java/lang/invoke/VarHandle" ∧ (parseMethodDescriptor yX12_refusedNo.desc).map (fun d => d.parameters.length) = some 1) := by decide +kernel
abbrev mX12_isCoder : mm_M := (yX12_isCoder, cX12_isCoder, 2, some (FieldType.boolean), 0, 0)
theorem hdX12_isCoder : (yX12_isCoder.cls ≠ "java/lang/invoke/MethodHandle" ∧ yX12_isCoder.cls ≠ "java/lang/invoke/VarHandle" ∧ (parseMethodDescriptor yX12_isCoder.desc).map (fun d => d.parameters.length) = some 1) := by decide +kernel
abbrev mX12_in : mm_M := (yX12_in, cX12_in, 3, some (FieldType.boolean), 0, 0)
theorem hdX12_in : (yX12_in.cls ≠ "java/lang/invoke/MethodHandle" ∧ yX12_in.cls ≠ "java/lang/invoke/VarHandle" ∧ (parseMethodDescriptor yX12_in.desc).map (fun d => d.parameters.length) = some 3) := by decide +kernel
abbrev mX12_tell : mm_M := (yX12_tell, cX12_tell, 2, none, 0, 0)
theorem hdX12_tell : (yX12_tell.cls ≠ "java/lang/invoke/MethodHandle" ∧ yX12_tell.cls ≠ "java/lang/invoke/VarHandle" ∧ (parseMethodDescriptor yX12_tell.desc).map (fun d => d.parameters.length) = some 1) := by decide +kernel
abbrev mX12_sample16 : mm_M := (yX12_sample16, cX12_sample16, 3, some (FieldType.int), 0, 0)
theorem hdX12_sample16 : (yX12_sample16.cls ≠ "java/lang/invoke/MethodHandle" ∧ yX12_sample16.cls ≠ "java/lang/invoke/VarHandle" ∧ (parseMethodDescriptor yX12_sample16.desc).map (fun d => d.parameters.length) = some 1) := by decide +kernel
abbrev mX12_word32 : mm_M := (yX12_word32, cX12_word32, 3, some (FieldType.long), 0, 0)
theorem hdX12_word32 : (yX12_word32.cls ≠ "java/lang/invoke/MethodHandle" ∧ yX12_word32.cls ≠ "java/lang/invoke/VarHandle" ∧ (parseMethodDescriptor yX12_word32.desc).map (fun d => d.parameters.length) = some 1) := by decide +kernel
abbrev mX12_half : mm_M := (yX12_half, cX12_half, 4, some (FieldType.long), 0, 0)
theorem hdX12_half : (yX12_half.cls ≠ "java/lang/invoke/MethodHandle" ∧ yX12_half.cls ≠ "java/lang/invoke/VarHandle" ∧ (parseMethodDescriptor yX12_half.desc).map (fun d => d.parameters.length) = some 2) := by decide +kernel
abbrev mX12_coder : mm_M := (yX12_coder, cX12_coder, 5, some (FieldType.int), 1, 22)
theorem hdX12_coder : (yX12_coder.cls ≠ "java/lang/invoke/MethodHandle" ∧ yX12_coder.cls ≠ "java/lang/invoke/VarHandle" ∧ (parseMethodDescriptor yX12_coder.desc).map (fun d => d.parameters.length) = some 1) := by decide +kernel
abbrev mX12_rate : mm_M := (yX12_rate, cX12_rate, 4, some (FieldType.int), 1, 22)
theorem hdX12_rate : (yX12_rate.cls ≠ "java/lang/invoke/MethodHandle" ∧ yX12_rate.cls ≠ "java/lang/invoke/VarHandle" ∧ (parseMethodDescriptor yX12_rate.desc).map (fun d => d.parameters.length) = some 2) := by decide +kernel
abbrev mX12_emphasis : mm_M := (yX12_emphasis, cX12_emphasis, 4, some (FieldType.int), 1, 21)
theorem hdX12_emphasis : (yX12_emphasis.cls ≠ "java/lang/invoke/MethodHandle" ∧ yX12_emphasis.cls ≠ "java/lang/invoke/VarHandle" ∧ (parseMethodDescriptor yX12_emphasis.desc).map (fun d => d.parameters.length) = some 2) := by decide +kernel
abbrev mX12_search : mm_M := (yX12_search, cX12_search, 5, some (FieldType.int), 1, 22)
theorem hdX12_search : (yX12_search.cls ≠ "java/lang/invoke/MethodHandle" ∧ yX12_search.cls ≠ "java/lang/invoke/VarHandle" ∧ (parseMethodDescriptor yX12_search.desc).map (fun d => d.parameters.length) = some 3) := by decide +kernel
abbrev mX12_silence : mm_M := (yX12_silence, cX12_silence, 4, some (FieldType.int), 1, 22)
theorem hdX12_silence : (yX12_silence.cls ≠ "java/lang/invoke/MethodHandle" ∧ yX12_silence.cls ≠ "java/lang/invoke/VarHandle" ∧ (parseMethodDescriptor yX12_silence.desc).map (fun d => d.parameters.length) = some 2) := by decide +kernel
abbrev mX12_redundancy : mm_M := (yX12_redundancy, cX12_redundancy, 4, some (FieldType.int), 1, 21)
theorem hdX12_redundancy : (yX12_redundancy.cls ≠ "java/lang/invoke/MethodHandle" ∧ yX12_redundancy.cls ≠ "java/lang/invoke/VarHandle" ∧ (parseMethodDescriptor yX12_redundancy.desc).map (fun d => d.parameters.length) = some 2) := by decide +kernel
abbrev mX12_start : mm_M := (yX12_start, cX12_start, 3, some (FieldType.int), 1, 22)
theorem hdX12_start : (yX12_start.cls ≠ "java/lang/invoke/MethodHandle" ∧ yX12_start.cls ≠ "java/lang/invoke/VarHandle" ∧ (parseMethodDescriptor yX12_start.desc).map (fun d => d.parameters.length) = some 2) := by decide +kernel
abbrev mX12_sample : mm_M := (yX12_sample, cX12_sample, 3, some (FieldType.int), 1, 22)
theorem hdX12_sample : (yX12_sample.cls ≠ "java/lang/invoke/MethodHandle" ∧ yX12_sample.cls ≠ "java/lang/invoke/VarHandle" ∧ (parseMethodDescriptor yX12_sample.desc).map (fun d => d.parameters.length) = some 2) := by decide +kernel
abbrev mX12_drawn : mm_M := (yX12_drawn, cX12_drawn, 1, some (FieldType.int), 0, 0)
theorem hdX12_drawn : (yX12_drawn.cls ≠ "java/lang/invoke/MethodHandle" ∧ yX12_drawn.cls ≠ "java/lang/invoke/VarHandle" ∧ (parseMethodDescriptor yX12_drawn.desc).map (fun d => d.parameters.length) = some 1) := by decide +kernel
abbrev mX12_told8 : mm_M := (yX12_told8, cX12_told8, 1, some (FieldType.int), 0, 0)
theorem hdX12_told8 : (yX12_told8.cls ≠ "java/lang/invoke/MethodHandle" ∧ yX12_told8.cls ≠ "java/lang/invoke/VarHandle" ∧ (parseMethodDescriptor yX12_told8.desc).map (fun d => d.parameters.length) = some 1) := by decide +kernel
abbrev mX12_wave : mm_M := (yX12_wave, cX12_wave, 11, some (FieldType.int), 1, 22)
theorem hdX12_wave : (yX12_wave.cls ≠ "java/lang/invoke/MethodHandle" ∧ yX12_wave.cls ≠ "java/lang/invoke/VarHandle" ∧ (parseMethodDescriptor yX12_wave.desc).map (fun d => d.parameters.length) = some 5) := by decide +kernel
abbrev mX12_predict : mm_M := (yX12_predict, cX12_predict, 16, none, 1, 23)
theorem hdX12_predict : (yX12_predict.cls ≠ "java/lang/invoke/MethodHandle" ∧ yX12_predict.cls ≠ "java/lang/invoke/VarHandle" ∧ (parseMethodDescriptor yX12_predict.desc).map (fun d => d.parameters.length) = some 2) := by decide +kernel
abbrev mX12_lattice : mm_M := (yX12_lattice, cX12_lattice, 10, none, 1, 23)
theorem hdX12_lattice : (yX12_lattice.cls ≠ "java/lang/invoke/MethodHandle" ∧ yX12_lattice.cls ≠ "java/lang/invoke/VarHandle" ∧ (parseMethodDescriptor yX12_lattice.desc).map (fun d => d.parameters.length) = some 2) := by decide +kernel
abbrev mX12_tryLag : mm_M := (yX12_tryLag, cX12_tryLag, 12, none, 0, 0)
theorem hdX12_tryLag : (yX12_tryLag.cls ≠ "java/lang/invoke/MethodHandle" ∧ yX12_tryLag.cls ≠ "java/lang/invoke/VarHandle" ∧ (parseMethodDescriptor yX12_tryLag.desc).map (fun d => d.parameters.length) = some 4) := by decide +kernel
abbrev mX12_pitch : mm_M := (yX12_pitch, cX12_pitch, 7, none, 1, 31)
theorem hdX12_pitch : (yX12_pitch.cls ≠ "java/lang/invoke/MethodHandle" ∧ yX12_pitch.cls ≠ "java/lang/invoke/VarHandle" ∧ (parseMethodDescriptor yX12_pitch.desc).map (fun d => d.parameters.length) = some 4) := by decide +kernel
abbrev mX12_pulse : mm_M := (yX12_pulse, cX12_pulse, 1, some (FieldType.int), 0, 0)
theorem hdX12_pulse : (yX12_pulse.cls ≠ "java/lang/invoke/MethodHandle" ∧ yX12_pulse.cls ≠ "java/lang/invoke/VarHandle" ∧ (parseMethodDescriptor yX12_pulse.desc).map (fun d => d.parameters.length) = some 1) := by decide +kernel
abbrev mX12_gain : mm_M := (yX12_gain, cX12_gain, 1, some (FieldType.int), 0, 0)
theorem hdX12_gain : (yX12_gain.cls ≠ "java/lang/invoke/MethodHandle" ∧ yX12_gain.cls ≠ "java/lang/invoke/VarHandle" ∧ (parseMethodDescriptor yX12_gain.desc).map (fun d => d.parameters.length) = some 1) := by decide +kernel
abbrev mX12_shared : mm_M := (yX12_shared, cX12_shared, 6, some (FieldType.long), 1, 20)
theorem hdX12_shared : (yX12_shared.cls ≠ "java/lang/invoke/MethodHandle" ∧ yX12_shared.cls ≠ "java/lang/invoke/VarHandle" ∧ (parseMethodDescriptor yX12_shared.desc).map (fun d => d.parameters.length) = some 3) := by decide +kernel
abbrev mX12_tryGains : mm_M := (yX12_tryGains, cX12_tryGains, 14, some (FieldType.boolean), 1, 20)
theorem hdX12_tryGains : (yX12_tryGains.cls ≠ "java/lang/invoke/MethodHandle" ∧ yX12_tryGains.cls ≠ "java/lang/invoke/VarHandle" ∧ (parseMethodDescriptor yX12_tryGains.desc).map (fun d => d.parameters.length) = some 2) := by decide +kernel
abbrev mX12_tryPair : mm_M := (yX12_tryPair, cX12_tryPair, 12, some (FieldType.boolean), 2, 53)
theorem hdX12_tryPair : (yX12_tryPair.cls ≠ "java/lang/invoke/MethodHandle" ∧ yX12_tryPair.cls ≠ "java/lang/invoke/VarHandle" ∧ (parseMethodDescriptor yX12_tryPair.desc).map (fun d => d.parameters.length) = some 5) := by decide +kernel
abbrev mX12_pulses : mm_M := (yX12_pulses, cX12_pulses, 11, none, 3, 84)
theorem hdX12_pulses : (yX12_pulses.cls ≠ "java/lang/invoke/MethodHandle" ∧ yX12_pulses.cls ≠ "java/lang/invoke/VarHandle" ∧ (parseMethodDescriptor yX12_pulses.desc).map (fun d => d.parameters.length) = some 6) := by decide +kernel
abbrev mX12_behind : mm_M := (yX12_behind, cX12_behind, 5, none, 0, 0)
theorem hdX12_behind : (yX12_behind.cls ≠ "java/lang/invoke/MethodHandle" ∧ yX12_behind.cls ≠ "java/lang/invoke/VarHandle" ∧ (parseMethodDescriptor yX12_behind.desc).map (fun d => d.parameters.length) = some 3) := by decide +kernel
abbrev mX12_synthesis : mm_M := (yX12_synthesis, cX12_synthesis, 8, some (FieldType.int), 1, 23)
theorem hdX12_synthesis : (yX12_synthesis.cls ≠ "java/lang/invoke/MethodHandle" ∧ yX12_synthesis.cls ≠ "java/lang/invoke/VarHandle" ∧ (parseMethodDescriptor yX12_synthesis.desc).map (fun d => d.parameters.length) = some 2) := by decide +kernel
abbrev mX12_sound : mm_M := (yX12_sound, cX12_sound, 5, none, 2, 50)
theorem hdX12_sound : (yX12_sound.cls ≠ "java/lang/invoke/MethodHandle" ∧ yX12_sound.cls ≠ "java/lang/invoke/VarHandle" ∧ (parseMethodDescriptor yX12_sound.desc).map (fun d => d.parameters.length) = some 3) := by decide +kernel
abbrev mX12_excited : mm_M := (yX12_excited, cX12_excited, 12, none, 3, 74)
theorem hdX12_excited : (yX12_excited.cls ≠ "java/lang/invoke/MethodHandle" ∧ yX12_excited.cls ≠ "java/lang/invoke/VarHandle" ∧ (parseMethodDescriptor yX12_excited.desc).map (fun d => d.parameters.length) = some 10) := by decide +kernel
abbrev mX12_hush : mm_M := (yX12_hush, cX12_hush, 8, none, 3, 74)
theorem hdX12_hush : (yX12_hush.cls ≠ "java/lang/invoke/MethodHandle" ∧ yX12_hush.cls ≠ "java/lang/invoke/VarHandle" ∧ (parseMethodDescriptor yX12_hush.desc).map (fun d => d.parameters.length) = some 4) := by decide +kernel
abbrev mX12_newRow : mm_M := (yX12_newRow, cX12_newRow, 3, some (FieldType.int), 0, 0)
theorem hdX12_newRow : (yX12_newRow.cls ≠ "java/lang/invoke/MethodHandle" ∧ yX12_newRow.cls ≠ "java/lang/invoke/VarHandle" ∧ (parseMethodDescriptor yX12_newRow.desc).map (fun d => d.parameters.length) = some 2) := by decide +kernel
abbrev mX12_put : mm_M := (yX12_put, cX12_put, 3, none, 0, 0)
theorem hdX12_put : (yX12_put.cls ≠ "java/lang/invoke/MethodHandle" ∧ yX12_put.cls ≠ "java/lang/invoke/VarHandle" ∧ (parseMethodDescriptor yX12_put.desc).map (fun d => d.parameters.length) = some 2) := by decide +kernel
abbrev mX12_sumOf : mm_M := (yX12_sumOf, cX12_sumOf, 5, some (FieldType.int), 0, 0)
theorem hdX12_sumOf : (yX12_sumOf.cls ≠ "java/lang/invoke/MethodHandle" ∧ yX12_sumOf.cls ≠ "java/lang/invoke/VarHandle" ∧ (parseMethodDescriptor yX12_sumOf.desc).map (fun d => d.parameters.length) = some 2) := by decide +kernel
abbrev mX12_append : mm_M := (yX12_append, cX12_append, 4, none, 0, 0)
theorem hdX12_append : (yX12_append.cls ≠ "java/lang/invoke/MethodHandle" ∧ yX12_append.cls ≠ "java/lang/invoke/VarHandle" ∧ (parseMethodDescriptor yX12_append.desc).map (fun d => d.parameters.length) = some 3) := by decide +kernel
abbrev mX12_encode : mm_M := (yX12_encode, cX12_encode, 12, some (FieldType.int), 5, 139)
theorem hdX12_encode : (yX12_encode.cls ≠ "java/lang/invoke/MethodHandle" ∧ yX12_encode.cls ≠ "java/lang/invoke/VarHandle" ∧ (parseMethodDescriptor yX12_encode.desc).map (fun d => d.parameters.length) = some 1) := by decide +kernel
abbrev mX12_voice : mm_M := (yX12_voice, cX12_voice, 6, none, 4, 114)
theorem hdX12_voice : (yX12_voice.cls ≠ "java/lang/invoke/MethodHandle" ∧ yX12_voice.cls ≠ "java/lang/invoke/VarHandle" ∧ (parseMethodDescriptor yX12_voice.desc).map (fun d => d.parameters.length) = some 3) := by decide +kernel
abbrev mX12_pick : mm_M := (yX12_pick, cX12_pick, 4, some (FieldType.int), 1, 22)
theorem hdX12_pick : (yX12_pick.cls ≠ "java/lang/invoke/MethodHandle" ∧ yX12_pick.cls ≠ "java/lang/invoke/VarHandle" ∧ (parseMethodDescriptor yX12_pick.desc).map (fun d => d.parameters.length) = some 3) := by decide +kernel
abbrev mX12_index : mm_M := (yX12_index, cX12_index, 3, some (FieldType.int), 1, 22)
theorem hdX12_index : (yX12_index.cls ≠ "java/lang/invoke/MethodHandle" ∧ yX12_index.cls ≠ "java/lang/invoke/VarHandle" ∧ (parseMethodDescriptor yX12_index.desc).map (fun d => d.parameters.length) = some 2) := by decide +kernel
abbrev mX12_cost : mm_M := (yX12_cost, cX12_cost, 5, some (FieldType.long), 4, 114)
theorem hdX12_cost : (yX12_cost.cls ≠ "java/lang/invoke/MethodHandle" ∧ yX12_cost.cls ≠ "java/lang/invoke/VarHandle" ∧ (parseMethodDescriptor yX12_cost.desc).map (fun d => d.parameters.length) = some 4) := by decide +kernel
abbrev mX12_isFrame : mm_M := (yX12_isFrame, cX12_isFrame, 3, some (FieldType.boolean), 1, 21)
theorem hdX12_isFrame : (yX12_isFrame.cls ≠ "java/lang/invoke/MethodHandle" ∧ yX12_isFrame.cls ≠ "java/lang/invoke/VarHandle" ∧ (parseMethodDescriptor yX12_isFrame.desc).map (fun d => d.parameters.length) = some 2) := by decide +kernel
abbrev mX12_length : mm_M := (yX12_length, cX12_length, 4, some (FieldType.int), 2, 43)
theorem hdX12_length : (yX12_length.cls ≠ "java/lang/invoke/MethodHandle" ∧ yX12_length.cls ≠ "java/lang/invoke/VarHandle" ∧ (parseMethodDescriptor yX12_length.desc).map (fun d => d.parameters.length) = some 2) := by decide +kernel
abbrev mX12_byteOf : mm_M := (yX12_byteOf, cX12_byteOf, 5, some (FieldType.int), 2, 43)
theorem hdX12_byteOf : (yX12_byteOf.cls ≠ "java/lang/invoke/MethodHandle" ∧ yX12_byteOf.cls ≠ "java/lang/invoke/VarHandle" ∧ (parseMethodDescriptor yX12_byteOf.desc).map (fun d => d.parameters.length) = some 3) := by decide +kernel
abbrev mX12_label : mm_M := (yX12_label, cX12_label, 3, some (FieldType.int), 2, 43)
theorem hdX12_label : (yX12_label.cls ≠ "java/lang/invoke/MethodHandle" ∧ yX12_label.cls ≠ "java/lang/invoke/VarHandle" ∧ (parseMethodDescriptor yX12_label.desc).map (fun d => d.parameters.length) = some 2) := by decide +kernel
abbrev mX12_lose : mm_M := (yX12_lose, cX12_lose, 3, some (FieldType.int), 2, 43)
theorem hdX12_lose : (yX12_lose.cls ≠ "java/lang/invoke/MethodHandle" ∧ yX12_lose.cls ≠ "java/lang/invoke/VarHandle" ∧ (parseMethodDescriptor yX12_lose.desc).map (fun d => d.parameters.length) = some 2) := by decide +kernel
abbrev mX12_cut : mm_M := (yX12_cut, cX12_cut, 8, some (FieldType.int), 2, 43)
theorem hdX12_cut : (yX12_cut.cls ≠ "java/lang/invoke/MethodHandle" ∧ yX12_cut.cls ≠ "java/lang/invoke/VarHandle" ∧ (parseMethodDescriptor yX12_cut.desc).map (fun d => d.parameters.length) = some 3) := by decide +kernel
abbrev mX12_damage : mm_M := (yX12_damage, cX12_damage, 6, some (FieldType.int), 2, 43)
theorem hdX12_damage : (yX12_damage.cls ≠ "java/lang/invoke/MethodHandle" ∧ yX12_damage.cls ≠ "java/lang/invoke/VarHandle" ∧ (parseMethodDescriptor yX12_damage.desc).map (fun d => d.parameters.length) = some 4) := by decide +kernel
abbrev mX12_resum : mm_M := (yX12_resum, cX12_resum, 5, some (FieldType.int), 2, 43)
theorem hdX12_resum : (yX12_resum.cls ≠ "java/lang/invoke/MethodHandle" ∧ yX12_resum.cls ≠ "java/lang/invoke/VarHandle" ∧ (parseMethodDescriptor yX12_resum.desc).map (fun d => d.parameters.length) = some 2) := by decide +kernel
abbrev mX12_shorts : mm_M := (yX12_shorts, cX12_shorts, 6, some (FieldType.int), 2, 43)
theorem hdX12_shorts : (yX12_shorts.cls ≠ "java/lang/invoke/MethodHandle" ∧ yX12_shorts.cls ≠ "java/lang/invoke/VarHandle" ∧ (parseMethodDescriptor yX12_shorts.desc).map (fun d => d.parameters.length) = some 2) := by decide +kernel
abbrev mX12_take : mm_M := (yX12_take, cX12_take, 4, none, 0, 0)
theorem hdX12_take : (yX12_take.cls ≠ "java/lang/invoke/MethodHandle" ∧ yX12_take.cls ≠ "java/lang/invoke/VarHandle" ∧ (parseMethodDescriptor yX12_take.desc).map (fun d => d.parameters.length) = some 2) := by decide +kernel
abbrev mX12_order : mm_M := (yX12_order, cX12_order, 7, some (FieldType.int), 2, 43)
theorem hdX12_order : (yX12_order.cls ≠ "java/lang/invoke/MethodHandle" ∧ yX12_order.cls ≠ "java/lang/invoke/VarHandle" ∧ (parseMethodDescriptor yX12_order.desc).map (fun d => d.parameters.length) = some 3) := by decide +kernel
abbrev mX12_drop : mm_M := (yX12_drop, cX12_drop, 3, some (FieldType.int), 2, 43)
theorem hdX12_drop : (yX12_drop.cls ≠ "java/lang/invoke/MethodHandle" ∧ yX12_drop.cls ≠ "java/lang/invoke/VarHandle" ∧ (parseMethodDescriptor yX12_drop.desc).map (fun d => d.parameters.length) = some 2) := by decide +kernel
abbrev mX12_again : mm_M := (yX12_again, cX12_again, 3, some (FieldType.int), 2, 43)
theorem hdX12_again : (yX12_again.cls ≠ "java/lang/invoke/MethodHandle" ∧ yX12_again.cls ≠ "java/lang/invoke/VarHandle" ∧ (parseMethodDescriptor yX12_again.desc).map (fun d => d.parameters.length) = some 2) := by decide +kernel
abbrev mX12_type : mm_M := (yX12_type, cX12_type, 5, some (FieldType.int), 1, 22)
theorem hdX12_type : (yX12_type.cls ≠ "java/lang/invoke/MethodHandle" ∧ yX12_type.cls ≠ "java/lang/invoke/VarHandle" ∧ (parseMethodDescriptor yX12_type.desc).map (fun d => d.parameters.length) = some 2) := by decide +kernel
abbrev mX12_feed : mm_M := (yX12_feed, cX12_feed, 5, some (FieldType.int), 1, 23)
theorem hdX12_feed : (yX12_feed.cls ≠ "java/lang/invoke/MethodHandle" ∧ yX12_feed.cls ≠ "java/lang/invoke/VarHandle" ∧ (parseMethodDescriptor yX12_feed.desc).map (fun d => d.parameters.length) = some 2) := by decide +kernel
abbrev mX12_opened : mm_M := (yX12_opened, cX12_opened, 3, some (FieldType.int), 1, 24)
theorem hdX12_opened : (yX12_opened.cls ≠ "java/lang/invoke/MethodHandle" ∧ yX12_opened.cls ≠ "java/lang/invoke/VarHandle" ∧ (parseMethodDescriptor yX12_opened.desc).map (fun d => d.parameters.length) = some 1) := by decide +kernel
abbrev mX12_isVoice : mm_M := (yX12_isVoice, cX12_isVoice, 1, some (FieldType.boolean), 0, 0)
theorem hdX12_isVoice : (yX12_isVoice.cls ≠ "java/lang/invoke/MethodHandle" ∧ yX12_isVoice.cls ≠ "java/lang/invoke/VarHandle" ∧ (parseMethodDescriptor yX12_isVoice.desc).map (fun d => d.parameters.length) = some 0) := by decide +kernel
abbrev mX12_body : mm_M := (yX12_body, cX12_body, 2, some (FieldType.int), 0, 0)
theorem hdX12_body : (yX12_body.cls ≠ "java/lang/invoke/MethodHandle" ∧ yX12_body.cls ≠ "java/lang/invoke/VarHandle" ∧ (parseMethodDescriptor yX12_body.desc).map (fun d => d.parameters.length) = some 1) := by decide +kernel
abbrev mX12_open : mm_M := (yX12_open, cX12_open, 3, some (FieldType.int), 2, 46)
theorem hdX12_open : (yX12_open.cls ≠ "java/lang/invoke/MethodHandle" ∧ yX12_open.cls ≠ "java/lang/invoke/VarHandle" ∧ (parseMethodDescriptor yX12_open.desc).map (fun d => d.parameters.length) = some 1) := by decide +kernel
abbrev mX12_firstWith : mm_M := (yX12_firstWith, cX12_firstWith, 5, some (FieldType.int), 0, 0)
theorem hdX12_firstWith : (yX12_firstWith.cls ≠ "java/lang/invoke/MethodHandle" ∧ yX12_firstWith.cls ≠ "java/lang/invoke/VarHandle" ∧ (parseMethodDescriptor yX12_firstWith.desc).map (fun d => d.parameters.length) = some 2) := by decide +kernel
abbrev mX12_decode : mm_M := (yX12_decode, cX12_decode, 8, some (FieldType.int), 5, 135)
theorem hdX12_decode : (yX12_decode.cls ≠ "java/lang/invoke/MethodHandle" ∧ yX12_decode.cls ≠ "java/lang/invoke/VarHandle" ∧ (parseMethodDescriptor yX12_decode.desc).map (fun d => d.parameters.length) = some 1) := by decide +kernel
abbrev mX12_play : mm_M := (yX12_play, cX12_play, 11, none, 4, 105)
theorem hdX12_play : (yX12_play.cls ≠ "java/lang/invoke/MethodHandle" ∧ yX12_play.cls ≠ "java/lang/invoke/VarHandle" ∧ (parseMethodDescriptor yX12_play.desc).map (fun d => d.parameters.length) = some 2) := by decide +kernel
abbrev mX12_repair0 : mm_M := (yX12_repair0, cX12_repair0, 10, none, 3, 74)
theorem hdX12_repair0 : (yX12_repair0.cls ≠ "java/lang/invoke/MethodHandle" ∧ yX12_repair0.cls ≠ "java/lang/invoke/VarHandle" ∧ (parseMethodDescriptor yX12_repair0.desc).map (fun d => d.parameters.length) = some 2) := by decide +kernel
abbrev mX12_filter : mm_M := (yX12_filter, cX12_filter, 9, none, 1, 23)
theorem hdX12_filter : (yX12_filter.cls ≠ "java/lang/invoke/MethodHandle" ∧ yX12_filter.cls ≠ "java/lang/invoke/VarHandle" ∧ (parseMethodDescriptor yX12_filter.desc).map (fun d => d.parameters.length) = some 3) := by decide +kernel
abbrev mX12_join0 : mm_M := (yX12_join0, cX12_join0, 6, none, 0, 0)
theorem hdX12_join0 : (yX12_join0.cls ≠ "java/lang/invoke/MethodHandle" ∧ yX12_join0.cls ≠ "java/lang/invoke/VarHandle" ∧ (parseMethodDescriptor yX12_join0.desc).map (fun d => d.parameters.length) = some 2) := by decide +kernel
abbrev mX12_drift0 : mm_M := (yX12_drift0, cX12_drift0, 5, some (FieldType.int), 0, 0)
theorem hdX12_drift0 : (yX12_drift0.cls ≠ "java/lang/invoke/MethodHandle" ∧ yX12_drift0.cls ≠ "java/lang/invoke/VarHandle" ∧ (parseMethodDescriptor yX12_drift0.desc).map (fun d => d.parameters.length) = some 2) := by decide +kernel
abbrev mX12_out : mm_M := (yX12_out, cX12_out, 3, some (FieldType.int), 1, 22)
theorem hdX12_out : (yX12_out.cls ≠ "java/lang/invoke/MethodHandle" ∧ yX12_out.cls ≠ "java/lang/invoke/VarHandle" ∧ (parseMethodDescriptor yX12_out.desc).map (fun d => d.parameters.length) = some 2) := by decide +kernel
abbrev mX12_state : mm_M := (yX12_state, cX12_state, 6, some (FieldType.int), 1, 22)
theorem hdX12_state : (yX12_state.cls ≠ "java/lang/invoke/MethodHandle" ∧ yX12_state.cls ≠ "java/lang/invoke/VarHandle" ∧ (parseMethodDescriptor yX12_state.desc).map (fun d => d.parameters.length) = some 4) := by decide +kernel
abbrev mX12_finding : mm_M := (yX12_finding, cX12_finding, 2, some (FieldType.int), 1, 21)
theorem hdX12_finding : (yX12_finding.cls ≠ "java/lang/invoke/MethodHandle" ∧ yX12_finding.cls ≠ "java/lang/invoke/VarHandle" ∧ (parseMethodDescriptor yX12_finding.desc).map (fun d => d.parameters.length) = some 1) := by decide +kernel
abbrev mX12_repair : mm_M := (yX12_repair, cX12_repair, 2, some (FieldType.int), 1, 21)
theorem hdX12_repair : (yX12_repair.cls ≠ "java/lang/invoke/MethodHandle" ∧ yX12_repair.cls ≠ "java/lang/invoke/VarHandle" ∧ (parseMethodDescriptor yX12_repair.desc).map (fun d => d.parameters.length) = some 1) := by decide +kernel
abbrev mX12_stage : mm_M := (yX12_stage, cX12_stage, 7, some (FieldType.int), 1, 22)
theorem hdX12_stage : (yX12_stage.cls ≠ "java/lang/invoke/MethodHandle" ∧ yX12_stage.cls ≠ "java/lang/invoke/VarHandle" ∧ (parseMethodDescriptor yX12_stage.desc).map (fun d => d.parameters.length) = some 3) := by decide +kernel
abbrev mX12_join : mm_M := (yX12_join, cX12_join, 4, some (FieldType.int), 1, 22)
theorem hdX12_join : (yX12_join.cls ≠ "java/lang/invoke/MethodHandle" ∧ yX12_join.cls ≠ "java/lang/invoke/VarHandle" ∧ (parseMethodDescriptor yX12_join.desc).map (fun d => d.parameters.length) = some 2) := by decide +kernel
abbrev mX12_drift : mm_M := (yX12_drift, cX12_drift, 4, some (FieldType.int), 1, 22)
theorem hdX12_drift : (yX12_drift.cls ≠ "java/lang/invoke/MethodHandle" ∧ yX12_drift.cls ≠ "java/lang/invoke/VarHandle" ∧ (parseMethodDescriptor yX12_drift.desc).map (fun d => d.parameters.length) = some 2) := by decide +kernel
abbrev mX12_mix : mm_M := (yX12_mix, cX12_mix, 6, some (FieldType.int), 1, 22)
theorem hdX12_mix : (yX12_mix.cls ≠ "java/lang/invoke/MethodHandle" ∧ yX12_mix.cls ≠ "java/lang/invoke/VarHandle" ∧ (parseMethodDescriptor yX12_mix.desc).map (fun d => d.parameters.length) = some 4) := by decide +kernel
abbrev mX12_resample : mm_M := (yX12_resample, cX12_resample, 10, some (FieldType.int), 1, 22)
theorem hdX12_resample : (yX12_resample.cls ≠ "java/lang/invoke/MethodHandle" ∧ yX12_resample.cls ≠ "java/lang/invoke/VarHandle" ∧ (parseMethodDescriptor yX12_resample.desc).map (fun d => d.parameters.length) = some 3) := by decide +kernel
abbrev mX12_work : mm_M := (yX12_work, cX12_work, 2, some (FieldType.int), 1, 22)
theorem hdX12_work : (yX12_work.cls ≠ "java/lang/invoke/MethodHandle" ∧ yX12_work.cls ≠ "java/lang/invoke/VarHandle" ∧ (parseMethodDescriptor yX12_work.desc).map (fun d => d.parameters.length) = some 1) := by decide +kernel
abbrev mX12_trace : mm_M := (yX12_trace, cX12_trace, 2, some (FieldType.int), 1, 22)
theorem hdX12_trace : (yX12_trace.cls ≠ "java/lang/invoke/MethodHandle" ∧ yX12_trace.cls ≠ "java/lang/invoke/VarHandle" ∧ (parseMethodDescriptor yX12_trace.desc).map (fun d => d.parameters.length) = some 1) := by decide +kernel
abbrev mX12_count : mm_M := (yX12_count, cX12_count, 3, some (FieldType.int), 1, 21)
theorem hdX12_count : (yX12_count.cls ≠ "java/lang/invoke/MethodHandle" ∧ yX12_count.cls ≠ "java/lang/invoke/VarHandle" ∧ (parseMethodDescriptor yX12_count.desc).map (fun d => d.parameters.length) = some 2) := by decide +kernel
abbrev mX12_found : mm_M := (yX12_found, cX12_found, 2, some (FieldType.int), 1, 22)
theorem hdX12_found : (yX12_found.cls ≠ "java/lang/invoke/MethodHandle" ∧ yX12_found.cls ≠ "java/lang/invoke/VarHandle" ∧ (parseMethodDescriptor yX12_found.desc).map (fun d => d.parameters.length) = some 1) := by decide +kernel
abbrev mX12_saturations : mm_M := (yX12_saturations, cX12_saturations, 1, some (FieldType.long), 0, 0)
theorem hdX12_saturations : (yX12_saturations.cls ≠ "java/lang/invoke/MethodHandle" ∧ yX12_saturations.cls ≠ "java/lang/invoke/VarHandle" ∧ (parseMethodDescriptor yX12_saturations.desc).map (fun d => d.parameters.length) = some 0) := by decide +kernel
abbrev mX12_digest : mm_M := (yX12_digest, cX12_digest, 6, some (FieldType.int), 1, 22)
theorem hdX12_digest : (yX12_digest.cls ≠ "java/lang/invoke/MethodHandle" ∧ yX12_digest.cls ≠ "java/lang/invoke/VarHandle" ∧ (parseMethodDescriptor yX12_digest.desc).map (fun d => d.parameters.length) = some 2) := by decide +kernel
abbrev mX12_status : mm_M := (yX12_status, cX12_status, 1, some (FieldType.int), 0, 0)
theorem hdX12_status : (yX12_status.cls ≠ "java/lang/invoke/MethodHandle" ∧ yX12_status.cls ≠ "java/lang/invoke/VarHandle" ∧ (parseMethodDescriptor yX12_status.desc).map (fun d => d.parameters.length) = some 0) := by decide +kernel
abbrev mX12_told : mm_M := (yX12_told, cX12_told, 2, some (FieldType.int), 1, 21)
theorem hdX12_told : (yX12_told.cls ≠ "java/lang/invoke/MethodHandle" ∧ yX12_told.cls ≠ "java/lang/invoke/VarHandle" ∧ (parseMethodDescriptor yX12_told.desc).map (fun d => d.parameters.length) = some 1) := by decide +kernel
abbrev mX12_clear : mm_M := (yX12_clear, cX12_clear, 2, some (FieldType.int), 1, 21)
theorem hdX12_clear : (yX12_clear.cls ≠ "java/lang/invoke/MethodHandle" ∧ yX12_clear.cls ≠ "java/lang/invoke/VarHandle" ∧ (parseMethodDescriptor yX12_clear.desc).map (fun d => d.parameters.length) = some 0) := by decide +kernel
abbrev mJ9_abs_0f7a4 : mm_M := (yJ9_abs_0f7a4, cJ9_abs_0f7a4, 1, some (FieldType.int), 0, 0)
theorem hdJ9_abs_0f7a4 : (yJ9_abs_0f7a4.cls ≠ "java/lang/invoke/MethodHandle" ∧ yJ9_abs_0f7a4.cls ≠ "java/lang/invoke/VarHandle" ∧ (parseMethodDescriptor yJ9_abs_0f7a4.desc).map (fun d => d.parameters.length) = some 1) := by decide +kernel
abbrev mJ9_abs_067f4 : mm_M := (yJ9_abs_067f4, cJ9_abs_067f4, 2, some (FieldType.long), 0, 0)
theorem hdJ9_abs_067f4 : (yJ9_abs_067f4.cls ≠ "java/lang/invoke/MethodHandle" ∧ yJ9_abs_067f4.cls ≠ "java/lang/invoke/VarHandle" ∧ (parseMethodDescriptor yJ9_abs_067f4.desc).map (fun d => d.parameters.length) = some 1) := by decide +kernel
abbrev mJ9_max_7cf53 : mm_M := (yJ9_max_7cf53, cJ9_max_7cf53, 2, some (FieldType.int), 0, 0)
theorem hdJ9_max_7cf53 : (yJ9_max_7cf53.cls ≠ "java/lang/invoke/MethodHandle" ∧ yJ9_max_7cf53.cls ≠ "java/lang/invoke/VarHandle" ∧ (parseMethodDescriptor yJ9_max_7cf53.desc).map (fun d => d.parameters.length) = some 2) := by decide +kernel
abbrev mJ9_max_f86c9 : mm_M := (yJ9_max_f86c9, cJ9_max_f86c9, 4, some (FieldType.long), 0, 0)
theorem hdJ9_max_f86c9 : (yJ9_max_f86c9.cls ≠ "java/lang/invoke/MethodHandle" ∧ yJ9_max_f86c9.cls ≠ "java/lang/invoke/VarHandle" ∧ (parseMethodDescriptor yJ9_max_f86c9.desc).map (fun d => d.parameters.length) = some 2) := by decide +kernel
abbrev mJ9_min_7cf53 : mm_M := (yJ9_min_7cf53, cJ9_min_7cf53, 2, some (FieldType.int), 0, 0)
theorem hdJ9_min_7cf53 : (yJ9_min_7cf53.cls ≠ "java/lang/invoke/MethodHandle" ∧ yJ9_min_7cf53.cls ≠ "java/lang/invoke/VarHandle" ∧ (parseMethodDescriptor yJ9_min_7cf53.desc).map (fun d => d.parameters.length) = some 2) := by decide +kernel
abbrev mJ9_min_f86c9 : mm_M := (yJ9_min_f86c9, cJ9_min_f86c9, 4, some (FieldType.long), 0, 0)
theorem hdJ9_min_f86c9 : (yJ9_min_f86c9.cls ≠ "java/lang/invoke/MethodHandle" ∧ yJ9_min_f86c9.cls ≠ "java/lang/invoke/VarHandle" ∧ (parseMethodDescriptor yJ9_min_f86c9.desc).map (fun d => d.parameters.length) = some 2) := by decide +kernel
abbrev mJ7_fill_d0a16 : mm_M := (yJ7_fill_d0a16, cJ7_fill_d0a16, 5, none, 0, 0)
theorem hdJ7_fill_d0a16 : (yJ7_fill_d0a16.cls ≠ "java/lang/invoke/MethodHandle" ∧ yJ7_fill_d0a16.cls ≠ "java/lang/invoke/VarHandle" ∧ (parseMethodDescriptor yJ7_fill_d0a16.desc).map (fun d => d.parameters.length) = some 2) := by decide +kernel
abbrev mJ7_fill_53178 : mm_M := (yJ7_fill_53178, cJ7_fill_53178, 4, none, 0, 0)
theorem hdJ7_fill_53178 : (yJ7_fill_53178.cls ≠ "java/lang/invoke/MethodHandle" ∧ yJ7_fill_53178.cls ≠ "java/lang/invoke/VarHandle" ∧ (parseMethodDescriptor yJ7_fill_53178.desc).map (fun d => d.parameters.length) = some 2) := by decide +kernel
abbrev mJ7_copyOf_9075b : mm_M := (yJ7_copyOf_9075b, cJ7_copyOf_9075b, 3, some ((FieldType.array FieldType.byte)), 1, 26)
theorem hdJ7_copyOf_9075b : (yJ7_copyOf_9075b.cls ≠ "java/lang/invoke/MethodHandle" ∧ yJ7_copyOf_9075b.cls ≠ "java/lang/invoke/VarHandle" ∧ (parseMethodDescriptor yJ7_copyOf_9075b.desc).map (fun d => d.parameters.length) = some 2) := by decide +kernel
abbrev mJ7_copyOf_974b1 : mm_M := (yJ7_copyOf_974b1, cJ7_copyOf_974b1, 3, some ((FieldType.array FieldType.short)), 1, 26)
theorem hdJ7_copyOf_974b1 : (yJ7_copyOf_974b1.cls ≠ "java/lang/invoke/MethodHandle" ∧ yJ7_copyOf_974b1.cls ≠ "java/lang/invoke/VarHandle" ∧ (parseMethodDescriptor yJ7_copyOf_974b1.desc).map (fun d => d.parameters.length) = some 2) := by decide +kernel
abbrev mL_law : mm_M := (yL_law, cL_law, 4, some .boolean, 7, 178)
theorem hdL_law : (yL_law.cls ≠ "java/lang/invoke/MethodHandle" ∧ yL_law.cls ≠ "java/lang/invoke/VarHandle" ∧ (parseMethodDescriptor yL_law.desc).map (fun d => d.parameters.length) = some 1) := by decide +kernel
