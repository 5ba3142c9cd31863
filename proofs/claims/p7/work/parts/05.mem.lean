theorem mt_1 {w : Cond} (h : w ∈ tables_1_1) : w ∈ lw_tbl := List.mem_append_right _ (show w ∈ tables_1_1 ++ (tables_1_2 ++ (tables_1_3 ++ (tables_1_4 ++ (tables_1_5 ++ tables_1_6)))) from List.mem_append_left _ h)
theorem mt_2 {w : Cond} (h : w ∈ tables_1_2) : w ∈ lw_tbl := List.mem_append_right _ (show w ∈ tables_1_1 ++ (tables_1_2 ++ (tables_1_3 ++ (tables_1_4 ++ (tables_1_5 ++ tables_1_6)))) from List.mem_append_right _ (List.mem_append_left _ h))
theorem mt_3 {w : Cond} (h : w ∈ tables_1_3) : w ∈ lw_tbl := List.mem_append_right _ (show w ∈ tables_1_1 ++ (tables_1_2 ++ (tables_1_3 ++ (tables_1_4 ++ (tables_1_5 ++ tables_1_6)))) from List.mem_append_right _ (List.mem_append_right _ (List.mem_append_left _ h)))
theorem mt_4 {w : Cond} (h : w ∈ tables_1_4) : w ∈ lw_tbl := List.mem_append_right _ (show w ∈ tables_1_1 ++ (tables_1_2 ++ (tables_1_3 ++ (tables_1_4 ++ (tables_1_5 ++ tables_1_6)))) from List.mem_append_right _ (List.mem_append_right _ (List.mem_append_right _ (List.mem_append_left _ h))))
theorem mt_5 {w : Cond} (h : w ∈ tables_1_5) : w ∈ lw_tbl := List.mem_append_right _ (show w ∈ tables_1_1 ++ (tables_1_2 ++ (tables_1_3 ++ (tables_1_4 ++ (tables_1_5 ++ tables_1_6)))) from List.mem_append_right _ (List.mem_append_right _ (List.mem_append_right _ (List.mem_append_right _ (List.mem_append_left _ h)))))
theorem mt_6 {w : Cond} (h : w ∈ tables_1_6) : w ∈ lw_tbl := List.mem_append_right _ (show w ∈ tables_1_1 ++ (tables_1_2 ++ (tables_1_3 ++ (tables_1_4 ++ (tables_1_5 ++ tables_1_6)))) from List.mem_append_right _ (List.mem_append_right _ (List.mem_append_right _ (List.mem_append_right _ (List.mem_append_right _ (h))))))
theorem se_Throwable_Throwable_fillInStackTrace : Cond.selects "java/lang/Throwable" ⟨"java/lang/Throwable", "fillInStackTrace", "(I)Ljava/lang/Throwable;"⟩ ⟨"java/lang/Throwable", "fillInStackTrace", "(I)Ljava/lang/Throwable;"⟩ ∈ TS := List.mem_filter.mpr ⟨List.mem_of_getElem? (i := 0) (by decide +kernel), rfl⟩
theorem se_X10_X10_cellsGood : Cond.selects RX10 yX10_cellsGood yX10_cellsGood ∈ TS := List.mem_filter.mpr ⟨List.mem_of_getElem? (i := 1) (by decide +kernel), rfl⟩
theorem se_X10_X10_fail : Cond.selects RX10 yX10_fail yX10_fail ∈ TS := List.mem_filter.mpr ⟨List.mem_of_getElem? (i := 2) (by decide +kernel), rfl⟩
theorem se_X10_X10_full : Cond.selects RX10 yX10_full yX10_full ∈ TS := List.mem_filter.mpr ⟨List.mem_of_getElem? (i := 3) (by decide +kernel), rfl⟩
theorem se_X10_X10_post : Cond.selects RX10 yX10_post yX10_post ∈ TS := List.mem_filter.mpr ⟨List.mem_of_getElem? (i := 4) (by decide +kernel), rfl⟩
theorem se_X10_X10_numbersOf : Cond.selects RX10 yX10_numbersOf yX10_numbersOf ∈ TS := List.mem_filter.mpr ⟨List.mem_of_getElem? (i := 5) (by decide +kernel), rfl⟩
theorem se_X10_X10_requestOf : Cond.selects RX10 yX10_requestOf yX10_requestOf ∈ TS := List.mem_filter.mpr ⟨List.mem_of_getElem? (i := 6) (by decide +kernel), rfl⟩
theorem se_X10_X10_emit : Cond.selects RX10 yX10_emit yX10_emit ∈ TS := List.mem_filter.mpr ⟨List.mem_of_getElem? (i := 7) (by decide +kernel), rfl⟩
theorem se_X10_X10_load : Cond.selects RX10 yX10_load yX10_load ∈ TS := List.mem_filter.mpr ⟨List.mem_of_getElem? (i := 8) (by decide +kernel), rfl⟩
theorem se_X10_X10_move1 : Cond.selects RX10 yX10_move1 yX10_move1 ∈ TS := List.mem_filter.mpr ⟨List.mem_of_getElem? (i := 9) (by decide +kernel), rfl⟩
theorem se_X10_X10_drop : Cond.selects RX10 yX10_drop yX10_drop ∈ TS := List.mem_filter.mpr ⟨List.mem_of_getElem? (i := 10) (by decide +kernel), rfl⟩
theorem se_X10_X10_asked : Cond.selects RX10 yX10_asked yX10_asked ∈ TS := List.mem_filter.mpr ⟨List.mem_of_getElem? (i := 11) (by decide +kernel), rfl⟩
theorem se_X10_X10_fresh : Cond.selects RX10 yX10_fresh yX10_fresh ∈ TS := List.mem_filter.mpr ⟨List.mem_of_getElem? (i := 12) (by decide +kernel), rfl⟩
theorem se_X10_X10_freshSend : Cond.selects RX10 yX10_freshSend yX10_freshSend ∈ TS := List.mem_filter.mpr ⟨List.mem_of_getElem? (i := 13) (by decide +kernel), rfl⟩
theorem se_X10_X10_refuse : Cond.selects RX10 yX10_refuse yX10_refuse ∈ TS := List.mem_filter.mpr ⟨List.mem_of_getElem? (i := 14) (by decide +kernel), rfl⟩
theorem se_X10_X10_failPair : Cond.selects RX10 yX10_failPair yX10_failPair ∈ TS := List.mem_filter.mpr ⟨List.mem_of_getElem? (i := 15) (by decide +kernel), rfl⟩
theorem se_X10_X10_complete : Cond.selects RX10 yX10_complete yX10_complete ∈ TS := List.mem_filter.mpr ⟨List.mem_of_getElem? (i := 16) (by decide +kernel), rfl⟩
theorem se_X10_X10_takeCells : Cond.selects RX10 yX10_takeCells yX10_takeCells ∈ TS := List.mem_filter.mpr ⟨List.mem_of_getElem? (i := 17) (by decide +kernel), rfl⟩
theorem se_X10_X10_accept : Cond.selects RX10 yX10_accept yX10_accept ∈ TS := List.mem_filter.mpr ⟨List.mem_of_getElem? (i := 18) (by decide +kernel), rfl⟩
theorem se_X10_X10_ack : Cond.selects RX10 yX10_ack yX10_ack ∈ TS := List.mem_filter.mpr ⟨List.mem_of_getElem? (i := 19) (by decide +kernel), rfl⟩
theorem se_X10_X10_dropReceive : Cond.selects RX10 yX10_dropReceive yX10_dropReceive ∈ TS := List.mem_filter.mpr ⟨List.mem_of_getElem? (i := 20) (by decide +kernel), rfl⟩
theorem se_X10_X10_allows : Cond.selects RX10 yX10_allows yX10_allows ∈ TS := List.mem_filter.mpr ⟨List.mem_of_getElem? (i := 21) (by decide +kernel), rfl⟩
theorem se_X10_X10_reads : Cond.selects RX10 yX10_reads yX10_reads ∈ TS := List.mem_filter.mpr ⟨List.mem_of_getElem? (i := 22) (by decide +kernel), rfl⟩
theorem se_X10_X10_freshAdd : Cond.selects RX10 yX10_freshAdd yX10_freshAdd ∈ TS := List.mem_filter.mpr ⟨List.mem_of_getElem? (i := 23) (by decide +kernel), rfl⟩
theorem se_X10_X10_replyOld : Cond.selects RX10 yX10_replyOld yX10_replyOld ∈ TS := List.mem_filter.mpr ⟨List.mem_of_getElem? (i := 24) (by decide +kernel), rfl⟩
theorem se_X10_X10_again : Cond.selects RX10 yX10_again yX10_again ∈ TS := List.mem_filter.mpr ⟨List.mem_of_getElem? (i := 25) (by decide +kernel), rfl⟩
theorem se_X10_X10_replied : Cond.selects RX10 yX10_replied yX10_replied ∈ TS := List.mem_filter.mpr ⟨List.mem_of_getElem? (i := 26) (by decide +kernel), rfl⟩
theorem se_X10_X10_hasCells : Cond.selects RX10 yX10_hasCells yX10_hasCells ∈ TS := List.mem_filter.mpr ⟨List.mem_of_getElem? (i := 27) (by decide +kernel), rfl⟩
theorem se_X10_X10_answerOne : Cond.selects RX10 yX10_answerOne yX10_answerOne ∈ TS := List.mem_filter.mpr ⟨List.mem_of_getElem? (i := 28) (by decide +kernel), rfl⟩
theorem se_X10_X10_dropRequest : Cond.selects RX10 yX10_dropRequest yX10_dropRequest ∈ TS := List.mem_filter.mpr ⟨List.mem_of_getElem? (i := 29) (by decide +kernel), rfl⟩
theorem se_X10_X10_answerSome : Cond.selects RX10 yX10_answerSome yX10_answerSome ∈ TS := List.mem_filter.mpr ⟨List.mem_of_getElem? (i := 30) (by decide +kernel), rfl⟩
theorem se_X10_X10_refused : Cond.selects RX10 yX10_refused yX10_refused ∈ TS := List.mem_filter.mpr ⟨List.mem_of_getElem? (i := 31) (by decide +kernel), rfl⟩
theorem se_X10_X10_tickPair : Cond.selects RX10 yX10_tickPair yX10_tickPair ∈ TS := List.mem_filter.mpr ⟨List.mem_of_getElem? (i := 32) (by decide +kernel), rfl⟩
theorem se_X10_X10_dropEnd : Cond.selects RX10 yX10_dropEnd yX10_dropEnd ∈ TS := List.mem_filter.mpr ⟨List.mem_of_getElem? (i := 33) (by decide +kernel), rfl⟩
theorem in_L : Cond.initialized RL ∈ TS := List.mem_filter.mpr ⟨mt_1 (List.mem_of_getElem? (i := 0) (by decide +kernel)), rfl⟩
theorem in_X9 : Cond.initialized RX9 ∈ TS := List.mem_filter.mpr ⟨mt_1 (List.mem_of_getElem? (i := 1) (by decide +kernel)), rfl⟩
theorem in_Math : Cond.initialized "java/lang/Math" ∈ TS := List.mem_filter.mpr ⟨mt_1 (List.mem_of_getElem? (i := 2) (by decide +kernel)), rfl⟩
theorem in_X0 : Cond.initialized RX0 ∈ TS := List.mem_filter.mpr ⟨mt_1 (List.mem_of_getElem? (i := 3) (by decide +kernel)), rfl⟩
theorem in_X2 : Cond.initialized RX2 ∈ TS := List.mem_filter.mpr ⟨mt_1 (List.mem_of_getElem? (i := 4) (by decide +kernel)), rfl⟩
theorem in_X1 : Cond.initialized RX1 ∈ TS := List.mem_filter.mpr ⟨mt_1 (List.mem_of_getElem? (i := 5) (by decide +kernel)), rfl⟩
theorem in_X6 : Cond.initialized RX6 ∈ TS := List.mem_filter.mpr ⟨mt_1 (List.mem_of_getElem? (i := 6) (by decide +kernel)), rfl⟩
theorem in_X7 : Cond.initialized RX7 ∈ TS := List.mem_filter.mpr ⟨mt_1 (List.mem_of_getElem? (i := 7) (by decide +kernel)), rfl⟩
theorem in_X5 : Cond.initialized RX5 ∈ TS := List.mem_filter.mpr ⟨mt_1 (List.mem_of_getElem? (i := 8) (by decide +kernel)), rfl⟩
theorem in_X4 : Cond.initialized RX4 ∈ TS := List.mem_filter.mpr ⟨mt_1 (List.mem_of_getElem? (i := 9) (by decide +kernel)), rfl⟩
theorem in_X3 : Cond.initialized RX3 ∈ TS := List.mem_filter.mpr ⟨mt_1 (List.mem_of_getElem? (i := 10) (by decide +kernel)), rfl⟩
theorem in_X8 : Cond.initialized RX8 ∈ TS := List.mem_filter.mpr ⟨mt_1 (List.mem_of_getElem? (i := 11) (by decide +kernel)), rfl⟩
theorem in_X10 : Cond.initialized RX10 ∈ TS := List.mem_filter.mpr ⟨mt_1 (List.mem_of_getElem? (i := 12) (by decide +kernel)), rfl⟩
theorem in_Throwable : Cond.initialized "java/lang/Throwable" ∈ TS := List.mem_filter.mpr ⟨mt_1 (List.mem_of_getElem? (i := 13) (by decide +kernel)), rfl⟩
theorem in_Exception : Cond.initialized "java/lang/Exception" ∈ TS := List.mem_filter.mpr ⟨mt_1 (List.mem_of_getElem? (i := 14) (by decide +kernel)), rfl⟩
theorem in_RuntimeException : Cond.initialized "java/lang/RuntimeException" ∈ TS := List.mem_filter.mpr ⟨mt_1 (List.mem_of_getElem? (i := 15) (by decide +kernel)), rfl⟩
theorem in_IllegalArgumentException : Cond.initialized "java/lang/IllegalArgumentException" ∈ TS := List.mem_filter.mpr ⟨mt_1 (List.mem_of_getElem? (i := 16) (by decide +kernel)), rfl⟩
theorem in_IllegalStateException : Cond.initialized "java/lang/IllegalStateException" ∈ TS := List.mem_filter.mpr ⟨mt_1 (List.mem_of_getElem? (i := 17) (by decide +kernel)), rfl⟩
theorem in_NoSuchElementException : Cond.initialized "java/util/NoSuchElementException" ∈ TS := List.mem_filter.mpr ⟨mt_1 (List.mem_of_getElem? (i := 18) (by decide +kernel)), rfl⟩
theorem cl_L_8 : Cond.classLink RL 8 RX9 ∈ TS := List.mem_filter.mpr ⟨mt_1 (List.mem_of_getElem? (i := 19) (by decide +kernel)), rfl⟩
theorem ia_X9 : Cond.instantiable RX9 3 ∈ TS := List.mem_filter.mpr ⟨mt_1 (List.mem_of_getElem? (i := 20) (by decide +kernel)), rfl⟩
theorem ml_L_51 : Cond.methodLink RL 51 yX9_init ∈ TS := List.mem_filter.mpr ⟨mt_1 (List.mem_of_getElem? (i := 21) (by decide +kernel)), rfl⟩
theorem im_X9_init : Cond.instanceMethod yX9_init ∈ TS := List.mem_filter.mpr ⟨mt_1 (List.mem_of_getElem? (i := 22) (by decide +kernel)), rfl⟩
set_option maxRecDepth 100000 in
theorem co_X9_init : Cond.code yX9_init cX9_init 10 none ∈ TS := List.mem_filter.mpr ⟨mt_1 (List.mem_of_getElem? (i := 23) (by show tables_1_1[_]? = _; rfl)), rfl⟩
theorem ml_X9_3 : Cond.methodLink RX9 3 ⟨"java/lang/Object", "<init>", "()V"⟩ ∈ TS := List.mem_filter.mpr ⟨mt_1 (List.mem_of_getElem? (i := 24) (by decide +kernel)), rfl⟩
theorem im_Object__init_ : Cond.instanceMethod ⟨"java/lang/Object", "<init>", "()V"⟩ ∈ TS := List.mem_filter.mpr ⟨mt_1 (List.mem_of_getElem? (i := 25) (by decide +kernel)), rfl⟩
set_option maxRecDepth 100000 in
theorem co_Object__init_ : Cond.code ⟨"java/lang/Object", "<init>", "()V"⟩ object_method_1_code 1 none ∈ TS := List.mem_filter.mpr ⟨mt_1 (List.mem_of_getElem? (i := 26) (by show tables_1_1[_]? = _; rfl)), rfl⟩
theorem ml_X9_9 : Cond.methodLink RX9 9 yX9_within ∈ TS := List.mem_filter.mpr ⟨mt_1 (List.mem_of_getElem? (i := 27) (by decide +kernel)), rfl⟩
theorem st_X9_within : Cond.static yX9_within ∈ TS := List.mem_filter.mpr ⟨mt_1 (List.mem_of_getElem? (i := 28) (by decide +kernel)), rfl⟩
set_option maxRecDepth 100000 in
theorem co_X9_within : Cond.code yX9_within cX9_within 3 (some .int) ∈ TS := List.mem_filter.mpr ⟨mt_1 (List.mem_of_getElem? (i := 29) (by show tables_1_1[_]? = _; rfl)), rfl⟩
theorem ml_X9_194 : Cond.methodLink RX9 194 ⟨"java/lang/Math", "min", "(II)I"⟩ ∈ TS := List.mem_filter.mpr ⟨mt_1 (List.mem_of_getElem? (i := 30) (by decide +kernel)), rfl⟩
theorem st_Math_min : Cond.static ⟨"java/lang/Math", "min", "(II)I"⟩ ∈ TS := List.mem_filter.mpr ⟨mt_1 (List.mem_of_getElem? (i := 31) (by decide +kernel)), rfl⟩
set_option maxRecDepth 100000 in
theorem co_Math_min : Cond.code ⟨"java/lang/Math", "min", "(II)I"⟩ prog_16_method_69_code 2 (some .int) ∈ TS := List.mem_filter.mpr ⟨mt_1 (List.mem_of_getElem? (i := 32) (by show tables_1_1[_]? = _; rfl)), rfl⟩
theorem ml_X9_200 : Cond.methodLink RX9 200 ⟨"java/lang/Math", "max", "(II)I"⟩ ∈ TS := List.mem_filter.mpr ⟨mt_1 (List.mem_of_getElem? (i := 33) (by decide +kernel)), rfl⟩
theorem st_Math_max : Cond.static ⟨"java/lang/Math", "max", "(II)I"⟩ ∈ TS := List.mem_filter.mpr ⟨mt_1 (List.mem_of_getElem? (i := 34) (by decide +kernel)), rfl⟩
set_option maxRecDepth 100000 in
theorem co_Math_max : Cond.code ⟨"java/lang/Math", "max", "(II)I"⟩ prog_16_method_65_code 2 (some .int) ∈ TS := List.mem_filter.mpr ⟨mt_1 (List.mem_of_getElem? (i := 35) (by show tables_1_1[_]? = _; rfl)), rfl⟩
theorem cl_X9_13 : Cond.classLink RX9 13 RX0 ∈ TS := List.mem_filter.mpr ⟨mt_1 (List.mem_of_getElem? (i := 36) (by decide +kernel)), rfl⟩
theorem ia_X0 : Cond.instantiable RX0 4 ∈ TS := List.mem_filter.mpr ⟨mt_1 (List.mem_of_getElem? (i := 37) (by decide +kernel)), rfl⟩
theorem ml_X9_15 : Cond.methodLink RX9 15 yX0_init ∈ TS := List.mem_filter.mpr ⟨mt_1 (List.mem_of_getElem? (i := 38) (by decide +kernel)), rfl⟩
theorem im_X0_init : Cond.instanceMethod yX0_init ∈ TS := List.mem_filter.mpr ⟨mt_1 (List.mem_of_getElem? (i := 39) (by decide +kernel)), rfl⟩
set_option maxRecDepth 100000 in
theorem co_X0_init : Cond.code yX0_init cX0_init 2 none ∈ TS := List.mem_filter.mpr ⟨mt_1 (List.mem_of_getElem? (i := 40) (by show tables_1_1[_]? = _; rfl)), rfl⟩
theorem ml_X0_3 : Cond.methodLink RX0 3 ⟨"java/lang/Object", "<init>", "()V"⟩ ∈ TS := List.mem_filter.mpr ⟨mt_1 (List.mem_of_getElem? (i := 41) (by decide +kernel)), rfl⟩
theorem cl_X0_9 : Cond.classLink RX0 9 RX2 ∈ TS := List.mem_filter.mpr ⟨mt_1 (List.mem_of_getElem? (i := 42) (by decide +kernel)), rfl⟩
theorem ao_X2 : Cond.arrayOver (.object RX2) ∈ TS := List.mem_filter.mpr ⟨mt_1 (List.mem_of_getElem? (i := 43) (by decide +kernel)), rfl⟩
theorem ia_X2 : Cond.instantiable RX2 8 ∈ TS := List.mem_filter.mpr ⟨mt_1 (List.mem_of_getElem? (i := 44) (by decide +kernel)), rfl⟩
theorem mn_X0_17 : Cond.methodLinkNest RX0 17 yX2_init RX9 ∈ TS := List.mem_filter.mpr ⟨mt_1 (List.mem_of_getElem? (i := 45) (by decide +kernel)), rfl⟩
theorem im_X2_init : Cond.instanceMethod yX2_init ∈ TS := List.mem_filter.mpr ⟨mt_1 (List.mem_of_getElem? (i := 46) (by decide +kernel)), rfl⟩
set_option maxRecDepth 100000 in
theorem co_X2_init : Cond.code yX2_init cX2_init 1 none ∈ TS := List.mem_filter.mpr ⟨mt_1 (List.mem_of_getElem? (i := 47) (by show tables_1_1[_]? = _; rfl)), rfl⟩
theorem ml_X2_3 : Cond.methodLink RX2 3 ⟨"java/lang/Object", "<init>", "()V"⟩ ∈ TS := List.mem_filter.mpr ⟨mt_1 (List.mem_of_getElem? (i := 48) (by decide +kernel)), rfl⟩
theorem fl_X2_15 : Cond.fieldLink RX2 15 "RemoteReach$Packet" "pair" "I" ∈ TS := List.mem_filter.mpr ⟨mt_1 (List.mem_of_getElem? (i := 49) (by decide +kernel)), rfl⟩
theorem fl_X9_146 : Cond.fieldLink RX9 146 "RemoteReach$Packet" "pair" "I" ∈ TS := List.mem_filter.mpr ⟨mt_1 (List.mem_of_getElem? (i := 50) (by decide +kernel)), rfl⟩
theorem fl_X2_19 : Cond.fieldLink RX2 19 "RemoteReach$Packet" "kind" "I" ∈ TS := List.mem_filter.mpr ⟨mt_1 (List.mem_of_getElem? (i := 51) (by decide +kernel)), rfl⟩
theorem fl_X8_75 : Cond.fieldLink RX8 75 "RemoteReach$Packet" "kind" "I" ∈ TS := List.mem_filter.mpr ⟨mt_1 (List.mem_of_getElem? (i := 52) (by decide +kernel)), rfl⟩
theorem fl_X3_51 : Cond.fieldLink RX3 51 "RemoteReach$Packet" "kind" "I" ∈ TS := List.mem_filter.mpr ⟨mt_1 (List.mem_of_getElem? (i := 53) (by decide +kernel)), rfl⟩
theorem fl_X2_22 : Cond.fieldLink RX2 22 "RemoteReach$Packet" "number" "I" ∈ TS := List.mem_filter.mpr ⟨mt_1 (List.mem_of_getElem? (i := 54) (by decide +kernel)), rfl⟩
theorem fl_X8_59 : Cond.fieldLink RX8 59 "RemoteReach$Packet" "number" "I" ∈ TS := List.mem_filter.mpr ⟨mt_1 (List.mem_of_getElem? (i := 55) (by decide +kernel)), rfl⟩
theorem fl_X3_64 : Cond.fieldLink RX3 64 "RemoteReach$Packet" "number" "I" ∈ TS := List.mem_filter.mpr ⟨mt_1 (List.mem_of_getElem? (i := 56) (by decide +kernel)), rfl⟩
theorem fl_X7_168 : Cond.fieldLink RX7 168 "RemoteReach$Packet" "number" "I" ∈ TS := List.mem_filter.mpr ⟨mt_1 (List.mem_of_getElem? (i := 57) (by decide +kernel)), rfl⟩
theorem fl_X2_25 : Cond.fieldLink RX2 25 "RemoteReach$Packet" "count" "I" ∈ TS := List.mem_filter.mpr ⟨mt_1 (List.mem_of_getElem? (i := 58) (by decide +kernel)), rfl⟩
theorem fl_X7_144 : Cond.fieldLink RX7 144 "RemoteReach$Packet" "count" "I" ∈ TS := List.mem_filter.mpr ⟨mt_1 (List.mem_of_getElem? (i := 59) (by decide +kernel)), rfl⟩
theorem fl_X8_128 : Cond.fieldLink RX8 128 "RemoteReach$Packet" "count" "I" ∈ TS := List.mem_filter.mpr ⟨mt_1 (List.mem_of_getElem? (i := 60) (by decide +kernel)), rfl⟩
theorem fl_X2_28 : Cond.fieldLink RX2 28 "RemoteReach$Packet" "mark" "I" ∈ TS := List.mem_filter.mpr ⟨mt_1 (List.mem_of_getElem? (i := 61) (by decide +kernel)), rfl⟩
theorem fl_X3_67 : Cond.fieldLink RX3 67 "RemoteReach$Packet" "mark" "I" ∈ TS := List.mem_filter.mpr ⟨mt_1 (List.mem_of_getElem? (i := 62) (by decide +kernel)), rfl⟩
theorem fl_X7_135 : Cond.fieldLink RX7 135 "RemoteReach$Packet" "mark" "I" ∈ TS := List.mem_filter.mpr ⟨mt_1 (List.mem_of_getElem? (i := 63) (by decide +kernel)), rfl⟩
theorem fl_X8_179 : Cond.fieldLink RX8 179 "RemoteReach$Packet" "mark" "I" ∈ TS := List.mem_filter.mpr ⟨mt_1 (List.mem_of_getElem? (i := 64) (by decide +kernel)), rfl⟩
theorem fl_X2_31 : Cond.fieldLink RX2 31 "RemoteReach$Packet" "place" "I" ∈ TS := List.mem_filter.mpr ⟨mt_1 (List.mem_of_getElem? (i := 65) (by decide +kernel)), rfl⟩
theorem fl_X7_140 : Cond.fieldLink RX7 140 "RemoteReach$Packet" "place" "I" ∈ TS := List.mem_filter.mpr ⟨mt_1 (List.mem_of_getElem? (i := 66) (by decide +kernel)), rfl⟩
theorem fl_X8_151 : Cond.fieldLink RX8 151 "RemoteReach$Packet" "place" "I" ∈ TS := List.mem_filter.mpr ⟨mt_1 (List.mem_of_getElem? (i := 67) (by decide +kernel)), rfl⟩
theorem fl_X2_34 : Cond.fieldLink RX2 34 "RemoteReach$Packet" "value" "I" ∈ TS := List.mem_filter.mpr ⟨mt_1 (List.mem_of_getElem? (i := 68) (by decide +kernel)), rfl⟩
theorem fl_X7_145 : Cond.fieldLink RX7 145 "RemoteReach$Packet" "value" "I" ∈ TS := List.mem_filter.mpr ⟨mt_1 (List.mem_of_getElem? (i := 69) (by decide +kernel)), rfl⟩
theorem fl_X8_158 : Cond.fieldLink RX8 158 "RemoteReach$Packet" "value" "I" ∈ TS := List.mem_filter.mpr ⟨mt_1 (List.mem_of_getElem? (i := 70) (by decide +kernel)), rfl⟩
theorem fl_X2_9 : Cond.fieldLink RX2 9 "RemoteReach$Packet" "cells" "[I" ∈ TS := List.mem_filter.mpr ⟨mt_1 (List.mem_of_getElem? (i := 71) (by decide +kernel)), rfl⟩
theorem fl_X8_176 : Cond.fieldLink RX8 176 "RemoteReach$Packet" "cells" "[I" ∈ TS := List.mem_filter.mpr ⟨mt_1 (List.mem_of_getElem? (i := 72) (by decide +kernel)), rfl⟩
theorem la_X2_pair : Cond.lays RX2 "RemoteReach$Packet" "pair" "I" ∈ TS := List.mem_filter.mpr ⟨mt_1 (List.mem_of_getElem? (i := 73) (by decide +kernel)), rfl⟩
theorem la_X2_kind : Cond.lays RX2 "RemoteReach$Packet" "kind" "I" ∈ TS := List.mem_filter.mpr ⟨mt_1 (List.mem_of_getElem? (i := 75) (by decide +kernel)), rfl⟩
theorem la_X2_number : Cond.lays RX2 "RemoteReach$Packet" "number" "I" ∈ TS := List.mem_filter.mpr ⟨mt_1 (List.mem_of_getElem? (i := 77) (by decide +kernel)), rfl⟩
theorem la_X2_count : Cond.lays RX2 "RemoteReach$Packet" "count" "I" ∈ TS := List.mem_filter.mpr ⟨mt_1 (List.mem_of_getElem? (i := 79) (by decide +kernel)), rfl⟩
theorem la_X2_mark : Cond.lays RX2 "RemoteReach$Packet" "mark" "I" ∈ TS := List.mem_filter.mpr ⟨mt_1 (List.mem_of_getElem? (i := 81) (by decide +kernel)), rfl⟩
theorem la_X2_place : Cond.lays RX2 "RemoteReach$Packet" "place" "I" ∈ TS := List.mem_filter.mpr ⟨mt_1 (List.mem_of_getElem? (i := 83) (by decide +kernel)), rfl⟩
theorem la_X2_value : Cond.lays RX2 "RemoteReach$Packet" "value" "I" ∈ TS := List.mem_filter.mpr ⟨mt_1 (List.mem_of_getElem? (i := 85) (by decide +kernel)), rfl⟩
theorem la_X2_cells : Cond.laysFinal RX2 "RemoteReach$Packet" "cells" "[I" ∈ TS := List.mem_filter.mpr ⟨mt_1 (List.mem_of_getElem? (i := 87) (by decide +kernel)), rfl⟩
theorem ac_int : Cond.arrayClass .int ∈ TS := List.mem_filter.mpr ⟨mt_1 (List.mem_of_getElem? (i := 90) (by decide +kernel)), rfl⟩
theorem fl_X0_11 : Cond.fieldLink RX0 11 "RemoteReach$Fabric" "rows" "[LRemoteReach$Packet;" ∈ TS := List.mem_filter.mpr ⟨mt_1 (List.mem_of_getElem? (i := 91) (by decide +kernel)), rfl⟩
theorem fl_X9_168 : Cond.fieldLink RX9 168 "RemoteReach$Fabric" "rows" "[LRemoteReach$Packet;" ∈ TS := List.mem_filter.mpr ⟨mt_1 (List.mem_of_getElem? (i := 92) (by decide +kernel)), rfl⟩
theorem fl_X0_25 : Cond.fieldLink RX0 25 "RemoteReach$Fabric" "count" "I" ∈ TS := List.mem_filter.mpr ⟨mt_1 (List.mem_of_getElem? (i := 93) (by decide +kernel)), rfl⟩
theorem fl_X9_165 : Cond.fieldLink RX9 165 "RemoteReach$Fabric" "count" "I" ∈ TS := List.mem_filter.mpr ⟨mt_1 (List.mem_of_getElem? (i := 94) (by decide +kernel)), rfl⟩
theorem fl_X0_18 : Cond.fieldLink RX0 18 "RemoteReach$Fabric" "taken" "LRemoteReach$Packet;" ∈ TS := List.mem_filter.mpr ⟨mt_1 (List.mem_of_getElem? (i := 95) (by decide +kernel)), rfl⟩
theorem fl_X0_22 : Cond.fieldLink RX0 22 "RemoteReach$Fabric" "lost" "LRemoteReach$Packet;" ∈ TS := List.mem_filter.mpr ⟨mt_1 (List.mem_of_getElem? (i := 96) (by decide +kernel)), rfl⟩
theorem la_X0_rows : Cond.laysFinal RX0 "RemoteReach$Fabric" "rows" "[LRemoteReach$Packet;" ∈ TS := List.mem_filter.mpr ⟨mt_1 (List.mem_of_getElem? (i := 97) (by decide +kernel)), rfl⟩
theorem la_X0_count : Cond.lays RX0 "RemoteReach$Fabric" "count" "I" ∈ TS := List.mem_filter.mpr ⟨mt_1 (List.mem_of_getElem? (i := 99) (by decide +kernel)), rfl⟩
theorem la_X0_taken : Cond.lays RX0 "RemoteReach$Fabric" "taken" "LRemoteReach$Packet;" ∈ TS := List.mem_filter.mpr ⟨mt_1 (List.mem_of_getElem? (i := 101) (by decide +kernel)), rfl⟩
theorem la_X0_lost : Cond.laysFinal RX0 "RemoteReach$Fabric" "lost" "LRemoteReach$Packet;" ∈ TS := List.mem_filter.mpr ⟨mt_1 (List.mem_of_getElem? (i := 103) (by decide +kernel)), rfl⟩
theorem cl_X9_20 : Cond.classLink RX9 20 RX1 ∈ TS := List.mem_filter.mpr ⟨mt_1 (List.mem_of_getElem? (i := 106) (by decide +kernel)), rfl⟩
theorem ao_X1 : Cond.arrayOver (.object RX1) ∈ TS := List.mem_filter.mpr ⟨mt_1 (List.mem_of_getElem? (i := 107) (by decide +kernel)), rfl⟩
theorem ia_X1 : Cond.instantiable RX1 5 ∈ TS := List.mem_filter.mpr ⟨mt_1 (List.mem_of_getElem? (i := 108) (by decide +kernel)), rfl⟩
theorem ml_X9_26 : Cond.methodLink RX9 26 yX1_init ∈ TS := List.mem_filter.mpr ⟨mt_1 (List.mem_of_getElem? (i := 109) (by decide +kernel)), rfl⟩
theorem im_X1_init : Cond.instanceMethod yX1_init ∈ TS := List.mem_filter.mpr ⟨mt_1 (List.mem_of_getElem? (i := 110) (by decide +kernel)), rfl⟩
set_option maxRecDepth 100000 in
theorem co_X1_init : Cond.code yX1_init cX1_init 2 none ∈ TS := List.mem_filter.mpr ⟨mt_1 (List.mem_of_getElem? (i := 111) (by show tables_1_1[_]? = _; rfl)), rfl⟩
theorem ml_X1_3 : Cond.methodLink RX1 3 ⟨"java/lang/Object", "<init>", "()V"⟩ ∈ TS := List.mem_filter.mpr ⟨mt_1 (List.mem_of_getElem? (i := 112) (by decide +kernel)), rfl⟩
theorem cl_X1_15 : Cond.classLink RX1 15 RX6 ∈ TS := List.mem_filter.mpr ⟨mt_1 (List.mem_of_getElem? (i := 113) (by decide +kernel)), rfl⟩
theorem ao_X6 : Cond.arrayOver (.object RX6) ∈ TS := List.mem_filter.mpr ⟨mt_1 (List.mem_of_getElem? (i := 114) (by decide +kernel)), rfl⟩
theorem ia_X6 : Cond.instantiable RX6 3 ∈ TS := List.mem_filter.mpr ⟨mt_1 (List.mem_of_getElem? (i := 115) (by decide +kernel)), rfl⟩
theorem mn_X1_24 : Cond.methodLinkNest RX1 24 yX6_init RX9 ∈ TS := List.mem_filter.mpr ⟨mt_1 (List.mem_of_getElem? (i := 116) (by decide +kernel)), rfl⟩
theorem im_X6_init : Cond.instanceMethod yX6_init ∈ TS := List.mem_filter.mpr ⟨mt_1 (List.mem_of_getElem? (i := 117) (by decide +kernel)), rfl⟩
set_option maxRecDepth 100000 in
theorem co_X6_init : Cond.code yX6_init cX6_init 1 none ∈ TS := List.mem_filter.mpr ⟨mt_1 (List.mem_of_getElem? (i := 118) (by show tables_1_1[_]? = _; rfl)), rfl⟩
theorem ml_X6_1 : Cond.methodLink RX6 1 ⟨"java/lang/Object", "<init>", "()V"⟩ ∈ TS := List.mem_filter.mpr ⟨mt_1 (List.mem_of_getElem? (i := 119) (by decide +kernel)), rfl⟩
theorem fl_X6_7 : Cond.fieldLink RX6 7 "RemoteReach$Region" "base" "I" ∈ TS := List.mem_filter.mpr ⟨mt_1 (List.mem_of_getElem? (i := 120) (by decide +kernel)), rfl⟩
theorem fl_X6_13 : Cond.fieldLink RX6 13 "RemoteReach$Region" "length" "I" ∈ TS := List.mem_filter.mpr ⟨mt_1 (List.mem_of_getElem? (i := 121) (by decide +kernel)), rfl⟩
theorem fl_X6_16 : Cond.fieldLink RX6 16 "RemoteReach$Region" "rights" "I" ∈ TS := List.mem_filter.mpr ⟨mt_1 (List.mem_of_getElem? (i := 122) (by decide +kernel)), rfl⟩
theorem la_X6_base : Cond.lays RX6 "RemoteReach$Region" "base" "I" ∈ TS := List.mem_filter.mpr ⟨mt_1 (List.mem_of_getElem? (i := 123) (by decide +kernel)), rfl⟩
theorem la_X6_length : Cond.lays RX6 "RemoteReach$Region" "length" "I" ∈ TS := List.mem_filter.mpr ⟨mt_1 (List.mem_of_getElem? (i := 125) (by decide +kernel)), rfl⟩
theorem la_X6_rights : Cond.lays RX6 "RemoteReach$Region" "rights" "I" ∈ TS := List.mem_filter.mpr ⟨mt_1 (List.mem_of_getElem? (i := 127) (by decide +kernel)), rfl⟩
theorem fl_X1_9 : Cond.fieldLink RX1 9 "RemoteReach$Node" "cells" "[I" ∈ TS := List.mem_filter.mpr ⟨mt_1 (List.mem_of_getElem? (i := 130) (by decide +kernel)), rfl⟩
theorem fl_X1_17 : Cond.fieldLink RX1 17 "RemoteReach$Node" "regions" "[LRemoteReach$Region;" ∈ TS := List.mem_filter.mpr ⟨mt_1 (List.mem_of_getElem? (i := 131) (by decide +kernel)), rfl⟩
theorem fl_X9_57 : Cond.fieldLink RX9 57 "RemoteReach$Node" "regions" "[LRemoteReach$Region;" ∈ TS := List.mem_filter.mpr ⟨mt_1 (List.mem_of_getElem? (i := 132) (by decide +kernel)), rfl⟩
theorem fl_X1_21 : Cond.fieldLink RX1 21 "RemoteReach$Node" "ring" "[I" ∈ TS := List.mem_filter.mpr ⟨mt_1 (List.mem_of_getElem? (i := 133) (by decide +kernel)), rfl⟩
theorem fl_X1_40 : Cond.fieldLink RX1 40 "RemoteReach$Node" "head" "I" ∈ TS := List.mem_filter.mpr ⟨mt_1 (List.mem_of_getElem? (i := 134) (by decide +kernel)), rfl⟩
theorem fl_X1_36 : Cond.fieldLink RX1 36 "RemoteReach$Node" "completed" "I" ∈ TS := List.mem_filter.mpr ⟨mt_1 (List.mem_of_getElem? (i := 135) (by decide +kernel)), rfl⟩
theorem fl_X9_176 : Cond.fieldLink RX9 176 "RemoteReach$Node" "completed" "I" ∈ TS := List.mem_filter.mpr ⟨mt_1 (List.mem_of_getElem? (i := 136) (by decide +kernel)), rfl⟩
theorem la_X1_cells : Cond.laysFinal RX1 "RemoteReach$Node" "cells" "[I" ∈ TS := List.mem_filter.mpr ⟨mt_1 (List.mem_of_getElem? (i := 137) (by decide +kernel)), rfl⟩
theorem la_X1_regions : Cond.laysFinal RX1 "RemoteReach$Node" "regions" "[LRemoteReach$Region;" ∈ TS := List.mem_filter.mpr ⟨mt_1 (List.mem_of_getElem? (i := 139) (by decide +kernel)), rfl⟩
theorem la_X1_ring : Cond.laysFinal RX1 "RemoteReach$Node" "ring" "[I" ∈ TS := List.mem_filter.mpr ⟨mt_1 (List.mem_of_getElem? (i := 141) (by decide +kernel)), rfl⟩
theorem la_X1_head : Cond.lays RX1 "RemoteReach$Node" "head" "I" ∈ TS := List.mem_filter.mpr ⟨mt_1 (List.mem_of_getElem? (i := 143) (by decide +kernel)), rfl⟩
theorem la_X1_completed : Cond.lays RX1 "RemoteReach$Node" "completed" "I" ∈ TS := List.mem_filter.mpr ⟨mt_1 (List.mem_of_getElem? (i := 145) (by decide +kernel)), rfl⟩
theorem cl_X9_27 : Cond.classLink RX9 27 RX3 ∈ TS := List.mem_filter.mpr ⟨mt_1 (List.mem_of_getElem? (i := 148) (by decide +kernel)), rfl⟩
theorem ao_X3 : Cond.arrayOver (.object RX3) ∈ TS := List.mem_filter.mpr ⟨mt_1 (List.mem_of_getElem? (i := 149) (by decide +kernel)), rfl⟩
theorem cl_X9_33 : Cond.classLink RX9 33 RX7 ∈ TS := List.mem_filter.mpr ⟨mt_1 (List.mem_of_getElem? (i := 150) (by decide +kernel)), rfl⟩
theorem ia_X7 : Cond.instantiable RX7 14 ∈ TS := List.mem_filter.mpr ⟨mt_1 (List.mem_of_getElem? (i := 151) (by decide +kernel)), rfl⟩
theorem ml_X9_35 : Cond.methodLink RX9 35 yX7_init ∈ TS := List.mem_filter.mpr ⟨mt_1 (List.mem_of_getElem? (i := 152) (by decide +kernel)), rfl⟩
theorem im_X7_init : Cond.instanceMethod yX7_init ∈ TS := List.mem_filter.mpr ⟨mt_1 (List.mem_of_getElem? (i := 153) (by decide +kernel)), rfl⟩
set_option maxRecDepth 100000 in
theorem co_X7_init : Cond.code yX7_init cX7_init 7 none ∈ TS := List.mem_filter.mpr ⟨mt_1 (List.mem_of_getElem? (i := 154) (by show tables_1_1[_]? = _; rfl)), rfl⟩
theorem ml_X7_3 : Cond.methodLink RX7 3 ⟨"java/lang/Object", "<init>", "()V"⟩ ∈ TS := List.mem_filter.mpr ⟨mt_1 (List.mem_of_getElem? (i := 155) (by decide +kernel)), rfl⟩
theorem mn_X7_9 : Cond.methodLinkNest RX7 9 yX9_peerOf RX9 ∈ TS := List.mem_filter.mpr ⟨mt_1 (List.mem_of_getElem? (i := 156) (by decide +kernel)), rfl⟩
theorem st_X9_peerOf : Cond.static yX9_peerOf ∈ TS := List.mem_filter.mpr ⟨mt_1 (List.mem_of_getElem? (i := 157) (by decide +kernel)), rfl⟩
set_option maxRecDepth 100000 in
theorem co_X9_peerOf : Cond.code yX9_peerOf cX9_peerOf 1 (some .int) ∈ TS := List.mem_filter.mpr ⟨mt_1 (List.mem_of_getElem? (i := 158) (by show tables_1_1[_]? = _; rfl)), rfl⟩
theorem cl_X7_36 : Cond.classLink RX7 36 RX5 ∈ TS := List.mem_filter.mpr ⟨mt_1 (List.mem_of_getElem? (i := 159) (by decide +kernel)), rfl⟩
theorem ia_X5 : Cond.instantiable RX5 6 ∈ TS := List.mem_filter.mpr ⟨mt_1 (List.mem_of_getElem? (i := 160) (by decide +kernel)), rfl⟩
theorem ml_X7_38 : Cond.methodLink RX7 38 yX5_init ∈ TS := List.mem_filter.mpr ⟨mt_1 (List.mem_of_getElem? (i := 161) (by decide +kernel)), rfl⟩
theorem im_X5_init : Cond.instanceMethod yX5_init ∈ TS := List.mem_filter.mpr ⟨mt_1 (List.mem_of_getElem? (i := 162) (by decide +kernel)), rfl⟩
set_option maxRecDepth 100000 in
theorem co_X5_init : Cond.code yX5_init cX5_init 4 none ∈ TS := List.mem_filter.mpr ⟨mt_1 (List.mem_of_getElem? (i := 163) (by show tables_1_1[_]? = _; rfl)), rfl⟩
theorem ml_X5_3 : Cond.methodLink RX5 3 ⟨"java/lang/Object", "<init>", "()V"⟩ ∈ TS := List.mem_filter.mpr ⟨mt_1 (List.mem_of_getElem? (i := 164) (by decide +kernel)), rfl⟩
theorem cl_X5_9 : Cond.classLink RX5 9 RX4 ∈ TS := List.mem_filter.mpr ⟨mt_1 (List.mem_of_getElem? (i := 165) (by decide +kernel)), rfl⟩
theorem ao_X4 : Cond.arrayOver (.object RX4) ∈ TS := List.mem_filter.mpr ⟨mt_1 (List.mem_of_getElem? (i := 166) (by decide +kernel)), rfl⟩
theorem ia_X4 : Cond.instantiable RX4 10 ∈ TS := List.mem_filter.mpr ⟨mt_1 (List.mem_of_getElem? (i := 167) (by decide +kernel)), rfl⟩
theorem mn_X5_25 : Cond.methodLinkNest RX5 25 yX4_init RX9 ∈ TS := List.mem_filter.mpr ⟨mt_1 (List.mem_of_getElem? (i := 168) (by decide +kernel)), rfl⟩
theorem im_X4_init : Cond.instanceMethod yX4_init ∈ TS := List.mem_filter.mpr ⟨mt_1 (List.mem_of_getElem? (i := 169) (by decide +kernel)), rfl⟩
set_option maxRecDepth 100000 in
theorem co_X4_init : Cond.code yX4_init cX4_init 1 none ∈ TS := List.mem_filter.mpr ⟨mt_1 (List.mem_of_getElem? (i := 170) (by show tables_1_1[_]? = _; rfl)), rfl⟩
theorem ml_X4_3 : Cond.methodLink RX4 3 ⟨"java/lang/Object", "<init>", "()V"⟩ ∈ TS := List.mem_filter.mpr ⟨mt_1 (List.mem_of_getElem? (i := 171) (by decide +kernel)), rfl⟩
theorem fl_X4_24 : Cond.fieldLink RX4 24 "RemoteReach$Posted" "kind" "I" ∈ TS := List.mem_filter.mpr ⟨mt_1 (List.mem_of_getElem? (i := 172) (by decide +kernel)), rfl⟩
theorem fl_X5_39 : Cond.fieldLink RX5 39 "RemoteReach$Posted" "kind" "I" ∈ TS := List.mem_filter.mpr ⟨mt_1 (List.mem_of_getElem? (i := 173) (by decide +kernel)), rfl⟩
theorem fl_X1_43 : Cond.fieldLink RX1 43 "RemoteReach$Posted" "kind" "I" ∈ TS := List.mem_filter.mpr ⟨mt_1 (List.mem_of_getElem? (i := 174) (by decide +kernel)), rfl⟩
theorem fl_X7_118 : Cond.fieldLink RX7 118 "RemoteReach$Posted" "kind" "I" ∈ TS := List.mem_filter.mpr ⟨mt_1 (List.mem_of_getElem? (i := 175) (by decide +kernel)), rfl⟩
theorem fl_X7_102 : Cond.fieldLink RX7 102 "RemoteReach$Posted" "serial" "I" ∈ TS := List.mem_filter.mpr ⟨mt_1 (List.mem_of_getElem? (i := 176) (by decide +kernel)), rfl⟩
theorem fl_X5_42 : Cond.fieldLink RX5 42 "RemoteReach$Posted" "serial" "I" ∈ TS := List.mem_filter.mpr ⟨mt_1 (List.mem_of_getElem? (i := 177) (by decide +kernel)), rfl⟩
theorem fl_X1_48 : Cond.fieldLink RX1 48 "RemoteReach$Posted" "serial" "I" ∈ TS := List.mem_filter.mpr ⟨mt_1 (List.mem_of_getElem? (i := 178) (by decide +kernel)), rfl⟩
theorem fl_X9_130 : Cond.fieldLink RX9 130 "RemoteReach$Posted" "serial" "I" ∈ TS := List.mem_filter.mpr ⟨mt_1 (List.mem_of_getElem? (i := 179) (by decide +kernel)), rfl⟩
theorem fl_X5_45 : Cond.fieldLink RX5 45 "RemoteReach$Posted" "here" "I" ∈ TS := List.mem_filter.mpr ⟨mt_1 (List.mem_of_getElem? (i := 180) (by decide +kernel)), rfl⟩
theorem fl_X7_146 : Cond.fieldLink RX7 146 "RemoteReach$Posted" "here" "I" ∈ TS := List.mem_filter.mpr ⟨mt_1 (List.mem_of_getElem? (i := 181) (by decide +kernel)), rfl⟩
theorem fl_X8_129 : Cond.fieldLink RX8 129 "RemoteReach$Posted" "here" "I" ∈ TS := List.mem_filter.mpr ⟨mt_1 (List.mem_of_getElem? (i := 182) (by decide +kernel)), rfl⟩
theorem fl_X4_9 : Cond.fieldLink RX4 9 "RemoteReach$Posted" "n" "I" ∈ TS := List.mem_filter.mpr ⟨mt_1 (List.mem_of_getElem? (i := 183) (by decide +kernel)), rfl⟩
theorem fl_X5_48 : Cond.fieldLink RX5 48 "RemoteReach$Posted" "n" "I" ∈ TS := List.mem_filter.mpr ⟨mt_1 (List.mem_of_getElem? (i := 184) (by decide +kernel)), rfl⟩
theorem fl_X1_54 : Cond.fieldLink RX1 54 "RemoteReach$Posted" "n" "I" ∈ TS := List.mem_filter.mpr ⟨mt_1 (List.mem_of_getElem? (i := 185) (by decide +kernel)), rfl⟩
theorem fl_X7_141 : Cond.fieldLink RX7 141 "RemoteReach$Posted" "n" "I" ∈ TS := List.mem_filter.mpr ⟨mt_1 (List.mem_of_getElem? (i := 186) (by decide +kernel)), rfl⟩
theorem fl_X8_120 : Cond.fieldLink RX8 120 "RemoteReach$Posted" "n" "I" ∈ TS := List.mem_filter.mpr ⟨mt_1 (List.mem_of_getElem? (i := 187) (by decide +kernel)), rfl⟩
theorem fl_X7_78 : Cond.fieldLink RX7 78 "RemoteReach$Posted" "first" "I" ∈ TS := List.mem_filter.mpr ⟨mt_1 (List.mem_of_getElem? (i := 188) (by decide +kernel)), rfl⟩
theorem fl_X4_21 : Cond.fieldLink RX4 21 "RemoteReach$Posted" "numbers" "I" ∈ TS := List.mem_filter.mpr ⟨mt_1 (List.mem_of_getElem? (i := 189) (by decide +kernel)), rfl⟩
theorem fl_X7_86 : Cond.fieldLink RX7 86 "RemoteReach$Posted" "numbers" "I" ∈ TS := List.mem_filter.mpr ⟨mt_1 (List.mem_of_getElem? (i := 190) (by decide +kernel)), rfl⟩
theorem fl_X7_89 : Cond.fieldLink RX7 89 "RemoteReach$Posted" "region" "I" ∈ TS := List.mem_filter.mpr ⟨mt_1 (List.mem_of_getElem? (i := 191) (by decide +kernel)), rfl⟩
theorem fl_X7_92 : Cond.fieldLink RX7 92 "RemoteReach$Posted" "place" "I" ∈ TS := List.mem_filter.mpr ⟨mt_1 (List.mem_of_getElem? (i := 192) (by decide +kernel)), rfl⟩
theorem fl_X7_95 : Cond.fieldLink RX7 95 "RemoteReach$Posted" "value" "I" ∈ TS := List.mem_filter.mpr ⟨mt_1 (List.mem_of_getElem? (i := 193) (by decide +kernel)), rfl⟩
theorem fl_X5_51 : Cond.fieldLink RX5 51 "RemoteReach$Posted" "came" "I" ∈ TS := List.mem_filter.mpr ⟨mt_1 (List.mem_of_getElem? (i := 194) (by decide +kernel)), rfl⟩
theorem fl_X1_51 : Cond.fieldLink RX1 51 "RemoteReach$Posted" "came" "I" ∈ TS := List.mem_filter.mpr ⟨mt_1 (List.mem_of_getElem? (i := 195) (by decide +kernel)), rfl⟩
theorem fl_X8_125 : Cond.fieldLink RX8 125 "RemoteReach$Posted" "came" "I" ∈ TS := List.mem_filter.mpr ⟨mt_1 (List.mem_of_getElem? (i := 196) (by decide +kernel)), rfl⟩
theorem la_X4_kind : Cond.lays RX4 "RemoteReach$Posted" "kind" "I" ∈ TS := List.mem_filter.mpr ⟨mt_1 (List.mem_of_getElem? (i := 197) (by decide +kernel)), rfl⟩
theorem la_X4_serial : Cond.lays RX4 "RemoteReach$Posted" "serial" "I" ∈ TS := List.mem_filter.mpr ⟨mt_1 (List.mem_of_getElem? (i := 199) (by decide +kernel)), rfl⟩
theorem la_X4_here : Cond.lays RX4 "RemoteReach$Posted" "here" "I" ∈ TS := List.mem_filter.mpr ⟨mt_1 (List.mem_of_getElem? (i := 201) (by decide +kernel)), rfl⟩
theorem la_X4_n : Cond.lays RX4 "RemoteReach$Posted" "n" "I" ∈ TS := List.mem_filter.mpr ⟨mt_1 (List.mem_of_getElem? (i := 203) (by decide +kernel)), rfl⟩
theorem la_X4_first : Cond.lays RX4 "RemoteReach$Posted" "first" "I" ∈ TS := List.mem_filter.mpr ⟨mt_1 (List.mem_of_getElem? (i := 205) (by decide +kernel)), rfl⟩
theorem la_X4_numbers : Cond.lays RX4 "RemoteReach$Posted" "numbers" "I" ∈ TS := List.mem_filter.mpr ⟨mt_1 (List.mem_of_getElem? (i := 207) (by decide +kernel)), rfl⟩
theorem la_X4_region : Cond.lays RX4 "RemoteReach$Posted" "region" "I" ∈ TS := List.mem_filter.mpr ⟨mt_1 (List.mem_of_getElem? (i := 209) (by decide +kernel)), rfl⟩
theorem la_X4_place : Cond.lays RX4 "RemoteReach$Posted" "place" "I" ∈ TS := List.mem_filter.mpr ⟨mt_1 (List.mem_of_getElem? (i := 211) (by decide +kernel)), rfl⟩
theorem la_X4_value : Cond.lays RX4 "RemoteReach$Posted" "value" "I" ∈ TS := List.mem_filter.mpr ⟨mt_1 (List.mem_of_getElem? (i := 213) (by decide +kernel)), rfl⟩
theorem la_X4_came : Cond.lays RX4 "RemoteReach$Posted" "came" "I" ∈ TS := List.mem_filter.mpr ⟨mt_1 (List.mem_of_getElem? (i := 215) (by decide +kernel)), rfl⟩
theorem fl_X5_17 : Cond.fieldLink RX5 17 "RemoteReach$Queue" "pair" "I" ∈ TS := List.mem_filter.mpr ⟨mt_1 (List.mem_of_getElem? (i := 218) (by decide +kernel)), rfl⟩
theorem fl_X5_21 : Cond.fieldLink RX5 21 "RemoteReach$Queue" "node" "LRemoteReach$Node;" ∈ TS := List.mem_filter.mpr ⟨mt_1 (List.mem_of_getElem? (i := 219) (by decide +kernel)), rfl⟩
theorem fl_X5_11 : Cond.fieldLink RX5 11 "RemoteReach$Queue" "rows" "[LRemoteReach$Posted;" ∈ TS := List.mem_filter.mpr ⟨mt_1 (List.mem_of_getElem? (i := 220) (by decide +kernel)), rfl⟩
theorem fl_X5_26 : Cond.fieldLink RX5 26 "RemoteReach$Queue" "head" "I" ∈ TS := List.mem_filter.mpr ⟨mt_1 (List.mem_of_getElem? (i := 221) (by decide +kernel)), rfl⟩
theorem fl_X5_29 : Cond.fieldLink RX5 29 "RemoteReach$Queue" "count" "I" ∈ TS := List.mem_filter.mpr ⟨mt_1 (List.mem_of_getElem? (i := 222) (by decide +kernel)), rfl⟩
theorem fl_X7_105 : Cond.fieldLink RX7 105 "RemoteReach$Queue" "count" "I" ∈ TS := List.mem_filter.mpr ⟨mt_1 (List.mem_of_getElem? (i := 223) (by decide +kernel)), rfl⟩
theorem fl_X8_113 : Cond.fieldLink RX8 113 "RemoteReach$Queue" "count" "I" ∈ TS := List.mem_filter.mpr ⟨mt_1 (List.mem_of_getElem? (i := 224) (by decide +kernel)), rfl⟩
theorem fl_X3_97 : Cond.fieldLink RX3 97 "RemoteReach$Queue" "count" "I" ∈ TS := List.mem_filter.mpr ⟨mt_1 (List.mem_of_getElem? (i := 225) (by decide +kernel)), rfl⟩
theorem fl_X5_32 : Cond.fieldLink RX5 32 "RemoteReach$Queue" "serials" "I" ∈ TS := List.mem_filter.mpr ⟨mt_1 (List.mem_of_getElem? (i := 226) (by decide +kernel)), rfl⟩
theorem la_X5_pair : Cond.laysFinal RX5 "RemoteReach$Queue" "pair" "I" ∈ TS := List.mem_filter.mpr ⟨mt_1 (List.mem_of_getElem? (i := 227) (by decide +kernel)), rfl⟩
theorem la_X5_node : Cond.laysFinal RX5 "RemoteReach$Queue" "node" "LRemoteReach$Node;" ∈ TS := List.mem_filter.mpr ⟨mt_1 (List.mem_of_getElem? (i := 229) (by decide +kernel)), rfl⟩
theorem la_X5_rows : Cond.laysFinal RX5 "RemoteReach$Queue" "rows" "[LRemoteReach$Posted;" ∈ TS := List.mem_filter.mpr ⟨mt_1 (List.mem_of_getElem? (i := 231) (by decide +kernel)), rfl⟩
theorem la_X5_head : Cond.lays RX5 "RemoteReach$Queue" "head" "I" ∈ TS := List.mem_filter.mpr ⟨mt_1 (List.mem_of_getElem? (i := 233) (by decide +kernel)), rfl⟩
theorem la_X5_count : Cond.lays RX5 "RemoteReach$Queue" "count" "I" ∈ TS := List.mem_filter.mpr ⟨mt_1 (List.mem_of_getElem? (i := 235) (by decide +kernel)), rfl⟩
theorem la_X5_serials : Cond.lays RX5 "RemoteReach$Queue" "serials" "I" ∈ TS := List.mem_filter.mpr ⟨mt_1 (List.mem_of_getElem? (i := 237) (by decide +kernel)), rfl⟩
theorem fl_X7_13 : Cond.fieldLink RX7 13 "RemoteReach$Requester" "peer" "I" ∈ TS := List.mem_filter.mpr ⟨mt_2 (List.mem_of_getElem? (i := 0) (by decide +kernel)), rfl⟩
theorem fl_X7_19 : Cond.fieldLink RX7 19 "RemoteReach$Requester" "node" "LRemoteReach$Node;" ∈ TS := List.mem_filter.mpr ⟨mt_2 (List.mem_of_getElem? (i := 1) (by decide +kernel)), rfl⟩
theorem fl_X7_23 : Cond.fieldLink RX7 23 "RemoteReach$Requester" "fabric" "LRemoteReach$Fabric;" ∈ TS := List.mem_filter.mpr ⟨mt_2 (List.mem_of_getElem? (i := 2) (by decide +kernel)), rfl⟩
theorem fl_X7_27 : Cond.fieldLink RX7 27 "RemoteReach$Requester" "timeout" "I" ∈ TS := List.mem_filter.mpr ⟨mt_2 (List.mem_of_getElem? (i := 3) (by decide +kernel)), rfl⟩
theorem fl_X7_30 : Cond.fieldLink RX7 30 "RemoteReach$Requester" "mostTries" "I" ∈ TS := List.mem_filter.mpr ⟨mt_2 (List.mem_of_getElem? (i := 4) (by decide +kernel)), rfl⟩
theorem fl_X7_33 : Cond.fieldLink RX7 33 "RemoteReach$Requester" "mostRefusals" "I" ∈ TS := List.mem_filter.mpr ⟨mt_2 (List.mem_of_getElem? (i := 5) (by decide +kernel)), rfl⟩
theorem fl_X7_41 : Cond.fieldLink RX7 41 "RemoteReach$Requester" "requests" "LRemoteReach$Queue;" ∈ TS := List.mem_filter.mpr ⟨mt_2 (List.mem_of_getElem? (i := 6) (by decide +kernel)), rfl⟩
theorem fl_X3_38 : Cond.fieldLink RX3 38 "RemoteReach$Requester" "requests" "LRemoteReach$Queue;" ∈ TS := List.mem_filter.mpr ⟨mt_2 (List.mem_of_getElem? (i := 7) (by decide +kernel)), rfl⟩
theorem fl_X7_65 : Cond.fieldLink RX7 65 "RemoteReach$Requester" "next" "I" ∈ TS := List.mem_filter.mpr ⟨mt_2 (List.mem_of_getElem? (i := 8) (by decide +kernel)), rfl⟩
theorem fl_X3_88 : Cond.fieldLink RX3 88 "RemoteReach$Requester" "next" "I" ∈ TS := List.mem_filter.mpr ⟨mt_2 (List.mem_of_getElem? (i := 9) (by decide +kernel)), rfl⟩
theorem fl_X7_68 : Cond.fieldLink RX7 68 "RemoteReach$Requester" "oldest" "I" ∈ TS := List.mem_filter.mpr ⟨mt_2 (List.mem_of_getElem? (i := 10) (by decide +kernel)), rfl⟩
theorem fl_X3_91 : Cond.fieldLink RX3 91 "RemoteReach$Requester" "oldest" "I" ∈ TS := List.mem_filter.mpr ⟨mt_2 (List.mem_of_getElem? (i := 11) (by decide +kernel)), rfl⟩
theorem fl_X7_71 : Cond.fieldLink RX7 71 "RemoteReach$Requester" "cursor" "I" ∈ TS := List.mem_filter.mpr ⟨mt_2 (List.mem_of_getElem? (i := 12) (by decide +kernel)), rfl⟩
theorem fl_X3_94 : Cond.fieldLink RX3 94 "RemoteReach$Requester" "cursor" "I" ∈ TS := List.mem_filter.mpr ⟨mt_2 (List.mem_of_getElem? (i := 13) (by decide +kernel)), rfl⟩
theorem fl_X7_52 : Cond.fieldLink RX7 52 "RemoteReach$Requester" "clock" "I" ∈ TS := List.mem_filter.mpr ⟨mt_2 (List.mem_of_getElem? (i := 14) (by decide +kernel)), rfl⟩
theorem fl_X7_55 : Cond.fieldLink RX7 55 "RemoteReach$Requester" "tries" "I" ∈ TS := List.mem_filter.mpr ⟨mt_2 (List.mem_of_getElem? (i := 15) (by decide +kernel)), rfl⟩
theorem fl_X7_58 : Cond.fieldLink RX7 58 "RemoteReach$Requester" "refusals" "I" ∈ TS := List.mem_filter.mpr ⟨mt_2 (List.mem_of_getElem? (i := 16) (by decide +kernel)), rfl⟩
theorem fl_X7_61 : Cond.fieldLink RX7 61 "RemoteReach$Requester" "resting" "Z" ∈ TS := List.mem_filter.mpr ⟨mt_2 (List.mem_of_getElem? (i := 17) (by decide +kernel)), rfl⟩
theorem fl_X3_100 : Cond.fieldLink RX3 100 "RemoteReach$Requester" "resting" "Z" ∈ TS := List.mem_filter.mpr ⟨mt_2 (List.mem_of_getElem? (i := 18) (by decide +kernel)), rfl⟩
theorem la_X7_peer : Cond.laysFinal RX7 "RemoteReach$Requester" "peer" "I" ∈ TS := List.mem_filter.mpr ⟨mt_2 (List.mem_of_getElem? (i := 19) (by decide +kernel)), rfl⟩
theorem la_X7_node : Cond.laysFinal RX7 "RemoteReach$Requester" "node" "LRemoteReach$Node;" ∈ TS := List.mem_filter.mpr ⟨mt_2 (List.mem_of_getElem? (i := 21) (by decide +kernel)), rfl⟩
theorem la_X7_fabric : Cond.laysFinal RX7 "RemoteReach$Requester" "fabric" "LRemoteReach$Fabric;" ∈ TS := List.mem_filter.mpr ⟨mt_2 (List.mem_of_getElem? (i := 23) (by decide +kernel)), rfl⟩
theorem la_X7_timeout : Cond.laysFinal RX7 "RemoteReach$Requester" "timeout" "I" ∈ TS := List.mem_filter.mpr ⟨mt_2 (List.mem_of_getElem? (i := 25) (by decide +kernel)), rfl⟩
theorem la_X7_mostTries : Cond.laysFinal RX7 "RemoteReach$Requester" "mostTries" "I" ∈ TS := List.mem_filter.mpr ⟨mt_2 (List.mem_of_getElem? (i := 27) (by decide +kernel)), rfl⟩
theorem la_X7_mostRefusals : Cond.laysFinal RX7 "RemoteReach$Requester" "mostRefusals" "I" ∈ TS := List.mem_filter.mpr ⟨mt_2 (List.mem_of_getElem? (i := 29) (by decide +kernel)), rfl⟩
theorem la_X7_requests : Cond.laysFinal RX7 "RemoteReach$Requester" "requests" "LRemoteReach$Queue;" ∈ TS := List.mem_filter.mpr ⟨mt_2 (List.mem_of_getElem? (i := 31) (by decide +kernel)), rfl⟩
theorem la_X7_next : Cond.lays RX7 "RemoteReach$Requester" "next" "I" ∈ TS := List.mem_filter.mpr ⟨mt_2 (List.mem_of_getElem? (i := 33) (by decide +kernel)), rfl⟩
theorem la_X7_oldest : Cond.lays RX7 "RemoteReach$Requester" "oldest" "I" ∈ TS := List.mem_filter.mpr ⟨mt_2 (List.mem_of_getElem? (i := 35) (by decide +kernel)), rfl⟩
theorem la_X7_cursor : Cond.lays RX7 "RemoteReach$Requester" "cursor" "I" ∈ TS := List.mem_filter.mpr ⟨mt_2 (List.mem_of_getElem? (i := 37) (by decide +kernel)), rfl⟩
theorem la_X7_clock : Cond.lays RX7 "RemoteReach$Requester" "clock" "I" ∈ TS := List.mem_filter.mpr ⟨mt_2 (List.mem_of_getElem? (i := 39) (by decide +kernel)), rfl⟩
theorem la_X7_tries : Cond.lays RX7 "RemoteReach$Requester" "tries" "I" ∈ TS := List.mem_filter.mpr ⟨mt_2 (List.mem_of_getElem? (i := 41) (by decide +kernel)), rfl⟩
theorem la_X7_refusals : Cond.lays RX7 "RemoteReach$Requester" "refusals" "I" ∈ TS := List.mem_filter.mpr ⟨mt_2 (List.mem_of_getElem? (i := 43) (by decide +kernel)), rfl⟩
theorem la_X7_resting : Cond.lays RX7 "RemoteReach$Requester" "resting" "Z" ∈ TS := List.mem_filter.mpr ⟨mt_2 (List.mem_of_getElem? (i := 45) (by decide +kernel)), rfl⟩
theorem ia_X3 : Cond.instantiable RX3 3 ∈ TS := List.mem_filter.mpr ⟨mt_2 (List.mem_of_getElem? (i := 48) (by decide +kernel)), rfl⟩
theorem cl_X9_38 : Cond.classLink RX9 38 RX8 ∈ TS := List.mem_filter.mpr ⟨mt_2 (List.mem_of_getElem? (i := 49) (by decide +kernel)), rfl⟩
theorem ia_X8 : Cond.instantiable RX8 9 ∈ TS := List.mem_filter.mpr ⟨mt_2 (List.mem_of_getElem? (i := 50) (by decide +kernel)), rfl⟩
theorem ml_X9_40 : Cond.methodLink RX9 40 yX8_init ∈ TS := List.mem_filter.mpr ⟨mt_2 (List.mem_of_getElem? (i := 51) (by decide +kernel)), rfl⟩
theorem im_X8_init : Cond.instanceMethod yX8_init ∈ TS := List.mem_filter.mpr ⟨mt_2 (List.mem_of_getElem? (i := 52) (by decide +kernel)), rfl⟩
set_option maxRecDepth 100000 in
theorem co_X8_init : Cond.code yX8_init cX8_init 4 none ∈ TS := List.mem_filter.mpr ⟨mt_2 (List.mem_of_getElem? (i := 53) (by show tables_1_2[_]? = _; rfl)), rfl⟩
theorem ml_X8_3 : Cond.methodLink RX8 3 ⟨"java/lang/Object", "<init>", "()V"⟩ ∈ TS := List.mem_filter.mpr ⟨mt_2 (List.mem_of_getElem? (i := 54) (by decide +kernel)), rfl⟩
theorem mn_X8_18 : Cond.methodLinkNest RX8 18 yX9_peerOf RX9 ∈ TS := List.mem_filter.mpr ⟨mt_2 (List.mem_of_getElem? (i := 55) (by decide +kernel)), rfl⟩
theorem cl_X8_34 : Cond.classLink RX8 34 RX5 ∈ TS := List.mem_filter.mpr ⟨mt_2 (List.mem_of_getElem? (i := 56) (by decide +kernel)), rfl⟩
theorem ml_X8_36 : Cond.methodLink RX8 36 yX5_init ∈ TS := List.mem_filter.mpr ⟨mt_2 (List.mem_of_getElem? (i := 57) (by decide +kernel)), rfl⟩
theorem ml_X8_43 : Cond.methodLink RX8 43 yX8_forgetAdds ∈ TS := List.mem_filter.mpr ⟨mt_2 (List.mem_of_getElem? (i := 58) (by decide +kernel)), rfl⟩
theorem im_X8_forgetAdds : Cond.instanceMethod yX8_forgetAdds ∈ TS := List.mem_filter.mpr ⟨mt_2 (List.mem_of_getElem? (i := 59) (by decide +kernel)), rfl⟩
theorem se_X8_X8_forgetAdds : Cond.selects RX8 yX8_forgetAdds yX8_forgetAdds ∈ TS := List.mem_filter.mpr ⟨mt_2 (List.mem_of_getElem? (i := 60) (by decide +kernel)), rfl⟩
set_option maxRecDepth 100000 in
theorem co_X8_forgetAdds : Cond.code yX8_forgetAdds cX8_forgetAdds 2 none ∈ TS := List.mem_filter.mpr ⟨mt_2 (List.mem_of_getElem? (i := 61) (by show tables_1_2[_]? = _; rfl)), rfl⟩
theorem fl_X8_22 : Cond.fieldLink RX8 22 "RemoteReach$Responder" "peer" "I" ∈ TS := List.mem_filter.mpr ⟨mt_2 (List.mem_of_getElem? (i := 62) (by decide +kernel)), rfl⟩
theorem fl_X8_26 : Cond.fieldLink RX8 26 "RemoteReach$Responder" "node" "LRemoteReach$Node;" ∈ TS := List.mem_filter.mpr ⟨mt_2 (List.mem_of_getElem? (i := 63) (by decide +kernel)), rfl⟩
theorem fl_X8_30 : Cond.fieldLink RX8 30 "RemoteReach$Responder" "fabric" "LRemoteReach$Fabric;" ∈ TS := List.mem_filter.mpr ⟨mt_2 (List.mem_of_getElem? (i := 64) (by decide +kernel)), rfl⟩
theorem fl_X8_39 : Cond.fieldLink RX8 39 "RemoteReach$Responder" "receives" "LRemoteReach$Queue;" ∈ TS := List.mem_filter.mpr ⟨mt_2 (List.mem_of_getElem? (i := 65) (by decide +kernel)), rfl⟩
theorem fl_X3_48 : Cond.fieldLink RX3 48 "RemoteReach$Responder" "receives" "LRemoteReach$Queue;" ∈ TS := List.mem_filter.mpr ⟨mt_2 (List.mem_of_getElem? (i := 66) (by decide +kernel)), rfl⟩
theorem fl_X9_120 : Cond.fieldLink RX9 120 "RemoteReach$Responder" "receives" "LRemoteReach$Queue;" ∈ TS := List.mem_filter.mpr ⟨mt_2 (List.mem_of_getElem? (i := 67) (by decide +kernel)), rfl⟩
theorem fl_X8_49 : Cond.fieldLink RX8 49 "RemoteReach$Responder" "expected" "I" ∈ TS := List.mem_filter.mpr ⟨mt_2 (List.mem_of_getElem? (i := 68) (by decide +kernel)), rfl⟩
theorem fl_X3_35 : Cond.fieldLink RX3 35 "RemoteReach$Responder" "expected" "I" ∈ TS := List.mem_filter.mpr ⟨mt_2 (List.mem_of_getElem? (i := 69) (by decide +kernel)), rfl⟩
theorem fl_X8_52 : Cond.fieldLink RX8 52 "RemoteReach$Responder" "begun" "Z" ∈ TS := List.mem_filter.mpr ⟨mt_2 (List.mem_of_getElem? (i := 70) (by decide +kernel)), rfl⟩
theorem fl_X8_56 : Cond.fieldLink RX8 56 "RemoteReach$Responder" "sequenceTold" "Z" ∈ TS := List.mem_filter.mpr ⟨mt_2 (List.mem_of_getElem? (i := 71) (by decide +kernel)), rfl⟩
theorem fl_X8_9 : Cond.fieldLink RX8 9 "RemoteReach$Responder" "addNumbers" "[I" ∈ TS := List.mem_filter.mpr ⟨mt_2 (List.mem_of_getElem? (i := 72) (by decide +kernel)), rfl⟩
theorem fl_X8_15 : Cond.fieldLink RX8 15 "RemoteReach$Responder" "addReplies" "[I" ∈ TS := List.mem_filter.mpr ⟨mt_2 (List.mem_of_getElem? (i := 73) (by decide +kernel)), rfl⟩
theorem la_X8_peer : Cond.laysFinal RX8 "RemoteReach$Responder" "peer" "I" ∈ TS := List.mem_filter.mpr ⟨mt_2 (List.mem_of_getElem? (i := 74) (by decide +kernel)), rfl⟩
theorem la_X8_node : Cond.laysFinal RX8 "RemoteReach$Responder" "node" "LRemoteReach$Node;" ∈ TS := List.mem_filter.mpr ⟨mt_2 (List.mem_of_getElem? (i := 76) (by decide +kernel)), rfl⟩
theorem la_X8_fabric : Cond.laysFinal RX8 "RemoteReach$Responder" "fabric" "LRemoteReach$Fabric;" ∈ TS := List.mem_filter.mpr ⟨mt_2 (List.mem_of_getElem? (i := 78) (by decide +kernel)), rfl⟩
theorem la_X8_receives : Cond.laysFinal RX8 "RemoteReach$Responder" "receives" "LRemoteReach$Queue;" ∈ TS := List.mem_filter.mpr ⟨mt_2 (List.mem_of_getElem? (i := 80) (by decide +kernel)), rfl⟩
theorem la_X8_expected : Cond.lays RX8 "RemoteReach$Responder" "expected" "I" ∈ TS := List.mem_filter.mpr ⟨mt_2 (List.mem_of_getElem? (i := 82) (by decide +kernel)), rfl⟩
theorem la_X8_begun : Cond.lays RX8 "RemoteReach$Responder" "begun" "Z" ∈ TS := List.mem_filter.mpr ⟨mt_2 (List.mem_of_getElem? (i := 84) (by decide +kernel)), rfl⟩
theorem la_X8_sequenceTold : Cond.lays RX8 "RemoteReach$Responder" "sequenceTold" "Z" ∈ TS := List.mem_filter.mpr ⟨mt_2 (List.mem_of_getElem? (i := 86) (by decide +kernel)), rfl⟩
theorem la_X8_addNumbers : Cond.laysFinal RX8 "RemoteReach$Responder" "addNumbers" "[I" ∈ TS := List.mem_filter.mpr ⟨mt_2 (List.mem_of_getElem? (i := 88) (by decide +kernel)), rfl⟩
theorem la_X8_addReplies : Cond.laysFinal RX8 "RemoteReach$Responder" "addReplies" "[I" ∈ TS := List.mem_filter.mpr ⟨mt_2 (List.mem_of_getElem? (i := 90) (by decide +kernel)), rfl⟩
theorem ml_X9_43 : Cond.methodLink RX9 43 yX3_init ∈ TS := List.mem_filter.mpr ⟨mt_2 (List.mem_of_getElem? (i := 93) (by decide +kernel)), rfl⟩
theorem im_X3_init : Cond.instanceMethod yX3_init ∈ TS := List.mem_filter.mpr ⟨mt_2 (List.mem_of_getElem? (i := 94) (by decide +kernel)), rfl⟩
set_option maxRecDepth 100000 in
theorem co_X3_init : Cond.code yX3_init cX3_init 3 none ∈ TS := List.mem_filter.mpr ⟨mt_2 (List.mem_of_getElem? (i := 95) (by show tables_1_2[_]? = _; rfl)), rfl⟩
theorem ml_X3_3 : Cond.methodLink RX3 3 ⟨"java/lang/Object", "<init>", "()V"⟩ ∈ TS := List.mem_filter.mpr ⟨mt_2 (List.mem_of_getElem? (i := 96) (by decide +kernel)), rfl⟩
theorem fl_X3_9 : Cond.fieldLink RX3 9 "RemoteReach$Pair" "requester" "LRemoteReach$Requester;" ∈ TS := List.mem_filter.mpr ⟨mt_2 (List.mem_of_getElem? (i := 97) (by decide +kernel)), rfl⟩
theorem fl_X9_105 : Cond.fieldLink RX9 105 "RemoteReach$Pair" "requester" "LRemoteReach$Requester;" ∈ TS := List.mem_filter.mpr ⟨mt_2 (List.mem_of_getElem? (i := 98) (by decide +kernel)), rfl⟩
theorem fl_X3_15 : Cond.fieldLink RX3 15 "RemoteReach$Pair" "responder" "LRemoteReach$Responder;" ∈ TS := List.mem_filter.mpr ⟨mt_2 (List.mem_of_getElem? (i := 99) (by decide +kernel)), rfl⟩
theorem fl_X9_116 : Cond.fieldLink RX9 116 "RemoteReach$Pair" "responder" "LRemoteReach$Responder;" ∈ TS := List.mem_filter.mpr ⟨mt_2 (List.mem_of_getElem? (i := 100) (by decide +kernel)), rfl⟩
theorem fl_X3_19 : Cond.fieldLink RX3 19 "RemoteReach$Pair" "state" "I" ∈ TS := List.mem_filter.mpr ⟨mt_2 (List.mem_of_getElem? (i := 101) (by decide +kernel)), rfl⟩
theorem fl_X9_84 : Cond.fieldLink RX9 84 "RemoteReach$Pair" "state" "I" ∈ TS := List.mem_filter.mpr ⟨mt_2 (List.mem_of_getElem? (i := 102) (by decide +kernel)), rfl⟩
theorem la_X3_requester : Cond.laysFinal RX3 "RemoteReach$Pair" "requester" "LRemoteReach$Requester;" ∈ TS := List.mem_filter.mpr ⟨mt_2 (List.mem_of_getElem? (i := 103) (by decide +kernel)), rfl⟩
theorem la_X3_responder : Cond.laysFinal RX3 "RemoteReach$Pair" "responder" "LRemoteReach$Responder;" ∈ TS := List.mem_filter.mpr ⟨mt_2 (List.mem_of_getElem? (i := 105) (by decide +kernel)), rfl⟩
theorem la_X3_state : Cond.lays RX3 "RemoteReach$Pair" "state" "I" ∈ TS := List.mem_filter.mpr ⟨mt_2 (List.mem_of_getElem? (i := 107) (by decide +kernel)), rfl⟩
theorem fl_X9_22 : Cond.fieldLink RX9 22 "RemoteReach" "nodes" "[LRemoteReach$Node;" ∈ TS := List.mem_filter.mpr ⟨mt_2 (List.mem_of_getElem? (i := 110) (by decide +kernel)), rfl⟩
theorem fl_X9_29 : Cond.fieldLink RX9 29 "RemoteReach" "pairs" "[LRemoteReach$Pair;" ∈ TS := List.mem_filter.mpr ⟨mt_2 (List.mem_of_getElem? (i := 111) (by decide +kernel)), rfl⟩
theorem fl_X9_16 : Cond.fieldLink RX9 16 "RemoteReach" "fabric" "LRemoteReach$Fabric;" ∈ TS := List.mem_filter.mpr ⟨mt_2 (List.mem_of_getElem? (i := 112) (by decide +kernel)), rfl⟩
theorem la_X9_nodes : Cond.laysFinal RX9 "RemoteReach" "nodes" "[LRemoteReach$Node;" ∈ TS := List.mem_filter.mpr ⟨mt_2 (List.mem_of_getElem? (i := 113) (by decide +kernel)), rfl⟩
theorem la_X9_pairs : Cond.laysFinal RX9 "RemoteReach" "pairs" "[LRemoteReach$Pair;" ∈ TS := List.mem_filter.mpr ⟨mt_2 (List.mem_of_getElem? (i := 115) (by decide +kernel)), rfl⟩
theorem la_X9_fabric : Cond.laysFinal RX9 "RemoteReach" "fabric" "LRemoteReach$Fabric;" ∈ TS := List.mem_filter.mpr ⟨mt_2 (List.mem_of_getElem? (i := 117) (by decide +kernel)), rfl⟩
theorem ml_L_64 : Cond.methodLink RL 64 yX9_cell ∈ TS := List.mem_filter.mpr ⟨mt_2 (List.mem_of_getElem? (i := 120) (by decide +kernel)), rfl⟩
theorem im_X9_cell : Cond.instanceMethod yX9_cell ∈ TS := List.mem_filter.mpr ⟨mt_2 (List.mem_of_getElem? (i := 121) (by decide +kernel)), rfl⟩
theorem se_X9_X9_cell : Cond.selects RX9 yX9_cell yX9_cell ∈ TS := List.mem_filter.mpr ⟨mt_2 (List.mem_of_getElem? (i := 122) (by decide +kernel)), rfl⟩
set_option maxRecDepth 100000 in
theorem co_X9_cell : Cond.code yX9_cell cX9_cell 3 (some .int) ∈ TS := List.mem_filter.mpr ⟨mt_2 (List.mem_of_getElem? (i := 123) (by show tables_1_2[_]? = _; rfl)), rfl⟩
theorem ml_X9_46 : Cond.methodLink RX9 46 yX9_isNode ∈ TS := List.mem_filter.mpr ⟨mt_2 (List.mem_of_getElem? (i := 124) (by decide +kernel)), rfl⟩
theorem st_X9_isNode : Cond.static yX9_isNode ∈ TS := List.mem_filter.mpr ⟨mt_2 (List.mem_of_getElem? (i := 125) (by decide +kernel)), rfl⟩
set_option maxRecDepth 100000 in
theorem co_X9_isNode : Cond.code yX9_isNode cX9_isNode 1 (some .boolean) ∈ TS := List.mem_filter.mpr ⟨mt_2 (List.mem_of_getElem? (i := 126) (by show tables_1_2[_]? = _; rfl)), rfl⟩
theorem ml_X9_74 : Cond.methodLink RX9 74 yX1_at ∈ TS := List.mem_filter.mpr ⟨mt_2 (List.mem_of_getElem? (i := 127) (by decide +kernel)), rfl⟩
theorem im_X1_at : Cond.instanceMethod yX1_at ∈ TS := List.mem_filter.mpr ⟨mt_2 (List.mem_of_getElem? (i := 128) (by decide +kernel)), rfl⟩
theorem se_X1_X1_at : Cond.selects RX1 yX1_at yX1_at ∈ TS := List.mem_filter.mpr ⟨mt_2 (List.mem_of_getElem? (i := 129) (by decide +kernel)), rfl⟩
set_option maxRecDepth 100000 in
theorem co_X1_at : Cond.code yX1_at cX1_at 2 (some .int) ∈ TS := List.mem_filter.mpr ⟨mt_2 (List.mem_of_getElem? (i := 130) (by show tables_1_2[_]? = _; rfl)), rfl⟩
theorem mn_X1_25 : Cond.methodLinkNest RX1 25 yX9_isCell RX9 ∈ TS := List.mem_filter.mpr ⟨mt_2 (List.mem_of_getElem? (i := 131) (by decide +kernel)), rfl⟩
theorem st_X9_isCell : Cond.static yX9_isCell ∈ TS := List.mem_filter.mpr ⟨mt_2 (List.mem_of_getElem? (i := 132) (by decide +kernel)), rfl⟩
set_option maxRecDepth 100000 in
theorem co_X9_isCell : Cond.code yX9_isCell cX9_isCell 1 (some .boolean) ∈ TS := List.mem_filter.mpr ⟨mt_2 (List.mem_of_getElem? (i := 133) (by show tables_1_2[_]? = _; rfl)), rfl⟩
theorem ml_L_70 : Cond.methodLink RL 70 yX9_reset ∈ TS := List.mem_filter.mpr ⟨mt_2 (List.mem_of_getElem? (i := 134) (by decide +kernel)), rfl⟩
theorem im_X9_reset : Cond.instanceMethod yX9_reset ∈ TS := List.mem_filter.mpr ⟨mt_2 (List.mem_of_getElem? (i := 135) (by decide +kernel)), rfl⟩
theorem se_X9_X9_reset : Cond.selects RX9 yX9_reset yX9_reset ∈ TS := List.mem_filter.mpr ⟨mt_2 (List.mem_of_getElem? (i := 136) (by decide +kernel)), rfl⟩
set_option maxRecDepth 100000 in
theorem co_X9_reset : Cond.code yX9_reset cX9_reset 2 (some .boolean) ∈ TS := List.mem_filter.mpr ⟨mt_2 (List.mem_of_getElem? (i := 137) (by show tables_1_2[_]? = _; rfl)), rfl⟩
theorem ml_X9_78 : Cond.methodLink RX9 78 yX9_isPair ∈ TS := List.mem_filter.mpr ⟨mt_2 (List.mem_of_getElem? (i := 138) (by decide +kernel)), rfl⟩
theorem st_X9_isPair : Cond.static yX9_isPair ∈ TS := List.mem_filter.mpr ⟨mt_2 (List.mem_of_getElem? (i := 139) (by decide +kernel)), rfl⟩
set_option maxRecDepth 100000 in
theorem co_X9_isPair : Cond.code yX9_isPair cX9_isPair 1 (some .boolean) ∈ TS := List.mem_filter.mpr ⟨mt_2 (List.mem_of_getElem? (i := 140) (by show tables_1_2[_]? = _; rfl)), rfl⟩
theorem ml_X9_94 : Cond.methodLink RX9 94 yX3_clear ∈ TS := List.mem_filter.mpr ⟨mt_2 (List.mem_of_getElem? (i := 141) (by decide +kernel)), rfl⟩
theorem im_X3_clear : Cond.instanceMethod yX3_clear ∈ TS := List.mem_filter.mpr ⟨mt_2 (List.mem_of_getElem? (i := 142) (by decide +kernel)), rfl⟩
theorem se_X3_X3_clear : Cond.selects RX3 yX3_clear yX3_clear ∈ TS := List.mem_filter.mpr ⟨mt_2 (List.mem_of_getElem? (i := 143) (by decide +kernel)), rfl⟩
set_option maxRecDepth 100000 in
theorem co_X3_clear : Cond.code yX3_clear cX3_clear 1 none ∈ TS := List.mem_filter.mpr ⟨mt_2 (List.mem_of_getElem? (i := 144) (by show tables_1_2[_]? = _; rfl)), rfl⟩
theorem ml_X3_23 : Cond.methodLink RX3 23 yX7_clear ∈ TS := List.mem_filter.mpr ⟨mt_2 (List.mem_of_getElem? (i := 145) (by decide +kernel)), rfl⟩
theorem im_X7_clear : Cond.instanceMethod yX7_clear ∈ TS := List.mem_filter.mpr ⟨mt_2 (List.mem_of_getElem? (i := 146) (by decide +kernel)), rfl⟩
theorem se_X7_X7_clear : Cond.selects RX7 yX7_clear yX7_clear ∈ TS := List.mem_filter.mpr ⟨mt_2 (List.mem_of_getElem? (i := 147) (by decide +kernel)), rfl⟩
set_option maxRecDepth 100000 in
theorem co_X7_clear : Cond.code yX7_clear cX7_clear 1 none ∈ TS := List.mem_filter.mpr ⟨mt_2 (List.mem_of_getElem? (i := 148) (by show tables_1_2[_]? = _; rfl)), rfl⟩
theorem ml_X7_45 : Cond.methodLink RX7 45 yX5_clear ∈ TS := List.mem_filter.mpr ⟨mt_2 (List.mem_of_getElem? (i := 149) (by decide +kernel)), rfl⟩
theorem im_X5_clear : Cond.instanceMethod yX5_clear ∈ TS := List.mem_filter.mpr ⟨mt_2 (List.mem_of_getElem? (i := 150) (by decide +kernel)), rfl⟩
theorem se_X5_X5_clear : Cond.selects RX5 yX5_clear yX5_clear ∈ TS := List.mem_filter.mpr ⟨mt_2 (List.mem_of_getElem? (i := 151) (by decide +kernel)), rfl⟩
set_option maxRecDepth 100000 in
theorem co_X5_clear : Cond.code yX5_clear cX5_clear 1 none ∈ TS := List.mem_filter.mpr ⟨mt_2 (List.mem_of_getElem? (i := 152) (by show tables_1_2[_]? = _; rfl)), rfl⟩
theorem ml_X7_48 : Cond.methodLink RX7 48 yX7_start ∈ TS := List.mem_filter.mpr ⟨mt_2 (List.mem_of_getElem? (i := 153) (by decide +kernel)), rfl⟩
theorem im_X7_start : Cond.instanceMethod yX7_start ∈ TS := List.mem_filter.mpr ⟨mt_2 (List.mem_of_getElem? (i := 154) (by decide +kernel)), rfl⟩
theorem se_X7_X7_start : Cond.selects RX7 yX7_start yX7_start ∈ TS := List.mem_filter.mpr ⟨mt_2 (List.mem_of_getElem? (i := 155) (by decide +kernel)), rfl⟩
set_option maxRecDepth 100000 in
theorem co_X7_start : Cond.code yX7_start cX7_start 2 none ∈ TS := List.mem_filter.mpr ⟨mt_2 (List.mem_of_getElem? (i := 156) (by show tables_1_2[_]? = _; rfl)), rfl⟩
theorem ml_X3_28 : Cond.methodLink RX3 28 yX8_clear ∈ TS := List.mem_filter.mpr ⟨mt_2 (List.mem_of_getElem? (i := 157) (by decide +kernel)), rfl⟩
theorem im_X8_clear : Cond.instanceMethod yX8_clear ∈ TS := List.mem_filter.mpr ⟨mt_2 (List.mem_of_getElem? (i := 158) (by decide +kernel)), rfl⟩
theorem se_X8_X8_clear : Cond.selects RX8 yX8_clear yX8_clear ∈ TS := List.mem_filter.mpr ⟨mt_2 (List.mem_of_getElem? (i := 159) (by decide +kernel)), rfl⟩
set_option maxRecDepth 100000 in
theorem co_X8_clear : Cond.code yX8_clear cX8_clear 1 none ∈ TS := List.mem_filter.mpr ⟨mt_2 (List.mem_of_getElem? (i := 160) (by show tables_1_2[_]? = _; rfl)), rfl⟩
theorem ml_X8_46 : Cond.methodLink RX8 46 yX5_clear ∈ TS := List.mem_filter.mpr ⟨mt_2 (List.mem_of_getElem? (i := 161) (by decide +kernel)), rfl⟩
theorem ml_L_94 : Cond.methodLink RL 94 yX9_push ∈ TS := List.mem_filter.mpr ⟨mt_2 (List.mem_of_getElem? (i := 162) (by decide +kernel)), rfl⟩
theorem im_X9_push : Cond.instanceMethod yX9_push ∈ TS := List.mem_filter.mpr ⟨mt_2 (List.mem_of_getElem? (i := 163) (by decide +kernel)), rfl⟩
theorem se_X9_X9_push : Cond.selects RX9 yX9_push yX9_push ∈ TS := List.mem_filter.mpr ⟨mt_2 (List.mem_of_getElem? (i := 164) (by decide +kernel)), rfl⟩
set_option maxRecDepth 100000 in
theorem co_X9_push : Cond.code yX9_push cX9_push 2 (some .int) ∈ TS := List.mem_filter.mpr ⟨mt_2 (List.mem_of_getElem? (i := 165) (by show tables_1_2[_]? = _; rfl)), rfl⟩
theorem ml_X9_135 : Cond.methodLink RX9 135 yX7_sendNext ∈ TS := List.mem_filter.mpr ⟨mt_2 (List.mem_of_getElem? (i := 166) (by decide +kernel)), rfl⟩
theorem im_X7_sendNext : Cond.instanceMethod yX7_sendNext ∈ TS := List.mem_filter.mpr ⟨mt_2 (List.mem_of_getElem? (i := 167) (by decide +kernel)), rfl⟩
theorem se_X7_X7_sendNext : Cond.selects RX7 yX7_sendNext yX7_sendNext ∈ TS := List.mem_filter.mpr ⟨mt_2 (List.mem_of_getElem? (i := 168) (by decide +kernel)), rfl⟩
set_option maxRecDepth 100000 in
theorem co_X7_sendNext : Cond.code yX7_sendNext cX7_sendNext 6 (some .int) ∈ TS := List.mem_filter.mpr ⟨mt_2 (List.mem_of_getElem? (i := 169) (by show tables_1_2[_]? = _; rfl)), rfl⟩
theorem ml_X7_115 : Cond.methodLink RX7 115 yX7_ownerOf ∈ TS := List.mem_filter.mpr ⟨mt_2 (List.mem_of_getElem? (i := 170) (by decide +kernel)), rfl⟩
theorem im_X7_ownerOf : Cond.instanceMethod yX7_ownerOf ∈ TS := List.mem_filter.mpr ⟨mt_2 (List.mem_of_getElem? (i := 171) (by decide +kernel)), rfl⟩
theorem se_X7_X7_ownerOf : Cond.selects RX7 yX7_ownerOf yX7_ownerOf ∈ TS := List.mem_filter.mpr ⟨mt_2 (List.mem_of_getElem? (i := 172) (by decide +kernel)), rfl⟩
set_option maxRecDepth 100000 in
theorem co_X7_ownerOf : Cond.code yX7_ownerOf cX7_ownerOf 4 (some .int) ∈ TS := List.mem_filter.mpr ⟨mt_2 (List.mem_of_getElem? (i := 173) (by show tables_1_2[_]? = _; rfl)), rfl⟩
theorem ml_X7_108 : Cond.methodLink RX7 108 yX5_at ∈ TS := List.mem_filter.mpr ⟨mt_2 (List.mem_of_getElem? (i := 174) (by decide +kernel)), rfl⟩
theorem im_X5_at : Cond.instanceMethod yX5_at ∈ TS := List.mem_filter.mpr ⟨mt_2 (List.mem_of_getElem? (i := 175) (by decide +kernel)), rfl⟩
theorem se_X5_X5_at : Cond.selects RX5 yX5_at yX5_at ∈ TS := List.mem_filter.mpr ⟨mt_2 (List.mem_of_getElem? (i := 176) (by decide +kernel)), rfl⟩
set_option maxRecDepth 100000 in
theorem co_X5_at : Cond.code yX5_at cX5_at 2 (some (.object "RemoteReach$Posted")) ∈ TS := List.mem_filter.mpr ⟨mt_2 (List.mem_of_getElem? (i := 177) (by show tables_1_2[_]? = _; rfl)), rfl⟩
theorem mn_X7_112 : Cond.methodLinkNest RX7 112 yX9_distance RX9 ∈ TS := List.mem_filter.mpr ⟨mt_2 (List.mem_of_getElem? (i := 178) (by decide +kernel)), rfl⟩
theorem st_X9_distance : Cond.static yX9_distance ∈ TS := List.mem_filter.mpr ⟨mt_2 (List.mem_of_getElem? (i := 179) (by decide +kernel)), rfl⟩
set_option maxRecDepth 100000 in
theorem co_X9_distance : Cond.code yX9_distance cX9_distance 2 (some .int) ∈ TS := List.mem_filter.mpr ⟨mt_2 (List.mem_of_getElem? (i := 180) (by show tables_1_2[_]? = _; rfl)), rfl⟩
theorem ml_X7_121 : Cond.methodLink RX7 121 yX7_sendPart ∈ TS := List.mem_filter.mpr ⟨mt_2 (List.mem_of_getElem? (i := 181) (by decide +kernel)), rfl⟩
theorem im_X7_sendPart : Cond.instanceMethod yX7_sendPart ∈ TS := List.mem_filter.mpr ⟨mt_2 (List.mem_of_getElem? (i := 182) (by decide +kernel)), rfl⟩
theorem se_X7_X7_sendPart : Cond.selects RX7 yX7_sendPart yX7_sendPart ∈ TS := List.mem_filter.mpr ⟨mt_2 (List.mem_of_getElem? (i := 183) (by decide +kernel)), rfl⟩
set_option maxRecDepth 100000 in
theorem co_X7_sendPart : Cond.code yX7_sendPart cX7_sendPart 5 none ∈ TS := List.mem_filter.mpr ⟨mt_2 (List.mem_of_getElem? (i := 184) (by show tables_1_2[_]? = _; rfl)), rfl⟩
theorem mn_X7_98 : Cond.methodLinkNest RX7 98 yX9_after RX9 ∈ TS := List.mem_filter.mpr ⟨mt_2 (List.mem_of_getElem? (i := 185) (by decide +kernel)), rfl⟩
theorem st_X9_after : Cond.static yX9_after ∈ TS := List.mem_filter.mpr ⟨mt_2 (List.mem_of_getElem? (i := 186) (by decide +kernel)), rfl⟩
set_option maxRecDepth 100000 in
theorem co_X9_after : Cond.code yX9_after cX9_after 2 (some .int) ∈ TS := List.mem_filter.mpr ⟨mt_2 (List.mem_of_getElem? (i := 187) (by show tables_1_2[_]? = _; rfl)), rfl⟩
theorem ml_X7_125 : Cond.methodLink RX7 125 yX0_carry ∈ TS := List.mem_filter.mpr ⟨mt_2 (List.mem_of_getElem? (i := 188) (by decide +kernel)), rfl⟩
theorem im_X0_carry : Cond.instanceMethod yX0_carry ∈ TS := List.mem_filter.mpr ⟨mt_2 (List.mem_of_getElem? (i := 189) (by decide +kernel)), rfl⟩
theorem se_X0_X0_carry : Cond.selects RX0 yX0_carry yX0_carry ∈ TS := List.mem_filter.mpr ⟨mt_2 (List.mem_of_getElem? (i := 190) (by decide +kernel)), rfl⟩
set_option maxRecDepth 100000 in
theorem co_X0_carry : Cond.code yX0_carry cX0_carry 5 (some (.object "RemoteReach$Packet")) ∈ TS := List.mem_filter.mpr ⟨mt_2 (List.mem_of_getElem? (i := 191) (by show tables_1_2[_]? = _; rfl)), rfl⟩
theorem ml_X0_29 : Cond.methodLink RX0 29 yX0_isFull ∈ TS := List.mem_filter.mpr ⟨mt_2 (List.mem_of_getElem? (i := 192) (by decide +kernel)), rfl⟩
theorem im_X0_isFull : Cond.instanceMethod yX0_isFull ∈ TS := List.mem_filter.mpr ⟨mt_2 (List.mem_of_getElem? (i := 193) (by decide +kernel)), rfl⟩
theorem se_X0_X0_isFull : Cond.selects RX0 yX0_isFull yX0_isFull ∈ TS := List.mem_filter.mpr ⟨mt_2 (List.mem_of_getElem? (i := 194) (by decide +kernel)), rfl⟩
set_option maxRecDepth 100000 in
theorem co_X0_isFull : Cond.code yX0_isFull cX0_isFull 1 (some .boolean) ∈ TS := List.mem_filter.mpr ⟨mt_2 (List.mem_of_getElem? (i := 195) (by show tables_1_2[_]? = _; rfl)), rfl⟩
theorem ml_X0_33 : Cond.methodLink RX0 33 yX2_become ∈ TS := List.mem_filter.mpr ⟨mt_2 (List.mem_of_getElem? (i := 196) (by decide +kernel)), rfl⟩
theorem im_X2_become : Cond.instanceMethod yX2_become ∈ TS := List.mem_filter.mpr ⟨mt_2 (List.mem_of_getElem? (i := 197) (by decide +kernel)), rfl⟩
theorem se_X2_X2_become : Cond.selects RX2 yX2_become yX2_become ∈ TS := List.mem_filter.mpr ⟨mt_2 (List.mem_of_getElem? (i := 198) (by decide +kernel)), rfl⟩
set_option maxRecDepth 100000 in
theorem co_X2_become : Cond.code yX2_become cX2_become 4 none ∈ TS := List.mem_filter.mpr ⟨mt_2 (List.mem_of_getElem? (i := 199) (by show tables_1_2[_]? = _; rfl)), rfl⟩
theorem ml_X7_131 : Cond.methodLink RX7 131 yX4_isLastNumber ∈ TS := List.mem_filter.mpr ⟨mt_2 (List.mem_of_getElem? (i := 200) (by decide +kernel)), rfl⟩
theorem im_X4_isLastNumber : Cond.instanceMethod yX4_isLastNumber ∈ TS := List.mem_filter.mpr ⟨mt_2 (List.mem_of_getElem? (i := 201) (by decide +kernel)), rfl⟩
theorem se_X4_X4_isLastNumber : Cond.selects RX4 yX4_isLastNumber yX4_isLastNumber ∈ TS := List.mem_filter.mpr ⟨mt_2 (List.mem_of_getElem? (i := 202) (by decide +kernel)), rfl⟩
set_option maxRecDepth 100000 in
theorem co_X4_isLastNumber : Cond.code yX4_isLastNumber cX4_isLastNumber 2 (some .boolean) ∈ TS := List.mem_filter.mpr ⟨mt_2 (List.mem_of_getElem? (i := 203) (by show tables_1_2[_]? = _; rfl)), rfl⟩
theorem ml_X7_149 : Cond.methodLink RX7 149 yX4_cellsOf ∈ TS := List.mem_filter.mpr ⟨mt_2 (List.mem_of_getElem? (i := 204) (by decide +kernel)), rfl⟩
theorem im_X4_cellsOf : Cond.instanceMethod yX4_cellsOf ∈ TS := List.mem_filter.mpr ⟨mt_2 (List.mem_of_getElem? (i := 205) (by decide +kernel)), rfl⟩
theorem se_X4_X4_cellsOf : Cond.selects RX4 yX4_cellsOf yX4_cellsOf ∈ TS := List.mem_filter.mpr ⟨mt_2 (List.mem_of_getElem? (i := 206) (by decide +kernel)), rfl⟩
set_option maxRecDepth 100000 in
theorem co_X4_cellsOf : Cond.code yX4_cellsOf cX4_cellsOf 2 (some .int) ∈ TS := List.mem_filter.mpr ⟨mt_2 (List.mem_of_getElem? (i := 207) (by show tables_1_2[_]? = _; rfl)), rfl⟩
theorem ml_X4_15 : Cond.methodLink RX4 15 ⟨"java/lang/Math", "min", "(II)I"⟩ ∈ TS := List.mem_filter.mpr ⟨mt_2 (List.mem_of_getElem? (i := 208) (by decide +kernel)), rfl⟩
theorem ml_X7_152 : Cond.methodLink RX7 152 yX2_load ∈ TS := List.mem_filter.mpr ⟨mt_2 (List.mem_of_getElem? (i := 209) (by decide +kernel)), rfl⟩
theorem im_X2_load : Cond.instanceMethod yX2_load ∈ TS := List.mem_filter.mpr ⟨mt_2 (List.mem_of_getElem? (i := 210) (by decide +kernel)), rfl⟩
theorem se_X2_X2_load : Cond.selects RX2 yX2_load yX2_load ∈ TS := List.mem_filter.mpr ⟨mt_2 (List.mem_of_getElem? (i := 211) (by decide +kernel)), rfl⟩
set_option maxRecDepth 100000 in
theorem co_X2_load : Cond.code yX2_load cX2_load 5 none ∈ TS := List.mem_filter.mpr ⟨mt_2 (List.mem_of_getElem? (i := 212) (by show tables_1_2[_]? = _; rfl)), rfl⟩
theorem ml_X2_41 : Cond.methodLink RX2 41 ⟨"java/lang/Math", "min", "(II)I"⟩ ∈ TS := List.mem_filter.mpr ⟨mt_2 (List.mem_of_getElem? (i := 213) (by decide +kernel)), rfl⟩
theorem ml_X2_47 : Cond.methodLink RX2 47 yX1_at ∈ TS := List.mem_filter.mpr ⟨mt_2 (List.mem_of_getElem? (i := 214) (by decide +kernel)), rfl⟩
theorem ml_L_99 : Cond.methodLink RL 99 yX9_deliver ∈ TS := List.mem_filter.mpr ⟨mt_2 (List.mem_of_getElem? (i := 215) (by decide +kernel)), rfl⟩
theorem im_X9_deliver : Cond.instanceMethod yX9_deliver ∈ TS := List.mem_filter.mpr ⟨mt_2 (List.mem_of_getElem? (i := 216) (by decide +kernel)), rfl⟩
theorem se_X9_X9_deliver : Cond.selects RX9 yX9_deliver yX9_deliver ∈ TS := List.mem_filter.mpr ⟨mt_2 (List.mem_of_getElem? (i := 217) (by decide +kernel)), rfl⟩
set_option maxRecDepth 100000 in
theorem co_X9_deliver : Cond.code yX9_deliver cX9_deliver 3 (some .boolean) ∈ TS := List.mem_filter.mpr ⟨mt_2 (List.mem_of_getElem? (i := 218) (by show tables_1_2[_]? = _; rfl)), rfl⟩
theorem ml_X9_139 : Cond.methodLink RX9 139 yX0_has ∈ TS := List.mem_filter.mpr ⟨mt_2 (List.mem_of_getElem? (i := 219) (by decide +kernel)), rfl⟩
theorem im_X0_has : Cond.instanceMethod yX0_has ∈ TS := List.mem_filter.mpr ⟨mt_2 (List.mem_of_getElem? (i := 220) (by decide +kernel)), rfl⟩
theorem se_X0_X0_has : Cond.selects RX0 yX0_has yX0_has ∈ TS := List.mem_filter.mpr ⟨mt_2 (List.mem_of_getElem? (i := 221) (by decide +kernel)), rfl⟩
set_option maxRecDepth 100000 in
theorem co_X0_has : Cond.code yX0_has cX0_has 2 (some .boolean) ∈ TS := List.mem_filter.mpr ⟨mt_2 (List.mem_of_getElem? (i := 222) (by show tables_1_2[_]? = _; rfl)), rfl⟩
theorem ml_X9_142 : Cond.methodLink RX9 142 yX0_takeOut ∈ TS := List.mem_filter.mpr ⟨mt_2 (List.mem_of_getElem? (i := 223) (by decide +kernel)), rfl⟩
theorem im_X0_takeOut : Cond.instanceMethod yX0_takeOut ∈ TS := List.mem_filter.mpr ⟨mt_2 (List.mem_of_getElem? (i := 224) (by decide +kernel)), rfl⟩
theorem se_X0_X0_takeOut : Cond.selects RX0 yX0_takeOut yX0_takeOut ∈ TS := List.mem_filter.mpr ⟨mt_2 (List.mem_of_getElem? (i := 225) (by decide +kernel)), rfl⟩
set_option maxRecDepth 100000 in
theorem co_X0_takeOut : Cond.code yX0_takeOut cX0_takeOut 4 (some (.object "RemoteReach$Packet")) ∈ TS := List.mem_filter.mpr ⟨mt_2 (List.mem_of_getElem? (i := 226) (by show tables_1_2[_]? = _; rfl)), rfl⟩
theorem ml_X9_151 : Cond.methodLink RX9 151 yX3_takeIn ∈ TS := List.mem_filter.mpr ⟨mt_2 (List.mem_of_getElem? (i := 227) (by decide +kernel)), rfl⟩
theorem im_X3_takeIn : Cond.instanceMethod yX3_takeIn ∈ TS := List.mem_filter.mpr ⟨mt_2 (List.mem_of_getElem? (i := 228) (by decide +kernel)), rfl⟩
theorem se_X3_X3_takeIn : Cond.selects RX3 yX3_takeIn yX3_takeIn ∈ TS := List.mem_filter.mpr ⟨mt_2 (List.mem_of_getElem? (i := 229) (by decide +kernel)), rfl⟩
set_option maxRecDepth 100000 in
theorem co_X3_takeIn : Cond.code yX3_takeIn cX3_takeIn 3 none ∈ TS := List.mem_filter.mpr ⟨mt_2 (List.mem_of_getElem? (i := 230) (by show tables_1_2[_]? = _; rfl)), rfl⟩
theorem ml_X3_56 : Cond.methodLink RX3 56 yX8_takeIn ∈ TS := List.mem_filter.mpr ⟨mt_2 (List.mem_of_getElem? (i := 231) (by decide +kernel)), rfl⟩
theorem im_X8_takeIn : Cond.instanceMethod yX8_takeIn ∈ TS := List.mem_filter.mpr ⟨mt_2 (List.mem_of_getElem? (i := 232) (by decide +kernel)), rfl⟩
theorem se_X8_X8_takeIn : Cond.selects RX8 yX8_takeIn yX8_takeIn ∈ TS := List.mem_filter.mpr ⟨mt_2 (List.mem_of_getElem? (i := 233) (by decide +kernel)), rfl⟩
set_option maxRecDepth 100000 in
theorem co_X8_takeIn : Cond.code yX8_takeIn cX8_takeIn 3 (some .int) ∈ TS := List.mem_filter.mpr ⟨mt_2 (List.mem_of_getElem? (i := 234) (by show tables_1_2[_]? = _; rfl)), rfl⟩
theorem mn_X8_64 : Cond.methodLinkNest RX8 64 yX9_distance RX9 ∈ TS := List.mem_filter.mpr ⟨mt_2 (List.mem_of_getElem? (i := 235) (by decide +kernel)), rfl⟩
theorem ml_X8_68 : Cond.methodLink RX8 68 yX8_answerAgain ∈ TS := List.mem_filter.mpr ⟨mt_2 (List.mem_of_getElem? (i := 236) (by decide +kernel)), rfl⟩
theorem im_X8_answerAgain : Cond.instanceMethod yX8_answerAgain ∈ TS := List.mem_filter.mpr ⟨mt_2 (List.mem_of_getElem? (i := 237) (by decide +kernel)), rfl⟩
theorem se_X8_X8_answerAgain : Cond.selects RX8 yX8_answerAgain yX8_answerAgain ∈ TS := List.mem_filter.mpr ⟨mt_2 (List.mem_of_getElem? (i := 238) (by decide +kernel)), rfl⟩
set_option maxRecDepth 100000 in
theorem co_X8_answerAgain : Cond.code yX8_answerAgain cX8_answerAgain 3 none ∈ TS := List.mem_filter.mpr ⟨mt_2 (List.mem_of_getElem? (i := 239) (by show tables_1_2[_]? = _; rfl)), rfl⟩
theorem ml_X8_89 : Cond.methodLink RX8 89 yX2_isAllowed ∈ TS := List.mem_filter.mpr ⟨mt_3 (List.mem_of_getElem? (i := 0) (by decide +kernel)), rfl⟩
theorem im_X2_isAllowed : Cond.instanceMethod yX2_isAllowed ∈ TS := List.mem_filter.mpr ⟨mt_3 (List.mem_of_getElem? (i := 1) (by decide +kernel)), rfl⟩
theorem se_X2_X2_isAllowed : Cond.selects RX2 yX2_isAllowed yX2_isAllowed ∈ TS := List.mem_filter.mpr ⟨mt_3 (List.mem_of_getElem? (i := 2) (by decide +kernel)), rfl⟩
set_option maxRecDepth 100000 in
theorem co_X2_isAllowed : Cond.code yX2_isAllowed cX2_isAllowed 2 (some .boolean) ∈ TS := List.mem_filter.mpr ⟨mt_3 (List.mem_of_getElem? (i := 3) (by show tables_1_3[_]? = _; rfl)), rfl⟩
theorem ml_X2_57 : Cond.methodLink RX2 57 yX1_allows ∈ TS := List.mem_filter.mpr ⟨mt_3 (List.mem_of_getElem? (i := 4) (by decide +kernel)), rfl⟩
theorem im_X1_allows : Cond.instanceMethod yX1_allows ∈ TS := List.mem_filter.mpr ⟨mt_3 (List.mem_of_getElem? (i := 5) (by decide +kernel)), rfl⟩
theorem se_X1_X1_allows : Cond.selects RX1 yX1_allows yX1_allows ∈ TS := List.mem_filter.mpr ⟨mt_3 (List.mem_of_getElem? (i := 6) (by decide +kernel)), rfl⟩
set_option maxRecDepth 100000 in
theorem co_X1_allows : Cond.code yX1_allows cX1_allows 5 (some .boolean) ∈ TS := List.mem_filter.mpr ⟨mt_3 (List.mem_of_getElem? (i := 7) (by show tables_1_3[_]? = _; rfl)), rfl⟩
theorem mn_X1_29 : Cond.methodLinkNest RX1 29 yX9_isRegion RX9 ∈ TS := List.mem_filter.mpr ⟨mt_3 (List.mem_of_getElem? (i := 8) (by decide +kernel)), rfl⟩
theorem st_X9_isRegion : Cond.static yX9_isRegion ∈ TS := List.mem_filter.mpr ⟨mt_3 (List.mem_of_getElem? (i := 9) (by decide +kernel)), rfl⟩
set_option maxRecDepth 100000 in
theorem co_X9_isRegion : Cond.code yX9_isRegion cX9_isRegion 1 (some .boolean) ∈ TS := List.mem_filter.mpr ⟨mt_3 (List.mem_of_getElem? (i := 10) (by show tables_1_3[_]? = _; rfl)), rfl⟩
theorem ml_X1_32 : Cond.methodLink RX1 32 yX6_allows ∈ TS := List.mem_filter.mpr ⟨mt_3 (List.mem_of_getElem? (i := 11) (by decide +kernel)), rfl⟩
theorem im_X6_allows : Cond.instanceMethod yX6_allows ∈ TS := List.mem_filter.mpr ⟨mt_3 (List.mem_of_getElem? (i := 12) (by decide +kernel)), rfl⟩
theorem se_X6_X6_allows : Cond.selects RX6 yX6_allows yX6_allows ∈ TS := List.mem_filter.mpr ⟨mt_3 (List.mem_of_getElem? (i := 13) (by decide +kernel)), rfl⟩
set_option maxRecDepth 100000 in
theorem co_X6_allows : Cond.code yX6_allows cX6_allows 4 (some .boolean) ∈ TS := List.mem_filter.mpr ⟨mt_3 (List.mem_of_getElem? (i := 14) (by show tables_1_3[_]? = _; rfl)), rfl⟩
theorem ml_X8_93 : Cond.methodLink RX8 93 yX8_replyCells ∈ TS := List.mem_filter.mpr ⟨mt_3 (List.mem_of_getElem? (i := 15) (by decide +kernel)), rfl⟩
theorem im_X8_replyCells : Cond.instanceMethod yX8_replyCells ∈ TS := List.mem_filter.mpr ⟨mt_3 (List.mem_of_getElem? (i := 16) (by decide +kernel)), rfl⟩
theorem se_X8_X8_replyCells : Cond.selects RX8 yX8_replyCells yX8_replyCells ∈ TS := List.mem_filter.mpr ⟨mt_3 (List.mem_of_getElem? (i := 17) (by decide +kernel)), rfl⟩
set_option maxRecDepth 100000 in
theorem co_X8_replyCells : Cond.code yX8_replyCells cX8_replyCells 4 none ∈ TS := List.mem_filter.mpr ⟨mt_3 (List.mem_of_getElem? (i := 18) (by show tables_1_3[_]? = _; rfl)), rfl⟩
theorem mn_X8_164 : Cond.methodLinkNest RX8 164 yX9_after RX9 ∈ TS := List.mem_filter.mpr ⟨mt_3 (List.mem_of_getElem? (i := 19) (by decide +kernel)), rfl⟩
theorem ml_X8_167 : Cond.methodLink RX8 167 yX0_carry ∈ TS := List.mem_filter.mpr ⟨mt_3 (List.mem_of_getElem? (i := 20) (by decide +kernel)), rfl⟩
theorem ml_X8_173 : Cond.methodLink RX8 173 yX2_load ∈ TS := List.mem_filter.mpr ⟨mt_3 (List.mem_of_getElem? (i := 21) (by decide +kernel)), rfl⟩
theorem ml_X8_96 : Cond.methodLink RX8 96 yX8_keptAdd ∈ TS := List.mem_filter.mpr ⟨mt_3 (List.mem_of_getElem? (i := 22) (by decide +kernel)), rfl⟩
theorem im_X8_keptAdd : Cond.instanceMethod yX8_keptAdd ∈ TS := List.mem_filter.mpr ⟨mt_3 (List.mem_of_getElem? (i := 23) (by decide +kernel)), rfl⟩
theorem se_X8_X8_keptAdd : Cond.selects RX8 yX8_keptAdd yX8_keptAdd ∈ TS := List.mem_filter.mpr ⟨mt_3 (List.mem_of_getElem? (i := 24) (by decide +kernel)), rfl⟩
set_option maxRecDepth 100000 in
theorem co_X8_keptAdd : Cond.code yX8_keptAdd cX8_keptAdd 3 (some .int) ∈ TS := List.mem_filter.mpr ⟨mt_3 (List.mem_of_getElem? (i := 25) (by show tables_1_3[_]? = _; rfl)), rfl⟩
theorem ml_X8_99 : Cond.methodLink RX8 99 yX8_replyOne ∈ TS := List.mem_filter.mpr ⟨mt_3 (List.mem_of_getElem? (i := 26) (by decide +kernel)), rfl⟩
theorem im_X8_replyOne : Cond.instanceMethod yX8_replyOne ∈ TS := List.mem_filter.mpr ⟨mt_3 (List.mem_of_getElem? (i := 27) (by decide +kernel)), rfl⟩
theorem se_X8_X8_replyOne : Cond.selects RX8 yX8_replyOne yX8_replyOne ∈ TS := List.mem_filter.mpr ⟨mt_3 (List.mem_of_getElem? (i := 28) (by decide +kernel)), rfl⟩
set_option maxRecDepth 100000 in
theorem co_X8_replyOne : Cond.code yX8_replyOne cX8_replyOne 4 none ∈ TS := List.mem_filter.mpr ⟨mt_3 (List.mem_of_getElem? (i := 29) (by show tables_1_3[_]? = _; rfl)), rfl⟩
theorem mn_X8_102 : Cond.methodLinkNest RX8 102 yX9_before RX9 ∈ TS := List.mem_filter.mpr ⟨mt_3 (List.mem_of_getElem? (i := 30) (by decide +kernel)), rfl⟩
theorem st_X9_before : Cond.static yX9_before ∈ TS := List.mem_filter.mpr ⟨mt_3 (List.mem_of_getElem? (i := 31) (by decide +kernel)), rfl⟩
set_option maxRecDepth 100000 in
theorem co_X9_before : Cond.code yX9_before cX9_before 1 (some .int) ∈ TS := List.mem_filter.mpr ⟨mt_3 (List.mem_of_getElem? (i := 32) (by show tables_1_3[_]? = _; rfl)), rfl⟩
theorem ml_X9_203 : Cond.methodLink RX9 203 yX9_after ∈ TS := List.mem_filter.mpr ⟨mt_3 (List.mem_of_getElem? (i := 33) (by decide +kernel)), rfl⟩
theorem ml_X8_105 : Cond.methodLink RX8 105 yX8_acknowledge ∈ TS := List.mem_filter.mpr ⟨mt_3 (List.mem_of_getElem? (i := 34) (by decide +kernel)), rfl⟩
theorem im_X8_acknowledge : Cond.instanceMethod yX8_acknowledge ∈ TS := List.mem_filter.mpr ⟨mt_3 (List.mem_of_getElem? (i := 35) (by decide +kernel)), rfl⟩
theorem se_X8_X8_acknowledge : Cond.selects RX8 yX8_acknowledge yX8_acknowledge ∈ TS := List.mem_filter.mpr ⟨mt_3 (List.mem_of_getElem? (i := 36) (by decide +kernel)), rfl⟩
set_option maxRecDepth 100000 in
theorem co_X8_acknowledge : Cond.code yX8_acknowledge cX8_acknowledge 2 none ∈ TS := List.mem_filter.mpr ⟨mt_3 (List.mem_of_getElem? (i := 37) (by show tables_1_3[_]? = _; rfl)), rfl⟩
theorem ml_X8_72 : Cond.methodLink RX8 72 yX8_tellSequence ∈ TS := List.mem_filter.mpr ⟨mt_3 (List.mem_of_getElem? (i := 38) (by decide +kernel)), rfl⟩
theorem im_X8_tellSequence : Cond.instanceMethod yX8_tellSequence ∈ TS := List.mem_filter.mpr ⟨mt_3 (List.mem_of_getElem? (i := 39) (by decide +kernel)), rfl⟩
theorem se_X8_X8_tellSequence : Cond.selects RX8 yX8_tellSequence yX8_tellSequence ∈ TS := List.mem_filter.mpr ⟨mt_3 (List.mem_of_getElem? (i := 40) (by decide +kernel)), rfl⟩
set_option maxRecDepth 100000 in
theorem co_X8_tellSequence : Cond.code yX8_tellSequence cX8_tellSequence 1 none ∈ TS := List.mem_filter.mpr ⟨mt_3 (List.mem_of_getElem? (i := 41) (by show tables_1_3[_]? = _; rfl)), rfl⟩
theorem ml_X8_85 : Cond.methodLink RX8 85 yX8_refuse ∈ TS := List.mem_filter.mpr ⟨mt_3 (List.mem_of_getElem? (i := 42) (by decide +kernel)), rfl⟩
theorem im_X8_refuse : Cond.instanceMethod yX8_refuse ∈ TS := List.mem_filter.mpr ⟨mt_3 (List.mem_of_getElem? (i := 43) (by decide +kernel)), rfl⟩
theorem se_X8_X8_refuse : Cond.selects RX8 yX8_refuse yX8_refuse ∈ TS := List.mem_filter.mpr ⟨mt_3 (List.mem_of_getElem? (i := 44) (by decide +kernel)), rfl⟩
set_option maxRecDepth 100000 in
theorem co_X8_refuse : Cond.code yX8_refuse cX8_refuse 3 none ∈ TS := List.mem_filter.mpr ⟨mt_3 (List.mem_of_getElem? (i := 45) (by show tables_1_3[_]? = _; rfl)), rfl⟩
theorem ml_X8_78 : Cond.methodLink RX8 78 yX8_takeSend ∈ TS := List.mem_filter.mpr ⟨mt_3 (List.mem_of_getElem? (i := 46) (by decide +kernel)), rfl⟩
theorem im_X8_takeSend : Cond.instanceMethod yX8_takeSend ∈ TS := List.mem_filter.mpr ⟨mt_3 (List.mem_of_getElem? (i := 47) (by decide +kernel)), rfl⟩
theorem se_X8_X8_takeSend : Cond.selects RX8 yX8_takeSend yX8_takeSend ∈ TS := List.mem_filter.mpr ⟨mt_3 (List.mem_of_getElem? (i := 48) (by decide +kernel)), rfl⟩
set_option maxRecDepth 100000 in
theorem co_X8_takeSend : Cond.code yX8_takeSend cX8_takeSend 4 (some .int) ∈ TS := List.mem_filter.mpr ⟨mt_3 (List.mem_of_getElem? (i := 49) (by show tables_1_3[_]? = _; rfl)), rfl⟩
theorem ml_X8_109 : Cond.methodLink RX8 109 yX2_isFirst ∈ TS := List.mem_filter.mpr ⟨mt_3 (List.mem_of_getElem? (i := 50) (by decide +kernel)), rfl⟩
theorem im_X2_isFirst : Cond.instanceMethod yX2_isFirst ∈ TS := List.mem_filter.mpr ⟨mt_3 (List.mem_of_getElem? (i := 51) (by decide +kernel)), rfl⟩
theorem se_X2_X2_isFirst : Cond.selects RX2 yX2_isFirst yX2_isFirst ∈ TS := List.mem_filter.mpr ⟨mt_3 (List.mem_of_getElem? (i := 52) (by decide +kernel)), rfl⟩
set_option maxRecDepth 100000 in
theorem co_X2_isFirst : Cond.code yX2_isFirst cX2_isFirst 1 (some .boolean) ∈ TS := List.mem_filter.mpr ⟨mt_3 (List.mem_of_getElem? (i := 53) (by show tables_1_3[_]? = _; rfl)), rfl⟩
theorem ml_X8_116 : Cond.methodLink RX8 116 yX5_at ∈ TS := List.mem_filter.mpr ⟨mt_3 (List.mem_of_getElem? (i := 54) (by decide +kernel)), rfl⟩
theorem ml_X8_132 : Cond.methodLink RX8 132 yX2_unload ∈ TS := List.mem_filter.mpr ⟨mt_3 (List.mem_of_getElem? (i := 55) (by decide +kernel)), rfl⟩
theorem im_X2_unload : Cond.instanceMethod yX2_unload ∈ TS := List.mem_filter.mpr ⟨mt_3 (List.mem_of_getElem? (i := 56) (by decide +kernel)), rfl⟩
theorem se_X2_X2_unload : Cond.selects RX2 yX2_unload yX2_unload ∈ TS := List.mem_filter.mpr ⟨mt_3 (List.mem_of_getElem? (i := 57) (by decide +kernel)), rfl⟩
set_option maxRecDepth 100000 in
theorem co_X2_unload : Cond.code yX2_unload cX2_unload 5 none ∈ TS := List.mem_filter.mpr ⟨mt_3 (List.mem_of_getElem? (i := 58) (by show tables_1_3[_]? = _; rfl)), rfl⟩
theorem ml_X2_53 : Cond.methodLink RX2 53 yX1_put ∈ TS := List.mem_filter.mpr ⟨mt_3 (List.mem_of_getElem? (i := 59) (by decide +kernel)), rfl⟩
theorem im_X1_put : Cond.instanceMethod yX1_put ∈ TS := List.mem_filter.mpr ⟨mt_3 (List.mem_of_getElem? (i := 60) (by decide +kernel)), rfl⟩
theorem se_X1_X1_put : Cond.selects RX1 yX1_put yX1_put ∈ TS := List.mem_filter.mpr ⟨mt_3 (List.mem_of_getElem? (i := 61) (by decide +kernel)), rfl⟩
set_option maxRecDepth 100000 in
theorem co_X1_put : Cond.code yX1_put cX1_put 3 none ∈ TS := List.mem_filter.mpr ⟨mt_3 (List.mem_of_getElem? (i := 62) (by show tables_1_3[_]? = _; rfl)), rfl⟩
theorem ml_X8_136 : Cond.methodLink RX8 136 yX2_isLast ∈ TS := List.mem_filter.mpr ⟨mt_3 (List.mem_of_getElem? (i := 63) (by decide +kernel)), rfl⟩
theorem im_X2_isLast : Cond.instanceMethod yX2_isLast ∈ TS := List.mem_filter.mpr ⟨mt_3 (List.mem_of_getElem? (i := 64) (by decide +kernel)), rfl⟩
theorem se_X2_X2_isLast : Cond.selects RX2 yX2_isLast yX2_isLast ∈ TS := List.mem_filter.mpr ⟨mt_3 (List.mem_of_getElem? (i := 65) (by decide +kernel)), rfl⟩
set_option maxRecDepth 100000 in
theorem co_X2_isLast : Cond.code yX2_isLast cX2_isLast 1 (some .boolean) ∈ TS := List.mem_filter.mpr ⟨mt_3 (List.mem_of_getElem? (i := 66) (by show tables_1_3[_]? = _; rfl)), rfl⟩
theorem ml_X8_139 : Cond.methodLink RX8 139 yX5_completeFirst ∈ TS := List.mem_filter.mpr ⟨mt_3 (List.mem_of_getElem? (i := 67) (by decide +kernel)), rfl⟩
theorem im_X5_completeFirst : Cond.instanceMethod yX5_completeFirst ∈ TS := List.mem_filter.mpr ⟨mt_3 (List.mem_of_getElem? (i := 68) (by decide +kernel)), rfl⟩
theorem se_X5_X5_completeFirst : Cond.selects RX5 yX5_completeFirst yX5_completeFirst ∈ TS := List.mem_filter.mpr ⟨mt_3 (List.mem_of_getElem? (i := 69) (by decide +kernel)), rfl⟩
set_option maxRecDepth 100000 in
theorem co_X5_completeFirst : Cond.code yX5_completeFirst cX5_completeFirst 2 none ∈ TS := List.mem_filter.mpr ⟨mt_3 (List.mem_of_getElem? (i := 70) (by show tables_1_3[_]? = _; rfl)), rfl⟩
theorem ml_X5_35 : Cond.methodLink RX5 35 yX5_at ∈ TS := List.mem_filter.mpr ⟨mt_3 (List.mem_of_getElem? (i := 71) (by decide +kernel)), rfl⟩
theorem ml_X5_54 : Cond.methodLink RX5 54 yX1_complete ∈ TS := List.mem_filter.mpr ⟨mt_3 (List.mem_of_getElem? (i := 72) (by decide +kernel)), rfl⟩
theorem im_X1_complete : Cond.instanceMethod yX1_complete ∈ TS := List.mem_filter.mpr ⟨mt_3 (List.mem_of_getElem? (i := 73) (by decide +kernel)), rfl⟩
theorem se_X1_X1_complete : Cond.selects RX1 yX1_complete yX1_complete ∈ TS := List.mem_filter.mpr ⟨mt_3 (List.mem_of_getElem? (i := 74) (by decide +kernel)), rfl⟩
set_option maxRecDepth 100000 in
theorem co_X1_complete : Cond.code yX1_complete cX1_complete 5 none ∈ TS := List.mem_filter.mpr ⟨mt_3 (List.mem_of_getElem? (i := 75) (by show tables_1_3[_]? = _; rfl)), rfl⟩
theorem ml_X8_142 : Cond.methodLink RX8 142 yX8_advance ∈ TS := List.mem_filter.mpr ⟨mt_3 (List.mem_of_getElem? (i := 76) (by decide +kernel)), rfl⟩
theorem im_X8_advance : Cond.instanceMethod yX8_advance ∈ TS := List.mem_filter.mpr ⟨mt_3 (List.mem_of_getElem? (i := 77) (by decide +kernel)), rfl⟩
theorem se_X8_X8_advance : Cond.selects RX8 yX8_advance yX8_advance ∈ TS := List.mem_filter.mpr ⟨mt_3 (List.mem_of_getElem? (i := 78) (by decide +kernel)), rfl⟩
set_option maxRecDepth 100000 in
theorem co_X8_advance : Cond.code yX8_advance cX8_advance 2 none ∈ TS := List.mem_filter.mpr ⟨mt_3 (List.mem_of_getElem? (i := 79) (by show tables_1_3[_]? = _; rfl)), rfl⟩
theorem ml_X8_82 : Cond.methodLink RX8 82 yX8_takeReach ∈ TS := List.mem_filter.mpr ⟨mt_3 (List.mem_of_getElem? (i := 80) (by decide +kernel)), rfl⟩
theorem im_X8_takeReach : Cond.instanceMethod yX8_takeReach ∈ TS := List.mem_filter.mpr ⟨mt_3 (List.mem_of_getElem? (i := 81) (by decide +kernel)), rfl⟩
theorem se_X8_X8_takeReach : Cond.selects RX8 yX8_takeReach yX8_takeReach ∈ TS := List.mem_filter.mpr ⟨mt_3 (List.mem_of_getElem? (i := 82) (by decide +kernel)), rfl⟩
set_option maxRecDepth 100000 in
theorem co_X8_takeReach : Cond.code yX8_takeReach cX8_takeReach 2 (some .int) ∈ TS := List.mem_filter.mpr ⟨mt_3 (List.mem_of_getElem? (i := 83) (by show tables_1_3[_]? = _; rfl)), rfl⟩
theorem mn_X8_145 : Cond.methodLinkNest RX8 145 yX9_numbersFor RX9 ∈ TS := List.mem_filter.mpr ⟨mt_3 (List.mem_of_getElem? (i := 84) (by decide +kernel)), rfl⟩
theorem st_X9_numbersFor : Cond.static yX9_numbersFor ∈ TS := List.mem_filter.mpr ⟨mt_3 (List.mem_of_getElem? (i := 85) (by decide +kernel)), rfl⟩
set_option maxRecDepth 100000 in
theorem co_X9_numbersFor : Cond.code yX9_numbersFor cX9_numbersFor 1 (some .int) ∈ TS := List.mem_filter.mpr ⟨mt_3 (List.mem_of_getElem? (i := 86) (by show tables_1_3[_]? = _; rfl)), rfl⟩
theorem ml_X8_148 : Cond.methodLink RX8 148 yX8_growCell ∈ TS := List.mem_filter.mpr ⟨mt_3 (List.mem_of_getElem? (i := 87) (by decide +kernel)), rfl⟩
theorem im_X8_growCell : Cond.instanceMethod yX8_growCell ∈ TS := List.mem_filter.mpr ⟨mt_3 (List.mem_of_getElem? (i := 88) (by decide +kernel)), rfl⟩
theorem se_X8_X8_growCell : Cond.selects RX8 yX8_growCell yX8_growCell ∈ TS := List.mem_filter.mpr ⟨mt_3 (List.mem_of_getElem? (i := 89) (by decide +kernel)), rfl⟩
set_option maxRecDepth 100000 in
theorem co_X8_growCell : Cond.code yX8_growCell cX8_growCell 4 (some .int) ∈ TS := List.mem_filter.mpr ⟨mt_3 (List.mem_of_getElem? (i := 90) (by show tables_1_3[_]? = _; rfl)), rfl⟩
theorem ml_X8_154 : Cond.methodLink RX8 154 yX1_at ∈ TS := List.mem_filter.mpr ⟨mt_3 (List.mem_of_getElem? (i := 91) (by decide +kernel)), rfl⟩
theorem ml_X8_161 : Cond.methodLink RX8 161 yX1_put ∈ TS := List.mem_filter.mpr ⟨mt_3 (List.mem_of_getElem? (i := 92) (by decide +kernel)), rfl⟩
theorem ml_X3_60 : Cond.methodLink RX3 60 yX3_fail ∈ TS := List.mem_filter.mpr ⟨mt_3 (List.mem_of_getElem? (i := 93) (by decide +kernel)), rfl⟩
theorem im_X3_fail : Cond.instanceMethod yX3_fail ∈ TS := List.mem_filter.mpr ⟨mt_3 (List.mem_of_getElem? (i := 94) (by decide +kernel)), rfl⟩
theorem se_X3_X3_fail : Cond.selects RX3 yX3_fail yX3_fail ∈ TS := List.mem_filter.mpr ⟨mt_3 (List.mem_of_getElem? (i := 95) (by decide +kernel)), rfl⟩
set_option maxRecDepth 100000 in
theorem co_X3_fail : Cond.code yX3_fail cX3_fail 3 none ∈ TS := List.mem_filter.mpr ⟨mt_3 (List.mem_of_getElem? (i := 96) (by show tables_1_3[_]? = _; rfl)), rfl⟩
theorem ml_X3_84 : Cond.methodLink RX3 84 yX5_completeAll ∈ TS := List.mem_filter.mpr ⟨mt_3 (List.mem_of_getElem? (i := 97) (by decide +kernel)), rfl⟩
theorem im_X5_completeAll : Cond.instanceMethod yX5_completeAll ∈ TS := List.mem_filter.mpr ⟨mt_3 (List.mem_of_getElem? (i := 98) (by decide +kernel)), rfl⟩
theorem se_X5_X5_completeAll : Cond.selects RX5 yX5_completeAll yX5_completeAll ∈ TS := List.mem_filter.mpr ⟨mt_3 (List.mem_of_getElem? (i := 99) (by decide +kernel)), rfl⟩
set_option maxRecDepth 100000 in
theorem co_X5_completeAll : Cond.code yX5_completeAll cX5_completeAll 4 none ∈ TS := List.mem_filter.mpr ⟨mt_3 (List.mem_of_getElem? (i := 100) (by show tables_1_3[_]? = _; rfl)), rfl⟩
theorem ml_X5_60 : Cond.methodLink RX5 60 yX5_completeFirst ∈ TS := List.mem_filter.mpr ⟨mt_3 (List.mem_of_getElem? (i := 101) (by decide +kernel)), rfl⟩
theorem ml_X3_87 : Cond.methodLink RX3 87 yX8_completeAll ∈ TS := List.mem_filter.mpr ⟨mt_3 (List.mem_of_getElem? (i := 102) (by decide +kernel)), rfl⟩
theorem im_X8_completeAll : Cond.instanceMethod yX8_completeAll ∈ TS := List.mem_filter.mpr ⟨mt_3 (List.mem_of_getElem? (i := 103) (by decide +kernel)), rfl⟩
theorem se_X8_X8_completeAll : Cond.selects RX8 yX8_completeAll yX8_completeAll ∈ TS := List.mem_filter.mpr ⟨mt_3 (List.mem_of_getElem? (i := 104) (by decide +kernel)), rfl⟩
set_option maxRecDepth 100000 in
theorem co_X8_completeAll : Cond.code yX8_completeAll cX8_completeAll 2 none ∈ TS := List.mem_filter.mpr ⟨mt_3 (List.mem_of_getElem? (i := 105) (by show tables_1_3[_]? = _; rfl)), rfl⟩
theorem ml_X8_182 : Cond.methodLink RX8 182 yX5_completeAll ∈ TS := List.mem_filter.mpr ⟨mt_3 (List.mem_of_getElem? (i := 106) (by decide +kernel)), rfl⟩
theorem ml_X3_70 : Cond.methodLink RX3 70 yX7_takeNak ∈ TS := List.mem_filter.mpr ⟨mt_3 (List.mem_of_getElem? (i := 107) (by decide +kernel)), rfl⟩
theorem im_X7_takeNak : Cond.instanceMethod yX7_takeNak ∈ TS := List.mem_filter.mpr ⟨mt_3 (List.mem_of_getElem? (i := 108) (by decide +kernel)), rfl⟩
theorem se_X7_X7_takeNak : Cond.selects RX7 yX7_takeNak yX7_takeNak ∈ TS := List.mem_filter.mpr ⟨mt_3 (List.mem_of_getElem? (i := 109) (by decide +kernel)), rfl⟩
set_option maxRecDepth 100000 in
theorem co_X7_takeNak : Cond.code yX7_takeNak cX7_takeNak 3 (some .int) ∈ TS := List.mem_filter.mpr ⟨mt_3 (List.mem_of_getElem? (i := 110) (by show tables_1_3[_]? = _; rfl)), rfl⟩
theorem ml_X7_156 : Cond.methodLink RX7 156 yX7_isOpen ∈ TS := List.mem_filter.mpr ⟨mt_3 (List.mem_of_getElem? (i := 111) (by decide +kernel)), rfl⟩
theorem im_X7_isOpen : Cond.instanceMethod yX7_isOpen ∈ TS := List.mem_filter.mpr ⟨mt_3 (List.mem_of_getElem? (i := 112) (by decide +kernel)), rfl⟩
theorem se_X7_X7_isOpen : Cond.selects RX7 yX7_isOpen yX7_isOpen ∈ TS := List.mem_filter.mpr ⟨mt_3 (List.mem_of_getElem? (i := 113) (by decide +kernel)), rfl⟩
set_option maxRecDepth 100000 in
theorem co_X7_isOpen : Cond.code yX7_isOpen cX7_isOpen 2 (some .boolean) ∈ TS := List.mem_filter.mpr ⟨mt_3 (List.mem_of_getElem? (i := 114) (by show tables_1_3[_]? = _; rfl)), rfl⟩
theorem mn_X7_174 : Cond.methodLinkNest RX7 174 yX9_before RX9 ∈ TS := List.mem_filter.mpr ⟨mt_3 (List.mem_of_getElem? (i := 115) (by decide +kernel)), rfl⟩
theorem ml_X7_177 : Cond.methodLink RX7 177 yX7_takeAck ∈ TS := List.mem_filter.mpr ⟨mt_3 (List.mem_of_getElem? (i := 116) (by decide +kernel)), rfl⟩
theorem im_X7_takeAck : Cond.instanceMethod yX7_takeAck ∈ TS := List.mem_filter.mpr ⟨mt_3 (List.mem_of_getElem? (i := 117) (by decide +kernel)), rfl⟩
theorem se_X7_X7_takeAck : Cond.selects RX7 yX7_takeAck yX7_takeAck ∈ TS := List.mem_filter.mpr ⟨mt_3 (List.mem_of_getElem? (i := 118) (by decide +kernel)), rfl⟩
set_option maxRecDepth 100000 in
theorem co_X7_takeAck : Cond.code yX7_takeAck cX7_takeAck 4 none ∈ TS := List.mem_filter.mpr ⟨mt_3 (List.mem_of_getElem? (i := 119) (by show tables_1_3[_]? = _; rfl)), rfl⟩
theorem ml_X7_159 : Cond.methodLink RX7 159 yX7_awaitsReply ∈ TS := List.mem_filter.mpr ⟨mt_3 (List.mem_of_getElem? (i := 120) (by decide +kernel)), rfl⟩
theorem im_X7_awaitsReply : Cond.instanceMethod yX7_awaitsReply ∈ TS := List.mem_filter.mpr ⟨mt_3 (List.mem_of_getElem? (i := 121) (by decide +kernel)), rfl⟩
theorem se_X7_X7_awaitsReply : Cond.selects RX7 yX7_awaitsReply yX7_awaitsReply ∈ TS := List.mem_filter.mpr ⟨mt_3 (List.mem_of_getElem? (i := 122) (by decide +kernel)), rfl⟩
set_option maxRecDepth 100000 in
theorem co_X7_awaitsReply : Cond.code yX7_awaitsReply cX7_awaitsReply 3 (some .boolean) ∈ TS := List.mem_filter.mpr ⟨mt_3 (List.mem_of_getElem? (i := 123) (by show tables_1_3[_]? = _; rfl)), rfl⟩
theorem ml_X7_165 : Cond.methodLink RX7 165 yX4_awaitsReply ∈ TS := List.mem_filter.mpr ⟨mt_3 (List.mem_of_getElem? (i := 124) (by decide +kernel)), rfl⟩
theorem im_X4_awaitsReply : Cond.instanceMethod yX4_awaitsReply ∈ TS := List.mem_filter.mpr ⟨mt_3 (List.mem_of_getElem? (i := 125) (by decide +kernel)), rfl⟩
theorem se_X4_X4_awaitsReply : Cond.selects RX4 yX4_awaitsReply yX4_awaitsReply ∈ TS := List.mem_filter.mpr ⟨mt_3 (List.mem_of_getElem? (i := 126) (by decide +kernel)), rfl⟩
set_option maxRecDepth 100000 in
theorem co_X4_awaitsReply : Cond.code yX4_awaitsReply cX4_awaitsReply 1 (some .boolean) ∈ TS := List.mem_filter.mpr ⟨mt_3 (List.mem_of_getElem? (i := 127) (by show tables_1_3[_]? = _; rfl)), rfl⟩
theorem ml_X7_162 : Cond.methodLink RX7 162 yX7_answer ∈ TS := List.mem_filter.mpr ⟨mt_3 (List.mem_of_getElem? (i := 128) (by decide +kernel)), rfl⟩
theorem im_X7_answer : Cond.instanceMethod yX7_answer ∈ TS := List.mem_filter.mpr ⟨mt_3 (List.mem_of_getElem? (i := 129) (by decide +kernel)), rfl⟩
theorem se_X7_X7_answer : Cond.selects RX7 yX7_answer yX7_answer ∈ TS := List.mem_filter.mpr ⟨mt_3 (List.mem_of_getElem? (i := 130) (by decide +kernel)), rfl⟩
set_option maxRecDepth 100000 in
theorem co_X7_answer : Cond.code yX7_answer cX7_answer 3 none ∈ TS := List.mem_filter.mpr ⟨mt_3 (List.mem_of_getElem? (i := 131) (by show tables_1_3[_]? = _; rfl)), rfl⟩
theorem ml_X7_184 : Cond.methodLink RX7 184 yX7_firstIsAnswered ∈ TS := List.mem_filter.mpr ⟨mt_3 (List.mem_of_getElem? (i := 132) (by decide +kernel)), rfl⟩
theorem im_X7_firstIsAnswered : Cond.instanceMethod yX7_firstIsAnswered ∈ TS := List.mem_filter.mpr ⟨mt_3 (List.mem_of_getElem? (i := 133) (by decide +kernel)), rfl⟩
theorem se_X7_X7_firstIsAnswered : Cond.selects RX7 yX7_firstIsAnswered yX7_firstIsAnswered ∈ TS := List.mem_filter.mpr ⟨mt_3 (List.mem_of_getElem? (i := 134) (by decide +kernel)), rfl⟩
set_option maxRecDepth 100000 in
theorem co_X7_firstIsAnswered : Cond.code yX7_firstIsAnswered cX7_firstIsAnswered 2 (some .boolean) ∈ TS := List.mem_filter.mpr ⟨mt_3 (List.mem_of_getElem? (i := 135) (by show tables_1_3[_]? = _; rfl)), rfl⟩
theorem ml_X7_187 : Cond.methodLink RX7 187 yX5_completeFirst ∈ TS := List.mem_filter.mpr ⟨mt_3 (List.mem_of_getElem? (i := 136) (by decide +kernel)), rfl⟩
theorem ml_X7_180 : Cond.methodLink RX7 180 yX7_rest ∈ TS := List.mem_filter.mpr ⟨mt_3 (List.mem_of_getElem? (i := 137) (by decide +kernel)), rfl⟩
theorem im_X7_rest : Cond.instanceMethod yX7_rest ∈ TS := List.mem_filter.mpr ⟨mt_3 (List.mem_of_getElem? (i := 138) (by decide +kernel)), rfl⟩
theorem se_X7_X7_rest : Cond.selects RX7 yX7_rest yX7_rest ∈ TS := List.mem_filter.mpr ⟨mt_3 (List.mem_of_getElem? (i := 139) (by decide +kernel)), rfl⟩
set_option maxRecDepth 100000 in
theorem co_X7_rest : Cond.code yX7_rest cX7_rest 1 (some .int) ∈ TS := List.mem_filter.mpr ⟨mt_3 (List.mem_of_getElem? (i := 140) (by show tables_1_3[_]? = _; rfl)), rfl⟩
theorem ml_X3_74 : Cond.methodLink RX3 74 yX7_takeAck ∈ TS := List.mem_filter.mpr ⟨mt_3 (List.mem_of_getElem? (i := 141) (by decide +kernel)), rfl⟩
theorem ml_X3_77 : Cond.methodLink RX3 77 yX7_takeReply ∈ TS := List.mem_filter.mpr ⟨mt_3 (List.mem_of_getElem? (i := 142) (by decide +kernel)), rfl⟩
theorem im_X7_takeReply : Cond.instanceMethod yX7_takeReply ∈ TS := List.mem_filter.mpr ⟨mt_3 (List.mem_of_getElem? (i := 143) (by decide +kernel)), rfl⟩
theorem se_X7_X7_takeReply : Cond.selects RX7 yX7_takeReply yX7_takeReply ∈ TS := List.mem_filter.mpr ⟨mt_3 (List.mem_of_getElem? (i := 144) (by decide +kernel)), rfl⟩
set_option maxRecDepth 100000 in
theorem co_X7_takeReply : Cond.code yX7_takeReply cX7_takeReply 4 none ∈ TS := List.mem_filter.mpr ⟨mt_3 (List.mem_of_getElem? (i := 145) (by show tables_1_3[_]? = _; rfl)), rfl⟩
theorem ml_X7_171 : Cond.methodLink RX7 171 yX2_unload ∈ TS := List.mem_filter.mpr ⟨mt_3 (List.mem_of_getElem? (i := 146) (by decide +kernel)), rfl⟩
theorem ml_L_103 : Cond.methodLink RL 103 yX9_spoil ∈ TS := List.mem_filter.mpr ⟨mt_3 (List.mem_of_getElem? (i := 147) (by decide +kernel)), rfl⟩
theorem im_X9_spoil : Cond.instanceMethod yX9_spoil ∈ TS := List.mem_filter.mpr ⟨mt_3 (List.mem_of_getElem? (i := 148) (by decide +kernel)), rfl⟩
theorem se_X9_X9_spoil : Cond.selects RX9 yX9_spoil yX9_spoil ∈ TS := List.mem_filter.mpr ⟨mt_3 (List.mem_of_getElem? (i := 149) (by decide +kernel)), rfl⟩
set_option maxRecDepth 100000 in
theorem co_X9_spoil : Cond.code yX9_spoil cX9_spoil 3 (some .boolean) ∈ TS := List.mem_filter.mpr ⟨mt_3 (List.mem_of_getElem? (i := 150) (by show tables_1_3[_]? = _; rfl)), rfl⟩
theorem ml_X9_155 : Cond.methodLink RX9 155 yX0_isFull ∈ TS := List.mem_filter.mpr ⟨mt_3 (List.mem_of_getElem? (i := 151) (by decide +kernel)), rfl⟩
theorem ml_X9_158 : Cond.methodLink RX9 158 yX0_copyToEnd ∈ TS := List.mem_filter.mpr ⟨mt_3 (List.mem_of_getElem? (i := 152) (by decide +kernel)), rfl⟩
theorem im_X0_copyToEnd : Cond.instanceMethod yX0_copyToEnd ∈ TS := List.mem_filter.mpr ⟨mt_3 (List.mem_of_getElem? (i := 153) (by decide +kernel)), rfl⟩
theorem se_X0_X0_copyToEnd : Cond.selects RX0 yX0_copyToEnd yX0_copyToEnd ∈ TS := List.mem_filter.mpr ⟨mt_3 (List.mem_of_getElem? (i := 154) (by decide +kernel)), rfl⟩
set_option maxRecDepth 100000 in
theorem co_X0_copyToEnd : Cond.code yX0_copyToEnd cX0_copyToEnd 2 none ∈ TS := List.mem_filter.mpr ⟨mt_3 (List.mem_of_getElem? (i := 155) (by show tables_1_3[_]? = _; rfl)), rfl⟩
theorem ml_X0_37 : Cond.methodLink RX0 37 yX2_becomeLike ∈ TS := List.mem_filter.mpr ⟨mt_3 (List.mem_of_getElem? (i := 156) (by decide +kernel)), rfl⟩
theorem im_X2_becomeLike : Cond.instanceMethod yX2_becomeLike ∈ TS := List.mem_filter.mpr ⟨mt_3 (List.mem_of_getElem? (i := 157) (by decide +kernel)), rfl⟩
theorem se_X2_X2_becomeLike : Cond.selects RX2 yX2_becomeLike yX2_becomeLike ∈ TS := List.mem_filter.mpr ⟨mt_3 (List.mem_of_getElem? (i := 158) (by decide +kernel)), rfl⟩
set_option maxRecDepth 100000 in
theorem co_X2_becomeLike : Cond.code yX2_becomeLike cX2_becomeLike 3 none ∈ TS := List.mem_filter.mpr ⟨mt_3 (List.mem_of_getElem? (i := 159) (by show tables_1_3[_]? = _; rfl)), rfl⟩
theorem ml_X2_37 : Cond.methodLink RX2 37 yX2_become ∈ TS := List.mem_filter.mpr ⟨mt_3 (List.mem_of_getElem? (i := 160) (by decide +kernel)), rfl⟩
theorem ml_L_108 : Cond.methodLink RL 108 yX9_tick ∈ TS := List.mem_filter.mpr ⟨mt_3 (List.mem_of_getElem? (i := 161) (by decide +kernel)), rfl⟩
theorem im_X9_tick : Cond.instanceMethod yX9_tick ∈ TS := List.mem_filter.mpr ⟨mt_3 (List.mem_of_getElem? (i := 162) (by decide +kernel)), rfl⟩
theorem se_X9_X9_tick : Cond.selects RX9 yX9_tick yX9_tick ∈ TS := List.mem_filter.mpr ⟨mt_3 (List.mem_of_getElem? (i := 163) (by decide +kernel)), rfl⟩
set_option maxRecDepth 100000 in
theorem co_X9_tick : Cond.code yX9_tick cX9_tick 3 (some .int) ∈ TS := List.mem_filter.mpr ⟨mt_3 (List.mem_of_getElem? (i := 164) (by show tables_1_3[_]? = _; rfl)), rfl⟩
theorem ml_X9_162 : Cond.methodLink RX9 162 yX3_failsByTime ∈ TS := List.mem_filter.mpr ⟨mt_3 (List.mem_of_getElem? (i := 165) (by decide +kernel)), rfl⟩
theorem im_X3_failsByTime : Cond.instanceMethod yX3_failsByTime ∈ TS := List.mem_filter.mpr ⟨mt_3 (List.mem_of_getElem? (i := 166) (by decide +kernel)), rfl⟩
theorem se_X3_X3_failsByTime : Cond.selects RX3 yX3_failsByTime yX3_failsByTime ∈ TS := List.mem_filter.mpr ⟨mt_3 (List.mem_of_getElem? (i := 167) (by decide +kernel)), rfl⟩
set_option maxRecDepth 100000 in
theorem co_X3_failsByTime : Cond.code yX3_failsByTime cX3_failsByTime 1 (some .boolean) ∈ TS := List.mem_filter.mpr ⟨mt_3 (List.mem_of_getElem? (i := 168) (by show tables_1_3[_]? = _; rfl)), rfl⟩
theorem ml_X3_81 : Cond.methodLink RX3 81 yX7_waitsTooLong ∈ TS := List.mem_filter.mpr ⟨mt_3 (List.mem_of_getElem? (i := 169) (by decide +kernel)), rfl⟩
theorem im_X7_waitsTooLong : Cond.instanceMethod yX7_waitsTooLong ∈ TS := List.mem_filter.mpr ⟨mt_3 (List.mem_of_getElem? (i := 170) (by decide +kernel)), rfl⟩
theorem se_X7_X7_waitsTooLong : Cond.selects RX7 yX7_waitsTooLong yX7_waitsTooLong ∈ TS := List.mem_filter.mpr ⟨mt_3 (List.mem_of_getElem? (i := 171) (by decide +kernel)), rfl⟩
set_option maxRecDepth 100000 in
theorem co_X7_waitsTooLong : Cond.code yX7_waitsTooLong cX7_waitsTooLong 1 (some .boolean) ∈ TS := List.mem_filter.mpr ⟨mt_3 (List.mem_of_getElem? (i := 172) (by show tables_1_3[_]? = _; rfl)), rfl⟩
theorem ml_L_112 : Cond.methodLink RL 112 yX9_packets ∈ TS := List.mem_filter.mpr ⟨mt_3 (List.mem_of_getElem? (i := 173) (by decide +kernel)), rfl⟩
theorem im_X9_packets : Cond.instanceMethod yX9_packets ∈ TS := List.mem_filter.mpr ⟨mt_3 (List.mem_of_getElem? (i := 174) (by decide +kernel)), rfl⟩
theorem se_X9_X9_packets : Cond.selects RX9 yX9_packets yX9_packets ∈ TS := List.mem_filter.mpr ⟨mt_3 (List.mem_of_getElem? (i := 175) (by decide +kernel)), rfl⟩
set_option maxRecDepth 100000 in
theorem co_X9_packets : Cond.code yX9_packets cX9_packets 1 (some .int) ∈ TS := List.mem_filter.mpr ⟨mt_3 (List.mem_of_getElem? (i := 176) (by show tables_1_3[_]? = _; rfl)), rfl⟩
theorem ml_L_116 : Cond.methodLink RL 116 yX9_packet ∈ TS := List.mem_filter.mpr ⟨mt_3 (List.mem_of_getElem? (i := 177) (by decide +kernel)), rfl⟩
theorem im_X9_packet : Cond.instanceMethod yX9_packet ∈ TS := List.mem_filter.mpr ⟨mt_3 (List.mem_of_getElem? (i := 178) (by decide +kernel)), rfl⟩
theorem se_X9_X9_packet : Cond.selects RX9 yX9_packet yX9_packet ∈ TS := List.mem_filter.mpr ⟨mt_3 (List.mem_of_getElem? (i := 179) (by decide +kernel)), rfl⟩
set_option maxRecDepth 100000 in
theorem co_X9_packet : Cond.code yX9_packet cX9_packet 3 (some .int) ∈ TS := List.mem_filter.mpr ⟨mt_3 (List.mem_of_getElem? (i := 180) (by show tables_1_3[_]? = _; rfl)), rfl⟩
theorem ml_X9_172 : Cond.methodLink RX9 172 yX2_tell ∈ TS := List.mem_filter.mpr ⟨mt_3 (List.mem_of_getElem? (i := 181) (by decide +kernel)), rfl⟩
theorem im_X2_tell : Cond.instanceMethod yX2_tell ∈ TS := List.mem_filter.mpr ⟨mt_3 (List.mem_of_getElem? (i := 182) (by decide +kernel)), rfl⟩
theorem se_X2_X2_tell : Cond.selects RX2 yX2_tell yX2_tell ∈ TS := List.mem_filter.mpr ⟨mt_3 (List.mem_of_getElem? (i := 183) (by decide +kernel)), rfl⟩
set_option maxRecDepth 100000 in
theorem co_X2_tell : Cond.code yX2_tell cX2_tell 2 (some .int) ∈ TS := List.mem_filter.mpr ⟨mt_3 (List.mem_of_getElem? (i := 184) (by show tables_1_3[_]? = _; rfl)), rfl⟩
theorem ml_L_120 : Cond.methodLink RL 120 yX9_pair ∈ TS := List.mem_filter.mpr ⟨mt_3 (List.mem_of_getElem? (i := 185) (by decide +kernel)), rfl⟩
theorem im_X9_pair : Cond.instanceMethod yX9_pair ∈ TS := List.mem_filter.mpr ⟨mt_3 (List.mem_of_getElem? (i := 186) (by decide +kernel)), rfl⟩
theorem se_X9_X9_pair : Cond.selects RX9 yX9_pair yX9_pair ∈ TS := List.mem_filter.mpr ⟨mt_3 (List.mem_of_getElem? (i := 187) (by decide +kernel)), rfl⟩
set_option maxRecDepth 100000 in
theorem co_X9_pair : Cond.code yX9_pair cX9_pair 3 (some .int) ∈ TS := List.mem_filter.mpr ⟨mt_3 (List.mem_of_getElem? (i := 188) (by show tables_1_3[_]? = _; rfl)), rfl⟩
theorem ml_X9_175 : Cond.methodLink RX9 175 yX3_tell ∈ TS := List.mem_filter.mpr ⟨mt_3 (List.mem_of_getElem? (i := 189) (by decide +kernel)), rfl⟩
theorem im_X3_tell : Cond.instanceMethod yX3_tell ∈ TS := List.mem_filter.mpr ⟨mt_3 (List.mem_of_getElem? (i := 190) (by decide +kernel)), rfl⟩
theorem se_X3_X3_tell : Cond.selects RX3 yX3_tell yX3_tell ∈ TS := List.mem_filter.mpr ⟨mt_3 (List.mem_of_getElem? (i := 191) (by decide +kernel)), rfl⟩
set_option maxRecDepth 100000 in
theorem co_X3_tell : Cond.code yX3_tell cX3_tell 2 (some .int) ∈ TS := List.mem_filter.mpr ⟨mt_3 (List.mem_of_getElem? (i := 192) (by show tables_1_3[_]? = _; rfl)), rfl⟩
theorem ml_L_124 : Cond.methodLink RL 124 yX9_completions ∈ TS := List.mem_filter.mpr ⟨mt_3 (List.mem_of_getElem? (i := 193) (by decide +kernel)), rfl⟩
theorem im_X9_completions : Cond.instanceMethod yX9_completions ∈ TS := List.mem_filter.mpr ⟨mt_3 (List.mem_of_getElem? (i := 194) (by decide +kernel)), rfl⟩
theorem se_X9_X9_completions : Cond.selects RX9 yX9_completions yX9_completions ∈ TS := List.mem_filter.mpr ⟨mt_3 (List.mem_of_getElem? (i := 195) (by decide +kernel)), rfl⟩
set_option maxRecDepth 100000 in
theorem co_X9_completions : Cond.code yX9_completions cX9_completions 2 (some .int) ∈ TS := List.mem_filter.mpr ⟨mt_3 (List.mem_of_getElem? (i := 196) (by show tables_1_3[_]? = _; rfl)), rfl⟩
theorem ml_L_45 : Cond.methodLink RL 45 yL_cell ∈ TS := List.mem_filter.mpr ⟨mt_3 (List.mem_of_getElem? (i := 197) (by decide +kernel)), rfl⟩
theorem st_L_cell : Cond.static yL_cell ∈ TS := List.mem_filter.mpr ⟨mt_3 (List.mem_of_getElem? (i := 198) (by decide +kernel)), rfl⟩
set_option maxRecDepth 100000 in
theorem co_L_cell : Cond.code yL_cell cL_cell 2 (some .int) ∈ TS := List.mem_filter.mpr ⟨mt_3 (List.mem_of_getElem? (i := 199) (by show tables_1_3[_]? = _; rfl)), rfl⟩
theorem ml_L_56 : Cond.methodLink RL 56 yL_region ∈ TS := List.mem_filter.mpr ⟨mt_3 (List.mem_of_getElem? (i := 200) (by decide +kernel)), rfl⟩
theorem st_L_region : Cond.static yL_region ∈ TS := List.mem_filter.mpr ⟨mt_3 (List.mem_of_getElem? (i := 201) (by decide +kernel)), rfl⟩
set_option maxRecDepth 100000 in
theorem co_L_region : Cond.codeWith yL_region cL_region 7 (some .int) [(0, 11, 14, 13)] ∈ TS := List.mem_filter.mpr ⟨mt_3 (List.mem_of_getElem? (i := 202) (by show tables_1_3[_]? = _; rfl)), rfl⟩
theorem cl_L_13 : Cond.classLink RL 13 "java/lang/IllegalArgumentException" ∈ TS := List.mem_filter.mpr ⟨mt_3 (List.mem_of_getElem? (i := 203) (by decide +kernel)), rfl⟩
theorem ml_L_7 : Cond.methodLink RL 7 yX9_region ∈ TS := List.mem_filter.mpr ⟨mt_3 (List.mem_of_getElem? (i := 204) (by decide +kernel)), rfl⟩
theorem im_X9_region : Cond.instanceMethod yX9_region ∈ TS := List.mem_filter.mpr ⟨mt_3 (List.mem_of_getElem? (i := 205) (by decide +kernel)), rfl⟩
theorem se_X9_X9_region : Cond.selects RX9 yX9_region yX9_region ∈ TS := List.mem_filter.mpr ⟨mt_3 (List.mem_of_getElem? (i := 206) (by decide +kernel)), rfl⟩
set_option maxRecDepth 100000 in
theorem co_X9_region : Cond.code yX9_region cX9_region 6 none ∈ TS := List.mem_filter.mpr ⟨mt_3 (List.mem_of_getElem? (i := 207) (by show tables_1_3[_]? = _; rfl)), rfl⟩
theorem ml_X9_50 : Cond.methodLink RX9 50 yX9_isRegion ∈ TS := List.mem_filter.mpr ⟨mt_3 (List.mem_of_getElem? (i := 208) (by decide +kernel)), rfl⟩
theorem ml_X9_53 : Cond.methodLink RX9 53 yX9_require ∈ TS := List.mem_filter.mpr ⟨mt_3 (List.mem_of_getElem? (i := 209) (by decide +kernel)), rfl⟩
theorem st_X9_require : Cond.static yX9_require ∈ TS := List.mem_filter.mpr ⟨mt_3 (List.mem_of_getElem? (i := 210) (by decide +kernel)), rfl⟩
set_option maxRecDepth 100000 in
theorem co_X9_require : Cond.code yX9_require cX9_require 1 none ∈ TS := List.mem_filter.mpr ⟨mt_3 (List.mem_of_getElem? (i := 211) (by show tables_1_3[_]? = _; rfl)), rfl⟩
theorem cl_X9_188 : Cond.classLink RX9 188 "java/lang/IllegalArgumentException" ∈ TS := List.mem_filter.mpr ⟨mt_3 (List.mem_of_getElem? (i := 212) (by decide +kernel)), rfl⟩
theorem ia_IllegalArgumentException : Cond.instantiable "java/lang/IllegalArgumentException" 6 ∈ TS := List.mem_filter.mpr ⟨mt_3 (List.mem_of_getElem? (i := 213) (by decide +kernel)), rfl⟩
theorem ca_IllegalArgumentException_IllegalArgumentException : Cond.castable "java/lang/IllegalArgumentException" "java/lang/IllegalArgumentException" ∈ TS := List.mem_filter.mpr ⟨mt_3 (List.mem_of_getElem? (i := 214) (by decide +kernel)), rfl⟩
theorem se_IllegalArgumentException_Throwable_fillInStackTrace : Cond.selects "java/lang/IllegalArgumentException" ⟨"java/lang/Throwable", "fillInStackTrace", "(I)Ljava/lang/Throwable;"⟩ ⟨"java/lang/Throwable", "fillInStackTrace", "(I)Ljava/lang/Throwable;"⟩ ∈ TS := List.mem_filter.mpr ⟨mt_3 (List.mem_of_getElem? (i := 221) (by decide +kernel)), rfl⟩
theorem la_IllegalArgumentException_cause : Cond.lays "java/lang/IllegalArgumentException" "java/lang/Throwable" "cause" "Ljava/lang/Throwable;" ∈ TS := List.mem_filter.mpr ⟨mt_3 (List.mem_of_getElem? (i := 223) (by decide +kernel)), rfl⟩
theorem la_Throwable_cause : Cond.lays "java/lang/Throwable" "java/lang/Throwable" "cause" "Ljava/lang/Throwable;" ∈ TS := List.mem_filter.mpr ⟨mt_3 (List.mem_of_getElem? (i := 224) (by decide +kernel)), rfl⟩
theorem la_IllegalArgumentException_stackTrace : Cond.lays "java/lang/IllegalArgumentException" "java/lang/Throwable" "stackTrace" "[Ljava/lang/StackTraceElement;" ∈ TS := List.mem_filter.mpr ⟨mt_3 (List.mem_of_getElem? (i := 225) (by decide +kernel)), rfl⟩
theorem la_Throwable_stackTrace : Cond.lays "java/lang/Throwable" "java/lang/Throwable" "stackTrace" "[Ljava/lang/StackTraceElement;" ∈ TS := List.mem_filter.mpr ⟨mt_3 (List.mem_of_getElem? (i := 226) (by decide +kernel)), rfl⟩
theorem la_IllegalArgumentException_suppressedExceptions : Cond.lays "java/lang/IllegalArgumentException" "java/lang/Throwable" "suppressedExceptions" "Ljava/util/List;" ∈ TS := List.mem_filter.mpr ⟨mt_3 (List.mem_of_getElem? (i := 227) (by decide +kernel)), rfl⟩
theorem la_Throwable_suppressedExceptions : Cond.lays "java/lang/Throwable" "java/lang/Throwable" "suppressedExceptions" "Ljava/util/List;" ∈ TS := List.mem_filter.mpr ⟨mt_3 (List.mem_of_getElem? (i := 228) (by decide +kernel)), rfl⟩
theorem la_IllegalArgumentException_detailMessage : Cond.lays "java/lang/IllegalArgumentException" "java/lang/Throwable" "detailMessage" "Ljava/lang/String;" ∈ TS := List.mem_filter.mpr ⟨mt_3 (List.mem_of_getElem? (i := 229) (by decide +kernel)), rfl⟩
theorem la_Throwable_detailMessage : Cond.lays "java/lang/Throwable" "java/lang/Throwable" "detailMessage" "Ljava/lang/String;" ∈ TS := List.mem_filter.mpr ⟨mt_3 (List.mem_of_getElem? (i := 230) (by decide +kernel)), rfl⟩
theorem la_IllegalArgumentException_backtrace : Cond.lays "java/lang/IllegalArgumentException" "java/lang/Throwable" "backtrace" "Ljava/lang/Object;" ∈ TS := List.mem_filter.mpr ⟨mt_3 (List.mem_of_getElem? (i := 231) (by decide +kernel)), rfl⟩
theorem la_Throwable_backtrace : Cond.lays "java/lang/Throwable" "java/lang/Throwable" "backtrace" "Ljava/lang/Object;" ∈ TS := List.mem_filter.mpr ⟨mt_3 (List.mem_of_getElem? (i := 232) (by decide +kernel)), rfl⟩
theorem fl_Throwable_198 : Cond.fieldLink "java/lang/Throwable" 198 "java/lang/Throwable" "backtrace" "Ljava/lang/Object;" ∈ TS := List.mem_filter.mpr ⟨mt_3 (List.mem_of_getElem? (i := 233) (by decide +kernel)), rfl⟩
theorem im_Throwable__init_ : Cond.instanceMethod ⟨"java/lang/Throwable", "<init>", "()V"⟩ ∈ TS := List.mem_filter.mpr ⟨mt_3 (List.mem_of_getElem? (i := 235) (by decide +kernel)), rfl⟩
set_option maxRecDepth 100000 in
theorem co_Throwable__init_ : Cond.code ⟨"java/lang/Throwable", "<init>", "()V"⟩ prog_18_method_1_code 1 none ∈ TS := List.mem_filter.mpr ⟨mt_3 (List.mem_of_getElem? (i := 236) (by show tables_1_3[_]? = _; rfl)), rfl⟩
theorem ml_Throwable_1 : Cond.methodLink "java/lang/Throwable" 1 ⟨"java/lang/Object", "<init>", "()V"⟩ ∈ TS := List.mem_filter.mpr ⟨mt_3 (List.mem_of_getElem? (i := 237) (by decide +kernel)), rfl⟩
theorem fl_Throwable_13 : Cond.fieldLink "java/lang/Throwable" 13 "java/lang/Throwable" "UNASSIGNED_STACK" "[Ljava/lang/StackTraceElement;" ∈ TS := List.mem_filter.mpr ⟨mt_3 (List.mem_of_getElem? (i := 238) (by decide +kernel)), rfl⟩
theorem fl_Throwable_20 : Cond.fieldLink "java/lang/Throwable" 20 "java/lang/Throwable" "SUPPRESSED_SENTINEL" "Ljava/util/List;" ∈ TS := List.mem_filter.mpr ⟨mt_4 (List.mem_of_getElem? (i := 0) (by decide +kernel)), rfl⟩
theorem ml_Throwable_27 : Cond.methodLink "java/lang/Throwable" 27 ⟨"java/lang/Throwable", "fillInStackTrace", "()Ljava/lang/Throwable;"⟩ ∈ TS := List.mem_filter.mpr ⟨mt_4 (List.mem_of_getElem? (i := 2) (by decide +kernel)), rfl⟩
theorem im_Throwable_fillInStackTrace : Cond.instanceMethod ⟨"java/lang/Throwable", "fillInStackTrace", "()Ljava/lang/Throwable;"⟩ ∈ TS := List.mem_filter.mpr ⟨mt_4 (List.mem_of_getElem? (i := 3) (by decide +kernel)), rfl⟩
theorem se_IllegalStateException_Throwable_fillInStackTrace : Cond.selects "java/lang/IllegalStateException" ⟨"java/lang/Throwable", "fillInStackTrace", "()Ljava/lang/Throwable;"⟩ ⟨"java/lang/Throwable", "fillInStackTrace", "()Ljava/lang/Throwable;"⟩ ∈ TS := List.mem_filter.mpr ⟨mt_4 (List.mem_of_getElem? (i := 5) (by decide +kernel)), rfl⟩
theorem se_NoSuchElementException_Throwable_fillInStackTrace : Cond.selects "java/util/NoSuchElementException" ⟨"java/lang/Throwable", "fillInStackTrace", "()Ljava/lang/Throwable;"⟩ ⟨"java/lang/Throwable", "fillInStackTrace", "()Ljava/lang/Throwable;"⟩ ∈ TS := List.mem_filter.mpr ⟨mt_4 (List.mem_of_getElem? (i := 6) (by decide +kernel)), rfl⟩
theorem ml_Throwable_202 : Cond.methodLink "java/lang/Throwable" 202 ⟨"java/lang/Throwable", "fillInStackTrace", "(I)Ljava/lang/Throwable;"⟩ ∈ TS := List.mem_filter.mpr ⟨mt_4 (List.mem_of_getElem? (i := 8) (by decide +kernel)), rfl⟩
theorem ia_Throwable : Cond.instantiable "java/lang/Throwable" 6 ∈ TS := List.mem_filter.mpr ⟨mt_4 (List.mem_of_getElem? (i := 11) (by decide +kernel)), rfl⟩
theorem ml_X9_190 : Cond.methodLink RX9 190 ⟨"java/lang/IllegalArgumentException", "<init>", "()V"⟩ ∈ TS := List.mem_filter.mpr ⟨mt_4 (List.mem_of_getElem? (i := 13) (by decide +kernel)), rfl⟩
theorem im_IllegalArgumentException__init_ : Cond.instanceMethod ⟨"java/lang/IllegalArgumentException", "<init>", "()V"⟩ ∈ TS := List.mem_filter.mpr ⟨mt_4 (List.mem_of_getElem? (i := 14) (by decide +kernel)), rfl⟩
set_option maxRecDepth 100000 in
theorem co_IllegalArgumentException__init_ : Cond.code ⟨"java/lang/IllegalArgumentException", "<init>", "()V"⟩ prog_14_method_1_code 1 none ∈ TS := List.mem_filter.mpr ⟨mt_4 (List.mem_of_getElem? (i := 15) (by show tables_1_4[_]? = _; rfl)), rfl⟩
theorem ml_IllegalArgumentException_1 : Cond.methodLink "java/lang/IllegalArgumentException" 1 ⟨"java/lang/RuntimeException", "<init>", "()V"⟩ ∈ TS := List.mem_filter.mpr ⟨mt_4 (List.mem_of_getElem? (i := 16) (by decide +kernel)), rfl⟩
theorem im_RuntimeException__init_ : Cond.instanceMethod ⟨"java/lang/RuntimeException", "<init>", "()V"⟩ ∈ TS := List.mem_filter.mpr ⟨mt_4 (List.mem_of_getElem? (i := 17) (by decide +kernel)), rfl⟩
set_option maxRecDepth 100000 in
theorem co_RuntimeException__init_ : Cond.code ⟨"java/lang/RuntimeException", "<init>", "()V"⟩ prog_17_method_1_code 1 none ∈ TS := List.mem_filter.mpr ⟨mt_4 (List.mem_of_getElem? (i := 18) (by show tables_1_4[_]? = _; rfl)), rfl⟩
theorem ml_RuntimeException_1 : Cond.methodLink "java/lang/RuntimeException" 1 ⟨"java/lang/Exception", "<init>", "()V"⟩ ∈ TS := List.mem_filter.mpr ⟨mt_4 (List.mem_of_getElem? (i := 19) (by decide +kernel)), rfl⟩
theorem im_Exception__init_ : Cond.instanceMethod ⟨"java/lang/Exception", "<init>", "()V"⟩ ∈ TS := List.mem_filter.mpr ⟨mt_4 (List.mem_of_getElem? (i := 20) (by decide +kernel)), rfl⟩
set_option maxRecDepth 100000 in
theorem co_Exception__init_ : Cond.code ⟨"java/lang/Exception", "<init>", "()V"⟩ prog_13_method_1_code 1 none ∈ TS := List.mem_filter.mpr ⟨mt_4 (List.mem_of_getElem? (i := 21) (by show tables_1_4[_]? = _; rfl)), rfl⟩
theorem ml_Exception_1 : Cond.methodLink "java/lang/Exception" 1 ⟨"java/lang/Throwable", "<init>", "()V"⟩ ∈ TS := List.mem_filter.mpr ⟨mt_4 (List.mem_of_getElem? (i := 22) (by decide +kernel)), rfl⟩
theorem fl_Throwable_7 : Cond.fieldLink "java/lang/Throwable" 7 "java/lang/Throwable" "cause" "Ljava/lang/Throwable;" ∈ TS := List.mem_filter.mpr ⟨mt_4 (List.mem_of_getElem? (i := 24) (by decide +kernel)), rfl⟩
theorem fl_Throwable_17 : Cond.fieldLink "java/lang/Throwable" 17 "java/lang/Throwable" "stackTrace" "[Ljava/lang/StackTraceElement;" ∈ TS := List.mem_filter.mpr ⟨mt_4 (List.mem_of_getElem? (i := 25) (by decide +kernel)), rfl⟩
theorem fl_Throwable_24 : Cond.fieldLink "java/lang/Throwable" 24 "java/lang/Throwable" "suppressedExceptions" "Ljava/util/List;" ∈ TS := List.mem_filter.mpr ⟨mt_4 (List.mem_of_getElem? (i := 26) (by decide +kernel)), rfl⟩
theorem la_IllegalArgumentException_depth : Cond.lays "java/lang/IllegalArgumentException" "java/lang/Throwable" "depth" "I" ∈ TS := List.mem_filter.mpr ⟨mt_4 (List.mem_of_getElem? (i := 31) (by decide +kernel)), rfl⟩
theorem ml_X9_61 : Cond.methodLink RX9 61 yX6_become ∈ TS := List.mem_filter.mpr ⟨mt_4 (List.mem_of_getElem? (i := 35) (by decide +kernel)), rfl⟩
theorem im_X6_become : Cond.instanceMethod yX6_become ∈ TS := List.mem_filter.mpr ⟨mt_4 (List.mem_of_getElem? (i := 36) (by decide +kernel)), rfl⟩
theorem se_X6_X6_become : Cond.selects RX6 yX6_become yX6_become ∈ TS := List.mem_filter.mpr ⟨mt_4 (List.mem_of_getElem? (i := 37) (by decide +kernel)), rfl⟩
set_option maxRecDepth 100000 in
theorem co_X6_become : Cond.code yX6_become cX6_become 4 none ∈ TS := List.mem_filter.mpr ⟨mt_4 (List.mem_of_getElem? (i := 38) (by show tables_1_4[_]? = _; rfl)), rfl⟩
theorem ml_L_60 : Cond.methodLink RL 60 yL_store ∈ TS := List.mem_filter.mpr ⟨mt_4 (List.mem_of_getElem? (i := 39) (by decide +kernel)), rfl⟩
theorem st_L_store : Cond.static yL_store ∈ TS := List.mem_filter.mpr ⟨mt_4 (List.mem_of_getElem? (i := 40) (by decide +kernel)), rfl⟩
set_option maxRecDepth 100000 in
theorem co_L_store : Cond.codeWith yL_store cL_store 5 (some .int) [(0, 7, 10, 13)] ∈ TS := List.mem_filter.mpr ⟨mt_4 (List.mem_of_getElem? (i := 41) (by show tables_1_4[_]? = _; rfl)), rfl⟩
theorem ml_L_15 : Cond.methodLink RL 15 yX9_store ∈ TS := List.mem_filter.mpr ⟨mt_4 (List.mem_of_getElem? (i := 42) (by decide +kernel)), rfl⟩
theorem im_X9_store : Cond.instanceMethod yX9_store ∈ TS := List.mem_filter.mpr ⟨mt_4 (List.mem_of_getElem? (i := 43) (by decide +kernel)), rfl⟩
theorem se_X9_X9_store : Cond.selects RX9 yX9_store yX9_store ∈ TS := List.mem_filter.mpr ⟨mt_4 (List.mem_of_getElem? (i := 44) (by decide +kernel)), rfl⟩
set_option maxRecDepth 100000 in
theorem co_X9_store : Cond.code yX9_store cX9_store 4 none ∈ TS := List.mem_filter.mpr ⟨mt_4 (List.mem_of_getElem? (i := 45) (by show tables_1_4[_]? = _; rfl)), rfl⟩
theorem ml_X9_67 : Cond.methodLink RX9 67 yX9_isCell ∈ TS := List.mem_filter.mpr ⟨mt_4 (List.mem_of_getElem? (i := 46) (by decide +kernel)), rfl⟩
theorem ml_X9_70 : Cond.methodLink RX9 70 yX1_put ∈ TS := List.mem_filter.mpr ⟨mt_4 (List.mem_of_getElem? (i := 47) (by decide +kernel)), rfl⟩
theorem ml_L_67 : Cond.methodLink RL 67 yL_ready ∈ TS := List.mem_filter.mpr ⟨mt_4 (List.mem_of_getElem? (i := 48) (by decide +kernel)), rfl⟩
theorem st_L_ready : Cond.static yL_ready ∈ TS := List.mem_filter.mpr ⟨mt_4 (List.mem_of_getElem? (i := 49) (by decide +kernel)), rfl⟩
set_option maxRecDepth 100000 in
theorem co_L_ready : Cond.codeWith yL_ready cL_ready 5 (some .int) [(0, 7, 10, 13), (0, 7, 14, 22)] ∈ TS := List.mem_filter.mpr ⟨mt_4 (List.mem_of_getElem? (i := 50) (by show tables_1_4[_]? = _; rfl)), rfl⟩
theorem cl_L_22 : Cond.classLink RL 22 "java/lang/IllegalStateException" ∈ TS := List.mem_filter.mpr ⟨mt_4 (List.mem_of_getElem? (i := 51) (by decide +kernel)), rfl⟩
theorem ml_L_19 : Cond.methodLink RL 19 yX9_ready ∈ TS := List.mem_filter.mpr ⟨mt_4 (List.mem_of_getElem? (i := 52) (by decide +kernel)), rfl⟩
theorem im_X9_ready : Cond.instanceMethod yX9_ready ∈ TS := List.mem_filter.mpr ⟨mt_4 (List.mem_of_getElem? (i := 53) (by decide +kernel)), rfl⟩
theorem se_X9_X9_ready : Cond.selects RX9 yX9_ready yX9_ready ∈ TS := List.mem_filter.mpr ⟨mt_4 (List.mem_of_getElem? (i := 54) (by decide +kernel)), rfl⟩
set_option maxRecDepth 100000 in
theorem co_X9_ready : Cond.code yX9_ready cX9_ready 4 none ∈ TS := List.mem_filter.mpr ⟨mt_4 (List.mem_of_getElem? (i := 55) (by show tables_1_4[_]? = _; rfl)), rfl⟩
theorem ml_X9_81 : Cond.methodLink RX9 81 yX9_isNumber ∈ TS := List.mem_filter.mpr ⟨mt_4 (List.mem_of_getElem? (i := 56) (by decide +kernel)), rfl⟩
theorem st_X9_isNumber : Cond.static yX9_isNumber ∈ TS := List.mem_filter.mpr ⟨mt_4 (List.mem_of_getElem? (i := 57) (by decide +kernel)), rfl⟩
set_option maxRecDepth 100000 in
theorem co_X9_isNumber : Cond.code yX9_isNumber cX9_isNumber 1 (some .boolean) ∈ TS := List.mem_filter.mpr ⟨mt_4 (List.mem_of_getElem? (i := 58) (by show tables_1_4[_]? = _; rfl)), rfl⟩
theorem ml_X9_88 : Cond.methodLink RX9 88 yX9_requireState ∈ TS := List.mem_filter.mpr ⟨mt_4 (List.mem_of_getElem? (i := 59) (by decide +kernel)), rfl⟩
theorem st_X9_requireState : Cond.static yX9_requireState ∈ TS := List.mem_filter.mpr ⟨mt_4 (List.mem_of_getElem? (i := 60) (by decide +kernel)), rfl⟩
set_option maxRecDepth 100000 in
theorem co_X9_requireState : Cond.code yX9_requireState cX9_requireState 1 none ∈ TS := List.mem_filter.mpr ⟨mt_4 (List.mem_of_getElem? (i := 61) (by show tables_1_4[_]? = _; rfl)), rfl⟩
theorem cl_X9_191 : Cond.classLink RX9 191 "java/lang/IllegalStateException" ∈ TS := List.mem_filter.mpr ⟨mt_4 (List.mem_of_getElem? (i := 62) (by decide +kernel)), rfl⟩
theorem ia_IllegalStateException : Cond.instantiable "java/lang/IllegalStateException" 6 ∈ TS := List.mem_filter.mpr ⟨mt_4 (List.mem_of_getElem? (i := 63) (by decide +kernel)), rfl⟩
theorem ca_IllegalStateException_IllegalStateException : Cond.castable "java/lang/IllegalStateException" "java/lang/IllegalStateException" ∈ TS := List.mem_filter.mpr ⟨mt_4 (List.mem_of_getElem? (i := 64) (by decide +kernel)), rfl⟩
theorem la_IllegalStateException_cause : Cond.lays "java/lang/IllegalStateException" "java/lang/Throwable" "cause" "Ljava/lang/Throwable;" ∈ TS := List.mem_filter.mpr ⟨mt_4 (List.mem_of_getElem? (i := 66) (by decide +kernel)), rfl⟩
theorem la_IllegalStateException_stackTrace : Cond.lays "java/lang/IllegalStateException" "java/lang/Throwable" "stackTrace" "[Ljava/lang/StackTraceElement;" ∈ TS := List.mem_filter.mpr ⟨mt_4 (List.mem_of_getElem? (i := 67) (by decide +kernel)), rfl⟩
theorem la_IllegalStateException_suppressedExceptions : Cond.lays "java/lang/IllegalStateException" "java/lang/Throwable" "suppressedExceptions" "Ljava/util/List;" ∈ TS := List.mem_filter.mpr ⟨mt_4 (List.mem_of_getElem? (i := 68) (by decide +kernel)), rfl⟩
theorem la_IllegalStateException_detailMessage : Cond.lays "java/lang/IllegalStateException" "java/lang/Throwable" "detailMessage" "Ljava/lang/String;" ∈ TS := List.mem_filter.mpr ⟨mt_4 (List.mem_of_getElem? (i := 69) (by decide +kernel)), rfl⟩
theorem la_IllegalStateException_backtrace : Cond.lays "java/lang/IllegalStateException" "java/lang/Throwable" "backtrace" "Ljava/lang/Object;" ∈ TS := List.mem_filter.mpr ⟨mt_4 (List.mem_of_getElem? (i := 70) (by decide +kernel)), rfl⟩
theorem ml_X9_193 : Cond.methodLink RX9 193 ⟨"java/lang/IllegalStateException", "<init>", "()V"⟩ ∈ TS := List.mem_filter.mpr ⟨mt_4 (List.mem_of_getElem? (i := 71) (by decide +kernel)), rfl⟩
theorem im_IllegalStateException__init_ : Cond.instanceMethod ⟨"java/lang/IllegalStateException", "<init>", "()V"⟩ ∈ TS := List.mem_filter.mpr ⟨mt_4 (List.mem_of_getElem? (i := 72) (by decide +kernel)), rfl⟩
set_option maxRecDepth 100000 in
theorem co_IllegalStateException__init_ : Cond.code ⟨"java/lang/IllegalStateException", "<init>", "()V"⟩ prog_15_method_1_code 1 none ∈ TS := List.mem_filter.mpr ⟨mt_4 (List.mem_of_getElem? (i := 73) (by show tables_1_4[_]? = _; rfl)), rfl⟩
theorem ml_IllegalStateException_1 : Cond.methodLink "java/lang/IllegalStateException" 1 ⟨"java/lang/RuntimeException", "<init>", "()V"⟩ ∈ TS := List.mem_filter.mpr ⟨mt_4 (List.mem_of_getElem? (i := 74) (by decide +kernel)), rfl⟩
theorem la_IllegalStateException_depth : Cond.lays "java/lang/IllegalStateException" "java/lang/Throwable" "depth" "I" ∈ TS := List.mem_filter.mpr ⟨mt_4 (List.mem_of_getElem? (i := 75) (by decide +kernel)), rfl⟩
theorem ml_X9_91 : Cond.methodLink RX9 91 yX3_start ∈ TS := List.mem_filter.mpr ⟨mt_4 (List.mem_of_getElem? (i := 77) (by decide +kernel)), rfl⟩
theorem im_X3_start : Cond.instanceMethod yX3_start ∈ TS := List.mem_filter.mpr ⟨mt_4 (List.mem_of_getElem? (i := 78) (by decide +kernel)), rfl⟩
theorem se_X3_X3_start : Cond.selects RX3 yX3_start yX3_start ∈ TS := List.mem_filter.mpr ⟨mt_4 (List.mem_of_getElem? (i := 79) (by decide +kernel)), rfl⟩
set_option maxRecDepth 100000 in
theorem co_X3_start : Cond.code yX3_start cX3_start 3 none ∈ TS := List.mem_filter.mpr ⟨mt_4 (List.mem_of_getElem? (i := 80) (by show tables_1_4[_]? = _; rfl)), rfl⟩
theorem ml_X3_31 : Cond.methodLink RX3 31 yX7_start ∈ TS := List.mem_filter.mpr ⟨mt_4 (List.mem_of_getElem? (i := 81) (by decide +kernel)), rfl⟩
theorem ml_L_75 : Cond.methodLink RL 75 yL_send ∈ TS := List.mem_filter.mpr ⟨mt_4 (List.mem_of_getElem? (i := 82) (by decide +kernel)), rfl⟩
theorem st_L_send : Cond.static yL_send ∈ TS := List.mem_filter.mpr ⟨mt_4 (List.mem_of_getElem? (i := 83) (by decide +kernel)), rfl⟩
set_option maxRecDepth 100000 in
theorem co_L_send : Cond.codeWith yL_send cL_send 6 (some .int) [(0, 12, 15, 13), (0, 12, 19, 22)] ∈ TS := List.mem_filter.mpr ⟨mt_4 (List.mem_of_getElem? (i := 84) (by show tables_1_4[_]? = _; rfl)), rfl⟩
theorem ml_L_24 : Cond.methodLink RL 24 yX9_send ∈ TS := List.mem_filter.mpr ⟨mt_4 (List.mem_of_getElem? (i := 85) (by decide +kernel)), rfl⟩
theorem im_X9_send : Cond.instanceMethod yX9_send ∈ TS := List.mem_filter.mpr ⟨mt_4 (List.mem_of_getElem? (i := 86) (by decide +kernel)), rfl⟩
theorem se_X9_X9_send : Cond.selects RX9 yX9_send yX9_send ∈ TS := List.mem_filter.mpr ⟨mt_4 (List.mem_of_getElem? (i := 87) (by decide +kernel)), rfl⟩
set_option maxRecDepth 100000 in
theorem co_X9_send : Cond.code yX9_send cX9_send 4 (some .int) ∈ TS := List.mem_filter.mpr ⟨mt_4 (List.mem_of_getElem? (i := 88) (by show tables_1_4[_]? = _; rfl)), rfl⟩
theorem ml_X9_97 : Cond.methodLink RX9 97 yX9_areCells ∈ TS := List.mem_filter.mpr ⟨mt_4 (List.mem_of_getElem? (i := 89) (by decide +kernel)), rfl⟩
theorem st_X9_areCells : Cond.static yX9_areCells ∈ TS := List.mem_filter.mpr ⟨mt_4 (List.mem_of_getElem? (i := 90) (by decide +kernel)), rfl⟩
set_option maxRecDepth 100000 in
theorem co_X9_areCells : Cond.code yX9_areCells cX9_areCells 2 (some .boolean) ∈ TS := List.mem_filter.mpr ⟨mt_4 (List.mem_of_getElem? (i := 91) (by show tables_1_4[_]? = _; rfl)), rfl⟩
theorem ml_X9_101 : Cond.methodLink RX9 101 yX3_takesRequests ∈ TS := List.mem_filter.mpr ⟨mt_4 (List.mem_of_getElem? (i := 92) (by decide +kernel)), rfl⟩
theorem im_X3_takesRequests : Cond.instanceMethod yX3_takesRequests ∈ TS := List.mem_filter.mpr ⟨mt_4 (List.mem_of_getElem? (i := 93) (by decide +kernel)), rfl⟩
theorem se_X3_X3_takesRequests : Cond.selects RX3 yX3_takesRequests yX3_takesRequests ∈ TS := List.mem_filter.mpr ⟨mt_4 (List.mem_of_getElem? (i := 94) (by decide +kernel)), rfl⟩
set_option maxRecDepth 100000 in
theorem co_X3_takesRequests : Cond.code yX3_takesRequests cX3_takesRequests 1 (some .boolean) ∈ TS := List.mem_filter.mpr ⟨mt_4 (List.mem_of_getElem? (i := 95) (by show tables_1_4[_]? = _; rfl)), rfl⟩
theorem ml_X3_42 : Cond.methodLink RX3 42 yX5_isFull ∈ TS := List.mem_filter.mpr ⟨mt_4 (List.mem_of_getElem? (i := 96) (by decide +kernel)), rfl⟩
theorem im_X5_isFull : Cond.instanceMethod yX5_isFull ∈ TS := List.mem_filter.mpr ⟨mt_4 (List.mem_of_getElem? (i := 97) (by decide +kernel)), rfl⟩
theorem se_X5_X5_isFull : Cond.selects RX5 yX5_isFull yX5_isFull ∈ TS := List.mem_filter.mpr ⟨mt_4 (List.mem_of_getElem? (i := 98) (by decide +kernel)), rfl⟩
set_option maxRecDepth 100000 in
theorem co_X5_isFull : Cond.code yX5_isFull cX5_isFull 1 (some .boolean) ∈ TS := List.mem_filter.mpr ⟨mt_4 (List.mem_of_getElem? (i := 99) (by show tables_1_4[_]? = _; rfl)), rfl⟩
theorem ml_X9_109 : Cond.methodLink RX9 109 yX7_post ∈ TS := List.mem_filter.mpr ⟨mt_4 (List.mem_of_getElem? (i := 100) (by decide +kernel)), rfl⟩
theorem im_X7_post : Cond.instanceMethod yX7_post ∈ TS := List.mem_filter.mpr ⟨mt_4 (List.mem_of_getElem? (i := 101) (by decide +kernel)), rfl⟩
theorem se_X7_X7_post : Cond.selects RX7 yX7_post yX7_post ∈ TS := List.mem_filter.mpr ⟨mt_4 (List.mem_of_getElem? (i := 102) (by decide +kernel)), rfl⟩
set_option maxRecDepth 100000 in
theorem co_X7_post : Cond.code yX7_post cX7_post 8 (some .int) ∈ TS := List.mem_filter.mpr ⟨mt_4 (List.mem_of_getElem? (i := 103) (by show tables_1_4[_]? = _; rfl)), rfl⟩
theorem ml_X7_74 : Cond.methodLink RX7 74 yX5_append ∈ TS := List.mem_filter.mpr ⟨mt_4 (List.mem_of_getElem? (i := 104) (by decide +kernel)), rfl⟩
theorem im_X5_append : Cond.instanceMethod yX5_append ∈ TS := List.mem_filter.mpr ⟨mt_4 (List.mem_of_getElem? (i := 105) (by decide +kernel)), rfl⟩
theorem se_X5_X5_append : Cond.selects RX5 yX5_append yX5_append ∈ TS := List.mem_filter.mpr ⟨mt_4 (List.mem_of_getElem? (i := 106) (by decide +kernel)), rfl⟩
set_option maxRecDepth 100000 in
theorem co_X5_append : Cond.code yX5_append cX5_append 5 (some (.object "RemoteReach$Posted")) ∈ TS := List.mem_filter.mpr ⟨mt_4 (List.mem_of_getElem? (i := 107) (by show tables_1_4[_]? = _; rfl)), rfl⟩
theorem mn_X7_83 : Cond.methodLinkNest RX7 83 yX9_numbersFor RX9 ∈ TS := List.mem_filter.mpr ⟨mt_4 (List.mem_of_getElem? (i := 108) (by decide +kernel)), rfl⟩
theorem ml_L_83 : Cond.methodLink RL 83 yL_move ∈ TS := List.mem_filter.mpr ⟨mt_4 (List.mem_of_getElem? (i := 109) (by decide +kernel)), rfl⟩
theorem st_L_move : Cond.static yL_move ∈ TS := List.mem_filter.mpr ⟨mt_4 (List.mem_of_getElem? (i := 110) (by decide +kernel)), rfl⟩
set_option maxRecDepth 100000 in
theorem co_L_move : Cond.codeWith yL_move cL_move 9 (some .int) [(0, 18, 21, 13), (0, 18, 25, 22)] ∈ TS := List.mem_filter.mpr ⟨mt_4 (List.mem_of_getElem? (i := 111) (by show tables_1_4[_]? = _; rfl)), rfl⟩
theorem ml_L_28 : Cond.methodLink RL 28 yX9_move ∈ TS := List.mem_filter.mpr ⟨mt_4 (List.mem_of_getElem? (i := 112) (by decide +kernel)), rfl⟩
theorem im_X9_move : Cond.instanceMethod yX9_move ∈ TS := List.mem_filter.mpr ⟨mt_4 (List.mem_of_getElem? (i := 113) (by decide +kernel)), rfl⟩
theorem se_X9_X9_move : Cond.selects RX9 yX9_move yX9_move ∈ TS := List.mem_filter.mpr ⟨mt_4 (List.mem_of_getElem? (i := 114) (by decide +kernel)), rfl⟩
set_option maxRecDepth 100000 in
theorem co_X9_move : Cond.code yX9_move cX9_move 7 (some .int) ∈ TS := List.mem_filter.mpr ⟨mt_4 (List.mem_of_getElem? (i := 115) (by show tables_1_4[_]? = _; rfl)), rfl⟩
theorem ml_L_87 : Cond.methodLink RL 87 yL_add ∈ TS := List.mem_filter.mpr ⟨mt_4 (List.mem_of_getElem? (i := 116) (by decide +kernel)), rfl⟩
theorem st_L_add : Cond.static yL_add ∈ TS := List.mem_filter.mpr ⟨mt_4 (List.mem_of_getElem? (i := 117) (by decide +kernel)), rfl⟩
set_option maxRecDepth 100000 in
theorem co_L_add : Cond.codeWith yL_add cL_add 8 (some .int) [(0, 16, 19, 13), (0, 16, 23, 22)] ∈ TS := List.mem_filter.mpr ⟨mt_4 (List.mem_of_getElem? (i := 118) (by show tables_1_4[_]? = _; rfl)), rfl⟩
theorem ml_L_32 : Cond.methodLink RL 32 yX9_add ∈ TS := List.mem_filter.mpr ⟨mt_4 (List.mem_of_getElem? (i := 119) (by decide +kernel)), rfl⟩
theorem im_X9_add : Cond.instanceMethod yX9_add ∈ TS := List.mem_filter.mpr ⟨mt_4 (List.mem_of_getElem? (i := 120) (by decide +kernel)), rfl⟩
theorem se_X9_X9_add : Cond.selects RX9 yX9_add yX9_add ∈ TS := List.mem_filter.mpr ⟨mt_4 (List.mem_of_getElem? (i := 121) (by decide +kernel)), rfl⟩
set_option maxRecDepth 100000 in
theorem co_X9_add : Cond.code yX9_add cX9_add 6 (some .int) ∈ TS := List.mem_filter.mpr ⟨mt_4 (List.mem_of_getElem? (i := 122) (by show tables_1_4[_]? = _; rfl)), rfl⟩
theorem ml_L_91 : Cond.methodLink RL 91 yL_receive ∈ TS := List.mem_filter.mpr ⟨mt_4 (List.mem_of_getElem? (i := 123) (by decide +kernel)), rfl⟩
theorem st_L_receive : Cond.static yL_receive ∈ TS := List.mem_filter.mpr ⟨mt_4 (List.mem_of_getElem? (i := 124) (by decide +kernel)), rfl⟩
set_option maxRecDepth 100000 in
theorem co_L_receive : Cond.codeWith yL_receive cL_receive 6 (some .int) [(0, 12, 15, 13), (0, 12, 19, 22)] ∈ TS := List.mem_filter.mpr ⟨mt_4 (List.mem_of_getElem? (i := 125) (by show tables_1_4[_]? = _; rfl)), rfl⟩
theorem ml_L_36 : Cond.methodLink RL 36 yX9_receive ∈ TS := List.mem_filter.mpr ⟨mt_4 (List.mem_of_getElem? (i := 126) (by decide +kernel)), rfl⟩
theorem im_X9_receive : Cond.instanceMethod yX9_receive ∈ TS := List.mem_filter.mpr ⟨mt_4 (List.mem_of_getElem? (i := 127) (by decide +kernel)), rfl⟩
theorem se_X9_X9_receive : Cond.selects RX9 yX9_receive yX9_receive ∈ TS := List.mem_filter.mpr ⟨mt_4 (List.mem_of_getElem? (i := 128) (by decide +kernel)), rfl⟩
set_option maxRecDepth 100000 in
theorem co_X9_receive : Cond.code yX9_receive cX9_receive 4 (some .int) ∈ TS := List.mem_filter.mpr ⟨mt_4 (List.mem_of_getElem? (i := 129) (by show tables_1_4[_]? = _; rfl)), rfl⟩
theorem ml_X9_113 : Cond.methodLink RX9 113 yX3_takesReceives ∈ TS := List.mem_filter.mpr ⟨mt_4 (List.mem_of_getElem? (i := 130) (by decide +kernel)), rfl⟩
theorem im_X3_takesReceives : Cond.instanceMethod yX3_takesReceives ∈ TS := List.mem_filter.mpr ⟨mt_4 (List.mem_of_getElem? (i := 131) (by decide +kernel)), rfl⟩
theorem se_X3_X3_takesReceives : Cond.selects RX3 yX3_takesReceives yX3_takesReceives ∈ TS := List.mem_filter.mpr ⟨mt_4 (List.mem_of_getElem? (i := 132) (by decide +kernel)), rfl⟩
set_option maxRecDepth 100000 in
theorem co_X3_takesReceives : Cond.code yX3_takesReceives cX3_takesReceives 1 (some .boolean) ∈ TS := List.mem_filter.mpr ⟨mt_4 (List.mem_of_getElem? (i := 133) (by show tables_1_4[_]? = _; rfl)), rfl⟩
theorem ml_X9_124 : Cond.methodLink RX9 124 yX5_append ∈ TS := List.mem_filter.mpr ⟨mt_4 (List.mem_of_getElem? (i := 134) (by decide +kernel)), rfl⟩
theorem ml_L_128 : Cond.methodLink RL 128 yL_poll ∈ TS := List.mem_filter.mpr ⟨mt_4 (List.mem_of_getElem? (i := 135) (by decide +kernel)), rfl⟩
theorem st_L_poll : Cond.static yL_poll ∈ TS := List.mem_filter.mpr ⟨mt_4 (List.mem_of_getElem? (i := 136) (by decide +kernel)), rfl⟩
set_option maxRecDepth 100000 in
theorem co_L_poll : Cond.codeWith yL_poll cL_poll 5 (some .int) [(0, 10, 13, 13), (0, 10, 17, 43)] ∈ TS := List.mem_filter.mpr ⟨mt_4 (List.mem_of_getElem? (i := 137) (by show tables_1_4[_]? = _; rfl)), rfl⟩
theorem cl_L_43 : Cond.classLink RL 43 "java/util/NoSuchElementException" ∈ TS := List.mem_filter.mpr ⟨mt_4 (List.mem_of_getElem? (i := 138) (by decide +kernel)), rfl⟩
theorem ml_L_39 : Cond.methodLink RL 39 yX9_poll ∈ TS := List.mem_filter.mpr ⟨mt_4 (List.mem_of_getElem? (i := 139) (by decide +kernel)), rfl⟩
theorem im_X9_poll : Cond.instanceMethod yX9_poll ∈ TS := List.mem_filter.mpr ⟨mt_4 (List.mem_of_getElem? (i := 140) (by decide +kernel)), rfl⟩
theorem se_X9_X9_poll : Cond.selects RX9 yX9_poll yX9_poll ∈ TS := List.mem_filter.mpr ⟨mt_4 (List.mem_of_getElem? (i := 141) (by decide +kernel)), rfl⟩
set_option maxRecDepth 100000 in
theorem co_X9_poll : Cond.code yX9_poll cX9_poll 3 (some .int) ∈ TS := List.mem_filter.mpr ⟨mt_4 (List.mem_of_getElem? (i := 142) (by show tables_1_4[_]? = _; rfl)), rfl⟩
theorem cl_X9_179 : Cond.classLink RX9 179 "java/util/NoSuchElementException" ∈ TS := List.mem_filter.mpr ⟨mt_4 (List.mem_of_getElem? (i := 143) (by decide +kernel)), rfl⟩
theorem ia_NoSuchElementException : Cond.instantiable "java/util/NoSuchElementException" 6 ∈ TS := List.mem_filter.mpr ⟨mt_4 (List.mem_of_getElem? (i := 144) (by decide +kernel)), rfl⟩
theorem ca_NoSuchElementException_NoSuchElementException : Cond.castable "java/util/NoSuchElementException" "java/util/NoSuchElementException" ∈ TS := List.mem_filter.mpr ⟨mt_4 (List.mem_of_getElem? (i := 145) (by decide +kernel)), rfl⟩
theorem la_NoSuchElementException_cause : Cond.lays "java/util/NoSuchElementException" "java/lang/Throwable" "cause" "Ljava/lang/Throwable;" ∈ TS := List.mem_filter.mpr ⟨mt_4 (List.mem_of_getElem? (i := 147) (by decide +kernel)), rfl⟩
theorem la_NoSuchElementException_stackTrace : Cond.lays "java/util/NoSuchElementException" "java/lang/Throwable" "stackTrace" "[Ljava/lang/StackTraceElement;" ∈ TS := List.mem_filter.mpr ⟨mt_4 (List.mem_of_getElem? (i := 148) (by decide +kernel)), rfl⟩
theorem la_NoSuchElementException_suppressedExceptions : Cond.lays "java/util/NoSuchElementException" "java/lang/Throwable" "suppressedExceptions" "Ljava/util/List;" ∈ TS := List.mem_filter.mpr ⟨mt_4 (List.mem_of_getElem? (i := 149) (by decide +kernel)), rfl⟩
theorem la_NoSuchElementException_detailMessage : Cond.lays "java/util/NoSuchElementException" "java/lang/Throwable" "detailMessage" "Ljava/lang/String;" ∈ TS := List.mem_filter.mpr ⟨mt_4 (List.mem_of_getElem? (i := 150) (by decide +kernel)), rfl⟩
theorem la_NoSuchElementException_backtrace : Cond.lays "java/util/NoSuchElementException" "java/lang/Throwable" "backtrace" "Ljava/lang/Object;" ∈ TS := List.mem_filter.mpr ⟨mt_4 (List.mem_of_getElem? (i := 151) (by decide +kernel)), rfl⟩
theorem ml_X9_181 : Cond.methodLink RX9 181 ⟨"java/util/NoSuchElementException", "<init>", "()V"⟩ ∈ TS := List.mem_filter.mpr ⟨mt_4 (List.mem_of_getElem? (i := 152) (by decide +kernel)), rfl⟩
theorem im_NoSuchElementException__init_ : Cond.instanceMethod ⟨"java/util/NoSuchElementException", "<init>", "()V"⟩ ∈ TS := List.mem_filter.mpr ⟨mt_4 (List.mem_of_getElem? (i := 153) (by decide +kernel)), rfl⟩
set_option maxRecDepth 100000 in
theorem co_NoSuchElementException__init_ : Cond.code ⟨"java/util/NoSuchElementException", "<init>", "()V"⟩ prog_19_method_1_code 1 none ∈ TS := List.mem_filter.mpr ⟨mt_4 (List.mem_of_getElem? (i := 154) (by show tables_1_4[_]? = _; rfl)), rfl⟩
theorem ml_NoSuchElementException_1 : Cond.methodLink "java/util/NoSuchElementException" 1 ⟨"java/lang/RuntimeException", "<init>", "()V"⟩ ∈ TS := List.mem_filter.mpr ⟨mt_4 (List.mem_of_getElem? (i := 155) (by decide +kernel)), rfl⟩
theorem la_NoSuchElementException_depth : Cond.lays "java/util/NoSuchElementException" "java/lang/Throwable" "depth" "I" ∈ TS := List.mem_filter.mpr ⟨mt_4 (List.mem_of_getElem? (i := 156) (by decide +kernel)), rfl⟩
theorem ml_X9_182 : Cond.methodLink RX9 182 yX1_tellFirst ∈ TS := List.mem_filter.mpr ⟨mt_4 (List.mem_of_getElem? (i := 158) (by decide +kernel)), rfl⟩
theorem im_X1_tellFirst : Cond.instanceMethod yX1_tellFirst ∈ TS := List.mem_filter.mpr ⟨mt_4 (List.mem_of_getElem? (i := 159) (by decide +kernel)), rfl⟩
theorem se_X1_X1_tellFirst : Cond.selects RX1 yX1_tellFirst yX1_tellFirst ∈ TS := List.mem_filter.mpr ⟨mt_4 (List.mem_of_getElem? (i := 160) (by decide +kernel)), rfl⟩
set_option maxRecDepth 100000 in
theorem co_X1_tellFirst : Cond.code yX1_tellFirst cX1_tellFirst 2 (some .int) ∈ TS := List.mem_filter.mpr ⟨mt_4 (List.mem_of_getElem? (i := 161) (by show tables_1_4[_]? = _; rfl)), rfl⟩
theorem ml_X9_185 : Cond.methodLink RX9 185 yX1_dropFirst ∈ TS := List.mem_filter.mpr ⟨mt_4 (List.mem_of_getElem? (i := 162) (by decide +kernel)), rfl⟩
theorem im_X1_dropFirst : Cond.instanceMethod yX1_dropFirst ∈ TS := List.mem_filter.mpr ⟨mt_4 (List.mem_of_getElem? (i := 163) (by decide +kernel)), rfl⟩
theorem se_X1_X1_dropFirst : Cond.selects RX1 yX1_dropFirst yX1_dropFirst ∈ TS := List.mem_filter.mpr ⟨mt_4 (List.mem_of_getElem? (i := 164) (by decide +kernel)), rfl⟩
set_option maxRecDepth 100000 in
theorem co_X1_dropFirst : Cond.code yX1_dropFirst cX1_dropFirst 1 none ∈ TS := List.mem_filter.mpr ⟨mt_4 (List.mem_of_getElem? (i := 165) (by show tables_1_4[_]? = _; rfl)), rfl⟩
theorem cl_L_53 : Cond.classLink RL 53 RX10 ∈ TS := List.mem_filter.mpr ⟨mt_4 (List.mem_of_getElem? (i := 166) (by decide +kernel)), rfl⟩
theorem ia_X10 : Cond.instantiable RX10 49 ∈ TS := List.mem_filter.mpr ⟨mt_4 (List.mem_of_getElem? (i := 167) (by decide +kernel)), rfl⟩
theorem ml_L_55 : Cond.methodLink RL 55 yX10_init ∈ TS := List.mem_filter.mpr ⟨mt_4 (List.mem_of_getElem? (i := 168) (by decide +kernel)), rfl⟩
theorem im_X10_init : Cond.instanceMethod yX10_init ∈ TS := List.mem_filter.mpr ⟨mt_4 (List.mem_of_getElem? (i := 169) (by decide +kernel)), rfl⟩
set_option maxRecDepth 100000 in
theorem co_X10_init : Cond.code yX10_init cX10_init 4 none ∈ TS := List.mem_filter.mpr ⟨mt_4 (List.mem_of_getElem? (i := 170) (by show tables_1_4[_]? = _; rfl)), rfl⟩
theorem ml_X10_1 : Cond.methodLink RX10 1 ⟨"java/lang/Object", "<init>", "()V"⟩ ∈ TS := List.mem_filter.mpr ⟨mt_4 (List.mem_of_getElem? (i := 171) (by decide +kernel)), rfl⟩
theorem fl_X10_143 : Cond.fieldLink RX10 143 "RemoteReachModel" "timeout" "I" ∈ TS := List.mem_filter.mpr ⟨mt_4 (List.mem_of_getElem? (i := 172) (by decide +kernel)), rfl⟩
theorem fl_X10_147 : Cond.fieldLink RX10 147 "RemoteReachModel" "mostTries" "I" ∈ TS := List.mem_filter.mpr ⟨mt_4 (List.mem_of_getElem? (i := 173) (by decide +kernel)), rfl⟩
theorem fl_X10_150 : Cond.fieldLink RX10 150 "RemoteReachModel" "mostRefusals" "I" ∈ TS := List.mem_filter.mpr ⟨mt_4 (List.mem_of_getElem? (i := 174) (by decide +kernel)), rfl⟩
theorem fl_X10_153 : Cond.fieldLink RX10 153 "RemoteReachModel" "code" "I" ∈ TS := List.mem_filter.mpr ⟨mt_4 (List.mem_of_getElem? (i := 175) (by decide +kernel)), rfl⟩
theorem fl_X10_7 : Cond.fieldLink RX10 7 "RemoteReachModel" "memory" "[I" ∈ TS := List.mem_filter.mpr ⟨mt_4 (List.mem_of_getElem? (i := 176) (by decide +kernel)), rfl⟩
theorem fl_X10_13 : Cond.fieldLink RX10 13 "RemoteReachModel" "base" "[I" ∈ TS := List.mem_filter.mpr ⟨mt_4 (List.mem_of_getElem? (i := 177) (by decide +kernel)), rfl⟩
theorem fl_X10_16 : Cond.fieldLink RX10 16 "RemoteReachModel" "span" "[I" ∈ TS := List.mem_filter.mpr ⟨mt_4 (List.mem_of_getElem? (i := 178) (by decide +kernel)), rfl⟩
theorem fl_X10_19 : Cond.fieldLink RX10 19 "RemoteReachModel" "rights" "[I" ∈ TS := List.mem_filter.mpr ⟨mt_4 (List.mem_of_getElem? (i := 179) (by decide +kernel)), rfl⟩
theorem fl_X10_22 : Cond.fieldLink RX10 22 "RemoteReachModel" "done" "[I" ∈ TS := List.mem_filter.mpr ⟨mt_4 (List.mem_of_getElem? (i := 180) (by decide +kernel)), rfl⟩
theorem fl_X10_25 : Cond.fieldLink RX10 25 "RemoteReachModel" "ends" "[I" ∈ TS := List.mem_filter.mpr ⟨mt_4 (List.mem_of_getElem? (i := 181) (by decide +kernel)), rfl⟩
theorem fl_X10_28 : Cond.fieldLink RX10 28 "RemoteReachModel" "state" "[I" ∈ TS := List.mem_filter.mpr ⟨mt_4 (List.mem_of_getElem? (i := 182) (by decide +kernel)), rfl⟩
theorem fl_X10_31 : Cond.fieldLink RX10 31 "RemoteReachModel" "following" "[I" ∈ TS := List.mem_filter.mpr ⟨mt_4 (List.mem_of_getElem? (i := 183) (by decide +kernel)), rfl⟩
theorem fl_X10_34 : Cond.fieldLink RX10 34 "RemoteReachModel" "oldest" "[I" ∈ TS := List.mem_filter.mpr ⟨mt_4 (List.mem_of_getElem? (i := 184) (by decide +kernel)), rfl⟩
theorem fl_X10_37 : Cond.fieldLink RX10 37 "RemoteReachModel" "cursor" "[I" ∈ TS := List.mem_filter.mpr ⟨mt_4 (List.mem_of_getElem? (i := 185) (by decide +kernel)), rfl⟩
theorem fl_X10_40 : Cond.fieldLink RX10 40 "RemoteReachModel" "expected" "[I" ∈ TS := List.mem_filter.mpr ⟨mt_4 (List.mem_of_getElem? (i := 186) (by decide +kernel)), rfl⟩
theorem fl_X10_43 : Cond.fieldLink RX10 43 "RemoteReachModel" "clock" "[I" ∈ TS := List.mem_filter.mpr ⟨mt_4 (List.mem_of_getElem? (i := 187) (by decide +kernel)), rfl⟩
theorem fl_X10_46 : Cond.fieldLink RX10 46 "RemoteReachModel" "tries" "[I" ∈ TS := List.mem_filter.mpr ⟨mt_4 (List.mem_of_getElem? (i := 188) (by decide +kernel)), rfl⟩
theorem fl_X10_49 : Cond.fieldLink RX10 49 "RemoteReachModel" "refusals" "[I" ∈ TS := List.mem_filter.mpr ⟨mt_4 (List.mem_of_getElem? (i := 189) (by decide +kernel)), rfl⟩
theorem fl_X10_52 : Cond.fieldLink RX10 52 "RemoteReachModel" "resting" "[Z" ∈ TS := List.mem_filter.mpr ⟨mt_4 (List.mem_of_getElem? (i := 190) (by decide +kernel)), rfl⟩
theorem fl_X10_56 : Cond.fieldLink RX10 56 "RemoteReachModel" "nakked" "[Z" ∈ TS := List.mem_filter.mpr ⟨mt_4 (List.mem_of_getElem? (i := 191) (by decide +kernel)), rfl⟩
theorem fl_X10_59 : Cond.fieldLink RX10 59 "RemoteReachModel" "requests" "[I" ∈ TS := List.mem_filter.mpr ⟨mt_4 (List.mem_of_getElem? (i := 192) (by decide +kernel)), rfl⟩
theorem fl_X10_62 : Cond.fieldLink RX10 62 "RemoteReachModel" "serials" "[I" ∈ TS := List.mem_filter.mpr ⟨mt_4 (List.mem_of_getElem? (i := 193) (by decide +kernel)), rfl⟩
theorem fl_X10_65 : Cond.fieldLink RX10 65 "RemoteReachModel" "rKind" "[I" ∈ TS := List.mem_filter.mpr ⟨mt_4 (List.mem_of_getElem? (i := 194) (by decide +kernel)), rfl⟩
theorem fl_X10_68 : Cond.fieldLink RX10 68 "RemoteReachModel" "rHere" "[I" ∈ TS := List.mem_filter.mpr ⟨mt_4 (List.mem_of_getElem? (i := 195) (by decide +kernel)), rfl⟩
theorem fl_X10_71 : Cond.fieldLink RX10 71 "RemoteReachModel" "rSize" "[I" ∈ TS := List.mem_filter.mpr ⟨mt_4 (List.mem_of_getElem? (i := 196) (by decide +kernel)), rfl⟩
theorem fl_X10_74 : Cond.fieldLink RX10 74 "RemoteReachModel" "rRegion" "[I" ∈ TS := List.mem_filter.mpr ⟨mt_4 (List.mem_of_getElem? (i := 197) (by decide +kernel)), rfl⟩
theorem fl_X10_77 : Cond.fieldLink RX10 77 "RemoteReachModel" "rPlace" "[I" ∈ TS := List.mem_filter.mpr ⟨mt_4 (List.mem_of_getElem? (i := 198) (by decide +kernel)), rfl⟩
theorem fl_X10_80 : Cond.fieldLink RX10 80 "RemoteReachModel" "rValue" "[I" ∈ TS := List.mem_filter.mpr ⟨mt_4 (List.mem_of_getElem? (i := 199) (by decide +kernel)), rfl⟩
theorem fl_X10_83 : Cond.fieldLink RX10 83 "RemoteReachModel" "rSerial" "[I" ∈ TS := List.mem_filter.mpr ⟨mt_4 (List.mem_of_getElem? (i := 200) (by decide +kernel)), rfl⟩
theorem fl_X10_86 : Cond.fieldLink RX10 86 "RemoteReachModel" "rFirst" "[I" ∈ TS := List.mem_filter.mpr ⟨mt_4 (List.mem_of_getElem? (i := 201) (by decide +kernel)), rfl⟩
theorem fl_X10_89 : Cond.fieldLink RX10 89 "RemoteReachModel" "receives" "[I" ∈ TS := List.mem_filter.mpr ⟨mt_4 (List.mem_of_getElem? (i := 202) (by decide +kernel)), rfl⟩
theorem fl_X10_92 : Cond.fieldLink RX10 92 "RemoteReachModel" "receiveSerials" "[I" ∈ TS := List.mem_filter.mpr ⟨mt_4 (List.mem_of_getElem? (i := 203) (by decide +kernel)), rfl⟩
theorem fl_X10_95 : Cond.fieldLink RX10 95 "RemoteReachModel" "vHere" "[I" ∈ TS := List.mem_filter.mpr ⟨mt_4 (List.mem_of_getElem? (i := 204) (by decide +kernel)), rfl⟩
theorem fl_X10_98 : Cond.fieldLink RX10 98 "RemoteReachModel" "vSize" "[I" ∈ TS := List.mem_filter.mpr ⟨mt_4 (List.mem_of_getElem? (i := 205) (by decide +kernel)), rfl⟩
theorem fl_X10_101 : Cond.fieldLink RX10 101 "RemoteReachModel" "vSerial" "[I" ∈ TS := List.mem_filter.mpr ⟨mt_4 (List.mem_of_getElem? (i := 206) (by decide +kernel)), rfl⟩
theorem fl_X10_104 : Cond.fieldLink RX10 104 "RemoteReachModel" "vCame" "[I" ∈ TS := List.mem_filter.mpr ⟨mt_4 (List.mem_of_getElem? (i := 207) (by decide +kernel)), rfl⟩
theorem fl_X10_107 : Cond.fieldLink RX10 107 "RemoteReachModel" "begun" "[Z" ∈ TS := List.mem_filter.mpr ⟨mt_4 (List.mem_of_getElem? (i := 208) (by decide +kernel)), rfl⟩
theorem fl_X10_110 : Cond.fieldLink RX10 110 "RemoteReachModel" "adds" "[I" ∈ TS := List.mem_filter.mpr ⟨mt_4 (List.mem_of_getElem? (i := 209) (by decide +kernel)), rfl⟩
theorem fl_X10_113 : Cond.fieldLink RX10 113 "RemoteReachModel" "addNumber" "[I" ∈ TS := List.mem_filter.mpr ⟨mt_4 (List.mem_of_getElem? (i := 210) (by decide +kernel)), rfl⟩
theorem fl_X10_116 : Cond.fieldLink RX10 116 "RemoteReachModel" "addValue" "[I" ∈ TS := List.mem_filter.mpr ⟨mt_4 (List.mem_of_getElem? (i := 211) (by decide +kernel)), rfl⟩
theorem fl_X10_164 : Cond.fieldLink RX10 164 "RemoteReachModel" "packets" "I" ∈ TS := List.mem_filter.mpr ⟨mt_4 (List.mem_of_getElem? (i := 212) (by decide +kernel)), rfl⟩
theorem fl_X10_119 : Cond.fieldLink RX10 119 "RemoteReachModel" "pTo" "[I" ∈ TS := List.mem_filter.mpr ⟨mt_4 (List.mem_of_getElem? (i := 213) (by decide +kernel)), rfl⟩
theorem fl_X10_122 : Cond.fieldLink RX10 122 "RemoteReachModel" "pKind" "[I" ∈ TS := List.mem_filter.mpr ⟨mt_4 (List.mem_of_getElem? (i := 214) (by decide +kernel)), rfl⟩
theorem fl_X10_125 : Cond.fieldLink RX10 125 "RemoteReachModel" "pNumber" "[I" ∈ TS := List.mem_filter.mpr ⟨mt_4 (List.mem_of_getElem? (i := 215) (by decide +kernel)), rfl⟩
theorem fl_X10_128 : Cond.fieldLink RX10 128 "RemoteReachModel" "pSize" "[I" ∈ TS := List.mem_filter.mpr ⟨mt_4 (List.mem_of_getElem? (i := 216) (by decide +kernel)), rfl⟩
theorem fl_X10_131 : Cond.fieldLink RX10 131 "RemoteReachModel" "pMark" "[I" ∈ TS := List.mem_filter.mpr ⟨mt_4 (List.mem_of_getElem? (i := 217) (by decide +kernel)), rfl⟩
theorem fl_X10_134 : Cond.fieldLink RX10 134 "RemoteReachModel" "pPlace" "[I" ∈ TS := List.mem_filter.mpr ⟨mt_4 (List.mem_of_getElem? (i := 218) (by decide +kernel)), rfl⟩
theorem fl_X10_137 : Cond.fieldLink RX10 137 "RemoteReachModel" "pValue" "[I" ∈ TS := List.mem_filter.mpr ⟨mt_4 (List.mem_of_getElem? (i := 219) (by decide +kernel)), rfl⟩
theorem fl_X10_140 : Cond.fieldLink RX10 140 "RemoteReachModel" "pCell" "[I" ∈ TS := List.mem_filter.mpr ⟨mt_4 (List.mem_of_getElem? (i := 220) (by decide +kernel)), rfl⟩
theorem la_X10_timeout : Cond.laysFinal RX10 "RemoteReachModel" "timeout" "I" ∈ TS := List.mem_filter.mpr ⟨mt_4 (List.mem_of_getElem? (i := 221) (by decide +kernel)), rfl⟩
theorem la_X10_mostTries : Cond.laysFinal RX10 "RemoteReachModel" "mostTries" "I" ∈ TS := List.mem_filter.mpr ⟨mt_4 (List.mem_of_getElem? (i := 223) (by decide +kernel)), rfl⟩
theorem la_X10_mostRefusals : Cond.laysFinal RX10 "RemoteReachModel" "mostRefusals" "I" ∈ TS := List.mem_filter.mpr ⟨mt_4 (List.mem_of_getElem? (i := 225) (by decide +kernel)), rfl⟩
theorem la_X10_code : Cond.lays RX10 "RemoteReachModel" "code" "I" ∈ TS := List.mem_filter.mpr ⟨mt_4 (List.mem_of_getElem? (i := 227) (by decide +kernel)), rfl⟩
theorem la_X10_memory : Cond.laysFinal RX10 "RemoteReachModel" "memory" "[I" ∈ TS := List.mem_filter.mpr ⟨mt_4 (List.mem_of_getElem? (i := 229) (by decide +kernel)), rfl⟩
theorem la_X10_base : Cond.laysFinal RX10 "RemoteReachModel" "base" "[I" ∈ TS := List.mem_filter.mpr ⟨mt_4 (List.mem_of_getElem? (i := 231) (by decide +kernel)), rfl⟩
theorem la_X10_span : Cond.laysFinal RX10 "RemoteReachModel" "span" "[I" ∈ TS := List.mem_filter.mpr ⟨mt_4 (List.mem_of_getElem? (i := 233) (by decide +kernel)), rfl⟩
theorem la_X10_rights : Cond.laysFinal RX10 "RemoteReachModel" "rights" "[I" ∈ TS := List.mem_filter.mpr ⟨mt_4 (List.mem_of_getElem? (i := 235) (by decide +kernel)), rfl⟩
theorem la_X10_done : Cond.laysFinal RX10 "RemoteReachModel" "done" "[I" ∈ TS := List.mem_filter.mpr ⟨mt_4 (List.mem_of_getElem? (i := 237) (by decide +kernel)), rfl⟩
theorem la_X10_ends : Cond.laysFinal RX10 "RemoteReachModel" "ends" "[I" ∈ TS := List.mem_filter.mpr ⟨mt_4 (List.mem_of_getElem? (i := 239) (by decide +kernel)), rfl⟩
theorem la_X10_state : Cond.laysFinal RX10 "RemoteReachModel" "state" "[I" ∈ TS := List.mem_filter.mpr ⟨mt_5 (List.mem_of_getElem? (i := 1) (by decide +kernel)), rfl⟩
theorem la_X10_following : Cond.laysFinal RX10 "RemoteReachModel" "following" "[I" ∈ TS := List.mem_filter.mpr ⟨mt_5 (List.mem_of_getElem? (i := 3) (by decide +kernel)), rfl⟩
theorem la_X10_oldest : Cond.laysFinal RX10 "RemoteReachModel" "oldest" "[I" ∈ TS := List.mem_filter.mpr ⟨mt_5 (List.mem_of_getElem? (i := 5) (by decide +kernel)), rfl⟩
theorem la_X10_cursor : Cond.laysFinal RX10 "RemoteReachModel" "cursor" "[I" ∈ TS := List.mem_filter.mpr ⟨mt_5 (List.mem_of_getElem? (i := 7) (by decide +kernel)), rfl⟩
theorem la_X10_expected : Cond.laysFinal RX10 "RemoteReachModel" "expected" "[I" ∈ TS := List.mem_filter.mpr ⟨mt_5 (List.mem_of_getElem? (i := 9) (by decide +kernel)), rfl⟩
theorem la_X10_clock : Cond.laysFinal RX10 "RemoteReachModel" "clock" "[I" ∈ TS := List.mem_filter.mpr ⟨mt_5 (List.mem_of_getElem? (i := 11) (by decide +kernel)), rfl⟩
theorem la_X10_tries : Cond.laysFinal RX10 "RemoteReachModel" "tries" "[I" ∈ TS := List.mem_filter.mpr ⟨mt_5 (List.mem_of_getElem? (i := 13) (by decide +kernel)), rfl⟩
theorem la_X10_refusals : Cond.laysFinal RX10 "RemoteReachModel" "refusals" "[I" ∈ TS := List.mem_filter.mpr ⟨mt_5 (List.mem_of_getElem? (i := 15) (by decide +kernel)), rfl⟩
theorem la_X10_resting : Cond.laysFinal RX10 "RemoteReachModel" "resting" "[Z" ∈ TS := List.mem_filter.mpr ⟨mt_5 (List.mem_of_getElem? (i := 17) (by decide +kernel)), rfl⟩
theorem la_X10_nakked : Cond.laysFinal RX10 "RemoteReachModel" "nakked" "[Z" ∈ TS := List.mem_filter.mpr ⟨mt_5 (List.mem_of_getElem? (i := 19) (by decide +kernel)), rfl⟩
theorem la_X10_requests : Cond.laysFinal RX10 "RemoteReachModel" "requests" "[I" ∈ TS := List.mem_filter.mpr ⟨mt_5 (List.mem_of_getElem? (i := 21) (by decide +kernel)), rfl⟩
theorem la_X10_serials : Cond.laysFinal RX10 "RemoteReachModel" "serials" "[I" ∈ TS := List.mem_filter.mpr ⟨mt_5 (List.mem_of_getElem? (i := 23) (by decide +kernel)), rfl⟩
theorem la_X10_rKind : Cond.laysFinal RX10 "RemoteReachModel" "rKind" "[I" ∈ TS := List.mem_filter.mpr ⟨mt_5 (List.mem_of_getElem? (i := 25) (by decide +kernel)), rfl⟩
theorem la_X10_rHere : Cond.laysFinal RX10 "RemoteReachModel" "rHere" "[I" ∈ TS := List.mem_filter.mpr ⟨mt_5 (List.mem_of_getElem? (i := 27) (by decide +kernel)), rfl⟩
theorem la_X10_rSize : Cond.laysFinal RX10 "RemoteReachModel" "rSize" "[I" ∈ TS := List.mem_filter.mpr ⟨mt_5 (List.mem_of_getElem? (i := 29) (by decide +kernel)), rfl⟩
theorem la_X10_rRegion : Cond.laysFinal RX10 "RemoteReachModel" "rRegion" "[I" ∈ TS := List.mem_filter.mpr ⟨mt_5 (List.mem_of_getElem? (i := 31) (by decide +kernel)), rfl⟩
theorem la_X10_rPlace : Cond.laysFinal RX10 "RemoteReachModel" "rPlace" "[I" ∈ TS := List.mem_filter.mpr ⟨mt_5 (List.mem_of_getElem? (i := 33) (by decide +kernel)), rfl⟩
theorem la_X10_rValue : Cond.laysFinal RX10 "RemoteReachModel" "rValue" "[I" ∈ TS := List.mem_filter.mpr ⟨mt_5 (List.mem_of_getElem? (i := 35) (by decide +kernel)), rfl⟩
theorem la_X10_rSerial : Cond.laysFinal RX10 "RemoteReachModel" "rSerial" "[I" ∈ TS := List.mem_filter.mpr ⟨mt_5 (List.mem_of_getElem? (i := 37) (by decide +kernel)), rfl⟩
theorem la_X10_rFirst : Cond.laysFinal RX10 "RemoteReachModel" "rFirst" "[I" ∈ TS := List.mem_filter.mpr ⟨mt_5 (List.mem_of_getElem? (i := 39) (by decide +kernel)), rfl⟩
theorem la_X10_receives : Cond.laysFinal RX10 "RemoteReachModel" "receives" "[I" ∈ TS := List.mem_filter.mpr ⟨mt_5 (List.mem_of_getElem? (i := 41) (by decide +kernel)), rfl⟩
theorem la_X10_receiveSerials : Cond.laysFinal RX10 "RemoteReachModel" "receiveSerials" "[I" ∈ TS := List.mem_filter.mpr ⟨mt_5 (List.mem_of_getElem? (i := 43) (by decide +kernel)), rfl⟩
theorem la_X10_vHere : Cond.laysFinal RX10 "RemoteReachModel" "vHere" "[I" ∈ TS := List.mem_filter.mpr ⟨mt_5 (List.mem_of_getElem? (i := 45) (by decide +kernel)), rfl⟩
theorem la_X10_vSize : Cond.laysFinal RX10 "RemoteReachModel" "vSize" "[I" ∈ TS := List.mem_filter.mpr ⟨mt_5 (List.mem_of_getElem? (i := 47) (by decide +kernel)), rfl⟩
theorem la_X10_vSerial : Cond.laysFinal RX10 "RemoteReachModel" "vSerial" "[I" ∈ TS := List.mem_filter.mpr ⟨mt_5 (List.mem_of_getElem? (i := 49) (by decide +kernel)), rfl⟩
theorem la_X10_vCame : Cond.laysFinal RX10 "RemoteReachModel" "vCame" "[I" ∈ TS := List.mem_filter.mpr ⟨mt_5 (List.mem_of_getElem? (i := 51) (by decide +kernel)), rfl⟩
theorem la_X10_begun : Cond.laysFinal RX10 "RemoteReachModel" "begun" "[Z" ∈ TS := List.mem_filter.mpr ⟨mt_5 (List.mem_of_getElem? (i := 53) (by decide +kernel)), rfl⟩
theorem la_X10_adds : Cond.laysFinal RX10 "RemoteReachModel" "adds" "[I" ∈ TS := List.mem_filter.mpr ⟨mt_5 (List.mem_of_getElem? (i := 55) (by decide +kernel)), rfl⟩
theorem la_X10_addNumber : Cond.laysFinal RX10 "RemoteReachModel" "addNumber" "[I" ∈ TS := List.mem_filter.mpr ⟨mt_5 (List.mem_of_getElem? (i := 57) (by decide +kernel)), rfl⟩
theorem la_X10_addValue : Cond.laysFinal RX10 "RemoteReachModel" "addValue" "[I" ∈ TS := List.mem_filter.mpr ⟨mt_5 (List.mem_of_getElem? (i := 59) (by decide +kernel)), rfl⟩
theorem la_X10_packets : Cond.lays RX10 "RemoteReachModel" "packets" "I" ∈ TS := List.mem_filter.mpr ⟨mt_5 (List.mem_of_getElem? (i := 61) (by decide +kernel)), rfl⟩
theorem la_X10_pTo : Cond.laysFinal RX10 "RemoteReachModel" "pTo" "[I" ∈ TS := List.mem_filter.mpr ⟨mt_5 (List.mem_of_getElem? (i := 63) (by decide +kernel)), rfl⟩
theorem la_X10_pKind : Cond.laysFinal RX10 "RemoteReachModel" "pKind" "[I" ∈ TS := List.mem_filter.mpr ⟨mt_5 (List.mem_of_getElem? (i := 65) (by decide +kernel)), rfl⟩
theorem la_X10_pNumber : Cond.laysFinal RX10 "RemoteReachModel" "pNumber" "[I" ∈ TS := List.mem_filter.mpr ⟨mt_5 (List.mem_of_getElem? (i := 67) (by decide +kernel)), rfl⟩
theorem la_X10_pSize : Cond.laysFinal RX10 "RemoteReachModel" "pSize" "[I" ∈ TS := List.mem_filter.mpr ⟨mt_5 (List.mem_of_getElem? (i := 69) (by decide +kernel)), rfl⟩
theorem la_X10_pMark : Cond.laysFinal RX10 "RemoteReachModel" "pMark" "[I" ∈ TS := List.mem_filter.mpr ⟨mt_5 (List.mem_of_getElem? (i := 71) (by decide +kernel)), rfl⟩
theorem la_X10_pPlace : Cond.laysFinal RX10 "RemoteReachModel" "pPlace" "[I" ∈ TS := List.mem_filter.mpr ⟨mt_5 (List.mem_of_getElem? (i := 73) (by decide +kernel)), rfl⟩
theorem la_X10_pValue : Cond.laysFinal RX10 "RemoteReachModel" "pValue" "[I" ∈ TS := List.mem_filter.mpr ⟨mt_5 (List.mem_of_getElem? (i := 75) (by decide +kernel)), rfl⟩
theorem la_X10_pCell : Cond.laysFinal RX10 "RemoteReachModel" "pCell" "[I" ∈ TS := List.mem_filter.mpr ⟨mt_5 (List.mem_of_getElem? (i := 77) (by decide +kernel)), rfl⟩
theorem ac_boolean : Cond.arrayClass .boolean ∈ TS := List.mem_filter.mpr ⟨mt_5 (List.mem_of_getElem? (i := 80) (by decide +kernel)), rfl⟩
theorem ml_L_79 : Cond.methodLink RL 79 yX10_thrown ∈ TS := List.mem_filter.mpr ⟨mt_5 (List.mem_of_getElem? (i := 81) (by decide +kernel)), rfl⟩
theorem im_X10_thrown : Cond.instanceMethod yX10_thrown ∈ TS := List.mem_filter.mpr ⟨mt_5 (List.mem_of_getElem? (i := 82) (by decide +kernel)), rfl⟩
theorem se_X10_X10_thrown : Cond.selects RX10 yX10_thrown yX10_thrown ∈ TS := List.mem_filter.mpr ⟨mt_5 (List.mem_of_getElem? (i := 83) (by decide +kernel)), rfl⟩
set_option maxRecDepth 100000 in
theorem co_X10_thrown : Cond.code yX10_thrown cX10_thrown 1 (some .int) ∈ TS := List.mem_filter.mpr ⟨mt_5 (List.mem_of_getElem? (i := 84) (by show tables_1_5[_]? = _; rfl)), rfl⟩
theorem ml_L_59 : Cond.methodLink RL 59 yX10_region ∈ TS := List.mem_filter.mpr ⟨mt_5 (List.mem_of_getElem? (i := 85) (by decide +kernel)), rfl⟩
theorem im_X10_region : Cond.instanceMethod yX10_region ∈ TS := List.mem_filter.mpr ⟨mt_5 (List.mem_of_getElem? (i := 86) (by decide +kernel)), rfl⟩
theorem se_X10_X10_region : Cond.selects RX10 yX10_region yX10_region ∈ TS := List.mem_filter.mpr ⟨mt_5 (List.mem_of_getElem? (i := 87) (by decide +kernel)), rfl⟩
set_option maxRecDepth 100000 in
theorem co_X10_region : Cond.code yX10_region cX10_region 7 none ∈ TS := List.mem_filter.mpr ⟨mt_5 (List.mem_of_getElem? (i := 88) (by show tables_1_5[_]? = _; rfl)), rfl⟩
theorem ml_X10_156 : Cond.methodLink RX10 156 yX10_within ∈ TS := List.mem_filter.mpr ⟨mt_5 (List.mem_of_getElem? (i := 89) (by decide +kernel)), rfl⟩
theorem st_X10_within : Cond.static yX10_within ∈ TS := List.mem_filter.mpr ⟨mt_5 (List.mem_of_getElem? (i := 90) (by decide +kernel)), rfl⟩
set_option maxRecDepth 100000 in
theorem co_X10_within : Cond.code yX10_within cX10_within 2 (some .boolean) ∈ TS := List.mem_filter.mpr ⟨mt_5 (List.mem_of_getElem? (i := 91) (by show tables_1_5[_]? = _; rfl)), rfl⟩
theorem ml_L_63 : Cond.methodLink RL 63 yX10_store ∈ TS := List.mem_filter.mpr ⟨mt_5 (List.mem_of_getElem? (i := 92) (by decide +kernel)), rfl⟩
theorem im_X10_store : Cond.instanceMethod yX10_store ∈ TS := List.mem_filter.mpr ⟨mt_5 (List.mem_of_getElem? (i := 93) (by decide +kernel)), rfl⟩
theorem se_X10_X10_store : Cond.selects RX10 yX10_store yX10_store ∈ TS := List.mem_filter.mpr ⟨mt_5 (List.mem_of_getElem? (i := 94) (by decide +kernel)), rfl⟩
set_option maxRecDepth 100000 in
theorem co_X10_store : Cond.code yX10_store cX10_store 4 none ∈ TS := List.mem_filter.mpr ⟨mt_5 (List.mem_of_getElem? (i := 95) (by show tables_1_5[_]? = _; rfl)), rfl⟩
theorem ml_L_66 : Cond.methodLink RL 66 yX10_cell ∈ TS := List.mem_filter.mpr ⟨mt_5 (List.mem_of_getElem? (i := 96) (by decide +kernel)), rfl⟩
theorem im_X10_cell : Cond.instanceMethod yX10_cell ∈ TS := List.mem_filter.mpr ⟨mt_5 (List.mem_of_getElem? (i := 97) (by decide +kernel)), rfl⟩
theorem se_X10_X10_cell : Cond.selects RX10 yX10_cell yX10_cell ∈ TS := List.mem_filter.mpr ⟨mt_5 (List.mem_of_getElem? (i := 98) (by decide +kernel)), rfl⟩
set_option maxRecDepth 100000 in
theorem co_X10_cell : Cond.code yX10_cell cX10_cell 3 (some .int) ∈ TS := List.mem_filter.mpr ⟨mt_5 (List.mem_of_getElem? (i := 99) (by show tables_1_5[_]? = _; rfl)), rfl⟩
theorem ml_L_78 : Cond.methodLink RL 78 yX10_send ∈ TS := List.mem_filter.mpr ⟨mt_5 (List.mem_of_getElem? (i := 100) (by decide +kernel)), rfl⟩
theorem im_X10_send : Cond.instanceMethod yX10_send ∈ TS := List.mem_filter.mpr ⟨mt_5 (List.mem_of_getElem? (i := 101) (by decide +kernel)), rfl⟩
theorem se_X10_X10_send : Cond.selects RX10 yX10_send yX10_send ∈ TS := List.mem_filter.mpr ⟨mt_5 (List.mem_of_getElem? (i := 102) (by decide +kernel)), rfl⟩
set_option maxRecDepth 100000 in
theorem co_X10_send : Cond.code yX10_send cX10_send 4 (some .int) ∈ TS := List.mem_filter.mpr ⟨mt_5 (List.mem_of_getElem? (i := 103) (by show tables_1_5[_]? = _; rfl)), rfl⟩
theorem ml_X10_181 : Cond.methodLink RX10 181 yX10_cellsGood ∈ TS := List.mem_filter.mpr ⟨mt_5 (List.mem_of_getElem? (i := 104) (by decide +kernel)), rfl⟩
theorem im_X10_cellsGood : Cond.instanceMethod yX10_cellsGood ∈ TS := List.mem_filter.mpr ⟨mt_5 (List.mem_of_getElem? (i := 106) (by decide +kernel)), rfl⟩
set_option maxRecDepth 100000 in
theorem co_X10_cellsGood : Cond.code yX10_cellsGood cX10_cellsGood 4 (some .boolean) ∈ TS := List.mem_filter.mpr ⟨mt_5 (List.mem_of_getElem? (i := 107) (by show tables_1_5[_]? = _; rfl)), rfl⟩
theorem ml_X10_185 : Cond.methodLink RX10 185 yX10_fail ∈ TS := List.mem_filter.mpr ⟨mt_5 (List.mem_of_getElem? (i := 108) (by decide +kernel)), rfl⟩
theorem im_X10_fail : Cond.instanceMethod yX10_fail ∈ TS := List.mem_filter.mpr ⟨mt_5 (List.mem_of_getElem? (i := 110) (by decide +kernel)), rfl⟩
set_option maxRecDepth 100000 in
theorem co_X10_fail : Cond.code yX10_fail cX10_fail 2 (some .int) ∈ TS := List.mem_filter.mpr ⟨mt_5 (List.mem_of_getElem? (i := 111) (by show tables_1_5[_]? = _; rfl)), rfl⟩
theorem ml_X10_188 : Cond.methodLink RX10 188 yX10_full ∈ TS := List.mem_filter.mpr ⟨mt_5 (List.mem_of_getElem? (i := 112) (by decide +kernel)), rfl⟩
theorem im_X10_full : Cond.instanceMethod yX10_full ∈ TS := List.mem_filter.mpr ⟨mt_5 (List.mem_of_getElem? (i := 114) (by decide +kernel)), rfl⟩
set_option maxRecDepth 100000 in
theorem co_X10_full : Cond.code yX10_full cX10_full 2 (some .boolean) ∈ TS := List.mem_filter.mpr ⟨mt_5 (List.mem_of_getElem? (i := 115) (by show tables_1_5[_]? = _; rfl)), rfl⟩
theorem ml_X10_192 : Cond.methodLink RX10 192 yX10_post ∈ TS := List.mem_filter.mpr ⟨mt_5 (List.mem_of_getElem? (i := 116) (by decide +kernel)), rfl⟩
theorem im_X10_post : Cond.instanceMethod yX10_post ∈ TS := List.mem_filter.mpr ⟨mt_5 (List.mem_of_getElem? (i := 118) (by decide +kernel)), rfl⟩
set_option maxRecDepth 100000 in
theorem co_X10_post : Cond.code yX10_post cX10_post 9 (some .int) ∈ TS := List.mem_filter.mpr ⟨mt_5 (List.mem_of_getElem? (i := 119) (by show tables_1_5[_]? = _; rfl)), rfl⟩
theorem ml_X10_178 : Cond.methodLink RX10 178 yX10_numbersOf ∈ TS := List.mem_filter.mpr ⟨mt_5 (List.mem_of_getElem? (i := 120) (by decide +kernel)), rfl⟩
theorem im_X10_numbersOf : Cond.instanceMethod yX10_numbersOf ∈ TS := List.mem_filter.mpr ⟨mt_5 (List.mem_of_getElem? (i := 122) (by decide +kernel)), rfl⟩
set_option maxRecDepth 100000 in
theorem co_X10_numbersOf : Cond.code yX10_numbersOf cX10_numbersOf 2 (some .int) ∈ TS := List.mem_filter.mpr ⟨mt_5 (List.mem_of_getElem? (i := 123) (by show tables_1_5[_]? = _; rfl)), rfl⟩
theorem ml_L_86 : Cond.methodLink RL 86 yX10_move ∈ TS := List.mem_filter.mpr ⟨mt_5 (List.mem_of_getElem? (i := 124) (by decide +kernel)), rfl⟩
theorem im_X10_move : Cond.instanceMethod yX10_move ∈ TS := List.mem_filter.mpr ⟨mt_5 (List.mem_of_getElem? (i := 125) (by decide +kernel)), rfl⟩
theorem se_X10_X10_move : Cond.selects RX10 yX10_move yX10_move ∈ TS := List.mem_filter.mpr ⟨mt_5 (List.mem_of_getElem? (i := 126) (by decide +kernel)), rfl⟩
set_option maxRecDepth 100000 in
theorem co_X10_move : Cond.code yX10_move cX10_move 7 (some .int) ∈ TS := List.mem_filter.mpr ⟨mt_5 (List.mem_of_getElem? (i := 127) (by show tables_1_5[_]? = _; rfl)), rfl⟩
theorem ml_L_90 : Cond.methodLink RL 90 yX10_add ∈ TS := List.mem_filter.mpr ⟨mt_5 (List.mem_of_getElem? (i := 128) (by decide +kernel)), rfl⟩
theorem im_X10_add : Cond.instanceMethod yX10_add ∈ TS := List.mem_filter.mpr ⟨mt_5 (List.mem_of_getElem? (i := 129) (by decide +kernel)), rfl⟩
theorem se_X10_X10_add : Cond.selects RX10 yX10_add yX10_add ∈ TS := List.mem_filter.mpr ⟨mt_5 (List.mem_of_getElem? (i := 130) (by decide +kernel)), rfl⟩
set_option maxRecDepth 100000 in
theorem co_X10_add : Cond.code yX10_add cX10_add 6 (some .int) ∈ TS := List.mem_filter.mpr ⟨mt_5 (List.mem_of_getElem? (i := 131) (by show tables_1_5[_]? = _; rfl)), rfl⟩
theorem ml_L_93 : Cond.methodLink RL 93 yX10_receive ∈ TS := List.mem_filter.mpr ⟨mt_5 (List.mem_of_getElem? (i := 132) (by decide +kernel)), rfl⟩
theorem im_X10_receive : Cond.instanceMethod yX10_receive ∈ TS := List.mem_filter.mpr ⟨mt_5 (List.mem_of_getElem? (i := 133) (by decide +kernel)), rfl⟩
theorem se_X10_X10_receive : Cond.selects RX10 yX10_receive yX10_receive ∈ TS := List.mem_filter.mpr ⟨mt_5 (List.mem_of_getElem? (i := 134) (by decide +kernel)), rfl⟩
set_option maxRecDepth 100000 in
theorem co_X10_receive : Cond.code yX10_receive cX10_receive 5 (some .int) ∈ TS := List.mem_filter.mpr ⟨mt_5 (List.mem_of_getElem? (i := 135) (by show tables_1_5[_]? = _; rfl)), rfl⟩
theorem ml_L_69 : Cond.methodLink RL 69 yX10_ready ∈ TS := List.mem_filter.mpr ⟨mt_5 (List.mem_of_getElem? (i := 136) (by decide +kernel)), rfl⟩
theorem im_X10_ready : Cond.instanceMethod yX10_ready ∈ TS := List.mem_filter.mpr ⟨mt_5 (List.mem_of_getElem? (i := 137) (by decide +kernel)), rfl⟩
theorem se_X10_X10_ready : Cond.selects RX10 yX10_ready yX10_ready ∈ TS := List.mem_filter.mpr ⟨mt_5 (List.mem_of_getElem? (i := 138) (by decide +kernel)), rfl⟩
set_option maxRecDepth 100000 in
theorem co_X10_ready : Cond.code yX10_ready cX10_ready 4 none ∈ TS := List.mem_filter.mpr ⟨mt_5 (List.mem_of_getElem? (i := 139) (by show tables_1_5[_]? = _; rfl)), rfl⟩
theorem ml_L_74 : Cond.methodLink RL 74 yX10_reset ∈ TS := List.mem_filter.mpr ⟨mt_5 (List.mem_of_getElem? (i := 140) (by decide +kernel)), rfl⟩
theorem im_X10_reset : Cond.instanceMethod yX10_reset ∈ TS := List.mem_filter.mpr ⟨mt_5 (List.mem_of_getElem? (i := 141) (by decide +kernel)), rfl⟩
theorem se_X10_X10_reset : Cond.selects RX10 yX10_reset yX10_reset ∈ TS := List.mem_filter.mpr ⟨mt_5 (List.mem_of_getElem? (i := 142) (by decide +kernel)), rfl⟩
set_option maxRecDepth 100000 in
theorem co_X10_reset : Cond.code yX10_reset cX10_reset 2 (some .boolean) ∈ TS := List.mem_filter.mpr ⟨mt_5 (List.mem_of_getElem? (i := 143) (by show tables_1_5[_]? = _; rfl)), rfl⟩
theorem ml_L_98 : Cond.methodLink RL 98 yX10_push ∈ TS := List.mem_filter.mpr ⟨mt_5 (List.mem_of_getElem? (i := 144) (by decide +kernel)), rfl⟩
theorem im_X10_push : Cond.instanceMethod yX10_push ∈ TS := List.mem_filter.mpr ⟨mt_5 (List.mem_of_getElem? (i := 145) (by decide +kernel)), rfl⟩
theorem se_X10_X10_push : Cond.selects RX10 yX10_push yX10_push ∈ TS := List.mem_filter.mpr ⟨mt_5 (List.mem_of_getElem? (i := 146) (by decide +kernel)), rfl⟩
set_option maxRecDepth 100000 in
theorem co_X10_push : Cond.code yX10_push cX10_push 9 (some .int) ∈ TS := List.mem_filter.mpr ⟨mt_5 (List.mem_of_getElem? (i := 147) (by show tables_1_5[_]? = _; rfl)), rfl⟩
theorem ml_X10_196 : Cond.methodLink RX10 196 yX10_requestOf ∈ TS := List.mem_filter.mpr ⟨mt_5 (List.mem_of_getElem? (i := 148) (by decide +kernel)), rfl⟩
theorem im_X10_requestOf : Cond.instanceMethod yX10_requestOf ∈ TS := List.mem_filter.mpr ⟨mt_5 (List.mem_of_getElem? (i := 150) (by decide +kernel)), rfl⟩
set_option maxRecDepth 100000 in
theorem co_X10_requestOf : Cond.code yX10_requestOf cX10_requestOf 4 (some .int) ∈ TS := List.mem_filter.mpr ⟨mt_5 (List.mem_of_getElem? (i := 151) (by show tables_1_5[_]? = _; rfl)), rfl⟩
theorem ml_X10_174 : Cond.methodLink RX10 174 yX10_far ∈ TS := List.mem_filter.mpr ⟨mt_5 (List.mem_of_getElem? (i := 152) (by decide +kernel)), rfl⟩
theorem st_X10_far : Cond.static yX10_far ∈ TS := List.mem_filter.mpr ⟨mt_5 (List.mem_of_getElem? (i := 153) (by decide +kernel)), rfl⟩
set_option maxRecDepth 100000 in
theorem co_X10_far : Cond.code yX10_far cX10_far 2 (some .int) ∈ TS := List.mem_filter.mpr ⟨mt_5 (List.mem_of_getElem? (i := 154) (by show tables_1_5[_]? = _; rfl)), rfl⟩
theorem ml_X10_199 : Cond.methodLink RX10 199 yX10_emit ∈ TS := List.mem_filter.mpr ⟨mt_5 (List.mem_of_getElem? (i := 155) (by decide +kernel)), rfl⟩
theorem im_X10_emit : Cond.instanceMethod yX10_emit ∈ TS := List.mem_filter.mpr ⟨mt_5 (List.mem_of_getElem? (i := 157) (by decide +kernel)), rfl⟩
set_option maxRecDepth 100000 in
theorem co_X10_emit : Cond.code yX10_emit cX10_emit 8 (some .int) ∈ TS := List.mem_filter.mpr ⟨mt_5 (List.mem_of_getElem? (i := 158) (by show tables_1_5[_]? = _; rfl)), rfl⟩
theorem ml_X10_167 : Cond.methodLink RX10 167 yX10_peer ∈ TS := List.mem_filter.mpr ⟨mt_5 (List.mem_of_getElem? (i := 159) (by decide +kernel)), rfl⟩
theorem st_X10_peer : Cond.static yX10_peer ∈ TS := List.mem_filter.mpr ⟨mt_5 (List.mem_of_getElem? (i := 160) (by decide +kernel)), rfl⟩
set_option maxRecDepth 100000 in
theorem co_X10_peer : Cond.code yX10_peer cX10_peer 1 (some .int) ∈ TS := List.mem_filter.mpr ⟨mt_5 (List.mem_of_getElem? (i := 161) (by show tables_1_5[_]? = _; rfl)), rfl⟩
theorem ml_X10_203 : Cond.methodLink RX10 203 yX10_load ∈ TS := List.mem_filter.mpr ⟨mt_5 (List.mem_of_getElem? (i := 162) (by decide +kernel)), rfl⟩
theorem im_X10_load : Cond.instanceMethod yX10_load ∈ TS := List.mem_filter.mpr ⟨mt_5 (List.mem_of_getElem? (i := 164) (by decide +kernel)), rfl⟩
set_option maxRecDepth 100000 in
theorem co_X10_load : Cond.code yX10_load cX10_load 6 none ∈ TS := List.mem_filter.mpr ⟨mt_5 (List.mem_of_getElem? (i := 165) (by show tables_1_5[_]? = _; rfl)), rfl⟩
theorem ml_X10_160 : Cond.methodLink RX10 160 yX10_nodeOf ∈ TS := List.mem_filter.mpr ⟨mt_5 (List.mem_of_getElem? (i := 166) (by decide +kernel)), rfl⟩
theorem st_X10_nodeOf : Cond.static yX10_nodeOf ∈ TS := List.mem_filter.mpr ⟨mt_5 (List.mem_of_getElem? (i := 167) (by decide +kernel)), rfl⟩
set_option maxRecDepth 100000 in
theorem co_X10_nodeOf : Cond.code yX10_nodeOf cX10_nodeOf 1 (some .int) ∈ TS := List.mem_filter.mpr ⟨mt_5 (List.mem_of_getElem? (i := 168) (by show tables_1_5[_]? = _; rfl)), rfl⟩
theorem ml_L_102 : Cond.methodLink RL 102 yX10_deliver ∈ TS := List.mem_filter.mpr ⟨mt_5 (List.mem_of_getElem? (i := 169) (by decide +kernel)), rfl⟩
theorem im_X10_deliver : Cond.instanceMethod yX10_deliver ∈ TS := List.mem_filter.mpr ⟨mt_5 (List.mem_of_getElem? (i := 170) (by decide +kernel)), rfl⟩
theorem se_X10_X10_deliver : Cond.selects RX10 yX10_deliver yX10_deliver ∈ TS := List.mem_filter.mpr ⟨mt_5 (List.mem_of_getElem? (i := 171) (by decide +kernel)), rfl⟩
set_option maxRecDepth 100000 in
theorem co_X10_deliver : Cond.code yX10_deliver cX10_deliver 3 (some .boolean) ∈ TS := List.mem_filter.mpr ⟨mt_5 (List.mem_of_getElem? (i := 172) (by show tables_1_5[_]? = _; rfl)), rfl⟩
theorem ml_X10_170 : Cond.methodLink RX10 170 yX10_move1 ∈ TS := List.mem_filter.mpr ⟨mt_5 (List.mem_of_getElem? (i := 173) (by decide +kernel)), rfl⟩
theorem im_X10_move1 : Cond.instanceMethod yX10_move1 ∈ TS := List.mem_filter.mpr ⟨mt_5 (List.mem_of_getElem? (i := 175) (by decide +kernel)), rfl⟩
set_option maxRecDepth 100000 in
theorem co_X10_move1 : Cond.code yX10_move1 cX10_move1 4 none ∈ TS := List.mem_filter.mpr ⟨mt_5 (List.mem_of_getElem? (i := 176) (by show tables_1_5[_]? = _; rfl)), rfl⟩
theorem ml_X10_265 : Cond.methodLink RX10 265 yX10_drop ∈ TS := List.mem_filter.mpr ⟨mt_5 (List.mem_of_getElem? (i := 177) (by decide +kernel)), rfl⟩
theorem im_X10_drop : Cond.instanceMethod yX10_drop ∈ TS := List.mem_filter.mpr ⟨mt_5 (List.mem_of_getElem? (i := 179) (by decide +kernel)), rfl⟩
set_option maxRecDepth 100000 in
theorem co_X10_drop : Cond.code yX10_drop cX10_drop 3 none ∈ TS := List.mem_filter.mpr ⟨mt_5 (List.mem_of_getElem? (i := 180) (by show tables_1_5[_]? = _; rfl)), rfl⟩
theorem ml_X10_268 : Cond.methodLink RX10 268 yX10_asked ∈ TS := List.mem_filter.mpr ⟨mt_5 (List.mem_of_getElem? (i := 181) (by decide +kernel)), rfl⟩
theorem im_X10_asked : Cond.instanceMethod yX10_asked ∈ TS := List.mem_filter.mpr ⟨mt_5 (List.mem_of_getElem? (i := 183) (by decide +kernel)), rfl⟩
set_option maxRecDepth 100000 in
theorem co_X10_asked : Cond.code yX10_asked cX10_asked 4 none ∈ TS := List.mem_filter.mpr ⟨mt_5 (List.mem_of_getElem? (i := 184) (by show tables_1_5[_]? = _; rfl)), rfl⟩
theorem ml_X10_256 : Cond.methodLink RX10 256 yX10_fresh ∈ TS := List.mem_filter.mpr ⟨mt_5 (List.mem_of_getElem? (i := 185) (by decide +kernel)), rfl⟩
theorem im_X10_fresh : Cond.instanceMethod yX10_fresh ∈ TS := List.mem_filter.mpr ⟨mt_5 (List.mem_of_getElem? (i := 187) (by decide +kernel)), rfl⟩
set_option maxRecDepth 100000 in
theorem co_X10_fresh : Cond.code yX10_fresh cX10_fresh 4 none ∈ TS := List.mem_filter.mpr ⟨mt_5 (List.mem_of_getElem? (i := 188) (by show tables_1_5[_]? = _; rfl)), rfl⟩
theorem ml_X10_243 : Cond.methodLink RX10 243 yX10_freshSend ∈ TS := List.mem_filter.mpr ⟨mt_5 (List.mem_of_getElem? (i := 189) (by decide +kernel)), rfl⟩
theorem im_X10_freshSend : Cond.instanceMethod yX10_freshSend ∈ TS := List.mem_filter.mpr ⟨mt_5 (List.mem_of_getElem? (i := 191) (by decide +kernel)), rfl⟩
set_option maxRecDepth 100000 in
theorem co_X10_freshSend : Cond.code yX10_freshSend cX10_freshSend 4 none ∈ TS := List.mem_filter.mpr ⟨mt_5 (List.mem_of_getElem? (i := 192) (by show tables_1_5[_]? = _; rfl)), rfl⟩
theorem ml_X10_225 : Cond.methodLink RX10 225 yX10_refuse ∈ TS := List.mem_filter.mpr ⟨mt_5 (List.mem_of_getElem? (i := 193) (by decide +kernel)), rfl⟩
theorem im_X10_refuse : Cond.instanceMethod yX10_refuse ∈ TS := List.mem_filter.mpr ⟨mt_5 (List.mem_of_getElem? (i := 195) (by decide +kernel)), rfl⟩
set_option maxRecDepth 100000 in
theorem co_X10_refuse : Cond.code yX10_refuse cX10_refuse 4 none ∈ TS := List.mem_filter.mpr ⟨mt_5 (List.mem_of_getElem? (i := 196) (by show tables_1_5[_]? = _; rfl)), rfl⟩
theorem ml_X10_221 : Cond.methodLink RX10 221 yX10_failPair ∈ TS := List.mem_filter.mpr ⟨mt_5 (List.mem_of_getElem? (i := 197) (by decide +kernel)), rfl⟩
theorem im_X10_failPair : Cond.instanceMethod yX10_failPair ∈ TS := List.mem_filter.mpr ⟨mt_5 (List.mem_of_getElem? (i := 199) (by decide +kernel)), rfl⟩
set_option maxRecDepth 100000 in
theorem co_X10_failPair : Cond.code yX10_failPair cX10_failPair 6 none ∈ TS := List.mem_filter.mpr ⟨mt_5 (List.mem_of_getElem? (i := 200) (by show tables_1_5[_]? = _; rfl)), rfl⟩
theorem ml_X10_207 : Cond.methodLink RX10 207 yX10_complete ∈ TS := List.mem_filter.mpr ⟨mt_5 (List.mem_of_getElem? (i := 201) (by decide +kernel)), rfl⟩
theorem im_X10_complete : Cond.instanceMethod yX10_complete ∈ TS := List.mem_filter.mpr ⟨mt_5 (List.mem_of_getElem? (i := 203) (by decide +kernel)), rfl⟩
set_option maxRecDepth 100000 in
theorem co_X10_complete : Cond.code yX10_complete cX10_complete 8 none ∈ TS := List.mem_filter.mpr ⟨mt_5 (List.mem_of_getElem? (i := 204) (by show tables_1_5[_]? = _; rfl)), rfl⟩
theorem ml_X10_228 : Cond.methodLink RX10 228 yX10_takeCells ∈ TS := List.mem_filter.mpr ⟨mt_5 (List.mem_of_getElem? (i := 205) (by decide +kernel)), rfl⟩
theorem im_X10_takeCells : Cond.instanceMethod yX10_takeCells ∈ TS := List.mem_filter.mpr ⟨mt_5 (List.mem_of_getElem? (i := 207) (by decide +kernel)), rfl⟩
set_option maxRecDepth 100000 in
theorem co_X10_takeCells : Cond.code yX10_takeCells cX10_takeCells 4 none ∈ TS := List.mem_filter.mpr ⟨mt_5 (List.mem_of_getElem? (i := 208) (by show tables_1_5[_]? = _; rfl)), rfl⟩
theorem ml_X10_231 : Cond.methodLink RX10 231 yX10_accept ∈ TS := List.mem_filter.mpr ⟨mt_5 (List.mem_of_getElem? (i := 209) (by decide +kernel)), rfl⟩
theorem im_X10_accept : Cond.instanceMethod yX10_accept ∈ TS := List.mem_filter.mpr ⟨mt_5 (List.mem_of_getElem? (i := 211) (by decide +kernel)), rfl⟩
set_option maxRecDepth 100000 in
theorem co_X10_accept : Cond.code yX10_accept cX10_accept 3 none ∈ TS := List.mem_filter.mpr ⟨mt_5 (List.mem_of_getElem? (i := 212) (by show tables_1_5[_]? = _; rfl)), rfl⟩
theorem ml_X10_234 : Cond.methodLink RX10 234 yX10_ack ∈ TS := List.mem_filter.mpr ⟨mt_5 (List.mem_of_getElem? (i := 213) (by decide +kernel)), rfl⟩
theorem im_X10_ack : Cond.instanceMethod yX10_ack ∈ TS := List.mem_filter.mpr ⟨mt_5 (List.mem_of_getElem? (i := 215) (by decide +kernel)), rfl⟩
set_option maxRecDepth 100000 in
theorem co_X10_ack : Cond.code yX10_ack cX10_ack 4 none ∈ TS := List.mem_filter.mpr ⟨mt_5 (List.mem_of_getElem? (i := 216) (by show tables_1_5[_]? = _; rfl)), rfl⟩
theorem ml_X10_237 : Cond.methodLink RX10 237 yX10_dropReceive ∈ TS := List.mem_filter.mpr ⟨mt_5 (List.mem_of_getElem? (i := 217) (by decide +kernel)), rfl⟩
theorem im_X10_dropReceive : Cond.instanceMethod yX10_dropReceive ∈ TS := List.mem_filter.mpr ⟨mt_5 (List.mem_of_getElem? (i := 219) (by decide +kernel)), rfl⟩
set_option maxRecDepth 100000 in
theorem co_X10_dropReceive : Cond.code yX10_dropReceive cX10_dropReceive 3 none ∈ TS := List.mem_filter.mpr ⟨mt_5 (List.mem_of_getElem? (i := 220) (by show tables_1_5[_]? = _; rfl)), rfl⟩
theorem ml_X10_246 : Cond.methodLink RX10 246 yX10_allows ∈ TS := List.mem_filter.mpr ⟨mt_5 (List.mem_of_getElem? (i := 221) (by decide +kernel)), rfl⟩
theorem im_X10_allows : Cond.instanceMethod yX10_allows ∈ TS := List.mem_filter.mpr ⟨mt_5 (List.mem_of_getElem? (i := 223) (by decide +kernel)), rfl⟩
set_option maxRecDepth 100000 in
theorem co_X10_allows : Cond.code yX10_allows cX10_allows 8 (some .boolean) ∈ TS := List.mem_filter.mpr ⟨mt_5 (List.mem_of_getElem? (i := 224) (by show tables_1_5[_]? = _; rfl)), rfl⟩
theorem ml_X10_250 : Cond.methodLink RX10 250 yX10_reads ∈ TS := List.mem_filter.mpr ⟨mt_5 (List.mem_of_getElem? (i := 225) (by decide +kernel)), rfl⟩
theorem im_X10_reads : Cond.instanceMethod yX10_reads ∈ TS := List.mem_filter.mpr ⟨mt_5 (List.mem_of_getElem? (i := 227) (by decide +kernel)), rfl⟩
set_option maxRecDepth 100000 in
theorem co_X10_reads : Cond.code yX10_reads cX10_reads 5 none ∈ TS := List.mem_filter.mpr ⟨mt_5 (List.mem_of_getElem? (i := 228) (by show tables_1_5[_]? = _; rfl)), rfl⟩
theorem ml_X10_253 : Cond.methodLink RX10 253 yX10_freshAdd ∈ TS := List.mem_filter.mpr ⟨mt_5 (List.mem_of_getElem? (i := 229) (by decide +kernel)), rfl⟩
theorem im_X10_freshAdd : Cond.instanceMethod yX10_freshAdd ∈ TS := List.mem_filter.mpr ⟨mt_5 (List.mem_of_getElem? (i := 231) (by decide +kernel)), rfl⟩
set_option maxRecDepth 100000 in
theorem co_X10_freshAdd : Cond.code yX10_freshAdd cX10_freshAdd 4 none ∈ TS := List.mem_filter.mpr ⟨mt_5 (List.mem_of_getElem? (i := 232) (by show tables_1_5[_]? = _; rfl)), rfl⟩
theorem ml_X10_240 : Cond.methodLink RX10 240 yX10_replyOld ∈ TS := List.mem_filter.mpr ⟨mt_5 (List.mem_of_getElem? (i := 233) (by decide +kernel)), rfl⟩
theorem im_X10_replyOld : Cond.instanceMethod yX10_replyOld ∈ TS := List.mem_filter.mpr ⟨mt_5 (List.mem_of_getElem? (i := 235) (by decide +kernel)), rfl⟩
set_option maxRecDepth 100000 in
theorem co_X10_replyOld : Cond.code yX10_replyOld cX10_replyOld 4 none ∈ TS := List.mem_filter.mpr ⟨mt_5 (List.mem_of_getElem? (i := 236) (by show tables_1_5[_]? = _; rfl)), rfl⟩
theorem ml_X10_259 : Cond.methodLink RX10 259 yX10_again ∈ TS := List.mem_filter.mpr ⟨mt_5 (List.mem_of_getElem? (i := 237) (by decide +kernel)), rfl⟩
theorem im_X10_again : Cond.instanceMethod yX10_again ∈ TS := List.mem_filter.mpr ⟨mt_5 (List.mem_of_getElem? (i := 239) (by decide +kernel)), rfl⟩
set_option maxRecDepth 100000 in
theorem co_X10_again : Cond.code yX10_again cX10_again 5 none ∈ TS := List.mem_filter.mpr ⟨mt_6 (List.mem_of_getElem? (i := 0) (by show tables_1_6[_]? = _; rfl)), rfl⟩
theorem ml_X10_271 : Cond.methodLink RX10 271 yX10_replied ∈ TS := List.mem_filter.mpr ⟨mt_6 (List.mem_of_getElem? (i := 1) (by decide +kernel)), rfl⟩
theorem im_X10_replied : Cond.instanceMethod yX10_replied ∈ TS := List.mem_filter.mpr ⟨mt_6 (List.mem_of_getElem? (i := 3) (by decide +kernel)), rfl⟩
set_option maxRecDepth 100000 in
theorem co_X10_replied : Cond.code yX10_replied cX10_replied 5 none ∈ TS := List.mem_filter.mpr ⟨mt_6 (List.mem_of_getElem? (i := 4) (by show tables_1_6[_]? = _; rfl)), rfl⟩
theorem ml_X10_215 : Cond.methodLink RX10 215 yX10_hasCells ∈ TS := List.mem_filter.mpr ⟨mt_6 (List.mem_of_getElem? (i := 5) (by decide +kernel)), rfl⟩
theorem im_X10_hasCells : Cond.instanceMethod yX10_hasCells ∈ TS := List.mem_filter.mpr ⟨mt_6 (List.mem_of_getElem? (i := 7) (by decide +kernel)), rfl⟩
set_option maxRecDepth 100000 in
theorem co_X10_hasCells : Cond.code yX10_hasCells cX10_hasCells 2 (some .boolean) ∈ TS := List.mem_filter.mpr ⟨mt_6 (List.mem_of_getElem? (i := 8) (by show tables_1_6[_]? = _; rfl)), rfl⟩
theorem ml_X10_218 : Cond.methodLink RX10 218 yX10_answerOne ∈ TS := List.mem_filter.mpr ⟨mt_6 (List.mem_of_getElem? (i := 9) (by decide +kernel)), rfl⟩
theorem im_X10_answerOne : Cond.instanceMethod yX10_answerOne ∈ TS := List.mem_filter.mpr ⟨mt_6 (List.mem_of_getElem? (i := 11) (by decide +kernel)), rfl⟩
set_option maxRecDepth 100000 in
theorem co_X10_answerOne : Cond.code yX10_answerOne cX10_answerOne 4 none ∈ TS := List.mem_filter.mpr ⟨mt_6 (List.mem_of_getElem? (i := 12) (by show tables_1_6[_]? = _; rfl)), rfl⟩
theorem ml_X10_211 : Cond.methodLink RX10 211 yX10_dropRequest ∈ TS := List.mem_filter.mpr ⟨mt_6 (List.mem_of_getElem? (i := 13) (by decide +kernel)), rfl⟩
theorem im_X10_dropRequest : Cond.instanceMethod yX10_dropRequest ∈ TS := List.mem_filter.mpr ⟨mt_6 (List.mem_of_getElem? (i := 15) (by decide +kernel)), rfl⟩
set_option maxRecDepth 100000 in
theorem co_X10_dropRequest : Cond.code yX10_dropRequest cX10_dropRequest 3 none ∈ TS := List.mem_filter.mpr ⟨mt_6 (List.mem_of_getElem? (i := 16) (by show tables_1_6[_]? = _; rfl)), rfl⟩
theorem ml_X10_262 : Cond.methodLink RX10 262 yX10_answerSome ∈ TS := List.mem_filter.mpr ⟨mt_6 (List.mem_of_getElem? (i := 17) (by decide +kernel)), rfl⟩
theorem im_X10_answerSome : Cond.instanceMethod yX10_answerSome ∈ TS := List.mem_filter.mpr ⟨mt_6 (List.mem_of_getElem? (i := 19) (by decide +kernel)), rfl⟩
set_option maxRecDepth 100000 in
theorem co_X10_answerSome : Cond.code yX10_answerSome cX10_answerSome 4 none ∈ TS := List.mem_filter.mpr ⟨mt_6 (List.mem_of_getElem? (i := 20) (by show tables_1_6[_]? = _; rfl)), rfl⟩
theorem ml_X10_274 : Cond.methodLink RX10 274 yX10_refused ∈ TS := List.mem_filter.mpr ⟨mt_6 (List.mem_of_getElem? (i := 21) (by decide +kernel)), rfl⟩
theorem im_X10_refused : Cond.instanceMethod yX10_refused ∈ TS := List.mem_filter.mpr ⟨mt_6 (List.mem_of_getElem? (i := 23) (by decide +kernel)), rfl⟩
set_option maxRecDepth 100000 in
theorem co_X10_refused : Cond.code yX10_refused cX10_refused 4 none ∈ TS := List.mem_filter.mpr ⟨mt_6 (List.mem_of_getElem? (i := 24) (by show tables_1_6[_]? = _; rfl)), rfl⟩
theorem ml_L_107 : Cond.methodLink RL 107 yX10_spoil ∈ TS := List.mem_filter.mpr ⟨mt_6 (List.mem_of_getElem? (i := 25) (by decide +kernel)), rfl⟩
theorem im_X10_spoil : Cond.instanceMethod yX10_spoil ∈ TS := List.mem_filter.mpr ⟨mt_6 (List.mem_of_getElem? (i := 26) (by decide +kernel)), rfl⟩
theorem se_X10_X10_spoil : Cond.selects RX10 yX10_spoil yX10_spoil ∈ TS := List.mem_filter.mpr ⟨mt_6 (List.mem_of_getElem? (i := 27) (by decide +kernel)), rfl⟩
set_option maxRecDepth 100000 in
theorem co_X10_spoil : Cond.code yX10_spoil cX10_spoil 3 (some .boolean) ∈ TS := List.mem_filter.mpr ⟨mt_6 (List.mem_of_getElem? (i := 28) (by show tables_1_6[_]? = _; rfl)), rfl⟩
theorem ml_L_111 : Cond.methodLink RL 111 yX10_tick ∈ TS := List.mem_filter.mpr ⟨mt_6 (List.mem_of_getElem? (i := 29) (by decide +kernel)), rfl⟩
theorem im_X10_tick : Cond.instanceMethod yX10_tick ∈ TS := List.mem_filter.mpr ⟨mt_6 (List.mem_of_getElem? (i := 30) (by decide +kernel)), rfl⟩
theorem se_X10_X10_tick : Cond.selects RX10 yX10_tick yX10_tick ∈ TS := List.mem_filter.mpr ⟨mt_6 (List.mem_of_getElem? (i := 31) (by decide +kernel)), rfl⟩
set_option maxRecDepth 100000 in
theorem co_X10_tick : Cond.code yX10_tick cX10_tick 3 (some .int) ∈ TS := List.mem_filter.mpr ⟨mt_6 (List.mem_of_getElem? (i := 32) (by show tables_1_6[_]? = _; rfl)), rfl⟩
theorem ml_X10_277 : Cond.methodLink RX10 277 yX10_tickPair ∈ TS := List.mem_filter.mpr ⟨mt_6 (List.mem_of_getElem? (i := 33) (by decide +kernel)), rfl⟩
theorem im_X10_tickPair : Cond.instanceMethod yX10_tickPair ∈ TS := List.mem_filter.mpr ⟨mt_6 (List.mem_of_getElem? (i := 35) (by decide +kernel)), rfl⟩
set_option maxRecDepth 100000 in
theorem co_X10_tickPair : Cond.code yX10_tickPair cX10_tickPair 2 (some .int) ∈ TS := List.mem_filter.mpr ⟨mt_6 (List.mem_of_getElem? (i := 36) (by show tables_1_6[_]? = _; rfl)), rfl⟩
theorem ml_L_115 : Cond.methodLink RL 115 yX10_packets ∈ TS := List.mem_filter.mpr ⟨mt_6 (List.mem_of_getElem? (i := 37) (by decide +kernel)), rfl⟩
theorem im_X10_packets : Cond.instanceMethod yX10_packets ∈ TS := List.mem_filter.mpr ⟨mt_6 (List.mem_of_getElem? (i := 38) (by decide +kernel)), rfl⟩
theorem se_X10_X10_packets : Cond.selects RX10 yX10_packets yX10_packets ∈ TS := List.mem_filter.mpr ⟨mt_6 (List.mem_of_getElem? (i := 39) (by decide +kernel)), rfl⟩
set_option maxRecDepth 100000 in
theorem co_X10_packets : Cond.code yX10_packets cX10_packets 1 (some .int) ∈ TS := List.mem_filter.mpr ⟨mt_6 (List.mem_of_getElem? (i := 40) (by show tables_1_6[_]? = _; rfl)), rfl⟩
theorem ml_L_119 : Cond.methodLink RL 119 yX10_packet ∈ TS := List.mem_filter.mpr ⟨mt_6 (List.mem_of_getElem? (i := 41) (by decide +kernel)), rfl⟩
theorem im_X10_packet : Cond.instanceMethod yX10_packet ∈ TS := List.mem_filter.mpr ⟨mt_6 (List.mem_of_getElem? (i := 42) (by decide +kernel)), rfl⟩
theorem se_X10_X10_packet : Cond.selects RX10 yX10_packet yX10_packet ∈ TS := List.mem_filter.mpr ⟨mt_6 (List.mem_of_getElem? (i := 43) (by decide +kernel)), rfl⟩
set_option maxRecDepth 100000 in
theorem co_X10_packet : Cond.code yX10_packet cX10_packet 3 (some .int) ∈ TS := List.mem_filter.mpr ⟨mt_6 (List.mem_of_getElem? (i := 44) (by show tables_1_6[_]? = _; rfl)), rfl⟩
theorem ml_L_123 : Cond.methodLink RL 123 yX10_pair ∈ TS := List.mem_filter.mpr ⟨mt_6 (List.mem_of_getElem? (i := 45) (by decide +kernel)), rfl⟩
theorem im_X10_pair : Cond.instanceMethod yX10_pair ∈ TS := List.mem_filter.mpr ⟨mt_6 (List.mem_of_getElem? (i := 46) (by decide +kernel)), rfl⟩
theorem se_X10_X10_pair : Cond.selects RX10 yX10_pair yX10_pair ∈ TS := List.mem_filter.mpr ⟨mt_6 (List.mem_of_getElem? (i := 47) (by decide +kernel)), rfl⟩
set_option maxRecDepth 100000 in
theorem co_X10_pair : Cond.code yX10_pair cX10_pair 4 (some .int) ∈ TS := List.mem_filter.mpr ⟨mt_6 (List.mem_of_getElem? (i := 48) (by show tables_1_6[_]? = _; rfl)), rfl⟩
theorem ml_L_127 : Cond.methodLink RL 127 yX10_completions ∈ TS := List.mem_filter.mpr ⟨mt_6 (List.mem_of_getElem? (i := 49) (by decide +kernel)), rfl⟩
theorem im_X10_completions : Cond.instanceMethod yX10_completions ∈ TS := List.mem_filter.mpr ⟨mt_6 (List.mem_of_getElem? (i := 50) (by decide +kernel)), rfl⟩
theorem se_X10_X10_completions : Cond.selects RX10 yX10_completions yX10_completions ∈ TS := List.mem_filter.mpr ⟨mt_6 (List.mem_of_getElem? (i := 51) (by decide +kernel)), rfl⟩
set_option maxRecDepth 100000 in
theorem co_X10_completions : Cond.code yX10_completions cX10_completions 2 (some .int) ∈ TS := List.mem_filter.mpr ⟨mt_6 (List.mem_of_getElem? (i := 52) (by show tables_1_6[_]? = _; rfl)), rfl⟩
theorem ml_L_131 : Cond.methodLink RL 131 yX10_poll ∈ TS := List.mem_filter.mpr ⟨mt_6 (List.mem_of_getElem? (i := 53) (by decide +kernel)), rfl⟩
theorem im_X10_poll : Cond.instanceMethod yX10_poll ∈ TS := List.mem_filter.mpr ⟨mt_6 (List.mem_of_getElem? (i := 54) (by decide +kernel)), rfl⟩
theorem se_X10_X10_poll : Cond.selects RX10 yX10_poll yX10_poll ∈ TS := List.mem_filter.mpr ⟨mt_6 (List.mem_of_getElem? (i := 55) (by decide +kernel)), rfl⟩
set_option maxRecDepth 100000 in
theorem co_X10_poll : Cond.code yX10_poll cX10_poll 3 (some .int) ∈ TS := List.mem_filter.mpr ⟨mt_6 (List.mem_of_getElem? (i := 56) (by show tables_1_6[_]? = _; rfl)), rfl⟩
theorem ml_X10_280 : Cond.methodLink RX10 280 yX10_dropEnd ∈ TS := List.mem_filter.mpr ⟨mt_6 (List.mem_of_getElem? (i := 57) (by decide +kernel)), rfl⟩
theorem im_X10_dropEnd : Cond.instanceMethod yX10_dropEnd ∈ TS := List.mem_filter.mpr ⟨mt_6 (List.mem_of_getElem? (i := 59) (by decide +kernel)), rfl⟩
set_option maxRecDepth 100000 in
theorem co_X10_dropEnd : Cond.code yX10_dropEnd cX10_dropEnd 3 (some .int) ∈ TS := List.mem_filter.mpr ⟨mt_6 (List.mem_of_getElem? (i := 60) (by show tables_1_6[_]? = _; rfl)), rfl⟩
theorem ac_long : Cond.arrayClass .long ∈ TS := List.mem_filter.mpr ⟨mt_6 (List.mem_of_getElem? (i := 61) (by decide +kernel)), rfl⟩
