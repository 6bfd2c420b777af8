/-! the good words of the tables, one list for every method -/
def WA : List Cond := lw_tbl.filter goodWord
theorem wa_of {i : Nat} {w : Cond} (h : lw_tbl[i]? = some w) (g : goodWord w = true) : w ∈ WA := List.mem_filter.mpr ⟨List.mem_of_getElem? h, g⟩
theorem wa_in {w : Cond} (h : w ∈ WA) : w ∈ lw_tbl := (List.mem_filter.mp h).1
theorem wa_good {ws : List Cond} (h : ∀ w ∈ ws, w ∈ WA) : GoodIn WA ws := fun w hw => ⟨h w hw, good_of_word (List.mem_filter.mp (h w hw)).2⟩
theorem wa_sub {ws : List Cond} (h : ∀ w ∈ ws, w ∈ lw_tbl) (g : ws.all goodWord = true) : ∀ w ∈ ws, w ∈ WA := fun w hw => List.mem_filter.mpr ⟨h w hw, List.all_eq_true.mp g w hw⟩

theorem kn_L : Cond.initialized RL ∈ WA := wa_of (i := 29) (by decide +kernel) rfl
theorem kn_X3 : Cond.initialized RX3 ∈ WA := wa_of (i := 30) (by decide +kernel) rfl
theorem kn_X1 : Cond.initialized RX1 ∈ WA := wa_of (i := 31) (by decide +kernel) rfl
theorem kn_X2 : Cond.initialized RX2 ∈ WA := wa_of (i := 32) (by decide +kernel) rfl
theorem kn_X0 : Cond.initialized RX0 ∈ WA := wa_of (i := 33) (by decide +kernel) rfl
theorem kn_X4 : Cond.initialized RX4 ∈ WA := wa_of (i := 34) (by decide +kernel) rfl
theorem kn_Throwable : Cond.initialized "java/lang/Throwable" ∈ WA := wa_of (i := 35) (by decide +kernel) rfl
theorem kn_Exception : Cond.initialized "java/lang/Exception" ∈ WA := wa_of (i := 36) (by decide +kernel) rfl
theorem kn_RuntimeException : Cond.initialized "java/lang/RuntimeException" ∈ WA := wa_of (i := 37) (by decide +kernel) rfl
theorem kn_IllegalArgumentException : Cond.initialized "java/lang/IllegalArgumentException" ∈ WA := wa_of (i := 38) (by decide +kernel) rfl
theorem kn_IllegalStateException : Cond.initialized "java/lang/IllegalStateException" ∈ WA := wa_of (i := 39) (by decide +kernel) rfl
theorem kn_J9 : Cond.initialized RJ9 ∈ WA := wa_of (i := 40) (by decide +kernel) rfl
theorem kn_J10 : Cond.initialized RJ10 ∈ WA := wa_of (i := 41) (by decide +kernel) rfl
theorem kn_IndexOutOfBoundsException : Cond.initialized "java/lang/IndexOutOfBoundsException" ∈ WA := wa_of (i := 42) (by decide +kernel) rfl
theorem kn_Jx00060 : Cond.initialized RJx00060 ∈ WA := wa_of (i := 43) (by decide +kernel) rfl
theorem kn_J0 : Cond.initialized RJ0 ∈ WA := wa_of (i := 44) (by decide +kernel) rfl
theorem kn_ArithmeticException : Cond.initialized "java/lang/ArithmeticException" ∈ WA := wa_of (i := 45) (by decide +kernel) rfl
theorem kk_L_8 : Cond.classLink RL 8 RX3 ∈ WA := wa_of (i := 46) (by decide +kernel) rfl
theorem ko_X3 : Cond.instantiable RX3 2 ∈ WA := wa_of (i := 47) (by decide +kernel) rfl
theorem kl_L_81 : Cond.methodLink RL 81 yX3_init ∈ WA := wa_of (i := 48) (by decide +kernel) rfl
theorem ki_X3_init : Cond.instanceMethod yX3_init ∈ WA := wa_of (i := 49) (by decide +kernel) rfl
theorem kc_X3_init : Cond.code yX3_init cX3_init 1 none ∈ WA := wa_of (i := 50) (by decide +kernel) rfl
theorem kl_X3_1 : Cond.methodLink RX3 1 objectInit ∈ WA := wa_of (i := 51) (by decide +kernel) rfl
theorem ki_objectInit : Cond.instanceMethod objectInit ∈ WA := wa_of (i := 52) (by decide +kernel) rfl
theorem kc_objectInit : Cond.code objectInit ⟨#[0xb1]⟩ 1 none ∈ WA := wa_of (i := 53) (by decide +kernel) rfl
theorem kk_X3_7 : Cond.classLink RX3 7 RX1 ∈ WA := wa_of (i := 54) (by decide +kernel) rfl
theorem ko_X1 : Cond.instantiable RX1 4 ∈ WA := wa_of (i := 55) (by decide +kernel) rfl
theorem kl_X3_9 : Cond.methodLink RX3 9 yX1_init ∈ WA := wa_of (i := 56) (by decide +kernel) rfl
theorem ki_X1_init : Cond.instanceMethod yX1_init ∈ WA := wa_of (i := 57) (by decide +kernel) rfl
theorem kc_X1_init : Cond.code yX1_init cX1_init 1 none ∈ WA := wa_of (i := 58) (by decide +kernel) rfl
theorem kl_X1_3 : Cond.methodLink RX1 3 objectInit ∈ WA := wa_of (i := 59) (by decide +kernel) rfl
theorem kk_X1_9 : Cond.classLink RX1 9 RX2 ∈ WA := wa_of (i := 60) (by decide +kernel) rfl
theorem ko_X2 : Cond.instantiable RX2 3 ∈ WA := wa_of (i := 61) (by decide +kernel) rfl
theorem kl_X1_11 : Cond.methodLink RX1 11 yX2_init ∈ WA := wa_of (i := 62) (by decide +kernel) rfl
theorem ki_X2_init : Cond.instanceMethod yX2_init ∈ WA := wa_of (i := 63) (by decide +kernel) rfl
theorem kc_X2_init : Cond.code yX2_init cX2_init 3 none ∈ WA := wa_of (i := 64) (by decide +kernel) rfl
theorem kl_X2_3 : Cond.methodLink RX2 3 objectInit ∈ WA := wa_of (i := 65) (by decide +kernel) rfl
theorem kf_X2_9 : Cond.fieldLink RX2 9 "RangingNet$Table" "cells" "[I" ∈ WA := wa_of (i := 66) (by decide +kernel) rfl
theorem kf_X2_15 : Cond.fieldLink RX2 15 "RangingNet$Table" "width" "I" ∈ WA := wa_of (i := 67) (by decide +kernel) rfl
theorem kf_X2_19 : Cond.fieldLink RX2 19 "RangingNet$Table" "count" "I" ∈ WA := wa_of (i := 68) (by decide +kernel) rfl
theorem ka_int : Cond.arrayClass .int ∈ WA := wa_of (i := 78) (by decide +kernel) rfl
theorem kf_X1_26 : Cond.fieldLink RX1 26 "RangingNet$State" "time" "J" ∈ WA := wa_of (i := 79) (by decide +kernel) rfl
theorem kf_X1_14 : Cond.fieldLink RX1 14 "RangingNet$State" "nodes" "LRangingNet$Table;" ∈ WA := wa_of (i := 81) (by decide +kernel) rfl
theorem kf_X1_20 : Cond.fieldLink RX1 20 "RangingNet$State" "records" "LRangingNet$Table;" ∈ WA := wa_of (i := 83) (by decide +kernel) rfl
theorem kf_X1_23 : Cond.fieldLink RX1 23 "RangingNet$State" "plans" "LRangingNet$Table;" ∈ WA := wa_of (i := 85) (by decide +kernel) rfl
theorem kk_X3_16 : Cond.classLink RX3 16 RX0 ∈ WA := wa_of (i := 96) (by decide +kernel) rfl
theorem ko_X0 : Cond.instantiable RX0 3 ∈ WA := wa_of (i := 97) (by decide +kernel) rfl
theorem kl_X3_18 : Cond.methodLink RX3 18 yX0_init ∈ WA := wa_of (i := 98) (by decide +kernel) rfl
theorem ki_X0_init : Cond.instanceMethod yX0_init ∈ WA := wa_of (i := 99) (by decide +kernel) rfl
theorem kc_X0_init : Cond.code yX0_init cX0_init 2 none ∈ WA := wa_of (i := 100) (by decide +kernel) rfl
theorem kl_X0_3 : Cond.methodLink RX0 3 objectInit ∈ WA := wa_of (i := 101) (by decide +kernel) rfl
theorem kk_X0_9 : Cond.classLink RX0 9 RX1 ∈ WA := wa_of (i := 102) (by decide +kernel) rfl
theorem kl_X0_17 : Cond.methodLink RX0 17 yX1_init ∈ WA := wa_of (i := 104) (by decide +kernel) rfl
theorem kf_X0_11 : Cond.fieldLink RX0 11 "RangingNet$History" "states" "[LRangingNet$State;" ∈ WA := wa_of (i := 105) (by decide +kernel) rfl
theorem kf_X0_18 : Cond.fieldLink RX0 18 "RangingNet$History" "newest" "I" ∈ WA := wa_of (i := 106) (by decide +kernel) rfl
theorem kf_X0_36 : Cond.fieldLink RX0 36 "RangingNet$History" "count" "I" ∈ WA := wa_of (i := 107) (by decide +kernel) rfl
theorem kf_X3_10 : Cond.fieldLink RX3 10 "RangingNet" "state" "LRangingNet$State;" ∈ WA := wa_of (i := 116) (by decide +kernel) rfl
theorem kf_X3_19 : Cond.fieldLink RX3 19 "RangingNet" "history" "LRangingNet$History;" ∈ WA := wa_of (i := 117) (by decide +kernel) rfl
theorem kl_L_119 : Cond.methodLink RL 119 yX3_nextPlanned ∈ WA := wa_of (i := 123) (by decide +kernel) rfl
theorem ki_X3_nextPlanned : Cond.instanceMethod yX3_nextPlanned ∈ WA := wa_of (i := 124) (by decide +kernel) rfl
theorem ks_X3_nextPlanned : Cond.selects RX3 yX3_nextPlanned yX3_nextPlanned ∈ WA := wa_of (i := 125) (by decide +kernel) rfl
theorem kc_X3_nextPlanned : Cond.code yX3_nextPlanned cX3_nextPlanned 1 (some .int) ∈ WA := wa_of (i := 126) (by decide +kernel) rfl
theorem kl_X3_64 : Cond.methodLink RX3 64 yX2_get ∈ WA := wa_of (i := 127) (by decide +kernel) rfl
theorem ki_X2_get : Cond.instanceMethod yX2_get ∈ WA := wa_of (i := 128) (by decide +kernel) rfl
theorem ks_X2_get : Cond.selects RX2 yX2_get yX2_get ∈ WA := wa_of (i := 129) (by decide +kernel) rfl
theorem kc_X2_get : Cond.code yX2_get cX2_get 4 (some .int) ∈ WA := wa_of (i := 130) (by decide +kernel) rfl
theorem kl_L_126 : Cond.methodLink RL 126 yX3_now ∈ WA := wa_of (i := 131) (by decide +kernel) rfl
theorem ki_X3_now : Cond.instanceMethod yX3_now ∈ WA := wa_of (i := 132) (by decide +kernel) rfl
theorem ks_X3_now : Cond.selects RX3 yX3_now yX3_now ∈ WA := wa_of (i := 133) (by decide +kernel) rfl
theorem kc_X3_now : Cond.code yX3_now cX3_now 1 (some .long) ∈ WA := wa_of (i := 134) (by decide +kernel) rfl
theorem kl_L_131 : Cond.methodLink RL 131 yX3_exchanges ∈ WA := wa_of (i := 135) (by decide +kernel) rfl
theorem ki_X3_exchanges : Cond.instanceMethod yX3_exchanges ∈ WA := wa_of (i := 136) (by decide +kernel) rfl
theorem ks_X3_exchanges : Cond.selects RX3 yX3_exchanges yX3_exchanges ∈ WA := wa_of (i := 137) (by decide +kernel) rfl
theorem kc_X3_exchanges : Cond.code yX3_exchanges cX3_exchanges 1 (some .int) ∈ WA := wa_of (i := 138) (by decide +kernel) rfl
theorem kl_L_167 : Cond.methodLink RL 167 yX3_digest ∈ WA := wa_of (i := 139) (by decide +kernel) rfl
theorem ki_X3_digest : Cond.instanceMethod yX3_digest ∈ WA := wa_of (i := 140) (by decide +kernel) rfl
theorem ks_X3_digest : Cond.selects RX3 yX3_digest yX3_digest ∈ WA := wa_of (i := 141) (by decide +kernel) rfl
theorem kc_X3_digest : Cond.code yX3_digest cX3_digest 3 (some .long) ∈ WA := wa_of (i := 142) (by decide +kernel) rfl
theorem kw_X3_175 : Cond.constantLong RX3 175 (2797) ∈ WA := wa_of (i := 143) (by decide +kernel) rfl
theorem kl_X3_177 : Cond.methodLink RX3 177 yX3_mix ∈ WA := wa_of (i := 144) (by decide +kernel) rfl
theorem kt_X3_mix : Cond.static yX3_mix ∈ WA := wa_of (i := 145) (by decide +kernel) rfl
theorem kc_X3_mix : Cond.code yX3_mix cX3_mix 4 (some .long) ∈ WA := wa_of (i := 146) (by decide +kernel) rfl
theorem kw_X3_215 : Cond.constantLong RX3 215 (31) ∈ WA := wa_of (i := 147) (by decide +kernel) rfl
theorem kl_X3_181 : Cond.methodLink RX3 181 yX1_mixNodes ∈ WA := wa_of (i := 148) (by decide +kernel) rfl
theorem ki_X1_mixNodes : Cond.instanceMethod yX1_mixNodes ∈ WA := wa_of (i := 149) (by decide +kernel) rfl
theorem ks_X1_mixNodes : Cond.selects RX1 yX1_mixNodes yX1_mixNodes ∈ WA := wa_of (i := 150) (by decide +kernel) rfl
theorem kc_X1_mixNodes : Cond.code yX1_mixNodes cX1_mixNodes 7 (some .long) ∈ WA := wa_of (i := 151) (by decide +kernel) rfl
theorem kl_X1_34 : Cond.methodLink RX1 34 yX2_get ∈ WA := wa_of (i := 153) (by decide +kernel) rfl
theorem kl_X1_71 : Cond.methodLink RX1 71 yX1_counterAt ∈ WA := wa_of (i := 154) (by decide +kernel) rfl
theorem ki_X1_counterAt : Cond.instanceMethod yX1_counterAt ∈ WA := wa_of (i := 155) (by decide +kernel) rfl
theorem ks_X1_counterAt : Cond.selects RX1 yX1_counterAt yX1_counterAt ∈ WA := wa_of (i := 156) (by decide +kernel) rfl
theorem kc_X1_counterAt : Cond.code yX1_counterAt cX1_counterAt 6 (some .int) ∈ WA := wa_of (i := 157) (by decide +kernel) rfl
theorem kv_X1_45 : Cond.constant RX1 45 (1000000) ∈ WA := wa_of (i := 158) (by decide +kernel) rfl
theorem kw_X1_46 : Cond.constantLong RX1 46 (1000000) ∈ WA := wa_of (i := 159) (by decide +kernel) rfl
theorem kw_X1_48 : Cond.constantLong RX1 48 (1048576) ∈ WA := wa_of (i := 160) (by decide +kernel) rfl
theorem kl_X1_50 : Cond.methodLink RX1 50 yJ9_floorMod_f86c9 ∈ WA := wa_of (i := 161) (by decide +kernel) rfl
theorem kt_J9_floorMod_f86c9 : Cond.static yJ9_floorMod_f86c9 ∈ WA := wa_of (i := 162) (by decide +kernel) rfl
theorem kc_J9_floorMod_f86c9 : Cond.code yJ9_floorMod_f86c9 cJ9_floorMod_f86c9 6 (some .long) ∈ WA := wa_of (i := 163) (by decide +kernel) rfl
theorem kl_X3_185 : Cond.methodLink RX3 185 yX1_mixRecords ∈ WA := wa_of (i := 164) (by decide +kernel) rfl
theorem ki_X1_mixRecords : Cond.instanceMethod yX1_mixRecords ∈ WA := wa_of (i := 165) (by decide +kernel) rfl
theorem ks_X1_mixRecords : Cond.selects RX1 yX1_mixRecords yX1_mixRecords ∈ WA := wa_of (i := 166) (by decide +kernel) rfl
theorem kc_X1_mixRecords : Cond.code yX1_mixRecords cX1_mixRecords 7 (some .long) ∈ WA := wa_of (i := 167) (by decide +kernel) rfl
theorem kl_X1_109 : Cond.methodLink RX1 109 yX1_rangeOf ∈ WA := wa_of (i := 168) (by decide +kernel) rfl
theorem ki_X1_rangeOf : Cond.instanceMethod yX1_rangeOf ∈ WA := wa_of (i := 169) (by decide +kernel) rfl
theorem ks_X1_rangeOf : Cond.selects RX1 yX1_rangeOf yX1_rangeOf ∈ WA := wa_of (i := 170) (by decide +kernel) rfl
theorem kc_X1_rangeOf : Cond.code yX1_rangeOf cX1_rangeOf 3 (some .int) ∈ WA := wa_of (i := 171) (by decide +kernel) rfl
theorem kl_X1_106 : Cond.methodLink RX1 106 yX1_rawRangeOf ∈ WA := wa_of (i := 172) (by decide +kernel) rfl
theorem ki_X1_rawRangeOf : Cond.instanceMethod yX1_rawRangeOf ∈ WA := wa_of (i := 173) (by decide +kernel) rfl
theorem ks_X1_rawRangeOf : Cond.selects RX1 yX1_rawRangeOf yX1_rawRangeOf ∈ WA := wa_of (i := 174) (by decide +kernel) rfl
theorem kc_X1_rawRangeOf : Cond.code yX1_rawRangeOf cX1_rawRangeOf 13 (some .int) ∈ WA := wa_of (i := 175) (by decide +kernel) rfl
theorem kl_X1_95 : Cond.methodLink RX1 95 yX1_elapsed ∈ WA := wa_of (i := 176) (by decide +kernel) rfl
theorem ki_X1_elapsed : Cond.instanceMethod yX1_elapsed ∈ WA := wa_of (i := 177) (by decide +kernel) rfl
theorem ks_X1_elapsed : Cond.selects RX1 yX1_elapsed yX1_elapsed ∈ WA := wa_of (i := 178) (by decide +kernel) rfl
theorem kc_X1_elapsed : Cond.code yX1_elapsed cX1_elapsed 4 (some .int) ∈ WA := wa_of (i := 179) (by decide +kernel) rfl
theorem kv_X1_92 : Cond.constant RX1 92 (1048576) ∈ WA := wa_of (i := 180) (by decide +kernel) rfl
theorem kl_X1_93 : Cond.methodLink RX1 93 yJ9_floorMod_7cf53 ∈ WA := wa_of (i := 181) (by decide +kernel) rfl
theorem kt_J9_floorMod_7cf53 : Cond.static yJ9_floorMod_7cf53 ∈ WA := wa_of (i := 182) (by decide +kernel) rfl
theorem kc_J9_floorMod_7cf53 : Cond.code yJ9_floorMod_7cf53 cJ9_floorMod_7cf53 3 (some .int) ∈ WA := wa_of (i := 183) (by decide +kernel) rfl
theorem kw_X1_99 : Cond.constantLong RX1 99 (2) ∈ WA := wa_of (i := 184) (by decide +kernel) rfl
theorem kl_X1_101 : Cond.methodLink RX1 101 yJ9_floorDiv_f86c9 ∈ WA := wa_of (i := 185) (by decide +kernel) rfl
theorem kt_J9_floorDiv_f86c9 : Cond.static yJ9_floorDiv_f86c9 ∈ WA := wa_of (i := 186) (by decide +kernel) rfl
theorem kc_J9_floorDiv_f86c9 : Cond.code yJ9_floorDiv_f86c9 cJ9_floorDiv_f86c9 6 (some .long) ∈ WA := wa_of (i := 187) (by decide +kernel) rfl
theorem kw_X1_104 : Cond.constantLong RX1 104 (4) ∈ WA := wa_of (i := 188) (by decide +kernel) rfl
theorem kl_X3_188 : Cond.methodLink RX3 188 yX1_mixPlans ∈ WA := wa_of (i := 189) (by decide +kernel) rfl
theorem ki_X1_mixPlans : Cond.instanceMethod yX1_mixPlans ∈ WA := wa_of (i := 190) (by decide +kernel) rfl
theorem ks_X1_mixPlans : Cond.selects RX1 yX1_mixPlans yX1_mixPlans ∈ WA := wa_of (i := 191) (by decide +kernel) rfl
theorem kc_X1_mixPlans : Cond.code yX1_mixPlans cX1_mixPlans 7 (some .long) ∈ WA := wa_of (i := 192) (by decide +kernel) rfl
theorem kl_L_85 : Cond.methodLink RL 85 yL_addNode ∈ WA := wa_of (i := 193) (by decide +kernel) rfl
theorem kt_L_addNode : Cond.static yL_addNode ∈ WA := wa_of (i := 194) (by decide +kernel) rfl
theorem kc_L_addNode : Cond.codeWith yL_addNode cL_addNode 8 (some .int) [(0, 16, 19, 13), (0, 16, 23, 15)] ∈ WA := wa_of (i := 195) (by decide +kernel) rfl
theorem kk_L_13 : Cond.classLink RL 13 "java/lang/IllegalArgumentException" ∈ WA := wa_of (i := 196) (by decide +kernel) rfl
theorem kk_L_15 : Cond.classLink RL 15 "java/lang/IllegalStateException" ∈ WA := wa_of (i := 197) (by decide +kernel) rfl
theorem kl_L_7 : Cond.methodLink RL 7 yX3_addNode ∈ WA := wa_of (i := 198) (by decide +kernel) rfl
theorem ki_X3_addNode : Cond.instanceMethod yX3_addNode ∈ WA := wa_of (i := 199) (by decide +kernel) rfl
theorem ks_X3_addNode : Cond.selects RX3 yX3_addNode yX3_addNode ∈ WA := wa_of (i := 200) (by decide +kernel) rfl
theorem kc_X3_addNode : Cond.code yX3_addNode cX3_addNode 7 (some .int) ∈ WA := wa_of (i := 201) (by decide +kernel) rfl
theorem kl_X3_23 : Cond.methodLink RX3 23 yX3_requireWithin ∈ WA := wa_of (i := 202) (by decide +kernel) rfl
theorem kt_X3_requireWithin : Cond.static yX3_requireWithin ∈ WA := wa_of (i := 203) (by decide +kernel) rfl
theorem kc_X3_requireWithin : Cond.code yX3_requireWithin cX3_requireWithin 3 none ∈ WA := wa_of (i := 204) (by decide +kernel) rfl
theorem kk_X3_191 : Cond.classLink RX3 191 "java/lang/IllegalArgumentException" ∈ WA := wa_of (i := 205) (by decide +kernel) rfl
theorem ko_IllegalArgumentException : Cond.instantiable "java/lang/IllegalArgumentException" 6 ∈ WA := wa_of (i := 206) (by decide +kernel) rfl
theorem ko_Throwable : Cond.instantiable "java/lang/Throwable" 6 ∈ WA := wa_of (i := 246) (by decide +kernel) rfl
theorem ka_byte : Cond.arrayClass .byte ∈ WA := wa_of (i := 274) (by decide +kernel) rfl
theorem kv_X3_27 : Cond.constant RX3 27 (1048575) ∈ WA := wa_of (i := 275) (by decide +kernel) rfl
theorem kl_X3_32 : Cond.methodLink RX3 32 yX2_isFull ∈ WA := wa_of (i := 276) (by decide +kernel) rfl
theorem ki_X2_isFull : Cond.instanceMethod yX2_isFull ∈ WA := wa_of (i := 277) (by decide +kernel) rfl
theorem ks_X2_isFull : Cond.selects RX2 yX2_isFull yX2_isFull ∈ WA := wa_of (i := 278) (by decide +kernel) rfl
theorem kc_X2_isFull : Cond.code yX2_isFull cX2_isFull 1 (some .boolean) ∈ WA := wa_of (i := 279) (by decide +kernel) rfl
theorem kk_X3_38 : Cond.classLink RX3 38 "java/lang/IllegalStateException" ∈ WA := wa_of (i := 280) (by decide +kernel) rfl
theorem ko_IllegalStateException : Cond.instantiable "java/lang/IllegalStateException" 6 ∈ WA := wa_of (i := 281) (by decide +kernel) rfl
theorem kl_X3_45 : Cond.methodLink RX3 45 yX0_save ∈ WA := wa_of (i := 296) (by decide +kernel) rfl
theorem ki_X0_save : Cond.instanceMethod yX0_save ∈ WA := wa_of (i := 297) (by decide +kernel) rfl
theorem ks_X0_save : Cond.selects RX0 yX0_save yX0_save ∈ WA := wa_of (i := 298) (by decide +kernel) rfl
theorem kc_X0_save : Cond.code yX0_save cX0_save 3 none ∈ WA := wa_of (i := 299) (by decide +kernel) rfl
theorem kl_X0_22 : Cond.methodLink RX0 22 yJ9_floorMod_7cf53 ∈ WA := wa_of (i := 300) (by decide +kernel) rfl
theorem kl_X0_28 : Cond.methodLink RX0 28 yX0_newestSlot ∈ WA := wa_of (i := 301) (by decide +kernel) rfl
theorem ki_X0_newestSlot : Cond.instanceMethod yX0_newestSlot ∈ WA := wa_of (i := 303) (by decide +kernel) rfl
theorem kc_X0_newestSlot : Cond.code yX0_newestSlot cX0_newestSlot 1 (some (.object "RangingNet$State")) ∈ WA := wa_of (i := 304) (by decide +kernel) rfl
theorem kl_X0_32 : Cond.methodLink RX0 32 yX1_copyFrom ∈ WA := wa_of (i := 305) (by decide +kernel) rfl
theorem ki_X1_copyFrom : Cond.instanceMethod yX1_copyFrom ∈ WA := wa_of (i := 306) (by decide +kernel) rfl
theorem ks_X1_copyFrom : Cond.selects RX1 yX1_copyFrom yX1_copyFrom ∈ WA := wa_of (i := 307) (by decide +kernel) rfl
theorem kc_X1_copyFrom : Cond.code yX1_copyFrom cX1_copyFrom 2 none ∈ WA := wa_of (i := 308) (by decide +kernel) rfl
theorem kl_X1_30 : Cond.methodLink RX1 30 yX2_copyFrom ∈ WA := wa_of (i := 309) (by decide +kernel) rfl
theorem ki_X2_copyFrom : Cond.instanceMethod yX2_copyFrom ∈ WA := wa_of (i := 310) (by decide +kernel) rfl
theorem ks_X2_copyFrom : Cond.selects RX2 yX2_copyFrom yX2_copyFrom ∈ WA := wa_of (i := 311) (by decide +kernel) rfl
theorem kc_X2_copyFrom : Cond.code yX2_copyFrom cX2_copyFrom 3 none ∈ WA := wa_of (i := 312) (by decide +kernel) rfl
theorem kl_X2_26 : Cond.methodLink RX2 26 arraycopyName ∈ WA := wa_of (i := 313) (by decide +kernel) rfl
theorem kt_arraycopyName : Cond.static arraycopyName ∈ WA := wa_of (i := 314) (by decide +kernel) rfl
theorem kx_arraycopyName : Cond.native arraycopyName ∈ WA := wa_of (i := 315) (by decide +kernel) rfl
theorem kl_X0_39 : Cond.methodLink RX0 39 yJ9_min_7cf53 ∈ WA := wa_of (i := 316) (by decide +kernel) rfl
theorem kt_J9_min_7cf53 : Cond.static yJ9_min_7cf53 ∈ WA := wa_of (i := 317) (by decide +kernel) rfl
theorem kc_J9_min_7cf53 : Cond.code yJ9_min_7cf53 cJ9_min_7cf53 2 (some .int) ∈ WA := wa_of (i := 318) (by decide +kernel) rfl
theorem kl_X3_53 : Cond.methodLink RX3 53 yX2_openRow ∈ WA := wa_of (i := 319) (by decide +kernel) rfl
theorem ki_X2_openRow : Cond.instanceMethod yX2_openRow ∈ WA := wa_of (i := 320) (by decide +kernel) rfl
theorem ks_X2_openRow : Cond.selects RX2 yX2_openRow yX2_openRow ∈ WA := wa_of (i := 321) (by decide +kernel) rfl
theorem kc_X2_openRow : Cond.code yX2_openRow cX2_openRow 2 (some .int) ∈ WA := wa_of (i := 322) (by decide +kernel) rfl
theorem kl_X2_22 : Cond.methodLink RX2 22 yX2_isFull ∈ WA := wa_of (i := 323) (by decide +kernel) rfl
theorem kl_X3_57 : Cond.methodLink RX3 57 yX2_set ∈ WA := wa_of (i := 324) (by decide +kernel) rfl
theorem ki_X2_set : Cond.instanceMethod yX2_set ∈ WA := wa_of (i := 325) (by decide +kernel) rfl
theorem ks_X2_set : Cond.selects RX2 yX2_set yX2_set ∈ WA := wa_of (i := 326) (by decide +kernel) rfl
theorem kc_X2_set : Cond.code yX2_set cX2_set 5 none ∈ WA := wa_of (i := 327) (by decide +kernel) rfl
theorem kl_L_94 : Cond.methodLink RL 94 yL_move ∈ WA := wa_of (i := 328) (by decide +kernel) rfl
theorem kt_L_move : Cond.static yL_move ∈ WA := wa_of (i := 329) (by decide +kernel) rfl
theorem kc_L_move : Cond.codeWith yL_move cL_move 6 (some .int) [(0, 12, 15, 21), (0, 12, 19, 13)] ∈ WA := wa_of (i := 330) (by decide +kernel) rfl
theorem kk_L_21 : Cond.classLink RL 21 "java/lang/IndexOutOfBoundsException" ∈ WA := wa_of (i := 331) (by decide +kernel) rfl
theorem ko_Jx00060 : Cond.instantiable RJx00060 6 ∈ WA := wa_of (i := 332) (by decide +kernel) rfl
theorem ki_Jx00060_init_a7421 : Cond.instanceMethod yJx00060_init_a7421 ∈ WA := wa_of (i := 333) (by decide +kernel) rfl
theorem kc_Jx00060_init_a7421 : Cond.code yJx00060_init_a7421 cJx00060_init_a7421 2 none ∈ WA := wa_of (i := 334) (by decide +kernel) rfl
theorem ko_J0 : Cond.instantiable RJ0 4 ∈ WA := wa_of (i := 350) (by decide +kernel) rfl
theorem kl_L_17 : Cond.methodLink RL 17 yX3_move ∈ WA := wa_of (i := 355) (by decide +kernel) rfl
theorem ki_X3_move : Cond.instanceMethod yX3_move ∈ WA := wa_of (i := 356) (by decide +kernel) rfl
theorem ks_X3_move : Cond.selects RX3 yX3_move yX3_move ∈ WA := wa_of (i := 357) (by decide +kernel) rfl
theorem kc_X3_move : Cond.code yX3_move cX3_move 5 (some .int) ∈ WA := wa_of (i := 358) (by decide +kernel) rfl
theorem kl_X3_60 : Cond.methodLink RX3 60 yX3_requireNode ∈ WA := wa_of (i := 359) (by decide +kernel) rfl
theorem ki_X3_requireNode : Cond.instanceMethod yX3_requireNode ∈ WA := wa_of (i := 361) (by decide +kernel) rfl
theorem kc_X3_requireNode : Cond.code yX3_requireNode cX3_requireNode 2 none ∈ WA := wa_of (i := 362) (by decide +kernel) rfl
theorem kk_X3_149 : Cond.classLink RX3 149 "java/lang/IndexOutOfBoundsException" ∈ WA := wa_of (i := 363) (by decide +kernel) rfl
theorem ko_IndexOutOfBoundsException : Cond.instantiable "java/lang/IndexOutOfBoundsException" 6 ∈ WA := wa_of (i := 364) (by decide +kernel) rfl
theorem kl_X3_68 : Cond.methodLink RX3 68 yX3_floorLength ∈ WA := wa_of (i := 376) (by decide +kernel) rfl
theorem kt_X3_floorLength : Cond.static yX3_floorLength ∈ WA := wa_of (i := 377) (by decide +kernel) rfl
theorem kc_X3_floorLength : Cond.code yX3_floorLength cX3_floorLength 6 (some .int) ∈ WA := wa_of (i := 378) (by decide +kernel) rfl
theorem kl_L_98 : Cond.methodLink RL 98 yL_assume ∈ WA := wa_of (i := 379) (by decide +kernel) rfl
theorem kt_L_assume : Cond.static yL_assume ∈ WA := wa_of (i := 380) (by decide +kernel) rfl
theorem kc_L_assume : Cond.codeWith yL_assume cL_assume 5 (some .int) [(0, 10, 13, 21), (0, 10, 17, 13)] ∈ WA := wa_of (i := 381) (by decide +kernel) rfl
theorem kl_L_23 : Cond.methodLink RL 23 yX3_assume ∈ WA := wa_of (i := 382) (by decide +kernel) rfl
theorem ki_X3_assume : Cond.instanceMethod yX3_assume ∈ WA := wa_of (i := 383) (by decide +kernel) rfl
theorem ks_X3_assume : Cond.selects RX3 yX3_assume yX3_assume ∈ WA := wa_of (i := 384) (by decide +kernel) rfl
theorem kc_X3_assume : Cond.code yX3_assume cX3_assume 4 (some .int) ∈ WA := wa_of (i := 385) (by decide +kernel) rfl
theorem kl_L_102 : Cond.methodLink RL 102 yL_assumed ∈ WA := wa_of (i := 386) (by decide +kernel) rfl
theorem kt_L_assumed : Cond.static yL_assumed ∈ WA := wa_of (i := 387) (by decide +kernel) rfl
theorem kc_L_assumed : Cond.codeWith yL_assumed cL_assumed 4 (some .int) [(0, 9, 12, 21)] ∈ WA := wa_of (i := 388) (by decide +kernel) rfl
theorem kl_L_27 : Cond.methodLink RL 27 yX3_assumed ∈ WA := wa_of (i := 389) (by decide +kernel) rfl
theorem ki_X3_assumed : Cond.instanceMethod yX3_assumed ∈ WA := wa_of (i := 390) (by decide +kernel) rfl
theorem ks_X3_assumed : Cond.selects RX3 yX3_assumed yX3_assumed ∈ WA := wa_of (i := 391) (by decide +kernel) rfl
theorem kc_X3_assumed : Cond.code yX3_assumed cX3_assumed 2 (some .int) ∈ WA := wa_of (i := 392) (by decide +kernel) rfl
theorem kl_L_106 : Cond.methodLink RL 106 yL_distance ∈ WA := wa_of (i := 393) (by decide +kernel) rfl
theorem kt_L_distance : Cond.static yL_distance ∈ WA := wa_of (i := 394) (by decide +kernel) rfl
theorem kc_L_distance : Cond.codeWith yL_distance cL_distance 5 (some .int) [(0, 10, 13, 21)] ∈ WA := wa_of (i := 395) (by decide +kernel) rfl
theorem kl_L_31 : Cond.methodLink RL 31 yX3_distance ∈ WA := wa_of (i := 396) (by decide +kernel) rfl
theorem ki_X3_distance : Cond.instanceMethod yX3_distance ∈ WA := wa_of (i := 397) (by decide +kernel) rfl
theorem ks_X3_distance : Cond.selects RX3 yX3_distance yX3_distance ∈ WA := wa_of (i := 398) (by decide +kernel) rfl
theorem kc_X3_distance : Cond.code yX3_distance cX3_distance 3 (some .int) ∈ WA := wa_of (i := 399) (by decide +kernel) rfl
theorem kl_X3_71 : Cond.methodLink RX3 71 yX1_lengthBetween ∈ WA := wa_of (i := 400) (by decide +kernel) rfl
theorem ki_X1_lengthBetween : Cond.instanceMethod yX1_lengthBetween ∈ WA := wa_of (i := 401) (by decide +kernel) rfl
theorem ks_X1_lengthBetween : Cond.selects RX1 yX1_lengthBetween yX1_lengthBetween ∈ WA := wa_of (i := 402) (by decide +kernel) rfl
theorem kc_X1_lengthBetween : Cond.code yX1_lengthBetween cX1_lengthBetween 3 (some .int) ∈ WA := wa_of (i := 403) (by decide +kernel) rfl
theorem kl_L_109 : Cond.methodLink RL 109 yL_counter ∈ WA := wa_of (i := 405) (by decide +kernel) rfl
theorem kt_L_counter : Cond.static yL_counter ∈ WA := wa_of (i := 406) (by decide +kernel) rfl
theorem kc_L_counter : Cond.codeWith yL_counter cL_counter 5 (some .int) [(0, 10, 13, 21), (0, 10, 17, 13)] ∈ WA := wa_of (i := 407) (by decide +kernel) rfl
theorem kl_L_34 : Cond.methodLink RL 34 yX3_counter ∈ WA := wa_of (i := 408) (by decide +kernel) rfl
theorem ki_X3_counter : Cond.instanceMethod yX3_counter ∈ WA := wa_of (i := 409) (by decide +kernel) rfl
theorem ks_X3_counter : Cond.selects RX3 yX3_counter yX3_counter ∈ WA := wa_of (i := 410) (by decide +kernel) rfl
theorem kc_X3_counter : Cond.code yX3_counter cX3_counter 3 (some .int) ∈ WA := wa_of (i := 411) (by decide +kernel) rfl
theorem kv_X3_74 : Cond.constant RX3 74 (1000000000) ∈ WA := wa_of (i := 412) (by decide +kernel) rfl
theorem kl_X3_75 : Cond.methodLink RX3 75 yX1_counterAt ∈ WA := wa_of (i := 413) (by decide +kernel) rfl
theorem kl_L_112 : Cond.methodLink RL 112 yL_exchange ∈ WA := wa_of (i := 414) (by decide +kernel) rfl
theorem kt_L_exchange : Cond.static yL_exchange ∈ WA := wa_of (i := 415) (by decide +kernel) rfl
theorem kc_L_exchange : Cond.codeWith yL_exchange cL_exchange 7 (some .int) [(0, 14, 17, 21), (0, 14, 21, 13), (0, 14, 25, 15)] ∈ WA := wa_of (i := 416) (by decide +kernel) rfl
theorem kl_L_37 : Cond.methodLink RL 37 yX3_exchange ∈ WA := wa_of (i := 417) (by decide +kernel) rfl
theorem ki_X3_exchange : Cond.instanceMethod yX3_exchange ∈ WA := wa_of (i := 418) (by decide +kernel) rfl
theorem ks_X3_exchange : Cond.selects RX3 yX3_exchange yX3_exchange ∈ WA := wa_of (i := 419) (by decide +kernel) rfl
theorem kc_X3_exchange : Cond.code yX3_exchange cX3_exchange 5 (some .int) ∈ WA := wa_of (i := 420) (by decide +kernel) rfl
theorem kl_X3_79 : Cond.methodLink RX3 79 yX3_requirePair ∈ WA := wa_of (i := 421) (by decide +kernel) rfl
theorem kt_X3_requirePair : Cond.static yX3_requirePair ∈ WA := wa_of (i := 422) (by decide +kernel) rfl
theorem kc_X3_requirePair : Cond.code yX3_requirePair cX3_requirePair 2 none ∈ WA := wa_of (i := 423) (by decide +kernel) rfl
theorem kv_X3_83 : Cond.constant RX3 83 (400000) ∈ WA := wa_of (i := 425) (by decide +kernel) rfl
theorem kl_X3_89 : Cond.methodLink RX3 89 yX1_carryOut ∈ WA := wa_of (i := 427) (by decide +kernel) rfl
theorem ki_X1_carryOut : Cond.instanceMethod yX1_carryOut ∈ WA := wa_of (i := 428) (by decide +kernel) rfl
theorem ks_X1_carryOut : Cond.selects RX1 yX1_carryOut yX1_carryOut ∈ WA := wa_of (i := 429) (by decide +kernel) rfl
theorem kc_X1_carryOut : Cond.code yX1_carryOut cX1_carryOut 17 (some .int) ∈ WA := wa_of (i := 430) (by decide +kernel) rfl
theorem kl_X1_56 : Cond.methodLink RX1 56 yX1_lengthBetween ∈ WA := wa_of (i := 431) (by decide +kernel) rfl
theorem kl_X1_63 : Cond.methodLink RX1 63 yX2_openRow ∈ WA := wa_of (i := 432) (by decide +kernel) rfl
theorem kl_X1_67 : Cond.methodLink RX1 67 yX2_set ∈ WA := wa_of (i := 433) (by decide +kernel) rfl
theorem kl_L_116 : Cond.methodLink RL 116 yL_plan ∈ WA := wa_of (i := 434) (by decide +kernel) rfl
theorem kt_L_plan : Cond.static yL_plan ∈ WA := wa_of (i := 435) (by decide +kernel) rfl
theorem kc_L_plan : Cond.codeWith yL_plan cL_plan 8 (some .int) [(0, 16, 19, 21), (0, 16, 23, 13), (0, 16, 27, 15)] ∈ WA := wa_of (i := 436) (by decide +kernel) rfl
theorem kl_L_41 : Cond.methodLink RL 41 yX3_plan ∈ WA := wa_of (i := 437) (by decide +kernel) rfl
theorem ki_X3_plan : Cond.instanceMethod yX3_plan ∈ WA := wa_of (i := 438) (by decide +kernel) rfl
theorem ks_X3_plan : Cond.selects RX3 yX3_plan yX3_plan ∈ WA := wa_of (i := 439) (by decide +kernel) rfl
theorem kc_X3_plan : Cond.code yX3_plan cX3_plan 7 (some .int) ∈ WA := wa_of (i := 440) (by decide +kernel) rfl
theorem kv_X3_93 : Cond.constant RX3 93 (900000000) ∈ WA := wa_of (i := 441) (by decide +kernel) rfl
theorem kl_X3_99 : Cond.methodLink RX3 99 yX1_rowForPlan ∈ WA := wa_of (i := 443) (by decide +kernel) rfl
theorem ki_X1_rowForPlan : Cond.instanceMethod yX1_rowForPlan ∈ WA := wa_of (i := 444) (by decide +kernel) rfl
theorem ks_X1_rowForPlan : Cond.selects RX1 yX1_rowForPlan yX1_rowForPlan ∈ WA := wa_of (i := 445) (by decide +kernel) rfl
theorem kc_X1_rowForPlan : Cond.code yX1_rowForPlan cX1_rowForPlan 3 (some .int) ∈ WA := wa_of (i := 446) (by decide +kernel) rfl
theorem kl_L_123 : Cond.methodLink RL 123 yL_run ∈ WA := wa_of (i := 447) (by decide +kernel) rfl
theorem kt_L_run : Cond.static yL_run ∈ WA := wa_of (i := 448) (by decide +kernel) rfl
theorem kc_L_run : Cond.codeWith yL_run cL_run 4 (some .int) [(0, 9, 12, 13)] ∈ WA := wa_of (i := 449) (by decide +kernel) rfl
theorem kl_L_44 : Cond.methodLink RL 44 yX3_run ∈ WA := wa_of (i := 450) (by decide +kernel) rfl
theorem ki_X3_run : Cond.instanceMethod yX3_run ∈ WA := wa_of (i := 451) (by decide +kernel) rfl
theorem ks_X3_run : Cond.selects RX3 yX3_run yX3_run ∈ WA := wa_of (i := 452) (by decide +kernel) rfl
theorem kc_X3_run : Cond.code yX3_run cX3_run 2 (some .int) ∈ WA := wa_of (i := 453) (by decide +kernel) rfl
theorem kl_X3_102 : Cond.methodLink RX3 102 yX1_runUntil ∈ WA := wa_of (i := 454) (by decide +kernel) rfl
theorem ki_X1_runUntil : Cond.instanceMethod yX1_runUntil ∈ WA := wa_of (i := 455) (by decide +kernel) rfl
theorem ks_X1_runUntil : Cond.selects RX1 yX1_runUntil yX1_runUntil ∈ WA := wa_of (i := 456) (by decide +kernel) rfl
theorem kc_X1_runUntil : Cond.code yX1_runUntil cX1_runUntil 5 (some .int) ∈ WA := wa_of (i := 457) (by decide +kernel) rfl
theorem kl_X1_75 : Cond.methodLink RX1 75 yX2_isFull ∈ WA := wa_of (i := 458) (by decide +kernel) rfl
theorem kl_X1_79 : Cond.methodLink RX1 79 yX1_carryOutFirstPlan ∈ WA := wa_of (i := 459) (by decide +kernel) rfl
theorem ki_X1_carryOutFirstPlan : Cond.instanceMethod yX1_carryOutFirstPlan ∈ WA := wa_of (i := 461) (by decide +kernel) rfl
theorem kc_X1_carryOutFirstPlan : Cond.code yX1_carryOutFirstPlan cX1_carryOutFirstPlan 1 none ∈ WA := wa_of (i := 462) (by decide +kernel) rfl
theorem kl_X1_85 : Cond.methodLink RX1 85 yJ9_max_f86c9 ∈ WA := wa_of (i := 463) (by decide +kernel) rfl
theorem kt_J9_max_f86c9 : Cond.static yJ9_max_f86c9 ∈ WA := wa_of (i := 464) (by decide +kernel) rfl
theorem kc_J9_max_f86c9 : Cond.code yJ9_max_f86c9 cJ9_max_f86c9 4 (some .long) ∈ WA := wa_of (i := 465) (by decide +kernel) rfl
theorem kl_X1_88 : Cond.methodLink RX1 88 yX1_carryOut ∈ WA := wa_of (i := 466) (by decide +kernel) rfl
theorem kl_X1_82 : Cond.methodLink RX1 82 yX2_removeFirstRow ∈ WA := wa_of (i := 467) (by decide +kernel) rfl
theorem ki_X2_removeFirstRow : Cond.instanceMethod yX2_removeFirstRow ∈ WA := wa_of (i := 468) (by decide +kernel) rfl
theorem ks_X2_removeFirstRow : Cond.selects RX2 yX2_removeFirstRow yX2_removeFirstRow ∈ WA := wa_of (i := 469) (by decide +kernel) rfl
theorem kc_X2_removeFirstRow : Cond.code yX2_removeFirstRow cX2_removeFirstRow 1 none ∈ WA := wa_of (i := 470) (by decide +kernel) rfl
theorem kl_L_135 : Cond.methodLink RL 135 yL_stamp ∈ WA := wa_of (i := 471) (by decide +kernel) rfl
theorem kt_L_stamp : Cond.static yL_stamp ∈ WA := wa_of (i := 472) (by decide +kernel) rfl
theorem kc_L_stamp : Cond.codeWith yL_stamp cL_stamp 5 (some .int) [(0, 10, 13, 21), (0, 10, 17, 13)] ∈ WA := wa_of (i := 473) (by decide +kernel) rfl
theorem kl_L_47 : Cond.methodLink RL 47 yX3_stamp ∈ WA := wa_of (i := 474) (by decide +kernel) rfl
theorem ki_X3_stamp : Cond.instanceMethod yX3_stamp ∈ WA := wa_of (i := 475) (by decide +kernel) rfl
theorem ks_X3_stamp : Cond.selects RX3 yX3_stamp yX3_stamp ∈ WA := wa_of (i := 476) (by decide +kernel) rfl
theorem kc_X3_stamp : Cond.code yX3_stamp cX3_stamp 3 (some .int) ∈ WA := wa_of (i := 477) (by decide +kernel) rfl
theorem kl_X3_109 : Cond.methodLink RX3 109 yX3_requireExchange ∈ WA := wa_of (i := 478) (by decide +kernel) rfl
theorem ki_X3_requireExchange : Cond.instanceMethod yX3_requireExchange ∈ WA := wa_of (i := 480) (by decide +kernel) rfl
theorem kc_X3_requireExchange : Cond.code yX3_requireExchange cX3_requireExchange 2 none ∈ WA := wa_of (i := 481) (by decide +kernel) rfl
theorem kl_L_138 : Cond.methodLink RL 138 yL_party ∈ WA := wa_of (i := 483) (by decide +kernel) rfl
theorem kt_L_party : Cond.static yL_party ∈ WA := wa_of (i := 484) (by decide +kernel) rfl
theorem kc_L_party : Cond.codeWith yL_party cL_party 5 (some .int) [(0, 10, 13, 21), (0, 10, 17, 13)] ∈ WA := wa_of (i := 485) (by decide +kernel) rfl
theorem kl_L_50 : Cond.methodLink RL 50 yX3_party ∈ WA := wa_of (i := 486) (by decide +kernel) rfl
theorem ki_X3_party : Cond.instanceMethod yX3_party ∈ WA := wa_of (i := 487) (by decide +kernel) rfl
theorem ks_X3_party : Cond.selects RX3 yX3_party yX3_party ∈ WA := wa_of (i := 488) (by decide +kernel) rfl
theorem kc_X3_party : Cond.code yX3_party cX3_party 3 (some .int) ∈ WA := wa_of (i := 489) (by decide +kernel) rfl
theorem kl_L_141 : Cond.methodLink RL 141 yL_range ∈ WA := wa_of (i := 490) (by decide +kernel) rfl
theorem kt_L_range : Cond.static yL_range ∈ WA := wa_of (i := 491) (by decide +kernel) rfl
theorem kc_L_range : Cond.codeWith yL_range cL_range 5 (some .int) [(0, 10, 13, 21), (0, 10, 17, 13)] ∈ WA := wa_of (i := 492) (by decide +kernel) rfl
theorem kl_L_53 : Cond.methodLink RL 53 yX3_range ∈ WA := wa_of (i := 493) (by decide +kernel) rfl
theorem ki_X3_range : Cond.instanceMethod yX3_range ∈ WA := wa_of (i := 494) (by decide +kernel) rfl
theorem ks_X3_range : Cond.selects RX3 yX3_range yX3_range ∈ WA := wa_of (i := 495) (by decide +kernel) rfl
theorem kc_X3_range : Cond.code yX3_range cX3_range 3 (some .int) ∈ WA := wa_of (i := 496) (by decide +kernel) rfl
theorem kl_X3_112 : Cond.methodLink RX3 112 yX3_requireMethod ∈ WA := wa_of (i := 497) (by decide +kernel) rfl
theorem kt_X3_requireMethod : Cond.static yX3_requireMethod ∈ WA := wa_of (i := 498) (by decide +kernel) rfl
theorem kc_X3_requireMethod : Cond.code yX3_requireMethod cX3_requireMethod 1 none ∈ WA := wa_of (i := 499) (by decide +kernel) rfl
theorem kl_X3_115 : Cond.methodLink RX3 115 yX1_rangeOf ∈ WA := wa_of (i := 500) (by decide +kernel) rfl
theorem kl_L_144 : Cond.methodLink RL 144 yL_latestRange ∈ WA := wa_of (i := 501) (by decide +kernel) rfl
theorem kt_L_latestRange : Cond.static yL_latestRange ∈ WA := wa_of (i := 502) (by decide +kernel) rfl
theorem kc_L_latestRange : Cond.codeWith yL_latestRange cL_latestRange 6 (some .int) [(0, 12, 15, 21), (0, 12, 19, 13), (0, 12, 23, 15)] ∈ WA := wa_of (i := 503) (by decide +kernel) rfl
theorem kl_L_56 : Cond.methodLink RL 56 yX3_latestRange ∈ WA := wa_of (i := 504) (by decide +kernel) rfl
theorem ki_X3_latestRange : Cond.instanceMethod yX3_latestRange ∈ WA := wa_of (i := 505) (by decide +kernel) rfl
theorem ks_X3_latestRange : Cond.selects RX3 yX3_latestRange yX3_latestRange ∈ WA := wa_of (i := 506) (by decide +kernel) rfl
theorem kc_X3_latestRange : Cond.code yX3_latestRange cX3_latestRange 4 (some .int) ∈ WA := wa_of (i := 507) (by decide +kernel) rfl
theorem kl_X3_118 : Cond.methodLink RX3 118 yX3_requireLatest ∈ WA := wa_of (i := 508) (by decide +kernel) rfl
theorem ki_X3_requireLatest : Cond.instanceMethod yX3_requireLatest ∈ WA := wa_of (i := 510) (by decide +kernel) rfl
theorem kc_X3_requireLatest : Cond.code yX3_requireLatest cX3_requireLatest 4 (some .int) ∈ WA := wa_of (i := 511) (by decide +kernel) rfl
theorem kl_X3_202 : Cond.methodLink RX3 202 yX1_latestBetween ∈ WA := wa_of (i := 512) (by decide +kernel) rfl
theorem ki_X1_latestBetween : Cond.instanceMethod yX1_latestBetween ∈ WA := wa_of (i := 513) (by decide +kernel) rfl
theorem ks_X1_latestBetween : Cond.selects RX1 yX1_latestBetween yX1_latestBetween ∈ WA := wa_of (i := 514) (by decide +kernel) rfl
theorem kc_X1_latestBetween : Cond.code yX1_latestBetween cX1_latestBetween 6 (some .int) ∈ WA := wa_of (i := 515) (by decide +kernel) rfl
theorem kl_L_147 : Cond.methodLink RL 147 yL_worstError ∈ WA := wa_of (i := 517) (by decide +kernel) rfl
theorem kt_L_worstError : Cond.static yL_worstError ∈ WA := wa_of (i := 518) (by decide +kernel) rfl
theorem kc_L_worstError : Cond.codeWith yL_worstError cL_worstError 4 (some .int) [(0, 9, 12, 13)] ∈ WA := wa_of (i := 519) (by decide +kernel) rfl
theorem kl_L_59 : Cond.methodLink RL 59 yX3_worstError ∈ WA := wa_of (i := 520) (by decide +kernel) rfl
theorem ki_X3_worstError : Cond.instanceMethod yX3_worstError ∈ WA := wa_of (i := 521) (by decide +kernel) rfl
theorem ks_X3_worstError : Cond.selects RX3 yX3_worstError yX3_worstError ∈ WA := wa_of (i := 522) (by decide +kernel) rfl
theorem kc_X3_worstError : Cond.code yX3_worstError cX3_worstError 4 (some .int) ∈ WA := wa_of (i := 523) (by decide +kernel) rfl
theorem kl_X3_121 : Cond.methodLink RX3 121 yX1_errorOf ∈ WA := wa_of (i := 524) (by decide +kernel) rfl
theorem ki_X1_errorOf : Cond.instanceMethod yX1_errorOf ∈ WA := wa_of (i := 525) (by decide +kernel) rfl
theorem ks_X1_errorOf : Cond.selects RX1 yX1_errorOf yX1_errorOf ∈ WA := wa_of (i := 526) (by decide +kernel) rfl
theorem kc_X1_errorOf : Cond.code yX1_errorOf cX1_errorOf 3 (some .int) ∈ WA := wa_of (i := 527) (by decide +kernel) rfl
theorem kl_X1_112 : Cond.methodLink RX1 112 yX1_lengthOf ∈ WA := wa_of (i := 528) (by decide +kernel) rfl
theorem ki_X1_lengthOf : Cond.instanceMethod yX1_lengthOf ∈ WA := wa_of (i := 530) (by decide +kernel) rfl
theorem kc_X1_lengthOf : Cond.code yX1_lengthOf cX1_lengthOf 2 (some .int) ∈ WA := wa_of (i := 531) (by decide +kernel) rfl
theorem kl_X3_124 : Cond.methodLink RX3 124 yJ9_abs_0f7a4 ∈ WA := wa_of (i := 532) (by decide +kernel) rfl
theorem kt_J9_abs_0f7a4 : Cond.static yJ9_abs_0f7a4 ∈ WA := wa_of (i := 533) (by decide +kernel) rfl
theorem kc_J9_abs_0f7a4 : Cond.code yJ9_abs_0f7a4 cJ9_abs_0f7a4 1 (some .int) ∈ WA := wa_of (i := 534) (by decide +kernel) rfl
theorem kl_X3_129 : Cond.methodLink RX3 129 yJ9_max_7cf53 ∈ WA := wa_of (i := 535) (by decide +kernel) rfl
theorem kt_J9_max_7cf53 : Cond.static yJ9_max_7cf53 ∈ WA := wa_of (i := 536) (by decide +kernel) rfl
theorem kc_J9_max_7cf53 : Cond.code yJ9_max_7cf53 cJ9_max_7cf53 2 (some .int) ∈ WA := wa_of (i := 537) (by decide +kernel) rfl
theorem kl_L_150 : Cond.methodLink RL 150 yL_meanError ∈ WA := wa_of (i := 538) (by decide +kernel) rfl
theorem kt_L_meanError : Cond.static yL_meanError ∈ WA := wa_of (i := 539) (by decide +kernel) rfl
theorem kc_L_meanError : Cond.codeWith yL_meanError cL_meanError 4 (some .int) [(0, 8, 11, 13)] ∈ WA := wa_of (i := 540) (by decide +kernel) rfl
theorem kl_L_62 : Cond.methodLink RL 62 yX3_meanError ∈ WA := wa_of (i := 541) (by decide +kernel) rfl
theorem ki_X3_meanError : Cond.instanceMethod yX3_meanError ∈ WA := wa_of (i := 542) (by decide +kernel) rfl
theorem ks_X3_meanError : Cond.selects RX3 yX3_meanError yX3_meanError ∈ WA := wa_of (i := 543) (by decide +kernel) rfl
theorem kc_X3_meanError : Cond.code yX3_meanError cX3_meanError 5 (some .double) ∈ WA := wa_of (i := 544) (by decide +kernel) rfl
theorem kl_L_154 : Cond.methodLink RL 154 yL_relativeDrift ∈ WA := wa_of (i := 545) (by decide +kernel) rfl
theorem kt_L_relativeDrift : Cond.static yL_relativeDrift ∈ WA := wa_of (i := 546) (by decide +kernel) rfl
theorem kc_L_relativeDrift : Cond.codeWith yL_relativeDrift cL_relativeDrift 4 (some .int) [(0, 8, 11, 21), (0, 8, 14, 69)] ∈ WA := wa_of (i := 547) (by decide +kernel) rfl
theorem kk_L_69 : Cond.classLink RL 69 "java/lang/ArithmeticException" ∈ WA := wa_of (i := 548) (by decide +kernel) rfl
theorem ko_ArithmeticException : Cond.instantiable "java/lang/ArithmeticException" 6 ∈ WA := wa_of (i := 549) (by decide +kernel) rfl
theorem kl_L_66 : Cond.methodLink RL 66 yX3_relativeDrift ∈ WA := wa_of (i := 562) (by decide +kernel) rfl
theorem ki_X3_relativeDrift : Cond.instanceMethod yX3_relativeDrift ∈ WA := wa_of (i := 563) (by decide +kernel) rfl
theorem ks_X3_relativeDrift : Cond.selects RX3 yX3_relativeDrift yX3_relativeDrift ∈ WA := wa_of (i := 564) (by decide +kernel) rfl
theorem kc_X3_relativeDrift : Cond.code yX3_relativeDrift cX3_relativeDrift 4 (some .double) ∈ WA := wa_of (i := 565) (by decide +kernel) rfl
theorem kl_X3_132 : Cond.methodLink RX3 132 yX1_elapsed ∈ WA := wa_of (i := 566) (by decide +kernel) rfl
theorem kk_X3_136 : Cond.classLink RX3 136 "java/lang/ArithmeticException" ∈ WA := wa_of (i := 567) (by decide +kernel) rfl
theorem kd_X3_141 : Cond.constantDouble RX3 141 (4696837146684686336) ∈ WA := wa_of (i := 570) (by decide +kernel) rfl
theorem kl_L_157 : Cond.methodLink RL 157 yL_calibrate ∈ WA := wa_of (i := 571) (by decide +kernel) rfl
theorem kt_L_calibrate : Cond.static yL_calibrate ∈ WA := wa_of (i := 572) (by decide +kernel) rfl
theorem kc_L_calibrate : Cond.codeWith yL_calibrate cL_calibrate 6 (some .int) [(0, 12, 15, 21), (0, 12, 19, 13), (0, 12, 23, 15)] ∈ WA := wa_of (i := 573) (by decide +kernel) rfl
theorem kl_L_71 : Cond.methodLink RL 71 yX3_calibrate ∈ WA := wa_of (i := 574) (by decide +kernel) rfl
theorem ki_X3_calibrate : Cond.instanceMethod yX3_calibrate ∈ WA := wa_of (i := 575) (by decide +kernel) rfl
theorem ks_X3_calibrate : Cond.selects RX3 yX3_calibrate yX3_calibrate ∈ WA := wa_of (i := 576) (by decide +kernel) rfl
theorem kc_X3_calibrate : Cond.code yX3_calibrate cX3_calibrate 10 (some .int) ∈ WA := wa_of (i := 577) (by decide +kernel) rfl
theorem kl_X3_143 : Cond.methodLink RX3 143 yX1_excessOf ∈ WA := wa_of (i := 578) (by decide +kernel) rfl
theorem ki_X1_excessOf : Cond.instanceMethod yX1_excessOf ∈ WA := wa_of (i := 579) (by decide +kernel) rfl
theorem ks_X1_excessOf : Cond.selects RX1 yX1_excessOf yX1_excessOf ∈ WA := wa_of (i := 580) (by decide +kernel) rfl
theorem kc_X1_excessOf : Cond.code yX1_excessOf cX1_excessOf 2 (some .int) ∈ WA := wa_of (i := 581) (by decide +kernel) rfl
theorem kl_X3_146 : Cond.methodLink RX3 146 yJ9_floorDiv_7cf53 ∈ WA := wa_of (i := 582) (by decide +kernel) rfl
theorem kt_J9_floorDiv_7cf53 : Cond.static yJ9_floorDiv_7cf53 ∈ WA := wa_of (i := 583) (by decide +kernel) rfl
theorem kc_J9_floorDiv_7cf53 : Cond.code yJ9_floorDiv_7cf53 cJ9_floorDiv_7cf53 3 (some .int) ∈ WA := wa_of (i := 584) (by decide +kernel) rfl
theorem kl_L_160 : Cond.methodLink RL 160 yL_fix ∈ WA := wa_of (i := 585) (by decide +kernel) rfl
theorem kt_L_fix : Cond.static yL_fix ∈ WA := wa_of (i := 586) (by decide +kernel) rfl
theorem kc_L_fix : Cond.codeWith yL_fix cL_fix 7 (some .int) [(0, 14, 17, 21), (0, 14, 21, 13), (0, 14, 25, 15), (0, 14, 29, 69)] ∈ WA := wa_of (i := 587) (by decide +kernel) rfl
theorem kl_L_74 : Cond.methodLink RL 74 yX3_fix ∈ WA := wa_of (i := 588) (by decide +kernel) rfl
theorem ki_X3_fix : Cond.instanceMethod yX3_fix ∈ WA := wa_of (i := 589) (by decide +kernel) rfl
theorem ks_X3_fix : Cond.selects RX3 yX3_fix yX3_fix ∈ WA := wa_of (i := 590) (by decide +kernel) rfl
theorem kc_X3_fix : Cond.code yX3_fix cX3_fix 18 (some .int) ∈ WA := wa_of (i := 591) (by decide +kernel) rfl
theorem kl_X3_154 : Cond.methodLink RX3 154 yX3_requireFourNodes ∈ WA := wa_of (i := 593) (by decide +kernel) rfl
theorem kt_X3_requireFourNodes : Cond.static yX3_requireFourNodes ∈ WA := wa_of (i := 594) (by decide +kernel) rfl
theorem kc_X3_requireFourNodes : Cond.code yX3_requireFourNodes cX3_requireFourNodes 4 none ∈ WA := wa_of (i := 595) (by decide +kernel) rfl
theorem kl_X3_158 : Cond.methodLink RX3 158 yX3_squareOf ∈ WA := wa_of (i := 596) (by decide +kernel) rfl
theorem kt_X3_squareOf : Cond.static yX3_squareOf ∈ WA := wa_of (i := 597) (by decide +kernel) rfl
theorem kc_X3_squareOf : Cond.code yX3_squareOf cX3_squareOf 1 (some .long) ∈ WA := wa_of (i := 598) (by decide +kernel) rfl
theorem kl_X3_162 : Cond.methodLink RX3 162 yX1_squareFromOrigin ∈ WA := wa_of (i := 599) (by decide +kernel) rfl
theorem ki_X1_squareFromOrigin : Cond.instanceMethod yX1_squareFromOrigin ∈ WA := wa_of (i := 600) (by decide +kernel) rfl
theorem ks_X1_squareFromOrigin : Cond.selects RX1 yX1_squareFromOrigin yX1_squareFromOrigin ∈ WA := wa_of (i := 601) (by decide +kernel) rfl
theorem kc_X1_squareFromOrigin : Cond.code yX1_squareFromOrigin cX1_squareFromOrigin 2 (some .long) ∈ WA := wa_of (i := 602) (by decide +kernel) rfl
theorem kl_X3_165 : Cond.methodLink RX3 165 yX3_solve ∈ WA := wa_of (i := 604) (by decide +kernel) rfl
theorem ki_X3_solve : Cond.instanceMethod yX3_solve ∈ WA := wa_of (i := 606) (by decide +kernel) rfl
theorem kc_X3_solve : Cond.code yX3_solve cX3_solve 23 (some .int) ∈ WA := wa_of (i := 607) (by decide +kernel) rfl
theorem kw_X3_207 : Cond.constantLong RX3 207 (2) ∈ WA := wa_of (i := 608) (by decide +kernel) rfl
theorem kl_X3_211 : Cond.methodLink RX3 211 yJ9_floorDiv_f86c9 ∈ WA := wa_of (i := 610) (by decide +kernel) rfl
theorem kl_L_163 : Cond.methodLink RL 163 yL_undo ∈ WA := wa_of (i := 612) (by decide +kernel) rfl
theorem kt_L_undo : Cond.static yL_undo ∈ WA := wa_of (i := 613) (by decide +kernel) rfl
theorem kc_L_undo : Cond.codeWith yL_undo cL_undo 3 (some .int) [(0, 8, 11, 15)] ∈ WA := wa_of (i := 614) (by decide +kernel) rfl
theorem kl_L_77 : Cond.methodLink RL 77 yX3_undo ∈ WA := wa_of (i := 615) (by decide +kernel) rfl
theorem ki_X3_undo : Cond.instanceMethod yX3_undo ∈ WA := wa_of (i := 616) (by decide +kernel) rfl
theorem ks_X3_undo : Cond.selects RX3 yX3_undo yX3_undo ∈ WA := wa_of (i := 617) (by decide +kernel) rfl
theorem kc_X3_undo : Cond.code yX3_undo cX3_undo 1 (some .int) ∈ WA := wa_of (i := 618) (by decide +kernel) rfl
theorem kl_X3_172 : Cond.methodLink RX3 172 yX0_restore ∈ WA := wa_of (i := 620) (by decide +kernel) rfl
theorem ki_X0_restore : Cond.instanceMethod yX0_restore ∈ WA := wa_of (i := 621) (by decide +kernel) rfl
theorem ks_X0_restore : Cond.selects RX0 yX0_restore yX0_restore ∈ WA := wa_of (i := 622) (by decide +kernel) rfl
theorem kc_X0_restore : Cond.code yX0_restore cX0_restore 3 none ∈ WA := wa_of (i := 623) (by decide +kernel) rfl
theorem kk_L_82 : Cond.classLink RL 82 RX4 ∈ WA := wa_of (i := 624) (by decide +kernel) rfl
theorem ko_X4 : Cond.instantiable RX4 4 ∈ WA := wa_of (i := 625) (by decide +kernel) rfl
theorem kl_L_84 : Cond.methodLink RL 84 yX4_init ∈ WA := wa_of (i := 626) (by decide +kernel) rfl
theorem ki_X4_init : Cond.instanceMethod yX4_init ∈ WA := wa_of (i := 627) (by decide +kernel) rfl
theorem kc_X4_init : Cond.code yX4_init cX4_init 1 none ∈ WA := wa_of (i := 628) (by decide +kernel) rfl
theorem kl_X4_1 : Cond.methodLink RX4 1 objectInit ∈ WA := wa_of (i := 629) (by decide +kernel) rfl
theorem kf_X4_7 : Cond.fieldLink RX4 7 "RangingNetModel" "all" "[J" ∈ WA := wa_of (i := 630) (by decide +kernel) rfl
theorem kf_X4_13 : Cond.fieldLink RX4 13 "RangingNetModel" "saved" "[J" ∈ WA := wa_of (i := 631) (by decide +kernel) rfl
theorem kf_X4_20 : Cond.fieldLink RX4 20 "RangingNetModel" "savedMany" "I" ∈ WA := wa_of (i := 632) (by decide +kernel) rfl
theorem kf_X4_16 : Cond.fieldLink RX4 16 "RangingNetModel" "thrown" "I" ∈ WA := wa_of (i := 633) (by decide +kernel) rfl
theorem ka_long : Cond.arrayClass .long ∈ WA := wa_of (i := 643) (by decide +kernel) rfl
theorem kl_L_91 : Cond.methodLink RL 91 yX4_thrown ∈ WA := wa_of (i := 644) (by decide +kernel) rfl
theorem ki_X4_thrown : Cond.instanceMethod yX4_thrown ∈ WA := wa_of (i := 645) (by decide +kernel) rfl
theorem ks_X4_thrown : Cond.selects RX4 yX4_thrown yX4_thrown ∈ WA := wa_of (i := 646) (by decide +kernel) rfl
theorem kc_X4_thrown : Cond.code yX4_thrown cX4_thrown 1 (some .int) ∈ WA := wa_of (i := 647) (by decide +kernel) rfl
theorem kl_L_90 : Cond.methodLink RL 90 yX4_addNode ∈ WA := wa_of (i := 648) (by decide +kernel) rfl
theorem ki_X4_addNode : Cond.instanceMethod yX4_addNode ∈ WA := wa_of (i := 649) (by decide +kernel) rfl
theorem ks_X4_addNode : Cond.selects RX4 yX4_addNode yX4_addNode ∈ WA := wa_of (i := 650) (by decide +kernel) rfl
theorem kc_X4_addNode : Cond.code yX4_addNode cX4_addNode 8 (some .int) ∈ WA := wa_of (i := 651) (by decide +kernel) rfl
theorem kl_X4_31 : Cond.methodLink RX4 31 yX4_isPlace ∈ WA := wa_of (i := 652) (by decide +kernel) rfl
theorem kt_X4_isPlace : Cond.static yX4_isPlace ∈ WA := wa_of (i := 653) (by decide +kernel) rfl
theorem kc_X4_isPlace : Cond.code yX4_isPlace cX4_isPlace 1 (some .boolean) ∈ WA := wa_of (i := 654) (by decide +kernel) rfl
theorem kw_X4_27 : Cond.constantLong RX4 27 (-1000) ∈ WA := wa_of (i := 655) (by decide +kernel) rfl
theorem kw_X4_29 : Cond.constantLong RX4 29 (1000) ∈ WA := wa_of (i := 656) (by decide +kernel) rfl
theorem kl_X4_23 : Cond.methodLink RX4 23 yX4_in ∈ WA := wa_of (i := 657) (by decide +kernel) rfl
theorem kt_X4_in : Cond.static yX4_in ∈ WA := wa_of (i := 658) (by decide +kernel) rfl
theorem kc_X4_in : Cond.code yX4_in cX4_in 6 (some .boolean) ∈ WA := wa_of (i := 659) (by decide +kernel) rfl
theorem kw_X4_35 : Cond.constantLong RX4 35 (-100) ∈ WA := wa_of (i := 660) (by decide +kernel) rfl
theorem kw_X4_37 : Cond.constantLong RX4 37 (100) ∈ WA := wa_of (i := 661) (by decide +kernel) rfl
theorem kw_X4_39 : Cond.constantLong RX4 39 (1048575) ∈ WA := wa_of (i := 662) (by decide +kernel) rfl
theorem kw_X4_41 : Cond.constantLong RX4 41 (200) ∈ WA := wa_of (i := 663) (by decide +kernel) rfl
theorem kw_X4_43 : Cond.constantLong RX4 43 (6) ∈ WA := wa_of (i := 664) (by decide +kernel) rfl
theorem kl_X4_45 : Cond.methodLink RX4 45 yX4_goes ∈ WA := wa_of (i := 665) (by decide +kernel) rfl
theorem ki_X4_goes : Cond.instanceMethod yX4_goes ∈ WA := wa_of (i := 667) (by decide +kernel) rfl
theorem kc_X4_goes : Cond.code yX4_goes cX4_goes 4 (some .boolean) ∈ WA := wa_of (i := 668) (by decide +kernel) rfl
theorem kl_X4_49 : Cond.methodLink RX4 49 yX4_save ∈ WA := wa_of (i := 669) (by decide +kernel) rfl
theorem ki_X4_save : Cond.instanceMethod yX4_save ∈ WA := wa_of (i := 671) (by decide +kernel) rfl
theorem kc_X4_save : Cond.code yX4_save cX4_save 2 none ∈ WA := wa_of (i := 672) (by decide +kernel) rfl
theorem kl_L_97 : Cond.methodLink RL 97 yX4_move ∈ WA := wa_of (i := 673) (by decide +kernel) rfl
theorem ki_X4_move : Cond.instanceMethod yX4_move ∈ WA := wa_of (i := 674) (by decide +kernel) rfl
theorem ks_X4_move : Cond.selects RX4 yX4_move yX4_move ∈ WA := wa_of (i := 675) (by decide +kernel) rfl
theorem kc_X4_move : Cond.code yX4_move cX4_move 6 (some .int) ∈ WA := wa_of (i := 676) (by decide +kernel) rfl
theorem kl_X4_64 : Cond.methodLink RX4 64 yX4_isNode ∈ WA := wa_of (i := 677) (by decide +kernel) rfl
theorem ki_X4_isNode : Cond.instanceMethod yX4_isNode ∈ WA := wa_of (i := 679) (by decide +kernel) rfl
theorem kc_X4_isNode : Cond.code yX4_isNode cX4_isNode 2 (some .boolean) ∈ WA := wa_of (i := 680) (by decide +kernel) rfl
theorem kl_X4_56 : Cond.methodLink RX4 56 yX4_of ∈ WA := wa_of (i := 681) (by decide +kernel) rfl
theorem ki_X4_of : Cond.instanceMethod yX4_of ∈ WA := wa_of (i := 683) (by decide +kernel) rfl
theorem kc_X4_of : Cond.code yX4_of cX4_of 3 (some .long) ∈ WA := wa_of (i := 684) (by decide +kernel) rfl
theorem kl_X4_60 : Cond.methodLink RX4 60 yX4_rootOf ∈ WA := wa_of (i := 685) (by decide +kernel) rfl
theorem kt_X4_rootOf : Cond.static yX4_rootOf ∈ WA := wa_of (i := 686) (by decide +kernel) rfl
theorem kc_X4_rootOf : Cond.code yX4_rootOf cX4_rootOf 12 (some .long) ∈ WA := wa_of (i := 687) (by decide +kernel) rfl
theorem kw_X4_52 : Cond.constantLong RX4 52 (4096) ∈ WA := wa_of (i := 688) (by decide +kernel) rfl
theorem kw_X4_54 : Cond.constantLong RX4 54 (2) ∈ WA := wa_of (i := 689) (by decide +kernel) rfl
theorem kl_L_101 : Cond.methodLink RL 101 yX4_assume ∈ WA := wa_of (i := 690) (by decide +kernel) rfl
theorem ki_X4_assume : Cond.instanceMethod yX4_assume ∈ WA := wa_of (i := 691) (by decide +kernel) rfl
theorem ks_X4_assume : Cond.selects RX4 yX4_assume yX4_assume ∈ WA := wa_of (i := 692) (by decide +kernel) rfl
theorem kc_X4_assume : Cond.code yX4_assume cX4_assume 5 (some .int) ∈ WA := wa_of (i := 693) (by decide +kernel) rfl
theorem kl_L_105 : Cond.methodLink RL 105 yX4_assumed ∈ WA := wa_of (i := 694) (by decide +kernel) rfl
theorem ki_X4_assumed : Cond.instanceMethod yX4_assumed ∈ WA := wa_of (i := 695) (by decide +kernel) rfl
theorem ks_X4_assumed : Cond.selects RX4 yX4_assumed yX4_assumed ∈ WA := wa_of (i := 696) (by decide +kernel) rfl
theorem kc_X4_assumed : Cond.code yX4_assumed cX4_assumed 2 (some .int) ∈ WA := wa_of (i := 697) (by decide +kernel) rfl
theorem kl_L_108 : Cond.methodLink RL 108 yX4_distance ∈ WA := wa_of (i := 698) (by decide +kernel) rfl
theorem ki_X4_distance : Cond.instanceMethod yX4_distance ∈ WA := wa_of (i := 699) (by decide +kernel) rfl
theorem ks_X4_distance : Cond.selects RX4 yX4_distance yX4_distance ∈ WA := wa_of (i := 700) (by decide +kernel) rfl
theorem kc_X4_distance : Cond.code yX4_distance cX4_distance 3 (some .int) ∈ WA := wa_of (i := 701) (by decide +kernel) rfl
theorem kl_X4_67 : Cond.methodLink RX4 67 yX4_distanceOf ∈ WA := wa_of (i := 702) (by decide +kernel) rfl
theorem ki_X4_distanceOf : Cond.instanceMethod yX4_distanceOf ∈ WA := wa_of (i := 704) (by decide +kernel) rfl
theorem kc_X4_distanceOf : Cond.code yX4_distanceOf cX4_distanceOf 3 (some .long) ∈ WA := wa_of (i := 705) (by decide +kernel) rfl
theorem kl_L_111 : Cond.methodLink RL 111 yX4_counter ∈ WA := wa_of (i := 706) (by decide +kernel) rfl
theorem ki_X4_counter : Cond.instanceMethod yX4_counter ∈ WA := wa_of (i := 707) (by decide +kernel) rfl
theorem ks_X4_counter : Cond.selects RX4 yX4_counter yX4_counter ∈ WA := wa_of (i := 708) (by decide +kernel) rfl
theorem kc_X4_counter : Cond.code yX4_counter cX4_counter 3 (some .int) ∈ WA := wa_of (i := 709) (by decide +kernel) rfl
theorem kw_X4_74 : Cond.constantLong RX4 74 (1000000000) ∈ WA := wa_of (i := 710) (by decide +kernel) rfl
theorem kl_X4_76 : Cond.methodLink RX4 76 yX4_counterAt ∈ WA := wa_of (i := 711) (by decide +kernel) rfl
theorem ki_X4_counterAt : Cond.instanceMethod yX4_counterAt ∈ WA := wa_of (i := 713) (by decide +kernel) rfl
theorem kc_X4_counterAt : Cond.code yX4_counterAt cX4_counterAt 4 (some .long) ∈ WA := wa_of (i := 714) (by decide +kernel) rfl
theorem kw_X4_70 : Cond.constantLong RX4 70 (1000000) ∈ WA := wa_of (i := 715) (by decide +kernel) rfl
theorem kw_X4_72 : Cond.constantLong RX4 72 (1048576) ∈ WA := wa_of (i := 716) (by decide +kernel) rfl
theorem kl_L_115 : Cond.methodLink RL 115 yX4_exchange ∈ WA := wa_of (i := 717) (by decide +kernel) rfl
theorem ki_X4_exchange : Cond.instanceMethod yX4_exchange ∈ WA := wa_of (i := 718) (by decide +kernel) rfl
theorem ks_X4_exchange : Cond.selects RX4 yX4_exchange yX4_exchange ∈ WA := wa_of (i := 719) (by decide +kernel) rfl
theorem kc_X4_exchange : Cond.code yX4_exchange cX4_exchange 5 (some .int) ∈ WA := wa_of (i := 720) (by decide +kernel) rfl
theorem kl_X4_82 : Cond.methodLink RX4 82 yX4_areReplies ∈ WA := wa_of (i := 721) (by decide +kernel) rfl
theorem kt_X4_areReplies : Cond.static yX4_areReplies ∈ WA := wa_of (i := 722) (by decide +kernel) rfl
theorem kc_X4_areReplies : Cond.code yX4_areReplies cX4_areReplies 4 (some .boolean) ∈ WA := wa_of (i := 723) (by decide +kernel) rfl
theorem kw_X4_80 : Cond.constantLong RX4 80 (400000) ∈ WA := wa_of (i := 724) (by decide +kernel) rfl
theorem kw_X4_86 : Cond.constantLong RX4 86 (40) ∈ WA := wa_of (i := 725) (by decide +kernel) rfl
theorem kl_X4_88 : Cond.methodLink RX4 88 yX4_carriesOut ∈ WA := wa_of (i := 726) (by decide +kernel) rfl
theorem ki_X4_carriesOut : Cond.instanceMethod yX4_carriesOut ∈ WA := wa_of (i := 728) (by decide +kernel) rfl
theorem kc_X4_carriesOut : Cond.code yX4_carriesOut cX4_carriesOut 14 none ∈ WA := wa_of (i := 729) (by decide +kernel) rfl
theorem kl_L_118 : Cond.methodLink RL 118 yX4_plan ∈ WA := wa_of (i := 730) (by decide +kernel) rfl
theorem ki_X4_plan : Cond.instanceMethod yX4_plan ∈ WA := wa_of (i := 731) (by decide +kernel) rfl
theorem ks_X4_plan : Cond.selects RX4 yX4_plan yX4_plan ∈ WA := wa_of (i := 732) (by decide +kernel) rfl
theorem kc_X4_plan : Cond.code yX4_plan cX4_plan 7 (some .int) ∈ WA := wa_of (i := 733) (by decide +kernel) rfl
theorem kw_X4_92 : Cond.constantLong RX4 92 (900000000) ∈ WA := wa_of (i := 734) (by decide +kernel) rfl
theorem kw_X4_94 : Cond.constantLong RX4 94 (20) ∈ WA := wa_of (i := 735) (by decide +kernel) rfl
theorem kl_L_122 : Cond.methodLink RL 122 yX4_nextPlanned ∈ WA := wa_of (i := 736) (by decide +kernel) rfl
theorem ki_X4_nextPlanned : Cond.instanceMethod yX4_nextPlanned ∈ WA := wa_of (i := 737) (by decide +kernel) rfl
theorem ks_X4_nextPlanned : Cond.selects RX4 yX4_nextPlanned yX4_nextPlanned ∈ WA := wa_of (i := 738) (by decide +kernel) rfl
theorem kc_X4_nextPlanned : Cond.code yX4_nextPlanned cX4_nextPlanned 2 (some .int) ∈ WA := wa_of (i := 739) (by decide +kernel) rfl
theorem kl_X4_96 : Cond.methodLink RX4 96 yX4_waiting ∈ WA := wa_of (i := 740) (by decide +kernel) rfl
theorem ki_X4_waiting : Cond.instanceMethod yX4_waiting ∈ WA := wa_of (i := 742) (by decide +kernel) rfl
theorem kc_X4_waiting : Cond.code yX4_waiting cX4_waiting 10 (some .int) ∈ WA := wa_of (i := 743) (by decide +kernel) rfl
theorem kl_L_125 : Cond.methodLink RL 125 yX4_run ∈ WA := wa_of (i := 744) (by decide +kernel) rfl
theorem ki_X4_run : Cond.instanceMethod yX4_run ∈ WA := wa_of (i := 745) (by decide +kernel) rfl
theorem ks_X4_run : Cond.selects RX4 yX4_run yX4_run ∈ WA := wa_of (i := 746) (by decide +kernel) rfl
theorem kc_X4_run : Cond.code yX4_run cX4_run 7 (some .int) ∈ WA := wa_of (i := 747) (by decide +kernel) rfl
theorem kl_X4_100 : Cond.methodLink RX4 100 yX4_removes ∈ WA := wa_of (i := 748) (by decide +kernel) rfl
theorem ki_X4_removes : Cond.instanceMethod yX4_removes ∈ WA := wa_of (i := 750) (by decide +kernel) rfl
theorem kc_X4_removes : Cond.code yX4_removes cX4_removes 3 none ∈ WA := wa_of (i := 751) (by decide +kernel) rfl
theorem kl_L_130 : Cond.methodLink RL 130 yX4_now ∈ WA := wa_of (i := 752) (by decide +kernel) rfl
theorem ki_X4_now : Cond.instanceMethod yX4_now ∈ WA := wa_of (i := 753) (by decide +kernel) rfl
theorem ks_X4_now : Cond.selects RX4 yX4_now yX4_now ∈ WA := wa_of (i := 754) (by decide +kernel) rfl
theorem kc_X4_now : Cond.code yX4_now cX4_now 1 (some .long) ∈ WA := wa_of (i := 755) (by decide +kernel) rfl
theorem kl_L_134 : Cond.methodLink RL 134 yX4_exchanges ∈ WA := wa_of (i := 756) (by decide +kernel) rfl
theorem ki_X4_exchanges : Cond.instanceMethod yX4_exchanges ∈ WA := wa_of (i := 757) (by decide +kernel) rfl
theorem ks_X4_exchanges : Cond.selects RX4 yX4_exchanges yX4_exchanges ∈ WA := wa_of (i := 758) (by decide +kernel) rfl
theorem kc_X4_exchanges : Cond.code yX4_exchanges cX4_exchanges 1 (some .int) ∈ WA := wa_of (i := 759) (by decide +kernel) rfl
theorem kl_L_137 : Cond.methodLink RL 137 yX4_stamp ∈ WA := wa_of (i := 760) (by decide +kernel) rfl
theorem ki_X4_stamp : Cond.instanceMethod yX4_stamp ∈ WA := wa_of (i := 761) (by decide +kernel) rfl
theorem ks_X4_stamp : Cond.selects RX4 yX4_stamp yX4_stamp ∈ WA := wa_of (i := 762) (by decide +kernel) rfl
theorem kc_X4_stamp : Cond.code yX4_stamp cX4_stamp 3 (some .int) ∈ WA := wa_of (i := 763) (by decide +kernel) rfl
theorem kl_X4_104 : Cond.methodLink RX4 104 yX4_isExchange ∈ WA := wa_of (i := 764) (by decide +kernel) rfl
theorem ki_X4_isExchange : Cond.instanceMethod yX4_isExchange ∈ WA := wa_of (i := 766) (by decide +kernel) rfl
theorem kc_X4_isExchange : Cond.code yX4_isExchange cX4_isExchange 2 (some .boolean) ∈ WA := wa_of (i := 767) (by decide +kernel) rfl
theorem kl_X4_107 : Cond.methodLink RX4 107 yX4_inExchange ∈ WA := wa_of (i := 768) (by decide +kernel) rfl
theorem ki_X4_inExchange : Cond.instanceMethod yX4_inExchange ∈ WA := wa_of (i := 770) (by decide +kernel) rfl
theorem kc_X4_inExchange : Cond.code yX4_inExchange cX4_inExchange 3 (some .long) ∈ WA := wa_of (i := 771) (by decide +kernel) rfl
theorem kl_L_140 : Cond.methodLink RL 140 yX4_party ∈ WA := wa_of (i := 772) (by decide +kernel) rfl
theorem ki_X4_party : Cond.instanceMethod yX4_party ∈ WA := wa_of (i := 773) (by decide +kernel) rfl
theorem ks_X4_party : Cond.selects RX4 yX4_party yX4_party ∈ WA := wa_of (i := 774) (by decide +kernel) rfl
theorem kc_X4_party : Cond.code yX4_party cX4_party 3 (some .int) ∈ WA := wa_of (i := 775) (by decide +kernel) rfl
theorem kl_L_143 : Cond.methodLink RL 143 yX4_range ∈ WA := wa_of (i := 776) (by decide +kernel) rfl
theorem ki_X4_range : Cond.instanceMethod yX4_range ∈ WA := wa_of (i := 777) (by decide +kernel) rfl
theorem ks_X4_range : Cond.selects RX4 yX4_range yX4_range ∈ WA := wa_of (i := 778) (by decide +kernel) rfl
theorem kc_X4_range : Cond.code yX4_range cX4_range 3 (some .int) ∈ WA := wa_of (i := 779) (by decide +kernel) rfl
theorem kl_X4_128 : Cond.methodLink RX4 128 yX4_isMethod ∈ WA := wa_of (i := 780) (by decide +kernel) rfl
theorem kt_X4_isMethod : Cond.static yX4_isMethod ∈ WA := wa_of (i := 781) (by decide +kernel) rfl
theorem kc_X4_isMethod : Cond.code yX4_isMethod cX4_isMethod 1 (some .boolean) ∈ WA := wa_of (i := 782) (by decide +kernel) rfl
theorem kl_X4_131 : Cond.methodLink RX4 131 yX4_rangeOf ∈ WA := wa_of (i := 783) (by decide +kernel) rfl
theorem ki_X4_rangeOf : Cond.instanceMethod yX4_rangeOf ∈ WA := wa_of (i := 785) (by decide +kernel) rfl
theorem kc_X4_rangeOf : Cond.code yX4_rangeOf cX4_rangeOf 3 (some .long) ∈ WA := wa_of (i := 786) (by decide +kernel) rfl
theorem kl_X4_119 : Cond.methodLink RX4 119 yX4_rawOf ∈ WA := wa_of (i := 787) (by decide +kernel) rfl
theorem ki_X4_rawOf : Cond.instanceMethod yX4_rawOf ∈ WA := wa_of (i := 789) (by decide +kernel) rfl
theorem kc_X4_rawOf : Cond.code yX4_rawOf cX4_rawOf 13 (some .long) ∈ WA := wa_of (i := 790) (by decide +kernel) rfl
theorem kl_X4_110 : Cond.methodLink RX4 110 yX4_span ∈ WA := wa_of (i := 791) (by decide +kernel) rfl
theorem ki_X4_span : Cond.instanceMethod yX4_span ∈ WA := wa_of (i := 793) (by decide +kernel) rfl
theorem kc_X4_span : Cond.code yX4_span cX4_span 4 (some .long) ∈ WA := wa_of (i := 794) (by decide +kernel) rfl
theorem kl_X4_114 : Cond.methodLink RX4 114 yX4_floor ∈ WA := wa_of (i := 795) (by decide +kernel) rfl
theorem kt_X4_floor : Cond.static yX4_floor ∈ WA := wa_of (i := 796) (by decide +kernel) rfl
theorem kc_X4_floor : Cond.code yX4_floor cX4_floor 6 (some .long) ∈ WA := wa_of (i := 797) (by decide +kernel) rfl
theorem kw_X4_117 : Cond.constantLong RX4 117 (4) ∈ WA := wa_of (i := 798) (by decide +kernel) rfl
theorem kl_X4_122 : Cond.methodLink RX4 122 yX4_first ∈ WA := wa_of (i := 799) (by decide +kernel) rfl
theorem ki_X4_first : Cond.instanceMethod yX4_first ∈ WA := wa_of (i := 801) (by decide +kernel) rfl
theorem kc_X4_first : Cond.code yX4_first cX4_first 2 (some .int) ∈ WA := wa_of (i := 802) (by decide +kernel) rfl
theorem kl_X4_125 : Cond.methodLink RX4 125 yX4_second ∈ WA := wa_of (i := 803) (by decide +kernel) rfl
theorem ki_X4_second : Cond.instanceMethod yX4_second ∈ WA := wa_of (i := 805) (by decide +kernel) rfl
theorem kc_X4_second : Cond.code yX4_second cX4_second 2 (some .int) ∈ WA := wa_of (i := 806) (by decide +kernel) rfl
theorem kl_L_146 : Cond.methodLink RL 146 yX4_latestRange ∈ WA := wa_of (i := 807) (by decide +kernel) rfl
theorem ki_X4_latestRange : Cond.instanceMethod yX4_latestRange ∈ WA := wa_of (i := 808) (by decide +kernel) rfl
theorem ks_X4_latestRange : Cond.selects RX4 yX4_latestRange yX4_latestRange ∈ WA := wa_of (i := 809) (by decide +kernel) rfl
theorem kc_X4_latestRange : Cond.code yX4_latestRange cX4_latestRange 4 (some .int) ∈ WA := wa_of (i := 810) (by decide +kernel) rfl
theorem kl_X4_134 : Cond.methodLink RX4 134 yX4_latestOf ∈ WA := wa_of (i := 811) (by decide +kernel) rfl
theorem ki_X4_latestOf : Cond.instanceMethod yX4_latestOf ∈ WA := wa_of (i := 813) (by decide +kernel) rfl
theorem kc_X4_latestOf : Cond.code yX4_latestOf cX4_latestOf 5 (some .int) ∈ WA := wa_of (i := 814) (by decide +kernel) rfl
theorem kl_L_149 : Cond.methodLink RL 149 yX4_worstError ∈ WA := wa_of (i := 815) (by decide +kernel) rfl
theorem ki_X4_worstError : Cond.instanceMethod yX4_worstError ∈ WA := wa_of (i := 816) (by decide +kernel) rfl
theorem ks_X4_worstError : Cond.selects RX4 yX4_worstError yX4_worstError ∈ WA := wa_of (i := 817) (by decide +kernel) rfl
theorem kc_X4_worstError : Cond.code yX4_worstError cX4_worstError 9 (some .int) ∈ WA := wa_of (i := 818) (by decide +kernel) rfl
theorem kw_X4_138 : Cond.constantLong RX4 138 (-1) ∈ WA := wa_of (i := 819) (by decide +kernel) rfl
theorem kl_X4_140 : Cond.methodLink RX4 140 yX4_errorOf ∈ WA := wa_of (i := 820) (by decide +kernel) rfl
theorem ki_X4_errorOf : Cond.instanceMethod yX4_errorOf ∈ WA := wa_of (i := 822) (by decide +kernel) rfl
theorem kc_X4_errorOf : Cond.code yX4_errorOf cX4_errorOf 3 (some .long) ∈ WA := wa_of (i := 823) (by decide +kernel) rfl
theorem kl_L_153 : Cond.methodLink RL 153 yX4_meanError ∈ WA := wa_of (i := 824) (by decide +kernel) rfl
theorem ki_X4_meanError : Cond.instanceMethod yX4_meanError ∈ WA := wa_of (i := 825) (by decide +kernel) rfl
theorem ks_X4_meanError : Cond.selects RX4 yX4_meanError yX4_meanError ∈ WA := wa_of (i := 826) (by decide +kernel) rfl
theorem kc_X4_meanError : Cond.code yX4_meanError cX4_meanError 8 (some .double) ∈ WA := wa_of (i := 827) (by decide +kernel) rfl
theorem kl_L_156 : Cond.methodLink RL 156 yX4_relativeDrift ∈ WA := wa_of (i := 828) (by decide +kernel) rfl
theorem ki_X4_relativeDrift : Cond.instanceMethod yX4_relativeDrift ∈ WA := wa_of (i := 829) (by decide +kernel) rfl
theorem ks_X4_relativeDrift : Cond.selects RX4 yX4_relativeDrift yX4_relativeDrift ∈ WA := wa_of (i := 830) (by decide +kernel) rfl
theorem kc_X4_relativeDrift : Cond.code yX4_relativeDrift cX4_relativeDrift 9 (some .double) ∈ WA := wa_of (i := 831) (by decide +kernel) rfl
theorem kd_X4_143 : Cond.constantDouble RX4 143 (4696837146684686336) ∈ WA := wa_of (i := 832) (by decide +kernel) rfl
theorem kl_L_159 : Cond.methodLink RL 159 yX4_calibrate ∈ WA := wa_of (i := 833) (by decide +kernel) rfl
theorem ki_X4_calibrate : Cond.instanceMethod yX4_calibrate ∈ WA := wa_of (i := 834) (by decide +kernel) rfl
theorem ks_X4_calibrate : Cond.selects RX4 yX4_calibrate yX4_calibrate ∈ WA := wa_of (i := 835) (by decide +kernel) rfl
theorem kc_X4_calibrate : Cond.code yX4_calibrate cX4_calibrate 12 (some .int) ∈ WA := wa_of (i := 836) (by decide +kernel) rfl
theorem kl_X4_145 : Cond.methodLink RX4 145 yX4_excess ∈ WA := wa_of (i := 837) (by decide +kernel) rfl
theorem ki_X4_excess : Cond.instanceMethod yX4_excess ∈ WA := wa_of (i := 839) (by decide +kernel) rfl
theorem kc_X4_excess : Cond.code yX4_excess cX4_excess 3 (some .long) ∈ WA := wa_of (i := 840) (by decide +kernel) rfl
theorem kl_L_162 : Cond.methodLink RL 162 yX4_fix ∈ WA := wa_of (i := 841) (by decide +kernel) rfl
theorem ki_X4_fix : Cond.instanceMethod yX4_fix ∈ WA := wa_of (i := 842) (by decide +kernel) rfl
theorem ks_X4_fix : Cond.selects RX4 yX4_fix yX4_fix ∈ WA := wa_of (i := 843) (by decide +kernel) rfl
theorem kc_X4_fix : Cond.code yX4_fix cX4_fix 29 (some .int) ∈ WA := wa_of (i := 844) (by decide +kernel) rfl
theorem kw_X4_148 : Cond.constantLong RX4 148 (999) ∈ WA := wa_of (i := 845) (by decide +kernel) rfl
theorem kl_X4_150 : Cond.methodLink RX4 150 yX4_right ∈ WA := wa_of (i := 846) (by decide +kernel) rfl
theorem ki_X4_right : Cond.instanceMethod yX4_right ∈ WA := wa_of (i := 848) (by decide +kernel) rfl
theorem kc_X4_right : Cond.code yX4_right cX4_right 9 (some .long) ∈ WA := wa_of (i := 849) (by decide +kernel) rfl
theorem kw_X4_154 : Cond.constantLong RX4 154 (-2147483648) ∈ WA := wa_of (i := 850) (by decide +kernel) rfl
theorem kw_X4_156 : Cond.constantLong RX4 156 (2147483647) ∈ WA := wa_of (i := 851) (by decide +kernel) rfl
theorem kl_L_166 : Cond.methodLink RL 166 yX4_undo ∈ WA := wa_of (i := 852) (by decide +kernel) rfl
theorem ki_X4_undo : Cond.instanceMethod yX4_undo ∈ WA := wa_of (i := 853) (by decide +kernel) rfl
theorem ks_X4_undo : Cond.selects RX4 yX4_undo yX4_undo ∈ WA := wa_of (i := 854) (by decide +kernel) rfl
theorem kc_X4_undo : Cond.code yX4_undo cX4_undo 2 (some .int) ∈ WA := wa_of (i := 855) (by decide +kernel) rfl
theorem kl_L_170 : Cond.methodLink RL 170 yX4_digest ∈ WA := wa_of (i := 856) (by decide +kernel) rfl
theorem ki_X4_digest : Cond.instanceMethod yX4_digest ∈ WA := wa_of (i := 857) (by decide +kernel) rfl
theorem ks_X4_digest : Cond.selects RX4 yX4_digest yX4_digest ∈ WA := wa_of (i := 858) (by decide +kernel) rfl
theorem kc_X4_digest : Cond.code yX4_digest cX4_digest 5 (some .long) ∈ WA := wa_of (i := 859) (by decide +kernel) rfl
theorem kw_X4_160 : Cond.constantLong RX4 160 (2797) ∈ WA := wa_of (i := 860) (by decide +kernel) rfl
theorem kl_X4_162 : Cond.methodLink RX4 162 yX4_sums ∈ WA := wa_of (i := 861) (by decide +kernel) rfl
theorem ki_X4_sums : Cond.instanceMethod yX4_sums ∈ WA := wa_of (i := 863) (by decide +kernel) rfl
theorem kc_X4_sums : Cond.code yX4_sums cX4_sums 8 (some .long) ∈ WA := wa_of (i := 864) (by decide +kernel) rfl
theorem kw_X4_158 : Cond.constantLong RX4 158 (31) ∈ WA := wa_of (i := 865) (by decide +kernel) rfl
theorem ka_double : Cond.arrayClass .double ∈ WA := wa_of (i := 866) (by decide +kernel) rfl
theorem ks_X0_newestSlot : Cond.selects RX0 yX0_newestSlot yX0_newestSlot ∈ WA := wa_of (i := 1) (by decide +kernel) rfl
theorem ks_X3_requireNode : Cond.selects RX3 yX3_requireNode yX3_requireNode ∈ WA := wa_of (i := 2) (by decide +kernel) rfl
theorem ks_X1_carryOutFirstPlan : Cond.selects RX1 yX1_carryOutFirstPlan yX1_carryOutFirstPlan ∈ WA := wa_of (i := 3) (by decide +kernel) rfl
theorem ks_X3_requireExchange : Cond.selects RX3 yX3_requireExchange yX3_requireExchange ∈ WA := wa_of (i := 4) (by decide +kernel) rfl
theorem ks_X3_requireLatest : Cond.selects RX3 yX3_requireLatest yX3_requireLatest ∈ WA := wa_of (i := 5) (by decide +kernel) rfl
theorem ks_X1_lengthOf : Cond.selects RX1 yX1_lengthOf yX1_lengthOf ∈ WA := wa_of (i := 6) (by decide +kernel) rfl
theorem ks_X3_solve : Cond.selects RX3 yX3_solve yX3_solve ∈ WA := wa_of (i := 7) (by decide +kernel) rfl
theorem ks_X4_goes : Cond.selects RX4 yX4_goes yX4_goes ∈ WA := wa_of (i := 8) (by decide +kernel) rfl
theorem ks_X4_save : Cond.selects RX4 yX4_save yX4_save ∈ WA := wa_of (i := 9) (by decide +kernel) rfl
theorem ks_X4_isNode : Cond.selects RX4 yX4_isNode yX4_isNode ∈ WA := wa_of (i := 10) (by decide +kernel) rfl
theorem ks_X4_of : Cond.selects RX4 yX4_of yX4_of ∈ WA := wa_of (i := 11) (by decide +kernel) rfl
theorem ks_X4_distanceOf : Cond.selects RX4 yX4_distanceOf yX4_distanceOf ∈ WA := wa_of (i := 12) (by decide +kernel) rfl
theorem ks_X4_counterAt : Cond.selects RX4 yX4_counterAt yX4_counterAt ∈ WA := wa_of (i := 13) (by decide +kernel) rfl
theorem ks_X4_carriesOut : Cond.selects RX4 yX4_carriesOut yX4_carriesOut ∈ WA := wa_of (i := 14) (by decide +kernel) rfl
theorem ks_X4_waiting : Cond.selects RX4 yX4_waiting yX4_waiting ∈ WA := wa_of (i := 15) (by decide +kernel) rfl
theorem ks_X4_removes : Cond.selects RX4 yX4_removes yX4_removes ∈ WA := wa_of (i := 16) (by decide +kernel) rfl
theorem ks_X4_isExchange : Cond.selects RX4 yX4_isExchange yX4_isExchange ∈ WA := wa_of (i := 17) (by decide +kernel) rfl
theorem ks_X4_inExchange : Cond.selects RX4 yX4_inExchange yX4_inExchange ∈ WA := wa_of (i := 18) (by decide +kernel) rfl
theorem ks_X4_rangeOf : Cond.selects RX4 yX4_rangeOf yX4_rangeOf ∈ WA := wa_of (i := 19) (by decide +kernel) rfl
theorem ks_X4_rawOf : Cond.selects RX4 yX4_rawOf yX4_rawOf ∈ WA := wa_of (i := 20) (by decide +kernel) rfl
theorem ks_X4_span : Cond.selects RX4 yX4_span yX4_span ∈ WA := wa_of (i := 21) (by decide +kernel) rfl
theorem ks_X4_first : Cond.selects RX4 yX4_first yX4_first ∈ WA := wa_of (i := 22) (by decide +kernel) rfl
theorem ks_X4_second : Cond.selects RX4 yX4_second yX4_second ∈ WA := wa_of (i := 23) (by decide +kernel) rfl
theorem ks_X4_latestOf : Cond.selects RX4 yX4_latestOf yX4_latestOf ∈ WA := wa_of (i := 24) (by decide +kernel) rfl
theorem ks_X4_errorOf : Cond.selects RX4 yX4_errorOf yX4_errorOf ∈ WA := wa_of (i := 25) (by decide +kernel) rfl
theorem ks_X4_excess : Cond.selects RX4 yX4_excess yX4_excess ∈ WA := wa_of (i := 26) (by decide +kernel) rfl
theorem ks_X4_right : Cond.selects RX4 yX4_right yX4_right ∈ WA := wa_of (i := 27) (by decide +kernel) rfl
theorem ks_X4_sums : Cond.selects RX4 yX4_sums yX4_sums ∈ WA := wa_of (i := 28) (by decide +kernel) rfl
theorem inX0 : ∀ w ∈ wsX00, w ∈ WA := wa_sub (by decide +kernel) (by decide +kernel)
theorem inX1 : ∀ w ∈ wsX10, w ∈ WA := wa_sub (by decide +kernel) (by decide +kernel)
theorem inX2 : ∀ w ∈ wsX20, w ∈ WA := wa_sub (by decide +kernel) (by decide +kernel)
theorem inX3 : ∀ w ∈ wsX30, w ∈ WA := wa_sub (by decide +kernel) (by decide +kernel)
theorem inX4 : ∀ w ∈ wsX40, w ∈ WA := wa_sub (by decide +kernel) (by decide +kernel)
theorem at_ISE : ∀ w ∈ (vx_atS RX3 42 "java/lang/IllegalStateException" ["java/lang/RuntimeException", "java/lang/Exception"]).filter goodWord, w ∈ WA := wa_sub (by decide +kernel) (by simp only [List.all_filter]; exact List.all_eq_true.mpr (fun w _ => by cases goodWord w <;> rfl))
theorem at_IAE : ∀ w ∈ (vx_atS RX3 195 "java/lang/IllegalArgumentException" ["java/lang/RuntimeException", "java/lang/Exception"]).filter goodWord, w ∈ WA := wa_sub (by decide +kernel) (by simp only [List.all_filter]; exact List.all_eq_true.mpr (fun w _ => by cases goodWord w <;> rfl))
theorem at_IOE : ∀ w ∈ (vx_atS RX3 153 "java/lang/IndexOutOfBoundsException" ["java/lang/RuntimeException", "java/lang/Exception"]).filter goodWord, w ∈ WA := wa_sub (by decide +kernel) (by simp only [List.all_filter]; exact List.all_eq_true.mpr (fun w _ => by cases goodWord w <;> rfl))
theorem at_AE : ∀ w ∈ (vx_atS RX3 140 "java/lang/ArithmeticException" ["java/lang/RuntimeException", "java/lang/Exception"]).filter goodWord, w ∈ WA := wa_sub (by decide +kernel) (by simp only [List.all_filter]; exact List.all_eq_true.mpr (fun w _ => by cases goodWord w <;> rfl))
