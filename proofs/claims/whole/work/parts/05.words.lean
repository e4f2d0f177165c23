theorem iX0 : ∀ w ∈ u_ws RX0 TX0 4, w ∈ UW := fun w h => uw ((by decide +kernel : ∀ w ∈ u_ws RX0 TX0 4, w ∈ lw_tbl) w h) ((by decide +kernel : ∀ w ∈ u_ws RX0 TX0 4, goodWord w = true) w h)
theorem iX1 : ∀ w ∈ u_ws RX1 TX1 8, w ∈ UW := fun w h => uw ((by decide +kernel : ∀ w ∈ u_ws RX1 TX1 8, w ∈ lw_tbl) w h) ((by decide +kernel : ∀ w ∈ u_ws RX1 TX1 8, goodWord w = true) w h)
theorem iX2 : ∀ w ∈ u_ws RX2 TX2 5, w ∈ UW := fun w h => uw ((by decide +kernel : ∀ w ∈ u_ws RX2 TX2 5, w ∈ lw_tbl) w h) ((by decide +kernel : ∀ w ∈ u_ws RX2 TX2 5, goodWord w = true) w h)
theorem iX3 : ∀ w ∈ u_ws RX3 TX3 9, w ∈ UW := fun w h => uw ((by decide +kernel : ∀ w ∈ u_ws RX3 TX3 9, w ∈ lw_tbl) w h) ((by decide +kernel : ∀ w ∈ u_ws RX3 TX3 9, goodWord w = true) w h)
theorem iX4 : ∀ w ∈ u_ws RX4 TX4 17, w ∈ UW := fun w h => uw ((by decide +kernel : ∀ w ∈ u_ws RX4 TX4 17, w ∈ lw_tbl) w h) ((by decide +kernel : ∀ w ∈ u_ws RX4 TX4 17, goodWord w = true) w h)
set_option maxRecDepth 20000 in
theorem wd_code_X0_init : Cond.code yX0_init cX0_init 1 none ∈ UW := uw (List.mem_of_getElem? (i := 55) rfl) rfl
set_option maxRecDepth 20000 in
theorem wd_code_X0_pack : Cond.code yX0_pack cX0_pack 4 (some .int) ∈ UW := uw (List.mem_of_getElem? (i := 211) rfl) rfl
set_option maxRecDepth 20000 in
theorem wd_code_X0_findMatch : Cond.code yX0_findMatch cX0_findMatch 5 none ∈ UW := uw (List.mem_of_getElem? (i := 215) rfl) rfl
set_option maxRecDepth 20000 in
theorem wd_code_X0_sameLength : Cond.code yX0_sameLength cX0_sameLength 4 (some .int) ∈ UW := uw (List.mem_of_getElem? (i := 218) rfl) rfl
set_option maxRecDepth 20000 in
theorem wd_code_X0_putSequence : Cond.code yX0_putSequence cX0_putSequence 7 none ∈ UW := uw (List.mem_of_getElem? (i := 222) rfl) rfl
set_option maxRecDepth 20000 in
theorem wd_code_X0_putMatch : Cond.code yX0_putMatch cX0_putMatch 3 none ∈ UW := uw (List.mem_of_getElem? (i := 235) rfl) rfl
set_option maxRecDepth 20000 in
theorem wd_code_X0_putRest : Cond.code yX0_putRest cX0_putRest 2 none ∈ UW := uw (List.mem_of_getElem? (i := 231) rfl) rfl
set_option maxRecDepth 20000 in
theorem wd_code_X0_put : Cond.code yX0_put cX0_put 2 none ∈ UW := uw (List.mem_of_getElem? (i := 227) rfl) rfl
set_option maxRecDepth 20000 in
theorem wd_code_X1_init : Cond.code yX1_init cX1_init 1 none ∈ UW := uw (List.mem_of_getElem? (i := 76) rfl) rfl
set_option maxRecDepth 20000 in
theorem wd_code_X1_unpack : Cond.code yX1_unpack cX1_unpack 6 (some .int) ∈ UW := uw (List.mem_of_getElem? (i := 283) rfl) rfl
set_option maxRecDepth 20000 in
theorem wd_code_X1_readSequence : Cond.code yX1_readSequence cX1_readSequence 3 (some .boolean) ∈ UW := uw (List.mem_of_getElem? (i := 287) rfl) rfl
set_option maxRecDepth 20000 in
theorem wd_code_X1_readLiterals : Cond.code yX1_readLiterals cX1_readLiterals 5 none ∈ UW := uw (List.mem_of_getElem? (i := 299) rfl) rfl
set_option maxRecDepth 20000 in
theorem wd_code_X1_readMatch : Cond.code yX1_readMatch cX1_readMatch 7 none ∈ UW := uw (List.mem_of_getElem? (i := 311) rfl) rfl
set_option maxRecDepth 20000 in
theorem wd_code_X1_readNumber : Cond.code yX1_readNumber cX1_readNumber 6 (some .int) ∈ UW := uw (List.mem_of_getElem? (i := 303) rfl) rfl
set_option maxRecDepth 20000 in
theorem wd_code_X1_next : Cond.code yX1_next cX1_next 1 (some .int) ∈ UW := uw (List.mem_of_getElem? (i := 291) rfl) rfl
set_option maxRecDepth 20000 in
theorem wd_code_X1_putOut : Cond.code yX1_putOut cX1_putOut 2 none ∈ UW := uw (List.mem_of_getElem? (i := 307) rfl) rfl
set_option maxRecDepth 20000 in
theorem wd_code_X1_fail : Cond.code yX1_fail cX1_fail 3 none ∈ UW := uw (List.mem_of_getElem? (i := 295) rfl) rfl
set_option maxRecDepth 20000 in
theorem wd_code_X2_init : Cond.code yX2_init cX2_init 2 none ∈ UW := uw (List.mem_of_getElem? (i := 115) rfl) rfl
set_option maxRecDepth 20000 in
theorem wd_code_X2_has : Cond.code yX2_has cX2_has 2 (some .boolean) ∈ UW := uw (List.mem_of_getElem? (i := 329) rfl) rfl
set_option maxRecDepth 20000 in
theorem wd_code_X2_put : Cond.code yX2_put cX2_put 5 (some .boolean) ∈ UW := uw (List.mem_of_getElem? (i := 243) rfl) rfl
set_option maxRecDepth 20000 in
theorem wd_code_X2_release : Cond.code yX2_release cX2_release 3 (some .int) ∈ UW := uw (List.mem_of_getElem? (i := 203) rfl) rfl
set_option maxRecDepth 20000 in
theorem wd_code_X2_putTogether : Cond.code yX2_putTogether cX2_putTogether 5 (some .int) ∈ UW := uw (List.mem_of_getElem? (i := 264) rfl) rfl
set_option maxRecDepth 20000 in
theorem wd_code_X2_freeBytes : Cond.code yX2_freeBytes cX2_freeBytes 3 (some .int) ∈ UW := uw (List.mem_of_getElem? (i := 247) rfl) rfl
set_option maxRecDepth 20000 in
theorem wd_code_X2_longestGap : Cond.code yX2_longestGap cX2_longestGap 3 (some .int) ∈ UW := uw (List.mem_of_getElem? (i := 347) rfl) rfl
set_option maxRecDepth 20000 in
theorem wd_code_X2_freeRows : Cond.code yX2_freeRows cX2_freeRows 3 (some .int) ∈ UW := uw (List.mem_of_getElem? (i := 352) rfl) rfl
set_option maxRecDepth 20000 in
theorem wd_code_X2_firstGapOf : Cond.code yX2_firstGapOf cX2_firstGapOf 3 (some .int) ∈ UW := uw (List.mem_of_getElem? (i := 260) rfl) rfl
set_option maxRecDepth 20000 in
theorem wd_code_X2_gapStart : Cond.code yX2_gapStart cX2_gapStart 2 (some .int) ∈ UW := uw (List.mem_of_getElem? (i := 255) rfl) rfl
set_option maxRecDepth 20000 in
theorem wd_code_X2_gapSize : Cond.code yX2_gapSize cX2_gapSize 3 (some .int) ∈ UW := uw (List.mem_of_getElem? (i := 251) rfl) rfl
set_option maxRecDepth 20000 in
theorem wd_code_X2_insert : Cond.code yX2_insert cX2_insert 5 none ∈ UW := uw (List.mem_of_getElem? (i := 271) rfl) rfl
set_option maxRecDepth 20000 in
theorem wd_code_X2_removeFromOrder : Cond.code yX2_removeFromOrder cX2_removeFromOrder 4 none ∈ UW := uw (List.mem_of_getElem? (i := 207) rfl) rfl
set_option maxRecDepth 20000 in
theorem wd_code_X3_init : Cond.code yX3_init cX3_init 2 none ∈ UW := uw (List.mem_of_getElem? (i := 47) rfl) rfl
set_option maxRecDepth 20000 in
theorem wd_code_X3_fill : Cond.code yX3_fill cX3_fill 3 (some .int) ∈ UW := uw (List.mem_of_getElem? (i := 170) rfl) rfl
set_option maxRecDepth 20000 in
theorem wd_code_X3_run : Cond.code yX3_run cX3_run 5 (some .int) ∈ UW := uw (List.mem_of_getElem? (i := 180) rfl) rfl
set_option maxRecDepth 20000 in
theorem wd_code_X3_copy : Cond.code yX3_copy cX3_copy 5 (some .int) ∈ UW := uw (List.mem_of_getElem? (i := 184) rfl) rfl
set_option maxRecDepth 20000 in
theorem wd_code_X3_octet : Cond.code yX3_octet cX3_octet 2 (some .int) ∈ UW := uw (List.mem_of_getElem? (i := 188) rfl) rfl
set_option maxRecDepth 20000 in
theorem wd_code_X3_write : Cond.code yX3_write cX3_write 3 (some .int) ∈ UW := uw (List.mem_of_getElem? (i := 192) rfl) rfl
set_option maxRecDepth 20000 in
theorem wd_code_X3_read : Cond.code yX3_read cX3_read 2 (some .int) ∈ UW := uw (List.mem_of_getElem? (i := 275) rfl) rfl
set_option maxRecDepth 20000 in
theorem wd_code_X3_trim : Cond.code yX3_trim cX3_trim 2 (some .int) ∈ UW := uw (List.mem_of_getElem? (i := 317) rfl) rfl
set_option maxRecDepth 20000 in
theorem wd_code_X3_slot : Cond.code yX3_slot cX3_slot 3 (some .int) ∈ UW := uw (List.mem_of_getElem? (i := 321) rfl) rfl
set_option maxRecDepth 20000 in
theorem wd_code_X3_stored : Cond.code yX3_stored cX3_stored 2 (some .int) ∈ UW := uw (List.mem_of_getElem? (i := 325) rfl) rfl
set_option maxRecDepth 20000 in
theorem wd_code_X3_alter : Cond.code yX3_alter cX3_alter 3 (some .int) ∈ UW := uw (List.mem_of_getElem? (i := 333) rfl) rfl
set_option maxRecDepth 20000 in
theorem wd_code_X3_compact : Cond.code yX3_compact cX3_compact 1 (some .int) ∈ UW := uw (List.mem_of_getElem? (i := 337) rfl) rfl
set_option maxRecDepth 20000 in
theorem wd_code_X3_free : Cond.code yX3_free cX3_free 2 (some .int) ∈ UW := uw (List.mem_of_getElem? (i := 342) rfl) rfl
set_option maxRecDepth 20000 in
theorem wd_code_X3_type : Cond.code yX3_type cX3_type 3 (some .int) ∈ UW := uw (List.mem_of_getElem? (i := 356) rfl) rfl
set_option maxRecDepth 20000 in
theorem wd_code_X3_decode : Cond.code yX3_decode cX3_decode 2 (some .int) ∈ UW := uw (List.mem_of_getElem? (i := 360) rfl) rfl
set_option maxRecDepth 20000 in
theorem wd_code_X3_place : Cond.code yX3_place cX3_place 1 (some .int) ∈ UW := uw (List.mem_of_getElem? (i := 364) rfl) rfl
set_option maxRecDepth 20000 in
theorem wd_code_X3_isBlock : Cond.code yX3_isBlock cX3_isBlock 1 (some .boolean) ∈ UW := uw (List.mem_of_getElem? (i := 195) rfl) rfl
set_option maxRecDepth 20000 in
theorem wd_code_X3_liesInBuffer : Cond.code yX3_liesInBuffer cX3_liesInBuffer 2 (some .boolean) ∈ UW := uw (List.mem_of_getElem? (i := 173) rfl) rfl
set_option maxRecDepth 20000 in
theorem wd_code_X3_putHighestFirst : Cond.code yX3_putHighestFirst cX3_putHighestFirst 5 none ∈ UW := uw (List.mem_of_getElem? (i := 176) rfl) rfl
set_option maxRecDepth 20000 in
theorem wd_code_X3_bufferIsOneByte : Cond.code yX3_bufferIsOneByte cX3_bufferIsOneByte 2 (some .boolean) ∈ UW := uw (List.mem_of_getElem? (i := 199) rfl) rfl
set_option maxRecDepth 20000 in
theorem wd_code_X3_keep : Cond.code yX3_keep cX3_keep 5 (some .int) ∈ UW := uw (List.mem_of_getElem? (i := 239) rfl) rfl
set_option maxRecDepth 20000 in
theorem wd_code_X3_unpack : Cond.code yX3_unpack cX3_unpack 3 (some .int) ∈ UW := uw (List.mem_of_getElem? (i := 279) rfl) rfl
set_option maxRecDepth 20000 in
theorem wd_code_X4_init : Cond.code yX4_init cX4_init 2 none ∈ UW := uw (List.mem_of_getElem? (i := 372) rfl) rfl
set_option maxRecDepth 20000 in
theorem wd_code_X4_isIn : Cond.code yX4_isIn cX4_isIn 3 (some .boolean) ∈ UW := uw (List.mem_of_getElem? (i := 432) rfl) rfl
set_option maxRecDepth 20000 in
theorem wd_code_X4_fill : Cond.code yX4_fill cX4_fill 4 (some .int) ∈ UW := uw (List.mem_of_getElem? (i := 429) rfl) rfl
set_option maxRecDepth 20000 in
theorem wd_code_X4_run : Cond.code yX4_run cX4_run 5 (some .int) ∈ UW := uw (List.mem_of_getElem? (i := 436) rfl) rfl
set_option maxRecDepth 20000 in
theorem wd_code_X4_copy : Cond.code yX4_copy cX4_copy 5 (some .int) ∈ UW := uw (List.mem_of_getElem? (i := 440) rfl) rfl
set_option maxRecDepth 20000 in
theorem wd_code_X4_octet : Cond.code yX4_octet cX4_octet 2 (some .int) ∈ UW := uw (List.mem_of_getElem? (i := 444) rfl) rfl
set_option maxRecDepth 20000 in
theorem wd_code_X4_byteOut : Cond.code yX4_byteOut cX4_byteOut 2 none ∈ UW := uw (List.mem_of_getElem? (i := 472) rfl) rfl
set_option maxRecDepth 20000 in
theorem wd_code_X4_more : Cond.code yX4_more cX4_more 3 none ∈ UW := uw (List.mem_of_getElem? (i := 476) rfl) rfl
set_option maxRecDepth 20000 in
theorem wd_code_X4_sequence : Cond.code yX4_sequence cX4_sequence 8 none ∈ UW := uw (List.mem_of_getElem? (i := 468) rfl) rfl
set_option maxRecDepth 20000 in
theorem wd_code_X4_alike : Cond.code yX4_alike cX4_alike 4 (some .int) ∈ UW := uw (List.mem_of_getElem? (i := 464) rfl) rfl
set_option maxRecDepth 20000 in
theorem wd_code_X4_pack : Cond.code yX4_pack cX4_pack 7 none ∈ UW := uw (List.mem_of_getElem? (i := 460) rfl) rfl
set_option maxRecDepth 20000 in
theorem wd_code_X4_fails : Cond.code yX4_fails cX4_fails 3 (some .int) ∈ UW := uw (List.mem_of_getElem? (i := 508) rfl) rfl
set_option maxRecDepth 20000 in
theorem wd_code_X4_added : Cond.code yX4_added cX4_added 3 (some .int) ∈ UW := uw (List.mem_of_getElem? (i := 512) rfl) rfl
set_option maxRecDepth 20000 in
theorem wd_code_X4_readAll : Cond.code yX4_readAll cX4_readAll 7 (some .int) ∈ UW := uw (List.mem_of_getElem? (i := 504) rfl) rfl
set_option maxRecDepth 20000 in
theorem wd_code_X4_placeOf : Cond.code yX4_placeOf cX4_placeOf 3 (some .int) ∈ UW := uw (List.mem_of_getElem? (i := 500) rfl) rfl
set_option maxRecDepth 20000 in
theorem wd_code_X4_sizeOf : Cond.code yX4_sizeOf cX4_sizeOf 4 (some .int) ∈ UW := uw (List.mem_of_getElem? (i := 488) rfl) rfl
set_option maxRecDepth 20000 in
theorem wd_code_X4_release : Cond.code yX4_release cX4_release 3 none ∈ UW := uw (List.mem_of_getElem? (i := 456) rfl) rfl
set_option maxRecDepth 20000 in
theorem wd_code_X4_room : Cond.code yX4_room cX4_room 5 (some .int) ∈ UW := uw (List.mem_of_getElem? (i := 480) rfl) rfl
set_option maxRecDepth 20000 in
theorem wd_code_X4_together : Cond.code yX4_together cX4_together 4 (some .int) ∈ UW := uw (List.mem_of_getElem? (i := 492) rfl) rfl
set_option maxRecDepth 20000 in
theorem wd_code_X4_isBlock : Cond.code yX4_isBlock cX4_isBlock 2 (some .boolean) ∈ UW := uw (List.mem_of_getElem? (i := 452) rfl) rfl
set_option maxRecDepth 20000 in
theorem wd_code_X4_write : Cond.code yX4_write cX4_write 7 (some .int) ∈ UW := uw (List.mem_of_getElem? (i := 448) rfl) rfl
set_option maxRecDepth 20000 in
theorem wd_code_X4_read : Cond.code yX4_read cX4_read 5 (some .int) ∈ UW := uw (List.mem_of_getElem? (i := 496) rfl) rfl
set_option maxRecDepth 20000 in
theorem wd_code_X4_trim : Cond.code yX4_trim cX4_trim 3 (some .int) ∈ UW := uw (List.mem_of_getElem? (i := 516) rfl) rfl
set_option maxRecDepth 20000 in
theorem wd_code_X4_slot : Cond.code yX4_slot cX4_slot 3 (some .int) ∈ UW := uw (List.mem_of_getElem? (i := 520) rfl) rfl
set_option maxRecDepth 20000 in
theorem wd_code_X4_stored : Cond.code yX4_stored cX4_stored 2 (some .int) ∈ UW := uw (List.mem_of_getElem? (i := 524) rfl) rfl
set_option maxRecDepth 20000 in
theorem wd_code_X4_alter : Cond.code yX4_alter cX4_alter 3 (some .int) ∈ UW := uw (List.mem_of_getElem? (i := 528) rfl) rfl
set_option maxRecDepth 20000 in
theorem wd_code_X4_compact : Cond.code yX4_compact cX4_compact 1 (some .int) ∈ UW := uw (List.mem_of_getElem? (i := 532) rfl) rfl
set_option maxRecDepth 20000 in
theorem wd_code_X4_free : Cond.code yX4_free cX4_free 7 (some .int) ∈ UW := uw (List.mem_of_getElem? (i := 484) rfl) rfl
set_option maxRecDepth 20000 in
theorem wd_code_X4_type : Cond.code yX4_type cX4_type 4 (some .int) ∈ UW := uw (List.mem_of_getElem? (i := 537) rfl) rfl
set_option maxRecDepth 20000 in
theorem wd_code_X4_decode : Cond.code yX4_decode cX4_decode 3 (some .int) ∈ UW := uw (List.mem_of_getElem? (i := 541) rfl) rfl
set_option maxRecDepth 20000 in
theorem wd_code_X4_place : Cond.code yX4_place cX4_place 1 (some .int) ∈ UW := uw (List.mem_of_getElem? (i := 545) rfl) rfl
set_option maxRecDepth 20000 in
theorem wd_code_J7_fill_53178 : Cond.code yJ7_fill_53178 cJ7_fill_53178 4 none ∈ UW := uw (List.mem_of_getElem? (i := 119) rfl) rfl
set_option maxRecDepth 20000 in
theorem wd_code_L_cell : Cond.code yL_cell cL_cell 2 (some .int) ∈ UW := uw (List.mem_of_getElem? (i := 367) rfl) rfl
theorem wd_maxcode : Cond.code Lib.Math.max.name Lib.Math.max.code 2 (some .int) ∈ UW := uw (List.mem_of_getElem? (i := 112) rfl) rfl
theorem wd_mincode : Cond.code Lib.Math.min.name Lib.Math.min.code 2 (some .int) ∈ UW := uw (List.mem_of_getElem? (i := 109) rfl) rfl
theorem wd_objcode : Cond.code Lib.objectInit ⟨#[0xb1]⟩ 1 none ∈ UW := uw (List.mem_of_getElem? (i := 50) rfl) rfl
abbrev vwCl : List vw_C := [(RX0, TX0, 4), (RX1, TX1, 8), (RX2, TX2, 5), (RX3, TX3, 9), (RX4, TX4, 17)]
