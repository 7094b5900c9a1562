/-! call sites: their words, by program -/
set_option maxRecDepth 100000 in
theorem mX6_feed : pt_ckM yX6_feed YX6_feed 5 52 199 = true := by decide +kernel
set_option maxRecDepth 100000 in
theorem mX6_end : pt_ckM yX6_end YX6_end 1 52 207 = true := by decide +kernel
set_option maxRecDepth 100000 in
theorem mX6_place : pt_ckM yX6_place YX6_place 1 52 211 = true := by decide +kernel
set_option maxRecDepth 100000 in
theorem mX6_placeByTape : pt_ckM yX6_placeByTape YX6_placeByTape 1 52 215 = true := by decide +kernel
set_option maxRecDepth 100000 in
theorem mX6_readPlaces : pt_ckM yX6_readPlaces YX6_readPlaces 1 52 225 = true := by decide +kernel
set_option maxRecDepth 100000 in
theorem mX6_placeSpare : pt_ckM yX6_placeSpare YX6_placeSpare 1 52 240 = true := by decide +kernel
set_option maxRecDepth 100000 in
theorem mX6_line : pt_ckM yX6_line YX6_line 0 52 267 = true := by decide +kernel
set_option maxRecDepth 100000 in
theorem mX6_table : pt_ckM yX6_table YX6_table 2 52 271 = true := by decide +kernel
set_option maxRecDepth 100000 in
theorem mX6_tableByTape : pt_ckM yX6_tableByTape YX6_tableByTape 2 52 275 = true := by decide +kernel
set_option maxRecDepth 100000 in
theorem mX6_turn : pt_ckM yX6_turn YX6_turn 4 52 292 = true := by decide +kernel
set_option maxRecDepth 100000 in
theorem mX6_flip : pt_ckM yX6_flip YX6_flip 4 52 312 = true := by decide +kernel
set_option maxRecDepth 100000 in
theorem mX6_mirror : pt_ckM yX6_mirror YX6_mirror 2 52 317 = true := by decide +kernel
set_option maxRecDepth 100000 in
theorem mX6_rename : pt_ckM yX6_rename YX6_rename 2 52 326 = true := by decide +kernel
set_option maxRecDepth 100000 in
theorem mX6_renameByTape : pt_ckM yX6_renameByTape YX6_renameByTape 2 52 330 = true := by decide +kernel
set_option maxRecDepth 100000 in
theorem mX6_without : pt_ckM yX6_without YX6_without 3 52 340 = true := by decide +kernel
set_option maxRecDepth 100000 in
theorem mX6_lawful : pt_ckM yX6_lawful YX6_lawful 1 52 344 = true := by decide +kernel
set_option maxRecDepth 100000 in
theorem mX6_why : pt_ckM yX6_why YX6_why 1 52 348 = true := by decide +kernel
set_option maxRecDepth 100000 in
theorem mX6_rim : pt_ckM yX6_rim YX6_rim 1 52 372 = true := by decide +kernel
set_option maxRecDepth 100000 in
theorem mX6_onRim : pt_ckM yX6_onRim YX6_onRim 2 52 578 = true := by decide +kernel
set_option maxRecDepth 100000 in
theorem mX6_layer : pt_ckM yX6_layer YX6_layer 2 52 400 = true := by decide +kernel
set_option maxRecDepth 100000 in
theorem mX6_code : pt_ckM yX6_code YX6_code 1 52 409 = true := by decide +kernel
set_option maxRecDepth 100000 in
theorem mX6_named : pt_ckM yX6_named YX6_named 2 52 457 = true := by decide +kernel
set_option maxRecDepth 100000 in
theorem mX6_like : pt_ckM yX6_like YX6_like 2 52 461 = true := by decide +kernel
set_option maxRecDepth 100000 in
theorem mX6_swept : pt_ckM yX6_swept YX6_swept 2 52 467 = true := by decide +kernel
set_option maxRecDepth 100000 in
theorem mX6_sweptByTape : pt_ckM yX6_sweptByTape YX6_sweptByTape 2 52 471 = true := by decide +kernel
set_option maxRecDepth 100000 in
theorem mX6_sweep : pt_ckM yX6_sweep YX6_sweep 1 52 497 = true := by decide +kernel
set_option maxRecDepth 100000 in
theorem mX6_octet : pt_ckM yX6_octet YX6_octet 1 52 656 = true := by decide +kernel
set_option maxRecDepth 100000 in
theorem mX6_figures : pt_ckM yX6_figures YX6_figures 3 52 523 = true := by decide +kernel
set_option maxRecDepth 100000 in
theorem mX6_lines : pt_ckM yX6_lines YX6_lines 2 52 533 = true := by decide +kernel
set_option maxRecDepth 100000 in
theorem mX6_inside : pt_ckM yX6_inside YX6_inside 5 52 538 = true := by decide +kernel
set_option maxRecDepth 100000 in
theorem mX6_kinds : pt_ckM yX6_kinds YX6_kinds 1 52 542 = true := by decide +kernel
set_option maxRecDepth 100000 in
theorem mX6_kind : pt_ckM yX6_kind YX6_kind 3 52 559 = true := by decide +kernel
set_option maxRecDepth 100000 in
theorem mX6_which : pt_ckM yX6_which YX6_which 1 52 563 = true := by decide +kernel
set_option maxRecDepth 100000 in
theorem mX6_points : pt_ckM yX6_points YX6_points 1 52 570 = true := by decide +kernel
set_option maxRecDepth 100000 in
theorem mX6_isSlot : pt_ckM yX6_isSlot YX6_isSlot 1 52 218 = true := by decide +kernel
set_option maxRecDepth 100000 in
theorem mX6_isSize : pt_ckM yX6_isSize YX6_isSize 1 52 221 = true := by decide +kernel
set_option maxRecDepth 100000 in
theorem mX6_turnsOf : pt_ckM yX6_turnsOf YX6_turnsOf 1 52 278 = true := by decide +kernel
set_option maxRecDepth 100000 in
theorem mX6_swapsOf : pt_ckM yX6_swapsOf YX6_swapsOf 1 52 478 = true := by decide +kernel
set_option maxRecDepth 100000 in
theorem mX6_kindsOf : pt_ckM yX6_kindsOf YX6_kindsOf 1 52 545 = true := by decide +kernel
set_option maxRecDepth 100000 in
theorem mX6_tableAt : pt_ckM yX6_tableAt YX6_tableAt 1 52 296 = true := by decide +kernel
set_option maxRecDepth 100000 in
theorem mX6_lawfulAt : pt_ckM yX6_lawfulAt YX6_lawfulAt 1 52 376 = true := by decide +kernel
set_option maxRecDepth 100000 in
theorem mX6_keepSpare : pt_ckM yX6_keepSpare YX6_keepSpare 1 52 263 = true := by decide +kernel
set_option maxRecDepth 100000 in
theorem mX6_setOut : pt_ckM yX6_setOut YX6_setOut 2 52 447 = true := by decide +kernel
set_option maxRecDepth 100000 in
theorem kX6_feed_67 : pt_ckV YX6_feed 67 4 yX5_addNumber YX5_addNumber 200 201 202 = true := by decide +kernel
set_option maxRecDepth 100000 in
theorem kX6_place_71 : pt_ckV YX6_place 71 2 yX6_placeByTape YX6_placeByTape 212 214 0 = true := by decide +kernel
set_option maxRecDepth 100000 in
theorem kX6_placeByTape_75 : pt_ckS YX6_placeByTape 75 yX6_isSlot YX6_isSlot 216 217 = true := by decide +kernel
set_option maxRecDepth 100000 in
theorem kX6_placeByTape_79 : pt_ckS YX6_placeByTape 79 yX6_isSize YX6_isSize 219 220 = true := by decide +kernel
set_option maxRecDepth 100000 in
theorem kX6_placeByTape_82 : pt_ckV YX6_placeByTape 82 2 yX6_readPlaces YX6_readPlaces 222 224 1 = true := by decide +kernel
set_option maxRecDepth 100000 in
theorem kX6_placeByTape_85 : pt_ckV YX6_placeByTape 85 2 yX6_placeSpare YX6_placeSpare 237 239 2 = true := by decide +kernel
set_option maxRecDepth 100000 in
theorem kX6_placeByTape_88 : pt_ckV YX6_placeByTape 88 2 yX6_keepSpare YX6_keepSpare 260 262 4 = true := by decide +kernel
set_option maxRecDepth 100000 in
theorem kX6_readPlaces_91 : pt_ckV YX6_readPlaces 91 4 yX5_shortAt YX5_shortAt 226 227 228 = true := by decide +kernel
set_option maxRecDepth 100000 in
theorem kX6_readPlaces_94 : pt_ckS YX6_readPlaces 94 yJ9_abs_0f7a4 YJ9_abs_0f7a4 234 235 = true := by decide +kernel
set_option maxRecDepth 100000 in
theorem kX6_placeSpare_99 : pt_ckV YX6_placeSpare 99 3 yX4_begin YX4_begin 241 242 243 = true := by decide +kernel
set_option maxRecDepth 100000 in
theorem kX6_placeSpare_102 : pt_ckV YX6_placeSpare 102 3 yX4_put YX4_put 252 253 254 = true := by decide +kernel
set_option maxRecDepth 100000 in
theorem kX6_table_106 : pt_ckV YX6_table 106 2 yX6_tableByTape YX6_tableByTape 272 274 5 = true := by decide +kernel
set_option maxRecDepth 100000 in
theorem kX6_tableByTape_75 : pt_ckS YX6_tableByTape 75 yX6_isSlot YX6_isSlot 216 217 = true := by decide +kernel
set_option maxRecDepth 100000 in
theorem kX6_tableByTape_79 : pt_ckS YX6_tableByTape 79 yX6_isSize YX6_isSize 219 220 = true := by decide +kernel
set_option maxRecDepth 100000 in
theorem kX6_tableByTape_110 : pt_ckS YX6_tableByTape 110 yX6_turnsOf YX6_turnsOf 276 277 = true := by decide +kernel
set_option maxRecDepth 100000 in
theorem kX6_tableByTape_113 : pt_ckV YX6_tableByTape 113 4 yX5_hasBit YX5_hasBit 279 280 281 = true := by decide +kernel
set_option maxRecDepth 100000 in
theorem kX6_tableByTape_116 : pt_ckV YX6_tableByTape 116 3 yX4_takeRow YX4_takeRow 283 284 285 = true := by decide +kernel
set_option maxRecDepth 100000 in
theorem kX6_tableByTape_88 : pt_ckV YX6_tableByTape 88 2 yX6_keepSpare YX6_keepSpare 260 262 4 = true := by decide +kernel
set_option maxRecDepth 100000 in
theorem kX6_turn_120 : pt_ckV YX6_turn 120 2 yX6_tableAt YX6_tableAt 293 295 6 = true := by decide +kernel
set_option maxRecDepth 100000 in
theorem kX6_turn_124 : pt_ckV YX6_turn 124 3 yX4_hasThree YX4_hasThree 297 298 299 = true := by decide +kernel
set_option maxRecDepth 100000 in
theorem kX6_turn_128 : pt_ckV YX6_turn 128 3 yX4_isLeft YX4_isLeft 305 306 307 = true := by decide +kernel
set_option maxRecDepth 100000 in
theorem kX6_flip_120 : pt_ckV YX6_flip 120 2 yX6_tableAt YX6_tableAt 293 295 6 = true := by decide +kernel
set_option maxRecDepth 100000 in
theorem kX6_flip_124 : pt_ckV YX6_flip 124 3 yX4_hasThree YX4_hasThree 297 298 299 = true := by decide +kernel
set_option maxRecDepth 100000 in
theorem kX6_flip_128 : pt_ckV YX6_flip 128 3 yX4_isLeft YX4_isLeft 305 306 307 = true := by decide +kernel
set_option maxRecDepth 100000 in
theorem kX6_flip_102 : pt_ckV YX6_flip 102 3 yX4_put YX4_put 252 253 254 = true := by decide +kernel
set_option maxRecDepth 100000 in
theorem kX6_flip_131 : pt_ckV YX6_flip 131 3 yX4_forget YX4_forget 313 249 250 = true := by decide +kernel
set_option maxRecDepth 100000 in
theorem kX6_mirror_120 : pt_ckV YX6_mirror 120 2 yX6_tableAt YX6_tableAt 293 295 6 = true := by decide +kernel
set_option maxRecDepth 100000 in
theorem kX6_mirror_75 : pt_ckS YX6_mirror 75 yX6_isSlot YX6_isSlot 216 217 = true := by decide +kernel
set_option maxRecDepth 100000 in
theorem kX6_mirror_137 : pt_ckV YX6_mirror 137 3 yX4_takeTurns YX4_takeTurns 318 319 320 = true := by decide +kernel
set_option maxRecDepth 100000 in
theorem kX6_mirror_88 : pt_ckV YX6_mirror 88 2 yX6_keepSpare YX6_keepSpare 260 262 4 = true := by decide +kernel
set_option maxRecDepth 100000 in
theorem kX6_rename_141 : pt_ckV YX6_rename 141 2 yX6_renameByTape YX6_renameByTape 327 329 7 = true := by decide +kernel
set_option maxRecDepth 100000 in
theorem kX6_renameByTape_120 : pt_ckV YX6_renameByTape 120 2 yX6_tableAt YX6_tableAt 293 295 6 = true := by decide +kernel
set_option maxRecDepth 100000 in
theorem kX6_renameByTape_75 : pt_ckS YX6_renameByTape 75 yX6_isSlot YX6_isSlot 216 217 = true := by decide +kernel
set_option maxRecDepth 100000 in
theorem kX6_renameByTape_144 : pt_ckV YX6_renameByTape 144 4 yX5_byteAt YX5_byteAt 331 231 232 = true := by decide +kernel
set_option maxRecDepth 100000 in
theorem kX6_renameByTape_147 : pt_ckV YX6_renameByTape 147 3 yX4_hasPoint YX4_hasPoint 332 302 303 = true := by decide +kernel
set_option maxRecDepth 100000 in
theorem kX6_renameByTape_150 : pt_ckV YX6_renameByTape 150 3 yX4_everyPoint YX4_everyPoint 333 334 335 = true := by decide +kernel
set_option maxRecDepth 100000 in
theorem kX6_renameByTape_137 : pt_ckV YX6_renameByTape 137 3 yX4_takeTurns YX4_takeTurns 318 319 320 = true := by decide +kernel
set_option maxRecDepth 100000 in
theorem kX6_renameByTape_88 : pt_ckV YX6_renameByTape 88 2 yX6_keepSpare YX6_keepSpare 260 262 4 = true := by decide +kernel
set_option maxRecDepth 100000 in
theorem kX6_without_120 : pt_ckV YX6_without 120 2 yX6_tableAt YX6_tableAt 293 295 6 = true := by decide +kernel
set_option maxRecDepth 100000 in
theorem kX6_without_75 : pt_ckS YX6_without 75 yX6_isSlot YX6_isSlot 216 217 = true := by decide +kernel
set_option maxRecDepth 100000 in
theorem kX6_without_147 : pt_ckV YX6_without 147 3 yX4_hasPoint YX4_hasPoint 332 302 303 = true := by decide +kernel
set_option maxRecDepth 100000 in
theorem kX6_without_137 : pt_ckV YX6_without 137 3 yX4_takeTurns YX4_takeTurns 318 319 320 = true := by decide +kernel
set_option maxRecDepth 100000 in
theorem kX6_without_88 : pt_ckV YX6_without 88 2 yX6_keepSpare YX6_keepSpare 260 262 4 = true := by decide +kernel
set_option maxRecDepth 100000 in
theorem kX6_lawful_154 : pt_ckV YX6_lawful 154 2 yX6_why YX6_why 345 346 347 = true := by decide +kernel
set_option maxRecDepth 100000 in
theorem kX6_why_120 : pt_ckV YX6_why 120 2 yX6_tableAt YX6_tableAt 293 295 6 = true := by decide +kernel
set_option maxRecDepth 100000 in
theorem kX6_why_157 : pt_ckS YX6_why 157 yX1_faultOf YX1_faultOf 349 350 = true := by decide +kernel
set_option maxRecDepth 100000 in
theorem kX6_rim_163 : pt_ckV YX6_rim 163 2 yX6_lawfulAt YX6_lawfulAt 373 375 8 = true := by decide +kernel
set_option maxRecDepth 100000 in
theorem kX6_rim_150 : pt_ckV YX6_rim 150 3 yX4_everyPoint YX4_everyPoint 333 334 335 = true := by decide +kernel
set_option maxRecDepth 100000 in
theorem kX6_rim_166 : pt_ckS YX6_rim 166 yX2_rimOf YX2_rimOf 377 378 = true := by decide +kernel
set_option maxRecDepth 100000 in
theorem kX6_rim_172 : pt_ckS YX6_rim 172 yJ6_bitCount_0f7a4 YJ6_bitCount_0f7a4 396 381 = true := by decide +kernel
set_option maxRecDepth 100000 in
theorem kX6_onRim_163 : pt_ckV YX6_onRim 163 2 yX6_lawfulAt YX6_lawfulAt 373 375 8 = true := by decide +kernel
set_option maxRecDepth 100000 in
theorem kX6_onRim_150 : pt_ckV YX6_onRim 150 3 yX4_everyPoint YX4_everyPoint 333 334 335 = true := by decide +kernel
set_option maxRecDepth 100000 in
theorem kX6_onRim_166 : pt_ckS YX6_onRim 166 yX2_rimOf YX2_rimOf 377 378 = true := by decide +kernel
set_option maxRecDepth 100000 in
theorem kX6_onRim_172 : pt_ckS YX6_onRim 172 yJ6_bitCount_0f7a4 YJ6_bitCount_0f7a4 396 381 = true := by decide +kernel
set_option maxRecDepth 100000 in
theorem kX6_onRim_186 : pt_ckS YX6_onRim 186 yX2_leastOf YX2_leastOf 646 647 = true := by decide +kernel
set_option maxRecDepth 100000 in
theorem kX6_onRim_189 : pt_ckS YX6_onRim 189 yX2_nextTo YX2_nextTo 649 390 = true := by decide +kernel
set_option maxRecDepth 100000 in
theorem kX6_layer_163 : pt_ckV YX6_layer 163 2 yX6_lawfulAt YX6_lawfulAt 373 375 8 = true := by decide +kernel
set_option maxRecDepth 100000 in
theorem kX6_layer_147 : pt_ckV YX6_layer 147 3 yX4_hasPoint YX4_hasPoint 332 302 303 = true := by decide +kernel
set_option maxRecDepth 100000 in
theorem kX6_layer_193 : pt_ckS YX6_layer 193 yX2_layerOf YX2_layerOf 401 402 = true := by decide +kernel
set_option maxRecDepth 100000 in
theorem kX6_code_163 : pt_ckV YX6_code 163 2 yX6_lawfulAt YX6_lawfulAt 373 375 8 = true := by decide +kernel
set_option maxRecDepth 100000 in
theorem kX6_code_196 : pt_ckV YX6_code 196 5 yX0_codeOf YX0_codeOf 410 411 412 = true := by decide +kernel
set_option maxRecDepth 100000 in
theorem kX6_code_110 : pt_ckS YX6_code 110 yX6_turnsOf YX6_turnsOf 276 277 = true := by decide +kernel
set_option maxRecDepth 100000 in
theorem kX6_code_200 : pt_ckV YX6_code 200 2 yX6_setOut YX6_setOut 444 446 12 = true := by decide +kernel
set_option maxRecDepth 100000 in
theorem kX6_named_163 : pt_ckV YX6_named 163 2 yX6_lawfulAt YX6_lawfulAt 373 375 8 = true := by decide +kernel
set_option maxRecDepth 100000 in
theorem kX6_named_75 : pt_ckS YX6_named 75 yX6_isSlot YX6_isSlot 216 217 = true := by decide +kernel
set_option maxRecDepth 100000 in
theorem kX6_named_196 : pt_ckV YX6_named 196 5 yX0_codeOf YX0_codeOf 410 411 412 = true := by decide +kernel
set_option maxRecDepth 100000 in
theorem kX6_named_116 : pt_ckV YX6_named 116 3 yX4_takeRow YX4_takeRow 283 284 285 = true := by decide +kernel
set_option maxRecDepth 100000 in
theorem kX6_named_88 : pt_ckV YX6_named 88 2 yX6_keepSpare YX6_keepSpare 260 262 4 = true := by decide +kernel
set_option maxRecDepth 100000 in
theorem kX6_like_163 : pt_ckV YX6_like 163 2 yX6_lawfulAt YX6_lawfulAt 373 375 8 = true := by decide +kernel
set_option maxRecDepth 100000 in
theorem kX6_like_204 : pt_ckV YX6_like 204 5 yX0_findFirstRows YX0_findFirstRows 462 415 416 = true := by decide +kernel
set_option maxRecDepth 100000 in
theorem kX6_like_110 : pt_ckS YX6_like 110 yX6_turnsOf YX6_turnsOf 276 277 = true := by decide +kernel
set_option maxRecDepth 100000 in
theorem kX6_like_211 : pt_ckS YX6_like 211 yX0_compareRows YX0_compareRows 463 439 = true := by decide +kernel
set_option maxRecDepth 100000 in
theorem kX6_swept_218 : pt_ckV YX6_swept 218 2 yX6_sweptByTape YX6_sweptByTape 468 470 13 = true := by decide +kernel
set_option maxRecDepth 100000 in
theorem kX6_sweptByTape_75 : pt_ckS YX6_sweptByTape 75 yX6_isSlot YX6_isSlot 216 217 = true := by decide +kernel
set_option maxRecDepth 100000 in
theorem kX6_sweptByTape_79 : pt_ckS YX6_sweptByTape 79 yX6_isSize YX6_isSize 219 220 = true := by decide +kernel
set_option maxRecDepth 100000 in
theorem kX6_sweptByTape_221 : pt_ckV YX6_sweptByTape 221 6 yX3_read YX3_read 472 473 474 = true := by decide +kernel
set_option maxRecDepth 100000 in
theorem kX6_sweptByTape_225 : pt_ckV YX6_sweptByTape 225 6 yX3_fill YX3_fill 488 489 490 = true := by decide +kernel
set_option maxRecDepth 100000 in
theorem kX6_sweptByTape_88 : pt_ckV YX6_sweptByTape 88 2 yX6_keepSpare YX6_keepSpare 260 262 4 = true := by decide +kernel
set_option maxRecDepth 100000 in
theorem kX6_sweep_120 : pt_ckV YX6_sweep 120 2 yX6_tableAt YX6_tableAt 293 295 6 = true := by decide +kernel
set_option maxRecDepth 100000 in
theorem kX6_sweep_229 : pt_ckV YX6_sweep 229 6 yX3_find YX3_find 498 499 500 = true := by decide +kernel
set_option maxRecDepth 100000 in
theorem kX6_sweep_236 : pt_ckS YX6_sweep 236 yX6_swapsOf YX6_swapsOf 519 477 = true := by decide +kernel
set_option maxRecDepth 100000 in
theorem kX6_sweep_200 : pt_ckV YX6_sweep 200 2 yX6_setOut YX6_setOut 444 446 12 = true := by decide +kernel
set_option maxRecDepth 100000 in
theorem kX6_figures_163 : pt_ckV YX6_figures 163 2 yX6_lawfulAt YX6_lawfulAt 373 375 8 = true := by decide +kernel
set_option maxRecDepth 100000 in
theorem kX6_figures_150 : pt_ckV YX6_figures 150 3 yX4_everyPoint YX4_everyPoint 333 334 335 = true := by decide +kernel
set_option maxRecDepth 100000 in
theorem kX6_figures_172 : pt_ckS YX6_figures 172 yJ6_bitCount_0f7a4 YJ6_bitCount_0f7a4 396 381 = true := by decide +kernel
set_option maxRecDepth 100000 in
theorem kX6_figures_241 : pt_ckS YX6_figures 241 yX2_isFigure YX2_isFigure 524 525 = true := by decide +kernel
set_option maxRecDepth 100000 in
theorem kX6_figures_245 : pt_ckS YX6_figures 245 yX2_insideOf YX2_insideOf 527 528 = true := by decide +kernel
set_option maxRecDepth 100000 in
theorem kX6_lines_120 : pt_ckV YX6_lines 120 2 yX6_tableAt YX6_tableAt 293 295 6 = true := by decide +kernel
set_option maxRecDepth 100000 in
theorem kX6_lines_248 : pt_ckV YX6_lines 248 3 yX4_leftOf YX4_leftOf 534 393 394 = true := by decide +kernel
set_option maxRecDepth 100000 in
theorem kX6_lines_172 : pt_ckS YX6_lines 172 yJ6_bitCount_0f7a4 YJ6_bitCount_0f7a4 396 381 = true := by decide +kernel
set_option maxRecDepth 100000 in
theorem kX6_inside_120 : pt_ckV YX6_inside 120 2 yX6_tableAt YX6_tableAt 293 295 6 = true := by decide +kernel
set_option maxRecDepth 100000 in
theorem kX6_inside_124 : pt_ckV YX6_inside 124 3 yX4_hasThree YX4_hasThree 297 298 299 = true := by decide +kernel
set_option maxRecDepth 100000 in
theorem kX6_inside_147 : pt_ckV YX6_inside 147 3 yX4_hasPoint YX4_hasPoint 332 302 303 = true := by decide +kernel
set_option maxRecDepth 100000 in
theorem kX6_inside_128 : pt_ckV YX6_inside 128 3 yX4_isLeft YX4_isLeft 305 306 307 = true := by decide +kernel
set_option maxRecDepth 100000 in
theorem kX6_kinds_252 : pt_ckS YX6_kinds 252 yX6_kindsOf YX6_kindsOf 543 544 = true := by decide +kernel
set_option maxRecDepth 100000 in
theorem kX6_kind_252 : pt_ckS YX6_kind 252 yX6_kindsOf YX6_kindsOf 543 544 = true := by decide +kernel
set_option maxRecDepth 100000 in
theorem kX6_kind_75 : pt_ckS YX6_kind 75 yX6_isSlot YX6_isSlot 216 217 = true := by decide +kernel
set_option maxRecDepth 100000 in
theorem kX6_kind_110 : pt_ckS YX6_kind 110 yX6_turnsOf YX6_turnsOf 276 277 = true := by decide +kernel
set_option maxRecDepth 100000 in
theorem kX6_kind_116 : pt_ckV YX6_kind 116 3 yX4_takeRow YX4_takeRow 283 284 285 = true := by decide +kernel
set_option maxRecDepth 100000 in
theorem kX6_kind_88 : pt_ckV YX6_kind 88 2 yX6_keepSpare YX6_keepSpare 260 262 4 = true := by decide +kernel
set_option maxRecDepth 100000 in
theorem kX6_which_163 : pt_ckV YX6_which 163 2 yX6_lawfulAt YX6_lawfulAt 373 375 8 = true := by decide +kernel
set_option maxRecDepth 100000 in
theorem kX6_which_252 : pt_ckS YX6_which 252 yX6_kindsOf YX6_kindsOf 543 544 = true := by decide +kernel
set_option maxRecDepth 100000 in
theorem kX6_which_196 : pt_ckV YX6_which 196 5 yX0_codeOf YX0_codeOf 410 411 412 = true := by decide +kernel
set_option maxRecDepth 100000 in
theorem kX6_which_110 : pt_ckS YX6_which 110 yX6_turnsOf YX6_turnsOf 276 277 = true := by decide +kernel
set_option maxRecDepth 100000 in
theorem kX6_which_256 : pt_ckS YX6_which 256 yX0_bitsOf YX0_bitsOf 564 565 = true := by decide +kernel
set_option maxRecDepth 100000 in
theorem kX6_points_75 : pt_ckS YX6_points 75 yX6_isSlot YX6_isSlot 216 217 = true := by decide +kernel
set_option maxRecDepth 100000 in
theorem kX6_tableAt_75 : pt_ckS YX6_tableAt 75 yX6_isSlot YX6_isSlot 216 217 = true := by decide +kernel
set_option maxRecDepth 100000 in
theorem kX6_lawfulAt_120 : pt_ckV YX6_lawfulAt 120 2 yX6_tableAt YX6_tableAt 293 295 6 = true := by decide +kernel
set_option maxRecDepth 100000 in
theorem kX6_lawfulAt_157 : pt_ckS YX6_lawfulAt 157 yX1_faultOf YX1_faultOf 349 350 = true := by decide +kernel
set_option maxRecDepth 100000 in
theorem kX6_keepSpare_75 : pt_ckS YX6_keepSpare 75 yX6_isSlot YX6_isSlot 216 217 = true := by decide +kernel
set_option maxRecDepth 100000 in
theorem kX6_setOut_275 : pt_ckS YX6_setOut 275 yJ9_min_7cf53 YJ9_min_7cf53 448 449 = true := by decide +kernel
