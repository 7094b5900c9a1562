/-! call sites: their words, by program -/
set_option maxRecDepth 100000 in
theorem mX0_codeOf : pt_ckM yX0_codeOf YX0_codeOf 1 55 413 = true := by decide +kernel
set_option maxRecDepth 100000 in
theorem mX0_findFirstRows : pt_ckM yX0_findFirstRows YX0_findFirstRows 1 55 417 = true := by decide +kernel
set_option maxRecDepth 100000 in
theorem mX0_findFirstRow : pt_ckM yX0_findFirstRow YX0_findFirstRow 3 55 421 = true := by decide +kernel
set_option maxRecDepth 100000 in
theorem mX0_nameBy : pt_ckM yX0_nameBy YX0_nameBy 3 55 429 = true := by decide +kernel
set_option maxRecDepth 100000 in
theorem mX0_offerRow : pt_ckM yX0_offerRow YX0_offerRow 3 55 435 = true := by decide +kernel
set_option maxRecDepth 100000 in
theorem mX0_compareRows : pt_ckM yX0_compareRows YX0_compareRows 3 55 440 = true := by decide +kernel
set_option maxRecDepth 100000 in
theorem mX0_bitsOf : pt_ckM yX0_bitsOf YX0_bitsOf 2 55 566 = true := by decide +kernel
set_option maxRecDepth 100000 in
theorem mX1_faultOf : pt_ckM yX1_faultOf YX1_faultOf 1 60 351 = true := by decide +kernel
set_option maxRecDepth 100000 in
theorem mX1_firstFour : pt_ckM yX1_firstFour YX1_firstFour 1 60 354 = true := by decide +kernel
set_option maxRecDepth 100000 in
theorem mX1_breaksFour : pt_ckM yX1_breaksFour YX1_breaksFour 5 60 357 = true := by decide +kernel
set_option maxRecDepth 100000 in
theorem mX1_firstFive : pt_ckM yX1_firstFive YX1_firstFive 1 60 361 = true := by decide +kernel
set_option maxRecDepth 100000 in
theorem mX1_breaksFive : pt_ckM yX1_breaksFive YX1_breaksFive 6 60 364 = true := by decide +kernel
set_option maxRecDepth 100000 in
theorem mX1_isOneSided : pt_ckM yX1_isOneSided YX1_isOneSided 6 60 367 = true := by decide +kernel
set_option maxRecDepth 100000 in
theorem mX2_isIn : pt_ckM yX2_isIn YX2_isIn 2 61 388 = true := by decide +kernel
set_option maxRecDepth 100000 in
theorem mX2_leastOf : pt_ckM yX2_leastOf YX2_leastOf 2 61 648 = true := by decide +kernel
set_option maxRecDepth 100000 in
theorem mX2_nextTo : pt_ckM yX2_nextTo YX2_nextTo 3 61 391 = true := by decide +kernel
set_option maxRecDepth 100000 in
theorem mX2_rimOf : pt_ckM yX2_rimOf YX2_rimOf 2 61 379 = true := by decide +kernel
set_option maxRecDepth 100000 in
theorem mX2_layerOf : pt_ckM yX2_layerOf YX2_layerOf 2 61 403 = true := by decide +kernel
set_option maxRecDepth 100000 in
theorem mX2_isFigure : pt_ckM yX2_isFigure YX2_isFigure 2 61 526 = true := by decide +kernel
set_option maxRecDepth 100000 in
theorem mX2_insideOf : pt_ckM yX2_insideOf YX2_insideOf 2 61 529 = true := by decide +kernel
set_option maxRecDepth 100000 in
theorem mX3_read : pt_ckM yX3_read YX3_read 2 56 475 = true := by decide +kernel
set_option maxRecDepth 100000 in
theorem mX3_fill : pt_ckM yX3_fill YX3_fill 2 56 491 = true := by decide +kernel
set_option maxRecDepth 100000 in
theorem mX3_find : pt_ckM yX3_find YX3_find 1 56 501 = true := by decide +kernel
set_option maxRecDepth 100000 in
theorem mX3_begin : pt_ckM yX3_begin YX3_begin 1 56 482 = true := by decide +kernel
set_option maxRecDepth 100000 in
theorem mX3_swapAt : pt_ckM yX3_swapAt YX3_swapAt 1 56 487 = true := by decide +kernel
set_option maxRecDepth 100000 in
theorem mX3_leastPlace : pt_ckM yX3_leastPlace YX3_leastPlace 1 56 505 = true := by decide +kernel
set_option maxRecDepth 100000 in
theorem mX3_isDue : pt_ckM yX3_isDue YX3_isDue 3 56 509 = true := by decide +kernel
set_option maxRecDepth 100000 in
theorem mX3_isDueWith : pt_ckM yX3_isDueWith YX3_isDueWith 4 56 513 = true := by decide +kernel
set_option maxRecDepth 100000 in
theorem mX3_areSwapped : pt_ckM yX3_areSwapped YX3_areSwapped 2 56 517 = true := by decide +kernel
set_option maxRecDepth 100000 in
theorem mX4_begin : pt_ckM yX4_begin YX4_begin 1 53 244 = true := by decide +kernel
set_option maxRecDepth 100000 in
theorem mX4_forget : pt_ckM yX4_forget YX4_forget 0 53 251 = true := by decide +kernel
set_option maxRecDepth 100000 in
theorem mX4_everyPoint : pt_ckM yX4_everyPoint YX4_everyPoint 0 53 336 = true := by decide +kernel
set_option maxRecDepth 100000 in
theorem mX4_hasPoint : pt_ckM yX4_hasPoint YX4_hasPoint 1 53 304 = true := by decide +kernel
set_option maxRecDepth 100000 in
theorem mX4_hasThree : pt_ckM yX4_hasThree YX4_hasThree 3 53 300 = true := by decide +kernel
set_option maxRecDepth 100000 in
theorem mX4_leftOf : pt_ckM yX4_leftOf YX4_leftOf 2 53 395 = true := by decide +kernel
set_option maxRecDepth 100000 in
theorem mX4_isLeft : pt_ckM yX4_isLeft YX4_isLeft 3 53 308 = true := by decide +kernel
set_option maxRecDepth 100000 in
theorem mX4_put : pt_ckM yX4_put YX4_put 4 53 255 = true := by decide +kernel
set_option maxRecDepth 100000 in
theorem mX4_putOne : pt_ckM yX4_putOne YX4_putOne 4 53 259 = true := by decide +kernel
set_option maxRecDepth 100000 in
theorem mX4_takeRow : pt_ckM yX4_takeRow YX4_takeRow 2 53 286 = true := by decide +kernel
set_option maxRecDepth 100000 in
theorem mX4_takeTurns : pt_ckM yX4_takeTurns YX4_takeTurns 4 53 321 = true := by decide +kernel
set_option maxRecDepth 100000 in
theorem mX5_addNumber : pt_ckM yX5_addNumber YX5_addNumber 1 54 203 = true := by decide +kernel
set_option maxRecDepth 100000 in
theorem mX5_byteAt : pt_ckM yX5_byteAt YX5_byteAt 1 54 233 = true := by decide +kernel
set_option maxRecDepth 100000 in
theorem mX5_shortAt : pt_ckM yX5_shortAt YX5_shortAt 1 54 229 = true := by decide +kernel
set_option maxRecDepth 100000 in
theorem mX5_hasBit : pt_ckM yX5_hasBit YX5_hasBit 1 54 282 = true := by decide +kernel
set_option maxRecDepth 100000 in
theorem mJ6_compare_7cf53 : pt_ckM yJ6_compare_7cf53 YJ6_compare_7cf53 2 62 443 = true := by decide +kernel
set_option maxRecDepth 100000 in
theorem mJ6_bitCount_0f7a4 : pt_ckM yJ6_bitCount_0f7a4 YJ6_bitCount_0f7a4 1 62 382 = true := by decide +kernel
set_option maxRecDepth 100000 in
theorem mJ9_abs_0f7a4 : pt_ckM yJ9_abs_0f7a4 YJ9_abs_0f7a4 1 58 236 = true := by decide +kernel
set_option maxRecDepth 100000 in
theorem mJ9_min_7cf53 : pt_ckM yJ9_min_7cf53 YJ9_min_7cf53 2 58 450 = true := by decide +kernel
set_option maxRecDepth 100000 in
theorem mJ7_fill_53178 : pt_ckM yJ7_fill_53178 YJ7_fill_53178 2 59 247 = true := by decide +kernel
set_option maxRecDepth 100000 in
theorem kX0_codeOf_15 : pt_ckV YX0_codeOf 15 5 yX0_findFirstRows YX0_findFirstRows 414 415 416 = true := by decide +kernel
set_option maxRecDepth 100000 in
theorem kX0_codeOf_31 : pt_ckN YX0_codeOf yX6_turnsOf YX6_turnsOf 277 = true := by decide +kernel
set_option maxRecDepth 100000 in
theorem kX0_codeOf_35 : pt_ckS YX0_codeOf 35 yX0_compareRows YX0_compareRows 438 439 = true := by decide +kernel
set_option maxRecDepth 100000 in
theorem kX0_findFirstRows_43 : pt_ckV YX0_findFirstRows 43 5 yX0_findFirstRow YX0_findFirstRow 418 420 9 = true := by decide +kernel
set_option maxRecDepth 100000 in
theorem kX0_findFirstRow_47 : pt_ckS YX0_findFirstRow 47 yJ7_fill_53178 YJ7_fill_53178 422 246 = true := by decide +kernel
set_option maxRecDepth 100000 in
theorem kX0_findFirstRow_53 : pt_ckV YX0_findFirstRow 53 3 yX4_everyPoint YX4_everyPoint 423 334 335 = true := by decide +kernel
set_option maxRecDepth 100000 in
theorem kX0_findFirstRow_57 : pt_ckS YX0_findFirstRow 57 yX2_rimOf YX2_rimOf 424 378 = true := by decide +kernel
set_option maxRecDepth 100000 in
theorem kX0_findFirstRow_63 : pt_ckS YX0_findFirstRow 63 yX2_isIn YX2_isIn 425 387 = true := by decide +kernel
set_option maxRecDepth 100000 in
theorem kX0_findFirstRow_67 : pt_ckV YX0_findFirstRow 67 5 yX0_nameBy YX0_nameBy 426 428 10 = true := by decide +kernel
set_option maxRecDepth 100000 in
theorem kX0_findFirstRow_71 : pt_ckV YX0_findFirstRow 71 5 yX0_offerRow YX0_offerRow 432 434 11 = true := by decide +kernel
set_option maxRecDepth 100000 in
theorem kX0_nameBy_74 : pt_ckV YX0_nameBy 74 3 yX4_leftOf YX4_leftOf 430 393 394 = true := by decide +kernel
set_option maxRecDepth 100000 in
theorem kX0_nameBy_78 : pt_ckS YX0_nameBy 78 yJ6_bitCount_0f7a4 YJ6_bitCount_0f7a4 431 381 = true := by decide +kernel
set_option maxRecDepth 100000 in
theorem kX0_offerRow_83 : pt_ckV YX0_offerRow 83 3 yX4_isLeft YX4_isLeft 436 306 307 = true := by decide +kernel
set_option maxRecDepth 100000 in
theorem kX0_compareRows_87 : pt_ckS YX0_compareRows 87 yJ6_compare_7cf53 YJ6_compare_7cf53 441 442 = true := by decide +kernel
set_option maxRecDepth 100000 in
theorem kX1_faultOf_13 : pt_ckS YX1_faultOf 13 yX1_firstFour YX1_firstFour 352 353 = true := by decide +kernel
set_option maxRecDepth 100000 in
theorem kX1_faultOf_19 : pt_ckS YX1_faultOf 19 yX1_firstFive YX1_firstFive 359 360 = true := by decide +kernel
set_option maxRecDepth 100000 in
theorem kX1_firstFour_25 : pt_ckS YX1_firstFour 25 yX1_breaksFour YX1_breaksFour 355 356 = true := by decide +kernel
set_option maxRecDepth 100000 in
theorem kX1_breaksFour_29 : pt_ckV YX1_breaksFour 29 3 yX4_isLeft YX4_isLeft 358 306 307 = true := by decide +kernel
set_option maxRecDepth 100000 in
theorem kX1_firstFive_33 : pt_ckS YX1_firstFive 33 yX1_breaksFive YX1_breaksFive 362 363 = true := by decide +kernel
set_option maxRecDepth 100000 in
theorem kX1_breaksFive_37 : pt_ckS YX1_breaksFive 37 yX1_isOneSided YX1_isOneSided 365 366 = true := by decide +kernel
set_option maxRecDepth 100000 in
theorem kX1_isOneSided_29 : pt_ckV YX1_isOneSided 29 3 yX4_isLeft YX4_isLeft 358 306 307 = true := by decide +kernel
set_option maxRecDepth 100000 in
theorem kX2_leastOf_15 : pt_ckS YX2_leastOf 15 yX2_isIn YX2_isIn 386 387 = true := by decide +kernel
set_option maxRecDepth 100000 in
theorem kX2_nextTo_15 : pt_ckS YX2_nextTo 15 yX2_isIn YX2_isIn 386 387 = true := by decide +kernel
set_option maxRecDepth 100000 in
theorem kX2_nextTo_21 : pt_ckV YX2_nextTo 21 3 yX4_leftOf YX4_leftOf 392 393 394 = true := by decide +kernel
set_option maxRecDepth 100000 in
theorem kX2_rimOf_25 : pt_ckS YX2_rimOf 25 yJ6_bitCount_0f7a4 YJ6_bitCount_0f7a4 380 381 = true := by decide +kernel
set_option maxRecDepth 100000 in
theorem kX2_rimOf_15 : pt_ckS YX2_rimOf 15 yX2_isIn YX2_isIn 386 387 = true := by decide +kernel
set_option maxRecDepth 100000 in
theorem kX2_rimOf_31 : pt_ckS YX2_rimOf 31 yX2_nextTo YX2_nextTo 389 390 = true := by decide +kernel
set_option maxRecDepth 100000 in
theorem kX2_layerOf_35 : pt_ckV YX2_layerOf 35 3 yX4_everyPoint YX4_everyPoint 404 334 335 = true := by decide +kernel
set_option maxRecDepth 100000 in
theorem kX2_layerOf_39 : pt_ckS YX2_layerOf 39 yX2_rimOf YX2_rimOf 405 378 = true := by decide +kernel
set_option maxRecDepth 100000 in
theorem kX2_layerOf_15 : pt_ckS YX2_layerOf 15 yX2_isIn YX2_isIn 386 387 = true := by decide +kernel
set_option maxRecDepth 100000 in
theorem kX2_isFigure_15 : pt_ckS YX2_isFigure 15 yX2_isIn YX2_isIn 386 387 = true := by decide +kernel
set_option maxRecDepth 100000 in
theorem kX2_isFigure_31 : pt_ckS YX2_isFigure 31 yX2_nextTo YX2_nextTo 389 390 = true := by decide +kernel
set_option maxRecDepth 100000 in
theorem kX2_insideOf_35 : pt_ckV YX2_insideOf 35 3 yX4_everyPoint YX4_everyPoint 404 334 335 = true := by decide +kernel
set_option maxRecDepth 100000 in
theorem kX2_insideOf_15 : pt_ckS YX2_insideOf 15 yX2_isIn YX2_isIn 386 387 = true := by decide +kernel
set_option maxRecDepth 100000 in
theorem kX2_insideOf_31 : pt_ckS YX2_insideOf 31 yX2_nextTo YX2_nextTo 389 390 = true := by decide +kernel
set_option maxRecDepth 100000 in
theorem kX2_insideOf_21 : pt_ckV YX2_insideOf 21 3 yX4_leftOf YX4_leftOf 392 393 394 = true := by decide +kernel
set_option maxRecDepth 100000 in
theorem kX3_read_30 : pt_ckN YX3_read yX6_swapsOf YX6_swapsOf 477 = true := by decide +kernel
set_option maxRecDepth 100000 in
theorem kX3_read_34 : pt_ckV YX3_read 34 6 yX3_begin YX3_begin 479 481 14 = true := by decide +kernel
set_option maxRecDepth 100000 in
theorem kX3_read_38 : pt_ckV YX3_read 38 4 yX5_byteAt YX5_byteAt 483 231 232 = true := by decide +kernel
set_option maxRecDepth 100000 in
theorem kX3_read_41 : pt_ckV YX3_read 41 6 yX3_swapAt YX3_swapAt 484 486 15 = true := by decide +kernel
set_option maxRecDepth 100000 in
theorem kX3_fill_44 : pt_ckV YX3_fill 44 3 yX4_begin YX4_begin 492 242 243 = true := by decide +kernel
set_option maxRecDepth 100000 in
theorem kX3_fill_47 : pt_ckV YX3_fill 47 3 yX4_put YX4_put 493 253 254 = true := by decide +kernel
set_option maxRecDepth 100000 in
theorem kX3_find_34 : pt_ckV YX3_find 34 6 yX3_begin YX3_begin 479 481 14 = true := by decide +kernel
set_option maxRecDepth 100000 in
theorem kX3_find_30 : pt_ckN YX3_find yX6_swapsOf YX6_swapsOf 477 = true := by decide +kernel
set_option maxRecDepth 100000 in
theorem kX3_find_54 : pt_ckV YX3_find 54 6 yX3_leastPlace YX3_leastPlace 502 504 16 = true := by decide +kernel
set_option maxRecDepth 100000 in
theorem kX3_find_41 : pt_ckV YX3_find 41 6 yX3_swapAt YX3_swapAt 484 486 15 = true := by decide +kernel
set_option maxRecDepth 100000 in
theorem kX3_leastPlace_58 : pt_ckV YX3_leastPlace 58 6 yX3_isDue YX3_isDue 506 508 17 = true := by decide +kernel
set_option maxRecDepth 100000 in
theorem kX3_isDue_62 : pt_ckV YX3_isDue 62 6 yX3_isDueWith YX3_isDueWith 510 512 18 = true := by decide +kernel
set_option maxRecDepth 100000 in
theorem kX3_isDueWith_66 : pt_ckV YX3_isDueWith 66 6 yX3_areSwapped YX3_areSwapped 514 516 19 = true := by decide +kernel
set_option maxRecDepth 100000 in
theorem kX3_isDueWith_70 : pt_ckV YX3_isDueWith 70 3 yX4_isLeft YX4_isLeft 518 306 307 = true := by decide +kernel
set_option maxRecDepth 100000 in
theorem kX4_begin_32 : pt_ckS YX4_begin 32 yJ7_fill_53178 YJ7_fill_53178 245 246 = true := by decide +kernel
set_option maxRecDepth 100000 in
theorem kX4_begin_38 : pt_ckV YX4_begin 38 3 yX4_forget YX4_forget 248 249 250 = true := by decide +kernel
set_option maxRecDepth 100000 in
theorem kX4_hasThree_41 : pt_ckV YX4_hasThree 41 3 yX4_hasPoint YX4_hasPoint 301 302 303 = true := by decide +kernel
set_option maxRecDepth 100000 in
theorem kX4_put_45 : pt_ckV YX4_put 45 3 yX4_putOne YX4_putOne 256 258 3 = true := by decide +kernel
set_option maxRecDepth 100000 in
theorem kX4_takeRow_49 : pt_ckV YX4_takeRow 49 3 yX4_begin YX4_begin 287 242 243 = true := by decide +kernel
set_option maxRecDepth 100000 in
theorem kX4_takeRow_53 : pt_ckV YX4_takeRow 53 3 yX4_put YX4_put 288 253 254 = true := by decide +kernel
set_option maxRecDepth 100000 in
theorem kX4_takeTurns_49 : pt_ckV YX4_takeTurns 49 3 yX4_begin YX4_begin 287 242 243 = true := by decide +kernel
set_option maxRecDepth 100000 in
theorem kX4_takeTurns_56 : pt_ckV YX4_takeTurns 56 3 yX4_isLeft YX4_isLeft 322 306 307 = true := by decide +kernel
set_option maxRecDepth 100000 in
theorem kX4_takeTurns_53 : pt_ckV YX4_takeTurns 53 3 yX4_put YX4_put 288 253 254 = true := by decide +kernel
set_option maxRecDepth 100000 in
theorem kX5_shortAt_19 : pt_ckV YX5_shortAt 19 4 yX5_byteAt YX5_byteAt 230 231 232 = true := by decide +kernel
set_option maxRecDepth 100000 in
theorem kX5_hasBit_19 : pt_ckV YX5_hasBit 19 4 yX5_byteAt YX5_byteAt 230 231 232 = true := by decide +kernel
