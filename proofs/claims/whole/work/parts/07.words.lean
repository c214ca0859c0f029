theorem fl_X6_10 : vFL RX6 10 5 5 := ⟨RX6, TX6, 10, rfl, by decide, uw_5, wd 276 (by decide +kernel) (by decide +kernel)⟩
theorem fl_X6_18 : vFL RX6 18 5 6 := ⟨RX6, TX6, 10, rfl, by decide, uw_5, wd 277 (by decide +kernel) (by decide +kernel)⟩
theorem fl_X6_24 : vFL RX6 24 5 7 := ⟨RX6, TX6, 10, rfl, by decide, uw_5, wd 278 (by decide +kernel) (by decide +kernel)⟩
theorem fl_X6_28 : vFL RX6 28 5 8 := ⟨RX6, TX6, 10, rfl, by decide, uw_5, wd 279 (by decide +kernel) (by decide +kernel)⟩
theorem fl_X6_37 : vFL RX6 37 5 4 := ⟨RX6, TX6, 10, rfl, by decide, uw_5, wd 275 (by decide +kernel) (by decide +kernel)⟩
theorem fl_X6_46 : vFL RX6 46 5 0 := ⟨RX6, TX6, 10, rfl, by decide, uw_5, wd 271 (by decide +kernel) (by decide +kernel)⟩
theorem fl_X6_50 : vFL RX6 50 5 1 := ⟨RX6, TX6, 10, rfl, by decide, uw_5, wd 272 (by decide +kernel) (by decide +kernel)⟩
theorem fl_X6_53 : vFL RX6 53 5 2 := ⟨RX6, TX6, 10, rfl, by decide, uw_5, wd 273 (by decide +kernel) (by decide +kernel)⟩
theorem fl_X6_67 : vFL RX6 67 4 5 := ⟨RX5, TX5, 20, rfl, by decide, uw_4, wd 202 (by decide +kernel) (by decide +kernel)⟩
theorem fl_X6_79 : vFL RX6 79 4 0 := ⟨RX5, TX5, 20, rfl, by decide, uw_4, wd 193 (by decide +kernel) (by decide +kernel)⟩
theorem fl_X6_82 : vFL RX6 82 4 1 := ⟨RX5, TX5, 20, rfl, by decide, uw_4, wd 195 (by decide +kernel) (by decide +kernel)⟩
theorem fl_X6_85 : vFL RX6 85 4 2 := ⟨RX5, TX5, 20, rfl, by decide, uw_4, wd 197 (by decide +kernel) (by decide +kernel)⟩
theorem fl_X6_92 : vFL RX6 92 4 4 := ⟨RX5, TX5, 20, rfl, by decide, uw_4, wd 201 (by decide +kernel) (by decide +kernel)⟩
theorem fl_X6_105 : vFL RX6 105 4 3 := ⟨RX5, TX5, 20, rfl, by decide, uw_4, wd 199 (by decide +kernel) (by decide +kernel)⟩
theorem fl_X6_126 : vFL RX6 126 4 10 := ⟨RX5, TX5, 20, rfl, by decide, uw_4, wd 213 (by decide +kernel) (by decide +kernel)⟩
theorem fl_X6_135 : vFL RX6 135 4 6 := ⟨RX5, TX5, 20, rfl, by decide, uw_4, wd 205 (by decide +kernel) (by decide +kernel)⟩
theorem fl_X6_138 : vFL RX6 138 4 7 := ⟨RX5, TX5, 20, rfl, by decide, uw_4, wd 207 (by decide +kernel) (by decide +kernel)⟩
theorem fl_X6_141 : vFL RX6 141 4 8 := ⟨RX5, TX5, 20, rfl, by decide, uw_4, wd 209 (by decide +kernel) (by decide +kernel)⟩
theorem fl_X6_144 : vFL RX6 144 4 9 := ⟨RX5, TX5, 20, rfl, by decide, uw_4, wd 211 (by decide +kernel) (by decide +kernel)⟩
theorem fl_X6_150 : vFL RX6 150 4 12 := ⟨RX5, TX5, 20, rfl, by decide, uw_4, wd 217 (by decide +kernel) (by decide +kernel)⟩
theorem fl_X6_161 : vFL RX6 161 4 14 := ⟨RX5, TX5, 20, rfl, by decide, uw_4, wd 221 (by decide +kernel) (by decide +kernel)⟩
theorem fl_X6_164 : vFL RX6 164 4 11 := ⟨RX5, TX5, 20, rfl, by decide, uw_4, wd 215 (by decide +kernel) (by decide +kernel)⟩
theorem fl_X6_167 : vFL RX6 167 4 13 := ⟨RX5, TX5, 20, rfl, by decide, uw_4, wd 219 (by decide +kernel) (by decide +kernel)⟩
theorem fl_X6_215 : vFL RX6 215 4 16 := ⟨RX5, TX5, 20, rfl, by decide, uw_4, wd 225 (by decide +kernel) (by decide +kernel)⟩
theorem fl_X6_218 : vFL RX6 218 4 18 := ⟨RX5, TX5, 20, rfl, by decide, uw_4, wd 228 (by decide +kernel) (by decide +kernel)⟩
theorem fl_X6_225 : vFL RX6 225 1 0 := ⟨RX2, TX2, 7, rfl, by decide, uw_1, wd 113 (by decide +kernel) (by decide +kernel)⟩
theorem fl_X6_234 : vFL RX6 234 4 15 := ⟨RX5, TX5, 20, rfl, by decide, uw_4, wd 223 (by decide +kernel) (by decide +kernel)⟩
theorem fl_X6_237 : vFL RX6 237 1 1 := ⟨RX2, TX2, 7, rfl, by decide, uw_1, wd 115 (by decide +kernel) (by decide +kernel)⟩
theorem fl_X6_245 : vFL RX6 245 0 0 := ⟨RX1, TX1, 4, rfl, by decide, uw_0, wd 97 (by decide +kernel) (by decide +kernel)⟩
theorem fl_X6_251 : vFL RX6 251 0 1 := ⟨RX1, TX1, 4, rfl, by decide, uw_0, wd 99 (by decide +kernel) (by decide +kernel)⟩
theorem fl_X6_262 : vFL RX6 262 2 0 := ⟨RX3, TX3, 3, rfl, by decide, uw_2, wd 149 (by decide +kernel) (by decide +kernel)⟩
theorem fl_X6_267 : vFL RX6 267 2 2 := ⟨RX3, TX3, 3, rfl, by decide, uw_2, wd 153 (by decide +kernel) (by decide +kernel)⟩
theorem fl_X6_276 : vFL RX6 276 2 1 := ⟨RX3, TX3, 3, rfl, by decide, uw_2, wd 151 (by decide +kernel) (by decide +kernel)⟩
theorem fl_X6_291 : vFL RX6 291 3 0 := ⟨RX4, TX4, 5, rfl, by decide, uw_3, wd 169 (by decide +kernel) (by decide +kernel)⟩
theorem fl_X6_294 : vFL RX6 294 3 1 := ⟨RX4, TX4, 5, rfl, by decide, uw_3, wd 170 (by decide +kernel) (by decide +kernel)⟩
theorem fl_X6_296 : vFL RX6 296 3 2 := ⟨RX4, TX4, 5, rfl, by decide, uw_3, wd 171 (by decide +kernel) (by decide +kernel)⟩
theorem fl_X6_298 : vFL RX6 298 3 4 := ⟨RX4, TX4, 5, rfl, by decide, uw_3, wd 174 (by decide +kernel) (by decide +kernel)⟩
theorem fl_X6_305 : vFL RX6 305 3 3 := ⟨RX4, TX4, 5, rfl, by decide, uw_3, wd 172 (by decide +kernel) (by decide +kernel)⟩
theorem fl_X6_309 : vFL RX6 309 5 9 := ⟨RX6, TX6, 10, rfl, by decide, uw_5, wd 280 (by decide +kernel) (by decide +kernel)⟩
theorem fl_X6_312 : vFL RX6 312 5 3 := ⟨RX6, TX6, 10, rfl, by decide, uw_5, wd 274 (by decide +kernel) (by decide +kernel)⟩
theorem cs_X6_56 : vCS RX6 56 yX0_isKind cX0_isKind 1 (some .boolean) 1 := ⟨wd 306 (by decide +kernel) (by decide +kernel), wd 307 (by decide +kernel) (by decide +kernel), wd 308 (by decide +kernel) (by decide +kernel), wd 67 (by decide +kernel) (by decide +kernel), (by decide +kernel), by decide⟩
theorem cs_X6_62 : vCS RX6 62 yX6_fitsCellar cX6_fitsCellar 2 (some .boolean) 2 := ⟨wd 309 (by decide +kernel) (by decide +kernel), wd 310 (by decide +kernel) (by decide +kernel), wd 311 (by decide +kernel) (by decide +kernel), wd 60 (by decide +kernel) (by decide +kernel), (by decide +kernel), by decide⟩
theorem cs_X6_98 : vCS RX6 98 yX0_loses cX0_loses 2 (some .int) 2 := ⟨wd 363 (by decide +kernel) (by decide +kernel), wd 364 (by decide +kernel) (by decide +kernel), wd 365 (by decide +kernel) (by decide +kernel), wd 67 (by decide +kernel) (by decide +kernel), (by decide +kernel), by decide⟩
theorem cs_X6_102 : vCS RX6 102 yX0_worth cX0_worth 2 (some .int) 2 := ⟨wd 366 (by decide +kernel) (by decide +kernel), wd 367 (by decide +kernel) (by decide +kernel), wd 368 (by decide +kernel) (by decide +kernel), wd 67 (by decide +kernel) (by decide +kernel), (by decide +kernel), by decide⟩
theorem cs_X6_108 : vCS RX6 108 yX6_within cX6_within 3 (some .boolean) 3 := ⟨wd 312 (by decide +kernel) (by decide +kernel), wd 313 (by decide +kernel) (by decide +kernel), wd 314 (by decide +kernel) (by decide +kernel), wd 60 (by decide +kernel) (by decide +kernel), (by decide +kernel), by decide⟩
theorem cs_X6_112 : vCS RX6 112 yX0_takesIn cX0_takesIn 2 (some .int) 2 := ⟨wd 373 (by decide +kernel) (by decide +kernel), wd 374 (by decide +kernel) (by decide +kernel), wd 375 (by decide +kernel) (by decide +kernel), wd 67 (by decide +kernel) (by decide +kernel), (by decide +kernel), by decide⟩
theorem cs_X6_115 : vCS RX6 115 yX0_isUnder cX0_isUnder 4 (some .boolean) 2 := ⟨wd 380 (by decide +kernel) (by decide +kernel), wd 381 (by decide +kernel) (by decide +kernel), wd 382 (by decide +kernel) (by decide +kernel), wd 67 (by decide +kernel) (by decide +kernel), (by decide +kernel), by decide⟩
theorem cs_X6_203 : vCS RX6 203 yX6_isSheet cX6_isSheet 1 (some .boolean) 1 := ⟨wd 550 (by decide +kernel) (by decide +kernel), wd 551 (by decide +kernel) (by decide +kernel), wd 552 (by decide +kernel) (by decide +kernel), wd 60 (by decide +kernel) (by decide +kernel), (by decide +kernel), by decide⟩
theorem cs_X6_288 : vCS RX6 288 yX6_isSlot cX6_isSlot 1 (some .boolean) 1 := ⟨wd 835 (by decide +kernel) (by decide +kernel), wd 836 (by decide +kernel) (by decide +kernel), wd 837 (by decide +kernel) (by decide +kernel), wd 60 (by decide +kernel) (by decide +kernel), (by decide +kernel), by decide⟩
theorem cv_X6_71 : vCV RX6 71 RX5 yX5_addCellar cX5_addCellar 5 (some .int) 3 := ⟨wd 316 (by decide +kernel) (by decide +kernel), wd 317 (by decide +kernel) (by decide +kernel), wd 318 (by decide +kernel) (by decide +kernel), wd 319 (by decide +kernel) (by decide +kernel), wd 65 (by decide +kernel) (by decide +kernel), (by decide +kernel), by decide⟩
theorem cv_X6_76 : vCV RX6 76 RX5 yX5_hasCellar cX5_hasCellar 2 (some .boolean) 1 := ⟨wd 354 (by decide +kernel) (by decide +kernel), wd 355 (by decide +kernel) (by decide +kernel), wd 356 (by decide +kernel) (by decide +kernel), wd 357 (by decide +kernel) (by decide +kernel), wd 65 (by decide +kernel) (by decide +kernel), (by decide +kernel), by decide⟩
theorem cv_X6_88 : vCV RX6 88 RX5 yX5_fullOf cX5_fullOf 3 (some .int) 1 := ⟨wd 358 (by decide +kernel) (by decide +kernel), wd 329 (by decide +kernel) (by decide +kernel), wd 330 (by decide +kernel) (by decide +kernel), wd 331 (by decide +kernel) (by decide +kernel), wd 65 (by decide +kernel) (by decide +kernel), (by decide +kernel), by decide⟩
theorem cv_X6_95 : vCV RX6 95 RX5 yX5_levelOf cX5_levelOf 2 (some .int) 1 := ⟨wd 359 (by decide +kernel) (by decide +kernel), wd 360 (by decide +kernel) (by decide +kernel), wd 361 (by decide +kernel) (by decide +kernel), wd 362 (by decide +kernel) (by decide +kernel), wd 65 (by decide +kernel) (by decide +kernel), (by decide +kernel), by decide⟩
theorem cv_X6_119 : vCV RX6 119 RX5 yX5_refresh cX5_refresh 5 none 1 := ⟨wd 391 (by decide +kernel) (by decide +kernel), wd 325 (by decide +kernel) (by decide +kernel), wd 326 (by decide +kernel) (by decide +kernel), wd 327 (by decide +kernel) (by decide +kernel), wd 65 (by decide +kernel) (by decide +kernel), (by decide +kernel), by decide⟩
theorem cv_X6_123 : vCV RX6 123 RX6 yX6_told cX6_told 3 (some .int) 2 := ⟨wd 396 (by decide +kernel) (by decide +kernel), wd 351 (by decide +kernel) (by decide +kernel), wd 352 (by decide +kernel) (by decide +kernel), wd 353 (by decide +kernel) (by decide +kernel), wd 60 (by decide +kernel) (by decide +kernel), (by decide +kernel), by decide⟩
theorem cv_X6_129 : vCV RX6 129 RX5 yX5_addPipe cX5_addPipe 5 (some .int) 3 := ⟨wd 401 (by decide +kernel) (by decide +kernel), wd 402 (by decide +kernel) (by decide +kernel), wd 403 (by decide +kernel) (by decide +kernel), wd 404 (by decide +kernel) (by decide +kernel), wd 65 (by decide +kernel) (by decide +kernel), (by decide +kernel), by decide⟩
theorem cv_X6_132 : vCV RX6 132 RX5 yX5_hasPipe cX5_hasPipe 2 (some .boolean) 1 := ⟨wd 409 (by decide +kernel) (by decide +kernel), wd 410 (by decide +kernel) (by decide +kernel), wd 411 (by decide +kernel) (by decide +kernel), wd 412 (by decide +kernel) (by decide +kernel), wd 65 (by decide +kernel) (by decide +kernel), (by decide +kernel), by decide⟩
theorem cv_X6_147 : vCV RX6 147 RX5 yX5_runs cX5_runs 2 (some .int) 1 := ⟨wd 413 (by decide +kernel) (by decide +kernel), wd 414 (by decide +kernel) (by decide +kernel), wd 415 (by decide +kernel) (by decide +kernel), wd 416 (by decide +kernel) (by decide +kernel), wd 65 (by decide +kernel) (by decide +kernel), (by decide +kernel), by decide⟩
theorem cv_X6_158 : vCV RX6 158 RX5 yX5_drawCellar cX5_drawCellar 5 none 0 := ⟨wd 444 (by decide +kernel) (by decide +kernel), wd 445 (by decide +kernel) (by decide +kernel), wd 446 (by decide +kernel) (by decide +kernel), wd 447 (by decide +kernel) (by decide +kernel), wd 65 (by decide +kernel) (by decide +kernel), (by decide +kernel), by decide⟩
theorem cv_X6_170 : vCV RX6 170 RX5 yX5_passHours cX5_passHours 3 none 1 := ⟨wd 462 (by decide +kernel) (by decide +kernel), wd 463 (by decide +kernel) (by decide +kernel), wd 464 (by decide +kernel) (by decide +kernel), wd 465 (by decide +kernel) (by decide +kernel), wd 65 (by decide +kernel) (by decide +kernel), (by decide +kernel), by decide⟩
theorem cv_X6_173 : vCV RX6 173 RX5 yX5_fullOfAll cX5_fullOfAll 3 (some .int) 0 := ⟨wd 479 (by decide +kernel) (by decide +kernel), wd 480 (by decide +kernel) (by decide +kernel), wd 481 (by decide +kernel) (by decide +kernel), wd 482 (by decide +kernel) (by decide +kernel), wd 65 (by decide +kernel) (by decide +kernel), (by decide +kernel), by decide⟩
theorem cv_X6_177 : vCV RX6 177 RX5 yX5_runningPipes cX5_runningPipes 3 (some .int) 0 := ⟨wd 483 (by decide +kernel) (by decide +kernel), wd 484 (by decide +kernel) (by decide +kernel), wd 485 (by decide +kernel) (by decide +kernel), wd 486 (by decide +kernel) (by decide +kernel), wd 65 (by decide +kernel) (by decide +kernel), (by decide +kernel), by decide⟩
theorem cv_X6_180 : vCV RX6 180 RX5 yX5_filledCellars cX5_filledCellars 3 (some .int) 0 := ⟨wd 488 (by decide +kernel) (by decide +kernel), wd 489 (by decide +kernel) (by decide +kernel), wd 490 (by decide +kernel) (by decide +kernel), wd 491 (by decide +kernel) (by decide +kernel), wd 65 (by decide +kernel) (by decide +kernel), (by decide +kernel), by decide⟩
theorem cv_X6_183 : vCV RX6 183 RX6 yX6_thinkFromNow cX6_thinkFromNow 1 none 0 := ⟨wd 496 (by decide +kernel) (by decide +kernel), wd 498 (by decide +kernel) (by decide +kernel), wd 3 (by decide +kernel) (by decide +kernel), wd 499 (by decide +kernel) (by decide +kernel), wd 60 (by decide +kernel) (by decide +kernel), (by decide +kernel), by decide⟩
theorem cv_X6_186 : vCV RX6 186 RX5 yX5_oneHour cX5_oneHour 3 none 0 := ⟨wd 515 (by decide +kernel) (by decide +kernel), wd 467 (by decide +kernel) (by decide +kernel), wd 468 (by decide +kernel) (by decide +kernel), wd 469 (by decide +kernel) (by decide +kernel), wd 65 (by decide +kernel) (by decide +kernel), (by decide +kernel), by decide⟩
theorem cv_X6_190 : vCV RX6 190 RX6 yX6_thinkWithCork cX6_thinkWithCork 2 none 1 := ⟨wd 521 (by decide +kernel) (by decide +kernel), wd 523 (by decide +kernel) (by decide +kernel), wd 4 (by decide +kernel) (by decide +kernel), wd 524 (by decide +kernel) (by decide +kernel), wd 60 (by decide +kernel) (by decide +kernel), (by decide +kernel), by decide⟩
theorem cv_X6_193 : vCV RX6 193 RX5 yX5_isJoined cX5_isJoined 4 (some .boolean) 2 := ⟨wd 529 (by decide +kernel) (by decide +kernel), wd 530 (by decide +kernel) (by decide +kernel), wd 531 (by decide +kernel) (by decide +kernel), wd 532 (by decide +kernel) (by decide +kernel), wd 65 (by decide +kernel) (by decide +kernel), (by decide +kernel), by decide⟩
theorem cv_X6_196 : vCV RX6 196 RX6 yX6_thinkWithPipe cX6_thinkWithPipe 3 none 2 := ⟨wd 533 (by decide +kernel) (by decide +kernel), wd 535 (by decide +kernel) (by decide +kernel), wd 5 (by decide +kernel) (by decide +kernel), wd 536 (by decide +kernel) (by decide +kernel), wd 60 (by decide +kernel) (by decide +kernel), (by decide +kernel), by decide⟩
theorem cv_X6_200 : vCV RX6 200 RX5 yX5_empty cX5_empty 3 none 1 := ⟨wd 545 (by decide +kernel) (by decide +kernel), wd 321 (by decide +kernel) (by decide +kernel), wd 322 (by decide +kernel) (by decide +kernel), wd 323 (by decide +kernel) (by decide +kernel), wd 65 (by decide +kernel) (by decide +kernel), (by decide +kernel), by decide⟩
theorem cv_X6_206 : vCV RX6 206 RX3 yX3_isMissing cX3_isMissing 1 (some .boolean) 0 := ⟨wd 553 (by decide +kernel) (by decide +kernel), wd 554 (by decide +kernel) (by decide +kernel), wd 555 (by decide +kernel) (by decide +kernel), wd 556 (by decide +kernel) (by decide +kernel), wd 63 (by decide +kernel) (by decide +kernel), (by decide +kernel), by decide⟩
theorem cv_X6_211 : vCV RX6 211 RX6 yX6_differenceFromThought cX6_differenceFromThought 5 (some .int) 2 := ⟨wd 558 (by decide +kernel) (by decide +kernel), wd 560 (by decide +kernel) (by decide +kernel), wd 6 (by decide +kernel) (by decide +kernel), wd 561 (by decide +kernel) (by decide +kernel), wd 60 (by decide +kernel) (by decide +kernel), (by decide +kernel), by decide⟩
theorem cv_X6_221 : vCV RX6 221 RX1 yX1_give cX1_give 8 (some .int) 4 := ⟨wd 578 (by decide +kernel) (by decide +kernel), wd 333 (by decide +kernel) (by decide +kernel), wd 334 (by decide +kernel) (by decide +kernel), wd 335 (by decide +kernel) (by decide +kernel), wd 62 (by decide +kernel) (by decide +kernel), (by decide +kernel), by decide⟩
theorem cv_X6_228 : vCV RX6 228 RX2 yX2_takeFour cX2_takeFour 3 none 1 := ⟨wd 587 (by decide +kernel) (by decide +kernel), wd 588 (by decide +kernel) (by decide +kernel), wd 589 (by decide +kernel) (by decide +kernel), wd 590 (by decide +kernel) (by decide +kernel), wd 61 (by decide +kernel) (by decide +kernel), (by decide +kernel), by decide⟩
theorem cv_X6_231 : vCV RX6 231 RX2 yX2_read cX2_read 1 (some .int) 0 := ⟨wd 599 (by decide +kernel) (by decide +kernel), wd 600 (by decide +kernel) (by decide +kernel), wd 601 (by decide +kernel) (by decide +kernel), wd 602 (by decide +kernel) (by decide +kernel), wd 61 (by decide +kernel) (by decide +kernel), (by decide +kernel), by decide⟩
theorem cv_X6_241 : vCV RX6 241 RX1 yX1_become cX1_become 2 none 1 := ⟨wd 778 (by decide +kernel) (by decide +kernel), wd 779 (by decide +kernel) (by decide +kernel), wd 780 (by decide +kernel) (by decide +kernel), wd 781 (by decide +kernel) (by decide +kernel), wd 62 (by decide +kernel) (by decide +kernel), (by decide +kernel), by decide⟩
theorem cv_X6_248 : vCV RX6 248 RX5 yX5_addText cX5_addText 3 none 1 := ⟨wd 783 (by decide +kernel) (by decide +kernel), wd 784 (by decide +kernel) (by decide +kernel), wd 785 (by decide +kernel) (by decide +kernel), wd 786 (by decide +kernel) (by decide +kernel), wd 65 (by decide +kernel) (by decide +kernel), (by decide +kernel), by decide⟩
theorem cv_X6_255 : vCV RX6 255 RX3 yX3_clear cX3_clear 4 none 2 := ⟨wd 801 (by decide +kernel) (by decide +kernel), wd 802 (by decide +kernel) (by decide +kernel), wd 803 (by decide +kernel) (by decide +kernel), wd 804 (by decide +kernel) (by decide +kernel), wd 63 (by decide +kernel) (by decide +kernel), (by decide +kernel), by decide⟩
theorem cv_X6_258 : vCV RX6 258 RX3 yX3_hasPlace cX3_hasPlace 2 (some .boolean) 1 := ⟨wd 809 (by decide +kernel) (by decide +kernel), wd 567 (by decide +kernel) (by decide +kernel), wd 568 (by decide +kernel) (by decide +kernel), wd 569 (by decide +kernel) (by decide +kernel), wd 63 (by decide +kernel) (by decide +kernel), (by decide +kernel), by decide⟩
theorem cv_X6_270 : vCV RX6 270 RX3 yX3_hasNumber cX3_hasNumber 2 (some .boolean) 1 := ⟨wd 562 (by decide +kernel) (by decide +kernel), wd 563 (by decide +kernel) (by decide +kernel), wd 564 (by decide +kernel) (by decide +kernel), wd 565 (by decide +kernel) (by decide +kernel), wd 63 (by decide +kernel) (by decide +kernel), (by decide +kernel), by decide⟩
theorem cv_X6_279 : vCV RX6 279 RX3 yX3_hasPlaces cX3_hasPlaces 3 (some .boolean) 2 := ⟨wd 826 (by decide +kernel) (by decide +kernel), wd 827 (by decide +kernel) (by decide +kernel), wd 828 (by decide +kernel) (by decide +kernel), wd 829 (by decide +kernel) (by decide +kernel), wd 63 (by decide +kernel) (by decide +kernel), (by decide +kernel), by decide⟩
theorem cv_X6_302 : vCV RX6 302 RX3 yX3_become cX3_become 2 none 1 := ⟨wd 838 (by decide +kernel) (by decide +kernel), wd 839 (by decide +kernel) (by decide +kernel), wd 840 (by decide +kernel) (by decide +kernel), wd 841 (by decide +kernel) (by decide +kernel), wd 63 (by decide +kernel) (by decide +kernel), (by decide +kernel), by decide⟩
theorem cv_X6_316 : vCV RX6 316 RX5 yX5_become cX5_become 2 none 1 := ⟨wd 500 (by decide +kernel) (by decide +kernel), wd 501 (by decide +kernel) (by decide +kernel), wd 502 (by decide +kernel) (by decide +kernel), wd 503 (by decide +kernel) (by decide +kernel), wd 65 (by decide +kernel) (by decide +kernel), (by decide +kernel), by decide⟩
theorem cv_X6_319 : vCV RX6 319 RX6 yX6_waits cX6_waits 4 (some .boolean) 3 := ⟨wd 864 (by decide +kernel) (by decide +kernel), wd 866 (by decide +kernel) (by decide +kernel), wd 17 (by decide +kernel) (by decide +kernel), wd 867 (by decide +kernel) (by decide +kernel), wd 60 (by decide +kernel) (by decide +kernel), (by decide +kernel), by decide⟩
theorem cv_X6_322 : vCV RX6 322 RX5 yX5_corkedPipes cX5_corkedPipes 3 (some .int) 0 := ⟨wd 880 (by decide +kernel) (by decide +kernel), wd 881 (by decide +kernel) (by decide +kernel), wd 882 (by decide +kernel) (by decide +kernel), wd 883 (by decide +kernel) (by decide +kernel), wd 65 (by decide +kernel) (by decide +kernel), (by decide +kernel), by decide⟩
theorem fp_X6_150 : vFP RX6 150 4 12 .int := ⟨RX5, TX5, 20, tyX5, rfl, by decide, uw_4, wd 217 (by decide +kernel) (by decide +kernel), tyX5_ok, nmX5, rfl, rfl⟩
theorem fp_X6_161 : vFP RX6 161 4 14 .int := ⟨RX5, TX5, 20, tyX5, rfl, by decide, uw_4, wd 221 (by decide +kernel) (by decide +kernel), tyX5_ok, nmX5, rfl, rfl⟩
theorem fp_X6_225 : vFP RX6 225 1 0 .int := ⟨RX2, TX2, 7, tyX2, rfl, by decide, uw_1, wd 113 (by decide +kernel) (by decide +kernel), tyX2_ok, nmX2, rfl, rfl⟩
theorem fp_X6_291 : vFP RX6 291 3 0 .int := ⟨RX4, TX4, 5, tyX4, rfl, by decide, uw_3, wd 169 (by decide +kernel) (by decide +kernel), tyX4_ok, nmX4, rfl, rfl⟩
theorem fp_X6_294 : vFP RX6 294 3 1 .int := ⟨RX4, TX4, 5, tyX4, rfl, by decide, uw_3, wd 170 (by decide +kernel) (by decide +kernel), tyX4_ok, nmX4, rfl, rfl⟩
theorem fp_X6_296 : vFP RX6 296 3 2 .int := ⟨RX4, TX4, 5, tyX4, rfl, by decide, uw_3, wd 171 (by decide +kernel) (by decide +kernel), tyX4_ok, nmX4, rfl, rfl⟩
theorem fp_X6_305 : vFP RX6 305 3 3 .int := ⟨RX4, TX4, 5, tyX4, rfl, by decide, uw_3, wd 172 (by decide +kernel) (by decide +kernel), tyX4_ok, nmX4, rfl, rfl⟩
theorem fp_X6_309 : vFP RX6 309 5 9 .int := ⟨RX6, TX6, 10, tyX6, rfl, by decide, uw_5, wd 280 (by decide +kernel) (by decide +kernel), tyX6_ok, nmX6, rfl, rfl⟩
theorem fp_X6_312 : vFP RX6 312 5 3 .boolean := ⟨RX6, TX6, 10, tyX6, rfl, by decide, uw_5, wd 274 (by decide +kernel) (by decide +kernel), tyX6_ok, nmX6, rfl, rfl⟩
theorem cs_X0_9 : vCS RX0 9 yX0_isKind cX0_isKind 1 (some .boolean) 1 := ⟨wd 383 (by decide +kernel) (by decide +kernel), wd 307 (by decide +kernel) (by decide +kernel), wd 308 (by decide +kernel) (by decide +kernel), wd 67 (by decide +kernel) (by decide +kernel), (by decide +kernel), by decide⟩
theorem fl_X1_9 : vFL RX1 9 0 3 := ⟨RX1, TX1, 4, rfl, by decide, uw_0, wd 101 (by decide +kernel) (by decide +kernel)⟩
theorem fl_X1_15 : vFL RX1 15 0 0 := ⟨RX1, TX1, 4, rfl, by decide, uw_0, wd 95 (by decide +kernel) (by decide +kernel)⟩
theorem fl_X1_19 : vFL RX1 19 0 1 := ⟨RX1, TX1, 4, rfl, by decide, uw_0, wd 98 (by decide +kernel) (by decide +kernel)⟩
theorem fl_X1_22 : vFL RX1 22 0 2 := ⟨RX1, TX1, 4, rfl, by decide, uw_0, wd 100 (by decide +kernel) (by decide +kernel)⟩
theorem cs_X1_35 : vCS RX1 35 yX1_joined cX1_joined 3 (some .int) 3 := ⟨wd 336 (by decide +kernel) (by decide +kernel), wd 337 (by decide +kernel) (by decide +kernel), wd 338 (by decide +kernel) (by decide +kernel), wd 62 (by decide +kernel) (by decide +kernel), (by decide +kernel), by decide⟩
theorem cv_X1_31 : vCV RX1 31 RX1 yX1_add cX1_add 2 none 1 := ⟨wd 694 (by decide +kernel) (by decide +kernel), wd 696 (by decide +kernel) (by decide +kernel), wd 14 (by decide +kernel) (by decide +kernel), wd 697 (by decide +kernel) (by decide +kernel), wd 62 (by decide +kernel) (by decide +kernel), (by decide +kernel), by decide⟩
theorem fp_X1_15 : vFP RX1 15 0 0 .int := ⟨RX1, TX1, 4, tyX1, rfl, by decide, uw_0, wd 95 (by decide +kernel) (by decide +kernel), tyX1_ok, nmX1, rfl, rfl⟩
theorem fp_X1_19 : vFP RX1 19 0 1 .int := ⟨RX1, TX1, 4, tyX1, rfl, by decide, uw_0, wd 98 (by decide +kernel) (by decide +kernel), tyX1_ok, nmX1, rfl, rfl⟩
theorem fp_X1_22 : vFP RX1 22 0 2 .int := ⟨RX1, TX1, 4, tyX1, rfl, by decide, uw_0, wd 100 (by decide +kernel) (by decide +kernel), tyX1_ok, nmX1, rfl, rfl⟩
theorem fl_X2_12 : vFL RX2 12 1 1 := ⟨RX2, TX2, 7, rfl, by decide, uw_1, wd 114 (by decide +kernel) (by decide +kernel)⟩
theorem fl_X2_18 : vFL RX2 18 1 2 := ⟨RX2, TX2, 7, rfl, by decide, uw_1, wd 116 (by decide +kernel) (by decide +kernel)⟩
theorem fl_X2_22 : vFL RX2 22 1 0 := ⟨RX2, TX2, 7, rfl, by decide, uw_1, wd 112 (by decide +kernel) (by decide +kernel)⟩
theorem fl_X2_29 : vFL RX2 29 1 6 := ⟨RX2, TX2, 7, rfl, by decide, uw_1, wd 120 (by decide +kernel) (by decide +kernel)⟩
theorem fl_X2_32 : vFL RX2 32 1 4 := ⟨RX2, TX2, 7, rfl, by decide, uw_1, wd 118 (by decide +kernel) (by decide +kernel)⟩
theorem fl_X2_45 : vFL RX2 45 1 3 := ⟨RX2, TX2, 7, rfl, by decide, uw_1, wd 117 (by decide +kernel) (by decide +kernel)⟩
theorem fl_X2_54 : vFL RX2 54 0 0 := ⟨RX1, TX1, 4, rfl, by decide, uw_0, wd 96 (by decide +kernel) (by decide +kernel)⟩
theorem fl_X2_89 : vFL RX2 89 1 5 := ⟨RX2, TX2, 7, rfl, by decide, uw_1, wd 119 (by decide +kernel) (by decide +kernel)⟩
theorem cs_X2_69 : vCS RX2 69 yX2_loosenessOf cX2_loosenessOf 1 (some .int) 1 := ⟨wd 775 (by decide +kernel) (by decide +kernel), wd 776 (by decide +kernel) (by decide +kernel), wd 777 (by decide +kernel) (by decide +kernel), wd 61 (by decide +kernel) (by decide +kernel), (by decide +kernel), by decide⟩
theorem cs_X2_77 : vCS RX2 77 yX2_sortOf cX2_sortOf 1 (some .int) 1 := ⟨wd 615 (by decide +kernel) (by decide +kernel), wd 616 (by decide +kernel) (by decide +kernel), wd 617 (by decide +kernel) (by decide +kernel), wd 61 (by decide +kernel) (by decide +kernel), (by decide +kernel), by decide⟩
theorem cs_X2_96 : vCS RX2 96 yX2_namesOf cX2_namesOf 1 (some (.object "java/lang/String")) 1 := ⟨wd 702 (by decide +kernel) (by decide +kernel), wd 703 (by decide +kernel) (by decide +kernel), wd 704 (by decide +kernel) (by decide +kernel), wd 61 (by decide +kernel) (by decide +kernel), (by decide +kernel), by decide⟩
theorem cv_X2_26 : vCV RX2 26 RX1 yX1_clear cX1_clear 1 none 0 := ⟨wd 603 (by decide +kernel) (by decide +kernel), wd 604 (by decide +kernel) (by decide +kernel), wd 605 (by decide +kernel) (by decide +kernel), wd 606 (by decide +kernel) (by decide +kernel), wd 62 (by decide +kernel) (by decide +kernel), (by decide +kernel), by decide⟩
theorem cv_X2_35 : vCV RX2 35 RX2 yX2_step cX2_step 3 none 0 := ⟨wd 607 (by decide +kernel) (by decide +kernel), wd 609 (by decide +kernel) (by decide +kernel), wd 7 (by decide +kernel) (by decide +kernel), wd 610 (by decide +kernel) (by decide +kernel), wd 61 (by decide +kernel) (by decide +kernel), (by decide +kernel), by decide⟩
theorem cv_X2_38 : vCV RX2 38 RX2 yX2_readKey cX2_readKey 1 none 0 := ⟨wd 619 (by decide +kernel) (by decide +kernel), wd 621 (by decide +kernel) (by decide +kernel), wd 9 (by decide +kernel) (by decide +kernel), wd 622 (by decide +kernel) (by decide +kernel), wd 61 (by decide +kernel) (by decide +kernel), (by decide +kernel), by decide⟩
theorem cv_X2_41 : vCV RX2 41 RX2 yX2_readPart cX2_readPart 6 none 3 := ⟨wd 678 (by decide +kernel) (by decide +kernel), wd 680 (by decide +kernel) (by decide +kernel), wd 11 (by decide +kernel) (by decide +kernel), wd 681 (by decide +kernel) (by decide +kernel), wd 61 (by decide +kernel) (by decide +kernel), (by decide +kernel), by decide⟩
theorem cv_X2_50 : vCV RX2 50 RX2 yX2_isWord cX2_isWord 3 (some .boolean) 1 := ⟨wd 624 (by decide +kernel) (by decide +kernel), wd 626 (by decide +kernel) (by decide +kernel), wd 10 (by decide +kernel) (by decide +kernel), wd 627 (by decide +kernel) (by decide +kernel), wd 61 (by decide +kernel) (by decide +kernel), (by decide +kernel), by decide⟩
theorem cv_X2_61 : vCV RX2 61 RX2 yX2_readPiece cX2_readPiece 4 none 2 := ⟨wd 682 (by decide +kernel) (by decide +kernel), wd 684 (by decide +kernel) (by decide +kernel), wd 12 (by decide +kernel) (by decide +kernel), wd 685 (by decide +kernel) (by decide +kernel), wd 61 (by decide +kernel) (by decide +kernel), (by decide +kernel), by decide⟩
theorem cv_X2_65 : vCV RX2 65 RX2 yX2_head cX2_head 1 (some .int) 0 := ⟨wd 611 (by decide +kernel) (by decide +kernel), wd 613 (by decide +kernel) (by decide +kernel), wd 8 (by decide +kernel) (by decide +kernel), wd 614 (by decide +kernel) (by decide +kernel), wd 61 (by decide +kernel) (by decide +kernel), (by decide +kernel), by decide⟩
theorem cv_X2_73 : vCV RX2 73 RX1 yX1_addSign cX1_addSign 2 none 1 := ⟨wd 767 (by decide +kernel) (by decide +kernel), wd 768 (by decide +kernel) (by decide +kernel), wd 769 (by decide +kernel) (by decide +kernel), wd 770 (by decide +kernel) (by decide +kernel), wd 62 (by decide +kernel) (by decide +kernel), (by decide +kernel), by decide⟩
theorem cv_X2_80 : vCV RX2 80 RX2 yX2_readNumber cX2_readNumber 3 none 0 := ⟨wd 686 (by decide +kernel) (by decide +kernel), wd 688 (by decide +kernel) (by decide +kernel), wd 13 (by decide +kernel) (by decide +kernel), wd 689 (by decide +kernel) (by decide +kernel), wd 61 (by decide +kernel) (by decide +kernel), (by decide +kernel), by decide⟩
theorem cv_X2_83 : vCV RX2 83 RX2 yX2_readName cX2_readName 2 none 0 := ⟨wd 698 (by decide +kernel) (by decide +kernel), wd 700 (by decide +kernel) (by decide +kernel), wd 15 (by decide +kernel) (by decide +kernel), wd 701 (by decide +kernel) (by decide +kernel), wd 61 (by decide +kernel) (by decide +kernel), (by decide +kernel), by decide⟩
theorem cv_X2_86 : vCV RX2 86 RX2 yX2_readClosing cX2_readClosing 1 none 0 := ⟨wd 771 (by decide +kernel) (by decide +kernel), wd 773 (by decide +kernel) (by decide +kernel), wd 16 (by decide +kernel) (by decide +kernel), wd 774 (by decide +kernel) (by decide +kernel), wd 61 (by decide +kernel) (by decide +kernel), (by decide +kernel), by decide⟩
theorem cv_X2_93 : vCV RX2 93 RX1 yX1_addNumber cX1_addNumber 2 none 1 := ⟨wd 690 (by decide +kernel) (by decide +kernel), wd 691 (by decide +kernel) (by decide +kernel), wd 692 (by decide +kernel) (by decide +kernel), wd 693 (by decide +kernel) (by decide +kernel), wd 62 (by decide +kernel) (by decide +kernel), (by decide +kernel), by decide⟩
theorem cv_X2_100 : vCV RX2 100 RJ0 yJ0_indexOf_0f7a4 cJ0_indexOf_0f7a4 2 (some .int) 1 := ⟨wd 708 (by decide +kernel) (by decide +kernel), wd 709 (by decide +kernel) (by decide +kernel), wd 710 (by decide +kernel) (by decide +kernel), wd 711 (by decide +kernel) (by decide +kernel), wd 70 (by decide +kernel) (by decide +kernel), (by decide +kernel), by decide⟩
theorem cv_X2_105 : vCV RX2 105 RX1 yX1_addName cX1_addName 2 none 1 := ⟨wd 763 (by decide +kernel) (by decide +kernel), wd 764 (by decide +kernel) (by decide +kernel), wd 765 (by decide +kernel) (by decide +kernel), wd 766 (by decide +kernel) (by decide +kernel), wd 62 (by decide +kernel) (by decide +kernel), (by decide +kernel), by decide⟩
theorem cv_X2_114 : vCV RX2 114 RJ0 yJ0_length_8abf5 cJ0_length_8abf5 1 (some .int) 0 := ⟨wd 628 (by decide +kernel) (by decide +kernel), wd 629 (by decide +kernel) (by decide +kernel), wd 630 (by decide +kernel) (by decide +kernel), wd 631 (by decide +kernel) (by decide +kernel), wd 70 (by decide +kernel) (by decide +kernel), (by decide +kernel), by decide⟩
theorem cv_X2_116 : vCV RX2 116 RJ0 yJ0_charAt_5068e cJ0_charAt_5068e 2 (some .char) 1 := ⟨wd 638 (by decide +kernel) (by decide +kernel), wd 639 (by decide +kernel) (by decide +kernel), wd 640 (by decide +kernel) (by decide +kernel), wd 641 (by decide +kernel) (by decide +kernel), wd 70 (by decide +kernel) (by decide +kernel), (by decide +kernel), by decide⟩
theorem fp_X2_22 : vFP RX2 22 1 0 .int := ⟨RX2, TX2, 7, tyX2, rfl, by decide, uw_1, wd 112 (by decide +kernel) (by decide +kernel), tyX2_ok, nmX2, rfl, rfl⟩
theorem fp_X2_29 : vFP RX2 29 1 6 .int := ⟨RX2, TX2, 7, tyX2, rfl, by decide, uw_1, wd 120 (by decide +kernel) (by decide +kernel), tyX2_ok, nmX2, rfl, rfl⟩
theorem fp_X2_32 : vFP RX2 32 1 4 .int := ⟨RX2, TX2, 7, tyX2, rfl, by decide, uw_1, wd 118 (by decide +kernel) (by decide +kernel), tyX2_ok, nmX2, rfl, rfl⟩
theorem fp_X2_45 : vFP RX2 45 1 3 .int := ⟨RX2, TX2, 7, tyX2, rfl, by decide, uw_1, wd 117 (by decide +kernel) (by decide +kernel), tyX2_ok, nmX2, rfl, rfl⟩
theorem fp_X2_54 : vFP RX2 54 0 0 .int := ⟨RX1, TX1, 4, tyX1, rfl, by decide, uw_0, wd 96 (by decide +kernel) (by decide +kernel), tyX1_ok, nmX1, rfl, rfl⟩
theorem fp_X2_89 : vFP RX2 89 1 5 .boolean := ⟨RX2, TX2, 7, tyX2, rfl, by decide, uw_1, wd 119 (by decide +kernel) (by decide +kernel), tyX2_ok, nmX2, rfl, rfl⟩
theorem fl_X3_11 : vFL RX3 11 2 0 := ⟨RX3, TX3, 3, rfl, by decide, uw_2, wd 148 (by decide +kernel) (by decide +kernel)⟩
theorem fl_X3_15 : vFL RX3 15 2 2 := ⟨RX3, TX3, 3, rfl, by decide, uw_2, wd 152 (by decide +kernel) (by decide +kernel)⟩
theorem fl_X3_19 : vFL RX3 19 2 1 := ⟨RX3, TX3, 3, rfl, by decide, uw_2, wd 150 (by decide +kernel) (by decide +kernel)⟩
theorem cv_X3_22 : vCV RX3 22 RX3 yX3_hasPlace cX3_hasPlace 2 (some .boolean) 1 := ⟨wd 566 (by decide +kernel) (by decide +kernel), wd 567 (by decide +kernel) (by decide +kernel), wd 568 (by decide +kernel) (by decide +kernel), wd 569 (by decide +kernel) (by decide +kernel), wd 63 (by decide +kernel) (by decide +kernel), (by decide +kernel), by decide⟩
theorem fp_X3_11 : vFP RX3 11 2 0 .int := ⟨RX3, TX3, 3, tyX3, rfl, by decide, uw_2, wd 148 (by decide +kernel) (by decide +kernel), tyX3_ok, nmX3, rfl, rfl⟩
theorem fp_X3_19 : vFP RX3 19 2 1 .int := ⟨RX3, TX3, 3, tyX3, rfl, by decide, uw_2, wd 150 (by decide +kernel) (by decide +kernel), tyX3_ok, nmX3, rfl, rfl⟩
theorem fp_X4_9 : vFP RX4 9 3 0 .int := ⟨RX4, TX4, 5, tyX4, rfl, by decide, uw_3, wd 168 (by decide +kernel) (by decide +kernel), tyX4_ok, nmX4, rfl, rfl⟩
theorem fl_X5_9 : vFL RX5 9 4 0 := ⟨RX5, TX5, 20, rfl, by decide, uw_4, wd 192 (by decide +kernel) (by decide +kernel)⟩
theorem fl_X5_15 : vFL RX5 15 4 1 := ⟨RX5, TX5, 20, rfl, by decide, uw_4, wd 194 (by decide +kernel) (by decide +kernel)⟩
theorem fl_X5_18 : vFL RX5 18 4 2 := ⟨RX5, TX5, 20, rfl, by decide, uw_4, wd 196 (by decide +kernel) (by decide +kernel)⟩
theorem fl_X5_21 : vFL RX5 21 4 3 := ⟨RX5, TX5, 20, rfl, by decide, uw_4, wd 198 (by decide +kernel) (by decide +kernel)⟩
theorem fl_X5_24 : vFL RX5 24 4 4 := ⟨RX5, TX5, 20, rfl, by decide, uw_4, wd 200 (by decide +kernel) (by decide +kernel)⟩
theorem fl_X5_27 : vFL RX5 27 4 6 := ⟨RX5, TX5, 20, rfl, by decide, uw_4, wd 204 (by decide +kernel) (by decide +kernel)⟩
theorem fl_X5_30 : vFL RX5 30 4 7 := ⟨RX5, TX5, 20, rfl, by decide, uw_4, wd 206 (by decide +kernel) (by decide +kernel)⟩
theorem fl_X5_33 : vFL RX5 33 4 8 := ⟨RX5, TX5, 20, rfl, by decide, uw_4, wd 208 (by decide +kernel) (by decide +kernel)⟩
theorem fl_X5_36 : vFL RX5 36 4 9 := ⟨RX5, TX5, 20, rfl, by decide, uw_4, wd 210 (by decide +kernel) (by decide +kernel)⟩
theorem fl_X5_39 : vFL RX5 39 4 14 := ⟨RX5, TX5, 20, rfl, by decide, uw_4, wd 220 (by decide +kernel) (by decide +kernel)⟩
theorem fl_X5_43 : vFL RX5 43 4 16 := ⟨RX5, TX5, 20, rfl, by decide, uw_4, wd 224 (by decide +kernel) (by decide +kernel)⟩
theorem fl_X5_46 : vFL RX5 46 4 19 := ⟨RX5, TX5, 20, rfl, by decide, uw_4, wd 229 (by decide +kernel) (by decide +kernel)⟩
theorem fl_X5_49 : vFL RX5 49 4 17 := ⟨RX5, TX5, 20, rfl, by decide, uw_4, wd 226 (by decide +kernel) (by decide +kernel)⟩
theorem fl_X5_53 : vFL RX5 53 4 18 := ⟨RX5, TX5, 20, rfl, by decide, uw_4, wd 227 (by decide +kernel) (by decide +kernel)⟩
theorem fl_X5_62 : vFL RX5 62 4 5 := ⟨RX5, TX5, 20, rfl, by decide, uw_4, wd 203 (by decide +kernel) (by decide +kernel)⟩
theorem fl_X5_65 : vFL RX5 65 4 10 := ⟨RX5, TX5, 20, rfl, by decide, uw_4, wd 212 (by decide +kernel) (by decide +kernel)⟩
theorem fl_X5_68 : vFL RX5 68 4 11 := ⟨RX5, TX5, 20, rfl, by decide, uw_4, wd 214 (by decide +kernel) (by decide +kernel)⟩
theorem fl_X5_71 : vFL RX5 71 4 12 := ⟨RX5, TX5, 20, rfl, by decide, uw_4, wd 216 (by decide +kernel) (by decide +kernel)⟩
theorem fl_X5_74 : vFL RX5 74 4 13 := ⟨RX5, TX5, 20, rfl, by decide, uw_4, wd 218 (by decide +kernel) (by decide +kernel)⟩
theorem fl_X5_77 : vFL RX5 77 4 15 := ⟨RX5, TX5, 20, rfl, by decide, uw_4, wd 222 (by decide +kernel) (by decide +kernel)⟩
theorem cs_X5_106 : vCS RX5 106 yX0_high cX0_high 3 (some .int) 3 := ⟨wd 345 (by decide +kernel) (by decide +kernel), wd 346 (by decide +kernel) (by decide +kernel), wd 347 (by decide +kernel) (by decide +kernel), wd 67 (by decide +kernel) (by decide +kernel), (by decide +kernel), by decide⟩
theorem cs_X5_123 : vCS RX5 123 yX0_takesIn cX0_takesIn 2 (some .int) 2 := ⟨wd 430 (by decide +kernel) (by decide +kernel), wd 374 (by decide +kernel) (by decide +kernel), wd 375 (by decide +kernel) (by decide +kernel), wd 67 (by decide +kernel) (by decide +kernel), (by decide +kernel), by decide⟩
theorem cs_X5_136 : vCS RX5 136 yX0_loses cX0_loses 2 (some .int) 2 := ⟨wd 474 (by decide +kernel) (by decide +kernel), wd 364 (by decide +kernel) (by decide +kernel), wd 365 (by decide +kernel) (by decide +kernel), wd 67 (by decide +kernel) (by decide +kernel), (by decide +kernel), by decide⟩
theorem cv_X5_82 : vCV RX5 82 RX5 yX5_empty cX5_empty 3 none 1 := ⟨wd 320 (by decide +kernel) (by decide +kernel), wd 321 (by decide +kernel) (by decide +kernel), wd 322 (by decide +kernel) (by decide +kernel), wd 323 (by decide +kernel) (by decide +kernel), wd 65 (by decide +kernel) (by decide +kernel), (by decide +kernel), by decide⟩
theorem cv_X5_86 : vCV RX5 86 RX5 yX5_refresh cX5_refresh 5 none 1 := ⟨wd 324 (by decide +kernel) (by decide +kernel), wd 325 (by decide +kernel) (by decide +kernel), wd 326 (by decide +kernel) (by decide +kernel), wd 327 (by decide +kernel) (by decide +kernel), wd 65 (by decide +kernel) (by decide +kernel), (by decide +kernel), by decide⟩
theorem cv_X5_89 : vCV RX5 89 RX5 yX5_fullOf cX5_fullOf 3 (some .int) 1 := ⟨wd 328 (by decide +kernel) (by decide +kernel), wd 329 (by decide +kernel) (by decide +kernel), wd 330 (by decide +kernel) (by decide +kernel), wd 331 (by decide +kernel) (by decide +kernel), wd 65 (by decide +kernel) (by decide +kernel), (by decide +kernel), by decide⟩
theorem cv_X5_93 : vCV RX5 93 RX1 yX1_give cX1_give 8 (some .int) 4 := ⟨wd 332 (by decide +kernel) (by decide +kernel), wd 333 (by decide +kernel) (by decide +kernel), wd 334 (by decide +kernel) (by decide +kernel), wd 335 (by decide +kernel) (by decide +kernel), wd 62 (by decide +kernel) (by decide +kernel), (by decide +kernel), by decide⟩
theorem cv_X5_111 : vCV RX5 111 RX5 yX5_levelOf cX5_levelOf 2 (some .int) 1 := ⟨wd 421 (by decide +kernel) (by decide +kernel), wd 360 (by decide +kernel) (by decide +kernel), wd 361 (by decide +kernel) (by decide +kernel), wd 362 (by decide +kernel) (by decide +kernel), wd 65 (by decide +kernel) (by decide +kernel), (by decide +kernel), by decide⟩
theorem cv_X5_114 : vCV RX5 114 RX5 yX5_upperOf cX5_upperOf 2 (some .int) 1 := ⟨wd 417 (by decide +kernel) (by decide +kernel), wd 418 (by decide +kernel) (by decide +kernel), wd 419 (by decide +kernel) (by decide +kernel), wd 420 (by decide +kernel) (by decide +kernel), wd 65 (by decide +kernel) (by decide +kernel), (by decide +kernel), by decide⟩
theorem cv_X5_117 : vCV RX5 117 RX5 yX5_runsFrom cX5_runsFrom 5 (some .int) 2 := ⟨wd 422 (by decide +kernel) (by decide +kernel), wd 424 (by decide +kernel) (by decide +kernel), wd 0 (by decide +kernel) (by decide +kernel), wd 425 (by decide +kernel) (by decide +kernel), wd 65 (by decide +kernel) (by decide +kernel), (by decide +kernel), by decide⟩
theorem cv_X5_120 : vCV RX5 120 RX5 yX5_farEndOf cX5_farEndOf 3 (some .int) 2 := ⟨wd 426 (by decide +kernel) (by decide +kernel), wd 427 (by decide +kernel) (by decide +kernel), wd 428 (by decide +kernel) (by decide +kernel), wd 429 (by decide +kernel) (by decide +kernel), wd 65 (by decide +kernel) (by decide +kernel), (by decide +kernel), by decide⟩
theorem cv_X5_126 : vCV RX5 126 RX5 yX5_runs cX5_runs 2 (some .int) 1 := ⟨wd 487 (by decide +kernel) (by decide +kernel), wd 414 (by decide +kernel) (by decide +kernel), wd 415 (by decide +kernel) (by decide +kernel), wd 416 (by decide +kernel) (by decide +kernel), wd 65 (by decide +kernel) (by decide +kernel), (by decide +kernel), by decide⟩
theorem cv_X5_129 : vCV RX5 129 RX5 yX5_oneHour cX5_oneHour 3 none 0 := ⟨wd 466 (by decide +kernel) (by decide +kernel), wd 467 (by decide +kernel) (by decide +kernel), wd 468 (by decide +kernel) (by decide +kernel), wd 469 (by decide +kernel) (by decide +kernel), wd 65 (by decide +kernel) (by decide +kernel), (by decide +kernel), by decide⟩
theorem cv_X5_132 : vCV RX5 132 RX5 yX5_lead cX5_lead 9 none 3 := ⟨wd 470 (by decide +kernel) (by decide +kernel), wd 472 (by decide +kernel) (by decide +kernel), wd 2 (by decide +kernel) (by decide +kernel), wd 473 (by decide +kernel) (by decide +kernel), wd 65 (by decide +kernel) (by decide +kernel), (by decide +kernel), by decide⟩
theorem cv_X5_139 : vCV RX5 139 RX5 yX5_draw cX5_draw 1 (some .int) 0 := ⟨wd 448 (by decide +kernel) (by decide +kernel), wd 450 (by decide +kernel) (by decide +kernel), wd 1 (by decide +kernel) (by decide +kernel), wd 451 (by decide +kernel) (by decide +kernel), wd 65 (by decide +kernel) (by decide +kernel), (by decide +kernel), by decide⟩
theorem cv_X5_144 : vCV RX5 144 RX5 yX5_addCellar cX5_addCellar 5 (some .int) 3 := ⟨wd 453 (by decide +kernel) (by decide +kernel), wd 317 (by decide +kernel) (by decide +kernel), wd 318 (by decide +kernel) (by decide +kernel), wd 319 (by decide +kernel) (by decide +kernel), wd 65 (by decide +kernel) (by decide +kernel), (by decide +kernel), by decide⟩
theorem fp_X5_39 : vFP RX5 39 4 14 .int := ⟨RX5, TX5, 20, tyX5, rfl, by decide, uw_4, wd 220 (by decide +kernel) (by decide +kernel), tyX5_ok, nmX5, rfl, rfl⟩
theorem fp_X5_62 : vFP RX5 62 4 5 .int := ⟨RX5, TX5, 20, tyX5, rfl, by decide, uw_4, wd 203 (by decide +kernel) (by decide +kernel), tyX5_ok, nmX5, rfl, rfl⟩
theorem fp_X5_65 : vFP RX5 65 4 10 .int := ⟨RX5, TX5, 20, tyX5, rfl, by decide, uw_4, wd 212 (by decide +kernel) (by decide +kernel), tyX5_ok, nmX5, rfl, rfl⟩
theorem fp_X5_68 : vFP RX5 68 4 11 .int := ⟨RX5, TX5, 20, tyX5, rfl, by decide, uw_4, wd 214 (by decide +kernel) (by decide +kernel), tyX5_ok, nmX5, rfl, rfl⟩
theorem fp_X5_71 : vFP RX5 71 4 12 .int := ⟨RX5, TX5, 20, tyX5, rfl, by decide, uw_4, wd 216 (by decide +kernel) (by decide +kernel), tyX5_ok, nmX5, rfl, rfl⟩
theorem fp_X5_74 : vFP RX5 74 4 13 .int := ⟨RX5, TX5, 20, tyX5, rfl, by decide, uw_4, wd 218 (by decide +kernel) (by decide +kernel), tyX5_ok, nmX5, rfl, rfl⟩
theorem fp_X5_77 : vFP RX5 77 4 15 .int := ⟨RX5, TX5, 20, tyX5, rfl, by decide, uw_4, wd 222 (by decide +kernel) (by decide +kernel), tyX5_ok, nmX5, rfl, rfl⟩
theorem cv_L_13 : vCV RL 13 RX6 yX6_cellar cX6_cellar 4 (some .int) 3 := ⟨wd 302 (by decide +kernel) (by decide +kernel), wd 303 (by decide +kernel) (by decide +kernel), wd 304 (by decide +kernel) (by decide +kernel), wd 305 (by decide +kernel) (by decide +kernel), wd 60 (by decide +kernel) (by decide +kernel), (by decide +kernel), by decide⟩
theorem cv_L_17 : vCV RL 17 RX7 yX7_cellar cX7_cellar 4 (some .int) 3 := ⟨wd 998 (by decide +kernel) (by decide +kernel), wd 999 (by decide +kernel) (by decide +kernel), wd 1000 (by decide +kernel) (by decide +kernel), wd 1001 (by decide +kernel) (by decide +kernel), wd 66 (by decide +kernel) (by decide +kernel), (by decide +kernel), by decide⟩
theorem cv_L_18 : vCV RL 18 RX6 yX6_told cX6_told 3 (some .int) 2 := ⟨wd 350 (by decide +kernel) (by decide +kernel), wd 351 (by decide +kernel) (by decide +kernel), wd 352 (by decide +kernel) (by decide +kernel), wd 353 (by decide +kernel) (by decide +kernel), wd 60 (by decide +kernel) (by decide +kernel), (by decide +kernel), by decide⟩
theorem cv_L_22 : vCV RL 22 RX7 yX7_told cX7_told 3 (some .int) 2 := ⟨wd 1011 (by decide +kernel) (by decide +kernel), wd 1012 (by decide +kernel) (by decide +kernel), wd 1013 (by decide +kernel) (by decide +kernel), wd 1014 (by decide +kernel) (by decide +kernel), wd 66 (by decide +kernel) (by decide +kernel), (by decide +kernel), by decide⟩
theorem cv_L_23 : vCV RL 23 RX6 yX6_takes cX6_takes 3 (some .int) 2 := ⟨wd 369 (by decide +kernel) (by decide +kernel), wd 370 (by decide +kernel) (by decide +kernel), wd 371 (by decide +kernel) (by decide +kernel), wd 372 (by decide +kernel) (by decide +kernel), wd 60 (by decide +kernel) (by decide +kernel), (by decide +kernel), by decide⟩
theorem cv_L_26 : vCV RL 26 RX7 yX7_takes cX7_takes 3 (some .int) 2 := ⟨wd 1057 (by decide +kernel) (by decide +kernel), wd 1058 (by decide +kernel) (by decide +kernel), wd 1059 (by decide +kernel) (by decide +kernel), wd 1060 (by decide +kernel) (by decide +kernel), wd 66 (by decide +kernel) (by decide +kernel), (by decide +kernel), by decide⟩
theorem cv_L_27 : vCV RL 27 RX6 yX6_as cX6_as 3 (some .int) 2 := ⟨wd 376 (by decide +kernel) (by decide +kernel), wd 377 (by decide +kernel) (by decide +kernel), wd 378 (by decide +kernel) (by decide +kernel), wd 379 (by decide +kernel) (by decide +kernel), wd 60 (by decide +kernel) (by decide +kernel), (by decide +kernel), by decide⟩
theorem cv_L_30 : vCV RL 30 RX7 yX7_as cX7_as 3 (some .int) 2 := ⟨wd 1065 (by decide +kernel) (by decide +kernel), wd 1066 (by decide +kernel) (by decide +kernel), wd 1067 (by decide +kernel) (by decide +kernel), wd 1068 (by decide +kernel) (by decide +kernel), wd 66 (by decide +kernel) (by decide +kernel), (by decide +kernel), by decide⟩
theorem cv_L_31 : vCV RL 31 RX6 yX6_turns cX6_turns 4 (some .int) 2 := ⟨wd 387 (by decide +kernel) (by decide +kernel), wd 388 (by decide +kernel) (by decide +kernel), wd 389 (by decide +kernel) (by decide +kernel), wd 390 (by decide +kernel) (by decide +kernel), wd 60 (by decide +kernel) (by decide +kernel), (by decide +kernel), by decide⟩
theorem cv_L_34 : vCV RL 34 RX7 yX7_turns cX7_turns 3 (some .int) 2 := ⟨wd 1073 (by decide +kernel) (by decide +kernel), wd 1074 (by decide +kernel) (by decide +kernel), wd 1075 (by decide +kernel) (by decide +kernel), wd 1076 (by decide +kernel) (by decide +kernel), wd 66 (by decide +kernel) (by decide +kernel), (by decide +kernel), by decide⟩
theorem cv_L_35 : vCV RL 35 RX6 yX6_set cX6_set 5 (some .int) 3 := ⟨wd 392 (by decide +kernel) (by decide +kernel), wd 393 (by decide +kernel) (by decide +kernel), wd 394 (by decide +kernel) (by decide +kernel), wd 395 (by decide +kernel) (by decide +kernel), wd 60 (by decide +kernel) (by decide +kernel), (by decide +kernel), by decide⟩
theorem cv_L_38 : vCV RL 38 RX7 yX7_set cX7_set 4 (some .int) 3 := ⟨wd 1081 (by decide +kernel) (by decide +kernel), wd 1082 (by decide +kernel) (by decide +kernel), wd 1083 (by decide +kernel) (by decide +kernel), wd 1084 (by decide +kernel) (by decide +kernel), wd 66 (by decide +kernel) (by decide +kernel), (by decide +kernel), by decide⟩
theorem cv_L_39 : vCV RL 39 RX6 yX6_pipe cX6_pipe 4 (some .int) 3 := ⟨wd 397 (by decide +kernel) (by decide +kernel), wd 398 (by decide +kernel) (by decide +kernel), wd 399 (by decide +kernel) (by decide +kernel), wd 400 (by decide +kernel) (by decide +kernel), wd 60 (by decide +kernel) (by decide +kernel), (by decide +kernel), by decide⟩
theorem cv_L_42 : vCV RL 42 RX7 yX7_pipe cX7_pipe 4 (some .int) 3 := ⟨wd 1085 (by decide +kernel) (by decide +kernel), wd 1086 (by decide +kernel) (by decide +kernel), wd 1087 (by decide +kernel) (by decide +kernel), wd 1088 (by decide +kernel) (by decide +kernel), wd 66 (by decide +kernel) (by decide +kernel), (by decide +kernel), by decide⟩
theorem cv_L_43 : vCV RL 43 RX6 yX6_pipeOf cX6_pipeOf 3 (some .int) 2 := ⟨wd 405 (by decide +kernel) (by decide +kernel), wd 406 (by decide +kernel) (by decide +kernel), wd 407 (by decide +kernel) (by decide +kernel), wd 408 (by decide +kernel) (by decide +kernel), wd 60 (by decide +kernel) (by decide +kernel), (by decide +kernel), by decide⟩
theorem cv_L_46 : vCV RL 46 RX7 yX7_pipeOf cX7_pipeOf 3 (some .int) 2 := ⟨wd 1093 (by decide +kernel) (by decide +kernel), wd 1094 (by decide +kernel) (by decide +kernel), wd 1095 (by decide +kernel) (by decide +kernel), wd 1096 (by decide +kernel) (by decide +kernel), wd 66 (by decide +kernel) (by decide +kernel), (by decide +kernel), by decide⟩
theorem cv_L_47 : vCV RL 47 RX6 yX6_cork cX6_cork 4 (some .int) 2 := ⟨wd 431 (by decide +kernel) (by decide +kernel), wd 432 (by decide +kernel) (by decide +kernel), wd 433 (by decide +kernel) (by decide +kernel), wd 434 (by decide +kernel) (by decide +kernel), wd 60 (by decide +kernel) (by decide +kernel), (by decide +kernel), by decide⟩
theorem cv_L_50 : vCV RL 50 RX7 yX7_cork cX7_cork 3 (some .int) 2 := ⟨wd 1113 (by decide +kernel) (by decide +kernel), wd 1114 (by decide +kernel) (by decide +kernel), wd 1115 (by decide +kernel) (by decide +kernel), wd 1116 (by decide +kernel) (by decide +kernel), wd 66 (by decide +kernel) (by decide +kernel), (by decide +kernel), by decide⟩
theorem cv_L_51 : vCV RL 51 RX6 yX6_thirst cX6_thirst 3 (some .int) 1 := ⟨wd 435 (by decide +kernel) (by decide +kernel), wd 436 (by decide +kernel) (by decide +kernel), wd 437 (by decide +kernel) (by decide +kernel), wd 438 (by decide +kernel) (by decide +kernel), wd 60 (by decide +kernel) (by decide +kernel), (by decide +kernel), by decide⟩
theorem cv_L_55 : vCV RL 55 RX7 yX7_thirst cX7_thirst 2 (some .int) 1 := ⟨wd 1117 (by decide +kernel) (by decide +kernel), wd 1118 (by decide +kernel) (by decide +kernel), wd 1119 (by decide +kernel) (by decide +kernel), wd 1120 (by decide +kernel) (by decide +kernel), wd 66 (by decide +kernel) (by decide +kernel), (by decide +kernel), by decide⟩
theorem cv_L_56 : vCV RL 56 RX6 yX6_deal cX6_deal 4 (some .int) 1 := ⟨wd 439 (by decide +kernel) (by decide +kernel), wd 440 (by decide +kernel) (by decide +kernel), wd 441 (by decide +kernel) (by decide +kernel), wd 442 (by decide +kernel) (by decide +kernel), wd 60 (by decide +kernel) (by decide +kernel), (by decide +kernel), by decide⟩
theorem cv_L_59 : vCV RL 59 RX7 yX7_deal cX7_deal 6 (some .int) 1 := ⟨wd 1121 (by decide +kernel) (by decide +kernel), wd 1122 (by decide +kernel) (by decide +kernel), wd 1123 (by decide +kernel) (by decide +kernel), wd 1124 (by decide +kernel) (by decide +kernel), wd 66 (by decide +kernel) (by decide +kernel), (by decide +kernel), by decide⟩
theorem cv_L_60 : vCV RL 60 RX6 yX6_seed cX6_seed 3 (some .int) 1 := ⟨wd 454 (by decide +kernel) (by decide +kernel), wd 455 (by decide +kernel) (by decide +kernel), wd 456 (by decide +kernel) (by decide +kernel), wd 457 (by decide +kernel) (by decide +kernel), wd 60 (by decide +kernel) (by decide +kernel), (by decide +kernel), by decide⟩
theorem cv_L_63 : vCV RL 63 RX7 yX7_seed cX7_seed 2 (some .int) 1 := ⟨wd 1130 (by decide +kernel) (by decide +kernel), wd 1131 (by decide +kernel) (by decide +kernel), wd 1132 (by decide +kernel) (by decide +kernel), wd 1133 (by decide +kernel) (by decide +kernel), wd 66 (by decide +kernel) (by decide +kernel), (by decide +kernel), by decide⟩
theorem cv_L_64 : vCV RL 64 RX6 yX6_hours cX6_hours 3 (some .int) 1 := ⟨wd 458 (by decide +kernel) (by decide +kernel), wd 459 (by decide +kernel) (by decide +kernel), wd 460 (by decide +kernel) (by decide +kernel), wd 461 (by decide +kernel) (by decide +kernel), wd 60 (by decide +kernel) (by decide +kernel), (by decide +kernel), by decide⟩
theorem cv_L_67 : vCV RL 67 RX7 yX7_hours cX7_hours 3 (some .int) 1 := ⟨wd 1134 (by decide +kernel) (by decide +kernel), wd 1135 (by decide +kernel) (by decide +kernel), wd 1136 (by decide +kernel) (by decide +kernel), wd 1137 (by decide +kernel) (by decide +kernel), wd 66 (by decide +kernel) (by decide +kernel), (by decide +kernel), by decide⟩
theorem cv_L_68 : vCV RL 68 RX6 yX6_town cX6_town 2 (some .int) 1 := ⟨wd 475 (by decide +kernel) (by decide +kernel), wd 476 (by decide +kernel) (by decide +kernel), wd 477 (by decide +kernel) (by decide +kernel), wd 478 (by decide +kernel) (by decide +kernel), wd 60 (by decide +kernel) (by decide +kernel), (by decide +kernel), by decide⟩
theorem cv_L_71 : vCV RL 71 RX7 yX7_town cX7_town 4 (some .int) 1 := ⟨wd 1158 (by decide +kernel) (by decide +kernel), wd 1159 (by decide +kernel) (by decide +kernel), wd 1160 (by decide +kernel) (by decide +kernel), wd 1161 (by decide +kernel) (by decide +kernel), wd 66 (by decide +kernel) (by decide +kernel), (by decide +kernel), by decide⟩
theorem cv_L_72 : vCV RL 72 RX6 yX6_behind cX6_behind 3 (some .int) 2 := ⟨wd 492 (by decide +kernel) (by decide +kernel), wd 493 (by decide +kernel) (by decide +kernel), wd 494 (by decide +kernel) (by decide +kernel), wd 495 (by decide +kernel) (by decide +kernel), wd 60 (by decide +kernel) (by decide +kernel), (by decide +kernel), by decide⟩
theorem cv_L_75 : vCV RL 75 RX7 yX7_behind cX7_behind 4 (some .int) 2 := ⟨wd 1170 (by decide +kernel) (by decide +kernel), wd 1171 (by decide +kernel) (by decide +kernel), wd 1172 (by decide +kernel) (by decide +kernel), wd 1173 (by decide +kernel) (by decide +kernel), wd 66 (by decide +kernel) (by decide +kernel), (by decide +kernel), by decide⟩
theorem cv_L_76 : vCV RL 76 RX6 yX6_taste cX6_taste 4 (some .int) 3 := ⟨wd 507 (by decide +kernel) (by decide +kernel), wd 508 (by decide +kernel) (by decide +kernel), wd 509 (by decide +kernel) (by decide +kernel), wd 510 (by decide +kernel) (by decide +kernel), wd 60 (by decide +kernel) (by decide +kernel), (by decide +kernel), by decide⟩
theorem cv_L_79 : vCV RL 79 RX7 yX7_taste cX7_taste 5 (some .int) 3 := ⟨wd 1182 (by decide +kernel) (by decide +kernel), wd 1183 (by decide +kernel) (by decide +kernel), wd 1184 (by decide +kernel) (by decide +kernel), wd 1185 (by decide +kernel) (by decide +kernel), wd 66 (by decide +kernel) (by decide +kernel), (by decide +kernel), by decide⟩
theorem cv_L_80 : vCV RL 80 RX6 yX6_rests cX6_rests 2 (some .int) 0 := ⟨wd 511 (by decide +kernel) (by decide +kernel), wd 512 (by decide +kernel) (by decide +kernel), wd 513 (by decide +kernel) (by decide +kernel), wd 514 (by decide +kernel) (by decide +kernel), wd 60 (by decide +kernel) (by decide +kernel), (by decide +kernel), by decide⟩
theorem cv_L_84 : vCV RL 84 RX7 yX7_rests cX7_rests 2 (some .int) 0 := ⟨wd 1186 (by decide +kernel) (by decide +kernel), wd 1187 (by decide +kernel) (by decide +kernel), wd 1188 (by decide +kernel) (by decide +kernel), wd 1189 (by decide +kernel) (by decide +kernel), wd 66 (by decide +kernel) (by decide +kernel), (by decide +kernel), by decide⟩
theorem cv_L_85 : vCV RL 85 RX6 yX6_corks cX6_corks 8 (some .int) 3 := ⟨wd 517 (by decide +kernel) (by decide +kernel), wd 518 (by decide +kernel) (by decide +kernel), wd 519 (by decide +kernel) (by decide +kernel), wd 520 (by decide +kernel) (by decide +kernel), wd 60 (by decide +kernel) (by decide +kernel), (by decide +kernel), by decide⟩
theorem cv_L_88 : vCV RL 88 RX7 yX7_corks cX7_corks 8 (some .int) 3 := ⟨wd 1191 (by decide +kernel) (by decide +kernel), wd 1192 (by decide +kernel) (by decide +kernel), wd 1193 (by decide +kernel) (by decide +kernel), wd 1194 (by decide +kernel) (by decide +kernel), wd 66 (by decide +kernel) (by decide +kernel), (by decide +kernel), by decide⟩
theorem cv_L_89 : vCV RL 89 RX6 yX6_dig cX6_dig 7 (some .int) 2 := ⟨wd 525 (by decide +kernel) (by decide +kernel), wd 526 (by decide +kernel) (by decide +kernel), wd 527 (by decide +kernel) (by decide +kernel), wd 528 (by decide +kernel) (by decide +kernel), wd 60 (by decide +kernel) (by decide +kernel), (by decide +kernel), by decide⟩
theorem cv_L_92 : vCV RL 92 RX7 yX7_dig cX7_dig 8 (some .int) 2 := ⟨wd 1195 (by decide +kernel) (by decide +kernel), wd 1196 (by decide +kernel) (by decide +kernel), wd 1197 (by decide +kernel) (by decide +kernel), wd 1198 (by decide +kernel) (by decide +kernel), wd 66 (by decide +kernel) (by decide +kernel), (by decide +kernel), by decide⟩
theorem cv_L_93 : vCV RL 93 RX6 yX6_loser cX6_loser 7 (some .int) 2 := ⟨wd 537 (by decide +kernel) (by decide +kernel), wd 538 (by decide +kernel) (by decide +kernel), wd 539 (by decide +kernel) (by decide +kernel), wd 540 (by decide +kernel) (by decide +kernel), wd 60 (by decide +kernel) (by decide +kernel), (by decide +kernel), by decide⟩
theorem cv_L_96 : vCV RL 96 RX7 yX7_loser cX7_loser 7 (some .int) 2 := ⟨wd 1203 (by decide +kernel) (by decide +kernel), wd 1204 (by decide +kernel) (by decide +kernel), wd 1205 (by decide +kernel) (by decide +kernel), wd 1206 (by decide +kernel) (by decide +kernel), wd 66 (by decide +kernel) (by decide +kernel), (by decide +kernel), by decide⟩
theorem cv_L_97 : vCV RL 97 RX6 yX6_tap cX6_tap 4 (some .int) 2 := ⟨wd 541 (by decide +kernel) (by decide +kernel), wd 542 (by decide +kernel) (by decide +kernel), wd 543 (by decide +kernel) (by decide +kernel), wd 544 (by decide +kernel) (by decide +kernel), wd 60 (by decide +kernel) (by decide +kernel), (by decide +kernel), by decide⟩
theorem cv_L_100 : vCV RL 100 RX7 yX7_tap cX7_tap 5 (some .int) 2 := ⟨wd 1207 (by decide +kernel) (by decide +kernel), wd 1208 (by decide +kernel) (by decide +kernel), wd 1209 (by decide +kernel) (by decide +kernel), wd 1210 (by decide +kernel) (by decide +kernel), wd 66 (by decide +kernel) (by decide +kernel), (by decide +kernel), by decide⟩
theorem cv_L_101 : vCV RL 101 RX6 yX6_dug cX6_dug 9 (some .int) 3 := ⟨wd 546 (by decide +kernel) (by decide +kernel), wd 547 (by decide +kernel) (by decide +kernel), wd 548 (by decide +kernel) (by decide +kernel), wd 549 (by decide +kernel) (by decide +kernel), wd 60 (by decide +kernel) (by decide +kernel), (by decide +kernel), by decide⟩
theorem cv_L_104 : vCV RL 104 RX7 yX7_dug cX7_dug 10 (some .int) 3 := ⟨wd 1215 (by decide +kernel) (by decide +kernel), wd 1216 (by decide +kernel) (by decide +kernel), wd 1217 (by decide +kernel) (by decide +kernel), wd 1218 (by decide +kernel) (by decide +kernel), wd 66 (by decide +kernel) (by decide +kernel), (by decide +kernel), by decide⟩
theorem cv_L_105 : vCV RL 105 RX6 yX6_fee cX6_fee 2 (some .int) 0 := ⟨wd 574 (by decide +kernel) (by decide +kernel), wd 575 (by decide +kernel) (by decide +kernel), wd 576 (by decide +kernel) (by decide +kernel), wd 577 (by decide +kernel) (by decide +kernel), wd 60 (by decide +kernel) (by decide +kernel), (by decide +kernel), by decide⟩
theorem cv_L_108 : vCV RL 108 RX7 yX7_fee cX7_fee 2 (some .int) 0 := ⟨wd 1230 (by decide +kernel) (by decide +kernel), wd 1231 (by decide +kernel) (by decide +kernel), wd 1232 (by decide +kernel) (by decide +kernel), wd 1233 (by decide +kernel) (by decide +kernel), wd 66 (by decide +kernel) (by decide +kernel), (by decide +kernel), by decide⟩
theorem cv_L_109 : vCV RL 109 RX6 yX6_fine cX6_fine 4 (some .int) 1 := ⟨wd 579 (by decide +kernel) (by decide +kernel), wd 580 (by decide +kernel) (by decide +kernel), wd 581 (by decide +kernel) (by decide +kernel), wd 582 (by decide +kernel) (by decide +kernel), wd 60 (by decide +kernel) (by decide +kernel), (by decide +kernel), by decide⟩
theorem cv_L_112 : vCV RL 112 RX7 yX7_fine cX7_fine 4 (some .int) 1 := ⟨wd 1234 (by decide +kernel) (by decide +kernel), wd 1235 (by decide +kernel) (by decide +kernel), wd 1236 (by decide +kernel) (by decide +kernel), wd 1237 (by decide +kernel) (by decide +kernel), wd 66 (by decide +kernel) (by decide +kernel), (by decide +kernel), by decide⟩
theorem cv_L_113 : vCV RL 113 RX6 yX6_feed cX6_feed 4 (some .int) 3 := ⟨wd 583 (by decide +kernel) (by decide +kernel), wd 584 (by decide +kernel) (by decide +kernel), wd 585 (by decide +kernel) (by decide +kernel), wd 586 (by decide +kernel) (by decide +kernel), wd 60 (by decide +kernel) (by decide +kernel), (by decide +kernel), by decide⟩
theorem cv_L_116 : vCV RL 116 RX7 yX7_feed cX7_feed 6 (some .int) 3 := ⟨wd 1238 (by decide +kernel) (by decide +kernel), wd 1239 (by decide +kernel) (by decide +kernel), wd 1240 (by decide +kernel) (by decide +kernel), wd 1241 (by decide +kernel) (by decide +kernel), wd 66 (by decide +kernel) (by decide +kernel), (by decide +kernel), by decide⟩
theorem cv_L_117 : vCV RL 117 RX6 yX6_trim cX6_trim 2 (some .int) 1 := ⟨wd 591 (by decide +kernel) (by decide +kernel), wd 592 (by decide +kernel) (by decide +kernel), wd 593 (by decide +kernel) (by decide +kernel), wd 594 (by decide +kernel) (by decide +kernel), wd 60 (by decide +kernel) (by decide +kernel), (by decide +kernel), by decide⟩
theorem cv_L_120 : vCV RL 120 RX7 yX7_trim cX7_trim 2 (some .int) 1 := ⟨wd 1242 (by decide +kernel) (by decide +kernel), wd 1243 (by decide +kernel) (by decide +kernel), wd 1244 (by decide +kernel) (by decide +kernel), wd 1245 (by decide +kernel) (by decide +kernel), wd 66 (by decide +kernel) (by decide +kernel), (by decide +kernel), by decide⟩
theorem cv_L_121 : vCV RL 121 RX6 yX6_text cX6_text 3 (some .int) 0 := ⟨wd 595 (by decide +kernel) (by decide +kernel), wd 596 (by decide +kernel) (by decide +kernel), wd 597 (by decide +kernel) (by decide +kernel), wd 598 (by decide +kernel) (by decide +kernel), wd 60 (by decide +kernel) (by decide +kernel), (by decide +kernel), by decide⟩
theorem cv_L_124 : vCV RL 124 RX7 yX7_text cX7_text 4 (some .int) 0 := ⟨wd 1246 (by decide +kernel) (by decide +kernel), wd 1247 (by decide +kernel) (by decide +kernel), wd 1248 (by decide +kernel) (by decide +kernel), wd 1249 (by decide +kernel) (by decide +kernel), wd 66 (by decide +kernel) (by decide +kernel), (by decide +kernel), by decide⟩
theorem cv_L_125 : vCV RL 125 RX6 yX6_textTold cX6_textTold 3 (some .int) 2 := ⟨wd 788 (by decide +kernel) (by decide +kernel), wd 789 (by decide +kernel) (by decide +kernel), wd 790 (by decide +kernel) (by decide +kernel), wd 791 (by decide +kernel) (by decide +kernel), wd 60 (by decide +kernel) (by decide +kernel), (by decide +kernel), by decide⟩
theorem cv_L_128 : vCV RL 128 RX7 yX7_textTold cX7_textTold 3 (some .int) 2 := ⟨wd 1293 (by decide +kernel) (by decide +kernel), wd 1294 (by decide +kernel) (by decide +kernel), wd 1295 (by decide +kernel) (by decide +kernel), wd 1296 (by decide +kernel) (by decide +kernel), wd 66 (by decide +kernel) (by decide +kernel), (by decide +kernel), by decide⟩
theorem cv_L_129 : vCV RL 129 RX6 yX6_why cX6_why 2 (some .int) 1 := ⟨wd 792 (by decide +kernel) (by decide +kernel), wd 793 (by decide +kernel) (by decide +kernel), wd 794 (by decide +kernel) (by decide +kernel), wd 795 (by decide +kernel) (by decide +kernel), wd 60 (by decide +kernel) (by decide +kernel), (by decide +kernel), by decide⟩
theorem cv_L_132 : vCV RL 132 RX7 yX7_why cX7_why 3 (some .int) 1 := ⟨wd 1297 (by decide +kernel) (by decide +kernel), wd 1298 (by decide +kernel) (by decide +kernel), wd 1299 (by decide +kernel) (by decide +kernel), wd 1300 (by decide +kernel) (by decide +kernel), wd 66 (by decide +kernel) (by decide +kernel), (by decide +kernel), by decide⟩
theorem cv_L_133 : vCV RL 133 RX6 yX6_sheet cX6_sheet 5 (some .int) 3 := ⟨wd 796 (by decide +kernel) (by decide +kernel), wd 797 (by decide +kernel) (by decide +kernel), wd 798 (by decide +kernel) (by decide +kernel), wd 799 (by decide +kernel) (by decide +kernel), wd 60 (by decide +kernel) (by decide +kernel), (by decide +kernel), by decide⟩
theorem cv_L_136 : vCV RL 136 RX7 yX7_sheet cX7_sheet 5 (some .int) 3 := ⟨wd 1301 (by decide +kernel) (by decide +kernel), wd 1302 (by decide +kernel) (by decide +kernel), wd 1303 (by decide +kernel) (by decide +kernel), wd 1304 (by decide +kernel) (by decide +kernel), wd 66 (by decide +kernel) (by decide +kernel), (by decide +kernel), by decide⟩
theorem cv_L_137 : vCV RL 137 RX6 yX6_mark cX6_mark 5 (some .int) 3 := ⟨wd 805 (by decide +kernel) (by decide +kernel), wd 806 (by decide +kernel) (by decide +kernel), wd 807 (by decide +kernel) (by decide +kernel), wd 808 (by decide +kernel) (by decide +kernel), wd 60 (by decide +kernel) (by decide +kernel), (by decide +kernel), by decide⟩
theorem cv_L_140 : vCV RL 140 RX7 yX7_mark cX7_mark 4 (some .int) 3 := ⟨wd 1306 (by decide +kernel) (by decide +kernel), wd 1307 (by decide +kernel) (by decide +kernel), wd 1308 (by decide +kernel) (by decide +kernel), wd 1309 (by decide +kernel) (by decide +kernel), wd 66 (by decide +kernel) (by decide +kernel), (by decide +kernel), by decide⟩
theorem cv_L_141 : vCV RL 141 RX6 yX6_pour cX6_pour 7 (some .int) 1 := ⟨wd 813 (by decide +kernel) (by decide +kernel), wd 814 (by decide +kernel) (by decide +kernel), wd 815 (by decide +kernel) (by decide +kernel), wd 816 (by decide +kernel) (by decide +kernel), wd 60 (by decide +kernel) (by decide +kernel), (by decide +kernel), by decide⟩
theorem cv_L_144 : vCV RL 144 RX7 yX7_pour cX7_pour 6 (some .int) 1 := ⟨wd 1313 (by decide +kernel) (by decide +kernel), wd 1314 (by decide +kernel) (by decide +kernel), wd 1315 (by decide +kernel) (by decide +kernel), wd 1316 (by decide +kernel) (by decide +kernel), wd 66 (by decide +kernel) (by decide +kernel), (by decide +kernel), by decide⟩
theorem cv_L_145 : vCV RL 145 RX6 yX6_reads cX6_reads 4 (some .int) 1 := ⟨wd 818 (by decide +kernel) (by decide +kernel), wd 819 (by decide +kernel) (by decide +kernel), wd 820 (by decide +kernel) (by decide +kernel), wd 821 (by decide +kernel) (by decide +kernel), wd 60 (by decide +kernel) (by decide +kernel), (by decide +kernel), by decide⟩
theorem cv_L_148 : vCV RL 148 RX7 yX7_reads cX7_reads 4 (some .int) 1 := ⟨wd 1317 (by decide +kernel) (by decide +kernel), wd 1318 (by decide +kernel) (by decide +kernel), wd 1319 (by decide +kernel) (by decide +kernel), wd 1320 (by decide +kernel) (by decide +kernel), wd 66 (by decide +kernel) (by decide +kernel), (by decide +kernel), by decide⟩
theorem cv_L_149 : vCV RL 149 RX6 yX6_copy cX6_copy 8 (some .int) 5 := ⟨wd 822 (by decide +kernel) (by decide +kernel), wd 823 (by decide +kernel) (by decide +kernel), wd 824 (by decide +kernel) (by decide +kernel), wd 825 (by decide +kernel) (by decide +kernel), wd 60 (by decide +kernel) (by decide +kernel), (by decide +kernel), by decide⟩
theorem cv_L_153 : vCV RL 153 RX7 yX7_copy cX7_copy 7 (some .int) 5 := ⟨wd 1321 (by decide +kernel) (by decide +kernel), wd 1322 (by decide +kernel) (by decide +kernel), wd 1323 (by decide +kernel) (by decide +kernel), wd 1324 (by decide +kernel) (by decide +kernel), wd 66 (by decide +kernel) (by decide +kernel), (by decide +kernel), by decide⟩
theorem cv_L_154 : vCV RL 154 RX6 yX6_lay cX6_lay 6 (some .int) 3 := ⟨wd 831 (by decide +kernel) (by decide +kernel), wd 832 (by decide +kernel) (by decide +kernel), wd 833 (by decide +kernel) (by decide +kernel), wd 834 (by decide +kernel) (by decide +kernel), wd 60 (by decide +kernel) (by decide +kernel), (by decide +kernel), by decide⟩
theorem cv_L_157 : vCV RL 157 RX7 yX7_lay cX7_lay 6 (some .int) 3 := ⟨wd 1325 (by decide +kernel) (by decide +kernel), wd 1326 (by decide +kernel) (by decide +kernel), wd 1327 (by decide +kernel) (by decide +kernel), wd 1328 (by decide +kernel) (by decide +kernel), wd 66 (by decide +kernel) (by decide +kernel), (by decide +kernel), by decide⟩
theorem cv_L_158 : vCV RL 158 RX6 yX6_ask cX6_ask 4 (some .int) 2 := ⟨wd 843 (by decide +kernel) (by decide +kernel), wd 844 (by decide +kernel) (by decide +kernel), wd 845 (by decide +kernel) (by decide +kernel), wd 846 (by decide +kernel) (by decide +kernel), wd 60 (by decide +kernel) (by decide +kernel), (by decide +kernel), by decide⟩
theorem cv_L_161 : vCV RL 161 RX7 yX7_ask cX7_ask 3 (some .int) 2 := ⟨wd 1332 (by decide +kernel) (by decide +kernel), wd 1333 (by decide +kernel) (by decide +kernel), wd 1334 (by decide +kernel) (by decide +kernel), wd 1335 (by decide +kernel) (by decide +kernel), wd 66 (by decide +kernel) (by decide +kernel), (by decide +kernel), by decide⟩
theorem cv_L_162 : vCV RL 162 RX6 yX6_item cX6_item 4 (some .int) 2 := ⟨wd 847 (by decide +kernel) (by decide +kernel), wd 848 (by decide +kernel) (by decide +kernel), wd 849 (by decide +kernel) (by decide +kernel), wd 850 (by decide +kernel) (by decide +kernel), wd 60 (by decide +kernel) (by decide +kernel), (by decide +kernel), by decide⟩
theorem cv_L_165 : vCV RL 165 RX7 yX7_item cX7_item 4 (some .int) 2 := ⟨wd 1336 (by decide +kernel) (by decide +kernel), wd 1337 (by decide +kernel) (by decide +kernel), wd 1338 (by decide +kernel) (by decide +kernel), wd 1339 (by decide +kernel) (by decide +kernel), wd 66 (by decide +kernel) (by decide +kernel), (by decide +kernel), by decide⟩
theorem cv_L_166 : vCV RL 166 RX6 yX6_rest cX6_rest 4 (some .int) 2 := ⟨wd 851 (by decide +kernel) (by decide +kernel), wd 852 (by decide +kernel) (by decide +kernel), wd 853 (by decide +kernel) (by decide +kernel), wd 854 (by decide +kernel) (by decide +kernel), wd 60 (by decide +kernel) (by decide +kernel), (by decide +kernel), by decide⟩
theorem cv_L_169 : vCV RL 169 RX7 yX7_rest cX7_rest 3 (some .int) 2 := ⟨wd 1340 (by decide +kernel) (by decide +kernel), wd 1341 (by decide +kernel) (by decide +kernel), wd 1342 (by decide +kernel) (by decide +kernel), wd 1343 (by decide +kernel) (by decide +kernel), wd 66 (by decide +kernel) (by decide +kernel), (by decide +kernel), by decide⟩
theorem cv_L_170 : vCV RL 170 RX6 yX6_tell cX6_tell 2 (some .int) 1 := ⟨wd 856 (by decide +kernel) (by decide +kernel), wd 857 (by decide +kernel) (by decide +kernel), wd 858 (by decide +kernel) (by decide +kernel), wd 859 (by decide +kernel) (by decide +kernel), wd 60 (by decide +kernel) (by decide +kernel), (by decide +kernel), by decide⟩
theorem cv_L_173 : vCV RL 173 RX7 yX7_tell cX7_tell 2 (some .int) 1 := ⟨wd 1345 (by decide +kernel) (by decide +kernel), wd 1346 (by decide +kernel) (by decide +kernel), wd 1347 (by decide +kernel) (by decide +kernel), wd 1348 (by decide +kernel) (by decide +kernel), wd 66 (by decide +kernel) (by decide +kernel), (by decide +kernel), by decide⟩
theorem cv_L_174 : vCV RL 174 RX6 yX6_check cX6_check 5 (some .int) 1 := ⟨wd 860 (by decide +kernel) (by decide +kernel), wd 861 (by decide +kernel) (by decide +kernel), wd 862 (by decide +kernel) (by decide +kernel), wd 863 (by decide +kernel) (by decide +kernel), wd 60 (by decide +kernel) (by decide +kernel), (by decide +kernel), by decide⟩
theorem cv_L_177 : vCV RL 177 RX7 yX7_check cX7_check 6 (some .int) 1 := ⟨wd 1349 (by decide +kernel) (by decide +kernel), wd 1350 (by decide +kernel) (by decide +kernel), wd 1351 (by decide +kernel) (by decide +kernel), wd 1352 (by decide +kernel) (by decide +kernel), wd 66 (by decide +kernel) (by decide +kernel), (by decide +kernel), by decide⟩
theorem cv_L_178 : vCV RL 178 RX6 yX6_keep cX6_keep 1 (some .int) 0 := ⟨wd 868 (by decide +kernel) (by decide +kernel), wd 869 (by decide +kernel) (by decide +kernel), wd 870 (by decide +kernel) (by decide +kernel), wd 871 (by decide +kernel) (by decide +kernel), wd 60 (by decide +kernel) (by decide +kernel), (by decide +kernel), by decide⟩
theorem cv_L_181 : vCV RL 181 RX7 yX7_keep cX7_keep 1 (some .int) 0 := ⟨wd 1356 (by decide +kernel) (by decide +kernel), wd 1357 (by decide +kernel) (by decide +kernel), wd 1358 (by decide +kernel) (by decide +kernel), wd 1359 (by decide +kernel) (by decide +kernel), wd 66 (by decide +kernel) (by decide +kernel), (by decide +kernel), by decide⟩
theorem cv_L_182 : vCV RL 182 RX6 yX6_back cX6_back 1 (some .int) 0 := ⟨wd 872 (by decide +kernel) (by decide +kernel), wd 873 (by decide +kernel) (by decide +kernel), wd 874 (by decide +kernel) (by decide +kernel), wd 875 (by decide +kernel) (by decide +kernel), wd 60 (by decide +kernel) (by decide +kernel), (by decide +kernel), by decide⟩
theorem cv_L_185 : vCV RL 185 RX7 yX7_back cX7_back 1 (some .int) 0 := ⟨wd 1360 (by decide +kernel) (by decide +kernel), wd 1361 (by decide +kernel) (by decide +kernel), wd 1362 (by decide +kernel) (by decide +kernel), wd 1363 (by decide +kernel) (by decide +kernel), wd 66 (by decide +kernel) (by decide +kernel), (by decide +kernel), by decide⟩
theorem cv_L_186 : vCV RL 186 RX6 yX6_count cX6_count 2 (some .int) 1 := ⟨wd 876 (by decide +kernel) (by decide +kernel), wd 877 (by decide +kernel) (by decide +kernel), wd 878 (by decide +kernel) (by decide +kernel), wd 879 (by decide +kernel) (by decide +kernel), wd 60 (by decide +kernel) (by decide +kernel), (by decide +kernel), by decide⟩
theorem cv_L_189 : vCV RL 189 RX7 yX7_count cX7_count 2 (some .int) 1 := ⟨wd 1364 (by decide +kernel) (by decide +kernel), wd 1365 (by decide +kernel) (by decide +kernel), wd 1366 (by decide +kernel) (by decide +kernel), wd 1367 (by decide +kernel) (by decide +kernel), wd 66 (by decide +kernel) (by decide +kernel), (by decide +kernel), by decide⟩
theorem fl_X7_9 : vFL RX7 9 6 0 := ⟨RX7, TX7, 35, rfl, by decide, uw_6, wd 890 (by decide +kernel) (by decide +kernel)⟩
theorem fl_X7_13 : vFL RX7 13 6 1 := ⟨RX7, TX7, 35, rfl, by decide, uw_6, wd 891 (by decide +kernel) (by decide +kernel)⟩
theorem fl_X7_16 : vFL RX7 16 6 2 := ⟨RX7, TX7, 35, rfl, by decide, uw_6, wd 892 (by decide +kernel) (by decide +kernel)⟩
theorem fl_X7_19 : vFL RX7 19 6 4 := ⟨RX7, TX7, 35, rfl, by decide, uw_6, wd 894 (by decide +kernel) (by decide +kernel)⟩
theorem fl_X7_22 : vFL RX7 22 6 5 := ⟨RX7, TX7, 35, rfl, by decide, uw_6, wd 895 (by decide +kernel) (by decide +kernel)⟩
theorem fl_X7_25 : vFL RX7 25 6 6 := ⟨RX7, TX7, 35, rfl, by decide, uw_6, wd 896 (by decide +kernel) (by decide +kernel)⟩
theorem fl_X7_28 : vFL RX7 28 6 7 := ⟨RX7, TX7, 35, rfl, by decide, uw_6, wd 897 (by decide +kernel) (by decide +kernel)⟩
theorem fl_X7_31 : vFL RX7 31 6 15 := ⟨RX7, TX7, 35, rfl, by decide, uw_6, wd 905 (by decide +kernel) (by decide +kernel)⟩
theorem fl_X7_35 : vFL RX7 35 6 16 := ⟨RX7, TX7, 35, rfl, by decide, uw_6, wd 906 (by decide +kernel) (by decide +kernel)⟩
theorem fl_X7_38 : vFL RX7 38 6 17 := ⟨RX7, TX7, 35, rfl, by decide, uw_6, wd 907 (by decide +kernel) (by decide +kernel)⟩
theorem fl_X7_41 : vFL RX7 41 6 20 := ⟨RX7, TX7, 35, rfl, by decide, uw_6, wd 910 (by decide +kernel) (by decide +kernel)⟩
theorem fl_X7_44 : vFL RX7 44 6 22 := ⟨RX7, TX7, 35, rfl, by decide, uw_6, wd 912 (by decide +kernel) (by decide +kernel)⟩
theorem fl_X7_48 : vFL RX7 48 6 23 := ⟨RX7, TX7, 35, rfl, by decide, uw_6, wd 913 (by decide +kernel) (by decide +kernel)⟩
theorem fl_X7_51 : vFL RX7 51 6 24 := ⟨RX7, TX7, 35, rfl, by decide, uw_6, wd 914 (by decide +kernel) (by decide +kernel)⟩
theorem fl_X7_54 : vFL RX7 54 6 25 := ⟨RX7, TX7, 35, rfl, by decide, uw_6, wd 915 (by decide +kernel) (by decide +kernel)⟩
theorem fl_X7_57 : vFL RX7 57 6 26 := ⟨RX7, TX7, 35, rfl, by decide, uw_6, wd 916 (by decide +kernel) (by decide +kernel)⟩
theorem fl_X7_60 : vFL RX7 60 6 27 := ⟨RX7, TX7, 35, rfl, by decide, uw_6, wd 917 (by decide +kernel) (by decide +kernel)⟩
theorem fl_X7_63 : vFL RX7 63 6 28 := ⟨RX7, TX7, 35, rfl, by decide, uw_6, wd 918 (by decide +kernel) (by decide +kernel)⟩
theorem fl_X7_66 : vFL RX7 66 6 29 := ⟨RX7, TX7, 35, rfl, by decide, uw_6, wd 919 (by decide +kernel) (by decide +kernel)⟩
theorem fl_X7_69 : vFL RX7 69 6 30 := ⟨RX7, TX7, 35, rfl, by decide, uw_6, wd 920 (by decide +kernel) (by decide +kernel)⟩
theorem fl_X7_72 : vFL RX7 72 6 31 := ⟨RX7, TX7, 35, rfl, by decide, uw_6, wd 921 (by decide +kernel) (by decide +kernel)⟩
theorem fl_X7_75 : vFL RX7 75 6 32 := ⟨RX7, TX7, 35, rfl, by decide, uw_6, wd 922 (by decide +kernel) (by decide +kernel)⟩
theorem fl_X7_78 : vFL RX7 78 6 33 := ⟨RX7, TX7, 35, rfl, by decide, uw_6, wd 923 (by decide +kernel) (by decide +kernel)⟩
theorem fl_X7_203 : vFL RX7 203 6 8 := ⟨RX7, TX7, 35, rfl, by decide, uw_6, wd 898 (by decide +kernel) (by decide +kernel)⟩
theorem fl_X7_207 : vFL RX7 207 6 9 := ⟨RX7, TX7, 35, rfl, by decide, uw_6, wd 899 (by decide +kernel) (by decide +kernel)⟩
theorem fl_X7_210 : vFL RX7 210 6 10 := ⟨RX7, TX7, 35, rfl, by decide, uw_6, wd 900 (by decide +kernel) (by decide +kernel)⟩
theorem fl_X7_213 : vFL RX7 213 6 13 := ⟨RX7, TX7, 35, rfl, by decide, uw_6, wd 903 (by decide +kernel) (by decide +kernel)⟩
theorem fl_X7_216 : vFL RX7 216 6 11 := ⟨RX7, TX7, 35, rfl, by decide, uw_6, wd 901 (by decide +kernel) (by decide +kernel)⟩
theorem fl_X7_222 : vFL RX7 222 6 12 := ⟨RX7, TX7, 35, rfl, by decide, uw_6, wd 902 (by decide +kernel) (by decide +kernel)⟩
theorem fl_X7_228 : vFL RX7 228 6 14 := ⟨RX7, TX7, 35, rfl, by decide, uw_6, wd 904 (by decide +kernel) (by decide +kernel)⟩
theorem fl_X7_234 : vFL RX7 234 6 21 := ⟨RX7, TX7, 35, rfl, by decide, uw_6, wd 911 (by decide +kernel) (by decide +kernel)⟩
theorem fl_X7_240 : vFL RX7 240 6 18 := ⟨RX7, TX7, 35, rfl, by decide, uw_6, wd 908 (by decide +kernel) (by decide +kernel)⟩
theorem fl_X7_246 : vFL RX7 246 6 19 := ⟨RX7, TX7, 35, rfl, by decide, uw_6, wd 909 (by decide +kernel) (by decide +kernel)⟩
theorem fl_X7_279 : vFL RX7 279 6 34 := ⟨RX7, TX7, 35, rfl, by decide, uw_6, wd 924 (by decide +kernel) (by decide +kernel)⟩
theorem fl_X7_282 : vFL RX7 282 6 3 := ⟨RX7, TX7, 35, rfl, by decide, uw_6, wd 893 (by decide +kernel) (by decide +kernel)⟩
theorem cs_X7_82 : vCS RX7 82 yX7_in cX7_in 3 (some .boolean) 3 := ⟨wd 1002 (by decide +kernel) (by decide +kernel), wd 1003 (by decide +kernel) (by decide +kernel), wd 1004 (by decide +kernel) (by decide +kernel), wd 66 (by decide +kernel) (by decide +kernel), (by decide +kernel), by decide⟩
theorem cs_X7_103 : vCS RX7 103 yX7_within cX7_within 3 (some .int) 3 := ⟨wd 1035 (by decide +kernel) (by decide +kernel), wd 1036 (by decide +kernel) (by decide +kernel), wd 1037 (by decide +kernel) (by decide +kernel), wd 66 (by decide +kernel) (by decide +kernel), (by decide +kernel), by decide⟩
theorem cs_X7_128 : vCS RX7 128 yX7_isUnder cX7_isUnder 2 (some .boolean) 2 := ⟨wd 1069 (by decide +kernel) (by decide +kernel), wd 1070 (by decide +kernel) (by decide +kernel), wd 1071 (by decide +kernel) (by decide +kernel), wd 66 (by decide +kernel) (by decide +kernel), (by decide +kernel), by decide⟩
theorem cs_X7_192 : vCS RX7 192 yX7_isSheet cX7_isSheet 1 (some .boolean) 1 := ⟨wd 1219 (by decide +kernel) (by decide +kernel), wd 1220 (by decide +kernel) (by decide +kernel), wd 1221 (by decide +kernel) (by decide +kernel), wd 66 (by decide +kernel) (by decide +kernel), (by decide +kernel), by decide⟩
theorem cs_X7_200 : vCS RX7 200 yX7_told0 cX7_told0 1 (some .int) 1 := ⟨wd 1227 (by decide +kernel) (by decide +kernel), wd 1228 (by decide +kernel) (by decide +kernel), wd 1229 (by decide +kernel) (by decide +kernel), wd 66 (by decide +kernel) (by decide +kernel), (by decide +kernel), by decide⟩
theorem cs_X7_237 : vCS RX7 237 yX7_rank cX7_rank 1 (some .int) 1 := ⟨wd 1282 (by decide +kernel) (by decide +kernel), wd 1283 (by decide +kernel) (by decide +kernel), wd 1284 (by decide +kernel) (by decide +kernel), wd 66 (by decide +kernel) (by decide +kernel), (by decide +kernel), by decide⟩
theorem cs_X7_268 : vCS RX7 268 yX7_two cX7_two 3 (some .int) 3 := ⟨wd 1042 (by decide +kernel) (by decide +kernel), wd 1043 (by decide +kernel) (by decide +kernel), wd 1044 (by decide +kernel) (by decide +kernel), wd 66 (by decide +kernel) (by decide +kernel), (by decide +kernel), by decide⟩
theorem cs_X7_275 : vCS RX7 275 yX7_isSlot cX7_isSlot 1 (some .boolean) 1 := ⟨wd 1329 (by decide +kernel) (by decide +kernel), wd 1330 (by decide +kernel) (by decide +kernel), wd 1331 (by decide +kernel) (by decide +kernel), wd 66 (by decide +kernel) (by decide +kernel), (by decide +kernel), by decide⟩
theorem cs_X7_286 : vCS RX7 286 yX7_copyAll cX7_copyAll 3 none 2 := ⟨wd 1353 (by decide +kernel) (by decide +kernel), wd 1354 (by decide +kernel) (by decide +kernel), wd 1355 (by decide +kernel) (by decide +kernel), wd 66 (by decide +kernel) (by decide +kernel), (by decide +kernel), by decide⟩
theorem cv_X7_88 : vCV RX7 88 RX7 yX7_comes cX7_comes 7 (some .int) 3 := ⟨wd 1007 (by decide +kernel) (by decide +kernel), wd 1009 (by decide +kernel) (by decide +kernel), wd 18 (by decide +kernel) (by decide +kernel), wd 1010 (by decide +kernel) (by decide +kernel), wd 66 (by decide +kernel) (by decide +kernel), (by decide +kernel), by decide⟩
theorem cv_X7_92 : vCV RX7 92 RX7 yX7_of cX7_of 3 (some .int) 2 := ⟨wd 1019 (by decide +kernel) (by decide +kernel), wd 1021 (by decide +kernel) (by decide +kernel), wd 20 (by decide +kernel) (by decide +kernel), wd 1022 (by decide +kernel) (by decide +kernel), wd 66 (by decide +kernel) (by decide +kernel), (by decide +kernel), by decide⟩
theorem cv_X7_96 : vCV RX7 96 RX7 yX7_fullOf cX7_fullOf 2 (some .int) 1 := ⟨wd 1023 (by decide +kernel) (by decide +kernel), wd 1025 (by decide +kernel) (by decide +kernel), wd 21 (by decide +kernel) (by decide +kernel), wd 1026 (by decide +kernel) (by decide +kernel), wd 66 (by decide +kernel) (by decide +kernel), (by decide +kernel), by decide⟩
theorem cv_X7_100 : vCV RX7 100 RX7 yX7_counts cX7_counts 3 (some .int) 1 := ⟨wd 1031 (by decide +kernel) (by decide +kernel), wd 1033 (by decide +kernel) (by decide +kernel), wd 23 (by decide +kernel) (by decide +kernel), wd 1034 (by decide +kernel) (by decide +kernel), wd 66 (by decide +kernel) (by decide +kernel), (by decide +kernel), by decide⟩
theorem cv_X7_106 : vCV RX7 106 RX7 yX7_worksOut cX7_worksOut 6 (some .int) 1 := ⟨wd 1038 (by decide +kernel) (by decide +kernel), wd 1040 (by decide +kernel) (by decide +kernel), wd 24 (by decide +kernel) (by decide +kernel), wd 1041 (by decide +kernel) (by decide +kernel), wd 66 (by decide +kernel) (by decide +kernel), (by decide +kernel), by decide⟩
theorem cv_X7_109 : vCV RX7 109 RX7 yX7_highOf cX7_highOf 5 (some .int) 1 := ⟨wd 1027 (by decide +kernel) (by decide +kernel), wd 1029 (by decide +kernel) (by decide +kernel), wd 22 (by decide +kernel) (by decide +kernel), wd 1030 (by decide +kernel) (by decide +kernel), wd 66 (by decide +kernel) (by decide +kernel), (by decide +kernel), by decide⟩
theorem cv_X7_112 : vCV RX7 112 RX7 yX7_isCellar cX7_isCellar 2 (some .boolean) 1 := ⟨wd 1015 (by decide +kernel) (by decide +kernel), wd 1017 (by decide +kernel) (by decide +kernel), wd 19 (by decide +kernel) (by decide +kernel), wd 1018 (by decide +kernel) (by decide +kernel), wd 66 (by decide +kernel) (by decide +kernel), (by decide +kernel), by decide⟩
theorem cv_X7_116 : vCV RX7 116 RX7 yX7_levelOf cX7_levelOf 2 (some .int) 1 := ⟨wd 1045 (by decide +kernel) (by decide +kernel), wd 1047 (by decide +kernel) (by decide +kernel), wd 25 (by decide +kernel) (by decide +kernel), wd 1048 (by decide +kernel) (by decide +kernel), wd 66 (by decide +kernel) (by decide +kernel), (by decide +kernel), by decide⟩
theorem cv_X7_119 : vCV RX7 119 RX7 yX7_losesOf cX7_losesOf 3 (some .int) 1 := ⟨wd 1049 (by decide +kernel) (by decide +kernel), wd 1051 (by decide +kernel) (by decide +kernel), wd 26 (by decide +kernel) (by decide +kernel), wd 1052 (by decide +kernel) (by decide +kernel), wd 66 (by decide +kernel) (by decide +kernel), (by decide +kernel), by decide⟩
theorem cv_X7_122 : vCV RX7 122 RX7 yX7_worthOf cX7_worthOf 3 (some .int) 1 := ⟨wd 1053 (by decide +kernel) (by decide +kernel), wd 1055 (by decide +kernel) (by decide +kernel), wd 27 (by decide +kernel) (by decide +kernel), wd 1056 (by decide +kernel) (by decide +kernel), wd 66 (by decide +kernel) (by decide +kernel), (by decide +kernel), by decide⟩
theorem cv_X7_125 : vCV RX7 125 RX7 yX7_takesIn cX7_takesIn 3 (some .int) 2 := ⟨wd 1061 (by decide +kernel) (by decide +kernel), wd 1063 (by decide +kernel) (by decide +kernel), wd 28 (by decide +kernel) (by decide +kernel), wd 1064 (by decide +kernel) (by decide +kernel), wd 66 (by decide +kernel) (by decide +kernel), (by decide +kernel), by decide⟩
theorem cv_X7_133 : vCV RX7 133 RX7 yX7_becomes cX7_becomes 4 (some .int) 2 := ⟨wd 1077 (by decide +kernel) (by decide +kernel), wd 1079 (by decide +kernel) (by decide +kernel), wd 29 (by decide +kernel) (by decide +kernel), wd 1080 (by decide +kernel) (by decide +kernel), wd 66 (by decide +kernel) (by decide +kernel), (by decide +kernel), by decide⟩
theorem cv_X7_136 : vCV RX7 136 RX7 yX7_lays cX7_lays 6 none 4 := ⟨wd 1089 (by decide +kernel) (by decide +kernel), wd 1091 (by decide +kernel) (by decide +kernel), wd 30 (by decide +kernel) (by decide +kernel), wd 1092 (by decide +kernel) (by decide +kernel), wd 66 (by decide +kernel) (by decide +kernel), (by decide +kernel), by decide⟩
theorem cv_X7_140 : vCV RX7 140 RX7 yX7_at cX7_at 3 (some .int) 2 := ⟨wd 1105 (by decide +kernel) (by decide +kernel), wd 1107 (by decide +kernel) (by decide +kernel), wd 33 (by decide +kernel) (by decide +kernel), wd 1108 (by decide +kernel) (by decide +kernel), wd 66 (by decide +kernel) (by decide +kernel), (by decide +kernel), by decide⟩
theorem cv_X7_143 : vCV RX7 143 RX7 yX7_higher cX7_higher 2 (some .int) 1 := ⟨wd 1109 (by decide +kernel) (by decide +kernel), wd 1111 (by decide +kernel) (by decide +kernel), wd 34 (by decide +kernel) (by decide +kernel), wd 1112 (by decide +kernel) (by decide +kernel), wd 66 (by decide +kernel) (by decide +kernel), (by decide +kernel), by decide⟩
theorem cv_X7_146 : vCV RX7 146 RX7 yX7_isPipe cX7_isPipe 2 (some .boolean) 1 := ⟨wd 1097 (by decide +kernel) (by decide +kernel), wd 1099 (by decide +kernel) (by decide +kernel), wd 31 (by decide +kernel) (by decide +kernel), wd 1100 (by decide +kernel) (by decide +kernel), wd 66 (by decide +kernel) (by decide +kernel), (by decide +kernel), by decide⟩
theorem cv_X7_149 : vCV RX7 149 RX7 yX7_runsIn cX7_runsIn 5 (some .int) 1 := ⟨wd 1101 (by decide +kernel) (by decide +kernel), wd 1103 (by decide +kernel) (by decide +kernel), wd 32 (by decide +kernel) (by decide +kernel), wd 1104 (by decide +kernel) (by decide +kernel), wd 66 (by decide +kernel) (by decide +kernel), (by decide +kernel), by decide⟩
theorem cv_X7_153 : vCV RX7 153 RX7 yX7_draw cX7_draw 1 (some .int) 0 := ⟨wd 1125 (by decide +kernel) (by decide +kernel), wd 1127 (by decide +kernel) (by decide +kernel), wd 35 (by decide +kernel) (by decide +kernel), wd 1128 (by decide +kernel) (by decide +kernel), wd 66 (by decide +kernel) (by decide +kernel), (by decide +kernel), by decide⟩
theorem cv_X7_157 : vCV RX7 157 RX7 yX7_drains cX7_drains 8 none 2 := ⟨wd 1150 (by decide +kernel) (by decide +kernel), wd 1152 (by decide +kernel) (by decide +kernel), wd 39 (by decide +kernel) (by decide +kernel), wd 1153 (by decide +kernel) (by decide +kernel), wd 66 (by decide +kernel) (by decide +kernel), (by decide +kernel), by decide⟩
theorem cv_X7_161 : vCV RX7 161 RX7 yX7_flows cX7_flows 6 none 1 := ⟨wd 1146 (by decide +kernel) (by decide +kernel), wd 1148 (by decide +kernel) (by decide +kernel), wd 38 (by decide +kernel) (by decide +kernel), wd 1149 (by decide +kernel) (by decide +kernel), wd 66 (by decide +kernel) (by decide +kernel), (by decide +kernel), by decide⟩
theorem cv_X7_165 : vCV RX7 165 RX7 yX7_spills cX7_spills 3 none 2 := ⟨wd 1154 (by decide +kernel) (by decide +kernel), wd 1156 (by decide +kernel) (by decide +kernel), wd 40 (by decide +kernel) (by decide +kernel), wd 1157 (by decide +kernel) (by decide +kernel), wd 66 (by decide +kernel) (by decide +kernel), (by decide +kernel), by decide⟩
theorem cv_X7_168 : vCV RX7 168 RX7 yX7_hour cX7_hour 3 none 0 := ⟨wd 1142 (by decide +kernel) (by decide +kernel), wd 1144 (by decide +kernel) (by decide +kernel), wd 37 (by decide +kernel) (by decide +kernel), wd 1145 (by decide +kernel) (by decide +kernel), wd 66 (by decide +kernel) (by decide +kernel), (by decide +kernel), by decide⟩
theorem cv_X7_171 : vCV RX7 171 RX7 yX7_goesOn cX7_goesOn 3 none 1 := ⟨wd 1138 (by decide +kernel) (by decide +kernel), wd 1140 (by decide +kernel) (by decide +kernel), wd 36 (by decide +kernel) (by decide +kernel), wd 1141 (by decide +kernel) (by decide +kernel), wd 66 (by decide +kernel) (by decide +kernel), (by decide +kernel), by decide⟩
theorem cv_X7_174 : vCV RX7 174 RX7 yX7_fullOfAll cX7_fullOfAll 3 (some .int) 0 := ⟨wd 1162 (by decide +kernel) (by decide +kernel), wd 1164 (by decide +kernel) (by decide +kernel), wd 41 (by decide +kernel) (by decide +kernel), wd 1165 (by decide +kernel) (by decide +kernel), wd 66 (by decide +kernel) (by decide +kernel), (by decide +kernel), by decide⟩
theorem cv_X7_177 : vCV RX7 177 RX7 yX7_running cX7_running 3 (some .int) 0 := ⟨wd 1166 (by decide +kernel) (by decide +kernel), wd 1168 (by decide +kernel) (by decide +kernel), wd 42 (by decide +kernel) (by decide +kernel), wd 1169 (by decide +kernel) (by decide +kernel), wd 66 (by decide +kernel) (by decide +kernel), (by decide +kernel), by decide⟩
theorem cv_X7_180 : vCV RX7 180 RX7 yX7_thinks cX7_thinks 2 none 0 := ⟨wd 1174 (by decide +kernel) (by decide +kernel), wd 1176 (by decide +kernel) (by decide +kernel), wd 43 (by decide +kernel) (by decide +kernel), wd 1177 (by decide +kernel) (by decide +kernel), wd 66 (by decide +kernel) (by decide +kernel), (by decide +kernel), by decide⟩
theorem cv_X7_183 : vCV RX7 183 RX7 yX7_putsBack cX7_putsBack 2 none 0 := ⟨wd 1178 (by decide +kernel) (by decide +kernel), wd 1180 (by decide +kernel) (by decide +kernel), wd 44 (by decide +kernel) (by decide +kernel), wd 1181 (by decide +kernel) (by decide +kernel), wd 66 (by decide +kernel) (by decide +kernel), (by decide +kernel), by decide⟩
theorem cv_X7_186 : vCV RX7 186 RX7 yX7_areJoined cX7_areJoined 5 (some .boolean) 2 := ⟨wd 1199 (by decide +kernel) (by decide +kernel), wd 1201 (by decide +kernel) (by decide +kernel), wd 45 (by decide +kernel) (by decide +kernel), wd 1202 (by decide +kernel) (by decide +kernel), wd 66 (by decide +kernel) (by decide +kernel), (by decide +kernel), by decide⟩
theorem cv_X7_189 : vCV RX7 189 RX7 yX7_othersBehind cX7_othersBehind 4 (some .int) 2 := ⟨wd 1211 (by decide +kernel) (by decide +kernel), wd 1213 (by decide +kernel) (by decide +kernel), wd 46 (by decide +kernel) (by decide +kernel), wd 1214 (by decide +kernel) (by decide +kernel), wd 66 (by decide +kernel) (by decide +kernel), (by decide +kernel), by decide⟩
theorem cv_X7_196 : vCV RX7 196 RX7 yX7_offBy cX7_offBy 9 (some .long) 2 := ⟨wd 1223 (by decide +kernel) (by decide +kernel), wd 1225 (by decide +kernel) (by decide +kernel), wd 47 (by decide +kernel) (by decide +kernel), wd 1226 (by decide +kernel) (by decide +kernel), wd 66 (by decide +kernel) (by decide +kernel), (by decide +kernel), by decide⟩
theorem cv_X7_219 : vCV RX7 219 RX7 yX7_isLetter cX7_isLetter 2 (some .boolean) 1 := ⟨wd 1254 (by decide +kernel) (by decide +kernel), wd 1256 (by decide +kernel) (by decide +kernel), wd 49 (by decide +kernel) (by decide +kernel), wd 1257 (by decide +kernel) (by decide +kernel), wd 66 (by decide +kernel) (by decide +kernel), (by decide +kernel), by decide⟩
theorem cv_X7_225 : vCV RX7 225 RX7 yX7_isFigure cX7_isFigure 2 (some .boolean) 1 := ⟨wd 1258 (by decide +kernel) (by decide +kernel), wd 1260 (by decide +kernel) (by decide +kernel), wd 50 (by decide +kernel) (by decide +kernel), wd 1261 (by decide +kernel) (by decide +kernel), wd 66 (by decide +kernel) (by decide +kernel), (by decide +kernel), by decide⟩
theorem cv_X7_231 : vCV RX7 231 RX7 yX7_go cX7_go 2 none 0 := ⟨wd 1250 (by decide +kernel) (by decide +kernel), wd 1252 (by decide +kernel) (by decide +kernel), wd 48 (by decide +kernel) (by decide +kernel), wd 1253 (by decide +kernel) (by decide +kernel), wd 66 (by decide +kernel) (by decide +kernel), (by decide +kernel), by decide⟩
theorem cv_X7_243 : vCV RX7 243 RX7 yX7_nameOf cX7_nameOf 2 (some .int) 1 := ⟨wd 1274 (by decide +kernel) (by decide +kernel), wd 1276 (by decide +kernel) (by decide +kernel), wd 54 (by decide +kernel) (by decide +kernel), wd 1277 (by decide +kernel) (by decide +kernel), wd 66 (by decide +kernel) (by decide +kernel), (by decide +kernel), by decide⟩
theorem cv_X7_249 : vCV RX7 249 RX7 yX7_settle cX7_settle 2 none 1 := ⟨wd 1278 (by decide +kernel) (by decide +kernel), wd 1280 (by decide +kernel) (by decide +kernel), wd 55 (by decide +kernel) (by decide +kernel), wd 1281 (by decide +kernel) (by decide +kernel), wd 66 (by decide +kernel) (by decide +kernel), (by decide +kernel), by decide⟩
theorem cv_X7_252 : vCV RX7 252 RX7 yX7_takesPart cX7_takesPart 2 (some .boolean) 0 := ⟨wd 1270 (by decide +kernel) (by decide +kernel), wd 1272 (by decide +kernel) (by decide +kernel), wd 53 (by decide +kernel) (by decide +kernel), wd 1273 (by decide +kernel) (by decide +kernel), wd 66 (by decide +kernel) (by decide +kernel), (by decide +kernel), by decide⟩
theorem cv_X7_256 : vCV RX7 256 RX7 yX7_notsOpen cX7_notsOpen 3 (some .int) 0 := ⟨wd 1285 (by decide +kernel) (by decide +kernel), wd 1287 (by decide +kernel) (by decide +kernel), wd 56 (by decide +kernel) (by decide +kernel), wd 1288 (by decide +kernel) (by decide +kernel), wd 66 (by decide +kernel) (by decide +kernel), (by decide +kernel), by decide⟩
theorem cv_X7_259 : vCV RX7 259 RX7 yX7_signHere cX7_signHere 1 (some .int) 0 := ⟨wd 1289 (by decide +kernel) (by decide +kernel), wd 1291 (by decide +kernel) (by decide +kernel), wd 57 (by decide +kernel) (by decide +kernel), wd 1292 (by decide +kernel) (by decide +kernel), wd 66 (by decide +kernel) (by decide +kernel), (by decide +kernel), by decide⟩
theorem cv_X7_262 : vCV RX7 262 RX7 yX7_takesKey cX7_takesKey 5 (some .boolean) 0 := ⟨wd 1262 (by decide +kernel) (by decide +kernel), wd 1264 (by decide +kernel) (by decide +kernel), wd 51 (by decide +kernel) (by decide +kernel), wd 1265 (by decide +kernel) (by decide +kernel), wd 66 (by decide +kernel) (by decide +kernel), (by decide +kernel), by decide⟩
theorem cv_X7_265 : vCV RX7 265 RX7 yX7_takesE cX7_takesE 5 (some .boolean) 0 := ⟨wd 1266 (by decide +kernel) (by decide +kernel), wd 1268 (by decide +kernel) (by decide +kernel), wd 52 (by decide +kernel) (by decide +kernel), wd 1269 (by decide +kernel) (by decide +kernel), wd 66 (by decide +kernel) (by decide +kernel), (by decide +kernel), by decide⟩
theorem cv_X7_290 : vCV RX7 290 RX7 yX7_corked cX7_corked 3 (some .int) 0 := ⟨wd 1368 (by decide +kernel) (by decide +kernel), wd 1370 (by decide +kernel) (by decide +kernel), wd 58 (by decide +kernel) (by decide +kernel), wd 1371 (by decide +kernel) (by decide +kernel), wd 66 (by decide +kernel) (by decide +kernel), (by decide +kernel), by decide⟩
theorem fp_X7_203 : vFP RX7 203 6 8 .int := ⟨RX7, TX7, 35, tyX7, rfl, by decide, uw_6, wd 898 (by decide +kernel) (by decide +kernel), tyX7_ok, nmX7, rfl, rfl⟩
theorem fp_X7_207 : vFP RX7 207 6 9 .int := ⟨RX7, TX7, 35, tyX7, rfl, by decide, uw_6, wd 899 (by decide +kernel) (by decide +kernel), tyX7_ok, nmX7, rfl, rfl⟩
theorem fp_X7_210 : vFP RX7 210 6 10 .int := ⟨RX7, TX7, 35, tyX7, rfl, by decide, uw_6, wd 900 (by decide +kernel) (by decide +kernel), tyX7_ok, nmX7, rfl, rfl⟩
theorem fp_X7_213 : vFP RX7 213 6 13 .int := ⟨RX7, TX7, 35, tyX7, rfl, by decide, uw_6, wd 903 (by decide +kernel) (by decide +kernel), tyX7_ok, nmX7, rfl, rfl⟩
theorem fp_X7_216 : vFP RX7 216 6 11 .int := ⟨RX7, TX7, 35, tyX7, rfl, by decide, uw_6, wd 901 (by decide +kernel) (by decide +kernel), tyX7_ok, nmX7, rfl, rfl⟩
theorem fp_X7_222 : vFP RX7 222 6 12 .int := ⟨RX7, TX7, 35, tyX7, rfl, by decide, uw_6, wd 902 (by decide +kernel) (by decide +kernel), tyX7_ok, nmX7, rfl, rfl⟩
theorem fp_X7_228 : vFP RX7 228 6 14 .int := ⟨RX7, TX7, 35, tyX7, rfl, by decide, uw_6, wd 904 (by decide +kernel) (by decide +kernel), tyX7_ok, nmX7, rfl, rfl⟩
theorem fp_X7_234 : vFP RX7 234 6 21 .int := ⟨RX7, TX7, 35, tyX7, rfl, by decide, uw_6, wd 911 (by decide +kernel) (by decide +kernel), tyX7_ok, nmX7, rfl, rfl⟩
theorem fp_X7_240 : vFP RX7 240 6 18 .int := ⟨RX7, TX7, 35, tyX7, rfl, by decide, uw_6, wd 908 (by decide +kernel) (by decide +kernel), tyX7_ok, nmX7, rfl, rfl⟩
theorem fp_X7_246 : vFP RX7 246 6 19 .int := ⟨RX7, TX7, 35, tyX7, rfl, by decide, uw_6, wd 909 (by decide +kernel) (by decide +kernel), tyX7_ok, nmX7, rfl, rfl⟩
theorem fp_X7_279 : vFP RX7 279 6 34 .int := ⟨RX7, TX7, 35, tyX7, rfl, by decide, uw_6, wd 924 (by decide +kernel) (by decide +kernel), tyX7_ok, nmX7, rfl, rfl⟩
theorem fp_X7_282 : vFP RX7 282 6 3 .boolean := ⟨RX7, TX7, 35, tyX7, rfl, by decide, uw_6, wd 893 (by decide +kernel) (by decide +kernel), tyX7_ok, nmX7, rfl, rfl⟩
theorem cs_J0_495 : vCS RJ0 495 yJ1_charAt_3b067 cJ1_charAt_3b067 2 (some .char) 2 := ⟨wd 646 (by decide +kernel) (by decide +kernel), wd 647 (by decide +kernel) (by decide +kernel), wd 648 (by decide +kernel) (by decide +kernel), wd 71 (by decide +kernel) (by decide +kernel), (by decide +kernel), by decide⟩
theorem cs_J0_498 : vCS RJ0 498 yJ2_charAt_3b067 cJ2_charAt_3b067 2 (some .char) 2 := ⟨wd 657 (by decide +kernel) (by decide +kernel), wd 658 (by decide +kernel) (by decide +kernel), wd 659 (by decide +kernel) (by decide +kernel), wd 73 (by decide +kernel) (by decide +kernel), (by decide +kernel), by decide⟩
theorem cs_J0_637 : vCS RJ0 637 yJ1_indexOf_4cfef cJ1_indexOf_4cfef 4 (some .int) 4 := ⟨wd 717 (by decide +kernel) (by decide +kernel), wd 718 (by decide +kernel) (by decide +kernel), wd 719 (by decide +kernel) (by decide +kernel), wd 71 (by decide +kernel) (by decide +kernel), (by decide +kernel), by decide⟩
theorem cs_J0_640 : vCS RJ0 640 yJ2_indexOf_4cfef cJ2_indexOf_4cfef 4 (some .int) 4 := ⟨wd 728 (by decide +kernel) (by decide +kernel), wd 729 (by decide +kernel) (by decide +kernel), wd 730 (by decide +kernel) (by decide +kernel), wd 73 (by decide +kernel) (by decide +kernel), (by decide +kernel), by decide⟩
theorem cs_J0_1059 : vCS RJ0 1059 yJ3_checkIndex_8e157 cJ3_checkIndex_8e157 3 (some .int) 3 := ⟨wd 654 (by decide +kernel) (by decide +kernel), wd 655 (by decide +kernel) (by decide +kernel), wd 656 (by decide +kernel) (by decide +kernel), wd 72 (by decide +kernel) (by decide +kernel), (by decide +kernel), by decide⟩
theorem cs_J0_1062 : vCS RJ0 1062 yJ3_checkFromToIndex_8c36e cJ3_checkFromToIndex_8c36e 4 (some .int) 4 := ⟨wd 743 (by decide +kernel) (by decide +kernel), wd 744 (by decide +kernel) (by decide +kernel), wd 745 (by decide +kernel) (by decide +kernel), wd 72 (by decide +kernel) (by decide +kernel), (by decide +kernel), by decide⟩
theorem cv_J0_335 : vCV RJ0 335 RJ0 yJ0_coder_7d493 cJ0_coder_7d493 1 (some .byte) 0 := ⟨wd 632 (by decide +kernel) (by decide +kernel), wd 633 (by decide +kernel) (by decide +kernel), wd 634 (by decide +kernel) (by decide +kernel), wd 635 (by decide +kernel) (by decide +kernel), wd 70 (by decide +kernel) (by decide +kernel), (by decide +kernel), by decide⟩
theorem cv_J0_492 : vCV RJ0 492 RJ0 yJ0_isLatin1_aae02 cJ0_isLatin1_aae02 1 (some .boolean) 0 := ⟨wd 642 (by decide +kernel) (by decide +kernel), wd 643 (by decide +kernel) (by decide +kernel), wd 644 (by decide +kernel) (by decide +kernel), wd 645 (by decide +kernel) (by decide +kernel), wd 70 (by decide +kernel) (by decide +kernel), (by decide +kernel), by decide⟩
theorem cv_J0_505 : vCV RJ0 505 RJ0 yJ0_length_8abf5 cJ0_length_8abf5 1 (some .int) 0 := ⟨wd 716 (by decide +kernel) (by decide +kernel), wd 629 (by decide +kernel) (by decide +kernel), wd 630 (by decide +kernel) (by decide +kernel), wd 631 (by decide +kernel) (by decide +kernel), wd 70 (by decide +kernel) (by decide +kernel), (by decide +kernel), by decide⟩
theorem cv_J0_633 : vCV RJ0 633 RJ0 yJ0_indexOf_7cf53 cJ0_indexOf_7cf53 3 (some .int) 2 := ⟨wd 712 (by decide +kernel) (by decide +kernel), wd 713 (by decide +kernel) (by decide +kernel), wd 714 (by decide +kernel) (by decide +kernel), wd 715 (by decide +kernel) (by decide +kernel), wd 70 (by decide +kernel) (by decide +kernel), (by decide +kernel), by decide⟩
theorem cs_J1_9 : vCS RJ1 9 yJ0_checkIndex_df160 cJ0_checkIndex_df160 2 none 2 := ⟨wd 649 (by decide +kernel) (by decide +kernel), wd 650 (by decide +kernel) (by decide +kernel), wd 651 (by decide +kernel) (by decide +kernel), wd 70 (by decide +kernel) (by decide +kernel), (by decide +kernel), by decide⟩
theorem cs_J1_88 : vCS RJ1 88 yJ1_canEncode_9a6ad cJ1_canEncode_9a6ad 1 (some .boolean) 1 := ⟨wd 720 (by decide +kernel) (by decide +kernel), wd 721 (by decide +kernel) (by decide +kernel), wd 722 (by decide +kernel) (by decide +kernel), wd 71 (by decide +kernel) (by decide +kernel), (by decide +kernel), by decide⟩
theorem cs_J1_95 : vCS RJ1 95 yJ1_indexOfChar_4cfef cJ1_indexOfChar_4cfef 6 (some .int) 4 := ⟨wd 725 (by decide +kernel) (by decide +kernel), wd 726 (by decide +kernel) (by decide +kernel), wd 727 (by decide +kernel) (by decide +kernel), wd 71 (by decide +kernel) (by decide +kernel), (by decide +kernel), by decide⟩
theorem cs_J2_48 : vCS RJ2 48 yJ2_length_9d52b cJ2_length_9d52b 1 (some .int) 1 := ⟨wd 663 (by decide +kernel) (by decide +kernel), wd 664 (by decide +kernel) (by decide +kernel), wd 665 (by decide +kernel) (by decide +kernel), wd 73 (by decide +kernel) (by decide +kernel), (by decide +kernel), by decide⟩
theorem cs_J2_67 : vCS RJ2 67 yJ2_checkIndex_2214a cJ2_checkIndex_2214a 2 none 2 := ⟨wd 660 (by decide +kernel) (by decide +kernel), wd 661 (by decide +kernel) (by decide +kernel), wd 662 (by decide +kernel) (by decide +kernel), wd 73 (by decide +kernel) (by decide +kernel), (by decide +kernel), by decide⟩
theorem cs_J2_71 : vCS RJ2 71 yJ2_getChar_3b067 cJ2_getChar_3b067 2 (some .char) 2 := ⟨wd 667 (by decide +kernel) (by decide +kernel), wd 668 (by decide +kernel) (by decide +kernel), wd 669 (by decide +kernel) (by decide +kernel), wd 73 (by decide +kernel) (by decide +kernel), (by decide +kernel), by decide⟩
theorem cs_J2_96 : vCS RJ2 96 yJ2_checkBoundsBeginEnd_d044e cJ2_checkBoundsBeginEnd_d044e 3 none 3 := ⟨wd 737 (by decide +kernel) (by decide +kernel), wd 738 (by decide +kernel) (by decide +kernel), wd 739 (by decide +kernel) (by decide +kernel), wd 73 (by decide +kernel) (by decide +kernel), (by decide +kernel), by decide⟩
theorem cs_J2_157 : vCS RJ2 157 yJ11_highSurrogate_5068e cJ11_highSurrogate_5068e 1 (some .char) 1 := ⟨wd 755 (by decide +kernel) (by decide +kernel), wd 756 (by decide +kernel) (by decide +kernel), wd 757 (by decide +kernel) (by decide +kernel), wd 74 (by decide +kernel) (by decide +kernel), (by decide +kernel), by decide⟩
theorem cs_J2_161 : vCS RJ2 161 yJ11_lowSurrogate_5068e cJ11_lowSurrogate_5068e 1 (some .char) 1 := ⟨wd 759 (by decide +kernel) (by decide +kernel), wd 760 (by decide +kernel) (by decide +kernel), wd 761 (by decide +kernel) (by decide +kernel), wd 74 (by decide +kernel) (by decide +kernel), (by decide +kernel), by decide⟩
theorem cs_J2_164 : vCS RJ2 164 yJ11_isValidCodePoint_9a6ad cJ11_isValidCodePoint_9a6ad 2 (some .boolean) 1 := ⟨wd 752 (by decide +kernel) (by decide +kernel), wd 753 (by decide +kernel) (by decide +kernel), wd 754 (by decide +kernel) (by decide +kernel), wd 74 (by decide +kernel) (by decide +kernel), (by decide +kernel), by decide⟩
theorem cs_J2_228 : vCS RJ2 228 yJ2_indexOfChar_4cfef cJ2_indexOfChar_4cfef 4 (some .int) 4 := ⟨wd 734 (by decide +kernel) (by decide +kernel), wd 735 (by decide +kernel) (by decide +kernel), wd 736 (by decide +kernel) (by decide +kernel), wd 73 (by decide +kernel) (by decide +kernel), (by decide +kernel), by decide⟩
theorem cs_J2_232 : vCS RJ2 232 yJ2_indexOfSupplementary_4cfef cJ2_indexOfSupplementary_4cfef 7 (some .int) 4 := ⟨wd 749 (by decide +kernel) (by decide +kernel), wd 750 (by decide +kernel) (by decide +kernel), wd 751 (by decide +kernel) (by decide +kernel), wd 73 (by decide +kernel) (by decide +kernel), (by decide +kernel), by decide⟩
theorem cs_J2_241 : vCS RJ2 241 yJ0_checkBoundsBeginEnd_23922 cJ0_checkBoundsBeginEnd_23922 3 none 3 := ⟨wd 740 (by decide +kernel) (by decide +kernel), wd 741 (by decide +kernel) (by decide +kernel), wd 742 (by decide +kernel) (by decide +kernel), wd 70 (by decide +kernel) (by decide +kernel), (by decide +kernel), by decide⟩
theorem cs_J2_244 : vCS RJ2 244 yJ2_indexOfCharUnsafe_4cfef cJ2_indexOfCharUnsafe_4cfef 5 (some .int) 4 := ⟨wd 746 (by decide +kernel) (by decide +kernel), wd 747 (by decide +kernel) (by decide +kernel), wd 748 (by decide +kernel) (by decide +kernel), wd 73 (by decide +kernel) (by decide +kernel), (by decide +kernel), by decide⟩
theorem cs_J2_414 : vCS RJ2 414 yJ0_checkIndex_df160 cJ0_checkIndex_df160 2 none 2 := ⟨wd 666 (by decide +kernel) (by decide +kernel), wd 650 (by decide +kernel) (by decide +kernel), wd 651 (by decide +kernel) (by decide +kernel), wd 70 (by decide +kernel) (by decide +kernel), (by decide +kernel), by decide⟩
theorem ml_X6_153 : Cond.methodLink RX6 153 Lib.Math.min.name ∈ WD := wd 443 (by decide +kernel) (by decide +kernel)
theorem ml_X6_273 : Cond.methodLink RX6 273 Lib.Math.max.name ∈ WD := wd 817 (by decide +kernel) (by decide +kernel)
theorem ml_X6_282 : Cond.methodLink RX6 282 arraycopyName ∈ WD := wd 830 (by decide +kernel) (by decide +kernel)
theorem ml_X6_325 : Cond.methodLink RX6 325 Lib.Math.abs.name ∈ WD := wd 571 (by decide +kernel) (by decide +kernel)
theorem ml_X0_17 : Cond.methodLink RX0 17 Lib.Math.max.name ∈ WD := wd 348 (by decide +kernel) (by decide +kernel)
theorem ml_X1_25 : Cond.methodLink RX1 25 arraycopyName ∈ WD := wd 782 (by decide +kernel) (by decide +kernel)
theorem ml_X2_108 : Cond.methodLink RX2 108 Lib.Math.min.name ∈ WD := wd 618 (by decide +kernel) (by decide +kernel)
theorem ml_X3_27 : Cond.methodLink RX3 27 arraycopyName ∈ WD := wd 842 (by decide +kernel) (by decide +kernel)
theorem ml_X5_56 : Cond.methodLink RX5 56 arraycopyName ∈ WD := wd 504 (by decide +kernel) (by decide +kernel)
theorem ml_X5_97 : Cond.methodLink RX5 97 Lib.Math.min.name ∈ WD := wd 339 (by decide +kernel) (by decide +kernel)
theorem ml_X5_103 : Cond.methodLink RX5 103 Lib.Math.max.name ∈ WD := wd 342 (by decide +kernel) (by decide +kernel)
theorem cn_X6_66 : Cond.constant RX6 66 (-1000000001) ∈ WD := wd 315 (by decide +kernel) (by decide +kernel)
theorem cn_X6_75 : Cond.constant RX6 75 (-1000000003) ∈ WD := wd 349 (by decide +kernel) (by decide +kernel)
theorem cn_X6_118 : Cond.constant RX6 118 (-1000000012) ∈ WD := wd 386 (by decide +kernel) (by decide +kernel)
theorem cn_X5_143 : Cond.constant RX5 143 (1103515245) ∈ WD := wd 452 (by decide +kernel) (by decide +kernel)
theorem cn_X6_189 : Cond.constant RX6 189 (-1000000005) ∈ WD := wd 516 (by decide +kernel) (by decide +kernel)
theorem cn_X6_210 : Cond.constant RX6 210 (-1000000011) ∈ WD := wd 557 (by decide +kernel) (by decide +kernel)
theorem cn_X3_26 : Cond.constant RX3 26 (-1000000005) ∈ WD := wd 570 (by decide +kernel) (by decide +kernel)
theorem cn_J2_227 : Cond.constant RJ2 227 (65536) ∈ WD := wd 733 (by decide +kernel) (by decide +kernel)
theorem cn_J11_110 : Cond.constant RJ11 110 (55232) ∈ WD := wd 758 (by decide +kernel) (by decide +kernel)
theorem cn_J11_76 : Cond.constant RJ11 76 (56320) ∈ WD := wd 762 (by decide +kernel) (by decide +kernel)
theorem cn_X6_254 : Cond.constant RX6 254 (-1000000014) ∈ WD := wd 800 (by decide +kernel) (by decide +kernel)
theorem cn_X6_261 : Cond.constant RX6 261 (-1000000013) ∈ WD := wd 810 (by decide +kernel) (by decide +kernel)
theorem cn_X6_265 : Cond.constant RX6 265 (-99999) ∈ WD := wd 811 (by decide +kernel) (by decide +kernel)
theorem cn_X6_266 : Cond.constant RX6 266 (99999) ∈ WD := wd 812 (by decide +kernel) (by decide +kernel)
theorem cn_X6_308 : Cond.constant RX6 308 (-1000000002) ∈ WD := wd 855 (by decide +kernel) (by decide +kernel)
theorem cn_X7_86 : Cond.constant RX7 86 (-1000000001) ∈ WD := wd 1005 (by decide +kernel) (by decide +kernel)
theorem cn_X7_87 : Cond.constant RX7 87 (-1000000003) ∈ WD := wd 1006 (by decide +kernel) (by decide +kernel)
theorem cn_X7_132 : Cond.constant RX7 132 (-1000000012) ∈ WD := wd 1072 (by decide +kernel) (by decide +kernel)
theorem cn_X7_152 : Cond.constant RX7 152 (1103515245) ∈ WD := wd 1129 (by decide +kernel) (by decide +kernel)
theorem cn_X7_81 : Cond.constant RX7 81 (-1000000005) ∈ WD := wd 1190 (by decide +kernel) (by decide +kernel)
theorem cn_X7_195 : Cond.constant RX7 195 (-1000000011) ∈ WD := wd 1222 (by decide +kernel) (by decide +kernel)
theorem cn_X7_271 : Cond.constant RX7 271 (-1000000014) ∈ WD := wd 1305 (by decide +kernel) (by decide +kernel)
theorem cn_X7_272 : Cond.constant RX7 272 (-1000000013) ∈ WD := wd 1310 (by decide +kernel) (by decide +kernel)
theorem cn_X7_273 : Cond.constant RX7 273 (-99999) ∈ WD := wd 1311 (by decide +kernel) (by decide +kernel)
theorem cn_X7_274 : Cond.constant RX7 274 (99999) ∈ WD := wd 1312 (by decide +kernel) (by decide +kernel)
theorem cn_X7_278 : Cond.constant RX7 278 (-1000000002) ∈ WD := wd 1344 (by decide +kernel) (by decide +kernel)
/-! ===== the shapes by names ===== -/
/-- a town's place; a law's; a sheet's; a slot's -/
def Twn (t : Nat) : Prop := t = 61 ∨ t = 73 ∨ t = 85
def Lwp (w : Nat) : Prop := w = 2 ∨ ∃ i, i < 14 ∧ w = 9 + 2 * i
def Shp (w : Nat) : Prop := (∃ i, i < 4 ∧ w = 37 + 2 * i) ∨ ∃ i, i < 5 ∧ w = 46 + 3 * i
def Slp (w : Nat) : Prop := ∃ i, i < 5 ∧ w = 45 + 3 * i
theorem tw61 : Twn 61 := Or.inl rfl
theorem tw73 : Twn 73 := Or.inr (Or.inl rfl)
theorem tw85 : Twn 85 := Or.inr (Or.inr rfl)
theorem Lwp_cases {w : Nat} (h : Lwp w) : w = 2 ∨ w = 9 ∨ w = 11 ∨ w = 13 ∨ w = 15 ∨ w = 17 ∨ w = 19 ∨ w = 21 ∨ w = 23 ∨ w = 25 ∨ w = 27 ∨ w = 29 ∨ w = 31 ∨ w = 33 ∨ w = 35 := by
  rcases h with h | ⟨i, hi, h⟩ <;> omega
theorem Shp_cases {w : Nat} (h : Shp w) : w = 37 ∨ w = 39 ∨ w = 41 ∨ w = 43 ∨ w = 46 ∨ w = 49 ∨ w = 52 ∨ w = 55 ∨ w = 58 := by
  rcases h with ⟨i, hi, h⟩ | ⟨i, hi, h⟩ <;> omega
theorem Slp_cases {w : Nat} (h : Slp w) : w = 45 ∨ w = 48 ∨ w = 51 ∨ w = 54 ∨ w = 57 := by
  obtain ⟨i, hi, h⟩ := h
  omega
theorem rcT {t : Nat} (h : Twn t) : vRc RX5 t := by
  rcases h with rfl | rfl | rfl <;> exact Or.inl ⟨4, TX5, 20, _, _, by decide, rfl, rfl⟩
theorem rcW {t : Nat} (h : Lwp t) : vRc RX1 t := by
  rcases Lwp_cases h with rfl | rfl | rfl | rfl | rfl | rfl | rfl | rfl | rfl | rfl | rfl | rfl | rfl | rfl | rfl <;> exact Or.inl ⟨0, TX1, 4, _, _, by decide, rfl, rfl⟩
theorem rcS {t : Nat} (h : Shp t) : vRc RX3 t := by
  rcases Shp_cases h with rfl | rfl | rfl | rfl | rfl | rfl | rfl | rfl | rfl <;> exact Or.inl ⟨2, TX3, 3, _, _, by decide, rfl, rfl⟩
theorem rcR : vRc RX2 1 := Or.inl ⟨1, TX2, 7, _, _, by decide, rfl, rfl⟩
theorem rcC : vRc RX6 0 := Or.inl ⟨5, TX6, 10, _, _, by decide, rfl, rfl⟩
theorem rcM : vRc RX7 97 := Or.inl ⟨6, TX7, 35, _, _, by decide, rfl, rfl⟩
theorem rcX {j : Nat} (h : j < 6) : vRc RJ0 (1001 + j) := Or.inr ⟨rfl, j, h, rfl⟩
theorem eLaw {j : Nat} (h : j < 14) : vE 8 3 j (9 + 2 * j) := by
  rcases (show j = 0 ∨ j = 1 ∨ j = 2 ∨ j = 3 ∨ j = 4 ∨ j = 5 ∨ j = 6 ∨ j = 7 ∨ j = 8 ∨ j = 9 ∨ j = 10 ∨ j = 11 ∨ j = 12 ∨ j = 13 by omega) with rfl | rfl | rfl | rfl | rfl | rfl | rfl | rfl | rfl | rfl | rfl | rfl | rfl | rfl <;> exact ⟨by decide, _, _, rfl, by decide, by decide, rfl⟩
theorem eSheet {j : Nat} (h : j < 4) : vE 5 4 j (37 + 2 * j) := by
  rcases (show j = 0 ∨ j = 1 ∨ j = 2 ∨ j = 3 by omega) with rfl | rfl | rfl | rfl <;> exact ⟨by decide, _, _, rfl, by decide, by decide, rfl⟩
theorem eSlot {j : Nat} (h : j < 5) : vE 6 5 j (45 + 3 * j) := by
  rcases (show j = 0 ∨ j = 1 ∨ j = 2 ∨ j = 3 ∨ j = 4 by omega) with rfl | rfl | rfl | rfl | rfl <;> exact ⟨by decide, _, _, rfl, by decide, by decide, rfl⟩

theorem oT_kind {t : Nat} (h : Twn t) : vO t 4 0 (some (t + 1)) := by
  rcases h with rfl | rfl | rfl <;> exact ⟨by decide, _, _, rfl, by decide, rfl⟩
theorem oT_floor {t : Nat} (h : Twn t) : vO t 4 1 (some (t + 2)) := by
  rcases h with rfl | rfl | rfl <;> exact ⟨by decide, _, _, rfl, by decide, rfl⟩
theorem oT_lip {t : Nat} (h : Twn t) : vO t 4 2 (some (t + 3)) := by
  rcases h with rfl | rfl | rfl <;> exact ⟨by decide, _, _, rfl, by decide, rfl⟩
theorem oT_wine {t : Nat} (h : Twn t) : vO t 4 3 (some (t + 4)) := by
  rcases h with rfl | rfl | rfl <;> exact ⟨by decide, _, _, rfl, by decide, rfl⟩
theorem oT_high {t : Nat} (h : Twn t) : vO t 4 4 (some (t + 5)) := by
  rcases h with rfl | rfl | rfl <;> exact ⟨by decide, _, _, rfl, by decide, rfl⟩
theorem oT_cellars {t : Nat} (h : Twn t) : vO t 4 5 none := by
  rcases h with rfl | rfl | rfl <;> exact ⟨by decide, _, _, rfl, by decide, rfl⟩
theorem oT_one {t : Nat} (h : Twn t) : vO t 4 6 (some (t + 6)) := by
  rcases h with rfl | rfl | rfl <;> exact ⟨by decide, _, _, rfl, by decide, rfl⟩
theorem oT_other {t : Nat} (h : Twn t) : vO t 4 7 (some (t + 7)) := by
  rcases h with rfl | rfl | rfl <;> exact ⟨by decide, _, _, rfl, by decide, rfl⟩
theorem oT_wide {t : Nat} (h : Twn t) : vO t 4 8 (some (t + 8)) := by
  rcases h with rfl | rfl | rfl <;> exact ⟨by decide, _, _, rfl, by decide, rfl⟩
theorem oT_corked {t : Nat} (h : Twn t) : vO t 4 9 (some (t + 9)) := by
  rcases h with rfl | rfl | rfl <;> exact ⟨by decide, _, _, rfl, by decide, rfl⟩
theorem oT_pipes {t : Nat} (h : Twn t) : vO t 4 10 none := by
  rcases h with rfl | rfl | rfl <;> exact ⟨by decide, _, _, rfl, by decide, rfl⟩
theorem oT_spilt {t : Nat} (h : Twn t) : vO t 4 11 none := by
  rcases h with rfl | rfl | rfl <;> exact ⟨by decide, _, _, rfl, by decide, rfl⟩
theorem oT_thirst {t : Nat} (h : Twn t) : vO t 4 12 none := by
  rcases h with rfl | rfl | rfl <;> exact ⟨by decide, _, _, rfl, by decide, rfl⟩
theorem oT_hour {t : Nat} (h : Twn t) : vO t 4 13 none := by
  rcases h with rfl | rfl | rfl <;> exact ⟨by decide, _, _, rfl, by decide, rfl⟩
theorem oT_z {t : Nat} (h : Twn t) : vO t 4 14 none := by
  rcases h with rfl | rfl | rfl <;> exact ⟨by decide, _, _, rfl, by decide, rfl⟩
theorem oT_texts {t : Nat} (h : Twn t) : vO t 4 15 none := by
  rcases h with rfl | rfl | rfl <;> exact ⟨by decide, _, _, rfl, by decide, rfl⟩
theorem oT_lawOf {t : Nat} (h : Twn t) : vO t 4 16 (some (t + 10)) := by
  rcases h with rfl | rfl | rfl <;> exact ⟨by decide, _, _, rfl, by decide, rfl⟩
theorem oT_laws {t : Nat} (h : Twn t) : vO t 4 17 (some 8) := by
  rcases h with rfl | rfl | rfl <;> exact ⟨by decide, _, _, rfl, by decide, rfl⟩
theorem oT_stack {t : Nat} (h : Twn t) : vO t 4 18 (some 60) := by
  rcases h with rfl | rfl | rfl <;> exact ⟨by decide, _, _, rfl, by decide, rfl⟩
theorem oT_share {t : Nat} (h : Twn t) : vO t 4 19 (some (t + 11)) := by
  rcases h with rfl | rfl | rfl <;> exact ⟨by decide, _, _, rfl, by decide, rfl⟩
theorem aT_kind {t : Nat} (h : Twn t) : vA (t + 1) 0 8 := by
  rcases h with rfl | rfl | rfl <;> exact ⟨by decide, _, rfl⟩
theorem aT_floor {t : Nat} (h : Twn t) : vA (t + 2) 0 8 := by
  rcases h with rfl | rfl | rfl <;> exact ⟨by decide, _, rfl⟩
theorem aT_lip {t : Nat} (h : Twn t) : vA (t + 3) 0 8 := by
  rcases h with rfl | rfl | rfl <;> exact ⟨by decide, _, rfl⟩
theorem aT_wine {t : Nat} (h : Twn t) : vA (t + 4) 0 24 := by
  rcases h with rfl | rfl | rfl <;> exact ⟨by decide, _, rfl⟩
theorem aT_high {t : Nat} (h : Twn t) : vA (t + 5) 0 8 := by
  rcases h with rfl | rfl | rfl <;> exact ⟨by decide, _, rfl⟩
theorem aT_one {t : Nat} (h : Twn t) : vA (t + 6) 0 13 := by
  rcases h with rfl | rfl | rfl <;> exact ⟨by decide, _, rfl⟩
theorem aT_other {t : Nat} (h : Twn t) : vA (t + 7) 0 13 := by
  rcases h with rfl | rfl | rfl <;> exact ⟨by decide, _, rfl⟩
theorem aT_wide {t : Nat} (h : Twn t) : vA (t + 8) 0 13 := by
  rcases h with rfl | rfl | rfl <;> exact ⟨by decide, _, rfl⟩
theorem aT_corked {t : Nat} (h : Twn t) : vA (t + 9) 0 13 := by
  rcases h with rfl | rfl | rfl <;> exact ⟨by decide, _, rfl⟩
theorem aT_lawOf {t : Nat} (h : Twn t) : vA (t + 10) 0 3 := by
  rcases h with rfl | rfl | rfl <;> exact ⟨by decide, _, rfl⟩
theorem aT_share {t : Nat} (h : Twn t) : vA (t + 11) 0 3 := by
  rcases h with rfl | rfl | rfl <;> exact ⟨by decide, _, rfl⟩
theorem oW_key {w : Nat} (h : Lwp w) : vO w 0 0 none := by
  rcases Lwp_cases h with rfl | rfl | rfl | rfl | rfl | rfl | rfl | rfl | rfl | rfl | rfl | rfl | rfl | rfl | rfl <;> exact ⟨by decide, _, _, rfl, by decide, rfl⟩
theorem oW_leaves {w : Nat} (h : Lwp w) : vO w 0 1 none := by
  rcases Lwp_cases h with rfl | rfl | rfl | rfl | rfl | rfl | rfl | rfl | rfl | rfl | rfl | rfl | rfl | rfl | rfl <;> exact ⟨by decide, _, _, rfl, by decide, rfl⟩
theorem oW_size {w : Nat} (h : Lwp w) : vO w 0 2 none := by
  rcases Lwp_cases h with rfl | rfl | rfl | rfl | rfl | rfl | rfl | rfl | rfl | rfl | rfl | rfl | rfl | rfl | rfl <;> exact ⟨by decide, _, _, rfl, by decide, rfl⟩
theorem oW_row {w : Nat} (h : Lwp w) : vO w 0 3 (some (w + 1)) := by
  rcases Lwp_cases h with rfl | rfl | rfl | rfl | rfl | rfl | rfl | rfl | rfl | rfl | rfl | rfl | rfl | rfl | rfl <;> exact ⟨by decide, _, _, rfl, by decide, rfl⟩
theorem aW_row {w : Nat} (h : Lwp w) : vA (w + 1) 0 96 := by
  rcases Lwp_cases h with rfl | rfl | rfl | rfl | rfl | rfl | rfl | rfl | rfl | rfl | rfl | rfl | rfl | rfl | rfl <;> exact ⟨by decide, _, rfl⟩
theorem oS_sort {w : Nat} (h : Shp w) : vO w 2 0 none := by
  rcases Shp_cases h with rfl | rfl | rfl | rfl | rfl | rfl | rfl | rfl | rfl <;> exact ⟨by decide, _, _, rfl, by decide, rfl⟩
theorem oS_size {w : Nat} (h : Shp w) : vO w 2 1 none := by
  rcases Shp_cases h with rfl | rfl | rfl | rfl | rfl | rfl | rfl | rfl | rfl <;> exact ⟨by decide, _, _, rfl, by decide, rfl⟩
theorem oS_places {w : Nat} (h : Shp w) : vO w 2 2 (some (w + 1)) := by
  rcases Shp_cases h with rfl | rfl | rfl | rfl | rfl | rfl | rfl | rfl | rfl <;> exact ⟨by decide, _, _, rfl, by decide, rfl⟩
theorem aS_places {w : Nat} (h : Shp w) : vA (w + 1) 0 24 := by
  rcases Shp_cases h with rfl | rfl | rfl | rfl | rfl | rfl | rfl | rfl | rfl <;> exact ⟨by decide, _, rfl⟩
theorem oO_thing {w : Nat} (h : Slp w) : vO w 3 0 none := by
  rcases Slp_cases h with rfl | rfl | rfl | rfl | rfl <;> exact ⟨by decide, _, _, rfl, by decide, rfl⟩
theorem oO_kind {w : Nat} (h : Slp w) : vO w 3 1 none := by
  rcases Slp_cases h with rfl | rfl | rfl | rfl | rfl <;> exact ⟨by decide, _, _, rfl, by decide, rfl⟩
theorem oO_lip {w : Nat} (h : Slp w) : vO w 3 2 none := by
  rcases Slp_cases h with rfl | rfl | rfl | rfl | rfl <;> exact ⟨by decide, _, _, rfl, by decide, rfl⟩
theorem oO_number {w : Nat} (h : Slp w) : vO w 3 3 none := by
  rcases Slp_cases h with rfl | rfl | rfl | rfl | rfl <;> exact ⟨by decide, _, _, rfl, by decide, rfl⟩
theorem oO_sheet {w : Nat} (h : Slp w) : vO w 3 4 (some (w + 1)) := by
  rcases Slp_cases h with rfl | rfl | rfl | rfl | rfl <;> exact ⟨by decide, _, _, rfl, by decide, rfl⟩
theorem oR_length : vO 1 1 0 none := ⟨by decide, _, _, rfl, by decide, rfl⟩
theorem oR_draft : vO 1 1 1 (some 2) := ⟨by decide, _, _, rfl, by decide, rfl⟩
theorem oR_tape : vO 1 1 2 (some 4) := ⟨by decide, _, _, rfl, by decide, rfl⟩
theorem oR_from : vO 1 1 3 none := ⟨by decide, _, _, rfl, by decide, rfl⟩
theorem oR_end : vO 1 1 4 none := ⟨by decide, _, _, rfl, by decide, rfl⟩
theorem oR_glued : vO 1 1 5 none := ⟨by decide, _, _, rfl, by decide, rfl⟩
theorem oR_fault : vO 1 1 6 none := ⟨by decide, _, _, rfl, by decide, rfl⟩
theorem aR_tape : vA 4 0 96 := ⟨by decide, _, rfl⟩
theorem oC_now : vO 0 5 0 (some 61) := ⟨by decide, _, _, rfl, by decide, rfl⟩
theorem oC_image : vO 0 5 1 (some 73) := ⟨by decide, _, _, rfl, by decide, rfl⟩
theorem oC_thought : vO 0 5 2 (some 85) := ⟨by decide, _, _, rfl, by decide, rfl⟩
theorem oC_imageKept : vO 0 5 3 none := ⟨by decide, _, _, rfl, by decide, rfl⟩
theorem oC_laws : vO 0 5 4 (some 8) := ⟨by decide, _, _, rfl, by decide, rfl⟩
theorem oC_reader : vO 0 5 5 (some 1) := ⟨by decide, _, _, rfl, by decide, rfl⟩
theorem oC_sheets : vO 0 5 6 (some 5) := ⟨by decide, _, _, rfl, by decide, rfl⟩
theorem oC_slots : vO 0 5 7 (some 6) := ⟨by decide, _, _, rfl, by decide, rfl⟩
theorem oC_waiting : vO 0 5 8 (some 7) := ⟨by decide, _, _, rfl, by decide, rfl⟩
theorem oC_waitingCount : vO 0 5 9 none := ⟨by decide, _, _, rfl, by decide, rfl⟩
theorem aC_waiting : vA 7 0 60 := ⟨by decide, _, rfl⟩
theorem aC_stack : vA 60 0 96 := ⟨by decide, _, rfl⟩
theorem oM_now : vO 97 6 0 (some 98) := ⟨by decide, _, _, rfl, by decide, rfl⟩
theorem oM_image : vO 97 6 1 (some 99) := ⟨by decide, _, _, rfl, by decide, rfl⟩
theorem oM_aside : vO 97 6 2 (some 100) := ⟨by decide, _, _, rfl, by decide, rfl⟩
theorem oM_hasImage : vO 97 6 3 none := ⟨by decide, _, _, rfl, by decide, rfl⟩
theorem oM_goes : vO 97 6 4 (some 101) := ⟨by decide, _, _, rfl, by decide, rfl⟩
theorem oM_before : vO 97 6 5 (some 102) := ⟨by decide, _, _, rfl, by decide, rfl⟩
theorem oM_fullWas : vO 97 6 6 (some 103) := ⟨by decide, _, _, rfl, by decide, rfl⟩
theorem oM_tape : vO 97 6 7 (some 104) := ⟨by decide, _, _, rfl, by decide, rfl⟩
theorem oM_taped : vO 97 6 8 none := ⟨by decide, _, _, rfl, by decide, rfl⟩
theorem oM_next : vO 97 6 9 none := ⟨by decide, _, _, rfl, by decide, rfl⟩
theorem oM_from : vO 97 6 10 none := ⟨by decide, _, _, rfl, by decide, rfl⟩
theorem oM_token : vO 97 6 11 none := ⟨by decide, _, _, rfl, by decide, rfl⟩
theorem oM_value : vO 97 6 12 none := ⟨by decide, _, _, rfl, by decide, rfl⟩
theorem oM_ended : vO 97 6 13 none := ⟨by decide, _, _, rfl, by decide, rfl⟩
theorem oM_key : vO 97 6 14 none := ⟨by decide, _, _, rfl, by decide, rfl⟩
theorem oM_keys : vO 97 6 15 (some 105) := ⟨by decide, _, _, rfl, by decide, rfl⟩
theorem oM_keyAt : vO 97 6 16 (some 106) := ⟨by decide, _, _, rfl, by decide, rfl⟩
theorem oM_code : vO 97 6 17 (some 107) := ⟨by decide, _, _, rfl, by decide, rfl⟩
theorem oM_codes : vO 97 6 18 none := ⟨by decide, _, _, rfl, by decide, rfl⟩
theorem oM_atoms : vO 97 6 19 none := ⟨by decide, _, _, rfl, by decide, rfl⟩
theorem oM_waits : vO 97 6 20 (some 108) := ⟨by decide, _, _, rfl, by decide, rfl⟩
theorem oM_held : vO 97 6 21 none := ⟨by decide, _, _, rfl, by decide, rfl⟩
theorem oM_tested : vO 97 6 22 (some 109) := ⟨by decide, _, _, rfl, by decide, rfl⟩
theorem oM_stack : vO 97 6 23 (some 110) := ⟨by decide, _, _, rfl, by decide, rfl⟩
theorem oM_facts : vO 97 6 24 (some 111) := ⟨by decide, _, _, rfl, by decide, rfl⟩
theorem oM_sorts : vO 97 6 25 (some 112) := ⟨by decide, _, _, rfl, by decide, rfl⟩
theorem oM_sizes : vO 97 6 26 (some 113) := ⟨by decide, _, _, rfl, by decide, rfl⟩
theorem oM_cells : vO 97 6 27 (some 114) := ⟨by decide, _, _, rfl, by decide, rfl⟩
theorem oM_holds : vO 97 6 28 (some 115) := ⟨by decide, _, _, rfl, by decide, rfl⟩
theorem oM_holdsA : vO 97 6 29 (some 116) := ⟨by decide, _, _, rfl, by decide, rfl⟩
theorem oM_holdsB : vO 97 6 30 (some 117) := ⟨by decide, _, _, rfl, by decide, rfl⟩
theorem oM_heldCells : vO 97 6 31 (some 118) := ⟨by decide, _, _, rfl, by decide, rfl⟩
theorem oM_moved : vO 97 6 32 (some 119) := ⟨by decide, _, _, rfl, by decide, rfl⟩
theorem oM_tells : vO 97 6 33 (some 120) := ⟨by decide, _, _, rfl, by decide, rfl⟩
theorem oM_waiting : vO 97 6 34 none := ⟨by decide, _, _, rfl, by decide, rfl⟩
theorem aM_now : vA 98 0 1479 := ⟨by decide, _, rfl⟩
theorem aM_image : vA 99 0 1479 := ⟨by decide, _, rfl⟩
theorem aM_aside : vA 100 0 1479 := ⟨by decide, _, rfl⟩
theorem aM_goes : vA 101 0 3 := ⟨by decide, _, rfl⟩
theorem aM_before : vA 102 0 107 := ⟨by decide, _, rfl⟩
theorem aM_fullWas : vA 103 0 8 := ⟨by decide, _, rfl⟩
theorem aM_tape : vA 104 0 96 := ⟨by decide, _, rfl⟩
theorem aM_keys : vA 105 1 11 := ⟨by decide, _, rfl⟩
theorem aM_keyAt : vA 106 0 4 := ⟨by decide, _, rfl⟩
theorem aM_code : vA 107 0 96 := ⟨by decide, _, rfl⟩
theorem aM_waits : vA 108 0 96 := ⟨by decide, _, rfl⟩
theorem aM_tested : vA 109 2 10 := ⟨by decide, _, rfl⟩
theorem aM_stack : vA 110 0 96 := ⟨by decide, _, rfl⟩
theorem aM_facts : vA 111 0 4 := ⟨by decide, _, rfl⟩
theorem aM_sorts : vA 112 0 4 := ⟨by decide, _, rfl⟩
theorem aM_sizes : vA 113 0 4 := ⟨by decide, _, rfl⟩
theorem aM_cells : vA 114 0 96 := ⟨by decide, _, rfl⟩
theorem aM_holds : vA 115 0 5 := ⟨by decide, _, rfl⟩
theorem aM_holdsA : vA 116 0 5 := ⟨by decide, _, rfl⟩
theorem aM_holdsB : vA 117 0 5 := ⟨by decide, _, rfl⟩
theorem aM_heldCells : vA 118 0 120 := ⟨by decide, _, rfl⟩
theorem aM_moved : vA 119 0 24 := ⟨by decide, _, rfl⟩
theorem aM_tells : vA 120 0 60 := ⟨by decide, _, rfl⟩
