/-! every method, checked -/
set_option maxRecDepth 100000 in
set_option maxHeartbeats 4000000 in
theorem zk_X0_init : am_okm (zm_X0_init, zi_X0_init) := am_okm_of [198, 58, 59, 199, 202, 202, 199, 144, 41, 201, 146, 41, 147, 203, 204] (by decide +kernel) (by decide +kernel) (by decide +kernel) (by decide +kernel) (by decide +kernel) (List.mem_cons_of_mem _ (List.mem_of_getElem? (i := 197) (by decide +kernel)))
set_option maxRecDepth 100000 in
set_option maxHeartbeats 4000000 in
theorem zk_X0_clear : am_okm (zm_X0_clear, zi_X0_clear) := am_okm_of [203, 204] (by decide +kernel) (by decide +kernel) (by decide +kernel) (by decide +kernel) (by decide +kernel) (List.mem_cons_of_mem _ (List.mem_of_getElem? (i := 447) (by decide +kernel)))
set_option maxRecDepth 100000 in
set_option maxHeartbeats 4000000 in
theorem zk_X0_remember : am_okm (zm_X0_remember, zi_X0_remember) := am_okm_of [204, 203, 203, 204, 202, 203, 204, 522, 523, 524, 41, 525, 204, 204] (by decide +kernel) (by decide +kernel) (by decide +kernel) (by decide +kernel) (by decide +kernel) (List.mem_cons_of_mem _ (List.mem_of_getElem? (i := 521) (by decide +kernel)))
set_option maxRecDepth 100000 in
set_option maxHeartbeats 4000000 in
theorem zk_X0_takeBack : am_okm (zm_X0_takeBack, zi_X0_takeBack) := am_okm_of [204, 204, 204, 202, 203, 204, 522, 523, 524, 41, 525] (by decide +kernel) (by decide +kernel) (by decide +kernel) (by decide +kernel) (by decide +kernel) (List.mem_cons_of_mem _ (List.mem_of_getElem? (i := 566) (by decide +kernel)))
set_option maxRecDepth 100000 in
set_option maxHeartbeats 4000000 in
theorem zk_X1_init : am_okm (zm_X1_init, zi_X1_init) := am_okm_of [321, 58, 59, 322, 144, 41, 323, 146, 41, 147, 326, 324, 249, 45, 325, 251, 45, 252, 327, 76, 328, 76, 329] (by decide +kernel) (by decide +kernel) (by decide +kernel) (by decide +kernel) (by decide +kernel) (List.mem_cons_of_mem _ (List.mem_of_getElem? (i := 320) (by decide +kernel)))
set_option maxRecDepth 100000 in
set_option maxHeartbeats 4000000 in
theorem zk_X1_addedInAllOrders : am_okm (zm_X1_addedInAllOrders, zi_X1_addedInAllOrders) := am_okm_of [326, 702, 523, 524, 41, 525, 96, 703, 619, 51, 620, 96, 704, 706, 11, 47, 707, 704, 706, 11, 47, 707, 711, 37, 712, 711, 37, 712] (by decide +kernel) (by decide +kernel) (by decide +kernel) (by decide +kernel) (by decide +kernel) (List.mem_cons_of_mem _ (List.mem_of_getElem? (i := 701) (by decide +kernel)))
set_option maxRecDepth 100000 in
set_option maxHeartbeats 4000000 in
theorem zk_X1_drawnBy : am_okm (zm_X1_drawnBy, zi_X1_drawnBy) := am_okm_of [96, 326, 175, 175, 327, 326, 708, 477, 478, 45, 479, 327, 261, 96, 533, 37, 534] (by decide +kernel) (by decide +kernel) (by decide +kernel) (by decide +kernel) (by decide +kernel) (List.mem_cons_of_mem _ (List.mem_of_getElem? (i := 707) (by decide +kernel)))
set_option maxRecDepth 100000 in
set_option maxHeartbeats 4000000 in
theorem zk_X1_seekRests : am_okm (zm_X1_seekRests, zi_X1_seekRests) := am_okm_of [326, 702, 523, 524, 41, 525, 326, 170, 170, 327, 326, 708, 477, 478, 45, 479, 328, 733, 735, 12, 47, 736, 329, 733, 735, 12, 47, 736, 330, 332, 328, 328, 329, 329, 330, 330, 332] (by decide +kernel) (by decide +kernel) (by decide +kernel) (by decide +kernel) (by decide +kernel) (List.mem_cons_of_mem _ (List.mem_of_getElem? (i := 732) (by decide +kernel)))
set_option maxRecDepth 100000 in
set_option maxHeartbeats 4000000 in
theorem zk_X1_has : am_okm (zm_X1_has, zi_X1_has) := am_okm_of [326, 737, 465, 466, 41, 467, 327, 265] (by decide +kernel) (by decide +kernel) (by decide +kernel) (by decide +kernel) (by decide +kernel) (List.mem_cons_of_mem _ (List.mem_of_getElem? (i := 736) (by decide +kernel)))
set_option maxRecDepth 100000 in
set_option maxHeartbeats 4000000 in
theorem zk_X1_waysToLack : am_okm (zm_X1_waysToLack, zi_X1_waysToLack) := am_okm_of [96, 746, 747, 748, 41, 749, 96, 175, 327, 751, 481, 482, 45, 483, 327, 752, 500, 501, 45, 502, 327, 265, 96, 533, 37, 534, 703, 619, 51, 620, 754, 37, 755, 754, 37, 755] (by decide +kernel) (by decide +kernel) (by decide +kernel) (by decide +kernel) (by decide +kernel) (List.mem_cons_of_mem _ (List.mem_of_getElem? (i := 745) (by decide +kernel)))
set_option maxRecDepth 100000 in
set_option maxHeartbeats 4000000 in
theorem zk_X1_lackedByChance : am_okm (zm_X1_lackedByChance, zi_X1_lackedByChance) := am_okm_of [326, 702, 523, 524, 41, 525, 334, 334, 770, 771, 334, 334, 772, 773, 775, 13, 47, 776] (by decide +kernel) (by decide +kernel) (by decide +kernel) (by decide +kernel) (by decide +kernel) (List.mem_cons_of_mem _ (List.mem_of_getElem? (i := 769) (by decide +kernel)))
set_option maxRecDepth 100000 in
set_option maxHeartbeats 4000000 in
theorem zk_X1_happen : am_okm (zm_X1_happen, zi_X1_happen) := am_okm_of [327, 326, 777, 528, 529, 45, 530, 327, 265, 96, 533, 37, 534, 96, 326, 778, 548, 549, 41, 550, 326, 779, 556, 557, 41, 558] (by decide +kernel) (by decide +kernel) (by decide +kernel) (by decide +kernel) (by decide +kernel) (List.mem_cons_of_mem _ (List.mem_of_getElem? (i := 776) (by decide +kernel)))
set_option maxRecDepth 100000 in
set_option maxHeartbeats 4000000 in
theorem zk_X2_init : am_okm (zm_X2_init, zi_X2_init) := am_okm_of [291, 58, 59, 292, 84, 40, 293, 86, 40, 87, 298, 294, 144, 41, 295, 146, 41, 147, 299, 296, 249, 45, 297, 251, 45, 252, 300] (by decide +kernel) (by decide +kernel) (by decide +kernel) (by decide +kernel) (by decide +kernel) (List.mem_cons_of_mem _ (List.mem_of_getElem? (i := 290) (by decide +kernel)))
set_option maxRecDepth 100000 in
set_option maxHeartbeats 4000000 in
theorem zk_X2_inDays : am_okm (zm_X2_inDays, zi_X2_inDays) := am_okm_of [299, 575, 523, 524, 41, 525, 300, 299, 576, 528, 529, 45, 530, 300, 269, 300, 264, 97, 533, 37, 534] (by decide +kernel) (by decide +kernel) (by decide +kernel) (by decide +kernel) (by decide +kernel) (List.mem_cons_of_mem _ (List.mem_of_getElem? (i := 574) (by decide +kernel)))
set_option maxRecDepth 100000 in
set_option maxHeartbeats 4000000 in
theorem zk_X2_seekOrder : am_okm (zm_X2_seekOrder, zi_X2_seekOrder) := am_okm_of [299, 575, 523, 524, 41, 525, 299, 586, 154, 155, 41, 156, 300, 299, 587, 481, 482, 45, 483, 301, 303, 300, 299, 588, 500, 501, 45, 502, 300, 264, 97, 590, 37, 591, 300, 264, 97, 533, 37, 534, 301, 301, 97, 595, 597, 5, 46, 598, 303, 97, 599, 601, 6, 46, 602] (by decide +kernel) (by decide +kernel) (by decide +kernel) (by decide +kernel) (by decide +kernel) (List.mem_cons_of_mem _ (List.mem_of_getElem? (i := 585) (by decide +kernel)))
set_option maxRecDepth 100000 in
set_option maxHeartbeats 4000000 in
theorem zk_X2_figures : am_okm (zm_X2_figures, zi_X2_figures) := am_okm_of [299, 158] (by decide +kernel) (by decide +kernel) (by decide +kernel) (by decide +kernel) (by decide +kernel) (List.mem_cons_of_mem _ (List.mem_of_getElem? (i := 598) (by decide +kernel)))
set_option maxRecDepth 100000 in
set_option maxHeartbeats 4000000 in
theorem zk_X2_toNextOrder : am_okm (zm_X2_toNextOrder, zi_X2_toNextOrder) := am_okm_of [299, 158, 603, 604, 46, 605, 603, 604, 46, 605] (by decide +kernel) (by decide +kernel) (by decide +kernel) (by decide +kernel) (by decide +kernel) (List.mem_cons_of_mem _ (List.mem_of_getElem? (i := 602) (by decide +kernel)))
set_option maxRecDepth 100000 in
set_option maxHeartbeats 4000000 in
theorem zk_X2_exchangePlaces : am_okm (zm_X2_exchangePlaces, zi_X2_exchangePlaces) := am_okm_of [] (by decide +kernel) (by decide +kernel) (by decide +kernel) (by decide +kernel) (by decide +kernel) (List.mem_cons_of_mem _ (List.mem_of_getElem? (i := 605) (by decide +kernel)))
set_option maxRecDepth 100000 in
set_option maxHeartbeats 4000000 in
theorem zk_X2_fewestSalts : am_okm (zm_X2_fewestSalts, zi_X2_fewestSalts) := am_okm_of [299, 575, 523, 524, 41, 525, 97, 172, 618, 619, 51, 620, 299, 172, 172, 300, 299, 624, 477, 478, 45, 479, 300, 264, 618, 619, 51, 620] (by decide +kernel) (by decide +kernel) (by decide +kernel) (by decide +kernel) (by decide +kernel) (List.mem_cons_of_mem _ (List.mem_of_getElem? (i := 617) (by decide +kernel)))
set_option maxRecDepth 100000 in
set_option maxHeartbeats 4000000 in
theorem zk_X2_leastBarrel : am_okm (zm_X2_leastBarrel, zi_X2_leastBarrel) := am_okm_of [298, 633, 437, 438, 40, 439, 298, 116, 299, 575, 523, 524, 41, 525, 299, 164, 300, 298, 299, 576, 528, 529, 45, 530, 299, 168, 168] (by decide +kernel) (by decide +kernel) (by decide +kernel) (by decide +kernel) (by decide +kernel) (List.mem_cons_of_mem _ (List.mem_of_getElem? (i := 632) (by decide +kernel)))
set_option maxRecDepth 100000 in
set_option maxHeartbeats 4000000 in
theorem zk_X2_firstNotSo : am_okm (zm_X2_firstNotSo, zi_X2_firstNotSo) := am_okm_of [299, 575, 523, 524, 41, 525, 639, 37, 640, 647, 648, 650, 7, 46, 651, 657, 659, 9, 46, 660] (by decide +kernel) (by decide +kernel) (by decide +kernel) (by decide +kernel) (by decide +kernel) (List.mem_cons_of_mem _ (List.mem_of_getElem? (i := 645) (by decide +kernel)))
set_option maxRecDepth 100000 in
set_option maxHeartbeats 4000000 in
theorem zk_X2_canBe : am_okm (zm_X2_canBe, zi_X2_canBe) := am_okm_of [97, 97, 299, 652, 465, 466, 41, 467, 653, 655, 8, 46, 656] (by decide +kernel) (by decide +kernel) (by decide +kernel) (by decide +kernel) (by decide +kernel) (List.mem_cons_of_mem _ (List.mem_of_getElem? (i := 651) (by decide +kernel)))
set_option maxRecDepth 100000 in
set_option maxHeartbeats 4000000 in
theorem zk_X2_lackOf : am_okm (zm_X2_lackOf, zi_X2_lackOf) := am_okm_of [300, 299, 624, 477, 478, 45, 479, 300, 264] (by decide +kernel) (by decide +kernel) (by decide +kernel) (by decide +kernel) (by decide +kernel) (List.mem_cons_of_mem _ (List.mem_of_getElem? (i := 656) (by decide +kernel)))
set_option maxRecDepth 100000 in
set_option maxHeartbeats 4000000 in
theorem zk_X2_carryOut : am_okm (zm_X2_carryOut, zi_X2_carryOut) := am_okm_of [300, 299, 576, 528, 529, 45, 530, 299, 661, 540, 541, 41, 542, 299, 662, 548, 549, 41, 550, 299, 663, 556, 557, 41, 558] (by decide +kernel) (by decide +kernel) (by decide +kernel) (by decide +kernel) (by decide +kernel) (List.mem_cons_of_mem _ (List.mem_of_getElem? (i := 660) (by decide +kernel)))
set_option maxRecDepth 100000 in
set_option maxHeartbeats 4000000 in
theorem zk_X3_init : am_okm (zm_X3_init, zi_X3_init) := am_okm_of [82, 58, 59, 83, 84, 40, 85, 86, 40, 87, 136] (by decide +kernel) (by decide +kernel) (by decide +kernel) (by decide +kernel) (by decide +kernel) (List.mem_cons_of_mem _ (List.mem_of_getElem? (i := 81) (by decide +kernel)))
set_option maxRecDepth 100000 in
set_option maxHeartbeats 4000000 in
theorem zk_X3_read : am_okm (zm_X3_read, zi_X3_read) := am_okm_of [136, 412, 413, 414, 40, 415, 69, 67, 416, 418, 0, 39, 419, 69] (by decide +kernel) (by decide +kernel) (by decide +kernel) (by decide +kernel) (by decide +kernel) (List.mem_cons_of_mem _ (List.mem_of_getElem? (i := 411) (by decide +kernel)))
set_option maxRecDepth 100000 in
set_option maxHeartbeats 4000000 in
theorem zk_X3_take : am_okm (zm_X3_take, zi_X3_take) := am_okm_of [420, 422, 1, 39, 423, 424, 426, 2, 39, 427, 424, 426, 2, 39, 427, 424, 426, 2, 39, 427, 424, 426, 2, 39, 427] (by decide +kernel) (by decide +kernel) (by decide +kernel) (by decide +kernel) (by decide +kernel) (List.mem_cons_of_mem _ (List.mem_of_getElem? (i := 419) (by decide +kernel)))
set_option maxRecDepth 100000 in
set_option maxHeartbeats 4000000 in
theorem zk_X3_takePart : am_okm (zm_X3_takePart, zi_X3_takePart) := am_okm_of [136, 99, 136, 99, 99, 136, 102, 136, 102, 102] (by decide +kernel) (by decide +kernel) (by decide +kernel) (by decide +kernel) (by decide +kernel) (List.mem_cons_of_mem _ (List.mem_of_getElem? (i := 423) (by decide +kernel)))
set_option maxRecDepth 100000 in
set_option maxHeartbeats 4000000 in
theorem zk_X3_takeFigure : am_okm (zm_X3_takeFigure, zi_X3_takeFigure) := am_okm_of [390, 37, 391, 136, 91, 136, 94, 136, 118, 136, 102, 429, 430, 39, 431, 136, 106, 136, 99, 429, 430, 39, 431, 136, 110, 136, 99, 429, 430, 39, 431, 136, 114, 136, 99, 429, 430, 39, 431] (by decide +kernel) (by decide +kernel) (by decide +kernel) (by decide +kernel) (by decide +kernel) (List.mem_cons_of_mem _ (List.mem_of_getElem? (i := 427) (by decide +kernel)))
set_option maxRecDepth 100000 in
set_option maxHeartbeats 4000000 in
theorem zk_X3_putLast : am_okm (zm_X3_putLast, zi_X3_putLast) := am_okm_of [390, 37, 391] (by decide +kernel) (by decide +kernel) (by decide +kernel) (by decide +kernel) (by decide +kernel) (List.mem_cons_of_mem _ (List.mem_of_getElem? (i := 431) (by decide +kernel)))
set_option maxRecDepth 100000 in
set_option maxHeartbeats 4000000 in
theorem zk_X4_init : am_okm (zm_X4_init, zi_X4_init) := am_okm_of [233, 58, 59, 76, 234, 76, 235, 76, 236, 237] (by decide +kernel) (by decide +kernel) (by decide +kernel) (by decide +kernel) (by decide +kernel) (List.mem_cons_of_mem _ (List.mem_of_getElem? (i := 232) (by decide +kernel)))
set_option maxRecDepth 100000 in
set_option maxHeartbeats 4000000 in
theorem zk_X4_add : am_okm (zm_X4_add, zi_X4_add) := am_okm_of [237, 234, 237, 235, 237, 236, 237, 237, 237, 237] (by decide +kernel) (by decide +kernel) (by decide +kernel) (by decide +kernel) (by decide +kernel) (List.mem_cons_of_mem _ (List.mem_of_getElem? (i := 671) (by decide +kernel)))
set_option maxRecDepth 100000 in
set_option maxHeartbeats 4000000 in
theorem zk_X4_clear : am_okm (zm_X4_clear, zi_X4_clear) := am_okm_of [237, 237] (by decide +kernel) (by decide +kernel) (by decide +kernel) (by decide +kernel) (by decide +kernel) (List.mem_cons_of_mem _ (List.mem_of_getElem? (i := 679) (by decide +kernel)))
set_option maxRecDepth 100000 in
set_option maxHeartbeats 4000000 in
theorem zk_X4_possibleWants : am_okm (zm_X4_possibleWants, zi_X4_possibleWants) := am_okm_of [494, 37, 495, 497, 37, 498, 690, 692, 10, 44, 693] (by decide +kernel) (by decide +kernel) (by decide +kernel) (by decide +kernel) (by decide +kernel) (List.mem_cons_of_mem _ (List.mem_of_getElem? (i := 687) (by decide +kernel)))
set_option maxRecDepth 100000 in
set_option maxHeartbeats 4000000 in
theorem zk_X4_agrees : am_okm (zm_X4_agrees, zi_X4_agrees) := am_okm_of [237, 234, 236, 235] (by decide +kernel) (by decide +kernel) (by decide +kernel) (by decide +kernel) (by decide +kernel) (List.mem_cons_of_mem _ (List.mem_of_getElem? (i := 693) (by decide +kernel)))
set_option maxRecDepth 100000 in
set_option maxHeartbeats 4000000 in
theorem zk_X5_init : am_okm (zm_X5_init, zi_X5_init) := am_okm_of [218, 58, 59, 219, 221, 221, 219, 144, 41, 220, 146, 41, 147, 222] (by decide +kernel) (by decide +kernel) (by decide +kernel) (by decide +kernel) (by decide +kernel) (List.mem_cons_of_mem _ (List.mem_of_getElem? (i := 217) (by decide +kernel)))
set_option maxRecDepth 100000 in
set_option maxHeartbeats 4000000 in
theorem zk_X5_clear : am_okm (zm_X5_clear, zi_X5_clear) := am_okm_of [222] (by decide +kernel) (by decide +kernel) (by decide +kernel) (by decide +kernel) (by decide +kernel) (List.mem_cons_of_mem _ (List.mem_of_getElem? (i := 451) (by decide +kernel)))
set_option maxRecDepth 100000 in
set_option maxHeartbeats 4000000 in
theorem zk_X5_put : am_okm (zm_X5_put, zi_X5_put) := am_okm_of [221, 788, 523, 524, 41, 525, 222, 222] (by decide +kernel) (by decide +kernel) (by decide +kernel) (by decide +kernel) (by decide +kernel) (List.mem_cons_of_mem _ (List.mem_of_getElem? (i := 787) (by decide +kernel)))
set_option maxRecDepth 100000 in
set_option maxHeartbeats 4000000 in
theorem zk_X5_fetch : am_okm (zm_X5_fetch, zi_X5_fetch) := am_okm_of [222, 221, 788, 523, 524, 41, 525] (by decide +kernel) (by decide +kernel) (by decide +kernel) (by decide +kernel) (by decide +kernel) (List.mem_cons_of_mem _ (List.mem_of_getElem? (i := 796) (by decide +kernel)))
set_option maxRecDepth 100000 in
set_option maxHeartbeats 4000000 in
theorem zk_X6_init : am_okm (zm_X6_init, zi_X6_init) := am_okm_of [148, 58, 59, 76, 157, 76, 161, 76, 165, 149, 150, 151, 41, 152] (by decide +kernel) (by decide +kernel) (by decide +kernel) (by decide +kernel) (by decide +kernel) (List.mem_cons_of_mem _ (List.mem_of_getElem? (i := 147) (by decide +kernel)))
set_option maxRecDepth 100000 in
set_option maxHeartbeats 4000000 in
theorem zk_X6_clear : am_okm (zm_X6_clear, zi_X6_clear) := am_okm_of [153, 154, 155, 41, 156, 161, 165, 169, 174, 177] (by decide +kernel) (by decide +kernel) (by decide +kernel) (by decide +kernel) (by decide +kernel) (List.mem_cons_of_mem _ (List.mem_of_getElem? (i := 152) (by decide +kernel)))
set_option maxRecDepth 100000 in
set_option maxHeartbeats 4000000 in
theorem zk_X6_standAsTold : am_okm (zm_X6_standAsTold, zi_X6_standAsTold) := am_okm_of [157] (by decide +kernel) (by decide +kernel) (by decide +kernel) (by decide +kernel) (by decide +kernel) (List.mem_cons_of_mem _ (List.mem_of_getElem? (i := 156) (by decide +kernel)))
set_option maxRecDepth 100000 in
set_option maxHeartbeats 4000000 in
theorem zk_X6_copyFrom : am_okm (zm_X6_copyFrom, zi_X6_copyFrom) := am_okm_of [157, 157, 526, 442, 441, 49, 161, 161, 526, 442, 441, 49, 165, 165, 526, 442, 441, 49, 169, 169, 174, 174, 177, 177] (by decide +kernel) (by decide +kernel) (by decide +kernel) (by decide +kernel) (by decide +kernel) (List.mem_cons_of_mem _ (List.mem_of_getElem? (i := 525) (by decide +kernel)))
set_option maxRecDepth 100000 in
set_option maxHeartbeats 4000000 in
theorem zk_X6_placeOf : am_okm (zm_X6_placeOf, zi_X6_placeOf) := am_okm_of [157] (by decide +kernel) (by decide +kernel) (by decide +kernel) (by decide +kernel) (by decide +kernel) (List.mem_cons_of_mem _ (List.mem_of_getElem? (i := 463) (by decide +kernel)))
set_option maxRecDepth 100000 in
set_option maxHeartbeats 4000000 in
theorem zk_X6_exchange : am_okm (zm_X6_exchange, zi_X6_exchange) := am_okm_of [157, 157, 157, 157] (by decide +kernel) (by decide +kernel) (by decide +kernel) (by decide +kernel) (by decide +kernel) (List.mem_cons_of_mem _ (List.mem_of_getElem? (i := 542) (by decide +kernel)))
set_option maxRecDepth 100000 in
set_option maxHeartbeats 4000000 in
theorem zk_X6_isSalted : am_okm (zm_X6_isSalted, zi_X6_isSalted) := am_okm_of [169] (by decide +kernel) (by decide +kernel) (by decide +kernel) (by decide +kernel) (by decide +kernel) (List.mem_cons_of_mem _ (List.mem_of_getElem? (i := 467) (by decide +kernel)))
set_option maxRecDepth 100000 in
set_option maxHeartbeats 4000000 in
theorem zk_X6_giveSalt : am_okm (zm_X6_giveSalt, zi_X6_giveSalt) := am_okm_of [169, 169] (by decide +kernel) (by decide +kernel) (by decide +kernel) (by decide +kernel) (by decide +kernel) (List.mem_cons_of_mem _ (List.mem_of_getElem? (i := 550) (by decide +kernel)))
set_option maxRecDepth 100000 in
set_option maxHeartbeats 4000000 in
theorem zk_X6_isAway : am_okm (zm_X6_isAway, zi_X6_isAway) := am_okm_of [174] (by decide +kernel) (by decide +kernel) (by decide +kernel) (by decide +kernel) (by decide +kernel) (List.mem_cons_of_mem _ (List.mem_of_getElem? (i := 471) (by decide +kernel)))
set_option maxRecDepth 100000 in
set_option maxHeartbeats 4000000 in
theorem zk_X6_turnAway : am_okm (zm_X6_turnAway, zi_X6_turnAway) := am_okm_of [174, 174] (by decide +kernel) (by decide +kernel) (by decide +kernel) (by decide +kernel) (by decide +kernel) (List.mem_cons_of_mem _ (List.mem_of_getElem? (i := 558) (by decide +kernel)))
set_option maxRecDepth 100000 in
set_option maxHeartbeats 4000000 in
theorem zk_X6_countPresent : am_okm (zm_X6_countPresent, zi_X6_countPresent) := am_okm_of [174, 750, 619, 51, 620] (by decide +kernel) (by decide +kernel) (by decide +kernel) (by decide +kernel) (by decide +kernel) (List.mem_cons_of_mem _ (List.mem_of_getElem? (i := 749) (by decide +kernel)))
set_option maxRecDepth 100000 in
set_option maxHeartbeats 4000000 in
theorem zk_X7_init : am_okm (zm_X7_init, zi_X7_init) := am_okm_of [65, 58, 59, 76, 66, 68] (by decide +kernel) (by decide +kernel) (by decide +kernel) (by decide +kernel) (by decide +kernel) (List.mem_cons_of_mem _ (List.mem_of_getElem? (i := 64) (by decide +kernel)))
set_option maxRecDepth 100000 in
set_option maxHeartbeats 4000000 in
theorem zk_X7_append : am_okm (zm_X7_append, zi_X7_append) := am_okm_of [68, 66, 68, 68, 68, 68] (by decide +kernel) (by decide +kernel) (by decide +kernel) (by decide +kernel) (by decide +kernel) (List.mem_cons_of_mem _ (List.mem_of_getElem? (i := 395) (by decide +kernel)))
set_option maxRecDepth 100000 in
set_option maxHeartbeats 4000000 in
theorem zk_X7_clear : am_okm (zm_X7_clear, zi_X7_clear) := am_okm_of [68, 68] (by decide +kernel) (by decide +kernel) (by decide +kernel) (by decide +kernel) (by decide +kernel) (List.mem_cons_of_mem _ (List.mem_of_getElem? (i := 403) (by decide +kernel)))
set_option maxRecDepth 100000 in
set_option maxHeartbeats 4000000 in
theorem zk_X8_init : am_okm (zm_X8_init, zi_X8_init) := am_okm_of [253, 58, 59, 76, 254, 76, 256, 76, 258, 76, 260, 76, 263, 76, 267, 76, 268] (by decide +kernel) (by decide +kernel) (by decide +kernel) (by decide +kernel) (by decide +kernel) (List.mem_cons_of_mem _ (List.mem_of_getElem? (i := 252) (by decide +kernel)))
set_option maxRecDepth 100000 in
set_option maxHeartbeats 4000000 in
theorem zk_X8_lookAt : am_okm (zm_X8_lookAt, zi_X8_lookAt) := am_okm_of [480, 481, 482, 45, 483, 499, 500, 501, 45, 502] (by decide +kernel) (by decide +kernel) (by decide +kernel) (by decide +kernel) (by decide +kernel) (List.mem_cons_of_mem _ (List.mem_of_getElem? (i := 479) (by decide +kernel)))
set_option maxRecDepth 100000 in
set_option maxHeartbeats 4000000 in
theorem zk_X8_hear : am_okm (zm_X8_hear, zi_X8_hear) := am_okm_of [178, 484, 485, 486, 40, 487, 98, 491, 469, 470, 41, 471, 254, 256, 492, 465, 466, 41, 467, 254, 105, 109, 494, 37, 495, 256, 254, 109, 497, 37, 498] (by decide +kernel) (by decide +kernel) (by decide +kernel) (by decide +kernel) (by decide +kernel) (List.mem_cons_of_mem _ (List.mem_of_getElem? (i := 483) (by decide +kernel)))
