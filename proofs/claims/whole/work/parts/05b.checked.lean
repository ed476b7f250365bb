/-! every method, checked -/
set_option maxRecDepth 100000 in
set_option maxHeartbeats 4000000 in
theorem zk_X8_pour : am_okm (zm_X8_pour, zi_X8_pour) := am_okm_of [90, 93, 98, 256, 159, 98, 98, 159, 162, 113, 503, 505, 4, 45, 506, 256] (by decide +kernel) (by decide +kernel) (by decide +kernel) (by decide +kernel) (by decide +kernel) (List.mem_cons_of_mem _ (List.mem_of_getElem? (i := 502) (by decide +kernel)))
set_option maxRecDepth 100000 in
set_option maxHeartbeats 4000000 in
theorem zk_X8_serve : am_okm (zm_X8_serve, zi_X8_serve) := am_okm_of [258, 260, 254, 507, 508, 50, 509, 263, 254, 260, 267, 260, 507, 508, 50, 509, 268, 260, 267] (by decide +kernel) (by decide +kernel) (by decide +kernel) (by decide +kernel) (by decide +kernel) (List.mem_cons_of_mem _ (List.mem_of_getElem? (i := 506) (by decide +kernel)))
set_option maxRecDepth 100000 in
set_option maxHeartbeats 4000000 in
theorem zk_X8_pass : am_okm (zm_X8_pass, zi_X8_pass) := am_okm_of [531, 477, 478, 45, 479, 98, 162, 267, 166, 263, 171, 178, 178] (by decide +kernel) (by decide +kernel) (by decide +kernel) (by decide +kernel) (by decide +kernel) (List.mem_cons_of_mem _ (List.mem_of_getElem? (i := 530) (by decide +kernel)))
set_option maxRecDepth 100000 in
set_option maxHeartbeats 4000000 in
theorem zk_X9_init : am_okm (zm_X9_init, zi_X9_init) := am_okm_of [88, 58, 59, 76, 104, 76, 108, 76, 112, 76, 117] (by decide +kernel) (by decide +kernel) (by decide +kernel) (by decide +kernel) (by decide +kernel) (List.mem_cons_of_mem _ (List.mem_of_getElem? (i := 87) (by decide +kernel)))
set_option maxRecDepth 100000 in
set_option maxHeartbeats 4000000 in
theorem zk_X9_clear : am_okm (zm_X9_clear, zi_X9_clear) := am_okm_of [89, 92, 95, 101] (by decide +kernel) (by decide +kernel) (by decide +kernel) (by decide +kernel) (by decide +kernel) (List.mem_cons_of_mem _ (List.mem_of_getElem? (i := 415) (by decide +kernel)))
set_option maxRecDepth 100000 in
set_option maxHeartbeats 4000000 in
theorem zk_X9_copyFrom : am_okm (zm_X9_copyFrom, zi_X9_copyFrom) := am_okm_of [89, 89, 92, 92, 95, 95, 101, 101, 104, 104, 440, 442, 441, 49, 108, 108, 440, 442, 441, 49, 112, 112, 440, 442, 441, 49, 117, 117, 440, 442, 441, 49] (by decide +kernel) (by decide +kernel) (by decide +kernel) (by decide +kernel) (by decide +kernel) (List.mem_cons_of_mem _ (List.mem_of_getElem? (i := 439) (by decide +kernel)))
set_option maxRecDepth 100000 in
set_option maxHeartbeats 4000000 in
theorem zk_X9_heatOn : am_okm (zm_X9_heatOn, zi_X9_heatOn) := am_okm_of [101, 117, 101, 488, 489, 50, 490] (by decide +kernel) (by decide +kernel) (by decide +kernel) (by decide +kernel) (by decide +kernel) (List.mem_cons_of_mem _ (List.mem_of_getElem? (i := 487) (by decide +kernel)))
set_option maxRecDepth 100000 in
set_option maxHeartbeats 4000000 in
theorem zk_X10_init : am_okm (zm_X10_init, zi_X10_init) := am_okm_of [57, 58, 59, 60, 61, 38, 62, 63, 38, 64, 351, 77, 78, 39, 79, 80, 39, 81, 352, 141, 84, 40, 142, 86, 40, 87, 353, 143, 144, 41, 145, 146, 41, 147, 354, 193, 194, 42, 195, 196, 42, 197, 355, 213, 214, 43, 215, 216, 43, 217, 356, 228, 229, 44, 230, 231, 44, 232, 357, 248, 249, 45, 250, 251, 45, 252, 358, 286, 287, 46, 288, 289, 46, 290, 359, 316, 317, 47, 318, 319, 47, 320, 360, 361] (by decide +kernel) (by decide +kernel) (by decide +kernel) (by decide +kernel) (by decide +kernel) (List.mem_cons_of_mem _ (List.mem_of_getElem? (i := 56) (by decide +kernel)))
set_option maxRecDepth 100000 in
set_option maxHeartbeats 4000000 in
theorem zk_X10_write : am_okm (zm_X10_write, zi_X10_write) := am_okm_of [389, 390, 37, 391, 351, 392, 393, 394, 38, 395] (by decide +kernel) (by decide +kernel) (by decide +kernel) (by decide +kernel) (by decide +kernel) (List.mem_cons_of_mem _ (List.mem_of_getElem? (i := 388) (by decide +kernel)))
set_option maxRecDepth 100000 in
set_option maxHeartbeats 4000000 in
theorem zk_X10_wipe : am_okm (zm_X10_wipe, zi_X10_wipe) := am_okm_of [351, 400, 401, 402, 38, 403] (by decide +kernel) (by decide +kernel) (by decide +kernel) (by decide +kernel) (by decide +kernel) (List.mem_cons_of_mem _ (List.mem_of_getElem? (i := 399) (by decide +kernel)))
set_option maxRecDepth 100000 in
set_option maxHeartbeats 4000000 in
theorem zk_X10_fault : am_okm (zm_X10_fault, zi_X10_fault) := am_okm_of [352, 351, 408, 409, 410, 39, 411] (by decide +kernel) (by decide +kernel) (by decide +kernel) (by decide +kernel) (by decide +kernel) (List.mem_cons_of_mem _ (List.mem_of_getElem? (i := 407) (by decide +kernel)))
set_option maxRecDepth 100000 in
set_option maxHeartbeats 4000000 in
theorem zk_X10_row : am_okm (zm_X10_row, zi_X10_row) := am_okm_of [352, 351, 408, 409, 410, 39, 411, 353, 352, 137, 436, 437, 438, 40, 439, 354, 443, 150, 151, 41, 152, 355, 444, 445, 446, 42, 447, 356, 448, 449, 450, 43, 451, 353, 100, 353, 103] (by decide +kernel) (by decide +kernel) (by decide +kernel) (by decide +kernel) (by decide +kernel) (List.mem_cons_of_mem _ (List.mem_of_getElem? (i := 435) (by decide +kernel)))
set_option maxRecDepth 100000 in
set_option maxHeartbeats 4000000 in
theorem zk_X10_house : am_okm (zm_X10_house, zi_X10_house) := am_okm_of [456, 458, 3, 37, 459, 353, 107, 353, 111, 353, 115, 354, 163, 354, 460, 461, 462, 41, 463, 354, 167, 354, 464, 465, 466, 41, 467, 354, 468, 469, 470, 41, 471] (by decide +kernel) (by decide +kernel) (by decide +kernel) (by decide +kernel) (by decide +kernel) (List.mem_cons_of_mem _ (List.mem_of_getElem? (i := 455) (by decide +kernel)))
set_option maxRecDepth 100000 in
set_option maxHeartbeats 4000000 in
theorem zk_X10_today : am_okm (zm_X10_today, zi_X10_today) := am_okm_of [456, 458, 3, 37, 459, 358, 353, 354, 476, 477, 478, 45, 479, 358, 255, 358, 257, 358, 259, 358, 262, 358, 266, 358, 270] (by decide +kernel) (by decide +kernel) (by decide +kernel) (by decide +kernel) (by decide +kernel) (List.mem_cons_of_mem _ (List.mem_of_getElem? (i := 475) (by decide +kernel)))
set_option maxRecDepth 100000 in
set_option maxHeartbeats 4000000 in
theorem zk_X10_at : am_okm (zm_X10_at, zi_X10_at) := am_okm_of [353, 100, 389, 390, 37, 391, 354, 160] (by decide +kernel) (by decide +kernel) (by decide +kernel) (by decide +kernel) (by decide +kernel) (List.mem_cons_of_mem _ (List.mem_of_getElem? (i := 513) (by decide +kernel)))
set_option maxRecDepth 100000 in
set_option maxHeartbeats 4000000 in
theorem zk_X10_day : am_okm (zm_X10_day, zi_X10_day) := am_okm_of [355, 354, 518, 519, 520, 42, 521, 358, 353, 354, 527, 528, 529, 45, 530, 358, 266, 353, 100, 532, 533, 37, 534] (by decide +kernel) (by decide +kernel) (by decide +kernel) (by decide +kernel) (by decide +kernel) (List.mem_cons_of_mem _ (List.mem_of_getElem? (i := 517) (by decide +kernel)))
set_option maxRecDepth 100000 in
set_option maxHeartbeats 4000000 in
theorem zk_X10_swap : am_okm (zm_X10_swap, zi_X10_swap) := am_okm_of [456, 458, 3, 37, 459, 456, 458, 3, 37, 459, 355, 354, 518, 519, 520, 42, 521, 354, 539, 540, 541, 41, 542, 354, 460, 461, 462, 41, 463] (by decide +kernel) (by decide +kernel) (by decide +kernel) (by decide +kernel) (by decide +kernel) (List.mem_cons_of_mem _ (List.mem_of_getElem? (i := 538) (by decide +kernel)))
set_option maxRecDepth 100000 in
set_option maxHeartbeats 4000000 in
theorem zk_X10_salt : am_okm (zm_X10_salt, zi_X10_salt) := am_okm_of [456, 458, 3, 37, 459, 354, 464, 465, 466, 41, 467, 355, 354, 518, 519, 520, 42, 521, 354, 547, 548, 549, 41, 550, 358, 353, 354, 476, 477, 478, 45, 479, 358, 255] (by decide +kernel) (by decide +kernel) (by decide +kernel) (by decide +kernel) (by decide +kernel) (List.mem_cons_of_mem _ (List.mem_of_getElem? (i := 546) (by decide +kernel)))
set_option maxRecDepth 100000 in
set_option maxHeartbeats 4000000 in
theorem zk_X10_away : am_okm (zm_X10_away, zi_X10_away) := am_okm_of [456, 458, 3, 37, 459, 355, 354, 518, 519, 520, 42, 521, 354, 555, 556, 557, 41, 558, 354, 468, 469, 470, 41, 471] (by decide +kernel) (by decide +kernel) (by decide +kernel) (by decide +kernel) (by decide +kernel) (List.mem_cons_of_mem _ (List.mem_of_getElem? (i := 554) (by decide +kernel)))
set_option maxRecDepth 100000 in
set_option maxHeartbeats 4000000 in
theorem zk_X10_undo : am_okm (zm_X10_undo, zi_X10_undo) := am_okm_of [355, 354, 563, 564, 565, 42, 566, 355, 205] (by decide +kernel) (by decide +kernel) (by decide +kernel) (by decide +kernel) (by decide +kernel) (List.mem_cons_of_mem _ (List.mem_of_getElem? (i := 562) (by decide +kernel)))
set_option maxRecDepth 100000 in
set_option maxHeartbeats 4000000 in
theorem zk_X10_ahead : am_okm (zm_X10_ahead, zi_X10_ahead) := am_okm_of [389, 390, 37, 391, 389, 390, 37, 391, 359, 353, 354, 571, 572, 573, 46, 574] (by decide +kernel) (by decide +kernel) (by decide +kernel) (by decide +kernel) (by decide +kernel) (List.mem_cons_of_mem _ (List.mem_of_getElem? (i := 570) (by decide +kernel)))
set_option maxRecDepth 100000 in
set_option maxHeartbeats 4000000 in
theorem zk_X10_order : am_okm (zm_X10_order, zi_X10_order) := am_okm_of [359, 353, 354, 582, 583, 584, 46, 585, 359, 304, 359, 302] (by decide +kernel) (by decide +kernel) (by decide +kernel) (by decide +kernel) (by decide +kernel) (List.mem_cons_of_mem _ (List.mem_of_getElem? (i := 581) (by decide +kernel)))
set_option maxRecDepth 100000 in
set_option maxHeartbeats 4000000 in
theorem zk_X10_worst : am_okm (zm_X10_worst, zi_X10_worst) := am_okm_of [359, 353, 354, 582, 583, 584, 46, 585, 359, 304, 359, 302] (by decide +kernel) (by decide +kernel) (by decide +kernel) (by decide +kernel) (by decide +kernel) (List.mem_cons_of_mem _ (List.mem_of_getElem? (i := 609) (by decide +kernel)))
set_option maxRecDepth 100000 in
set_option maxHeartbeats 4000000 in
theorem zk_X10_salts : am_okm (zm_X10_salts, zi_X10_salts) := am_okm_of [456, 458, 3, 37, 459, 359, 353, 354, 614, 615, 616, 46, 617] (by decide +kernel) (by decide +kernel) (by decide +kernel) (by decide +kernel) (by decide +kernel) (List.mem_cons_of_mem _ (List.mem_of_getElem? (i := 613) (by decide +kernel)))
set_option maxRecDepth 100000 in
set_option maxHeartbeats 4000000 in
theorem zk_X10_cask : am_okm (zm_X10_cask, zi_X10_cask) := am_okm_of [456, 458, 3, 37, 459, 359, 353, 354, 629, 630, 631, 46, 632] (by decide +kernel) (by decide +kernel) (by decide +kernel) (by decide +kernel) (by decide +kernel) (List.mem_cons_of_mem _ (List.mem_of_getElem? (i := 628) (by decide +kernel)))
set_option maxRecDepth 100000 in
set_option maxHeartbeats 4000000 in
theorem zk_X10_judge : am_okm (zm_X10_judge, zi_X10_judge) := am_okm_of [389, 390, 37, 391, 638, 639, 37, 640, 359, 353, 354, 642, 643, 644, 46, 645] (by decide +kernel) (by decide +kernel) (by decide +kernel) (by decide +kernel) (by decide +kernel) (List.mem_cons_of_mem _ (List.mem_of_getElem? (i := 637) (by decide +kernel)))
set_option maxRecDepth 100000 in
set_option maxHeartbeats 4000000 in
theorem zk_X10_see : am_okm (zm_X10_see, zi_X10_see) := am_okm_of [456, 458, 3, 37, 459, 389, 390, 37, 391, 389, 390, 37, 391, 357, 668, 669, 670, 44, 671] (by decide +kernel) (by decide +kernel) (by decide +kernel) (by decide +kernel) (by decide +kernel) (List.mem_cons_of_mem _ (List.mem_of_getElem? (i := 667) (by decide +kernel)))
set_option maxRecDepth 100000 in
set_option maxHeartbeats 4000000 in
theorem zk_X10_unsee : am_okm (zm_X10_unsee, zi_X10_unsee) := am_okm_of [357, 676, 677, 678, 44, 679] (by decide +kernel) (by decide +kernel) (by decide +kernel) (by decide +kernel) (by decide +kernel) (List.mem_cons_of_mem _ (List.mem_of_getElem? (i := 675) (by decide +kernel)))
set_option maxRecDepth 100000 in
set_option maxHeartbeats 4000000 in
theorem zk_X10_wants : am_okm (zm_X10_wants, zi_X10_wants) := am_okm_of [456, 458, 3, 37, 459, 357, 353, 111, 684, 685, 686, 44, 687] (by decide +kernel) (by decide +kernel) (by decide +kernel) (by decide +kernel) (by decide +kernel) (List.mem_cons_of_mem _ (List.mem_of_getElem? (i := 683) (by decide +kernel)))
set_option maxRecDepth 100000 in
set_option maxHeartbeats 4000000 in
theorem zk_X10_share : am_okm (zm_X10_share, zi_X10_share) := am_okm_of [456, 458, 3, 37, 459, 360, 353, 354, 698, 699, 700, 47, 701, 353, 100, 715, 711, 37, 712, 716, 717, 37, 718] (by decide +kernel) (by decide +kernel) (by decide +kernel) (by decide +kernel) (by decide +kernel) (List.mem_cons_of_mem _ (List.mem_of_getElem? (i := 697) (by decide +kernel)))
set_option maxRecDepth 100000 in
set_option maxHeartbeats 4000000 in
theorem zk_X10_rests : am_okm (zm_X10_rests, zi_X10_rests) := am_okm_of [456, 458, 3, 37, 459, 456, 458, 3, 37, 459, 389, 390, 37, 391, 360, 353, 354, 729, 730, 731, 47, 732, 360, 331, 360, 333] (by decide +kernel) (by decide +kernel) (by decide +kernel) (by decide +kernel) (by decide +kernel) (List.mem_cons_of_mem _ (List.mem_of_getElem? (i := 728) (by decide +kernel)))
set_option maxRecDepth 100000 in
set_option maxHeartbeats 4000000 in
theorem zk_X10_guests : am_okm (zm_X10_guests, zi_X10_guests) := am_okm_of [389, 390, 37, 391, 389, 390, 37, 391, 360, 353, 354, 742, 743, 744, 47, 745, 354, 353, 100, 756, 747, 748, 41, 749, 757, 754, 37, 755, 716, 717, 37, 718] (by decide +kernel) (by decide +kernel) (by decide +kernel) (by decide +kernel) (by decide +kernel) (List.mem_cons_of_mem _ (List.mem_of_getElem? (i := 741) (by decide +kernel)))
set_option maxRecDepth 100000 in
set_option maxHeartbeats 4000000 in
theorem zk_X10_seed : am_okm (zm_X10_seed, zi_X10_seed) := am_okm_of [361, 361] (by decide +kernel) (by decide +kernel) (by decide +kernel) (by decide +kernel) (by decide +kernel) (List.mem_cons_of_mem _ (List.mem_of_getElem? (i := 761) (by decide +kernel)))
set_option maxRecDepth 100000 in
set_option maxHeartbeats 4000000 in
theorem zk_X10_weeks : am_okm (zm_X10_weeks, zi_X10_weeks) := am_okm_of [389, 390, 37, 391, 360, 353, 354, 361, 766, 767, 768, 47, 769, 360, 335, 361] (by decide +kernel) (by decide +kernel) (by decide +kernel) (by decide +kernel) (by decide +kernel) (List.mem_cons_of_mem _ (List.mem_of_getElem? (i := 765) (by decide +kernel)))
set_option maxRecDepth 100000 in
set_option maxHeartbeats 4000000 in
theorem zk_X10_keep : am_okm (zm_X10_keep, zi_X10_keep) := am_okm_of [389, 390, 37, 391, 356, 354, 784, 785, 786, 43, 787, 354, 179] (by decide +kernel) (by decide +kernel) (by decide +kernel) (by decide +kernel) (by decide +kernel) (List.mem_cons_of_mem _ (List.mem_of_getElem? (i := 783) (by decide +kernel)))
set_option maxRecDepth 100000 in
set_option maxHeartbeats 4000000 in
theorem zk_X10_again : am_okm (zm_X10_again, zi_X10_again) := am_okm_of [389, 390, 37, 391, 356, 354, 793, 794, 795, 43, 796, 355, 444, 445, 446, 42, 447, 354, 179] (by decide +kernel) (by decide +kernel) (by decide +kernel) (by decide +kernel) (by decide +kernel) (List.mem_cons_of_mem _ (List.mem_of_getElem? (i := 792) (by decide +kernel)))
set_option maxRecDepth 100000 in
set_option maxHeartbeats 4000000 in
theorem zk_X10_count : am_okm (zm_X10_count, zi_X10_count) := am_okm_of [351, 70, 353, 100, 353, 103, 354, 179, 353, 354, 179, 801, 485, 486, 40, 487, 802, 804, 14, 37, 805, 354, 167, 353, 100, 532, 533, 37, 534, 354, 173, 354, 176, 355, 205, 357, 238] (by decide +kernel) (by decide +kernel) (by decide +kernel) (by decide +kernel) (by decide +kernel) (List.mem_cons_of_mem _ (List.mem_of_getElem? (i := 800) (by decide +kernel)))
set_option maxRecDepth 100000 in
set_option maxHeartbeats 4000000 in
theorem zk_X10_isHouse : am_okm (zm_X10_isHouse, zi_X10_isHouse) := am_okm_of [353, 100, 389, 390, 37, 391] (by decide +kernel) (by decide +kernel) (by decide +kernel) (by decide +kernel) (by decide +kernel) (List.mem_cons_of_mem _ (List.mem_of_getElem? (i := 459) (by decide +kernel)))
set_option maxRecDepth 100000 in
set_option maxHeartbeats 4000000 in
theorem zk_X10_lackingToday : am_okm (zm_X10_lackingToday, zi_X10_lackingToday) := am_okm_of [358, 353, 354, 476, 477, 478, 45, 479, 358, 266, 353, 100, 532, 533, 37, 534] (by decide +kernel) (by decide +kernel) (by decide +kernel) (by decide +kernel) (by decide +kernel) (List.mem_cons_of_mem _ (List.mem_of_getElem? (i := 805) (by decide +kernel)))
set_option maxRecDepth 100000 in
set_option maxHeartbeats 4000000 in
theorem zk_X10_within : am_okm (zm_X10_within, zi_X10_within) := am_okm_of [] (by decide +kernel) (by decide +kernel) (by decide +kernel) (by decide +kernel) (by decide +kernel) (List.mem_cons_of_mem _ (List.mem_of_getElem? (i := 391) (by decide +kernel)))
set_option maxRecDepth 100000 in
set_option maxHeartbeats 4000000 in
theorem zk_X10_sum : am_okm (zm_X10_sum, zi_X10_sum) := am_okm_of [] (by decide +kernel) (by decide +kernel) (by decide +kernel) (by decide +kernel) (by decide +kernel) (List.mem_cons_of_mem _ (List.mem_of_getElem? (i := 534) (by decide +kernel)))
set_option maxRecDepth 100000 in
set_option maxHeartbeats 4000000 in
theorem zk_X10_greatest : am_okm (zm_X10_greatest, zi_X10_greatest) := am_okm_of [592, 593, 50, 594] (by decide +kernel) (by decide +kernel) (by decide +kernel) (by decide +kernel) (by decide +kernel) (List.mem_cons_of_mem _ (List.mem_of_getElem? (i := 591) (by decide +kernel)))
set_option maxRecDepth 100000 in
set_option maxHeartbeats 4000000 in
theorem zk_X10_ordersOf : am_okm (zm_X10_ordersOf, zi_X10_ordersOf) := am_okm_of [713, 389, 390, 37, 391, 713] (by decide +kernel) (by decide +kernel) (by decide +kernel) (by decide +kernel) (by decide +kernel) (List.mem_cons_of_mem _ (List.mem_of_getElem? (i := 712) (by decide +kernel)))
set_option maxRecDepth 100000 in
set_option maxHeartbeats 4000000 in
theorem zk_X10_power : am_okm (zm_X10_power, zi_X10_power) := am_okm_of [] (by decide +kernel) (by decide +kernel) (by decide +kernel) (by decide +kernel) (by decide +kernel) (List.mem_cons_of_mem _ (List.mem_of_getElem? (i := 755) (by decide +kernel)))
set_option maxRecDepth 100000 in
set_option maxHeartbeats 4000000 in
theorem zk_X10_wantByKind : am_okm (zm_X10_wantByKind, zi_X10_wantByKind) := am_okm_of [] (by decide +kernel) (by decide +kernel) (by decide +kernel) (by decide +kernel) (by decide +kernel) (List.mem_cons_of_mem _ (List.mem_of_getElem? (i := 495) (by decide +kernel)))
set_option maxRecDepth 100000 in
set_option maxHeartbeats 4000000 in
theorem zk_X10_lieOf : am_okm (zm_X10_lieOf, zi_X10_lieOf) := am_okm_of [] (by decide +kernel) (by decide +kernel) (by decide +kernel) (by decide +kernel) (by decide +kernel) (List.mem_cons_of_mem _ (List.mem_of_getElem? (i := 498) (by decide +kernel)))
set_option maxRecDepth 100000 in
set_option maxHeartbeats 4000000 in
theorem zk_X10_withoutDoings : am_okm (zm_X10_withoutDoings, zi_X10_withoutDoings) := am_okm_of [641] (by decide +kernel) (by decide +kernel) (by decide +kernel) (by decide +kernel) (by decide +kernel) (List.mem_cons_of_mem _ (List.mem_of_getElem? (i := 640) (by decide +kernel)))
set_option maxRecDepth 100000 in
set_option maxHeartbeats 4000000 in
theorem zk_X10_inLeastTerms : am_okm (zm_X10_inLeastTerms, zi_X10_inLeastTerms) := am_okm_of [719, 720, 50, 721, 722, 723, 37, 724, 592, 593, 50, 594] (by decide +kernel) (by decide +kernel) (by decide +kernel) (by decide +kernel) (by decide +kernel) (List.mem_cons_of_mem _ (List.mem_of_getElem? (i := 718) (by decide +kernel)))
set_option maxRecDepth 100000 in
set_option maxHeartbeats 4000000 in
theorem zk_X10_commonDivisor : am_okm (zm_X10_commonDivisor, zi_X10_commonDivisor) := am_okm_of [] (by decide +kernel) (by decide +kernel) (by decide +kernel) (by decide +kernel) (by decide +kernel) (List.mem_cons_of_mem _ (List.mem_of_getElem? (i := 724) (by decide +kernel)))
set_option maxRecDepth 100000 in
set_option maxHeartbeats 4000000 in
theorem zk_X11_init : am_okm (zm_X11_init, zi_X11_init) := am_okm_of [811, 58, 59, 76, 816, 76, 817, 76, 818, 76, 819, 76, 820, 76, 821, 76, 822, 76, 825, 76, 829, 76, 833, 76, 834, 76, 836, 76, 837, 76, 838, 903, 840, 76, 841] (by decide +kernel) (by decide +kernel) (by decide +kernel) (by decide +kernel) (by decide +kernel) (List.mem_cons_of_mem _ (List.mem_of_getElem? (i := 810) (by decide +kernel)))
set_option maxRecDepth 100000 in
set_option maxHeartbeats 4000000 in
theorem zk_X11_in : am_okm (zm_X11_in, zi_X11_in) := am_okm_of [] (by decide +kernel) (by decide +kernel) (by decide +kernel) (by decide +kernel) (by decide +kernel) (List.mem_cons_of_mem _ (List.mem_of_getElem? (i := 911) (by decide +kernel)))
set_option maxRecDepth 100000 in
set_option maxHeartbeats 4000000 in
theorem zk_X11_has : am_okm (zm_X11_has, zi_X11_has) := am_okm_of [] (by decide +kernel) (by decide +kernel) (by decide +kernel) (by decide +kernel) (by decide +kernel) (List.mem_cons_of_mem _ (List.mem_of_getElem? (i := 951) (by decide +kernel)))
set_option maxRecDepth 100000 in
set_option maxHeartbeats 4000000 in
theorem zk_X11_ones : am_okm (zm_X11_ones, zi_X11_ones) := am_okm_of [] (by decide +kernel) (by decide +kernel) (by decide +kernel) (by decide +kernel) (by decide +kernel) (List.mem_cons_of_mem _ (List.mem_of_getElem? (i := 1054) (by decide +kernel)))
set_option maxRecDepth 100000 in
set_option maxHeartbeats 4000000 in
theorem zk_X11_write : am_okm (zm_X11_write, zi_X11_write) := am_okm_of [908, 909, 910, 48, 911, 826, 825, 826, 826, 826, 826] (by decide +kernel) (by decide +kernel) (by decide +kernel) (by decide +kernel) (by decide +kernel) (List.mem_cons_of_mem _ (List.mem_of_getElem? (i := 907) (by decide +kernel)))
set_option maxRecDepth 100000 in
set_option maxHeartbeats 4000000 in
theorem zk_X11_wipe : am_okm (zm_X11_wipe, zi_X11_wipe) := am_okm_of [826, 826] (by decide +kernel) (by decide +kernel) (by decide +kernel) (by decide +kernel) (by decide +kernel) (List.mem_cons_of_mem _ (List.mem_of_getElem? (i := 915) (by decide +kernel)))
set_option maxRecDepth 100000 in
set_option maxHeartbeats 4000000 in
theorem zk_X11_figure : am_okm (zm_X11_figure, zi_X11_figure) := am_okm_of [828, 827, 826, 825, 827, 909, 910, 48, 911, 828, 827, 828, 828, 827, 827] (by decide +kernel) (by decide +kernel) (by decide +kernel) (by decide +kernel) (by decide +kernel) (List.mem_cons_of_mem _ (List.mem_of_getElem? (i := 927) (by decide +kernel)))
