/-! every method, checked -/
set_option maxRecDepth 100000 in
set_option maxHeartbeats 4000000 in
theorem zk_X11_readText : am_okm (zm_X11_readText, zi_X11_readText) := am_okm_of [827, 828, 823, 824, 826, 825, 827, 924, 926, 16, 48, 927, 924, 926, 16, 48, 927, 828, 827, 826, 825, 827, 823, 827, 827, 821, 823, 924, 926, 16, 48, 927, 821, 823, 924, 926, 16, 48, 927, 821, 823, 924, 926, 16, 48, 927, 823, 823, 825, 827, 824, 827, 827, 822, 824, 924, 926, 16, 48, 927, 824, 824, 827, 828, 828] (by decide +kernel) (by decide +kernel) (by decide +kernel) (by decide +kernel) (by decide +kernel) (List.mem_cons_of_mem _ (List.mem_of_getElem? (i := 923) (by decide +kernel)))
set_option maxRecDepth 100000 in
set_option maxHeartbeats 4000000 in
theorem zk_X11_fault : am_okm (zm_X11_fault, zi_X11_fault) := am_okm_of [920, 922, 15, 48, 923] (by decide +kernel) (by decide +kernel) (by decide +kernel) (by decide +kernel) (by decide +kernel) (List.mem_cons_of_mem _ (List.mem_of_getElem? (i := 919) (by decide +kernel)))
set_option maxRecDepth 100000 in
set_option maxHeartbeats 4000000 in
theorem zk_X11_row : am_okm (zm_X11_row, zi_X11_row) := am_okm_of [920, 922, 15, 48, 923, 823, 812, 824, 813, 825, 814, 825, 815, 820, 812, 816, 821, 817, 821, 818, 821, 820, 813, 819, 822, 831, 840, 840, 812, 813] (by decide +kernel) (by decide +kernel) (by decide +kernel) (by decide +kernel) (by decide +kernel) (List.mem_cons_of_mem _ (List.mem_of_getElem? (i := 931) (by decide +kernel)))
set_option maxRecDepth 100000 in
set_option maxHeartbeats 4000000 in
theorem zk_X11_isHouse : am_okm (zm_X11_isHouse, zi_X11_isHouse) := am_okm_of [812, 909, 910, 48, 911] (by decide +kernel) (by decide +kernel) (by decide +kernel) (by decide +kernel) (by decide +kernel) (List.mem_cons_of_mem _ (List.mem_of_getElem? (i := 939) (by decide +kernel)))
set_option maxRecDepth 100000 in
set_option maxHeartbeats 4000000 in
theorem zk_X11_every : am_okm (zm_X11_every, zi_X11_every) := am_okm_of [812] (by decide +kernel) (by decide +kernel) (by decide +kernel) (by decide +kernel) (by decide +kernel) (List.mem_cons_of_mem _ (List.mem_of_getElem? (i := 1051) (by decide +kernel)))
set_option maxRecDepth 100000 in
set_option maxHeartbeats 4000000 in
theorem zk_X11_heatOn : am_okm (zm_X11_heatOn, zi_X11_heatOn) := am_okm_of [813, 819, 820, 813] (by decide +kernel) (by decide +kernel) (by decide +kernel) (by decide +kernel) (by decide +kernel) (List.mem_cons_of_mem _ (List.mem_of_getElem? (i := 958) (by decide +kernel)))
set_option maxRecDepth 100000 in
set_option maxHeartbeats 4000000 in
theorem zk_X11_wantBy : am_okm (zm_X11_wantBy, zi_X11_wantBy) := am_okm_of [] (by decide +kernel) (by decide +kernel) (by decide +kernel) (by decide +kernel) (by decide +kernel) (List.mem_cons_of_mem _ (List.mem_of_getElem? (i := 954) (by decide +kernel)))
set_option maxRecDepth 100000 in
set_option maxHeartbeats 4000000 in
theorem zk_X11_houseAt : am_okm (zm_X11_houseAt, zi_X11_houseAt) := am_okm_of [812, 820] (by decide +kernel) (by decide +kernel) (by decide +kernel) (by decide +kernel) (by decide +kernel) (List.mem_cons_of_mem _ (List.mem_of_getElem? (i := 962) (by decide +kernel)))
set_option maxRecDepth 100000 in
set_option maxHeartbeats 4000000 in
theorem zk_X11_layToday : am_okm (zm_X11_layToday, zi_X11_layToday) := am_okm_of [812, 820, 949, 950, 48, 951, 817, 816, 952, 953, 48, 954, 955, 957, 19, 48, 958, 820, 949, 950, 48, 951, 830, 949, 950, 48, 951, 829, 829, 817, 812, 820, 959, 961, 20, 48, 962, 815, 812, 959, 961, 20, 48, 962, 814, 829, 820, 829, 829, 829, 829, 829, 829, 829, 818, 818] (by decide +kernel) (by decide +kernel) (by decide +kernel) (by decide +kernel) (by decide +kernel) (List.mem_cons_of_mem _ (List.mem_of_getElem? (i := 948) (by decide +kernel)))
set_option maxRecDepth 100000 in
set_option maxHeartbeats 4000000 in
theorem zk_X11_sumOf : am_okm (zm_X11_sumOf, zi_X11_sumOf) := am_okm_of [812, 829] (by decide +kernel) (by decide +kernel) (by decide +kernel) (by decide +kernel) (by decide +kernel) (List.mem_cons_of_mem _ (List.mem_of_getElem? (i := 982) (by decide +kernel)))
set_option maxRecDepth 100000 in
set_option maxHeartbeats 4000000 in
theorem zk_X11_passOn : am_okm (zm_X11_passOn, zi_X11_passOn) := am_okm_of [945, 947, 18, 48, 948, 812, 820, 829, 820, 829, 829, 829, 820, 820, 979, 981, 23, 48, 982] (by decide +kernel) (by decide +kernel) (by decide +kernel) (by decide +kernel) (by decide +kernel) (List.mem_cons_of_mem _ (List.mem_of_getElem? (i := 978) (by decide +kernel)))
set_option maxRecDepth 100000 in
set_option maxHeartbeats 4000000 in
theorem zk_X11_lackedOn : am_okm (zm_X11_lackedOn, zi_X11_lackedOn) := am_okm_of [812, 820] (by decide +kernel) (by decide +kernel) (by decide +kernel) (by decide +kernel) (by decide +kernel) (List.mem_cons_of_mem _ (List.mem_of_getElem? (i := 1015) (by decide +kernel)))
set_option maxRecDepth 100000 in
set_option maxHeartbeats 4000000 in
theorem zk_X11_house : am_okm (zm_X11_house, zi_X11_house) := am_okm_of [936, 938, 17, 48, 939, 816, 817, 818, 820, 820, 820, 820, 820] (by decide +kernel) (by decide +kernel) (by decide +kernel) (by decide +kernel) (by decide +kernel) (List.mem_cons_of_mem _ (List.mem_of_getElem? (i := 935) (by decide +kernel)))
set_option maxRecDepth 100000 in
set_option maxHeartbeats 4000000 in
theorem zk_X11_today : am_okm (zm_X11_today, zi_X11_today) := am_okm_of [936, 938, 17, 48, 939, 944, 909, 910, 48, 911, 945, 947, 18, 48, 948, 829] (by decide +kernel) (by decide +kernel) (by decide +kernel) (by decide +kernel) (by decide +kernel) (List.mem_cons_of_mem _ (List.mem_of_getElem? (i := 943) (by decide +kernel)))
set_option maxRecDepth 100000 in
set_option maxHeartbeats 4000000 in
theorem zk_X11_at : am_okm (zm_X11_at, zi_X11_at) := am_okm_of [959, 961, 20, 48, 962] (by decide +kernel) (by decide +kernel) (by decide +kernel) (by decide +kernel) (by decide +kernel) (List.mem_cons_of_mem _ (List.mem_of_getElem? (i := 966) (by decide +kernel)))
set_option maxRecDepth 100000 in
set_option maxHeartbeats 4000000 in
theorem zk_X11_keepAct : am_okm (zm_X11_keepAct, zi_X11_keepAct) := am_okm_of [833, 832, 820, 832, 832, 831, 831, 831] (by decide +kernel) (by decide +kernel) (by decide +kernel) (by decide +kernel) (by decide +kernel) (List.mem_cons_of_mem _ (List.mem_of_getElem? (i := 974) (by decide +kernel)))
set_option maxRecDepth 100000 in
set_option maxHeartbeats 4000000 in
theorem zk_X11_day : am_okm (zm_X11_day, zi_X11_day) := am_okm_of [971, 973, 21, 48, 974, 975, 977, 22, 48, 978] (by decide +kernel) (by decide +kernel) (by decide +kernel) (by decide +kernel) (by decide +kernel) (List.mem_cons_of_mem _ (List.mem_of_getElem? (i := 970) (by decide +kernel)))
set_option maxRecDepth 100000 in
set_option maxHeartbeats 4000000 in
theorem zk_X11_swapOn : am_okm (zm_X11_swapOn, zi_X11_swapOn) := am_okm_of [820, 820, 820, 820] (by decide +kernel) (by decide +kernel) (by decide +kernel) (by decide +kernel) (by decide +kernel) (List.mem_cons_of_mem _ (List.mem_of_getElem? (i := 990) (by decide +kernel)))
set_option maxRecDepth 100000 in
set_option maxHeartbeats 4000000 in
theorem zk_X11_swap : am_okm (zm_X11_swap, zi_X11_swap) := am_okm_of [936, 938, 17, 48, 939, 936, 938, 17, 48, 939, 971, 973, 21, 48, 974, 987, 989, 24, 48, 990, 820] (by decide +kernel) (by decide +kernel) (by decide +kernel) (by decide +kernel) (by decide +kernel) (List.mem_cons_of_mem _ (List.mem_of_getElem? (i := 986) (by decide +kernel)))
set_option maxRecDepth 100000 in
set_option maxHeartbeats 4000000 in
theorem zk_X11_salt : am_okm (zm_X11_salt, zi_X11_salt) := am_okm_of [936, 938, 17, 48, 939, 820, 949, 950, 48, 951, 971, 973, 21, 48, 974, 820, 945, 947, 18, 48, 948, 829] (by decide +kernel) (by decide +kernel) (by decide +kernel) (by decide +kernel) (by decide +kernel) (List.mem_cons_of_mem _ (List.mem_of_getElem? (i := 994) (by decide +kernel)))
set_option maxRecDepth 100000 in
set_option maxHeartbeats 4000000 in
theorem zk_X11_away : am_okm (zm_X11_away, zi_X11_away) := am_okm_of [936, 938, 17, 48, 939, 971, 973, 21, 48, 974, 820, 820] (by decide +kernel) (by decide +kernel) (by decide +kernel) (by decide +kernel) (by decide +kernel) (List.mem_cons_of_mem _ (List.mem_of_getElem? (i := 998) (by decide +kernel)))
set_option maxRecDepth 100000 in
set_option maxHeartbeats 4000000 in
theorem zk_X11_undo : am_okm (zm_X11_undo, zi_X11_undo) := am_okm_of [831, 831, 831, 832, 832, 820, 833, 832, 831] (by decide +kernel) (by decide +kernel) (by decide +kernel) (by decide +kernel) (by decide +kernel) (List.mem_cons_of_mem _ (List.mem_of_getElem? (i := 1002) (by decide +kernel)))
set_option maxRecDepth 100000 in
set_option maxHeartbeats 4000000 in
theorem zk_X11_layTrial : am_okm (zm_X11_layTrial, zi_X11_layTrial) := am_okm_of [820, 820] (by decide +kernel) (by decide +kernel) (by decide +kernel) (by decide +kernel) (by decide +kernel) (List.mem_cons_of_mem _ (List.mem_of_getElem? (i := 1011) (by decide +kernel)))
set_option maxRecDepth 100000 in
set_option maxHeartbeats 4000000 in
theorem zk_X11_ahead : am_okm (zm_X11_ahead, zi_X11_ahead) := am_okm_of [1007, 909, 910, 48, 911, 909, 910, 48, 911, 1008, 1010, 25, 48, 1011, 975, 977, 22, 48, 978, 979, 981, 23, 48, 982, 1012, 1014, 26, 48, 1015, 1012, 1014, 26, 48, 1015] (by decide +kernel) (by decide +kernel) (by decide +kernel) (by decide +kernel) (by decide +kernel) (List.mem_cons_of_mem _ (List.mem_of_getElem? (i := 1006) (by decide +kernel)))
set_option maxRecDepth 100000 in
set_option maxHeartbeats 4000000 in
theorem zk_X11_nextOrder : am_okm (zm_X11_nextOrder, zi_X11_nextOrder) := am_okm_of [812, 834, 834, 812, 834, 834, 1036, 1038, 31, 48, 1039, 812, 1036, 1038, 31, 48, 1039] (by decide +kernel) (by decide +kernel) (by decide +kernel) (by decide +kernel) (by decide +kernel) (List.mem_cons_of_mem _ (List.mem_of_getElem? (i := 1035) (by decide +kernel)))
set_option maxRecDepth 100000 in
set_option maxHeartbeats 4000000 in
theorem zk_X11_exchange : am_okm (zm_X11_exchange, zi_X11_exchange) := am_okm_of [834, 834, 834, 834] (by decide +kernel) (by decide +kernel) (by decide +kernel) (by decide +kernel) (by decide +kernel) (List.mem_cons_of_mem _ (List.mem_of_getElem? (i := 1039) (by decide +kernel)))
set_option maxRecDepth 100000 in
set_option maxHeartbeats 4000000 in
theorem zk_X11_lackBy : am_okm (zm_X11_lackBy, zi_X11_lackBy) := am_okm_of [1008, 1010, 25, 48, 1011, 812, 820, 834, 945, 947, 18, 48, 948, 812, 829, 829, 979, 981, 23, 48, 982] (by decide +kernel) (by decide +kernel) (by decide +kernel) (by decide +kernel) (by decide +kernel) (List.mem_cons_of_mem _ (List.mem_of_getElem? (i := 1027) (by decide +kernel)))
set_option maxRecDepth 100000 in
set_option maxHeartbeats 4000000 in
theorem zk_X11_figures : am_okm (zm_X11_figures, zi_X11_figures) := am_okm_of [812, 834] (by decide +kernel) (by decide +kernel) (by decide +kernel) (by decide +kernel) (by decide +kernel) (List.mem_cons_of_mem _ (List.mem_of_getElem? (i := 1031) (by decide +kernel)))
set_option maxRecDepth 100000 in
set_option maxHeartbeats 4000000 in
theorem zk_X11_bestOrder : am_okm (zm_X11_bestOrder, zi_X11_bestOrder) := am_okm_of [812, 834, 1024, 1026, 28, 48, 1027, 1028, 1030, 29, 48, 1031, 1032, 1034, 30, 48, 1035, 1024, 1026, 28, 48, 1027, 1028, 1030, 29, 48, 1031] (by decide +kernel) (by decide +kernel) (by decide +kernel) (by decide +kernel) (by decide +kernel) (List.mem_cons_of_mem _ (List.mem_of_getElem? (i := 1023) (by decide +kernel)))
set_option maxRecDepth 100000 in
set_option maxHeartbeats 4000000 in
theorem zk_X11_order : am_okm (zm_X11_order, zi_X11_order) := am_okm_of [1020, 1022, 27, 48, 1023] (by decide +kernel) (by decide +kernel) (by decide +kernel) (by decide +kernel) (by decide +kernel) (List.mem_cons_of_mem _ (List.mem_of_getElem? (i := 1019) (by decide +kernel)))
set_option maxRecDepth 100000 in
set_option maxHeartbeats 4000000 in
theorem zk_X11_worst : am_okm (zm_X11_worst, zi_X11_worst) := am_okm_of [1020, 1022, 27, 48, 1023] (by decide +kernel) (by decide +kernel) (by decide +kernel) (by decide +kernel) (by decide +kernel) (List.mem_cons_of_mem _ (List.mem_of_getElem? (i := 1043) (by decide +kernel)))
set_option maxRecDepth 100000 in
set_option maxHeartbeats 4000000 in
theorem zk_X11_salts : am_okm (zm_X11_salts, zi_X11_salts) := am_okm_of [936, 938, 17, 48, 939, 1048, 1050, 32, 48, 1051, 820, 1052, 1053, 48, 1054, 1052, 1053, 48, 1054, 1008, 1010, 25, 48, 1011, 820, 945, 947, 18, 48, 948, 829] (by decide +kernel) (by decide +kernel) (by decide +kernel) (by decide +kernel) (by decide +kernel) (List.mem_cons_of_mem _ (List.mem_of_getElem? (i := 1047) (by decide +kernel)))
set_option maxRecDepth 100000 in
set_option maxHeartbeats 4000000 in
theorem zk_X11_cask : am_okm (zm_X11_cask, zi_X11_cask) := am_okm_of [936, 938, 17, 48, 939, 818, 818, 1008, 1010, 25, 48, 1011, 820, 975, 977, 22, 48, 978, 820, 820, 818] (by decide +kernel) (by decide +kernel) (by decide +kernel) (by decide +kernel) (by decide +kernel) (List.mem_cons_of_mem _ (List.mem_of_getElem? (i := 1058) (by decide +kernel)))
set_option maxRecDepth 100000 in
set_option maxHeartbeats 4000000 in
theorem zk_X11_tryThing : am_okm (zm_X11_tryThing, zi_X11_tryThing) := am_okm_of [975, 977, 22, 48, 978, 936, 938, 17, 48, 939, 936, 938, 17, 48, 939, 987, 989, 24, 48, 990, 936, 938, 17, 48, 939, 820, 949, 950, 48, 951, 820, 936, 938, 17, 48, 939, 820, 945, 947, 18, 48, 948, 936, 938, 17, 48, 939, 829] (by decide +kernel) (by decide +kernel) (by decide +kernel) (by decide +kernel) (by decide +kernel) (List.mem_cons_of_mem _ (List.mem_of_getElem? (i := 1071) (by decide +kernel)))
set_option maxRecDepth 100000 in
set_option maxHeartbeats 4000000 in
theorem zk_X11_power : am_okm (zm_X11_power, zi_X11_power) := am_okm_of [] (by decide +kernel) (by decide +kernel) (by decide +kernel) (by decide +kernel) (by decide +kernel) (List.mem_cons_of_mem _ (List.mem_of_getElem? (i := 1067) (by decide +kernel)))
set_option maxRecDepth 100000 in
set_option maxHeartbeats 4000000 in
theorem zk_X11_judge : am_okm (zm_X11_judge, zi_X11_judge) := am_okm_of [1063, 909, 910, 48, 911, 1064, 1065, 1066, 48, 1067, 909, 910, 48, 911, 1008, 1010, 25, 48, 1011, 1064, 1065, 1066, 48, 1067, 1064, 1068, 1070, 33, 48, 1071] (by decide +kernel) (by decide +kernel) (by decide +kernel) (by decide +kernel) (by decide +kernel) (List.mem_cons_of_mem _ (List.mem_of_getElem? (i := 1062) (by decide +kernel)))
set_option maxRecDepth 100000 in
set_option maxHeartbeats 4000000 in
theorem zk_X11_see : am_okm (zm_X11_see, zi_X11_see) := am_okm_of [936, 938, 17, 48, 939, 1076, 909, 910, 48, 911, 1077, 909, 910, 48, 911, 835, 836, 835, 837, 835, 838, 835, 835, 835, 835] (by decide +kernel) (by decide +kernel) (by decide +kernel) (by decide +kernel) (by decide +kernel) (List.mem_cons_of_mem _ (List.mem_of_getElem? (i := 1075) (by decide +kernel)))
set_option maxRecDepth 100000 in
set_option maxHeartbeats 4000000 in
theorem zk_X11_unsee : am_okm (zm_X11_unsee, zi_X11_unsee) := am_okm_of [835, 835] (by decide +kernel) (by decide +kernel) (by decide +kernel) (by decide +kernel) (by decide +kernel) (List.mem_cons_of_mem _ (List.mem_of_getElem? (i := 1081) (by decide +kernel)))
set_option maxRecDepth 100000 in
set_option maxHeartbeats 4000000 in
theorem zk_X11_wants : am_okm (zm_X11_wants, zi_X11_wants) := am_okm_of [936, 938, 17, 48, 939, 817, 952, 953, 48, 954, 817, 835, 836, 837, 838] (by decide +kernel) (by decide +kernel) (by decide +kernel) (by decide +kernel) (by decide +kernel) (List.mem_cons_of_mem _ (List.mem_of_getElem? (i := 1085) (by decide +kernel)))
set_option maxRecDepth 100000 in
set_option maxHeartbeats 4000000 in
theorem zk_X11_factorial : am_okm (zm_X11_factorial, zi_X11_factorial) := am_okm_of [] (by decide +kernel) (by decide +kernel) (by decide +kernel) (by decide +kernel) (by decide +kernel) (List.mem_cons_of_mem _ (List.mem_of_getElem? (i := 1092) (by decide +kernel)))
set_option maxRecDepth 100000 in
set_option maxHeartbeats 4000000 in
theorem zk_X11_common : am_okm (zm_X11_common, zi_X11_common) := am_okm_of [] (by decide +kernel) (by decide +kernel) (by decide +kernel) (by decide +kernel) (by decide +kernel) (List.mem_cons_of_mem _ (List.mem_of_getElem? (i := 1099) (by decide +kernel)))
set_option maxRecDepth 100000 in
set_option maxHeartbeats 4000000 in
theorem zk_X11_drawnBy : am_okm (zm_X11_drawnBy, zi_X11_drawnBy) := am_okm_of [1008, 1010, 25, 48, 1011, 820, 1048, 1050, 32, 48, 1051, 945, 947, 18, 48, 948, 979, 981, 23, 48, 982] (by decide +kernel) (by decide +kernel) (by decide +kernel) (by decide +kernel) (by decide +kernel) (List.mem_cons_of_mem _ (List.mem_of_getElem? (i := 1096) (by decide +kernel)))
set_option maxRecDepth 100000 in
set_option maxHeartbeats 4000000 in
theorem zk_X11_share : am_okm (zm_X11_share, zi_X11_share) := am_okm_of [936, 938, 17, 48, 939, 1048, 1050, 32, 48, 1051, 949, 950, 48, 951, 1052, 1053, 48, 1054, 1090, 1091, 48, 1092, 812, 1052, 1053, 48, 1054, 1090, 1091, 48, 1092, 1093, 1095, 34, 48, 1096, 1093, 1095, 34, 48, 1096, 812, 1090, 1091, 48, 1092, 1097, 1098, 48, 1099, 812, 1090, 1091, 48, 1092] (by decide +kernel) (by decide +kernel) (by decide +kernel) (by decide +kernel) (by decide +kernel) (List.mem_cons_of_mem _ (List.mem_of_getElem? (i := 1089) (by decide +kernel)))
set_option maxRecDepth 100000 in
set_option maxHeartbeats 4000000 in
theorem zk_X11_gain : am_okm (zm_X11_gain, zi_X11_gain) := am_okm_of [1008, 1010, 25, 48, 1011, 820, 945, 947, 18, 48, 948, 820, 949, 950, 48, 951, 829] (by decide +kernel) (by decide +kernel) (by decide +kernel) (by decide +kernel) (by decide +kernel) (List.mem_cons_of_mem _ (List.mem_of_getElem? (i := 1107) (by decide +kernel)))
set_option maxRecDepth 100000 in
set_option maxHeartbeats 4000000 in
theorem zk_X11_rests : am_okm (zm_X11_rests, zi_X11_rests) := am_okm_of [936, 938, 17, 48, 939, 936, 938, 17, 48, 939, 909, 910, 48, 911, 1104, 1106, 35, 48, 1107, 1104, 1106, 35, 48, 1107, 1104, 1106, 35, 48, 1107, 1104, 1106, 35, 48, 1107] (by decide +kernel) (by decide +kernel) (by decide +kernel) (by decide +kernel) (by decide +kernel) (List.mem_cons_of_mem _ (List.mem_of_getElem? (i := 1103) (by decide +kernel)))
set_option maxRecDepth 100000 in
set_option maxHeartbeats 4000000 in
theorem zk_X11_guests : am_okm (zm_X11_guests, zi_X11_guests) := am_okm_of [1112, 909, 910, 48, 911, 1113, 909, 910, 48, 911, 1048, 1050, 32, 48, 1051, 1052, 1053, 48, 1054, 1065, 1066, 48, 1067, 812, 1052, 1053, 48, 1054, 1065, 1066, 48, 1067, 830, 945, 947, 18, 48, 948, 979, 981, 23, 48, 982, 830, 1097, 1098, 48, 1099] (by decide +kernel) (by decide +kernel) (by decide +kernel) (by decide +kernel) (by decide +kernel) (List.mem_cons_of_mem _ (List.mem_of_getElem? (i := 1111) (by decide +kernel)))
set_option maxRecDepth 100000 in
set_option maxHeartbeats 4000000 in
theorem zk_X11_seed : am_okm (zm_X11_seed, zi_X11_seed) := am_okm_of [839, 839] (by decide +kernel) (by decide +kernel) (by decide +kernel) (by decide +kernel) (by decide +kernel) (List.mem_cons_of_mem _ (List.mem_of_getElem? (i := 1117) (by decide +kernel)))
set_option maxRecDepth 100000 in
set_option maxHeartbeats 4000000 in
theorem zk_X11_weeks : am_okm (zm_X11_weeks, zi_X11_weeks) := am_okm_of [1077, 909, 910, 48, 911, 1008, 1010, 25, 48, 1011, 839, 1122, 1123, 839, 839, 1124, 975, 977, 22, 48, 978, 820, 936, 938, 17, 48, 939, 820, 936, 938, 17, 48, 939, 1012, 1014, 26, 48, 1015, 1012, 1014, 26, 48, 1015] (by decide +kernel) (by decide +kernel) (by decide +kernel) (by decide +kernel) (by decide +kernel) (List.mem_cons_of_mem _ (List.mem_of_getElem? (i := 1121) (by decide +kernel)))
set_option maxRecDepth 100000 in
set_option maxHeartbeats 4000000 in
theorem zk_X11_keep : am_okm (zm_X11_keep, zi_X11_keep) := am_okm_of [909, 910, 48, 911, 840, 841, 820, 820] (by decide +kernel) (by decide +kernel) (by decide +kernel) (by decide +kernel) (by decide +kernel) (List.mem_cons_of_mem _ (List.mem_of_getElem? (i := 1128) (by decide +kernel)))
set_option maxRecDepth 100000 in
set_option maxHeartbeats 4000000 in
theorem zk_X11_again : am_okm (zm_X11_again, zi_X11_again) := am_okm_of [909, 910, 48, 911, 840, 820, 841, 831, 820] (by decide +kernel) (by decide +kernel) (by decide +kernel) (by decide +kernel) (by decide +kernel) (List.mem_cons_of_mem _ (List.mem_of_getElem? (i := 1132) (by decide +kernel)))
set_option maxRecDepth 100000 in
set_option maxHeartbeats 4000000 in
theorem zk_X11_count : am_okm (zm_X11_count, zi_X11_count) := am_okm_of [945, 947, 18, 48, 948, 826, 812, 813, 820, 955, 957, 19, 48, 958, 979, 981, 23, 48, 982, 1012, 1014, 26, 48, 1015, 820, 820, 831, 835] (by decide +kernel) (by decide +kernel) (by decide +kernel) (by decide +kernel) (by decide +kernel) (List.mem_cons_of_mem _ (List.mem_of_getElem? (i := 1136) (by decide +kernel)))
set_option maxRecDepth 100000 in
set_option maxHeartbeats 4000000 in
theorem zk_J6_bitCount_0f7a4 : am_okm (zm_J6_bitCount_0f7a4, zi_J6_bitCount_0f7a4) := am_okm_of [621, 622, 622, 623] (by decide +kernel) (by decide +kernel) (by decide +kernel) (by decide +kernel) (by decide +kernel) (List.mem_cons_of_mem _ (List.mem_of_getElem? (i := 620) (by decide +kernel)))
set_option maxRecDepth 100000 in
set_option maxHeartbeats 4000000 in
theorem zk_J9_floorMod_7cf53 : am_okm (zm_J9_floorMod_7cf53, zi_J9_floorMod_7cf53) := am_okm_of [] (by decide +kernel) (by decide +kernel) (by decide +kernel) (by decide +kernel) (by decide +kernel) (List.mem_cons_of_mem _ (List.mem_of_getElem? (i := 490) (by decide +kernel)))
set_option maxRecDepth 100000 in
set_option maxHeartbeats 4000000 in
theorem zk_J9_abs_0f7a4 : am_okm (zm_J9_abs_0f7a4, zi_J9_abs_0f7a4) := am_okm_of [] (by decide +kernel) (by decide +kernel) (by decide +kernel) (by decide +kernel) (by decide +kernel) (List.mem_cons_of_mem _ (List.mem_of_getElem? (i := 721) (by decide +kernel)))
set_option maxRecDepth 100000 in
set_option maxHeartbeats 4000000 in
theorem zk_J9_max_7cf53 : am_okm (zm_J9_max_7cf53, zi_J9_max_7cf53) := am_okm_of [] (by decide +kernel) (by decide +kernel) (by decide +kernel) (by decide +kernel) (by decide +kernel) (List.mem_cons_of_mem _ (List.mem_of_getElem? (i := 594) (by decide +kernel)))
set_option maxRecDepth 100000 in
set_option maxHeartbeats 4000000 in
theorem zk_J9_min_7cf53 : am_okm (zm_J9_min_7cf53, zi_J9_min_7cf53) := am_okm_of [] (by decide +kernel) (by decide +kernel) (by decide +kernel) (by decide +kernel) (by decide +kernel) (List.mem_cons_of_mem _ (List.mem_of_getElem? (i := 509) (by decide +kernel)))
