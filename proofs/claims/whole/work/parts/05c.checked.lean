/-! every method, checked -/
set_option maxRecDepth 100000 in
set_option maxHeartbeats 4000000 in
theorem zk_X11_readText : am_okm (zm_X11_readText, zi_X11_readText) := am_okm_of [828, 829, 824, 825, 827, 826, 828, 925, 927, 16, 48, 928, 925, 927, 16, 48, 928, 829, 828, 827, 826, 828, 824, 828, 828, 822, 824, 925, 927, 16, 48, 928, 822, 824, 925, 927, 16, 48, 928, 822, 824, 925, 927, 16, 48, 928, 824, 824, 826, 828, 825, 828, 828, 823, 825, 925, 927, 16, 48, 928, 825, 825, 828, 829, 829] (by decide +kernel) (by decide +kernel) (by decide +kernel) (by decide +kernel) (by decide +kernel) (List.mem_cons_of_mem _ (List.mem_of_getElem? (i := 924) (by decide +kernel)))
set_option maxRecDepth 100000 in
set_option maxHeartbeats 4000000 in
theorem zk_X11_fault : am_okm (zm_X11_fault, zi_X11_fault) := am_okm_of [921, 923, 15, 48, 924] (by decide +kernel) (by decide +kernel) (by decide +kernel) (by decide +kernel) (by decide +kernel) (List.mem_cons_of_mem _ (List.mem_of_getElem? (i := 920) (by decide +kernel)))
set_option maxRecDepth 100000 in
set_option maxHeartbeats 4000000 in
theorem zk_X11_row : am_okm (zm_X11_row, zi_X11_row) := am_okm_of [921, 923, 15, 48, 924, 824, 813, 825, 814, 826, 815, 826, 816, 821, 813, 817, 822, 818, 822, 819, 822, 821, 814, 820, 823, 832, 841, 841, 813, 814] (by decide +kernel) (by decide +kernel) (by decide +kernel) (by decide +kernel) (by decide +kernel) (List.mem_cons_of_mem _ (List.mem_of_getElem? (i := 932) (by decide +kernel)))
set_option maxRecDepth 100000 in
set_option maxHeartbeats 4000000 in
theorem zk_X11_isHouse : am_okm (zm_X11_isHouse, zi_X11_isHouse) := am_okm_of [813, 910, 911, 48, 912] (by decide +kernel) (by decide +kernel) (by decide +kernel) (by decide +kernel) (by decide +kernel) (List.mem_cons_of_mem _ (List.mem_of_getElem? (i := 940) (by decide +kernel)))
set_option maxRecDepth 100000 in
set_option maxHeartbeats 4000000 in
theorem zk_X11_every : am_okm (zm_X11_every, zi_X11_every) := am_okm_of [813] (by decide +kernel) (by decide +kernel) (by decide +kernel) (by decide +kernel) (by decide +kernel) (List.mem_cons_of_mem _ (List.mem_of_getElem? (i := 1052) (by decide +kernel)))
set_option maxRecDepth 100000 in
set_option maxHeartbeats 4000000 in
theorem zk_X11_heatOn : am_okm (zm_X11_heatOn, zi_X11_heatOn) := am_okm_of [814, 820, 821, 814] (by decide +kernel) (by decide +kernel) (by decide +kernel) (by decide +kernel) (by decide +kernel) (List.mem_cons_of_mem _ (List.mem_of_getElem? (i := 959) (by decide +kernel)))
set_option maxRecDepth 100000 in
set_option maxHeartbeats 4000000 in
theorem zk_X11_wantBy : am_okm (zm_X11_wantBy, zi_X11_wantBy) := am_okm_of [] (by decide +kernel) (by decide +kernel) (by decide +kernel) (by decide +kernel) (by decide +kernel) (List.mem_cons_of_mem _ (List.mem_of_getElem? (i := 955) (by decide +kernel)))
set_option maxRecDepth 100000 in
set_option maxHeartbeats 4000000 in
theorem zk_X11_houseAt : am_okm (zm_X11_houseAt, zi_X11_houseAt) := am_okm_of [813, 821] (by decide +kernel) (by decide +kernel) (by decide +kernel) (by decide +kernel) (by decide +kernel) (List.mem_cons_of_mem _ (List.mem_of_getElem? (i := 963) (by decide +kernel)))
set_option maxRecDepth 100000 in
set_option maxHeartbeats 4000000 in
theorem zk_X11_layToday : am_okm (zm_X11_layToday, zi_X11_layToday) := am_okm_of [813, 821, 950, 951, 48, 952, 818, 817, 953, 954, 48, 955, 956, 958, 19, 48, 959, 821, 950, 951, 48, 952, 831, 950, 951, 48, 952, 830, 830, 818, 813, 821, 960, 962, 20, 48, 963, 816, 813, 960, 962, 20, 48, 963, 815, 830, 821, 830, 830, 830, 830, 830, 830, 830, 819, 819] (by decide +kernel) (by decide +kernel) (by decide +kernel) (by decide +kernel) (by decide +kernel) (List.mem_cons_of_mem _ (List.mem_of_getElem? (i := 949) (by decide +kernel)))
set_option maxRecDepth 100000 in
set_option maxHeartbeats 4000000 in
theorem zk_X11_sumOf : am_okm (zm_X11_sumOf, zi_X11_sumOf) := am_okm_of [813, 830] (by decide +kernel) (by decide +kernel) (by decide +kernel) (by decide +kernel) (by decide +kernel) (List.mem_cons_of_mem _ (List.mem_of_getElem? (i := 983) (by decide +kernel)))
set_option maxRecDepth 100000 in
set_option maxHeartbeats 4000000 in
theorem zk_X11_passOn : am_okm (zm_X11_passOn, zi_X11_passOn) := am_okm_of [946, 948, 18, 48, 949, 813, 821, 830, 821, 830, 830, 830, 821, 821, 980, 982, 23, 48, 983] (by decide +kernel) (by decide +kernel) (by decide +kernel) (by decide +kernel) (by decide +kernel) (List.mem_cons_of_mem _ (List.mem_of_getElem? (i := 979) (by decide +kernel)))
set_option maxRecDepth 100000 in
set_option maxHeartbeats 4000000 in
theorem zk_X11_lackedOn : am_okm (zm_X11_lackedOn, zi_X11_lackedOn) := am_okm_of [813, 821] (by decide +kernel) (by decide +kernel) (by decide +kernel) (by decide +kernel) (by decide +kernel) (List.mem_cons_of_mem _ (List.mem_of_getElem? (i := 1016) (by decide +kernel)))
set_option maxRecDepth 100000 in
set_option maxHeartbeats 4000000 in
theorem zk_X11_house : am_okm (zm_X11_house, zi_X11_house) := am_okm_of [937, 939, 17, 48, 940, 817, 818, 819, 821, 821, 821, 821, 821] (by decide +kernel) (by decide +kernel) (by decide +kernel) (by decide +kernel) (by decide +kernel) (List.mem_cons_of_mem _ (List.mem_of_getElem? (i := 936) (by decide +kernel)))
set_option maxRecDepth 100000 in
set_option maxHeartbeats 4000000 in
theorem zk_X11_today : am_okm (zm_X11_today, zi_X11_today) := am_okm_of [937, 939, 17, 48, 940, 945, 910, 911, 48, 912, 946, 948, 18, 48, 949, 830] (by decide +kernel) (by decide +kernel) (by decide +kernel) (by decide +kernel) (by decide +kernel) (List.mem_cons_of_mem _ (List.mem_of_getElem? (i := 944) (by decide +kernel)))
set_option maxRecDepth 100000 in
set_option maxHeartbeats 4000000 in
theorem zk_X11_at : am_okm (zm_X11_at, zi_X11_at) := am_okm_of [960, 962, 20, 48, 963] (by decide +kernel) (by decide +kernel) (by decide +kernel) (by decide +kernel) (by decide +kernel) (List.mem_cons_of_mem _ (List.mem_of_getElem? (i := 967) (by decide +kernel)))
set_option maxRecDepth 100000 in
set_option maxHeartbeats 4000000 in
theorem zk_X11_keepAct : am_okm (zm_X11_keepAct, zi_X11_keepAct) := am_okm_of [834, 833, 821, 833, 833, 832, 832, 832] (by decide +kernel) (by decide +kernel) (by decide +kernel) (by decide +kernel) (by decide +kernel) (List.mem_cons_of_mem _ (List.mem_of_getElem? (i := 975) (by decide +kernel)))
set_option maxRecDepth 100000 in
set_option maxHeartbeats 4000000 in
theorem zk_X11_day : am_okm (zm_X11_day, zi_X11_day) := am_okm_of [972, 974, 21, 48, 975, 976, 978, 22, 48, 979] (by decide +kernel) (by decide +kernel) (by decide +kernel) (by decide +kernel) (by decide +kernel) (List.mem_cons_of_mem _ (List.mem_of_getElem? (i := 971) (by decide +kernel)))
set_option maxRecDepth 100000 in
set_option maxHeartbeats 4000000 in
theorem zk_X11_swapOn : am_okm (zm_X11_swapOn, zi_X11_swapOn) := am_okm_of [821, 821, 821, 821] (by decide +kernel) (by decide +kernel) (by decide +kernel) (by decide +kernel) (by decide +kernel) (List.mem_cons_of_mem _ (List.mem_of_getElem? (i := 991) (by decide +kernel)))
set_option maxRecDepth 100000 in
set_option maxHeartbeats 4000000 in
theorem zk_X11_swap : am_okm (zm_X11_swap, zi_X11_swap) := am_okm_of [937, 939, 17, 48, 940, 937, 939, 17, 48, 940, 972, 974, 21, 48, 975, 988, 990, 24, 48, 991, 821] (by decide +kernel) (by decide +kernel) (by decide +kernel) (by decide +kernel) (by decide +kernel) (List.mem_cons_of_mem _ (List.mem_of_getElem? (i := 987) (by decide +kernel)))
set_option maxRecDepth 100000 in
set_option maxHeartbeats 4000000 in
theorem zk_X11_salt : am_okm (zm_X11_salt, zi_X11_salt) := am_okm_of [937, 939, 17, 48, 940, 821, 950, 951, 48, 952, 972, 974, 21, 48, 975, 821, 946, 948, 18, 48, 949, 830] (by decide +kernel) (by decide +kernel) (by decide +kernel) (by decide +kernel) (by decide +kernel) (List.mem_cons_of_mem _ (List.mem_of_getElem? (i := 995) (by decide +kernel)))
set_option maxRecDepth 100000 in
set_option maxHeartbeats 4000000 in
theorem zk_X11_away : am_okm (zm_X11_away, zi_X11_away) := am_okm_of [937, 939, 17, 48, 940, 972, 974, 21, 48, 975, 821, 821] (by decide +kernel) (by decide +kernel) (by decide +kernel) (by decide +kernel) (by decide +kernel) (List.mem_cons_of_mem _ (List.mem_of_getElem? (i := 999) (by decide +kernel)))
set_option maxRecDepth 100000 in
set_option maxHeartbeats 4000000 in
theorem zk_X11_undo : am_okm (zm_X11_undo, zi_X11_undo) := am_okm_of [832, 832, 832, 833, 833, 821, 834, 833, 832] (by decide +kernel) (by decide +kernel) (by decide +kernel) (by decide +kernel) (by decide +kernel) (List.mem_cons_of_mem _ (List.mem_of_getElem? (i := 1003) (by decide +kernel)))
set_option maxRecDepth 100000 in
set_option maxHeartbeats 4000000 in
theorem zk_X11_layTrial : am_okm (zm_X11_layTrial, zi_X11_layTrial) := am_okm_of [821, 821] (by decide +kernel) (by decide +kernel) (by decide +kernel) (by decide +kernel) (by decide +kernel) (List.mem_cons_of_mem _ (List.mem_of_getElem? (i := 1012) (by decide +kernel)))
set_option maxRecDepth 100000 in
set_option maxHeartbeats 4000000 in
theorem zk_X11_ahead : am_okm (zm_X11_ahead, zi_X11_ahead) := am_okm_of [1008, 910, 911, 48, 912, 910, 911, 48, 912, 1009, 1011, 25, 48, 1012, 976, 978, 22, 48, 979, 980, 982, 23, 48, 983, 1013, 1015, 26, 48, 1016, 1013, 1015, 26, 48, 1016] (by decide +kernel) (by decide +kernel) (by decide +kernel) (by decide +kernel) (by decide +kernel) (List.mem_cons_of_mem _ (List.mem_of_getElem? (i := 1007) (by decide +kernel)))
set_option maxRecDepth 100000 in
set_option maxHeartbeats 4000000 in
theorem zk_X11_nextOrder : am_okm (zm_X11_nextOrder, zi_X11_nextOrder) := am_okm_of [813, 835, 835, 813, 835, 835, 1037, 1039, 31, 48, 1040, 813, 1037, 1039, 31, 48, 1040] (by decide +kernel) (by decide +kernel) (by decide +kernel) (by decide +kernel) (by decide +kernel) (List.mem_cons_of_mem _ (List.mem_of_getElem? (i := 1036) (by decide +kernel)))
set_option maxRecDepth 100000 in
set_option maxHeartbeats 4000000 in
theorem zk_X11_exchange : am_okm (zm_X11_exchange, zi_X11_exchange) := am_okm_of [835, 835, 835, 835] (by decide +kernel) (by decide +kernel) (by decide +kernel) (by decide +kernel) (by decide +kernel) (List.mem_cons_of_mem _ (List.mem_of_getElem? (i := 1040) (by decide +kernel)))
set_option maxRecDepth 100000 in
set_option maxHeartbeats 4000000 in
theorem zk_X11_lackBy : am_okm (zm_X11_lackBy, zi_X11_lackBy) := am_okm_of [1009, 1011, 25, 48, 1012, 813, 821, 835, 946, 948, 18, 48, 949, 813, 830, 830, 980, 982, 23, 48, 983] (by decide +kernel) (by decide +kernel) (by decide +kernel) (by decide +kernel) (by decide +kernel) (List.mem_cons_of_mem _ (List.mem_of_getElem? (i := 1028) (by decide +kernel)))
set_option maxRecDepth 100000 in
set_option maxHeartbeats 4000000 in
theorem zk_X11_figures : am_okm (zm_X11_figures, zi_X11_figures) := am_okm_of [813, 835] (by decide +kernel) (by decide +kernel) (by decide +kernel) (by decide +kernel) (by decide +kernel) (List.mem_cons_of_mem _ (List.mem_of_getElem? (i := 1032) (by decide +kernel)))
set_option maxRecDepth 100000 in
set_option maxHeartbeats 4000000 in
theorem zk_X11_bestOrder : am_okm (zm_X11_bestOrder, zi_X11_bestOrder) := am_okm_of [813, 835, 1025, 1027, 28, 48, 1028, 1029, 1031, 29, 48, 1032, 1033, 1035, 30, 48, 1036, 1025, 1027, 28, 48, 1028, 1029, 1031, 29, 48, 1032] (by decide +kernel) (by decide +kernel) (by decide +kernel) (by decide +kernel) (by decide +kernel) (List.mem_cons_of_mem _ (List.mem_of_getElem? (i := 1024) (by decide +kernel)))
set_option maxRecDepth 100000 in
set_option maxHeartbeats 4000000 in
theorem zk_X11_order : am_okm (zm_X11_order, zi_X11_order) := am_okm_of [1021, 1023, 27, 48, 1024] (by decide +kernel) (by decide +kernel) (by decide +kernel) (by decide +kernel) (by decide +kernel) (List.mem_cons_of_mem _ (List.mem_of_getElem? (i := 1020) (by decide +kernel)))
set_option maxRecDepth 100000 in
set_option maxHeartbeats 4000000 in
theorem zk_X11_worst : am_okm (zm_X11_worst, zi_X11_worst) := am_okm_of [1021, 1023, 27, 48, 1024] (by decide +kernel) (by decide +kernel) (by decide +kernel) (by decide +kernel) (by decide +kernel) (List.mem_cons_of_mem _ (List.mem_of_getElem? (i := 1044) (by decide +kernel)))
set_option maxRecDepth 100000 in
set_option maxHeartbeats 4000000 in
theorem zk_X11_salts : am_okm (zm_X11_salts, zi_X11_salts) := am_okm_of [937, 939, 17, 48, 940, 1049, 1051, 32, 48, 1052, 821, 1053, 1054, 48, 1055, 1053, 1054, 48, 1055, 1009, 1011, 25, 48, 1012, 821, 946, 948, 18, 48, 949, 830] (by decide +kernel) (by decide +kernel) (by decide +kernel) (by decide +kernel) (by decide +kernel) (List.mem_cons_of_mem _ (List.mem_of_getElem? (i := 1048) (by decide +kernel)))
set_option maxRecDepth 100000 in
set_option maxHeartbeats 4000000 in
theorem zk_X11_cask : am_okm (zm_X11_cask, zi_X11_cask) := am_okm_of [937, 939, 17, 48, 940, 819, 819, 1009, 1011, 25, 48, 1012, 821, 976, 978, 22, 48, 979, 821, 821, 819] (by decide +kernel) (by decide +kernel) (by decide +kernel) (by decide +kernel) (by decide +kernel) (List.mem_cons_of_mem _ (List.mem_of_getElem? (i := 1059) (by decide +kernel)))
set_option maxRecDepth 100000 in
set_option maxHeartbeats 4000000 in
theorem zk_X11_tryThing : am_okm (zm_X11_tryThing, zi_X11_tryThing) := am_okm_of [976, 978, 22, 48, 979, 937, 939, 17, 48, 940, 937, 939, 17, 48, 940, 988, 990, 24, 48, 991, 937, 939, 17, 48, 940, 821, 950, 951, 48, 952, 821, 937, 939, 17, 48, 940, 821, 946, 948, 18, 48, 949, 937, 939, 17, 48, 940, 830] (by decide +kernel) (by decide +kernel) (by decide +kernel) (by decide +kernel) (by decide +kernel) (List.mem_cons_of_mem _ (List.mem_of_getElem? (i := 1072) (by decide +kernel)))
set_option maxRecDepth 100000 in
set_option maxHeartbeats 4000000 in
theorem zk_X11_power : am_okm (zm_X11_power, zi_X11_power) := am_okm_of [] (by decide +kernel) (by decide +kernel) (by decide +kernel) (by decide +kernel) (by decide +kernel) (List.mem_cons_of_mem _ (List.mem_of_getElem? (i := 1068) (by decide +kernel)))
set_option maxRecDepth 100000 in
set_option maxHeartbeats 4000000 in
theorem zk_X11_judge : am_okm (zm_X11_judge, zi_X11_judge) := am_okm_of [1064, 910, 911, 48, 912, 1065, 1066, 1067, 48, 1068, 910, 911, 48, 912, 1009, 1011, 25, 48, 1012, 1065, 1066, 1067, 48, 1068, 1065, 1069, 1071, 33, 48, 1072] (by decide +kernel) (by decide +kernel) (by decide +kernel) (by decide +kernel) (by decide +kernel) (List.mem_cons_of_mem _ (List.mem_of_getElem? (i := 1063) (by decide +kernel)))
set_option maxRecDepth 100000 in
set_option maxHeartbeats 4000000 in
theorem zk_X11_see : am_okm (zm_X11_see, zi_X11_see) := am_okm_of [937, 939, 17, 48, 940, 1077, 910, 911, 48, 912, 1078, 910, 911, 48, 912, 836, 837, 836, 838, 836, 839, 836, 836, 836, 836] (by decide +kernel) (by decide +kernel) (by decide +kernel) (by decide +kernel) (by decide +kernel) (List.mem_cons_of_mem _ (List.mem_of_getElem? (i := 1076) (by decide +kernel)))
set_option maxRecDepth 100000 in
set_option maxHeartbeats 4000000 in
theorem zk_X11_unsee : am_okm (zm_X11_unsee, zi_X11_unsee) := am_okm_of [836, 836] (by decide +kernel) (by decide +kernel) (by decide +kernel) (by decide +kernel) (by decide +kernel) (List.mem_cons_of_mem _ (List.mem_of_getElem? (i := 1082) (by decide +kernel)))
set_option maxRecDepth 100000 in
set_option maxHeartbeats 4000000 in
theorem zk_X11_wants : am_okm (zm_X11_wants, zi_X11_wants) := am_okm_of [937, 939, 17, 48, 940, 818, 953, 954, 48, 955, 818, 836, 837, 838, 839] (by decide +kernel) (by decide +kernel) (by decide +kernel) (by decide +kernel) (by decide +kernel) (List.mem_cons_of_mem _ (List.mem_of_getElem? (i := 1086) (by decide +kernel)))
set_option maxRecDepth 100000 in
set_option maxHeartbeats 4000000 in
theorem zk_X11_factorial : am_okm (zm_X11_factorial, zi_X11_factorial) := am_okm_of [] (by decide +kernel) (by decide +kernel) (by decide +kernel) (by decide +kernel) (by decide +kernel) (List.mem_cons_of_mem _ (List.mem_of_getElem? (i := 1093) (by decide +kernel)))
set_option maxRecDepth 100000 in
set_option maxHeartbeats 4000000 in
theorem zk_X11_common : am_okm (zm_X11_common, zi_X11_common) := am_okm_of [] (by decide +kernel) (by decide +kernel) (by decide +kernel) (by decide +kernel) (by decide +kernel) (List.mem_cons_of_mem _ (List.mem_of_getElem? (i := 1100) (by decide +kernel)))
set_option maxRecDepth 100000 in
set_option maxHeartbeats 4000000 in
theorem zk_X11_drawnBy : am_okm (zm_X11_drawnBy, zi_X11_drawnBy) := am_okm_of [1009, 1011, 25, 48, 1012, 821, 1049, 1051, 32, 48, 1052, 946, 948, 18, 48, 949, 980, 982, 23, 48, 983] (by decide +kernel) (by decide +kernel) (by decide +kernel) (by decide +kernel) (by decide +kernel) (List.mem_cons_of_mem _ (List.mem_of_getElem? (i := 1097) (by decide +kernel)))
set_option maxRecDepth 100000 in
set_option maxHeartbeats 4000000 in
theorem zk_X11_share : am_okm (zm_X11_share, zi_X11_share) := am_okm_of [937, 939, 17, 48, 940, 1049, 1051, 32, 48, 1052, 950, 951, 48, 952, 1053, 1054, 48, 1055, 1091, 1092, 48, 1093, 813, 1053, 1054, 48, 1055, 1091, 1092, 48, 1093, 1094, 1096, 34, 48, 1097, 1094, 1096, 34, 48, 1097, 813, 1091, 1092, 48, 1093, 1098, 1099, 48, 1100, 813, 1091, 1092, 48, 1093] (by decide +kernel) (by decide +kernel) (by decide +kernel) (by decide +kernel) (by decide +kernel) (List.mem_cons_of_mem _ (List.mem_of_getElem? (i := 1090) (by decide +kernel)))
set_option maxRecDepth 100000 in
set_option maxHeartbeats 4000000 in
theorem zk_X11_gain : am_okm (zm_X11_gain, zi_X11_gain) := am_okm_of [1009, 1011, 25, 48, 1012, 821, 946, 948, 18, 48, 949, 821, 950, 951, 48, 952, 830] (by decide +kernel) (by decide +kernel) (by decide +kernel) (by decide +kernel) (by decide +kernel) (List.mem_cons_of_mem _ (List.mem_of_getElem? (i := 1108) (by decide +kernel)))
set_option maxRecDepth 100000 in
set_option maxHeartbeats 4000000 in
theorem zk_X11_rests : am_okm (zm_X11_rests, zi_X11_rests) := am_okm_of [937, 939, 17, 48, 940, 937, 939, 17, 48, 940, 910, 911, 48, 912, 1105, 1107, 35, 48, 1108, 1105, 1107, 35, 48, 1108, 1105, 1107, 35, 48, 1108, 1105, 1107, 35, 48, 1108] (by decide +kernel) (by decide +kernel) (by decide +kernel) (by decide +kernel) (by decide +kernel) (List.mem_cons_of_mem _ (List.mem_of_getElem? (i := 1104) (by decide +kernel)))
set_option maxRecDepth 100000 in
set_option maxHeartbeats 4000000 in
theorem zk_X11_guests : am_okm (zm_X11_guests, zi_X11_guests) := am_okm_of [1113, 910, 911, 48, 912, 1114, 910, 911, 48, 912, 1049, 1051, 32, 48, 1052, 1053, 1054, 48, 1055, 1066, 1067, 48, 1068, 813, 1053, 1054, 48, 1055, 1066, 1067, 48, 1068, 831, 946, 948, 18, 48, 949, 980, 982, 23, 48, 983, 831, 1098, 1099, 48, 1100] (by decide +kernel) (by decide +kernel) (by decide +kernel) (by decide +kernel) (by decide +kernel) (List.mem_cons_of_mem _ (List.mem_of_getElem? (i := 1112) (by decide +kernel)))
set_option maxRecDepth 100000 in
set_option maxHeartbeats 4000000 in
theorem zk_X11_seed : am_okm (zm_X11_seed, zi_X11_seed) := am_okm_of [840, 840] (by decide +kernel) (by decide +kernel) (by decide +kernel) (by decide +kernel) (by decide +kernel) (List.mem_cons_of_mem _ (List.mem_of_getElem? (i := 1118) (by decide +kernel)))
set_option maxRecDepth 100000 in
set_option maxHeartbeats 4000000 in
theorem zk_X11_weeks : am_okm (zm_X11_weeks, zi_X11_weeks) := am_okm_of [1078, 910, 911, 48, 912, 1009, 1011, 25, 48, 1012, 840, 1123, 1124, 840, 840, 1125, 976, 978, 22, 48, 979, 821, 937, 939, 17, 48, 940, 821, 937, 939, 17, 48, 940, 1013, 1015, 26, 48, 1016, 1013, 1015, 26, 48, 1016] (by decide +kernel) (by decide +kernel) (by decide +kernel) (by decide +kernel) (by decide +kernel) (List.mem_cons_of_mem _ (List.mem_of_getElem? (i := 1122) (by decide +kernel)))
set_option maxRecDepth 100000 in
set_option maxHeartbeats 4000000 in
theorem zk_X11_keep : am_okm (zm_X11_keep, zi_X11_keep) := am_okm_of [910, 911, 48, 912, 841, 842, 821, 821] (by decide +kernel) (by decide +kernel) (by decide +kernel) (by decide +kernel) (by decide +kernel) (List.mem_cons_of_mem _ (List.mem_of_getElem? (i := 1129) (by decide +kernel)))
set_option maxRecDepth 100000 in
set_option maxHeartbeats 4000000 in
theorem zk_X11_again : am_okm (zm_X11_again, zi_X11_again) := am_okm_of [910, 911, 48, 912, 841, 821, 842, 832, 821] (by decide +kernel) (by decide +kernel) (by decide +kernel) (by decide +kernel) (by decide +kernel) (List.mem_cons_of_mem _ (List.mem_of_getElem? (i := 1133) (by decide +kernel)))
set_option maxRecDepth 100000 in
set_option maxHeartbeats 4000000 in
theorem zk_X11_count : am_okm (zm_X11_count, zi_X11_count) := am_okm_of [946, 948, 18, 48, 949, 827, 813, 814, 821, 956, 958, 19, 48, 959, 980, 982, 23, 48, 983, 1013, 1015, 26, 48, 1016, 821, 821, 832, 836] (by decide +kernel) (by decide +kernel) (by decide +kernel) (by decide +kernel) (by decide +kernel) (List.mem_cons_of_mem _ (List.mem_of_getElem? (i := 1137) (by decide +kernel)))
set_option maxRecDepth 100000 in
set_option maxHeartbeats 4000000 in
theorem zk_J6_bitCount_0f7a4 : am_okm (zm_J6_bitCount_0f7a4, zi_J6_bitCount_0f7a4) := am_okm_of [622, 623, 623, 624] (by decide +kernel) (by decide +kernel) (by decide +kernel) (by decide +kernel) (by decide +kernel) (List.mem_cons_of_mem _ (List.mem_of_getElem? (i := 621) (by decide +kernel)))
set_option maxRecDepth 100000 in
set_option maxHeartbeats 4000000 in
theorem zk_J9_floorMod_7cf53 : am_okm (zm_J9_floorMod_7cf53, zi_J9_floorMod_7cf53) := am_okm_of [] (by decide +kernel) (by decide +kernel) (by decide +kernel) (by decide +kernel) (by decide +kernel) (List.mem_cons_of_mem _ (List.mem_of_getElem? (i := 490) (by decide +kernel)))
set_option maxRecDepth 100000 in
set_option maxHeartbeats 4000000 in
theorem zk_J9_abs_0f7a4 : am_okm (zm_J9_abs_0f7a4, zi_J9_abs_0f7a4) := am_okm_of [] (by decide +kernel) (by decide +kernel) (by decide +kernel) (by decide +kernel) (by decide +kernel) (List.mem_cons_of_mem _ (List.mem_of_getElem? (i := 722) (by decide +kernel)))
set_option maxRecDepth 100000 in
set_option maxHeartbeats 4000000 in
theorem zk_J9_max_7cf53 : am_okm (zm_J9_max_7cf53, zi_J9_max_7cf53) := am_okm_of [] (by decide +kernel) (by decide +kernel) (by decide +kernel) (by decide +kernel) (by decide +kernel) (List.mem_cons_of_mem _ (List.mem_of_getElem? (i := 595) (by decide +kernel)))
set_option maxRecDepth 100000 in
set_option maxHeartbeats 4000000 in
theorem zk_J9_min_7cf53 : am_okm (zm_J9_min_7cf53, zi_J9_min_7cf53) := am_okm_of [] (by decide +kernel) (by decide +kernel) (by decide +kernel) (by decide +kernel) (by decide +kernel) (List.mem_cons_of_mem _ (List.mem_of_getElem? (i := 509) (by decide +kernel)))
