theorem lin_r {big : List Cond} (ws : List Cond) (ps : List Nat) (hp : ws = ps.filterMap (fun i => big[i]?)) : ∀ w ∈ ws, w ∈ big := by
  intro w hw
  rw [hp] at hw
  obtain ⟨i, -, hi⟩ := List.mem_filterMap.mp hw
  exact List.mem_of_getElem? hi
set_option maxRecDepth 100000 in
theorem lin_1 : ∀ w ∈ wsL_law0_r1, w ∈ lw_tbl := lin_r _ [82, 83, 62, 1015, 1016, 74, 366, 84, 85, 86, 87, 88, 89, 90, 91, 63, 448, 284, 285, 67, 449, 300, 301, 68] (by decide +kernel)
set_option maxRecDepth 100000 in
theorem lin_2 : ∀ w ∈ wsL_law0_r2, w ∈ lw_tbl := lin_r _ [450, 319, 320, 69, 451, 367, 368, 70, 452, 388, 389, 71, 453, 404, 405, 72, 454, 430, 431, 73, 455, 92, 93, 94] (by decide +kernel)
set_option maxRecDepth 100000 in
theorem lin_3 : ∀ w ∈ wsL_law0_r3, w ∈ lw_tbl := lin_r _ [95, 96, 245, 98, 64, 247, 249, 151, 250, 152, 252, 257, 100, 101, 102, 179, 181, 182, 183, 184, 186, 189, 103, 104] (by decide +kernel)
set_option maxRecDepth 100000 in
theorem lin_4 : ∀ w ∈ wsL_law0_r4, w ∈ lw_tbl := lin_r _ [65, 192, 153, 154, 66, 196, 106, 107, 108, 109, 113, 116, 117, 122, 125, 127, 156, 157, 158, 159, 162, 287, 288, 289] (by decide +kernel)
set_option maxRecDepth 100000 in
theorem lin_5 : ∀ w ∈ wsL_law0_r5, w ∈ lw_tbl := lin_r _ [290, 303, 304, 305, 306, 307, 308, 321, 322, 323, 324, 332, 334, 336, 338, 339, 340, 325, 326, 327, 328, 342, 344, 346] (by decide +kernel)
set_option maxRecDepth 100000 in
theorem lin_6 : ∀ w ∈ wsL_law0_r6, w ∈ lw_tbl := lin_r _ [329, 330, 331, 370, 371, 372, 373, 375, 376, 391, 392, 393, 394, 395, 407, 408, 409, 410, 411, 412, 413, 414, 433, 434] (by decide +kernel)
set_option maxRecDepth 100000 in
theorem lin_7 : ∀ w ∈ wsL_law0_r7, w ∈ lw_tbl := lin_r _ [435, 436, 1017, 1018, 1019, 1020, 1027, 1028, 1029, 1030, 1031, 1032, 1033, 1034, 1035, 1036, 1037, 1038, 1040, 1214, 1041, 1042, 1043, 1046] (by decide +kernel)
set_option maxRecDepth 100000 in
theorem lin_8 : ∀ w ∈ wsL_law0_r8, w ∈ lw_tbl := lin_r _ [1047, 1048, 1050, 1051, 1052, 1053, 1054, 1056, 1058, 1059, 1060, 1061, 1063, 1066, 1067, 1068, 1069, 1074, 1076, 1077, 1021, 1078, 1079, 1081] (by decide +kernel)
set_option maxRecDepth 100000 in
theorem lin_9 : ∀ w ∈ wsL_law0_r9, w ∈ lw_tbl := lin_r _ [1082, 1083, 1022, 1084, 1086, 1087, 1088, 1023, 1025, 20, 1026, 1055, 473, 474, 475, 476, 253, 246, 477, 478, 479, 480, 481, 482] (by decide +kernel)
set_option maxRecDepth 100000 in
theorem lin_10 : ∀ w ∈ wsL_law0_r10, w ∈ lw_tbl := lin_r _ [483, 484, 485, 486, 198, 487, 488, 489, 490, 133, 128, 111, 115, 120, 491, 492, 493, 494, 495, 496, 75, 497, 498, 499] (by decide +kernel)
set_option maxRecDepth 100000 in
theorem lin_11 : ∀ w ∈ wsL_law0_r11, w ∈ lw_tbl := lin_r _ [500, 501, 502, 75, 503, 508, 510, 0, 511, 201, 208, 210, 1219, 1220, 1221, 1222, 1065, 1039, 1223, 1224, 1225, 1226, 1227, 1228] (by decide +kernel)
set_option maxRecDepth 100000 in
theorem lin_12 : ∀ w ∈ wsL_law0_r12, w ∈ lw_tbl := lin_r _ [1229, 1231, 21, 1232, 512, 513, 514, 515, 199, 180, 516, 518, 1, 519, 520, 522, 2, 523, 1233, 1234, 1235, 1236, 1237, 1239] (by decide +kernel)
