set_option maxRecDepth 100000 in
theorem zt_X2 : ∀ w ∈ wsX20, w ∈ lw_tbl := fun w h => (goodIn_r (big := lw_tbl) wsX20 [867, 869, 871, 873, 875, 877, 879, 881, 883, 885, 887, 889, 891, 893, 895, 897] (by decide +kernel) (by decide +kernel) w h).1
set_option maxRecDepth 100000 in
theorem zt_X3 : ∀ w ∈ wsX30, w ∈ lw_tbl := fun w h => (goodIn_r (big := lw_tbl) wsX30 [925, 927, 929, 931, 933, 935, 937, 939, 941, 943, 945, 947, 949, 951, 953] (by decide +kernel) (by decide +kernel) w h).1
set_option maxRecDepth 100000 in
theorem zt_X4 : ∀ w ∈ wsX40, w ∈ lw_tbl := fun w h => (goodIn_r (big := lw_tbl) wsX40 [532, 534, 536, 538, 540, 542, 544, 546] (by decide +kernel) (by decide +kernel) w h).1
set_option maxRecDepth 100000 in
theorem zt_X5 : ∀ w ∈ wsX50, w ∈ lw_tbl := fun w h => (goodIn_r (big := lw_tbl) wsX50 [1162, 1164, 1166, 1168, 1170, 1172, 1174, 1176, 1178, 1180, 1182, 1184, 1186, 1188, 1190, 1192, 1194, 1196, 1198] (by decide +kernel) (by decide +kernel) w h).1
set_option maxRecDepth 100000 in
theorem zt_X6 : ∀ w ∈ wsX60, w ∈ lw_tbl := fun w h => (goodIn_r (big := lw_tbl) wsX60 [750, 752, 754, 756, 758, 760, 762, 764, 766, 768, 770, 772, 774, 776, 778, 780] (by decide +kernel) (by decide +kernel) w h).1
set_option maxRecDepth 100000 in
theorem zt_X7 : ∀ w ∈ wsX70, w ∈ lw_tbl := fun w h => (goodIn_r (big := lw_tbl) wsX70 [2478, 2480, 2482, 2484, 2486, 2488, 2490] (by decide +kernel) (by decide +kernel) w h).1
set_option maxRecDepth 100000 in
theorem zt_X8 : ∀ w ∈ wsX80, w ∈ lw_tbl := fun w h => (goodIn_r (big := lw_tbl) wsX80 [806, 808, 810, 812, 814, 816, 818, 820, 822, 824, 826, 828, 830, 832, 834] (by decide +kernel) (by decide +kernel) w h).1
set_option maxRecDepth 100000 in
theorem zt_X9 : ∀ w ∈ wsX90, w ∈ lw_tbl := fun w h => (goodIn_r (big := lw_tbl) wsX90 [990, 992, 994, 996, 998, 1000, 1002, 1004, 1006, 1008, 1010, 1012, 1014, 1016, 1018, 1020] (by decide +kernel) (by decide +kernel) w h).1
set_option maxRecDepth 100000 in
theorem zt_x : ∀ w ∈ zWx, w ∈ lw_tbl := fun w h => (goodIn_r (big := lw_tbl) zWx [482, 3458, 3467, 3470, 3473, 3475, 3459, 3460, 494, 495, 3461, 3466, 3471, 3491, 3448, 3492, 3450, 3493, 3452, 3462, 3464, 3454, 3487, 3488, 3490, 3454, 3478, 3479, 3480, 3481, 3481, 3482, 3483, 3484, 3484, 3485, 3486, 3487, 3477, 3437, 3445, 3446, 3447, 3449, 3451, 3453, 3457, 3456, 3455] (by decide +kernel) (by decide +kernel) w h).1
set_option maxRecDepth 100000 in
theorem zNg_p : zNg = [3440, 3442, 3444, 3438].filterMap (fun i => lw_tbl[i]?) := by decide +kernel
