set_option maxRecDepth 100000 in
theorem zt_0 : ∀ w ∈ zW0, w ∈ lw_tbl := fun w h => (goodIn_r (big := lw_tbl) zW0 [555, 494, 495, 557, 558, 559, 560, 562, 565, 549, 568, 571, 574, 577, 578, 579, 583, 584, 556, 789, 793, 794, 795, 796, 797, 798, 799, 800, 801, 803, 804, 805, 790, 791, 792, 842, 845, 846, 848, 850] (by decide +kernel) (by decide +kernel) w h).1
set_option maxRecDepth 100000 in
theorem zt_1 : ∀ w ∈ zW1, w ∈ lw_tbl := fun w h => (goodIn_r (big := lw_tbl) zW1 [851, 853, 854, 856, 857, 858, 860, 862, 865, 866, 843, 844, 905, 910, 911, 906, 912, 914, 916, 917, 918, 919, 920, 921, 923, 924, 907, 908, 909, 961, 964, 965, 967, 969, 971, 972, 973, 975, 977, 979] (by decide +kernel) (by decide +kernel) w h).1
set_option maxRecDepth 100000 in
theorem zt_2 : ∀ w ∈ zW2, w ∈ lw_tbl := fun w h => (goodIn_r (big := lw_tbl) zW2 [982, 983, 985, 987, 962, 963, 1032, 1037, 1038, 1039, 1040, 1041, 1042, 1043, 1044, 1045, 1046, 1047, 1048, 1049, 1050, 1051, 1052, 1033, 1034, 1035, 1137, 1143, 1138, 1144, 1145, 1146, 1147, 1148, 1149, 1150, 1151, 1152, 1154, 1155] (by decide +kernel) (by decide +kernel) w h).1
set_option maxRecDepth 100000 in
theorem zt_3 : ∀ w ∈ zW3, w ∈ lw_tbl := fun w h => (goodIn_r (big := lw_tbl) zW3 [1156, 1157, 1159, 1161, 1139, 1140, 1141, 1100, 1107, 1109, 1111, 1112, 1113, 1114, 1104, 1105, 1106, 642, 1102, 640, 641, 461, 646, 643, 644, 645, 637, 6264, 6263, 649, 647, 648, 462, 652, 650, 651, 653, 657, 655, 656] (by decide +kernel) (by decide +kernel) w h).1
set_option maxRecDepth 100000 in
theorem zt_4 : ∀ w ∈ zW4, w ∈ lw_tbl := fun w h => (goodIn_r (big := lw_tbl) zW4 [463, 687, 1103, 685, 686, 460, 747, 717, 699, 696, 697, 698, 716, 512, 691, 688, 689, 690, 458, 525, 692, 509, 693, 695, 694, 466, 457, 489, 488, 493, 497, 496, 501, 502, 503, 517, 518, 519, 504, 526] (by decide +kernel) (by decide +kernel) w h).1
set_option maxRecDepth 100000 in
theorem zt_5 : ∀ w ∈ zW5, w ∈ lw_tbl := fun w h => (goodIn_r (big := lw_tbl) zW5 [505, 529, 530, 508, 506, 507, 500, 498, 499, 1820, 459, 551, 550, 554, 552, 553, 1821, 620, 619, 623, 621, 622, 624, 718, 720, 722, 724, 726, 728, 730, 732, 735, 738, 739, 742, 745, 628, 626, 627, 632] (by decide +kernel) (by decide +kernel) w h).1
set_option maxRecDepth 100000 in
theorem zt_6 : ∀ w ∈ zW6, w ∈ lw_tbl := fun w h => (goodIn_r (big := lw_tbl) zW6 [629, 630, 631, 636, 633, 634, 635, 639, 704, 701, 703, 1, 680, 677, 679, 0, 681, 682, 465, 683, 684, 708, 705, 706, 707, 712, 709, 710, 711, 713, 714, 715, 1822, 467, 785, 784, 788, 786, 787, 1823] (by decide +kernel) (by decide +kernel) w h).1
set_option maxRecDepth 100000 in
theorem zt_7 : ∀ w ∈ zW7, w ∈ lw_tbl := fun w h => (goodIn_r (big := lw_tbl) zW7 [468, 838, 837, 841, 839, 840, 1824, 469, 901, 900, 904, 902, 903, 1825, 470, 957, 956, 960, 958, 959, 1826, 1828, 1829, 1830, 1023, 1831, 1832, 1833, 1025, 1835, 1836, 1838, 1839, 1840, 1092, 1841, 1842, 471, 1028, 1027] (by decide +kernel) (by decide +kernel) w h).1
set_option maxRecDepth 100000 in
theorem zt_8 : ∀ w ∈ zW8, w ∈ lw_tbl := fun w h => (goodIn_r (big := lw_tbl) zW8 [1031, 1029, 1030, 472, 1094, 1093, 473, 1096, 1095, 1099, 1097, 1098, 1136, 1134, 1135, 1827, 1204, 1201, 1202, 1203, 1246, 1243, 1244, 1245, 1250, 1247, 1248, 1249, 1234, 1231, 1232, 1233, 1242, 1239, 1241, 3, 1238, 1235, 1236, 1237] (by decide +kernel) (by decide +kernel) w h).1
set_option maxRecDepth 100000 in
theorem zt_9 : ∀ w ∈ zW9, w ∈ lw_tbl := fun w h => (goodIn_r (big := lw_tbl) zW9 [1837, 1251, 1255, 1252, 1253, 1254, 476, 1265, 1264, 727, 1269, 1276, 1281, 1297, 1302, 1305, 1308, 1311, 1314, 1318, 1320, 1270, 1271, 1274, 1285, 1288, 1293, 1295, 1268, 1266, 1267, 1275, 1279, 1298, 1358, 1355, 1356, 1357, 1374, 1371] (by decide +kernel) (by decide +kernel) w h).1
set_option maxRecDepth 100000 in
theorem zt_10 : ∀ w ∈ zW10, w ∈ lw_tbl := fun w h => (goodIn_r (big := lw_tbl) zW10 [1372, 1373, 1282, 1316, 1304, 1509, 1506, 1507, 1508, 1307, 1557, 1554, 1555, 1556, 1263, 1260, 1261, 1262, 1317, 1277, 1574, 1571, 1572, 1573, 1284, 1811, 1812, 1813, 1814, 1815, 1817, 1810, 1808, 1809, 478, 1310, 1818, 1819, 1313, 1715] (by decide +kernel) (by decide +kernel) w h).1
set_option maxRecDepth 100000 in
theorem zt_11 : ∀ w ∈ zW11, w ∈ lw_tbl := fun w h => (goodIn_r (big := lw_tbl) zW11 [1712, 1713, 1714, 1259, 1256, 1258, 4, 1834, 492, 490, 491, 479, 3504, 3503, 3508, 783, 3643, 3509, 3651, 3510, 3653, 3654, 3511, 3659, 3660, 3661, 3662, 3512, 3674, 3675, 3676, 3677, 3678, 3679, 3681, 3682, 3683, 3684, 3686, 3687] (by decide +kernel) (by decide +kernel) w h).1
set_option maxRecDepth 100000 in
theorem zt_12 : ∀ w ∈ zW12, w ∈ lw_tbl := fun w h => (goodIn_r (big := lw_tbl) zW12 [3688, 3689, 3690, 3700, 3701, 3702, 3703, 3704, 3705, 3707, 3708, 3709, 3710, 3711, 3712, 3713, 3714, 3716, 3717, 3718, 3719, 3720, 3722, 3723, 3724, 3725, 3729, 3730, 3731, 3732, 3733, 3734, 3735, 3739, 3740, 3741, 3742, 3743, 3744, 3745] (by decide +kernel) (by decide +kernel) w h).1
set_option maxRecDepth 100000 in
theorem zt_13 : ∀ w ∈ zW13, w ∈ lw_tbl := fun w h => (goodIn_r (big := lw_tbl) zW13 [3746, 3564, 3748, 3749, 3750, 3753, 3754, 480, 3514, 3513, 3515, 3516, 3520, 3535, 3536, 3537, 3545, 3546, 3539, 3541, 3543, 3534, 3528, 3525, 3527, 83, 3524, 3521, 3522, 3523, 3519, 3517, 3518, 3755, 3756, 3757, 3768, 3769, 3770, 3771] (by decide +kernel) (by decide +kernel) w h).1
set_option maxRecDepth 100000 in
theorem zt_14 : ∀ w ∈ zW14, w ∈ lw_tbl := fun w h => (goodIn_r (big := lw_tbl) zW14 [3772, 3774, 3775, 3776, 3777, 3778, 3779, 3565, 3780, 3781, 3566, 3782, 3783, 3567, 3784, 3788, 3789, 3790, 3791, 3792, 3793, 3794, 3797, 3798, 3799, 3800, 3802, 3568, 3804, 3805, 3807, 3809, 3810, 3811, 3813, 3814, 3816, 3817, 3818, 3819] (by decide +kernel) (by decide +kernel) w h).1
set_option maxRecDepth 100000 in
theorem zt_15 : ∀ w ∈ zW15, w ∈ lw_tbl := fun w h => (goodIn_r (big := lw_tbl) zW15 [3820, 3821, 3822, 3825, 3827, 3828, 3829, 3830, 3831, 3845, 3848, 3849, 3850, 3851, 3852, 3853, 3854, 3855, 3856, 3857, 3858, 3867, 3868, 3871, 3873, 3874, 3875, 3876, 3570, 3877, 3879, 3578, 3575, 3577, 85, 3624, 3621, 3623, 89, 3574] (by decide +kernel) (by decide +kernel) w h).1
set_option maxRecDepth 100000 in
theorem zt_16 : ∀ w ∈ zW16, w ∈ lw_tbl := fun w h => (goodIn_r (big := lw_tbl) zW16 [3571, 3572, 3573, 3878, 3507, 3505, 3506, 1897, 1894, 1896, 42, 1893, 1890, 1891, 1892, 3870, 3872, 4380, 4377, 4378, 4379, 1901, 1898, 1899, 1900, 4384, 4381, 4382, 4383, 1909, 1906, 1908, 43, 1921, 1918, 1919, 1920, 1917, 1914, 1915] (by decide +kernel) (by decide +kernel) w h).1
set_option maxRecDepth 100000 in
theorem zt_17 : ∀ w ∈ zW17, w ∈ lw_tbl := fun w h => (goodIn_r (big := lw_tbl) zW17 [1916, 481, 1431, 1987, 1991, 2034, 2036, 2039, 2044, 2047, 1992, 1996, 2001, 2005, 2009, 2013, 2018, 2023, 2027, 2030, 1990, 1988, 1989, 2089, 2086, 2087, 2088, 2097, 2094, 2095, 2096, 2085, 2082, 2083, 2084, 2105, 2102, 2103, 2104, 2101] (by decide +kernel) (by decide +kernel) w h).1
set_option maxRecDepth 100000 in
theorem zt_18 : ∀ w ∈ zW18, w ∈ lw_tbl := fun w h => (goodIn_r (big := lw_tbl) zW18 [2098, 2099, 2100, 2004, 2093, 2090, 2091, 2092, 2113, 2110, 2111, 2112, 2121, 2118, 2119, 2120, 2109, 2106, 2107, 2108, 2038, 2043, 2017, 2046, 1913, 1910, 1911, 1912, 802, 1905, 1902, 1903, 1904, 4392, 4389, 4391, 91, 3680, 3685, 3691] (by decide +kernel) (by decide +kernel) w h).1
set_option maxRecDepth 100000 in
theorem zt_19 : ∀ w ∈ zW19, w ∈ lw_tbl := fun w h => (goodIn_r (big := lw_tbl) zW19 [3663, 3699, 3706, 3715, 4402, 4403, 4407, 4404, 4406, 94, 4401, 4398, 4400, 93, 3695, 3696, 3697, 3698, 4396, 4393, 4395, 92, 3664, 3665, 3671, 3669, 3672, 3673, 4433, 4431, 4432, 3668, 3670, 3645, 3666, 4430, 4427, 4429, 99, 4426] (by decide +kernel) (by decide +kernel) w h).1
set_option maxRecDepth 100000 in
theorem zt_20 : ∀ w ∈ zW20, w ∈ lw_tbl := fun w h => (goodIn_r (big := lw_tbl) zW20 [4423, 4425, 98, 3693, 4502, 4499, 4501, 110, 4498, 4495, 4497, 109, 4510, 4507, 4509, 112, 4494, 4491, 4493, 108, 4518, 4515, 4517, 114, 4514, 4511, 4513, 113, 4422, 4419, 4421, 97, 4388, 4385, 4386, 4387, 2249, 2246, 2247, 2248] (by decide +kernel) (by decide +kernel) w h).1
set_option maxRecDepth 100000 in
theorem zt_21 : ∀ w ∈ zW21, w ∈ lw_tbl := fun w h => (goodIn_r (big := lw_tbl) zW21 [4699, 4696, 4697, 4698, 1319, 1321, 2257, 2254, 2256, 61, 2253, 2250, 2251, 2252, 3726, 3751, 3721, 4715, 4712, 4714, 161, 4733, 4730, 4732, 164, 4745, 4742, 4744, 167, 4886, 4883, 4885, 200, 4937, 4934, 4936, 212, 5036, 5033, 5035] (by decide +kernel) (by decide +kernel) w h).1
set_option maxRecDepth 100000 in
theorem zt_22 : ∀ w ∈ zW22, w ∈ lw_tbl := fun w h => (goodIn_r (big := lw_tbl) zW22 [236, 4711, 4708, 4710, 160, 3859, 3727, 3860, 3728, 3861, 3862, 3863, 3864, 3865, 4707, 4704, 4706, 159, 3866, 5057, 5054, 5056, 241, 4703, 4700, 4701, 4702, 1280, 2261, 2258, 2259, 2260, 5065, 5062, 5064, 242, 5061, 5058, 5059, 5060] (by decide +kernel) (by decide +kernel) w h).1
set_option maxRecDepth 100000 in
theorem zt_23 : ∀ w ∈ zW23, w ∈ lw_tbl := fun w h => (goodIn_r (big := lw_tbl) zW23 [2265, 2262, 2263, 2264, 5069, 5066, 5067, 5068, 527, 2281, 2278, 2279, 2280, 2286, 2283, 2284, 2285, 2277, 2274, 2276, 62, 2273, 2270, 2271, 2272, 561, 2269, 2266, 2267, 2268, 5074, 3647, 3648, 3649, 3650, 3652, 5090, 5087, 5089, 246] (by decide +kernel) (by decide +kernel) w h).1
set_option maxRecDepth 100000 in
theorem zt_24 : ∀ w ∈ zW24, w ∈ lw_tbl := fun w h => (goodIn_r (big := lw_tbl) zW24 [5086, 5083, 5085, 245, 4443, 4441, 4442, 4455, 4452, 4454, 102, 5082, 5079, 5081, 244, 5078, 5075, 5077, 243, 5073, 5070, 5071, 5072, 2342, 2339, 2340, 2341, 5160, 5157, 5158, 5159, 2430, 2427, 2428, 2429, 5283, 5280, 5281, 5282, 2166] (by decide +kernel) (by decide +kernel) w h).1
set_option maxRecDepth 100000 in
theorem zt_25 : ∀ w ∈ zW25, w ∈ lw_tbl := fun w h => (goodIn_r (big := lw_tbl) zW25 [2163, 2164, 2165, 2178, 2175, 2177, 47, 2190, 2187, 2189, 50, 2022, 2186, 2183, 2185, 49, 1995, 2229, 2226, 2228, 58, 2213, 2210, 2212, 55, 2134, 2131, 2132, 2133, 2209, 2206, 2208, 54, 2438, 2435, 2436, 2437, 2434, 2431, 2432] (by decide +kernel) (by decide +kernel) w h).1
set_option maxRecDepth 100000 in
theorem zt_26 : ∀ w ∈ zW26, w ∈ lw_tbl := fun w h => (goodIn_r (big := lw_tbl) zW26 [2433, 3692, 4606, 4603, 4605, 136, 4538, 4535, 4537, 119, 4558, 4555, 4557, 124, 4582, 4579, 4581, 130, 4578, 4575, 4577, 129, 4586, 4583, 4585, 131, 4574, 4571, 4573, 128, 4526, 4523, 4525, 116, 4634, 4631, 4633, 143, 4610, 4607] (by decide +kernel) (by decide +kernel) w h).1
set_option maxRecDepth 100000 in
theorem zt_27 : ∀ w ∈ zW27, w ∈ lw_tbl := fun w h => (goodIn_r (big := lw_tbl) zW27 [4609, 137, 4530, 4527, 4529, 117, 4602, 4599, 4601, 135, 3869, 5291, 5288, 5290, 267, 5287, 5284, 5285, 5286, 2520, 2517, 2519, 69, 2516, 2513, 2514, 2515, 5307, 5304, 5306, 270, 5303, 5300, 5301, 5302, 2524, 2521, 2522, 2523, 5315] (by decide +kernel) (by decide +kernel) w h).1
set_option maxRecDepth 100000 in
theorem zt_28 : ∀ w ∈ zW28, w ∈ lw_tbl := fun w h => (goodIn_r (big := lw_tbl) zW28 [5312, 5313, 5314, 2528, 2525, 2526, 2527, 5319, 5316, 5317, 5318, 1153, 3382, 3379, 3381, 79, 3378, 3375, 3376, 3377, 3885, 6212, 6209, 6210, 6211, 3390, 3387, 3389, 80, 3386, 3383, 3384, 3385, 6216, 6213, 6214, 6215, 3394, 3391, 3392] (by decide +kernel) (by decide +kernel) w h).1
set_option maxRecDepth 100000 in
theorem zt_29 : ∀ w ∈ zW29, w ∈ lw_tbl := fun w h => (goodIn_r (big := lw_tbl) zW29 [3393, 6220, 6217, 6218, 6219, 3415, 3412, 3413, 3414, 6224, 6221, 6222, 6223, 3419, 3416, 3417, 3418, 3658, 6229, 6226, 6227, 6228, 3436, 487, 3435, 3432, 3433, 3434, 3431, 3430, 3428, 3429, 456, 6233, 6230, 6231, 6232, 4376, 4373, 4374] (by decide +kernel) (by decide +kernel) w h).1
set_option maxRecDepth 100000 in
theorem zt_30 : ∀ w ∈ zW30, w ∈ lw_tbl := fun w h => (goodIn_r (big := lw_tbl) zW30 [4375, 3423, 3420, 3421, 3422, 6237, 6234, 6235, 6236, 1225, 2338, 1223, 1224, 3427, 3424, 3425, 3426, 3591, 3590, 3587, 3588, 3589, 3633, 3632, 5156, 3630, 3631, 6241, 6238, 6239, 6240, 2455, 5260] (by decide +kernel) (by decide +kernel) w h).1
set_option maxRecDepth 100000 in
theorem zt_X0 : ∀ w ∈ wsX00, w ∈ lw_tbl := fun w h => (goodIn_r (big := lw_tbl) wsX00 [1115, 1117, 1119, 1121, 1123, 1125, 1127, 1129, 1131] (by decide +kernel) (by decide +kernel) w h).1
set_option maxRecDepth 100000 in
theorem zt_X1 : ∀ w ∈ wsX10, w ∈ lw_tbl := fun w h => (goodIn_r (big := lw_tbl) wsX10 [1322, 1324, 1326, 1328, 1330, 1332, 1334, 1336, 1338, 1340, 1342, 1344, 1346, 1348, 1350, 1352] (by decide +kernel) (by decide +kernel) w h).1
set_option maxRecDepth 100000 in
theorem zt_X10 : ∀ w ∈ wsX100, w ∈ lw_tbl := fun w h => (goodIn_r (big := lw_tbl) wsX100 [1053, 1055, 1057, 1059, 1061, 1063, 1065, 1067, 1069, 1071, 1073, 1075, 1077, 1079, 1081, 1083, 1085, 1087, 1089] (by decide +kernel) (by decide +kernel) w h).1
set_option maxRecDepth 100000 in
theorem zt_X11 : ∀ w ∈ wsX110, w ∈ lw_tbl := fun w h => (goodIn_r (big := lw_tbl) wsX110 [588, 590, 592, 594, 596, 598, 600, 602, 604, 606, 608, 610, 612, 614, 616] (by decide +kernel) (by decide +kernel) w h).1
set_option maxRecDepth 100000 in
theorem zt_X12 : ∀ w ∈ wsX120, w ∈ lw_tbl := fun w h => (goodIn_r (big := lw_tbl) wsX120 [2051, 2053, 2055, 2057, 2059, 2061, 2063, 2065, 2067, 2069, 2071, 2073, 2075, 2077, 2079] (by decide +kernel) (by decide +kernel) w h).1
set_option maxRecDepth 100000 in
theorem zt_X13 : ∀ w ∈ wsX130, w ∈ lw_tbl := fun w h => (goodIn_r (big := lw_tbl) wsX130 [1843, 1845, 1847, 1849, 1851, 1853, 1855, 1857, 1859, 1861, 1863, 1865, 1867, 1869, 1871, 1873, 1875, 1877, 1879, 1881, 1883, 1885, 1887] (by decide +kernel) (by decide +kernel) w h).1
set_option maxRecDepth 100000 in
theorem zt_X14 : ∀ w ∈ wsX140, w ∈ lw_tbl := fun w h => (goodIn_r (big := lw_tbl) wsX140 [5263, 5264, 5265, 5266, 5267, 5278] (by decide +kernel) (by decide +kernel) w h).1
set_option maxRecDepth 100000 in
theorem zt_X15 : ∀ w ∈ wsX150, w ∈ lw_tbl := fun w h => (goodIn_r (big := lw_tbl) wsX150 [3547, 3549, 3551, 3553, 3555, 3557, 3559, 3561] (by decide +kernel) (by decide +kernel) w h).1
set_option maxRecDepth 100000 in
theorem zt_X16 : ∀ w ∈ wsX160, w ∈ lw_tbl := fun w h => (goodIn_r (big := lw_tbl) wsX160 [3886, 3888, 3890, 3892, 3894, 3896, 3898, 3900, 3902, 3904, 3906, 3908, 3910, 3912, 3914, 3916, 3918, 3920, 3922, 3924, 3926, 3928, 3930, 3932, 3934, 3936, 3938, 3940, 3942, 3944, 3946, 3948, 3950, 3952, 3954, 3956, 3958, 3960, 3962, 3964, 3966, 3968, 3970, 3972, 3974, 3976, 3978, 3980, 3982, 3984, 3986, 3988, 3990, 3992, 3994, 3996, 3998, 4000, 4002, 4004, 4006, 4008, 4010, 4012, 4014, 4016, 4018, 4020, 4022, 4024, 4026, 4028, 4030, 4032, 4034, 4036, 4038, 4040, 4042, 4044, 4046, 4048, 4050, 4052, 4054, 4056, 4058, 4060, 4062, 4064, 4066, 4068, 4070, 4072, 4074, 4076, 4078, 4080, 4082, 4084, 4086, 4088, 4090, 4092, 4094, 4096, 4098, 4100, 4102, 4104, 4106, 4108, 4110, 4112, 4114, 4116, 4118, 4120, 4122, 4124, 4126, 4128, 4130, 4132, 4134, 4136, 4138, 4140, 4142, 4144, 4146, 4148, 4150, 4152, 4154, 4156, 4158, 4160, 4162, 4164, 4166, 4168, 4170, 4172, 4174, 4176, 4178, 4180, 4182, 4184, 4186, 4188, 4190, 4192, 4194, 4196, 4198, 4200, 4202, 4204, 4206, 4208, 4210, 4212, 4214, 4216, 4218, 4220, 4222, 4224, 4226, 4228, 4230, 4232, 4234, 4236, 4238, 4240, 4242, 4244, 4246, 4248, 4250, 4252, 4254, 4256, 4258, 4260, 4262, 4264, 4266, 4268, 4270, 4272, 4274, 4276, 4278, 4280, 4282, 4284, 4286, 4288, 4290, 4292, 4294, 4296, 4298, 4300, 4302, 4304, 4306, 4308, 4310, 4312, 4314, 4316, 4318, 4320, 4322, 4324, 4326, 4328, 4330, 4332, 4334, 4336, 4338, 4340, 4342, 4344, 4346, 4348, 4350, 4352, 4354, 4356, 4358, 4360, 4362, 4364, 4366, 4368, 4370] (by decide +kernel) (by decide +kernel) w h).1
set_option maxRecDepth 100000 in
theorem zt_X2 : ∀ w ∈ wsX20, w ∈ lw_tbl := fun w h => (goodIn_r (big := lw_tbl) wsX20 [867, 869, 871, 873, 875, 877, 879, 881, 883, 885, 887, 889, 891, 893, 895, 897] (by decide +kernel) (by decide +kernel) w h).1
set_option maxRecDepth 100000 in
theorem zt_X3 : ∀ w ∈ wsX30, w ∈ lw_tbl := fun w h => (goodIn_r (big := lw_tbl) wsX30 [925, 927, 929, 931, 933, 935, 937, 939, 941, 943, 945, 947, 949, 951, 953] (by decide +kernel) (by decide +kernel) w h).1
set_option maxRecDepth 100000 in
theorem zt_X4 : ∀ w ∈ wsX40, w ∈ lw_tbl := fun w h => (goodIn_r (big := lw_tbl) wsX40 [532, 534, 536, 538, 540, 542, 544, 546] (by decide +kernel) (by decide +kernel) w h).1
set_option maxRecDepth 100000 in
theorem zt_X5 : ∀ w ∈ wsX50, w ∈ lw_tbl := fun w h => (goodIn_r (big := lw_tbl) wsX50 [1162, 1164, 1166, 1168, 1170, 1172, 1174, 1176, 1178, 1180, 1182, 1184, 1186, 1188, 1190, 1192, 1194, 1196, 1198] (by decide +kernel) (by decide +kernel) w h).1
set_option maxRecDepth 100000 in
theorem zt_X6 : ∀ w ∈ wsX60, w ∈ lw_tbl := fun w h => (goodIn_r (big := lw_tbl) wsX60 [750, 752, 754, 756, 758, 760, 762, 764, 766, 768, 770, 772, 774, 776, 778, 780] (by decide +kernel) (by decide +kernel) w h).1
set_option maxRecDepth 100000 in
theorem zt_X7 : ∀ w ∈ wsX70, w ∈ lw_tbl := fun w h => (goodIn_r (big := lw_tbl) wsX70 [2478, 2480, 2482, 2484, 2486, 2488, 2490] (by decide +kernel) (by decide +kernel) w h).1
set_option maxRecDepth 100000 in
theorem zt_X8 : ∀ w ∈ wsX80, w ∈ lw_tbl := fun w h => (goodIn_r (big := lw_tbl) wsX80 [806, 808, 810, 812, 814, 816, 818, 820, 822, 824, 826, 828, 830, 832, 834] (by decide +kernel) (by decide +kernel) w h).1
set_option maxRecDepth 100000 in
theorem zt_X9 : ∀ w ∈ wsX90, w ∈ lw_tbl := fun w h => (goodIn_r (big := lw_tbl) wsX90 [990, 992, 994, 996, 998, 1000, 1002, 1004, 1006, 1008, 1010, 1012, 1014, 1016, 1018, 1020] (by decide +kernel) (by decide +kernel) w h).1
set_option maxRecDepth 100000 in
theorem zt_x : ∀ w ∈ zWx, w ∈ lw_tbl := fun w h => (goodIn_r (big := lw_tbl) zWx [482, 3458, 3467, 3470, 3473, 3475, 3459, 3460, 494, 495, 3461, 3466, 3471, 3491, 3448, 3492, 3450, 3493, 3452, 3462, 3464, 3454, 3487, 3488, 3490, 3454, 3478, 3479, 3480, 3481, 3481, 3482, 3483, 3484, 3484, 3485, 3486, 3487, 3477, 3437, 3445, 3446, 3447, 3449, 3451, 3453, 3457, 3456, 3455] (by decide +kernel) (by decide +kernel) w h).1
set_option maxRecDepth 100000 in
theorem zNg_p : zNg = [3440, 3442, 3444, 3438].filterMap (fun i => lw_tbl[i]?) := by decide +kernel
set_option maxRecDepth 100000 in
theorem zt_ng : ∀ w ∈ zNg, w ∈ lw_tbl := fun w h => by
  rw [zNg_p] at h
  obtain ⟨i, -, hi⟩ := List.mem_filterMap.mp h
  exact List.mem_of_getElem? hi
theorem zt_all : ∀ w ∈ zW, w ∈ lw_tbl := (List.forall_mem_append.mpr ⟨zt_0, (List.forall_mem_append.mpr ⟨zt_1, (List.forall_mem_append.mpr ⟨zt_2, (List.forall_mem_append.mpr ⟨zt_3, (List.forall_mem_append.mpr ⟨zt_4, (List.forall_mem_append.mpr ⟨zt_5, (List.forall_mem_append.mpr ⟨zt_6, (List.forall_mem_append.mpr ⟨zt_7, (List.forall_mem_append.mpr ⟨zt_8, (List.forall_mem_append.mpr ⟨zt_9, (List.forall_mem_append.mpr ⟨zt_10, (List.forall_mem_append.mpr ⟨zt_11, (List.forall_mem_append.mpr ⟨zt_12, (List.forall_mem_append.mpr ⟨zt_13, (List.forall_mem_append.mpr ⟨zt_14, (List.forall_mem_append.mpr ⟨zt_15, (List.forall_mem_append.mpr ⟨zt_16, (List.forall_mem_append.mpr ⟨zt_17, (List.forall_mem_append.mpr ⟨zt_18, (List.forall_mem_append.mpr ⟨zt_19, (List.forall_mem_append.mpr ⟨zt_20, (List.forall_mem_append.mpr ⟨zt_21, (List.forall_mem_append.mpr ⟨zt_22, (List.forall_mem_append.mpr ⟨zt_23, (List.forall_mem_append.mpr ⟨zt_24, (List.forall_mem_append.mpr ⟨zt_25, (List.forall_mem_append.mpr ⟨zt_26, (List.forall_mem_append.mpr ⟨zt_27, (List.forall_mem_append.mpr ⟨zt_28, (List.forall_mem_append.mpr ⟨zt_29, (List.forall_mem_append.mpr ⟨zt_30, (List.forall_mem_append.mpr ⟨zt_x, (List.forall_mem_append.mpr ⟨zt_X0, (List.forall_mem_append.mpr ⟨zt_X1, (List.forall_mem_append.mpr ⟨zt_X10, (List.forall_mem_append.mpr ⟨zt_X11, (List.forall_mem_append.mpr ⟨zt_X12, (List.forall_mem_append.mpr ⟨zt_X13, (List.forall_mem_append.mpr ⟨zt_X14, (List.forall_mem_append.mpr ⟨zt_X15, (List.forall_mem_append.mpr ⟨zt_X16, (List.forall_mem_append.mpr ⟨zt_X2, (List.forall_mem_append.mpr ⟨zt_X3, (List.forall_mem_append.mpr ⟨zt_X4, (List.forall_mem_append.mpr ⟨zt_X5, (List.forall_mem_append.mpr ⟨zt_X6, (List.forall_mem_append.mpr ⟨zt_X7, (List.forall_mem_append.mpr ⟨zt_X8, zt_X9⟩)⟩)⟩)⟩)⟩)⟩)⟩)⟩)⟩)⟩)⟩)⟩)⟩)⟩)⟩)⟩)⟩)⟩)⟩)⟩)⟩)⟩)⟩)⟩)⟩)⟩)⟩)⟩)⟩)⟩)⟩)⟩)⟩)⟩)⟩)⟩)⟩)⟩)⟩)⟩)⟩)⟩)⟩)⟩)⟩)⟩)⟩)⟩)
