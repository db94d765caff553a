set_option maxRecDepth 100000 in
theorem zt_0 : ∀ w ∈ zW0, w ∈ lw_tbl := fun w h => (goodIn_r (big := lw_tbl) zW0 [555, 494, 495, 557, 558, 559, 560, 562, 565, 549, 568, 571, 574, 577, 578, 579, 583, 584, 556, 789, 793, 794, 795, 796, 797, 798, 799, 800, 801, 803, 804, 805, 790, 791, 792, 842, 845, 846, 848, 850] (by decide +kernel) (by decide +kernel) w h).1
set_option maxRecDepth 100000 in
theorem zt_1 : ∀ w ∈ zW1, w ∈ lw_tbl := fun w h => (goodIn_r (big := lw_tbl) zW1 [851, 853, 854, 856, 857, 858, 860, 862, 865, 866, 843, 844, 905, 910, 911, 906, 912, 914, 916, 917, 918, 919, 920, 921, 923, 924, 907, 908, 909, 961, 964, 965, 967, 969, 971, 972, 973, 975, 977, 979] (by decide +kernel) (by decide +kernel) w h).1
set_option maxRecDepth 100000 in
theorem zt_2 : ∀ w ∈ zW2, w ∈ lw_tbl := fun w h => (goodIn_r (big := lw_tbl) zW2 [982, 983, 985, 987, 962, 963, 1032, 1037, 1038, 1039, 1040, 1041, 1042, 1043, 1044, 1045, 1046, 1047, 1048, 1049, 1050, 1051, 1052, 1033, 1034, 1035, 1137, 1143, 1138, 1144, 1145, 1146, 1147, 1148, 1149, 1150, 1151, 1152, 1154, 1155] (by decide +kernel) (by decide +kernel) w h).1
set_option maxRecDepth 100000 in
theorem zt_3 : ∀ w ∈ zW3, w ∈ lw_tbl := fun w h => (goodIn_r (big := lw_tbl) zW3 [1156, 1157, 1159, 1161, 1139, 1140, 1141, 1100, 1107, 1109, 1111, 1112, 1113, 1114, 1104, 1105, 1106, 642, 1102, 640, 641, 461, 646, 643, 644, 645, 637, 6264, 6263, 649, 647, 648, 462, 652, 650, 651, 653, 657, 655, 656] (by decide +kernel) (by decide +kernel) w h).1
set_option maxRecDepth 100000 in
theorem zt_4 : ∀ w ∈ zW4, w ∈ lw_tbl := fun w h => (goodIn_r (big := lw_tbl) zW4 [463, 687, 1103, 685, 686, 460, 747, 717, 699, 696, 697, 698, 716, 512, 691, 688, 689, 690, 458, 525, 692, 509, 693, 695, 694, 466, 457, 489, 488, 493, 497, 496, 501, 502, 503, 517, 518, 519, 504, 526] (by decide +kernel) (by decide +kernel) w h).1
set_option maxRecDepth 100000 in
theorem zt_5 : ∀ w ∈ zW5, w ∈ lw_tbl := fun w h => (goodIn_r (big := lw_tbl) zW5 [505, 529, 530, 508, 506, 507, 500, 498, 499, 1820, 459, 551, 550, 554, 552, 553, 1821, 620, 619, 623, 621, 622, 624, 718, 720, 722, 724, 726, 728, 730, 732, 735, 738, 739, 742, 745, 628, 626, 627, 632] (by decide +kernel) (by decide +kernel) w h).1
set_option maxRecDepth 100000 in
theorem zt_6 : ∀ w ∈ zW6, w ∈ lw_tbl := fun w h => (goodIn_r (big := lw_tbl) zW6 [629, 630, 631, 636, 633, 634, 635, 639, 704, 701, 703, 1, 680, 677, 679, 0, 681, 682, 465, 683, 684, 708, 705, 706, 707, 712, 709, 710, 711, 713, 714, 715, 1822, 467, 785, 784, 788, 786, 787, 1823] (by decide +kernel) (by decide +kernel) w h).1
set_option maxRecDepth 100000 in
theorem zt_7 : ∀ w ∈ zW7, w ∈ lw_tbl := fun w h => (goodIn_r (big := lw_tbl) zW7 [468, 838, 837, 841, 839, 840, 1824, 469, 901, 900, 904, 902, 903, 1825, 470, 957, 956, 960, 958, 959, 1826, 1828, 1829, 1830, 1023, 1831, 1832, 1833, 1025, 1835, 1836, 1838, 1839, 1840, 1092, 1841, 1842, 471, 1028, 1027] (by decide +kernel) (by decide +kernel) w h).1
set_option maxRecDepth 100000 in
theorem zt_8 : ∀ w ∈ zW8, w ∈ lw_tbl := fun w h => (goodIn_r (big := lw_tbl) zW8 [1031, 1029, 1030, 472, 1094, 1093, 473, 1096, 1095, 1099, 1097, 1098, 1136, 1134, 1135, 1827, 1204, 1201, 1202, 1203, 1246, 1243, 1244, 1245, 1250, 1247, 1248, 1249, 1234, 1231, 1232, 1233, 1242, 1239, 1241, 3, 1238, 1235, 1236, 1237] (by decide +kernel) (by decide +kernel) w h).1
set_option maxRecDepth 100000 in
theorem zt_9 : ∀ w ∈ zW9, w ∈ lw_tbl := fun w h => (goodIn_r (big := lw_tbl) zW9 [1837, 1251, 1255, 1252, 1253, 1254, 476, 1265, 1264, 727, 1269, 1276, 1281, 1297, 1302, 1305, 1308, 1311, 1314, 1318, 1320, 1270, 1271, 1274, 1285, 1288, 1293, 1295, 1268, 1266, 1267, 1275, 1279, 1298, 1358, 1355, 1356, 1357, 1374, 1371] (by decide +kernel) (by decide +kernel) w h).1
