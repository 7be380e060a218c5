theorem kd_0_0 : k_decL cL_law ((kc_0.drop 0).take 4) = true := by decide +kernel
theorem kd_0_4 : k_decL cL_law ((kc_0.drop 4).take 4) = true := by decide +kernel
theorem kd_0_8 : k_decL cL_law ((kc_0.drop 8).take 4) = true := by decide +kernel
theorem kd_0_12 : k_decL cL_law ((kc_0.drop 12).take 4) = true := by decide +kernel
theorem kd_0_16 : k_decL cL_law ((kc_0.drop 16).take 4) = true := by decide +kernel
theorem kd_0_20 : k_decL cL_law ((kc_0.drop 20).take 4) = true := by decide +kernel
theorem kd_0_24 : k_decL cL_law ((kc_0.drop 24).take 4) = true := by decide +kernel
theorem kd_0_28 : k_decL cL_law ((kc_0.drop 28).take 4) = true := by decide +kernel
theorem kd_0_32 : k_decL cL_law ((kc_0.drop 32).take 4) = true := by decide +kernel
theorem kd_0_36 : k_decL cL_law ((kc_0.drop 36).take 4) = true := by decide +kernel
theorem kd_0_40 : k_decL cL_law ((kc_0.drop 40).take 4) = true := by decide +kernel
theorem kd_0_44 : k_decL cL_law ((kc_0.drop 44).take 4) = true := by decide +kernel
theorem kd_0_48 : k_decL cL_law ((kc_0.drop 48).take 4) = true := by decide +kernel
theorem kd_0_52 : k_decL cL_law ((kc_0.drop 52).take 4) = true := by decide +kernel
theorem kd_0_56 : k_decL cL_law ((kc_0.drop 56).take 4) = true := by decide +kernel
theorem kd_0_60 : k_decL cL_law ((kc_0.drop 60).take 4) = true := by decide +kernel
theorem kd_0_64 : k_decL cL_law ((kc_0.drop 64).take 4) = true := by decide +kernel
theorem kx_0 : kc_0 = (kc_0.drop 0).take 4 ++ ((kc_0.drop 4).take 4 ++ ((kc_0.drop 8).take 4 ++ ((kc_0.drop 12).take 4 ++ ((kc_0.drop 16).take 4 ++ ((kc_0.drop 20).take 4 ++ ((kc_0.drop 24).take 4 ++ ((kc_0.drop 28).take 4 ++ ((kc_0.drop 32).take 4 ++ ((kc_0.drop 36).take 4 ++ ((kc_0.drop 40).take 4 ++ ((kc_0.drop 44).take 4 ++ ((kc_0.drop 48).take 4 ++ ((kc_0.drop 52).take 4 ++ ((kc_0.drop 56).take 4 ++ ((kc_0.drop 60).take 4 ++ ((kc_0.drop 64).take 4)))))))))))))))) := rfl
theorem kd_0 : ∀ ch ∈ kr_0.1, ∀ q ∈ ch, decode kr_0.2.2.2.2.1 q.1 = .ok q.2 := by
  show ∀ ch ∈ kc_0, ∀ q ∈ ch, decode cL_law q.1 = .ok q.2
  rw [kx_0]
  exact (k_dec_app (k_decL_ok kd_0_0) (k_dec_app (k_decL_ok kd_0_4) (k_dec_app (k_decL_ok kd_0_8) (k_dec_app (k_decL_ok kd_0_12) (k_dec_app (k_decL_ok kd_0_16) (k_dec_app (k_decL_ok kd_0_20) (k_dec_app (k_decL_ok kd_0_24) (k_dec_app (k_decL_ok kd_0_28) (k_dec_app (k_decL_ok kd_0_32) (k_dec_app (k_decL_ok kd_0_36) (k_dec_app (k_decL_ok kd_0_40) (k_dec_app (k_decL_ok kd_0_44) (k_dec_app (k_decL_ok kd_0_48) (k_dec_app (k_decL_ok kd_0_52) (k_dec_app (k_decL_ok kd_0_56) (k_dec_app (k_decL_ok kd_0_60) (k_decL_ok kd_0_64)))))))))))))))))
theorem ke_0 : k_ents kr_0.2.2.2.1.cls kr_0.2.1 [[149, 150, 132], [151, 152], [1267, 1268, 144], [1269, 1270], [524, 525, 526], [1516, 1517, 1518], [536, 537, 538], [1528, 1529, 1530], [540, 541, 542], [1532, 1533, 1534], [797, 798, 799], [1724, 1725, 1726], [801, 802, 803], [1744, 1745, 1746], [857, 858, 859], [1760, 1761, 1762], [866, 867, 868], [1765, 1766, 1767], [886, 887, 888], [1781, 1782, 1783], [894, 895, 896], [1789, 1790, 1791], [908, 909, 910], [1801, 1802, 1803], [919, 920, 921], [1813, 1814, 1815], [970, 971, 972], [1856, 1857, 1858], [1011, 1012, 1013], [1885, 1886, 1887], [1019, 1020, 1021], [1897, 1898, 1899], [1031, 1032, 1033], [1901, 1902, 1903], [1049, 1050, 1051], [1732, 1733, 1734], [1058, 1059, 1060], [1913, 1914, 1915], [1062, 1063, 1064], [1917, 1918, 1919], [1070, 1071, 1072], [1921, 1922, 1923], [1108, 1109, 1110], [1942, 1943, 1944], [1120, 1121, 1122], [1946, 1947, 1948], [1162, 1163, 1164], [1961, 1962, 1963], [1166, 1167, 1168], [1965, 1966, 1967], [1187, 1188, 1189], [1976, 1977, 1978], [1224, 1225, 1226], [1992, 1993, 1994], [1228, 1229, 1230], [1996, 1997, 1998], [1240, 1241, 1242], [2008, 2009, 2010], [1244, 1245, 1246], [2012, 2013, 2014], [1263, 1264, 1265], [1728, 1729, 1730]] = true := by decide +kernel
theorem ko_0 : k_recP kr_0 := k_rec_ok k_okm kd_0 ke_0 (by decide +kernel)
theorem kd_1_0 : k_decL cX0_init ((kc_1.drop 0).take 8) = true := by decide +kernel
theorem kx_1 : kc_1 = (kc_1.drop 0).take 8 := rfl
theorem kd_1 : ∀ ch ∈ kr_1.1, ∀ q ∈ ch, decode kr_1.2.2.2.2.1 q.1 = .ok q.2 := by
  show ∀ ch ∈ kc_1, ∀ q ∈ ch, decode cX0_init q.1 = .ok q.2
  rw [kx_1]
  exact (k_decL_ok kd_1_0)
theorem ke_1 : k_ents kr_1.2.2.2.1.cls kr_1.2.1 [[438, 155, 156], [439], [440], [442]] = true := by decide +kernel
theorem ko_1 : k_recP kr_1 := k_rec_ok k_okm kd_1 ke_1 (by decide +kernel)
theorem kd_2_0 : k_decL cX0_isTold ((kc_2.drop 0).take 8) = true := by decide +kernel
theorem kx_2 : kc_2 = (kc_2.drop 0).take 8 := rfl
theorem kd_2 : ∀ ch ∈ kr_2.1, ∀ q ∈ ch, decode kr_2.2.2.2.2.1 q.1 = .ok q.2 := by
  show ∀ ch ∈ kc_2, ∀ q ∈ ch, decode cX0_isTold q.1 = .ok q.2
  rw [kx_2]
  exact (k_decL_ok kd_2_0)
theorem ke_2 : k_ents kr_2.2.2.2.1.cls kr_2.2.1 [[169], [369], [1128, 686, 687], [1129, 814, 815], [165], [1130, 891, 892]] = true := by decide +kernel
theorem ko_2 : k_recP kr_2 := k_rec_ok k_okm kd_2 ke_2 (by decide +kernel)
theorem kd_3_0 : k_decL cX0_settle ((kc_3.drop 0).take 8) = true := by decide +kernel
theorem kd_3_8 : k_decL cX0_settle ((kc_3.drop 8).take 8) = true := by decide +kernel
theorem kx_3 : kc_3 = (kc_3.drop 0).take 8 ++ ((kc_3.drop 8).take 8) := rfl
theorem kd_3 : ∀ ch ∈ kr_3.1, ∀ q ∈ ch, decode kr_3.2.2.2.2.1 q.1 = .ok q.2 := by
  show ∀ ch ∈ kc_3, ∀ q ∈ ch, decode cX0_settle q.1 = .ok q.2
  rw [kx_3]
  exact (k_dec_app (k_decL_ok kd_3_0) (k_decL_ok kd_3_8))
theorem ke_3 : k_ents kr_3.2.2.2.1.cls kr_3.2.1 [[439], [442], [169], [369], [1135, 553], [280], [1136, 1138, 38], [1150, 1152, 40], [1149, 560], [1157, 818, 819], [1148], [1158, 1160, 41]] = true := by decide +kernel
theorem ko_3 : k_recP kr_3 := k_rec_ok k_okm kd_3 ke_3 (by decide +kernel)
theorem kd_4_0 : k_decL cX0_follow ((kc_4.drop 0).take 8) = true := by decide +kernel
theorem kx_4 : kc_4 = (kc_4.drop 0).take 8 := rfl
theorem kd_4 : ∀ ch ∈ kr_4.1, ∀ q ∈ ch, decode kr_4.2.2.2.2.1 q.1 = .ok q.2 := by
  show ∀ ch ∈ kc_4, ∀ q ∈ ch, decode cX0_follow q.1 = .ok q.2
  rw [kx_4]
  exact (k_decL_ok kd_4_0)
theorem ke_4 : k_ents kr_4.2.2.2.1.cls kr_4.2.1 [[439], [440], [442], [165], [1136, 1138, 38], [1157, 818, 819]] = true := by decide +kernel
theorem ko_4 : k_recP kr_4 := k_rec_ok k_okm kd_4 ke_4 (by decide +kernel)
theorem kd_5_0 : k_decL cX0_roomAhead ((kc_5.drop 0).take 8) = true := by decide +kernel
theorem kx_5 : kc_5 = (kc_5.drop 0).take 8 := rfl
theorem kd_5 : ∀ ch ∈ kr_5.1, ∀ q ∈ ch, decode kr_5.2.2.2.2.1 q.1 = .ok q.2 := by
  show ∀ ch ∈ kc_5, ∀ q ∈ ch, decode cX0_roomAhead q.1 = .ok q.2
  rw [kx_5]
  exact (k_decL_ok kd_5_0)
theorem ke_5 : k_ents kr_5.2.2.2.1.cls kr_5.2.1 [[1129, 814, 815], [165]] = true := by decide +kernel
theorem ko_5 : k_recP kr_5 := k_rec_ok k_okm kd_5 ke_5 (by decide +kernel)
theorem kd_6_0 : k_decL cX0_without ((kc_6.drop 0).take 8) = true := by decide +kernel
theorem kx_6 : kc_6 = (kc_6.drop 0).take 8 := rfl
theorem kd_6 : ∀ ch ∈ kr_6.1, ∀ q ∈ ch, decode kr_6.2.2.2.2.1 q.1 = .ok q.2 := by
  show ∀ ch ∈ kc_6, ∀ q ∈ ch, decode cX0_without q.1 = .ok q.2
  rw [kx_6]
  exact (k_decL_ok kd_6_0)
theorem ke_6 : k_ents kr_6.2.2.2.1.cls kr_6.2.1 [[369], [165], [1130, 891, 892], [1140, 1141], [1143, 1145, 39]] = true := by decide +kernel
theorem ko_6 : k_recP kr_6 := k_rec_ok k_okm kd_6 ke_6 (by decide +kernel)
theorem kd_7_0 : k_decL cX0_with ((kc_7.drop 0).take 8) = true := by decide +kernel
theorem kx_7 : kc_7 = (kc_7.drop 0).take 8 := rfl
theorem kd_7 : ∀ ch ∈ kr_7.1, ∀ q ∈ ch, decode kr_7.2.2.2.2.1 q.1 = .ok q.2 := by
  show ∀ ch ∈ kc_7, ∀ q ∈ ch, decode cX0_with q.1 = .ok q.2
  rw [kx_7]
  exact (k_decL_ok kd_7_0)
theorem ke_7 : k_ents kr_7.2.2.2.1.cls kr_7.2.1 [[369], [165], [1130, 891, 892], [1148], [1140, 1141], [1143, 1145, 39], [1154, 826, 827], [1155, 913, 914], [1156, 934, 935]] = true := by decide +kernel
theorem ko_7 : k_recP kr_7 := k_rec_ok k_okm kd_7 ke_7 (by decide +kernel)
