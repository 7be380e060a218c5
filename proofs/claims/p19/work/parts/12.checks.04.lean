theorem kd_75_0 : k_decL cX5_floorsHold ((kc_75.drop 0).take 8) = true := by decide +kernel
theorem kx_75 : kc_75 = (kc_75.drop 0).take 8 := rfl
theorem kd_75 : ∀ ch ∈ kr_75.1, ∀ q ∈ ch, decode kr_75.2.2.2.2.1 q.1 = .ok q.2 := by
  show ∀ ch ∈ kc_75, ∀ q ∈ ch, decode cX5_floorsHold q.1 = .ok q.2
  rw [kx_75]
  exact (k_decL_ok kd_75_0)
theorem ke_75 : k_ents kr_75.2.2.2.1.cls kr_75.2.1 [[368], [287], [321], [308], [167], [285]] = true := by decide +kernel
theorem ko_75 : k_recP kr_75 := k_rec_ok k_okm kd_75 ke_75 (by decide +kernel)
theorem kd_76_0 : k_decL cX5_threeBytes ((kc_76.drop 0).take 8) = true := by decide +kernel
theorem kx_76 : kc_76 = (kc_76.drop 0).take 8 := rfl
theorem kd_76 : ∀ ch ∈ kr_76.1, ∀ q ∈ ch, decode kr_76.2.2.2.2.1 q.1 = .ok q.2 := by
  show ∀ ch ∈ kc_76, ∀ q ∈ ch, decode cX5_threeBytes q.1 = .ok q.2
  rw [kx_76]
  exact (k_decL_ok kd_76_0)
theorem ke_76 : k_ents kr_76.2.2.2.1.cls kr_76.2.1 [[167]] = true := by decide +kernel
theorem ko_76 : k_recP kr_76 := k_rec_ok k_okm kd_76 ke_76 (by decide +kernel)
theorem kd_77_0 : k_decL cX5_takeImage ((kc_77.drop 0).take 8) = true := by decide +kernel
theorem kx_77 : kc_77 = (kc_77.drop 0).take 8 := rfl
theorem kd_77 : ∀ ch ∈ kr_77.1, ∀ q ∈ ch, decode kr_77.2.2.2.2.1 q.1 = .ok q.2 := by
  show ∀ ch ∈ kc_77, ∀ q ∈ ch, decode cX5_takeImage q.1 = .ok q.2
  rw [kx_77]
  exact (k_decL_ok kd_77_0)
theorem ke_77 : k_ents kr_77.2.2.2.1.cls kr_77.2.1 [[368], [375], [287], [167], [1252, 1253]] = true := by decide +kernel
theorem ko_77 : k_recP kr_77 := k_rec_ok k_okm kd_77 ke_77 (by decide +kernel)
theorem kd_78_0 : k_decL cX6_init ((kc_78.drop 0).take 8) = true := by decide +kernel
theorem kx_78 : kc_78 = (kc_78.drop 0).take 8 := rfl
theorem kd_78 : ∀ ch ∈ kr_78.1, ∀ q ∈ ch, decode kr_78.2.2.2.2.1 q.1 = .ok q.2 := by
  show ∀ ch ∈ kc_78, ∀ q ∈ ch, decode cX6_init q.1 = .ok q.2
  rw [kx_78]
  exact (k_decL_ok kd_78_0)
theorem ke_78 : k_ents kr_78.2.2.2.1.cls kr_78.2.1 [[456, 155, 156], [457], [458], [459], [460], [461], [462], [464], [466]] = true := by decide +kernel
theorem ko_78 : k_recP kr_78 := k_rec_ok k_okm kd_78 ke_78 (by decide +kernel)
theorem kd_79_0 : k_decL cX6_mostSeated ((kc_79.drop 0).take 8) = true := by decide +kernel
theorem kx_79 : kc_79 = (kc_79.drop 0).take 8 := rfl
theorem kd_79 : ∀ ch ∈ kr_79.1, ∀ q ∈ ch, decode kr_79.2.2.2.2.1 q.1 = .ok q.2 := by
  show ∀ ch ∈ kc_79, ∀ q ∈ ch, decode cX6_mostSeated q.1 = .ok q.2
  rw [kx_79]
  exact (k_decL_ok kd_79_0)
theorem ke_79 : k_ents kr_79.2.2.2.1.cls kr_79.2.1 [[1174, 1175], [1180, 1181]] = true := by decide +kernel
theorem ko_79 : k_recP kr_79 := k_rec_ok k_okm kd_79 ke_79 (by decide +kernel)
theorem kd_80_0 : k_decL cX6_canSeat ((kc_80.drop 0).take 8) = true := by decide +kernel
theorem kd_80_8 : k_decL cX6_canSeat ((kc_80.drop 8).take 8) = true := by decide +kernel
theorem kx_80 : kc_80 = (kc_80.drop 0).take 8 ++ ((kc_80.drop 8).take 8) := rfl
theorem kd_80 : ∀ ch ∈ kr_80.1, ∀ q ∈ ch, decode kr_80.2.2.2.2.1 q.1 = .ok q.2 := by
  show ∀ ch ∈ kc_80, ∀ q ∈ ch, decode cX6_canSeat q.1 = .ok q.2
  rw [kx_80]
  exact (k_dec_app (k_decL_ok kd_80_0) (k_decL_ok kd_80_8))
theorem ke_80 : k_ents kr_80.2.2.2.1.cls kr_80.2.1 [[370], [1183, 871, 872], [289], [323], [1184, 826, 827], [1185, 818, 819], [1186, 905, 906], [302], [319], [306]] = true := by decide +kernel
theorem ko_80 : k_recP kr_80 := k_rec_ok k_okm kd_80 ke_80 (by decide +kernel)
theorem kd_81_0 : k_decL cX6_isTold ((kc_81.drop 0).take 8) = true := by decide +kernel
theorem kx_81 : kc_81 = (kc_81.drop 0).take 8 := rfl
theorem kd_81 : ∀ ch ∈ kr_81.1, ∀ q ∈ ch, decode kr_81.2.2.2.2.1 q.1 = .ok q.2 := by
  show ∀ ch ∈ kc_81, ∀ q ∈ ch, decode cX6_isTold q.1 = .ok q.2
  rw [kx_81]
  exact (k_decL_ok kd_81_0)
theorem ke_81 : k_ents kr_81.2.2.2.1.cls kr_81.2.1 [[172], [166], [1195, 650, 651], [1196, 1198, 42]] = true := by decide +kernel
theorem ko_81 : k_recP kr_81 := k_rec_ok k_okm kd_81 ke_81 (by decide +kernel)
theorem kd_82_0 : k_decL cX6_note ((kc_82.drop 0).take 8) = true := by decide +kernel
theorem kx_82 : kc_82 = (kc_82.drop 0).take 8 := rfl
theorem kd_82 : ∀ ch ∈ kr_82.1, ∀ q ∈ ch, decode kr_82.2.2.2.2.1 q.1 = .ok q.2 := by
  show ∀ ch ∈ kc_82, ∀ q ∈ ch, decode cX6_note q.1 = .ok q.2
  rw [kx_82]
  exact (k_decL_ok kd_82_0)
theorem ke_82 : k_ents kr_82.2.2.2.1.cls kr_82.2.1 [[457], [172], [166], [1200, 553]] = true := by decide +kernel
theorem ko_82 : k_recP kr_82 := k_rec_ok k_okm kd_82 ke_82 (by decide +kernel)
theorem kd_83_0 : k_decL cX6_countWays ((kc_83.drop 0).take 8) = true := by decide +kernel
theorem kx_83 : kc_83 = (kc_83.drop 0).take 8 := rfl
theorem kd_83 : ∀ ch ∈ kr_83.1, ∀ q ∈ ch, decode kr_83.2.2.2.2.1 q.1 = .ok q.2 := by
  show ∀ ch ∈ kc_83, ∀ q ∈ ch, decode cX6_countWays q.1 = .ok q.2
  rw [kx_83]
  exact (k_decL_ok kd_83_0)
theorem ke_83 : k_ents kr_83.2.2.2.1.cls kr_83.2.1 [[460], [462], [464], [466], [370], [289], [1200, 553], [1205, 1207, 43], [1210, 1212, 44], [1219, 1221, 46]] = true := by decide +kernel
theorem ko_83 : k_recP kr_83 := k_rec_ok k_okm kd_83 ke_83 (by decide +kernel)
theorem kd_84_0 : k_decL cX6_layStates ((kc_84.drop 0).take 8) = true := by decide +kernel
theorem kx_84 : kc_84 = (kc_84.drop 0).take 8 := rfl
theorem kd_84 : ∀ ch ∈ kr_84.1, ∀ q ∈ ch, decode kr_84.2.2.2.2.1 q.1 = .ok q.2 := by
  show ∀ ch ∈ kc_84, ∀ q ∈ ch, decode cX6_layStates q.1 = .ok q.2
  rw [kx_84]
  exact (k_decL_ok kd_84_0)
theorem ke_84 : k_ents kr_84.2.2.2.1.cls kr_84.2.1 [[457], [458], [466], [1209, 843]] = true := by decide +kernel
theorem ko_84 : k_recP kr_84 := k_rec_ok k_okm kd_84 ke_84 (by decide +kernel)
theorem kd_85_0 : k_decL cX6_countBefore ((kc_85.drop 0).take 8) = true := by decide +kernel
theorem kx_85 : kc_85 = (kc_85.drop 0).take 8 := rfl
theorem kd_85 : ∀ ch ∈ kr_85.1, ∀ q ∈ ch, decode kr_85.2.2.2.2.1 q.1 = .ok q.2 := by
  show ∀ ch ∈ kc_85, ∀ q ∈ ch, decode cX6_countBefore q.1 = .ok q.2
  rw [kx_85]
  exact (k_decL_ok kd_85_0)
theorem ke_85 : k_ents kr_85.2.2.2.1.cls kr_85.2.1 [[459], [466], [370], [289], [1200, 553], [284], [1214, 1216, 45]] = true := by decide +kernel
theorem ko_85 : k_recP kr_85 := k_rec_ok k_okm kd_85 ke_85 (by decide +kernel)
theorem kd_86_0 : k_decL cX6_countPerson ((kc_86.drop 0).take 8) = true := by decide +kernel
theorem kd_86_8 : k_decL cX6_countPerson ((kc_86.drop 8).take 8) = true := by decide +kernel
theorem kx_86 : kc_86 = (kc_86.drop 0).take 8 ++ ((kc_86.drop 8).take 8) := rfl
theorem kd_86 : ∀ ch ∈ kr_86.1, ∀ q ∈ ch, decode kr_86.2.2.2.2.1 q.1 = .ok q.2 := by
  show ∀ ch ∈ kc_86, ∀ q ∈ ch, decode cX6_countPerson q.1 = .ok q.2
  rw [kx_86]
  exact (k_dec_app (k_decL_ok kd_86_0) (k_decL_ok kd_86_8))
theorem ke_86 : k_ents kr_86.2.2.2.1.cls kr_86.2.1 [[459], [460], [461], [462], [466], [370], [1200, 553], [284], [1214, 1216, 45], [1223, 726, 725, 147]] = true := by decide +kernel
theorem ko_86 : k_recP kr_86 := k_rec_ok k_okm kd_86 ke_86 (by decide +kernel)
theorem kd_87_0 : k_decL cX6_stateBehind ((kc_87.drop 0).take 8) = true := by decide +kernel
theorem kx_87 : kc_87 = (kc_87.drop 0).take 8 := rfl
theorem kd_87 : ∀ ch ∈ kr_87.1, ∀ q ∈ ch, decode kr_87.2.2.2.2.1 q.1 = .ok q.2 := by
  show ∀ ch ∈ kc_87, ∀ q ∈ ch, decode cX6_stateBehind q.1 = .ok q.2
  rw [kx_87]
  exact (k_decL_ok kd_87_0)
theorem ke_87 : k_ents kr_87.2.2.2.1.cls kr_87.2.1 [[457], [458], [1185, 818, 819], [1218, 822, 823]] = true := by decide +kernel
theorem ko_87 : k_recP kr_87 := k_rec_ok k_okm kd_87 ke_87 (by decide +kernel)
theorem kd_88_0 : k_decL cX7_init ((kc_88.drop 0).take 8) = true := by decide +kernel
theorem kx_88 : kc_88 = (kc_88.drop 0).take 8 := rfl
theorem kd_88 : ∀ ch ∈ kr_88.1, ∀ q ∈ ch, decode kr_88.2.2.2.2.1 q.1 = .ok q.2 := by
  show ∀ ch ∈ kc_88, ∀ q ∈ ch, decode cX7_init q.1 = .ok q.2
  rw [kx_88]
  exact (k_decL_ok kd_88_0)
theorem ke_88 : k_ents kr_88.2.2.2.1.cls kr_88.2.1 [[191, 155, 156], [192, 193, 136], [195, 194], [232]] = true := by decide +kernel
theorem ko_88 : k_recP kr_88 := k_rec_ok k_okm kd_88 ke_88 (by decide +kernel)
theorem kd_89_0 : k_decL cX7_readSum ((kc_89.drop 0).take 8) = true := by decide +kernel
theorem kx_89 : kc_89 = (kc_89.drop 0).take 8 := rfl
theorem kd_89 : ∀ ch ∈ kr_89.1, ∀ q ∈ ch, decode kr_89.2.2.2.2.1 q.1 = .ok q.2 := by
  show ∀ ch ∈ kc_89, ∀ q ∈ ch, decode cX7_readSum q.1 = .ok q.2
  rw [kx_89]
  exact (k_decL_ok kd_89_0)
theorem ke_89 : k_ents kr_89.2.2.2.1.cls kr_89.2.1 [[232], [697, 699, 15], [728, 729, 730], [727, 571, 572], [709, 710, 711]] = true := by decide +kernel
theorem ko_89 : k_recP kr_89 := k_rec_ok k_okm kd_89 ke_89 (by decide +kernel)
theorem kd_90_0 : k_decL cX7_readProduct ((kc_90.drop 0).take 8) = true := by decide +kernel
theorem kx_90 : kc_90 = (kc_90.drop 0).take 8 := rfl
theorem kd_90 : ∀ ch ∈ kr_90.1, ∀ q ∈ ch, decode kr_90.2.2.2.2.1 q.1 = .ok q.2 := by
  show ∀ ch ∈ kc_90, ∀ q ∈ ch, decode cX7_readProduct q.1 = .ok q.2
  rw [kx_90]
  exact (k_decL_ok kd_90_0)
theorem ke_90 : k_ents kr_90.2.2.2.1.cls kr_90.2.1 [[232], [727, 571, 572], [709, 710, 711], [701, 703, 16], [778, 780, 26]] = true := by decide +kernel
theorem ko_90 : k_recP kr_90 := k_rec_ok k_okm kd_90 ke_90 (by decide +kernel)
theorem kd_91_0 : k_decL cX7_productStep ((kc_91.drop 0).take 8) = true := by decide +kernel
theorem kx_91 : kc_91 = (kc_91.drop 0).take 8 := rfl
theorem kd_91 : ∀ ch ∈ kr_91.1, ∀ q ∈ ch, decode kr_91.2.2.2.2.1 q.1 = .ok q.2 := by
  show ∀ ch ∈ kc_91, ∀ q ∈ ch, decode cX7_productStep q.1 = .ok q.2
  rw [kx_91]
  exact (k_decL_ok kd_91_0)
theorem ke_91 : k_ents kr_91.2.2.2.1.cls kr_91.2.1 [[232], [728, 729, 730]] = true := by decide +kernel
theorem ko_91 : k_recP kr_91 := k_rec_ok k_okm kd_91 ke_91 (by decide +kernel)
theorem kd_92_0 : k_decL cX7_readPart ((kc_92.drop 0).take 8) = true := by decide +kernel
theorem kd_92_8 : k_decL cX7_readPart ((kc_92.drop 8).take 8) = true := by decide +kernel
theorem kd_92_16 : k_decL cX7_readPart ((kc_92.drop 16).take 8) = true := by decide +kernel
theorem kx_92 : kc_92 = (kc_92.drop 0).take 8 ++ ((kc_92.drop 8).take 8 ++ ((kc_92.drop 16).take 8)) := rfl
theorem kd_92 : ∀ ch ∈ kr_92.1, ∀ q ∈ ch, decode kr_92.2.2.2.2.1 q.1 = .ok q.2 := by
  show ∀ ch ∈ kc_92, ∀ q ∈ ch, decode cX7_readPart q.1 = .ok q.2
  rw [kx_92]
  exact (k_dec_app (k_decL_ok kd_92_0) (k_dec_app (k_decL_ok kd_92_8) (k_decL_ok kd_92_16)))
theorem ke_92 : k_ents kr_92.2.2.2.1.cls kr_92.2.1 [[232], [728, 729, 730], [204], [207], [705, 707, 17], [732, 734, 18], [738, 695, 14], [739, 740, 741], [736, 582, 583], [745, 747, 19], [749, 751, 20]] = true := by decide +kernel
theorem ko_92 : k_recP kr_92 := k_rec_ok k_okm kd_92 ke_92 (by decide +kernel)
theorem kd_93_0 : k_decL cX7_readSimple ((kc_93.drop 0).take 8) = true := by decide +kernel
theorem kx_93 : kc_93 = (kc_93.drop 0).take 8 := rfl
theorem kd_93 : ∀ ch ∈ kr_93.1, ∀ q ∈ ch, decode kr_93.2.2.2.2.1 q.1 = .ok q.2 := by
  show ∀ ch ∈ kc_93, ∀ q ∈ ch, decode cX7_readSimple q.1 = .ok q.2
  rw [kx_93]
  exact (k_decL_ok kd_93_0)
theorem ke_93 : k_ents kr_93.2.2.2.1.cls kr_93.2.1 [[232], [727, 571, 572], [709, 710, 711]] = true := by decide +kernel
theorem ko_93 : k_recP kr_93 := k_rec_ok k_okm kd_93 ke_93 (by decide +kernel)
theorem kd_94_0 : k_decL cX7_readPair ((kc_94.drop 0).take 8) = true := by decide +kernel
theorem kx_94 : kc_94 = (kc_94.drop 0).take 8 := rfl
theorem kd_94 : ∀ ch ∈ kr_94.1, ∀ q ∈ ch, decode kr_94.2.2.2.2.1 q.1 = .ok q.2 := by
  show ∀ ch ∈ kc_94, ∀ q ∈ ch, decode cX7_readPair q.1 = .ok q.2
  rw [kx_94]
  exact (k_decL_ok kd_94_0)
theorem ke_94 : k_ents kr_94.2.2.2.1.cls kr_94.2.1 [[232], [727, 571, 572], [709, 710, 711], [732, 734, 18], [738, 695, 14], [739, 740, 741]] = true := by decide +kernel
theorem ko_94 : k_recP kr_94 := k_rec_ok k_okm kd_94 ke_94 (by decide +kernel)
theorem kd_95_0 : k_decL cX7_readChoice ((kc_95.drop 0).take 8) = true := by decide +kernel
theorem kx_95 : kc_95 = (kc_95.drop 0).take 8 := rfl
theorem kd_95 : ∀ ch ∈ kr_95.1, ∀ q ∈ ch, decode kr_95.2.2.2.2.1 q.1 = .ok q.2 := by
  show ∀ ch ∈ kc_95, ∀ q ∈ ch, decode cX7_readChoice q.1 = .ok q.2
  rw [kx_95]
  exact (k_decL_ok kd_95_0)
theorem ke_95 : k_ents kr_95.2.2.2.1.cls kr_95.2.1 [[232], [727, 571, 572], [709, 710, 711], [732, 734, 18], [738, 695, 14], [739, 740, 741], [753, 755, 21]] = true := by decide +kernel
theorem ko_95 : k_recP kr_95 := k_rec_ok k_okm kd_95 ke_95 (by decide +kernel)
theorem kd_96_0 : k_decL cX7_readTest ((kc_96.drop 0).take 8) = true := by decide +kernel
theorem kx_96 : kc_96 = (kc_96.drop 0).take 8 := rfl
theorem kd_96 : ∀ ch ∈ kr_96.1, ∀ q ∈ ch, decode kr_96.2.2.2.2.1 q.1 = .ok q.2 := by
  show ∀ ch ∈ kc_96, ∀ q ∈ ch, decode cX7_readTest q.1 = .ok q.2
  rw [kx_96]
  exact (k_decL_ok kd_96_0)
theorem ke_96 : k_ents kr_96.2.2.2.1.cls kr_96.2.1 [[232], [727, 571, 572], [709, 710, 711], [757, 759, 22], [777], [766, 628, 629]] = true := by decide +kernel
theorem ko_96 : k_recP kr_96 := k_rec_ok k_okm kd_96 ke_96 (by decide +kernel)
