theorem kd_97_0 : k_decL cX7_readBoth ((kc_97.drop 0).take 8) = true := by decide +kernel
theorem kx_97 : kc_97 = (kc_97.drop 0).take 8 := rfl
theorem kd_97 : ∀ ch ∈ kr_97.1, ∀ q ∈ ch, decode kr_97.2.2.2.2.1 q.1 = .ok q.2 := by
  show ∀ ch ∈ kc_97, ∀ q ∈ ch, decode cX7_readBoth q.1 = .ok q.2
  rw [kx_97]
  exact (k_decL_ok kd_97_0)
theorem ke_97 : k_ents kr_97.2.2.2.1.cls kr_97.2.1 [[232], [727, 571, 572], [709, 710, 711], [766, 628, 629], [761, 763, 23], [776]] = true := by decide +kernel
theorem ko_97 : k_recP kr_97 := k_rec_ok k_okm kd_97 ke_97 (by decide +kernel)
theorem kd_98_0 : k_decL cX7_readFact ((kc_98.drop 0).take 8) = true := by decide +kernel
theorem kx_98 : kc_98 = (kc_98.drop 0).take 8 := rfl
theorem kd_98 : ∀ ch ∈ kr_98.1, ∀ q ∈ ch, decode kr_98.2.2.2.2.1 q.1 = .ok q.2 := by
  show ∀ ch ∈ kc_98, ∀ q ∈ ch, decode cX7_readFact q.1 = .ok q.2
  rw [kx_98]
  exact (k_decL_ok kd_98_0)
theorem ke_98 : k_ents kr_98.2.2.2.1.cls kr_98.2.1 [[232], [728, 729, 730], [705, 707, 17], [732, 734, 18], [738, 695, 14], [739, 740, 741], [753, 755, 21], [766, 628, 629], [765], [767, 769, 24], [771], [772, 774, 25]] = true := by decide +kernel
theorem ko_98 : k_recP kr_98 := k_rec_ok k_okm kd_98 ke_98 (by decide +kernel)
theorem kd_99_0 : k_decL cX7_readDenial ((kc_99.drop 0).take 8) = true := by decide +kernel
theorem kx_99 : kc_99 = (kc_99.drop 0).take 8 := rfl
theorem kd_99 : ∀ ch ∈ kr_99.1, ∀ q ∈ ch, decode kr_99.2.2.2.2.1 q.1 = .ok q.2 := by
  show ∀ ch ∈ kc_99, ∀ q ∈ ch, decode cX7_readDenial q.1 = .ok q.2
  rw [kx_99]
  exact (k_decL_ok kd_99_0)
theorem ke_99 : k_ents kr_99.2.2.2.1.cls kr_99.2.1 [[232], [727, 571, 572], [709, 710, 711], [761, 763, 23], [210], [737, 567, 568]] = true := by decide +kernel
theorem ko_99 : k_recP kr_99 := k_rec_ok k_okm kd_99 ke_99 (by decide +kernel)
theorem kd_100_0 : k_decL cX7_readComparison ((kc_100.drop 0).take 8) = true := by decide +kernel
theorem kx_100 : kc_100 = (kc_100.drop 0).take 8 := rfl
theorem kd_100 : ∀ ch ∈ kr_100.1, ∀ q ∈ ch, decode kr_100.2.2.2.2.1 q.1 = .ok q.2 := by
  show ∀ ch ∈ kc_100, ∀ q ∈ ch, decode cX7_readComparison q.1 = .ok q.2
  rw [kx_100]
  exact (k_decL_ok kd_100_0)
theorem ke_100 : k_ents kr_100.2.2.2.1.cls kr_100.2.1 [[232], [728, 729, 730], [727, 571, 572], [709, 710, 711], [738, 695, 14], [736, 582, 583]] = true := by decide +kernel
theorem ko_100 : k_recP kr_100 := k_rec_ok k_okm kd_100 ke_100 (by decide +kernel)
theorem kd_101_0 : k_decL cX7_opens ((kc_101.drop 0).take 8) = true := by decide +kernel
theorem kx_101 : kc_101 = (kc_101.drop 0).take 8 := rfl
theorem kd_101 : ∀ ch ∈ kr_101.1, ∀ q ∈ ch, decode kr_101.2.2.2.2.1 q.1 = .ok q.2 := by
  show ∀ ch ∈ kc_101, ∀ q ∈ ch, decode cX7_opens q.1 = .ok q.2
  rw [kx_101]
  exact (k_decL_ok kd_101_0)
theorem ke_101 : k_ents kr_101.2.2.2.1.cls kr_101.2.1 [[232], [728, 729, 730], [727, 571, 572], [736, 582, 583], [210], [737, 567, 568]] = true := by decide +kernel
theorem ko_101 : k_recP kr_101 := k_rec_ok k_okm kd_101 ke_101 (by decide +kernel)
theorem kd_102_0 : k_decL cX8_init ((kc_102.drop 0).take 8) = true := by decide +kernel
theorem kx_102 : kc_102 = (kc_102.drop 0).take 8 := rfl
theorem kd_102 : ∀ ch ∈ kr_102.1, ∀ q ∈ ch, decode kr_102.2.2.2.2.1 q.1 = .ok q.2 := by
  show ∀ ch ∈ kc_102, ∀ q ∈ ch, decode cX8_init q.1 = .ok q.2
  rw [kx_102]
  exact (k_decL_ok kd_102_0)
theorem ke_102 : k_ents kr_102.2.2.2.1.cls kr_102.2.1 [[162, 155, 156], [163], [168]] = true := by decide +kernel
theorem ko_102 : k_recP kr_102 := k_rec_ok k_okm kd_102 ke_102 (by decide +kernel)
theorem kd_103_0 : k_decL cX8_append ((kc_103.drop 0).take 8) = true := by decide +kernel
theorem kx_103 : kc_103 = (kc_103.drop 0).take 8 := rfl
theorem kd_103 : ∀ ch ∈ kr_103.1, ∀ q ∈ ch, decode kr_103.2.2.2.2.1 q.1 = .ok q.2 := by
  show ∀ ch ∈ kc_103, ∀ q ∈ ch, decode cX8_append q.1 = .ok q.2
  rw [kx_103]
  exact (k_decL_ok kd_103_0)
theorem ke_103 : k_ents kr_103.2.2.2.1.cls kr_103.2.1 [[163], [168]] = true := by decide +kernel
theorem ko_103 : k_recP kr_103 := k_rec_ok k_okm kd_103 ke_103 (by decide +kernel)
theorem kd_104_0 : k_decL cX9_init ((kc_104.drop 0).take 8) = true := by decide +kernel
theorem kx_104 : kc_104 = (kc_104.drop 0).take 8 := rfl
theorem kd_104 : ∀ ch ∈ kr_104.1, ∀ q ∈ ch, decode kr_104.2.2.2.2.1 q.1 = .ok q.2 := by
  show ∀ ch ∈ kc_104, ∀ q ∈ ch, decode cX9_init q.1 = .ok q.2
  rw [kx_104]
  exact (k_decL_ok kd_104_0)
theorem ke_104 : k_ents kr_104.2.2.2.1.cls kr_104.2.1 [[259, 155, 156], [279], [286], [292], [295], [299], [301], [305], [309], [310], [312], [315], [318], [322], [327], [260, 261, 139], [263, 262], [329], [332]] = true := by decide +kernel
theorem ko_104 : k_recP kr_104 := k_rec_ok k_okm kd_104 ke_104 (by decide +kernel)
theorem kd_105_0 : k_decL cX9_clear ((kc_105.drop 0).take 8) = true := by decide +kernel
theorem kx_105 : kc_105 = (kc_105.drop 0).take 8 := rfl
theorem kd_105 : ∀ ch ∈ kr_105.1, ∀ q ∈ ch, decode kr_105.2.2.2.2.1 q.1 = .ok q.2 := by
  show ∀ ch ∈ kc_105, ∀ q ∈ ch, decode cX9_clear q.1 = .ok q.2
  rw [kx_105]
  exact (k_decL_ok kd_105_0)
theorem ke_105 : k_ents kr_105.2.2.2.1.cls kr_105.2.1 [[279], [286], [292], [295], [309], [329], [332], [552, 553], [269]] = true := by decide +kernel
theorem ko_105 : k_recP kr_105 := k_rec_ok k_okm kd_105 ke_105 (by decide +kernel)
theorem kd_106_0 : k_decL cX9_isRoom ((kc_106.drop 0).take 8) = true := by decide +kernel
theorem kx_106 : kc_106 = (kc_106.drop 0).take 8 := rfl
theorem kd_106 : ∀ ch ∈ kr_106.1, ∀ q ∈ ch, decode kr_106.2.2.2.2.1 q.1 = .ok q.2 := by
  show ∀ ch ∈ kc_106, ∀ q ∈ ch, decode cX9_isRoom q.1 = .ok q.2
  rw [kx_106]
  exact (k_decL_ok kd_106_0)
theorem ke_106 : k_ents kr_106.2.2.2.1.cls kr_106.2.1 [[279]] = true := by decide +kernel
theorem ko_106 : k_recP kr_106 := k_rec_ok k_okm kd_106 ke_106 (by decide +kernel)
theorem kd_107_0 : k_decL cX9_isPerson ((kc_107.drop 0).take 8) = true := by decide +kernel
theorem kx_107 : kc_107 = (kc_107.drop 0).take 8 := rfl
theorem kd_107 : ∀ ch ∈ kr_107.1, ∀ q ∈ ch, decode kr_107.2.2.2.2.1 q.1 = .ok q.2 := by
  show ∀ ch ∈ kc_107, ∀ q ∈ ch, decode cX9_isPerson q.1 = .ok q.2
  rw [kx_107]
  exact (k_decL_ok kd_107_0)
theorem ke_107 : k_ents kr_107.2.2.2.1.cls kr_107.2.1 [[286]] = true := by decide +kernel
theorem ko_107 : k_recP kr_107 := k_rec_ok k_okm kd_107 ke_107 (by decide +kernel)
theorem kd_108_0 : k_decL cX9_roomNamed ((kc_108.drop 0).take 8) = true := by decide +kernel
theorem kx_108 : kc_108 = (kc_108.drop 0).take 8 := rfl
theorem kd_108 : ∀ ch ∈ kr_108.1, ∀ q ∈ ch, decode kr_108.2.2.2.2.1 q.1 = .ok q.2 := by
  show ∀ ch ∈ kc_108, ∀ q ∈ ch, decode cX9_roomNamed q.1 = .ok q.2
  rw [kx_108]
  exact (k_decL_ok kd_108_0)
theorem ke_108 : k_ents kr_108.2.2.2.1.cls kr_108.2.1 [[279], [299], [615, 616]] = true := by decide +kernel
theorem ko_108 : k_recP kr_108 := k_rec_ok k_okm kd_108 ke_108 (by decide +kernel)
theorem kd_109_0 : k_decL cX9_personNamed ((kc_109.drop 0).take 8) = true := by decide +kernel
theorem kx_109 : kc_109 = (kc_109.drop 0).take 8 := rfl
theorem kd_109 : ∀ ch ∈ kr_109.1, ∀ q ∈ ch, decode kr_109.2.2.2.2.1 q.1 = .ok q.2 := by
  show ∀ ch ∈ kc_109, ∀ q ∈ ch, decode cX9_personNamed q.1 = .ok q.2
  rw [kx_109]
  exact (k_decL_ok kd_109_0)
theorem ke_109 : k_ents kr_109.2.2.2.1.cls kr_109.2.1 [[286], [310], [615, 616]] = true := by decide +kernel
theorem ko_109 : k_recP kr_109 := k_rec_ok k_okm kd_109 ke_109 (by decide +kernel)
theorem kd_110_0 : k_decL cX9_indexOf ((kc_110.drop 0).take 8) = true := by decide +kernel
theorem kx_110 : kc_110 = (kc_110.drop 0).take 8 := rfl
theorem kd_110 : ∀ ch ∈ kr_110.1, ∀ q ∈ ch, decode kr_110.2.2.2.2.1 q.1 = .ok q.2 := by
  show ∀ ch ∈ kc_110, ∀ q ∈ ch, decode cX9_indexOf q.1 = .ok q.2
  rw [kx_110]
  exact (k_decL_ok kd_110_0)
theorem ke_110 : k_ents kr_110.2.2.2.1.cls kr_110.2.1 [] = true := by decide +kernel
theorem ko_110 : k_recP kr_110 := k_rec_ok k_okm kd_110 ke_110 (by decide +kernel)
theorem kd_111_0 : k_decL cX9_addRoom ((kc_111.drop 0).take 8) = true := by decide +kernel
theorem kx_111 : kc_111 = (kc_111.drop 0).take 8 := rfl
theorem kd_111 : ∀ ch ∈ kr_111.1, ∀ q ∈ ch, decode kr_111.2.2.2.2.1 q.1 = .ok q.2 := by
  show ∀ ch ∈ kc_111, ∀ q ∈ ch, decode cX9_addRoom q.1 = .ok q.2
  rw [kx_111]
  exact (k_decL_ok kd_111_0)
theorem ke_111 : k_ents kr_111.2.2.2.1.cls kr_111.2.1 [[279], [299], [301], [305]] = true := by decide +kernel
theorem ko_111 : k_recP kr_111 := k_rec_ok k_okm kd_111 ke_111 (by decide +kernel)
theorem kd_112_0 : k_decL cX9_addWay ((kc_112.drop 0).take 8) = true := by decide +kernel
theorem kx_112 : kc_112 = (kc_112.drop 0).take 8 := rfl
theorem kd_112 : ∀ ch ∈ kr_112.1, ∀ q ∈ ch, decode kr_112.2.2.2.2.1 q.1 = .ok q.2 := by
  show ∀ ch ∈ kc_112, ∀ q ∈ ch, decode cX9_addWay q.1 = .ok q.2
  rw [kx_112]
  exact (k_decL_ok kd_112_0)
theorem ke_112 : k_ents kr_112.2.2.2.1.cls kr_112.2.1 [[309], [649, 650, 651]] = true := by decide +kernel
theorem ko_112 : k_recP kr_112 := k_rec_ok k_okm kd_112 ke_112 (by decide +kernel)
theorem kd_113_0 : k_decL cX9_addPerson ((kc_113.drop 0).take 8) = true := by decide +kernel
theorem kx_113 : kc_113 = (kc_113.drop 0).take 8 := rfl
theorem kd_113 : ∀ ch ∈ kr_113.1, ∀ q ∈ ch, decode kr_113.2.2.2.2.1 q.1 = .ok q.2 := by
  show ∀ ch ∈ kc_113, ∀ q ∈ ch, decode cX9_addPerson q.1 = .ok q.2
  rw [kx_113]
  exact (k_decL_ok kd_113_0)
theorem ke_113 : k_ents kr_113.2.2.2.1.cls kr_113.2.1 [[286], [310], [312], [315], [318], [322], [327]] = true := by decide +kernel
theorem ko_113 : k_recP kr_113 := k_rec_ok k_okm kd_113 ke_113 (by decide +kernel)
theorem kd_114_0 : k_decL cX9_join ((kc_114.drop 0).take 8) = true := by decide +kernel
theorem kx_114 : kc_114 = (kc_114.drop 0).take 8 := rfl
theorem kd_114 : ∀ ch ∈ kr_114.1, ∀ q ∈ ch, decode kr_114.2.2.2.2.1 q.1 = .ok q.2 := by
  show ∀ ch ∈ kc_114, ∀ q ∈ ch, decode cX9_join q.1 = .ok q.2
  rw [kx_114]
  exact (k_decL_ok kd_114_0)
theorem ke_114 : k_ents kr_114.2.2.2.1.cls kr_114.2.1 [[322], [685, 686, 687]] = true := by decide +kernel
theorem ko_114 : k_recP kr_114 := k_rec_ok k_okm kd_114 ke_114 (by decide +kernel)
theorem kd_115_0 : k_decL cX9_houses ((kc_115.drop 0).take 8) = true := by decide +kernel
theorem kx_115 : kc_115 = (kc_115.drop 0).take 8 := rfl
theorem kd_115 : ∀ ch ∈ kr_115.1, ∀ q ∈ ch, decode kr_115.2.2.2.2.1 q.1 = .ok q.2 := by
  show ∀ ch ∈ kc_115, ∀ q ∈ ch, decode cX9_houses q.1 = .ok q.2
  rw [kx_115]
  exact (k_decL_ok kd_115_0)
theorem ke_115 : k_ents kr_115.2.2.2.1.cls kr_115.2.1 [[286], [301], [305], [318], [327], [649, 650, 651]] = true := by decide +kernel
theorem ko_115 : k_recP kr_115 := k_rec_ok k_okm kd_115 ke_115 (by decide +kernel)
theorem kd_116_0 : k_decL cX9_doorWidth ((kc_116.drop 0).take 8) = true := by decide +kernel
theorem kx_116 : kc_116 = (kc_116.drop 0).take 8 := rfl
theorem kd_116 : ∀ ch ∈ kr_116.1, ∀ q ∈ ch, decode kr_116.2.2.2.2.1 q.1 = .ok q.2 := by
  show ∀ ch ∈ kc_116, ∀ q ∈ ch, decode cX9_doorWidth q.1 = .ok q.2
  rw [kx_116]
  exact (k_decL_ok kd_116_0)
theorem ke_116 : k_ents kr_116.2.2.2.1.cls kr_116.2.1 [[318], [322], [685, 686, 687]] = true := by decide +kernel
theorem ko_116 : k_recP kr_116 := k_rec_ok k_okm kd_116 ke_116 (by decide +kernel)
theorem kd_117_0 : k_decL cX9_wayMinutes ((kc_117.drop 0).take 8) = true := by decide +kernel
theorem kx_117 : kc_117 = (kc_117.drop 0).take 8 := rfl
theorem kd_117 : ∀ ch ∈ kr_117.1, ∀ q ∈ ch, decode kr_117.2.2.2.2.1 q.1 = .ok q.2 := by
  show ∀ ch ∈ kc_117, ∀ q ∈ ch, decode cX9_wayMinutes q.1 = .ok q.2
  rw [kx_117]
  exact (k_decL_ok kd_117_0)
theorem ke_117 : k_ents kr_117.2.2.2.1.cls kr_117.2.1 [[309], [649, 650, 651]] = true := by decide +kernel
theorem ko_117 : k_recP kr_117 := k_rec_ok k_okm kd_117 ke_117 (by decide +kernel)
theorem kd_118_0 : k_decL cX9_neighbours ((kc_118.drop 0).take 8) = true := by decide +kernel
theorem kx_118 : kc_118 = (kc_118.drop 0).take 8 := rfl
theorem kd_118 : ∀ ch ∈ kr_118.1, ∀ q ∈ ch, decode kr_118.2.2.2.2.1 q.1 = .ok q.2 := by
  show ∀ ch ∈ kc_118, ∀ q ∈ ch, decode cX9_neighbours q.1 = .ok q.2
  rw [kx_118]
  exact (k_decL_ok kd_118_0)
theorem ke_118 : k_ents kr_118.2.2.2.1.cls kr_118.2.1 [[279], [1043, 891, 892]] = true := by decide +kernel
theorem ko_118 : k_recP kr_118 := k_rec_ok k_okm kd_118 ke_118 (by decide +kernel)
theorem kd_119_0 : k_decL cX9_neighbour ((kc_119.drop 0).take 8) = true := by decide +kernel
theorem kx_119 : kc_119 = (kc_119.drop 0).take 8 := rfl
theorem kd_119 : ∀ ch ∈ kr_119.1, ∀ q ∈ ch, decode kr_119.2.2.2.2.1 q.1 = .ok q.2 := by
  show ∀ ch ∈ kc_119, ∀ q ∈ ch, decode cX9_neighbour q.1 = .ok q.2
  rw [kx_119]
  exact (k_decL_ok kd_119_0)
theorem ke_119 : k_ents kr_119.2.2.2.1.cls kr_119.2.1 [[279], [1043, 891, 892]] = true := by decide +kernel
theorem ko_119 : k_recP kr_119 := k_rec_ok k_okm kd_119 ke_119 (by decide +kernel)
theorem kd_120_0 : k_decL cX10_init ((kc_120.drop 0).take 8) = true := by decide +kernel
theorem kx_120 : kc_120 = (kc_120.drop 0).take 8 := rfl
theorem kd_120 : ∀ ch ∈ kr_120.1, ∀ q ∈ ch, decode kr_120.2.2.2.2.1 q.1 = .ok q.2 := by
  show ∀ ch ∈ kc_120, ∀ q ∈ ch, decode cX10_init q.1 = .ok q.2
  rw [kx_120]
  exact (k_decL_ok kd_120_0)
theorem ke_120 : k_ents kr_120.2.2.2.1.cls kr_120.2.1 [[185, 155, 156], [186, 187, 135], [189, 188], [237], [233], [238], [240]] = true := by decide +kernel
theorem ko_120 : k_recP kr_120 := k_rec_ok k_okm kd_120 ke_120 (by decide +kernel)
theorem kd_121_0 : k_decL cX10_read ((kc_121.drop 0).take 8) = true := by decide +kernel
theorem kx_121 : kc_121 = (kc_121.drop 0).take 8 := rfl
theorem kd_121 : ∀ ch ∈ kr_121.1, ∀ q ∈ ch, decode kr_121.2.2.2.2.1 q.1 = .ok q.2 := by
  show ∀ ch ∈ kc_121, ∀ q ∈ ch, decode cX10_read q.1 = .ok q.2
  rw [kx_121]
  exact (k_decL_ok kd_121_0)
theorem ke_121 : k_ents kr_121.2.2.2.1.cls kr_121.2.1 [[238], [548, 549, 550], [555, 556, 557], [562, 563, 564], [201], [566, 567, 568], [570, 571, 572], [598, 600, 3], [791, 729, 730], [602, 582, 583]] = true := by decide +kernel
theorem ko_121 : k_recP kr_121 := k_rec_ok k_okm kd_121 ke_121 (by decide +kernel)
theorem kd_122_0 : k_decL cX10_readStatement ((kc_122.drop 0).take 8) = true := by decide +kernel
theorem kd_122_8 : k_decL cX10_readStatement ((kc_122.drop 8).take 8) = true := by decide +kernel
theorem kx_122 : kc_122 = (kc_122.drop 0).take 8 ++ ((kc_122.drop 8).take 8) := rfl
theorem kd_122 : ∀ ch ∈ kr_122.1, ∀ q ∈ ch, decode kr_122.2.2.2.2.1 q.1 = .ok q.2 := by
  show ∀ ch ∈ kc_122, ∀ q ∈ ch, decode cX10_readStatement q.1 = .ok q.2
  rw [kx_122]
  exact (k_dec_app (k_decL_ok kd_122_0) (k_decL_ok kd_122_8))
theorem ke_122 : k_ents kr_122.2.2.2.1.cls kr_122.2.1 [[237], [238], [602, 582, 583], [203], [206], [603, 605, 4], [636, 638, 7], [653, 655, 9], [673, 675, 11], [330], [689, 691, 13], [695, 14, 693], [333], [782, 784, 27], [787, 789, 28]] = true := by decide +kernel
theorem ko_122 : k_recP kr_122 := k_rec_ok k_okm kd_122 ke_122 (by decide +kernel)
theorem kd_123_0 : k_decL cX10_readRoom ((kc_123.drop 0).take 8) = true := by decide +kernel
theorem kx_123 : kc_123 = (kc_123.drop 0).take 8 := rfl
theorem kd_123 : ∀ ch ∈ kr_123.1, ∀ q ∈ ch, decode kr_123.2.2.2.2.1 q.1 = .ok q.2 := by
  show ∀ ch ∈ kc_123, ∀ q ∈ ch, decode cX10_readRoom q.1 = .ok q.2
  rw [kx_123]
  exact (k_decL_ok kd_123_0)
theorem ke_123 : k_ents kr_123.2.2.2.1.cls kr_123.2.1 [[238], [240], [566, 567, 568], [570, 571, 572], [281], [209], [607, 609, 5], [622], [623, 625, 6], [631], [632, 633, 634]] = true := by decide +kernel
theorem ko_123 : k_recP kr_123 := k_rec_ok k_okm kd_123 ke_123 (by decide +kernel)
theorem kd_124_0 : k_decL cX10_readWay ((kc_124.drop 0).take 8) = true := by decide +kernel
theorem kx_124 : kc_124 = (kc_124.drop 0).take 8 := rfl
theorem kd_124 : ∀ ch ∈ kr_124.1, ∀ q ∈ ch, decode kr_124.2.2.2.2.1 q.1 = .ok q.2 := by
  show ∀ ch ∈ kc_124, ∀ q ∈ ch, decode cX10_readWay q.1 = .ok q.2
  rw [kx_124]
  exact (k_decL_ok kd_124_0)
theorem ke_124 : k_ents kr_124.2.2.2.1.cls kr_124.2.1 [[238], [240], [566, 567, 568], [570, 571, 572], [209], [623, 625, 6], [640, 642, 8], [644], [645, 646, 647]] = true := by decide +kernel
theorem ko_124 : k_recP kr_124 := k_rec_ok k_okm kd_124 ke_124 (by decide +kernel)
theorem kd_125_0 : k_decL cX10_readPerson ((kc_125.drop 0).take 8) = true := by decide +kernel
theorem kd_125_8 : k_decL cX10_readPerson ((kc_125.drop 8).take 8) = true := by decide +kernel
theorem kx_125 : kc_125 = (kc_125.drop 0).take 8 ++ ((kc_125.drop 8).take 8) := rfl
theorem kd_125 : ∀ ch ∈ kr_125.1, ∀ q ∈ ch, decode kr_125.2.2.2.2.1 q.1 = .ok q.2 := by
  show ∀ ch ∈ kc_125, ∀ q ∈ ch, decode cX10_readPerson q.1 = .ok q.2
  rw [kx_125]
  exact (k_dec_app (k_decL_ok kd_125_0) (k_decL_ok kd_125_8))
theorem ke_125 : k_ents kr_125.2.2.2.1.cls kr_125.2.1 [[238], [240], [566, 567, 568], [570, 571, 572], [209], [607, 609, 5], [623, 625, 6], [290], [657], [658], [659], [660, 662, 10], [669, 670, 671]] = true := by decide +kernel
theorem ko_125 : k_recP kr_125 := k_rec_ok k_okm kd_125 ke_125 (by decide +kernel)
theorem kd_126_0 : k_decL cX10_readHome ((kc_126.drop 0).take 8) = true := by decide +kernel
theorem kx_126 : kc_126 = (kc_126.drop 0).take 8 := rfl
theorem kd_126 : ∀ ch ∈ kr_126.1, ∀ q ∈ ch, decode kr_126.2.2.2.2.1 q.1 = .ok q.2 := by
  show ∀ ch ∈ kc_126, ∀ q ∈ ch, decode cX10_readHome q.1 = .ok q.2
  rw [kx_126]
  exact (k_decL_ok kd_126_0)
theorem ke_126 : k_ents kr_126.2.2.2.1.cls kr_126.2.1 [[238], [566, 567, 568], [570, 571, 572], [602, 582, 583], [209], [640, 642, 8], [664], [627, 628, 629], [665, 666, 667]] = true := by decide +kernel
theorem ko_126 : k_recP kr_126 := k_rec_ok k_okm kd_126 ke_126 (by decide +kernel)
