theorem kd_32_0 : k_decL cX4_init ((kc_32.drop 0).take 8) = true := by decide +kernel
theorem kx_32 : kc_32 = (kc_32.drop 0).take 8 := rfl
theorem kd_32 : ∀ ch ∈ kr_32.1, ∀ q ∈ ch, decode kr_32.2.2.2.2.1 q.1 = .ok q.2 := by
  show ∀ ch ∈ kc_32, ∀ q ∈ ch, decode cX4_init q.1 = .ok q.2
  rw [kx_32]
  exact (k_decL_ok kd_32_0)
theorem ke_32 : k_ents kr_32.2.2.2.1.cls kr_32.2.1 [[409, 155, 156], [410], [411], [412], [413], [414], [415], [416]] = true := by decide +kernel
theorem ko_32 : k_recP kr_32 := k_rec_ok k_okm kd_32 ke_32 (by decide +kernel)
theorem kd_41_0 : k_decL cX5_init ((kc_41.drop 0).take 8) = true := by decide +kernel
theorem kx_41 : kc_41 = (kc_41.drop 0).take 8 := rfl
theorem kd_41 : ∀ ch ∈ kr_41.1, ∀ q ∈ ch, decode kr_41.2.2.2.2.1 q.1 = .ok q.2 := by
  show ∀ ch ∈ kc_41, ∀ q ∈ ch, decode cX5_init q.1 = .ok q.2
  rw [kx_41]
  exact (k_decL_ok kd_41_0)
theorem ke_41 : k_ents kr_41.2.2.2.1.cls kr_41.2.1 [[253, 155, 156], [254, 255, 138], [257, 256], [368], [373], [375], [377]] = true := by decide +kernel
theorem ko_41 : k_recP kr_41 := k_rec_ok k_okm kd_41 ke_41 (by decide +kernel)
theorem kd_42_0 : k_decL cX5_takeDraft ((kc_42.drop 0).take 8) = true := by decide +kernel
theorem kx_42 : kc_42 = (kc_42.drop 0).take 8 := rfl
theorem kd_42 : ∀ ch ∈ kr_42.1, ∀ q ∈ ch, decode kr_42.2.2.2.2.1 q.1 = .ok q.2 := by
  show ∀ ch ∈ kc_42, ∀ q ∈ ch, decode cX5_takeDraft q.1 = .ok q.2
  rw [kx_42]
  exact (k_decL_ok kd_42_0)
theorem ke_42 : k_ents kr_42.2.2.2.1.cls kr_42.2.1 [[368], [373], [375], [796, 553], [287], [328]] = true := by decide +kernel
theorem ko_42 : k_recP kr_42 := k_rec_ok k_okm kd_42 ke_42 (by decide +kernel)
theorem kd_48_0 : k_decL cX5_keptCount ((kc_48.drop 0).take 8) = true := by decide +kernel
theorem kx_48 : kc_48 = (kc_48.drop 0).take 8 := rfl
theorem kd_48 : ∀ ch ∈ kr_48.1, ∀ q ∈ ch, decode kr_48.2.2.2.2.1 q.1 = .ok q.2 := by
  show ∀ ch ∈ kc_48, ∀ q ∈ ch, decode cX5_keptCount q.1 = .ok q.2
  rw [kx_48]
  exact (k_decL_ok kd_48_0)
theorem ke_48 : k_ents kr_48.2.2.2.1.cls kr_48.2.1 [[375]] = true := by decide +kernel
theorem ko_48 : k_recP kr_48 := k_rec_ok k_okm kd_48 ke_48 (by decide +kernel)
theorem kd_49_0 : k_decL cX5_sitting ((kc_49.drop 0).take 8) = true := by decide +kernel
theorem kx_49 : kc_49 = (kc_49.drop 0).take 8 := rfl
theorem kd_49 : ∀ ch ∈ kr_49.1, ∀ q ∈ ch, decode kr_49.2.2.2.2.1 q.1 = .ok q.2 := by
  show ∀ ch ∈ kc_49, ∀ q ∈ ch, decode cX5_sitting q.1 = .ok q.2
  rw [kx_49]
  exact (k_decL_ok kd_49_0)
theorem ke_49 : k_ents kr_49.2.2.2.1.cls kr_49.2.1 [[368], [287]] = true := by decide +kernel
theorem ko_49 : k_recP kr_49 := k_rec_ok k_okm kd_49 ke_49 (by decide +kernel)
theorem kd_50_0 : k_decL cX5_brokenChairs ((kc_50.drop 0).take 8) = true := by decide +kernel
theorem kx_50 : kc_50 = (kc_50.drop 0).take 8 := rfl
theorem kd_50 : ∀ ch ∈ kr_50.1, ∀ q ∈ ch, decode kr_50.2.2.2.2.1 q.1 = .ok q.2 := by
  show ∀ ch ∈ kc_50, ∀ q ∈ ch, decode cX5_brokenChairs q.1 = .ok q.2
  rw [kx_50]
  exact (k_decL_ok kd_50_0)
theorem ke_50 : k_ents kr_50.2.2.2.1.cls kr_50.2.1 [[368], [287]] = true := by decide +kernel
theorem ko_50 : k_recP kr_50 := k_rec_ok k_okm kd_50 ke_50 (by decide +kernel)
theorem kd_51_0 : k_decL cX5_latestClock ((kc_51.drop 0).take 8) = true := by decide +kernel
theorem kx_51 : kc_51 = (kc_51.drop 0).take 8 := rfl
theorem kd_51 : ∀ ch ∈ kr_51.1, ∀ q ∈ ch, decode kr_51.2.2.2.2.1 q.1 = .ok q.2 := by
  show ∀ ch ∈ kc_51, ∀ q ∈ ch, decode cX5_latestClock q.1 = .ok q.2
  rw [kx_51]
  exact (k_decL_ok kd_51_0)
theorem ke_51 : k_ents kr_51.2.2.2.1.cls kr_51.2.1 [[368], [287], [842, 843, 146, 844]] = true := by decide +kernel
theorem ko_51 : k_recP kr_51 := k_rec_ok k_okm kd_51 ke_51 (by decide +kernel)
theorem kd_52_0 : k_decL cX5_allAches ((kc_52.drop 0).take 8) = true := by decide +kernel
theorem kx_52 : kc_52 = (kc_52.drop 0).take 8 := rfl
theorem kd_52 : ∀ ch ∈ kr_52.1, ∀ q ∈ ch, decode kr_52.2.2.2.2.1 q.1 = .ok q.2 := by
  show ∀ ch ∈ kc_52, ∀ q ∈ ch, decode cX5_allAches q.1 = .ok q.2
  rw [kx_52]
  exact (k_decL_ok kd_52_0)
theorem ke_52 : k_ents kr_52.2.2.2.1.cls kr_52.2.1 [[368], [287]] = true := by decide +kernel
theorem ko_52 : k_recP kr_52 := k_rec_ok k_okm kd_52 ke_52 (by decide +kernel)
theorem kd_61_0 : k_decL cX5_goingMinutes ((kc_61.drop 0).take 8) = true := by decide +kernel
theorem kx_61 : kc_61 = (kc_61.drop 0).take 8 := rfl
theorem kd_61 : ∀ ch ∈ kr_61.1, ∀ q ∈ ch, decode kr_61.2.2.2.2.1 q.1 = .ok q.2 := by
  show ∀ ch ∈ kc_61, ∀ q ∈ ch, decode cX5_goingMinutes q.1 = .ok q.2
  rw [kx_61]
  exact (k_decL_ok kd_61_0)
theorem ke_61 : k_ents kr_61.2.2.2.1.cls kr_61.2.1 [[368], [829, 686, 687], [927, 891, 892]] = true := by decide +kernel
theorem ko_61 : k_recP kr_61 := k_rec_ok k_okm kd_61 ke_61 (by decide +kernel)
theorem kd_67_0 : k_decL cX5_keptPart ((kc_67.drop 0).take 8) = true := by decide +kernel
theorem kx_67 : kc_67 = (kc_67.drop 0).take 8 := rfl
theorem kd_67 : ∀ ch ∈ kr_67.1, ∀ q ∈ ch, decode kr_67.2.2.2.2.1 q.1 = .ok q.2 := by
  show ∀ ch ∈ kc_67, ∀ q ∈ ch, decode cX5_keptPart q.1 = .ok q.2
  rw [kx_67]
  exact (k_decL_ok kd_67_0)
theorem ke_67 : k_ents kr_67.2.2.2.1.cls kr_67.2.1 [[375], [998, 854, 855]] = true := by decide +kernel
theorem ko_67 : k_recP kr_67 := k_rec_ok k_okm kd_67 ke_67 (by decide +kernel)
theorem kd_70_0 : k_decL cX5_canMend ((kc_70.drop 0).take 8) = true := by decide +kernel
theorem kx_70 : kc_70 = (kc_70.drop 0).take 8 := rfl
theorem kd_70 : ∀ ch ∈ kr_70.1, ∀ q ∈ ch, decode kr_70.2.2.2.2.1 q.1 = .ok q.2 := by
  show ∀ ch ∈ kc_70, ∀ q ∈ ch, decode cX5_canMend q.1 = .ok q.2
  rw [kx_70]
  exact (k_decL_ok kd_70_0)
theorem ke_70 : k_ents kr_70.2.2.2.1.cls kr_70.2.1 [[368], [916, 650, 651], [829, 686, 687], [298]] = true := by decide +kernel
theorem ko_70 : k_recP kr_70 := k_rec_ok k_okm kd_70 ke_70 (by decide +kernel)
theorem kd_72_0 : k_decL cX5_draw ((kc_72.drop 0).take 8) = true := by decide +kernel
theorem kx_72 : kc_72 = (kc_72.drop 0).take 8 := rfl
theorem kd_72 : ∀ ch ∈ kr_72.1, ∀ q ∈ ch, decode kr_72.2.2.2.2.1 q.1 = .ok q.2 := by
  show ∀ ch ∈ kc_72, ∀ q ∈ ch, decode cX5_draw q.1 = .ok q.2
  rw [kx_72]
  exact (k_decL_ok kd_72_0)
theorem ke_72 : k_ents kr_72.2.2.2.1.cls kr_72.2.1 [[368], [287]] = true := by decide +kernel
theorem ko_72 : k_recP kr_72 := k_rec_ok k_okm kd_72 ke_72 (by decide +kernel)
theorem kd_74_0 : k_decL cX5_isImage ((kc_74.drop 0).take 8) = true := by decide +kernel
theorem kd_74_8 : k_decL cX5_isImage ((kc_74.drop 8).take 8) = true := by decide +kernel
theorem kx_74 : kc_74 = (kc_74.drop 0).take 8 ++ ((kc_74.drop 8).take 8) := rfl
theorem kd_74 : ∀ ch ∈ kr_74.1, ∀ q ∈ ch, decode kr_74.2.2.2.2.1 q.1 = .ok q.2 := by
  show ∀ ch ∈ kc_74, ∀ q ∈ ch, decode cX5_isImage q.1 = .ok q.2
  rw [kx_74]
  exact (k_dec_app (k_decL_ok kd_74_0) (k_decL_ok kd_74_8))
theorem ke_74 : k_ents kr_74.2.2.2.1.cls kr_74.2.1 [[368], [287], [916, 650, 651], [992], [173], [167]] = true := by decide +kernel
theorem ko_74 : k_recP kr_74 := k_rec_ok k_okm kd_74 ke_74 (by decide +kernel)
theorem kd_78_0 : k_decL cX6_init ((kc_78.drop 0).take 8) = true := by decide +kernel
theorem kx_78 : kc_78 = (kc_78.drop 0).take 8 := rfl
theorem kd_78 : ∀ ch ∈ kr_78.1, ∀ q ∈ ch, decode kr_78.2.2.2.2.1 q.1 = .ok q.2 := by
  show ∀ ch ∈ kc_78, ∀ q ∈ ch, decode cX6_init q.1 = .ok q.2
  rw [kx_78]
  exact (k_decL_ok kd_78_0)
theorem ke_78 : k_ents kr_78.2.2.2.1.cls kr_78.2.1 [[456, 155, 156], [457], [458], [459], [460], [461], [462], [464], [466]] = true := by decide +kernel
theorem ko_78 : k_recP kr_78 := k_rec_ok k_okm kd_78 ke_78 (by decide +kernel)
theorem kd_81_0 : k_decL cX6_isTold ((kc_81.drop 0).take 8) = true := by decide +kernel
theorem kx_81 : kc_81 = (kc_81.drop 0).take 8 := rfl
theorem kd_81 : ∀ ch ∈ kr_81.1, ∀ q ∈ ch, decode kr_81.2.2.2.2.1 q.1 = .ok q.2 := by
  show ∀ ch ∈ kc_81, ∀ q ∈ ch, decode cX6_isTold q.1 = .ok q.2
  rw [kx_81]
  exact (k_decL_ok kd_81_0)
theorem ke_81 : k_ents kr_81.2.2.2.1.cls kr_81.2.1 [[172], [166], [1195, 650, 651]] = true := by decide +kernel
theorem ko_81 : k_recP kr_81 := k_rec_ok k_okm kd_81 ke_81 (by decide +kernel)
theorem kd_88_0 : k_decL cX7_init ((kc_88.drop 0).take 8) = true := by decide +kernel
theorem kx_88 : kc_88 = (kc_88.drop 0).take 8 := rfl
theorem kd_88 : ∀ ch ∈ kr_88.1, ∀ q ∈ ch, decode kr_88.2.2.2.2.1 q.1 = .ok q.2 := by
  show ∀ ch ∈ kc_88, ∀ q ∈ ch, decode cX7_init q.1 = .ok q.2
  rw [kx_88]
  exact (k_decL_ok kd_88_0)
theorem ke_88 : k_ents kr_88.2.2.2.1.cls kr_88.2.1 [[191, 155, 156], [192, 193, 136], [195, 194], [232]] = true := by decide +kernel
theorem ko_88 : k_recP kr_88 := k_rec_ok k_okm kd_88 ke_88 (by decide +kernel)
theorem kd_102_0 : k_decL cX8_init ((kc_102.drop 0).take 8) = true := by decide +kernel
theorem kx_102 : kc_102 = (kc_102.drop 0).take 8 := rfl
theorem kd_102 : ∀ ch ∈ kr_102.1, ∀ q ∈ ch, decode kr_102.2.2.2.2.1 q.1 = .ok q.2 := by
  show ∀ ch ∈ kc_102, ∀ q ∈ ch, decode cX8_init q.1 = .ok q.2
  rw [kx_102]
  exact (k_decL_ok kd_102_0)
theorem ke_102 : k_ents kr_102.2.2.2.1.cls kr_102.2.1 [[162, 155, 156], [163], [168]] = true := by decide +kernel
theorem ko_102 : k_recP kr_102 := k_rec_ok k_okm kd_102 ke_102 (by decide +kernel)
theorem kd_103_0 : k_decL cX8_append ((kc_103.drop 0).take 8) = true := by decide +kernel
theorem kx_103 : kc_103 = (kc_103.drop 0).take 8 := rfl
theorem kd_103 : ∀ ch ∈ kr_103.1, ∀ q ∈ ch, decode kr_103.2.2.2.2.1 q.1 = .ok q.2 := by
  show ∀ ch ∈ kc_103, ∀ q ∈ ch, decode cX8_append q.1 = .ok q.2
  rw [kx_103]
  exact (k_decL_ok kd_103_0)
theorem ke_103 : k_ents kr_103.2.2.2.1.cls kr_103.2.1 [[163], [168]] = true := by decide +kernel
theorem ko_103 : k_recP kr_103 := k_rec_ok k_okm kd_103 ke_103 (by decide +kernel)
theorem kd_104_0 : k_decL cX9_init ((kc_104.drop 0).take 8) = true := by decide +kernel
theorem kx_104 : kc_104 = (kc_104.drop 0).take 8 := rfl
theorem kd_104 : ∀ ch ∈ kr_104.1, ∀ q ∈ ch, decode kr_104.2.2.2.2.1 q.1 = .ok q.2 := by
  show ∀ ch ∈ kc_104, ∀ q ∈ ch, decode cX9_init q.1 = .ok q.2
  rw [kx_104]
  exact (k_decL_ok kd_104_0)
theorem ke_104 : k_ents kr_104.2.2.2.1.cls kr_104.2.1 [[259, 155, 156], [279], [286], [292], [295], [299], [301], [305], [309], [310], [312], [315], [318], [322], [327], [260, 261, 139], [263, 262], [329], [332]] = true := by decide +kernel
theorem ko_104 : k_recP kr_104 := k_rec_ok k_okm kd_104 ke_104 (by decide +kernel)
theorem kd_105_0 : k_decL cX9_clear ((kc_105.drop 0).take 8) = true := by decide +kernel
theorem kx_105 : kc_105 = (kc_105.drop 0).take 8 := rfl
theorem kd_105 : ∀ ch ∈ kr_105.1, ∀ q ∈ ch, decode kr_105.2.2.2.2.1 q.1 = .ok q.2 := by
  show ∀ ch ∈ kc_105, ∀ q ∈ ch, decode cX9_clear q.1 = .ok q.2
  rw [kx_105]
  exact (k_decL_ok kd_105_0)
theorem ke_105 : k_ents kr_105.2.2.2.1.cls kr_105.2.1 [[279], [286], [292], [295], [309], [329], [332], [552, 553], [269]] = true := by decide +kernel
theorem ko_105 : k_recP kr_105 := k_rec_ok k_okm kd_105 ke_105 (by decide +kernel)
theorem kd_106_0 : k_decL cX9_isRoom ((kc_106.drop 0).take 8) = true := by decide +kernel
theorem kx_106 : kc_106 = (kc_106.drop 0).take 8 := rfl
theorem kd_106 : ∀ ch ∈ kr_106.1, ∀ q ∈ ch, decode kr_106.2.2.2.2.1 q.1 = .ok q.2 := by
  show ∀ ch ∈ kc_106, ∀ q ∈ ch, decode cX9_isRoom q.1 = .ok q.2
  rw [kx_106]
  exact (k_decL_ok kd_106_0)
theorem ke_106 : k_ents kr_106.2.2.2.1.cls kr_106.2.1 [[279]] = true := by decide +kernel
theorem ko_106 : k_recP kr_106 := k_rec_ok k_okm kd_106 ke_106 (by decide +kernel)
theorem kd_107_0 : k_decL cX9_isPerson ((kc_107.drop 0).take 8) = true := by decide +kernel
theorem kx_107 : kc_107 = (kc_107.drop 0).take 8 := rfl
theorem kd_107 : ∀ ch ∈ kr_107.1, ∀ q ∈ ch, decode kr_107.2.2.2.2.1 q.1 = .ok q.2 := by
  show ∀ ch ∈ kc_107, ∀ q ∈ ch, decode cX9_isPerson q.1 = .ok q.2
  rw [kx_107]
  exact (k_decL_ok kd_107_0)
theorem ke_107 : k_ents kr_107.2.2.2.1.cls kr_107.2.1 [[286]] = true := by decide +kernel
theorem ko_107 : k_recP kr_107 := k_rec_ok k_okm kd_107 ke_107 (by decide +kernel)
theorem kd_117_0 : k_decL cX9_wayMinutes ((kc_117.drop 0).take 8) = true := by decide +kernel
theorem kx_117 : kc_117 = (kc_117.drop 0).take 8 := rfl
theorem kd_117 : ∀ ch ∈ kr_117.1, ∀ q ∈ ch, decode kr_117.2.2.2.2.1 q.1 = .ok q.2 := by
  show ∀ ch ∈ kc_117, ∀ q ∈ ch, decode cX9_wayMinutes q.1 = .ok q.2
  rw [kx_117]
  exact (k_decL_ok kd_117_0)
theorem ke_117 : k_ents kr_117.2.2.2.1.cls kr_117.2.1 [[309], [649, 650, 651]] = true := by decide +kernel
theorem ko_117 : k_recP kr_117 := k_rec_ok k_okm kd_117 ke_117 (by decide +kernel)
theorem kd_120_0 : k_decL cX10_init ((kc_120.drop 0).take 8) = true := by decide +kernel
theorem kx_120 : kc_120 = (kc_120.drop 0).take 8 := rfl
theorem kd_120 : ∀ ch ∈ kr_120.1, ∀ q ∈ ch, decode kr_120.2.2.2.2.1 q.1 = .ok q.2 := by
  show ∀ ch ∈ kc_120, ∀ q ∈ ch, decode cX10_init q.1 = .ok q.2
  rw [kx_120]
  exact (k_decL_ok kd_120_0)
theorem ke_120 : k_ents kr_120.2.2.2.1.cls kr_120.2.1 [[185, 155, 156], [186, 187, 135], [189, 188], [237], [233], [238], [240]] = true := by decide +kernel
theorem ko_120 : k_recP kr_120 := k_rec_ok k_okm kd_120 ke_120 (by decide +kernel)
theorem kd_121_0 : k_decL cX10_read ((kc_121.drop 0).take 8) = true := by decide +kernel
theorem kx_121 : kc_121 = (kc_121.drop 0).take 8 := rfl
theorem kd_121 : ∀ ch ∈ kr_121.1, ∀ q ∈ ch, decode kr_121.2.2.2.2.1 q.1 = .ok q.2 := by
  show ∀ ch ∈ kc_121, ∀ q ∈ ch, decode cX10_read q.1 = .ok q.2
  rw [kx_121]
  exact (k_decL_ok kd_121_0)
theorem ke_121 : k_ents kr_121.2.2.2.1.cls kr_121.2.1 [[238], [548, 549, 550], [555, 556, 557], [562, 563, 564], [201]] = true := by decide +kernel
theorem ko_121 : k_recP kr_121 := k_rec_ok k_okm kd_121 ke_121 (by decide +kernel)
theorem kd_135_0 : k_decL cX11_init ((kc_135.drop 0).take 8) = true := by decide +kernel
theorem kx_135 : kc_135 = (kc_135.drop 0).take 8 := rfl
theorem kd_135 : ∀ ch ∈ kr_135.1, ∀ q ∈ ch, decode kr_135.2.2.2.2.1 q.1 = .ok q.2 := by
  show ∀ ch ∈ kc_135, ∀ q ∈ ch, decode cX11_init q.1 = .ok q.2
  rw [kx_135]
  exact (k_decL_ok kd_135_0)
theorem ke_135 : k_ents kr_135.2.2.2.1.cls kr_135.2.1 [[154, 155, 156], [157, 158, 133], [160, 159], [484], [180, 181, 134], [183, 182], [485], [248, 249, 137], [251, 250], [486], [387, 388, 140], [390, 389], [487], [404, 405, 141], [407, 406], [488], [433, 434, 142], [436, 435], [489], [451, 452, 143], [454, 453], [490], [491], [492], [493], [494], [495], [496]] = true := by decide +kernel
theorem ko_135 : k_recP kr_135 := k_rec_ok k_okm kd_135 ke_135 (by decide +kernel)
theorem kd_136_0 : k_decL cX11_feed ((kc_136.drop 0).take 8) = true := by decide +kernel
theorem kx_136 : kc_136 = (kc_136.drop 0).take 8 := rfl
theorem kd_136 : ∀ ch ∈ kr_136.1, ∀ q ∈ ch, decode kr_136.2.2.2.2.1 q.1 = .ok q.2 := by
  show ∀ ch ∈ kc_136, ∀ q ∈ ch, decode cX11_feed q.1 = .ok q.2
  rw [kx_136]
  exact (k_decL_ok kd_136_0)
theorem ke_136 : k_ents kr_136.2.2.2.1.cls kr_136.2.1 [[484], [170], [528, 530, 0], [532, 533, 534]] = true := by decide +kernel
theorem ko_136 : k_recP kr_136 := k_rec_ok k_okm kd_136 ke_136 (by decide +kernel)
theorem kd_137_0 : k_decL cX11_end ((kc_137.drop 0).take 8) = true := by decide +kernel
theorem kx_137 : kc_137 = (kc_137.drop 0).take 8 := rfl
theorem kd_137 : ∀ ch ∈ kr_137.1, ∀ q ∈ ch, decode kr_137.2.2.2.2.1 q.1 = .ok q.2 := by
  show ∀ ch ∈ kc_137, ∀ q ∈ ch, decode cX11_end q.1 = .ok q.2
  rw [kx_137]
  exact (k_decL_ok kd_137_0)
theorem ke_137 : k_ents kr_137.2.2.2.1.cls kr_137.2.1 [[484], [170], [528, 530, 0]] = true := by decide +kernel
theorem ko_137 : k_recP kr_137 := k_rec_ok k_okm kd_137 ke_137 (by decide +kernel)
theorem kd_138_0 : k_decL cX11_town ((kc_138.drop 0).take 8) = true := by decide +kernel
theorem kx_138 : kc_138 = (kc_138.drop 0).take 8 := rfl
theorem kd_138 : ∀ ch ∈ kr_138.1, ∀ q ∈ ch, decode kr_138.2.2.2.2.1 q.1 = .ok q.2 := by
  show ∀ ch ∈ kc_138, ∀ q ∈ ch, decode cX11_town q.1 = .ok q.2
  rw [kx_138]
  exact (k_decL_ok kd_138_0)
theorem ke_138 : k_ents kr_138.2.2.2.1.cls kr_138.2.1 [[484], [485], [486], [487], [489], [490], [494], [495], [170], [528, 530, 0], [374], [544, 545, 546], [239], [212], [214], [792, 793, 794], [396], [443], [465]] = true := by decide +kernel
theorem ko_138 : k_recP kr_138 := k_rec_ok k_okm kd_138 ke_138 (by decide +kernel)
