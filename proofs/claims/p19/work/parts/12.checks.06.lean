theorem kd_127_0 : k_decL cX10_readJoined ((kc_127.drop 0).take 8) = true := by decide +kernel
theorem kx_127 : kc_127 = (kc_127.drop 0).take 8 := rfl
theorem kd_127 : ∀ ch ∈ kr_127.1, ∀ q ∈ ch, decode kr_127.2.2.2.2.1 q.1 = .ok q.2 := by
  show ∀ ch ∈ kc_127, ∀ q ∈ ch, decode cX10_readJoined q.1 = .ok q.2
  rw [kx_127]
  exact (k_decL_ok kd_127_0)
theorem ke_127 : k_ents kr_127.2.2.2.1.cls kr_127.2.1 [[238], [570, 571, 572], [677, 679, 12], [681, 682, 683]] = true := by decide +kernel
theorem ko_127 : k_recP kr_127 := k_rec_ok k_okm kd_127 ke_127 (by decide +kernel)
theorem kd_128_0 : k_decL cX10_beginSum ((kc_128.drop 0).take 8) = true := by decide +kernel
theorem kx_128 : kc_128 = (kc_128.drop 0).take 8 := rfl
theorem kd_128 : ∀ ch ∈ kr_128.1, ∀ q ∈ ch, decode kr_128.2.2.2.2.1 q.1 = .ok q.2 := by
  show ∀ ch ∈ kc_128, ∀ q ∈ ch, decode cX10_beginSum q.1 = .ok q.2
  rw [kx_128]
  exact (k_decL_ok kd_128_0)
theorem ke_128 : k_ents kr_128.2.2.2.1.cls kr_128.2.1 [[238], [566, 567, 568], [570, 571, 572], [209], [270]] = true := by decide +kernel
theorem ko_128 : k_recP kr_128 := k_rec_ok k_okm kd_128 ke_128 (by decide +kernel)
theorem kd_129_0 : k_decL cX10_readBreaks ((kc_129.drop 0).take 8) = true := by decide +kernel
theorem kx_129 : kc_129 = (kc_129.drop 0).take 8 := rfl
theorem kd_129 : ∀ ch ∈ kr_129.1, ∀ q ∈ ch, decode kr_129.2.2.2.2.1 q.1 = .ok q.2 := by
  show ∀ ch ∈ kc_129, ∀ q ∈ ch, decode cX10_readBreaks q.1 = .ok q.2
  rw [kx_129]
  exact (k_decL_ok kd_129_0)
theorem ke_129 : k_ents kr_129.2.2.2.1.cls kr_129.2.1 [[240], [623, 625, 6], [786], [294]] = true := by decide +kernel
theorem ko_129 : k_recP kr_129 := k_rec_ok k_okm kd_129 ke_129 (by decide +kernel)
theorem kd_130_0 : k_decL cX10_readCarpenter ((kc_130.drop 0).take 8) = true := by decide +kernel
theorem kx_130 : kc_130 = (kc_130.drop 0).take 8 := rfl
theorem kd_130 : ∀ ch ∈ kr_130.1, ∀ q ∈ ch, decode kr_130.2.2.2.2.1 q.1 = .ok q.2 := by
  show ∀ ch ∈ kc_130, ∀ q ∈ ch, decode cX10_readCarpenter q.1 = .ok q.2
  rw [kx_130]
  exact (k_decL_ok kd_130_0)
theorem ke_130 : k_ents kr_130.2.2.2.1.cls kr_130.2.1 [[238], [570, 571, 572], [640, 642, 8], [297]] = true := by decide +kernel
theorem ko_130 : k_recP kr_130 := k_rec_ok k_okm kd_130 ke_130 (by decide +kernel)
theorem kd_131_0 : k_decL cX10_readNumber ((kc_131.drop 0).take 8) = true := by decide +kernel
theorem kx_131 : kc_131 = (kc_131.drop 0).take 8 := rfl
theorem kd_131 : ∀ ch ∈ kr_131.1, ∀ q ∈ ch, decode kr_131.2.2.2.2.1 q.1 = .ok q.2 := by
  show ∀ ch ∈ kc_131, ∀ q ∈ ch, decode cX10_readNumber q.1 = .ok q.2
  rw [kx_131]
  exact (k_decL_ok kd_131_0)
theorem ke_131 : k_ents kr_131.2.2.2.1.cls kr_131.2.1 [[238], [240], [566, 567, 568], [570, 571, 572], [602, 582, 583], [203], [206], [209], [627, 628, 629]] = true := by decide +kernel
theorem ko_131 : k_recP kr_131 := k_rec_ok k_okm kd_131 ke_131 (by decide +kernel)
theorem kd_132_0 : k_decL cX10_freshName ((kc_132.drop 0).take 8) = true := by decide +kernel
theorem kx_132 : kc_132 = (kc_132.drop 0).take 8 := rfl
theorem kd_132 : ∀ ch ∈ kr_132.1, ∀ q ∈ ch, decode kr_132.2.2.2.2.1 q.1 = .ok q.2 := by
  show ∀ ch ∈ kc_132, ∀ q ∈ ch, decode cX10_freshName q.1 = .ok q.2
  rw [kx_132]
  exact (k_decL_ok kd_132_0)
theorem ke_132 : k_ents kr_132.2.2.2.1.cls kr_132.2.1 [[238], [566, 567, 568], [602, 582, 583], [203], [206], [209], [611, 612, 613], [618, 619, 620]] = true := by decide +kernel
theorem ko_132 : k_recP kr_132 := k_rec_ok k_okm kd_132 ke_132 (by decide +kernel)
theorem kd_133_0 : k_decL cX10_knownRoom ((kc_133.drop 0).take 8) = true := by decide +kernel
theorem kx_133 : kc_133 = (kc_133.drop 0).take 8 := rfl
theorem kd_133 : ∀ ch ∈ kr_133.1, ∀ q ∈ ch, decode kr_133.2.2.2.2.1 q.1 = .ok q.2 := by
  show ∀ ch ∈ kc_133, ∀ q ∈ ch, decode cX10_knownRoom q.1 = .ok q.2
  rw [kx_133]
  exact (k_decL_ok kd_133_0)
theorem ke_133 : k_ents kr_133.2.2.2.1.cls kr_133.2.1 [[238], [566, 567, 568], [602, 582, 583], [203], [206], [209], [611, 612, 613]] = true := by decide +kernel
theorem ko_133 : k_recP kr_133 := k_rec_ok k_okm kd_133 ke_133 (by decide +kernel)
theorem kd_134_0 : k_decL cX10_unjoinedPerson ((kc_134.drop 0).take 8) = true := by decide +kernel
theorem kx_134 : kc_134 = (kc_134.drop 0).take 8 := rfl
theorem kd_134 : ∀ ch ∈ kr_134.1, ∀ q ∈ ch, decode kr_134.2.2.2.2.1 q.1 = .ok q.2 := by
  show ∀ ch ∈ kc_134, ∀ q ∈ ch, decode cX10_unjoinedPerson q.1 = .ok q.2
  rw [kx_134]
  exact (k_decL_ok kd_134_0)
theorem ke_134 : k_ents kr_134.2.2.2.1.cls kr_134.2.1 [[238], [566, 567, 568], [602, 582, 583], [203], [206], [209], [618, 619, 620], [325]] = true := by decide +kernel
theorem ko_134 : k_recP kr_134 := k_rec_ok k_okm kd_134 ke_134 (by decide +kernel)
theorem kd_135_0 : k_decL cX11_init ((kc_135.drop 0).take 8) = true := by decide +kernel
theorem kx_135 : kc_135 = (kc_135.drop 0).take 8 := rfl
theorem kd_135 : ∀ ch ∈ kr_135.1, ∀ q ∈ ch, decode kr_135.2.2.2.2.1 q.1 = .ok q.2 := by
  show ∀ ch ∈ kc_135, ∀ q ∈ ch, decode cX11_init q.1 = .ok q.2
  rw [kx_135]
  exact (k_decL_ok kd_135_0)
theorem ke_135 : k_ents kr_135.2.2.2.1.cls kr_135.2.1 [[154, 155, 156], [157, 158, 133], [160, 159], [484], [180, 181, 134], [183, 182], [485], [248, 249, 137], [251, 250], [486], [387, 388, 140], [390, 389], [487], [404, 405, 141], [407, 406], [488], [433, 434, 142], [436, 435], [489], [451, 452, 143], [454, 453], [490], [491], [492], [493], [494], [495], [496]] = true := by decide +kernel
theorem ko_135 : k_recP kr_135 := k_rec_ok k_okm kd_135 ke_135 (by decide +kernel)
theorem kd_136_0 : k_decL cX11_feed ((kc_136.drop 0).take 8) = true := by decide +kernel
theorem kx_136 : kc_136 = (kc_136.drop 0).take 8 := rfl
theorem kd_136 : ∀ ch ∈ kr_136.1, ∀ q ∈ ch, decode kr_136.2.2.2.2.1 q.1 = .ok q.2 := by
  show ∀ ch ∈ kc_136, ∀ q ∈ ch, decode cX11_feed q.1 = .ok q.2
  rw [kx_136]
  exact (k_decL_ok kd_136_0)
theorem ke_136 : k_ents kr_136.2.2.2.1.cls kr_136.2.1 [[484], [170], [528, 530, 0], [532, 533, 534]] = true := by decide +kernel
theorem ko_136 : k_recP kr_136 := k_rec_ok k_okm kd_136 ke_136 (by decide +kernel)
theorem kd_137_0 : k_decL cX11_end ((kc_137.drop 0).take 8) = true := by decide +kernel
theorem kx_137 : kc_137 = (kc_137.drop 0).take 8 := rfl
theorem kd_137 : ∀ ch ∈ kr_137.1, ∀ q ∈ ch, decode kr_137.2.2.2.2.1 q.1 = .ok q.2 := by
  show ∀ ch ∈ kc_137, ∀ q ∈ ch, decode cX11_end q.1 = .ok q.2
  rw [kx_137]
  exact (k_decL_ok kd_137_0)
theorem ke_137 : k_ents kr_137.2.2.2.1.cls kr_137.2.1 [[484], [170], [528, 530, 0]] = true := by decide +kernel
theorem ko_137 : k_recP kr_137 := k_rec_ok k_okm kd_137 ke_137 (by decide +kernel)
theorem kd_138_0 : k_decL cX11_town ((kc_138.drop 0).take 8) = true := by decide +kernel
theorem kx_138 : kc_138 = (kc_138.drop 0).take 8 := rfl
theorem kd_138 : ∀ ch ∈ kr_138.1, ∀ q ∈ ch, decode kr_138.2.2.2.2.1 q.1 = .ok q.2 := by
  show ∀ ch ∈ kc_138, ∀ q ∈ ch, decode cX11_town q.1 = .ok q.2
  rw [kx_138]
  exact (k_decL_ok kd_138_0)
theorem ke_138 : k_ents kr_138.2.2.2.1.cls kr_138.2.1 [[484], [485], [486], [487], [489], [490], [494], [495], [170], [528, 530, 0], [374], [544, 545, 546], [239], [212], [214], [792, 793, 794], [396], [443], [465]] = true := by decide +kernel
theorem ko_138 : k_recP kr_138 := k_rec_ok k_okm kd_138 ke_138 (by decide +kernel)
theorem kd_139_0 : k_decL cX11_fault ((kc_139.drop 0).take 8) = true := by decide +kernel
theorem kx_139 : kc_139 = (kc_139.drop 0).take 8 := rfl
theorem kd_139 : ∀ ch ∈ kr_139.1, ∀ q ∈ ch, decode kr_139.2.2.2.2.1 q.1 = .ok q.2 := by
  show ∀ ch ∈ kc_139, ∀ q ∈ ch, decode cX11_fault q.1 = .ok q.2
  rw [kx_139]
  exact (k_decL_ok kd_139_0)
theorem ke_139 : k_ents kr_139.2.2.2.1.cls kr_139.2.1 [[494], [495]] = true := by decide +kernel
theorem ko_139 : k_recP kr_139 := k_rec_ok k_okm kd_139 ke_139 (by decide +kernel)
theorem kd_140_0 : k_decL cX11_has ((kc_140.drop 0).take 8) = true := by decide +kernel
theorem kd_140_8 : k_decL cX11_has ((kc_140.drop 8).take 8) = true := by decide +kernel
theorem kx_140 : kc_140 = (kc_140.drop 0).take 8 ++ ((kc_140.drop 8).take 8) := rfl
theorem kd_140 : ∀ ch ∈ kr_140.1, ∀ q ∈ ch, decode kr_140.2.2.2.2.1 q.1 = .ok q.2 := by
  show ∀ ch ∈ kc_140, ∀ q ∈ ch, decode cX11_has q.1 = .ok q.2
  rw [kx_140]
  exact (k_dec_app (k_decL_ok kd_140_0) (k_decL_ok kd_140_8))
theorem ke_140 : k_ents kr_140.2.2.2.1.cls kr_140.2.1 [[486], [487], [496], [396], [372], [283], [291], [293], [296], [805, 806, 807], [830, 831, 832], [834, 835, 836], [845, 846, 847], [853, 854, 855]] = true := by decide +kernel
theorem ko_140 : k_recP kr_140 := k_rec_ok k_okm kd_140 ke_140 (by decide +kernel)
theorem kd_141_0 : k_decL cX11_letter ((kc_141.drop 0).take 8) = true := by decide +kernel
theorem kx_141 : kc_141 = (kc_141.drop 0).take 8 := rfl
theorem kd_141 : ∀ ch ∈ kr_141.1, ∀ q ∈ ch, decode kr_141.2.2.2.2.1 q.1 = .ok q.2 := by
  show ∀ ch ∈ kc_141, ∀ q ∈ ch, decode cX11_letter q.1 = .ok q.2
  rw [kx_141]
  exact (k_decL_ok kd_141_0)
theorem ke_141 : k_ents kr_141.2.2.2.1.cls kr_141.2.1 [[486], [372], [861, 650, 651], [300], [862, 863], [865, 686, 687], [311]] = true := by decide +kernel
theorem ko_141 : k_recP kr_141 := k_rec_ok k_okm kd_141 ke_141 (by decide +kernel)
theorem kd_142_0 : k_decL cX11_room ((kc_142.drop 0).take 8) = true := by decide +kernel
theorem kx_142 : kc_142 = (kc_142.drop 0).take 8 := rfl
theorem kd_142 : ∀ ch ∈ kr_142.1, ∀ q ∈ ch, decode kr_142.2.2.2.2.1 q.1 = .ok q.2 := by
  show ∀ ch ∈ kc_142, ∀ q ∈ ch, decode cX11_room q.1 = .ok q.2
  rw [kx_142]
  exact (k_decL_ok kd_142_0)
theorem ke_142 : k_ents kr_142.2.2.2.1.cls kr_142.2.1 [[486], [372], [861, 650, 651], [303], [307], [870, 871, 872], [874, 875, 876], [878, 879, 880], [882, 883, 884]] = true := by decide +kernel
theorem ko_142 : k_recP kr_142 := k_rec_ok k_okm kd_142 ke_142 (by decide +kernel)
theorem kd_143_0 : k_decL cX11_way ((kc_143.drop 0).take 8) = true := by decide +kernel
theorem kx_143 : kc_143 = (kc_143.drop 0).take 8 := rfl
theorem kd_143 : ∀ ch ∈ kr_143.1, ∀ q ∈ ch, decode kr_143.2.2.2.2.1 q.1 = .ok q.2 := by
  show ∀ ch ∈ kc_143, ∀ q ∈ ch, decode cX11_way q.1 = .ok q.2
  rw [kx_143]
  exact (k_decL_ok kd_143_0)
theorem ke_143 : k_ents kr_143.2.2.2.1.cls kr_143.2.1 [[486], [372], [890, 891, 892]] = true := by decide +kernel
theorem ko_143 : k_recP kr_143 := k_rec_ok k_okm kd_143 ke_143 (by decide +kernel)
theorem kd_144_0 : k_decL cX11_person ((kc_144.drop 0).take 8) = true := by decide +kernel
theorem kd_144_8 : k_decL cX11_person ((kc_144.drop 8).take 8) = true := by decide +kernel
theorem kx_144 : kc_144 = (kc_144.drop 0).take 8 ++ ((kc_144.drop 8).take 8) := rfl
theorem kd_144 : ∀ ch ∈ kr_144.1, ∀ q ∈ ch, decode kr_144.2.2.2.2.1 q.1 = .ok q.2 := by
  show ∀ ch ∈ kc_144, ∀ q ∈ ch, decode cX11_person q.1 = .ok q.2
  rw [kx_144]
  exact (k_dec_app (k_decL_ok kd_144_0) (k_decL_ok kd_144_8))
theorem ke_144 : k_ents kr_144.2.2.2.1.cls kr_144.2.1 [[486], [372], [865, 686, 687], [898, 814, 815], [899, 818, 819], [900, 826, 827], [901, 810, 811], [902, 839, 840], [903, 850, 851], [324], [313], [316], [320], [904, 905, 906]] = true := by decide +kernel
theorem ko_144 : k_recP kr_144 := k_rec_ok k_okm kd_144 ke_144 (by decide +kernel)
theorem kd_145_0 : k_decL cX11_fits ((kc_145.drop 0).take 8) = true := by decide +kernel
theorem kx_145 : kc_145 = (kc_145.drop 0).take 8 := rfl
theorem kd_145 : ∀ ch ∈ kr_145.1, ∀ q ∈ ch, decode kr_145.2.2.2.2.1 q.1 = .ok q.2 := by
  show ∀ ch ∈ kc_145, ∀ q ∈ ch, decode cX11_fits q.1 = .ok q.2
  rw [kx_145]
  exact (k_decL_ok kd_145_0)
theorem ke_145 : k_ents kr_145.2.2.2.1.cls kr_145.2.1 [[486], [372], [861, 650, 651], [865, 686, 687], [899, 818, 819], [912, 913, 914]] = true := by decide +kernel
theorem ko_145 : k_recP kr_145 := k_rec_ok k_okm kd_145 ke_145 (by decide +kernel)
theorem kd_146_0 : k_decL cX11_takes ((kc_146.drop 0).take 8) = true := by decide +kernel
theorem kx_146 : kc_146 = (kc_146.drop 0).take 8 := rfl
theorem kd_146 : ∀ ch ∈ kr_146.1, ∀ q ∈ ch, decode kr_146.2.2.2.2.1 q.1 = .ok q.2 := by
  show ∀ ch ∈ kc_146, ∀ q ∈ ch, decode cX11_takes q.1 = .ok q.2
  rw [kx_146]
  exact (k_decL_ok kd_146_0)
theorem ke_146 : k_ents kr_146.2.2.2.1.cls kr_146.2.1 [[486], [923, 924, 925]] = true := by decide +kernel
theorem ko_146 : k_recP kr_146 := k_rec_ok k_okm kd_146 ke_146 (by decide +kernel)
theorem kd_147_0 : k_decL cX11_go ((kc_147.drop 0).take 8) = true := by decide +kernel
theorem kx_147 : kc_147 = (kc_147.drop 0).take 8 := rfl
theorem kd_147 : ∀ ch ∈ kr_147.1, ∀ q ∈ ch, decode kr_147.2.2.2.2.1 q.1 = .ok q.2 := by
  show ∀ ch ∈ kc_147, ∀ q ∈ ch, decode cX11_go q.1 = .ok q.2
  rw [kx_147]
  exact (k_decL_ok kd_147_0)
theorem ke_147 : k_ents kr_147.2.2.2.1.cls kr_147.2.1 [[486], [487], [528, 530, 0], [902, 839, 840], [923, 924, 925], [376], [974, 975, 976], [980, 982, 30]] = true := by decide +kernel
theorem ko_147 : k_recP kr_147 := k_rec_ok k_okm kd_147 ke_147 (by decide +kernel)
theorem kd_148_0 : k_decL cX11_stay ((kc_148.drop 0).take 8) = true := by decide +kernel
theorem kx_148 : kc_148 = (kc_148.drop 0).take 8 := rfl
theorem kd_148 : ∀ ch ∈ kr_148.1, ∀ q ∈ ch, decode kr_148.2.2.2.2.1 q.1 = .ok q.2 := by
  show ∀ ch ∈ kc_148, ∀ q ∈ ch, decode cX11_stay q.1 = .ok q.2
  rw [kx_148]
  exact (k_decL_ok kd_148_0)
theorem ke_148 : k_ents kr_148.2.2.2.1.cls kr_148.2.1 [[486], [487], [528, 530, 0], [372], [865, 686, 687], [903, 850, 851], [376], [974, 975, 976], [1015, 1016, 1017]] = true := by decide +kernel
theorem ko_148 : k_recP kr_148 := k_rec_ok k_okm kd_148 ke_148 (by decide +kernel)
theorem kd_149_0 : k_decL cX11_mend ((kc_149.drop 0).take 8) = true := by decide +kernel
theorem kx_149 : kc_149 = (kc_149.drop 0).take 8 := rfl
theorem kd_149 : ∀ ch ∈ kr_149.1, ∀ q ∈ ch, decode kr_149.2.2.2.2.1 q.1 = .ok q.2 := by
  show ∀ ch ∈ kc_149, ∀ q ∈ ch, decode cX11_mend q.1 = .ok q.2
  rw [kx_149]
  exact (k_decL_ok kd_149_0)
theorem ke_149 : k_ents kr_149.2.2.2.1.cls kr_149.2.1 [[486], [487], [528, 530, 0], [376], [974, 975, 976], [1023, 1024, 1025], [1027, 1028, 1029]] = true := by decide +kernel
theorem ko_149 : k_recP kr_149 := k_rec_ok k_okm kd_149 ke_149 (by decide +kernel)
theorem kd_150_0 : k_decL cX11_days ((kc_150.drop 0).take 8) = true := by decide +kernel
theorem kx_150 : kc_150 = (kc_150.drop 0).take 8 := rfl
theorem kd_150 : ∀ ch ∈ kr_150.1, ∀ q ∈ ch, decode kr_150.2.2.2.2.1 q.1 = .ok q.2 := by
  show ∀ ch ∈ kc_150, ∀ q ∈ ch, decode cX11_days q.1 = .ok q.2
  rw [kx_150]
  exact (k_decL_ok kd_150_0)
theorem ke_150 : k_ents kr_150.2.2.2.1.cls kr_150.2.1 [[486], [487], [528, 530, 0], [372], [291], [376], [974, 975, 976], [1035, 1037, 33]] = true := by decide +kernel
theorem ko_150 : k_recP kr_150 := k_rec_ok k_okm kd_150 ke_150 (by decide +kernel)
theorem kd_151_0 : k_decL cX11_undo ((kc_151.drop 0).take 8) = true := by decide +kernel
theorem kx_151 : kc_151 = (kc_151.drop 0).take 8 := rfl
theorem kd_151 : ∀ ch ∈ kr_151.1, ∀ q ∈ ch, decode kr_151.2.2.2.2.1 q.1 = .ok q.2 := by
  show ∀ ch ∈ kc_151, ∀ q ∈ ch, decode cX11_undo q.1 = .ok q.2
  rw [kx_151]
  exact (k_decL_ok kd_151_0)
theorem ke_151 : k_ents kr_151.2.2.2.1.cls kr_151.2.1 [[486], [487], [528, 530, 0], [396], [376], [1053, 1054, 1055]] = true := by decide +kernel
theorem ko_151 : k_recP kr_151 := k_rec_ok k_okm kd_151 ke_151 (by decide +kernel)
theorem kd_152_0 : k_decL cX11_seed ((kc_152.drop 0).take 8) = true := by decide +kernel
theorem kx_152 : kc_152 = (kc_152.drop 0).take 8 := rfl
theorem kd_152 : ∀ ch ∈ kr_152.1, ∀ q ∈ ch, decode kr_152.2.2.2.2.1 q.1 = .ok q.2 := by
  show ∀ ch ∈ kc_152, ∀ q ∈ ch, decode cX11_seed q.1 = .ok q.2
  rw [kx_152]
  exact (k_decL_ok kd_152_0)
theorem ke_152 : k_ents kr_152.2.2.2.1.cls kr_152.2.1 [[496], [528, 530, 0]] = true := by decide +kernel
theorem ko_152 : k_recP kr_152 := k_rec_ok k_okm kd_152 ke_152 (by decide +kernel)
theorem kd_153_0 : k_decL cX11_kept ((kc_153.drop 0).take 8) = true := by decide +kernel
theorem kx_153 : kc_153 = (kc_153.drop 0).take 8 := rfl
theorem kd_153 : ∀ ch ∈ kr_153.1, ∀ q ∈ ch, decode kr_153.2.2.2.2.1 q.1 = .ok q.2 := by
  show ∀ ch ∈ kc_153, ∀ q ∈ ch, decode cX11_kept q.1 = .ok q.2
  rw [kx_153]
  exact (k_decL_ok kd_153_0)
theorem ke_153 : k_ents kr_153.2.2.2.1.cls kr_153.2.1 [[486], [1066, 1067, 1068]] = true := by decide +kernel
theorem ko_153 : k_recP kr_153 := k_rec_ok k_okm kd_153 ke_153 (by decide +kernel)
theorem kd_154_0 : k_decL cX11_route ((kc_154.drop 0).take 8) = true := by decide +kernel
theorem kx_154 : kc_154 = (kc_154.drop 0).take 8 := rfl
theorem kd_154 : ∀ ch ∈ kr_154.1, ∀ q ∈ ch, decode kr_154.2.2.2.2.1 q.1 = .ok q.2 := by
  show ∀ ch ∈ kc_154, ∀ q ∈ ch, decode cX11_route q.1 = .ok q.2
  rw [kx_154]
  exact (k_decL_ok kd_154_0)
theorem ke_154 : k_ents kr_154.2.2.2.1.cls kr_154.2.1 [[486], [488], [372], [283], [865, 686, 687], [899, 818, 819], [1074, 1076, 34], [1078, 1079, 1080], [1090, 1091, 1092], [417], [1104, 1105, 1106]] = true := by decide +kernel
theorem ko_154 : k_recP kr_154 := k_rec_ok k_okm kd_154 ke_154 (by decide +kernel)
theorem kd_155_0 : k_decL cX11_bearer ((kc_155.drop 0).take 8) = true := by decide +kernel
theorem kx_155 : kc_155 = (kc_155.drop 0).take 8 := rfl
theorem kd_155 : ∀ ch ∈ kr_155.1, ∀ q ∈ ch, decode kr_155.2.2.2.2.1 q.1 = .ok q.2 := by
  show ∀ ch ∈ kc_155, ∀ q ∈ ch, decode cX11_bearer q.1 = .ok q.2
  rw [kx_155]
  exact (k_decL_ok kd_155_0)
theorem ke_155 : k_ents kr_155.2.2.2.1.cls kr_155.2.1 [[486], [488], [372], [283], [899, 818, 819], [1074, 1076, 34], [1090, 1091, 1092], [417], [1112, 1113, 1114], [1116, 1117, 1118]] = true := by decide +kernel
theorem ko_155 : k_recP kr_155 := k_rec_ok k_okm kd_155 ke_155 (by decide +kernel)
theorem kd_156_0 : k_decL cX11_errand ((kc_156.drop 0).take 8) = true := by decide +kernel
theorem kx_156 : kc_156 = (kc_156.drop 0).take 8 := rfl
theorem kd_156 : ∀ ch ∈ kr_156.1, ∀ q ∈ ch, decode kr_156.2.2.2.2.1 q.1 = .ok q.2 := by
  show ∀ ch ∈ kc_156, ∀ q ∈ ch, decode cX11_errand q.1 = .ok q.2
  rw [kx_156]
  exact (k_decL_ok kd_156_0)
theorem ke_156 : k_ents kr_156.2.2.2.1.cls kr_156.2.1 [[484], [486], [489], [170], [528, 530, 0], [1124, 1125, 1126], [1131, 1132, 1133]] = true := by decide +kernel
theorem ko_156 : k_recP kr_156 := k_rec_ok k_okm kd_156 ke_156 (by decide +kernel)
theorem kd_157_0 : k_decL cX11_along ((kc_157.drop 0).take 8) = true := by decide +kernel
theorem kx_157 : kc_157 = (kc_157.drop 0).take 8 := rfl
theorem kd_157 : ∀ ch ∈ kr_157.1, ∀ q ∈ ch, decode kr_157.2.2.2.2.1 q.1 = .ok q.2 := by
  show ∀ ch ∈ kc_157, ∀ q ∈ ch, decode cX11_along q.1 = .ok q.2
  rw [kx_157]
  exact (k_decL_ok kd_157_0)
theorem ke_157 : k_ents kr_157.2.2.2.1.cls kr_157.2.1 [[489], [443], [441]] = true := by decide +kernel
theorem ko_157 : k_recP kr_157 := k_rec_ok k_okm kd_157 ke_157 (by decide +kernel)
theorem kd_158_0 : k_decL cX11_seated ((kc_158.drop 0).take 8) = true := by decide +kernel
theorem kx_158 : kc_158 = (kc_158.drop 0).take 8 := rfl
theorem kd_158 : ∀ ch ∈ kr_158.1, ∀ q ∈ ch, decode kr_158.2.2.2.2.1 q.1 = .ok q.2 := by
  show ∀ ch ∈ kc_158, ∀ q ∈ ch, decode cX11_seated q.1 = .ok q.2
  rw [kx_158]
  exact (k_decL_ok kd_158_0)
theorem ke_158 : k_ents kr_158.2.2.2.1.cls kr_158.2.1 [[486], [490], [372], [291], [861, 650, 651], [1170, 1171, 1172]] = true := by decide +kernel
theorem ko_158 : k_recP kr_158 := k_rec_ok k_okm kd_158 ke_158 (by decide +kernel)
