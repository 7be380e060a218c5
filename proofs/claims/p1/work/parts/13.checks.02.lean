theorem kd_139_0 : k_decL cX11_fault ((kc_139.drop 0).take 8) = true := by decide +kernel
theorem kx_139 : kc_139 = (kc_139.drop 0).take 8 := rfl
theorem kd_139 : ∀ ch ∈ kr_139.1, ∀ q ∈ ch, decode kr_139.2.2.2.2.1 q.1 = .ok q.2 := by
  show ∀ ch ∈ kc_139, ∀ q ∈ ch, decode cX11_fault q.1 = .ok q.2
  rw [kx_139]
  exact (k_decL_ok kd_139_0)
theorem ke_139 : k_ents kr_139.2.2.2.1.cls kr_139.2.1 [[494], [495]] = true := by decide +kernel
theorem ko_139 : k_recP kr_139 := k_rec_ok k_okm kd_139 ke_139 (by decide +kernel)
theorem kd_140_0 : k_decL cX11_has ((kc_140.drop 0).take 8) = true := by decide +kernel
theorem kd_140_8 : k_decL cX11_has ((kc_140.drop 8).take 8) = true := by decide +kernel
theorem kx_140 : kc_140 = (kc_140.drop 0).take 8 ++ ((kc_140.drop 8).take 8) := rfl
theorem kd_140 : ∀ ch ∈ kr_140.1, ∀ q ∈ ch, decode kr_140.2.2.2.2.1 q.1 = .ok q.2 := by
  show ∀ ch ∈ kc_140, ∀ q ∈ ch, decode cX11_has q.1 = .ok q.2
  rw [kx_140]
  exact (k_dec_app (k_decL_ok kd_140_0) (k_decL_ok kd_140_8))
theorem ke_140 : k_ents kr_140.2.2.2.1.cls kr_140.2.1 [[486], [487], [496], [396], [372], [283], [291], [293], [296], [805, 806, 807], [830, 831, 832], [834, 835, 836], [845, 846, 847], [853, 854, 855]] = true := by decide +kernel
theorem ko_140 : k_recP kr_140 := k_rec_ok k_okm kd_140 ke_140 (by decide +kernel)
theorem kd_141_0 : k_decL cX11_letter ((kc_141.drop 0).take 8) = true := by decide +kernel
theorem kx_141 : kc_141 = (kc_141.drop 0).take 8 := rfl
theorem kd_141 : ∀ ch ∈ kr_141.1, ∀ q ∈ ch, decode kr_141.2.2.2.2.1 q.1 = .ok q.2 := by
  show ∀ ch ∈ kc_141, ∀ q ∈ ch, decode cX11_letter q.1 = .ok q.2
  rw [kx_141]
  exact (k_decL_ok kd_141_0)
theorem ke_141 : k_ents kr_141.2.2.2.1.cls kr_141.2.1 [[486], [372], [861, 650, 651], [300], [865, 686, 687], [311]] = true := by decide +kernel
theorem ko_141 : k_recP kr_141 := k_rec_ok k_okm kd_141 ke_141 (by decide +kernel)
theorem kd_142_0 : k_decL cX11_room ((kc_142.drop 0).take 8) = true := by decide +kernel
theorem kx_142 : kc_142 = (kc_142.drop 0).take 8 := rfl
theorem kd_142 : ∀ ch ∈ kr_142.1, ∀ q ∈ ch, decode kr_142.2.2.2.2.1 q.1 = .ok q.2 := by
  show ∀ ch ∈ kc_142, ∀ q ∈ ch, decode cX11_room q.1 = .ok q.2
  rw [kx_142]
  exact (k_decL_ok kd_142_0)
theorem ke_142 : k_ents kr_142.2.2.2.1.cls kr_142.2.1 [[486], [372], [861, 650, 651], [303], [307]] = true := by decide +kernel
theorem ko_142 : k_recP kr_142 := k_rec_ok k_okm kd_142 ke_142 (by decide +kernel)
theorem kd_143_0 : k_decL cX11_way ((kc_143.drop 0).take 8) = true := by decide +kernel
theorem kx_143 : kc_143 = (kc_143.drop 0).take 8 := rfl
theorem kd_143 : ∀ ch ∈ kr_143.1, ∀ q ∈ ch, decode kr_143.2.2.2.2.1 q.1 = .ok q.2 := by
  show ∀ ch ∈ kc_143, ∀ q ∈ ch, decode cX11_way q.1 = .ok q.2
  rw [kx_143]
  exact (k_decL_ok kd_143_0)
theorem ke_143 : k_ents kr_143.2.2.2.1.cls kr_143.2.1 [[486], [372], [890, 891, 892]] = true := by decide +kernel
theorem ko_143 : k_recP kr_143 := k_rec_ok k_okm kd_143 ke_143 (by decide +kernel)
theorem kd_144_0 : k_decL cX11_person ((kc_144.drop 0).take 8) = true := by decide +kernel
theorem kd_144_8 : k_decL cX11_person ((kc_144.drop 8).take 8) = true := by decide +kernel
theorem kx_144 : kc_144 = (kc_144.drop 0).take 8 ++ ((kc_144.drop 8).take 8) := rfl
theorem kd_144 : ∀ ch ∈ kr_144.1, ∀ q ∈ ch, decode kr_144.2.2.2.2.1 q.1 = .ok q.2 := by
  show ∀ ch ∈ kc_144, ∀ q ∈ ch, decode cX11_person q.1 = .ok q.2
  rw [kx_144]
  exact (k_dec_app (k_decL_ok kd_144_0) (k_decL_ok kd_144_8))
theorem ke_144 : k_ents kr_144.2.2.2.1.cls kr_144.2.1 [[486], [372], [865, 686, 687], [324], [313], [316], [320]] = true := by decide +kernel
theorem ko_144 : k_recP kr_144 := k_rec_ok k_okm kd_144 ke_144 (by decide +kernel)
theorem kd_145_0 : k_decL cX11_fits ((kc_145.drop 0).take 8) = true := by decide +kernel
theorem kx_145 : kc_145 = (kc_145.drop 0).take 8 := rfl
theorem kd_145 : ∀ ch ∈ kr_145.1, ∀ q ∈ ch, decode kr_145.2.2.2.2.1 q.1 = .ok q.2 := by
  show ∀ ch ∈ kc_145, ∀ q ∈ ch, decode cX11_fits q.1 = .ok q.2
  rw [kx_145]
  exact (k_decL_ok kd_145_0)
theorem ke_145 : k_ents kr_145.2.2.2.1.cls kr_145.2.1 [[486], [372], [861, 650, 651], [865, 686, 687]] = true := by decide +kernel
theorem ko_145 : k_recP kr_145 := k_rec_ok k_okm kd_145 ke_145 (by decide +kernel)
theorem kd_146_0 : k_decL cX11_takes ((kc_146.drop 0).take 8) = true := by decide +kernel
theorem kx_146 : kc_146 = (kc_146.drop 0).take 8 := rfl
theorem kd_146 : ∀ ch ∈ kr_146.1, ∀ q ∈ ch, decode kr_146.2.2.2.2.1 q.1 = .ok q.2 := by
  show ∀ ch ∈ kc_146, ∀ q ∈ ch, decode cX11_takes q.1 = .ok q.2
  rw [kx_146]
  exact (k_decL_ok kd_146_0)
theorem ke_146 : k_ents kr_146.2.2.2.1.cls kr_146.2.1 [[486], [923, 924, 925]] = true := by decide +kernel
theorem ko_146 : k_recP kr_146 := k_rec_ok k_okm kd_146 ke_146 (by decide +kernel)
theorem kd_147_0 : k_decL cX11_go ((kc_147.drop 0).take 8) = true := by decide +kernel
theorem kx_147 : kc_147 = (kc_147.drop 0).take 8 := rfl
theorem kd_147 : ∀ ch ∈ kr_147.1, ∀ q ∈ ch, decode kr_147.2.2.2.2.1 q.1 = .ok q.2 := by
  show ∀ ch ∈ kc_147, ∀ q ∈ ch, decode cX11_go q.1 = .ok q.2
  rw [kx_147]
  exact (k_decL_ok kd_147_0)
theorem ke_147 : k_ents kr_147.2.2.2.1.cls kr_147.2.1 [[486], [487], [528, 530, 0], [923, 924, 925], [376], [974, 975, 976]] = true := by decide +kernel
theorem ko_147 : k_recP kr_147 := k_rec_ok k_okm kd_147 ke_147 (by decide +kernel)
theorem kd_148_0 : k_decL cX11_stay ((kc_148.drop 0).take 8) = true := by decide +kernel
theorem kx_148 : kc_148 = (kc_148.drop 0).take 8 := rfl
theorem kd_148 : ∀ ch ∈ kr_148.1, ∀ q ∈ ch, decode kr_148.2.2.2.2.1 q.1 = .ok q.2 := by
  show ∀ ch ∈ kc_148, ∀ q ∈ ch, decode cX11_stay q.1 = .ok q.2
  rw [kx_148]
  exact (k_decL_ok kd_148_0)
theorem ke_148 : k_ents kr_148.2.2.2.1.cls kr_148.2.1 [[486], [487], [528, 530, 0], [372], [865, 686, 687], [376], [974, 975, 976]] = true := by decide +kernel
theorem ko_148 : k_recP kr_148 := k_rec_ok k_okm kd_148 ke_148 (by decide +kernel)
theorem kd_149_0 : k_decL cX11_mend ((kc_149.drop 0).take 8) = true := by decide +kernel
theorem kx_149 : kc_149 = (kc_149.drop 0).take 8 := rfl
theorem kd_149 : ∀ ch ∈ kr_149.1, ∀ q ∈ ch, decode kr_149.2.2.2.2.1 q.1 = .ok q.2 := by
  show ∀ ch ∈ kc_149, ∀ q ∈ ch, decode cX11_mend q.1 = .ok q.2
  rw [kx_149]
  exact (k_decL_ok kd_149_0)
theorem ke_149 : k_ents kr_149.2.2.2.1.cls kr_149.2.1 [[486], [487], [528, 530, 0], [376], [974, 975, 976], [1023, 1024, 1025]] = true := by decide +kernel
theorem ko_149 : k_recP kr_149 := k_rec_ok k_okm kd_149 ke_149 (by decide +kernel)
theorem kd_150_0 : k_decL cX11_days ((kc_150.drop 0).take 8) = true := by decide +kernel
theorem kx_150 : kc_150 = (kc_150.drop 0).take 8 := rfl
theorem kd_150 : ∀ ch ∈ kr_150.1, ∀ q ∈ ch, decode kr_150.2.2.2.2.1 q.1 = .ok q.2 := by
  show ∀ ch ∈ kc_150, ∀ q ∈ ch, decode cX11_days q.1 = .ok q.2
  rw [kx_150]
  exact (k_decL_ok kd_150_0)
theorem ke_150 : k_ents kr_150.2.2.2.1.cls kr_150.2.1 [[486], [487], [528, 530, 0], [372], [291], [376], [974, 975, 976]] = true := by decide +kernel
theorem ko_150 : k_recP kr_150 := k_rec_ok k_okm kd_150 ke_150 (by decide +kernel)
theorem kd_151_0 : k_decL cX11_undo ((kc_151.drop 0).take 8) = true := by decide +kernel
theorem kx_151 : kc_151 = (kc_151.drop 0).take 8 := rfl
theorem kd_151 : ∀ ch ∈ kr_151.1, ∀ q ∈ ch, decode kr_151.2.2.2.2.1 q.1 = .ok q.2 := by
  show ∀ ch ∈ kc_151, ∀ q ∈ ch, decode cX11_undo q.1 = .ok q.2
  rw [kx_151]
  exact (k_decL_ok kd_151_0)
theorem ke_151 : k_ents kr_151.2.2.2.1.cls kr_151.2.1 [[486], [487], [528, 530, 0], [396], [376]] = true := by decide +kernel
theorem ko_151 : k_recP kr_151 := k_rec_ok k_okm kd_151 ke_151 (by decide +kernel)
theorem kd_152_0 : k_decL cX11_seed ((kc_152.drop 0).take 8) = true := by decide +kernel
theorem kx_152 : kc_152 = (kc_152.drop 0).take 8 := rfl
theorem kd_152 : ∀ ch ∈ kr_152.1, ∀ q ∈ ch, decode kr_152.2.2.2.2.1 q.1 = .ok q.2 := by
  show ∀ ch ∈ kc_152, ∀ q ∈ ch, decode cX11_seed q.1 = .ok q.2
  rw [kx_152]
  exact (k_decL_ok kd_152_0)
theorem ke_152 : k_ents kr_152.2.2.2.1.cls kr_152.2.1 [[496], [528, 530, 0]] = true := by decide +kernel
theorem ko_152 : k_recP kr_152 := k_rec_ok k_okm kd_152 ke_152 (by decide +kernel)
theorem kd_153_0 : k_decL cX11_kept ((kc_153.drop 0).take 8) = true := by decide +kernel
theorem kx_153 : kc_153 = (kc_153.drop 0).take 8 := rfl
theorem kd_153 : ∀ ch ∈ kr_153.1, ∀ q ∈ ch, decode kr_153.2.2.2.2.1 q.1 = .ok q.2 := by
  show ∀ ch ∈ kc_153, ∀ q ∈ ch, decode cX11_kept q.1 = .ok q.2
  rw [kx_153]
  exact (k_decL_ok kd_153_0)
theorem ke_153 : k_ents kr_153.2.2.2.1.cls kr_153.2.1 [[486], [1066, 1067, 1068]] = true := by decide +kernel
theorem ko_153 : k_recP kr_153 := k_rec_ok k_okm kd_153 ke_153 (by decide +kernel)
theorem kd_154_0 : k_decL cX11_route ((kc_154.drop 0).take 8) = true := by decide +kernel
theorem kx_154 : kc_154 = (kc_154.drop 0).take 8 := rfl
theorem kd_154 : ∀ ch ∈ kr_154.1, ∀ q ∈ ch, decode kr_154.2.2.2.2.1 q.1 = .ok q.2 := by
  show ∀ ch ∈ kc_154, ∀ q ∈ ch, decode cX11_route q.1 = .ok q.2
  rw [kx_154]
  exact (k_decL_ok kd_154_0)
theorem ke_154 : k_ents kr_154.2.2.2.1.cls kr_154.2.1 [[486], [488], [372], [283], [865, 686, 687], [1074, 1076, 34], [417]] = true := by decide +kernel
theorem ko_154 : k_recP kr_154 := k_rec_ok k_okm kd_154 ke_154 (by decide +kernel)
theorem kd_155_0 : k_decL cX11_bearer ((kc_155.drop 0).take 8) = true := by decide +kernel
theorem kx_155 : kc_155 = (kc_155.drop 0).take 8 := rfl
theorem kd_155 : ∀ ch ∈ kr_155.1, ∀ q ∈ ch, decode kr_155.2.2.2.2.1 q.1 = .ok q.2 := by
  show ∀ ch ∈ kc_155, ∀ q ∈ ch, decode cX11_bearer q.1 = .ok q.2
  rw [kx_155]
  exact (k_decL_ok kd_155_0)
theorem ke_155 : k_ents kr_155.2.2.2.1.cls kr_155.2.1 [[486], [488], [372], [283], [1074, 1076, 34], [417]] = true := by decide +kernel
theorem ko_155 : k_recP kr_155 := k_rec_ok k_okm kd_155 ke_155 (by decide +kernel)
theorem kd_156_0 : k_decL cX11_errand ((kc_156.drop 0).take 8) = true := by decide +kernel
theorem kx_156 : kc_156 = (kc_156.drop 0).take 8 := rfl
theorem kd_156 : ∀ ch ∈ kr_156.1, ∀ q ∈ ch, decode kr_156.2.2.2.2.1 q.1 = .ok q.2 := by
  show ∀ ch ∈ kc_156, ∀ q ∈ ch, decode cX11_errand q.1 = .ok q.2
  rw [kx_156]
  exact (k_decL_ok kd_156_0)
theorem ke_156 : k_ents kr_156.2.2.2.1.cls kr_156.2.1 [[484], [486], [489], [170], [528, 530, 0], [1124, 1125, 1126]] = true := by decide +kernel
theorem ko_156 : k_recP kr_156 := k_rec_ok k_okm kd_156 ke_156 (by decide +kernel)
theorem kd_157_0 : k_decL cX11_along ((kc_157.drop 0).take 8) = true := by decide +kernel
theorem kx_157 : kc_157 = (kc_157.drop 0).take 8 := rfl
theorem kd_157 : ∀ ch ∈ kr_157.1, ∀ q ∈ ch, decode kr_157.2.2.2.2.1 q.1 = .ok q.2 := by
  show ∀ ch ∈ kc_157, ∀ q ∈ ch, decode cX11_along q.1 = .ok q.2
  rw [kx_157]
  exact (k_decL_ok kd_157_0)
theorem ke_157 : k_ents kr_157.2.2.2.1.cls kr_157.2.1 [[489], [443], [441]] = true := by decide +kernel
theorem ko_157 : k_recP kr_157 := k_rec_ok k_okm kd_157 ke_157 (by decide +kernel)
theorem kd_158_0 : k_decL cX11_seated ((kc_158.drop 0).take 8) = true := by decide +kernel
theorem kx_158 : kc_158 = (kc_158.drop 0).take 8 := rfl
theorem kd_158 : ∀ ch ∈ kr_158.1, ∀ q ∈ ch, decode kr_158.2.2.2.2.1 q.1 = .ok q.2 := by
  show ∀ ch ∈ kc_158, ∀ q ∈ ch, decode cX11_seated q.1 = .ok q.2
  rw [kx_158]
  exact (k_decL_ok kd_158_0)
theorem ke_158 : k_ents kr_158.2.2.2.1.cls kr_158.2.1 [[486], [490], [372], [291], [861, 650, 651]] = true := by decide +kernel
theorem ko_158 : k_recP kr_158 := k_rec_ok k_okm kd_158 ke_158 (by decide +kernel)
theorem kd_159_0 : k_decL cX11_standing ((kc_159.drop 0).take 8) = true := by decide +kernel
theorem kx_159 : kc_159 = (kc_159.drop 0).take 8 := rfl
theorem kd_159 : ∀ ch ∈ kr_159.1, ∀ q ∈ ch, decode kr_159.2.2.2.2.1 q.1 = .ok q.2 := by
  show ∀ ch ∈ kc_159, ∀ q ∈ ch, decode cX11_standing q.1 = .ok q.2
  rw [kx_159]
  exact (k_decL_ok kd_159_0)
theorem ke_159 : k_ents kr_159.2.2.2.1.cls kr_159.2.1 [[484], [486], [490], [170], [528, 530, 0], [372], [1191, 1192, 1193]] = true := by decide +kernel
theorem ko_159 : k_recP kr_159 := k_rec_ok k_okm kd_159 ke_159 (by decide +kernel)
theorem kd_160_0 : k_decL cX11_where ((kc_160.drop 0).take 8) = true := by decide +kernel
theorem kx_160 : kc_160 = (kc_160.drop 0).take 8 := rfl
theorem kd_160 : ∀ ch ∈ kr_160.1, ∀ q ∈ ch, decode kr_160.2.2.2.2.1 q.1 = .ok q.2 := by
  show ∀ ch ∈ kc_160, ∀ q ∈ ch, decode cX11_where q.1 = .ok q.2
  rw [kx_160]
  exact (k_decL_ok kd_160_0)
theorem ke_160 : k_ents kr_160.2.2.2.1.cls kr_160.2.1 [[486], [490], [465], [372], [861, 650, 651], [865, 686, 687], [463]] = true := by decide +kernel
theorem ko_160 : k_recP kr_160 := k_rec_ok k_okm kd_160 ke_160 (by decide +kernel)
theorem kd_161_0 : k_decL cX11_image ((kc_161.drop 0).take 8) = true := by decide +kernel
theorem kx_161 : kc_161 = (kc_161.drop 0).take 8 := rfl
theorem kd_161 : ∀ ch ∈ kr_161.1, ∀ q ∈ ch, decode kr_161.2.2.2.2.1 q.1 = .ok q.2 := by
  show ∀ ch ∈ kc_161, ∀ q ∈ ch, decode cX11_image q.1 = .ok q.2
  rw [kx_161]
  exact (k_decL_ok kd_161_0)
theorem ke_161 : k_ents kr_161.2.2.2.1.cls kr_161.2.1 [[486], [492], [493], [1232, 1233, 1234]] = true := by decide +kernel
theorem ko_161 : k_recP kr_161 := k_rec_ok k_okm kd_161 ke_161 (by decide +kernel)
theorem kd_162_0 : k_decL cX11_octet ((kc_162.drop 0).take 8) = true := by decide +kernel
theorem kx_162 : kc_162 = (kc_162.drop 0).take 8 := rfl
theorem kd_162 : ∀ ch ∈ kr_162.1, ∀ q ∈ ch, decode kr_162.2.2.2.2.1 q.1 = .ok q.2 := by
  show ∀ ch ∈ kc_162, ∀ q ∈ ch, decode cX11_octet q.1 = .ok q.2
  rw [kx_162]
  exact (k_decL_ok kd_162_0)
theorem ke_162 : k_ents kr_162.2.2.2.1.cls kr_162.2.1 [[492], [493]] = true := by decide +kernel
theorem ko_162 : k_recP kr_162 := k_rec_ok k_okm kd_162 ke_162 (by decide +kernel)
theorem kd_163_0 : k_decL cX11_on ((kc_163.drop 0).take 8) = true := by decide +kernel
theorem kx_163 : kc_163 = (kc_163.drop 0).take 8 := rfl
theorem kd_163 : ∀ ch ∈ kr_163.1, ∀ q ∈ ch, decode kr_163.2.2.2.2.1 q.1 = .ok q.2 := by
  show ∀ ch ∈ kc_163, ∀ q ∈ ch, decode cX11_on q.1 = .ok q.2
  rw [kx_163]
  exact (k_decL_ok kd_163_0)
theorem ke_163 : k_ents kr_163.2.2.2.1.cls kr_163.2.1 [[484], [486], [487], [170], [528, 530, 0], [396], [1248, 1249, 1250]] = true := by decide +kernel
theorem ko_163 : k_recP kr_163 := k_rec_ok k_okm kd_163 ke_163 (by decide +kernel)
theorem kd_164_0 : k_decL cX11_status ((kc_164.drop 0).take 8) = true := by decide +kernel
theorem kx_164 : kc_164 = (kc_164.drop 0).take 8 := rfl
theorem kd_164 : ∀ ch ∈ kr_164.1, ∀ q ∈ ch, decode kr_164.2.2.2.2.1 q.1 = .ok q.2 := by
  show ∀ ch ∈ kc_164, ∀ q ∈ ch, decode cX11_status q.1 = .ok q.2
  rw [kx_164]
  exact (k_decL_ok kd_164_0)
theorem ke_164 : k_ents kr_164.2.2.2.1.cls kr_164.2.1 [[491]] = true := by decide +kernel
theorem ko_164 : k_recP kr_164 := k_rec_ok k_okm kd_164 ke_164 (by decide +kernel)
theorem kd_165_0 : k_decL cX11_refuse ((kc_165.drop 0).take 8) = true := by decide +kernel
theorem kx_165 : kc_165 = (kc_165.drop 0).take 8 := rfl
theorem kd_165 : ∀ ch ∈ kr_165.1, ∀ q ∈ ch, decode kr_165.2.2.2.2.1 q.1 = .ok q.2 := by
  show ∀ ch ∈ kc_165, ∀ q ∈ ch, decode cX11_refuse q.1 = .ok q.2
  rw [kx_165]
  exact (k_decL_ok kd_165_0)
theorem ke_165 : k_ents kr_165.2.2.2.1.cls kr_165.2.1 [[491]] = true := by decide +kernel
theorem ko_165 : k_recP kr_165 := k_rec_ok k_okm kd_165 ke_165 (by decide +kernel)
theorem kd_167_0 : k_decL cX11_canTravel ((kc_167.drop 0).take 8) = true := by decide +kernel
theorem kx_167 : kc_167 = (kc_167.drop 0).take 8 := rfl
theorem kd_167 : ∀ ch ∈ kr_167.1, ∀ q ∈ ch, decode kr_167.2.2.2.2.1 q.1 = .ok q.2 := by
  show ∀ ch ∈ kc_167, ∀ q ∈ ch, decode cX11_canTravel q.1 = .ok q.2
  rw [kx_167]
  exact (k_decL_ok kd_167_0)
theorem ke_167 : k_ents kr_167.2.2.2.1.cls kr_167.2.1 [[486], [372], [861, 650, 651], [865, 686, 687]] = true := by decide +kernel
theorem ko_167 : k_recP kr_167 := k_rec_ok k_okm kd_167 ke_167 (by decide +kernel)
theorem kd_171_0 : k_decL cX12_init ((kc_171.drop 0).take 8) = true := by decide +kernel
theorem kd_171_8 : k_decL cX12_init ((kc_171.drop 8).take 8) = true := by decide +kernel
theorem kd_171_16 : k_decL cX12_init ((kc_171.drop 16).take 8) = true := by decide +kernel
theorem kd_171_24 : k_decL cX12_init ((kc_171.drop 24).take 8) = true := by decide +kernel
theorem kd_171_32 : k_decL cX12_init ((kc_171.drop 32).take 8) = true := by decide +kernel
theorem kx_171 : kc_171 = (kc_171.drop 0).take 8 ++ ((kc_171.drop 8).take 8 ++ ((kc_171.drop 16).take 8 ++ ((kc_171.drop 24).take 8 ++ ((kc_171.drop 32).take 8)))) := rfl
theorem kd_171 : ∀ ch ∈ kr_171.1, ∀ q ∈ ch, decode kr_171.2.2.2.2.1 q.1 = .ok q.2 := by
  show ∀ ch ∈ kc_171, ∀ q ∈ ch, decode cX12_init q.1 = .ok q.2
  rw [kx_171]
  exact (k_dec_app (k_decL_ok kd_171_0) (k_dec_app (k_decL_ok kd_171_8) (k_dec_app (k_decL_ok kd_171_16) (k_dec_app (k_decL_ok kd_171_24) (k_decL_ok kd_171_32)))))
theorem ke_171 : k_ents kr_171.2.2.2.1.cls kr_171.2.1 [[1272, 155, 156], [1273], [1274], [1275], [1276], [1277], [1278], [1279], [1280], [1281], [1282], [1283], [1284], [1285], [1286], [1287], [1288], [1289], [1290], [1291], [1292], [1293], [1294], [1295], [1296], [1297], [1298], [1299], [1300], [1301], [1302], [1303], [1304], [1305], [1306], [1307], [1308], [1309], [1310], [1311], [1312], [1313], [1314], [1315], [1316], [1317], [1318], [1319], [1320], [1321], [1322], [1323], [1324], [1325], [1326], [1327], [1328], [1329], [1330], [1331], [1332], [1333], [1334], [1335], [1336], [1337], [1338], [1339], [1340], [1341], [1342], [1343], [1344], [1345], [1346], [1347], [1348], [1349], [1350], [1351], [1352]] = true := by decide +kernel
theorem ko_171 : k_recP kr_171 := k_rec_ok k_okm kd_171 ke_171 (by decide +kernel)
