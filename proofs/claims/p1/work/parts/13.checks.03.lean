theorem kd_172_0 : k_decL cX12_is ((kc_172.drop 0).take 8) = true := by decide +kernel
theorem kx_172 : kc_172 = (kc_172.drop 0).take 8 := rfl
theorem kd_172 : ∀ ch ∈ kr_172.1, ∀ q ∈ ch, decode kr_172.2.2.2.2.1 q.1 = .ok q.2 := by
  show ∀ ch ∈ kc_172, ∀ q ∈ ch, decode cX12_is q.1 = .ok q.2
  rw [kx_172]
  exact (k_decL_ok kd_172_0)
theorem ke_172 : k_ents kr_172.2.2.2.1.cls kr_172.2.1 [] = true := by decide +kernel
theorem ko_172 : k_recP kr_172 := k_rec_ok k_okm kd_172 ke_172 (by decide +kernel)
theorem kd_173_0 : k_decL cX12_put ((kc_173.drop 0).take 8) = true := by decide +kernel
theorem kx_173 : kc_173 = (kc_173.drop 0).take 8 := rfl
theorem kd_173 : ∀ ch ∈ kr_173.1, ∀ q ∈ ch, decode kr_173.2.2.2.2.1 q.1 = .ok q.2 := by
  show ∀ ch ∈ kc_173, ∀ q ∈ ch, decode cX12_put q.1 = .ok q.2
  rw [kx_173]
  exact (k_decL_ok kd_173_0)
theorem ke_173 : k_ents kr_173.2.2.2.1.cls kr_173.2.1 [[1273], [1274]] = true := by decide +kernel
theorem ko_173 : k_recP kr_173 := k_rec_ok k_okm kd_173 ke_173 (by decide +kernel)
theorem kd_174_0 : k_decL cX12_feed ((kc_174.drop 0).take 8) = true := by decide +kernel
theorem kx_174 : kc_174 = (kc_174.drop 0).take 8 := rfl
theorem kd_174 : ∀ ch ∈ kr_174.1, ∀ q ∈ ch, decode kr_174.2.2.2.2.1 q.1 = .ok q.2 := by
  show ∀ ch ∈ kc_174, ∀ q ∈ ch, decode cX12_feed q.1 = .ok q.2
  rw [kx_174]
  exact (k_decL_ok kd_174_0)
theorem ke_174 : k_ents kr_174.2.2.2.1.cls kr_174.2.1 [[1274], [1520, 1522, 49], [1524, 1526, 50]] = true := by decide +kernel
theorem ko_174 : k_recP kr_174 := k_rec_ok k_okm kd_174 ke_174 (by decide +kernel)
theorem kd_175_0 : k_decL cX12_end ((kc_175.drop 0).take 8) = true := by decide +kernel
theorem kx_175 : kc_175 = (kc_175.drop 0).take 8 := rfl
theorem kd_175 : ∀ ch ∈ kr_175.1, ∀ q ∈ ch, decode kr_175.2.2.2.2.1 q.1 = .ok q.2 := by
  show ∀ ch ∈ kc_175, ∀ q ∈ ch, decode cX12_end q.1 = .ok q.2
  rw [kx_175]
  exact (k_decL_ok kd_175_0)
theorem ke_175 : k_ents kr_175.2.2.2.1.cls kr_175.2.1 [[1274], [1520, 1522, 49]] = true := by decide +kernel
theorem ko_175 : k_recP kr_175 := k_rec_ok k_okm kd_175 ke_175 (by decide +kernel)
theorem kd_180_0 : k_decL cX12_ahead ((kc_180.drop 0).take 8) = true := by decide +kernel
theorem kd_180_8 : k_decL cX12_ahead ((kc_180.drop 8).take 8) = true := by decide +kernel
theorem kd_180_16 : k_decL cX12_ahead ((kc_180.drop 16).take 8) = true := by decide +kernel
theorem kd_180_24 : k_decL cX12_ahead ((kc_180.drop 24).take 8) = true := by decide +kernel
theorem kx_180 : kc_180 = (kc_180.drop 0).take 8 ++ ((kc_180.drop 8).take 8 ++ ((kc_180.drop 16).take 8 ++ ((kc_180.drop 24).take 8))) := rfl
theorem kd_180 : ∀ ch ∈ kr_180.1, ∀ q ∈ ch, decode kr_180.2.2.2.2.1 q.1 = .ok q.2 := by
  show ∀ ch ∈ kc_180, ∀ q ∈ ch, decode cX12_ahead q.1 = .ok q.2
  rw [kx_180]
  exact (k_dec_app (k_decL_ok kd_180_0) (k_dec_app (k_decL_ok kd_180_8) (k_dec_app (k_decL_ok kd_180_16) (k_decL_ok kd_180_24))))
theorem ke_180 : k_ents kr_180.2.2.2.1.cls kr_180.2.1 [[1273], [1275], [1276], [1277], [1278], [1279], [1280], [1281], [1286], [1546]] = true := by decide +kernel
theorem ko_180 : k_recP kr_180 := k_rec_ok k_okm kd_180 ke_180 (by decide +kernel)
theorem kd_185_0 : k_decL cX12_manyOf ((kc_185.drop 0).take 8) = true := by decide +kernel
theorem kx_185 : kc_185 = (kc_185.drop 0).take 8 := rfl
theorem kd_185 : ∀ ch ∈ kr_185.1, ∀ q ∈ ch, decode kr_185.2.2.2.2.1 q.1 = .ok q.2 := by
  show ∀ ch ∈ kc_185, ∀ q ∈ ch, decode cX12_manyOf q.1 = .ok q.2
  rw [kx_185]
  exact (k_decL_ok kd_185_0)
theorem ke_185 : k_ents kr_185.2.2.2.1.cls kr_185.2.1 [[1288], [1292]] = true := by decide +kernel
theorem ko_185 : k_recP kr_185 := k_rec_ok k_okm kd_185 ke_185 (by decide +kernel)
theorem kd_216_0 : k_decL cX12_town ((kc_216.drop 0).take 8) = true := by decide +kernel
theorem kd_216_8 : k_decL cX12_town ((kc_216.drop 8).take 8) = true := by decide +kernel
theorem kx_216 : kc_216 = (kc_216.drop 0).take 8 ++ ((kc_216.drop 8).take 8) := rfl
theorem kd_216 : ∀ ch ∈ kr_216.1, ∀ q ∈ ch, decode kr_216.2.2.2.2.1 q.1 = .ok q.2 := by
  show ∀ ch ∈ kc_216, ∀ q ∈ ch, decode cX12_town q.1 = .ok q.2
  rw [kx_216]
  exact (k_dec_app (k_decL_ok kd_216_0) (k_decL_ok kd_216_8))
theorem ke_216 : k_ents kr_216.2.2.2.1.cls kr_216.2.1 [[1274], [1275], [1276], [1278], [1282], [1283], [1284], [1285], [1287], [1288], [1292], [1298], [1300], [1302], [1303], [1308], [1309], [1520, 1522, 49], [1536, 1538, 51], [1720, 1722, 87]] = true := by decide +kernel
theorem ko_216 : k_recP kr_216 := k_rec_ok k_okm kd_216 ke_216 (by decide +kernel)
theorem kd_217_0 : k_decL cX12_fault ((kc_217.drop 0).take 8) = true := by decide +kernel
theorem kx_217 : kc_217 = (kc_217.drop 0).take 8 := rfl
theorem kd_217 : ∀ ch ∈ kr_217.1, ∀ q ∈ ch, decode kr_217.2.2.2.2.1 q.1 = .ok q.2 := by
  show ∀ ch ∈ kc_217, ∀ q ∈ ch, decode cX12_fault q.1 = .ok q.2
  rw [kx_217]
  exact (k_decL_ok kd_217_0)
theorem ke_217 : k_ents kr_217.2.2.2.1.cls kr_217.2.1 [[1284], [1285]] = true := by decide +kernel
theorem ko_217 : k_recP kr_217 := k_rec_ok k_okm kd_217 ke_217 (by decide +kernel)
theorem kd_218_0 : k_decL cX12_refuses ((kc_218.drop 0).take 8) = true := by decide +kernel
theorem kx_218 : kc_218 = (kc_218.drop 0).take 8 := rfl
theorem kd_218 : ∀ ch ∈ kr_218.1, ∀ q ∈ ch, decode kr_218.2.2.2.2.1 q.1 = .ok q.2 := by
  show ∀ ch ∈ kc_218, ∀ q ∈ ch, decode cX12_refuses q.1 = .ok q.2
  rw [kx_218]
  exact (k_decL_ok kd_218_0)
theorem ke_218 : k_ents kr_218.2.2.2.1.cls kr_218.2.1 [[1320]] = true := by decide +kernel
theorem ko_218 : k_recP kr_218 := k_rec_ok k_okm kd_218 ke_218 (by decide +kernel)
theorem kd_219_0 : k_decL cX12_status ((kc_219.drop 0).take 8) = true := by decide +kernel
theorem kx_219 : kc_219 = (kc_219.drop 0).take 8 := rfl
theorem kd_219 : ∀ ch ∈ kr_219.1, ∀ q ∈ ch, decode kr_219.2.2.2.2.1 q.1 = .ok q.2 := by
  show ∀ ch ∈ kc_219, ∀ q ∈ ch, decode cX12_status q.1 = .ok q.2
  rw [kx_219]
  exact (k_decL_ok kd_219_0)
theorem ke_219 : k_ents kr_219.2.2.2.1.cls kr_219.2.1 [[1320], [1623, 1624]] = true := by decide +kernel
theorem ko_219 : k_recP kr_219 := k_rec_ok k_okm kd_219 ke_219 (by decide +kernel)
theorem kd_220_0 : k_decL cX12_isRoom ((kc_220.drop 0).take 8) = true := by decide +kernel
theorem kx_220 : kc_220 = (kc_220.drop 0).take 8 := rfl
theorem kd_220 : ∀ ch ∈ kr_220.1, ∀ q ∈ ch, decode kr_220.2.2.2.2.1 q.1 = .ok q.2 := by
  show ∀ ch ∈ kc_220, ∀ q ∈ ch, decode cX12_isRoom q.1 = .ok q.2
  rw [kx_220]
  exact (k_decL_ok kd_220_0)
theorem ke_220 : k_ents kr_220.2.2.2.1.cls kr_220.2.1 [[1287], [1288]] = true := by decide +kernel
theorem ko_220 : k_recP kr_220 := k_rec_ok k_okm kd_220 ke_220 (by decide +kernel)
theorem kd_221_0 : k_decL cX12_isPerson ((kc_221.drop 0).take 8) = true := by decide +kernel
theorem kx_221 : kc_221 = (kc_221.drop 0).take 8 := rfl
theorem kd_221 : ∀ ch ∈ kr_221.1, ∀ q ∈ ch, decode kr_221.2.2.2.2.1 q.1 = .ok q.2 := by
  show ∀ ch ∈ kc_221, ∀ q ∈ ch, decode cX12_isPerson q.1 = .ok q.2
  rw [kx_221]
  exact (k_decL_ok kd_221_0)
theorem ke_221 : k_ents kr_221.2.2.2.1.cls kr_221.2.1 [[1287], [1292]] = true := by decide +kernel
theorem ko_221 : k_recP kr_221 := k_rec_ok k_okm kd_221 ke_221 (by decide +kernel)
theorem kd_224_0 : k_decL cX12_copies ((kc_224.drop 0).take 8) = true := by decide +kernel
theorem kd_224_8 : k_decL cX12_copies ((kc_224.drop 8).take 8) = true := by decide +kernel
theorem kx_224 : kc_224 = (kc_224.drop 0).take 8 ++ ((kc_224.drop 8).take 8) := rfl
theorem kd_224 : ∀ ch ∈ kr_224.1, ∀ q ∈ ch, decode kr_224.2.2.2.2.1 q.1 = .ok q.2 := by
  show ∀ ch ∈ kc_224, ∀ q ∈ ch, decode cX12_copies q.1 = .ok q.2
  rw [kx_224]
  exact (k_dec_app (k_decL_ok kd_224_0) (k_decL_ok kd_224_8))
theorem ke_224 : k_ents kr_224.2.2.2.1.cls kr_224.2.1 [[1321], [1322], [1323], [1324], [1325], [1326], [1327], [1328], [1329], [1330]] = true := by decide +kernel
theorem ko_224 : k_recP kr_224 := k_rec_ok k_okm kd_224 ke_224 (by decide +kernel)
theorem kd_225_0 : k_decL cX12_begin ((kc_225.drop 0).take 8) = true := by decide +kernel
theorem kx_225 : kc_225 = (kc_225.drop 0).take 8 := rfl
theorem kd_225 : ∀ ch ∈ kr_225.1, ∀ q ∈ ch, decode kr_225.2.2.2.2.1 q.1 = .ok q.2 := by
  show ∀ ch ∈ kc_225, ∀ q ∈ ch, decode cX12_begin q.1 = .ok q.2
  rw [kx_225]
  exact (k_decL_ok kd_225_0)
theorem ke_225 : k_ents kr_225.2.2.2.1.cls kr_225.2.1 [[1287], [1296], [1321], [1322], [1323], [1324], [1325], [1326], [1332], [1341], [1343]] = true := by decide +kernel
theorem ko_225 : k_recP kr_225 := k_rec_ok k_okm kd_225 ke_225 (by decide +kernel)
theorem kd_226_0 : k_decL cX12_ring ((kc_226.drop 0).take 8) = true := by decide +kernel
theorem kx_226 : kc_226 = (kc_226.drop 0).take 8 := rfl
theorem kd_226 : ∀ ch ∈ kr_226.1, ∀ q ∈ ch, decode kr_226.2.2.2.2.1 q.1 = .ok q.2 := by
  show ∀ ch ∈ kc_226, ∀ q ∈ ch, decode cX12_ring q.1 = .ok q.2
  rw [kx_226]
  exact (k_decL_ok kd_226_0)
theorem ke_226 : k_ents kr_226.2.2.2.1.cls kr_226.2.1 [[1331]] = true := by decide +kernel
theorem ko_226 : k_recP kr_226 := k_rec_ok k_okm kd_226 ke_226 (by decide +kernel)
theorem kd_227_0 : k_decL cX12_keeps ((kc_227.drop 0).take 8) = true := by decide +kernel
theorem kx_227 : kc_227 = (kc_227.drop 0).take 8 := rfl
theorem kd_227 : ∀ ch ∈ kr_227.1, ∀ q ∈ ch, decode kr_227.2.2.2.2.1 q.1 = .ok q.2 := by
  show ∀ ch ∈ kc_227, ∀ q ∈ ch, decode cX12_keeps q.1 = .ok q.2
  rw [kx_227]
  exact (k_decL_ok kd_227_0)
theorem ke_227 : k_ents kr_227.2.2.2.1.cls kr_227.2.1 [[1331], [1332], [1736, 1738, 88], [1740, 1742, 89]] = true := by decide +kernel
theorem ko_227 : k_recP kr_227 := k_rec_ok k_okm kd_227 ke_227 (by decide +kernel)
theorem kd_228_0 : k_decL cX12_undo ((kc_228.drop 0).take 8) = true := by decide +kernel
theorem kx_228 : kc_228 = (kc_228.drop 0).take 8 := rfl
theorem kd_228 : ∀ ch ∈ kr_228.1, ∀ q ∈ ch, decode kr_228.2.2.2.2.1 q.1 = .ok q.2 := by
  show ∀ ch ∈ kc_228, ∀ q ∈ ch, decode cX12_undo q.1 = .ok q.2
  rw [kx_228]
  exact (k_decL_ok kd_228_0)
theorem ke_228 : k_ents kr_228.2.2.2.1.cls kr_228.2.1 [[1332], [1520, 1522, 49], [1736, 1738, 88], [1740, 1742, 89]] = true := by decide +kernel
theorem ko_228 : k_recP kr_228 := k_rec_ok k_okm kd_228 ke_228 (by decide +kernel)
theorem kd_246_0 : k_decL cX12_has ((kc_246.drop 0).take 8) = true := by decide +kernel
theorem kd_246_8 : k_decL cX12_has ((kc_246.drop 8).take 8) = true := by decide +kernel
theorem kd_246_16 : k_decL cX12_has ((kc_246.drop 16).take 8) = true := by decide +kernel
theorem kx_246 : kc_246 = (kc_246.drop 0).take 8 ++ ((kc_246.drop 8).take 8 ++ ((kc_246.drop 16).take 8)) := rfl
theorem kd_246 : ∀ ch ∈ kr_246.1, ∀ q ∈ ch, decode kr_246.2.2.2.2.1 q.1 = .ok q.2 := by
  show ∀ ch ∈ kc_246, ∀ q ∈ ch, decode cX12_has q.1 = .ok q.2
  rw [kx_246]
  exact (k_dec_app (k_decL_ok kd_246_0) (k_dec_app (k_decL_ok kd_246_8) (k_decL_ok kd_246_16)))
theorem ke_246 : k_ents kr_246.2.2.2.1.cls kr_246.2.1 [[1287], [1288], [1292], [1302], [1303], [1323], [1324], [1325], [1326], [1332], [1333]] = true := by decide +kernel
theorem ko_246 : k_recP kr_246 := k_rec_ok k_okm kd_246 ke_246 (by decide +kernel)
theorem kd_247_0 : k_decL cX12_letter ((kc_247.drop 0).take 8) = true := by decide +kernel
theorem kx_247 : kc_247 = (kc_247.drop 0).take 8 := rfl
theorem kd_247 : ∀ ch ∈ kr_247.1, ∀ q ∈ ch, decode kr_247.2.2.2.2.1 q.1 = .ok q.2 := by
  show ∀ ch ∈ kc_247, ∀ q ∈ ch, decode cX12_letter q.1 = .ok q.2
  rw [kx_247]
  exact (k_decL_ok kd_247_0)
theorem ke_247 : k_ents kr_247.2.2.2.1.cls kr_247.2.1 [[1287], [1607, 1609, 61], [1623, 1624], [1764]] = true := by decide +kernel
theorem ko_247 : k_recP kr_247 := k_rec_ok k_okm kd_247 ke_247 (by decide +kernel)
