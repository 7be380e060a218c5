theorem kd_225_0 : k_decL cX12_begin ((kc_225.drop 0).take 8) = true := by decide +kernel
theorem kx_225 : kc_225 = (kc_225.drop 0).take 8 := rfl
theorem kd_225 : ∀ ch ∈ kr_225.1, ∀ q ∈ ch, decode kr_225.2.2.2.2.1 q.1 = .ok q.2 := by
  show ∀ ch ∈ kc_225, ∀ q ∈ ch, decode cX12_begin q.1 = .ok q.2
  rw [kx_225]
  exact (k_decL_ok kd_225_0)
theorem ke_225 : k_ents kr_225.2.2.2.1.cls kr_225.2.1 [[1287], [1296], [1321], [1322], [1323], [1324], [1325], [1326], [1332], [1341], [1343]] = true := by decide +kernel
theorem ko_225 : k_recP kr_225 := k_rec_ok k_okm kd_225 ke_225 (by decide +kernel)
theorem kd_226_0 : k_decL cX12_ring ((kc_226.drop 0).take 8) = true := by decide +kernel
theorem kx_226 : kc_226 = (kc_226.drop 0).take 8 := rfl
theorem kd_226 : ∀ ch ∈ kr_226.1, ∀ q ∈ ch, decode kr_226.2.2.2.2.1 q.1 = .ok q.2 := by
  show ∀ ch ∈ kc_226, ∀ q ∈ ch, decode cX12_ring q.1 = .ok q.2
  rw [kx_226]
  exact (k_decL_ok kd_226_0)
theorem ke_226 : k_ents kr_226.2.2.2.1.cls kr_226.2.1 [[1331]] = true := by decide +kernel
theorem ko_226 : k_recP kr_226 := k_rec_ok k_okm kd_226 ke_226 (by decide +kernel)
theorem kd_227_0 : k_decL cX12_keeps ((kc_227.drop 0).take 8) = true := by decide +kernel
theorem kx_227 : kc_227 = (kc_227.drop 0).take 8 := rfl
theorem kd_227 : ∀ ch ∈ kr_227.1, ∀ q ∈ ch, decode kr_227.2.2.2.2.1 q.1 = .ok q.2 := by
  show ∀ ch ∈ kc_227, ∀ q ∈ ch, decode cX12_keeps q.1 = .ok q.2
  rw [kx_227]
  exact (k_decL_ok kd_227_0)
theorem ke_227 : k_ents kr_227.2.2.2.1.cls kr_227.2.1 [[1331], [1332], [1736, 1738, 88], [1740, 1742, 89]] = true := by decide +kernel
theorem ko_227 : k_recP kr_227 := k_rec_ok k_okm kd_227 ke_227 (by decide +kernel)
theorem kd_228_0 : k_decL cX12_undo ((kc_228.drop 0).take 8) = true := by decide +kernel
theorem kx_228 : kc_228 = (kc_228.drop 0).take 8 := rfl
theorem kd_228 : ∀ ch ∈ kr_228.1, ∀ q ∈ ch, decode kr_228.2.2.2.2.1 q.1 = .ok q.2 := by
  show ∀ ch ∈ kc_228, ∀ q ∈ ch, decode cX12_undo q.1 = .ok q.2
  rw [kx_228]
  exact (k_decL_ok kd_228_0)
theorem ke_228 : k_ents kr_228.2.2.2.1.cls kr_228.2.1 [[1332], [1520, 1522, 49], [1736, 1738, 88], [1740, 1742, 89]] = true := by decide +kernel
theorem ko_228 : k_recP kr_228 := k_rec_ok k_okm kd_228 ke_228 (by decide +kernel)
theorem kd_229_0 : k_decL cX12_part ((kc_229.drop 0).take 8) = true := by decide +kernel
theorem kd_229_8 : k_decL cX12_part ((kc_229.drop 8).take 8) = true := by decide +kernel
theorem kx_229 : kc_229 = (kc_229.drop 0).take 8 ++ ((kc_229.drop 8).take 8) := rfl
theorem kd_229 : ∀ ch ∈ kr_229.1, ∀ q ∈ ch, decode kr_229.2.2.2.2.1 q.1 = .ok q.2 := by
  show ∀ ch ∈ kc_229, ∀ q ∈ ch, decode cX12_part q.1 = .ok q.2
  rw [kx_229]
  exact (k_dec_app (k_decL_ok kd_229_0) (k_decL_ok kd_229_8))
theorem ke_229 : k_ents kr_229.2.2.2.1.cls kr_229.2.1 [[1287], [1293], [1294], [1295], [1324], [1335], [1336], [1337]] = true := by decide +kernel
theorem ko_229 : k_recP kr_229 := k_rec_ok k_okm kd_229 ke_229 (by decide +kernel)
theorem kd_230_0 : k_decL cX12_held ((kc_230.drop 0).take 8) = true := by decide +kernel
theorem kx_230 : kc_230 = (kc_230.drop 0).take 8 := rfl
theorem kd_230 : ∀ ch ∈ kr_230.1, ∀ q ∈ ch, decode kr_230.2.2.2.2.1 q.1 = .ok q.2 := by
  show ∀ ch ∈ kc_230, ∀ q ∈ ch, decode cX12_held q.1 = .ok q.2
  rw [kx_230]
  exact (k_decL_ok kd_230_0)
theorem ke_230 : k_ents kr_230.2.2.2.1.cls kr_230.2.1 [[1847], [1848]] = true := by decide +kernel
theorem ko_230 : k_recP kr_230 := k_rec_ok k_okm kd_230 ke_230 (by decide +kernel)
theorem kd_231_0 : k_decL cX12_floor ((kc_231.drop 0).take 8) = true := by decide +kernel
theorem kx_231 : kc_231 = (kc_231.drop 0).take 8 := rfl
theorem kd_231 : ∀ ch ∈ kr_231.1, ∀ q ∈ ch, decode kr_231.2.2.2.2.1 q.1 = .ok q.2 := by
  show ∀ ch ∈ kc_231, ∀ q ∈ ch, decode cX12_floor q.1 = .ok q.2
  rw [kx_231]
  exact (k_decL_ok kd_231_0)
theorem ke_231 : k_ents kr_231.2.2.2.1.cls kr_231.2.1 [] = true := by decide +kernel
theorem ko_231 : k_recP kr_231 := k_rec_ok k_okm kd_231 ke_231 (by decide +kernel)
theorem kd_232_0 : k_decL cX12_two ((kc_232.drop 0).take 8) = true := by decide +kernel
theorem kd_232_8 : k_decL cX12_two ((kc_232.drop 8).take 8) = true := by decide +kernel
theorem kx_232 : kc_232 = (kc_232.drop 0).take 8 ++ ((kc_232.drop 8).take 8) := rfl
theorem kd_232 : ∀ ch ∈ kr_232.1, ∀ q ∈ ch, decode kr_232.2.2.2.2.1 q.1 = .ok q.2 := by
  show ∀ ch ∈ kc_232, ∀ q ∈ ch, decode cX12_two q.1 = .ok q.2
  rw [kx_232]
  exact (k_dec_app (k_decL_ok kd_232_0) (k_decL_ok kd_232_8))
theorem ke_232 : k_ents kr_232.2.2.2.1.cls kr_232.2.1 [[1844, 1845], [1849, 1850]] = true := by decide +kernel
theorem ko_232 : k_recP kr_232 := k_rec_ok k_okm kd_232 ke_232 (by decide +kernel)
theorem kd_233_0 : k_decL cX12_reckons ((kc_233.drop 0).take 8) = true := by decide +kernel
theorem kd_233_8 : k_decL cX12_reckons ((kc_233.drop 8).take 8) = true := by decide +kernel
theorem kx_233 : kc_233 = (kc_233.drop 0).take 8 ++ ((kc_233.drop 8).take 8) := rfl
theorem kd_233 : ∀ ch ∈ kr_233.1, ∀ q ∈ ch, decode kr_233.2.2.2.2.1 q.1 = .ok q.2 := by
  show ∀ ch ∈ kc_233, ∀ q ∈ ch, decode cX12_reckons q.1 = .ok q.2
  rw [kx_233]
  exact (k_dec_app (k_decL_ok kd_233_0) (k_decL_ok kd_233_8))
theorem ke_233 : k_ents kr_233.2.2.2.1.cls kr_233.2.1 [[1287], [1304], [1305], [1334], [1837, 1839, 106], [1841, 1842]] = true := by decide +kernel
theorem ko_233 : k_recP kr_233 := k_rec_ok k_okm kd_233 ke_233 (by decide +kernel)
theorem kd_234_0 : k_decL cX12_between ((kc_234.drop 0).take 8) = true := by decide +kernel
theorem kx_234 : kc_234 = (kc_234.drop 0).take 8 := rfl
theorem kd_234 : ∀ ch ∈ kr_234.1, ∀ q ∈ ch, decode kr_234.2.2.2.2.1 q.1 = .ok q.2 := by
  show ∀ ch ∈ kc_234, ∀ q ∈ ch, decode cX12_between q.1 = .ok q.2
  rw [kx_234]
  exact (k_decL_ok kd_234_0)
theorem ke_234 : k_ents kr_234.2.2.2.1.cls kr_234.2.1 [[1855]] = true := by decide +kernel
theorem ko_234 : k_recP kr_234 := k_rec_ok k_okm kd_234 ke_234 (by decide +kernel)
theorem kd_235_0 : k_decL cX12_carrying ((kc_235.drop 0).take 8) = true := by decide +kernel
theorem kx_235 : kc_235 = (kc_235.drop 0).take 8 := rfl
theorem kd_235 : ∀ ch ∈ kr_235.1, ∀ q ∈ ch, decode kr_235.2.2.2.2.1 q.1 = .ok q.2 := by
  show ∀ ch ∈ kc_235, ∀ q ∈ ch, decode cX12_carrying q.1 = .ok q.2
  rw [kx_235]
  exact (k_decL_ok kd_235_0)
theorem ke_235 : k_ents kr_235.2.2.2.1.cls kr_235.2.1 [[1287], [1298], [1299], [1335], [1336], [1337], [1833, 1835, 105], [1852, 1853]] = true := by decide +kernel
theorem ko_235 : k_recP kr_235 := k_rec_ok k_okm kd_235 ke_235 (by decide +kernel)
theorem kd_236_0 : k_decL cX12_aching ((kc_236.drop 0).take 8) = true := by decide +kernel
theorem kx_236 : kc_236 = (kc_236.drop 0).take 8 := rfl
theorem kd_236 : ∀ ch ∈ kr_236.1, ∀ q ∈ ch, decode kr_236.2.2.2.2.1 q.1 = .ok q.2 := by
  show ∀ ch ∈ kc_236, ∀ q ∈ ch, decode cX12_aching q.1 = .ok q.2
  rw [kx_236]
  exact (k_decL_ok kd_236_0)
theorem ke_236 : k_ents kr_236.2.2.2.1.cls kr_236.2.1 [[1287], [1300], [1301], [1335], [1336], [1337], [1833, 1835, 105], [1852, 1853]] = true := by decide +kernel
theorem ko_236 : k_recP kr_236 := k_rec_ok k_okm kd_236 ke_236 (by decide +kernel)
theorem kd_237_0 : k_decL cX12_wideOf ((kc_237.drop 0).take 8) = true := by decide +kernel
theorem kx_237 : kc_237 = (kc_237.drop 0).take 8 := rfl
theorem kd_237 : ∀ ch ∈ kr_237.1, ∀ q ∈ ch, decode kr_237.2.2.2.2.1 q.1 = .ok q.2 := by
  show ∀ ch ∈ kc_237, ∀ q ∈ ch, decode cX12_wideOf q.1 = .ok q.2
  rw [kx_237]
  exact (k_decL_ok kd_237_0)
theorem ke_237 : k_ents kr_237.2.2.2.1.cls kr_237.2.1 [[1287], [1295]] = true := by decide +kernel
theorem ko_237 : k_recP kr_237 := k_rec_ok k_okm kd_237 ke_237 (by decide +kernel)
theorem kd_238_0 : k_decL cX12_joinedTo ((kc_238.drop 0).take 8) = true := by decide +kernel
theorem kx_238 : kc_238 = (kc_238.drop 0).take 8 := rfl
theorem kd_238 : ∀ ch ∈ kr_238.1, ∀ q ∈ ch, decode kr_238.2.2.2.2.1 q.1 = .ok q.2 := by
  show ∀ ch ∈ kc_238, ∀ q ∈ ch, decode cX12_joinedTo q.1 = .ok q.2
  rw [kx_238]
  exact (k_decL_ok kd_238_0)
theorem ke_238 : k_ents kr_238.2.2.2.1.cls kr_238.2.1 [[1287], [1297]] = true := by decide +kernel
theorem ko_238 : k_recP kr_238 := k_rec_ok k_okm kd_238 ke_238 (by decide +kernel)
theorem kd_239_0 : k_decL cX12_doorWide ((kc_239.drop 0).take 8) = true := by decide +kernel
theorem kx_239 : kc_239 = (kc_239.drop 0).take 8 := rfl
theorem kd_239 : ∀ ch ∈ kr_239.1, ∀ q ∈ ch, decode kr_239.2.2.2.2.1 q.1 = .ok q.2 := by
  show ∀ ch ∈ kc_239, ∀ q ∈ ch, decode cX12_doorWide q.1 = .ok q.2
  rw [kx_239]
  exact (k_decL_ok kd_239_0)
theorem ke_239 : k_ents kr_239.2.2.2.1.cls kr_239.2.1 [[1777, 1779, 95], [1756, 1758, 92]] = true := by decide +kernel
theorem ko_239 : k_recP kr_239 := k_rec_ok k_okm kd_239 ke_239 (by decide +kernel)
theorem kd_240_0 : k_decL cX12_wideIn ((kc_240.drop 0).take 8) = true := by decide +kernel
theorem kx_240 : kc_240 = (kc_240.drop 0).take 8 := rfl
theorem kd_240 : ∀ ch ∈ kr_240.1, ∀ q ∈ ch, decode kr_240.2.2.2.2.1 q.1 = .ok q.2 := by
  show ∀ ch ∈ kc_240, ∀ q ∈ ch, decode cX12_wideIn q.1 = .ok q.2
  rw [kx_240]
  exact (k_decL_ok kd_240_0)
theorem ke_240 : k_ents kr_240.2.2.2.1.cls kr_240.2.1 [[1287], [1292], [1322], [1777, 1779, 95]] = true := by decide +kernel
theorem ko_240 : k_recP kr_240 := k_rec_ok k_okm kd_240 ke_240 (by decide +kernel)
theorem kd_241_0 : k_decL cX12_isThrough ((kc_241.drop 0).take 8) = true := by decide +kernel
theorem kx_241 : kc_241 = (kc_241.drop 0).take 8 := rfl
theorem kd_241 : ∀ ch ∈ kr_241.1, ∀ q ∈ ch, decode kr_241.2.2.2.2.1 q.1 = .ok q.2 := by
  show ∀ ch ∈ kc_241, ∀ q ∈ ch, decode cX12_isThrough q.1 = .ok q.2
  rw [kx_241]
  exact (k_decL_ok kd_241_0)
theorem ke_241 : k_ents kr_241.2.2.2.1.cls kr_241.2.1 [[1287], [1289], [1797, 1799, 98]] = true := by decide +kernel
theorem ko_241 : k_recP kr_241 := k_rec_ok k_okm kd_241 ke_241 (by decide +kernel)
theorem kd_242_0 : k_decL cX12_isFitting ((kc_242.drop 0).take 8) = true := by decide +kernel
theorem kx_242 : kc_242 = (kc_242.drop 0).take 8 := rfl
theorem kd_242 : ∀ ch ∈ kr_242.1, ∀ q ∈ ch, decode kr_242.2.2.2.2.1 q.1 = .ok q.2 := by
  show ∀ ch ∈ kc_242, ∀ q ∈ ch, decode cX12_isFitting q.1 = .ok q.2
  rw [kx_242]
  exact (k_decL_ok kd_242_0)
theorem ke_242 : k_ents kr_242.2.2.2.1.cls kr_242.2.1 [[1287], [1290], [1777, 1779, 95], [1809, 1811, 100], [1773, 1775, 94]] = true := by decide +kernel
theorem ko_242 : k_recP kr_242 := k_rec_ok k_okm kd_242 ke_242 (by decide +kernel)
theorem kd_243_0 : k_decL cX12_wouldSit ((kc_243.drop 0).take 8) = true := by decide +kernel
theorem kx_243 : kc_243 = (kc_243.drop 0).take 8 := rfl
theorem kd_243 : ∀ ch ∈ kr_243.1, ∀ q ∈ ch, decode kr_243.2.2.2.2.1 q.1 = .ok q.2 := by
  show ∀ ch ∈ kc_243, ∀ q ∈ ch, decode cX12_wouldSit q.1 = .ok q.2
  rw [kx_243]
  exact (k_decL_ok kd_243_0)
theorem ke_243 : k_ents kr_243.2.2.2.1.cls kr_243.2.1 [[1322], [1323], [1756, 1758, 92]] = true := by decide +kernel
theorem ko_243 : k_recP kr_243 := k_rec_ok k_okm kd_243 ke_243 (by decide +kernel)
theorem kd_244_0 : k_decL cX12_isSitting ((kc_244.drop 0).take 8) = true := by decide +kernel
theorem kx_244 : kc_244 = (kc_244.drop 0).take 8 := rfl
theorem kd_244 : ∀ ch ∈ kr_244.1, ∀ q ∈ ch, decode kr_244.2.2.2.2.1 q.1 = .ok q.2 := by
  show ∀ ch ∈ kc_244, ∀ q ∈ ch, decode cX12_isSitting q.1 = .ok q.2
  rw [kx_244]
  exact (k_decL_ok kd_244_0)
theorem ke_244 : k_ents kr_244.2.2.2.1.cls kr_244.2.1 [[1321], [1752, 1754, 91]] = true := by decide +kernel
theorem ko_244 : k_recP kr_244 := k_rec_ok k_okm kd_244 ke_244 (by decide +kernel)
theorem kd_245_0 : k_decL cX12_wayOf ((kc_245.drop 0).take 8) = true := by decide +kernel
theorem kx_245 : kc_245 = (kc_245.drop 0).take 8 := rfl
theorem kd_245 : ∀ ch ∈ kr_245.1, ∀ q ∈ ch, decode kr_245.2.2.2.2.1 q.1 = .ok q.2 := by
  show ∀ ch ∈ kc_245, ∀ q ∈ ch, decode cX12_wayOf q.1 = .ok q.2
  rw [kx_245]
  exact (k_decL_ok kd_245_0)
theorem ke_245 : k_ents kr_245.2.2.2.1.cls kr_245.2.1 [[1287], [1291]] = true := by decide +kernel
theorem ko_245 : k_recP kr_245 := k_rec_ok k_okm kd_245 ke_245 (by decide +kernel)
theorem kd_246_0 : k_decL cX12_has ((kc_246.drop 0).take 8) = true := by decide +kernel
theorem kd_246_8 : k_decL cX12_has ((kc_246.drop 8).take 8) = true := by decide +kernel
theorem kd_246_16 : k_decL cX12_has ((kc_246.drop 16).take 8) = true := by decide +kernel
theorem kx_246 : kc_246 = (kc_246.drop 0).take 8 ++ ((kc_246.drop 8).take 8 ++ ((kc_246.drop 16).take 8)) := rfl
theorem kd_246 : ∀ ch ∈ kr_246.1, ∀ q ∈ ch, decode kr_246.2.2.2.2.1 q.1 = .ok q.2 := by
  show ∀ ch ∈ kc_246, ∀ q ∈ ch, decode cX12_has q.1 = .ok q.2
  rw [kx_246]
  exact (k_dec_app (k_decL_ok kd_246_0) (k_dec_app (k_decL_ok kd_246_8) (k_decL_ok kd_246_16)))
theorem ke_246 : k_ents kr_246.2.2.2.1.cls kr_246.2.1 [[1287], [1288], [1292], [1302], [1303], [1323], [1324], [1325], [1326], [1332], [1333], [1748, 1750, 90]] = true := by decide +kernel
theorem ko_246 : k_recP kr_246 := k_rec_ok k_okm kd_246 ke_246 (by decide +kernel)
theorem kd_247_0 : k_decL cX12_letter ((kc_247.drop 0).take 8) = true := by decide +kernel
theorem kx_247 : kc_247 = (kc_247.drop 0).take 8 := rfl
theorem kd_247 : ∀ ch ∈ kr_247.1, ∀ q ∈ ch, decode kr_247.2.2.2.2.1 q.1 = .ok q.2 := by
  show ∀ ch ∈ kc_247, ∀ q ∈ ch, decode cX12_letter q.1 = .ok q.2
  rw [kx_247]
  exact (k_decL_ok kd_247_0)
theorem ke_247 : k_ents kr_247.2.2.2.1.cls kr_247.2.1 [[1287], [1607, 1609, 61], [1611, 1613, 62], [1623, 1624], [1764]] = true := by decide +kernel
theorem ko_247 : k_recP kr_247 := k_rec_ok k_okm kd_247 ke_247 (by decide +kernel)
theorem kd_248_0 : k_decL cX12_room ((kc_248.drop 0).take 8) = true := by decide +kernel
theorem kd_248_8 : k_decL cX12_room ((kc_248.drop 8).take 8) = true := by decide +kernel
theorem kx_248 : kc_248 = (kc_248.drop 0).take 8 ++ ((kc_248.drop 8).take 8) := rfl
theorem kd_248 : ∀ ch ∈ kr_248.1, ∀ q ∈ ch, decode kr_248.2.2.2.2.1 q.1 = .ok q.2 := by
  show ∀ ch ∈ kc_248, ∀ q ∈ ch, decode cX12_room q.1 = .ok q.2
  rw [kx_248]
  exact (k_dec_app (k_decL_ok kd_248_0) (k_decL_ok kd_248_8))
theorem ke_248 : k_ents kr_248.2.2.2.1.cls kr_248.2.1 [[1287], [1289], [1290], [1292], [1321], [1322], [1773, 1775, 94], [1748, 1750, 90], [1769, 1771, 93]] = true := by decide +kernel
theorem ko_248 : k_recP kr_248 := k_rec_ok k_okm kd_248 ke_248 (by decide +kernel)
