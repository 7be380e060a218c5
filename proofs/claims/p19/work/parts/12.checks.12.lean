theorem kd_273_0 : k_decL cX12_route ((kc_273.drop 0).take 8) = true := by decide +kernel
theorem kx_273 : kc_273 = (kc_273.drop 0).take 8 := rfl
theorem kd_273 : ∀ ch ∈ kr_273.1, ∀ q ∈ ch, decode kr_273.2.2.2.2.1 q.1 = .ok q.2 := by
  show ∀ ch ∈ kc_273, ∀ q ∈ ch, decode cX12_route q.1 = .ok q.2
  rw [kx_273]
  exact (k_decL_ok kd_273_0)
theorem ke_273 : k_ents kr_273.2.2.2.1.cls kr_273.2.1 [[1793, 1795, 97], [1925, 1927, 116]] = true := by decide +kernel
theorem ko_273 : k_recP kr_273 := k_rec_ok k_okm kd_273 ke_273 (by decide +kernel)
theorem kd_274_0 : k_decL cX12_bearer ((kc_274.drop 0).take 8) = true := by decide +kernel
theorem kx_274 : kc_274 = (kc_274.drop 0).take 8 := rfl
theorem kd_274 : ∀ ch ∈ kr_274.1, ∀ q ∈ ch, decode kr_274.2.2.2.2.1 q.1 = .ok q.2 := by
  show ∀ ch ∈ kc_274, ∀ q ∈ ch, decode cX12_bearer q.1 = .ok q.2
  rw [kx_274]
  exact (k_decL_ok kd_274_0)
theorem ke_274 : k_ents kr_274.2.2.2.1.cls kr_274.2.1 [[1925, 1927, 116]] = true := by decide +kernel
theorem ko_274 : k_recP kr_274 := k_rec_ok k_okm kd_274 ke_274 (by decide +kernel)
theorem kd_275_0 : k_decL cX12_errandBy ((kc_275.drop 0).take 8) = true := by decide +kernel
theorem kd_275_8 : k_decL cX12_errandBy ((kc_275.drop 8).take 8) = true := by decide +kernel
theorem kx_275 : kc_275 = (kc_275.drop 0).take 8 ++ ((kc_275.drop 8).take 8) := rfl
theorem kd_275 : ∀ ch ∈ kr_275.1, ∀ q ∈ ch, decode kr_275.2.2.2.2.1 q.1 = .ok q.2 := by
  show ∀ ch ∈ kc_275, ∀ q ∈ ch, decode cX12_errandBy q.1 = .ok q.2
  rw [kx_275]
  exact (k_dec_app (k_decL_ok kd_275_0) (k_decL_ok kd_275_8))
theorem ke_275 : k_ents kr_275.2.2.2.1.cls kr_275.2.1 [[1273], [1321], [1322], [1323], [1756, 1758, 92], [1785, 1787, 96], [1805, 1807, 99], [1829, 1831, 104], [1958, 1959]] = true := by decide +kernel
theorem ko_275 : k_recP kr_275 := k_rec_ok k_okm kd_275 ke_275 (by decide +kernel)
theorem kd_276_0 : k_decL cX12_isErrand ((kc_276.drop 0).take 8) = true := by decide +kernel
theorem kx_276 : kc_276 = (kc_276.drop 0).take 8 := rfl
theorem kd_276 : ∀ ch ∈ kr_276.1, ∀ q ∈ ch, decode kr_276.2.2.2.2.1 q.1 = .ok q.2 := by
  show ∀ ch ∈ kc_276, ∀ q ∈ ch, decode cX12_isErrand q.1 = .ok q.2
  rw [kx_276]
  exact (k_decL_ok kd_276_0)
theorem ke_276 : k_ents kr_276.2.2.2.1.cls kr_276.2.1 [[1273], [1321], [1769, 1771, 93], [1785, 1787, 96], [1793, 1795, 97]] = true := by decide +kernel
theorem ko_276 : k_recP kr_276 := k_rec_ok k_okm kd_276 ke_276 (by decide +kernel)
theorem kd_277_0 : k_decL cX12_errand ((kc_277.drop 0).take 8) = true := by decide +kernel
theorem kd_277_8 : k_decL cX12_errand ((kc_277.drop 8).take 8) = true := by decide +kernel
theorem kx_277 : kc_277 = (kc_277.drop 0).take 8 ++ ((kc_277.drop 8).take 8) := rfl
theorem kd_277 : ∀ ch ∈ kr_277.1, ∀ q ∈ ch, decode kr_277.2.2.2.2.1 q.1 = .ok q.2 := by
  show ∀ ch ∈ kc_277, ∀ q ∈ ch, decode cX12_errand q.1 = .ok q.2
  rw [kx_277]
  exact (k_dec_app (k_decL_ok kd_277_0) (k_decL_ok kd_277_8))
theorem ke_277 : k_ents kr_277.2.2.2.1.cls kr_277.2.1 [[1274], [1341], [1342], [1520, 1522, 49], [1933], [1958, 1959], [1950, 1952, 120], [1954, 1956, 121]] = true := by decide +kernel
theorem ko_277 : k_recP kr_277 := k_rec_ok k_okm kd_277 ke_277 (by decide +kernel)
theorem kd_278_0 : k_decL cX12_along ((kc_278.drop 0).take 8) = true := by decide +kernel
theorem kx_278 : kc_278 = (kc_278.drop 0).take 8 := rfl
theorem kd_278 : ∀ ch ∈ kr_278.1, ∀ q ∈ ch, decode kr_278.2.2.2.2.1 q.1 = .ok q.2 := by
  show ∀ ch ∈ kc_278, ∀ q ∈ ch, decode cX12_along q.1 = .ok q.2
  rw [kx_278]
  exact (k_decL_ok kd_278_0)
theorem ke_278 : k_ents kr_278.2.2.2.1.cls kr_278.2.1 [[1341], [1342], [1623, 1624]] = true := by decide +kernel
theorem ko_278 : k_recP kr_278 := k_rec_ok k_okm kd_278 ke_278 (by decide +kernel)
theorem kd_279_0 : k_decL cX12_canSit ((kc_279.drop 0).take 8) = true := by decide +kernel
theorem kd_279_8 : k_decL cX12_canSit ((kc_279.drop 8).take 8) = true := by decide +kernel
theorem kx_279 : kc_279 = (kc_279.drop 0).take 8 ++ ((kc_279.drop 8).take 8) := rfl
theorem kd_279 : ∀ ch ∈ kr_279.1, ∀ q ∈ ch, decode kr_279.2.2.2.2.1 q.1 = .ok q.2 := by
  show ∀ ch ∈ kc_279, ∀ q ∈ ch, decode cX12_canSit q.1 = .ok q.2
  rw [kx_279]
  exact (k_dec_app (k_decL_ok kd_279_0) (k_decL_ok kd_279_8))
theorem ke_279 : k_ents kr_279.2.2.2.1.cls kr_279.2.1 [[1287], [1290], [1292], [1322], [1323], [1777, 1779, 95], [1756, 1758, 92], [1809, 1811, 100], [1958, 1959]] = true := by decide +kernel
theorem ko_279 : k_recP kr_279 := k_rec_ok k_okm kd_279 ke_279 (by decide +kernel)
theorem kd_280_0 : k_decL cX12_seated ((kc_280.drop 0).take 8) = true := by decide +kernel
theorem kx_280 : kc_280 = (kc_280.drop 0).take 8 := rfl
theorem kd_280 : ∀ ch ∈ kr_280.1, ∀ q ∈ ch, decode kr_280.2.2.2.2.1 q.1 = .ok q.2 := by
  show ∀ ch ∈ kc_280, ∀ q ∈ ch, decode cX12_seated q.1 = .ok q.2
  rw [kx_280]
  exact (k_decL_ok kd_280_0)
theorem ke_280 : k_ents kr_280.2.2.2.1.cls kr_280.2.1 [[1287], [1292], [1623, 1624], [1769, 1771, 93], [1969, 1970], [1972, 1974, 122]] = true := by decide +kernel
theorem ko_280 : k_recP kr_280 := k_rec_ok k_okm kd_280 ke_280 (by decide +kernel)
theorem kd_281_0 : k_decL cX12_rowOf ((kc_281.drop 0).take 8) = true := by decide +kernel
theorem kx_281 : kc_281 = (kc_281.drop 0).take 8 := rfl
theorem kd_281 : ∀ ch ∈ kr_281.1, ∀ q ∈ ch, decode kr_281.2.2.2.2.1 q.1 = .ok q.2 := by
  show ∀ ch ∈ kc_281, ∀ q ∈ ch, decode cX12_rowOf q.1 = .ok q.2
  rw [kx_281]
  exact (k_decL_ok kd_281_0)
theorem ke_281 : k_ents kr_281.2.2.2.1.cls kr_281.2.1 [[1345], [1346]] = true := by decide +kernel
theorem ko_281 : k_recP kr_281 := k_rec_ok k_okm kd_281 ke_281 (by decide +kernel)
theorem kd_282_0 : k_decL cX12_waysWith ((kc_282.drop 0).take 8) = true := by decide +kernel
theorem kd_282_8 : k_decL cX12_waysWith ((kc_282.drop 8).take 8) = true := by decide +kernel
theorem kd_282_16 : k_decL cX12_waysWith ((kc_282.drop 16).take 8) = true := by decide +kernel
theorem kx_282 : kc_282 = (kc_282.drop 0).take 8 ++ ((kc_282.drop 8).take 8 ++ ((kc_282.drop 16).take 8)) := rfl
theorem kd_282 : ∀ ch ∈ kr_282.1, ∀ q ∈ ch, decode kr_282.2.2.2.2.1 q.1 = .ok q.2 := by
  show ∀ ch ∈ kc_282, ∀ q ∈ ch, decode cX12_waysWith q.1 = .ok q.2
  rw [kx_282]
  exact (k_dec_app (k_decL_ok kd_282_0) (k_dec_app (k_decL_ok kd_282_8) (k_decL_ok kd_282_16)))
theorem ke_282 : k_ents kr_282.2.2.2.1.cls kr_282.2.1 [[1287], [1288], [1292], [1345], [1347], [1348], [1349], [1350], [1752, 1754, 91], [1988, 1990, 125]] = true := by decide +kernel
theorem ko_282 : k_recP kr_282 := k_rec_ok k_okm kd_282 ke_282 (by decide +kernel)
theorem kd_283_0 : k_decL cX12_isStanding ((kc_283.drop 0).take 8) = true := by decide +kernel
theorem kx_283 : kc_283 = (kc_283.drop 0).take 8 := rfl
theorem kd_283 : ∀ ch ∈ kr_283.1, ∀ q ∈ ch, decode kr_283.2.2.2.2.1 q.1 = .ok q.2 := by
  show ∀ ch ∈ kc_283, ∀ q ∈ ch, decode cX12_isStanding q.1 = .ok q.2
  rw [kx_283]
  exact (k_decL_ok kd_283_0)
theorem ke_283 : k_ents kr_283.2.2.2.1.cls kr_283.2.1 [[1273], [1769, 1771, 93]] = true := by decide +kernel
theorem ko_283 : k_recP kr_283 := k_rec_ok k_okm kd_283 ke_283 (by decide +kernel)
theorem kd_284_0 : k_decL cX12_standing ((kc_284.drop 0).take 8) = true := by decide +kernel
theorem kd_284_8 : k_decL cX12_standing ((kc_284.drop 8).take 8) = true := by decide +kernel
theorem kx_284 : kc_284 = (kc_284.drop 0).take 8 ++ ((kc_284.drop 8).take 8) := rfl
theorem kd_284 : ∀ ch ∈ kr_284.1, ∀ q ∈ ch, decode kr_284.2.2.2.2.1 q.1 = .ok q.2 := by
  show ∀ ch ∈ kc_284, ∀ q ∈ ch, decode cX12_standing q.1 = .ok q.2
  rw [kx_284]
  exact (k_dec_app (k_decL_ok kd_284_0) (k_decL_ok kd_284_8))
theorem ke_284 : k_ents kr_284.2.2.2.1.cls kr_284.2.1 [[1273], [1274], [1287], [1288], [1292], [1343], [1344], [1345], [1346], [1347], [1520, 1522, 49], [1980, 1982, 123], [1984, 1986, 124]] = true := by decide +kernel
theorem ko_284 : k_recP kr_284 := k_rec_ok k_okm kd_284 ke_284 (by decide +kernel)
theorem kd_285_0 : k_decL cX12_where ((kc_285.drop 0).take 8) = true := by decide +kernel
theorem kx_285 : kc_285 = (kc_285.drop 0).take 8 := rfl
theorem kd_285 : ∀ ch ∈ kr_285.1, ∀ q ∈ ch, decode kr_285.2.2.2.2.1 q.1 = .ok q.2 := by
  show ∀ ch ∈ kc_285, ∀ q ∈ ch, decode cX12_where q.1 = .ok q.2
  rw [kx_285]
  exact (k_decL_ok kd_285_0)
theorem ke_285 : k_ents kr_285.2.2.2.1.cls kr_285.2.1 [[1343], [1344], [1769, 1771, 93], [1793, 1795, 97]] = true := by decide +kernel
theorem ko_285 : k_recP kr_285 := k_rec_ok k_okm kd_285 ke_285 (by decide +kernel)
theorem kd_286_0 : k_decL cX12_writes ((kc_286.drop 0).take 8) = true := by decide +kernel
theorem kx_286 : kc_286 = (kc_286.drop 0).take 8 := rfl
theorem kd_286 : ∀ ch ∈ kr_286.1, ∀ q ∈ ch, decode kr_286.2.2.2.2.1 q.1 = .ok q.2 := by
  show ∀ ch ∈ kc_286, ∀ q ∈ ch, decode cX12_writes q.1 = .ok q.2
  rw [kx_286]
  exact (k_decL_ok kd_286_0)
theorem ke_286 : k_ents kr_286.2.2.2.1.cls kr_286.2.1 [[1351], [1352]] = true := by decide +kernel
theorem ko_286 : k_recP kr_286 := k_rec_ok k_okm kd_286 ke_286 (by decide +kernel)
theorem kd_287_0 : k_decL cX12_writesThree ((kc_287.drop 0).take 8) = true := by decide +kernel
theorem kx_287 : kc_287 = (kc_287.drop 0).take 8 := rfl
theorem kd_287 : ∀ ch ∈ kr_287.1, ∀ q ∈ ch, decode kr_287.2.2.2.2.1 q.1 = .ok q.2 := by
  show ∀ ch ∈ kc_287, ∀ q ∈ ch, decode cX12_writesThree q.1 = .ok q.2
  rw [kx_287]
  exact (k_decL_ok kd_287_0)
theorem ke_287 : k_ents kr_287.2.2.2.1.cls kr_287.2.1 [[2000, 2002, 126]] = true := by decide +kernel
theorem ko_287 : k_recP kr_287 := k_rec_ok k_okm kd_287 ke_287 (by decide +kernel)
theorem kd_288_0 : k_decL cX12_image ((kc_288.drop 0).take 8) = true := by decide +kernel
theorem kx_288 : kc_288 = (kc_288.drop 0).take 8 := rfl
theorem kd_288 : ∀ ch ∈ kr_288.1, ∀ q ∈ ch, decode kr_288.2.2.2.2.1 q.1 = .ok q.2 := by
  show ∀ ch ∈ kc_288, ∀ q ∈ ch, decode cX12_image q.1 = .ok q.2
  rw [kx_288]
  exact (k_decL_ok kd_288_0)
theorem ke_288 : k_ents kr_288.2.2.2.1.cls kr_288.2.1 [[1287], [1292], [1321], [1322], [1323], [1324], [1325], [1351], [1352], [2000, 2002, 126], [2004, 2006, 127]] = true := by decide +kernel
theorem ko_288 : k_recP kr_288 := k_rec_ok k_okm kd_288 ke_288 (by decide +kernel)
theorem kd_289_0 : k_decL cX12_octet ((kc_289.drop 0).take 8) = true := by decide +kernel
theorem kx_289 : kc_289 = (kc_289.drop 0).take 8 := rfl
theorem kd_289 : ∀ ch ∈ kr_289.1, ∀ q ∈ ch, decode kr_289.2.2.2.2.1 q.1 = .ok q.2 := by
  show ∀ ch ∈ kc_289, ∀ q ∈ ch, decode cX12_octet q.1 = .ok q.2
  rw [kx_289]
  exact (k_decL_ok kd_289_0)
theorem ke_289 : k_ents kr_289.2.2.2.1.cls kr_289.2.1 [[1351], [1352], [1623, 1624]] = true := by decide +kernel
theorem ko_289 : k_recP kr_289 := k_rec_ok k_okm kd_289 ke_289 (by decide +kernel)
theorem kd_290_0 : k_decL cX12_threeBytes ((kc_290.drop 0).take 8) = true := by decide +kernel
theorem kx_290 : kc_290 = (kc_290.drop 0).take 8 := rfl
theorem kd_290 : ∀ ch ∈ kr_290.1, ∀ q ∈ ch, decode kr_290.2.2.2.2.1 q.1 = .ok q.2 := by
  show ∀ ch ∈ kc_290, ∀ q ∈ ch, decode cX12_threeBytes q.1 = .ok q.2
  rw [kx_290]
  exact (k_decL_ok kd_290_0)
theorem ke_290 : k_ents kr_290.2.2.2.1.cls kr_290.2.1 [[1273]] = true := by decide +kernel
theorem ko_290 : k_recP kr_290 := k_rec_ok k_okm kd_290 ke_290 (by decide +kernel)
theorem kd_291_0 : k_decL cX12_personOn ((kc_291.drop 0).take 8) = true := by decide +kernel
theorem kd_291_8 : k_decL cX12_personOn ((kc_291.drop 8).take 8) = true := by decide +kernel
theorem kx_291 : kc_291 = (kc_291.drop 0).take 8 ++ ((kc_291.drop 8).take 8) := rfl
theorem kd_291 : ∀ ch ∈ kr_291.1, ∀ q ∈ ch, decode kr_291.2.2.2.2.1 q.1 = .ok q.2 := by
  show ∀ ch ∈ kc_291, ∀ q ∈ ch, decode cX12_personOn q.1 = .ok q.2
  rw [kx_291]
  exact (k_dec_app (k_decL_ok kd_291_0) (k_decL_ok kd_291_8))
theorem ke_291 : k_ents kr_291.2.2.2.1.cls kr_291.2.1 [[1273], [1321], [1322], [1323], [1324], [1325], [1769, 1771, 93], [1872], [2024, 2026, 130]] = true := by decide +kernel
theorem ko_291 : k_recP kr_291 := k_rec_ok k_okm kd_291 ke_291 (by decide +kernel)
