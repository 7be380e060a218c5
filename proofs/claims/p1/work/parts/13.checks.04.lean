theorem kd_248_0 : k_decL cX12_room ((kc_248.drop 0).take 8) = true := by decide +kernel
theorem kd_248_8 : k_decL cX12_room ((kc_248.drop 8).take 8) = true := by decide +kernel
theorem kx_248 : kc_248 = (kc_248.drop 0).take 8 ++ ((kc_248.drop 8).take 8) := rfl
theorem kd_248 : ∀ ch ∈ kr_248.1, ∀ q ∈ ch, decode kr_248.2.2.2.2.1 q.1 = .ok q.2 := by
  show ∀ ch ∈ kc_248, ∀ q ∈ ch, decode cX12_room q.1 = .ok q.2
  rw [kx_248]
  exact (k_dec_app (k_decL_ok kd_248_0) (k_decL_ok kd_248_8))
theorem ke_248 : k_ents kr_248.2.2.2.1.cls kr_248.2.1 [[1287], [1289], [1290], [1292], [1321], [1322], [1769, 1771, 93]] = true := by decide +kernel
theorem ko_248 : k_recP kr_248 := k_rec_ok k_okm kd_248 ke_248 (by decide +kernel)
theorem kd_249_0 : k_decL cX12_way ((kc_249.drop 0).take 8) = true := by decide +kernel
theorem kx_249 : kc_249 = (kc_249.drop 0).take 8 := rfl
theorem kd_249 : ∀ ch ∈ kr_249.1, ∀ q ∈ ch, decode kr_249.2.2.2.2.1 q.1 = .ok q.2 := by
  show ∀ ch ∈ kc_249, ∀ q ∈ ch, decode cX12_way q.1 = .ok q.2
  rw [kx_249]
  exact (k_decL_ok kd_249_0)
theorem ke_249 : k_ents kr_249.2.2.2.1.cls kr_249.2.1 [[1769, 1771, 93]] = true := by decide +kernel
theorem ko_249 : k_recP kr_249 := k_rec_ok k_okm kd_249 ke_249 (by decide +kernel)
theorem kd_250_0 : k_decL cX12_person ((kc_250.drop 0).take 8) = true := by decide +kernel
theorem kd_250_8 : k_decL cX12_person ((kc_250.drop 8).take 8) = true := by decide +kernel
theorem kx_250 : kc_250 = (kc_250.drop 0).take 8 ++ ((kc_250.drop 8).take 8) := rfl
theorem kd_250 : ∀ ch ∈ kr_250.1, ∀ q ∈ ch, decode kr_250.2.2.2.2.1 q.1 = .ok q.2 := by
  show ∀ ch ∈ kc_250, ∀ q ∈ ch, decode cX12_person q.1 = .ok q.2
  rw [kx_250]
  exact (k_dec_app (k_decL_ok kd_250_0) (k_decL_ok kd_250_8))
theorem ke_250 : k_ents kr_250.2.2.2.1.cls kr_250.2.1 [[1287], [1293], [1294], [1321], [1322], [1323], [1324], [1325], [1793, 1795, 97]] = true := by decide +kernel
theorem ko_250 : k_recP kr_250 := k_rec_ok k_okm kd_250 ke_250 (by decide +kernel)
theorem kd_251_0 : k_decL cX12_fits ((kc_251.drop 0).take 8) = true := by decide +kernel
theorem kx_251 : kc_251 = (kc_251.drop 0).take 8 := rfl
theorem kd_251 : ∀ ch ∈ kr_251.1, ∀ q ∈ ch, decode kr_251.2.2.2.2.1 q.1 = .ok q.2 := by
  show ∀ ch ∈ kc_251, ∀ q ∈ ch, decode cX12_fits q.1 = .ok q.2
  rw [kx_251]
  exact (k_decL_ok kd_251_0)
theorem ke_251 : k_ents kr_251.2.2.2.1.cls kr_251.2.1 [[1322], [1769, 1771, 93], [1793, 1795, 97]] = true := by decide +kernel
theorem ko_251 : k_recP kr_251 := k_rec_ok k_okm kd_251 ke_251 (by decide +kernel)
theorem kd_253_0 : k_decL cX12_canGo ((kc_253.drop 0).take 8) = true := by decide +kernel
theorem kx_253 : kc_253 = (kc_253.drop 0).take 8 := rfl
theorem kd_253 : ∀ ch ∈ kr_253.1, ∀ q ∈ ch, decode kr_253.2.2.2.2.1 q.1 = .ok q.2 := by
  show ∀ ch ∈ kc_253, ∀ q ∈ ch, decode cX12_canGo q.1 = .ok q.2
  rw [kx_253]
  exact (k_decL_ok kd_253_0)
theorem ke_253 : k_ents kr_253.2.2.2.1.cls kr_253.2.1 [[1321], [1769, 1771, 93], [1793, 1795, 97]] = true := by decide +kernel
theorem ko_253 : k_recP kr_253 := k_rec_ok k_okm kd_253 ke_253 (by decide +kernel)
theorem kd_255_0 : k_decL cX12_takes ((kc_255.drop 0).take 8) = true := by decide +kernel
theorem kx_255 : kc_255 = (kc_255.drop 0).take 8 := rfl
theorem kd_255 : ∀ ch ∈ kr_255.1, ∀ q ∈ ch, decode kr_255.2.2.2.2.1 q.1 = .ok q.2 := by
  show ∀ ch ∈ kc_255, ∀ q ∈ ch, decode cX12_takes q.1 = .ok q.2
  rw [kx_255]
  exact (k_decL_ok kd_255_0)
theorem ke_255 : k_ents kr_255.2.2.2.1.cls kr_255.2.1 [[1817, 1819, 101]] = true := by decide +kernel
theorem ko_255 : k_recP kr_255 := k_rec_ok k_okm kd_255 ke_255 (by decide +kernel)
theorem kd_260_0 : k_decL cX12_go ((kc_260.drop 0).take 8) = true := by decide +kernel
theorem kx_260 : kc_260 = (kc_260.drop 0).take 8 := rfl
theorem kd_260 : ∀ ch ∈ kr_260.1, ∀ q ∈ ch, decode kr_260.2.2.2.2.1 q.1 = .ok q.2 := by
  show ∀ ch ∈ kc_260, ∀ q ∈ ch, decode cX12_go q.1 = .ok q.2
  rw [kx_260]
  exact (k_decL_ok kd_260_0)
theorem ke_260 : k_ents kr_260.2.2.2.1.cls kr_260.2.1 [[1324], [1520, 1522, 49], [1817, 1819, 101], [1860, 1862, 107]] = true := by decide +kernel
theorem ko_260 : k_recP kr_260 := k_rec_ok k_okm kd_260 ke_260 (by decide +kernel)
theorem kd_262_0 : k_decL cX12_stay ((kc_262.drop 0).take 8) = true := by decide +kernel
theorem kx_262 : kc_262 = (kc_262.drop 0).take 8 := rfl
theorem kd_262 : ∀ ch ∈ kr_262.1, ∀ q ∈ ch, decode kr_262.2.2.2.2.1 q.1 = .ok q.2 := by
  show ∀ ch ∈ kc_262, ∀ q ∈ ch, decode cX12_stay q.1 = .ok q.2
  rw [kx_262]
  exact (k_decL_ok kd_262_0)
theorem ke_262 : k_ents kr_262.2.2.2.1.cls kr_262.2.1 [[1325], [1520, 1522, 49], [1623, 1624], [1793, 1795, 97], [1860, 1862, 107]] = true := by decide +kernel
theorem ko_262 : k_recP kr_262 := k_rec_ok k_okm kd_262 ke_262 (by decide +kernel)
theorem kd_263_0 : k_decL cX12_mend ((kc_263.drop 0).take 8) = true := by decide +kernel
theorem kx_263 : kc_263 = (kc_263.drop 0).take 8 := rfl
theorem kd_263 : ∀ ch ∈ kr_263.1, ∀ q ∈ ch, decode kr_263.2.2.2.2.1 q.1 = .ok q.2 := by
  show ∀ ch ∈ kc_263, ∀ q ∈ ch, decode cX12_mend q.1 = .ok q.2
  rw [kx_263]
  exact (k_decL_ok kd_263_0)
theorem ke_263 : k_ents kr_263.2.2.2.1.cls kr_263.2.1 [[1287], [1303], [1321], [1322], [1323], [1520, 1522, 49], [1793, 1795, 97], [1860, 1862, 107]] = true := by decide +kernel
theorem ko_263 : k_recP kr_263 := k_rec_ok k_okm kd_263 ke_263 (by decide +kernel)
theorem kd_266_0 : k_decL cX12_days ((kc_266.drop 0).take 8) = true := by decide +kernel
theorem kx_266 : kc_266 = (kc_266.drop 0).take 8 := rfl
theorem kd_266 : ∀ ch ∈ kr_266.1, ∀ q ∈ ch, decode kr_266.2.2.2.2.1 q.1 = .ok q.2 := by
  show ∀ ch ∈ kc_266, ∀ q ∈ ch, decode cX12_days q.1 = .ok q.2
  rw [kx_266]
  exact (k_decL_ok kd_266_0)
theorem ke_266 : k_ents kr_266.2.2.2.1.cls kr_266.2.1 [[1287], [1292], [1520, 1522, 49], [1623, 1624], [1860, 1862, 107]] = true := by decide +kernel
theorem ko_266 : k_recP kr_266 := k_rec_ok k_okm kd_266 ke_266 (by decide +kernel)
theorem kd_267_0 : k_decL cX12_seed ((kc_267.drop 0).take 8) = true := by decide +kernel
theorem kx_267 : kc_267 = (kc_267.drop 0).take 8 := rfl
theorem kd_267 : ∀ ch ∈ kr_267.1, ∀ q ∈ ch, decode kr_267.2.2.2.2.1 q.1 = .ok q.2 := by
  show ∀ ch ∈ kc_267, ∀ q ∈ ch, decode cX12_seed q.1 = .ok q.2
  rw [kx_267]
  exact (k_decL_ok kd_267_0)
theorem ke_267 : k_ents kr_267.2.2.2.1.cls kr_267.2.1 [[1333], [1520, 1522, 49]] = true := by decide +kernel
theorem ko_267 : k_recP kr_267 := k_rec_ok k_okm kd_267 ke_267 (by decide +kernel)
theorem kd_268_0 : k_decL cX12_kept ((kc_268.drop 0).take 8) = true := by decide +kernel
theorem kx_268 : kc_268 = (kc_268.drop 0).take 8 := rfl
theorem kd_268 : ∀ ch ∈ kr_268.1, ∀ q ∈ ch, decode kr_268.2.2.2.2.1 q.1 = .ok q.2 := by
  show ∀ ch ∈ kc_268, ∀ q ∈ ch, decode cX12_kept q.1 = .ok q.2
  rw [kx_268]
  exact (k_decL_ok kd_268_0)
theorem ke_268 : k_ents kr_268.2.2.2.1.cls kr_268.2.1 [[1326], [1327], [1328], [1329], [1330], [1623, 1624]] = true := by decide +kernel
theorem ko_268 : k_recP kr_268 := k_rec_ok k_okm kd_268 ke_268 (by decide +kernel)
theorem kd_272_0 : k_decL cX12_routing ((kc_272.drop 0).take 8) = true := by decide +kernel
theorem kd_272_8 : k_decL cX12_routing ((kc_272.drop 8).take 8) = true := by decide +kernel
theorem kx_272 : kc_272 = (kc_272.drop 0).take 8 ++ ((kc_272.drop 8).take 8) := rfl
theorem kd_272 : ∀ ch ∈ kr_272.1, ∀ q ∈ ch, decode kr_272.2.2.2.2.1 q.1 = .ok q.2 := by
  show ∀ ch ∈ kc_272, ∀ q ∈ ch, decode cX12_routing q.1 = .ok q.2
  rw [kx_272]
  exact (k_dec_app (k_decL_ok kd_272_0) (k_decL_ok kd_272_8))
theorem ke_272 : k_ents kr_272.2.2.2.1.cls kr_272.2.1 [[1322], [1323], [1339], [1340], [1769, 1771, 93], [1793, 1795, 97], [1933]] = true := by decide +kernel
theorem ko_272 : k_recP kr_272 := k_rec_ok k_okm kd_272 ke_272 (by decide +kernel)
theorem kd_273_0 : k_decL cX12_route ((kc_273.drop 0).take 8) = true := by decide +kernel
theorem kx_273 : kc_273 = (kc_273.drop 0).take 8 := rfl
theorem kd_273 : ∀ ch ∈ kr_273.1, ∀ q ∈ ch, decode kr_273.2.2.2.2.1 q.1 = .ok q.2 := by
  show ∀ ch ∈ kc_273, ∀ q ∈ ch, decode cX12_route q.1 = .ok q.2
  rw [kx_273]
  exact (k_decL_ok kd_273_0)
theorem ke_273 : k_ents kr_273.2.2.2.1.cls kr_273.2.1 [[1793, 1795, 97], [1925, 1927, 116]] = true := by decide +kernel
theorem ko_273 : k_recP kr_273 := k_rec_ok k_okm kd_273 ke_273 (by decide +kernel)
theorem kd_274_0 : k_decL cX12_bearer ((kc_274.drop 0).take 8) = true := by decide +kernel
theorem kx_274 : kc_274 = (kc_274.drop 0).take 8 := rfl
theorem kd_274 : ∀ ch ∈ kr_274.1, ∀ q ∈ ch, decode kr_274.2.2.2.2.1 q.1 = .ok q.2 := by
  show ∀ ch ∈ kc_274, ∀ q ∈ ch, decode cX12_bearer q.1 = .ok q.2
  rw [kx_274]
  exact (k_decL_ok kd_274_0)
theorem ke_274 : k_ents kr_274.2.2.2.1.cls kr_274.2.1 [[1925, 1927, 116]] = true := by decide +kernel
theorem ko_274 : k_recP kr_274 := k_rec_ok k_okm kd_274 ke_274 (by decide +kernel)
theorem kd_276_0 : k_decL cX12_isErrand ((kc_276.drop 0).take 8) = true := by decide +kernel
theorem kx_276 : kc_276 = (kc_276.drop 0).take 8 := rfl
theorem kd_276 : ∀ ch ∈ kr_276.1, ∀ q ∈ ch, decode kr_276.2.2.2.2.1 q.1 = .ok q.2 := by
  show ∀ ch ∈ kc_276, ∀ q ∈ ch, decode cX12_isErrand q.1 = .ok q.2
  rw [kx_276]
  exact (k_decL_ok kd_276_0)
theorem ke_276 : k_ents kr_276.2.2.2.1.cls kr_276.2.1 [[1273], [1321], [1769, 1771, 93], [1793, 1795, 97]] = true := by decide +kernel
theorem ko_276 : k_recP kr_276 := k_rec_ok k_okm kd_276 ke_276 (by decide +kernel)
theorem kd_277_0 : k_decL cX12_errand ((kc_277.drop 0).take 8) = true := by decide +kernel
theorem kd_277_8 : k_decL cX12_errand ((kc_277.drop 8).take 8) = true := by decide +kernel
theorem kx_277 : kc_277 = (kc_277.drop 0).take 8 ++ ((kc_277.drop 8).take 8) := rfl
theorem kd_277 : ∀ ch ∈ kr_277.1, ∀ q ∈ ch, decode kr_277.2.2.2.2.1 q.1 = .ok q.2 := by
  show ∀ ch ∈ kc_277, ∀ q ∈ ch, decode cX12_errand q.1 = .ok q.2
  rw [kx_277]
  exact (k_dec_app (k_decL_ok kd_277_0) (k_decL_ok kd_277_8))
theorem ke_277 : k_ents kr_277.2.2.2.1.cls kr_277.2.1 [[1274], [1341], [1342], [1520, 1522, 49], [1933], [1950, 1952, 120]] = true := by decide +kernel
theorem ko_277 : k_recP kr_277 := k_rec_ok k_okm kd_277 ke_277 (by decide +kernel)
theorem kd_278_0 : k_decL cX12_along ((kc_278.drop 0).take 8) = true := by decide +kernel
theorem kx_278 : kc_278 = (kc_278.drop 0).take 8 := rfl
theorem kd_278 : ∀ ch ∈ kr_278.1, ∀ q ∈ ch, decode kr_278.2.2.2.2.1 q.1 = .ok q.2 := by
  show ∀ ch ∈ kc_278, ∀ q ∈ ch, decode cX12_along q.1 = .ok q.2
  rw [kx_278]
  exact (k_decL_ok kd_278_0)
theorem ke_278 : k_ents kr_278.2.2.2.1.cls kr_278.2.1 [[1341], [1342], [1623, 1624]] = true := by decide +kernel
theorem ko_278 : k_recP kr_278 := k_rec_ok k_okm kd_278 ke_278 (by decide +kernel)
theorem kd_280_0 : k_decL cX12_seated ((kc_280.drop 0).take 8) = true := by decide +kernel
theorem kx_280 : kc_280 = (kc_280.drop 0).take 8 := rfl
theorem kd_280 : ∀ ch ∈ kr_280.1, ∀ q ∈ ch, decode kr_280.2.2.2.2.1 q.1 = .ok q.2 := by
  show ∀ ch ∈ kc_280, ∀ q ∈ ch, decode cX12_seated q.1 = .ok q.2
  rw [kx_280]
  exact (k_decL_ok kd_280_0)
theorem ke_280 : k_ents kr_280.2.2.2.1.cls kr_280.2.1 [[1287], [1292], [1623, 1624], [1769, 1771, 93]] = true := by decide +kernel
theorem ko_280 : k_recP kr_280 := k_rec_ok k_okm kd_280 ke_280 (by decide +kernel)
theorem kd_283_0 : k_decL cX12_isStanding ((kc_283.drop 0).take 8) = true := by decide +kernel
theorem kx_283 : kc_283 = (kc_283.drop 0).take 8 := rfl
theorem kd_283 : ∀ ch ∈ kr_283.1, ∀ q ∈ ch, decode kr_283.2.2.2.2.1 q.1 = .ok q.2 := by
  show ∀ ch ∈ kc_283, ∀ q ∈ ch, decode cX12_isStanding q.1 = .ok q.2
  rw [kx_283]
  exact (k_decL_ok kd_283_0)
theorem ke_283 : k_ents kr_283.2.2.2.1.cls kr_283.2.1 [[1273], [1769, 1771, 93]] = true := by decide +kernel
theorem ko_283 : k_recP kr_283 := k_rec_ok k_okm kd_283 ke_283 (by decide +kernel)
theorem kd_284_0 : k_decL cX12_standing ((kc_284.drop 0).take 8) = true := by decide +kernel
theorem kd_284_8 : k_decL cX12_standing ((kc_284.drop 8).take 8) = true := by decide +kernel
theorem kx_284 : kc_284 = (kc_284.drop 0).take 8 ++ ((kc_284.drop 8).take 8) := rfl
theorem kd_284 : ∀ ch ∈ kr_284.1, ∀ q ∈ ch, decode kr_284.2.2.2.2.1 q.1 = .ok q.2 := by
  show ∀ ch ∈ kc_284, ∀ q ∈ ch, decode cX12_standing q.1 = .ok q.2
  rw [kx_284]
  exact (k_dec_app (k_decL_ok kd_284_0) (k_decL_ok kd_284_8))
theorem ke_284 : k_ents kr_284.2.2.2.1.cls kr_284.2.1 [[1273], [1274], [1287], [1288], [1292], [1343], [1344], [1345], [1346], [1347], [1520, 1522, 49], [1980, 1982, 123]] = true := by decide +kernel
theorem ko_284 : k_recP kr_284 := k_rec_ok k_okm kd_284 ke_284 (by decide +kernel)
