theorem kd_249_0 : k_decL cX12_way ((kc_249.drop 0).take 8) = true := by decide +kernel
theorem kx_249 : kc_249 = (kc_249.drop 0).take 8 := rfl
theorem kd_249 : ∀ ch ∈ kr_249.1, ∀ q ∈ ch, decode kr_249.2.2.2.2.1 q.1 = .ok q.2 := by
  show ∀ ch ∈ kc_249, ∀ q ∈ ch, decode cX12_way q.1 = .ok q.2
  rw [kx_249]
  exact (k_decL_ok kd_249_0)
theorem ke_249 : k_ents kr_249.2.2.2.1.cls kr_249.2.1 [[1769, 1771, 93], [1785, 1787, 96]] = true := by decide +kernel
theorem ko_249 : k_recP kr_249 := k_rec_ok k_okm kd_249 ke_249 (by decide +kernel)
theorem kd_250_0 : k_decL cX12_person ((kc_250.drop 0).take 8) = true := by decide +kernel
theorem kd_250_8 : k_decL cX12_person ((kc_250.drop 8).take 8) = true := by decide +kernel
theorem kx_250 : kc_250 = (kc_250.drop 0).take 8 ++ ((kc_250.drop 8).take 8) := rfl
theorem kd_250 : ∀ ch ∈ kr_250.1, ∀ q ∈ ch, decode kr_250.2.2.2.2.1 q.1 = .ok q.2 := by
  show ∀ ch ∈ kc_250, ∀ q ∈ ch, decode cX12_person q.1 = .ok q.2
  rw [kx_250]
  exact (k_dec_app (k_decL_ok kd_250_0) (k_decL_ok kd_250_8))
theorem ke_250 : k_ents kr_250.2.2.2.1.cls kr_250.2.1 [[1287], [1293], [1294], [1321], [1322], [1323], [1324], [1325], [1777, 1779, 95], [1756, 1758, 92], [1797, 1799, 98], [1748, 1750, 90], [1793, 1795, 97]] = true := by decide +kernel
theorem ko_250 : k_recP kr_250 := k_rec_ok k_okm kd_250 ke_250 (by decide +kernel)
theorem kd_251_0 : k_decL cX12_fits ((kc_251.drop 0).take 8) = true := by decide +kernel
theorem kx_251 : kc_251 = (kc_251.drop 0).take 8 := rfl
theorem kd_251 : ∀ ch ∈ kr_251.1, ∀ q ∈ ch, decode kr_251.2.2.2.2.1 q.1 = .ok q.2 := by
  show ∀ ch ∈ kc_251, ∀ q ∈ ch, decode cX12_fits q.1 = .ok q.2
  rw [kx_251]
  exact (k_decL_ok kd_251_0)
theorem ke_251 : k_ents kr_251.2.2.2.1.cls kr_251.2.1 [[1322], [1769, 1771, 93], [1793, 1795, 97], [1805, 1807, 99]] = true := by decide +kernel
theorem ko_251 : k_recP kr_251 := k_rec_ok k_okm kd_251 ke_251 (by decide +kernel)
theorem kd_252_0 : k_decL cX12_canTake ((kc_252.drop 0).take 8) = true := by decide +kernel
theorem kx_252 : kc_252 = (kc_252.drop 0).take 8 := rfl
theorem kd_252 : ∀ ch ∈ kr_252.1, ∀ q ∈ ch, decode kr_252.2.2.2.2.1 q.1 = .ok q.2 := by
  show ∀ ch ∈ kc_252, ∀ q ∈ ch, decode cX12_canTake q.1 = .ok q.2
  rw [kx_252]
  exact (k_decL_ok kd_252_0)
theorem ke_252 : k_ents kr_252.2.2.2.1.cls kr_252.2.1 [[1321], [1322], [1323], [1793, 1795, 97], [1805, 1807, 99]] = true := by decide +kernel
theorem ko_252 : k_recP kr_252 := k_rec_ok k_okm kd_252 ke_252 (by decide +kernel)
theorem kd_253_0 : k_decL cX12_canGo ((kc_253.drop 0).take 8) = true := by decide +kernel
theorem kx_253 : kc_253 = (kc_253.drop 0).take 8 := rfl
theorem kd_253 : ∀ ch ∈ kr_253.1, ∀ q ∈ ch, decode kr_253.2.2.2.2.1 q.1 = .ok q.2 := by
  show ∀ ch ∈ kc_253, ∀ q ∈ ch, decode cX12_canGo q.1 = .ok q.2
  rw [kx_253]
  exact (k_decL_ok kd_253_0)
theorem ke_253 : k_ents kr_253.2.2.2.1.cls kr_253.2.1 [[1321], [1769, 1771, 93], [1785, 1787, 96], [1793, 1795, 97], [1821, 1823, 102]] = true := by decide +kernel
theorem ko_253 : k_recP kr_253 := k_rec_ok k_okm kd_253 ke_253 (by decide +kernel)
theorem kd_254_0 : k_decL cX12_minutesOf ((kc_254.drop 0).take 8) = true := by decide +kernel
theorem kx_254 : kc_254 = (kc_254.drop 0).take 8 := rfl
theorem kd_254 : ∀ ch ∈ kr_254.1, ∀ q ∈ ch, decode kr_254.2.2.2.2.1 q.1 = .ok q.2 := by
  show ∀ ch ∈ kc_254, ∀ q ∈ ch, decode cX12_minutesOf q.1 = .ok q.2
  rw [kx_254]
  exact (k_decL_ok kd_254_0)
theorem ke_254 : k_ents kr_254.2.2.2.1.cls kr_254.2.1 [[1321], [1785, 1787, 96], [1829, 1831, 104]] = true := by decide +kernel
theorem ko_254 : k_recP kr_254 := k_rec_ok k_okm kd_254 ke_254 (by decide +kernel)
theorem kd_255_0 : k_decL cX12_takes ((kc_255.drop 0).take 8) = true := by decide +kernel
theorem kx_255 : kc_255 = (kc_255.drop 0).take 8 := rfl
theorem kd_255 : ∀ ch ∈ kr_255.1, ∀ q ∈ ch, decode kr_255.2.2.2.2.1 q.1 = .ok q.2 := by
  show ∀ ch ∈ kc_255, ∀ q ∈ ch, decode cX12_takes q.1 = .ok q.2
  rw [kx_255]
  exact (k_decL_ok kd_255_0)
theorem ke_255 : k_ents kr_255.2.2.2.1.cls kr_255.2.1 [[1817, 1819, 101], [1825, 1827, 103]] = true := by decide +kernel
theorem ko_255 : k_recP kr_255 := k_rec_ok k_okm kd_255 ke_255 (by decide +kernel)
theorem kd_256_0 : k_decL cX12_draw ((kc_256.drop 0).take 8) = true := by decide +kernel
theorem kx_256 : kc_256 = (kc_256.drop 0).take 8 := rfl
theorem kd_256 : ∀ ch ∈ kr_256.1, ∀ q ∈ ch, decode kr_256.2.2.2.2.1 q.1 = .ok q.2 := by
  show ∀ ch ∈ kc_256, ∀ q ∈ ch, decode cX12_draw q.1 = .ok q.2
  rw [kx_256]
  exact (k_decL_ok kd_256_0)
theorem ke_256 : k_ents kr_256.2.2.2.1.cls kr_256.2.1 [[1333], [1881], [1882], [1883], [1884]] = true := by decide +kernel
theorem ko_256 : k_recP kr_256 := k_rec_ok k_okm kd_256 ke_256 (by decide +kernel)
theorem kd_257_0 : k_decL cX12_writesDown ((kc_257.drop 0).take 8) = true := by decide +kernel
theorem kd_257_8 : k_decL cX12_writesDown ((kc_257.drop 8).take 8) = true := by decide +kernel
theorem kx_257 : kc_257 = (kc_257.drop 0).take 8 ++ ((kc_257.drop 8).take 8) := rfl
theorem kd_257 : ∀ ch ∈ kr_257.1, ∀ q ∈ ch, decode kr_257.2.2.2.2.1 q.1 = .ok q.2 := by
  show ∀ ch ∈ kc_257, ∀ q ∈ ch, decode cX12_writesDown q.1 = .ok q.2
  rw [kx_257]
  exact (k_dec_app (k_decL_ok kd_257_0) (k_decL_ok kd_257_8))
theorem ke_257 : k_ents kr_257.2.2.2.1.cls kr_257.2.1 [[1326], [1327], [1328], [1329], [1330]] = true := by decide +kernel
theorem ko_257 : k_recP kr_257 := k_rec_ok k_okm kd_257 ke_257 (by decide +kernel)
theorem kd_258_0 : k_decL cX12_isLater ((kc_258.drop 0).take 8) = true := by decide +kernel
theorem kx_258 : kc_258 = (kc_258.drop 0).take 8 := rfl
theorem kd_258 : ∀ ch ∈ kr_258.1, ∀ q ∈ ch, decode kr_258.2.2.2.2.1 q.1 = .ok q.2 := by
  show ∀ ch ∈ kc_258, ∀ q ∈ ch, decode cX12_isLater q.1 = .ok q.2
  rw [kx_258]
  exact (k_decL_ok kd_258_0)
theorem ke_258 : k_ents kr_258.2.2.2.1.cls kr_258.2.1 [[1324], [1872]] = true := by decide +kernel
theorem ko_258 : k_recP kr_258 := k_rec_ok k_okm kd_258 ke_258 (by decide +kernel)
theorem kd_259_0 : k_decL cX12_goes ((kc_259.drop 0).take 8) = true := by decide +kernel
theorem kx_259 : kc_259 = (kc_259.drop 0).take 8 := rfl
theorem kd_259 : ∀ ch ∈ kr_259.1, ∀ q ∈ ch, decode kr_259.2.2.2.2.1 q.1 = .ok q.2 := by
  show ∀ ch ∈ kc_259, ∀ q ∈ ch, decode cX12_goes q.1 = .ok q.2
  rw [kx_259]
  exact (k_decL_ok kd_259_0)
theorem ke_259 : k_ents kr_259.2.2.2.1.cls kr_259.2.1 [[1287], [1302], [1321], [1322], [1323], [1825, 1827, 103], [1868, 1870, 109], [1873, 1875, 110], [1877, 1879, 111]] = true := by decide +kernel
theorem ko_259 : k_recP kr_259 := k_rec_ok k_okm kd_259 ke_259 (by decide +kernel)
theorem kd_260_0 : k_decL cX12_go ((kc_260.drop 0).take 8) = true := by decide +kernel
theorem kx_260 : kc_260 = (kc_260.drop 0).take 8 := rfl
theorem kd_260 : ∀ ch ∈ kr_260.1, ∀ q ∈ ch, decode kr_260.2.2.2.2.1 q.1 = .ok q.2 := by
  show ∀ ch ∈ kc_260, ∀ q ∈ ch, decode cX12_go q.1 = .ok q.2
  rw [kx_260]
  exact (k_decL_ok kd_260_0)
theorem ke_260 : k_ents kr_260.2.2.2.1.cls kr_260.2.1 [[1324], [1520, 1522, 49], [1817, 1819, 101], [1860, 1862, 107], [1864, 1866, 108]] = true := by decide +kernel
theorem ko_260 : k_recP kr_260 := k_rec_ok k_okm kd_260 ke_260 (by decide +kernel)
theorem kd_261_0 : k_decL cX12_waits ((kc_261.drop 0).take 8) = true := by decide +kernel
theorem kx_261 : kc_261 = (kc_261.drop 0).take 8 := rfl
theorem kd_261 : ∀ ch ∈ kr_261.1, ∀ q ∈ ch, decode kr_261.2.2.2.2.1 q.1 = .ok q.2 := by
  show ∀ ch ∈ kc_261, ∀ q ∈ ch, decode cX12_waits q.1 = .ok q.2
  rw [kx_261]
  exact (k_decL_ok kd_261_0)
theorem ke_261 : k_ents kr_261.2.2.2.1.cls kr_261.2.1 [[1325], [1748, 1750, 90], [1872], [1868, 1870, 109], [1893, 1895, 113]] = true := by decide +kernel
theorem ko_261 : k_recP kr_261 := k_rec_ok k_okm kd_261 ke_261 (by decide +kernel)
theorem kd_262_0 : k_decL cX12_stay ((kc_262.drop 0).take 8) = true := by decide +kernel
theorem kx_262 : kc_262 = (kc_262.drop 0).take 8 := rfl
theorem kd_262 : ∀ ch ∈ kr_262.1, ∀ q ∈ ch, decode kr_262.2.2.2.2.1 q.1 = .ok q.2 := by
  show ∀ ch ∈ kc_262, ∀ q ∈ ch, decode cX12_stay q.1 = .ok q.2
  rw [kx_262]
  exact (k_decL_ok kd_262_0)
theorem ke_262 : k_ents kr_262.2.2.2.1.cls kr_262.2.1 [[1325], [1520, 1522, 49], [1623, 1624], [1793, 1795, 97], [1860, 1862, 107], [1889, 1891, 112]] = true := by decide +kernel
theorem ko_262 : k_recP kr_262 := k_rec_ok k_okm kd_262 ke_262 (by decide +kernel)
theorem kd_263_0 : k_decL cX12_mend ((kc_263.drop 0).take 8) = true := by decide +kernel
theorem kx_263 : kc_263 = (kc_263.drop 0).take 8 := rfl
theorem kd_263 : ∀ ch ∈ kr_263.1, ∀ q ∈ ch, decode kr_263.2.2.2.2.1 q.1 = .ok q.2 := by
  show ∀ ch ∈ kc_263, ∀ q ∈ ch, decode cX12_mend q.1 = .ok q.2
  rw [kx_263]
  exact (k_decL_ok kd_263_0)
theorem ke_263 : k_ents kr_263.2.2.2.1.cls kr_263.2.1 [[1287], [1303], [1321], [1322], [1323], [1520, 1522, 49], [1793, 1795, 97], [1868, 1870, 109], [1860, 1862, 107]] = true := by decide +kernel
theorem ko_263 : k_recP kr_263 := k_rec_ok k_okm kd_263 ke_263 (by decide +kernel)
theorem kd_264_0 : k_decL cX12_nthWay ((kc_264.drop 0).take 8) = true := by decide +kernel
theorem kx_264 : kc_264 = (kc_264.drop 0).take 8 := rfl
theorem kd_264 : ∀ ch ∈ kr_264.1, ∀ q ∈ ch, decode kr_264.2.2.2.2.1 q.1 = .ok q.2 := by
  show ∀ ch ∈ kc_264, ∀ q ∈ ch, decode cX12_nthWay q.1 = .ok q.2
  rw [kx_264]
  exact (k_decL_ok kd_264_0)
theorem ke_264 : k_ents kr_264.2.2.2.1.cls kr_264.2.1 [[1287], [1288], [1785, 1787, 96]] = true := by decide +kernel
theorem ko_264 : k_recP kr_264 := k_rec_ok k_okm kd_264 ke_264 (by decide +kernel)
theorem kd_265_0 : k_decL cX12_dayOf ((kc_265.drop 0).take 8) = true := by decide +kernel
theorem kx_265 : kc_265 = (kc_265.drop 0).take 8 := rfl
theorem kd_265 : ∀ ch ∈ kr_265.1, ∀ q ∈ ch, decode kr_265.2.2.2.2.1 q.1 = .ok q.2 := by
  show ∀ ch ∈ kc_265, ∀ q ∈ ch, decode cX12_dayOf q.1 = .ok q.2
  rw [kx_265]
  exact (k_decL_ok kd_265_0)
theorem ke_265 : k_ents kr_265.2.2.2.1.cls kr_265.2.1 [[1287], [1288], [1321], [1785, 1787, 96], [1821, 1823, 102], [1877, 1879, 111], [1864, 1866, 108], [1889, 1891, 112], [1909, 1911, 115]] = true := by decide +kernel
theorem ko_265 : k_recP kr_265 := k_rec_ok k_okm kd_265 ke_265 (by decide +kernel)
theorem kd_266_0 : k_decL cX12_days ((kc_266.drop 0).take 8) = true := by decide +kernel
theorem kx_266 : kc_266 = (kc_266.drop 0).take 8 := rfl
theorem kd_266 : ∀ ch ∈ kr_266.1, ∀ q ∈ ch, decode kr_266.2.2.2.2.1 q.1 = .ok q.2 := by
  show ∀ ch ∈ kc_266, ∀ q ∈ ch, decode cX12_days q.1 = .ok q.2
  rw [kx_266]
  exact (k_decL_ok kd_266_0)
theorem ke_266 : k_ents kr_266.2.2.2.1.cls kr_266.2.1 [[1287], [1292], [1520, 1522, 49], [1623, 1624], [1860, 1862, 107], [1905, 1907, 114]] = true := by decide +kernel
theorem ko_266 : k_recP kr_266 := k_rec_ok k_okm kd_266 ke_266 (by decide +kernel)
theorem kd_267_0 : k_decL cX12_seed ((kc_267.drop 0).take 8) = true := by decide +kernel
theorem kx_267 : kc_267 = (kc_267.drop 0).take 8 := rfl
theorem kd_267 : ∀ ch ∈ kr_267.1, ∀ q ∈ ch, decode kr_267.2.2.2.2.1 q.1 = .ok q.2 := by
  show ∀ ch ∈ kc_267, ∀ q ∈ ch, decode cX12_seed q.1 = .ok q.2
  rw [kx_267]
  exact (k_decL_ok kd_267_0)
theorem ke_267 : k_ents kr_267.2.2.2.1.cls kr_267.2.1 [[1333], [1520, 1522, 49]] = true := by decide +kernel
theorem ko_267 : k_recP kr_267 := k_rec_ok k_okm kd_267 ke_267 (by decide +kernel)
theorem kd_268_0 : k_decL cX12_kept ((kc_268.drop 0).take 8) = true := by decide +kernel
theorem kx_268 : kc_268 = (kc_268.drop 0).take 8 := rfl
theorem kd_268 : ∀ ch ∈ kr_268.1, ∀ q ∈ ch, decode kr_268.2.2.2.2.1 q.1 = .ok q.2 := by
  show ∀ ch ∈ kc_268, ∀ q ∈ ch, decode cX12_kept q.1 = .ok q.2
  rw [kx_268]
  exact (k_decL_ok kd_268_0)
theorem ke_268 : k_ents kr_268.2.2.2.1.cls kr_268.2.1 [[1326], [1327], [1328], [1329], [1330], [1623, 1624]] = true := by decide +kernel
theorem ko_268 : k_recP kr_268 := k_rec_ok k_okm kd_268 ke_268 (by decide +kernel)
theorem kd_269_0 : k_decL cX12_steps ((kc_269.drop 0).take 8) = true := by decide +kernel
theorem kd_269_8 : k_decL cX12_steps ((kc_269.drop 8).take 8) = true := by decide +kernel
theorem kx_269 : kc_269 = (kc_269.drop 0).take 8 ++ ((kc_269.drop 8).take 8) := rfl
theorem kd_269 : ∀ ch ∈ kr_269.1, ∀ q ∈ ch, decode kr_269.2.2.2.2.1 q.1 = .ok q.2 := by
  show ∀ ch ∈ kc_269, ∀ q ∈ ch, decode cX12_steps q.1 = .ok q.2
  rw [kx_269]
  exact (k_dec_app (k_decL_ok kd_269_0) (k_decL_ok kd_269_8))
theorem ke_269 : k_ents kr_269.2.2.2.1.cls kr_269.2.1 [[1287], [1288], [1292], [1338], [1339], [1785, 1787, 96], [1805, 1807, 99], [1829, 1831, 104], [1933]] = true := by decide +kernel
theorem ko_269 : k_recP kr_269 := k_rec_ok k_okm kd_269 ke_269 (by decide +kernel)
theorem kd_270_0 : k_decL cX12_rests ((kc_270.drop 0).take 8) = true := by decide +kernel
theorem kd_270_8 : k_decL cX12_rests ((kc_270.drop 8).take 8) = true := by decide +kernel
theorem kx_270 : kc_270 = (kc_270.drop 0).take 8 ++ ((kc_270.drop 8).take 8) := rfl
theorem kd_270 : ∀ ch ∈ kr_270.1, ∀ q ∈ ch, decode kr_270.2.2.2.2.1 q.1 = .ok q.2 := by
  show ∀ ch ∈ kc_270, ∀ q ∈ ch, decode cX12_rests q.1 = .ok q.2
  rw [kx_270]
  exact (k_dec_app (k_decL_ok kd_270_0) (k_decL_ok kd_270_8))
theorem ke_270 : k_ents kr_270.2.2.2.1.cls kr_270.2.1 [[1287], [1288], [1338], [1340], [1933]] = true := by decide +kernel
theorem ko_270 : k_recP kr_270 := k_rec_ok k_okm kd_270 ke_270 (by decide +kernel)
theorem kd_271_0 : k_decL cX12_nextOf ((kc_271.drop 0).take 8) = true := by decide +kernel
theorem kx_271 : kc_271 = (kc_271.drop 0).take 8 := rfl
theorem kd_271 : ∀ ch ∈ kr_271.1, ∀ q ∈ ch, decode kr_271.2.2.2.2.1 q.1 = .ok q.2 := by
  show ∀ ch ∈ kc_271, ∀ q ∈ ch, decode cX12_nextOf q.1 = .ok q.2
  rw [kx_271]
  exact (k_decL_ok kd_271_0)
theorem ke_271 : k_ents kr_271.2.2.2.1.cls kr_271.2.1 [[1338], [1340]] = true := by decide +kernel
theorem ko_271 : k_recP kr_271 := k_rec_ok k_okm kd_271 ke_271 (by decide +kernel)
theorem kd_272_0 : k_decL cX12_routing ((kc_272.drop 0).take 8) = true := by decide +kernel
theorem kd_272_8 : k_decL cX12_routing ((kc_272.drop 8).take 8) = true := by decide +kernel
theorem kx_272 : kc_272 = (kc_272.drop 0).take 8 ++ ((kc_272.drop 8).take 8) := rfl
theorem kd_272 : ∀ ch ∈ kr_272.1, ∀ q ∈ ch, decode kr_272.2.2.2.2.1 q.1 = .ok q.2 := by
  show ∀ ch ∈ kc_272, ∀ q ∈ ch, decode cX12_routing q.1 = .ok q.2
  rw [kx_272]
  exact (k_dec_app (k_decL_ok kd_272_0) (k_decL_ok kd_272_8))
theorem ke_272 : k_ents kr_272.2.2.2.1.cls kr_272.2.1 [[1322], [1323], [1339], [1340], [1769, 1771, 93], [1793, 1795, 97], [1933], [1929, 1931, 117], [1934, 1936, 118], [1938, 1940, 119]] = true := by decide +kernel
theorem ko_272 : k_recP kr_272 := k_rec_ok k_okm kd_272 ke_272 (by decide +kernel)
