theorem kd_285_0 : k_decL cX12_where ((kc_285.drop 0).take 8) = true := by decide +kernel
theorem kx_285 : kc_285 = (kc_285.drop 0).take 8 := rfl
theorem kd_285 : ∀ ch ∈ kr_285.1, ∀ q ∈ ch, decode kr_285.2.2.2.2.1 q.1 = .ok q.2 := by
  show ∀ ch ∈ kc_285, ∀ q ∈ ch, decode cX12_where q.1 = .ok q.2
  rw [kx_285]
  exact (k_decL_ok kd_285_0)
theorem ke_285 : k_ents kr_285.2.2.2.1.cls kr_285.2.1 [[1343], [1344], [1769, 1771, 93], [1793, 1795, 97]] = true := by decide +kernel
theorem ko_285 : k_recP kr_285 := k_rec_ok k_okm kd_285 ke_285 (by decide +kernel)
theorem kd_286_0 : k_decL cX12_writes ((kc_286.drop 0).take 8) = true := by decide +kernel
theorem kx_286 : kc_286 = (kc_286.drop 0).take 8 := rfl
theorem kd_286 : ∀ ch ∈ kr_286.1, ∀ q ∈ ch, decode kr_286.2.2.2.2.1 q.1 = .ok q.2 := by
  show ∀ ch ∈ kc_286, ∀ q ∈ ch, decode cX12_writes q.1 = .ok q.2
  rw [kx_286]
  exact (k_decL_ok kd_286_0)
theorem ke_286 : k_ents kr_286.2.2.2.1.cls kr_286.2.1 [[1351], [1352]] = true := by decide +kernel
theorem ko_286 : k_recP kr_286 := k_rec_ok k_okm kd_286 ke_286 (by decide +kernel)
theorem kd_288_0 : k_decL cX12_image ((kc_288.drop 0).take 8) = true := by decide +kernel
theorem kx_288 : kc_288 = (kc_288.drop 0).take 8 := rfl
theorem kd_288 : ∀ ch ∈ kr_288.1, ∀ q ∈ ch, decode kr_288.2.2.2.2.1 q.1 = .ok q.2 := by
  show ∀ ch ∈ kc_288, ∀ q ∈ ch, decode cX12_image q.1 = .ok q.2
  rw [kx_288]
  exact (k_decL_ok kd_288_0)
theorem ke_288 : k_ents kr_288.2.2.2.1.cls kr_288.2.1 [[1287], [1292], [1321], [1322], [1323], [1324], [1325], [1351], [1352], [2000, 2002, 126]] = true := by decide +kernel
theorem ko_288 : k_recP kr_288 := k_rec_ok k_okm kd_288 ke_288 (by decide +kernel)
theorem kd_289_0 : k_decL cX12_octet ((kc_289.drop 0).take 8) = true := by decide +kernel
theorem kx_289 : kc_289 = (kc_289.drop 0).take 8 := rfl
theorem kd_289 : ∀ ch ∈ kr_289.1, ∀ q ∈ ch, decode kr_289.2.2.2.2.1 q.1 = .ok q.2 := by
  show ∀ ch ∈ kc_289, ∀ q ∈ ch, decode cX12_octet q.1 = .ok q.2
  rw [kx_289]
  exact (k_decL_ok kd_289_0)
theorem ke_289 : k_ents kr_289.2.2.2.1.cls kr_289.2.1 [[1351], [1352], [1623, 1624]] = true := by decide +kernel
theorem ko_289 : k_recP kr_289 := k_rec_ok k_okm kd_289 ke_289 (by decide +kernel)
theorem kd_292_0 : k_decL cX12_comesOn ((kc_292.drop 0).take 8) = true := by decide +kernel
theorem kd_292_8 : k_decL cX12_comesOn ((kc_292.drop 8).take 8) = true := by decide +kernel
theorem kx_292 : kc_292 = (kc_292.drop 0).take 8 ++ ((kc_292.drop 8).take 8) := rfl
theorem kd_292 : ∀ ch ∈ kr_292.1, ∀ q ∈ ch, decode kr_292.2.2.2.2.1 q.1 = .ok q.2 := by
  show ∀ ch ∈ kc_292, ∀ q ∈ ch, decode cX12_comesOn q.1 = .ok q.2
  rw [kx_292]
  exact (k_dec_app (k_decL_ok kd_292_0) (k_decL_ok kd_292_8))
theorem ke_292 : k_ents kr_292.2.2.2.1.cls kr_292.2.1 [[1273], [1287], [1288], [1290], [1292], [1322], [1326], [1740, 1742, 89]] = true := by decide +kernel
theorem ko_292 : k_recP kr_292 := k_rec_ok k_okm kd_292 ke_292 (by decide +kernel)
theorem kd_293_0 : k_decL cX12_on ((kc_293.drop 0).take 8) = true := by decide +kernel
theorem kx_293 : kc_293 = (kc_293.drop 0).take 8 := rfl
theorem kd_293 : ∀ ch ∈ kr_293.1, ∀ q ∈ ch, decode kr_293.2.2.2.2.1 q.1 = .ok q.2 := by
  show ∀ ch ∈ kc_293, ∀ q ∈ ch, decode cX12_on q.1 = .ok q.2
  rw [kx_293]
  exact (k_decL_ok kd_293_0)
theorem ke_293 : k_ents kr_293.2.2.2.1.cls kr_293.2.1 [[1274], [1332], [1520, 1522, 49], [1740, 1742, 89], [2016, 2018, 128]] = true := by decide +kernel
theorem ko_293 : k_recP kr_293 := k_rec_ok k_okm kd_293 ke_293 (by decide +kernel)
theorem kd_301_0 : k_decL cJ7_fill_53178 ((kc_301.drop 0).take 8) = true := by decide +kernel
theorem kx_301 : kc_301 = (kc_301.drop 0).take 8 := rfl
theorem kd_301 : ∀ ch ∈ kr_301.1, ∀ q ∈ ch, decode kr_301.2.2.2.2.1 q.1 = .ok q.2 := by
  show ∀ ch ∈ kc_301, ∀ q ∈ ch, decode cJ7_fill_53178 q.1 = .ok q.2
  rw [kx_301]
  exact (k_decL_ok kd_301_0)
theorem ke_301 : k_ents kr_301.2.2.2.1.cls kr_301.2.1 [] = true := by decide +kernel
theorem ko_301 : k_recP kr_301 := k_rec_ok k_okm kd_301 ke_301 (by decide +kernel)
