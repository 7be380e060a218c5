theorem kd_292_0 : k_decL cX12_comesOn ((kc_292.drop 0).take 8) = true := by decide +kernel
theorem kd_292_8 : k_decL cX12_comesOn ((kc_292.drop 8).take 8) = true := by decide +kernel
theorem kx_292 : kc_292 = (kc_292.drop 0).take 8 ++ ((kc_292.drop 8).take 8) := rfl
theorem kd_292 : ∀ ch ∈ kr_292.1, ∀ q ∈ ch, decode kr_292.2.2.2.2.1 q.1 = .ok q.2 := by
  show ∀ ch ∈ kc_292, ∀ q ∈ ch, decode cX12_comesOn q.1 = .ok q.2
  rw [kx_292]
  exact (k_dec_app (k_decL_ok kd_292_0) (k_decL_ok kd_292_8))
theorem ke_292 : k_ents kr_292.2.2.2.1.cls kr_292.2.1 [[1273], [1287], [1288], [1290], [1292], [1322], [1326], [1740, 1742, 89], [1777, 1779, 95], [2020, 2022, 129]] = true := by decide +kernel
theorem ko_292 : k_recP kr_292 := k_rec_ok k_okm kd_292 ke_292 (by decide +kernel)
theorem kd_293_0 : k_decL cX12_on ((kc_293.drop 0).take 8) = true := by decide +kernel
theorem kx_293 : kc_293 = (kc_293.drop 0).take 8 := rfl
theorem kd_293 : ∀ ch ∈ kr_293.1, ∀ q ∈ ch, decode kr_293.2.2.2.2.1 q.1 = .ok q.2 := by
  show ∀ ch ∈ kc_293, ∀ q ∈ ch, decode cX12_on q.1 = .ok q.2
  rw [kx_293]
  exact (k_decL_ok kd_293_0)
theorem ke_293 : k_ents kr_293.2.2.2.1.cls kr_293.2.1 [[1274], [1332], [1520, 1522, 49], [1740, 1742, 89], [2016, 2018, 128]] = true := by decide +kernel
theorem ko_293 : k_recP kr_293 := k_rec_ok k_okm kd_293 ke_293 (by decide +kernel)
theorem kd_294_0 : k_decL cJ6_bitCount_0f7a4 ((kc_294.drop 0).take 8) = true := by decide +kernel
theorem kx_294 : kc_294 = (kc_294.drop 0).take 8 := rfl
theorem kd_294 : ∀ ch ∈ kr_294.1, ∀ q ∈ ch, decode kr_294.2.2.2.2.1 q.1 = .ok q.2 := by
  show ∀ ch ∈ kc_294, ∀ q ∈ ch, decode cJ6_bitCount_0f7a4 q.1 = .ok q.2
  rw [kx_294]
  exact (k_decL_ok kd_294_0)
theorem ke_294 : k_ents kr_294.2.2.2.1.cls kr_294.2.1 [[1177], [1178], [1179]] = true := by decide +kernel
theorem ko_294 : k_recP kr_294 := k_rec_ok k_okm kd_294 ke_294 (by decide +kernel)
theorem kd_295_0 : k_decL cJ9_floorDiv_f86c9 ((kc_295.drop 0).take 8) = true := by decide +kernel
theorem kx_295 : kc_295 = (kc_295.drop 0).take 8 := rfl
theorem kd_295 : ∀ ch ∈ kr_295.1, ∀ q ∈ ch, decode kr_295.2.2.2.2.1 q.1 = .ok q.2 := by
  show ∀ ch ∈ kc_295, ∀ q ∈ ch, decode cJ9_floorDiv_f86c9 q.1 = .ok q.2
  rw [kx_295]
  exact (k_decL_ok kd_295_0)
theorem ke_295 : k_ents kr_295.2.2.2.1.cls kr_295.2.1 [] = true := by decide +kernel
theorem ko_295 : k_recP kr_295 := k_rec_ok k_okm kd_295 ke_295 (by decide +kernel)
theorem kd_296_0 : k_decL cJ9_floorMod_7cf53 ((kc_296.drop 0).take 8) = true := by decide +kernel
theorem kx_296 : kc_296 = (kc_296.drop 0).take 8 := rfl
theorem kd_296 : ∀ ch ∈ kr_296.1, ∀ q ∈ ch, decode kr_296.2.2.2.2.1 q.1 = .ok q.2 := by
  show ∀ ch ∈ kc_296, ∀ q ∈ ch, decode cJ9_floorMod_7cf53 q.1 = .ok q.2
  rw [kx_296]
  exact (k_decL_ok kd_296_0)
theorem ke_296 : k_ents kr_296.2.2.2.1.cls kr_296.2.1 [] = true := by decide +kernel
theorem ko_296 : k_recP kr_296 := k_rec_ok k_okm kd_296 ke_296 (by decide +kernel)
theorem kd_297_0 : k_decL cJ9_max_7cf53 ((kc_297.drop 0).take 8) = true := by decide +kernel
theorem kx_297 : kc_297 = (kc_297.drop 0).take 8 := rfl
theorem kd_297 : ∀ ch ∈ kr_297.1, ∀ q ∈ ch, decode kr_297.2.2.2.2.1 q.1 = .ok q.2 := by
  show ∀ ch ∈ kc_297, ∀ q ∈ ch, decode cJ9_max_7cf53 q.1 = .ok q.2
  rw [kx_297]
  exact (k_decL_ok kd_297_0)
theorem ke_297 : k_ents kr_297.2.2.2.1.cls kr_297.2.1 [] = true := by decide +kernel
theorem ko_297 : k_recP kr_297 := k_rec_ok k_okm kd_297 ke_297 (by decide +kernel)
theorem kd_298_0 : k_decL cJ9_max_f86c9 ((kc_298.drop 0).take 8) = true := by decide +kernel
theorem kx_298 : kc_298 = (kc_298.drop 0).take 8 := rfl
theorem kd_298 : ∀ ch ∈ kr_298.1, ∀ q ∈ ch, decode kr_298.2.2.2.2.1 q.1 = .ok q.2 := by
  show ∀ ch ∈ kc_298, ∀ q ∈ ch, decode cJ9_max_f86c9 q.1 = .ok q.2
  rw [kx_298]
  exact (k_decL_ok kd_298_0)
theorem ke_298 : k_ents kr_298.2.2.2.1.cls kr_298.2.1 [] = true := by decide +kernel
theorem ko_298 : k_recP kr_298 := k_rec_ok k_okm kd_298 ke_298 (by decide +kernel)
theorem kd_299_0 : k_decL cJ9_min_7cf53 ((kc_299.drop 0).take 8) = true := by decide +kernel
theorem kx_299 : kc_299 = (kc_299.drop 0).take 8 := rfl
theorem kd_299 : ∀ ch ∈ kr_299.1, ∀ q ∈ ch, decode kr_299.2.2.2.2.1 q.1 = .ok q.2 := by
  show ∀ ch ∈ kc_299, ∀ q ∈ ch, decode cJ9_min_7cf53 q.1 = .ok q.2
  rw [kx_299]
  exact (k_decL_ok kd_299_0)
theorem ke_299 : k_ents kr_299.2.2.2.1.cls kr_299.2.1 [] = true := by decide +kernel
theorem ko_299 : k_recP kr_299 := k_rec_ok k_okm kd_299 ke_299 (by decide +kernel)
theorem kd_300_0 : k_decL cJ9_min_f86c9 ((kc_300.drop 0).take 8) = true := by decide +kernel
theorem kx_300 : kc_300 = (kc_300.drop 0).take 8 := rfl
theorem kd_300 : ∀ ch ∈ kr_300.1, ∀ q ∈ ch, decode kr_300.2.2.2.2.1 q.1 = .ok q.2 := by
  show ∀ ch ∈ kc_300, ∀ q ∈ ch, decode cJ9_min_f86c9 q.1 = .ok q.2
  rw [kx_300]
  exact (k_decL_ok kd_300_0)
theorem ke_300 : k_ents kr_300.2.2.2.1.cls kr_300.2.1 [] = true := by decide +kernel
theorem ko_300 : k_recP kr_300 := k_rec_ok k_okm kd_300 ke_300 (by decide +kernel)
theorem kd_301_0 : k_decL cJ7_fill_53178 ((kc_301.drop 0).take 8) = true := by decide +kernel
theorem kx_301 : kc_301 = (kc_301.drop 0).take 8 := rfl
theorem kd_301 : ∀ ch ∈ kr_301.1, ∀ q ∈ ch, decode kr_301.2.2.2.2.1 q.1 = .ok q.2 := by
  show ∀ ch ∈ kc_301, ∀ q ∈ ch, decode cJ7_fill_53178 q.1 = .ok q.2
  rw [kx_301]
  exact (k_decL_ok kd_301_0)
theorem ke_301 : k_ents kr_301.2.2.2.1.cls kr_301.2.1 [] = true := by decide +kernel
theorem ko_301 : k_recP kr_301 := k_rec_ok k_okm kd_301 ke_301 (by decide +kernel)
theorem kd_302_0 : k_decL cJ7_copyOf_59c91 ((kc_302.drop 0).take 8) = true := by decide +kernel
theorem kx_302 : kc_302 = (kc_302.drop 0).take 8 := rfl
theorem kd_302 : ∀ ch ∈ kr_302.1, ∀ q ∈ ch, decode kr_302.2.2.2.2.1 q.1 = .ok q.2 := by
  show ∀ ch ∈ kc_302, ∀ q ∈ ch, decode cJ7_copyOf_59c91 q.1 = .ok q.2
  rw [kx_302]
  exact (k_decL_ok kd_302_0)
theorem ke_302 : k_ents kr_302.2.2.2.1.cls kr_302.2.1 [[724, 726, 725, 147], [723, 560]] = true := by decide +kernel
theorem ko_302 : k_recP kr_302 := k_rec_ok k_okm kd_302 ke_302 (by decide +kernel)
