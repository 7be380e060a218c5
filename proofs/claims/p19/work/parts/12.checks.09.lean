theorem kd_199_0 : k_decL cX12_counts ((kc_199.drop 0).take 8) = true := by decide +kernel
theorem kx_199 : kc_199 = (kc_199.drop 0).take 8 := rfl
theorem kd_199 : ∀ ch ∈ kr_199.1, ∀ q ∈ ch, decode kr_199.2.2.2.2.1 q.1 = .ok q.2 := by
  show ∀ ch ∈ kc_199, ∀ q ∈ ch, decode cX12_counts q.1 = .ok q.2
  rw [kx_199]
  exact (k_decL_ok kd_199_0)
theorem ke_199 : k_ents kr_199.2.2.2.1.cls kr_199.2.1 [[1277], [1282], [1583, 1585, 55], [1536, 1538, 51]] = true := by decide +kernel
theorem ko_199 : k_recP kr_199 := k_rec_ok k_okm kd_199 ke_199 (by decide +kernel)
theorem kd_200_0 : k_decL cX12_must_ ((kc_200.drop 0).take 8) = true := by decide +kernel
theorem kx_200 : kc_200 = (kc_200.drop 0).take 8 := rfl
theorem kd_200 : ∀ ch ∈ kr_200.1, ∀ q ∈ ch, decode kr_200.2.2.2.2.1 q.1 = .ok q.2 := by
  show ∀ ch ∈ kc_200, ∀ q ∈ ch, decode cX12_must_ q.1 = .ok q.2
  rw [kx_200]
  exact (k_decL_ok kd_200_0)
theorem ke_200 : k_ents kr_200.2.2.2.1.cls kr_200.2.1 [[1277], [1282], [1583, 1585, 55], [1579, 1581, 54], [1536, 1538, 51], [1587, 1589, 56]] = true := by decide +kernel
theorem ko_200 : k_recP kr_200 := k_rec_ok k_okm kd_200 ke_200 (by decide +kernel)
theorem kd_201_0 : k_decL cX12_fresh ((kc_201.drop 0).take 8) = true := by decide +kernel
theorem kx_201 : kc_201 = (kc_201.drop 0).take 8 := rfl
theorem kd_201 : ∀ ch ∈ kr_201.1, ∀ q ∈ ch, decode kr_201.2.2.2.2.1 q.1 = .ok q.2 := by
  show ∀ ch ∈ kc_201, ∀ q ∈ ch, decode cX12_fresh q.1 = .ok q.2
  rw [kx_201]
  exact (k_decL_ok kd_201_0)
theorem ke_201 : k_ents kr_201.2.2.2.1.cls kr_201.2.1 [[1276], [1277], [1280], [1282], [1583, 1585, 55], [1547, 1549, 52], [1579, 1581, 54], [1536, 1538, 51], [1603, 1605, 60]] = true := by decide +kernel
theorem ko_201 : k_recP kr_201 := k_rec_ok k_okm kd_201 ke_201 (by decide +kernel)
theorem kd_202_0 : k_decL cX12_looked ((kc_202.drop 0).take 8) = true := by decide +kernel
theorem kx_202 : kc_202 = (kc_202.drop 0).take 8 := rfl
theorem kd_202 : ∀ ch ∈ kr_202.1, ∀ q ∈ ch, decode kr_202.2.2.2.2.1 q.1 = .ok q.2 := by
  show ∀ ch ∈ kc_202, ∀ q ∈ ch, decode cX12_looked q.1 = .ok q.2
  rw [kx_202]
  exact (k_decL_ok kd_202_0)
theorem ke_202 : k_ents kr_202.2.2.2.1.cls kr_202.2.1 [[1276], [1277], [1280], [1282], [1583, 1585, 55], [1547, 1549, 52], [1579, 1581, 54], [1603, 1605, 60]] = true := by decide +kernel
theorem ko_202 : k_recP kr_202 := k_rec_ok k_okm kd_202 ke_202 (by decide +kernel)
theorem kd_203_0 : k_decL cX12_asked ((kc_203.drop 0).take 8) = true := by decide +kernel
theorem kx_203 : kc_203 = (kc_203.drop 0).take 8 := rfl
theorem kd_203 : ∀ ch ∈ kr_203.1, ∀ q ∈ ch, decode kr_203.2.2.2.2.1 q.1 = .ok q.2 := by
  show ∀ ch ∈ kc_203, ∀ q ∈ ch, decode cX12_asked q.1 = .ok q.2
  rw [kx_203]
  exact (k_decL_ok kd_203_0)
theorem ke_203 : k_ents kr_203.2.2.2.1.cls kr_203.2.1 [[1282], [1536, 1538, 51], [1634, 1636, 67]] = true := by decide +kernel
theorem ko_203 : k_recP kr_203 := k_rec_ok k_okm kd_203 ke_203 (by decide +kernel)
theorem kd_204_0 : k_decL cX12_rooming ((kc_204.drop 0).take 8) = true := by decide +kernel
theorem kd_204_8 : k_decL cX12_rooming ((kc_204.drop 8).take 8) = true := by decide +kernel
theorem kx_204 : kc_204 = (kc_204.drop 0).take 8 ++ ((kc_204.drop 8).take 8) := rfl
theorem kd_204 : ∀ ch ∈ kr_204.1, ∀ q ∈ ch, decode kr_204.2.2.2.2.1 q.1 = .ok q.2 := by
  show ∀ ch ∈ kc_204, ∀ q ∈ ch, decode cX12_rooming q.1 = .ok q.2
  rw [kx_204]
  exact (k_dec_app (k_decL_ok kd_204_0) (k_decL_ok kd_204_8))
theorem ke_204 : k_ents kr_204.2.2.2.1.cls kr_204.2.1 [[1282], [1288], [1289], [1290], [1291], [1306], [1309], [1552], [1553], [1595, 1597, 58], [1599, 1601, 59], [1615, 1617, 63], [1619, 1621, 64]] = true := by decide +kernel
theorem ko_204 : k_recP kr_204 := k_rec_ok k_okm kd_204 ke_204 (by decide +kernel)
theorem kd_205_0 : k_decL cX12_waying ((kc_205.drop 0).take 8) = true := by decide +kernel
theorem kx_205 : kc_205 = (kc_205.drop 0).take 8 := rfl
theorem kd_205 : ∀ ch ∈ kr_205.1, ∀ q ∈ ch, decode kr_205.2.2.2.2.1 q.1 = .ok q.2 := by
  show ∀ ch ∈ kc_205, ∀ q ∈ ch, decode cX12_waying q.1 = .ok q.2
  rw [kx_205]
  exact (k_decL_ok kd_205_0)
theorem ke_205 : k_ents kr_205.2.2.2.1.cls kr_205.2.1 [[1277], [1282], [1291], [1309], [1583, 1585, 55], [1536, 1538, 51], [1555], [1634, 1636, 67], [1595, 1597, 58], [1615, 1617, 63], [1619, 1621, 64], [1630, 1632, 66]] = true := by decide +kernel
theorem ko_205 : k_recP kr_205 := k_rec_ok k_okm kd_205 ke_205 (by decide +kernel)
theorem kd_206_0 : k_decL cX12_toldIn ((kc_206.drop 0).take 8) = true := by decide +kernel
theorem kx_206 : kc_206 = (kc_206.drop 0).take 8 := rfl
theorem kd_206 : ∀ ch ∈ kr_206.1, ∀ q ∈ ch, decode kr_206.2.2.2.2.1 q.1 = .ok q.2 := by
  show ∀ ch ∈ kc_206, ∀ q ∈ ch, decode cX12_toldIn q.1 = .ok q.2
  rw [kx_206]
  exact (k_decL_ok kd_206_0)
theorem ke_206 : k_ents kr_206.2.2.2.1.cls kr_206.2.1 [[1292], [1295], [1296], [1309]] = true := by decide +kernel
theorem ko_206 : k_recP kr_206 := k_rec_ok k_okm kd_206 ke_206 (by decide +kernel)
theorem kd_207_0 : k_decL cX12_personing ((kc_207.drop 0).take 8) = true := by decide +kernel
theorem kd_207_8 : k_decL cX12_personing ((kc_207.drop 8).take 8) = true := by decide +kernel
theorem kx_207 : kc_207 = (kc_207.drop 0).take 8 ++ ((kc_207.drop 8).take 8) := rfl
theorem kd_207 : ∀ ch ∈ kr_207.1, ∀ q ∈ ch, decode kr_207.2.2.2.2.1 q.1 = .ok q.2 := by
  show ∀ ch ∈ kc_207, ∀ q ∈ ch, decode cX12_personing q.1 = .ok q.2
  rw [kx_207]
  exact (k_dec_app (k_decL_ok kd_207_0) (k_decL_ok kd_207_8))
theorem ke_207 : k_ents kr_207.2.2.2.1.cls kr_207.2.1 [[1277], [1282], [1289], [1290], [1292], [1293], [1294], [1295], [1296], [1297], [1307], [1309], [1583, 1585, 55], [1536, 1538, 51], [1557], [1558], [1559], [1560], [1634, 1636, 67], [1595, 1597, 58], [1599, 1601, 59], [1615, 1617, 63], [1619, 1621, 64], [1642, 1644, 69]] = true := by decide +kernel
theorem ko_207 : k_recP kr_207 := k_rec_ok k_okm kd_207 ke_207 (by decide +kernel)
theorem kd_208_0 : k_decL cX12_unjoined ((kc_208.drop 0).take 8) = true := by decide +kernel
theorem kx_208 : kc_208 = (kc_208.drop 0).take 8 := rfl
theorem kd_208 : ∀ ch ∈ kr_208.1, ∀ q ∈ ch, decode kr_208.2.2.2.2.1 q.1 = .ok q.2 := by
  show ∀ ch ∈ kc_208, ∀ q ∈ ch, decode cX12_unjoined q.1 = .ok q.2
  rw [kx_208]
  exact (k_decL_ok kd_208_0)
theorem ke_208 : k_ents kr_208.2.2.2.1.cls kr_208.2.1 [[1277], [1282], [1297], [1309], [1583, 1585, 55], [1536, 1538, 51], [1634, 1636, 67]] = true := by decide +kernel
theorem ko_208 : k_recP kr_208 := k_rec_ok k_okm kd_208 ke_208 (by decide +kernel)
theorem kd_209_0 : k_decL cX12_joining ((kc_209.drop 0).take 8) = true := by decide +kernel
theorem kx_209 : kc_209 = (kc_209.drop 0).take 8 := rfl
theorem kd_209 : ∀ ch ∈ kr_209.1, ∀ q ∈ ch, decode kr_209.2.2.2.2.1 q.1 = .ok q.2 := by
  show ∀ ch ∈ kc_209, ∀ q ∈ ch, decode cX12_joining q.1 = .ok q.2
  rw [kx_209]
  exact (k_decL_ok kd_209_0)
theorem ke_209 : k_ents kr_209.2.2.2.1.cls kr_209.2.1 [[1282], [1297], [1309], [1595, 1597, 58], [1650, 1652, 71]] = true := by decide +kernel
theorem ko_209 : k_recP kr_209 := k_rec_ok k_okm kd_209 ke_209 (by decide +kernel)
theorem kd_210_0 : k_decL cX12_slowing ((kc_210.drop 0).take 8) = true := by decide +kernel
theorem kx_210 : kc_210 = (kc_210.drop 0).take 8 := rfl
theorem kd_210 : ∀ ch ∈ kr_210.1, ∀ q ∈ ch, decode kr_210.2.2.2.2.1 q.1 = .ok q.2 := by
  show ∀ ch ∈ kc_210, ∀ q ∈ ch, decode cX12_slowing q.1 = .ok q.2
  rw [kx_210]
  exact (k_decL_ok kd_210_0)
theorem ke_210 : k_ents kr_210.2.2.2.1.cls kr_210.2.1 [[1298], [1299], [1308], [1309], [1595, 1597, 58], [1658, 1660, 73]] = true := by decide +kernel
theorem ko_210 : k_recP kr_210 := k_rec_ok k_okm kd_210 ke_210 (by decide +kernel)
theorem kd_211_0 : k_decL cX12_standingSum ((kc_211.drop 0).take 8) = true := by decide +kernel
theorem kx_211 : kc_211 = (kc_211.drop 0).take 8 := rfl
theorem kd_211 : ∀ ch ∈ kr_211.1, ∀ q ∈ ch, decode kr_211.2.2.2.2.1 q.1 = .ok q.2 := by
  show ∀ ch ∈ kc_211, ∀ q ∈ ch, decode cX12_standingSum q.1 = .ok q.2
  rw [kx_211]
  exact (k_decL_ok kd_211_0)
theorem ke_211 : k_ents kr_211.2.2.2.1.cls kr_211.2.1 [[1300], [1301], [1308], [1309], [1595, 1597, 58], [1658, 1660, 73]] = true := by decide +kernel
theorem ko_211 : k_recP kr_211 := k_rec_ok k_okm kd_211 ke_211 (by decide +kernel)
theorem kd_212_0 : k_decL cX12_breaks ((kc_212.drop 0).take 8) = true := by decide +kernel
theorem kx_212 : kc_212 = (kc_212.drop 0).take 8 := rfl
theorem kd_212 : ∀ ch ∈ kr_212.1, ∀ q ∈ ch, decode kr_212.2.2.2.2.1 q.1 = .ok q.2 := by
  show ∀ ch ∈ kc_212, ∀ q ∈ ch, decode cX12_breaks q.1 = .ok q.2
  rw [kx_212]
  exact (k_decL_ok kd_212_0)
theorem ke_212 : k_ents kr_212.2.2.2.1.cls kr_212.2.1 [[1282], [1302], [1309], [1595, 1597, 58], [1619, 1621, 64]] = true := by decide +kernel
theorem ko_212 : k_recP kr_212 := k_rec_ok k_okm kd_212 ke_212 (by decide +kernel)
theorem kd_213_0 : k_decL cX12_mending ((kc_213.drop 0).take 8) = true := by decide +kernel
theorem kx_213 : kc_213 = (kc_213.drop 0).take 8 := rfl
theorem kd_213 : ∀ ch ∈ kr_213.1, ∀ q ∈ ch, decode kr_213.2.2.2.2.1 q.1 = .ok q.2 := by
  show ∀ ch ∈ kc_213, ∀ q ∈ ch, decode cX12_mending q.1 = .ok q.2
  rw [kx_213]
  exact (k_decL_ok kd_213_0)
theorem ke_213 : k_ents kr_213.2.2.2.1.cls kr_213.2.1 [[1282], [1303], [1309], [1595, 1597, 58], [1630, 1632, 66]] = true := by decide +kernel
theorem ko_213 : k_recP kr_213 := k_rec_ok k_okm kd_213 ke_213 (by decide +kernel)
theorem kd_214_0 : k_decL cX12_statement ((kc_214.drop 0).take 8) = true := by decide +kernel
theorem kd_214_8 : k_decL cX12_statement ((kc_214.drop 8).take 8) = true := by decide +kernel
theorem kx_214 : kc_214 = (kc_214.drop 0).take 8 ++ ((kc_214.drop 8).take 8) := rfl
theorem kd_214 : ∀ ch ∈ kr_214.1, ∀ q ∈ ch, decode kr_214.2.2.2.2.1 q.1 = .ok q.2 := by
  show ∀ ch ∈ kc_214, ∀ q ∈ ch, decode cX12_statement q.1 = .ok q.2
  rw [kx_214]
  exact (k_dec_app (k_decL_ok kd_214_0) (k_decL_ok kd_214_8))
theorem ke_214 : k_ents kr_214.2.2.2.1.cls kr_214.2.1 [[1277], [1282], [1583, 1585, 55], [1579, 1581, 54], [1551], [1554], [1556], [1561], [1562], [1563], [1564], [1587, 1589, 56], [1591, 1593, 57], [1626, 1628, 65], [1638, 1640, 68], [1646, 1648, 70], [1654, 1656, 72], [1700, 1702, 82], [1704, 1706, 83], [1708, 1710, 84]] = true := by decide +kernel
theorem ko_214 : k_recP kr_214 := k_rec_ok k_okm kd_214 ke_214 (by decide +kernel)
theorem kd_215_0 : k_decL cX12_finishes ((kc_215.drop 0).take 8) = true := by decide +kernel
theorem kx_215 : kc_215 = (kc_215.drop 0).take 8 := rfl
theorem kd_215 : ∀ ch ∈ kr_215.1, ∀ q ∈ ch, decode kr_215.2.2.2.2.1 q.1 = .ok q.2 := by
  show ∀ ch ∈ kc_215, ∀ q ∈ ch, decode cX12_finishes q.1 = .ok q.2
  rw [kx_215]
  exact (k_decL_ok kd_215_0)
theorem ke_215 : k_ents kr_215.2.2.2.1.cls kr_215.2.1 [[1273], [1275], [1278], [1282], [1583, 1585, 55], [1579, 1581, 54], [1677, 1679, 77], [1716, 1718, 86]] = true := by decide +kernel
theorem ko_215 : k_recP kr_215 := k_rec_ok k_okm kd_215 ke_215 (by decide +kernel)
theorem kd_216_0 : k_decL cX12_town ((kc_216.drop 0).take 8) = true := by decide +kernel
theorem kd_216_8 : k_decL cX12_town ((kc_216.drop 8).take 8) = true := by decide +kernel
theorem kx_216 : kc_216 = (kc_216.drop 0).take 8 ++ ((kc_216.drop 8).take 8) := rfl
theorem kd_216 : ∀ ch ∈ kr_216.1, ∀ q ∈ ch, decode kr_216.2.2.2.2.1 q.1 = .ok q.2 := by
  show ∀ ch ∈ kc_216, ∀ q ∈ ch, decode cX12_town q.1 = .ok q.2
  rw [kx_216]
  exact (k_dec_app (k_decL_ok kd_216_0) (k_decL_ok kd_216_8))
theorem ke_216 : k_ents kr_216.2.2.2.1.cls kr_216.2.1 [[1274], [1275], [1276], [1278], [1282], [1283], [1284], [1285], [1287], [1288], [1292], [1298], [1300], [1302], [1303], [1308], [1309], [1520, 1522, 49], [1536, 1538, 51], [1575, 1577, 53], [1712, 1714, 85], [1720, 1722, 87]] = true := by decide +kernel
theorem ko_216 : k_recP kr_216 := k_rec_ok k_okm kd_216 ke_216 (by decide +kernel)
theorem kd_217_0 : k_decL cX12_fault ((kc_217.drop 0).take 8) = true := by decide +kernel
theorem kx_217 : kc_217 = (kc_217.drop 0).take 8 := rfl
theorem kd_217 : ∀ ch ∈ kr_217.1, ∀ q ∈ ch, decode kr_217.2.2.2.2.1 q.1 = .ok q.2 := by
  show ∀ ch ∈ kc_217, ∀ q ∈ ch, decode cX12_fault q.1 = .ok q.2
  rw [kx_217]
  exact (k_decL_ok kd_217_0)
theorem ke_217 : k_ents kr_217.2.2.2.1.cls kr_217.2.1 [[1284], [1285]] = true := by decide +kernel
theorem ko_217 : k_recP kr_217 := k_rec_ok k_okm kd_217 ke_217 (by decide +kernel)
theorem kd_218_0 : k_decL cX12_refuses ((kc_218.drop 0).take 8) = true := by decide +kernel
theorem kx_218 : kc_218 = (kc_218.drop 0).take 8 := rfl
theorem kd_218 : ∀ ch ∈ kr_218.1, ∀ q ∈ ch, decode kr_218.2.2.2.2.1 q.1 = .ok q.2 := by
  show ∀ ch ∈ kc_218, ∀ q ∈ ch, decode cX12_refuses q.1 = .ok q.2
  rw [kx_218]
  exact (k_decL_ok kd_218_0)
theorem ke_218 : k_ents kr_218.2.2.2.1.cls kr_218.2.1 [[1320]] = true := by decide +kernel
theorem ko_218 : k_recP kr_218 := k_rec_ok k_okm kd_218 ke_218 (by decide +kernel)
theorem kd_219_0 : k_decL cX12_status ((kc_219.drop 0).take 8) = true := by decide +kernel
theorem kx_219 : kc_219 = (kc_219.drop 0).take 8 := rfl
theorem kd_219 : ∀ ch ∈ kr_219.1, ∀ q ∈ ch, decode kr_219.2.2.2.2.1 q.1 = .ok q.2 := by
  show ∀ ch ∈ kc_219, ∀ q ∈ ch, decode cX12_status q.1 = .ok q.2
  rw [kx_219]
  exact (k_decL_ok kd_219_0)
theorem ke_219 : k_ents kr_219.2.2.2.1.cls kr_219.2.1 [[1320], [1623, 1624]] = true := by decide +kernel
theorem ko_219 : k_recP kr_219 := k_rec_ok k_okm kd_219 ke_219 (by decide +kernel)
theorem kd_220_0 : k_decL cX12_isRoom ((kc_220.drop 0).take 8) = true := by decide +kernel
theorem kx_220 : kc_220 = (kc_220.drop 0).take 8 := rfl
theorem kd_220 : ∀ ch ∈ kr_220.1, ∀ q ∈ ch, decode kr_220.2.2.2.2.1 q.1 = .ok q.2 := by
  show ∀ ch ∈ kc_220, ∀ q ∈ ch, decode cX12_isRoom q.1 = .ok q.2
  rw [kx_220]
  exact (k_decL_ok kd_220_0)
theorem ke_220 : k_ents kr_220.2.2.2.1.cls kr_220.2.1 [[1287], [1288]] = true := by decide +kernel
theorem ko_220 : k_recP kr_220 := k_rec_ok k_okm kd_220 ke_220 (by decide +kernel)
theorem kd_221_0 : k_decL cX12_isPerson ((kc_221.drop 0).take 8) = true := by decide +kernel
theorem kx_221 : kc_221 = (kc_221.drop 0).take 8 := rfl
theorem kd_221 : ∀ ch ∈ kr_221.1, ∀ q ∈ ch, decode kr_221.2.2.2.2.1 q.1 = .ok q.2 := by
  show ∀ ch ∈ kc_221, ∀ q ∈ ch, decode cX12_isPerson q.1 = .ok q.2
  rw [kx_221]
  exact (k_decL_ok kd_221_0)
theorem ke_221 : k_ents kr_221.2.2.2.1.cls kr_221.2.1 [[1287], [1292]] = true := by decide +kernel
theorem ko_221 : k_recP kr_221 := k_rec_ok k_okm kd_221 ke_221 (by decide +kernel)
theorem kd_222_0 : k_decL cX12_has2 ((kc_222.drop 0).take 8) = true := by decide +kernel
theorem kx_222 : kc_222 = (kc_222.drop 0).take 8 := rfl
theorem kd_222 : ∀ ch ∈ kr_222.1, ∀ q ∈ ch, decode kr_222.2.2.2.2.1 q.1 = .ok q.2 := by
  show ∀ ch ∈ kc_222, ∀ q ∈ ch, decode cX12_has2 q.1 = .ok q.2
  rw [kx_222]
  exact (k_decL_ok kd_222_0)
theorem ke_222 : k_ents kr_222.2.2.2.1.cls kr_222.2.1 [] = true := by decide +kernel
theorem ko_222 : k_recP kr_222 := k_rec_ok k_okm kd_222 ke_222 (by decide +kernel)
theorem kd_223_0 : k_decL cX12_bits ((kc_223.drop 0).take 8) = true := by decide +kernel
theorem kx_223 : kc_223 = (kc_223.drop 0).take 8 := rfl
theorem kd_223 : ∀ ch ∈ kr_223.1, ∀ q ∈ ch, decode kr_223.2.2.2.2.1 q.1 = .ok q.2 := by
  show ∀ ch ∈ kc_223, ∀ q ∈ ch, decode cX12_bits q.1 = .ok q.2
  rw [kx_223]
  exact (k_decL_ok kd_223_0)
theorem ke_223 : k_ents kr_223.2.2.2.1.cls kr_223.2.1 [] = true := by decide +kernel
theorem ko_223 : k_recP kr_223 := k_rec_ok k_okm kd_223 ke_223 (by decide +kernel)
theorem kd_224_0 : k_decL cX12_copies ((kc_224.drop 0).take 8) = true := by decide +kernel
theorem kd_224_8 : k_decL cX12_copies ((kc_224.drop 8).take 8) = true := by decide +kernel
theorem kx_224 : kc_224 = (kc_224.drop 0).take 8 ++ ((kc_224.drop 8).take 8) := rfl
theorem kd_224 : ∀ ch ∈ kr_224.1, ∀ q ∈ ch, decode kr_224.2.2.2.2.1 q.1 = .ok q.2 := by
  show ∀ ch ∈ kc_224, ∀ q ∈ ch, decode cX12_copies q.1 = .ok q.2
  rw [kx_224]
  exact (k_dec_app (k_decL_ok kd_224_0) (k_decL_ok kd_224_8))
theorem ke_224 : k_ents kr_224.2.2.2.1.cls kr_224.2.1 [[1321], [1322], [1323], [1324], [1325], [1326], [1327], [1328], [1329], [1330]] = true := by decide +kernel
theorem ko_224 : k_recP kr_224 := k_rec_ok k_okm kd_224 ke_224 (by decide +kernel)
