theorem kd_183_0 : k_decL cX12_must ((kc_183.drop 0).take 8) = true := by decide +kernel
theorem kx_183 : kc_183 = (kc_183.drop 0).take 8 := rfl
theorem kd_183 : ∀ ch ∈ kr_183.1, ∀ q ∈ ch, decode kr_183.2.2.2.2.1 q.1 = .ok q.2 := by
  show ∀ ch ∈ kc_183, ∀ q ∈ ch, decode cX12_must q.1 = .ok q.2
  rw [kx_183]
  exact (k_decL_ok kd_183_0)
theorem ke_183 : k_ents kr_183.2.2.2.1.cls kr_183.2.1 [[1277], [1282], [1583, 1585, 55], [1579, 1581, 54], [1677, 1679, 77], [1536, 1538, 51]] = true := by decide +kernel
theorem ko_183 : k_recP kr_183 := k_rec_ok k_okm kd_183 ke_183 (by decide +kernel)
theorem kd_184_0 : k_decL cX12_isOwn ((kc_184.drop 0).take 8) = true := by decide +kernel
theorem kd_184_8 : k_decL cX12_isOwn ((kc_184.drop 8).take 8) = true := by decide +kernel
theorem kx_184 : kc_184 = (kc_184.drop 0).take 8 ++ ((kc_184.drop 8).take 8) := rfl
theorem kd_184 : ∀ ch ∈ kr_184.1, ∀ q ∈ ch, decode kr_184.2.2.2.2.1 q.1 = .ok q.2 := by
  show ∀ ch ∈ kc_184, ∀ q ∈ ch, decode cX12_isOwn q.1 = .ok q.2
  rw [kx_184]
  exact (k_dec_app (k_decL_ok kd_184_0) (k_decL_ok kd_184_8))
theorem ke_184 : k_ents kr_184.2.2.2.1.cls kr_184.2.1 [[1551], [1552], [1553], [1554], [1555], [1556], [1557], [1558], [1559], [1560], [1561], [1562], [1563], [1564], [1565], [1566], [1567], [1568], [1569], [1570], [1571], [1572], [1573], [1574]] = true := by decide +kernel
theorem ko_184 : k_recP kr_184 := k_rec_ok k_okm kd_184 ke_184 (by decide +kernel)
theorem kd_185_0 : k_decL cX12_manyOf ((kc_185.drop 0).take 8) = true := by decide +kernel
theorem kx_185 : kc_185 = (kc_185.drop 0).take 8 := rfl
theorem kd_185 : ∀ ch ∈ kr_185.1, ∀ q ∈ ch, decode kr_185.2.2.2.2.1 q.1 = .ok q.2 := by
  show ∀ ch ∈ kc_185, ∀ q ∈ ch, decode cX12_manyOf q.1 = .ok q.2
  rw [kx_185]
  exact (k_decL_ok kd_185_0)
theorem ke_185 : k_ents kr_185.2.2.2.1.cls kr_185.2.1 [[1288], [1292]] = true := by decide +kernel
theorem ko_185 : k_recP kr_185 := k_rec_ok k_okm kd_185 ke_185 (by decide +kernel)
theorem kd_186_0 : k_decL cX12_nameOf ((kc_186.drop 0).take 8) = true := by decide +kernel
theorem kx_186 : kc_186 = (kc_186.drop 0).take 8 := rfl
theorem kd_186 : ∀ ch ∈ kr_186.1, ∀ q ∈ ch, decode kr_186.2.2.2.2.1 q.1 = .ok q.2 := by
  show ∀ ch ∈ kc_186, ∀ q ∈ ch, decode cX12_nameOf q.1 = .ok q.2
  rw [kx_186]
  exact (k_decL_ok kd_186_0)
theorem ke_186 : k_ents kr_186.2.2.2.1.cls kr_186.2.1 [[1306], [1307]] = true := by decide +kernel
theorem ko_186 : k_recP kr_186 := k_rec_ok k_okm kd_186 ke_186 (by decide +kernel)
theorem kd_187_0 : k_decL cX12_named ((kc_187.drop 0).take 8) = true := by decide +kernel
theorem kx_187 : kc_187 = (kc_187.drop 0).take 8 := rfl
theorem kd_187 : ∀ ch ∈ kr_187.1, ∀ q ∈ ch, decode kr_187.2.2.2.2.1 q.1 = .ok q.2 := by
  show ∀ ch ∈ kc_187, ∀ q ∈ ch, decode cX12_named q.1 = .ok q.2
  rw [kx_187]
  exact (k_decL_ok kd_187_0)
theorem ke_187 : k_ents kr_187.2.2.2.1.cls kr_187.2.1 [[1309], [1607, 1609, 61], [1611, 1613, 62]] = true := by decide +kernel
theorem ko_187 : k_recP kr_187 := k_rec_ok k_okm kd_187 ke_187 (by decide +kernel)
theorem kd_188_0 : k_decL cX12_number ((kc_188.drop 0).take 8) = true := by decide +kernel
theorem kx_188 : kc_188 = (kc_188.drop 0).take 8 := rfl
theorem kd_188 : ∀ ch ∈ kr_188.1, ∀ q ∈ ch, decode kr_188.2.2.2.2.1 q.1 = .ok q.2 := by
  show ∀ ch ∈ kc_188, ∀ q ∈ ch, decode cX12_number q.1 = .ok q.2
  rw [kx_188]
  exact (k_decL_ok kd_188_0)
theorem ke_188 : k_ents kr_188.2.2.2.1.cls kr_188.2.1 [[1276], [1277], [1279], [1282], [1583, 1585, 55], [1579, 1581, 54], [1536, 1538, 51], [1623, 1624]] = true := by decide +kernel
theorem ko_188 : k_recP kr_188 := k_rec_ok k_okm kd_188 ke_188 (by decide +kernel)
theorem kd_189_0 : k_decL cX12_add ((kc_189.drop 0).take 8) = true := by decide +kernel
theorem kx_189 : kc_189 = (kc_189.drop 0).take 8 := rfl
theorem kd_189 : ∀ ch ∈ kr_189.1, ∀ q ∈ ch, decode kr_189.2.2.2.2.1 q.1 = .ok q.2 := by
  show ∀ ch ∈ kc_189, ∀ q ∈ ch, decode cX12_add q.1 = .ok q.2
  rw [kx_189]
  exact (k_decL_ok kd_189_0)
theorem ke_189 : k_ents kr_189.2.2.2.1.cls kr_189.2.1 [[1304], [1305], [1308], [1309]] = true := by decide +kernel
theorem ko_189 : k_recP kr_189 := k_rec_ok k_okm kd_189 ke_189 (by decide +kernel)
theorem kd_190_0 : k_decL cX12_rank ((kc_190.drop 0).take 8) = true := by decide +kernel
theorem kx_190 : kc_190 = (kc_190.drop 0).take 8 := rfl
theorem kd_190 : ∀ ch ∈ kr_190.1, ∀ q ∈ ch, decode kr_190.2.2.2.2.1 q.1 = .ok q.2 := by
  show ∀ ch ∈ kc_190, ∀ q ∈ ch, decode cX12_rank q.1 = .ok q.2
  rw [kx_190]
  exact (k_decL_ok kd_190_0)
theorem ke_190 : k_ents kr_190.2.2.2.1.cls kr_190.2.1 [] = true := by decide +kernel
theorem ko_190 : k_recP kr_190 := k_rec_ok k_okm kd_190 ke_190 (by decide +kernel)
theorem kd_191_0 : k_decL cX12_joins ((kc_191.drop 0).take 8) = true := by decide +kernel
theorem kx_191 : kc_191 = (kc_191.drop 0).take 8 := rfl
theorem kd_191 : ∀ ch ∈ kr_191.1, ∀ q ∈ ch, decode kr_191.2.2.2.2.1 q.1 = .ok q.2 := by
  show ∀ ch ∈ kc_191, ∀ q ∈ ch, decode cX12_joins q.1 = .ok q.2
  rw [kx_191]
  exact (k_decL_ok kd_191_0)
theorem ke_191 : k_ents kr_191.2.2.2.1.cls kr_191.2.1 [[1314], [1315], [1316], [1317], [1318], [1697, 1698], [1685, 1687, 79]] = true := by decide +kernel
theorem ko_191 : k_recP kr_191 := k_rec_ok k_okm kd_191 ke_191 (by decide +kernel)
theorem kd_192_0 : k_decL cX12_holdsBack ((kc_192.drop 0).take 8) = true := by decide +kernel
theorem kx_192 : kc_192 = (kc_192.drop 0).take 8 := rfl
theorem kd_192 : ∀ ch ∈ kr_192.1, ∀ q ∈ ch, decode kr_192.2.2.2.2.1 q.1 = .ok q.2 := by
  show ∀ ch ∈ kc_192, ∀ q ∈ ch, decode cX12_holdsBack q.1 = .ok q.2
  rw [kx_192]
  exact (k_decL_ok kd_192_0)
theorem ke_192 : k_ents kr_192.2.2.2.1.cls kr_192.2.1 [[1317], [1318]] = true := by decide +kernel
theorem ko_192 : k_recP kr_192 := k_rec_ok k_okm kd_192 ke_192 (by decide +kernel)
theorem kd_193_0 : k_decL cX12_pushes ((kc_193.drop 0).take 8) = true := by decide +kernel
theorem kx_193 : kc_193 = (kc_193.drop 0).take 8 := rfl
theorem kd_193 : ∀ ch ∈ kr_193.1, ∀ q ∈ ch, decode kr_193.2.2.2.2.1 q.1 = .ok q.2 := by
  show ∀ ch ∈ kc_193, ∀ q ∈ ch, decode cX12_pushes q.1 = .ok q.2
  rw [kx_193]
  exact (k_decL_ok kd_193_0)
theorem ke_193 : k_ents kr_193.2.2.2.1.cls kr_193.2.1 [[1310], [1311], [1312], [1314], [1315], [1318]] = true := by decide +kernel
theorem ko_193 : k_recP kr_193 := k_rec_ok k_okm kd_193 ke_193 (by decide +kernel)
theorem kd_194_0 : k_decL cX12_opens ((kc_194.drop 0).take 8) = true := by decide +kernel
theorem kx_194 : kc_194 = (kc_194.drop 0).take 8 := rfl
theorem kd_194 : ∀ ch ∈ kr_194.1, ∀ q ∈ ch, decode kr_194.2.2.2.2.1 q.1 = .ok q.2 := by
  show ∀ ch ∈ kc_194, ∀ q ∈ ch, decode cX12_opens q.1 = .ok q.2
  rw [kx_194]
  exact (k_decL_ok kd_194_0)
theorem ke_194 : k_ents kr_194.2.2.2.1.cls kr_194.2.1 [[1277], [1282], [1316], [1583, 1585, 55], [1536, 1538, 51], [1662, 1664, 74]] = true := by decide +kernel
theorem ko_194 : k_recP kr_194 := k_rec_ok k_okm kd_194 ke_194 (by decide +kernel)
theorem kd_195_0 : k_decL cX12_isTest ((kc_195.drop 0).take 8) = true := by decide +kernel
theorem kx_195 : kc_195 = (kc_195.drop 0).take 8 := rfl
theorem kd_195 : ∀ ch ∈ kr_195.1, ∀ q ∈ ch, decode kr_195.2.2.2.2.1 q.1 = .ok q.2 := by
  show ∀ ch ∈ kc_195, ∀ q ∈ ch, decode cX12_isTest q.1 = .ok q.2
  rw [kx_195]
  exact (k_decL_ok kd_195_0)
theorem ke_195 : k_ents kr_195.2.2.2.1.cls kr_195.2.1 [] = true := by decide +kernel
theorem ko_195 : k_recP kr_195 := k_rec_ok k_okm kd_195 ke_195 (by decide +kernel)
theorem kd_196_0 : k_decL cX12_operand ((kc_196.drop 0).take 8) = true := by decide +kernel
theorem kd_196_8 : k_decL cX12_operand ((kc_196.drop 8).take 8) = true := by decide +kernel
theorem kd_196_16 : k_decL cX12_operand ((kc_196.drop 16).take 8) = true := by decide +kernel
theorem kd_196_24 : k_decL cX12_operand ((kc_196.drop 24).take 8) = true := by decide +kernel
theorem kx_196 : kc_196 = (kc_196.drop 0).take 8 ++ ((kc_196.drop 8).take 8 ++ ((kc_196.drop 16).take 8 ++ ((kc_196.drop 24).take 8))) := rfl
theorem kd_196 : ∀ ch ∈ kr_196.1, ∀ q ∈ ch, decode kr_196.2.2.2.2.1 q.1 = .ok q.2 := by
  show ∀ ch ∈ kc_196, ∀ q ∈ ch, decode cX12_operand q.1 = .ok q.2
  rw [kx_196]
  exact (k_dec_app (k_decL_ok kd_196_0) (k_dec_app (k_decL_ok kd_196_8) (k_dec_app (k_decL_ok kd_196_16) (k_decL_ok kd_196_24))))
theorem ke_196 : k_ents kr_196.2.2.2.1.cls kr_196.2.1 [[1276], [1277], [1279], [1282], [1310], [1311], [1312], [1313], [1315], [1316], [1583, 1585, 55], [1579, 1581, 54], [1677, 1679, 77], [1536, 1538, 51], [1555], [1557], [1559], [1565], [1566], [1567], [1568], [1571], [1572], [1573], [1574], [1685, 1687, 79], [1670, 1671], [1587, 1589, 56], [1673, 1675, 76], [1681, 1683, 78]] = true := by decide +kernel
theorem ko_196 : k_recP kr_196 := k_rec_ok k_okm kd_196 ke_196 (by decide +kernel)
theorem kd_197_0 : k_decL cX12_goesOn ((kc_197.drop 0).take 8) = true := by decide +kernel
theorem kd_197_8 : k_decL cX12_goesOn ((kc_197.drop 8).take 8) = true := by decide +kernel
theorem kd_197_16 : k_decL cX12_goesOn ((kc_197.drop 16).take 8) = true := by decide +kernel
theorem kd_197_24 : k_decL cX12_goesOn ((kc_197.drop 24).take 8) = true := by decide +kernel
theorem kd_197_32 : k_decL cX12_goesOn ((kc_197.drop 32).take 8) = true := by decide +kernel
theorem kx_197 : kc_197 = (kc_197.drop 0).take 8 ++ ((kc_197.drop 8).take 8 ++ ((kc_197.drop 16).take 8 ++ ((kc_197.drop 24).take 8 ++ ((kc_197.drop 32).take 8)))) := rfl
theorem kd_197 : ∀ ch ∈ kr_197.1, ∀ q ∈ ch, decode kr_197.2.2.2.2.1 q.1 = .ok q.2 := by
  show ∀ ch ∈ kc_197, ∀ q ∈ ch, decode cX12_goesOn q.1 = .ok q.2
  rw [kx_197]
  exact (k_dec_app (k_decL_ok kd_197_0) (k_dec_app (k_decL_ok kd_197_8) (k_dec_app (k_decL_ok kd_197_16) (k_dec_app (k_decL_ok kd_197_24) (k_decL_ok kd_197_32)))))
theorem ke_197 : k_ents kr_197.2.2.2.1.cls kr_197.2.1 [[1277], [1282], [1310], [1311], [1312], [1313], [1315], [1316], [1319], [1583, 1585, 55], [1579, 1581, 54], [1677, 1679, 77], [1536, 1538, 51], [1569], [1570], [1685, 1687, 79], [1670, 1671], [1587, 1589, 56], [1673, 1675, 76], [1693, 1695, 81]] = true := by decide +kernel
theorem ko_197 : k_recP kr_197 := k_rec_ok k_okm kd_197 ke_197 (by decide +kernel)
theorem kd_198_0 : k_decL cX12_reads ((kc_198.drop 0).take 8) = true := by decide +kernel
theorem kx_198 : kc_198 = (kc_198.drop 0).take 8 := rfl
theorem kd_198 : ∀ ch ∈ kr_198.1, ∀ q ∈ ch, decode kr_198.2.2.2.2.1 q.1 = .ok q.2 := by
  show ∀ ch ∈ kc_198, ∀ q ∈ ch, decode cX12_reads q.1 = .ok q.2
  rw [kx_198]
  exact (k_decL_ok kd_198_0)
theorem ke_198 : k_ents kr_198.2.2.2.1.cls kr_198.2.1 [[1282], [1315], [1316], [1318], [1319], [1662, 1664, 74], [1666, 1668, 75], [1689, 1691, 80]] = true := by decide +kernel
theorem ko_198 : k_recP kr_198 := k_rec_ok k_okm kd_198 ke_198 (by decide +kernel)
