theorem kd_159_0 : k_decL cX11_standing ((kc_159.drop 0).take 8) = true := by decide +kernel
theorem kx_159 : kc_159 = (kc_159.drop 0).take 8 := rfl
theorem kd_159 : ∀ ch ∈ kr_159.1, ∀ q ∈ ch, decode kr_159.2.2.2.2.1 q.1 = .ok q.2 := by
  show ∀ ch ∈ kc_159, ∀ q ∈ ch, decode cX11_standing q.1 = .ok q.2
  rw [kx_159]
  exact (k_decL_ok kd_159_0)
theorem ke_159 : k_ents kr_159.2.2.2.1.cls kr_159.2.1 [[484], [486], [490], [170], [528, 530, 0], [372], [1191, 1192, 1193], [1201, 1202, 1203]] = true := by decide +kernel
theorem ko_159 : k_recP kr_159 := k_rec_ok k_okm kd_159 ke_159 (by decide +kernel)
theorem kd_160_0 : k_decL cX11_where ((kc_160.drop 0).take 8) = true := by decide +kernel
theorem kx_160 : kc_160 = (kc_160.drop 0).take 8 := rfl
theorem kd_160 : ∀ ch ∈ kr_160.1, ∀ q ∈ ch, decode kr_160.2.2.2.2.1 q.1 = .ok q.2 := by
  show ∀ ch ∈ kc_160, ∀ q ∈ ch, decode cX11_where q.1 = .ok q.2
  rw [kx_160]
  exact (k_decL_ok kd_160_0)
theorem ke_160 : k_ents kr_160.2.2.2.1.cls kr_160.2.1 [[486], [490], [465], [372], [861, 650, 651], [865, 686, 687], [463]] = true := by decide +kernel
theorem ko_160 : k_recP kr_160 := k_rec_ok k_okm kd_160 ke_160 (by decide +kernel)
theorem kd_161_0 : k_decL cX11_image ((kc_161.drop 0).take 8) = true := by decide +kernel
theorem kx_161 : kc_161 = (kc_161.drop 0).take 8 := rfl
theorem kd_161 : ∀ ch ∈ kr_161.1, ∀ q ∈ ch, decode kr_161.2.2.2.2.1 q.1 = .ok q.2 := by
  show ∀ ch ∈ kc_161, ∀ q ∈ ch, decode cX11_image q.1 = .ok q.2
  rw [kx_161]
  exact (k_decL_ok kd_161_0)
theorem ke_161 : k_ents kr_161.2.2.2.1.cls kr_161.2.1 [[486], [492], [493], [1232, 1233, 1234]] = true := by decide +kernel
theorem ko_161 : k_recP kr_161 := k_rec_ok k_okm kd_161 ke_161 (by decide +kernel)
theorem kd_162_0 : k_decL cX11_octet ((kc_162.drop 0).take 8) = true := by decide +kernel
theorem kx_162 : kc_162 = (kc_162.drop 0).take 8 := rfl
theorem kd_162 : ∀ ch ∈ kr_162.1, ∀ q ∈ ch, decode kr_162.2.2.2.2.1 q.1 = .ok q.2 := by
  show ∀ ch ∈ kc_162, ∀ q ∈ ch, decode cX11_octet q.1 = .ok q.2
  rw [kx_162]
  exact (k_decL_ok kd_162_0)
theorem ke_162 : k_ents kr_162.2.2.2.1.cls kr_162.2.1 [[492], [493]] = true := by decide +kernel
theorem ko_162 : k_recP kr_162 := k_rec_ok k_okm kd_162 ke_162 (by decide +kernel)
theorem kd_163_0 : k_decL cX11_on ((kc_163.drop 0).take 8) = true := by decide +kernel
theorem kx_163 : kc_163 = (kc_163.drop 0).take 8 := rfl
theorem kd_163 : ∀ ch ∈ kr_163.1, ∀ q ∈ ch, decode kr_163.2.2.2.2.1 q.1 = .ok q.2 := by
  show ∀ ch ∈ kc_163, ∀ q ∈ ch, decode cX11_on q.1 = .ok q.2
  rw [kx_163]
  exact (k_decL_ok kd_163_0)
theorem ke_163 : k_ents kr_163.2.2.2.1.cls kr_163.2.1 [[484], [486], [487], [170], [528, 530, 0], [396], [1248, 1249, 1250], [1259, 1260, 1261]] = true := by decide +kernel
theorem ko_163 : k_recP kr_163 := k_rec_ok k_okm kd_163 ke_163 (by decide +kernel)
theorem kd_164_0 : k_decL cX11_status ((kc_164.drop 0).take 8) = true := by decide +kernel
theorem kx_164 : kc_164 = (kc_164.drop 0).take 8 := rfl
theorem kd_164 : ∀ ch ∈ kr_164.1, ∀ q ∈ ch, decode kr_164.2.2.2.2.1 q.1 = .ok q.2 := by
  show ∀ ch ∈ kc_164, ∀ q ∈ ch, decode cX11_status q.1 = .ok q.2
  rw [kx_164]
  exact (k_decL_ok kd_164_0)
theorem ke_164 : k_ents kr_164.2.2.2.1.cls kr_164.2.1 [[491]] = true := by decide +kernel
theorem ko_164 : k_recP kr_164 := k_rec_ok k_okm kd_164 ke_164 (by decide +kernel)
theorem kd_165_0 : k_decL cX11_refuse ((kc_165.drop 0).take 8) = true := by decide +kernel
theorem kx_165 : kc_165 = (kc_165.drop 0).take 8 := rfl
theorem kd_165 : ∀ ch ∈ kr_165.1, ∀ q ∈ ch, decode kr_165.2.2.2.2.1 q.1 = .ok q.2 := by
  show ∀ ch ∈ kc_165, ∀ q ∈ ch, decode cX11_refuse q.1 = .ok q.2
  rw [kx_165]
  exact (k_decL_ok kd_165_0)
theorem ke_165 : k_ents kr_165.2.2.2.1.cls kr_165.2.1 [[491]] = true := by decide +kernel
theorem ko_165 : k_recP kr_165 := k_rec_ok k_okm kd_165 ke_165 (by decide +kernel)
theorem kd_166_0 : k_decL cX11_letterOf ((kc_166.drop 0).take 8) = true := by decide +kernel
theorem kx_166 : kc_166 = (kc_166.drop 0).take 8 := rfl
theorem kd_166 : ∀ ch ∈ kr_166.1, ∀ q ∈ ch, decode kr_166.2.2.2.2.1 q.1 = .ok q.2 := by
  show ∀ ch ∈ kc_166, ∀ q ∈ ch, decode cX11_letterOf q.1 = .ok q.2
  rw [kx_166]
  exact (k_decL_ok kd_166_0)
theorem ke_166 : k_ents kr_166.2.2.2.1.cls kr_166.2.1 [] = true := by decide +kernel
theorem ko_166 : k_recP kr_166 := k_rec_ok k_okm kd_166 ke_166 (by decide +kernel)
theorem kd_167_0 : k_decL cX11_canTravel ((kc_167.drop 0).take 8) = true := by decide +kernel
theorem kx_167 : kc_167 = (kc_167.drop 0).take 8 := rfl
theorem kd_167 : ∀ ch ∈ kr_167.1, ∀ q ∈ ch, decode kr_167.2.2.2.2.1 q.1 = .ok q.2 := by
  show ∀ ch ∈ kc_167, ∀ q ∈ ch, decode cX11_canTravel q.1 = .ok q.2
  rw [kx_167]
  exact (k_decL_ok kd_167_0)
theorem ke_167 : k_ents kr_167.2.2.2.1.cls kr_167.2.1 [[486], [372], [861, 650, 651], [865, 686, 687], [900, 826, 827]] = true := by decide +kernel
theorem ko_167 : k_recP kr_167 := k_rec_ok k_okm kd_167 ke_167 (by decide +kernel)
theorem kd_168_0 : k_decL cX11_chanceOf ((kc_168.drop 0).take 8) = true := by decide +kernel
theorem kx_168 : kc_168 = (kc_168.drop 0).take 8 := rfl
theorem kd_168 : ∀ ch ∈ kr_168.1, ∀ q ∈ ch, decode kr_168.2.2.2.2.1 q.1 = .ok q.2 := by
  show ∀ ch ∈ kc_168, ∀ q ∈ ch, decode cX11_chanceOf q.1 = .ok q.2
  rw [kx_168]
  exact (k_decL_ok kd_168_0)
theorem ke_168 : k_ents kr_168.2.2.2.1.cls kr_168.2.1 [[496], [1004], [1005], [1006]] = true := by decide +kernel
theorem ko_168 : k_recP kr_168 := k_rec_ok k_okm kd_168 ke_168 (by decide +kernel)
theorem kd_169_0 : k_decL cX11_move ((kc_169.drop 0).take 8) = true := by decide +kernel
theorem kx_169 : kc_169 = (kc_169.drop 0).take 8 := rfl
theorem kd_169 : ∀ ch ∈ kr_169.1, ∀ q ∈ ch, decode kr_169.2.2.2.2.1 q.1 = .ok q.2 := by
  show ∀ ch ∈ kc_169, ∀ q ∈ ch, decode cX11_move q.1 = .ok q.2
  rw [kx_169]
  exact (k_decL_ok kd_169_0)
theorem ke_169 : k_ents kr_169.2.2.2.1.cls kr_169.2.1 [[486], [372], [293], [984, 985, 986], [994, 995, 996], [1000, 1002, 32], [1007, 1008, 1009]] = true := by decide +kernel
theorem ko_169 : k_recP kr_169 := k_rec_ok k_okm kd_169 ke_169 (by decide +kernel)
theorem kd_170_0 : k_decL cX11_liveDay ((kc_170.drop 0).take 8) = true := by decide +kernel
theorem kx_170 : kc_170 = (kc_170.drop 0).take 8 := rfl
theorem kd_170 : ∀ ch ∈ kr_170.1, ∀ q ∈ ch, decode kr_170.2.2.2.2.1 q.1 = .ok q.2 := by
  show ∀ ch ∈ kc_170, ∀ q ∈ ch, decode cX11_liveDay q.1 = .ok q.2
  rw [kx_170]
  exact (k_decL_ok kd_170_0)
theorem ke_170 : k_ents kr_170.2.2.2.1.cls kr_170.2.1 [[486], [372], [898, 814, 815], [923, 924, 925], [980, 982, 30], [1015, 1016, 1017], [1000, 1002, 32], [1039, 1040, 1041], [1044, 1045, 1046], [1048, 929, 930]] = true := by decide +kernel
theorem ko_170 : k_recP kr_170 := k_rec_ok k_okm kd_170 ke_170 (by decide +kernel)
theorem kd_171_0 : k_decL cX12_init ((kc_171.drop 0).take 8) = true := by decide +kernel
theorem kd_171_8 : k_decL cX12_init ((kc_171.drop 8).take 8) = true := by decide +kernel
theorem kd_171_16 : k_decL cX12_init ((kc_171.drop 16).take 8) = true := by decide +kernel
theorem kd_171_24 : k_decL cX12_init ((kc_171.drop 24).take 8) = true := by decide +kernel
theorem kd_171_32 : k_decL cX12_init ((kc_171.drop 32).take 8) = true := by decide +kernel
theorem kx_171 : kc_171 = (kc_171.drop 0).take 8 ++ ((kc_171.drop 8).take 8 ++ ((kc_171.drop 16).take 8 ++ ((kc_171.drop 24).take 8 ++ ((kc_171.drop 32).take 8)))) := rfl
theorem kd_171 : ∀ ch ∈ kr_171.1, ∀ q ∈ ch, decode kr_171.2.2.2.2.1 q.1 = .ok q.2 := by
  show ∀ ch ∈ kc_171, ∀ q ∈ ch, decode cX12_init q.1 = .ok q.2
  rw [kx_171]
  exact (k_dec_app (k_decL_ok kd_171_0) (k_dec_app (k_decL_ok kd_171_8) (k_dec_app (k_decL_ok kd_171_16) (k_dec_app (k_decL_ok kd_171_24) (k_decL_ok kd_171_32)))))
theorem ke_171 : k_ents kr_171.2.2.2.1.cls kr_171.2.1 [[1272, 155, 156], [1273], [1274], [1275], [1276], [1277], [1278], [1279], [1280], [1281], [1282], [1283], [1284], [1285], [1286], [1287], [1288], [1289], [1290], [1291], [1292], [1293], [1294], [1295], [1296], [1297], [1298], [1299], [1300], [1301], [1302], [1303], [1304], [1305], [1306], [1307], [1308], [1309], [1310], [1311], [1312], [1313], [1314], [1315], [1316], [1317], [1318], [1319], [1320], [1321], [1322], [1323], [1324], [1325], [1326], [1327], [1328], [1329], [1330], [1331], [1332], [1333], [1334], [1335], [1336], [1337], [1338], [1339], [1340], [1341], [1342], [1343], [1344], [1345], [1346], [1347], [1348], [1349], [1350], [1351], [1352]] = true := by decide +kernel
theorem ko_171 : k_recP kr_171 := k_rec_ok k_okm kd_171 ke_171 (by decide +kernel)
theorem kd_172_0 : k_decL cX12_is ((kc_172.drop 0).take 8) = true := by decide +kernel
theorem kx_172 : kc_172 = (kc_172.drop 0).take 8 := rfl
theorem kd_172 : ∀ ch ∈ kr_172.1, ∀ q ∈ ch, decode kr_172.2.2.2.2.1 q.1 = .ok q.2 := by
  show ∀ ch ∈ kc_172, ∀ q ∈ ch, decode cX12_is q.1 = .ok q.2
  rw [kx_172]
  exact (k_decL_ok kd_172_0)
theorem ke_172 : k_ents kr_172.2.2.2.1.cls kr_172.2.1 [] = true := by decide +kernel
theorem ko_172 : k_recP kr_172 := k_rec_ok k_okm kd_172 ke_172 (by decide +kernel)
theorem kd_173_0 : k_decL cX12_put ((kc_173.drop 0).take 8) = true := by decide +kernel
theorem kx_173 : kc_173 = (kc_173.drop 0).take 8 := rfl
theorem kd_173 : ∀ ch ∈ kr_173.1, ∀ q ∈ ch, decode kr_173.2.2.2.2.1 q.1 = .ok q.2 := by
  show ∀ ch ∈ kc_173, ∀ q ∈ ch, decode cX12_put q.1 = .ok q.2
  rw [kx_173]
  exact (k_decL_ok kd_173_0)
theorem ke_173 : k_ents kr_173.2.2.2.1.cls kr_173.2.1 [[1273], [1274]] = true := by decide +kernel
theorem ko_173 : k_recP kr_173 := k_rec_ok k_okm kd_173 ke_173 (by decide +kernel)
theorem kd_174_0 : k_decL cX12_feed ((kc_174.drop 0).take 8) = true := by decide +kernel
theorem kx_174 : kc_174 = (kc_174.drop 0).take 8 := rfl
theorem kd_174 : ∀ ch ∈ kr_174.1, ∀ q ∈ ch, decode kr_174.2.2.2.2.1 q.1 = .ok q.2 := by
  show ∀ ch ∈ kc_174, ∀ q ∈ ch, decode cX12_feed q.1 = .ok q.2
  rw [kx_174]
  exact (k_decL_ok kd_174_0)
theorem ke_174 : k_ents kr_174.2.2.2.1.cls kr_174.2.1 [[1274], [1520, 1522, 49], [1524, 1526, 50]] = true := by decide +kernel
theorem ko_174 : k_recP kr_174 := k_rec_ok k_okm kd_174 ke_174 (by decide +kernel)
theorem kd_175_0 : k_decL cX12_end ((kc_175.drop 0).take 8) = true := by decide +kernel
theorem kx_175 : kc_175 = (kc_175.drop 0).take 8 := rfl
theorem kd_175 : ∀ ch ∈ kr_175.1, ∀ q ∈ ch, decode kr_175.2.2.2.2.1 q.1 = .ok q.2 := by
  show ∀ ch ∈ kc_175, ∀ q ∈ ch, decode cX12_end q.1 = .ok q.2
  rw [kx_175]
  exact (k_decL_ok kd_175_0)
theorem ke_175 : k_ents kr_175.2.2.2.1.cls kr_175.2.1 [[1274], [1520, 1522, 49]] = true := by decide +kernel
theorem ko_175 : k_recP kr_175 := k_rec_ok k_okm kd_175 ke_175 (by decide +kernel)
theorem kd_176_0 : k_decL cX12_blame ((kc_176.drop 0).take 8) = true := by decide +kernel
theorem kx_176 : kc_176 = (kc_176.drop 0).take 8 := rfl
theorem kd_176 : ∀ ch ∈ kr_176.1, ∀ q ∈ ch, decode kr_176.2.2.2.2.1 q.1 = .ok q.2 := by
  show ∀ ch ∈ kc_176, ∀ q ∈ ch, decode cX12_blame q.1 = .ok q.2
  rw [kx_176]
  exact (k_decL_ok kd_176_0)
theorem ke_176 : k_ents kr_176.2.2.2.1.cls kr_176.2.1 [[1282], [1283]] = true := by decide +kernel
theorem ko_176 : k_recP kr_176 := k_rec_ok k_okm kd_176 ke_176 (by decide +kernel)
theorem kd_177_0 : k_decL cX12_isLetter ((kc_177.drop 0).take 8) = true := by decide +kernel
theorem kx_177 : kc_177 = (kc_177.drop 0).take 8 := rfl
theorem kd_177 : ∀ ch ∈ kr_177.1, ∀ q ∈ ch, decode kr_177.2.2.2.2.1 q.1 = .ok q.2 := by
  show ∀ ch ∈ kc_177, ∀ q ∈ ch, decode cX12_isLetter q.1 = .ok q.2
  rw [kx_177]
  exact (k_decL_ok kd_177_0)
theorem ke_177 : k_ents kr_177.2.2.2.1.cls kr_177.2.1 [] = true := by decide +kernel
theorem ko_177 : k_recP kr_177 := k_rec_ok k_okm kd_177 ke_177 (by decide +kernel)
theorem kd_178_0 : k_decL cX12_isDigit ((kc_178.drop 0).take 8) = true := by decide +kernel
theorem kx_178 : kc_178 = (kc_178.drop 0).take 8 := rfl
theorem kd_178 : ∀ ch ∈ kr_178.1, ∀ q ∈ ch, decode kr_178.2.2.2.2.1 q.1 = .ok q.2 := by
  show ∀ ch ∈ kc_178, ∀ q ∈ ch, decode cX12_isDigit q.1 = .ok q.2
  rw [kx_178]
  exact (k_decL_ok kd_178_0)
theorem ke_178 : k_ents kr_178.2.2.2.1.cls kr_178.2.1 [] = true := by decide +kernel
theorem ko_178 : k_recP kr_178 := k_rec_ok k_okm kd_178 ke_178 (by decide +kernel)
theorem kd_179_0 : k_decL cX12_lex ((kc_179.drop 0).take 8) = true := by decide +kernel
theorem kx_179 : kc_179 = (kc_179.drop 0).take 8 := rfl
theorem kd_179 : ∀ ch ∈ kr_179.1, ∀ q ∈ ch, decode kr_179.2.2.2.2.1 q.1 = .ok q.2 := by
  show ∀ ch ∈ kc_179, ∀ q ∈ ch, decode cX12_lex q.1 = .ok q.2
  rw [kx_179]
  exact (k_decL_ok kd_179_0)
theorem ke_179 : k_ents kr_179.2.2.2.1.cls kr_179.2.1 [[1286], [1583, 1585, 55]] = true := by decide +kernel
theorem ko_179 : k_recP kr_179 := k_rec_ok k_okm kd_179 ke_179 (by decide +kernel)
theorem kd_180_0 : k_decL cX12_ahead ((kc_180.drop 0).take 8) = true := by decide +kernel
theorem kd_180_8 : k_decL cX12_ahead ((kc_180.drop 8).take 8) = true := by decide +kernel
theorem kd_180_16 : k_decL cX12_ahead ((kc_180.drop 16).take 8) = true := by decide +kernel
theorem kd_180_24 : k_decL cX12_ahead ((kc_180.drop 24).take 8) = true := by decide +kernel
theorem kx_180 : kc_180 = (kc_180.drop 0).take 8 ++ ((kc_180.drop 8).take 8 ++ ((kc_180.drop 16).take 8 ++ ((kc_180.drop 24).take 8))) := rfl
theorem kd_180 : ∀ ch ∈ kr_180.1, ∀ q ∈ ch, decode kr_180.2.2.2.2.1 q.1 = .ok q.2 := by
  show ∀ ch ∈ kc_180, ∀ q ∈ ch, decode cX12_ahead q.1 = .ok q.2
  rw [kx_180]
  exact (k_dec_app (k_decL_ok kd_180_0) (k_dec_app (k_decL_ok kd_180_8) (k_dec_app (k_decL_ok kd_180_16) (k_decL_ok kd_180_24))))
theorem ke_180 : k_ents kr_180.2.2.2.1.cls kr_180.2.1 [[1273], [1275], [1276], [1277], [1278], [1279], [1280], [1281], [1286], [1540, 1541], [1543, 1544], [1546], [1547, 1549, 52]] = true := by decide +kernel
theorem ko_180 : k_recP kr_180 := k_rec_ok k_okm kd_180 ke_180 (by decide +kernel)
theorem kd_181_0 : k_decL cX12_isSign ((kc_181.drop 0).take 8) = true := by decide +kernel
theorem kx_181 : kc_181 = (kc_181.drop 0).take 8 := rfl
theorem kd_181 : ∀ ch ∈ kr_181.1, ∀ q ∈ ch, decode kr_181.2.2.2.2.1 q.1 = .ok q.2 := by
  show ∀ ch ∈ kc_181, ∀ q ∈ ch, decode cX12_isSign q.1 = .ok q.2
  rw [kx_181]
  exact (k_decL_ok kd_181_0)
theorem ke_181 : k_ents kr_181.2.2.2.1.cls kr_181.2.1 [[1276], [1279]] = true := by decide +kernel
theorem ko_181 : k_recP kr_181 := k_rec_ok k_okm kd_181 ke_181 (by decide +kernel)
theorem kd_182_0 : k_decL cX12_isWord ((kc_182.drop 0).take 8) = true := by decide +kernel
theorem kx_182 : kc_182 = (kc_182.drop 0).take 8 := rfl
theorem kd_182 : ∀ ch ∈ kr_182.1, ∀ q ∈ ch, decode kr_182.2.2.2.2.1 q.1 = .ok q.2 := by
  show ∀ ch ∈ kc_182, ∀ q ∈ ch, decode cX12_isWord q.1 = .ok q.2
  rw [kx_182]
  exact (k_decL_ok kd_182_0)
theorem ke_182 : k_ents kr_182.2.2.2.1.cls kr_182.2.1 [[1276], [1280]] = true := by decide +kernel
theorem ko_182 : k_recP kr_182 := k_rec_ok k_okm kd_182 ke_182 (by decide +kernel)
