theorem kd_8_0 : k_decL cX0_arrived ((kc_8.drop 0).take 8) = true := by decide +kernel
theorem kx_8 : kc_8 = (kc_8.drop 0).take 8 := rfl
theorem kd_8 : ∀ ch ∈ kr_8.1, ∀ q ∈ ch, decode kr_8.2.2.2.2.1 q.1 = .ok q.2 := by
  show ∀ ch ∈ kc_8, ∀ q ∈ ch, decode cX0_arrived q.1 = .ok q.2
  rw [kx_8]
  exact (k_decL_ok kd_8_0)
theorem ke_8 : k_ents kr_8.2.2.2.1.cls kr_8.2.1 [[439], [165], [1149, 560], [1148], [1147, 822, 823]] = true := by decide +kernel
theorem ko_8 : k_recP kr_8 := k_rec_ok k_okm kd_8 ke_8 (by decide +kernel)
theorem kd_9_0 : k_decL cX1_init ((kc_9.drop 0).take 8) = true := by decide +kernel
theorem kx_9 : kc_9 = (kc_9.drop 0).take 8 := rfl
theorem kd_9 : ∀ ch ∈ kr_9.1, ∀ q ∈ ch, decode kr_9.2.2.2.2.1 q.1 = .ok q.2 := by
  show ∀ ch ∈ kc_9, ∀ q ∈ ch, decode cX1_init q.1 = .ok q.2
  rw [kx_9]
  exact (k_decL_ok kd_9_0)
theorem ke_9 : k_ents kr_9.2.2.2.1.cls kr_9.2.1 [[265, 155, 156], [266], [267], [268]] = true := by decide +kernel
theorem ko_9 : k_recP kr_9 := k_rec_ok k_okm kd_9 ke_9 (by decide +kernel)
theorem kd_10_0 : k_decL cX1_add ((kc_10.drop 0).take 8) = true := by decide +kernel
theorem kx_10 : kc_10 = (kc_10.drop 0).take 8 := rfl
theorem kd_10 : ∀ ch ∈ kr_10.1, ∀ q ∈ ch, decode kr_10.2.2.2.2.1 q.1 = .ok q.2 := by
  show ∀ ch ∈ kc_10, ∀ q ∈ ch, decode cX1_add q.1 = .ok q.2
  rw [kx_10]
  exact (k_decL_ok kd_10_0)
theorem ke_10 : k_ents kr_10.2.2.2.1.cls kr_10.2.1 [[267], [268], [713, 714]] = true := by decide +kernel
theorem ko_10 : k_recP kr_10 := k_rec_ok k_okm kd_10 ke_10 (by decide +kernel)
theorem kd_11_0 : k_decL cX1_extra ((kc_11.drop 0).take 8) = true := by decide +kernel
theorem kd_11_8 : k_decL cX1_extra ((kc_11.drop 8).take 8) = true := by decide +kernel
theorem kx_11 : kc_11 = (kc_11.drop 0).take 8 ++ ((kc_11.drop 8).take 8) := rfl
theorem kd_11 : ∀ ch ∈ kr_11.1, ∀ q ∈ ch, decode kr_11.2.2.2.2.1 q.1 = .ok q.2 := by
  show ∀ ch ∈ kc_11, ∀ q ∈ ch, decode cX1_extra q.1 = .ok q.2
  rw [kx_11]
  exact (k_dec_app (k_decL_ok kd_11_0) (k_decL_ok kd_11_8))
theorem ke_11 : k_ents kr_11.2.2.2.1.cls kr_11.2.1 [[266], [267], [268], [945, 946], [948, 949], [968, 560], [969, 843]] = true := by decide +kernel
theorem ko_11 : k_recP kr_11 := k_rec_ok k_okm kd_11 ke_11 (by decide +kernel)
theorem kd_12_0 : k_decL cX1_operandsOf ((kc_12.drop 0).take 8) = true := by decide +kernel
theorem kx_12 : kc_12 = (kc_12.drop 0).take 8 := rfl
theorem kd_12 : ∀ ch ∈ kr_12.1, ∀ q ∈ ch, decode kr_12.2.2.2.2.1 q.1 = .ok q.2 := by
  show ∀ ch ∈ kc_12, ∀ q ∈ ch, decode cX1_operandsOf q.1 = .ok q.2
  rw [kx_12]
  exact (k_decL_ok kd_12_0)
theorem ke_12 : k_ents kr_12.2.2.2.1.cls kr_12.2.1 [] = true := by decide +kernel
theorem ko_12 : k_recP kr_12 := k_rec_ok k_okm kd_12 ke_12 (by decide +kernel)
theorem kd_13_0 : k_decL cX1_combine ((kc_13.drop 0).take 8) = true := by decide +kernel
theorem kd_13_8 : k_decL cX1_combine ((kc_13.drop 8).take 8) = true := by decide +kernel
theorem kx_13 : kc_13 = (kc_13.drop 0).take 8 ++ ((kc_13.drop 8).take 8) := rfl
theorem kd_13 : ∀ ch ∈ kr_13.1, ∀ q ∈ ch, decode kr_13.2.2.2.2.1 q.1 = .ok q.2 := by
  show ∀ ch ∈ kc_13, ∀ q ∈ ch, decode cX1_combine q.1 = .ok q.2
  rw [kx_13]
  exact (k_dec_app (k_decL_ok kd_13_0) (k_decL_ok kd_13_8))
theorem ke_13 : k_ents kr_13.2.2.2.1.cls kr_13.2.1 [[968, 560], [969, 843], [951, 952], [962, 963], [965, 966]] = true := by decide +kernel
theorem ko_13 : k_recP kr_13 := k_rec_ok k_okm kd_13 ke_13 (by decide +kernel)
theorem kd_14_0 : k_decL cX1_limit ((kc_14.drop 0).take 8) = true := by decide +kernel
theorem kx_14 : kc_14 = (kc_14.drop 0).take 8 := rfl
theorem kd_14 : ∀ ch ∈ kr_14.1, ∀ q ∈ ch, decode kr_14.2.2.2.2.1 q.1 = .ok q.2 := by
  show ∀ ch ∈ kc_14, ∀ q ∈ ch, decode cX1_limit q.1 = .ok q.2
  rw [kx_14]
  exact (k_decL_ok kd_14_0)
theorem ke_14 : k_ents kr_14.2.2.2.1.cls kr_14.2.1 [[954], [955], [956, 957], [959, 960]] = true := by decide +kernel
theorem ko_14 : k_recP kr_14 := k_rec_ok k_okm kd_14 ke_14 (by decide +kernel)
theorem kd_15_0 : k_decL cX2_init ((kc_15.drop 0).take 8) = true := by decide +kernel
theorem kx_15 : kc_15 = (kc_15.drop 0).take 8 := rfl
theorem kd_15 : ∀ ch ∈ kr_15.1, ∀ q ∈ ch, decode kr_15.2.2.2.2.1 q.1 = .ok q.2 := by
  show ∀ ch ∈ kc_15, ∀ q ∈ ch, decode cX2_init q.1 = .ok q.2
  rw [kx_15]
  exact (k_decL_ok kd_15_0)
theorem ke_15 : k_ents kr_15.2.2.2.1.cls kr_15.2.1 [[392, 155, 156], [393], [394], [395]] = true := by decide +kernel
theorem ko_15 : k_recP kr_15 := k_rec_ok k_okm kd_15 ke_15 (by decide +kernel)
theorem kd_16_0 : k_decL cX2_remember ((kc_16.drop 0).take 8) = true := by decide +kernel
theorem kx_16 : kc_16 = (kc_16.drop 0).take 8 := rfl
theorem kd_16 : ∀ ch ∈ kr_16.1, ∀ q ∈ ch, decode kr_16.2.2.2.2.1 q.1 = .ok q.2 := by
  show ∀ ch ∈ kc_16, ∀ q ∈ ch, decode cX2_remember q.1 = .ok q.2
  rw [kx_16]
  exact (k_decL_ok kd_16_0)
theorem ke_16 : k_ents kr_16.2.2.2.1.cls kr_16.2.1 [[393], [394], [395], [978, 726, 725, 147], [979, 560]] = true := by decide +kernel
theorem ko_16 : k_recP kr_16 := k_rec_ok k_okm kd_16 ke_16 (by decide +kernel)
theorem kd_17_0 : k_decL cX2_takeBack ((kc_17.drop 0).take 8) = true := by decide +kernel
theorem kx_17 : kc_17 = (kc_17.drop 0).take 8 := rfl
theorem kd_17 : ∀ ch ∈ kr_17.1, ∀ q ∈ ch, decode kr_17.2.2.2.2.1 q.1 = .ok q.2 := by
  show ∀ ch ∈ kc_17, ∀ q ∈ ch, decode cX2_takeBack q.1 = .ok q.2
  rw [kx_17]
  exact (k_decL_ok kd_17_0)
theorem ke_17 : k_ents kr_17.2.2.2.1.cls kr_17.2.1 [[393], [394], [395], [978, 726, 725, 147], [1057, 843]] = true := by decide +kernel
theorem ko_17 : k_recP kr_17 := k_rec_ok k_okm kd_17 ke_17 (by decide +kernel)
theorem kd_18_0 : k_decL cX3_init ((kc_18.drop 0).take 8) = true := by decide +kernel
theorem kx_18 : kc_18 = (kc_18.drop 0).take 8 := rfl
theorem kd_18 : ∀ ch ∈ kr_18.1, ∀ q ∈ ch, decode kr_18.2.2.2.2.1 q.1 = .ok q.2 := by
  show ∀ ch ∈ kc_18, ∀ q ∈ ch, decode cX3_init q.1 = .ok q.2
  rw [kx_18]
  exact (k_decL_ok kd_18_0)
theorem ke_18 : k_ents kr_18.2.2.2.1.cls kr_18.2.1 [[197, 155, 156], [198], [199], [200], [202], [205], [208], [211], [213]] = true := by decide +kernel
theorem ko_18 : k_recP kr_18 := k_rec_ok k_okm kd_18 ke_18 (by decide +kernel)
theorem kd_19_0 : k_decL cX3_begin ((kc_19.drop 0).take 8) = true := by decide +kernel
theorem kx_19 : kc_19 = (kc_19.drop 0).take 8 := rfl
theorem kd_19 : ∀ ch ∈ kr_19.1, ∀ q ∈ ch, decode kr_19.2.2.2.2.1 q.1 = .ok q.2 := by
  show ∀ ch ∈ kc_19, ∀ q ∈ ch, decode cX3_begin q.1 = .ok q.2
  rw [kx_19]
  exact (k_decL_ok kd_19_0)
theorem ke_19 : k_ents kr_19.2.2.2.1.cls kr_19.2.1 [[198], [199], [200], [202], [211], [164], [171], [559, 560]] = true := by decide +kernel
theorem ko_19 : k_recP kr_19 := k_rec_ok k_okm kd_19 ke_19 (by decide +kernel)
theorem kd_20_0 : k_decL cX3_fail ((kc_20.drop 0).take 8) = true := by decide +kernel
theorem kx_20 : kc_20 = (kc_20.drop 0).take 8 := rfl
theorem kd_20 : ∀ ch ∈ kr_20.1, ∀ q ∈ ch, decode kr_20.2.2.2.2.1 q.1 = .ok q.2 := by
  show ∀ ch ∈ kc_20, ∀ q ∈ ch, decode cX3_fail q.1 = .ok q.2
  rw [kx_20]
  exact (k_decL_ok kd_20_0)
theorem ke_20 : k_ents kr_20.2.2.2.1.cls kr_20.2.1 [[211], [213]] = true := by decide +kernel
theorem ko_20 : k_recP kr_20 := k_rec_ok k_okm kd_20 ke_20 (by decide +kernel)
theorem kd_21_0 : k_decL cX3_unexpected ((kc_21.drop 0).take 8) = true := by decide +kernel
theorem kx_21 : kc_21 = (kc_21.drop 0).take 8 := rfl
theorem kd_21 : ∀ ch ∈ kr_21.1, ∀ q ∈ ch, decode kr_21.2.2.2.2.1 q.1 = .ok q.2 := by
  show ∀ ch ∈ kc_21, ∀ q ∈ ch, decode cX3_unexpected q.1 = .ok q.2
  rw [kx_21]
  exact (k_decL_ok kd_21_0)
theorem ke_21 : k_ents kr_21.2.2.2.1.cls kr_21.2.1 [[208], [585, 567, 568]] = true := by decide +kernel
theorem ko_21 : k_recP kr_21 := k_rec_ok k_okm kd_21 ke_21 (by decide +kernel)
theorem kd_22_0 : k_decL cX3_isWord ((kc_22.drop 0).take 8) = true := by decide +kernel
theorem kx_22 : kc_22 = (kc_22.drop 0).take 8 := rfl
theorem kd_22 : ∀ ch ∈ kr_22.1, ∀ q ∈ ch, decode kr_22.2.2.2.2.1 q.1 = .ok q.2 := by
  show ∀ ch ∈ kc_22, ∀ q ∈ ch, decode cX3_isWord q.1 = .ok q.2
  rw [kx_22]
  exact (k_decL_ok kd_22_0)
theorem ke_22 : k_ents kr_22.2.2.2.1.cls kr_22.2.1 [[202], [205]] = true := by decide +kernel
theorem ko_22 : k_recP kr_22 := k_rec_ok k_okm kd_22 ke_22 (by decide +kernel)
theorem kd_23_0 : k_decL cX3_isSign ((kc_23.drop 0).take 8) = true := by decide +kernel
theorem kx_23 : kc_23 = (kc_23.drop 0).take 8 := rfl
theorem kd_23 : ∀ ch ∈ kr_23.1, ∀ q ∈ ch, decode kr_23.2.2.2.2.1 q.1 = .ok q.2 := by
  show ∀ ch ∈ kc_23, ∀ q ∈ ch, decode cX3_isSign q.1 = .ok q.2
  rw [kx_23]
  exact (k_decL_ok kd_23_0)
theorem ke_23 : k_ents kr_23.2.2.2.1.cls kr_23.2.1 [[202], [205]] = true := by decide +kernel
theorem ko_23 : k_recP kr_23 := k_rec_ok k_okm kd_23 ke_23 (by decide +kernel)
theorem kd_24_0 : k_decL cX3_passSign ((kc_24.drop 0).take 8) = true := by decide +kernel
theorem kx_24 : kc_24 = (kc_24.drop 0).take 8 := rfl
theorem kd_24 : ∀ ch ∈ kr_24.1, ∀ q ∈ ch, decode kr_24.2.2.2.2.1 q.1 = .ok q.2 := by
  show ∀ ch ∈ kc_24, ∀ q ∈ ch, decode cX3_passSign q.1 = .ok q.2
  rw [kx_24]
  exact (k_decL_ok kd_24_0)
theorem ke_24 : k_ents kr_24.2.2.2.1.cls kr_24.2.1 [[743, 729, 730], [581, 582, 583], [744, 571, 572]] = true := by decide +kernel
theorem ko_24 : k_recP kr_24 := k_rec_ok k_okm kd_24 ke_24 (by decide +kernel)
theorem kd_25_0 : k_decL cX3_atEnd ((kc_25.drop 0).take 8) = true := by decide +kernel
theorem kx_25 : kc_25 = (kc_25.drop 0).take 8 := rfl
theorem kd_25 : ∀ ch ∈ kr_25.1, ∀ q ∈ ch, decode kr_25.2.2.2.2.1 q.1 = .ok q.2 := by
  show ∀ ch ∈ kc_25, ∀ q ∈ ch, decode cX3_atEnd q.1 = .ok q.2
  rw [kx_25]
  exact (k_decL_ok kd_25_0)
theorem ke_25 : k_ents kr_25.2.2.2.1.cls kr_25.2.1 [[198], [199], [200]] = true := by decide +kernel
theorem ko_25 : k_recP kr_25 := k_rec_ok k_okm kd_25 ke_25 (by decide +kernel)
theorem kd_26_0 : k_decL cX3_next ((kc_26.drop 0).take 8) = true := by decide +kernel
theorem kd_26_8 : k_decL cX3_next ((kc_26.drop 8).take 8) = true := by decide +kernel
theorem kx_26 : kc_26 = (kc_26.drop 0).take 8 ++ ((kc_26.drop 8).take 8) := rfl
theorem kd_26 : ∀ ch ∈ kr_26.1, ∀ q ∈ ch, decode kr_26.2.2.2.2.1 q.1 = .ok q.2 := by
  show ∀ ch ∈ kc_26, ∀ q ∈ ch, decode cX3_next q.1 = .ok q.2
  rw [kx_26]
  exact (k_dec_app (k_decL_ok kd_26_0) (k_decL_ok kd_26_8))
theorem ke_26 : k_ents kr_26.2.2.2.1.cls kr_26.2.1 [[198], [200], [202], [205], [208], [581, 582, 583], [574, 563, 564], [575, 576], [578, 579], [586, 588, 1], [594, 596, 2]] = true := by decide +kernel
theorem ko_26 : k_recP kr_26 := k_rec_ok k_okm kd_26 ke_26 (by decide +kernel)
theorem kd_27_0 : k_decL cX3_readWord ((kc_27.drop 0).take 8) = true := by decide +kernel
theorem kd_27_8 : k_decL cX3_readWord ((kc_27.drop 8).take 8) = true := by decide +kernel
theorem kx_27 : kc_27 = (kc_27.drop 0).take 8 ++ ((kc_27.drop 8).take 8) := rfl
theorem kd_27 : ∀ ch ∈ kr_27.1, ∀ q ∈ ch, decode kr_27.2.2.2.2.1 q.1 = .ok q.2 := by
  show ∀ ch ∈ kc_27, ∀ q ∈ ch, decode cX3_readWord q.1 = .ok q.2
  rw [kx_27]
  exact (k_dec_app (k_decL_ok kd_27_0) (k_decL_ok kd_27_8))
theorem ke_27 : k_ents kr_27.2.2.2.1.cls kr_27.2.1 [[198], [199], [200], [202], [205], [208], [585, 567, 568], [575, 576], [590], [591, 592]] = true := by decide +kernel
theorem ko_27 : k_recP kr_27 := k_rec_ok k_okm kd_27 ke_27 (by decide +kernel)
theorem kd_28_0 : k_decL cX3_readNumber ((kc_28.drop 0).take 8) = true := by decide +kernel
theorem kx_28 : kc_28 = (kc_28.drop 0).take 8 := rfl
theorem kd_28 : ∀ ch ∈ kr_28.1, ∀ q ∈ ch, decode kr_28.2.2.2.2.1 q.1 = .ok q.2 := by
  show ∀ ch ∈ kc_28, ∀ q ∈ ch, decode cX3_readNumber q.1 = .ok q.2
  rw [kx_28]
  exact (k_decL_ok kd_28_0)
theorem ke_28 : k_ents kr_28.2.2.2.1.cls kr_28.2.1 [[198], [199], [200], [202], [205], [208], [585, 567, 568], [578, 579]] = true := by decide +kernel
theorem ko_28 : k_recP kr_28 := k_rec_ok k_okm kd_28 ke_28 (by decide +kernel)
theorem kd_29_0 : k_decL cX3_isOwnWord ((kc_29.drop 0).take 8) = true := by decide +kernel
theorem kd_29_8 : k_decL cX3_isOwnWord ((kc_29.drop 8).take 8) = true := by decide +kernel
theorem kx_29 : kc_29 = (kc_29.drop 0).take 8 ++ ((kc_29.drop 8).take 8) := rfl
theorem kd_29 : ∀ ch ∈ kr_29.1, ∀ q ∈ ch, decode kr_29.2.2.2.2.1 q.1 = .ok q.2 := by
  show ∀ ch ∈ kc_29, ∀ q ∈ ch, decode cX3_isOwnWord q.1 = .ok q.2
  rw [kx_29]
  exact (k_dec_app (k_decL_ok kd_29_0) (k_decL_ok kd_29_8))
theorem ke_29 : k_ents kr_29.2.2.2.1.cls kr_29.2.1 [] = true := by decide +kernel
theorem ko_29 : k_recP kr_29 := k_rec_ok k_okm kd_29 ke_29 (by decide +kernel)
theorem kd_30_0 : k_decL cX3_isLetter ((kc_30.drop 0).take 8) = true := by decide +kernel
theorem kx_30 : kc_30 = (kc_30.drop 0).take 8 := rfl
theorem kd_30 : ∀ ch ∈ kr_30.1, ∀ q ∈ ch, decode kr_30.2.2.2.2.1 q.1 = .ok q.2 := by
  show ∀ ch ∈ kc_30, ∀ q ∈ ch, decode cX3_isLetter q.1 = .ok q.2
  rw [kx_30]
  exact (k_decL_ok kd_30_0)
theorem ke_30 : k_ents kr_30.2.2.2.1.cls kr_30.2.1 [] = true := by decide +kernel
theorem ko_30 : k_recP kr_30 := k_rec_ok k_okm kd_30 ke_30 (by decide +kernel)
theorem kd_31_0 : k_decL cX3_isDigit ((kc_31.drop 0).take 8) = true := by decide +kernel
theorem kx_31 : kc_31 = (kc_31.drop 0).take 8 := rfl
theorem kd_31 : ∀ ch ∈ kr_31.1, ∀ q ∈ ch, decode kr_31.2.2.2.2.1 q.1 = .ok q.2 := by
  show ∀ ch ∈ kc_31, ∀ q ∈ ch, decode cX3_isDigit q.1 = .ok q.2
  rw [kx_31]
  exact (k_decL_ok kd_31_0)
theorem ke_31 : k_ents kr_31.2.2.2.1.cls kr_31.2.1 [] = true := by decide +kernel
theorem ko_31 : k_recP kr_31 := k_rec_ok k_okm kd_31 ke_31 (by decide +kernel)
theorem kd_32_0 : k_decL cX4_init ((kc_32.drop 0).take 8) = true := by decide +kernel
theorem kx_32 : kc_32 = (kc_32.drop 0).take 8 := rfl
theorem kd_32 : ∀ ch ∈ kr_32.1, ∀ q ∈ ch, decode kr_32.2.2.2.2.1 q.1 = .ok q.2 := by
  show ∀ ch ∈ kc_32, ∀ q ∈ ch, decode cX4_init q.1 = .ok q.2
  rw [kx_32]
  exact (k_decL_ok kd_32_0)
theorem ke_32 : k_ents kr_32.2.2.2.1.cls kr_32.2.1 [[409, 155, 156], [410], [411], [412], [413], [414], [415], [416]] = true := by decide +kernel
theorem ko_32 : k_recP kr_32 := k_rec_ok k_okm kd_32 ke_32 (by decide +kernel)
theorem kd_33_0 : k_decL cX4_layRoute ((kc_33.drop 0).take 8) = true := by decide +kernel
theorem kx_33 : kc_33 = (kc_33.drop 0).take 8 := rfl
theorem kd_33 : ∀ ch ∈ kr_33.1, ∀ q ∈ ch, decode kr_33.2.2.2.2.1 q.1 = .ok q.2 := by
  show ∀ ch ∈ kc_33, ∀ q ∈ ch, decode cX4_layRoute q.1 = .ok q.2
  rw [kx_33]
  exact (k_decL_ok kd_33_0)
theorem ke_33 : k_ents kr_33.2.2.2.1.cls kr_33.2.1 [[410], [1082, 553], [1083, 1085, 35]] = true := by decide +kernel
theorem ko_33 : k_recP kr_33 := k_rec_ok k_okm kd_33 ke_33 (by decide +kernel)
theorem kd_34_0 : k_decL cX4_layBearers ((kc_34.drop 0).take 8) = true := by decide +kernel
theorem kx_34 : kc_34 = (kc_34.drop 0).take 8 := rfl
theorem kd_34 : ∀ ch ∈ kr_34.1, ∀ q ∈ ch, decode kr_34.2.2.2.2.1 q.1 = .ok q.2 := by
  show ∀ ch ∈ kc_34, ∀ q ∈ ch, decode cX4_layBearers q.1 = .ok q.2
  rw [kx_34]
  exact (k_decL_ok kd_34_0)
theorem ke_34 : k_ents kr_34.2.2.2.1.cls kr_34.2.1 [[410], [1082, 553], [1083, 1085, 35], [371], [288]] = true := by decide +kernel
theorem ko_34 : k_recP kr_34 := k_rec_ok k_okm kd_34 ke_34 (by decide +kernel)
theorem kd_35_0 : k_decL cX4_layPerson ((kc_35.drop 0).take 8) = true := by decide +kernel
theorem kd_35_8 : k_decL cX4_layPerson ((kc_35.drop 8).take 8) = true := by decide +kernel
theorem kx_35 : kc_35 = (kc_35.drop 0).take 8 ++ ((kc_35.drop 8).take 8) := rfl
theorem kd_35 : ∀ ch ∈ kr_35.1, ∀ q ∈ ch, decode kr_35.2.2.2.2.1 q.1 = .ok q.2 := by
  show ∀ ch ∈ kc_35, ∀ q ∈ ch, decode cX4_layPerson q.1 = .ok q.2
  rw [kx_35]
  exact (k_dec_app (k_decL_ok kd_35_0) (k_decL_ok kd_35_8))
theorem ke_35 : k_ents kr_35.2.2.2.1.cls kr_35.2.1 [[410], [411], [371], [282], [1087, 913, 914], [1088, 891, 892], [1089, 934, 935]] = true := by decide +kernel
theorem ko_35 : k_recP kr_35 := k_rec_ok k_okm kd_35 ke_35 (by decide +kernel)
theorem kd_36_0 : k_decL cX4_find ((kc_36.drop 0).take 8) = true := by decide +kernel
theorem kx_36 : kc_36 = (kc_36.drop 0).take 8 := rfl
theorem kd_36 : ∀ ch ∈ kr_36.1, ∀ q ∈ ch, decode kr_36.2.2.2.2.1 q.1 = .ok q.2 := by
  show ∀ ch ∈ kc_36, ∀ q ∈ ch, decode cX4_find q.1 = .ok q.2
  rw [kx_36]
  exact (k_decL_ok kd_36_0)
theorem ke_36 : k_ents kr_36.2.2.2.1.cls kr_36.2.1 [[412], [413], [414], [415], [416], [1094, 1096, 36], [1098], [1100, 1102, 37]] = true := by decide +kernel
theorem ko_36 : k_recP kr_36 := k_rec_ok k_okm kd_36 ke_36 (by decide +kernel)
theorem kd_37_0 : k_decL cX4_measure ((kc_37.drop 0).take 8) = true := by decide +kernel
theorem kx_37 : kc_37 = (kc_37.drop 0).take 8 := rfl
theorem kd_37 : ∀ ch ∈ kr_37.1, ∀ q ∈ ch, decode kr_37.2.2.2.2.1 q.1 = .ok q.2 := by
  show ∀ ch ∈ kc_37, ∀ q ∈ ch, decode cX4_measure q.1 = .ok q.2
  rw [kx_37]
  exact (k_decL_ok kd_37_0)
theorem ke_37 : k_ents kr_37.2.2.2.1.cls kr_37.2.1 [[410], [412], [1082, 553], [1098], [1099, 560]] = true := by decide +kernel
theorem ko_37 : k_recP kr_37 := k_rec_ok k_okm kd_37 ke_37 (by decide +kernel)
