theorem kd_38_0 : k_decL cX4_firstOnward ((kc_38.drop 0).take 8) = true := by decide +kernel
theorem kx_38 : kc_38 = (kc_38.drop 0).take 8 := rfl
theorem kd_38 : ∀ ch ∈ kr_38.1, ∀ q ∈ ch, decode kr_38.2.2.2.2.1 q.1 = .ok q.2 := by
  show ∀ ch ∈ kc_38, ∀ q ∈ ch, decode cX4_firstOnward q.1 = .ok q.2
  rw [kx_38]
  exact (k_decL_ok kd_38_0)
theorem ke_38 : k_ents kr_38.2.2.2.1.cls kr_38.2.1 [[410], [412]] = true := by decide +kernel
theorem ko_38 : k_recP kr_38 := k_rec_ok k_okm kd_38 ke_38 (by decide +kernel)
theorem kd_39_0 : k_decL cX4_roomAt ((kc_39.drop 0).take 8) = true := by decide +kernel
theorem kx_39 : kc_39 = (kc_39.drop 0).take 8 := rfl
theorem kd_39 : ∀ ch ∈ kr_39.1, ∀ q ∈ ch, decode kr_39.2.2.2.2.1 q.1 = .ok q.2 := by
  show ∀ ch ∈ kc_39, ∀ q ∈ ch, decode cX4_roomAt q.1 = .ok q.2
  rw [kx_39]
  exact (k_decL_ok kd_39_0)
theorem ke_39 : k_ents kr_39.2.2.2.1.cls kr_39.2.1 [[413], [415]] = true := by decide +kernel
theorem ko_39 : k_recP kr_39 := k_rec_ok k_okm kd_39 ke_39 (by decide +kernel)
theorem kd_40_0 : k_decL cX4_bearerAt ((kc_40.drop 0).take 8) = true := by decide +kernel
theorem kx_40 : kc_40 = (kc_40.drop 0).take 8 := rfl
theorem kd_40 : ∀ ch ∈ kr_40.1, ∀ q ∈ ch, decode kr_40.2.2.2.2.1 q.1 = .ok q.2 := by
  show ∀ ch ∈ kc_40, ∀ q ∈ ch, decode cX4_bearerAt q.1 = .ok q.2
  rw [kx_40]
  exact (k_decL_ok kd_40_0)
theorem ke_40 : k_ents kr_40.2.2.2.1.cls kr_40.2.1 [[411], [413], [414], [415]] = true := by decide +kernel
theorem ko_40 : k_recP kr_40 := k_rec_ok k_okm kd_40 ke_40 (by decide +kernel)
theorem kd_41_0 : k_decL cX5_init ((kc_41.drop 0).take 8) = true := by decide +kernel
theorem kx_41 : kc_41 = (kc_41.drop 0).take 8 := rfl
theorem kd_41 : ∀ ch ∈ kr_41.1, ∀ q ∈ ch, decode kr_41.2.2.2.2.1 q.1 = .ok q.2 := by
  show ∀ ch ∈ kc_41, ∀ q ∈ ch, decode cX5_init q.1 = .ok q.2
  rw [kx_41]
  exact (k_decL_ok kd_41_0)
theorem ke_41 : k_ents kr_41.2.2.2.1.cls kr_41.2.1 [[253, 155, 156], [254, 255, 138], [257, 256], [368], [373], [375], [377]] = true := by decide +kernel
theorem ko_41 : k_recP kr_41 := k_rec_ok k_okm kd_41 ke_41 (by decide +kernel)
theorem kd_42_0 : k_decL cX5_takeDraft ((kc_42.drop 0).take 8) = true := by decide +kernel
theorem kx_42 : kc_42 = (kc_42.drop 0).take 8 := rfl
theorem kd_42 : ∀ ch ∈ kr_42.1, ∀ q ∈ ch, decode kr_42.2.2.2.2.1 q.1 = .ok q.2 := by
  show ∀ ch ∈ kc_42, ∀ q ∈ ch, decode cX5_takeDraft q.1 = .ok q.2
  rw [kx_42]
  exact (k_decL_ok kd_42_0)
theorem ke_42 : k_ents kr_42.2.2.2.1.cls kr_42.2.1 [[368], [373], [375], [796, 553], [287], [328]] = true := by decide +kernel
theorem ko_42 : k_recP kr_42 := k_rec_ok k_okm kd_42 ke_42 (by decide +kernel)
theorem kd_43_0 : k_decL cX5_roomOf ((kc_43.drop 0).take 8) = true := by decide +kernel
theorem kx_43 : kc_43 = (kc_43.drop 0).take 8 := rfl
theorem kd_43 : ∀ ch ∈ kr_43.1, ∀ q ∈ ch, decode kr_43.2.2.2.2.1 q.1 = .ok q.2 := by
  show ∀ ch ∈ kc_43, ∀ q ∈ ch, decode cX5_roomOf q.1 = .ok q.2
  rw [kx_43]
  exact (k_decL_ok kd_43_0)
theorem ke_43 : k_ents kr_43.2.2.2.1.cls kr_43.2.1 [[375]] = true := by decide +kernel
theorem ko_43 : k_recP kr_43 := k_rec_ok k_okm kd_43 ke_43 (by decide +kernel)
theorem kd_44_0 : k_decL cX5_chairRoom ((kc_44.drop 0).take 8) = true := by decide +kernel
theorem kx_44 : kc_44 = (kc_44.drop 0).take 8 := rfl
theorem kd_44 : ∀ ch ∈ kr_44.1, ∀ q ∈ ch, decode kr_44.2.2.2.2.1 q.1 = .ok q.2 := by
  show ∀ ch ∈ kc_44, ∀ q ∈ ch, decode cX5_chairRoom q.1 = .ok q.2
  rw [kx_44]
  exact (k_decL_ok kd_44_0)
theorem ke_44 : k_ents kr_44.2.2.2.1.cls kr_44.2.1 [[375]] = true := by decide +kernel
theorem ko_44 : k_recP kr_44 := k_rec_ok k_okm kd_44 ke_44 (by decide +kernel)
theorem kd_45_0 : k_decL cX5_isBroken ((kc_45.drop 0).take 8) = true := by decide +kernel
theorem kx_45 : kc_45 = (kc_45.drop 0).take 8 := rfl
theorem kd_45 : ∀ ch ∈ kr_45.1, ∀ q ∈ ch, decode kr_45.2.2.2.2.1 q.1 = .ok q.2 := by
  show ∀ ch ∈ kc_45, ∀ q ∈ ch, decode cX5_isBroken q.1 = .ok q.2
  rw [kx_45]
  exact (k_decL_ok kd_45_0)
theorem ke_45 : k_ents kr_45.2.2.2.1.cls kr_45.2.1 [[375]] = true := by decide +kernel
theorem ko_45 : k_recP kr_45 := k_rec_ok k_okm kd_45 ke_45 (by decide +kernel)
theorem kd_46_0 : k_decL cX5_clockOf ((kc_46.drop 0).take 8) = true := by decide +kernel
theorem kx_46 : kc_46 = (kc_46.drop 0).take 8 := rfl
theorem kd_46 : ∀ ch ∈ kr_46.1, ∀ q ∈ ch, decode kr_46.2.2.2.2.1 q.1 = .ok q.2 := by
  show ∀ ch ∈ kc_46, ∀ q ∈ ch, decode cX5_clockOf q.1 = .ok q.2
  rw [kx_46]
  exact (k_decL_ok kd_46_0)
theorem ke_46 : k_ents kr_46.2.2.2.1.cls kr_46.2.1 [[375]] = true := by decide +kernel
theorem ko_46 : k_recP kr_46 := k_rec_ok k_okm kd_46 ke_46 (by decide +kernel)
theorem kd_47_0 : k_decL cX5_acheOf ((kc_47.drop 0).take 8) = true := by decide +kernel
theorem kx_47 : kc_47 = (kc_47.drop 0).take 8 := rfl
theorem kd_47 : ∀ ch ∈ kr_47.1, ∀ q ∈ ch, decode kr_47.2.2.2.2.1 q.1 = .ok q.2 := by
  show ∀ ch ∈ kc_47, ∀ q ∈ ch, decode cX5_acheOf q.1 = .ok q.2
  rw [kx_47]
  exact (k_decL_ok kd_47_0)
theorem ke_47 : k_ents kr_47.2.2.2.1.cls kr_47.2.1 [[375]] = true := by decide +kernel
theorem ko_47 : k_recP kr_47 := k_rec_ok k_okm kd_47 ke_47 (by decide +kernel)
theorem kd_48_0 : k_decL cX5_keptCount ((kc_48.drop 0).take 8) = true := by decide +kernel
theorem kx_48 : kc_48 = (kc_48.drop 0).take 8 := rfl
theorem kd_48 : ∀ ch ∈ kr_48.1, ∀ q ∈ ch, decode kr_48.2.2.2.2.1 q.1 = .ok q.2 := by
  show ∀ ch ∈ kc_48, ∀ q ∈ ch, decode cX5_keptCount q.1 = .ok q.2
  rw [kx_48]
  exact (k_decL_ok kd_48_0)
theorem ke_48 : k_ents kr_48.2.2.2.1.cls kr_48.2.1 [[375]] = true := by decide +kernel
theorem ko_48 : k_recP kr_48 := k_rec_ok k_okm kd_48 ke_48 (by decide +kernel)
theorem kd_49_0 : k_decL cX5_sitting ((kc_49.drop 0).take 8) = true := by decide +kernel
theorem kx_49 : kc_49 = (kc_49.drop 0).take 8 := rfl
theorem kd_49 : ∀ ch ∈ kr_49.1, ∀ q ∈ ch, decode kr_49.2.2.2.2.1 q.1 = .ok q.2 := by
  show ∀ ch ∈ kc_49, ∀ q ∈ ch, decode cX5_sitting q.1 = .ok q.2
  rw [kx_49]
  exact (k_decL_ok kd_49_0)
theorem ke_49 : k_ents kr_49.2.2.2.1.cls kr_49.2.1 [[368], [287], [809, 810, 811]] = true := by decide +kernel
theorem ko_49 : k_recP kr_49 := k_rec_ok k_okm kd_49 ke_49 (by decide +kernel)
theorem kd_50_0 : k_decL cX5_brokenChairs ((kc_50.drop 0).take 8) = true := by decide +kernel
theorem kx_50 : kc_50 = (kc_50.drop 0).take 8 := rfl
theorem kd_50 : ∀ ch ∈ kr_50.1, ∀ q ∈ ch, decode kr_50.2.2.2.2.1 q.1 = .ok q.2 := by
  show ∀ ch ∈ kc_50, ∀ q ∈ ch, decode cX5_brokenChairs q.1 = .ok q.2
  rw [kx_50]
  exact (k_decL_ok kd_50_0)
theorem ke_50 : k_ents kr_50.2.2.2.1.cls kr_50.2.1 [[368], [287], [825, 826, 827]] = true := by decide +kernel
theorem ko_50 : k_recP kr_50 := k_rec_ok k_okm kd_50 ke_50 (by decide +kernel)
theorem kd_51_0 : k_decL cX5_latestClock ((kc_51.drop 0).take 8) = true := by decide +kernel
theorem kx_51 : kc_51 = (kc_51.drop 0).take 8 := rfl
theorem kd_51 : ∀ ch ∈ kr_51.1, ∀ q ∈ ch, decode kr_51.2.2.2.2.1 q.1 = .ok q.2 := by
  show ∀ ch ∈ kc_51, ∀ q ∈ ch, decode cX5_latestClock q.1 = .ok q.2
  rw [kx_51]
  exact (k_decL_ok kd_51_0)
theorem ke_51 : k_ents kr_51.2.2.2.1.cls kr_51.2.1 [[368], [287], [838, 839, 840], [842, 843]] = true := by decide +kernel
theorem ko_51 : k_recP kr_51 := k_rec_ok k_okm kd_51 ke_51 (by decide +kernel)
theorem kd_52_0 : k_decL cX5_allAches ((kc_52.drop 0).take 8) = true := by decide +kernel
theorem kx_52 : kc_52 = (kc_52.drop 0).take 8 := rfl
theorem kd_52 : ∀ ch ∈ kr_52.1, ∀ q ∈ ch, decode kr_52.2.2.2.2.1 q.1 = .ok q.2 := by
  show ∀ ch ∈ kc_52, ∀ q ∈ ch, decode cX5_allAches q.1 = .ok q.2
  rw [kx_52]
  exact (k_decL_ok kd_52_0)
theorem ke_52 : k_ents kr_52.2.2.2.1.cls kr_52.2.1 [[368], [287], [849, 850, 851]] = true := by decide +kernel
theorem ko_52 : k_recP kr_52 := k_rec_ok k_okm kd_52 ke_52 (by decide +kernel)
theorem kd_53_0 : k_decL cX5_peopleIn ((kc_53.drop 0).take 8) = true := by decide +kernel
theorem kx_53 : kc_53 = (kc_53.drop 0).take 8 := rfl
theorem kd_53 : ∀ ch ∈ kr_53.1, ∀ q ∈ ch, decode kr_53.2.2.2.2.1 q.1 = .ok q.2 := by
  show ∀ ch ∈ kc_53, ∀ q ∈ ch, decode cX5_peopleIn q.1 = .ok q.2
  rw [kx_53]
  exact (k_decL_ok kd_53_0)
theorem ke_53 : k_ents kr_53.2.2.2.1.cls kr_53.2.1 [[368], [287], [813, 814, 815]] = true := by decide +kernel
theorem ko_53 : k_recP kr_53 := k_rec_ok k_okm kd_53 ke_53 (by decide +kernel)
theorem kd_54_0 : k_decL cX5_chairsIn ((kc_54.drop 0).take 8) = true := by decide +kernel
theorem kx_54 : kc_54 = (kc_54.drop 0).take 8 := rfl
theorem kd_54 : ∀ ch ∈ kr_54.1, ∀ q ∈ ch, decode kr_54.2.2.2.2.1 q.1 = .ok q.2 := by
  show ∀ ch ∈ kc_54, ∀ q ∈ ch, decode cX5_chairsIn q.1 = .ok q.2
  rw [kx_54]
  exact (k_decL_ok kd_54_0)
theorem ke_54 : k_ents kr_54.2.2.2.1.cls kr_54.2.1 [[368], [287], [817, 818, 819]] = true := by decide +kernel
theorem ko_54 : k_recP kr_54 := k_rec_ok k_okm kd_54 ke_54 (by decide +kernel)
theorem kd_55_0 : k_decL cX5_sittingIn ((kc_55.drop 0).take 8) = true := by decide +kernel
theorem kx_55 : kc_55 = (kc_55.drop 0).take 8 := rfl
theorem kd_55 : ∀ ch ∈ kr_55.1, ∀ q ∈ ch, decode kr_55.2.2.2.2.1 q.1 = .ok q.2 := by
  show ∀ ch ∈ kc_55, ∀ q ∈ ch, decode cX5_sittingIn q.1 = .ok q.2
  rw [kx_55]
  exact (k_decL_ok kd_55_0)
theorem ke_55 : k_ents kr_55.2.2.2.1.cls kr_55.2.1 [[368], [287], [809, 810, 811], [813, 814, 815]] = true := by decide +kernel
theorem ko_55 : k_recP kr_55 := k_rec_ok k_okm kd_55 ke_55 (by decide +kernel)
theorem kd_56_0 : k_decL cX5_load ((kc_56.drop 0).take 8) = true := by decide +kernel
theorem kx_56 : kc_56 = (kc_56.drop 0).take 8 := rfl
theorem kd_56 : ∀ ch ∈ kr_56.1, ∀ q ∈ ch, decode kr_56.2.2.2.2.1 q.1 = .ok q.2 := by
  show ∀ ch ∈ kc_56, ∀ q ∈ ch, decode cX5_load q.1 = .ok q.2
  rw [kx_56]
  exact (k_decL_ok kd_56_0)
theorem ke_56 : k_ents kr_56.2.2.2.1.cls kr_56.2.1 [[368], [287], [817, 818, 819], [321]] = true := by decide +kernel
theorem ko_56 : k_recP kr_56 := k_rec_ok k_okm kd_56 ke_56 (by decide +kernel)
theorem kd_57_0 : k_decL cX5_admits ((kc_57.drop 0).take 8) = true := by decide +kernel
theorem kx_57 : kc_57 = (kc_57.drop 0).take 8 := rfl
theorem kd_57 : ∀ ch ∈ kr_57.1, ∀ q ∈ ch, decode kr_57.2.2.2.2.1 q.1 = .ok q.2 := by
  show ∀ ch ∈ kc_57, ∀ q ∈ ch, decode cX5_admits q.1 = .ok q.2
  rw [kx_57]
  exact (k_decL_ok kd_57_0)
theorem ke_57 : k_ents kr_57.2.2.2.1.cls kr_57.2.1 [[368], [321], [916, 650, 651], [829, 686, 687], [917, 905, 906], [304], [918, 871, 872], [308]] = true := by decide +kernel
theorem ko_57 : k_recP kr_57 := k_rec_ok k_okm kd_57 ke_57 (by decide +kernel)
theorem kd_58_0 : k_decL cX5_sits ((kc_58.drop 0).take 8) = true := by decide +kernel
theorem kx_58 : kc_58 = (kc_58.drop 0).take 8 := rfl
theorem kd_58 : ∀ ch ∈ kr_58.1, ∀ q ∈ ch, decode kr_58.2.2.2.2.1 q.1 = .ok q.2 := by
  show ∀ ch ∈ kc_58, ∀ q ∈ ch, decode cX5_sits q.1 = .ok q.2
  rw [kx_58]
  exact (k_decL_ok kd_58_0)
theorem ke_58 : k_ents kr_58.2.2.2.1.cls kr_58.2.1 [[813, 814, 815], [817, 818, 819], [821, 822, 823]] = true := by decide +kernel
theorem ko_58 : k_recP kr_58 := k_rec_ok k_okm kd_58 ke_58 (by decide +kernel)
theorem kd_59_0 : k_decL cX5_wouldSit ((kc_59.drop 0).take 8) = true := by decide +kernel
theorem kx_59 : kc_59 = (kc_59.drop 0).take 8 := rfl
theorem kd_59 : ∀ ch ∈ kr_59.1, ∀ q ∈ ch, decode kr_59.2.2.2.2.1 q.1 = .ok q.2 := by
  show ∀ ch ∈ kc_59, ∀ q ∈ ch, decode cX5_wouldSit q.1 = .ok q.2
  rw [kx_59]
  exact (k_decL_ok kd_59_0)
theorem ke_59 : k_ents kr_59.2.2.2.1.cls kr_59.2.1 [[368], [825, 826, 827], [817, 818, 819], [829, 686, 687], [326]] = true := by decide +kernel
theorem ko_59 : k_recP kr_59 := k_rec_ok k_okm kd_59 ke_59 (by decide +kernel)
theorem kd_60_0 : k_decL cX5_canCarry ((kc_60.drop 0).take 8) = true := by decide +kernel
theorem kx_60 : kc_60 = (kc_60.drop 0).take 8 := rfl
theorem kd_60 : ∀ ch ∈ kr_60.1, ∀ q ∈ ch, decode kr_60.2.2.2.2.1 q.1 = .ok q.2 := by
  show ∀ ch ∈ kc_60, ∀ q ∈ ch, decode cX5_canCarry q.1 = .ok q.2
  rw [kx_60]
  exact (k_decL_ok kd_60_0)
theorem ke_60 : k_ents kr_60.2.2.2.1.cls kr_60.2.1 [[368], [825, 826, 827], [813, 814, 815], [817, 818, 819], [829, 686, 687], [932, 913, 914]] = true := by decide +kernel
theorem ko_60 : k_recP kr_60 := k_rec_ok k_okm kd_60 ke_60 (by decide +kernel)
theorem kd_61_0 : k_decL cX5_goingMinutes ((kc_61.drop 0).take 8) = true := by decide +kernel
theorem kx_61 : kc_61 = (kc_61.drop 0).take 8 := rfl
theorem kd_61 : ∀ ch ∈ kr_61.1, ∀ q ∈ ch, decode kr_61.2.2.2.2.1 q.1 = .ok q.2 := by
  show ∀ ch ∈ kc_61, ∀ q ∈ ch, decode cX5_goingMinutes q.1 = .ok q.2
  rw [kx_61]
  exact (k_decL_ok kd_61_0)
theorem ke_61 : k_ents kr_61.2.2.2.1.cls kr_61.2.1 [[368], [813, 814, 815], [829, 686, 687], [927, 891, 892], [928, 929, 930], [933, 934, 935]] = true := by decide +kernel
theorem ko_61 : k_recP kr_61 := k_rec_ok k_okm kd_61 ke_61 (by decide +kernel)
theorem kd_62_0 : k_decL cX5_minutesBy ((kc_62.drop 0).take 8) = true := by decide +kernel
theorem kx_62 : kc_62 = (kc_62.drop 0).take 8 := rfl
theorem kd_62 : ∀ ch ∈ kr_62.1, ∀ q ∈ ch, decode kr_62.2.2.2.2.1 q.1 = .ok q.2 := by
  show ∀ ch ∈ kc_62, ∀ q ∈ ch, decode cX5_minutesBy q.1 = .ok q.2
  rw [kx_62]
  exact (k_decL_ok kd_62_0)
theorem ke_62 : k_ents kr_62.2.2.2.1.cls kr_62.2.1 [[368], [377], [331], [271], [937, 939, 29], [941, 942, 943]] = true := by decide +kernel
theorem ko_62 : k_recP kr_62 := k_rec_ok k_okm kd_62 ke_62 (by decide +kernel)
theorem kd_63_0 : k_decL cX5_give ((kc_63.drop 0).take 8) = true := by decide +kernel
theorem kx_63 : kc_63 = (kc_63.drop 0).take 8 := rfl
theorem kd_63 : ∀ ch ∈ kr_63.1, ∀ q ∈ ch, decode kr_63.2.2.2.2.1 q.1 = .ok q.2 := by
  show ∀ ch ∈ kc_63, ∀ q ∈ ch, decode cX5_give q.1 = .ok q.2
  rw [kx_63]
  exact (k_decL_ok kd_63_0)
theorem ke_63 : k_ents kr_63.2.2.2.1.cls kr_63.2.1 [[368], [377], [838, 839, 840], [321], [317], [314]] = true := by decide +kernel
theorem ko_63 : k_recP kr_63 := k_rec_ok k_okm kd_63 ke_63 (by decide +kernel)
theorem kd_64_0 : k_decL cX5_spend ((kc_64.drop 0).take 8) = true := by decide +kernel
theorem kx_64 : kc_64 = (kc_64.drop 0).take 8 := rfl
theorem kd_64 : ∀ ch ∈ kr_64.1, ∀ q ∈ ch, decode kr_64.2.2.2.2.1 q.1 = .ok q.2 := by
  show ∀ ch ∈ kc_64, ∀ q ∈ ch, decode cX5_spend q.1 = .ok q.2
  rw [kx_64]
  exact (k_decL_ok kd_64_0)
theorem ke_64 : k_ents kr_64.2.2.2.1.cls kr_64.2.1 [[375], [838, 839, 840], [992], [993, 560]] = true := by decide +kernel
theorem ko_64 : k_recP kr_64 := k_rec_ok k_okm kd_64 ke_64 (by decide +kernel)
theorem kd_65_0 : k_decL cX5_walk ((kc_65.drop 0).take 8) = true := by decide +kernel
theorem kx_65 : kc_65 = (kc_65.drop 0).take 8 := rfl
theorem kd_65 : ∀ ch ∈ kr_65.1, ∀ q ∈ ch, decode kr_65.2.2.2.2.1 q.1 = .ok q.2 := by
  show ∀ ch ∈ kc_65, ∀ q ∈ ch, decode cX5_walk q.1 = .ok q.2
  rw [kx_65]
  exact (k_decL_ok kd_65_0)
theorem ke_65 : k_ents kr_65.2.2.2.1.cls kr_65.2.1 [[375], [988, 990, 31]] = true := by decide +kernel
theorem ko_65 : k_recP kr_65 := k_rec_ok k_okm kd_65 ke_65 (by decide +kernel)
theorem kd_66_0 : k_decL cX5_carry ((kc_66.drop 0).take 8) = true := by decide +kernel
theorem kx_66 : kc_66 = (kc_66.drop 0).take 8 := rfl
theorem kd_66 : ∀ ch ∈ kr_66.1, ∀ q ∈ ch, decode kr_66.2.2.2.2.1 q.1 = .ok q.2 := by
  show ∀ ch ∈ kc_66, ∀ q ∈ ch, decode cX5_carry q.1 = .ok q.2
  rw [kx_66]
  exact (k_decL_ok kd_66_0)
theorem ke_66 : k_ents kr_66.2.2.2.1.cls kr_66.2.1 [[375], [998, 854, 855], [999, 726, 725, 147]] = true := by decide +kernel
theorem ko_66 : k_recP kr_66 := k_rec_ok k_okm kd_66 ke_66 (by decide +kernel)
theorem kd_67_0 : k_decL cX5_keptPart ((kc_67.drop 0).take 8) = true := by decide +kernel
theorem kx_67 : kc_67 = (kc_67.drop 0).take 8 := rfl
theorem kd_67 : ∀ ch ∈ kr_67.1, ∀ q ∈ ch, decode kr_67.2.2.2.2.1 q.1 = .ok q.2 := by
  show ∀ ch ∈ kc_67, ∀ q ∈ ch, decode cX5_keptPart q.1 = .ok q.2
  rw [kx_67]
  exact (k_decL_ok kd_67_0)
theorem ke_67 : k_ents kr_67.2.2.2.1.cls kr_67.2.1 [[375], [998, 854, 855]] = true := by decide +kernel
theorem ko_67 : k_recP kr_67 := k_rec_ok k_okm kd_67 ke_67 (by decide +kernel)
theorem kd_68_0 : k_decL cX5_spoil ((kc_68.drop 0).take 8) = true := by decide +kernel
theorem kx_68 : kc_68 = (kc_68.drop 0).take 8 := rfl
theorem kd_68 : ∀ ch ∈ kr_68.1, ∀ q ∈ ch, decode kr_68.2.2.2.2.1 q.1 = .ok q.2 := by
  show ∀ ch ∈ kc_68, ∀ q ∈ ch, decode cX5_spoil q.1 = .ok q.2
  rw [kx_68]
  exact (k_decL_ok kd_68_0)
theorem ke_68 : k_ents kr_68.2.2.2.1.cls kr_68.2.1 [[375]] = true := by decide +kernel
theorem ko_68 : k_recP kr_68 := k_rec_ok k_okm kd_68 ke_68 (by decide +kernel)
theorem kd_69_0 : k_decL cX5_spendWaiting ((kc_69.drop 0).take 8) = true := by decide +kernel
theorem kx_69 : kc_69 = (kc_69.drop 0).take 8 := rfl
theorem kd_69 : ∀ ch ∈ kr_69.1, ∀ q ∈ ch, decode kr_69.2.2.2.2.1 q.1 = .ok q.2 := by
  show ∀ ch ∈ kc_69, ∀ q ∈ ch, decode cX5_spendWaiting q.1 = .ok q.2
  rw [kx_69]
  exact (k_decL_ok kd_69_0)
theorem ke_69 : k_ents kr_69.2.2.2.1.cls kr_69.2.1 [[368], [375], [377], [809, 810, 811], [849, 850, 851], [271], [937, 939, 29], [941, 942, 943], [992], [993, 560], [988, 990, 31], [334]] = true := by decide +kernel
theorem ko_69 : k_recP kr_69 := k_rec_ok k_okm kd_69 ke_69 (by decide +kernel)
theorem kd_70_0 : k_decL cX5_canMend ((kc_70.drop 0).take 8) = true := by decide +kernel
theorem kx_70 : kc_70 = (kc_70.drop 0).take 8 := rfl
theorem kd_70 : ∀ ch ∈ kr_70.1, ∀ q ∈ ch, decode kr_70.2.2.2.2.1 q.1 = .ok q.2 := by
  show ∀ ch ∈ kc_70, ∀ q ∈ ch, decode cX5_canMend q.1 = .ok q.2
  rw [kx_70]
  exact (k_decL_ok kd_70_0)
theorem ke_70 : k_ents kr_70.2.2.2.1.cls kr_70.2.1 [[368], [825, 826, 827], [813, 814, 815], [817, 818, 819], [916, 650, 651], [829, 686, 687], [298]] = true := by decide +kernel
theorem ko_70 : k_recP kr_70 := k_rec_ok k_okm kd_70 ke_70 (by decide +kernel)
theorem kd_71_0 : k_decL cX5_makeWhole ((kc_71.drop 0).take 8) = true := by decide +kernel
theorem kx_71 : kc_71 = (kc_71.drop 0).take 8 := rfl
theorem kd_71 : ∀ ch ∈ kr_71.1, ∀ q ∈ ch, decode kr_71.2.2.2.2.1 q.1 = .ok q.2 := by
  show ∀ ch ∈ kc_71, ∀ q ∈ ch, decode cX5_makeWhole q.1 = .ok q.2
  rw [kx_71]
  exact (k_decL_ok kd_71_0)
theorem ke_71 : k_ents kr_71.2.2.2.1.cls kr_71.2.1 [[375], [988, 990, 31]] = true := by decide +kernel
theorem ko_71 : k_recP kr_71 := k_rec_ok k_okm kd_71 ke_71 (by decide +kernel)
theorem kd_72_0 : k_decL cX5_draw ((kc_72.drop 0).take 8) = true := by decide +kernel
theorem kx_72 : kc_72 = (kc_72.drop 0).take 8 := rfl
theorem kd_72 : ∀ ch ∈ kr_72.1, ∀ q ∈ ch, decode kr_72.2.2.2.2.1 q.1 = .ok q.2 := by
  show ∀ ch ∈ kc_72, ∀ q ∈ ch, decode cX5_draw q.1 = .ok q.2
  rw [kx_72]
  exact (k_decL_ok kd_72_0)
theorem ke_72 : k_ents kr_72.2.2.2.1.cls kr_72.2.1 [[368], [287], [1236, 1238, 47]] = true := by decide +kernel
theorem ko_72 : k_recP kr_72 := k_rec_ok k_okm kd_72 ke_72 (by decide +kernel)
theorem kd_73_0 : k_decL cX5_imageByte ((kc_73.drop 0).take 8) = true := by decide +kernel
theorem kx_73 : kc_73 = (kc_73.drop 0).take 8 := rfl
theorem kd_73 : ∀ ch ∈ kr_73.1, ∀ q ∈ ch, decode kr_73.2.2.2.2.1 q.1 = .ok q.2 := by
  show ∀ ch ∈ kc_73, ∀ q ∈ ch, decode cX5_imageByte q.1 = .ok q.2
  rw [kx_73]
  exact (k_decL_ok kd_73_0)
theorem ke_73 : k_ents kr_73.2.2.2.1.cls kr_73.2.1 [[375], [838, 839, 840], [849, 850, 851], [813, 814, 815], [817, 818, 819]] = true := by decide +kernel
theorem ko_73 : k_recP kr_73 := k_rec_ok k_okm kd_73 ke_73 (by decide +kernel)
theorem kd_74_0 : k_decL cX5_isImage ((kc_74.drop 0).take 8) = true := by decide +kernel
theorem kd_74_8 : k_decL cX5_isImage ((kc_74.drop 8).take 8) = true := by decide +kernel
theorem kx_74 : kc_74 = (kc_74.drop 0).take 8 ++ ((kc_74.drop 8).take 8) := rfl
theorem kd_74 : ∀ ch ∈ kr_74.1, ∀ q ∈ ch, decode kr_74.2.2.2.2.1 q.1 = .ok q.2 := by
  show ∀ ch ∈ kc_74, ∀ q ∈ ch, decode cX5_isImage q.1 = .ok q.2
  rw [kx_74]
  exact (k_dec_app (k_decL_ok kd_74_0) (k_decL_ok kd_74_8))
theorem ke_74 : k_ents kr_74.2.2.2.1.cls kr_74.2.1 [[368], [287], [916, 650, 651], [992], [173], [167], [1252, 1253], [1255, 1257, 48]] = true := by decide +kernel
theorem ko_74 : k_recP kr_74 := k_rec_ok k_okm kd_74 ke_74 (by decide +kernel)
