set_option maxRecDepth 100000 in
theorem kcw_1 : Cond.code yX0_init cX0_init 1 none ∈ lw_tbl := (List.mem_append_right _ (List.mem_append_right _ (List.mem_append_left _ (List.mem_of_getElem? (i := 66) rfl))))
theorem kg_1 : k_get 1 = kr_1 := rfl
theorem km_1 : x_okm k_P 1 := k_m_ok (k_cw kg_1 rfl rfl rfl rfl kcw_1) (is := [142]) (by decide +kernel)
set_option maxRecDepth 100000 in
theorem kcw_2 : Cond.code yX0_isTold cX0_isTold 7 (some .boolean) ∈ lw_tbl := (List.mem_append_right _ (List.mem_append_right _ (List.mem_append_right _ (List.mem_append_right _ (List.mem_append_right _ (List.mem_append_left _ (List.mem_of_getElem? (i := 36) rfl)))))))
theorem kg_2 : k_get 2 = kr_2 := rfl
theorem km_2 : x_okm k_P 2 := k_m_ok (k_cw kg_2 rfl rfl rfl rfl kcw_2) (is := [142]) (by decide +kernel)
set_option maxRecDepth 100000 in
theorem kcw_9 : Cond.code yX1_init cX1_init 1 none ∈ lw_tbl := (List.mem_append_right _ (List.mem_append_left _ (List.mem_of_getElem? (i := 133) rfl)))
theorem kg_9 : k_get 9 = kr_9 := rfl
theorem km_9 : x_okm k_P 9 := k_m_ok (k_cw kg_9 rfl rfl rfl rfl kcw_9) (is := [139]) (by decide +kernel)
set_option maxRecDepth 100000 in
theorem kcw_15 : Cond.code yX2_init cX2_init 1 none ∈ lw_tbl := (List.mem_append_right _ (List.mem_append_right _ (List.mem_append_left _ (List.mem_of_getElem? (i := 20) rfl))))
theorem kg_15 : k_get 15 = kr_15 := rfl
theorem km_15 : x_okm k_P 15 := k_m_ok (k_cw kg_15 rfl rfl rfl rfl kcw_15) (is := [140]) (by decide +kernel)
set_option maxRecDepth 100000 in
theorem kcw_16 : Cond.code yX2_remember cX2_remember 2 none ∈ lw_tbl := (List.mem_append_right _ (List.mem_append_right _ (List.mem_append_right _ (List.mem_append_right _ (List.mem_append_left _ (List.mem_of_getElem? (i := 126) rfl))))))
theorem kg_16 : k_get 16 = kr_16 := rfl
theorem km_16 : x_okm k_P 16 := k_m_ok (k_cw kg_16 rfl rfl rfl rfl kcw_16) (is := [140]) (by decide +kernel)
set_option maxRecDepth 100000 in
theorem kcw_18 : Cond.code yX3_init cX3_init 1 none ∈ lw_tbl := (List.mem_append_right _ (List.mem_append_left _ (List.mem_of_getElem? (i := 65) rfl)))
theorem kg_18 : k_get 18 = kr_18 := rfl
theorem km_18 : x_okm k_P 18 := k_m_ok (k_cw kg_18 rfl rfl rfl rfl kcw_18) (is := [136]) (by decide +kernel)
set_option maxRecDepth 100000 in
theorem kcw_19 : Cond.code yX3_begin cX3_begin 2 none ∈ lw_tbl := (List.mem_append_right _ (List.mem_append_right _ (List.mem_append_left _ (List.mem_of_getElem? (i := 187) rfl))))
theorem kg_19 : k_get 19 = kr_19 := rfl
theorem km_19 : x_okm k_P 19 := k_m_ok (k_cw kg_19 rfl rfl rfl rfl kcw_19) (is := [136]) (by decide +kernel)
set_option maxRecDepth 100000 in
theorem kcw_25 : Cond.code yX3_atEnd cX3_atEnd 1 (some .boolean) ∈ lw_tbl := (List.mem_append_right _ (List.mem_append_right _ (List.mem_append_left _ (List.mem_of_getElem? (i := 194) rfl))))
theorem kg_25 : k_get 25 = kr_25 := rfl
theorem km_25 : x_okm k_P 25 := k_m_ok (k_cw kg_25 rfl rfl rfl rfl kcw_25) (is := [136]) (by decide +kernel)
set_option maxRecDepth 100000 in
theorem kcw_32 : Cond.code yX4_init cX4_init 1 none ∈ lw_tbl := (List.mem_append_right _ (List.mem_append_right _ (List.mem_append_left _ (List.mem_of_getElem? (i := 37) rfl))))
theorem kg_32 : k_get 32 = kr_32 := rfl
theorem km_32 : x_okm k_P 32 := k_m_ok (k_cw kg_32 rfl rfl rfl rfl kcw_32) (is := [141]) (by decide +kernel)
set_option maxRecDepth 100000 in
theorem kcw_41 : Cond.code yX5_init cX5_init 1 none ∈ lw_tbl := (List.mem_append_right _ (List.mem_append_left _ (List.mem_of_getElem? (i := 121) rfl)))
theorem kg_41 : k_get 41 = kr_41 := rfl
theorem km_41 : x_okm k_P 41 := k_m_ok (k_cw kg_41 rfl rfl rfl rfl kcw_41) (is := [137]) (by decide +kernel)
set_option maxRecDepth 100000 in
theorem kcw_42 : Cond.code yX5_takeDraft cX5_takeDraft 3 none ∈ lw_tbl := (List.mem_append_right _ (List.mem_append_right _ (List.mem_append_right _ (List.mem_append_left _ (List.mem_of_getElem? (i := 184) rfl)))))
theorem kg_42 : k_get 42 = kr_42 := rfl
theorem km_42 : x_okm k_P 42 := k_m_ok (k_cw kg_42 rfl rfl rfl rfl kcw_42) (is := [137]) (by decide +kernel)
set_option maxRecDepth 100000 in
theorem kcw_48 : Cond.code yX5_keptCount cX5_keptCount 1 (some .int) ∈ lw_tbl := (List.mem_append_right _ (List.mem_append_right _ (List.mem_append_right _ (List.mem_append_right _ (List.mem_append_left _ (List.mem_of_getElem? (i := 5) rfl))))))
theorem kg_48 : k_get 48 = kr_48 := rfl
theorem km_48 : x_okm k_P 48 := k_m_ok (k_cw kg_48 rfl rfl rfl rfl kcw_48) (is := [137]) (by decide +kernel)
set_option maxRecDepth 100000 in
theorem kcw_49 : Cond.code yX5_sitting cX5_sitting 3 (some .int) ∈ lw_tbl := (List.mem_append_right _ (List.mem_append_right _ (List.mem_append_right _ (List.mem_append_left _ (List.mem_of_getElem? (i := 197) rfl)))))
theorem kg_49 : k_get 49 = kr_49 := rfl
theorem km_49 : x_okm k_P 49 := k_m_ok (k_cw kg_49 rfl rfl rfl rfl kcw_49) (is := [137]) (by decide +kernel)
set_option maxRecDepth 100000 in
theorem kcw_50 : Cond.code yX5_brokenChairs cX5_brokenChairs 3 (some .int) ∈ lw_tbl := (List.mem_append_right _ (List.mem_append_right _ (List.mem_append_right _ (List.mem_append_left _ (List.mem_of_getElem? (i := 222) rfl)))))
theorem kg_50 : k_get 50 = kr_50 := rfl
theorem km_50 : x_okm k_P 50 := k_m_ok (k_cw kg_50 rfl rfl rfl rfl kcw_50) (is := [137]) (by decide +kernel)
set_option maxRecDepth 100000 in
theorem kcw_51 : Cond.code yX5_latestClock cX5_latestClock 3 (some .int) ∈ lw_tbl := (List.mem_append_right _ (List.mem_append_right _ (List.mem_append_right _ (List.mem_append_left _ (List.mem_of_getElem? (i := 226) rfl)))))
theorem kg_51 : k_get 51 = kr_51 := rfl
theorem km_51 : x_okm k_P 51 := k_m_ok (k_cw kg_51 rfl rfl rfl rfl kcw_51) (is := [137]) (by decide +kernel)
set_option maxRecDepth 100000 in
theorem kcw_52 : Cond.code yX5_allAches cX5_allAches 3 (some .int) ∈ lw_tbl := (List.mem_append_right _ (List.mem_append_right _ (List.mem_append_right _ (List.mem_append_left _ (List.mem_of_getElem? (i := 237) rfl)))))
theorem kg_52 : k_get 52 = kr_52 := rfl
theorem km_52 : x_okm k_P 52 := k_m_ok (k_cw kg_52 rfl rfl rfl rfl kcw_52) (is := [137]) (by decide +kernel)
set_option maxRecDepth 100000 in
theorem kcw_61 : Cond.code yX5_goingMinutes cX5_goingMinutes 4 (some .int) ∈ lw_tbl := (List.mem_append_right _ (List.mem_append_right _ (List.mem_append_right _ (List.mem_append_right _ (List.mem_append_left _ (List.mem_of_getElem? (i := 75) rfl))))))
theorem kg_61 : k_get 61 = kr_61 := rfl
theorem km_61 : x_okm k_P 61 := k_m_ok (k_cw kg_61 rfl rfl rfl rfl kcw_61) (is := [137]) (by decide +kernel)
set_option maxRecDepth 100000 in
theorem kcw_67 : Cond.code yX5_keptPart cX5_keptPart 4 (some .int) ∈ lw_tbl := (List.mem_append_right _ (List.mem_append_right _ (List.mem_append_right _ (List.mem_append_right _ (List.mem_append_left _ (List.mem_of_getElem? (i := 218) rfl))))))
theorem kg_67 : k_get 67 = kr_67 := rfl
theorem km_67 : x_okm k_P 67 := k_m_ok (k_cw kg_67 rfl rfl rfl rfl kcw_67) (is := [137]) (by decide +kernel)
set_option maxRecDepth 100000 in
theorem kcw_70 : Cond.code yX5_canMend cX5_canMend 3 (some .boolean) ∈ lw_tbl := (List.mem_append_right _ (List.mem_append_right _ (List.mem_append_right _ (List.mem_append_right _ (List.mem_append_left _ (List.mem_of_getElem? (i := 175) rfl))))))
theorem kg_70 : k_get 70 = kr_70 := rfl
theorem km_70 : x_okm k_P 70 := k_m_ok (k_cw kg_70 rfl rfl rfl rfl kcw_70) (is := [137]) (by decide +kernel)
set_option maxRecDepth 100000 in
theorem kcw_72 : Cond.code yX5_draw cX5_draw 6 (some .int) ∈ lw_tbl := (List.mem_append_right _ (List.mem_append_right _ (List.mem_append_right _ (List.mem_append_right _ (List.mem_append_right _ (List.mem_append_left _ (List.mem_of_getElem? (i := 144) rfl)))))))
theorem kg_72 : k_get 72 = kr_72 := rfl
theorem km_72 : x_okm k_P 72 := k_m_ok (k_cw kg_72 rfl rfl rfl rfl kcw_72) (is := [137]) (by decide +kernel)
set_option maxRecDepth 100000 in
theorem kcw_74 : Cond.code yX5_isImage cX5_isImage 6 (some .boolean) ∈ lw_tbl := (List.mem_append_right _ (List.mem_append_right _ (List.mem_append_right _ (List.mem_append_right _ (List.mem_append_right _ (List.mem_append_left _ (List.mem_of_getElem? (i := 160) rfl)))))))
theorem kg_74 : k_get 74 = kr_74 := rfl
theorem km_74 : x_okm k_P 74 := k_m_ok (k_cw kg_74 rfl rfl rfl rfl kcw_74) (is := [137]) (by decide +kernel)
set_option maxRecDepth 100000 in
theorem kcw_78 : Cond.code yX6_init cX6_init 1 none ∈ lw_tbl := (List.mem_append_right _ (List.mem_append_right _ (List.mem_append_left _ (List.mem_of_getElem? (i := 84) rfl))))
theorem kg_78 : k_get 78 = kr_78 := rfl
theorem km_78 : x_okm k_P 78 := k_m_ok (k_cw kg_78 rfl rfl rfl rfl kcw_78) (is := [143]) (by decide +kernel)
set_option maxRecDepth 100000 in
theorem kcw_81 : Cond.code yX6_isTold cX6_isTold 6 (some .boolean) ∈ lw_tbl := (List.mem_append_right _ (List.mem_append_right _ (List.mem_append_right _ (List.mem_append_right _ (List.mem_append_right _ (List.mem_append_left _ (List.mem_of_getElem? (i := 103) rfl)))))))
theorem kg_81 : k_get 81 = kr_81 := rfl
theorem km_81 : x_okm k_P 81 := k_m_ok (k_cw kg_81 rfl rfl rfl rfl kcw_81) (is := [143]) (by decide +kernel)
set_option maxRecDepth 100000 in
theorem kcw_88 : Cond.code yX7_init cX7_init 1 none ∈ lw_tbl := (List.mem_append_right _ (List.mem_append_left _ (List.mem_of_getElem? (i := 59) rfl)))
theorem kg_88 : k_get 88 = kr_88 := rfl
theorem km_88 : x_okm k_P 88 := k_m_ok (k_cw kg_88 rfl rfl rfl rfl kcw_88) (is := [135]) (by decide +kernel)
set_option maxRecDepth 100000 in
theorem kcw_102 : Cond.code yX8_init cX8_init 1 none ∈ lw_tbl := (List.mem_append_right _ (List.mem_append_left _ (List.mem_of_getElem? (i := 30) rfl)))
theorem kg_102 : k_get 102 = kr_102 := rfl
theorem km_102 : x_okm k_P 102 := k_m_ok (k_cw kg_102 rfl rfl rfl rfl kcw_102) (is := [133]) (by decide +kernel)
set_option maxRecDepth 100000 in
theorem kcw_103 : Cond.code yX8_append cX8_append 3 none ∈ lw_tbl := (List.mem_append_right _ (List.mem_append_right _ (List.mem_append_left _ (List.mem_of_getElem? (i := 164) rfl))))
theorem kg_103 : k_get 103 = kr_103 := rfl
theorem km_103 : x_okm k_P 103 := k_m_ok (k_cw kg_103 rfl rfl rfl rfl kcw_103) (is := [133]) (by decide +kernel)
set_option maxRecDepth 100000 in
theorem kcw_104 : Cond.code yX9_init cX9_init 1 none ∈ lw_tbl := (List.mem_append_right _ (List.mem_append_left _ (List.mem_of_getElem? (i := 127) rfl)))
theorem kg_104 : k_get 104 = kr_104 := rfl
theorem km_104 : x_okm k_P 104 := k_m_ok (k_cw kg_104 rfl rfl rfl rfl kcw_104) (is := [138]) (by decide +kernel)
set_option maxRecDepth 100000 in
theorem kcw_105 : Cond.code yX9_clear cX9_clear 1 none ∈ lw_tbl := (List.mem_append_right _ (List.mem_append_right _ (List.mem_append_left _ (List.mem_of_getElem? (i := 180) rfl))))
theorem kg_105 : k_get 105 = kr_105 := rfl
theorem km_105 : x_okm k_P 105 := k_m_ok (k_cw kg_105 rfl rfl rfl rfl kcw_105) (is := [138]) (by decide +kernel)
set_option maxRecDepth 100000 in
theorem kcw_106 : Cond.code yX9_isRoom cX9_isRoom 2 (some .boolean) ∈ lw_tbl := (List.mem_append_right _ (List.mem_append_right _ (List.mem_append_right _ (List.mem_append_left _ (List.mem_of_getElem? (i := 41) rfl)))))
theorem kg_106 : k_get 106 = kr_106 := rfl
theorem km_106 : x_okm k_P 106 := k_m_ok (k_cw kg_106 rfl rfl rfl rfl kcw_106) (is := [138]) (by decide +kernel)
set_option maxRecDepth 100000 in
theorem kcw_107 : Cond.code yX9_isPerson cX9_isPerson 2 (some .boolean) ∈ lw_tbl := (List.mem_append_right _ (List.mem_append_right _ (List.mem_append_right _ (List.mem_append_left _ (List.mem_of_getElem? (i := 77) rfl)))))
theorem kg_107 : k_get 107 = kr_107 := rfl
theorem km_107 : x_okm k_P 107 := k_m_ok (k_cw kg_107 rfl rfl rfl rfl kcw_107) (is := [138]) (by decide +kernel)
set_option maxRecDepth 100000 in
theorem kcw_117 : Cond.code yX9_wayMinutes cX9_wayMinutes 3 (some .int) ∈ lw_tbl := (List.mem_append_right _ (List.mem_append_right _ (List.mem_append_right _ (List.mem_append_right _ (List.mem_append_left _ (List.mem_of_getElem? (i := 42) rfl))))))
theorem kg_117 : k_get 117 = kr_117 := rfl
theorem km_117 : x_okm k_P 117 := k_m_ok (k_cw kg_117 rfl rfl rfl rfl kcw_117) (is := [138]) (by decide +kernel)
set_option maxRecDepth 100000 in
theorem kcw_120 : Cond.code yX10_init cX10_init 1 none ∈ lw_tbl := (List.mem_append_right _ (List.mem_append_left _ (List.mem_of_getElem? (i := 53) rfl)))
theorem kg_120 : k_get 120 = kr_120 := rfl
theorem km_120 : x_okm k_P 120 := k_m_ok (k_cw kg_120 rfl rfl rfl rfl kcw_120) (is := [134]) (by decide +kernel)
set_option maxRecDepth 100000 in
theorem kcw_121 : Cond.code yX10_read cX10_read 4 (some .int) ∈ lw_tbl := (List.mem_append_right _ (List.mem_append_right _ (List.mem_append_left _ (List.mem_of_getElem? (i := 176) rfl))))
theorem kg_121 : k_get 121 = kr_121 := rfl
theorem km_121 : x_okm k_P 121 := k_m_ok (k_cw kg_121 rfl rfl rfl rfl kcw_121) (is := [134]) (by decide +kernel)
set_option maxRecDepth 100000 in
theorem kcw_135 : Cond.code yX11_init cX11_init 1 none ∈ lw_tbl := (List.mem_append_right _ (List.mem_append_left _ (List.mem_of_getElem? (i := 22) rfl)))
theorem kg_135 : k_get 135 = kr_135 := rfl
theorem km_135 : x_okm k_P 135 := k_m_ok (k_cw kg_135 rfl rfl rfl rfl kcw_135) (is := [132]) (by decide +kernel)
set_option maxRecDepth 100000 in
theorem kcw_136 : Cond.code yX11_feed cX11_feed 6 (some .int) ∈ lw_tbl := (List.mem_append_right _ (List.mem_append_right _ (List.mem_append_left _ (List.mem_of_getElem? (i := 156) rfl))))
theorem kg_136 : k_get 136 = kr_136 := rfl
theorem km_136 : x_okm k_P 136 := k_m_ok (k_cw kg_136 rfl rfl rfl rfl kcw_136) (is := [132]) (by decide +kernel)
set_option maxRecDepth 100000 in
theorem kcw_137 : Cond.code yX11_end cX11_end 2 (some .boolean) ∈ lw_tbl := (List.mem_append_right _ (List.mem_append_right _ (List.mem_append_left _ (List.mem_of_getElem? (i := 168) rfl))))
theorem kg_137 : k_get 137 = kr_137 := rfl
theorem km_137 : x_okm k_P 137 := k_m_ok (k_cw kg_137 rfl rfl rfl rfl kcw_137) (is := [132]) (by decide +kernel)
set_option maxRecDepth 100000 in
theorem kcw_138 : Cond.code yX11_town cX11_town 2 (some .int) ∈ lw_tbl := (List.mem_append_right _ (List.mem_append_right _ (List.mem_append_left _ (List.mem_of_getElem? (i := 172) rfl))))
theorem kg_138 : k_get 138 = kr_138 := rfl
theorem km_138 : x_okm k_P 138 := k_m_ok (k_cw kg_138 rfl rfl rfl rfl kcw_138) (is := [132]) (by decide +kernel)
set_option maxRecDepth 100000 in
theorem kcw_139 : Cond.code yX11_fault cX11_fault 2 (some .int) ∈ lw_tbl := (List.mem_append_right _ (List.mem_append_right _ (List.mem_append_right _ (List.mem_append_left _ (List.mem_of_getElem? (i := 189) rfl)))))
theorem kg_139 : k_get 139 = kr_139 := rfl
theorem km_139 : x_okm k_P 139 := k_m_ok (k_cw kg_139 rfl rfl rfl rfl kcw_139) (is := [132]) (by decide +kernel)
set_option maxRecDepth 100000 in
theorem kcw_140 : Cond.code yX11_has cX11_has 2 (some .int) ∈ lw_tbl := (List.mem_append_right _ (List.mem_append_right _ (List.mem_append_right _ (List.mem_append_left _ (List.mem_of_getElem? (i := 193) rfl)))))
theorem kg_140 : k_get 140 = kr_140 := rfl
theorem km_140 : x_okm k_P 140 := k_m_ok (k_cw kg_140 rfl rfl rfl rfl kcw_140) (is := [132]) (by decide +kernel)
set_option maxRecDepth 100000 in
theorem kcw_141 : Cond.code yX11_letter cX11_letter 4 (some .int) ∈ lw_tbl := (List.mem_append_right _ (List.mem_append_right _ (List.mem_append_right _ (List.mem_append_right _ (List.mem_append_left _ (List.mem_of_getElem? (i := 9) rfl))))))
theorem kg_141 : k_get 141 = kr_141 := rfl
theorem km_141 : x_okm k_P 141 := k_m_ok (k_cw kg_141 rfl rfl rfl rfl kcw_141) (is := [132]) (by decide +kernel)
set_option maxRecDepth 100000 in
theorem kcw_142 : Cond.code yX11_room cX11_room 3 (some .int) ∈ lw_tbl := (List.mem_append_right _ (List.mem_append_right _ (List.mem_append_right _ (List.mem_append_right _ (List.mem_append_left _ (List.mem_of_getElem? (i := 18) rfl))))))
theorem kg_142 : k_get 142 = kr_142 := rfl
theorem km_142 : x_okm k_P 142 := k_m_ok (k_cw kg_142 rfl rfl rfl rfl kcw_142) (is := [132]) (by decide +kernel)
set_option maxRecDepth 100000 in
theorem kcw_143 : Cond.code yX11_way cX11_way 4 (some .int) ∈ lw_tbl := (List.mem_append_right _ (List.mem_append_right _ (List.mem_append_right _ (List.mem_append_right _ (List.mem_append_left _ (List.mem_of_getElem? (i := 38) rfl))))))
theorem kg_143 : k_get 143 = kr_143 := rfl
theorem km_143 : x_okm k_P 143 := k_m_ok (k_cw kg_143 rfl rfl rfl rfl kcw_143) (is := [132]) (by decide +kernel)
set_option maxRecDepth 100000 in
theorem kcw_144 : Cond.code yX11_person cX11_person 3 (some .int) ∈ lw_tbl := (List.mem_append_right _ (List.mem_append_right _ (List.mem_append_right _ (List.mem_append_right _ (List.mem_append_left _ (List.mem_of_getElem? (i := 46) rfl))))))
theorem kg_144 : k_get 144 = kr_144 := rfl
theorem km_144 : x_okm k_P 144 := k_m_ok (k_cw kg_144 rfl rfl rfl rfl kcw_144) (is := [132]) (by decide +kernel)
set_option maxRecDepth 100000 in
theorem kcw_145 : Cond.code yX11_fits cX11_fits 3 (some .int) ∈ lw_tbl := (List.mem_append_right _ (List.mem_append_right _ (List.mem_append_right _ (List.mem_append_right _ (List.mem_append_left _ (List.mem_of_getElem? (i := 60) rfl))))))
theorem kg_145 : k_get 145 = kr_145 := rfl
theorem km_145 : x_okm k_P 145 := k_m_ok (k_cw kg_145 rfl rfl rfl rfl kcw_145) (is := [132]) (by decide +kernel)
set_option maxRecDepth 100000 in
theorem kcw_146 : Cond.code yX11_takes cX11_takes 4 (some .int) ∈ lw_tbl := (List.mem_append_right _ (List.mem_append_right _ (List.mem_append_right _ (List.mem_append_right _ (List.mem_append_left _ (List.mem_of_getElem? (i := 71) rfl))))))
theorem kg_146 : k_get 146 = kr_146 := rfl
theorem km_146 : x_okm k_P 146 := k_m_ok (k_cw kg_146 rfl rfl rfl rfl kcw_146) (is := [132]) (by decide +kernel)
set_option maxRecDepth 100000 in
theorem kcw_147 : Cond.code yX11_go cX11_go 5 (some .int) ∈ lw_tbl := (List.mem_append_right _ (List.mem_append_right _ (List.mem_append_right _ (List.mem_append_right _ (List.mem_append_left _ (List.mem_of_getElem? (i := 122) rfl))))))
theorem kg_147 : k_get 147 = kr_147 := rfl
theorem km_147 : x_okm k_P 147 := k_m_ok (k_cw kg_147 rfl rfl rfl rfl kcw_147) (is := [132]) (by decide +kernel)
set_option maxRecDepth 100000 in
theorem kcw_148 : Cond.code yX11_stay cX11_stay 3 (some .int) ∈ lw_tbl := (List.mem_append_right _ (List.mem_append_right _ (List.mem_append_right _ (List.mem_append_right _ (List.mem_append_left _ (List.mem_of_getElem? (i := 163) rfl))))))
theorem kg_148 : k_get 148 = kr_148 := rfl
theorem km_148 : x_okm k_P 148 := k_m_ok (k_cw kg_148 rfl rfl rfl rfl kcw_148) (is := [132]) (by decide +kernel)
set_option maxRecDepth 100000 in
theorem kcw_149 : Cond.code yX11_mend cX11_mend 3 (some .boolean) ∈ lw_tbl := (List.mem_append_right _ (List.mem_append_right _ (List.mem_append_right _ (List.mem_append_right _ (List.mem_append_left _ (List.mem_of_getElem? (i := 171) rfl))))))
theorem kg_149 : k_get 149 = kr_149 := rfl
theorem km_149 : x_okm k_P 149 := k_m_ok (k_cw kg_149 rfl rfl rfl rfl kcw_149) (is := [132]) (by decide +kernel)
set_option maxRecDepth 100000 in
theorem kcw_150 : Cond.code yX11_days cX11_days 5 (some .int) ∈ lw_tbl := (List.mem_append_right _ (List.mem_append_right _ (List.mem_append_right _ (List.mem_append_right _ (List.mem_append_left _ (List.mem_of_getElem? (i := 183) rfl))))))
theorem kg_150 : k_get 150 = kr_150 := rfl
theorem km_150 : x_okm k_P 150 := k_m_ok (k_cw kg_150 rfl rfl rfl rfl kcw_150) (is := [132]) (by decide +kernel)
set_option maxRecDepth 100000 in
theorem kcw_151 : Cond.code yX11_undo cX11_undo 1 (some .boolean) ∈ lw_tbl := (List.mem_append_right _ (List.mem_append_right _ (List.mem_append_right _ (List.mem_append_right _ (List.mem_append_left _ (List.mem_of_getElem? (i := 201) rfl))))))
theorem kg_151 : k_get 151 = kr_151 := rfl
theorem km_151 : x_okm k_P 151 := k_m_ok (k_cw kg_151 rfl rfl rfl rfl kcw_151) (is := [132]) (by decide +kernel)
set_option maxRecDepth 100000 in
theorem kcw_152 : Cond.code yX11_seed cX11_seed 2 (some .boolean) ∈ lw_tbl := (List.mem_append_right _ (List.mem_append_right _ (List.mem_append_right _ (List.mem_append_right _ (List.mem_append_left _ (List.mem_of_getElem? (i := 210) rfl))))))
theorem kg_152 : k_get 152 = kr_152 := rfl
theorem km_152 : x_okm k_P 152 := k_m_ok (k_cw kg_152 rfl rfl rfl rfl kcw_152) (is := [132]) (by decide +kernel)
set_option maxRecDepth 100000 in
theorem kcw_153 : Cond.code yX11_kept cX11_kept 3 (some .int) ∈ lw_tbl := (List.mem_append_right _ (List.mem_append_right _ (List.mem_append_right _ (List.mem_append_right _ (List.mem_append_left _ (List.mem_of_getElem? (i := 214) rfl))))))
theorem kg_153 : k_get 153 = kr_153 := rfl
theorem km_153 : x_okm k_P 153 := k_m_ok (k_cw kg_153 rfl rfl rfl rfl kcw_153) (is := [132]) (by decide +kernel)
set_option maxRecDepth 100000 in
theorem kcw_154 : Cond.code yX11_route cX11_route 5 (some .int) ∈ lw_tbl := (List.mem_append_right _ (List.mem_append_right _ (List.mem_append_right _ (List.mem_append_right _ (List.mem_append_left _ (List.mem_of_getElem? (i := 222) rfl))))))
theorem kg_154 : k_get 154 = kr_154 := rfl
theorem km_154 : x_okm k_P 154 := k_m_ok (k_cw kg_154 rfl rfl rfl rfl kcw_154) (is := [132]) (by decide +kernel)
set_option maxRecDepth 100000 in
theorem kcw_155 : Cond.code yX11_bearer cX11_bearer 4 (some .int) ∈ lw_tbl := (List.mem_append_right _ (List.mem_append_right _ (List.mem_append_right _ (List.mem_append_right _ (List.mem_append_right _ (List.mem_append_left _ (List.mem_of_getElem? (i := 20) rfl)))))))
theorem kg_155 : k_get 155 = kr_155 := rfl
theorem km_155 : x_okm k_P 155 := k_m_ok (k_cw kg_155 rfl rfl rfl rfl kcw_155) (is := [132]) (by decide +kernel)
set_option maxRecDepth 100000 in
theorem kcw_156 : Cond.code yX11_errand cX11_errand 4 (some .int) ∈ lw_tbl := (List.mem_append_right _ (List.mem_append_right _ (List.mem_append_right _ (List.mem_append_right _ (List.mem_append_right _ (List.mem_append_left _ (List.mem_of_getElem? (i := 32) rfl)))))))
theorem kg_156 : k_get 156 = kr_156 := rfl
theorem km_156 : x_okm k_P 156 := k_m_ok (k_cw kg_156 rfl rfl rfl rfl kcw_156) (is := [132]) (by decide +kernel)
set_option maxRecDepth 100000 in
theorem kcw_157 : Cond.code yX11_along cX11_along 2 (some .int) ∈ lw_tbl := (List.mem_append_right _ (List.mem_append_right _ (List.mem_append_right _ (List.mem_append_right _ (List.mem_append_right _ (List.mem_append_left _ (List.mem_of_getElem? (i := 74) rfl)))))))
theorem kg_157 : k_get 157 = kr_157 := rfl
theorem km_157 : x_okm k_P 157 := k_m_ok (k_cw kg_157 rfl rfl rfl rfl kcw_157) (is := [132]) (by decide +kernel)
set_option maxRecDepth 100000 in
theorem kcw_158 : Cond.code yX11_seated cX11_seated 3 (some .int) ∈ lw_tbl := (List.mem_append_right _ (List.mem_append_right _ (List.mem_append_right _ (List.mem_append_right _ (List.mem_append_right _ (List.mem_append_left _ (List.mem_of_getElem? (i := 78) rfl)))))))
theorem kg_158 : k_get 158 = kr_158 := rfl
theorem km_158 : x_okm k_P 158 := k_m_ok (k_cw kg_158 rfl rfl rfl rfl kcw_158) (is := [132]) (by decide +kernel)
set_option maxRecDepth 100000 in
theorem kcw_159 : Cond.code yX11_standing cX11_standing 3 (some .int) ∈ lw_tbl := (List.mem_append_right _ (List.mem_append_right _ (List.mem_append_right _ (List.mem_append_right _ (List.mem_append_right _ (List.mem_append_left _ (List.mem_of_getElem? (i := 99) rfl)))))))
theorem kg_159 : k_get 159 = kr_159 := rfl
theorem km_159 : x_okm k_P 159 := k_m_ok (k_cw kg_159 rfl rfl rfl rfl kcw_159) (is := [132]) (by decide +kernel)
set_option maxRecDepth 100000 in
theorem kcw_160 : Cond.code yX11_where cX11_where 3 (some .int) ∈ lw_tbl := (List.mem_append_right _ (List.mem_append_right _ (List.mem_append_right _ (List.mem_append_right _ (List.mem_append_right _ (List.mem_append_left _ (List.mem_of_getElem? (i := 136) rfl)))))))
theorem kg_160 : k_get 160 = kr_160 := rfl
theorem km_160 : x_okm k_P 160 := k_m_ok (k_cw kg_160 rfl rfl rfl rfl kcw_160) (is := [132]) (by decide +kernel)
set_option maxRecDepth 100000 in
theorem kcw_161 : Cond.code yX11_image cX11_image 1 (some .int) ∈ lw_tbl := (List.mem_append_right _ (List.mem_append_right _ (List.mem_append_right _ (List.mem_append_right _ (List.mem_append_right _ (List.mem_append_left _ (List.mem_of_getElem? (i := 140) rfl)))))))
theorem kg_161 : k_get 161 = kr_161 := rfl
theorem km_161 : x_okm k_P 161 := k_m_ok (k_cw kg_161 rfl rfl rfl rfl kcw_161) (is := [132]) (by decide +kernel)
set_option maxRecDepth 100000 in
theorem kcw_162 : Cond.code yX11_octet cX11_octet 2 (some .int) ∈ lw_tbl := (List.mem_append_right _ (List.mem_append_right _ (List.mem_append_right _ (List.mem_append_right _ (List.mem_append_right _ (List.mem_append_left _ (List.mem_of_getElem? (i := 152) rfl)))))))
theorem kg_162 : k_get 162 = kr_162 := rfl
theorem km_162 : x_okm k_P 162 := k_m_ok (k_cw kg_162 rfl rfl rfl rfl kcw_162) (is := [132]) (by decide +kernel)
set_option maxRecDepth 100000 in
theorem kcw_163 : Cond.code yX11_on cX11_on 2 (some .boolean) ∈ lw_tbl := (List.mem_append_right _ (List.mem_append_right _ (List.mem_append_right _ (List.mem_append_right _ (List.mem_append_right _ (List.mem_append_left _ (List.mem_of_getElem? (i := 156) rfl)))))))
theorem kg_163 : k_get 163 = kr_163 := rfl
theorem km_163 : x_okm k_P 163 := k_m_ok (k_cw kg_163 rfl rfl rfl rfl kcw_163) (is := [132]) (by decide +kernel)
set_option maxRecDepth 100000 in
theorem kcw_164 : Cond.code yX11_status cX11_status 2 (some .int) ∈ lw_tbl := (List.mem_append_right _ (List.mem_append_right _ (List.mem_append_right _ (List.mem_append_right _ (List.mem_append_right _ (List.mem_append_left _ (List.mem_of_getElem? (i := 175) rfl)))))))
theorem kg_164 : k_get 164 = kr_164 := rfl
theorem km_164 : x_okm k_P 164 := k_m_ok (k_cw kg_164 rfl rfl rfl rfl kcw_164) (is := [132]) (by decide +kernel)
set_option maxRecDepth 100000 in
theorem kcw_165 : Cond.code yX11_refuse cX11_refuse 2 (some .int) ∈ lw_tbl := (List.mem_append_right _ (List.mem_append_right _ (List.mem_append_left _ (List.mem_of_getElem? (i := 160) rfl))))
theorem kg_165 : k_get 165 = kr_165 := rfl
theorem km_165 : x_okm k_P 165 := k_m_ok (k_cw kg_165 rfl rfl rfl rfl kcw_165) (is := [132]) (by decide +kernel)
set_option maxRecDepth 100000 in
theorem kcw_167 : Cond.code yX11_canTravel cX11_canTravel 3 (some .boolean) ∈ lw_tbl := (List.mem_append_right _ (List.mem_append_right _ (List.mem_append_right _ (List.mem_append_right _ (List.mem_append_left _ (List.mem_of_getElem? (i := 226) rfl))))))
theorem kg_167 : k_get 167 = kr_167 := rfl
theorem km_167 : x_okm k_P 167 := k_m_ok (k_cw kg_167 rfl rfl rfl rfl kcw_167) (is := [132]) (by decide +kernel)
set_option maxRecDepth 100000 in
theorem kcw_171 : Cond.code yX12_init cX12_init 2 none ∈ lw_tbl := (List.mem_append_right _ (List.mem_append_right _ (List.mem_append_right _ (List.mem_append_right _ (List.mem_append_right _ (List.mem_append_left _ (List.mem_of_getElem? (i := 180) rfl)))))))
theorem kg_171 : k_get 171 = kr_171 := rfl
theorem km_171 : x_okm k_P 171 := k_m_ok (k_cw kg_171 rfl rfl rfl rfl kcw_171) (is := [144]) (by decide +kernel)
set_option maxRecDepth 100000 in
theorem kcw_172 : Cond.code yX12_is cX12_is 3 (some .boolean) ∈ lw_tbl := (List.mem_append_right _ (List.mem_append_right _ (List.mem_append_right _ (List.mem_append_right _ (List.mem_append_right _ (List.mem_append_right _ (List.mem_append_right _ (List.mem_append_left _ (List.mem_of_getElem? (i := 54) rfl)))))))))
theorem kg_172 : k_get 172 = kr_172 := rfl
theorem km_172 : x_okm k_P 172 := k_m_ok (k_cw kg_172 rfl rfl rfl rfl kcw_172) (is := [144]) (by decide +kernel)
set_option maxRecDepth 100000 in
theorem kcw_173 : Cond.code yX12_put cX12_put 3 none ∈ lw_tbl := (List.mem_append_right _ (List.mem_append_right _ (List.mem_append_right _ (List.mem_append_right _ (List.mem_append_right _ (List.mem_append_right _ (List.mem_append_left _ (List.mem_of_getElem? (i := 196) rfl))))))))
theorem kg_173 : k_get 173 = kr_173 := rfl
theorem km_173 : x_okm k_P 173 := k_m_ok (k_cw kg_173 rfl rfl rfl rfl kcw_173) (is := [144]) (by decide +kernel)
set_option maxRecDepth 100000 in
theorem kcw_174 : Cond.code yX12_feed cX12_feed 6 (some .int) ∈ lw_tbl := (List.mem_append_right _ (List.mem_append_right _ (List.mem_append_right _ (List.mem_append_right _ (List.mem_append_right _ (List.mem_append_right _ (List.mem_append_left _ (List.mem_of_getElem? (i := 188) rfl))))))))
theorem kg_174 : k_get 174 = kr_174 := rfl
theorem km_174 : x_okm k_P 174 := k_m_ok (k_cw kg_174 rfl rfl rfl rfl kcw_174) (is := [144]) (by decide +kernel)
set_option maxRecDepth 100000 in
theorem kcw_175 : Cond.code yX12_end cX12_end 2 (some .boolean) ∈ lw_tbl := (List.mem_append_right _ (List.mem_append_right _ (List.mem_append_right _ (List.mem_append_right _ (List.mem_append_right _ (List.mem_append_right _ (List.mem_append_left _ (List.mem_of_getElem? (i := 200) rfl))))))))
theorem kg_175 : k_get 175 = kr_175 := rfl
theorem km_175 : x_okm k_P 175 := k_m_ok (k_cw kg_175 rfl rfl rfl rfl kcw_175) (is := [144]) (by decide +kernel)
set_option maxRecDepth 100000 in
theorem kcw_180 : Cond.code yX12_ahead cX12_ahead 6 none ∈ lw_tbl := (List.mem_append_right _ (List.mem_append_right _ (List.mem_append_right _ (List.mem_append_right _ (List.mem_append_right _ (List.mem_append_right _ (List.mem_append_left _ (List.mem_of_getElem? (i := 208) rfl))))))))
theorem kg_180 : k_get 180 = kr_180 := rfl
theorem km_180 : x_okm k_P 180 := k_m_ok (k_cw kg_180 rfl rfl rfl rfl kcw_180) (is := [144]) (by decide +kernel)
set_option maxRecDepth 100000 in
theorem kcw_185 : Cond.code yX12_manyOf cX12_manyOf 3 (some .int) ∈ lw_tbl := (List.mem_append_right _ (List.mem_append_right _ (List.mem_append_right _ (List.mem_append_right _ (List.mem_append_right _ (List.mem_append_right _ (List.mem_append_right _ (List.mem_append_left _ (List.mem_of_getElem? (i := 39) rfl)))))))))
theorem kg_185 : k_get 185 = kr_185 := rfl
theorem km_185 : x_okm k_P 185 := k_m_ok (k_cw kg_185 rfl rfl rfl rfl kcw_185) (is := [144]) (by decide +kernel)
set_option maxRecDepth 100000 in
theorem kcw_216 : Cond.code yX12_town cX12_town 2 (some .int) ∈ lw_tbl := (List.mem_append_right _ (List.mem_append_right _ (List.mem_append_right _ (List.mem_append_right _ (List.mem_append_right _ (List.mem_append_right _ (List.mem_append_left _ (List.mem_of_getElem? (i := 204) rfl))))))))
theorem kg_216 : k_get 216 = kr_216 := rfl
theorem km_216 : x_okm k_P 216 := k_m_ok (k_cw kg_216 rfl rfl rfl rfl kcw_216) (is := [144]) (by decide +kernel)
set_option maxRecDepth 100000 in
theorem kcw_217 : Cond.code yX12_fault cX12_fault 2 (some .int) ∈ lw_tbl := (List.mem_append_right _ (List.mem_append_right _ (List.mem_append_right _ (List.mem_append_right _ (List.mem_append_right _ (List.mem_append_right _ (List.mem_append_right _ (List.mem_append_left _ (List.mem_of_getElem? (i := 156) rfl)))))))))
theorem kg_217 : k_get 217 = kr_217 := rfl
theorem km_217 : x_okm k_P 217 := k_m_ok (k_cw kg_217 rfl rfl rfl rfl kcw_217) (is := [144]) (by decide +kernel)
set_option maxRecDepth 100000 in
theorem kcw_218 : Cond.code yX12_refuses cX12_refuses 2 (some .int) ∈ lw_tbl := (List.mem_append_right _ (List.mem_append_right _ (List.mem_append_right _ (List.mem_append_right _ (List.mem_append_right _ (List.mem_append_right _ (List.mem_append_left _ (List.mem_of_getElem? (i := 192) rfl))))))))
theorem kg_218 : k_get 218 = kr_218 := rfl
theorem km_218 : x_okm k_P 218 := k_m_ok (k_cw kg_218 rfl rfl rfl rfl kcw_218) (is := [144]) (by decide +kernel)
set_option maxRecDepth 100000 in
theorem kcw_219 : Cond.code yX12_status cX12_status 2 (some .int) ∈ lw_tbl := (List.mem_append_right _ (List.mem_append_right _ (List.mem_append_right _ (List.mem_append_right _ (List.mem_append_right _ (List.mem_append_right _ (List.mem_append_right _ (List.mem_append_left _ (List.mem_of_getElem? (i := 160) rfl)))))))))
theorem kg_219 : k_get 219 = kr_219 := rfl
theorem km_219 : x_okm k_P 219 := k_m_ok (k_cw kg_219 rfl rfl rfl rfl kcw_219) (is := [144]) (by decide +kernel)
set_option maxRecDepth 100000 in
theorem kcw_220 : Cond.code yX12_isRoom cX12_isRoom 2 (some .boolean) ∈ lw_tbl := (List.mem_append_right _ (List.mem_append_right _ (List.mem_append_right _ (List.mem_append_right _ (List.mem_append_right _ (List.mem_append_right _ (List.mem_append_right _ (List.mem_append_left _ (List.mem_of_getElem? (i := 201) rfl)))))))))
theorem kg_220 : k_get 220 = kr_220 := rfl
theorem km_220 : x_okm k_P 220 := k_m_ok (k_cw kg_220 rfl rfl rfl rfl kcw_220) (is := [144]) (by decide +kernel)
set_option maxRecDepth 100000 in
theorem kcw_221 : Cond.code yX12_isPerson cX12_isPerson 2 (some .boolean) ∈ lw_tbl := (List.mem_append_right _ (List.mem_append_right _ (List.mem_append_right _ (List.mem_append_right _ (List.mem_append_right _ (List.mem_append_right _ (List.mem_append_right _ (List.mem_append_left _ (List.mem_of_getElem? (i := 225) rfl)))))))))
theorem kg_221 : k_get 221 = kr_221 := rfl
theorem km_221 : x_okm k_P 221 := k_m_ok (k_cw kg_221 rfl rfl rfl rfl kcw_221) (is := [144]) (by decide +kernel)
set_option maxRecDepth 100000 in
theorem kcw_224 : Cond.code yX12_copies cX12_copies 6 none ∈ lw_tbl := (List.mem_append_right _ (List.mem_append_right _ (List.mem_append_right _ (List.mem_append_right _ (List.mem_append_right _ (List.mem_append_right _ (List.mem_append_right _ (List.mem_append_left _ (List.mem_of_getElem? (i := 172) rfl)))))))))
theorem kg_224 : k_get 224 = kr_224 := rfl
theorem km_224 : x_okm k_P 224 := k_m_ok (k_cw kg_224 rfl rfl rfl rfl kcw_224) (is := [144]) (by decide +kernel)
set_option maxRecDepth 100000 in
theorem kcw_225 : Cond.code yX12_begin cX12_begin 2 none ∈ lw_tbl := (List.mem_append_right _ (List.mem_append_right _ (List.mem_append_right _ (List.mem_append_right _ (List.mem_append_right _ (List.mem_append_right _ (List.mem_append_right _ (List.mem_append_left _ (List.mem_of_getElem? (i := 152) rfl)))))))))
theorem kg_225 : k_get 225 = kr_225 := rfl
theorem km_225 : x_okm k_P 225 := k_m_ok (k_cw kg_225 rfl rfl rfl rfl kcw_225) (is := [144]) (by decide +kernel)
set_option maxRecDepth 100000 in
theorem kcw_226 : Cond.code yX12_ring cX12_ring 2 (some .int) ∈ lw_tbl := (List.mem_append_right _ (List.mem_append_right _ (List.mem_append_right _ (List.mem_append_right _ (List.mem_append_right _ (List.mem_append_right _ (List.mem_append_right _ (List.mem_append_left _ (List.mem_of_getElem? (i := 168) rfl)))))))))
theorem kg_226 : k_get 226 = kr_226 := rfl
theorem km_226 : x_okm k_P 226 := k_m_ok (k_cw kg_226 rfl rfl rfl rfl kcw_226) (is := [144]) (by decide +kernel)
set_option maxRecDepth 100000 in
theorem kcw_227 : Cond.code yX12_keeps cX12_keeps 1 none ∈ lw_tbl := (List.mem_append_right _ (List.mem_append_right _ (List.mem_append_right _ (List.mem_append_right _ (List.mem_append_right _ (List.mem_append_right _ (List.mem_append_right _ (List.mem_append_right _ (List.mem_of_getElem? (i := 52) rfl)))))))))
theorem kg_227 : k_get 227 = kr_227 := rfl
theorem km_227 : x_okm k_P 227 := k_m_ok (k_cw kg_227 rfl rfl rfl rfl kcw_227) (is := [144]) (by decide +kernel)
set_option maxRecDepth 100000 in
theorem kcw_228 : Cond.code yX12_undo cX12_undo 1 (some .boolean) ∈ lw_tbl := (List.mem_append_right _ (List.mem_append_right _ (List.mem_append_right _ (List.mem_append_right _ (List.mem_append_right _ (List.mem_append_right _ (List.mem_append_right _ (List.mem_append_left _ (List.mem_of_getElem? (i := 164) rfl)))))))))
theorem kg_228 : k_get 228 = kr_228 := rfl
theorem km_228 : x_okm k_P 228 := k_m_ok (k_cw kg_228 rfl rfl rfl rfl kcw_228) (is := [144]) (by decide +kernel)
set_option maxRecDepth 100000 in
theorem kcw_246 : Cond.code yX12_has cX12_has 4 (some .int) ∈ lw_tbl := (List.mem_append_right _ (List.mem_append_right _ (List.mem_append_right _ (List.mem_append_right _ (List.mem_append_right _ (List.mem_append_right _ (List.mem_append_right _ (List.mem_append_left _ (List.mem_of_getElem? (i := 176) rfl)))))))))
theorem kg_246 : k_get 246 = kr_246 := rfl
theorem km_246 : x_okm k_P 246 := k_m_ok (k_cw kg_246 rfl rfl rfl rfl kcw_246) (is := [144]) (by decide +kernel)
set_option maxRecDepth 100000 in
theorem kcw_247 : Cond.code yX12_letter cX12_letter 9 (some .int) ∈ lw_tbl := (List.mem_append_right _ (List.mem_append_right _ (List.mem_append_right _ (List.mem_append_right _ (List.mem_append_right _ (List.mem_append_right _ (List.mem_append_right _ (List.mem_append_left _ (List.mem_of_getElem? (i := 192) rfl)))))))))
theorem kg_247 : k_get 247 = kr_247 := rfl
theorem km_247 : x_okm k_P 247 := k_m_ok (k_cw kg_247 rfl rfl rfl rfl kcw_247) (is := [144]) (by decide +kernel)
set_option maxRecDepth 100000 in
theorem kcw_248 : Cond.code yX12_room cX12_room 5 (some .int) ∈ lw_tbl := (List.mem_append_right _ (List.mem_append_right _ (List.mem_append_right _ (List.mem_append_right _ (List.mem_append_right _ (List.mem_append_right _ (List.mem_append_right _ (List.mem_append_left _ (List.mem_of_getElem? (i := 197) rfl)))))))))
theorem kg_248 : k_get 248 = kr_248 := rfl
theorem km_248 : x_okm k_P 248 := k_m_ok (k_cw kg_248 rfl rfl rfl rfl kcw_248) (is := [144]) (by decide +kernel)
set_option maxRecDepth 100000 in
theorem kcw_249 : Cond.code yX12_way cX12_way 3 (some .int) ∈ lw_tbl := (List.mem_append_right _ (List.mem_append_right _ (List.mem_append_right _ (List.mem_append_right _ (List.mem_append_right _ (List.mem_append_right _ (List.mem_append_right _ (List.mem_append_left _ (List.mem_of_getElem? (i := 213) rfl)))))))))
theorem kg_249 : k_get 249 = kr_249 := rfl
theorem km_249 : x_okm k_P 249 := k_m_ok (k_cw kg_249 rfl rfl rfl rfl kcw_249) (is := [144]) (by decide +kernel)
set_option maxRecDepth 100000 in
theorem kcw_250 : Cond.code yX12_person cX12_person 3 (some .int) ∈ lw_tbl := (List.mem_append_right _ (List.mem_append_right _ (List.mem_append_right _ (List.mem_append_right _ (List.mem_append_right _ (List.mem_append_right _ (List.mem_append_right _ (List.mem_append_left _ (List.mem_of_getElem? (i := 221) rfl)))))))))
theorem kg_250 : k_get 250 = kr_250 := rfl
theorem km_250 : x_okm k_P 250 := k_m_ok (k_cw kg_250 rfl rfl rfl rfl kcw_250) (is := [144]) (by decide +kernel)
set_option maxRecDepth 100000 in
theorem kcw_251 : Cond.code yX12_fits cX12_fits 3 (some .int) ∈ lw_tbl := (List.mem_append_right _ (List.mem_append_right _ (List.mem_append_right _ (List.mem_append_right _ (List.mem_append_right _ (List.mem_append_right _ (List.mem_append_right _ (List.mem_append_left _ (List.mem_of_getElem? (i := 233) rfl)))))))))
theorem kg_251 : k_get 251 = kr_251 := rfl
theorem km_251 : x_okm k_P 251 := k_m_ok (k_cw kg_251 rfl rfl rfl rfl kcw_251) (is := [144]) (by decide +kernel)
set_option maxRecDepth 100000 in
theorem kcw_253 : Cond.code yX12_canGo cX12_canGo 4 (some .boolean) ∈ lw_tbl := (List.mem_append_right _ (List.mem_append_right _ (List.mem_append_right _ (List.mem_append_right _ (List.mem_append_right _ (List.mem_append_right _ (List.mem_append_right _ (List.mem_append_right _ (List.mem_of_getElem? (i := 9) rfl)))))))))
theorem kg_253 : k_get 253 = kr_253 := rfl
theorem km_253 : x_okm k_P 253 := k_m_ok (k_cw kg_253 rfl rfl rfl rfl kcw_253) (is := [144]) (by decide +kernel)
set_option maxRecDepth 100000 in
theorem kcw_255 : Cond.code yX12_takes cX12_takes 4 (some .int) ∈ lw_tbl := (List.mem_append_right _ (List.mem_append_right _ (List.mem_append_right _ (List.mem_append_right _ (List.mem_append_right _ (List.mem_append_right _ (List.mem_append_right _ (List.mem_append_right _ (List.mem_of_getElem? (i := 5) rfl)))))))))
theorem kg_255 : k_get 255 = kr_255 := rfl
theorem km_255 : x_okm k_P 255 := k_m_ok (k_cw kg_255 rfl rfl rfl rfl kcw_255) (is := [144]) (by decide +kernel)
set_option maxRecDepth 100000 in
theorem kcw_260 : Cond.code yX12_go cX12_go 4 (some .int) ∈ lw_tbl := (List.mem_append_right _ (List.mem_append_right _ (List.mem_append_right _ (List.mem_append_right _ (List.mem_append_right _ (List.mem_append_right _ (List.mem_append_right _ (List.mem_append_right _ (List.mem_of_getElem? (i := 48) rfl)))))))))
theorem kg_260 : k_get 260 = kr_260 := rfl
theorem km_260 : x_okm k_P 260 := k_m_ok (k_cw kg_260 rfl rfl rfl rfl kcw_260) (is := [144]) (by decide +kernel)
set_option maxRecDepth 100000 in
theorem kcw_262 : Cond.code yX12_stay cX12_stay 3 (some .int) ∈ lw_tbl := (List.mem_append_right _ (List.mem_append_right _ (List.mem_append_right _ (List.mem_append_right _ (List.mem_append_right _ (List.mem_append_right _ (List.mem_append_right _ (List.mem_append_right _ (List.mem_of_getElem? (i := 77) rfl)))))))))
theorem kg_262 : k_get 262 = kr_262 := rfl
theorem km_262 : x_okm k_P 262 := k_m_ok (k_cw kg_262 rfl rfl rfl rfl kcw_262) (is := [144]) (by decide +kernel)
set_option maxRecDepth 100000 in
theorem kcw_263 : Cond.code yX12_mend cX12_mend 4 (some .boolean) ∈ lw_tbl := (List.mem_append_right _ (List.mem_append_right _ (List.mem_append_right _ (List.mem_append_right _ (List.mem_append_right _ (List.mem_append_right _ (List.mem_append_right _ (List.mem_append_right _ (List.mem_of_getElem? (i := 89) rfl)))))))))
theorem kg_263 : k_get 263 = kr_263 := rfl
theorem km_263 : x_okm k_P 263 := k_m_ok (k_cw kg_263 rfl rfl rfl rfl kcw_263) (is := [144]) (by decide +kernel)
set_option maxRecDepth 100000 in
theorem kcw_266 : Cond.code yX12_days cX12_days 5 (some .int) ∈ lw_tbl := (List.mem_append_right _ (List.mem_append_right _ (List.mem_append_right _ (List.mem_append_right _ (List.mem_append_right _ (List.mem_append_right _ (List.mem_append_right _ (List.mem_append_right _ (List.mem_of_getElem? (i := 93) rfl)))))))))
theorem kg_266 : k_get 266 = kr_266 := rfl
theorem km_266 : x_okm k_P 266 := k_m_ok (k_cw kg_266 rfl rfl rfl rfl kcw_266) (is := [144]) (by decide +kernel)
set_option maxRecDepth 100000 in
theorem kcw_267 : Cond.code yX12_seed cX12_seed 2 (some .boolean) ∈ lw_tbl := (List.mem_append_right _ (List.mem_append_right _ (List.mem_append_right _ (List.mem_append_right _ (List.mem_append_right _ (List.mem_append_right _ (List.mem_append_right _ (List.mem_append_right _ (List.mem_of_getElem? (i := 105) rfl)))))))))
theorem kg_267 : k_get 267 = kr_267 := rfl
theorem km_267 : x_okm k_P 267 := k_m_ok (k_cw kg_267 rfl rfl rfl rfl kcw_267) (is := [144]) (by decide +kernel)
set_option maxRecDepth 100000 in
theorem kcw_268 : Cond.code yX12_kept cX12_kept 3 (some .int) ∈ lw_tbl := (List.mem_append_right _ (List.mem_append_right _ (List.mem_append_right _ (List.mem_append_right _ (List.mem_append_right _ (List.mem_append_right _ (List.mem_append_right _ (List.mem_append_right _ (List.mem_of_getElem? (i := 109) rfl)))))))))
theorem kg_268 : k_get 268 = kr_268 := rfl
theorem km_268 : x_okm k_P 268 := k_m_ok (k_cw kg_268 rfl rfl rfl rfl kcw_268) (is := [144]) (by decide +kernel)
set_option maxRecDepth 100000 in
theorem kcw_272 : Cond.code yX12_routing cX12_routing 9 (some .int) ∈ lw_tbl := (List.mem_append_right _ (List.mem_append_right _ (List.mem_append_right _ (List.mem_append_right _ (List.mem_append_right _ (List.mem_append_right _ (List.mem_append_right _ (List.mem_append_right _ (List.mem_of_getElem? (i := 117) rfl)))))))))
theorem kg_272 : k_get 272 = kr_272 := rfl
theorem km_272 : x_okm k_P 272 := k_m_ok (k_cw kg_272 rfl rfl rfl rfl kcw_272) (is := [144]) (by decide +kernel)
set_option maxRecDepth 100000 in
theorem kcw_273 : Cond.code yX12_route cX12_route 5 (some .int) ∈ lw_tbl := (List.mem_append_right _ (List.mem_append_right _ (List.mem_append_right _ (List.mem_append_right _ (List.mem_append_right _ (List.mem_append_right _ (List.mem_append_right _ (List.mem_append_right _ (List.mem_of_getElem? (i := 113) rfl)))))))))
theorem kg_273 : k_get 273 = kr_273 := rfl
theorem km_273 : x_okm k_P 273 := k_m_ok (k_cw kg_273 rfl rfl rfl rfl kcw_273) (is := [144]) (by decide +kernel)
set_option maxRecDepth 100000 in
theorem kcw_274 : Cond.code yX12_bearer cX12_bearer 4 (some .int) ∈ lw_tbl := (List.mem_append_right _ (List.mem_append_right _ (List.mem_append_right _ (List.mem_append_right _ (List.mem_append_right _ (List.mem_append_right _ (List.mem_append_right _ (List.mem_append_right _ (List.mem_of_getElem? (i := 134) rfl)))))))))
theorem kg_274 : k_get 274 = kr_274 := rfl
theorem km_274 : x_okm k_P 274 := k_m_ok (k_cw kg_274 rfl rfl rfl rfl kcw_274) (is := [144]) (by decide +kernel)
set_option maxRecDepth 100000 in
theorem kcw_276 : Cond.code yX12_isErrand cX12_isErrand 5 (some .boolean) ∈ lw_tbl := (List.mem_append_right _ (List.mem_append_right _ (List.mem_append_right _ (List.mem_append_right _ (List.mem_append_right _ (List.mem_append_right _ (List.mem_append_right _ (List.mem_append_right _ (List.mem_of_getElem? (i := 142) rfl)))))))))
theorem kg_276 : k_get 276 = kr_276 := rfl
theorem km_276 : x_okm k_P 276 := k_m_ok (k_cw kg_276 rfl rfl rfl rfl kcw_276) (is := [144]) (by decide +kernel)
set_option maxRecDepth 100000 in
theorem kcw_277 : Cond.code yX12_errand cX12_errand 8 (some .int) ∈ lw_tbl := (List.mem_append_right _ (List.mem_append_right _ (List.mem_append_right _ (List.mem_append_right _ (List.mem_append_right _ (List.mem_append_right _ (List.mem_append_right _ (List.mem_append_right _ (List.mem_of_getElem? (i := 138) rfl)))))))))
theorem kg_277 : k_get 277 = kr_277 := rfl
theorem km_277 : x_okm k_P 277 := k_m_ok (k_cw kg_277 rfl rfl rfl rfl kcw_277) (is := [144]) (by decide +kernel)
set_option maxRecDepth 100000 in
theorem kcw_278 : Cond.code yX12_along cX12_along 2 (some .int) ∈ lw_tbl := (List.mem_append_right _ (List.mem_append_right _ (List.mem_append_right _ (List.mem_append_right _ (List.mem_append_right _ (List.mem_append_right _ (List.mem_append_right _ (List.mem_append_right _ (List.mem_of_getElem? (i := 153) rfl)))))))))
theorem kg_278 : k_get 278 = kr_278 := rfl
theorem km_278 : x_okm k_P 278 := k_m_ok (k_cw kg_278 rfl rfl rfl rfl kcw_278) (is := [144]) (by decide +kernel)
set_option maxRecDepth 100000 in
theorem kcw_280 : Cond.code yX12_seated cX12_seated 5 (some .int) ∈ lw_tbl := (List.mem_append_right _ (List.mem_append_right _ (List.mem_append_right _ (List.mem_append_right _ (List.mem_append_right _ (List.mem_append_right _ (List.mem_append_right _ (List.mem_append_right _ (List.mem_of_getElem? (i := 157) rfl)))))))))
theorem kg_280 : k_get 280 = kr_280 := rfl
theorem km_280 : x_okm k_P 280 := k_m_ok (k_cw kg_280 rfl rfl rfl rfl kcw_280) (is := [144]) (by decide +kernel)
set_option maxRecDepth 100000 in
theorem kcw_283 : Cond.code yX12_isStanding cX12_isStanding 4 (some .boolean) ∈ lw_tbl := (List.mem_append_right _ (List.mem_append_right _ (List.mem_append_right _ (List.mem_append_right _ (List.mem_append_right _ (List.mem_append_right _ (List.mem_append_right _ (List.mem_append_right _ (List.mem_of_getElem? (i := 172) rfl)))))))))
theorem kg_283 : k_get 283 = kr_283 := rfl
theorem km_283 : x_okm k_P 283 := k_m_ok (k_cw kg_283 rfl rfl rfl rfl kcw_283) (is := [144]) (by decide +kernel)
set_option maxRecDepth 100000 in
theorem kcw_284 : Cond.code yX12_standing cX12_standing 4 (some .int) ∈ lw_tbl := (List.mem_append_right _ (List.mem_append_right _ (List.mem_append_right _ (List.mem_append_right _ (List.mem_append_right _ (List.mem_append_right _ (List.mem_append_right _ (List.mem_append_right _ (List.mem_of_getElem? (i := 168) rfl)))))))))
theorem kg_284 : k_get 284 = kr_284 := rfl
theorem km_284 : x_okm k_P 284 := k_m_ok (k_cw kg_284 rfl rfl rfl rfl kcw_284) (is := [144]) (by decide +kernel)
set_option maxRecDepth 100000 in
theorem kcw_285 : Cond.code yX12_where cX12_where 3 (some .int) ∈ lw_tbl := (List.mem_append_right _ (List.mem_append_right _ (List.mem_append_right _ (List.mem_append_right _ (List.mem_append_right _ (List.mem_append_right _ (List.mem_append_right _ (List.mem_append_right _ (List.mem_of_getElem? (i := 184) rfl)))))))))
theorem kg_285 : k_get 285 = kr_285 := rfl
theorem km_285 : x_okm k_P 285 := k_m_ok (k_cw kg_285 rfl rfl rfl rfl kcw_285) (is := [144]) (by decide +kernel)
set_option maxRecDepth 100000 in
theorem kcw_286 : Cond.code yX12_writes cX12_writes 2 none ∈ lw_tbl := (List.mem_append_right _ (List.mem_append_right _ (List.mem_append_right _ (List.mem_append_right _ (List.mem_append_right _ (List.mem_append_right _ (List.mem_append_right _ (List.mem_append_right _ (List.mem_of_getElem? (i := 192) rfl)))))))))
theorem kg_286 : k_get 286 = kr_286 := rfl
theorem km_286 : x_okm k_P 286 := k_m_ok (k_cw kg_286 rfl rfl rfl rfl kcw_286) (is := [144]) (by decide +kernel)
set_option maxRecDepth 100000 in
theorem kcw_288 : Cond.code yX12_image cX12_image 3 (some .int) ∈ lw_tbl := (List.mem_append_right _ (List.mem_append_right _ (List.mem_append_right _ (List.mem_append_right _ (List.mem_append_right _ (List.mem_append_right _ (List.mem_append_right _ (List.mem_append_right _ (List.mem_of_getElem? (i := 188) rfl)))))))))
theorem kg_288 : k_get 288 = kr_288 := rfl
theorem km_288 : x_okm k_P 288 := k_m_ok (k_cw kg_288 rfl rfl rfl rfl kcw_288) (is := [144]) (by decide +kernel)
set_option maxRecDepth 100000 in
theorem kcw_289 : Cond.code yX12_octet cX12_octet 2 (some .int) ∈ lw_tbl := (List.mem_append_right _ (List.mem_append_right _ (List.mem_append_right _ (List.mem_append_right _ (List.mem_append_right _ (List.mem_append_right _ (List.mem_append_right _ (List.mem_append_right _ (List.mem_of_getElem? (i := 200) rfl)))))))))
theorem kg_289 : k_get 289 = kr_289 := rfl
theorem km_289 : x_okm k_P 289 := k_m_ok (k_cw kg_289 rfl rfl rfl rfl kcw_289) (is := [144]) (by decide +kernel)
set_option maxRecDepth 100000 in
theorem kcw_292 : Cond.code yX12_comesOn cX12_comesOn 6 (some .boolean) ∈ lw_tbl := (List.mem_append_right _ (List.mem_append_right _ (List.mem_append_right _ (List.mem_append_right _ (List.mem_append_right _ (List.mem_append_right _ (List.mem_append_right _ (List.mem_append_right _ (List.mem_of_getElem? (i := 208) rfl)))))))))
theorem kg_292 : k_get 292 = kr_292 := rfl
theorem km_292 : x_okm k_P 292 := k_m_ok (k_cw kg_292 rfl rfl rfl rfl kcw_292) (is := [144]) (by decide +kernel)
set_option maxRecDepth 100000 in
theorem kcw_293 : Cond.code yX12_on cX12_on 2 (some .boolean) ∈ lw_tbl := (List.mem_append_right _ (List.mem_append_right _ (List.mem_append_right _ (List.mem_append_right _ (List.mem_append_right _ (List.mem_append_right _ (List.mem_append_right _ (List.mem_append_right _ (List.mem_of_getElem? (i := 204) rfl)))))))))
theorem kg_293 : k_get 293 = kr_293 := rfl
theorem km_293 : x_okm k_P 293 := k_m_ok (k_cw kg_293 rfl rfl rfl rfl kcw_293) (is := [144]) (by decide +kernel)
set_option maxRecDepth 100000 in
theorem kcw_301 : Cond.code yJ7_fill_53178 cJ7_fill_53178 4 none ∈ lw_tbl := (List.mem_append_right _ (List.mem_append_right _ (List.mem_append_left _ (List.mem_of_getElem? (i := 183) rfl))))
theorem kg_301 : k_get 301 = kr_301 := rfl
theorem km_301 : x_okm k_P 301 := k_m_ok (k_cw kg_301 rfl rfl rfl rfl kcw_301) (is := [145]) (by decide +kernel)
theorem k_okm : ∀ j ∈ k_used, x_okm k_P j := List.forall_mem_cons.mpr ⟨km_1, List.forall_mem_cons.mpr ⟨km_2, List.forall_mem_cons.mpr ⟨km_9, List.forall_mem_cons.mpr ⟨km_15, List.forall_mem_cons.mpr ⟨km_16, List.forall_mem_cons.mpr ⟨km_18, List.forall_mem_cons.mpr ⟨km_19, List.forall_mem_cons.mpr ⟨km_25, List.forall_mem_cons.mpr ⟨km_32, List.forall_mem_cons.mpr ⟨km_41, List.forall_mem_cons.mpr ⟨km_42, List.forall_mem_cons.mpr ⟨km_48, List.forall_mem_cons.mpr ⟨km_49, List.forall_mem_cons.mpr ⟨km_50, List.forall_mem_cons.mpr ⟨km_51, List.forall_mem_cons.mpr ⟨km_52, List.forall_mem_cons.mpr ⟨km_61, List.forall_mem_cons.mpr ⟨km_67, List.forall_mem_cons.mpr ⟨km_70, List.forall_mem_cons.mpr ⟨km_72, List.forall_mem_cons.mpr ⟨km_74, List.forall_mem_cons.mpr ⟨km_78, List.forall_mem_cons.mpr ⟨km_81, List.forall_mem_cons.mpr ⟨km_88, List.forall_mem_cons.mpr ⟨km_102, List.forall_mem_cons.mpr ⟨km_103, List.forall_mem_cons.mpr ⟨km_104, List.forall_mem_cons.mpr ⟨km_105, List.forall_mem_cons.mpr ⟨km_106, List.forall_mem_cons.mpr ⟨km_107, List.forall_mem_cons.mpr ⟨km_117, List.forall_mem_cons.mpr ⟨km_120, List.forall_mem_cons.mpr ⟨km_121, List.forall_mem_cons.mpr ⟨km_135, List.forall_mem_cons.mpr ⟨km_136, List.forall_mem_cons.mpr ⟨km_137, List.forall_mem_cons.mpr ⟨km_138, List.forall_mem_cons.mpr ⟨km_139, List.forall_mem_cons.mpr ⟨km_140, List.forall_mem_cons.mpr ⟨km_141, List.forall_mem_cons.mpr ⟨km_142, List.forall_mem_cons.mpr ⟨km_143, List.forall_mem_cons.mpr ⟨km_144, List.forall_mem_cons.mpr ⟨km_145, List.forall_mem_cons.mpr ⟨km_146, List.forall_mem_cons.mpr ⟨km_147, List.forall_mem_cons.mpr ⟨km_148, List.forall_mem_cons.mpr ⟨km_149, List.forall_mem_cons.mpr ⟨km_150, List.forall_mem_cons.mpr ⟨km_151, List.forall_mem_cons.mpr ⟨km_152, List.forall_mem_cons.mpr ⟨km_153, List.forall_mem_cons.mpr ⟨km_154, List.forall_mem_cons.mpr ⟨km_155, List.forall_mem_cons.mpr ⟨km_156, List.forall_mem_cons.mpr ⟨km_157, List.forall_mem_cons.mpr ⟨km_158, List.forall_mem_cons.mpr ⟨km_159, List.forall_mem_cons.mpr ⟨km_160, List.forall_mem_cons.mpr ⟨km_161, List.forall_mem_cons.mpr ⟨km_162, List.forall_mem_cons.mpr ⟨km_163, List.forall_mem_cons.mpr ⟨km_164, List.forall_mem_cons.mpr ⟨km_165, List.forall_mem_cons.mpr ⟨km_167, List.forall_mem_cons.mpr ⟨km_171, List.forall_mem_cons.mpr ⟨km_172, List.forall_mem_cons.mpr ⟨km_173, List.forall_mem_cons.mpr ⟨km_174, List.forall_mem_cons.mpr ⟨km_175, List.forall_mem_cons.mpr ⟨km_180, List.forall_mem_cons.mpr ⟨km_185, List.forall_mem_cons.mpr ⟨km_216, List.forall_mem_cons.mpr ⟨km_217, List.forall_mem_cons.mpr ⟨km_218, List.forall_mem_cons.mpr ⟨km_219, List.forall_mem_cons.mpr ⟨km_220, List.forall_mem_cons.mpr ⟨km_221, List.forall_mem_cons.mpr ⟨km_224, List.forall_mem_cons.mpr ⟨km_225, List.forall_mem_cons.mpr ⟨km_226, List.forall_mem_cons.mpr ⟨km_227, List.forall_mem_cons.mpr ⟨km_228, List.forall_mem_cons.mpr ⟨km_246, List.forall_mem_cons.mpr ⟨km_247, List.forall_mem_cons.mpr ⟨km_248, List.forall_mem_cons.mpr ⟨km_249, List.forall_mem_cons.mpr ⟨km_250, List.forall_mem_cons.mpr ⟨km_251, List.forall_mem_cons.mpr ⟨km_253, List.forall_mem_cons.mpr ⟨km_255, List.forall_mem_cons.mpr ⟨km_260, List.forall_mem_cons.mpr ⟨km_262, List.forall_mem_cons.mpr ⟨km_263, List.forall_mem_cons.mpr ⟨km_266, List.forall_mem_cons.mpr ⟨km_267, List.forall_mem_cons.mpr ⟨km_268, List.forall_mem_cons.mpr ⟨km_272, List.forall_mem_cons.mpr ⟨km_273, List.forall_mem_cons.mpr ⟨km_274, List.forall_mem_cons.mpr ⟨km_276, List.forall_mem_cons.mpr ⟨km_277, List.forall_mem_cons.mpr ⟨km_278, List.forall_mem_cons.mpr ⟨km_280, List.forall_mem_cons.mpr ⟨km_283, List.forall_mem_cons.mpr ⟨km_284, List.forall_mem_cons.mpr ⟨km_285, List.forall_mem_cons.mpr ⟨km_286, List.forall_mem_cons.mpr ⟨km_288, List.forall_mem_cons.mpr ⟨km_289, List.forall_mem_cons.mpr ⟨km_292, List.forall_mem_cons.mpr ⟨km_293, List.forall_mem_cons.mpr ⟨km_301, fun _ h => absurd h List.not_mem_nil⟩⟩⟩⟩⟩⟩⟩⟩⟩⟩⟩⟩⟩⟩⟩⟩⟩⟩⟩⟩⟩⟩⟩⟩⟩⟩⟩⟩⟩⟩⟩⟩⟩⟩⟩⟩⟩⟩⟩⟩⟩⟩⟩⟩⟩⟩⟩⟩⟩⟩⟩⟩⟩⟩⟩⟩⟩⟩⟩⟩⟩⟩⟩⟩⟩⟩⟩⟩⟩⟩⟩⟩⟩⟩⟩⟩⟩⟩⟩⟩⟩⟩⟩⟩⟩⟩⟩⟩⟩⟩⟩⟩⟩⟩⟩⟩⟩⟩⟩⟩⟩⟩⟩⟩⟩⟩⟩⟩⟩⟩⟩⟩⟩
theorem kd_0_0 : k_decL cL_law ((kc_0.drop 0).take 4) = true := by decide +kernel
theorem kd_0_4 : k_decL cL_law ((kc_0.drop 4).take 4) = true := by decide +kernel
theorem kd_0_8 : k_decL cL_law ((kc_0.drop 8).take 4) = true := by decide +kernel
theorem kd_0_12 : k_decL cL_law ((kc_0.drop 12).take 4) = true := by decide +kernel
theorem kd_0_16 : k_decL cL_law ((kc_0.drop 16).take 4) = true := by decide +kernel
theorem kd_0_20 : k_decL cL_law ((kc_0.drop 20).take 4) = true := by decide +kernel
theorem kd_0_24 : k_decL cL_law ((kc_0.drop 24).take 4) = true := by decide +kernel
theorem kd_0_28 : k_decL cL_law ((kc_0.drop 28).take 4) = true := by decide +kernel
theorem kd_0_32 : k_decL cL_law ((kc_0.drop 32).take 4) = true := by decide +kernel
theorem kd_0_36 : k_decL cL_law ((kc_0.drop 36).take 4) = true := by decide +kernel
theorem kd_0_40 : k_decL cL_law ((kc_0.drop 40).take 4) = true := by decide +kernel
theorem kd_0_44 : k_decL cL_law ((kc_0.drop 44).take 4) = true := by decide +kernel
theorem kd_0_48 : k_decL cL_law ((kc_0.drop 48).take 4) = true := by decide +kernel
theorem kd_0_52 : k_decL cL_law ((kc_0.drop 52).take 4) = true := by decide +kernel
theorem kd_0_56 : k_decL cL_law ((kc_0.drop 56).take 4) = true := by decide +kernel
theorem kd_0_60 : k_decL cL_law ((kc_0.drop 60).take 4) = true := by decide +kernel
theorem kd_0_64 : k_decL cL_law ((kc_0.drop 64).take 4) = true := by decide +kernel
theorem kx_0 : kc_0 = (kc_0.drop 0).take 4 ++ ((kc_0.drop 4).take 4 ++ ((kc_0.drop 8).take 4 ++ ((kc_0.drop 12).take 4 ++ ((kc_0.drop 16).take 4 ++ ((kc_0.drop 20).take 4 ++ ((kc_0.drop 24).take 4 ++ ((kc_0.drop 28).take 4 ++ ((kc_0.drop 32).take 4 ++ ((kc_0.drop 36).take 4 ++ ((kc_0.drop 40).take 4 ++ ((kc_0.drop 44).take 4 ++ ((kc_0.drop 48).take 4 ++ ((kc_0.drop 52).take 4 ++ ((kc_0.drop 56).take 4 ++ ((kc_0.drop 60).take 4 ++ ((kc_0.drop 64).take 4)))))))))))))))) := rfl
theorem kd_0 : ∀ ch ∈ kr_0.1, ∀ q ∈ ch, decode kr_0.2.2.2.2.1 q.1 = .ok q.2 := by
  show ∀ ch ∈ kc_0, ∀ q ∈ ch, decode cL_law q.1 = .ok q.2
  rw [kx_0]
  exact (k_dec_app (k_decL_ok kd_0_0) (k_dec_app (k_decL_ok kd_0_4) (k_dec_app (k_decL_ok kd_0_8) (k_dec_app (k_decL_ok kd_0_12) (k_dec_app (k_decL_ok kd_0_16) (k_dec_app (k_decL_ok kd_0_20) (k_dec_app (k_decL_ok kd_0_24) (k_dec_app (k_decL_ok kd_0_28) (k_dec_app (k_decL_ok kd_0_32) (k_dec_app (k_decL_ok kd_0_36) (k_dec_app (k_decL_ok kd_0_40) (k_dec_app (k_decL_ok kd_0_44) (k_dec_app (k_decL_ok kd_0_48) (k_dec_app (k_decL_ok kd_0_52) (k_dec_app (k_decL_ok kd_0_56) (k_dec_app (k_decL_ok kd_0_60) (k_decL_ok kd_0_64)))))))))))))))))
theorem ke_0 : k_ents kr_0.2.2.2.1.cls kr_0.2.1 [[149, 150, 132], [151, 152], [1267, 1268, 144], [1269, 1270], [524, 525, 526], [1516, 1517, 1518], [536, 537, 538], [1528, 1529, 1530], [540, 541, 542], [1532, 1533, 1534], [797, 798, 799], [1724, 1725, 1726], [801, 802, 803], [1744, 1745, 1746], [857, 858, 859], [1760, 1761, 1762], [866, 867, 868], [1765, 1766, 1767], [886, 887, 888], [1781, 1782, 1783], [894, 895, 896], [1789, 1790, 1791], [908, 909, 910], [1801, 1802, 1803], [919, 920, 921], [1813, 1814, 1815], [970, 971, 972], [1856, 1857, 1858], [1011, 1012, 1013], [1885, 1886, 1887], [1019, 1020, 1021], [1897, 1898, 1899], [1031, 1032, 1033], [1901, 1902, 1903], [1049, 1050, 1051], [1732, 1733, 1734], [1058, 1059, 1060], [1913, 1914, 1915], [1062, 1063, 1064], [1917, 1918, 1919], [1070, 1071, 1072], [1921, 1922, 1923], [1108, 1109, 1110], [1942, 1943, 1944], [1120, 1121, 1122], [1946, 1947, 1948], [1162, 1163, 1164], [1961, 1962, 1963], [1166, 1167, 1168], [1965, 1966, 1967], [1187, 1188, 1189], [1976, 1977, 1978], [1224, 1225, 1226], [1992, 1993, 1994], [1228, 1229, 1230], [1996, 1997, 1998], [1240, 1241, 1242], [2008, 2009, 2010], [1244, 1245, 1246], [2012, 2013, 2014], [1263, 1264, 1265], [1728, 1729, 1730]] = true := by decide +kernel
theorem ko_0 : k_recP kr_0 := k_rec_ok k_okm kd_0 ke_0 (by decide +kernel)
theorem kd_1_0 : k_decL cX0_init ((kc_1.drop 0).take 8) = true := by decide +kernel
theorem kx_1 : kc_1 = (kc_1.drop 0).take 8 := rfl
theorem kd_1 : ∀ ch ∈ kr_1.1, ∀ q ∈ ch, decode kr_1.2.2.2.2.1 q.1 = .ok q.2 := by
  show ∀ ch ∈ kc_1, ∀ q ∈ ch, decode cX0_init q.1 = .ok q.2
  rw [kx_1]
  exact (k_decL_ok kd_1_0)
theorem ke_1 : k_ents kr_1.2.2.2.1.cls kr_1.2.1 [[438, 155, 156], [439], [440], [442]] = true := by decide +kernel
theorem ko_1 : k_recP kr_1 := k_rec_ok k_okm kd_1 ke_1 (by decide +kernel)
theorem kd_2_0 : k_decL cX0_isTold ((kc_2.drop 0).take 8) = true := by decide +kernel
theorem kx_2 : kc_2 = (kc_2.drop 0).take 8 := rfl
theorem kd_2 : ∀ ch ∈ kr_2.1, ∀ q ∈ ch, decode kr_2.2.2.2.2.1 q.1 = .ok q.2 := by
  show ∀ ch ∈ kc_2, ∀ q ∈ ch, decode cX0_isTold q.1 = .ok q.2
  rw [kx_2]
  exact (k_decL_ok kd_2_0)
theorem ke_2 : k_ents kr_2.2.2.2.1.cls kr_2.2.1 [[169], [369], [1128, 686, 687], [165], [1130, 891, 892]] = true := by decide +kernel
theorem ko_2 : k_recP kr_2 := k_rec_ok k_okm kd_2 ke_2 (by decide +kernel)
theorem kd_9_0 : k_decL cX1_init ((kc_9.drop 0).take 8) = true := by decide +kernel
theorem kx_9 : kc_9 = (kc_9.drop 0).take 8 := rfl
theorem kd_9 : ∀ ch ∈ kr_9.1, ∀ q ∈ ch, decode kr_9.2.2.2.2.1 q.1 = .ok q.2 := by
  show ∀ ch ∈ kc_9, ∀ q ∈ ch, decode cX1_init q.1 = .ok q.2
  rw [kx_9]
  exact (k_decL_ok kd_9_0)
theorem ke_9 : k_ents kr_9.2.2.2.1.cls kr_9.2.1 [[265, 155, 156], [266], [267], [268]] = true := by decide +kernel
theorem ko_9 : k_recP kr_9 := k_rec_ok k_okm kd_9 ke_9 (by decide +kernel)
theorem kd_15_0 : k_decL cX2_init ((kc_15.drop 0).take 8) = true := by decide +kernel
theorem kx_15 : kc_15 = (kc_15.drop 0).take 8 := rfl
theorem kd_15 : ∀ ch ∈ kr_15.1, ∀ q ∈ ch, decode kr_15.2.2.2.2.1 q.1 = .ok q.2 := by
  show ∀ ch ∈ kc_15, ∀ q ∈ ch, decode cX2_init q.1 = .ok q.2
  rw [kx_15]
  exact (k_decL_ok kd_15_0)
theorem ke_15 : k_ents kr_15.2.2.2.1.cls kr_15.2.1 [[392, 155, 156], [393], [394], [395]] = true := by decide +kernel
theorem ko_15 : k_recP kr_15 := k_rec_ok k_okm kd_15 ke_15 (by decide +kernel)
theorem kd_16_0 : k_decL cX2_remember ((kc_16.drop 0).take 8) = true := by decide +kernel
theorem kx_16 : kc_16 = (kc_16.drop 0).take 8 := rfl
theorem kd_16 : ∀ ch ∈ kr_16.1, ∀ q ∈ ch, decode kr_16.2.2.2.2.1 q.1 = .ok q.2 := by
  show ∀ ch ∈ kc_16, ∀ q ∈ ch, decode cX2_remember q.1 = .ok q.2
  rw [kx_16]
  exact (k_decL_ok kd_16_0)
theorem ke_16 : k_ents kr_16.2.2.2.1.cls kr_16.2.1 [[393], [394], [395], [978, 726, 725, 147], [979, 560, 146, 561]] = true := by decide +kernel
theorem ko_16 : k_recP kr_16 := k_rec_ok k_okm kd_16 ke_16 (by decide +kernel)
theorem kd_18_0 : k_decL cX3_init ((kc_18.drop 0).take 8) = true := by decide +kernel
theorem kx_18 : kc_18 = (kc_18.drop 0).take 8 := rfl
theorem kd_18 : ∀ ch ∈ kr_18.1, ∀ q ∈ ch, decode kr_18.2.2.2.2.1 q.1 = .ok q.2 := by
  show ∀ ch ∈ kc_18, ∀ q ∈ ch, decode cX3_init q.1 = .ok q.2
  rw [kx_18]
  exact (k_decL_ok kd_18_0)
theorem ke_18 : k_ents kr_18.2.2.2.1.cls kr_18.2.1 [[197, 155, 156], [198], [199], [200], [202], [205], [208], [211], [213]] = true := by decide +kernel
theorem ko_18 : k_recP kr_18 := k_rec_ok k_okm kd_18 ke_18 (by decide +kernel)
theorem kd_19_0 : k_decL cX3_begin ((kc_19.drop 0).take 8) = true := by decide +kernel
theorem kx_19 : kc_19 = (kc_19.drop 0).take 8 := rfl
theorem kd_19 : ∀ ch ∈ kr_19.1, ∀ q ∈ ch, decode kr_19.2.2.2.2.1 q.1 = .ok q.2 := by
  show ∀ ch ∈ kc_19, ∀ q ∈ ch, decode cX3_begin q.1 = .ok q.2
  rw [kx_19]
  exact (k_decL_ok kd_19_0)
theorem ke_19 : k_ents kr_19.2.2.2.1.cls kr_19.2.1 [[198], [199], [200], [202], [211], [164], [171], [559, 560, 146, 561]] = true := by decide +kernel
theorem ko_19 : k_recP kr_19 := k_rec_ok k_okm kd_19 ke_19 (by decide +kernel)
theorem kd_25_0 : k_decL cX3_atEnd ((kc_25.drop 0).take 8) = true := by decide +kernel
theorem kx_25 : kc_25 = (kc_25.drop 0).take 8 := rfl
theorem kd_25 : ∀ ch ∈ kr_25.1, ∀ q ∈ ch, decode kr_25.2.2.2.2.1 q.1 = .ok q.2 := by
  show ∀ ch ∈ kc_25, ∀ q ∈ ch, decode cX3_atEnd q.1 = .ok q.2
  rw [kx_25]
  exact (k_decL_ok kd_25_0)
theorem ke_25 : k_ents kr_25.2.2.2.1.cls kr_25.2.1 [[198], [199], [200]] = true := by decide +kernel
theorem ko_25 : k_recP kr_25 := k_rec_ok k_okm kd_25 ke_25 (by decide +kernel)
