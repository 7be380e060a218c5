set_option maxRecDepth 100000 in
theorem kcw_1 : Cond.code yX0_init cX0_init 1 none ∈ lw_tbl := (List.mem_append_right _ (List.mem_append_right _ (List.mem_append_left _ (List.mem_of_getElem? (i := 66) rfl))))
theorem kg_1 : k_get 1 = kr_1 := rfl
theorem km_1 : x_okm k_P 1 := k_m_ok (k_cw kg_1 rfl rfl rfl rfl kcw_1) (is := [142]) (by decide +kernel)
set_option maxRecDepth 100000 in
theorem kcw_2 : Cond.code yX0_isTold cX0_isTold 7 (some .boolean) ∈ lw_tbl := (List.mem_append_right _ (List.mem_append_right _ (List.mem_append_right _ (List.mem_append_right _ (List.mem_append_right _ (List.mem_append_left _ (List.mem_of_getElem? (i := 36) rfl)))))))
theorem kg_2 : k_get 2 = kr_2 := rfl
theorem km_2 : x_okm k_P 2 := k_m_ok (k_cw kg_2 rfl rfl rfl rfl kcw_2) (is := [142]) (by decide +kernel)
set_option maxRecDepth 100000 in
theorem kcw_3 : Cond.code yX0_settle cX0_settle 9 (some .int) ∈ lw_tbl := (List.mem_append_right _ (List.mem_append_right _ (List.mem_append_right _ (List.mem_append_right _ (List.mem_append_right _ (List.mem_append_left _ (List.mem_of_getElem? (i := 43) rfl)))))))
theorem kg_3 : k_get 3 = kr_3 := rfl
theorem km_3 : x_okm k_P 3 := k_m_ok (k_cw kg_3 rfl rfl rfl rfl kcw_3) (is := [142]) (by decide +kernel)
set_option maxRecDepth 100000 in
theorem kcw_4 : Cond.code yX0_follow cX0_follow 8 none ∈ lw_tbl := (List.mem_append_right _ (List.mem_append_right _ (List.mem_append_right _ (List.mem_append_right _ (List.mem_append_right _ (List.mem_append_left _ (List.mem_of_getElem? (i := 70) rfl)))))))
theorem kg_4 : k_get 4 = kr_4 := rfl
theorem km_4 : x_okm k_P 4 := k_m_ok (k_cw kg_4 rfl rfl rfl rfl kcw_4) (is := [142]) (by decide +kernel)
set_option maxRecDepth 100000 in
theorem kcw_5 : Cond.code yX0_roomAhead cX0_roomAhead 4 (some .int) ∈ lw_tbl := (List.mem_append_right _ (List.mem_append_right _ (List.mem_append_right _ (List.mem_append_right _ (List.mem_append_right _ (List.mem_append_left _ (List.mem_of_getElem? (i := 51) rfl)))))))
theorem kg_5 : k_get 5 = kr_5 := rfl
theorem km_5 : x_okm k_P 5 := k_m_ok (k_cw kg_5 rfl rfl rfl rfl kcw_5) (is := [142]) (by decide +kernel)
set_option maxRecDepth 100000 in
theorem kcw_6 : Cond.code yX0_without cX0_without 7 (some .int) ∈ lw_tbl := (List.mem_append_right _ (List.mem_append_right _ (List.mem_append_right _ (List.mem_append_right _ (List.mem_append_right _ (List.mem_append_left _ (List.mem_of_getElem? (i := 48) rfl)))))))
theorem kg_6 : k_get 6 = kr_6 := rfl
theorem km_6 : x_okm k_P 6 := k_m_ok (k_cw kg_6 rfl rfl rfl rfl kcw_6) (is := [142]) (by decide +kernel)
set_option maxRecDepth 100000 in
theorem kcw_7 : Cond.code yX0_with cX0_with 9 (some .int) ∈ lw_tbl := (List.mem_append_right _ (List.mem_append_right _ (List.mem_append_right _ (List.mem_append_right _ (List.mem_append_right _ (List.mem_append_left _ (List.mem_of_getElem? (i := 62) rfl)))))))
theorem kg_7 : k_get 7 = kr_7 := rfl
theorem km_7 : x_okm k_P 7 := k_m_ok (k_cw kg_7 rfl rfl rfl rfl kcw_7) (is := [142]) (by decide +kernel)
set_option maxRecDepth 100000 in
theorem kcw_8 : Cond.code yX0_arrived cX0_arrived 8 (some .int) ∈ lw_tbl := (List.mem_append_right _ (List.mem_append_right _ (List.mem_append_right _ (List.mem_append_right _ (List.mem_append_right _ (List.mem_append_left _ (List.mem_of_getElem? (i := 55) rfl)))))))
theorem kg_8 : k_get 8 = kr_8 := rfl
theorem km_8 : x_okm k_P 8 := k_m_ok (k_cw kg_8 rfl rfl rfl rfl kcw_8) (is := [142]) (by decide +kernel)
set_option maxRecDepth 100000 in
theorem kcw_9 : Cond.code yX1_init cX1_init 1 none ∈ lw_tbl := (List.mem_append_right _ (List.mem_append_left _ (List.mem_of_getElem? (i := 133) rfl)))
theorem kg_9 : k_get 9 = kr_9 := rfl
theorem km_9 : x_okm k_P 9 := k_m_ok (k_cw kg_9 rfl rfl rfl rfl kcw_9) (is := [139]) (by decide +kernel)
set_option maxRecDepth 100000 in
theorem kcw_10 : Cond.code yX1_add cX1_add 2 none ∈ lw_tbl := (List.mem_append_right _ (List.mem_append_right _ (List.mem_append_right _ (List.mem_append_left _ (List.mem_of_getElem? (i := 101) rfl)))))
theorem kg_10 : k_get 10 = kr_10 := rfl
theorem km_10 : x_okm k_P 10 := k_m_ok (k_cw kg_10 rfl rfl rfl rfl kcw_10) (is := [139]) (by decide +kernel)
set_option maxRecDepth 100000 in
theorem kcw_11 : Cond.code yX1_extra cX1_extra 5 (some .int) ∈ lw_tbl := (List.mem_append_right _ (List.mem_append_right _ (List.mem_append_right _ (List.mem_append_right _ (List.mem_append_left _ (List.mem_of_getElem? (i := 93) rfl))))))
theorem kg_11 : k_get 11 = kr_11 := rfl
theorem km_11 : x_okm k_P 11 := k_m_ok (k_cw kg_11 rfl rfl rfl rfl kcw_11) (is := [139]) (by decide +kernel)
set_option maxRecDepth 100000 in
theorem kcw_12 : Cond.code yX1_operandsOf cX1_operandsOf 1 (some .int) ∈ lw_tbl := (List.mem_append_right _ (List.mem_append_right _ (List.mem_append_right _ (List.mem_append_right _ (List.mem_append_left _ (List.mem_of_getElem? (i := 96) rfl))))))
theorem kg_12 : k_get 12 = kr_12 := rfl
theorem km_12 : x_okm k_P 12 := k_m_ok (k_cw kg_12 rfl rfl rfl rfl kcw_12) (is := [139]) (by decide +kernel)
set_option maxRecDepth 100000 in
theorem kcw_13 : Cond.code yX1_combine cX1_combine 3 (some .int) ∈ lw_tbl := (List.mem_append_right _ (List.mem_append_right _ (List.mem_append_right _ (List.mem_append_right _ (List.mem_append_left _ (List.mem_of_getElem? (i := 99) rfl))))))
theorem kg_13 : k_get 13 = kr_13 := rfl
theorem km_13 : x_okm k_P 13 := k_m_ok (k_cw kg_13 rfl rfl rfl rfl kcw_13) (is := [139]) (by decide +kernel)
set_option maxRecDepth 100000 in
theorem kcw_14 : Cond.code yX1_limit cX1_limit 2 (some .int) ∈ lw_tbl := (List.mem_append_right _ (List.mem_append_right _ (List.mem_append_right _ (List.mem_append_right _ (List.mem_append_left _ (List.mem_of_getElem? (i := 102) rfl))))))
theorem kg_14 : k_get 14 = kr_14 := rfl
theorem km_14 : x_okm k_P 14 := k_m_ok (k_cw kg_14 rfl rfl rfl rfl kcw_14) (is := [139]) (by decide +kernel)
set_option maxRecDepth 100000 in
theorem kcw_15 : Cond.code yX2_init cX2_init 1 none ∈ lw_tbl := (List.mem_append_right _ (List.mem_append_right _ (List.mem_append_left _ (List.mem_of_getElem? (i := 20) rfl))))
theorem kg_15 : k_get 15 = kr_15 := rfl
theorem km_15 : x_okm k_P 15 := k_m_ok (k_cw kg_15 rfl rfl rfl rfl kcw_15) (is := [140]) (by decide +kernel)
set_option maxRecDepth 100000 in
theorem kcw_16 : Cond.code yX2_remember cX2_remember 2 none ∈ lw_tbl := (List.mem_append_right _ (List.mem_append_right _ (List.mem_append_right _ (List.mem_append_right _ (List.mem_append_left _ (List.mem_of_getElem? (i := 126) rfl))))))
theorem kg_16 : k_get 16 = kr_16 := rfl
theorem km_16 : x_okm k_P 16 := k_m_ok (k_cw kg_16 rfl rfl rfl rfl kcw_16) (is := [140]) (by decide +kernel)
set_option maxRecDepth 100000 in
theorem kcw_17 : Cond.code yX2_takeBack cX2_takeBack 2 none ∈ lw_tbl := (List.mem_append_right _ (List.mem_append_right _ (List.mem_append_right _ (List.mem_append_right _ (List.mem_append_left _ (List.mem_of_getElem? (i := 205) rfl))))))
theorem kg_17 : k_get 17 = kr_17 := rfl
theorem km_17 : x_okm k_P 17 := k_m_ok (k_cw kg_17 rfl rfl rfl rfl kcw_17) (is := [140]) (by decide +kernel)
set_option maxRecDepth 100000 in
theorem kcw_18 : Cond.code yX3_init cX3_init 1 none ∈ lw_tbl := (List.mem_append_right _ (List.mem_append_left _ (List.mem_of_getElem? (i := 65) rfl)))
theorem kg_18 : k_get 18 = kr_18 := rfl
theorem km_18 : x_okm k_P 18 := k_m_ok (k_cw kg_18 rfl rfl rfl rfl kcw_18) (is := [136]) (by decide +kernel)
set_option maxRecDepth 100000 in
theorem kcw_19 : Cond.code yX3_begin cX3_begin 2 none ∈ lw_tbl := (List.mem_append_right _ (List.mem_append_right _ (List.mem_append_left _ (List.mem_of_getElem? (i := 187) rfl))))
theorem kg_19 : k_get 19 = kr_19 := rfl
theorem km_19 : x_okm k_P 19 := k_m_ok (k_cw kg_19 rfl rfl rfl rfl kcw_19) (is := [136]) (by decide +kernel)
set_option maxRecDepth 100000 in
theorem kcw_20 : Cond.code yX3_fail cX3_fail 3 (some .boolean) ∈ lw_tbl := (List.mem_append_right _ (List.mem_append_right _ (List.mem_append_left _ (List.mem_of_getElem? (i := 198) rfl))))
theorem kg_20 : k_get 20 = kr_20 := rfl
theorem km_20 : x_okm k_P 20 := k_m_ok (k_cw kg_20 rfl rfl rfl rfl kcw_20) (is := [136]) (by decide +kernel)
set_option maxRecDepth 100000 in
theorem kcw_21 : Cond.code yX3_unexpected cX3_unexpected 1 (some .boolean) ∈ lw_tbl := (List.mem_append_right _ (List.mem_append_right _ (List.mem_append_left _ (List.mem_of_getElem? (i := 213) rfl))))
theorem kg_21 : k_get 21 = kr_21 := rfl
theorem km_21 : x_okm k_P 21 := k_m_ok (k_cw kg_21 rfl rfl rfl rfl kcw_21) (is := [136]) (by decide +kernel)
set_option maxRecDepth 100000 in
theorem kcw_22 : Cond.code yX3_isWord cX3_isWord 2 (some .boolean) ∈ lw_tbl := (List.mem_append_right _ (List.mem_append_right _ (List.mem_append_right _ (List.mem_append_left _ (List.mem_of_getElem? (i := 19) rfl)))))
theorem kg_22 : k_get 22 = kr_22 := rfl
theorem km_22 : x_okm k_P 22 := k_m_ok (k_cw kg_22 rfl rfl rfl rfl kcw_22) (is := [136]) (by decide +kernel)
set_option maxRecDepth 100000 in
theorem kcw_23 : Cond.code yX3_isSign cX3_isSign 2 (some .boolean) ∈ lw_tbl := (List.mem_append_right _ (List.mem_append_right _ (List.mem_append_right _ (List.mem_append_left _ (List.mem_of_getElem? (i := 120) rfl)))))
theorem kg_23 : k_get 23 = kr_23 := rfl
theorem km_23 : x_okm k_P 23 := k_m_ok (k_cw kg_23 rfl rfl rfl rfl kcw_23) (is := [136]) (by decide +kernel)
set_option maxRecDepth 100000 in
theorem kcw_24 : Cond.code yX3_passSign cX3_passSign 2 (some .boolean) ∈ lw_tbl := (List.mem_append_right _ (List.mem_append_right _ (List.mem_append_right _ (List.mem_append_left _ (List.mem_of_getElem? (i := 131) rfl)))))
theorem kg_24 : k_get 24 = kr_24 := rfl
theorem km_24 : x_okm k_P 24 := k_m_ok (k_cw kg_24 rfl rfl rfl rfl kcw_24) (is := [136]) (by decide +kernel)
set_option maxRecDepth 100000 in
theorem kcw_25 : Cond.code yX3_atEnd cX3_atEnd 1 (some .boolean) ∈ lw_tbl := (List.mem_append_right _ (List.mem_append_right _ (List.mem_append_left _ (List.mem_of_getElem? (i := 194) rfl))))
theorem kg_25 : k_get 25 = kr_25 := rfl
theorem km_25 : x_okm k_P 25 := k_m_ok (k_cw kg_25 rfl rfl rfl rfl kcw_25) (is := [136]) (by decide +kernel)
set_option maxRecDepth 100000 in
theorem kcw_26 : Cond.code yX3_next cX3_next 5 none ∈ lw_tbl := (List.mem_append_right _ (List.mem_append_right _ (List.mem_append_left _ (List.mem_of_getElem? (i := 202) rfl))))
theorem kg_26 : k_get 26 = kr_26 := rfl
theorem km_26 : x_okm k_P 26 := k_m_ok (k_cw kg_26 rfl rfl rfl rfl kcw_26) (is := [136]) (by decide +kernel)
set_option maxRecDepth 100000 in
theorem kcw_27 : Cond.code yX3_readWord cX3_readWord 4 none ∈ lw_tbl := (List.mem_append_right _ (List.mem_append_right _ (List.mem_append_left _ (List.mem_of_getElem? (i := 218) rfl))))
theorem kg_27 : k_get 27 = kr_27 := rfl
theorem km_27 : x_okm k_P 27 := k_m_ok (k_cw kg_27 rfl rfl rfl rfl kcw_27) (is := [136]) (by decide +kernel)
set_option maxRecDepth 100000 in
theorem kcw_28 : Cond.code yX3_readNumber cX3_readNumber 1 none ∈ lw_tbl := (List.mem_append_right _ (List.mem_append_right _ (List.mem_append_left _ (List.mem_of_getElem? (i := 226) rfl))))
theorem kg_28 : k_get 28 = kr_28 := rfl
theorem km_28 : x_okm k_P 28 := k_m_ok (k_cw kg_28 rfl rfl rfl rfl kcw_28) (is := [136]) (by decide +kernel)
set_option maxRecDepth 100000 in
theorem kcw_29 : Cond.code yX3_isOwnWord cX3_isOwnWord 1 (some .boolean) ∈ lw_tbl := (List.mem_append_right _ (List.mem_append_right _ (List.mem_append_left _ (List.mem_of_getElem? (i := 222) rfl))))
theorem kg_29 : k_get 29 = kr_29 := rfl
theorem km_29 : x_okm k_P 29 := k_m_ok (k_cw kg_29 rfl rfl rfl rfl kcw_29) (is := [136]) (by decide +kernel)
set_option maxRecDepth 100000 in
theorem kcw_30 : Cond.code yX3_isLetter cX3_isLetter 1 (some .boolean) ∈ lw_tbl := (List.mem_append_right _ (List.mem_append_right _ (List.mem_append_left _ (List.mem_of_getElem? (i := 206) rfl))))
theorem kg_30 : k_get 30 = kr_30 := rfl
theorem km_30 : x_okm k_P 30 := k_m_ok (k_cw kg_30 rfl rfl rfl rfl kcw_30) (is := [136]) (by decide +kernel)
set_option maxRecDepth 100000 in
theorem kcw_31 : Cond.code yX3_isDigit cX3_isDigit 1 (some .boolean) ∈ lw_tbl := (List.mem_append_right _ (List.mem_append_right _ (List.mem_append_left _ (List.mem_of_getElem? (i := 209) rfl))))
theorem kg_31 : k_get 31 = kr_31 := rfl
theorem km_31 : x_okm k_P 31 := k_m_ok (k_cw kg_31 rfl rfl rfl rfl kcw_31) (is := [136]) (by decide +kernel)
set_option maxRecDepth 100000 in
theorem kcw_32 : Cond.code yX4_init cX4_init 1 none ∈ lw_tbl := (List.mem_append_right _ (List.mem_append_right _ (List.mem_append_left _ (List.mem_of_getElem? (i := 37) rfl))))
theorem kg_32 : k_get 32 = kr_32 := rfl
theorem km_32 : x_okm k_P 32 := k_m_ok (k_cw kg_32 rfl rfl rfl rfl kcw_32) (is := [141]) (by decide +kernel)
set_option maxRecDepth 100000 in
theorem kcw_33 : Cond.code yX4_layRoute cX4_layRoute 4 none ∈ lw_tbl := (List.mem_append_right _ (List.mem_append_right _ (List.mem_append_right _ (List.mem_append_right _ (List.mem_append_left _ (List.mem_of_getElem? (i := 230) rfl))))))
theorem kg_33 : k_get 33 = kr_33 := rfl
theorem km_33 : x_okm k_P 33 := k_m_ok (k_cw kg_33 rfl rfl rfl rfl kcw_33) (is := [141]) (by decide +kernel)
set_option maxRecDepth 100000 in
theorem kcw_34 : Cond.code yX4_layBearers cX4_layBearers 4 none ∈ lw_tbl := (List.mem_append_right _ (List.mem_append_right _ (List.mem_append_right _ (List.mem_append_right _ (List.mem_append_right _ (List.mem_append_left _ (List.mem_of_getElem? (i := 24) rfl)))))))
theorem kg_34 : k_get 34 = kr_34 := rfl
theorem km_34 : x_okm k_P 34 := k_m_ok (k_cw kg_34 rfl rfl rfl rfl kcw_34) (is := [141]) (by decide +kernel)
set_option maxRecDepth 100000 in
theorem kcw_35 : Cond.code yX4_layPerson cX4_layPerson 10 none ∈ lw_tbl := (List.mem_append_right _ (List.mem_append_right _ (List.mem_append_right _ (List.mem_append_right _ (List.mem_append_left _ (List.mem_of_getElem? (i := 235) rfl))))))
theorem kg_35 : k_get 35 = kr_35 := rfl
theorem km_35 : x_okm k_P 35 := k_m_ok (k_cw kg_35 rfl rfl rfl rfl kcw_35) (is := [141]) (by decide +kernel)
set_option maxRecDepth 100000 in
theorem kcw_36 : Cond.code yX4_find cX4_find 6 none ∈ lw_tbl := (List.mem_append_right _ (List.mem_append_right _ (List.mem_append_right _ (List.mem_append_right _ (List.mem_append_right _ (List.mem_append_left _ (List.mem_of_getElem? (i := 2) rfl)))))))
theorem kg_36 : k_get 36 = kr_36 := rfl
theorem km_36 : x_okm k_P 36 := k_m_ok (k_cw kg_36 rfl rfl rfl rfl kcw_36) (is := [141]) (by decide +kernel)
set_option maxRecDepth 100000 in
theorem kcw_37 : Cond.code yX4_measure cX4_measure 7 none ∈ lw_tbl := (List.mem_append_right _ (List.mem_append_right _ (List.mem_append_right _ (List.mem_append_right _ (List.mem_append_right _ (List.mem_append_left _ (List.mem_of_getElem? (i := 6) rfl)))))))
theorem kg_37 : k_get 37 = kr_37 := rfl
theorem km_37 : x_okm k_P 37 := k_m_ok (k_cw kg_37 rfl rfl rfl rfl kcw_37) (is := [141]) (by decide +kernel)
set_option maxRecDepth 100000 in
theorem kcw_38 : Cond.code yX4_firstOnward cX4_firstOnward 5 (some .int) ∈ lw_tbl := (List.mem_append_right _ (List.mem_append_right _ (List.mem_append_right _ (List.mem_append_right _ (List.mem_append_right _ (List.mem_append_left _ (List.mem_of_getElem? (i := 12) rfl)))))))
theorem kg_38 : k_get 38 = kr_38 := rfl
theorem km_38 : x_okm k_P 38 := k_m_ok (k_cw kg_38 rfl rfl rfl rfl kcw_38) (is := [141]) (by decide +kernel)
set_option maxRecDepth 100000 in
theorem kcw_39 : Cond.code yX4_roomAt cX4_roomAt 2 (some .int) ∈ lw_tbl := (List.mem_append_right _ (List.mem_append_right _ (List.mem_append_right _ (List.mem_append_right _ (List.mem_append_right _ (List.mem_append_left _ (List.mem_of_getElem? (i := 16) rfl)))))))
theorem kg_39 : k_get 39 = kr_39 := rfl
theorem km_39 : x_okm k_P 39 := k_m_ok (k_cw kg_39 rfl rfl rfl rfl kcw_39) (is := [141]) (by decide +kernel)
set_option maxRecDepth 100000 in
theorem kcw_40 : Cond.code yX4_bearerAt cX4_bearerAt 3 (some .int) ∈ lw_tbl := (List.mem_append_right _ (List.mem_append_right _ (List.mem_append_right _ (List.mem_append_right _ (List.mem_append_right _ (List.mem_append_left _ (List.mem_of_getElem? (i := 28) rfl)))))))
theorem kg_40 : k_get 40 = kr_40 := rfl
theorem km_40 : x_okm k_P 40 := k_m_ok (k_cw kg_40 rfl rfl rfl rfl kcw_40) (is := [141]) (by decide +kernel)
set_option maxRecDepth 100000 in
theorem kcw_41 : Cond.code yX5_init cX5_init 1 none ∈ lw_tbl := (List.mem_append_right _ (List.mem_append_left _ (List.mem_of_getElem? (i := 121) rfl)))
theorem kg_41 : k_get 41 = kr_41 := rfl
theorem km_41 : x_okm k_P 41 := k_m_ok (k_cw kg_41 rfl rfl rfl rfl kcw_41) (is := [137]) (by decide +kernel)
set_option maxRecDepth 100000 in
theorem kcw_42 : Cond.code yX5_takeDraft cX5_takeDraft 3 none ∈ lw_tbl := (List.mem_append_right _ (List.mem_append_right _ (List.mem_append_right _ (List.mem_append_left _ (List.mem_of_getElem? (i := 184) rfl)))))
theorem kg_42 : k_get 42 = kr_42 := rfl
theorem km_42 : x_okm k_P 42 := k_m_ok (k_cw kg_42 rfl rfl rfl rfl kcw_42) (is := [137]) (by decide +kernel)
set_option maxRecDepth 100000 in
theorem kcw_43 : Cond.code yX5_roomOf cX5_roomOf 2 (some .int) ∈ lw_tbl := (List.mem_append_right _ (List.mem_append_right _ (List.mem_append_right _ (List.mem_append_left _ (List.mem_of_getElem? (i := 205) rfl)))))
theorem kg_43 : k_get 43 = kr_43 := rfl
theorem km_43 : x_okm k_P 43 := k_m_ok (k_cw kg_43 rfl rfl rfl rfl kcw_43) (is := [137]) (by decide +kernel)
set_option maxRecDepth 100000 in
theorem kcw_44 : Cond.code yX5_chairRoom cX5_chairRoom 2 (some .int) ∈ lw_tbl := (List.mem_append_right _ (List.mem_append_right _ (List.mem_append_right _ (List.mem_append_left _ (List.mem_of_getElem? (i := 209) rfl)))))
theorem kg_44 : k_get 44 = kr_44 := rfl
theorem km_44 : x_okm k_P 44 := k_m_ok (k_cw kg_44 rfl rfl rfl rfl kcw_44) (is := [137]) (by decide +kernel)
set_option maxRecDepth 100000 in
theorem kcw_45 : Cond.code yX5_isBroken cX5_isBroken 2 (some .boolean) ∈ lw_tbl := (List.mem_append_right _ (List.mem_append_right _ (List.mem_append_right _ (List.mem_append_left _ (List.mem_of_getElem? (i := 217) rfl)))))
theorem kg_45 : k_get 45 = kr_45 := rfl
theorem km_45 : x_okm k_P 45 := k_m_ok (k_cw kg_45 rfl rfl rfl rfl kcw_45) (is := [137]) (by decide +kernel)
set_option maxRecDepth 100000 in
theorem kcw_46 : Cond.code yX5_clockOf cX5_clockOf 2 (some .int) ∈ lw_tbl := (List.mem_append_right _ (List.mem_append_right _ (List.mem_append_right _ (List.mem_append_left _ (List.mem_of_getElem? (i := 230) rfl)))))
theorem kg_46 : k_get 46 = kr_46 := rfl
theorem km_46 : x_okm k_P 46 := k_m_ok (k_cw kg_46 rfl rfl rfl rfl kcw_46) (is := [137]) (by decide +kernel)
set_option maxRecDepth 100000 in
theorem kcw_47 : Cond.code yX5_acheOf cX5_acheOf 2 (some .int) ∈ lw_tbl := (List.mem_append_right _ (List.mem_append_right _ (List.mem_append_right _ (List.mem_append_right _ (List.mem_append_left _ (List.mem_of_getElem? (i := 1) rfl))))))
theorem kg_47 : k_get 47 = kr_47 := rfl
theorem km_47 : x_okm k_P 47 := k_m_ok (k_cw kg_47 rfl rfl rfl rfl kcw_47) (is := [137]) (by decide +kernel)
set_option maxRecDepth 100000 in
theorem kcw_48 : Cond.code yX5_keptCount cX5_keptCount 1 (some .int) ∈ lw_tbl := (List.mem_append_right _ (List.mem_append_right _ (List.mem_append_right _ (List.mem_append_right _ (List.mem_append_left _ (List.mem_of_getElem? (i := 5) rfl))))))
theorem kg_48 : k_get 48 = kr_48 := rfl
theorem km_48 : x_okm k_P 48 := k_m_ok (k_cw kg_48 rfl rfl rfl rfl kcw_48) (is := [137]) (by decide +kernel)
set_option maxRecDepth 100000 in
theorem kcw_49 : Cond.code yX5_sitting cX5_sitting 3 (some .int) ∈ lw_tbl := (List.mem_append_right _ (List.mem_append_right _ (List.mem_append_right _ (List.mem_append_left _ (List.mem_of_getElem? (i := 197) rfl)))))
theorem kg_49 : k_get 49 = kr_49 := rfl
theorem km_49 : x_okm k_P 49 := k_m_ok (k_cw kg_49 rfl rfl rfl rfl kcw_49) (is := [137]) (by decide +kernel)
set_option maxRecDepth 100000 in
theorem kcw_50 : Cond.code yX5_brokenChairs cX5_brokenChairs 3 (some .int) ∈ lw_tbl := (List.mem_append_right _ (List.mem_append_right _ (List.mem_append_right _ (List.mem_append_left _ (List.mem_of_getElem? (i := 222) rfl)))))
theorem kg_50 : k_get 50 = kr_50 := rfl
theorem km_50 : x_okm k_P 50 := k_m_ok (k_cw kg_50 rfl rfl rfl rfl kcw_50) (is := [137]) (by decide +kernel)
set_option maxRecDepth 100000 in
theorem kcw_51 : Cond.code yX5_latestClock cX5_latestClock 3 (some .int) ∈ lw_tbl := (List.mem_append_right _ (List.mem_append_right _ (List.mem_append_right _ (List.mem_append_left _ (List.mem_of_getElem? (i := 226) rfl)))))
theorem kg_51 : k_get 51 = kr_51 := rfl
theorem km_51 : x_okm k_P 51 := k_m_ok (k_cw kg_51 rfl rfl rfl rfl kcw_51) (is := [137]) (by decide +kernel)
set_option maxRecDepth 100000 in
theorem kcw_52 : Cond.code yX5_allAches cX5_allAches 3 (some .int) ∈ lw_tbl := (List.mem_append_right _ (List.mem_append_right _ (List.mem_append_right _ (List.mem_append_left _ (List.mem_of_getElem? (i := 237) rfl)))))
theorem kg_52 : k_get 52 = kr_52 := rfl
theorem km_52 : x_okm k_P 52 := k_m_ok (k_cw kg_52 rfl rfl rfl rfl kcw_52) (is := [137]) (by decide +kernel)
set_option maxRecDepth 100000 in
theorem kcw_53 : Cond.code yX5_peopleIn cX5_peopleIn 4 (some .int) ∈ lw_tbl := (List.mem_append_right _ (List.mem_append_right _ (List.mem_append_right _ (List.mem_append_right _ (List.mem_append_left _ (List.mem_of_getElem? (i := 26) rfl))))))
theorem kg_53 : k_get 53 = kr_53 := rfl
theorem km_53 : x_okm k_P 53 := k_m_ok (k_cw kg_53 rfl rfl rfl rfl kcw_53) (is := [137]) (by decide +kernel)
set_option maxRecDepth 100000 in
theorem kcw_54 : Cond.code yX5_chairsIn cX5_chairsIn 4 (some .int) ∈ lw_tbl := (List.mem_append_right _ (List.mem_append_right _ (List.mem_append_right _ (List.mem_append_right _ (List.mem_append_left _ (List.mem_of_getElem? (i := 30) rfl))))))
theorem kg_54 : k_get 54 = kr_54 := rfl
theorem km_54 : x_okm k_P 54 := k_m_ok (k_cw kg_54 rfl rfl rfl rfl kcw_54) (is := [137]) (by decide +kernel)
set_option maxRecDepth 100000 in
theorem kcw_55 : Cond.code yX5_sittingIn cX5_sittingIn 4 (some .int) ∈ lw_tbl := (List.mem_append_right _ (List.mem_append_right _ (List.mem_append_right _ (List.mem_append_right _ (List.mem_append_left _ (List.mem_of_getElem? (i := 34) rfl))))))
theorem kg_55 : k_get 55 = kr_55 := rfl
theorem km_55 : x_okm k_P 55 := k_m_ok (k_cw kg_55 rfl rfl rfl rfl kcw_55) (is := [137]) (by decide +kernel)
set_option maxRecDepth 100000 in
theorem kcw_56 : Cond.code yX5_load cX5_load 5 (some .int) ∈ lw_tbl := (List.mem_append_right _ (List.mem_append_right _ (List.mem_append_right _ (List.mem_append_right _ (List.mem_append_left _ (List.mem_of_getElem? (i := 22) rfl))))))
theorem kg_56 : k_get 56 = kr_56 := rfl
theorem km_56 : x_okm k_P 56 := k_m_ok (k_cw kg_56 rfl rfl rfl rfl kcw_56) (is := [137]) (by decide +kernel)
set_option maxRecDepth 100000 in
theorem kcw_57 : Cond.code yX5_admits cX5_admits 3 (some .boolean) ∈ lw_tbl := (List.mem_append_right _ (List.mem_append_right _ (List.mem_append_right _ (List.mem_append_right _ (List.mem_append_left _ (List.mem_of_getElem? (i := 64) rfl))))))
theorem kg_57 : k_get 57 = kr_57 := rfl
theorem km_57 : x_okm k_P 57 := k_m_ok (k_cw kg_57 rfl rfl rfl rfl kcw_57) (is := [137]) (by decide +kernel)
set_option maxRecDepth 100000 in
theorem kcw_58 : Cond.code yX5_sits cX5_sits 2 (some .boolean) ∈ lw_tbl := (List.mem_append_right _ (List.mem_append_right _ (List.mem_append_right _ (List.mem_append_left _ (List.mem_of_getElem? (i := 201) rfl)))))
theorem kg_58 : k_get 58 = kr_58 := rfl
theorem km_58 : x_okm k_P 58 := k_m_ok (k_cw kg_58 rfl rfl rfl rfl kcw_58) (is := [137]) (by decide +kernel)
set_option maxRecDepth 100000 in
theorem kcw_59 : Cond.code yX5_wouldSit cX5_wouldSit 5 (some .boolean) ∈ lw_tbl := (List.mem_append_right _ (List.mem_append_right _ (List.mem_append_right _ (List.mem_append_left _ (List.mem_of_getElem? (i := 213) rfl)))))
theorem kg_59 : k_get 59 = kr_59 := rfl
theorem km_59 : x_okm k_P 59 := k_m_ok (k_cw kg_59 rfl rfl rfl rfl kcw_59) (is := [137]) (by decide +kernel)
set_option maxRecDepth 100000 in
theorem kcw_60 : Cond.code yX5_canCarry cX5_canCarry 4 (some .boolean) ∈ lw_tbl := (List.mem_append_right _ (List.mem_append_right _ (List.mem_append_right _ (List.mem_append_right _ (List.mem_append_left _ (List.mem_of_getElem? (i := 80) rfl))))))
theorem kg_60 : k_get 60 = kr_60 := rfl
theorem km_60 : x_okm k_P 60 := k_m_ok (k_cw kg_60 rfl rfl rfl rfl kcw_60) (is := [137]) (by decide +kernel)
set_option maxRecDepth 100000 in
theorem kcw_61 : Cond.code yX5_goingMinutes cX5_goingMinutes 4 (some .int) ∈ lw_tbl := (List.mem_append_right _ (List.mem_append_right _ (List.mem_append_right _ (List.mem_append_right _ (List.mem_append_left _ (List.mem_of_getElem? (i := 75) rfl))))))
theorem kg_61 : k_get 61 = kr_61 := rfl
theorem km_61 : x_okm k_P 61 := k_m_ok (k_cw kg_61 rfl rfl rfl rfl kcw_61) (is := [137]) (by decide +kernel)
set_option maxRecDepth 100000 in
theorem kcw_62 : Cond.code yX5_minutesBy cX5_minutesBy 4 (some .int) ∈ lw_tbl := (List.mem_append_right _ (List.mem_append_right _ (List.mem_append_right _ (List.mem_append_right _ (List.mem_append_left _ (List.mem_of_getElem? (i := 85) rfl))))))
theorem kg_62 : k_get 62 = kr_62 := rfl
theorem km_62 : x_okm k_P 62 := k_m_ok (k_cw kg_62 rfl rfl rfl rfl kcw_62) (is := [137]) (by decide +kernel)
set_option maxRecDepth 100000 in
theorem kcw_63 : Cond.code yX5_give cX5_give 4 none ∈ lw_tbl := (List.mem_append_right _ (List.mem_append_right _ (List.mem_append_right _ (List.mem_append_right _ (List.mem_append_left _ (List.mem_of_getElem? (i := 89) rfl))))))
theorem kg_63 : k_get 63 = kr_63 := rfl
theorem km_63 : x_okm k_P 63 := k_m_ok (k_cw kg_63 rfl rfl rfl rfl kcw_63) (is := [137]) (by decide +kernel)
set_option maxRecDepth 100000 in
theorem kcw_64 : Cond.code yX5_spend cX5_spend 3 none ∈ lw_tbl := (List.mem_append_right _ (List.mem_append_right _ (List.mem_append_right _ (List.mem_append_right _ (List.mem_append_left _ (List.mem_of_getElem? (i := 140) rfl))))))
theorem kg_64 : k_get 64 = kr_64 := rfl
theorem km_64 : x_okm k_P 64 := k_m_ok (k_cw kg_64 rfl rfl rfl rfl kcw_64) (is := [137]) (by decide +kernel)
set_option maxRecDepth 100000 in
theorem kcw_65 : Cond.code yX5_walk cX5_walk 4 none ∈ lw_tbl := (List.mem_append_right _ (List.mem_append_right _ (List.mem_append_right _ (List.mem_append_right _ (List.mem_append_left _ (List.mem_of_getElem? (i := 136) rfl))))))
theorem kg_65 : k_get 65 = kr_65 := rfl
theorem km_65 : x_okm k_P 65 := k_m_ok (k_cw kg_65 rfl rfl rfl rfl kcw_65) (is := [137]) (by decide +kernel)
set_option maxRecDepth 100000 in
theorem kcw_66 : Cond.code yX5_carry cX5_carry 6 none ∈ lw_tbl := (List.mem_append_right _ (List.mem_append_right _ (List.mem_append_right _ (List.mem_append_right _ (List.mem_append_left _ (List.mem_of_getElem? (i := 146) rfl))))))
theorem kg_66 : k_get 66 = kr_66 := rfl
theorem km_66 : x_okm k_P 66 := k_m_ok (k_cw kg_66 rfl rfl rfl rfl kcw_66) (is := [137]) (by decide +kernel)
set_option maxRecDepth 100000 in
theorem kcw_67 : Cond.code yX5_keptPart cX5_keptPart 4 (some .int) ∈ lw_tbl := (List.mem_append_right _ (List.mem_append_right _ (List.mem_append_right _ (List.mem_append_right _ (List.mem_append_left _ (List.mem_of_getElem? (i := 218) rfl))))))
theorem kg_67 : k_get 67 = kr_67 := rfl
theorem km_67 : x_okm k_P 67 := k_m_ok (k_cw kg_67 rfl rfl rfl rfl kcw_67) (is := [137]) (by decide +kernel)
set_option maxRecDepth 100000 in
theorem kcw_68 : Cond.code yX5_spoil cX5_spoil 2 none ∈ lw_tbl := (List.mem_append_right _ (List.mem_append_right _ (List.mem_append_right _ (List.mem_append_right _ (List.mem_append_left _ (List.mem_of_getElem? (i := 159) rfl))))))
theorem kg_68 : k_get 68 = kr_68 := rfl
theorem km_68 : x_okm k_P 68 := k_m_ok (k_cw kg_68 rfl rfl rfl rfl kcw_68) (is := [137]) (by decide +kernel)
set_option maxRecDepth 100000 in
theorem kcw_69 : Cond.code yX5_spendWaiting cX5_spendWaiting 4 none ∈ lw_tbl := (List.mem_append_right _ (List.mem_append_right _ (List.mem_append_right _ (List.mem_append_right _ (List.mem_append_left _ (List.mem_of_getElem? (i := 167) rfl))))))
theorem kg_69 : k_get 69 = kr_69 := rfl
theorem km_69 : x_okm k_P 69 := k_m_ok (k_cw kg_69 rfl rfl rfl rfl kcw_69) (is := [137]) (by decide +kernel)
set_option maxRecDepth 100000 in
theorem kcw_70 : Cond.code yX5_canMend cX5_canMend 3 (some .boolean) ∈ lw_tbl := (List.mem_append_right _ (List.mem_append_right _ (List.mem_append_right _ (List.mem_append_right _ (List.mem_append_left _ (List.mem_of_getElem? (i := 175) rfl))))))
theorem kg_70 : k_get 70 = kr_70 := rfl
theorem km_70 : x_okm k_P 70 := k_m_ok (k_cw kg_70 rfl rfl rfl rfl kcw_70) (is := [137]) (by decide +kernel)
set_option maxRecDepth 100000 in
theorem kcw_71 : Cond.code yX5_makeWhole cX5_makeWhole 3 none ∈ lw_tbl := (List.mem_append_right _ (List.mem_append_right _ (List.mem_append_right _ (List.mem_append_right _ (List.mem_append_left _ (List.mem_of_getElem? (i := 179) rfl))))))
theorem kg_71 : k_get 71 = kr_71 := rfl
theorem km_71 : x_okm k_P 71 := k_m_ok (k_cw kg_71 rfl rfl rfl rfl kcw_71) (is := [137]) (by decide +kernel)
set_option maxRecDepth 100000 in
theorem kcw_72 : Cond.code yX5_draw cX5_draw 6 (some .int) ∈ lw_tbl := (List.mem_append_right _ (List.mem_append_right _ (List.mem_append_right _ (List.mem_append_right _ (List.mem_append_right _ (List.mem_append_left _ (List.mem_of_getElem? (i := 144) rfl)))))))
theorem kg_72 : k_get 72 = kr_72 := rfl
theorem km_72 : x_okm k_P 72 := k_m_ok (k_cw kg_72 rfl rfl rfl rfl kcw_72) (is := [137]) (by decide +kernel)
set_option maxRecDepth 100000 in
theorem kcw_73 : Cond.code yX5_imageByte cX5_imageByte 3 (some .int) ∈ lw_tbl := (List.mem_append_right _ (List.mem_append_right _ (List.mem_append_right _ (List.mem_append_right _ (List.mem_append_right _ (List.mem_append_left _ (List.mem_of_getElem? (i := 148) rfl)))))))
theorem kg_73 : k_get 73 = kr_73 := rfl
theorem km_73 : x_okm k_P 73 := k_m_ok (k_cw kg_73 rfl rfl rfl rfl kcw_73) (is := [137]) (by decide +kernel)
set_option maxRecDepth 100000 in
theorem kcw_74 : Cond.code yX5_isImage cX5_isImage 6 (some .boolean) ∈ lw_tbl := (List.mem_append_right _ (List.mem_append_right _ (List.mem_append_right _ (List.mem_append_right _ (List.mem_append_right _ (List.mem_append_left _ (List.mem_of_getElem? (i := 160) rfl)))))))
theorem kg_74 : k_get 74 = kr_74 := rfl
theorem km_74 : x_okm k_P 74 := k_m_ok (k_cw kg_74 rfl rfl rfl rfl kcw_74) (is := [137]) (by decide +kernel)
set_option maxRecDepth 100000 in
theorem kcw_75 : Cond.code yX5_floorsHold cX5_floorsHold 5 (some .boolean) ∈ lw_tbl := (List.mem_append_right _ (List.mem_append_right _ (List.mem_append_right _ (List.mem_append_right _ (List.mem_append_right _ (List.mem_append_left _ (List.mem_of_getElem? (i := 167) rfl)))))))
theorem kg_75 : k_get 75 = kr_75 := rfl
theorem km_75 : x_okm k_P 75 := k_m_ok (k_cw kg_75 rfl rfl rfl rfl kcw_75) (is := [137]) (by decide +kernel)
set_option maxRecDepth 100000 in
theorem kcw_76 : Cond.code yX5_threeBytes cX5_threeBytes 2 (some .int) ∈ lw_tbl := (List.mem_append_right _ (List.mem_append_right _ (List.mem_append_right _ (List.mem_append_right _ (List.mem_append_right _ (List.mem_append_left _ (List.mem_of_getElem? (i := 163) rfl)))))))
theorem kg_76 : k_get 76 = kr_76 := rfl
theorem km_76 : x_okm k_P 76 := k_m_ok (k_cw kg_76 rfl rfl rfl rfl kcw_76) (is := [137]) (by decide +kernel)
set_option maxRecDepth 100000 in
theorem kcw_77 : Cond.code yX5_takeImage cX5_takeImage 4 none ∈ lw_tbl := (List.mem_append_right _ (List.mem_append_right _ (List.mem_append_right _ (List.mem_append_right _ (List.mem_append_right _ (List.mem_append_left _ (List.mem_of_getElem? (i := 171) rfl)))))))
theorem kg_77 : k_get 77 = kr_77 := rfl
theorem km_77 : x_okm k_P 77 := k_m_ok (k_cw kg_77 rfl rfl rfl rfl kcw_77) (is := [137]) (by decide +kernel)
set_option maxRecDepth 100000 in
theorem kcw_78 : Cond.code yX6_init cX6_init 1 none ∈ lw_tbl := (List.mem_append_right _ (List.mem_append_right _ (List.mem_append_left _ (List.mem_of_getElem? (i := 84) rfl))))
theorem kg_78 : k_get 78 = kr_78 := rfl
theorem km_78 : x_okm k_P 78 := k_m_ok (k_cw kg_78 rfl rfl rfl rfl kcw_78) (is := [143]) (by decide +kernel)
set_option maxRecDepth 100000 in
theorem kcw_79 : Cond.code yX6_mostSeated cX6_mostSeated 7 (some .int) ∈ lw_tbl := (List.mem_append_right _ (List.mem_append_right _ (List.mem_append_right _ (List.mem_append_right _ (List.mem_append_right _ (List.mem_append_left _ (List.mem_of_getElem? (i := 82) rfl)))))))
theorem kg_79 : k_get 79 = kr_79 := rfl
theorem km_79 : x_okm k_P 79 := k_m_ok (k_cw kg_79 rfl rfl rfl rfl kcw_79) (is := [143]) (by decide +kernel)
set_option maxRecDepth 100000 in
theorem kcw_80 : Cond.code yX6_canSeat cX6_canSeat 7 (some .boolean) ∈ lw_tbl := (List.mem_append_right _ (List.mem_append_right _ (List.mem_append_right _ (List.mem_append_right _ (List.mem_append_right _ (List.mem_append_left _ (List.mem_of_getElem? (i := 91) rfl)))))))
theorem kg_80 : k_get 80 = kr_80 := rfl
theorem km_80 : x_okm k_P 80 := k_m_ok (k_cw kg_80 rfl rfl rfl rfl kcw_80) (is := [143]) (by decide +kernel)
set_option maxRecDepth 100000 in
theorem kcw_81 : Cond.code yX6_isTold cX6_isTold 6 (some .boolean) ∈ lw_tbl := (List.mem_append_right _ (List.mem_append_right _ (List.mem_append_right _ (List.mem_append_right _ (List.mem_append_right _ (List.mem_append_left _ (List.mem_of_getElem? (i := 103) rfl)))))))
theorem kg_81 : k_get 81 = kr_81 := rfl
theorem km_81 : x_okm k_P 81 := k_m_ok (k_cw kg_81 rfl rfl rfl rfl kcw_81) (is := [143]) (by decide +kernel)
set_option maxRecDepth 100000 in
theorem kcw_82 : Cond.code yX6_note cX6_note 4 none ∈ lw_tbl := (List.mem_append_right _ (List.mem_append_right _ (List.mem_append_right _ (List.mem_append_right _ (List.mem_append_right _ (List.mem_append_left _ (List.mem_of_getElem? (i := 108) rfl)))))))
theorem kg_82 : k_get 82 = kr_82 := rfl
theorem km_82 : x_okm k_P 82 := k_m_ok (k_cw kg_82 rfl rfl rfl rfl kcw_82) (is := [143]) (by decide +kernel)
set_option maxRecDepth 100000 in
theorem kcw_83 : Cond.code yX6_countWays cX6_countWays 3 (some .int) ∈ lw_tbl := (List.mem_append_right _ (List.mem_append_right _ (List.mem_append_right _ (List.mem_append_right _ (List.mem_append_right _ (List.mem_append_left _ (List.mem_of_getElem? (i := 113) rfl)))))))
theorem kg_83 : k_get 83 = kr_83 := rfl
theorem km_83 : x_okm k_P 83 := k_m_ok (k_cw kg_83 rfl rfl rfl rfl kcw_83) (is := [143]) (by decide +kernel)
set_option maxRecDepth 100000 in
theorem kcw_84 : Cond.code yX6_layStates cX6_layStates 4 (some .boolean) ∈ lw_tbl := (List.mem_append_right _ (List.mem_append_right _ (List.mem_append_right _ (List.mem_append_right _ (List.mem_append_right _ (List.mem_append_left _ (List.mem_of_getElem? (i := 117) rfl)))))))
theorem kg_84 : k_get 84 = kr_84 := rfl
theorem km_84 : x_okm k_P 84 := k_m_ok (k_cw kg_84 rfl rfl rfl rfl kcw_84) (is := [143]) (by decide +kernel)
set_option maxRecDepth 100000 in
theorem kcw_85 : Cond.code yX6_countBefore cX6_countBefore 6 none ∈ lw_tbl := (List.mem_append_right _ (List.mem_append_right _ (List.mem_append_right _ (List.mem_append_right _ (List.mem_append_right _ (List.mem_append_left _ (List.mem_of_getElem? (i := 122) rfl)))))))
theorem kg_85 : k_get 85 = kr_85 := rfl
theorem km_85 : x_okm k_P 85 := k_m_ok (k_cw kg_85 rfl rfl rfl rfl kcw_85) (is := [143]) (by decide +kernel)
set_option maxRecDepth 100000 in
theorem kcw_86 : Cond.code yX6_countPerson cX6_countPerson 7 none ∈ lw_tbl := (List.mem_append_right _ (List.mem_append_right _ (List.mem_append_right _ (List.mem_append_right _ (List.mem_append_right _ (List.mem_append_left _ (List.mem_of_getElem? (i := 131) rfl)))))))
theorem kg_86 : k_get 86 = kr_86 := rfl
theorem km_86 : x_okm k_P 86 := k_m_ok (k_cw kg_86 rfl rfl rfl rfl kcw_86) (is := [143]) (by decide +kernel)
set_option maxRecDepth 100000 in
theorem kcw_87 : Cond.code yX6_stateBehind cX6_stateBehind 6 (some .int) ∈ lw_tbl := (List.mem_append_right _ (List.mem_append_right _ (List.mem_append_right _ (List.mem_append_right _ (List.mem_append_right _ (List.mem_append_left _ (List.mem_of_getElem? (i := 126) rfl)))))))
theorem kg_87 : k_get 87 = kr_87 := rfl
theorem km_87 : x_okm k_P 87 := k_m_ok (k_cw kg_87 rfl rfl rfl rfl kcw_87) (is := [143]) (by decide +kernel)
set_option maxRecDepth 100000 in
theorem kcw_88 : Cond.code yX7_init cX7_init 1 none ∈ lw_tbl := (List.mem_append_right _ (List.mem_append_left _ (List.mem_of_getElem? (i := 59) rfl)))
theorem kg_88 : k_get 88 = kr_88 := rfl
theorem km_88 : x_okm k_P 88 := k_m_ok (k_cw kg_88 rfl rfl rfl rfl kcw_88) (is := [135]) (by decide +kernel)
set_option maxRecDepth 100000 in
theorem kcw_89 : Cond.code yX7_readSum cX7_readSum 5 (some .boolean) ∈ lw_tbl := (List.mem_append_right _ (List.mem_append_right _ (List.mem_append_right _ (List.mem_append_left _ (List.mem_of_getElem? (i := 85) rfl)))))
theorem kg_89 : k_get 89 = kr_89 := rfl
theorem km_89 : x_okm k_P 89 := k_m_ok (k_cw kg_89 rfl rfl rfl rfl kcw_89) (is := [135]) (by decide +kernel)
set_option maxRecDepth 100000 in
theorem kcw_90 : Cond.code yX7_readProduct cX7_readProduct 5 (some .boolean) ∈ lw_tbl := (List.mem_append_right _ (List.mem_append_right _ (List.mem_append_right _ (List.mem_append_left _ (List.mem_of_getElem? (i := 89) rfl)))))
theorem kg_90 : k_get 90 = kr_90 := rfl
theorem km_90 : x_okm k_P 90 := k_m_ok (k_cw kg_90 rfl rfl rfl rfl kcw_90) (is := [135]) (by decide +kernel)
set_option maxRecDepth 100000 in
theorem kcw_91 : Cond.code yX7_productStep cX7_productStep 1 (some .int) ∈ lw_tbl := (List.mem_append_right _ (List.mem_append_right _ (List.mem_append_right _ (List.mem_append_left _ (List.mem_of_getElem? (i := 170) rfl)))))
theorem kg_91 : k_get 91 = kr_91 := rfl
theorem km_91 : x_okm k_P 91 := k_m_ok (k_cw kg_91 rfl rfl rfl rfl kcw_91) (is := [135]) (by decide +kernel)
set_option maxRecDepth 100000 in
theorem kcw_92 : Cond.code yX7_readPart cX7_readPart 3 (some .boolean) ∈ lw_tbl := (List.mem_append_right _ (List.mem_append_right _ (List.mem_append_right _ (List.mem_append_left _ (List.mem_of_getElem? (i := 93) rfl)))))
theorem kg_92 : k_get 92 = kr_92 := rfl
theorem km_92 : x_okm k_P 92 := k_m_ok (k_cw kg_92 rfl rfl rfl rfl kcw_92) (is := [135]) (by decide +kernel)
set_option maxRecDepth 100000 in
theorem kcw_93 : Cond.code yX7_readSimple cX7_readSimple 3 (some .boolean) ∈ lw_tbl := (List.mem_append_right _ (List.mem_append_right _ (List.mem_append_right _ (List.mem_append_left _ (List.mem_of_getElem? (i := 97) rfl)))))
theorem kg_93 : k_get 93 = kr_93 := rfl
theorem km_93 : x_okm k_P 93 := k_m_ok (k_cw kg_93 rfl rfl rfl rfl kcw_93) (is := [135]) (by decide +kernel)
set_option maxRecDepth 100000 in
theorem kcw_94 : Cond.code yX7_readPair cX7_readPair 5 (some .boolean) ∈ lw_tbl := (List.mem_append_right _ (List.mem_append_right _ (List.mem_append_right _ (List.mem_append_left _ (List.mem_of_getElem? (i := 137) rfl)))))
theorem kg_94 : k_get 94 = kr_94 := rfl
theorem km_94 : x_okm k_P 94 := k_m_ok (k_cw kg_94 rfl rfl rfl rfl kcw_94) (is := [135]) (by decide +kernel)
set_option maxRecDepth 100000 in
theorem kcw_95 : Cond.code yX7_readChoice cX7_readChoice 4 (some .boolean) ∈ lw_tbl := (List.mem_append_right _ (List.mem_append_right _ (List.mem_append_right _ (List.mem_append_left _ (List.mem_of_getElem? (i := 141) rfl)))))
theorem kg_95 : k_get 95 = kr_95 := rfl
theorem km_95 : x_okm k_P 95 := k_m_ok (k_cw kg_95 rfl rfl rfl rfl kcw_95) (is := [135]) (by decide +kernel)
set_option maxRecDepth 100000 in
theorem kcw_96 : Cond.code yX7_readTest cX7_readTest 4 (some .boolean) ∈ lw_tbl := (List.mem_append_right _ (List.mem_append_right _ (List.mem_append_right _ (List.mem_append_left _ (List.mem_of_getElem? (i := 145) rfl)))))
theorem kg_96 : k_get 96 = kr_96 := rfl
theorem km_96 : x_okm k_P 96 := k_m_ok (k_cw kg_96 rfl rfl rfl rfl kcw_96) (is := [135]) (by decide +kernel)
set_option maxRecDepth 100000 in
theorem kcw_97 : Cond.code yX7_readBoth cX7_readBoth 4 (some .boolean) ∈ lw_tbl := (List.mem_append_right _ (List.mem_append_right _ (List.mem_append_right _ (List.mem_append_left _ (List.mem_of_getElem? (i := 149) rfl)))))
theorem kg_97 : k_get 97 = kr_97 := rfl
theorem km_97 : x_okm k_P 97 := k_m_ok (k_cw kg_97 rfl rfl rfl rfl kcw_97) (is := [135]) (by decide +kernel)
set_option maxRecDepth 100000 in
theorem kcw_98 : Cond.code yX7_readFact cX7_readFact 3 (some .boolean) ∈ lw_tbl := (List.mem_append_right _ (List.mem_append_right _ (List.mem_append_right _ (List.mem_append_left _ (List.mem_of_getElem? (i := 153) rfl)))))
theorem kg_98 : k_get 98 = kr_98 := rfl
theorem km_98 : x_okm k_P 98 := k_m_ok (k_cw kg_98 rfl rfl rfl rfl kcw_98) (is := [135]) (by decide +kernel)
set_option maxRecDepth 100000 in
theorem kcw_99 : Cond.code yX7_readDenial cX7_readDenial 4 (some .boolean) ∈ lw_tbl := (List.mem_append_right _ (List.mem_append_right _ (List.mem_append_right _ (List.mem_append_left _ (List.mem_of_getElem? (i := 159) rfl)))))
theorem kg_99 : k_get 99 = kr_99 := rfl
theorem km_99 : x_okm k_P 99 := k_m_ok (k_cw kg_99 rfl rfl rfl rfl kcw_99) (is := [135]) (by decide +kernel)
set_option maxRecDepth 100000 in
theorem kcw_100 : Cond.code yX7_readComparison cX7_readComparison 5 (some .boolean) ∈ lw_tbl := (List.mem_append_right _ (List.mem_append_right _ (List.mem_append_right _ (List.mem_append_left _ (List.mem_of_getElem? (i := 164) rfl)))))
theorem kg_100 : k_get 100 = kr_100 := rfl
theorem km_100 : x_okm k_P 100 := k_m_ok (k_cw kg_100 rfl rfl rfl rfl kcw_100) (is := [135]) (by decide +kernel)
set_option maxRecDepth 100000 in
theorem kcw_101 : Cond.code yX7_opens cX7_opens 3 (some .boolean) ∈ lw_tbl := (List.mem_append_right _ (List.mem_append_right _ (List.mem_append_right _ (List.mem_append_left _ (List.mem_of_getElem? (i := 124) rfl)))))
theorem kg_101 : k_get 101 = kr_101 := rfl
theorem km_101 : x_okm k_P 101 := k_m_ok (k_cw kg_101 rfl rfl rfl rfl kcw_101) (is := [135]) (by decide +kernel)
set_option maxRecDepth 100000 in
theorem kcw_102 : Cond.code yX8_init cX8_init 1 none ∈ lw_tbl := (List.mem_append_right _ (List.mem_append_left _ (List.mem_of_getElem? (i := 30) rfl)))
theorem kg_102 : k_get 102 = kr_102 := rfl
theorem km_102 : x_okm k_P 102 := k_m_ok (k_cw kg_102 rfl rfl rfl rfl kcw_102) (is := [133]) (by decide +kernel)
set_option maxRecDepth 100000 in
theorem kcw_103 : Cond.code yX8_append cX8_append 3 none ∈ lw_tbl := (List.mem_append_right _ (List.mem_append_right _ (List.mem_append_left _ (List.mem_of_getElem? (i := 164) rfl))))
theorem kg_103 : k_get 103 = kr_103 := rfl
theorem km_103 : x_okm k_P 103 := k_m_ok (k_cw kg_103 rfl rfl rfl rfl kcw_103) (is := [133]) (by decide +kernel)
set_option maxRecDepth 100000 in
theorem kcw_104 : Cond.code yX9_init cX9_init 1 none ∈ lw_tbl := (List.mem_append_right _ (List.mem_append_left _ (List.mem_of_getElem? (i := 127) rfl)))
theorem kg_104 : k_get 104 = kr_104 := rfl
theorem km_104 : x_okm k_P 104 := k_m_ok (k_cw kg_104 rfl rfl rfl rfl kcw_104) (is := [138]) (by decide +kernel)
set_option maxRecDepth 100000 in
theorem kcw_105 : Cond.code yX9_clear cX9_clear 1 none ∈ lw_tbl := (List.mem_append_right _ (List.mem_append_right _ (List.mem_append_left _ (List.mem_of_getElem? (i := 180) rfl))))
theorem kg_105 : k_get 105 = kr_105 := rfl
theorem km_105 : x_okm k_P 105 := k_m_ok (k_cw kg_105 rfl rfl rfl rfl kcw_105) (is := [138]) (by decide +kernel)
set_option maxRecDepth 100000 in
theorem kcw_106 : Cond.code yX9_isRoom cX9_isRoom 2 (some .boolean) ∈ lw_tbl := (List.mem_append_right _ (List.mem_append_right _ (List.mem_append_right _ (List.mem_append_left _ (List.mem_of_getElem? (i := 41) rfl)))))
theorem kg_106 : k_get 106 = kr_106 := rfl
theorem km_106 : x_okm k_P 106 := k_m_ok (k_cw kg_106 rfl rfl rfl rfl kcw_106) (is := [138]) (by decide +kernel)
set_option maxRecDepth 100000 in
theorem kcw_107 : Cond.code yX9_isPerson cX9_isPerson 2 (some .boolean) ∈ lw_tbl := (List.mem_append_right _ (List.mem_append_right _ (List.mem_append_right _ (List.mem_append_left _ (List.mem_of_getElem? (i := 77) rfl)))))
theorem kg_107 : k_get 107 = kr_107 := rfl
theorem km_107 : x_okm k_P 107 := k_m_ok (k_cw kg_107 rfl rfl rfl rfl kcw_107) (is := [138]) (by decide +kernel)
set_option maxRecDepth 100000 in
theorem kcw_108 : Cond.code yX9_roomNamed cX9_roomNamed 2 (some .int) ∈ lw_tbl := (List.mem_append_right _ (List.mem_append_right _ (List.mem_append_right _ (List.mem_append_left _ (List.mem_of_getElem? (i := 3) rfl)))))
theorem kg_108 : k_get 108 = kr_108 := rfl
theorem km_108 : x_okm k_P 108 := k_m_ok (k_cw kg_108 rfl rfl rfl rfl kcw_108) (is := [138]) (by decide +kernel)
set_option maxRecDepth 100000 in
theorem kcw_109 : Cond.code yX9_personNamed cX9_personNamed 2 (some .int) ∈ lw_tbl := (List.mem_append_right _ (List.mem_append_right _ (List.mem_append_right _ (List.mem_append_left _ (List.mem_of_getElem? (i := 10) rfl)))))
theorem kg_109 : k_get 109 = kr_109 := rfl
theorem km_109 : x_okm k_P 109 := k_m_ok (k_cw kg_109 rfl rfl rfl rfl kcw_109) (is := [138]) (by decide +kernel)
set_option maxRecDepth 100000 in
theorem kcw_110 : Cond.code yX9_indexOf cX9_indexOf 4 (some .int) ∈ lw_tbl := (List.mem_append_right _ (List.mem_append_right _ (List.mem_append_right _ (List.mem_append_left _ (List.mem_of_getElem? (i := 6) rfl)))))
theorem kg_110 : k_get 110 = kr_110 := rfl
theorem km_110 : x_okm k_P 110 := k_m_ok (k_cw kg_110 rfl rfl rfl rfl kcw_110) (is := [138]) (by decide +kernel)
set_option maxRecDepth 100000 in
theorem kcw_111 : Cond.code yX9_addRoom cX9_addRoom 4 none ∈ lw_tbl := (List.mem_append_right _ (List.mem_append_right _ (List.mem_append_right _ (List.mem_append_left _ (List.mem_of_getElem? (i := 24) rfl)))))
theorem kg_111 : k_get 111 = kr_111 := rfl
theorem km_111 : x_okm k_P 111 := k_m_ok (k_cw kg_111 rfl rfl rfl rfl kcw_111) (is := [138]) (by decide +kernel)
set_option maxRecDepth 100000 in
theorem kcw_112 : Cond.code yX9_addWay cX9_addWay 4 none ∈ lw_tbl := (List.mem_append_right _ (List.mem_append_right _ (List.mem_append_right _ (List.mem_append_left _ (List.mem_of_getElem? (i := 37) rfl)))))
theorem kg_112 : k_get 112 = kr_112 := rfl
theorem km_112 : x_okm k_P 112 := k_m_ok (k_cw kg_112 rfl rfl rfl rfl kcw_112) (is := [138]) (by decide +kernel)
set_option maxRecDepth 100000 in
theorem kcw_113 : Cond.code yX9_addPerson cX9_addPerson 6 none ∈ lw_tbl := (List.mem_append_right _ (List.mem_append_right _ (List.mem_append_right _ (List.mem_append_left _ (List.mem_of_getElem? (i := 61) rfl)))))
theorem kg_113 : k_get 113 = kr_113 := rfl
theorem km_113 : x_okm k_P 113 := k_m_ok (k_cw kg_113 rfl rfl rfl rfl kcw_113) (is := [138]) (by decide +kernel)
set_option maxRecDepth 100000 in
theorem kcw_114 : Cond.code yX9_join cX9_join 3 none ∈ lw_tbl := (List.mem_append_right _ (List.mem_append_right _ (List.mem_append_right _ (List.mem_append_left _ (List.mem_of_getElem? (i := 73) rfl)))))
theorem kg_114 : k_get 114 = kr_114 := rfl
theorem km_114 : x_okm k_P 114 := k_m_ok (k_cw kg_114 rfl rfl rfl rfl kcw_114) (is := [138]) (by decide +kernel)
set_option maxRecDepth 100000 in
theorem kcw_115 : Cond.code yX9_houses cX9_houses 5 (some .boolean) ∈ lw_tbl := (List.mem_append_right _ (List.mem_append_right _ (List.mem_append_right _ (List.mem_append_left _ (List.mem_of_getElem? (i := 57) rfl)))))
theorem kg_115 : k_get 115 = kr_115 := rfl
theorem km_115 : x_okm k_P 115 := k_m_ok (k_cw kg_115 rfl rfl rfl rfl kcw_115) (is := [138]) (by decide +kernel)
set_option maxRecDepth 100000 in
theorem kcw_116 : Cond.code yX9_doorWidth cX9_doorWidth 2 (some .int) ∈ lw_tbl := (List.mem_append_right _ (List.mem_append_right _ (List.mem_append_right _ (List.mem_append_right _ (List.mem_append_left _ (List.mem_of_getElem? (i := 56) rfl))))))
theorem kg_116 : k_get 116 = kr_116 := rfl
theorem km_116 : x_okm k_P 116 := k_m_ok (k_cw kg_116 rfl rfl rfl rfl kcw_116) (is := [138]) (by decide +kernel)
set_option maxRecDepth 100000 in
theorem kcw_117 : Cond.code yX9_wayMinutes cX9_wayMinutes 3 (some .int) ∈ lw_tbl := (List.mem_append_right _ (List.mem_append_right _ (List.mem_append_right _ (List.mem_append_right _ (List.mem_append_left _ (List.mem_of_getElem? (i := 42) rfl))))))
theorem kg_117 : k_get 117 = kr_117 := rfl
theorem km_117 : x_okm k_P 117 := k_m_ok (k_cw kg_117 rfl rfl rfl rfl kcw_117) (is := [138]) (by decide +kernel)
set_option maxRecDepth 100000 in
theorem kcw_118 : Cond.code yX9_neighbours cX9_neighbours 4 (some .int) ∈ lw_tbl := (List.mem_append_right _ (List.mem_append_right _ (List.mem_append_right _ (List.mem_append_right _ (List.mem_append_left _ (List.mem_of_getElem? (i := 191) rfl))))))
theorem kg_118 : k_get 118 = kr_118 := rfl
theorem km_118 : x_okm k_P 118 := k_m_ok (k_cw kg_118 rfl rfl rfl rfl kcw_118) (is := [138]) (by decide +kernel)
set_option maxRecDepth 100000 in
theorem kcw_119 : Cond.code yX9_neighbour cX9_neighbour 5 (some .int) ∈ lw_tbl := (List.mem_append_right _ (List.mem_append_right _ (List.mem_append_right _ (List.mem_append_right _ (List.mem_append_left _ (List.mem_of_getElem? (i := 196) rfl))))))
theorem kg_119 : k_get 119 = kr_119 := rfl
theorem km_119 : x_okm k_P 119 := k_m_ok (k_cw kg_119 rfl rfl rfl rfl kcw_119) (is := [138]) (by decide +kernel)
set_option maxRecDepth 100000 in
theorem kcw_120 : Cond.code yX10_init cX10_init 1 none ∈ lw_tbl := (List.mem_append_right _ (List.mem_append_left _ (List.mem_of_getElem? (i := 53) rfl)))
theorem kg_120 : k_get 120 = kr_120 := rfl
theorem km_120 : x_okm k_P 120 := k_m_ok (k_cw kg_120 rfl rfl rfl rfl kcw_120) (is := [134]) (by decide +kernel)
set_option maxRecDepth 100000 in
theorem kcw_121 : Cond.code yX10_read cX10_read 4 (some .int) ∈ lw_tbl := (List.mem_append_right _ (List.mem_append_right _ (List.mem_append_left _ (List.mem_of_getElem? (i := 176) rfl))))
theorem kg_121 : k_get 121 = kr_121 := rfl
theorem km_121 : x_okm k_P 121 := k_m_ok (k_cw kg_121 rfl rfl rfl rfl kcw_121) (is := [134]) (by decide +kernel)
set_option maxRecDepth 100000 in
theorem kcw_122 : Cond.code yX10_readStatement cX10_readStatement 2 (some .boolean) ∈ lw_tbl := (List.mem_append_right _ (List.mem_append_right _ (List.mem_append_left _ (List.mem_of_getElem? (i := 230) rfl))))
theorem kg_122 : k_get 122 = kr_122 := rfl
theorem km_122 : x_okm k_P 122 := k_m_ok (k_cw kg_122 rfl rfl rfl rfl kcw_122) (is := [134]) (by decide +kernel)
set_option maxRecDepth 100000 in
theorem kcw_123 : Cond.code yX10_readRoom cX10_readRoom 4 (some .boolean) ∈ lw_tbl := (List.mem_append_right _ (List.mem_append_right _ (List.mem_append_left _ (List.mem_of_getElem? (i := 235) rfl))))
theorem kg_123 : k_get 123 = kr_123 := rfl
theorem km_123 : x_okm k_P 123 := k_m_ok (k_cw kg_123 rfl rfl rfl rfl kcw_123) (is := [134]) (by decide +kernel)
set_option maxRecDepth 100000 in
theorem kcw_124 : Cond.code yX10_readWay cX10_readWay 4 (some .boolean) ∈ lw_tbl := (List.mem_append_right _ (List.mem_append_right _ (List.mem_append_right _ (List.mem_append_left _ (List.mem_of_getElem? (i := 28) rfl)))))
theorem kg_124 : k_get 124 = kr_124 := rfl
theorem km_124 : x_okm k_P 124 := k_m_ok (k_cw kg_124 rfl rfl rfl rfl kcw_124) (is := [134]) (by decide +kernel)
set_option maxRecDepth 100000 in
theorem kcw_125 : Cond.code yX10_readPerson cX10_readPerson 7 (some .boolean) ∈ lw_tbl := (List.mem_append_right _ (List.mem_append_right _ (List.mem_append_right _ (List.mem_append_left _ (List.mem_of_getElem? (i := 45) rfl)))))
theorem kg_125 : k_get 125 = kr_125 := rfl
theorem km_125 : x_okm k_P 125 := k_m_ok (k_cw kg_125 rfl rfl rfl rfl kcw_125) (is := [134]) (by decide +kernel)
set_option maxRecDepth 100000 in
theorem kcw_126 : Cond.code yX10_readHome cX10_readHome 4 (some .int) ∈ lw_tbl := (List.mem_append_right _ (List.mem_append_right _ (List.mem_append_right _ (List.mem_append_left _ (List.mem_of_getElem? (i := 52) rfl)))))
theorem kg_126 : k_get 126 = kr_126 := rfl
theorem km_126 : x_okm k_P 126 := k_m_ok (k_cw kg_126 rfl rfl rfl rfl kcw_126) (is := [134]) (by decide +kernel)
set_option maxRecDepth 100000 in
theorem kcw_127 : Cond.code yX10_readJoined cX10_readJoined 4 (some .boolean) ∈ lw_tbl := (List.mem_append_right _ (List.mem_append_right _ (List.mem_append_right _ (List.mem_append_left _ (List.mem_of_getElem? (i := 65) rfl)))))
theorem kg_127 : k_get 127 = kr_127 := rfl
theorem km_127 : x_okm k_P 127 := k_m_ok (k_cw kg_127 rfl rfl rfl rfl kcw_127) (is := [134]) (by decide +kernel)
set_option maxRecDepth 100000 in
theorem kcw_128 : Cond.code yX10_beginSum cX10_beginSum 2 (some .boolean) ∈ lw_tbl := (List.mem_append_right _ (List.mem_append_right _ (List.mem_append_right _ (List.mem_append_left _ (List.mem_of_getElem? (i := 81) rfl)))))
theorem kg_128 : k_get 128 = kr_128 := rfl
theorem km_128 : x_okm k_P 128 := k_m_ok (k_cw kg_128 rfl rfl rfl rfl kcw_128) (is := [134]) (by decide +kernel)
set_option maxRecDepth 100000 in
theorem kcw_129 : Cond.code yX10_readBreaks cX10_readBreaks 2 (some .boolean) ∈ lw_tbl := (List.mem_append_right _ (List.mem_append_right _ (List.mem_append_right _ (List.mem_append_left _ (List.mem_of_getElem? (i := 174) rfl)))))
theorem kg_129 : k_get 129 = kr_129 := rfl
theorem km_129 : x_okm k_P 129 := k_m_ok (k_cw kg_129 rfl rfl rfl rfl kcw_129) (is := [134]) (by decide +kernel)
set_option maxRecDepth 100000 in
theorem kcw_130 : Cond.code yX10_readCarpenter cX10_readCarpenter 3 (some .boolean) ∈ lw_tbl := (List.mem_append_right _ (List.mem_append_right _ (List.mem_append_right _ (List.mem_append_left _ (List.mem_of_getElem? (i := 179) rfl)))))
theorem kg_130 : k_get 130 = kr_130 := rfl
theorem km_130 : x_okm k_P 130 := k_m_ok (k_cw kg_130 rfl rfl rfl rfl kcw_130) (is := [134]) (by decide +kernel)
set_option maxRecDepth 100000 in
theorem kcw_131 : Cond.code yX10_readNumber cX10_readNumber 4 (some .boolean) ∈ lw_tbl := (List.mem_append_right _ (List.mem_append_right _ (List.mem_append_right _ (List.mem_append_left _ (List.mem_of_getElem? (i := 15) rfl)))))
theorem kg_131 : k_get 131 = kr_131 := rfl
theorem km_131 : x_okm k_P 131 := k_m_ok (k_cw kg_131 rfl rfl rfl rfl kcw_131) (is := [134]) (by decide +kernel)
set_option maxRecDepth 100000 in
theorem kcw_132 : Cond.code yX10_freshName cX10_freshName 2 (some .int) ∈ lw_tbl := (List.mem_append_right _ (List.mem_append_right _ (List.mem_append_left _ (List.mem_of_getElem? (i := 239) rfl))))
theorem kg_132 : k_get 132 = kr_132 := rfl
theorem km_132 : x_okm k_P 132 := k_m_ok (k_cw kg_132 rfl rfl rfl rfl kcw_132) (is := [134]) (by decide +kernel)
set_option maxRecDepth 100000 in
theorem kcw_133 : Cond.code yX10_knownRoom cX10_knownRoom 3 (some .int) ∈ lw_tbl := (List.mem_append_right _ (List.mem_append_right _ (List.mem_append_right _ (List.mem_append_left _ (List.mem_of_getElem? (i := 32) rfl)))))
theorem kg_133 : k_get 133 = kr_133 := rfl
theorem km_133 : x_okm k_P 133 := k_m_ok (k_cw kg_133 rfl rfl rfl rfl kcw_133) (is := [134]) (by decide +kernel)
set_option maxRecDepth 100000 in
theorem kcw_134 : Cond.code yX10_unjoinedPerson cX10_unjoinedPerson 4 (some .int) ∈ lw_tbl := (List.mem_append_right _ (List.mem_append_right _ (List.mem_append_right _ (List.mem_append_left _ (List.mem_of_getElem? (i := 69) rfl)))))
theorem kg_134 : k_get 134 = kr_134 := rfl
theorem km_134 : x_okm k_P 134 := k_m_ok (k_cw kg_134 rfl rfl rfl rfl kcw_134) (is := [134]) (by decide +kernel)
set_option maxRecDepth 100000 in
theorem kcw_135 : Cond.code yX11_init cX11_init 1 none ∈ lw_tbl := (List.mem_append_right _ (List.mem_append_left _ (List.mem_of_getElem? (i := 22) rfl)))
theorem kg_135 : k_get 135 = kr_135 := rfl
theorem km_135 : x_okm k_P 135 := k_m_ok (k_cw kg_135 rfl rfl rfl rfl kcw_135) (is := [132]) (by decide +kernel)
set_option maxRecDepth 100000 in
theorem kcw_136 : Cond.code yX11_feed cX11_feed 6 (some .int) ∈ lw_tbl := (List.mem_append_right _ (List.mem_append_right _ (List.mem_append_left _ (List.mem_of_getElem? (i := 156) rfl))))
theorem kg_136 : k_get 136 = kr_136 := rfl
theorem km_136 : x_okm k_P 136 := k_m_ok (k_cw kg_136 rfl rfl rfl rfl kcw_136) (is := [132]) (by decide +kernel)
set_option maxRecDepth 100000 in
theorem kcw_137 : Cond.code yX11_end cX11_end 2 (some .boolean) ∈ lw_tbl := (List.mem_append_right _ (List.mem_append_right _ (List.mem_append_left _ (List.mem_of_getElem? (i := 168) rfl))))
theorem kg_137 : k_get 137 = kr_137 := rfl
theorem km_137 : x_okm k_P 137 := k_m_ok (k_cw kg_137 rfl rfl rfl rfl kcw_137) (is := [132]) (by decide +kernel)
set_option maxRecDepth 100000 in
theorem kcw_138 : Cond.code yX11_town cX11_town 2 (some .int) ∈ lw_tbl := (List.mem_append_right _ (List.mem_append_right _ (List.mem_append_left _ (List.mem_of_getElem? (i := 172) rfl))))
theorem kg_138 : k_get 138 = kr_138 := rfl
theorem km_138 : x_okm k_P 138 := k_m_ok (k_cw kg_138 rfl rfl rfl rfl kcw_138) (is := [132]) (by decide +kernel)
set_option maxRecDepth 100000 in
theorem kcw_139 : Cond.code yX11_fault cX11_fault 2 (some .int) ∈ lw_tbl := (List.mem_append_right _ (List.mem_append_right _ (List.mem_append_right _ (List.mem_append_left _ (List.mem_of_getElem? (i := 189) rfl)))))
theorem kg_139 : k_get 139 = kr_139 := rfl
theorem km_139 : x_okm k_P 139 := k_m_ok (k_cw kg_139 rfl rfl rfl rfl kcw_139) (is := [132]) (by decide +kernel)
set_option maxRecDepth 100000 in
theorem kcw_140 : Cond.code yX11_has cX11_has 2 (some .int) ∈ lw_tbl := (List.mem_append_right _ (List.mem_append_right _ (List.mem_append_right _ (List.mem_append_left _ (List.mem_of_getElem? (i := 193) rfl)))))
theorem kg_140 : k_get 140 = kr_140 := rfl
theorem km_140 : x_okm k_P 140 := k_m_ok (k_cw kg_140 rfl rfl rfl rfl kcw_140) (is := [132]) (by decide +kernel)
set_option maxRecDepth 100000 in
theorem kcw_141 : Cond.code yX11_letter cX11_letter 4 (some .int) ∈ lw_tbl := (List.mem_append_right _ (List.mem_append_right _ (List.mem_append_right _ (List.mem_append_right _ (List.mem_append_left _ (List.mem_of_getElem? (i := 9) rfl))))))
theorem kg_141 : k_get 141 = kr_141 := rfl
theorem km_141 : x_okm k_P 141 := k_m_ok (k_cw kg_141 rfl rfl rfl rfl kcw_141) (is := [132]) (by decide +kernel)
set_option maxRecDepth 100000 in
theorem kcw_142 : Cond.code yX11_room cX11_room 3 (some .int) ∈ lw_tbl := (List.mem_append_right _ (List.mem_append_right _ (List.mem_append_right _ (List.mem_append_right _ (List.mem_append_left _ (List.mem_of_getElem? (i := 18) rfl))))))
theorem kg_142 : k_get 142 = kr_142 := rfl
theorem km_142 : x_okm k_P 142 := k_m_ok (k_cw kg_142 rfl rfl rfl rfl kcw_142) (is := [132]) (by decide +kernel)
set_option maxRecDepth 100000 in
theorem kcw_143 : Cond.code yX11_way cX11_way 4 (some .int) ∈ lw_tbl := (List.mem_append_right _ (List.mem_append_right _ (List.mem_append_right _ (List.mem_append_right _ (List.mem_append_left _ (List.mem_of_getElem? (i := 38) rfl))))))
theorem kg_143 : k_get 143 = kr_143 := rfl
theorem km_143 : x_okm k_P 143 := k_m_ok (k_cw kg_143 rfl rfl rfl rfl kcw_143) (is := [132]) (by decide +kernel)
set_option maxRecDepth 100000 in
theorem kcw_144 : Cond.code yX11_person cX11_person 3 (some .int) ∈ lw_tbl := (List.mem_append_right _ (List.mem_append_right _ (List.mem_append_right _ (List.mem_append_right _ (List.mem_append_left _ (List.mem_of_getElem? (i := 46) rfl))))))
theorem kg_144 : k_get 144 = kr_144 := rfl
theorem km_144 : x_okm k_P 144 := k_m_ok (k_cw kg_144 rfl rfl rfl rfl kcw_144) (is := [132]) (by decide +kernel)
set_option maxRecDepth 100000 in
theorem kcw_145 : Cond.code yX11_fits cX11_fits 3 (some .int) ∈ lw_tbl := (List.mem_append_right _ (List.mem_append_right _ (List.mem_append_right _ (List.mem_append_right _ (List.mem_append_left _ (List.mem_of_getElem? (i := 60) rfl))))))
theorem kg_145 : k_get 145 = kr_145 := rfl
theorem km_145 : x_okm k_P 145 := k_m_ok (k_cw kg_145 rfl rfl rfl rfl kcw_145) (is := [132]) (by decide +kernel)
set_option maxRecDepth 100000 in
theorem kcw_146 : Cond.code yX11_takes cX11_takes 4 (some .int) ∈ lw_tbl := (List.mem_append_right _ (List.mem_append_right _ (List.mem_append_right _ (List.mem_append_right _ (List.mem_append_left _ (List.mem_of_getElem? (i := 71) rfl))))))
theorem kg_146 : k_get 146 = kr_146 := rfl
theorem km_146 : x_okm k_P 146 := k_m_ok (k_cw kg_146 rfl rfl rfl rfl kcw_146) (is := [132]) (by decide +kernel)
set_option maxRecDepth 100000 in
theorem kcw_147 : Cond.code yX11_go cX11_go 5 (some .int) ∈ lw_tbl := (List.mem_append_right _ (List.mem_append_right _ (List.mem_append_right _ (List.mem_append_right _ (List.mem_append_left _ (List.mem_of_getElem? (i := 122) rfl))))))
theorem kg_147 : k_get 147 = kr_147 := rfl
theorem km_147 : x_okm k_P 147 := k_m_ok (k_cw kg_147 rfl rfl rfl rfl kcw_147) (is := [132]) (by decide +kernel)
set_option maxRecDepth 100000 in
theorem kcw_148 : Cond.code yX11_stay cX11_stay 3 (some .int) ∈ lw_tbl := (List.mem_append_right _ (List.mem_append_right _ (List.mem_append_right _ (List.mem_append_right _ (List.mem_append_left _ (List.mem_of_getElem? (i := 163) rfl))))))
theorem kg_148 : k_get 148 = kr_148 := rfl
theorem km_148 : x_okm k_P 148 := k_m_ok (k_cw kg_148 rfl rfl rfl rfl kcw_148) (is := [132]) (by decide +kernel)
set_option maxRecDepth 100000 in
theorem kcw_149 : Cond.code yX11_mend cX11_mend 3 (some .boolean) ∈ lw_tbl := (List.mem_append_right _ (List.mem_append_right _ (List.mem_append_right _ (List.mem_append_right _ (List.mem_append_left _ (List.mem_of_getElem? (i := 171) rfl))))))
theorem kg_149 : k_get 149 = kr_149 := rfl
theorem km_149 : x_okm k_P 149 := k_m_ok (k_cw kg_149 rfl rfl rfl rfl kcw_149) (is := [132]) (by decide +kernel)
set_option maxRecDepth 100000 in
theorem kcw_150 : Cond.code yX11_days cX11_days 5 (some .int) ∈ lw_tbl := (List.mem_append_right _ (List.mem_append_right _ (List.mem_append_right _ (List.mem_append_right _ (List.mem_append_left _ (List.mem_of_getElem? (i := 183) rfl))))))
theorem kg_150 : k_get 150 = kr_150 := rfl
theorem km_150 : x_okm k_P 150 := k_m_ok (k_cw kg_150 rfl rfl rfl rfl kcw_150) (is := [132]) (by decide +kernel)
set_option maxRecDepth 100000 in
theorem kcw_151 : Cond.code yX11_undo cX11_undo 1 (some .boolean) ∈ lw_tbl := (List.mem_append_right _ (List.mem_append_right _ (List.mem_append_right _ (List.mem_append_right _ (List.mem_append_left _ (List.mem_of_getElem? (i := 201) rfl))))))
theorem kg_151 : k_get 151 = kr_151 := rfl
theorem km_151 : x_okm k_P 151 := k_m_ok (k_cw kg_151 rfl rfl rfl rfl kcw_151) (is := [132]) (by decide +kernel)
set_option maxRecDepth 100000 in
theorem kcw_152 : Cond.code yX11_seed cX11_seed 2 (some .boolean) ∈ lw_tbl := (List.mem_append_right _ (List.mem_append_right _ (List.mem_append_right _ (List.mem_append_right _ (List.mem_append_left _ (List.mem_of_getElem? (i := 210) rfl))))))
theorem kg_152 : k_get 152 = kr_152 := rfl
theorem km_152 : x_okm k_P 152 := k_m_ok (k_cw kg_152 rfl rfl rfl rfl kcw_152) (is := [132]) (by decide +kernel)
set_option maxRecDepth 100000 in
theorem kcw_153 : Cond.code yX11_kept cX11_kept 3 (some .int) ∈ lw_tbl := (List.mem_append_right _ (List.mem_append_right _ (List.mem_append_right _ (List.mem_append_right _ (List.mem_append_left _ (List.mem_of_getElem? (i := 214) rfl))))))
theorem kg_153 : k_get 153 = kr_153 := rfl
theorem km_153 : x_okm k_P 153 := k_m_ok (k_cw kg_153 rfl rfl rfl rfl kcw_153) (is := [132]) (by decide +kernel)
set_option maxRecDepth 100000 in
theorem kcw_154 : Cond.code yX11_route cX11_route 5 (some .int) ∈ lw_tbl := (List.mem_append_right _ (List.mem_append_right _ (List.mem_append_right _ (List.mem_append_right _ (List.mem_append_left _ (List.mem_of_getElem? (i := 222) rfl))))))
theorem kg_154 : k_get 154 = kr_154 := rfl
theorem km_154 : x_okm k_P 154 := k_m_ok (k_cw kg_154 rfl rfl rfl rfl kcw_154) (is := [132]) (by decide +kernel)
set_option maxRecDepth 100000 in
theorem kcw_155 : Cond.code yX11_bearer cX11_bearer 4 (some .int) ∈ lw_tbl := (List.mem_append_right _ (List.mem_append_right _ (List.mem_append_right _ (List.mem_append_right _ (List.mem_append_right _ (List.mem_append_left _ (List.mem_of_getElem? (i := 20) rfl)))))))
theorem kg_155 : k_get 155 = kr_155 := rfl
theorem km_155 : x_okm k_P 155 := k_m_ok (k_cw kg_155 rfl rfl rfl rfl kcw_155) (is := [132]) (by decide +kernel)
set_option maxRecDepth 100000 in
theorem kcw_156 : Cond.code yX11_errand cX11_errand 4 (some .int) ∈ lw_tbl := (List.mem_append_right _ (List.mem_append_right _ (List.mem_append_right _ (List.mem_append_right _ (List.mem_append_right _ (List.mem_append_left _ (List.mem_of_getElem? (i := 32) rfl)))))))
theorem kg_156 : k_get 156 = kr_156 := rfl
theorem km_156 : x_okm k_P 156 := k_m_ok (k_cw kg_156 rfl rfl rfl rfl kcw_156) (is := [132]) (by decide +kernel)
set_option maxRecDepth 100000 in
theorem kcw_157 : Cond.code yX11_along cX11_along 2 (some .int) ∈ lw_tbl := (List.mem_append_right _ (List.mem_append_right _ (List.mem_append_right _ (List.mem_append_right _ (List.mem_append_right _ (List.mem_append_left _ (List.mem_of_getElem? (i := 74) rfl)))))))
theorem kg_157 : k_get 157 = kr_157 := rfl
theorem km_157 : x_okm k_P 157 := k_m_ok (k_cw kg_157 rfl rfl rfl rfl kcw_157) (is := [132]) (by decide +kernel)
set_option maxRecDepth 100000 in
theorem kcw_158 : Cond.code yX11_seated cX11_seated 3 (some .int) ∈ lw_tbl := (List.mem_append_right _ (List.mem_append_right _ (List.mem_append_right _ (List.mem_append_right _ (List.mem_append_right _ (List.mem_append_left _ (List.mem_of_getElem? (i := 78) rfl)))))))
theorem kg_158 : k_get 158 = kr_158 := rfl
theorem km_158 : x_okm k_P 158 := k_m_ok (k_cw kg_158 rfl rfl rfl rfl kcw_158) (is := [132]) (by decide +kernel)
set_option maxRecDepth 100000 in
theorem kcw_159 : Cond.code yX11_standing cX11_standing 3 (some .int) ∈ lw_tbl := (List.mem_append_right _ (List.mem_append_right _ (List.mem_append_right _ (List.mem_append_right _ (List.mem_append_right _ (List.mem_append_left _ (List.mem_of_getElem? (i := 99) rfl)))))))
theorem kg_159 : k_get 159 = kr_159 := rfl
theorem km_159 : x_okm k_P 159 := k_m_ok (k_cw kg_159 rfl rfl rfl rfl kcw_159) (is := [132]) (by decide +kernel)
set_option maxRecDepth 100000 in
theorem kcw_160 : Cond.code yX11_where cX11_where 3 (some .int) ∈ lw_tbl := (List.mem_append_right _ (List.mem_append_right _ (List.mem_append_right _ (List.mem_append_right _ (List.mem_append_right _ (List.mem_append_left _ (List.mem_of_getElem? (i := 136) rfl)))))))
theorem kg_160 : k_get 160 = kr_160 := rfl
theorem km_160 : x_okm k_P 160 := k_m_ok (k_cw kg_160 rfl rfl rfl rfl kcw_160) (is := [132]) (by decide +kernel)
set_option maxRecDepth 100000 in
theorem kcw_161 : Cond.code yX11_image cX11_image 1 (some .int) ∈ lw_tbl := (List.mem_append_right _ (List.mem_append_right _ (List.mem_append_right _ (List.mem_append_right _ (List.mem_append_right _ (List.mem_append_left _ (List.mem_of_getElem? (i := 140) rfl)))))))
theorem kg_161 : k_get 161 = kr_161 := rfl
theorem km_161 : x_okm k_P 161 := k_m_ok (k_cw kg_161 rfl rfl rfl rfl kcw_161) (is := [132]) (by decide +kernel)
set_option maxRecDepth 100000 in
theorem kcw_162 : Cond.code yX11_octet cX11_octet 2 (some .int) ∈ lw_tbl := (List.mem_append_right _ (List.mem_append_right _ (List.mem_append_right _ (List.mem_append_right _ (List.mem_append_right _ (List.mem_append_left _ (List.mem_of_getElem? (i := 152) rfl)))))))
theorem kg_162 : k_get 162 = kr_162 := rfl
theorem km_162 : x_okm k_P 162 := k_m_ok (k_cw kg_162 rfl rfl rfl rfl kcw_162) (is := [132]) (by decide +kernel)
set_option maxRecDepth 100000 in
theorem kcw_163 : Cond.code yX11_on cX11_on 2 (some .boolean) ∈ lw_tbl := (List.mem_append_right _ (List.mem_append_right _ (List.mem_append_right _ (List.mem_append_right _ (List.mem_append_right _ (List.mem_append_left _ (List.mem_of_getElem? (i := 156) rfl)))))))
theorem kg_163 : k_get 163 = kr_163 := rfl
theorem km_163 : x_okm k_P 163 := k_m_ok (k_cw kg_163 rfl rfl rfl rfl kcw_163) (is := [132]) (by decide +kernel)
set_option maxRecDepth 100000 in
theorem kcw_164 : Cond.code yX11_status cX11_status 2 (some .int) ∈ lw_tbl := (List.mem_append_right _ (List.mem_append_right _ (List.mem_append_right _ (List.mem_append_right _ (List.mem_append_right _ (List.mem_append_left _ (List.mem_of_getElem? (i := 175) rfl)))))))
theorem kg_164 : k_get 164 = kr_164 := rfl
theorem km_164 : x_okm k_P 164 := k_m_ok (k_cw kg_164 rfl rfl rfl rfl kcw_164) (is := [132]) (by decide +kernel)
set_option maxRecDepth 100000 in
theorem kcw_165 : Cond.code yX11_refuse cX11_refuse 2 (some .int) ∈ lw_tbl := (List.mem_append_right _ (List.mem_append_right _ (List.mem_append_left _ (List.mem_of_getElem? (i := 160) rfl))))
theorem kg_165 : k_get 165 = kr_165 := rfl
theorem km_165 : x_okm k_P 165 := k_m_ok (k_cw kg_165 rfl rfl rfl rfl kcw_165) (is := [132]) (by decide +kernel)
set_option maxRecDepth 100000 in
theorem kcw_166 : Cond.code yX11_letterOf cX11_letterOf 2 (some .int) ∈ lw_tbl := (List.mem_append_right _ (List.mem_append_right _ (List.mem_append_right _ (List.mem_append_right _ (List.mem_append_left _ (List.mem_of_getElem? (i := 13) rfl))))))
theorem kg_166 : k_get 166 = kr_166 := rfl
theorem km_166 : x_okm k_P 166 := k_m_ok (k_cw kg_166 rfl rfl rfl rfl kcw_166) (is := [132]) (by decide +kernel)
set_option maxRecDepth 100000 in
theorem kcw_167 : Cond.code yX11_canTravel cX11_canTravel 3 (some .boolean) ∈ lw_tbl := (List.mem_append_right _ (List.mem_append_right _ (List.mem_append_right _ (List.mem_append_right _ (List.mem_append_left _ (List.mem_of_getElem? (i := 226) rfl))))))
theorem kg_167 : k_get 167 = kr_167 := rfl
theorem km_167 : x_okm k_P 167 := k_m_ok (k_cw kg_167 rfl rfl rfl rfl kcw_167) (is := [132]) (by decide +kernel)
set_option maxRecDepth 100000 in
theorem kcw_168 : Cond.code yX11_chanceOf cX11_chanceOf 2 (some .int) ∈ lw_tbl := (List.mem_append_right _ (List.mem_append_right _ (List.mem_append_right _ (List.mem_append_right _ (List.mem_append_left _ (List.mem_of_getElem? (i := 152) rfl))))))
theorem kg_168 : k_get 168 = kr_168 := rfl
theorem km_168 : x_okm k_P 168 := k_m_ok (k_cw kg_168 rfl rfl rfl rfl kcw_168) (is := [132]) (by decide +kernel)
set_option maxRecDepth 100000 in
theorem kcw_169 : Cond.code yX11_move cX11_move 5 none ∈ lw_tbl := (List.mem_append_right _ (List.mem_append_right _ (List.mem_append_right _ (List.mem_append_right _ (List.mem_append_left _ (List.mem_of_getElem? (i := 132) rfl))))))
theorem kg_169 : k_get 169 = kr_169 := rfl
theorem km_169 : x_okm k_P 169 := k_m_ok (k_cw kg_169 rfl rfl rfl rfl kcw_169) (is := [132]) (by decide +kernel)
set_option maxRecDepth 100000 in
theorem kcw_170 : Cond.code yX11_liveDay cX11_liveDay 7 (some .int) ∈ lw_tbl := (List.mem_append_right _ (List.mem_append_right _ (List.mem_append_right _ (List.mem_append_right _ (List.mem_append_left _ (List.mem_of_getElem? (i := 187) rfl))))))
theorem kg_170 : k_get 170 = kr_170 := rfl
theorem km_170 : x_okm k_P 170 := k_m_ok (k_cw kg_170 rfl rfl rfl rfl kcw_170) (is := [132]) (by decide +kernel)
set_option maxRecDepth 100000 in
theorem kcw_171 : Cond.code yX12_init cX12_init 2 none ∈ lw_tbl := (List.mem_append_right _ (List.mem_append_right _ (List.mem_append_right _ (List.mem_append_right _ (List.mem_append_right _ (List.mem_append_left _ (List.mem_of_getElem? (i := 180) rfl)))))))
theorem kg_171 : k_get 171 = kr_171 := rfl
theorem km_171 : x_okm k_P 171 := k_m_ok (k_cw kg_171 rfl rfl rfl rfl kcw_171) (is := [144]) (by decide +kernel)
set_option maxRecDepth 100000 in
theorem kcw_172 : Cond.code yX12_is cX12_is 3 (some .boolean) ∈ lw_tbl := (List.mem_append_right _ (List.mem_append_right _ (List.mem_append_right _ (List.mem_append_right _ (List.mem_append_right _ (List.mem_append_right _ (List.mem_append_right _ (List.mem_append_left _ (List.mem_of_getElem? (i := 54) rfl)))))))))
theorem kg_172 : k_get 172 = kr_172 := rfl
theorem km_172 : x_okm k_P 172 := k_m_ok (k_cw kg_172 rfl rfl rfl rfl kcw_172) (is := [144]) (by decide +kernel)
set_option maxRecDepth 100000 in
theorem kcw_173 : Cond.code yX12_put cX12_put 3 none ∈ lw_tbl := (List.mem_append_right _ (List.mem_append_right _ (List.mem_append_right _ (List.mem_append_right _ (List.mem_append_right _ (List.mem_append_right _ (List.mem_append_left _ (List.mem_of_getElem? (i := 196) rfl))))))))
theorem kg_173 : k_get 173 = kr_173 := rfl
theorem km_173 : x_okm k_P 173 := k_m_ok (k_cw kg_173 rfl rfl rfl rfl kcw_173) (is := [144]) (by decide +kernel)
set_option maxRecDepth 100000 in
theorem kcw_174 : Cond.code yX12_feed cX12_feed 6 (some .int) ∈ lw_tbl := (List.mem_append_right _ (List.mem_append_right _ (List.mem_append_right _ (List.mem_append_right _ (List.mem_append_right _ (List.mem_append_right _ (List.mem_append_left _ (List.mem_of_getElem? (i := 188) rfl))))))))
theorem kg_174 : k_get 174 = kr_174 := rfl
theorem km_174 : x_okm k_P 174 := k_m_ok (k_cw kg_174 rfl rfl rfl rfl kcw_174) (is := [144]) (by decide +kernel)
set_option maxRecDepth 100000 in
theorem kcw_175 : Cond.code yX12_end cX12_end 2 (some .boolean) ∈ lw_tbl := (List.mem_append_right _ (List.mem_append_right _ (List.mem_append_right _ (List.mem_append_right _ (List.mem_append_right _ (List.mem_append_right _ (List.mem_append_left _ (List.mem_of_getElem? (i := 200) rfl))))))))
theorem kg_175 : k_get 175 = kr_175 := rfl
theorem km_175 : x_okm k_P 175 := k_m_ok (k_cw kg_175 rfl rfl rfl rfl kcw_175) (is := [144]) (by decide +kernel)
set_option maxRecDepth 100000 in
theorem kcw_176 : Cond.code yX12_blame cX12_blame 3 none ∈ lw_tbl := (List.mem_append_right _ (List.mem_append_right _ (List.mem_append_right _ (List.mem_append_right _ (List.mem_append_right _ (List.mem_append_right _ (List.mem_append_right _ (List.mem_append_left _ (List.mem_of_getElem? (i := 15) rfl)))))))))
theorem kg_176 : k_get 176 = kr_176 := rfl
theorem km_176 : x_okm k_P 176 := k_m_ok (k_cw kg_176 rfl rfl rfl rfl kcw_176) (is := [144]) (by decide +kernel)
set_option maxRecDepth 100000 in
theorem kcw_177 : Cond.code yX12_isLetter cX12_isLetter 1 (some .boolean) ∈ lw_tbl := (List.mem_append_right _ (List.mem_append_right _ (List.mem_append_right _ (List.mem_append_right _ (List.mem_append_right _ (List.mem_append_right _ (List.mem_append_left _ (List.mem_of_getElem? (i := 211) rfl))))))))
theorem kg_177 : k_get 177 = kr_177 := rfl
theorem km_177 : x_okm k_P 177 := k_m_ok (k_cw kg_177 rfl rfl rfl rfl kcw_177) (is := [144]) (by decide +kernel)
set_option maxRecDepth 100000 in
theorem kcw_178 : Cond.code yX12_isDigit cX12_isDigit 1 (some .boolean) ∈ lw_tbl := (List.mem_append_right _ (List.mem_append_right _ (List.mem_append_right _ (List.mem_append_right _ (List.mem_append_right _ (List.mem_append_right _ (List.mem_append_left _ (List.mem_of_getElem? (i := 214) rfl))))))))
theorem kg_178 : k_get 178 = kr_178 := rfl
theorem km_178 : x_okm k_P 178 := k_m_ok (k_cw kg_178 rfl rfl rfl rfl kcw_178) (is := [144]) (by decide +kernel)
set_option maxRecDepth 100000 in
theorem kcw_179 : Cond.code yX12_lex cX12_lex 1 none ∈ lw_tbl := (List.mem_append_right _ (List.mem_append_right _ (List.mem_append_right _ (List.mem_append_right _ (List.mem_append_right _ (List.mem_append_right _ (List.mem_append_right _ (List.mem_append_left _ (List.mem_of_getElem? (i := 11) rfl)))))))))
theorem kg_179 : k_get 179 = kr_179 := rfl
theorem km_179 : x_okm k_P 179 := k_m_ok (k_cw kg_179 rfl rfl rfl rfl kcw_179) (is := [144]) (by decide +kernel)
set_option maxRecDepth 100000 in
theorem kcw_180 : Cond.code yX12_ahead cX12_ahead 6 none ∈ lw_tbl := (List.mem_append_right _ (List.mem_append_right _ (List.mem_append_right _ (List.mem_append_right _ (List.mem_append_right _ (List.mem_append_right _ (List.mem_append_left _ (List.mem_of_getElem? (i := 208) rfl))))))))
theorem kg_180 : k_get 180 = kr_180 := rfl
theorem km_180 : x_okm k_P 180 := k_m_ok (k_cw kg_180 rfl rfl rfl rfl kcw_180) (is := [144]) (by decide +kernel)
set_option maxRecDepth 100000 in
theorem kcw_181 : Cond.code yX12_isSign cX12_isSign 2 (some .boolean) ∈ lw_tbl := (List.mem_append_right _ (List.mem_append_right _ (List.mem_append_right _ (List.mem_append_right _ (List.mem_append_right _ (List.mem_append_right _ (List.mem_append_right _ (List.mem_append_left _ (List.mem_of_getElem? (i := 109) rfl)))))))))
theorem kg_181 : k_get 181 = kr_181 := rfl
theorem km_181 : x_okm k_P 181 := k_m_ok (k_cw kg_181 rfl rfl rfl rfl kcw_181) (is := [144]) (by decide +kernel)
set_option maxRecDepth 100000 in
theorem kcw_182 : Cond.code yX12_isWord cX12_isWord 3 (some .boolean) ∈ lw_tbl := (List.mem_append_right _ (List.mem_append_right _ (List.mem_append_right _ (List.mem_append_right _ (List.mem_append_right _ (List.mem_append_right _ (List.mem_append_right _ (List.mem_append_left _ (List.mem_of_getElem? (i := 19) rfl)))))))))
theorem kg_182 : k_get 182 = kr_182 := rfl
theorem km_182 : x_okm k_P 182 := k_m_ok (k_cw kg_182 rfl rfl rfl rfl kcw_182) (is := [144]) (by decide +kernel)
set_option maxRecDepth 100000 in
theorem kcw_183 : Cond.code yX12_must cX12_must 2 none ∈ lw_tbl := (List.mem_append_right _ (List.mem_append_right _ (List.mem_append_right _ (List.mem_append_right _ (List.mem_append_right _ (List.mem_append_right _ (List.mem_append_right _ (List.mem_append_left _ (List.mem_of_getElem? (i := 148) rfl)))))))))
theorem kg_183 : k_get 183 = kr_183 := rfl
theorem km_183 : x_okm k_P 183 := k_m_ok (k_cw kg_183 rfl rfl rfl rfl kcw_183) (is := [144]) (by decide +kernel)
set_option maxRecDepth 100000 in
theorem kcw_184 : Cond.code yX12_isOwn cX12_isOwn 3 (some .boolean) ∈ lw_tbl := (List.mem_append_right _ (List.mem_append_right _ (List.mem_append_right _ (List.mem_append_right _ (List.mem_append_right _ (List.mem_append_right _ (List.mem_append_left _ (List.mem_of_getElem? (i := 219) rfl))))))))
theorem kg_184 : k_get 184 = kr_184 := rfl
theorem km_184 : x_okm k_P 184 := k_m_ok (k_cw kg_184 rfl rfl rfl rfl kcw_184) (is := [144]) (by decide +kernel)
set_option maxRecDepth 100000 in
theorem kcw_185 : Cond.code yX12_manyOf cX12_manyOf 3 (some .int) ∈ lw_tbl := (List.mem_append_right _ (List.mem_append_right _ (List.mem_append_right _ (List.mem_append_right _ (List.mem_append_right _ (List.mem_append_right _ (List.mem_append_right _ (List.mem_append_left _ (List.mem_of_getElem? (i := 39) rfl)))))))))
theorem kg_185 : k_get 185 = kr_185 := rfl
theorem km_185 : x_okm k_P 185 := k_m_ok (k_cw kg_185 rfl rfl rfl rfl kcw_185) (is := [144]) (by decide +kernel)
set_option maxRecDepth 100000 in
theorem kcw_186 : Cond.code yX12_nameOf cX12_nameOf 4 (some .long) ∈ lw_tbl := (List.mem_append_right _ (List.mem_append_right _ (List.mem_append_right _ (List.mem_append_right _ (List.mem_append_right _ (List.mem_append_right _ (List.mem_append_right _ (List.mem_append_left _ (List.mem_of_getElem? (i := 43) rfl)))))))))
theorem kg_186 : k_get 186 = kr_186 := rfl
theorem km_186 : x_okm k_P 186 := k_m_ok (k_cw kg_186 rfl rfl rfl rfl kcw_186) (is := [144]) (by decide +kernel)
set_option maxRecDepth 100000 in
theorem kcw_187 : Cond.code yX12_named cX12_named 5 (some .int) ∈ lw_tbl := (List.mem_append_right _ (List.mem_append_right _ (List.mem_append_right _ (List.mem_append_right _ (List.mem_append_right _ (List.mem_append_right _ (List.mem_append_right _ (List.mem_append_left _ (List.mem_of_getElem? (i := 35) rfl)))))))))
theorem kg_187 : k_get 187 = kr_187 := rfl
theorem km_187 : x_okm k_P 187 := k_m_ok (k_cw kg_187 rfl rfl rfl rfl kcw_187) (is := [144]) (by decide +kernel)
set_option maxRecDepth 100000 in
theorem kcw_188 : Cond.code yX12_number cX12_number 4 (some .int) ∈ lw_tbl := (List.mem_append_right _ (List.mem_append_right _ (List.mem_append_right _ (List.mem_append_right _ (List.mem_append_right _ (List.mem_append_right _ (List.mem_append_right _ (List.mem_append_left _ (List.mem_of_getElem? (i := 51) rfl)))))))))
theorem kg_188 : k_get 188 = kr_188 := rfl
theorem km_188 : x_okm k_P 188 := k_m_ok (k_cw kg_188 rfl rfl rfl rfl kcw_188) (is := [144]) (by decide +kernel)
set_option maxRecDepth 100000 in
theorem kcw_189 : Cond.code yX12_add cX12_add 3 none ∈ lw_tbl := (List.mem_append_right _ (List.mem_append_right _ (List.mem_append_right _ (List.mem_append_right _ (List.mem_append_right _ (List.mem_append_right _ (List.mem_append_right _ (List.mem_append_left _ (List.mem_of_getElem? (i := 117) rfl)))))))))
theorem kg_189 : k_get 189 = kr_189 := rfl
theorem km_189 : x_okm k_P 189 := k_m_ok (k_cw kg_189 rfl rfl rfl rfl kcw_189) (is := [144]) (by decide +kernel)
set_option maxRecDepth 100000 in
theorem kcw_190 : Cond.code yX12_rank cX12_rank 1 (some .int) ∈ lw_tbl := (List.mem_append_right _ (List.mem_append_right _ (List.mem_append_right _ (List.mem_append_right _ (List.mem_append_right _ (List.mem_append_right _ (List.mem_append_right _ (List.mem_append_left _ (List.mem_of_getElem? (i := 128) rfl)))))))))
theorem kg_190 : k_get 190 = kr_190 := rfl
theorem km_190 : x_okm k_P 190 := k_m_ok (k_cw kg_190 rfl rfl rfl rfl kcw_190) (is := [144]) (by decide +kernel)
set_option maxRecDepth 100000 in
theorem kcw_191 : Cond.code yX12_joins cX12_joins 2 none ∈ lw_tbl := (List.mem_append_right _ (List.mem_append_right _ (List.mem_append_right _ (List.mem_append_right _ (List.mem_append_right _ (List.mem_append_right _ (List.mem_append_right _ (List.mem_append_left _ (List.mem_of_getElem? (i := 125) rfl)))))))))
theorem kg_191 : k_get 191 = kr_191 := rfl
theorem km_191 : x_okm k_P 191 := k_m_ok (k_cw kg_191 rfl rfl rfl rfl kcw_191) (is := [144]) (by decide +kernel)
set_option maxRecDepth 100000 in
theorem kcw_192 : Cond.code yX12_holdsBack cX12_holdsBack 2 none ∈ lw_tbl := (List.mem_append_right _ (List.mem_append_right _ (List.mem_append_right _ (List.mem_append_right _ (List.mem_append_right _ (List.mem_append_right _ (List.mem_append_right _ (List.mem_append_left _ (List.mem_of_getElem? (i := 105) rfl)))))))))
theorem kg_192 : k_get 192 = kr_192 := rfl
theorem km_192 : x_okm k_P 192 := k_m_ok (k_cw kg_192 rfl rfl rfl rfl kcw_192) (is := [144]) (by decide +kernel)
set_option maxRecDepth 100000 in
theorem kcw_193 : Cond.code yX12_pushes cX12_pushes 2 none ∈ lw_tbl := (List.mem_append_right _ (List.mem_append_right _ (List.mem_append_right _ (List.mem_append_right _ (List.mem_append_right _ (List.mem_append_right _ (List.mem_append_right _ (List.mem_append_left _ (List.mem_of_getElem? (i := 94) rfl)))))))))
theorem kg_193 : k_get 193 = kr_193 := rfl
theorem km_193 : x_okm k_P 193 := k_m_ok (k_cw kg_193 rfl rfl rfl rfl kcw_193) (is := [144]) (by decide +kernel)
set_option maxRecDepth 100000 in
theorem kcw_194 : Cond.code yX12_opens cX12_opens 2 none ∈ lw_tbl := (List.mem_append_right _ (List.mem_append_right _ (List.mem_append_right _ (List.mem_append_right _ (List.mem_append_right _ (List.mem_append_right _ (List.mem_append_right _ (List.mem_append_left _ (List.mem_of_getElem? (i := 113) rfl)))))))))
theorem kg_194 : k_get 194 = kr_194 := rfl
theorem km_194 : x_okm k_P 194 := k_m_ok (k_cw kg_194 rfl rfl rfl rfl kcw_194) (is := [144]) (by decide +kernel)
set_option maxRecDepth 100000 in
theorem kcw_195 : Cond.code yX12_isTest cX12_isTest 1 (some .boolean) ∈ lw_tbl := (List.mem_append_right _ (List.mem_append_right _ (List.mem_append_right _ (List.mem_append_right _ (List.mem_append_right _ (List.mem_append_right _ (List.mem_append_right _ (List.mem_append_left _ (List.mem_of_getElem? (i := 101) rfl)))))))))
theorem kg_195 : k_get 195 = kr_195 := rfl
theorem km_195 : x_okm k_P 195 := k_m_ok (k_cw kg_195 rfl rfl rfl rfl kcw_195) (is := [144]) (by decide +kernel)
set_option maxRecDepth 100000 in
theorem kcw_196 : Cond.code yX12_operand cX12_operand 4 (some .boolean) ∈ lw_tbl := (List.mem_append_right _ (List.mem_append_right _ (List.mem_append_right _ (List.mem_append_right _ (List.mem_append_right _ (List.mem_append_right _ (List.mem_append_right _ (List.mem_append_left _ (List.mem_of_getElem? (i := 98) rfl)))))))))
theorem kg_196 : k_get 196 = kr_196 := rfl
theorem km_196 : x_okm k_P 196 := k_m_ok (k_cw kg_196 rfl rfl rfl rfl kcw_196) (is := [144]) (by decide +kernel)
set_option maxRecDepth 100000 in
theorem kcw_197 : Cond.code yX12_goesOn cX12_goesOn 5 (some .boolean) ∈ lw_tbl := (List.mem_append_right _ (List.mem_append_right _ (List.mem_append_right _ (List.mem_append_right _ (List.mem_append_right _ (List.mem_append_right _ (List.mem_append_right _ (List.mem_append_left _ (List.mem_of_getElem? (i := 121) rfl)))))))))
theorem kg_197 : k_get 197 = kr_197 := rfl
theorem km_197 : x_okm k_P 197 := k_m_ok (k_cw kg_197 rfl rfl rfl rfl kcw_197) (is := [144]) (by decide +kernel)
set_option maxRecDepth 100000 in
theorem kcw_198 : Cond.code yX12_reads cX12_reads 3 none ∈ lw_tbl := (List.mem_append_right _ (List.mem_append_right _ (List.mem_append_right _ (List.mem_append_right _ (List.mem_append_right _ (List.mem_append_right _ (List.mem_append_right _ (List.mem_append_left _ (List.mem_of_getElem? (i := 90) rfl)))))))))
theorem kg_198 : k_get 198 = kr_198 := rfl
theorem km_198 : x_okm k_P 198 := k_m_ok (k_cw kg_198 rfl rfl rfl rfl kcw_198) (is := [144]) (by decide +kernel)
set_option maxRecDepth 100000 in
theorem kcw_199 : Cond.code yX12_counts cX12_counts 2 (some .boolean) ∈ lw_tbl := (List.mem_append_right _ (List.mem_append_right _ (List.mem_append_right _ (List.mem_append_right _ (List.mem_append_right _ (List.mem_append_right _ (List.mem_append_right _ (List.mem_append_left _ (List.mem_of_getElem? (i := 27) rfl)))))))))
theorem kg_199 : k_get 199 = kr_199 := rfl
theorem km_199 : x_okm k_P 199 := k_m_ok (k_cw kg_199 rfl rfl rfl rfl kcw_199) (is := [144]) (by decide +kernel)
set_option maxRecDepth 100000 in
theorem kcw_200 : Cond.code yX12_must_ cX12_must_ 3 none ∈ lw_tbl := (List.mem_append_right _ (List.mem_append_right _ (List.mem_append_right _ (List.mem_append_right _ (List.mem_append_right _ (List.mem_append_right _ (List.mem_append_right _ (List.mem_append_left _ (List.mem_of_getElem? (i := 47) rfl)))))))))
theorem kg_200 : k_get 200 = kr_200 := rfl
theorem km_200 : x_okm k_P 200 := k_m_ok (k_cw kg_200 rfl rfl rfl rfl kcw_200) (is := [144]) (by decide +kernel)
set_option maxRecDepth 100000 in
theorem kcw_201 : Cond.code yX12_fresh cX12_fresh 3 (some .long) ∈ lw_tbl := (List.mem_append_right _ (List.mem_append_right _ (List.mem_append_right _ (List.mem_append_right _ (List.mem_append_right _ (List.mem_append_right _ (List.mem_append_right _ (List.mem_append_left _ (List.mem_of_getElem? (i := 31) rfl)))))))))
theorem kg_201 : k_get 201 = kr_201 := rfl
theorem km_201 : x_okm k_P 201 := k_m_ok (k_cw kg_201 rfl rfl rfl rfl kcw_201) (is := [144]) (by decide +kernel)
set_option maxRecDepth 100000 in
theorem kcw_202 : Cond.code yX12_looked cX12_looked 3 (some .int) ∈ lw_tbl := (List.mem_append_right _ (List.mem_append_right _ (List.mem_append_right _ (List.mem_append_right _ (List.mem_append_right _ (List.mem_append_right _ (List.mem_append_right _ (List.mem_append_left _ (List.mem_of_getElem? (i := 66) rfl)))))))))
theorem kg_202 : k_get 202 = kr_202 := rfl
theorem km_202 : x_okm k_P 202 := k_m_ok (k_cw kg_202 rfl rfl rfl rfl kcw_202) (is := [144]) (by decide +kernel)
set_option maxRecDepth 100000 in
theorem kcw_203 : Cond.code yX12_asked cX12_asked 3 (some .int) ∈ lw_tbl := (List.mem_append_right _ (List.mem_append_right _ (List.mem_append_right _ (List.mem_append_right _ (List.mem_append_right _ (List.mem_append_right _ (List.mem_append_right _ (List.mem_append_left _ (List.mem_of_getElem? (i := 62) rfl)))))))))
theorem kg_203 : k_get 203 = kr_203 := rfl
theorem km_203 : x_okm k_P 203 := k_m_ok (k_cw kg_203 rfl rfl rfl rfl kcw_203) (is := [144]) (by decide +kernel)
set_option maxRecDepth 100000 in
theorem kcw_204 : Cond.code yX12_rooming cX12_rooming 3 none ∈ lw_tbl := (List.mem_append_right _ (List.mem_append_right _ (List.mem_append_right _ (List.mem_append_right _ (List.mem_append_right _ (List.mem_append_right _ (List.mem_append_right _ (List.mem_append_left _ (List.mem_of_getElem? (i := 23) rfl)))))))))
theorem kg_204 : k_get 204 = kr_204 := rfl
theorem km_204 : x_okm k_P 204 := k_m_ok (k_cw kg_204 rfl rfl rfl rfl kcw_204) (is := [144]) (by decide +kernel)
set_option maxRecDepth 100000 in
theorem kcw_205 : Cond.code yX12_waying cX12_waying 4 none ∈ lw_tbl := (List.mem_append_right _ (List.mem_append_right _ (List.mem_append_right _ (List.mem_append_right _ (List.mem_append_right _ (List.mem_append_right _ (List.mem_append_right _ (List.mem_append_left _ (List.mem_of_getElem? (i := 58) rfl)))))))))
theorem kg_205 : k_get 205 = kr_205 := rfl
theorem km_205 : x_okm k_P 205 := k_m_ok (k_cw kg_205 rfl rfl rfl rfl kcw_205) (is := [144]) (by decide +kernel)
set_option maxRecDepth 100000 in
theorem kcw_206 : Cond.code yX12_toldIn cX12_toldIn 4 (some .int) ∈ lw_tbl := (List.mem_append_right _ (List.mem_append_right _ (List.mem_append_right _ (List.mem_append_right _ (List.mem_append_right _ (List.mem_append_right _ (List.mem_append_right _ (List.mem_append_left _ (List.mem_of_getElem? (i := 74) rfl)))))))))
theorem kg_206 : k_get 206 = kr_206 := rfl
theorem km_206 : x_okm k_P 206 := k_m_ok (k_cw kg_206 rfl rfl rfl rfl kcw_206) (is := [144]) (by decide +kernel)
set_option maxRecDepth 100000 in
theorem kcw_207 : Cond.code yX12_personing cX12_personing 3 none ∈ lw_tbl := (List.mem_append_right _ (List.mem_append_right _ (List.mem_append_right _ (List.mem_append_right _ (List.mem_append_right _ (List.mem_append_right _ (List.mem_append_right _ (List.mem_append_left _ (List.mem_of_getElem? (i := 70) rfl)))))))))
theorem kg_207 : k_get 207 = kr_207 := rfl
theorem km_207 : x_okm k_P 207 := k_m_ok (k_cw kg_207 rfl rfl rfl rfl kcw_207) (is := [144]) (by decide +kernel)
set_option maxRecDepth 100000 in
theorem kcw_208 : Cond.code yX12_unjoined cX12_unjoined 3 (some .int) ∈ lw_tbl := (List.mem_append_right _ (List.mem_append_right _ (List.mem_append_right _ (List.mem_append_right _ (List.mem_append_right _ (List.mem_append_right _ (List.mem_append_right _ (List.mem_append_left _ (List.mem_of_getElem? (i := 82) rfl)))))))))
theorem kg_208 : k_get 208 = kr_208 := rfl
theorem km_208 : x_okm k_P 208 := k_m_ok (k_cw kg_208 rfl rfl rfl rfl kcw_208) (is := [144]) (by decide +kernel)
set_option maxRecDepth 100000 in
theorem kcw_209 : Cond.code yX12_joining cX12_joining 3 none ∈ lw_tbl := (List.mem_append_right _ (List.mem_append_right _ (List.mem_append_right _ (List.mem_append_right _ (List.mem_append_right _ (List.mem_append_right _ (List.mem_append_right _ (List.mem_append_left _ (List.mem_of_getElem? (i := 78) rfl)))))))))
theorem kg_209 : k_get 209 = kr_209 := rfl
theorem km_209 : x_okm k_P 209 := k_m_ok (k_cw kg_209 rfl rfl rfl rfl kcw_209) (is := [144]) (by decide +kernel)
set_option maxRecDepth 100000 in
theorem kcw_210 : Cond.code yX12_slowing cX12_slowing 1 none ∈ lw_tbl := (List.mem_append_right _ (List.mem_append_right _ (List.mem_append_right _ (List.mem_append_right _ (List.mem_append_right _ (List.mem_append_right _ (List.mem_append_right _ (List.mem_append_left _ (List.mem_of_getElem? (i := 86) rfl)))))))))
theorem kg_210 : k_get 210 = kr_210 := rfl
theorem km_210 : x_okm k_P 210 := k_m_ok (k_cw kg_210 rfl rfl rfl rfl kcw_210) (is := [144]) (by decide +kernel)
set_option maxRecDepth 100000 in
theorem kcw_211 : Cond.code yX12_standingSum cX12_standingSum 1 none ∈ lw_tbl := (List.mem_append_right _ (List.mem_append_right _ (List.mem_append_right _ (List.mem_append_right _ (List.mem_append_right _ (List.mem_append_right _ (List.mem_append_right _ (List.mem_append_left _ (List.mem_of_getElem? (i := 132) rfl)))))))))
theorem kg_211 : k_get 211 = kr_211 := rfl
theorem km_211 : x_okm k_P 211 := k_m_ok (k_cw kg_211 rfl rfl rfl rfl kcw_211) (is := [144]) (by decide +kernel)
set_option maxRecDepth 100000 in
theorem kcw_212 : Cond.code yX12_breaks cX12_breaks 2 none ∈ lw_tbl := (List.mem_append_right _ (List.mem_append_right _ (List.mem_append_right _ (List.mem_append_right _ (List.mem_append_right _ (List.mem_append_right _ (List.mem_append_right _ (List.mem_append_left _ (List.mem_of_getElem? (i := 136) rfl)))))))))
theorem kg_212 : k_get 212 = kr_212 := rfl
theorem km_212 : x_okm k_P 212 := k_m_ok (k_cw kg_212 rfl rfl rfl rfl kcw_212) (is := [144]) (by decide +kernel)
set_option maxRecDepth 100000 in
theorem kcw_213 : Cond.code yX12_mending cX12_mending 2 none ∈ lw_tbl := (List.mem_append_right _ (List.mem_append_right _ (List.mem_append_right _ (List.mem_append_right _ (List.mem_append_right _ (List.mem_append_right _ (List.mem_append_right _ (List.mem_append_left _ (List.mem_of_getElem? (i := 140) rfl)))))))))
theorem kg_213 : k_get 213 = kr_213 := rfl
theorem km_213 : x_okm k_P 213 := k_m_ok (k_cw kg_213 rfl rfl rfl rfl kcw_213) (is := [144]) (by decide +kernel)
set_option maxRecDepth 100000 in
theorem kcw_214 : Cond.code yX12_statement cX12_statement 1 none ∈ lw_tbl := (List.mem_append_right _ (List.mem_append_right _ (List.mem_append_right _ (List.mem_append_right _ (List.mem_append_right _ (List.mem_append_right _ (List.mem_append_right _ (List.mem_append_left _ (List.mem_of_getElem? (i := 7) rfl)))))))))
theorem kg_214 : k_get 214 = kr_214 := rfl
theorem km_214 : x_okm k_P 214 := k_m_ok (k_cw kg_214 rfl rfl rfl rfl kcw_214) (is := [144]) (by decide +kernel)
set_option maxRecDepth 100000 in
theorem kcw_215 : Cond.code yX12_finishes cX12_finishes 3 none ∈ lw_tbl := (List.mem_append_right _ (List.mem_append_right _ (List.mem_append_right _ (List.mem_append_right _ (List.mem_append_right _ (List.mem_append_right _ (List.mem_append_right _ (List.mem_append_left _ (List.mem_of_getElem? (i := 144) rfl)))))))))
theorem kg_215 : k_get 215 = kr_215 := rfl
theorem km_215 : x_okm k_P 215 := k_m_ok (k_cw kg_215 rfl rfl rfl rfl kcw_215) (is := [144]) (by decide +kernel)
set_option maxRecDepth 100000 in
theorem kcw_216 : Cond.code yX12_town cX12_town 2 (some .int) ∈ lw_tbl := (List.mem_append_right _ (List.mem_append_right _ (List.mem_append_right _ (List.mem_append_right _ (List.mem_append_right _ (List.mem_append_right _ (List.mem_append_left _ (List.mem_of_getElem? (i := 204) rfl))))))))
theorem kg_216 : k_get 216 = kr_216 := rfl
theorem km_216 : x_okm k_P 216 := k_m_ok (k_cw kg_216 rfl rfl rfl rfl kcw_216) (is := [144]) (by decide +kernel)
set_option maxRecDepth 100000 in
theorem kcw_217 : Cond.code yX12_fault cX12_fault 2 (some .int) ∈ lw_tbl := (List.mem_append_right _ (List.mem_append_right _ (List.mem_append_right _ (List.mem_append_right _ (List.mem_append_right _ (List.mem_append_right _ (List.mem_append_right _ (List.mem_append_left _ (List.mem_of_getElem? (i := 156) rfl)))))))))
theorem kg_217 : k_get 217 = kr_217 := rfl
theorem km_217 : x_okm k_P 217 := k_m_ok (k_cw kg_217 rfl rfl rfl rfl kcw_217) (is := [144]) (by decide +kernel)
set_option maxRecDepth 100000 in
theorem kcw_218 : Cond.code yX12_refuses cX12_refuses 2 (some .int) ∈ lw_tbl := (List.mem_append_right _ (List.mem_append_right _ (List.mem_append_right _ (List.mem_append_right _ (List.mem_append_right _ (List.mem_append_right _ (List.mem_append_left _ (List.mem_of_getElem? (i := 192) rfl))))))))
theorem kg_218 : k_get 218 = kr_218 := rfl
theorem km_218 : x_okm k_P 218 := k_m_ok (k_cw kg_218 rfl rfl rfl rfl kcw_218) (is := [144]) (by decide +kernel)
set_option maxRecDepth 100000 in
theorem kcw_219 : Cond.code yX12_status cX12_status 2 (some .int) ∈ lw_tbl := (List.mem_append_right _ (List.mem_append_right _ (List.mem_append_right _ (List.mem_append_right _ (List.mem_append_right _ (List.mem_append_right _ (List.mem_append_right _ (List.mem_append_left _ (List.mem_of_getElem? (i := 160) rfl)))))))))
theorem kg_219 : k_get 219 = kr_219 := rfl
theorem km_219 : x_okm k_P 219 := k_m_ok (k_cw kg_219 rfl rfl rfl rfl kcw_219) (is := [144]) (by decide +kernel)
set_option maxRecDepth 100000 in
theorem kcw_220 : Cond.code yX12_isRoom cX12_isRoom 2 (some .boolean) ∈ lw_tbl := (List.mem_append_right _ (List.mem_append_right _ (List.mem_append_right _ (List.mem_append_right _ (List.mem_append_right _ (List.mem_append_right _ (List.mem_append_right _ (List.mem_append_left _ (List.mem_of_getElem? (i := 201) rfl)))))))))
theorem kg_220 : k_get 220 = kr_220 := rfl
theorem km_220 : x_okm k_P 220 := k_m_ok (k_cw kg_220 rfl rfl rfl rfl kcw_220) (is := [144]) (by decide +kernel)
set_option maxRecDepth 100000 in
theorem kcw_221 : Cond.code yX12_isPerson cX12_isPerson 2 (some .boolean) ∈ lw_tbl := (List.mem_append_right _ (List.mem_append_right _ (List.mem_append_right _ (List.mem_append_right _ (List.mem_append_right _ (List.mem_append_right _ (List.mem_append_right _ (List.mem_append_left _ (List.mem_of_getElem? (i := 225) rfl)))))))))
theorem kg_221 : k_get 221 = kr_221 := rfl
theorem km_221 : x_okm k_P 221 := k_m_ok (k_cw kg_221 rfl rfl rfl rfl kcw_221) (is := [144]) (by decide +kernel)
set_option maxRecDepth 100000 in
theorem kcw_222 : Cond.code yX12_has2 cX12_has2 2 (some .boolean) ∈ lw_tbl := (List.mem_append_right _ (List.mem_append_right _ (List.mem_append_right _ (List.mem_append_right _ (List.mem_append_right _ (List.mem_append_right _ (List.mem_append_right _ (List.mem_append_right _ (List.mem_of_getElem? (i := 149) rfl)))))))))
theorem kg_222 : k_get 222 = kr_222 := rfl
theorem km_222 : x_okm k_P 222 := k_m_ok (k_cw kg_222 rfl rfl rfl rfl kcw_222) (is := [144]) (by decide +kernel)
set_option maxRecDepth 100000 in
theorem kcw_223 : Cond.code yX12_bits cX12_bits 3 (some .int) ∈ lw_tbl := (List.mem_append_right _ (List.mem_append_right _ (List.mem_append_right _ (List.mem_append_right _ (List.mem_append_right _ (List.mem_append_right _ (List.mem_append_right _ (List.mem_append_right _ (List.mem_of_getElem? (i := 160) rfl)))))))))
theorem kg_223 : k_get 223 = kr_223 := rfl
theorem km_223 : x_okm k_P 223 := k_m_ok (k_cw kg_223 rfl rfl rfl rfl kcw_223) (is := [144]) (by decide +kernel)
set_option maxRecDepth 100000 in
theorem kcw_224 : Cond.code yX12_copies cX12_copies 6 none ∈ lw_tbl := (List.mem_append_right _ (List.mem_append_right _ (List.mem_append_right _ (List.mem_append_right _ (List.mem_append_right _ (List.mem_append_right _ (List.mem_append_right _ (List.mem_append_left _ (List.mem_of_getElem? (i := 172) rfl)))))))))
theorem kg_224 : k_get 224 = kr_224 := rfl
theorem km_224 : x_okm k_P 224 := k_m_ok (k_cw kg_224 rfl rfl rfl rfl kcw_224) (is := [144]) (by decide +kernel)
set_option maxRecDepth 100000 in
theorem kcw_225 : Cond.code yX12_begin cX12_begin 2 none ∈ lw_tbl := (List.mem_append_right _ (List.mem_append_right _ (List.mem_append_right _ (List.mem_append_right _ (List.mem_append_right _ (List.mem_append_right _ (List.mem_append_right _ (List.mem_append_left _ (List.mem_of_getElem? (i := 152) rfl)))))))))
theorem kg_225 : k_get 225 = kr_225 := rfl
theorem km_225 : x_okm k_P 225 := k_m_ok (k_cw kg_225 rfl rfl rfl rfl kcw_225) (is := [144]) (by decide +kernel)
set_option maxRecDepth 100000 in
theorem kcw_226 : Cond.code yX12_ring cX12_ring 2 (some .int) ∈ lw_tbl := (List.mem_append_right _ (List.mem_append_right _ (List.mem_append_right _ (List.mem_append_right _ (List.mem_append_right _ (List.mem_append_right _ (List.mem_append_right _ (List.mem_append_left _ (List.mem_of_getElem? (i := 168) rfl)))))))))
theorem kg_226 : k_get 226 = kr_226 := rfl
theorem km_226 : x_okm k_P 226 := k_m_ok (k_cw kg_226 rfl rfl rfl rfl kcw_226) (is := [144]) (by decide +kernel)
set_option maxRecDepth 100000 in
theorem kcw_227 : Cond.code yX12_keeps cX12_keeps 1 none ∈ lw_tbl := (List.mem_append_right _ (List.mem_append_right _ (List.mem_append_right _ (List.mem_append_right _ (List.mem_append_right _ (List.mem_append_right _ (List.mem_append_right _ (List.mem_append_right _ (List.mem_of_getElem? (i := 52) rfl)))))))))
theorem kg_227 : k_get 227 = kr_227 := rfl
theorem km_227 : x_okm k_P 227 := k_m_ok (k_cw kg_227 rfl rfl rfl rfl kcw_227) (is := [144]) (by decide +kernel)
set_option maxRecDepth 100000 in
theorem kcw_228 : Cond.code yX12_undo cX12_undo 1 (some .boolean) ∈ lw_tbl := (List.mem_append_right _ (List.mem_append_right _ (List.mem_append_right _ (List.mem_append_right _ (List.mem_append_right _ (List.mem_append_right _ (List.mem_append_right _ (List.mem_append_left _ (List.mem_of_getElem? (i := 164) rfl)))))))))
theorem kg_228 : k_get 228 = kr_228 := rfl
theorem km_228 : x_okm k_P 228 := k_m_ok (k_cw kg_228 rfl rfl rfl rfl kcw_228) (is := [144]) (by decide +kernel)
set_option maxRecDepth 100000 in
theorem kcw_229 : Cond.code yX12_part cX12_part 3 (some .long) ∈ lw_tbl := (List.mem_append_right _ (List.mem_append_right _ (List.mem_append_right _ (List.mem_append_right _ (List.mem_append_right _ (List.mem_append_right _ (List.mem_append_right _ (List.mem_append_right _ (List.mem_of_getElem? (i := 29) rfl)))))))))
theorem kg_229 : k_get 229 = kr_229 := rfl
theorem km_229 : x_okm k_P 229 := k_m_ok (k_cw kg_229 rfl rfl rfl rfl kcw_229) (is := [144]) (by decide +kernel)
set_option maxRecDepth 100000 in
theorem kcw_230 : Cond.code yX12_held cX12_held 2 (some .long) ∈ lw_tbl := (List.mem_append_right _ (List.mem_append_right _ (List.mem_append_right _ (List.mem_append_right _ (List.mem_append_right _ (List.mem_append_right _ (List.mem_append_right _ (List.mem_append_right _ (List.mem_of_getElem? (i := 35) rfl)))))))))
theorem kg_230 : k_get 230 = kr_230 := rfl
theorem km_230 : x_okm k_P 230 := k_m_ok (k_cw kg_230 rfl rfl rfl rfl kcw_230) (is := [144]) (by decide +kernel)
set_option maxRecDepth 100000 in
theorem kcw_231 : Cond.code yX12_floor cX12_floor 6 (some .long) ∈ lw_tbl := (List.mem_append_right _ (List.mem_append_right _ (List.mem_append_right _ (List.mem_append_right _ (List.mem_append_right _ (List.mem_append_right _ (List.mem_append_right _ (List.mem_append_right _ (List.mem_of_getElem? (i := 40) rfl)))))))))
theorem kg_231 : k_get 231 = kr_231 := rfl
theorem km_231 : x_okm k_P 231 := k_m_ok (k_cw kg_231 rfl rfl rfl rfl kcw_231) (is := [144]) (by decide +kernel)
set_option maxRecDepth 100000 in
theorem kcw_232 : Cond.code yX12_two cX12_two 5 (some .long) ∈ lw_tbl := (List.mem_append_right _ (List.mem_append_right _ (List.mem_append_right _ (List.mem_append_right _ (List.mem_append_right _ (List.mem_append_right _ (List.mem_append_right _ (List.mem_append_right _ (List.mem_of_getElem? (i := 32) rfl)))))))))
theorem kg_232 : k_get 232 = kr_232 := rfl
theorem km_232 : x_okm k_P 232 := k_m_ok (k_cw kg_232 rfl rfl rfl rfl kcw_232) (is := [144]) (by decide +kernel)
set_option maxRecDepth 100000 in
theorem kcw_233 : Cond.code yX12_reckons cX12_reckons 6 (some .long) ∈ lw_tbl := (List.mem_append_right _ (List.mem_append_right _ (List.mem_append_right _ (List.mem_append_right _ (List.mem_append_right _ (List.mem_append_right _ (List.mem_append_right _ (List.mem_append_right _ (List.mem_of_getElem? (i := 25) rfl)))))))))
theorem kg_233 : k_get 233 = kr_233 := rfl
theorem km_233 : x_okm k_P 233 := k_m_ok (k_cw kg_233 rfl rfl rfl rfl kcw_233) (is := [144]) (by decide +kernel)
set_option maxRecDepth 100000 in
theorem kcw_234 : Cond.code yX12_between cX12_between 2 (some .int) ∈ lw_tbl := (List.mem_append_right _ (List.mem_append_right _ (List.mem_append_right _ (List.mem_append_right _ (List.mem_append_right _ (List.mem_append_right _ (List.mem_append_right _ (List.mem_append_right _ (List.mem_of_getElem? (i := 43) rfl)))))))))
theorem kg_234 : k_get 234 = kr_234 := rfl
theorem km_234 : x_okm k_P 234 := k_m_ok (k_cw kg_234 rfl rfl rfl rfl kcw_234) (is := [144]) (by decide +kernel)
set_option maxRecDepth 100000 in
theorem kcw_235 : Cond.code yX12_carrying cX12_carrying 4 (some .int) ∈ lw_tbl := (List.mem_append_right _ (List.mem_append_right _ (List.mem_append_right _ (List.mem_append_right _ (List.mem_append_right _ (List.mem_append_right _ (List.mem_append_right _ (List.mem_append_right _ (List.mem_of_getElem? (i := 21) rfl)))))))))
theorem kg_235 : k_get 235 = kr_235 := rfl
theorem km_235 : x_okm k_P 235 := k_m_ok (k_cw kg_235 rfl rfl rfl rfl kcw_235) (is := [144]) (by decide +kernel)
set_option maxRecDepth 100000 in
theorem kcw_236 : Cond.code yX12_aching cX12_aching 3 (some .int) ∈ lw_tbl := (List.mem_append_right _ (List.mem_append_right _ (List.mem_append_right _ (List.mem_append_right _ (List.mem_append_right _ (List.mem_append_right _ (List.mem_append_right _ (List.mem_append_right _ (List.mem_of_getElem? (i := 85) rfl)))))))))
theorem kg_236 : k_get 236 = kr_236 := rfl
theorem km_236 : x_okm k_P 236 := k_m_ok (k_cw kg_236 rfl rfl rfl rfl kcw_236) (is := [144]) (by decide +kernel)
set_option maxRecDepth 100000 in
theorem kcw_237 : Cond.code yX12_wideOf cX12_wideOf 2 (some .int) ∈ lw_tbl := (List.mem_append_right _ (List.mem_append_right _ (List.mem_append_right _ (List.mem_append_right _ (List.mem_append_right _ (List.mem_append_right _ (List.mem_append_right _ (List.mem_append_left _ (List.mem_of_getElem? (i := 209) rfl)))))))))
theorem kg_237 : k_get 237 = kr_237 := rfl
theorem km_237 : x_okm k_P 237 := k_m_ok (k_cw kg_237 rfl rfl rfl rfl kcw_237) (is := [144]) (by decide +kernel)
set_option maxRecDepth 100000 in
theorem kcw_238 : Cond.code yX12_joinedTo cX12_joinedTo 2 (some .int) ∈ lw_tbl := (List.mem_append_right _ (List.mem_append_right _ (List.mem_append_right _ (List.mem_append_right _ (List.mem_append_right _ (List.mem_append_right _ (List.mem_append_right _ (List.mem_append_left _ (List.mem_of_getElem? (i := 188) rfl)))))))))
theorem kg_238 : k_get 238 = kr_238 := rfl
theorem km_238 : x_okm k_P 238 := k_m_ok (k_cw kg_238 rfl rfl rfl rfl kcw_238) (is := [144]) (by decide +kernel)
set_option maxRecDepth 100000 in
theorem kcw_239 : Cond.code yX12_doorWide cX12_doorWide 2 (some .int) ∈ lw_tbl := (List.mem_append_right _ (List.mem_append_right _ (List.mem_append_right _ (List.mem_append_right _ (List.mem_append_right _ (List.mem_append_right _ (List.mem_append_right _ (List.mem_append_left _ (List.mem_of_getElem? (i := 229) rfl)))))))))
theorem kg_239 : k_get 239 = kr_239 := rfl
theorem km_239 : x_okm k_P 239 := k_m_ok (k_cw kg_239 rfl rfl rfl rfl kcw_239) (is := [144]) (by decide +kernel)
set_option maxRecDepth 100000 in
theorem kcw_240 : Cond.code yX12_wideIn cX12_wideIn 5 (some .int) ∈ lw_tbl := (List.mem_append_right _ (List.mem_append_right _ (List.mem_append_right _ (List.mem_append_right _ (List.mem_append_right _ (List.mem_append_right _ (List.mem_append_right _ (List.mem_append_left _ (List.mem_of_getElem? (i := 205) rfl)))))))))
theorem kg_240 : k_get 240 = kr_240 := rfl
theorem km_240 : x_okm k_P 240 := k_m_ok (k_cw kg_240 rfl rfl rfl rfl kcw_240) (is := [144]) (by decide +kernel)
set_option maxRecDepth 100000 in
theorem kcw_241 : Cond.code yX12_isThrough cX12_isThrough 3 (some .boolean) ∈ lw_tbl := (List.mem_append_right _ (List.mem_append_right _ (List.mem_append_right _ (List.mem_append_right _ (List.mem_append_right _ (List.mem_append_right _ (List.mem_append_right _ (List.mem_append_right _ (List.mem_of_getElem? (i := 1) rfl)))))))))
theorem kg_241 : k_get 241 = kr_241 := rfl
theorem km_241 : x_okm k_P 241 := k_m_ok (k_cw kg_241 rfl rfl rfl rfl kcw_241) (is := [144]) (by decide +kernel)
set_option maxRecDepth 100000 in
theorem kcw_242 : Cond.code yX12_isFitting cX12_isFitting 3 (some .boolean) ∈ lw_tbl := (List.mem_append_right _ (List.mem_append_right _ (List.mem_append_right _ (List.mem_append_right _ (List.mem_append_right _ (List.mem_append_right _ (List.mem_append_right _ (List.mem_append_left _ (List.mem_of_getElem? (i := 237) rfl)))))))))
theorem kg_242 : k_get 242 = kr_242 := rfl
theorem km_242 : x_okm k_P 242 := k_m_ok (k_cw kg_242 rfl rfl rfl rfl kcw_242) (is := [144]) (by decide +kernel)
set_option maxRecDepth 100000 in
theorem kcw_243 : Cond.code yX12_wouldSit cX12_wouldSit 3 (some .boolean) ∈ lw_tbl := (List.mem_append_right _ (List.mem_append_right _ (List.mem_append_right _ (List.mem_append_right _ (List.mem_append_right _ (List.mem_append_right _ (List.mem_append_right _ (List.mem_append_left _ (List.mem_of_getElem? (i := 184) rfl)))))))))
theorem kg_243 : k_get 243 = kr_243 := rfl
theorem km_243 : x_okm k_P 243 := k_m_ok (k_cw kg_243 rfl rfl rfl rfl kcw_243) (is := [144]) (by decide +kernel)
set_option maxRecDepth 100000 in
theorem kcw_244 : Cond.code yX12_isSitting cX12_isSitting 2 (some .boolean) ∈ lw_tbl := (List.mem_append_right _ (List.mem_append_right _ (List.mem_append_right _ (List.mem_append_right _ (List.mem_append_right _ (List.mem_append_right _ (List.mem_append_right _ (List.mem_append_left _ (List.mem_of_getElem? (i := 180) rfl)))))))))
theorem kg_244 : k_get 244 = kr_244 := rfl
theorem km_244 : x_okm k_P 244 := k_m_ok (k_cw kg_244 rfl rfl rfl rfl kcw_244) (is := [144]) (by decide +kernel)
set_option maxRecDepth 100000 in
theorem kcw_245 : Cond.code yX12_wayOf cX12_wayOf 3 (some .int) ∈ lw_tbl := (List.mem_append_right _ (List.mem_append_right _ (List.mem_append_right _ (List.mem_append_right _ (List.mem_append_right _ (List.mem_append_right _ (List.mem_append_right _ (List.mem_append_left _ (List.mem_of_getElem? (i := 217) rfl)))))))))
theorem kg_245 : k_get 245 = kr_245 := rfl
theorem km_245 : x_okm k_P 245 := k_m_ok (k_cw kg_245 rfl rfl rfl rfl kcw_245) (is := [144]) (by decide +kernel)
set_option maxRecDepth 100000 in
theorem kcw_246 : Cond.code yX12_has cX12_has 4 (some .int) ∈ lw_tbl := (List.mem_append_right _ (List.mem_append_right _ (List.mem_append_right _ (List.mem_append_right _ (List.mem_append_right _ (List.mem_append_right _ (List.mem_append_right _ (List.mem_append_left _ (List.mem_of_getElem? (i := 176) rfl)))))))))
theorem kg_246 : k_get 246 = kr_246 := rfl
theorem km_246 : x_okm k_P 246 := k_m_ok (k_cw kg_246 rfl rfl rfl rfl kcw_246) (is := [144]) (by decide +kernel)
set_option maxRecDepth 100000 in
theorem kcw_247 : Cond.code yX12_letter cX12_letter 9 (some .int) ∈ lw_tbl := (List.mem_append_right _ (List.mem_append_right _ (List.mem_append_right _ (List.mem_append_right _ (List.mem_append_right _ (List.mem_append_right _ (List.mem_append_right _ (List.mem_append_left _ (List.mem_of_getElem? (i := 192) rfl)))))))))
theorem kg_247 : k_get 247 = kr_247 := rfl
theorem km_247 : x_okm k_P 247 := k_m_ok (k_cw kg_247 rfl rfl rfl rfl kcw_247) (is := [144]) (by decide +kernel)
set_option maxRecDepth 100000 in
theorem kcw_248 : Cond.code yX12_room cX12_room 5 (some .int) ∈ lw_tbl := (List.mem_append_right _ (List.mem_append_right _ (List.mem_append_right _ (List.mem_append_right _ (List.mem_append_right _ (List.mem_append_right _ (List.mem_append_right _ (List.mem_append_left _ (List.mem_of_getElem? (i := 197) rfl)))))))))
theorem kg_248 : k_get 248 = kr_248 := rfl
theorem km_248 : x_okm k_P 248 := k_m_ok (k_cw kg_248 rfl rfl rfl rfl kcw_248) (is := [144]) (by decide +kernel)
set_option maxRecDepth 100000 in
theorem kcw_249 : Cond.code yX12_way cX12_way 3 (some .int) ∈ lw_tbl := (List.mem_append_right _ (List.mem_append_right _ (List.mem_append_right _ (List.mem_append_right _ (List.mem_append_right _ (List.mem_append_right _ (List.mem_append_right _ (List.mem_append_left _ (List.mem_of_getElem? (i := 213) rfl)))))))))
theorem kg_249 : k_get 249 = kr_249 := rfl
theorem km_249 : x_okm k_P 249 := k_m_ok (k_cw kg_249 rfl rfl rfl rfl kcw_249) (is := [144]) (by decide +kernel)
set_option maxRecDepth 100000 in
theorem kcw_250 : Cond.code yX12_person cX12_person 3 (some .int) ∈ lw_tbl := (List.mem_append_right _ (List.mem_append_right _ (List.mem_append_right _ (List.mem_append_right _ (List.mem_append_right _ (List.mem_append_right _ (List.mem_append_right _ (List.mem_append_left _ (List.mem_of_getElem? (i := 221) rfl)))))))))
theorem kg_250 : k_get 250 = kr_250 := rfl
theorem km_250 : x_okm k_P 250 := k_m_ok (k_cw kg_250 rfl rfl rfl rfl kcw_250) (is := [144]) (by decide +kernel)
set_option maxRecDepth 100000 in
theorem kcw_251 : Cond.code yX12_fits cX12_fits 3 (some .int) ∈ lw_tbl := (List.mem_append_right _ (List.mem_append_right _ (List.mem_append_right _ (List.mem_append_right _ (List.mem_append_right _ (List.mem_append_right _ (List.mem_append_right _ (List.mem_append_left _ (List.mem_of_getElem? (i := 233) rfl)))))))))
theorem kg_251 : k_get 251 = kr_251 := rfl
theorem km_251 : x_okm k_P 251 := k_m_ok (k_cw kg_251 rfl rfl rfl rfl kcw_251) (is := [144]) (by decide +kernel)
set_option maxRecDepth 100000 in
theorem kcw_252 : Cond.code yX12_canTake cX12_canTake 4 (some .boolean) ∈ lw_tbl := (List.mem_append_right _ (List.mem_append_right _ (List.mem_append_right _ (List.mem_append_right _ (List.mem_append_right _ (List.mem_append_right _ (List.mem_append_right _ (List.mem_append_right _ (List.mem_of_getElem? (i := 13) rfl)))))))))
theorem kg_252 : k_get 252 = kr_252 := rfl
theorem km_252 : x_okm k_P 252 := k_m_ok (k_cw kg_252 rfl rfl rfl rfl kcw_252) (is := [144]) (by decide +kernel)
set_option maxRecDepth 100000 in
theorem kcw_253 : Cond.code yX12_canGo cX12_canGo 4 (some .boolean) ∈ lw_tbl := (List.mem_append_right _ (List.mem_append_right _ (List.mem_append_right _ (List.mem_append_right _ (List.mem_append_right _ (List.mem_append_right _ (List.mem_append_right _ (List.mem_append_right _ (List.mem_of_getElem? (i := 9) rfl)))))))))
theorem kg_253 : k_get 253 = kr_253 := rfl
theorem km_253 : x_okm k_P 253 := k_m_ok (k_cw kg_253 rfl rfl rfl rfl kcw_253) (is := [144]) (by decide +kernel)
set_option maxRecDepth 100000 in
theorem kcw_254 : Cond.code yX12_minutesOf cX12_minutesOf 4 (some .int) ∈ lw_tbl := (List.mem_append_right _ (List.mem_append_right _ (List.mem_append_right _ (List.mem_append_right _ (List.mem_append_right _ (List.mem_append_right _ (List.mem_append_right _ (List.mem_append_right _ (List.mem_of_getElem? (i := 17) rfl)))))))))
theorem kg_254 : k_get 254 = kr_254 := rfl
theorem km_254 : x_okm k_P 254 := k_m_ok (k_cw kg_254 rfl rfl rfl rfl kcw_254) (is := [144]) (by decide +kernel)
set_option maxRecDepth 100000 in
theorem kcw_255 : Cond.code yX12_takes cX12_takes 4 (some .int) ∈ lw_tbl := (List.mem_append_right _ (List.mem_append_right _ (List.mem_append_right _ (List.mem_append_right _ (List.mem_append_right _ (List.mem_append_right _ (List.mem_append_right _ (List.mem_append_right _ (List.mem_of_getElem? (i := 5) rfl)))))))))
theorem kg_255 : k_get 255 = kr_255 := rfl
theorem km_255 : x_okm k_P 255 := k_m_ok (k_cw kg_255 rfl rfl rfl rfl kcw_255) (is := [144]) (by decide +kernel)
set_option maxRecDepth 100000 in
theorem kcw_256 : Cond.code yX12_draw cX12_draw 2 (some .int) ∈ lw_tbl := (List.mem_append_right _ (List.mem_append_right _ (List.mem_append_right _ (List.mem_append_right _ (List.mem_append_right _ (List.mem_append_right _ (List.mem_append_right _ (List.mem_append_right _ (List.mem_of_getElem? (i := 69) rfl)))))))))
theorem kg_256 : k_get 256 = kr_256 := rfl
theorem km_256 : x_okm k_P 256 := k_m_ok (k_cw kg_256 rfl rfl rfl rfl kcw_256) (is := [144]) (by decide +kernel)
set_option maxRecDepth 100000 in
theorem kcw_257 : Cond.code yX12_writesDown cX12_writesDown 6 none ∈ lw_tbl := (List.mem_append_right _ (List.mem_append_right _ (List.mem_append_right _ (List.mem_append_right _ (List.mem_append_right _ (List.mem_append_right _ (List.mem_append_right _ (List.mem_append_right _ (List.mem_of_getElem? (i := 65) rfl)))))))))
theorem kg_257 : k_get 257 = kr_257 := rfl
theorem km_257 : x_okm k_P 257 := k_m_ok (k_cw kg_257 rfl rfl rfl rfl kcw_257) (is := [144]) (by decide +kernel)
set_option maxRecDepth 100000 in
theorem kcw_258 : Cond.code yX12_isLater cX12_isLater 3 none ∈ lw_tbl := (List.mem_append_right _ (List.mem_append_right _ (List.mem_append_right _ (List.mem_append_right _ (List.mem_append_right _ (List.mem_append_right _ (List.mem_append_right _ (List.mem_append_right _ (List.mem_of_getElem? (i := 60) rfl)))))))))
theorem kg_258 : k_get 258 = kr_258 := rfl
theorem km_258 : x_okm k_P 258 := k_m_ok (k_cw kg_258 rfl rfl rfl rfl kcw_258) (is := [144]) (by decide +kernel)
set_option maxRecDepth 100000 in
theorem kcw_259 : Cond.code yX12_goes cX12_goes 5 none ∈ lw_tbl := (List.mem_append_right _ (List.mem_append_right _ (List.mem_append_right _ (List.mem_append_right _ (List.mem_append_right _ (List.mem_append_right _ (List.mem_append_right _ (List.mem_append_right _ (List.mem_of_getElem? (i := 56) rfl)))))))))
theorem kg_259 : k_get 259 = kr_259 := rfl
theorem km_259 : x_okm k_P 259 := k_m_ok (k_cw kg_259 rfl rfl rfl rfl kcw_259) (is := [144]) (by decide +kernel)
set_option maxRecDepth 100000 in
theorem kcw_260 : Cond.code yX12_go cX12_go 4 (some .int) ∈ lw_tbl := (List.mem_append_right _ (List.mem_append_right _ (List.mem_append_right _ (List.mem_append_right _ (List.mem_append_right _ (List.mem_append_right _ (List.mem_append_right _ (List.mem_append_right _ (List.mem_of_getElem? (i := 48) rfl)))))))))
theorem kg_260 : k_get 260 = kr_260 := rfl
theorem km_260 : x_okm k_P 260 := k_m_ok (k_cw kg_260 rfl rfl rfl rfl kcw_260) (is := [144]) (by decide +kernel)
set_option maxRecDepth 100000 in
theorem kcw_261 : Cond.code yX12_waits cX12_waits 4 none ∈ lw_tbl := (List.mem_append_right _ (List.mem_append_right _ (List.mem_append_right _ (List.mem_append_right _ (List.mem_append_right _ (List.mem_append_right _ (List.mem_append_right _ (List.mem_append_right _ (List.mem_of_getElem? (i := 81) rfl)))))))))
theorem kg_261 : k_get 261 = kr_261 := rfl
theorem km_261 : x_okm k_P 261 := k_m_ok (k_cw kg_261 rfl rfl rfl rfl kcw_261) (is := [144]) (by decide +kernel)
set_option maxRecDepth 100000 in
theorem kcw_262 : Cond.code yX12_stay cX12_stay 3 (some .int) ∈ lw_tbl := (List.mem_append_right _ (List.mem_append_right _ (List.mem_append_right _ (List.mem_append_right _ (List.mem_append_right _ (List.mem_append_right _ (List.mem_append_right _ (List.mem_append_right _ (List.mem_of_getElem? (i := 77) rfl)))))))))
theorem kg_262 : k_get 262 = kr_262 := rfl
theorem km_262 : x_okm k_P 262 := k_m_ok (k_cw kg_262 rfl rfl rfl rfl kcw_262) (is := [144]) (by decide +kernel)
set_option maxRecDepth 100000 in
theorem kcw_263 : Cond.code yX12_mend cX12_mend 4 (some .boolean) ∈ lw_tbl := (List.mem_append_right _ (List.mem_append_right _ (List.mem_append_right _ (List.mem_append_right _ (List.mem_append_right _ (List.mem_append_right _ (List.mem_append_right _ (List.mem_append_right _ (List.mem_of_getElem? (i := 89) rfl)))))))))
theorem kg_263 : k_get 263 = kr_263 := rfl
theorem km_263 : x_okm k_P 263 := k_m_ok (k_cw kg_263 rfl rfl rfl rfl kcw_263) (is := [144]) (by decide +kernel)
set_option maxRecDepth 100000 in
theorem kcw_264 : Cond.code yX12_nthWay cX12_nthWay 5 (some .int) ∈ lw_tbl := (List.mem_append_right _ (List.mem_append_right _ (List.mem_append_right _ (List.mem_append_right _ (List.mem_append_right _ (List.mem_append_right _ (List.mem_append_right _ (List.mem_append_right _ (List.mem_of_getElem? (i := 101) rfl)))))))))
theorem kg_264 : k_get 264 = kr_264 := rfl
theorem km_264 : x_okm k_P 264 := k_m_ok (k_cw kg_264 rfl rfl rfl rfl kcw_264) (is := [144]) (by decide +kernel)
set_option maxRecDepth 100000 in
theorem kcw_265 : Cond.code yX12_dayOf cX12_dayOf 6 (some .boolean) ∈ lw_tbl := (List.mem_append_right _ (List.mem_append_right _ (List.mem_append_right _ (List.mem_append_right _ (List.mem_append_right _ (List.mem_append_right _ (List.mem_append_right _ (List.mem_append_right _ (List.mem_of_getElem? (i := 97) rfl)))))))))
theorem kg_265 : k_get 265 = kr_265 := rfl
theorem km_265 : x_okm k_P 265 := k_m_ok (k_cw kg_265 rfl rfl rfl rfl kcw_265) (is := [144]) (by decide +kernel)
set_option maxRecDepth 100000 in
theorem kcw_266 : Cond.code yX12_days cX12_days 5 (some .int) ∈ lw_tbl := (List.mem_append_right _ (List.mem_append_right _ (List.mem_append_right _ (List.mem_append_right _ (List.mem_append_right _ (List.mem_append_right _ (List.mem_append_right _ (List.mem_append_right _ (List.mem_of_getElem? (i := 93) rfl)))))))))
theorem kg_266 : k_get 266 = kr_266 := rfl
theorem km_266 : x_okm k_P 266 := k_m_ok (k_cw kg_266 rfl rfl rfl rfl kcw_266) (is := [144]) (by decide +kernel)
set_option maxRecDepth 100000 in
theorem kcw_267 : Cond.code yX12_seed cX12_seed 2 (some .boolean) ∈ lw_tbl := (List.mem_append_right _ (List.mem_append_right _ (List.mem_append_right _ (List.mem_append_right _ (List.mem_append_right _ (List.mem_append_right _ (List.mem_append_right _ (List.mem_append_right _ (List.mem_of_getElem? (i := 105) rfl)))))))))
theorem kg_267 : k_get 267 = kr_267 := rfl
theorem km_267 : x_okm k_P 267 := k_m_ok (k_cw kg_267 rfl rfl rfl rfl kcw_267) (is := [144]) (by decide +kernel)
set_option maxRecDepth 100000 in
theorem kcw_268 : Cond.code yX12_kept cX12_kept 3 (some .int) ∈ lw_tbl := (List.mem_append_right _ (List.mem_append_right _ (List.mem_append_right _ (List.mem_append_right _ (List.mem_append_right _ (List.mem_append_right _ (List.mem_append_right _ (List.mem_append_right _ (List.mem_of_getElem? (i := 109) rfl)))))))))
theorem kg_268 : k_get 268 = kr_268 := rfl
theorem km_268 : x_okm k_P 268 := k_m_ok (k_cw kg_268 rfl rfl rfl rfl kcw_268) (is := [144]) (by decide +kernel)
set_option maxRecDepth 100000 in
theorem kcw_269 : Cond.code yX12_steps cX12_steps 7 none ∈ lw_tbl := (List.mem_append_right _ (List.mem_append_right _ (List.mem_append_right _ (List.mem_append_right _ (List.mem_append_right _ (List.mem_append_right _ (List.mem_append_right _ (List.mem_append_right _ (List.mem_of_getElem? (i := 121) rfl)))))))))
theorem kg_269 : k_get 269 = kr_269 := rfl
theorem km_269 : x_okm k_P 269 := k_m_ok (k_cw kg_269 rfl rfl rfl rfl kcw_269) (is := [144]) (by decide +kernel)
set_option maxRecDepth 100000 in
theorem kcw_270 : Cond.code yX12_rests cX12_rests 6 none ∈ lw_tbl := (List.mem_append_right _ (List.mem_append_right _ (List.mem_append_right _ (List.mem_append_right _ (List.mem_append_right _ (List.mem_append_right _ (List.mem_append_right _ (List.mem_append_right _ (List.mem_of_getElem? (i := 126) rfl)))))))))
theorem kg_270 : k_get 270 = kr_270 := rfl
theorem km_270 : x_okm k_P 270 := k_m_ok (k_cw kg_270 rfl rfl rfl rfl kcw_270) (is := [144]) (by decide +kernel)
set_option maxRecDepth 100000 in
theorem kcw_271 : Cond.code yX12_nextOf cX12_nextOf 3 (some .int) ∈ lw_tbl := (List.mem_append_right _ (List.mem_append_right _ (List.mem_append_right _ (List.mem_append_right _ (List.mem_append_right _ (List.mem_append_right _ (List.mem_append_right _ (List.mem_append_right _ (List.mem_of_getElem? (i := 130) rfl)))))))))
theorem kg_271 : k_get 271 = kr_271 := rfl
theorem km_271 : x_okm k_P 271 := k_m_ok (k_cw kg_271 rfl rfl rfl rfl kcw_271) (is := [144]) (by decide +kernel)
set_option maxRecDepth 100000 in
theorem kcw_272 : Cond.code yX12_routing cX12_routing 9 (some .int) ∈ lw_tbl := (List.mem_append_right _ (List.mem_append_right _ (List.mem_append_right _ (List.mem_append_right _ (List.mem_append_right _ (List.mem_append_right _ (List.mem_append_right _ (List.mem_append_right _ (List.mem_of_getElem? (i := 117) rfl)))))))))
theorem kg_272 : k_get 272 = kr_272 := rfl
theorem km_272 : x_okm k_P 272 := k_m_ok (k_cw kg_272 rfl rfl rfl rfl kcw_272) (is := [144]) (by decide +kernel)
set_option maxRecDepth 100000 in
theorem kcw_273 : Cond.code yX12_route cX12_route 5 (some .int) ∈ lw_tbl := (List.mem_append_right _ (List.mem_append_right _ (List.mem_append_right _ (List.mem_append_right _ (List.mem_append_right _ (List.mem_append_right _ (List.mem_append_right _ (List.mem_append_right _ (List.mem_of_getElem? (i := 113) rfl)))))))))
theorem kg_273 : k_get 273 = kr_273 := rfl
theorem km_273 : x_okm k_P 273 := k_m_ok (k_cw kg_273 rfl rfl rfl rfl kcw_273) (is := [144]) (by decide +kernel)
set_option maxRecDepth 100000 in
theorem kcw_274 : Cond.code yX12_bearer cX12_bearer 4 (some .int) ∈ lw_tbl := (List.mem_append_right _ (List.mem_append_right _ (List.mem_append_right _ (List.mem_append_right _ (List.mem_append_right _ (List.mem_append_right _ (List.mem_append_right _ (List.mem_append_right _ (List.mem_of_getElem? (i := 134) rfl)))))))))
theorem kg_274 : k_get 274 = kr_274 := rfl
theorem km_274 : x_okm k_P 274 := k_m_ok (k_cw kg_274 rfl rfl rfl rfl kcw_274) (is := [144]) (by decide +kernel)
set_option maxRecDepth 100000 in
theorem kcw_275 : Cond.code yX12_errandBy cX12_errandBy 11 (some .int) ∈ lw_tbl := (List.mem_append_right _ (List.mem_append_right _ (List.mem_append_right _ (List.mem_append_right _ (List.mem_append_right _ (List.mem_append_right _ (List.mem_append_right _ (List.mem_append_right _ (List.mem_of_getElem? (i := 146) rfl)))))))))
theorem kg_275 : k_get 275 = kr_275 := rfl
theorem km_275 : x_okm k_P 275 := k_m_ok (k_cw kg_275 rfl rfl rfl rfl kcw_275) (is := [144]) (by decide +kernel)
set_option maxRecDepth 100000 in
theorem kcw_276 : Cond.code yX12_isErrand cX12_isErrand 5 (some .boolean) ∈ lw_tbl := (List.mem_append_right _ (List.mem_append_right _ (List.mem_append_right _ (List.mem_append_right _ (List.mem_append_right _ (List.mem_append_right _ (List.mem_append_right _ (List.mem_append_right _ (List.mem_of_getElem? (i := 142) rfl)))))))))
theorem kg_276 : k_get 276 = kr_276 := rfl
theorem km_276 : x_okm k_P 276 := k_m_ok (k_cw kg_276 rfl rfl rfl rfl kcw_276) (is := [144]) (by decide +kernel)
set_option maxRecDepth 100000 in
theorem kcw_277 : Cond.code yX12_errand cX12_errand 8 (some .int) ∈ lw_tbl := (List.mem_append_right _ (List.mem_append_right _ (List.mem_append_right _ (List.mem_append_right _ (List.mem_append_right _ (List.mem_append_right _ (List.mem_append_right _ (List.mem_append_right _ (List.mem_of_getElem? (i := 138) rfl)))))))))
theorem kg_277 : k_get 277 = kr_277 := rfl
theorem km_277 : x_okm k_P 277 := k_m_ok (k_cw kg_277 rfl rfl rfl rfl kcw_277) (is := [144]) (by decide +kernel)
set_option maxRecDepth 100000 in
theorem kcw_278 : Cond.code yX12_along cX12_along 2 (some .int) ∈ lw_tbl := (List.mem_append_right _ (List.mem_append_right _ (List.mem_append_right _ (List.mem_append_right _ (List.mem_append_right _ (List.mem_append_right _ (List.mem_append_right _ (List.mem_append_right _ (List.mem_of_getElem? (i := 153) rfl)))))))))
theorem kg_278 : k_get 278 = kr_278 := rfl
theorem km_278 : x_okm k_P 278 := k_m_ok (k_cw kg_278 rfl rfl rfl rfl kcw_278) (is := [144]) (by decide +kernel)
set_option maxRecDepth 100000 in
theorem kcw_279 : Cond.code yX12_canSit cX12_canSit 6 (some .boolean) ∈ lw_tbl := (List.mem_append_right _ (List.mem_append_right _ (List.mem_append_right _ (List.mem_append_right _ (List.mem_append_right _ (List.mem_append_right _ (List.mem_append_right _ (List.mem_append_right _ (List.mem_of_getElem? (i := 164) rfl)))))))))
theorem kg_279 : k_get 279 = kr_279 := rfl
theorem km_279 : x_okm k_P 279 := k_m_ok (k_cw kg_279 rfl rfl rfl rfl kcw_279) (is := [144]) (by decide +kernel)
set_option maxRecDepth 100000 in
theorem kcw_280 : Cond.code yX12_seated cX12_seated 5 (some .int) ∈ lw_tbl := (List.mem_append_right _ (List.mem_append_right _ (List.mem_append_right _ (List.mem_append_right _ (List.mem_append_right _ (List.mem_append_right _ (List.mem_append_right _ (List.mem_append_right _ (List.mem_of_getElem? (i := 157) rfl)))))))))
theorem kg_280 : k_get 280 = kr_280 := rfl
theorem km_280 : x_okm k_P 280 := k_m_ok (k_cw kg_280 rfl rfl rfl rfl kcw_280) (is := [144]) (by decide +kernel)
set_option maxRecDepth 100000 in
theorem kcw_281 : Cond.code yX12_rowOf cX12_rowOf 3 (some .int) ∈ lw_tbl := (List.mem_append_right _ (List.mem_append_right _ (List.mem_append_right _ (List.mem_append_right _ (List.mem_append_right _ (List.mem_append_right _ (List.mem_append_right _ (List.mem_append_right _ (List.mem_of_getElem? (i := 180) rfl)))))))))
theorem kg_281 : k_get 281 = kr_281 := rfl
theorem km_281 : x_okm k_P 281 := k_m_ok (k_cw kg_281 rfl rfl rfl rfl kcw_281) (is := [144]) (by decide +kernel)
set_option maxRecDepth 100000 in
theorem kcw_282 : Cond.code yX12_waysWith cX12_waysWith 9 (some .int) ∈ lw_tbl := (List.mem_append_right _ (List.mem_append_right _ (List.mem_append_right _ (List.mem_append_right _ (List.mem_append_right _ (List.mem_append_right _ (List.mem_append_right _ (List.mem_append_right _ (List.mem_of_getElem? (i := 176) rfl)))))))))
theorem kg_282 : k_get 282 = kr_282 := rfl
theorem km_282 : x_okm k_P 282 := k_m_ok (k_cw kg_282 rfl rfl rfl rfl kcw_282) (is := [144]) (by decide +kernel)
set_option maxRecDepth 100000 in
theorem kcw_283 : Cond.code yX12_isStanding cX12_isStanding 4 (some .boolean) ∈ lw_tbl := (List.mem_append_right _ (List.mem_append_right _ (List.mem_append_right _ (List.mem_append_right _ (List.mem_append_right _ (List.mem_append_right _ (List.mem_append_right _ (List.mem_append_right _ (List.mem_of_getElem? (i := 172) rfl)))))))))
theorem kg_283 : k_get 283 = kr_283 := rfl
theorem km_283 : x_okm k_P 283 := k_m_ok (k_cw kg_283 rfl rfl rfl rfl kcw_283) (is := [144]) (by decide +kernel)
set_option maxRecDepth 100000 in
theorem kcw_284 : Cond.code yX12_standing cX12_standing 4 (some .int) ∈ lw_tbl := (List.mem_append_right _ (List.mem_append_right _ (List.mem_append_right _ (List.mem_append_right _ (List.mem_append_right _ (List.mem_append_right _ (List.mem_append_right _ (List.mem_append_right _ (List.mem_of_getElem? (i := 168) rfl)))))))))
theorem kg_284 : k_get 284 = kr_284 := rfl
theorem km_284 : x_okm k_P 284 := k_m_ok (k_cw kg_284 rfl rfl rfl rfl kcw_284) (is := [144]) (by decide +kernel)
set_option maxRecDepth 100000 in
theorem kcw_285 : Cond.code yX12_where cX12_where 3 (some .int) ∈ lw_tbl := (List.mem_append_right _ (List.mem_append_right _ (List.mem_append_right _ (List.mem_append_right _ (List.mem_append_right _ (List.mem_append_right _ (List.mem_append_right _ (List.mem_append_right _ (List.mem_of_getElem? (i := 184) rfl)))))))))
theorem kg_285 : k_get 285 = kr_285 := rfl
theorem km_285 : x_okm k_P 285 := k_m_ok (k_cw kg_285 rfl rfl rfl rfl kcw_285) (is := [144]) (by decide +kernel)
set_option maxRecDepth 100000 in
theorem kcw_286 : Cond.code yX12_writes cX12_writes 2 none ∈ lw_tbl := (List.mem_append_right _ (List.mem_append_right _ (List.mem_append_right _ (List.mem_append_right _ (List.mem_append_right _ (List.mem_append_right _ (List.mem_append_right _ (List.mem_append_right _ (List.mem_of_getElem? (i := 192) rfl)))))))))
theorem kg_286 : k_get 286 = kr_286 := rfl
theorem km_286 : x_okm k_P 286 := k_m_ok (k_cw kg_286 rfl rfl rfl rfl kcw_286) (is := [144]) (by decide +kernel)
set_option maxRecDepth 100000 in
theorem kcw_287 : Cond.code yX12_writesThree cX12_writesThree 2 none ∈ lw_tbl := (List.mem_append_right _ (List.mem_append_right _ (List.mem_append_right _ (List.mem_append_right _ (List.mem_append_right _ (List.mem_append_right _ (List.mem_append_right _ (List.mem_append_right _ (List.mem_of_getElem? (i := 196) rfl)))))))))
theorem kg_287 : k_get 287 = kr_287 := rfl
theorem km_287 : x_okm k_P 287 := k_m_ok (k_cw kg_287 rfl rfl rfl rfl kcw_287) (is := [144]) (by decide +kernel)
set_option maxRecDepth 100000 in
theorem kcw_288 : Cond.code yX12_image cX12_image 3 (some .int) ∈ lw_tbl := (List.mem_append_right _ (List.mem_append_right _ (List.mem_append_right _ (List.mem_append_right _ (List.mem_append_right _ (List.mem_append_right _ (List.mem_append_right _ (List.mem_append_right _ (List.mem_of_getElem? (i := 188) rfl)))))))))
theorem kg_288 : k_get 288 = kr_288 := rfl
theorem km_288 : x_okm k_P 288 := k_m_ok (k_cw kg_288 rfl rfl rfl rfl kcw_288) (is := [144]) (by decide +kernel)
set_option maxRecDepth 100000 in
theorem kcw_289 : Cond.code yX12_octet cX12_octet 2 (some .int) ∈ lw_tbl := (List.mem_append_right _ (List.mem_append_right _ (List.mem_append_right _ (List.mem_append_right _ (List.mem_append_right _ (List.mem_append_right _ (List.mem_append_right _ (List.mem_append_right _ (List.mem_of_getElem? (i := 200) rfl)))))))))
theorem kg_289 : k_get 289 = kr_289 := rfl
theorem km_289 : x_okm k_P 289 := k_m_ok (k_cw kg_289 rfl rfl rfl rfl kcw_289) (is := [144]) (by decide +kernel)
set_option maxRecDepth 100000 in
theorem kcw_290 : Cond.code yX12_threeBytes cX12_threeBytes 2 (some .int) ∈ lw_tbl := (List.mem_append_right _ (List.mem_append_right _ (List.mem_append_right _ (List.mem_append_right _ (List.mem_append_right _ (List.mem_append_right _ (List.mem_append_right _ (List.mem_append_right _ (List.mem_of_getElem? (i := 216) rfl)))))))))
theorem kg_290 : k_get 290 = kr_290 := rfl
theorem km_290 : x_okm k_P 290 := k_m_ok (k_cw kg_290 rfl rfl rfl rfl kcw_290) (is := [144]) (by decide +kernel)
set_option maxRecDepth 100000 in
theorem kcw_291 : Cond.code yX12_personOn cX12_personOn 4 (some .boolean) ∈ lw_tbl := (List.mem_append_right _ (List.mem_append_right _ (List.mem_append_right _ (List.mem_append_right _ (List.mem_append_right _ (List.mem_append_right _ (List.mem_append_right _ (List.mem_append_right _ (List.mem_of_getElem? (i := 212) rfl)))))))))
theorem kg_291 : k_get 291 = kr_291 := rfl
theorem km_291 : x_okm k_P 291 := k_m_ok (k_cw kg_291 rfl rfl rfl rfl kcw_291) (is := [144]) (by decide +kernel)
set_option maxRecDepth 100000 in
theorem kcw_292 : Cond.code yX12_comesOn cX12_comesOn 6 (some .boolean) ∈ lw_tbl := (List.mem_append_right _ (List.mem_append_right _ (List.mem_append_right _ (List.mem_append_right _ (List.mem_append_right _ (List.mem_append_right _ (List.mem_append_right _ (List.mem_append_right _ (List.mem_of_getElem? (i := 208) rfl)))))))))
theorem kg_292 : k_get 292 = kr_292 := rfl
theorem km_292 : x_okm k_P 292 := k_m_ok (k_cw kg_292 rfl rfl rfl rfl kcw_292) (is := [144]) (by decide +kernel)
set_option maxRecDepth 100000 in
theorem kcw_293 : Cond.code yX12_on cX12_on 2 (some .boolean) ∈ lw_tbl := (List.mem_append_right _ (List.mem_append_right _ (List.mem_append_right _ (List.mem_append_right _ (List.mem_append_right _ (List.mem_append_right _ (List.mem_append_right _ (List.mem_append_right _ (List.mem_of_getElem? (i := 204) rfl)))))))))
theorem kg_293 : k_get 293 = kr_293 := rfl
theorem km_293 : x_okm k_P 293 := k_m_ok (k_cw kg_293 rfl rfl rfl rfl kcw_293) (is := [144]) (by decide +kernel)
set_option maxRecDepth 100000 in
theorem kcw_294 : Cond.code yJ6_bitCount_0f7a4 cJ6_bitCount_0f7a4 1 (some .int) ∈ lw_tbl := (List.mem_append_right _ (List.mem_append_right _ (List.mem_append_right _ (List.mem_append_right _ (List.mem_append_right _ (List.mem_append_left _ (List.mem_of_getElem? (i := 85) rfl)))))))
theorem kg_294 : k_get 294 = kr_294 := rfl
theorem km_294 : x_okm k_P 294 := k_m_ok (k_cw kg_294 rfl rfl rfl rfl kcw_294) (is := [148]) (by decide +kernel)
set_option maxRecDepth 100000 in
theorem kcw_295 : Cond.code yJ9_floorDiv_f86c9 cJ9_floorDiv_f86c9 6 (some .long) ∈ lw_tbl := (List.mem_append_right _ (List.mem_append_right _ (List.mem_append_right _ (List.mem_append_right _ (List.mem_append_left _ (List.mem_of_getElem? (i := 113) rfl))))))
theorem kg_295 : k_get 295 = kr_295 := rfl
theorem km_295 : x_okm k_P 295 := k_m_ok (k_cw kg_295 rfl rfl rfl rfl kcw_295) (is := [146]) (by decide +kernel)
set_option maxRecDepth 100000 in
theorem kcw_296 : Cond.code yJ9_floorMod_7cf53 cJ9_floorMod_7cf53 3 (some .int) ∈ lw_tbl := (List.mem_append_right _ (List.mem_append_right _ (List.mem_append_right _ (List.mem_append_right _ (List.mem_append_left _ (List.mem_of_getElem? (i := 116) rfl))))))
theorem kg_296 : k_get 296 = kr_296 := rfl
theorem km_296 : x_okm k_P 296 := k_m_ok (k_cw kg_296 rfl rfl rfl rfl kcw_296) (is := [146]) (by decide +kernel)
set_option maxRecDepth 100000 in
theorem kcw_297 : Cond.code yJ9_max_7cf53 cJ9_max_7cf53 2 (some .int) ∈ lw_tbl := (List.mem_append_right _ (List.mem_append_right _ (List.mem_append_right _ (List.mem_append_left _ (List.mem_of_getElem? (i := 233) rfl)))))
theorem kg_297 : k_get 297 = kr_297 := rfl
theorem km_297 : x_okm k_P 297 := k_m_ok (k_cw kg_297 rfl rfl rfl rfl kcw_297) (is := [146]) (by decide +kernel)
set_option maxRecDepth 100000 in
theorem kcw_298 : Cond.code yJ9_max_f86c9 cJ9_max_f86c9 4 (some .long) ∈ lw_tbl := (List.mem_append_right _ (List.mem_append_right _ (List.mem_append_right _ (List.mem_append_right _ (List.mem_append_left _ (List.mem_of_getElem? (i := 110) rfl))))))
theorem kg_298 : k_get 298 = kr_298 := rfl
theorem km_298 : x_okm k_P 298 := k_m_ok (k_cw kg_298 rfl rfl rfl rfl kcw_298) (is := [146]) (by decide +kernel)
set_option maxRecDepth 100000 in
theorem kcw_299 : Cond.code yJ9_min_7cf53 cJ9_min_7cf53 2 (some .int) ∈ lw_tbl := (List.mem_append_right _ (List.mem_append_right _ (List.mem_append_left _ (List.mem_of_getElem? (i := 190) rfl))))
theorem kg_299 : k_get 299 = kr_299 := rfl
theorem km_299 : x_okm k_P 299 := k_m_ok (k_cw kg_299 rfl rfl rfl rfl kcw_299) (is := [146]) (by decide +kernel)
set_option maxRecDepth 100000 in
theorem kcw_300 : Cond.code yJ9_min_f86c9 cJ9_min_f86c9 4 (some .long) ∈ lw_tbl := (List.mem_append_right _ (List.mem_append_right _ (List.mem_append_right _ (List.mem_append_right _ (List.mem_append_left _ (List.mem_of_getElem? (i := 107) rfl))))))
theorem kg_300 : k_get 300 = kr_300 := rfl
theorem km_300 : x_okm k_P 300 := k_m_ok (k_cw kg_300 rfl rfl rfl rfl kcw_300) (is := [146]) (by decide +kernel)
set_option maxRecDepth 100000 in
theorem kcw_301 : Cond.code yJ7_fill_53178 cJ7_fill_53178 4 none ∈ lw_tbl := (List.mem_append_right _ (List.mem_append_right _ (List.mem_append_left _ (List.mem_of_getElem? (i := 183) rfl))))
theorem kg_301 : k_get 301 = kr_301 := rfl
theorem km_301 : x_okm k_P 301 := k_m_ok (k_cw kg_301 rfl rfl rfl rfl kcw_301) (is := [145]) (by decide +kernel)
set_option maxRecDepth 100000 in
theorem kcw_302 : Cond.code yJ7_copyOf_59c91 cJ7_copyOf_59c91 3 (some (.array .int)) ∈ lw_tbl := (List.mem_append_right _ (List.mem_append_right _ (List.mem_append_right _ (List.mem_append_left _ (List.mem_of_getElem? (i := 104) rfl)))))
theorem kg_302 : k_get 302 = kr_302 := rfl
theorem km_302 : x_okm k_P 302 := k_m_ok (k_cw kg_302 rfl rfl rfl rfl kcw_302) (is := [145]) (by decide +kernel)
theorem k_uk0 : ∀ j ∈ k_u0, x_okm k_P j := List.forall_mem_cons.mpr ⟨km_1, List.forall_mem_cons.mpr ⟨km_2, List.forall_mem_cons.mpr ⟨km_3, List.forall_mem_cons.mpr ⟨km_4, List.forall_mem_cons.mpr ⟨km_5, List.forall_mem_cons.mpr ⟨km_6, List.forall_mem_cons.mpr ⟨km_7, List.forall_mem_cons.mpr ⟨km_8, List.forall_mem_cons.mpr ⟨km_9, List.forall_mem_cons.mpr ⟨km_10, List.forall_mem_cons.mpr ⟨km_11, List.forall_mem_cons.mpr ⟨km_12, List.forall_mem_cons.mpr ⟨km_13, List.forall_mem_cons.mpr ⟨km_14, List.forall_mem_cons.mpr ⟨km_15, List.forall_mem_cons.mpr ⟨km_16, fun _ h => absurd h List.not_mem_nil⟩⟩⟩⟩⟩⟩⟩⟩⟩⟩⟩⟩⟩⟩⟩⟩
theorem k_uk1 : ∀ j ∈ k_u1, x_okm k_P j := List.forall_mem_cons.mpr ⟨km_17, List.forall_mem_cons.mpr ⟨km_18, List.forall_mem_cons.mpr ⟨km_19, List.forall_mem_cons.mpr ⟨km_20, List.forall_mem_cons.mpr ⟨km_21, List.forall_mem_cons.mpr ⟨km_22, List.forall_mem_cons.mpr ⟨km_23, List.forall_mem_cons.mpr ⟨km_24, List.forall_mem_cons.mpr ⟨km_25, List.forall_mem_cons.mpr ⟨km_26, List.forall_mem_cons.mpr ⟨km_27, List.forall_mem_cons.mpr ⟨km_28, List.forall_mem_cons.mpr ⟨km_29, List.forall_mem_cons.mpr ⟨km_30, List.forall_mem_cons.mpr ⟨km_31, List.forall_mem_cons.mpr ⟨km_32, fun _ h => absurd h List.not_mem_nil⟩⟩⟩⟩⟩⟩⟩⟩⟩⟩⟩⟩⟩⟩⟩⟩
theorem k_uk2 : ∀ j ∈ k_u2, x_okm k_P j := List.forall_mem_cons.mpr ⟨km_33, List.forall_mem_cons.mpr ⟨km_34, List.forall_mem_cons.mpr ⟨km_35, List.forall_mem_cons.mpr ⟨km_36, List.forall_mem_cons.mpr ⟨km_37, List.forall_mem_cons.mpr ⟨km_38, List.forall_mem_cons.mpr ⟨km_39, List.forall_mem_cons.mpr ⟨km_40, List.forall_mem_cons.mpr ⟨km_41, List.forall_mem_cons.mpr ⟨km_42, List.forall_mem_cons.mpr ⟨km_43, List.forall_mem_cons.mpr ⟨km_44, List.forall_mem_cons.mpr ⟨km_45, List.forall_mem_cons.mpr ⟨km_46, List.forall_mem_cons.mpr ⟨km_47, List.forall_mem_cons.mpr ⟨km_48, fun _ h => absurd h List.not_mem_nil⟩⟩⟩⟩⟩⟩⟩⟩⟩⟩⟩⟩⟩⟩⟩⟩
theorem k_uk3 : ∀ j ∈ k_u3, x_okm k_P j := List.forall_mem_cons.mpr ⟨km_49, List.forall_mem_cons.mpr ⟨km_50, List.forall_mem_cons.mpr ⟨km_51, List.forall_mem_cons.mpr ⟨km_52, List.forall_mem_cons.mpr ⟨km_53, List.forall_mem_cons.mpr ⟨km_54, List.forall_mem_cons.mpr ⟨km_55, List.forall_mem_cons.mpr ⟨km_56, List.forall_mem_cons.mpr ⟨km_57, List.forall_mem_cons.mpr ⟨km_58, List.forall_mem_cons.mpr ⟨km_59, List.forall_mem_cons.mpr ⟨km_60, List.forall_mem_cons.mpr ⟨km_61, List.forall_mem_cons.mpr ⟨km_62, List.forall_mem_cons.mpr ⟨km_63, List.forall_mem_cons.mpr ⟨km_64, fun _ h => absurd h List.not_mem_nil⟩⟩⟩⟩⟩⟩⟩⟩⟩⟩⟩⟩⟩⟩⟩⟩
theorem k_uk4 : ∀ j ∈ k_u4, x_okm k_P j := List.forall_mem_cons.mpr ⟨km_65, List.forall_mem_cons.mpr ⟨km_66, List.forall_mem_cons.mpr ⟨km_67, List.forall_mem_cons.mpr ⟨km_68, List.forall_mem_cons.mpr ⟨km_69, List.forall_mem_cons.mpr ⟨km_70, List.forall_mem_cons.mpr ⟨km_71, List.forall_mem_cons.mpr ⟨km_72, List.forall_mem_cons.mpr ⟨km_73, List.forall_mem_cons.mpr ⟨km_74, List.forall_mem_cons.mpr ⟨km_75, List.forall_mem_cons.mpr ⟨km_76, List.forall_mem_cons.mpr ⟨km_77, List.forall_mem_cons.mpr ⟨km_78, List.forall_mem_cons.mpr ⟨km_79, List.forall_mem_cons.mpr ⟨km_80, fun _ h => absurd h List.not_mem_nil⟩⟩⟩⟩⟩⟩⟩⟩⟩⟩⟩⟩⟩⟩⟩⟩
theorem k_uk5 : ∀ j ∈ k_u5, x_okm k_P j := List.forall_mem_cons.mpr ⟨km_81, List.forall_mem_cons.mpr ⟨km_82, List.forall_mem_cons.mpr ⟨km_83, List.forall_mem_cons.mpr ⟨km_84, List.forall_mem_cons.mpr ⟨km_85, List.forall_mem_cons.mpr ⟨km_86, List.forall_mem_cons.mpr ⟨km_87, List.forall_mem_cons.mpr ⟨km_88, List.forall_mem_cons.mpr ⟨km_89, List.forall_mem_cons.mpr ⟨km_90, List.forall_mem_cons.mpr ⟨km_91, List.forall_mem_cons.mpr ⟨km_92, List.forall_mem_cons.mpr ⟨km_93, List.forall_mem_cons.mpr ⟨km_94, List.forall_mem_cons.mpr ⟨km_95, List.forall_mem_cons.mpr ⟨km_96, fun _ h => absurd h List.not_mem_nil⟩⟩⟩⟩⟩⟩⟩⟩⟩⟩⟩⟩⟩⟩⟩⟩
theorem k_uk6 : ∀ j ∈ k_u6, x_okm k_P j := List.forall_mem_cons.mpr ⟨km_97, List.forall_mem_cons.mpr ⟨km_98, List.forall_mem_cons.mpr ⟨km_99, List.forall_mem_cons.mpr ⟨km_100, List.forall_mem_cons.mpr ⟨km_101, List.forall_mem_cons.mpr ⟨km_102, List.forall_mem_cons.mpr ⟨km_103, List.forall_mem_cons.mpr ⟨km_104, List.forall_mem_cons.mpr ⟨km_105, List.forall_mem_cons.mpr ⟨km_106, List.forall_mem_cons.mpr ⟨km_107, List.forall_mem_cons.mpr ⟨km_108, List.forall_mem_cons.mpr ⟨km_109, List.forall_mem_cons.mpr ⟨km_110, List.forall_mem_cons.mpr ⟨km_111, List.forall_mem_cons.mpr ⟨km_112, fun _ h => absurd h List.not_mem_nil⟩⟩⟩⟩⟩⟩⟩⟩⟩⟩⟩⟩⟩⟩⟩⟩
theorem k_uk7 : ∀ j ∈ k_u7, x_okm k_P j := List.forall_mem_cons.mpr ⟨km_113, List.forall_mem_cons.mpr ⟨km_114, List.forall_mem_cons.mpr ⟨km_115, List.forall_mem_cons.mpr ⟨km_116, List.forall_mem_cons.mpr ⟨km_117, List.forall_mem_cons.mpr ⟨km_118, List.forall_mem_cons.mpr ⟨km_119, List.forall_mem_cons.mpr ⟨km_120, List.forall_mem_cons.mpr ⟨km_121, List.forall_mem_cons.mpr ⟨km_122, List.forall_mem_cons.mpr ⟨km_123, List.forall_mem_cons.mpr ⟨km_124, List.forall_mem_cons.mpr ⟨km_125, List.forall_mem_cons.mpr ⟨km_126, List.forall_mem_cons.mpr ⟨km_127, List.forall_mem_cons.mpr ⟨km_128, fun _ h => absurd h List.not_mem_nil⟩⟩⟩⟩⟩⟩⟩⟩⟩⟩⟩⟩⟩⟩⟩⟩
theorem k_uk8 : ∀ j ∈ k_u8, x_okm k_P j := List.forall_mem_cons.mpr ⟨km_129, List.forall_mem_cons.mpr ⟨km_130, List.forall_mem_cons.mpr ⟨km_131, List.forall_mem_cons.mpr ⟨km_132, List.forall_mem_cons.mpr ⟨km_133, List.forall_mem_cons.mpr ⟨km_134, List.forall_mem_cons.mpr ⟨km_135, List.forall_mem_cons.mpr ⟨km_136, List.forall_mem_cons.mpr ⟨km_137, List.forall_mem_cons.mpr ⟨km_138, List.forall_mem_cons.mpr ⟨km_139, List.forall_mem_cons.mpr ⟨km_140, List.forall_mem_cons.mpr ⟨km_141, List.forall_mem_cons.mpr ⟨km_142, List.forall_mem_cons.mpr ⟨km_143, List.forall_mem_cons.mpr ⟨km_144, fun _ h => absurd h List.not_mem_nil⟩⟩⟩⟩⟩⟩⟩⟩⟩⟩⟩⟩⟩⟩⟩⟩
theorem k_uk9 : ∀ j ∈ k_u9, x_okm k_P j := List.forall_mem_cons.mpr ⟨km_145, List.forall_mem_cons.mpr ⟨km_146, List.forall_mem_cons.mpr ⟨km_147, List.forall_mem_cons.mpr ⟨km_148, List.forall_mem_cons.mpr ⟨km_149, List.forall_mem_cons.mpr ⟨km_150, List.forall_mem_cons.mpr ⟨km_151, List.forall_mem_cons.mpr ⟨km_152, List.forall_mem_cons.mpr ⟨km_153, List.forall_mem_cons.mpr ⟨km_154, List.forall_mem_cons.mpr ⟨km_155, List.forall_mem_cons.mpr ⟨km_156, List.forall_mem_cons.mpr ⟨km_157, List.forall_mem_cons.mpr ⟨km_158, List.forall_mem_cons.mpr ⟨km_159, List.forall_mem_cons.mpr ⟨km_160, fun _ h => absurd h List.not_mem_nil⟩⟩⟩⟩⟩⟩⟩⟩⟩⟩⟩⟩⟩⟩⟩⟩
theorem k_uk10 : ∀ j ∈ k_u10, x_okm k_P j := List.forall_mem_cons.mpr ⟨km_161, List.forall_mem_cons.mpr ⟨km_162, List.forall_mem_cons.mpr ⟨km_163, List.forall_mem_cons.mpr ⟨km_164, List.forall_mem_cons.mpr ⟨km_165, List.forall_mem_cons.mpr ⟨km_166, List.forall_mem_cons.mpr ⟨km_167, List.forall_mem_cons.mpr ⟨km_168, List.forall_mem_cons.mpr ⟨km_169, List.forall_mem_cons.mpr ⟨km_170, List.forall_mem_cons.mpr ⟨km_171, List.forall_mem_cons.mpr ⟨km_172, List.forall_mem_cons.mpr ⟨km_173, List.forall_mem_cons.mpr ⟨km_174, List.forall_mem_cons.mpr ⟨km_175, List.forall_mem_cons.mpr ⟨km_176, fun _ h => absurd h List.not_mem_nil⟩⟩⟩⟩⟩⟩⟩⟩⟩⟩⟩⟩⟩⟩⟩⟩
theorem k_uk11 : ∀ j ∈ k_u11, x_okm k_P j := List.forall_mem_cons.mpr ⟨km_177, List.forall_mem_cons.mpr ⟨km_178, List.forall_mem_cons.mpr ⟨km_179, List.forall_mem_cons.mpr ⟨km_180, List.forall_mem_cons.mpr ⟨km_181, List.forall_mem_cons.mpr ⟨km_182, List.forall_mem_cons.mpr ⟨km_183, List.forall_mem_cons.mpr ⟨km_184, List.forall_mem_cons.mpr ⟨km_185, List.forall_mem_cons.mpr ⟨km_186, List.forall_mem_cons.mpr ⟨km_187, List.forall_mem_cons.mpr ⟨km_188, List.forall_mem_cons.mpr ⟨km_189, List.forall_mem_cons.mpr ⟨km_190, List.forall_mem_cons.mpr ⟨km_191, List.forall_mem_cons.mpr ⟨km_192, fun _ h => absurd h List.not_mem_nil⟩⟩⟩⟩⟩⟩⟩⟩⟩⟩⟩⟩⟩⟩⟩⟩
theorem k_uk12 : ∀ j ∈ k_u12, x_okm k_P j := List.forall_mem_cons.mpr ⟨km_193, List.forall_mem_cons.mpr ⟨km_194, List.forall_mem_cons.mpr ⟨km_195, List.forall_mem_cons.mpr ⟨km_196, List.forall_mem_cons.mpr ⟨km_197, List.forall_mem_cons.mpr ⟨km_198, List.forall_mem_cons.mpr ⟨km_199, List.forall_mem_cons.mpr ⟨km_200, List.forall_mem_cons.mpr ⟨km_201, List.forall_mem_cons.mpr ⟨km_202, List.forall_mem_cons.mpr ⟨km_203, List.forall_mem_cons.mpr ⟨km_204, List.forall_mem_cons.mpr ⟨km_205, List.forall_mem_cons.mpr ⟨km_206, List.forall_mem_cons.mpr ⟨km_207, List.forall_mem_cons.mpr ⟨km_208, fun _ h => absurd h List.not_mem_nil⟩⟩⟩⟩⟩⟩⟩⟩⟩⟩⟩⟩⟩⟩⟩⟩
theorem k_uk13 : ∀ j ∈ k_u13, x_okm k_P j := List.forall_mem_cons.mpr ⟨km_209, List.forall_mem_cons.mpr ⟨km_210, List.forall_mem_cons.mpr ⟨km_211, List.forall_mem_cons.mpr ⟨km_212, List.forall_mem_cons.mpr ⟨km_213, List.forall_mem_cons.mpr ⟨km_214, List.forall_mem_cons.mpr ⟨km_215, List.forall_mem_cons.mpr ⟨km_216, List.forall_mem_cons.mpr ⟨km_217, List.forall_mem_cons.mpr ⟨km_218, List.forall_mem_cons.mpr ⟨km_219, List.forall_mem_cons.mpr ⟨km_220, List.forall_mem_cons.mpr ⟨km_221, List.forall_mem_cons.mpr ⟨km_222, List.forall_mem_cons.mpr ⟨km_223, List.forall_mem_cons.mpr ⟨km_224, fun _ h => absurd h List.not_mem_nil⟩⟩⟩⟩⟩⟩⟩⟩⟩⟩⟩⟩⟩⟩⟩⟩
theorem k_uk14 : ∀ j ∈ k_u14, x_okm k_P j := List.forall_mem_cons.mpr ⟨km_225, List.forall_mem_cons.mpr ⟨km_226, List.forall_mem_cons.mpr ⟨km_227, List.forall_mem_cons.mpr ⟨km_228, List.forall_mem_cons.mpr ⟨km_229, List.forall_mem_cons.mpr ⟨km_230, List.forall_mem_cons.mpr ⟨km_231, List.forall_mem_cons.mpr ⟨km_232, List.forall_mem_cons.mpr ⟨km_233, List.forall_mem_cons.mpr ⟨km_234, List.forall_mem_cons.mpr ⟨km_235, List.forall_mem_cons.mpr ⟨km_236, List.forall_mem_cons.mpr ⟨km_237, List.forall_mem_cons.mpr ⟨km_238, List.forall_mem_cons.mpr ⟨km_239, List.forall_mem_cons.mpr ⟨km_240, fun _ h => absurd h List.not_mem_nil⟩⟩⟩⟩⟩⟩⟩⟩⟩⟩⟩⟩⟩⟩⟩⟩
theorem k_uk15 : ∀ j ∈ k_u15, x_okm k_P j := List.forall_mem_cons.mpr ⟨km_241, List.forall_mem_cons.mpr ⟨km_242, List.forall_mem_cons.mpr ⟨km_243, List.forall_mem_cons.mpr ⟨km_244, List.forall_mem_cons.mpr ⟨km_245, List.forall_mem_cons.mpr ⟨km_246, List.forall_mem_cons.mpr ⟨km_247, List.forall_mem_cons.mpr ⟨km_248, List.forall_mem_cons.mpr ⟨km_249, List.forall_mem_cons.mpr ⟨km_250, List.forall_mem_cons.mpr ⟨km_251, List.forall_mem_cons.mpr ⟨km_252, List.forall_mem_cons.mpr ⟨km_253, List.forall_mem_cons.mpr ⟨km_254, List.forall_mem_cons.mpr ⟨km_255, List.forall_mem_cons.mpr ⟨km_256, fun _ h => absurd h List.not_mem_nil⟩⟩⟩⟩⟩⟩⟩⟩⟩⟩⟩⟩⟩⟩⟩⟩
theorem k_uk16 : ∀ j ∈ k_u16, x_okm k_P j := List.forall_mem_cons.mpr ⟨km_257, List.forall_mem_cons.mpr ⟨km_258, List.forall_mem_cons.mpr ⟨km_259, List.forall_mem_cons.mpr ⟨km_260, List.forall_mem_cons.mpr ⟨km_261, List.forall_mem_cons.mpr ⟨km_262, List.forall_mem_cons.mpr ⟨km_263, List.forall_mem_cons.mpr ⟨km_264, List.forall_mem_cons.mpr ⟨km_265, List.forall_mem_cons.mpr ⟨km_266, List.forall_mem_cons.mpr ⟨km_267, List.forall_mem_cons.mpr ⟨km_268, List.forall_mem_cons.mpr ⟨km_269, List.forall_mem_cons.mpr ⟨km_270, List.forall_mem_cons.mpr ⟨km_271, List.forall_mem_cons.mpr ⟨km_272, fun _ h => absurd h List.not_mem_nil⟩⟩⟩⟩⟩⟩⟩⟩⟩⟩⟩⟩⟩⟩⟩⟩
theorem k_uk17 : ∀ j ∈ k_u17, x_okm k_P j := List.forall_mem_cons.mpr ⟨km_273, List.forall_mem_cons.mpr ⟨km_274, List.forall_mem_cons.mpr ⟨km_275, List.forall_mem_cons.mpr ⟨km_276, List.forall_mem_cons.mpr ⟨km_277, List.forall_mem_cons.mpr ⟨km_278, List.forall_mem_cons.mpr ⟨km_279, List.forall_mem_cons.mpr ⟨km_280, List.forall_mem_cons.mpr ⟨km_281, List.forall_mem_cons.mpr ⟨km_282, List.forall_mem_cons.mpr ⟨km_283, List.forall_mem_cons.mpr ⟨km_284, List.forall_mem_cons.mpr ⟨km_285, List.forall_mem_cons.mpr ⟨km_286, List.forall_mem_cons.mpr ⟨km_287, List.forall_mem_cons.mpr ⟨km_288, fun _ h => absurd h List.not_mem_nil⟩⟩⟩⟩⟩⟩⟩⟩⟩⟩⟩⟩⟩⟩⟩⟩
theorem k_uk18 : ∀ j ∈ k_u18, x_okm k_P j := List.forall_mem_cons.mpr ⟨km_289, List.forall_mem_cons.mpr ⟨km_290, List.forall_mem_cons.mpr ⟨km_291, List.forall_mem_cons.mpr ⟨km_292, List.forall_mem_cons.mpr ⟨km_293, List.forall_mem_cons.mpr ⟨km_294, List.forall_mem_cons.mpr ⟨km_295, List.forall_mem_cons.mpr ⟨km_296, List.forall_mem_cons.mpr ⟨km_297, List.forall_mem_cons.mpr ⟨km_298, List.forall_mem_cons.mpr ⟨km_299, List.forall_mem_cons.mpr ⟨km_300, List.forall_mem_cons.mpr ⟨km_301, List.forall_mem_cons.mpr ⟨km_302, fun _ h => absurd h List.not_mem_nil⟩⟩⟩⟩⟩⟩⟩⟩⟩⟩⟩⟩⟩⟩
theorem k_okm : ∀ j ∈ k_used, x_okm k_P j := (List.forall_mem_append.mpr ⟨k_uk0, (List.forall_mem_append.mpr ⟨k_uk1, (List.forall_mem_append.mpr ⟨k_uk2, (List.forall_mem_append.mpr ⟨k_uk3, (List.forall_mem_append.mpr ⟨k_uk4, (List.forall_mem_append.mpr ⟨k_uk5, (List.forall_mem_append.mpr ⟨k_uk6, (List.forall_mem_append.mpr ⟨k_uk7, (List.forall_mem_append.mpr ⟨k_uk8, (List.forall_mem_append.mpr ⟨k_uk9, (List.forall_mem_append.mpr ⟨k_uk10, (List.forall_mem_append.mpr ⟨k_uk11, (List.forall_mem_append.mpr ⟨k_uk12, (List.forall_mem_append.mpr ⟨k_uk13, (List.forall_mem_append.mpr ⟨k_uk14, (List.forall_mem_append.mpr ⟨k_uk15, (List.forall_mem_append.mpr ⟨k_uk16, (List.forall_mem_append.mpr ⟨k_uk17, k_uk18⟩)⟩)⟩)⟩)⟩)⟩)⟩)⟩)⟩)⟩)⟩)⟩)⟩)⟩)⟩)⟩)⟩)⟩)
