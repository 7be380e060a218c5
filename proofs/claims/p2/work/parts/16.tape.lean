def k_T0 : List cK := [.inr 11, .inr 8, .inl (0, 1600), .inr 10, .inr 7, .inr 3, .inl (0, 0), .inr 5, .inr 9, .inl (0, 8), .inl (0, 8), .inl (0, 8), .inl (0, 64), .inl (0, 8), .inl (0, 8), .inl (0, 8), .inl (0, 8), .inl (0, 8), .inl (0, 8), .inr 1, .inl (0, 64), .inl (0, 32), .inr 1, .inl (0, 64), .inl (0, 32), .inr 9, .inl (0, 8), .inl (0, 8), .inl (0, 8), .inl (0, 64), .inl (0, 8), .inl (0, 8), .inl (0, 8), .inl (0, 8), .inl (0, 8), .inl (0, 8), .inr 1, .inl (0, 64), .inl (0, 32), .inr 1, .inl (0, 64), .inl (0, 32), .inl (0, 81), .inl (0, 6), .inr 2, .inl (0, 1620), .inr 4, .inl (0, 64), .inl (0, 64), .inl (0, 8), .inl (0, 8), .inr 0, .inl (0, 104), .inl (0, 12), .inr 6, .inl (0, 8), .inl (0, 8), .inl (0, 2048), .inl (0, 256), .inl (0, 256), .inl (0, 64), .inl (0, 6), .inl (0, 73), .inr 12, .inl (0, 1800), .inl (0, 2), .inl (0, 16), .inl (0, 16), .inl (0, 128), .inl (0, 2), .inl (0, 16), .inl (0, 16), .inl (0, 16), .inl (0, 16), .inl (0, 16), .inl (0, 2), .inl (0, 2), .inl (0, 2), .inl (0, 2), .inl (0, 2), .inl (0, 2), .inl (0, 3200), .inl (0, 3200), .inl (1, 16), .inl (1, 16), .inl (0, 20), .inl (0, 20), .inl (2, 20), .inl (0, 20), .inl (0, 20), .inl (0, 500), .inl (0, 6), .inl (0, 176), .inl (0, 176), .inl (0, 176), .inl (0, 176), .inl (0, 176), .inl (0, 22), .inl (0, 880), .inl (0, 880), .inl (0, 880), .inl (0, 880), .inl (1, 500), .inl (0, 64), .inl (0, 64), .inl (0, 8), .inl (0, 12), .inl (0, 64), .inl (0, 8), .inl (0, 8), .inl (0, 600), .inl (0, 600), .inl (0, 8), .inl (0, 80)]
theorem c_addE {a b : Int} (h1 : -2147483648 ≤ a + b) (h2 : a + b ≤ 2147483647) : c_bin (· + ·) a b = a + b := by
  unfold c_bin
  dsimp only
  rw [← Int32.ofInt_add, Int32.toInt_ofInt]
  exact Int.bmod_eq_of_le (by omega) (by omega)
theorem c_subE {a b : Int} (h1 : -2147483648 ≤ a - b) (h2 : a - b ≤ 2147483647) : c_bin (· - ·) a b = a - b := by
  unfold c_bin
  dsimp only
  rw [← Int32.ofInt_sub, Int32.toInt_ofInt]
  exact Int.bmod_eq_of_le (by omega) (by omega)
theorem c_mulE {a b : Int} (h1 : -2147483648 ≤ a * b) (h2 : a * b ≤ 2147483647) : c_bin (· * ·) a b = a * b := by
  unfold c_bin
  dsimp only
  rw [← Int32.ofInt_mul, Int32.toInt_ofInt]
  exact Int.bmod_eq_of_le (by omega) (by omega)
def c_and (a b : Int) : Int := c_bin (· &&& ·) a b
def c_or (a b : Int) : Int := c_bin (· ||| ·) a b
def c_xor (a b : Int) : Int := c_bin (· ^^^ ·) a b
def c_shl (a b : Int) : Int := c_bin (fun x y => x <<< (y &&& 31)) a b
def c_shr (a b : Int) : Int := c_bin (fun x y => x >>> (y &&& 31)) a b
def c_ushr (a b : Int) : Int := c_bin (fun x y => (x.toUInt32 >>> (y.toUInt32 &&& Int32.toUInt32 31)).toInt32) a b
theorem c_fitB {v : Int} (h : v = 0 ∨ v = 1) : c_fit 3 (0, v) = true := by simpa [c_fit] using h

theorem kx_103_0 : x_code k_P 103 0 = some (.bipush 24, 2) := by decide +kernel
theorem kx_103_2 : x_code k_P 103 2 = some (.istore_n 2, 1) := by decide +kernel
theorem kx_103_3 : x_code k_P 103 3 = some (.iload_n 2, 1) := by decide +kernel
theorem kx_103_4 : x_code k_P 103 4 = some (.ifCond .lt 47, 3) := by decide +kernel
theorem kx_103_7 : x_code k_P 103 7 = some (.aload_n 0, 1) := by decide +kernel
theorem kx_103_8 : x_code k_P 103 8 = some (.getfield 15, 3) := by decide +kernel
theorem kx_103_11 : x_code k_P 103 11 = some (.aload_n 0, 1) := by decide +kernel
theorem kx_103_12 : x_code k_P 103 12 = some (.getfield 9, 3) := by decide +kernel
theorem kx_103_15 : x_code k_P 103 15 = some (.arraylength, 1) := by decide +kernel
theorem kx_103_16 : x_code k_P 103 16 = some (.if_icmp .ge 35, 3) := by decide +kernel
theorem kx_103_19 : x_code k_P 103 19 = some (.aload_n 0, 1) := by decide +kernel
theorem kx_103_20 : x_code k_P 103 20 = some (.getfield 9, 3) := by decide +kernel
theorem kx_103_23 : x_code k_P 103 23 = some (.aload_n 0, 1) := by decide +kernel
theorem kx_103_24 : x_code k_P 103 24 = some (.getfield 15, 3) := by decide +kernel
theorem kx_103_27 : x_code k_P 103 27 = some (.iload_n 1, 1) := by decide +kernel
theorem kx_103_28 : x_code k_P 103 28 = some (.iload_n 2, 1) := by decide +kernel
theorem kx_103_29 : x_code k_P 103 29 = some (.iushr, 1) := by decide +kernel
theorem kx_103_30 : x_code k_P 103 30 = some (.sipush 255, 3) := by decide +kernel
theorem kx_103_33 : x_code k_P 103 33 = some (.iand, 1) := by decide +kernel
theorem kx_103_34 : x_code k_P 103 34 = some (.iastore, 1) := by decide +kernel
theorem kx_103_35 : x_code k_P 103 35 = some (.aload_n 0, 1) := by decide +kernel
theorem kx_103_36 : x_code k_P 103 36 = some (.dup, 1) := by decide +kernel
theorem kx_103_37 : x_code k_P 103 37 = some (.getfield 15, 3) := by decide +kernel
theorem kx_103_40 : x_code k_P 103 40 = some (.iconst 1, 1) := by decide +kernel
theorem kx_103_41 : x_code k_P 103 41 = some (.iadd, 1) := by decide +kernel
theorem kx_103_42 : x_code k_P 103 42 = some (.putfield 15, 3) := by decide +kernel
theorem kx_103_45 : x_code k_P 103 45 = some (.iinc 2 (-8), 3) := by decide +kernel
theorem kx_103_48 : x_code k_P 103 48 = some (.goto (-45), 3) := by decide +kernel
theorem kx_103_51 : x_code k_P 103 51 = some (.return_, 1) := by decide +kernel
theorem kx_136_0 : x_code k_P 136 0 = some (.aload_n 0, 1) := by decide +kernel
theorem kx_136_1 : x_code k_P 136 1 = some (.getfield 10, 3) := by decide +kernel
theorem kx_136_4 : x_code k_P 136 4 = some (.getfield 78, 3) := by decide +kernel
theorem kx_136_7 : x_code k_P 136 7 = some (.bipush 20, 2) := by decide +kernel
theorem kx_136_9 : x_code k_P 136 9 = some (.iadd, 1) := by decide +kernel
theorem kx_136_10 : x_code k_P 136 10 = some (.sipush 1600, 3) := by decide +kernel
theorem kx_136_13 : x_code k_P 136 13 = some (.if_icmp .le 9, 3) := by decide +kernel
theorem kx_136_16 : x_code k_P 136 16 = some (.aload_n 0, 1) := by decide +kernel
theorem kx_136_17 : x_code k_P 136 17 = some (.iconst 0, 1) := by decide +kernel
theorem kx_136_18 : x_code k_P 136 18 = some (.invokevirtual 81, 3) := by decide +kernel
theorem kx_136_21 : x_code k_P 136 21 = some (.ireturn, 1) := by decide +kernel
theorem kx_136_22 : x_code k_P 136 22 = some (.aload_n 0, 1) := by decide +kernel
theorem kx_136_23 : x_code k_P 136 23 = some (.getfield 10, 3) := by decide +kernel
theorem kx_136_26 : x_code k_P 136 26 = some (.iload_n 1, 1) := by decide +kernel
theorem kx_136_27 : x_code k_P 136 27 = some (.invokevirtual 85, 3) := by decide +kernel
theorem kx_136_30 : x_code k_P 136 30 = some (.aload_n 0, 1) := by decide +kernel
theorem kx_136_31 : x_code k_P 136 31 = some (.getfield 10, 3) := by decide +kernel
theorem kx_136_34 : x_code k_P 136 34 = some (.iload_n 2, 1) := by decide +kernel
theorem kx_136_35 : x_code k_P 136 35 = some (.invokevirtual 85, 3) := by decide +kernel
theorem kx_136_38 : x_code k_P 136 38 = some (.aload_n 0, 1) := by decide +kernel
theorem kx_136_39 : x_code k_P 136 39 = some (.getfield 10, 3) := by decide +kernel
theorem kx_136_42 : x_code k_P 136 42 = some (.iload_n 3, 1) := by decide +kernel
theorem kx_136_43 : x_code k_P 136 43 = some (.invokevirtual 85, 3) := by decide +kernel
theorem kx_136_46 : x_code k_P 136 46 = some (.aload_n 0, 1) := by decide +kernel
theorem kx_136_47 : x_code k_P 136 47 = some (.getfield 10, 3) := by decide +kernel
theorem kx_136_50 : x_code k_P 136 50 = some (.iload 4, 2) := by decide +kernel
theorem kx_136_52 : x_code k_P 136 52 = some (.invokevirtual 85, 3) := by decide +kernel
theorem kx_136_55 : x_code k_P 136 55 = some (.aload_n 0, 1) := by decide +kernel
theorem kx_136_56 : x_code k_P 136 56 = some (.getfield 10, 3) := by decide +kernel
theorem kx_136_59 : x_code k_P 136 59 = some (.iload 5, 2) := by decide +kernel
theorem kx_136_61 : x_code k_P 136 61 = some (.invokevirtual 85, 3) := by decide +kernel
theorem kx_136_64 : x_code k_P 136 64 = some (.aload_n 0, 1) := by decide +kernel
theorem kx_136_65 : x_code k_P 136 65 = some (.getfield 10, 3) := by decide +kernel
theorem kx_136_68 : x_code k_P 136 68 = some (.getfield 78, 3) := by decide +kernel
theorem kx_136_71 : x_code k_P 136 71 = some (.ireturn, 1) := by decide +kernel
theorem kx_165_0 : x_code k_P 165 0 = some (.iload_n 1, 1) := by decide +kernel
theorem kx_165_1 : x_code k_P 165 1 = some (.ifCond .lt 22, 3) := by decide +kernel
theorem kx_165_4 : x_code k_P 165 4 = some (.iload_n 1, 1) := by decide +kernel
theorem kx_165_5 : x_code k_P 165 5 = some (.aload_n 0, 1) := by decide +kernel
theorem kx_165_6 : x_code k_P 165 6 = some (.getfield 58, 3) := by decide +kernel
theorem kx_165_9 : x_code k_P 165 9 = some (.arraylength, 1) := by decide +kernel
theorem kx_165_10 : x_code k_P 165 10 = some (.if_icmp .ge 13, 3) := by decide +kernel
theorem kx_165_13 : x_code k_P 165 13 = some (.aload_n 0, 1) := by decide +kernel
theorem kx_165_14 : x_code k_P 165 14 = some (.getfield 58, 3) := by decide +kernel
theorem kx_165_17 : x_code k_P 165 17 = some (.iload_n 1, 1) := by decide +kernel
theorem kx_165_18 : x_code k_P 165 18 = some (.dup2, 1) := by decide +kernel
theorem kx_165_19 : x_code k_P 165 19 = some (.iaload, 1) := by decide +kernel
theorem kx_165_20 : x_code k_P 165 20 = some (.iconst 1, 1) := by decide +kernel
theorem kx_165_21 : x_code k_P 165 21 = some (.iadd, 1) := by decide +kernel
theorem kx_165_22 : x_code k_P 165 22 = some (.iastore, 1) := by decide +kernel
theorem kx_165_23 : x_code k_P 165 23 = some (.iconst (-1), 1) := by decide +kernel
theorem kx_165_24 : x_code k_P 165 24 = some (.ireturn, 1) := by decide +kernel
theorem kp_103_9 : x_pool k_P 103 9 = (1, 8, 0) := by decide +kernel
theorem kp_103_15 : x_pool k_P 103 15 = (1, 8, 1) := by decide +kernel
theorem kp_136_10 : x_pool k_P 136 10 = (1, 11, 0) := by decide +kernel
theorem kp_136_78 : x_pool k_P 136 78 = (1, 8, 1) := by decide +kernel
theorem kp_136_81 : x_pool k_P 136 81 = (2, 165, 1) := by decide +kernel
theorem kp_136_85 : x_pool k_P 136 85 = (2, 103, 1) := by decide +kernel
theorem kp_165_58 : x_pool k_P 165 58 = (1, 11, 7) := by decide +kernel
theorem kl_103 : x_maxL k_P 103 = 3 := by decide +kernel
theorem kq_103 : x_retk k_P 103 = 0 := by decide +kernel
theorem ki_103 : x_mci k_P 103 = 8 := by decide +kernel
theorem kl_136 : x_maxL k_P 136 = 6 := by decide +kernel
theorem kq_136 : x_retk k_P 136 = 1 := by decide +kernel
theorem ki_136 : x_mci k_P 136 = 11 := by decide +kernel
theorem kl_165 : x_maxL k_P 165 = 2 := by decide +kernel
theorem kq_165 : x_retk k_P 165 = 1 := by decide +kernel
theorem ki_165 : x_mci k_P 165 = 11 := by decide +kernel
theorem kf_0_0 : (x_cls k_P 0)[0]? = some 12 := by decide +kernel
theorem kf_0_1 : (x_cls k_P 0)[1]? = some 12 := by decide +kernel
theorem kf_0_2 : (x_cls k_P 0)[2]? = some 0 := by decide +kernel
theorem kf_1_0 : (x_cls k_P 1)[0]? = some 12 := by decide +kernel
theorem kf_1_1 : (x_cls k_P 1)[1]? = some 2 := by decide +kernel
theorem kf_1_2 : (x_cls k_P 1)[2]? = some 0 := by decide +kernel
theorem kf_2_0 : (x_cls k_P 2)[0]? = some 12 := by decide +kernel
theorem kf_2_1 : (x_cls k_P 2)[1]? = some 0 := by decide +kernel
theorem kf_2_2 : (x_cls k_P 2)[2]? = some 0 := by decide +kernel
theorem kf_3_0 : (x_cls k_P 3)[0]? = some 2 := by decide +kernel
theorem kf_3_1 : (x_cls k_P 3)[1]? = some 0 := by decide +kernel
theorem kf_3_2 : (x_cls k_P 3)[2]? = some 0 := by decide +kernel
theorem kf_3_3 : (x_cls k_P 3)[3]? = some 0 := by decide +kernel
theorem kf_3_4 : (x_cls k_P 3)[4]? = some 0 := by decide +kernel
theorem kf_3_5 : (x_cls k_P 3)[5]? = some 0 := by decide +kernel
theorem kf_3_6 : (x_cls k_P 3)[6]? = some 0 := by decide +kernel
theorem kf_3_7 : (x_cls k_P 3)[7]? = some 0 := by decide +kernel
theorem kf_4_0 : (x_cls k_P 4)[0]? = some 12 := by decide +kernel
theorem kf_4_1 : (x_cls k_P 4)[1]? = some 12 := by decide +kernel
theorem kf_4_2 : (x_cls k_P 4)[2]? = some 12 := by decide +kernel
theorem kf_4_3 : (x_cls k_P 4)[3]? = some 12 := by decide +kernel
theorem kf_4_4 : (x_cls k_P 4)[4]? = some 0 := by decide +kernel
theorem kf_4_5 : (x_cls k_P 4)[5]? = some 0 := by decide +kernel
theorem kf_4_6 : (x_cls k_P 4)[6]? = some 0 := by decide +kernel
theorem kf_5_0 : (x_cls k_P 5)[0]? = some 2 := by decide +kernel
theorem kf_5_1 : (x_cls k_P 5)[1]? = some 2 := by decide +kernel
theorem kf_5_2 : (x_cls k_P 5)[2]? = some 12 := by decide +kernel
theorem kf_5_3 : (x_cls k_P 5)[3]? = some 12 := by decide +kernel
theorem kf_6_0 : (x_cls k_P 6)[0]? = some 12 := by decide +kernel
theorem kf_6_1 : (x_cls k_P 6)[1]? = some 12 := by decide +kernel
theorem kf_6_2 : (x_cls k_P 6)[2]? = some 12 := by decide +kernel
theorem kf_6_3 : (x_cls k_P 6)[3]? = some 12 := by decide +kernel
theorem kf_6_4 : (x_cls k_P 6)[4]? = some 12 := by decide +kernel
theorem kf_6_5 : (x_cls k_P 6)[5]? = some 12 := by decide +kernel
theorem kf_6_6 : (x_cls k_P 6)[6]? = some 3 := by decide +kernel
theorem kf_6_7 : (x_cls k_P 6)[7]? = some 0 := by decide +kernel
theorem kf_7_0 : (x_cls k_P 7)[0]? = some 12 := by decide +kernel
theorem kf_8_0 : (x_cls k_P 8)[0]? = some 12 := by decide +kernel
theorem kf_8_1 : (x_cls k_P 8)[1]? = some 0 := by decide +kernel
theorem kf_9_0 : (x_cls k_P 9)[0]? = some 0 := by decide +kernel
theorem kf_9_1 : (x_cls k_P 9)[1]? = some 0 := by decide +kernel
theorem kf_9_2 : (x_cls k_P 9)[2]? = some 0 := by decide +kernel
theorem kf_9_3 : (x_cls k_P 9)[3]? = some 0 := by decide +kernel
theorem kf_9_4 : (x_cls k_P 9)[4]? = some 12 := by decide +kernel
theorem kf_9_5 : (x_cls k_P 9)[5]? = some 12 := by decide +kernel
theorem kf_9_6 : (x_cls k_P 9)[6]? = some 12 := by decide +kernel
theorem kf_9_7 : (x_cls k_P 9)[7]? = some 12 := by decide +kernel
theorem kf_9_8 : (x_cls k_P 9)[8]? = some 12 := by decide +kernel
theorem kf_9_9 : (x_cls k_P 9)[9]? = some 12 := by decide +kernel
theorem kf_9_10 : (x_cls k_P 9)[10]? = some 12 := by decide +kernel
theorem kf_9_11 : (x_cls k_P 9)[11]? = some 12 := by decide +kernel
theorem kf_9_12 : (x_cls k_P 9)[12]? = some 12 := by decide +kernel
theorem kf_9_13 : (x_cls k_P 9)[13]? = some 12 := by decide +kernel
theorem kf_9_14 : (x_cls k_P 9)[14]? = some 12 := by decide +kernel
theorem kf_9_15 : (x_cls k_P 9)[15]? = some 12 := by decide +kernel
theorem kf_10_0 : (x_cls k_P 10)[0]? = some 12 := by decide +kernel
theorem kf_10_1 : (x_cls k_P 10)[1]? = some 12 := by decide +kernel
theorem kf_10_2 : (x_cls k_P 10)[2]? = some 0 := by decide +kernel
theorem kf_11_0 : (x_cls k_P 11)[0]? = some 12 := by decide +kernel
theorem kf_11_1 : (x_cls k_P 11)[1]? = some 12 := by decide +kernel
theorem kf_11_2 : (x_cls k_P 11)[2]? = some 12 := by decide +kernel
theorem kf_11_3 : (x_cls k_P 11)[3]? = some 12 := by decide +kernel
theorem kf_11_4 : (x_cls k_P 11)[4]? = some 12 := by decide +kernel
theorem kf_11_5 : (x_cls k_P 11)[5]? = some 12 := by decide +kernel
theorem kf_11_6 : (x_cls k_P 11)[6]? = some 12 := by decide +kernel
theorem kf_11_7 : (x_cls k_P 11)[7]? = some 12 := by decide +kernel
theorem kf_11_8 : (x_cls k_P 11)[8]? = some 12 := by decide +kernel
theorem kf_11_9 : (x_cls k_P 11)[9]? = some 0 := by decide +kernel
theorem kf_11_10 : (x_cls k_P 11)[10]? = some 0 := by decide +kernel
theorem kf_11_11 : (x_cls k_P 11)[11]? = some 0 := by decide +kernel
theorem kf_11_12 : (x_cls k_P 11)[12]? = some 0 := by decide +kernel
theorem kf_12_0 : (x_cls k_P 12)[0]? = some 12 := by decide +kernel
theorem kf_12_1 : (x_cls k_P 12)[1]? = some 0 := by decide +kernel
theorem kf_12_2 : (x_cls k_P 12)[2]? = some 0 := by decide +kernel
theorem kf_12_3 : (x_cls k_P 12)[3]? = some 0 := by decide +kernel
theorem kf_12_4 : (x_cls k_P 12)[4]? = some 0 := by decide +kernel
theorem kf_12_5 : (x_cls k_P 12)[5]? = some 0 := by decide +kernel
theorem kf_12_6 : (x_cls k_P 12)[6]? = some 0 := by decide +kernel
theorem kf_12_7 : (x_cls k_P 12)[7]? = some 1 := by decide +kernel
theorem kf_12_8 : (x_cls k_P 12)[8]? = some 0 := by decide +kernel
theorem kf_12_9 : (x_cls k_P 12)[9]? = some 0 := by decide +kernel
theorem kf_12_10 : (x_cls k_P 12)[10]? = some 0 := by decide +kernel
theorem kf_12_11 : (x_cls k_P 12)[11]? = some 0 := by decide +kernel
theorem kf_12_12 : (x_cls k_P 12)[12]? = some 0 := by decide +kernel
theorem kf_12_13 : (x_cls k_P 12)[13]? = some 0 := by decide +kernel
theorem kf_12_14 : (x_cls k_P 12)[14]? = some 0 := by decide +kernel
theorem kf_12_15 : (x_cls k_P 12)[15]? = some 12 := by decide +kernel
theorem kf_12_16 : (x_cls k_P 12)[16]? = some 12 := by decide +kernel
theorem kf_12_17 : (x_cls k_P 12)[17]? = some 12 := by decide +kernel
theorem kf_12_18 : (x_cls k_P 12)[18]? = some 12 := by decide +kernel
theorem kf_12_19 : (x_cls k_P 12)[19]? = some 12 := by decide +kernel
theorem kf_12_20 : (x_cls k_P 12)[20]? = some 12 := by decide +kernel
theorem kf_12_21 : (x_cls k_P 12)[21]? = some 12 := by decide +kernel
theorem kf_12_22 : (x_cls k_P 12)[22]? = some 12 := by decide +kernel
theorem kf_12_23 : (x_cls k_P 12)[23]? = some 12 := by decide +kernel
theorem kf_12_24 : (x_cls k_P 12)[24]? = some 12 := by decide +kernel
theorem kf_12_25 : (x_cls k_P 12)[25]? = some 12 := by decide +kernel
theorem kf_12_26 : (x_cls k_P 12)[26]? = some 12 := by decide +kernel
theorem kf_12_27 : (x_cls k_P 12)[27]? = some 12 := by decide +kernel
theorem kf_12_28 : (x_cls k_P 12)[28]? = some 12 := by decide +kernel
theorem kf_12_29 : (x_cls k_P 12)[29]? = some 12 := by decide +kernel
theorem kf_12_30 : (x_cls k_P 12)[30]? = some 12 := by decide +kernel
theorem kf_12_31 : (x_cls k_P 12)[31]? = some 12 := by decide +kernel
theorem kf_12_32 : (x_cls k_P 12)[32]? = some 12 := by decide +kernel
theorem kf_12_33 : (x_cls k_P 12)[33]? = some 12 := by decide +kernel
theorem kf_12_34 : (x_cls k_P 12)[34]? = some 12 := by decide +kernel
theorem kf_12_35 : (x_cls k_P 12)[35]? = some 0 := by decide +kernel
theorem kf_12_36 : (x_cls k_P 12)[36]? = some 0 := by decide +kernel
theorem kf_12_37 : (x_cls k_P 12)[37]? = some 12 := by decide +kernel
theorem kf_12_38 : (x_cls k_P 12)[38]? = some 12 := by decide +kernel
theorem kf_12_39 : (x_cls k_P 12)[39]? = some 12 := by decide +kernel
theorem kf_12_40 : (x_cls k_P 12)[40]? = some 12 := by decide +kernel
theorem kf_12_41 : (x_cls k_P 12)[41]? = some 12 := by decide +kernel
theorem kf_12_42 : (x_cls k_P 12)[42]? = some 0 := by decide +kernel
theorem kf_12_43 : (x_cls k_P 12)[43]? = some 0 := by decide +kernel
theorem kf_12_44 : (x_cls k_P 12)[44]? = some 12 := by decide +kernel
theorem kf_12_45 : (x_cls k_P 12)[45]? = some 0 := by decide +kernel
theorem kf_12_46 : (x_cls k_P 12)[46]? = some 3 := by decide +kernel
theorem kf_12_47 : (x_cls k_P 12)[47]? = some 12 := by decide +kernel
theorem kf_12_48 : (x_cls k_P 12)[48]? = some 12 := by decide +kernel
theorem kf_12_49 : (x_cls k_P 12)[49]? = some 12 := by decide +kernel
theorem kf_12_50 : (x_cls k_P 12)[50]? = some 12 := by decide +kernel
theorem kf_12_51 : (x_cls k_P 12)[51]? = some 12 := by decide +kernel
theorem kf_12_52 : (x_cls k_P 12)[52]? = some 12 := by decide +kernel
theorem kf_12_53 : (x_cls k_P 12)[53]? = some 12 := by decide +kernel
theorem kf_12_54 : (x_cls k_P 12)[54]? = some 12 := by decide +kernel
theorem kf_12_55 : (x_cls k_P 12)[55]? = some 12 := by decide +kernel
theorem kf_12_56 : (x_cls k_P 12)[56]? = some 12 := by decide +kernel
theorem kf_12_57 : (x_cls k_P 12)[57]? = some 12 := by decide +kernel
theorem kf_12_58 : (x_cls k_P 12)[58]? = some 0 := by decide +kernel
theorem kf_12_59 : (x_cls k_P 12)[59]? = some 0 := by decide +kernel
theorem kf_12_60 : (x_cls k_P 12)[60]? = some 1 := by decide +kernel
theorem kf_12_61 : (x_cls k_P 12)[61]? = some 12 := by decide +kernel
theorem kf_12_62 : (x_cls k_P 12)[62]? = some 0 := by decide +kernel
theorem kf_12_63 : (x_cls k_P 12)[63]? = some 0 := by decide +kernel
theorem kf_12_64 : (x_cls k_P 12)[64]? = some 0 := by decide +kernel
theorem kf_12_65 : (x_cls k_P 12)[65]? = some 12 := by decide +kernel
theorem kf_12_66 : (x_cls k_P 12)[66]? = some 12 := by decide +kernel
theorem kf_12_67 : (x_cls k_P 12)[67]? = some 12 := by decide +kernel
theorem kf_12_68 : (x_cls k_P 12)[68]? = some 0 := by decide +kernel
theorem kf_12_69 : (x_cls k_P 12)[69]? = some 12 := by decide +kernel
theorem kf_12_70 : (x_cls k_P 12)[70]? = some 3 := by decide +kernel
theorem kf_12_71 : (x_cls k_P 12)[71]? = some 12 := by decide +kernel
theorem kf_12_72 : (x_cls k_P 12)[72]? = some 0 := by decide +kernel
theorem kf_12_73 : (x_cls k_P 12)[73]? = some 12 := by decide +kernel
theorem kf_12_74 : (x_cls k_P 12)[74]? = some 12 := by decide +kernel
theorem kf_12_75 : (x_cls k_P 12)[75]? = some 12 := by decide +kernel
theorem kf_12_76 : (x_cls k_P 12)[76]? = some 12 := by decide +kernel
theorem kf_12_77 : (x_cls k_P 12)[77]? = some 12 := by decide +kernel
theorem kf_12_78 : (x_cls k_P 12)[78]? = some 12 := by decide +kernel
theorem kf_12_79 : (x_cls k_P 12)[79]? = some 0 := by decide +kernel
def f_append (M : cM) (x : Int) : cM := (c_up (c_up (c_up (c_up (c_up (c_up (c_up (c_up M 2 ((M 1 1)).toNat (c_and (c_ushr x 24) 255)) 1 1 ((M 1 1) + 1)) 2 (((M 1 1) + 1)).toNat (c_and (c_ushr x 16) 255)) 1 1 (((M 1 1) + 1) + 1)) 2 ((((M 1 1) + 1) + 1)).toNat (c_and (c_ushr x 8) 255)) 1 1 ((((M 1 1) + 1) + 1) + 1)) 2 (((((M 1 1) + 1) + 1) + 1)).toNat (c_and (c_ushr x 0) 255)) 1 1 (((((M 1 1) + 1) + 1) + 1) + 1))
theorem m_append {xs : Nat → Int} {Ln d : Nat} {E : List cK} {M : cM} {x : Int} (h10 : M 1 0 = 2) (hl : 0 ≤ M 1 1) (hl2 : M 1 1 + 4 ≤ 1600) : cC k_P xs Ln (d) 103 [(3, 1), (0, x)] (k_T0 ++ E, M) (fun r h => r = none ∧ h = (k_T0 ++ E, f_append M x)) := by
  show cP k_P xs Ln (d) 103 0 [(0, (3, 1)), (1, (0, x))] [] (k_T0 ++ E, M) _
  refine s_bipush (v := 24) kx_103_0 (by decide) ?_
  refine s_istore_n kx_103_2 (by rw [kl_103]; decide) rfl ?_
  refine s_iload_n kx_103_3 rfl ?_
  refine s_if_lt (t := 51) kx_103_4 (by decide) (fun hc1 => absurd hc1 (by decide)) (fun _ => ?_)
  refine s_aload_n kx_103_7 rfl ?_
  refine s_getf (k := 1) (f := 1) (v := (0, (M 1 1))) kx_103_8 kp_103_15 rfl kf_8_1 rfl ?_
  refine s_aload_n kx_103_11 rfl ?_
  refine s_getf (k := 1) (f := 0) (v := (3, 2)) kx_103_12 kp_103_9 rfl kf_8_0 (by show c_fld 12 (M 1 0) = _; rw [h10]; rfl) ?_
  refine s_alen (k := 2) kx_103_15 rfl ⟨by decide, by decide⟩ ?_
  refine s_icmp_ge (t := 51) kx_103_16 (by decide) (fun hc2 => absurd hc2 (by omega)) (fun _ => ?_)
  refine s_aload_n kx_103_19 rfl ?_
  refine s_getf (k := 1) (f := 0) (v := (3, 2)) kx_103_20 kp_103_9 rfl kf_8_0 (by show c_fld 12 (M 1 0) = _; rw [h10]; rfl) ?_
  refine s_aload_n kx_103_23 rfl ?_
  refine s_getf (k := 1) (f := 1) (v := (0, (M 1 1))) kx_103_24 kp_103_15 rfl kf_8_1 rfl ?_
  refine s_iload_n kx_103_27 rfl ?_
  refine s_iload_n kx_103_28 rfl ?_
  refine s_iushr (z := (c_ushr x 24)) kx_103_29 rfl ?_
  refine s_sipush (v := 255) kx_103_30 (by decide) ?_
  refine s_iand (z := (c_and (c_ushr x 24) 255)) kx_103_33 rfl ?_
  refine s_iast (k := 2) kx_103_34 rfl ⟨by omega, by omega⟩ rfl ?_
  refine s_aload_n kx_103_35 rfl ?_
  refine s_dup kx_103_36 rfl ?_
  refine s_getf (k := 1) (f := 1) (v := (0, (M 1 1))) kx_103_37 kp_103_15 rfl kf_8_1 rfl ?_
  refine s_iconst (v := 1) kx_103_40 (by decide) ?_
  refine s_iadd (z := ((M 1 1) + 1)) kx_103_41 (c_addE (by omega) (by omega)) ?_
  refine s_putf (k := 1) (f := 1) kx_103_42 kp_103_15 rfl kf_8_1 rfl (Or.inl (by decide)) rfl ?_
  show cP _ _ _ _ _ _ _ _ (_, (c_up (c_up M 2 ((M 1 1)).toNat (c_and (c_ushr x 24) 255)) 1 1 ((M 1 1) + 1))) _
  refine s_iinc (w := 16) kx_103_45 rfl (by rw [kl_103]; decide) (by decide) rfl ?_
  refine s_goto (t := 3) kx_103_48 (by decide) ?_
  refine s_iload_n kx_103_3 rfl ?_
  refine s_if_lt (t := 51) kx_103_4 (by decide) (fun hc3 => absurd hc3 (by decide)) (fun _ => ?_)
  refine s_aload_n kx_103_7 rfl ?_
  refine s_getf (k := 1) (f := 1) (v := (0, ((M 1 1) + 1))) kx_103_8 kp_103_15 rfl kf_8_1 rfl ?_
  refine s_aload_n kx_103_11 rfl ?_
  refine s_getf (k := 1) (f := 0) (v := (3, 2)) kx_103_12 kp_103_9 rfl kf_8_0 (by show c_fld 12 (M 1 0) = _; rw [h10]; rfl) ?_
  refine s_alen (k := 2) kx_103_15 rfl ⟨by decide, by decide⟩ ?_
  refine s_icmp_ge (t := 51) kx_103_16 (by decide) (fun hc4 => absurd hc4 (by omega)) (fun _ => ?_)
  refine s_aload_n kx_103_19 rfl ?_
  refine s_getf (k := 1) (f := 0) (v := (3, 2)) kx_103_20 kp_103_9 rfl kf_8_0 (by show c_fld 12 (M 1 0) = _; rw [h10]; rfl) ?_
  refine s_aload_n kx_103_23 rfl ?_
  refine s_getf (k := 1) (f := 1) (v := (0, ((M 1 1) + 1))) kx_103_24 kp_103_15 rfl kf_8_1 rfl ?_
  refine s_iload_n kx_103_27 rfl ?_
  refine s_iload_n kx_103_28 rfl ?_
  refine s_iushr (z := (c_ushr x 16)) kx_103_29 rfl ?_
  refine s_sipush (v := 255) kx_103_30 (by decide) ?_
  refine s_iand (z := (c_and (c_ushr x 16) 255)) kx_103_33 rfl ?_
  refine s_iast (k := 2) kx_103_34 rfl ⟨by omega, by omega⟩ rfl ?_
  refine s_aload_n kx_103_35 rfl ?_
  refine s_dup kx_103_36 rfl ?_
  refine s_getf (k := 1) (f := 1) (v := (0, ((M 1 1) + 1))) kx_103_37 kp_103_15 rfl kf_8_1 rfl ?_
  refine s_iconst (v := 1) kx_103_40 (by decide) ?_
  refine s_iadd (z := (((M 1 1) + 1) + 1)) kx_103_41 (c_addE (by omega) (by omega)) ?_
  refine s_putf (k := 1) (f := 1) kx_103_42 kp_103_15 rfl kf_8_1 rfl (Or.inl (by decide)) rfl ?_
  show cP _ _ _ _ _ _ _ _ (_, (c_up (c_up (c_up (c_up M 2 ((M 1 1)).toNat (c_and (c_ushr x 24) 255)) 1 1 ((M 1 1) + 1)) 2 (((M 1 1) + 1)).toNat (c_and (c_ushr x 16) 255)) 1 1 (((M 1 1) + 1) + 1))) _
  refine s_iinc (w := 8) kx_103_45 rfl (by rw [kl_103]; decide) (by decide) rfl ?_
  refine s_goto (t := 3) kx_103_48 (by decide) ?_
  refine s_iload_n kx_103_3 rfl ?_
  refine s_if_lt (t := 51) kx_103_4 (by decide) (fun hc5 => absurd hc5 (by decide)) (fun _ => ?_)
  refine s_aload_n kx_103_7 rfl ?_
  refine s_getf (k := 1) (f := 1) (v := (0, (((M 1 1) + 1) + 1))) kx_103_8 kp_103_15 rfl kf_8_1 rfl ?_
  refine s_aload_n kx_103_11 rfl ?_
  refine s_getf (k := 1) (f := 0) (v := (3, 2)) kx_103_12 kp_103_9 rfl kf_8_0 (by show c_fld 12 (M 1 0) = _; rw [h10]; rfl) ?_
  refine s_alen (k := 2) kx_103_15 rfl ⟨by decide, by decide⟩ ?_
  refine s_icmp_ge (t := 51) kx_103_16 (by decide) (fun hc6 => absurd hc6 (by omega)) (fun _ => ?_)
  refine s_aload_n kx_103_19 rfl ?_
  refine s_getf (k := 1) (f := 0) (v := (3, 2)) kx_103_20 kp_103_9 rfl kf_8_0 (by show c_fld 12 (M 1 0) = _; rw [h10]; rfl) ?_
  refine s_aload_n kx_103_23 rfl ?_
  refine s_getf (k := 1) (f := 1) (v := (0, (((M 1 1) + 1) + 1))) kx_103_24 kp_103_15 rfl kf_8_1 rfl ?_
  refine s_iload_n kx_103_27 rfl ?_
  refine s_iload_n kx_103_28 rfl ?_
  refine s_iushr (z := (c_ushr x 8)) kx_103_29 rfl ?_
  refine s_sipush (v := 255) kx_103_30 (by decide) ?_
  refine s_iand (z := (c_and (c_ushr x 8) 255)) kx_103_33 rfl ?_
  refine s_iast (k := 2) kx_103_34 rfl ⟨by omega, by omega⟩ rfl ?_
  refine s_aload_n kx_103_35 rfl ?_
  refine s_dup kx_103_36 rfl ?_
  refine s_getf (k := 1) (f := 1) (v := (0, (((M 1 1) + 1) + 1))) kx_103_37 kp_103_15 rfl kf_8_1 rfl ?_
  refine s_iconst (v := 1) kx_103_40 (by decide) ?_
  refine s_iadd (z := ((((M 1 1) + 1) + 1) + 1)) kx_103_41 (c_addE (by omega) (by omega)) ?_
  refine s_putf (k := 1) (f := 1) kx_103_42 kp_103_15 rfl kf_8_1 rfl (Or.inl (by decide)) rfl ?_
  show cP _ _ _ _ _ _ _ _ (_, (c_up (c_up (c_up (c_up (c_up (c_up M 2 ((M 1 1)).toNat (c_and (c_ushr x 24) 255)) 1 1 ((M 1 1) + 1)) 2 (((M 1 1) + 1)).toNat (c_and (c_ushr x 16) 255)) 1 1 (((M 1 1) + 1) + 1)) 2 ((((M 1 1) + 1) + 1)).toNat (c_and (c_ushr x 8) 255)) 1 1 ((((M 1 1) + 1) + 1) + 1))) _
  refine s_iinc (w := 0) kx_103_45 rfl (by rw [kl_103]; decide) (by decide) rfl ?_
  refine s_goto (t := 3) kx_103_48 (by decide) ?_
  refine s_iload_n kx_103_3 rfl ?_
  refine s_if_lt (t := 51) kx_103_4 (by decide) (fun hc7 => absurd hc7 (by decide)) (fun _ => ?_)
  refine s_aload_n kx_103_7 rfl ?_
  refine s_getf (k := 1) (f := 1) (v := (0, ((((M 1 1) + 1) + 1) + 1))) kx_103_8 kp_103_15 rfl kf_8_1 rfl ?_
  refine s_aload_n kx_103_11 rfl ?_
  refine s_getf (k := 1) (f := 0) (v := (3, 2)) kx_103_12 kp_103_9 rfl kf_8_0 (by show c_fld 12 (M 1 0) = _; rw [h10]; rfl) ?_
  refine s_alen (k := 2) kx_103_15 rfl ⟨by decide, by decide⟩ ?_
  refine s_icmp_ge (t := 51) kx_103_16 (by decide) (fun hc8 => absurd hc8 (by omega)) (fun _ => ?_)
  refine s_aload_n kx_103_19 rfl ?_
  refine s_getf (k := 1) (f := 0) (v := (3, 2)) kx_103_20 kp_103_9 rfl kf_8_0 (by show c_fld 12 (M 1 0) = _; rw [h10]; rfl) ?_
  refine s_aload_n kx_103_23 rfl ?_
  refine s_getf (k := 1) (f := 1) (v := (0, ((((M 1 1) + 1) + 1) + 1))) kx_103_24 kp_103_15 rfl kf_8_1 rfl ?_
  refine s_iload_n kx_103_27 rfl ?_
  refine s_iload_n kx_103_28 rfl ?_
  refine s_iushr (z := (c_ushr x 0)) kx_103_29 rfl ?_
  refine s_sipush (v := 255) kx_103_30 (by decide) ?_
  refine s_iand (z := (c_and (c_ushr x 0) 255)) kx_103_33 rfl ?_
  refine s_iast (k := 2) kx_103_34 rfl ⟨by omega, by omega⟩ rfl ?_
  refine s_aload_n kx_103_35 rfl ?_
  refine s_dup kx_103_36 rfl ?_
  refine s_getf (k := 1) (f := 1) (v := (0, ((((M 1 1) + 1) + 1) + 1))) kx_103_37 kp_103_15 rfl kf_8_1 rfl ?_
  refine s_iconst (v := 1) kx_103_40 (by decide) ?_
  refine s_iadd (z := (((((M 1 1) + 1) + 1) + 1) + 1)) kx_103_41 (c_addE (by omega) (by omega)) ?_
  refine s_putf (k := 1) (f := 1) kx_103_42 kp_103_15 rfl kf_8_1 rfl (Or.inl (by decide)) rfl ?_
  show cP _ _ _ _ _ _ _ _ (_, (c_up (c_up (c_up (c_up (c_up (c_up (c_up (c_up M 2 ((M 1 1)).toNat (c_and (c_ushr x 24) 255)) 1 1 ((M 1 1) + 1)) 2 (((M 1 1) + 1)).toNat (c_and (c_ushr x 16) 255)) 1 1 (((M 1 1) + 1) + 1)) 2 ((((M 1 1) + 1) + 1)).toNat (c_and (c_ushr x 8) 255)) 1 1 ((((M 1 1) + 1) + 1) + 1)) 2 (((((M 1 1) + 1) + 1) + 1)).toNat (c_and (c_ushr x 0) 255)) 1 1 (((((M 1 1) + 1) + 1) + 1) + 1))) _
  refine s_iinc (w := (-8)) kx_103_45 rfl (by rw [kl_103]; decide) (by decide) rfl ?_
  refine s_goto (t := 3) kx_103_48 (by decide) ?_
  refine s_iload_n kx_103_3 rfl ?_
  refine s_if_lt (t := 51) kx_103_4 (by decide) (fun _ => ?_) (fun hc9 => absurd hc9 (by decide))
  exact s_vret kx_103_51 kq_103 ⟨rfl, rfl⟩
theorem f_append_len (M : cM) (x : Int) : f_append M x 1 1 = M 1 1 + 4 := by
  show M 1 1 + 1 + 1 + 1 + 1 = M 1 1 + 4
  omega
theorem f_append_o {M : cM} {x : Int} {a b : Nat} (h2 : a ≠ 2) (h1 : ¬ (a = 1 ∧ b = 1)) : f_append M x a b = M a b := by
  simp [f_append, c_up, h2, h1]
def f_refuse (M : cM) (k : Int) : cM := c_up M 61 k.toNat (c_bin (· + ·) (M 61 k.toNat) 1)
theorem m_refuse {xs : Nat → Int} {Ln d : Nat} {E : List cK} {M : cM} {k : Int} (h07 : M 0 7 = 61) (hk : 0 ≤ k) (hk2 : k < 6) : cC k_P xs Ln (d) 165 [(3, 0), (0, k)] (k_T0 ++ E, M) (fun r h => r = some (0, -1) ∧ h = (k_T0 ++ E, f_refuse M k)) := by
  show cP k_P xs Ln (d) 165 0 [(0, (3, 0)), (1, (0, k))] [] (k_T0 ++ E, M) _
  refine s_iload_n kx_165_0 rfl ?_
  refine s_if_lt (t := 23) kx_165_1 (by decide) (fun hc1 => absurd hc1 (by omega)) (fun _ => ?_)
  refine s_iload_n kx_165_4 rfl ?_
  refine s_aload_n kx_165_5 rfl ?_
  refine s_getf (k := 0) (f := 7) (v := (3, 61)) kx_165_6 kp_165_58 rfl kf_11_7 (by show c_fld 12 (M 0 7) = _; rw [h07]; rfl) ?_
  refine s_alen (k := 61) kx_165_9 rfl ⟨by decide, by decide⟩ ?_
  refine s_icmp_ge (t := 23) kx_165_10 (by decide) (fun hc2 => absurd hc2 (by omega)) (fun _ => ?_)
  refine s_aload_n kx_165_13 rfl ?_
  refine s_getf (k := 0) (f := 7) (v := (3, 61)) kx_165_14 kp_165_58 rfl kf_11_7 (by show c_fld 12 (M 0 7) = _; rw [h07]; rfl) ?_
  refine s_iload_n kx_165_17 rfl ?_
  refine s_dup2 kx_165_18 rfl rfl ?_
  refine s_iald (k := 61) (v := (M 61 k.toNat)) kx_165_19 rfl ⟨by omega, by omega⟩ rfl ?_
  refine s_iconst (v := 1) kx_165_20 (by decide) ?_
  refine s_iadd (z := (c_bin (· + ·) (M 61 k.toNat) 1)) kx_165_21 rfl ?_
  refine s_iast (k := 61) kx_165_22 rfl ⟨by omega, by omega⟩ rfl ?_
  refine s_iconst (v := (-1)) kx_165_23 (by decide) ?_
  exact s_iret kx_165_24 (by rw [kq_165]; first | exact Or.inl rfl | exact Or.inr ⟨rfl, by omega⟩) ⟨rfl, rfl⟩
theorem m_feed {xs : Nat → Int} {Ln d : Nat} {E : List cK} {M : cM} {a b c e f : Int} (h00 : M 0 0 = 1) (h10 : M 1 0 = 2) (h07 : M 0 7 = 61) (hl : 0 ≤ M 1 1) (hl2 : M 1 1 ≤ 1600) : cC k_P xs Ln (d + 1) 136 [(3, 0), (0, a), (0, b), (0, c), (0, e), (0, f)] (k_T0 ++ E, M) (fun r h => (1600 < M 1 1 + 20 ∧ r = some (0, -1) ∧ h = (k_T0 ++ E, f_refuse M 0)) ∨ (M 1 1 + 20 ≤ 1600 ∧ r = some (0, M 1 1 + 20) ∧ h = (k_T0 ++ E, f_append (f_append (f_append (f_append (f_append M a) b) c) e) f))) := by
  show cP k_P xs Ln (d + 1) 136 0 [(0, (3, 0)), (1, (0, a)), (2, (0, b)), (3, (0, c)), (4, (0, e)), (5, (0, f))] [] (k_T0 ++ E, M) _
  refine s_aload_n kx_136_0 rfl ?_
  refine s_getf (k := 0) (f := 0) (v := (3, 1)) kx_136_1 kp_136_10 rfl kf_11_0 (by show c_fld 12 (M 0 0) = _; rw [h00]; rfl) ?_
  refine s_getf (k := 1) (f := 1) (v := (0, (M 1 1))) kx_136_4 kp_136_78 rfl kf_8_1 rfl ?_
  refine s_bipush (v := 20) kx_136_7 (by decide) ?_
  refine s_iadd (z := ((M 1 1) + 20)) kx_136_9 (c_addE (by omega) (by omega)) ?_
  refine s_sipush (v := 1600) kx_136_10 (by decide) ?_
  refine s_icmp_le (t := 22) kx_136_13 (by decide) (fun hc1 => ?_) (fun hc1 => ?_)
  · refine s_aload_n kx_136_22 rfl ?_
    refine s_getf (k := 0) (f := 0) (v := (3, 1)) kx_136_23 kp_136_10 rfl kf_11_0 (by show c_fld 12 (M 0 0) = _; rw [h00]; rfl) ?_
    refine s_iload_n kx_136_26 rfl ?_
    refine s_callV (k := 1) (as := [(0, a)]) (rest := []) kx_136_27 kp_136_85 rfl rfl ki_103.symm ⟨by rw [kl_103]; decide, by rw [kl_103]; decide, by decide⟩ (m_append (x := a) h10 (by omega) (by omega)) (fun r9 T9 M9 hq => ?_)
    obtain ⟨rfl, hq⟩ := hq
    cases hq
    have q1 := f_append_len M a
    have p1 : f_append M a 1 0 = 2 := (f_append_o (by decide) (by decide)).trans h10
    have r1_0_0 : f_append M a 0 0 = 1 := (f_append_o (by decide) (by decide)).trans h00
    have r1_0_7 : f_append M a 0 7 = 61 := (f_append_o (by decide) (by decide)).trans h07
    generalize eM1 : f_append M a = M1 at *
    show cP _ _ _ _ _ _ _ [] (_, M1) _
    show cP _ _ _ _ _ _ _ [] (_, M1) _
    refine s_aload_n kx_136_30 rfl ?_
    refine s_getf (k := 0) (f := 0) (v := (3, 1)) kx_136_31 kp_136_10 rfl kf_11_0 (by show c_fld 12 (M1 0 0) = _; rw [r1_0_0]; rfl) ?_
    refine s_iload_n kx_136_34 rfl ?_
    refine s_callV (k := 1) (as := [(0, b)]) (rest := []) kx_136_35 kp_136_85 rfl rfl ki_103.symm ⟨by rw [kl_103]; decide, by rw [kl_103]; decide, by decide⟩ (m_append (x := b) p1 (by omega) (by omega)) (fun r9 T9 M9 hq => ?_)
    obtain ⟨rfl, hq⟩ := hq
    cases hq
    have q2 := f_append_len M1 b
    have p2 : f_append M1 b 1 0 = 2 := (f_append_o (by decide) (by decide)).trans p1
    have r2_0_0 : f_append M1 b 0 0 = 1 := (f_append_o (by decide) (by decide)).trans r1_0_0
    have r2_0_7 : f_append M1 b 0 7 = 61 := (f_append_o (by decide) (by decide)).trans r1_0_7
    generalize eM2 : f_append M1 b = M2 at *
    show cP _ _ _ _ _ _ _ [] (_, M2) _
    show cP _ _ _ _ _ _ _ [] (_, M2) _
    refine s_aload_n kx_136_38 rfl ?_
    refine s_getf (k := 0) (f := 0) (v := (3, 1)) kx_136_39 kp_136_10 rfl kf_11_0 (by show c_fld 12 (M2 0 0) = _; rw [r2_0_0]; rfl) ?_
    refine s_iload_n kx_136_42 rfl ?_
    refine s_callV (k := 1) (as := [(0, c)]) (rest := []) kx_136_43 kp_136_85 rfl rfl ki_103.symm ⟨by rw [kl_103]; decide, by rw [kl_103]; decide, by decide⟩ (m_append (x := c) p2 (by omega) (by omega)) (fun r9 T9 M9 hq => ?_)
    obtain ⟨rfl, hq⟩ := hq
    cases hq
    have q3 := f_append_len M2 c
    have p3 : f_append M2 c 1 0 = 2 := (f_append_o (by decide) (by decide)).trans p2
    have r3_0_0 : f_append M2 c 0 0 = 1 := (f_append_o (by decide) (by decide)).trans r2_0_0
    have r3_0_7 : f_append M2 c 0 7 = 61 := (f_append_o (by decide) (by decide)).trans r2_0_7
    generalize eM3 : f_append M2 c = M3 at *
    show cP _ _ _ _ _ _ _ [] (_, M3) _
    show cP _ _ _ _ _ _ _ [] (_, M3) _
    refine s_aload_n kx_136_46 rfl ?_
    refine s_getf (k := 0) (f := 0) (v := (3, 1)) kx_136_47 kp_136_10 rfl kf_11_0 (by show c_fld 12 (M3 0 0) = _; rw [r3_0_0]; rfl) ?_
    refine s_iload kx_136_50 rfl ?_
    refine s_callV (k := 1) (as := [(0, e)]) (rest := []) kx_136_52 kp_136_85 rfl rfl ki_103.symm ⟨by rw [kl_103]; decide, by rw [kl_103]; decide, by decide⟩ (m_append (x := e) p3 (by omega) (by omega)) (fun r9 T9 M9 hq => ?_)
    obtain ⟨rfl, hq⟩ := hq
    cases hq
    have q4 := f_append_len M3 e
    have p4 : f_append M3 e 1 0 = 2 := (f_append_o (by decide) (by decide)).trans p3
    have r4_0_0 : f_append M3 e 0 0 = 1 := (f_append_o (by decide) (by decide)).trans r3_0_0
    have r4_0_7 : f_append M3 e 0 7 = 61 := (f_append_o (by decide) (by decide)).trans r3_0_7
    generalize eM4 : f_append M3 e = M4 at *
    show cP _ _ _ _ _ _ _ [] (_, M4) _
    show cP _ _ _ _ _ _ _ [] (_, M4) _
    refine s_aload_n kx_136_55 rfl ?_
    refine s_getf (k := 0) (f := 0) (v := (3, 1)) kx_136_56 kp_136_10 rfl kf_11_0 (by show c_fld 12 (M4 0 0) = _; rw [r4_0_0]; rfl) ?_
    refine s_iload kx_136_59 rfl ?_
    refine s_callV (k := 1) (as := [(0, f)]) (rest := []) kx_136_61 kp_136_85 rfl rfl ki_103.symm ⟨by rw [kl_103]; decide, by rw [kl_103]; decide, by decide⟩ (m_append (x := f) p4 (by omega) (by omega)) (fun r9 T9 M9 hq => ?_)
    obtain ⟨rfl, hq⟩ := hq
    cases hq
    have q5 := f_append_len M4 f
    have p5 : f_append M4 f 1 0 = 2 := (f_append_o (by decide) (by decide)).trans p4
    have r5_0_0 : f_append M4 f 0 0 = 1 := (f_append_o (by decide) (by decide)).trans r4_0_0
    have r5_0_7 : f_append M4 f 0 7 = 61 := (f_append_o (by decide) (by decide)).trans r4_0_7
    generalize eM5 : f_append M4 f = M5 at *
    show cP _ _ _ _ _ _ _ [] (_, M5) _
    show cP _ _ _ _ _ _ _ [] (_, M5) _
    refine s_aload_n kx_136_64 rfl ?_
    refine s_getf (k := 0) (f := 0) (v := (3, 1)) kx_136_65 kp_136_10 rfl kf_11_0 (by show c_fld 12 (M5 0 0) = _; rw [r5_0_0]; rfl) ?_
    refine s_getf (k := 1) (f := 1) (v := (0, (M5 1 1))) kx_136_68 kp_136_78 rfl kf_8_1 rfl ?_
    exact s_iret kx_136_71 (by rw [kq_136]; first | exact Or.inl rfl | exact Or.inr ⟨rfl, by omega⟩) (Or.inr ⟨by omega, by rw [show M5 1 1 = M 1 1 + 20 by omega], by rw [← eM5, ← eM4, ← eM3, ← eM2, ← eM1]⟩)
  · refine s_aload_n kx_136_16 rfl ?_
    refine s_iconst (v := 0) kx_136_17 (by decide) ?_
    refine s_callV (k := 0) (as := [(0, 0)]) (rest := []) kx_136_18 kp_136_81 rfl rfl ki_165.symm ⟨by rw [kl_165]; decide, by rw [kl_165]; decide, by decide⟩ (m_refuse (k := 0) h07 (by decide) (by decide)) (fun r9 T9 M9 hq => ?_)
    obtain ⟨rfl, hq⟩ := hq
    cases hq
    show cP _ _ _ _ _ _ _ [(0, -1)] (_, f_refuse M 0) _
    show cP _ _ _ _ _ _ _ [(0, -1)] (_, (f_refuse M 0)) _
    exact s_iret kx_136_21 (by rw [kq_136]; first | exact Or.inl rfl | exact Or.inr ⟨rfl, by omega⟩) (Or.inl ⟨by omega, rfl, rfl⟩)
