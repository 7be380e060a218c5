/-- the digits of a standing: each told room's digit divides the size with its many -/
def SR (M : cM) (n S : Int) : Prop := 1 ≤ S ∧ ∀ r : Int, 0 ≤ r → r < n → (0 < M 112 r.toNat ∧ 0 ≤ M 109 r.toNat ∧ ∃ q, 0 < q ∧ S = M 112 r.toNat * (M 109 r.toNat + 1) * q)
theorem SR.fr {S : List (Nat × Nat)} {M M1 : cM} {n z : Int} (h : SR M n z) (g : Fr S M M1) (h2 : ∀ f, c_in S 109 f = false) (h3 : ∀ f, c_in S 112 f = false) : SR M1 n z := by
  refine ⟨h.1, fun r a b => ?_⟩
  rw [g 109 _ (h2 _), g 112 _ (h3 _)]
  exact h.2 r a b
theorem SR.up {M M1 : cM} {n x z : Int} {k f : Nat} (h : SR M n z) (u : Up M k f x M1) (h1 : k ≠ 109 ∧ k ≠ 112) : SR M1 n z := by
  refine ⟨h.1, fun r a b => ?_⟩
  rw [u.2 109 _ (by omega), u.2 112 _ (by omega)]
  exact h.2 r a b
theorem SR_step {M0 M1 : cM} {k w S0 : Int} (h : SR M0 k S0) (h0 : 0 ≤ k) (hw : M0 109 k.toNat = w) (hw1 : 0 ≤ w) (u1 : Up M0 112 k.toNat S0 M1) : SR M1 (k + 1) (S0 * (1 + w)) := by
  have hS1 := h.1
  constructor
  · have := Int.mul_le_mul hS1 (show (1 : Int) ≤ 1 + w by omega) (by omega) (by omega)
    omega
  · intro x a b
    rw [u1.2 109 _ (by omega)]
    by_cases e : x = k
    · subst e
      rw [u1.1, hw]
      refine ⟨by omega, hw1, 1, by omega, ?_⟩
      rw [Int.mul_one, Int.add_comm 1 w]
    · rw [u1.2 112 _ (by omega)]
      obtain ⟨g1, g2, q, g3, g4⟩ := h.2 x a (by omega)
      refine ⟨g1, g2, q * (1 + w), Int.mul_pos g3 (by omega), ?_⟩
      rw [g4, Int.mul_assoc]
theorem kx_281_0 : x_code k_P 281 0 = some (.iconst 0, 1) := by decide +kernel
theorem kx_281_1 : x_code k_P 281 1 = some (.istore_n 2, 1) := by decide +kernel
theorem km_281_2 : 2 < x_maxL k_P 281 := by decide +kernel
theorem kx_281_2 : x_code k_P 281 2 = some (.iload_n 2, 1) := by decide +kernel
theorem kx_281_3 : x_code k_P 281 3 = some (.aload_n 0, 1) := by decide +kernel
theorem kx_281_4 : x_code k_P 281 4 = some (.getfield 231, 3) := by decide +kernel
theorem kp_281_231 : x_pool k_P 281 231 = (1, 12, 72) := by decide +kernel
theorem kf_12_72 : (x_cls k_P 12)[72]? = some 0 := by decide +kernel
theorem kx_281_7 : x_code k_P 281 7 = some (.if_icmp .ge 21, 3) := by decide +kernel
theorem kx_281_28 : x_code k_P 281 28 = some (.iconst (-1), 1) := by decide +kernel
theorem kx_281_29 : x_code k_P 281 29 = some (.ireturn, 1) := by decide +kernel
theorem kq_281 : x_retk k_P 281 = 1 := by decide +kernel
theorem kx_281_10 : x_code k_P 281 10 = some (.aload_n 0, 1) := by decide +kernel
theorem kx_281_11 : x_code k_P 281 11 = some (.getfield 234, 3) := by decide +kernel
theorem kp_281_234 : x_pool k_P 281 234 = (1, 12, 73) := by decide +kernel
theorem kf_12_73 : (x_cls k_P 12)[73]? = some 12 := by decide +kernel
theorem kx_281_14 : x_code k_P 281 14 = some (.iload_n 2, 1) := by decide +kernel
theorem kx_281_15 : x_code k_P 281 15 = some (.iaload, 1) := by decide +kernel
theorem kx_281_16 : x_code k_P 281 16 = some (.iload_n 1, 1) := by decide +kernel
theorem kx_281_17 : x_code k_P 281 17 = some (.if_icmp .ne 5, 3) := by decide +kernel
theorem kx_281_22 : x_code k_P 281 22 = some (.iinc 2 1, 3) := by decide +kernel
theorem kx_281_25 : x_code k_P 281 25 = some (.goto (-23), 3) := by decide +kernel
theorem kx_281_20 : x_code k_P 281 20 = some (.iload_n 2, 1) := by decide +kernel
theorem kx_281_21 : x_code k_P 281 21 = some (.ireturn, 1) := by decide +kernel
theorem m_281 {xs : Nat → Int} {Ln d : Nat} {T : List cK} {M : cM} (hT : TT T) (hI : Rng M) {r : Int} : cC k_P xs Ln (d + 0) 281 [rf 63, (0, r)] (T, M) (qF T M 0 (fun v => (-1) ≤ v ∧ v ≤ 7 ∧ (v = -1 ∨ (0 ≤ v ∧ v < M 63 72)))) := by
  show cP k_P xs Ln (d + 0) 281 0 [(0, rf 63), (1, (0, r))] [] (T, M) _
  refine s_iconst (v := 0) kx_281_0 (by decide) ?_
  refine s_istore_n kx_281_1 km_281_2 rfl ?_
  have key2 : ∀ n3 : Nat, ∀ (x2_1 : Int), (0 ≤ x2_1) → (2147483647 - x2_1).toNat < n3 → cP k_P xs Ln (d + 0) 281 2 [(0, rf 63), (1, (0, r)), (2, (0, x2_1))] [] (T, M) (qF T M 0 (fun v => (-1) ≤ v ∧ v ≤ 7 ∧ (v = -1 ∨ (0 ≤ v ∧ v < M 63 72)))) := by
    intro n3
    induction n3 with
    | zero => intro x2_1 i4 hm5; exact absurd hm5 (Nat.not_lt_zero _)
    | succ n3 ih6 =>
      intro x2_1 i4 hm5
      refine s_iload_n kx_281_2 rfl ?_
      refine s_aload_n kx_281_3 rfl ?_
      refine r_getI (k := 63) (f := 72) kx_281_4 kp_281_231 (tk_63 hT) kf_12_72 (fun _ => rfl) (rg_63_72 hI) (fun v7 v7e v7a v7b => ?_)
      refine s_icmp_ge (t := 28) kx_281_7 (by decide) (fun hc8 => ?_) (fun hc8 => ?_)
      · refine s_iconst (v := (-1)) kx_281_28 (by decide) ?_
        exact s_iret kx_281_29 (Or.inl kq_281) ⟨_, rfl, rfl, (by omega)⟩
      · refine s_aload_n kx_281_10 rfl ?_
        refine r_getR (k := 63) (f := 73) (k2 := 108) kx_281_11 kp_281_234 (tk_63 hT) kf_12_73 (by decide) (rq_63_73 hI) ?_
        refine s_iload_n kx_281_14 rfl ?_
        refine r_ald (k := 108) kx_281_15 (tk_108 hT) ⟨by omega, by omega⟩ (rg_108 hI) (fun v9 v9e v9a v9b => ?_)
        refine s_iload_n kx_281_16 rfl ?_
        refine s_icmp_ne (t := 22) kx_281_17 (by decide) (fun hc10 => ?_) (fun hc10 => ?_)
        · refine r_iinc kx_281_22 rfl km_281_2 (by decide) ⟨by omega, by omega⟩ rfl ?_
          refine s_goto (t := 2) kx_281_25 (by decide) ?_
          exact cP.wk (lS1 rfl (lS1 rfl (lS1 rfl lS0))) (ih6 (x2_1 + 1) (by omega) (by omega))
        · refine s_iload_n kx_281_20 rfl ?_
          exact s_iret kx_281_21 (Or.inl kq_281) ⟨_, rfl, rfl, (by omega)⟩
  exact cP.wk (lS1 rfl (lS1 rfl (lS1 rfl lS0))) (key2 _ 0 (by omega) (Nat.lt_succ_self _))
theorem kx_282_0 : x_code k_P 282 0 = some (.iconst 1, 1) := by decide +kernel
theorem kx_282_1 : x_code k_P 282 1 = some (.istore_n 3, 1) := by decide +kernel
theorem km_282_3 : 3 < x_maxL k_P 282 := by decide +kernel
theorem kx_282_2 : x_code k_P 282 2 = some (.iconst 0, 1) := by decide +kernel
theorem kx_282_3 : x_code k_P 282 3 = some (.istore 4, 2) := by decide +kernel
theorem km_282_4 : 4 < x_maxL k_P 282 := by decide +kernel
theorem kx_282_5 : x_code k_P 282 5 = some (.iconst 0, 1) := by decide +kernel
theorem kx_282_6 : x_code k_P 282 6 = some (.istore 5, 2) := by decide +kernel
theorem km_282_5 : 5 < x_maxL k_P 282 := by decide +kernel
theorem kx_282_8 : x_code k_P 282 8 = some (.iload 5, 2) := by decide +kernel
theorem kx_282_10 : x_code k_P 282 10 = some (.aload_n 0, 1) := by decide +kernel
theorem kx_282_11 : x_code k_P 282 11 = some (.getfield 231, 3) := by decide +kernel
theorem kp_282_231 : x_pool k_P 282 231 = (1, 12, 72) := by decide +kernel
theorem kx_282_14 : x_code k_P 282 14 = some (.if_icmp .ge 57, 3) := by decide +kernel
theorem kx_282_71 : x_code k_P 282 71 = some (.iconst 0, 1) := by decide +kernel
theorem kx_282_72 : x_code k_P 282 72 = some (.istore 5, 2) := by decide +kernel
theorem kx_282_74 : x_code k_P 282 74 = some (.iload 5, 2) := by decide +kernel
theorem kx_282_76 : x_code k_P 282 76 = some (.iload_n 3, 1) := by decide +kernel
theorem kx_282_77 : x_code k_P 282 77 = some (.if_icmp .ge 17, 3) := by decide +kernel
theorem kx_282_94 : x_code k_P 282 94 = some (.aload_n 0, 1) := by decide +kernel
theorem kx_282_95 : x_code k_P 282 95 = some (.getfield 240, 3) := by decide +kernel
theorem kp_282_240 : x_pool k_P 282 240 = (1, 12, 75) := by decide +kernel
theorem kf_12_75 : (x_cls k_P 12)[75]? = some 12 := by decide +kernel
theorem kx_282_98 : x_code k_P 282 98 = some (.iconst 0, 1) := by decide +kernel
theorem kx_282_99 : x_code k_P 282 99 = some (.iconst 1, 1) := by decide +kernel
theorem kx_282_100 : x_code k_P 282 100 = some (.iastore, 1) := by decide +kernel
theorem kx_282_101 : x_code k_P 282 101 = some (.iconst 0, 1) := by decide +kernel
theorem kx_282_102 : x_code k_P 282 102 = some (.istore 5, 2) := by decide +kernel
theorem kx_282_104 : x_code k_P 282 104 = some (.iload 5, 2) := by decide +kernel
theorem kx_282_106 : x_code k_P 282 106 = some (.aload_n 0, 1) := by decide +kernel
theorem kx_282_107 : x_code k_P 282 107 = some (.getfield 69, 3) := by decide +kernel
theorem kp_282_69 : x_pool k_P 282 69 = (1, 12, 19) := by decide +kernel
theorem kx_282_110 : x_code k_P 282 110 = some (.aload_n 0, 1) := by decide +kernel
theorem kx_282_111 : x_code k_P 282 111 = some (.getfield 54, 3) := by decide +kernel
theorem kp_282_54 : x_pool k_P 282 54 = (1, 12, 14) := by decide +kernel
theorem kx_282_114 : x_code k_P 282 114 = some (.iaload, 1) := by decide +kernel
theorem kx_282_115 : x_code k_P 282 115 = some (.if_icmp .ge 218, 3) := by decide +kernel
theorem kx_282_333 : x_code k_P 282 333 = some (.aload_n 0, 1) := by decide +kernel
theorem kx_282_334 : x_code k_P 282 334 = some (.getfield 240, 3) := by decide +kernel
theorem kx_282_337 : x_code k_P 282 337 = some (.iload_n 3, 1) := by decide +kernel
theorem kx_282_338 : x_code k_P 282 338 = some (.iconst 1, 1) := by decide +kernel
theorem kx_282_339 : x_code k_P 282 339 = some (.isub, 1) := by decide +kernel
theorem kx_282_340 : x_code k_P 282 340 = some (.iaload, 1) := by decide +kernel
theorem kx_282_341 : x_code k_P 282 341 = some (.ireturn, 1) := by decide +kernel
theorem kq_282 : x_retk k_P 282 = 1 := by decide +kernel
theorem kx_282_118 : x_code k_P 282 118 = some (.iconst 0, 1) := by decide +kernel
theorem kx_282_119 : x_code k_P 282 119 = some (.istore 6, 2) := by decide +kernel
theorem km_282_6 : 6 < x_maxL k_P 282 := by decide +kernel
theorem kx_282_121 : x_code k_P 282 121 = some (.iload 6, 2) := by decide +kernel
theorem kx_282_123 : x_code k_P 282 123 = some (.iload_n 3, 1) := by decide +kernel
theorem kx_282_124 : x_code k_P 282 124 = some (.if_icmp .ge 17, 3) := by decide +kernel
theorem kx_282_141 : x_code k_P 282 141 = some (.iconst 0, 1) := by decide +kernel
theorem kx_282_142 : x_code k_P 282 142 = some (.istore 6, 2) := by decide +kernel
theorem kx_282_144 : x_code k_P 282 144 = some (.iload 6, 2) := by decide +kernel
theorem kx_282_146 : x_code k_P 282 146 = some (.aload_n 0, 1) := by decide +kernel
theorem kx_282_147 : x_code k_P 282 147 = some (.getfield 57, 3) := by decide +kernel
theorem kp_282_57 : x_pool k_P 282 57 = (1, 12, 15) := by decide +kernel
theorem kx_282_150 : x_code k_P 282 150 = some (.aload_n 0, 1) := by decide +kernel
theorem kx_282_151 : x_code k_P 282 151 = some (.getfield 54, 3) := by decide +kernel
theorem kx_282_154 : x_code k_P 282 154 = some (.iaload, 1) := by decide +kernel
theorem kx_282_155 : x_code k_P 282 155 = some (.if_icmp .ge 143, 3) := by decide +kernel
theorem kx_282_298 : x_code k_P 282 298 = some (.iconst 0, 1) := by decide +kernel
theorem kx_282_299 : x_code k_P 282 299 = some (.istore 6, 2) := by decide +kernel
theorem kx_282_301 : x_code k_P 282 301 = some (.iload 6, 2) := by decide +kernel
theorem kx_282_303 : x_code k_P 282 303 = some (.iload_n 3, 1) := by decide +kernel
theorem kx_282_304 : x_code k_P 282 304 = some (.if_icmp .ge 23, 3) := by decide +kernel
theorem kx_282_327 : x_code k_P 282 327 = some (.iinc 5 1, 3) := by decide +kernel
theorem kx_282_330 : x_code k_P 282 330 = some (.goto (-226), 3) := by decide +kernel
theorem kx_282_307 : x_code k_P 282 307 = some (.aload_n 0, 1) := by decide +kernel
theorem kx_282_308 : x_code k_P 282 308 = some (.getfield 240, 3) := by decide +kernel
theorem kx_282_311 : x_code k_P 282 311 = some (.iload 6, 2) := by decide +kernel
theorem kx_282_313 : x_code k_P 282 313 = some (.aload_n 0, 1) := by decide +kernel
theorem kx_282_314 : x_code k_P 282 314 = some (.getfield 243, 3) := by decide +kernel
theorem kp_282_243 : x_pool k_P 282 243 = (1, 12, 76) := by decide +kernel
theorem kf_12_76 : (x_cls k_P 12)[76]? = some 12 := by decide +kernel
theorem kx_282_317 : x_code k_P 282 317 = some (.iload 6, 2) := by decide +kernel
theorem kx_282_319 : x_code k_P 282 319 = some (.iaload, 1) := by decide +kernel
theorem kx_282_320 : x_code k_P 282 320 = some (.iastore, 1) := by decide +kernel
theorem kx_282_321 : x_code k_P 282 321 = some (.iinc 6 1, 3) := by decide +kernel
theorem kx_282_324 : x_code k_P 282 324 = some (.goto (-23), 3) := by decide +kernel
theorem kx_282_158 : x_code k_P 282 158 = some (.iload 5, 2) := by decide +kernel
theorem kx_282_160 : x_code k_P 282 160 = some (.iload_n 1, 1) := by decide +kernel
theorem kx_282_161 : x_code k_P 282 161 = some (.if_icmp .ne 12, 3) := by decide +kernel
theorem kx_282_173 : x_code k_P 282 173 = some (.aload_n 0, 1) := by decide +kernel
theorem kx_282_174 : x_code k_P 282 174 = some (.iload 5, 2) := by decide +kernel
theorem kx_282_176 : x_code k_P 282 176 = some (.iload 6, 2) := by decide +kernel
theorem kx_282_178 : x_code k_P 282 178 = some (.invokevirtual 500, 3) := by decide +kernel
theorem kp_282_500 : x_pool k_P 282 500 = (2, 243, 2) := by decide +kernel
theorem kx_282_181 : x_code k_P 282 181 = some (.ifCond .eq 7, 3) := by decide +kernel
theorem kx_282_188 : x_code k_P 282 188 = some (.aload_n 0, 1) := by decide +kernel
theorem kx_282_189 : x_code k_P 282 189 = some (.iload 6, 2) := by decide +kernel
theorem kx_282_191 : x_code k_P 282 191 = some (.invokevirtual 600, 3) := by decide +kernel
theorem kp_282_600 : x_pool k_P 282 600 = (2, 281, 1) := by decide +kernel
theorem ki_281 : x_mci k_P 281 = 12 := by decide +kernel
theorem kcl_281 : x_maxL k_P 281 ≤ 60 ∧ 2 ≤ x_maxL k_P 281 := by decide +kernel
theorem kx_282_184 : x_code k_P 282 184 = some (.iconst (-1), 1) := by decide +kernel
theorem kx_282_185 : x_code k_P 282 185 = some (.goto 9, 3) := by decide +kernel
theorem kx_282_194 : x_code k_P 282 194 = some (.istore 7, 2) := by decide +kernel
theorem km_282_7 : 7 < x_maxL k_P 282 := by decide +kernel
theorem kx_282_196 : x_code k_P 282 196 = some (.iconst 0, 1) := by decide +kernel
theorem kx_282_197 : x_code k_P 282 197 = some (.istore 8, 2) := by decide +kernel
theorem km_282_8 : 8 < x_maxL k_P 282 := by decide +kernel
theorem kx_282_199 : x_code k_P 282 199 = some (.iload 8, 2) := by decide +kernel
theorem kx_282_201 : x_code k_P 282 201 = some (.iload_n 3, 1) := by decide +kernel
theorem kx_282_202 : x_code k_P 282 202 = some (.if_icmp .ge 90, 3) := by decide +kernel
theorem kx_282_292 : x_code k_P 282 292 = some (.iinc 6 1, 3) := by decide +kernel
theorem kx_282_295 : x_code k_P 282 295 = some (.goto (-151), 3) := by decide +kernel
theorem kx_282_205 : x_code k_P 282 205 = some (.iload 7, 2) := by decide +kernel
theorem kx_282_207 : x_code k_P 282 207 = some (.iconst (-1), 1) := by decide +kernel
theorem kx_282_208 : x_code k_P 282 208 = some (.if_icmp .ne 23, 3) := by decide +kernel
theorem kx_282_231 : x_code k_P 282 231 = some (.iload 8, 2) := by decide +kernel
theorem kx_282_233 : x_code k_P 282 233 = some (.aload_n 0, 1) := by decide +kernel
theorem kx_282_234 : x_code k_P 282 234 = some (.getfield 246, 3) := by decide +kernel
theorem kp_282_246 : x_pool k_P 282 246 = (1, 12, 77) := by decide +kernel
theorem kf_12_77 : (x_cls k_P 12)[77]? = some 12 := by decide +kernel
theorem kx_282_237 : x_code k_P 282 237 = some (.iload 7, 2) := by decide +kernel
theorem kx_282_239 : x_code k_P 282 239 = some (.iaload, 1) := by decide +kernel
theorem kx_282_240 : x_code k_P 282 240 = some (.idiv, 1) := by decide +kernel
theorem kx_282_241 : x_code k_P 282 241 = some (.iconst 1, 1) := by decide +kernel
theorem kx_282_242 : x_code k_P 282 242 = some (.aload_n 0, 1) := by decide +kernel
theorem kx_282_243 : x_code k_P 282 243 = some (.getfield 237, 3) := by decide +kernel
theorem kp_282_237 : x_pool k_P 282 237 = (1, 12, 74) := by decide +kernel
theorem kf_12_74 : (x_cls k_P 12)[74]? = some 12 := by decide +kernel
theorem kx_282_246 : x_code k_P 282 246 = some (.iload 7, 2) := by decide +kernel
theorem kx_282_248 : x_code k_P 282 248 = some (.iaload, 1) := by decide +kernel
theorem kx_282_249 : x_code k_P 282 249 = some (.iadd, 1) := by decide +kernel
theorem kx_282_250 : x_code k_P 282 250 = some (.irem, 1) := by decide +kernel
theorem kx_282_251 : x_code k_P 282 251 = some (.aload_n 0, 1) := by decide +kernel
theorem kx_282_252 : x_code k_P 282 252 = some (.getfield 237, 3) := by decide +kernel
theorem kx_282_255 : x_code k_P 282 255 = some (.iload 7, 2) := by decide +kernel
theorem kx_282_257 : x_code k_P 282 257 = some (.iaload, 1) := by decide +kernel
theorem kx_282_258 : x_code k_P 282 258 = some (.if_icmp .ge 28, 3) := by decide +kernel
theorem kx_282_286 : x_code k_P 282 286 = some (.iinc 8 1, 3) := by decide +kernel
theorem kx_282_289 : x_code k_P 282 289 = some (.goto (-90), 3) := by decide +kernel
theorem kx_282_261 : x_code k_P 282 261 = some (.aload_n 0, 1) := by decide +kernel
theorem kx_282_262 : x_code k_P 282 262 = some (.getfield 243, 3) := by decide +kernel
theorem kx_282_265 : x_code k_P 282 265 = some (.iload 8, 2) := by decide +kernel
theorem kx_282_267 : x_code k_P 282 267 = some (.aload_n 0, 1) := by decide +kernel
theorem kx_282_268 : x_code k_P 282 268 = some (.getfield 246, 3) := by decide +kernel
theorem kx_282_271 : x_code k_P 282 271 = some (.iload 7, 2) := by decide +kernel
theorem kx_282_273 : x_code k_P 282 273 = some (.iaload, 1) := by decide +kernel
theorem kx_282_274 : x_code k_P 282 274 = some (.iadd, 1) := by decide +kernel
theorem kx_282_275 : x_code k_P 282 275 = some (.dup2, 1) := by decide +kernel
theorem kx_282_276 : x_code k_P 282 276 = some (.iaload, 1) := by decide +kernel
theorem kx_282_277 : x_code k_P 282 277 = some (.aload_n 0, 1) := by decide +kernel
theorem kx_282_278 : x_code k_P 282 278 = some (.getfield 240, 3) := by decide +kernel
theorem kx_282_281 : x_code k_P 282 281 = some (.iload 8, 2) := by decide +kernel
theorem kx_282_283 : x_code k_P 282 283 = some (.iaload, 1) := by decide +kernel
theorem kx_282_284 : x_code k_P 282 284 = some (.iadd, 1) := by decide +kernel
theorem kx_282_285 : x_code k_P 282 285 = some (.iastore, 1) := by decide +kernel
theorem kx_282_211 : x_code k_P 282 211 = some (.aload_n 0, 1) := by decide +kernel
theorem kx_282_212 : x_code k_P 282 212 = some (.getfield 243, 3) := by decide +kernel
theorem kx_282_215 : x_code k_P 282 215 = some (.iload 8, 2) := by decide +kernel
theorem kx_282_217 : x_code k_P 282 217 = some (.dup2, 1) := by decide +kernel
theorem kx_282_218 : x_code k_P 282 218 = some (.iaload, 1) := by decide +kernel
theorem kx_282_219 : x_code k_P 282 219 = some (.aload_n 0, 1) := by decide +kernel
theorem kx_282_220 : x_code k_P 282 220 = some (.getfield 240, 3) := by decide +kernel
theorem kx_282_223 : x_code k_P 282 223 = some (.iload 8, 2) := by decide +kernel
theorem kx_282_225 : x_code k_P 282 225 = some (.iaload, 1) := by decide +kernel
theorem kx_282_226 : x_code k_P 282 226 = some (.iadd, 1) := by decide +kernel
theorem kx_282_227 : x_code k_P 282 227 = some (.iastore, 1) := by decide +kernel
theorem kx_282_228 : x_code k_P 282 228 = some (.goto 58, 3) := by decide +kernel
theorem kx_282_164 : x_code k_P 282 164 = some (.iload 6, 2) := by decide +kernel
theorem kx_282_166 : x_code k_P 282 166 = some (.iload_n 2, 1) := by decide +kernel
theorem kx_282_167 : x_code k_P 282 167 = some (.if_icmp .eq 6, 3) := by decide +kernel
theorem kx_282_170 : x_code k_P 282 170 = some (.goto 122, 3) := by decide +kernel
theorem kx_282_127 : x_code k_P 282 127 = some (.aload_n 0, 1) := by decide +kernel
theorem kx_282_128 : x_code k_P 282 128 = some (.getfield 243, 3) := by decide +kernel
theorem kx_282_131 : x_code k_P 282 131 = some (.iload 6, 2) := by decide +kernel
theorem kx_282_133 : x_code k_P 282 133 = some (.iconst 0, 1) := by decide +kernel
theorem kx_282_134 : x_code k_P 282 134 = some (.iastore, 1) := by decide +kernel
theorem kx_282_135 : x_code k_P 282 135 = some (.iinc 6 1, 3) := by decide +kernel
theorem kx_282_138 : x_code k_P 282 138 = some (.goto (-17), 3) := by decide +kernel
theorem kx_282_80 : x_code k_P 282 80 = some (.aload_n 0, 1) := by decide +kernel
theorem kx_282_81 : x_code k_P 282 81 = some (.getfield 240, 3) := by decide +kernel
theorem kx_282_84 : x_code k_P 282 84 = some (.iload 5, 2) := by decide +kernel
theorem kx_282_86 : x_code k_P 282 86 = some (.iconst 0, 1) := by decide +kernel
theorem kx_282_87 : x_code k_P 282 87 = some (.iastore, 1) := by decide +kernel
theorem kx_282_88 : x_code k_P 282 88 = some (.iinc 5 1, 3) := by decide +kernel
theorem kx_282_91 : x_code k_P 282 91 = some (.goto (-17), 3) := by decide +kernel
theorem kx_282_17 : x_code k_P 282 17 = some (.iload 4, 2) := by decide +kernel
theorem kx_282_19 : x_code k_P 282 19 = some (.aload_n 0, 1) := by decide +kernel
theorem kx_282_20 : x_code k_P 282 20 = some (.getfield 237, 3) := by decide +kernel
theorem kx_282_23 : x_code k_P 282 23 = some (.iload 5, 2) := by decide +kernel
theorem kx_282_25 : x_code k_P 282 25 = some (.iaload, 1) := by decide +kernel
theorem kx_282_26 : x_code k_P 282 26 = some (.iadd, 1) := by decide +kernel
theorem kx_282_27 : x_code k_P 282 27 = some (.istore 4, 2) := by decide +kernel
theorem kx_282_29 : x_code k_P 282 29 = some (.iload 4, 2) := by decide +kernel
theorem kx_282_31 : x_code k_P 282 31 = some (.aload_n 0, 1) := by decide +kernel
theorem kx_282_32 : x_code k_P 282 32 = some (.getfield 69, 3) := by decide +kernel
theorem kx_282_35 : x_code k_P 282 35 = some (.aload_n 0, 1) := by decide +kernel
theorem kx_282_36 : x_code k_P 282 36 = some (.getfield 54, 3) := by decide +kernel
theorem kx_282_39 : x_code k_P 282 39 = some (.iaload, 1) := by decide +kernel
theorem kx_282_40 : x_code k_P 282 40 = some (.if_icmp .le 5, 3) := by decide +kernel
theorem kx_282_45 : x_code k_P 282 45 = some (.aload_n 0, 1) := by decide +kernel
theorem kx_282_46 : x_code k_P 282 46 = some (.getfield 246, 3) := by decide +kernel
theorem kx_282_49 : x_code k_P 282 49 = some (.iload 5, 2) := by decide +kernel
theorem kx_282_51 : x_code k_P 282 51 = some (.iload_n 3, 1) := by decide +kernel
theorem kx_282_52 : x_code k_P 282 52 = some (.iastore, 1) := by decide +kernel
theorem kx_282_53 : x_code k_P 282 53 = some (.iload_n 3, 1) := by decide +kernel
theorem kx_282_54 : x_code k_P 282 54 = some (.iconst 1, 1) := by decide +kernel
theorem kx_282_55 : x_code k_P 282 55 = some (.aload_n 0, 1) := by decide +kernel
theorem kx_282_56 : x_code k_P 282 56 = some (.getfield 237, 3) := by decide +kernel
theorem kx_282_59 : x_code k_P 282 59 = some (.iload 5, 2) := by decide +kernel
theorem kx_282_61 : x_code k_P 282 61 = some (.iaload, 1) := by decide +kernel
theorem kx_282_62 : x_code k_P 282 62 = some (.iadd, 1) := by decide +kernel
theorem kx_282_63 : x_code k_P 282 63 = some (.imul, 1) := by decide +kernel
theorem kx_282_64 : x_code k_P 282 64 = some (.istore_n 3, 1) := by decide +kernel
theorem kx_282_65 : x_code k_P 282 65 = some (.iinc 5 1, 3) := by decide +kernel
theorem kx_282_68 : x_code k_P 282 68 = some (.goto (-60), 3) := by decide +kernel
theorem kx_282_43 : x_code k_P 282 43 = some (.iconst 0, 1) := by decide +kernel
theorem kx_282_44 : x_code k_P 282 44 = some (.ireturn, 1) := by decide +kernel
def fS_282_l104 : List (Nat × Nat) := [(110, 99999), (111, 99999)]
def fS_282_l121 : List (Nat × Nat) := [(111, 99999)]
def fS_282_l144 : List (Nat × Nat) := [(111, 99999)]
def fS_282_l199 : List (Nat × Nat) := [(111, 99999)]
def fS_282_l301 : List (Nat × Nat) := [(110, 99999)]
def fS_282_l74 : List (Nat × Nat) := [(110, 99999)]
def fS_282_l8 : List (Nat × Nat) := [(112, 99999)]
def fS_282_m : List (Nat × Nat) := [(110, 99999), (111, 99999), (112, 99999)]
def fS_282_j181 : List (Nat × Nat) := []
theorem m_282 {xs : Nat → Int} {Ln d : Nat} {T : List cK} {M : cM} (hT : TT T) (hI : Rng M) {one where_ : Int} : cC k_P xs Ln (d + 2) 282 [rf 63, (0, one), (0, where_)] (T, M) (qW T M fS_282_m 0 (fun v M1 => True)) := by
  show cP k_P xs Ln (d + 2) 282 0 [(0, rf 63), (1, (0, one)), (2, (0, where_))] [] (T, M) _
  have hFm : Fr fS_282_m M M := Fr.refl
  refine s_iconst (v := 1) kx_282_0 (by decide) ?_
  refine s_istore_n kx_282_1 km_282_3 rfl ?_
  refine s_iconst (v := 0) kx_282_2 (by decide) ?_
  refine s_istore kx_282_3 km_282_4 rfl ?_
  refine s_iconst (v := 0) kx_282_5 (by decide) ?_
  refine s_istore kx_282_6 km_282_5 rfl ?_
  have key5 : ∀ n6 : Nat, ∀ (x3_1 x4_2 x5_3 : Int), ∀ M4 : cM, Rng M4 → Fr fS_282_m M M4 → Fr fS_282_l8 M M4 → (1 ≤ x3_1) → (x3_1 ≤ 256) → (0 ≤ x4_2) → (x4_2 ≤ 8) → (0 ≤ x5_3) → (x5_3 ≤ 8) → (SR M4 x5_3 x3_1) → (x3_1 ≤ 2 ^ (x4_2).toNat) → (2147483647 - x5_3).toNat < n6 → cP k_P xs Ln (d + 2) 282 8 [(0, rf 63), (1, (0, one)), (2, (0, where_)), (3, (0, x3_1)), (4, (0, x4_2)), (5, (0, x5_3))] [] (T, M4) (qW T M fS_282_m 0 (fun v M1 => True)) := by
    intro n6
    induction n6 with
    | zero => intro x3_1 x4_2 x5_3 M4 hI4 hFm4 fl4 i7 i8 i9 i10 i11 i12 i13 i14 hm15; exact absurd hm15 (Nat.not_lt_zero _)
    | succ n6 ih16 =>
      intro x3_1 x4_2 x5_3 M4 hI4 hFm4 fl4 i7 i8 i9 i10 i11 i12 i13 i14 hm15
      have hss1 := i13.1
      refine s_iload kx_282_8 rfl ?_
      refine s_aload_n kx_282_10 rfl ?_
      refine r_getI (k := 63) (f := 72) kx_282_11 kp_282_231 (tk_63 hT) kf_12_72 (fun _ => rfl) (rg_63_72 hI4) (fun v17 v17e v17a v17b => ?_)
      have v17z : M 63 72 = v17 := ((fl4 63 72 rfl)).symm.trans v17e
      refine s_icmp_ge (t := 71) kx_282_14 (by decide) (fun hc18 => ?_) (fun hc18 => ?_)
      · refine s_iconst (v := 0) kx_282_71 (by decide) ?_
        refine s_istore kx_282_72 km_282_5 rfl ?_
        have key21 : ∀ n22 : Nat, ∀ (x5_19 : Int), ∀ M20 : cM, Rng M20 → Fr fS_282_m M M20 → Fr fS_282_l74 M4 M20 → (0 ≤ x5_19) → (x5_19 ≤ 256) → (2147483647 - x5_19).toNat < n22 → cP k_P xs Ln (d + 2) 282 74 [(0, rf 63), (1, (0, one)), (2, (0, where_)), (3, (0, x3_1)), (5, (0, x5_19))] [] (T, M20) (qW T M fS_282_m 0 (fun v M1 => True)) := by
          intro n22
          induction n22 with
          | zero => intro x5_19 M20 hI20 hFm20 fl20 i23 i24 hm25; exact absurd hm25 (Nat.not_lt_zero _)
          | succ n22 ih26 =>
            intro x5_19 M20 hI20 hFm20 fl20 i23 i24 hm25
            refine s_iload kx_282_74 rfl ?_
            refine s_iload_n kx_282_76 rfl ?_
            refine s_icmp_ge (t := 94) kx_282_77 (by decide) (fun hc27 => ?_) (fun hc27 => ?_)
            · refine s_aload_n kx_282_94 rfl ?_
              refine r_getR (k := 63) (f := 75) (k2 := 110) kx_282_95 kp_282_240 (tk_63 hT) kf_12_75 (by decide) (rq_63_75 hI20) ?_
              refine s_iconst (v := 0) kx_282_98 (by decide) ?_
              refine s_iconst (v := 1) kx_282_99 (by decide) ?_
              refine r_ast (k := 110) kx_282_100 (tk_110 hT) ⟨by decide, by decide⟩ hI20 ru_110 (fun M28 hI28 u28 => ?_)
              have hFm28 := hFm20.up u28 rfl
              refine s_iconst (v := 0) kx_282_101 (by decide) ?_
              refine s_istore kx_282_102 km_282_5 rfl ?_
              have key31 : ∀ n32 : Nat, ∀ (x5_29 : Int), ∀ M30 : cM, Rng M30 → Fr fS_282_m M M30 → Fr fS_282_l104 M28 M30 → (0 ≤ x5_29) → (2147483647 - x5_29).toNat < n32 → cP k_P xs Ln (d + 2) 282 104 [(0, rf 63), (1, (0, one)), (2, (0, where_)), (3, (0, x3_1)), (5, (0, x5_29))] [] (T, M30) (qW T M fS_282_m 0 (fun v M1 => True)) := by
                intro n32
                induction n32 with
                | zero => intro x5_29 M30 hI30 hFm30 fl30 i33 hm34; exact absurd hm34 (Nat.not_lt_zero _)
                | succ n32 ih35 =>
                  intro x5_29 M30 hI30 hFm30 fl30 i33 hm34
                  refine s_iload kx_282_104 rfl ?_
                  refine s_aload_n kx_282_106 rfl ?_
                  refine r_getR (k := 63) (f := 19) (k2 := 69) kx_282_107 kp_282_69 (tk_63 hT) kf_12_19 (by decide) (rq_63_19 hI30) ?_
                  refine s_aload_n kx_282_110 rfl ?_
                  refine r_getI (k := 63) (f := 14) kx_282_111 kp_282_54 (tk_63 hT) kf_12_14 (fun _ => rfl) (rg_63_14 hI30) (fun v36 v36e v36a v36b => ?_)
                  have v36z : M 63 14 = v36 := (((fl30 63 14 rfl).trans ((u28.2 63 14 (by omega)).trans ((fl20 63 14 rfl).trans (fl4 63 14 rfl))))).symm.trans v36e
                  refine r_ald (k := 69) kx_282_114 (tk_69 hT) ⟨by omega, by omega⟩ (rg_69 hI30) (fun v37 v37e v37a v37b => ?_)
                  refine s_icmp_ge (t := 333) kx_282_115 (by decide) (fun hc38 => ?_) (fun hc38 => ?_)
                  · refine s_aload_n kx_282_333 rfl ?_
                    refine r_getR (k := 63) (f := 75) (k2 := 110) kx_282_334 kp_282_240 (tk_63 hT) kf_12_75 (by decide) (rq_63_75 hI30) ?_
                    refine s_iload_n kx_282_337 rfl ?_
                    refine s_iconst (v := 1) kx_282_338 (by decide) ?_
                    refine r_sub kx_282_339 ⟨by omega, by omega⟩ ?_
                    refine r_aldU (k := 110) kx_282_340 (tk_110 hT) ⟨by omega, by omega⟩ (fun v39 v39e => ?_)
                    exact s_iret kx_282_341 (Or.inl kq_282) ⟨_, _, rfl, rfl, hI30, hFm30, trivial⟩
                  · refine s_iconst (v := 0) kx_282_118 (by decide) ?_
                    refine s_istore kx_282_119 km_282_6 rfl ?_
                    have key42 : ∀ n43 : Nat, ∀ (x6_40 : Int), ∀ M41 : cM, Rng M41 → Fr fS_282_m M M41 → Fr fS_282_l104 M28 M41 → Fr fS_282_l121 M30 M41 → (0 ≤ x6_40) → (x6_40 ≤ 256) → (2147483647 - x6_40).toNat < n43 → cP k_P xs Ln (d + 2) 282 121 [(0, rf 63), (1, (0, one)), (2, (0, where_)), (3, (0, x3_1)), (5, (0, x5_29)), (6, (0, x6_40))] [] (T, M41) (qW T M fS_282_m 0 (fun v M1 => True)) := by
                      intro n43
                      induction n43 with
                      | zero => intro x6_40 M41 hI41 hFm41 hFl10441 fl41 i44 i45 hm46; exact absurd hm46 (Nat.not_lt_zero _)
                      | succ n43 ih47 =>
                        intro x6_40 M41 hI41 hFm41 hFl10441 fl41 i44 i45 hm46
                        refine s_iload kx_282_121 rfl ?_
                        refine s_iload_n kx_282_123 rfl ?_
                        refine s_icmp_ge (t := 141) kx_282_124 (by decide) (fun hc48 => ?_) (fun hc48 => ?_)
                        · refine s_iconst (v := 0) kx_282_141 (by decide) ?_
                          refine s_istore kx_282_142 km_282_6 rfl ?_
                          have key51 : ∀ n52 : Nat, ∀ (x6_49 : Int), ∀ M50 : cM, Rng M50 → Fr fS_282_m M M50 → Fr fS_282_l104 M28 M50 → Fr fS_282_l144 M41 M50 → (0 ≤ x6_49) → (2147483647 - x6_49).toNat < n52 → cP k_P xs Ln (d + 2) 282 144 [(0, rf 63), (1, (0, one)), (2, (0, where_)), (3, (0, x3_1)), (5, (0, x5_29)), (6, (0, x6_49))] [] (T, M50) (qW T M fS_282_m 0 (fun v M1 => True)) := by
                            intro n52
                            induction n52 with
                            | zero => intro x6_49 M50 hI50 hFm50 hFl10450 fl50 i53 hm54; exact absurd hm54 (Nat.not_lt_zero _)
                            | succ n52 ih55 =>
                              intro x6_49 M50 hI50 hFm50 hFl10450 fl50 i53 hm54
                              refine s_iload kx_282_144 rfl ?_
                              refine s_aload_n kx_282_146 rfl ?_
                              refine r_getR (k := 63) (f := 15) (k2 := 65) kx_282_147 kp_282_57 (tk_63 hT) kf_12_15 (by decide) (rq_63_15 hI50) ?_
                              refine s_aload_n kx_282_150 rfl ?_
                              refine r_getK (k := 63) (f := 14) kx_282_151 kp_282_54 (tk_63 hT) kf_12_14 (fun _ => rfl) ((fl50 63 14 rfl).trans ((fl41 63 14 rfl).trans v36e)) ?_
                              refine r_ald (k := 65) kx_282_154 (tk_65 hT) ⟨by omega, by omega⟩ (rg_65 hI50) (fun v56 v56e v56a v56b => ?_)
                              refine s_icmp_ge (t := 298) kx_282_155 (by decide) (fun hc57 => ?_) (fun hc57 => ?_)
                              · refine s_iconst (v := 0) kx_282_298 (by decide) ?_
                                refine s_istore kx_282_299 km_282_6 rfl ?_
                                have key60 : ∀ n61 : Nat, ∀ (x6_58 : Int), ∀ M59 : cM, Rng M59 → Fr fS_282_m M M59 → Fr fS_282_l104 M28 M59 → Fr fS_282_l301 M50 M59 → (0 ≤ x6_58) → (x6_58 ≤ 256) → (2147483647 - x6_58).toNat < n61 → cP k_P xs Ln (d + 2) 282 301 [(0, rf 63), (1, (0, one)), (2, (0, where_)), (3, (0, x3_1)), (5, (0, x5_29)), (6, (0, x6_58))] [] (T, M59) (qW T M fS_282_m 0 (fun v M1 => True)) := by
                                  intro n61
                                  induction n61 with
                                  | zero => intro x6_58 M59 hI59 hFm59 hFl10459 fl59 i62 i63 hm64; exact absurd hm64 (Nat.not_lt_zero _)
                                  | succ n61 ih65 =>
                                    intro x6_58 M59 hI59 hFm59 hFl10459 fl59 i62 i63 hm64
                                    refine s_iload kx_282_301 rfl ?_
                                    refine s_iload_n kx_282_303 rfl ?_
                                    refine s_icmp_ge (t := 327) kx_282_304 (by decide) (fun hc66 => ?_) (fun hc66 => ?_)
                                    · refine r_iinc kx_282_327 rfl km_282_5 (by decide) ⟨by omega, by omega⟩ rfl ?_
                                      refine s_goto (t := 104) kx_282_330 (by decide) ?_
                                      exact cP.wk (lS1 rfl (lS1 rfl (lS1 rfl (lS1 rfl (lS1 rfl lS0))))) (ih35 (x5_29 + 1) M59 hI59 hFm59 hFl10459 (by omega) (by omega))
                                    · refine s_aload_n kx_282_307 rfl ?_
                                      refine r_getR (k := 63) (f := 75) (k2 := 110) kx_282_308 kp_282_240 (tk_63 hT) kf_12_75 (by decide) (rq_63_75 hI59) ?_
                                      refine s_iload kx_282_311 rfl ?_
                                      refine s_aload_n kx_282_313 rfl ?_
                                      refine r_getR (k := 63) (f := 76) (k2 := 111) kx_282_314 kp_282_243 (tk_63 hT) kf_12_76 (by decide) (rq_63_76 hI59) ?_
                                      refine s_iload kx_282_317 rfl ?_
                                      refine r_aldU (k := 111) kx_282_319 (tk_111 hT) ⟨by omega, by omega⟩ (fun v67 v67e => ?_)
                                      refine r_ast (k := 110) kx_282_320 (tk_110 hT) ⟨by omega, by omega⟩ hI59 ru_110 (fun M68 hI68 u68 => ?_)
                                      have hFm68 := hFm59.up u68 rfl
                                      have hFl10468 := hFl10459.up u68 rfl
                                      have hFl30168 := fl59.up u68 rfl
                                      refine r_iinc kx_282_321 rfl km_282_6 (by decide) ⟨by omega, by omega⟩ rfl ?_
                                      refine s_goto (t := 301) kx_282_324 (by decide) ?_
                                      exact cP.wk (lS1 rfl (lS1 rfl (lS1 rfl (lS1 rfl (lS1 rfl (lS1 rfl lS0)))))) (ih65 (x6_58 + 1) M68 hI68 hFm68 hFl10468 hFl30168 (by omega) (by omega) (by omega))
                                exact cP.wk (lS1 rfl (lS1 rfl (lS1 rfl (lS1 rfl (lS1 rfl (lS1 rfl lS0)))))) (key60 _ 0 M50 hI50 hFm50 hFl10450 Fr.refl (by omega) (by omega) (Nat.lt_succ_self _))
                              · refine s_iload kx_282_158 rfl ?_
                                refine s_iload_n kx_282_160 rfl ?_
                                refine s_icmp_ne (t := 173) kx_282_161 (by decide) (fun hc69 => ?_) (fun hc69 => ?_)
                                · refine s_aload_n kx_282_173 rfl ?_
                                  refine s_iload kx_282_174 rfl ?_
                                  refine s_iload kx_282_176 rfl ?_
                                  refine s_callV2 (k := 63) (s1 := 3) (s2 := 0) (as := [(0, x6_49), (0, x5_29)]) (rest := []) kx_282_178 kp_282_500 (Or.inl rfl) rfl (tk_63 hT) ki_243 kcl_243 rfl rfl (by decide) (m_243 (d := d) (p := x5_29) (r := x6_49) hT hI50 (by omega)) (kF (fun v70 v70p => ?_))
                                  have jn77 : ∀ (y76 : Int), ((-1) ≤ y76) → (y76 ≤ 7) → (y76 = -1 ∨ (0 ≤ y76 ∧ y76 < M 63 72)) → cP k_P xs Ln (d + 2) 282 194 [(0, rf 63), (1, (0, one)), (2, (0, where_)), (3, (0, x3_1)), (5, (0, x5_29)), (6, (0, x6_49))] [(0, y76)] (T, M50) (qW T M fS_282_m 0 (fun v M1 => True)) := by
                                    intro y76 a78 a79 a80
                                    refine s_istore kx_282_194 km_282_7 rfl ?_
                                    refine s_iconst (v := 0) kx_282_196 (by decide) ?_
                                    refine s_istore kx_282_197 km_282_8 rfl ?_
                                    have key83 : ∀ n84 : Nat, ∀ (x8_81 : Int), ∀ M82 : cM, Rng M82 → Fr fS_282_m M M82 → Fr fS_282_l104 M28 M82 → Fr fS_282_l144 M41 M82 → Fr fS_282_l199 M50 M82 → (0 ≤ x8_81) → (x8_81 ≤ 256) → (2147483647 - x8_81).toNat < n84 → cP k_P xs Ln (d + 2) 282 199 [(0, rf 63), (1, (0, one)), (2, (0, where_)), (3, (0, x3_1)), (5, (0, x5_29)), (6, (0, x6_49)), (7, (0, y76)), (8, (0, x8_81))] [] (T, M82) (qW T M fS_282_m 0 (fun v M1 => True)) := by
                                      intro n84
                                      induction n84 with
                                      | zero => intro x8_81 M82 hI82 hFm82 hFl10482 hFl14482 fl82 i85 i86 hm87; exact absurd hm87 (Nat.not_lt_zero _)
                                      | succ n84 ih88 =>
                                        intro x8_81 M82 hI82 hFm82 hFl10482 hFl14482 fl82 i85 i86 hm87
                                        refine s_iload kx_282_199 rfl ?_
                                        refine s_iload_n kx_282_201 rfl ?_
                                        refine s_icmp_ge (t := 292) kx_282_202 (by decide) (fun hc89 => ?_) (fun hc89 => ?_)
                                        · refine r_iinc kx_282_292 rfl km_282_6 (by decide) ⟨by omega, by omega⟩ rfl ?_
                                          refine s_goto (t := 144) kx_282_295 (by decide) ?_
                                          exact cP.wk (lS1 rfl (lS1 rfl (lS1 rfl (lS1 rfl (lS1 rfl (lS1 rfl lS0)))))) (ih55 (x6_49 + 1) M82 hI82 hFm82 hFl10482 hFl14482 (by omega) (by omega))
                                        · refine s_iload kx_282_205 rfl ?_
                                          refine s_iconst (v := (-1)) kx_282_207 (by decide) ?_
                                          refine s_icmp_ne (t := 231) kx_282_208 (by decide) (fun hc90 => ?_) (fun hc90 => ?_)
                                          · refine s_iload kx_282_231 rfl ?_
                                            refine s_aload_n kx_282_233 rfl ?_
                                            refine r_getR (k := 63) (f := 77) (k2 := 112) kx_282_234 kp_282_246 (tk_63 hT) kf_12_77 (by decide) (rq_63_77 hI82) ?_
                                            refine s_iload kx_282_237 rfl ?_
                                            obtain ⟨b1, b2, q, b3, b4⟩ := (SR.fr (SR.fr (SR.fr (SR.fr (SR.up (SR.fr i13 fl20 (fun _ => rfl) (fun _ => rfl)) u28 (by decide)) fl30 (fun _ => rfl) (fun _ => rfl)) fl41 (fun _ => rfl) (fun _ => rfl)) fl50 (fun _ => rfl) (fun _ => rfl)) fl82 (fun _ => rfl) (fun _ => rfl)).2 y76 (by omega) (by omega)
                                            refine r_aldU (k := 112) kx_282_239 (tk_112 hT) ⟨by omega, by omega⟩ (fun v91 v91e => ?_)
                                            have hd3 := mixle b1 b2 b3 b4
                                            have hd1 := Int.ediv_nonneg (show 0 ≤ x8_81 by omega) (show 0 ≤ v91 by omega)
                                            have hd2 := Int.ediv_le_self v91 (show 0 ≤ x8_81 by omega)
                                            refine r_idiv kx_282_240 (by omega) (by omega) (by omega) (by omega) ?_
                                            refine s_iconst (v := 1) kx_282_241 (by decide) ?_
                                            refine s_aload_n kx_282_242 rfl ?_
                                            refine r_getR (k := 63) (f := 74) (k2 := 109) kx_282_243 kp_282_237 (tk_63 hT) kf_12_74 (by decide) (rq_63_74 hI82) ?_
                                            refine s_iload kx_282_246 rfl ?_
                                            refine r_ald (k := 109) kx_282_248 (tk_109 hT) ⟨by omega, by omega⟩ (rg_109 hI82) (fun v92 v92e v92a v92b => ?_)
                                            refine r_add kx_282_249 ⟨by omega, by omega⟩ ?_
                                            refine r_irem kx_282_250 (by omega) (by omega) (by omega) (by omega) ?_
                                            refine s_aload_n kx_282_251 rfl ?_
                                            refine r_getR (k := 63) (f := 74) (k2 := 109) kx_282_252 kp_282_237 (tk_63 hT) kf_12_74 (by decide) (rq_63_74 hI82) ?_
                                            refine s_iload kx_282_255 rfl ?_
                                            refine r_aldK (k := 109) kx_282_257 (tk_109 hT) ⟨by omega, by omega⟩ v92e ?_
                                            refine s_icmp_ge (t := 286) kx_282_258 (by decide) (fun hc93 => ?_) (fun hc93 => ?_)
                                            · refine r_iinc kx_282_286 rfl km_282_8 (by decide) ⟨by omega, by omega⟩ rfl ?_
                                              refine s_goto (t := 199) kx_282_289 (by decide) ?_
                                              exact cP.wk (lS1 rfl (lS1 rfl (lS1 rfl (lS1 rfl (lS1 rfl (lS1 rfl (lS1 rfl (lS1 rfl lS0)))))))) (ih88 (x8_81 + 1) M82 hI82 hFm82 hFl10482 hFl14482 fl82 (by omega) (by omega) (by omega))
                                            · refine s_aload_n kx_282_261 rfl ?_
                                              refine r_getR (k := 63) (f := 76) (k2 := 111) kx_282_262 kp_282_243 (tk_63 hT) kf_12_76 (by decide) (rq_63_76 hI82) ?_
                                              refine s_iload kx_282_265 rfl ?_
                                              refine s_aload_n kx_282_267 rfl ?_
                                              refine r_getR (k := 63) (f := 77) (k2 := 112) kx_282_268 kp_282_246 (tk_63 hT) kf_12_77 (by decide) (rq_63_77 hI82) ?_
                                              refine s_iload kx_282_271 rfl ?_
                                              refine r_aldK (k := 112) kx_282_273 (tk_112 hT) ⟨by omega, by omega⟩ v91e ?_
                                              have hmx := mixrad (s := x8_81) (S := x3_1) (p := v91) (w := v92) (q := q) (by omega) (by omega) (by omega) (by omega) (by rw [b4, show M82 112 (y76).toNat = v91 by omega, show M82 109 (y76).toNat = v92 by omega]) (by rw [Int.add_comm v92 1]; omega)
                                              refine r_add kx_282_274 ⟨by omega, by omega⟩ ?_
                                              refine s_dup2 kx_282_275 rfl rfl ?_
                                              refine r_aldU (k := 111) kx_282_276 (tk_111 hT) ⟨by omega, by omega⟩ (fun v94 v94e => ?_)
                                              refine s_aload_n kx_282_277 rfl ?_
                                              refine r_getR (k := 63) (f := 75) (k2 := 110) kx_282_278 kp_282_240 (tk_63 hT) kf_12_75 (by decide) (rq_63_75 hI82) ?_
                                              refine s_iload kx_282_281 rfl ?_
                                              refine r_aldU (k := 110) kx_282_283 (tk_110 hT) ⟨by omega, by omega⟩ (fun v95 v95e => ?_)
                                              refine r_iaddR kx_282_284 (fun v96 v96a v96b => ?_)
                                              refine r_ast (k := 111) kx_282_285 (tk_111 hT) ⟨by omega, by omega⟩ hI82 ru_111 (fun M97 hI97 u97 => ?_)
                                              have hFm97 := hFm82.up u97 rfl
                                              have hFl10497 := hFl10482.up u97 rfl
                                              have hFl14497 := hFl14482.up u97 rfl
                                              have hFl19997 := fl82.up u97 rfl
                                              refine r_iinc kx_282_286 rfl km_282_8 (by decide) ⟨by omega, by omega⟩ rfl ?_
                                              refine s_goto (t := 199) kx_282_289 (by decide) ?_
                                              exact cP.wk (lS1 rfl (lS1 rfl (lS1 rfl (lS1 rfl (lS1 rfl (lS1 rfl (lS1 rfl (lS1 rfl lS0)))))))) (ih88 (x8_81 + 1) M97 hI97 hFm97 hFl10497 hFl14497 hFl19997 (by omega) (by omega) (by omega))
                                          · refine s_aload_n kx_282_211 rfl ?_
                                            refine r_getR (k := 63) (f := 76) (k2 := 111) kx_282_212 kp_282_243 (tk_63 hT) kf_12_76 (by decide) (rq_63_76 hI82) ?_
                                            refine s_iload kx_282_215 rfl ?_
                                            refine s_dup2 kx_282_217 rfl rfl ?_
                                            refine r_aldU (k := 111) kx_282_218 (tk_111 hT) ⟨by omega, by omega⟩ (fun v98 v98e => ?_)
                                            refine s_aload_n kx_282_219 rfl ?_
                                            refine r_getR (k := 63) (f := 75) (k2 := 110) kx_282_220 kp_282_240 (tk_63 hT) kf_12_75 (by decide) (rq_63_75 hI82) ?_
                                            refine s_iload kx_282_223 rfl ?_
                                            refine r_aldU (k := 110) kx_282_225 (tk_110 hT) ⟨by omega, by omega⟩ (fun v99 v99e => ?_)
                                            refine r_iaddR kx_282_226 (fun v100 v100a v100b => ?_)
                                            refine r_ast (k := 111) kx_282_227 (tk_111 hT) ⟨by omega, by omega⟩ hI82 ru_111 (fun M101 hI101 u101 => ?_)
                                            have hFm101 := hFm82.up u101 rfl
                                            have hFl104101 := hFl10482.up u101 rfl
                                            have hFl144101 := hFl14482.up u101 rfl
                                            have hFl199101 := fl82.up u101 rfl
                                            refine s_goto (t := 286) kx_282_228 (by decide) ?_
                                            refine r_iinc kx_282_286 rfl km_282_8 (by decide) ⟨by omega, by omega⟩ rfl ?_
                                            refine s_goto (t := 199) kx_282_289 (by decide) ?_
                                            exact cP.wk (lS1 rfl (lS1 rfl (lS1 rfl (lS1 rfl (lS1 rfl (lS1 rfl (lS1 rfl (lS1 rfl lS0)))))))) (ih88 (x8_81 + 1) M101 hI101 hFm101 hFl104101 hFl144101 hFl199101 (by omega) (by omega) (by omega))
                                    exact cP.wk (lS1 rfl (lS1 rfl (lS1 rfl (lS1 rfl (lS1 rfl (lS1 rfl (lS1 rfl (lS1 rfl lS0)))))))) (key83 _ 0 M50 hI50 hFm50 hFl10450 fl50 Fr.refl (by omega) (by omega) (Nat.lt_succ_self _))
                                  refine s_if_eq (t := 188) kx_282_181 (by decide) (fun hc71 => ?_) (fun hc71 => ?_)
                                  · have hJ72 : Fr fS_282_j181 M50 M50 := Fr.refl
                                    refine s_aload_n kx_282_188 rfl ?_
                                    refine s_iload kx_282_189 rfl ?_
                                    refine s_callV2 (k := 63) (s1 := 2) (s2 := 0) (as := [(0, x6_49)]) (rest := []) kx_282_191 kp_282_600 (Or.inl rfl) rfl (tk_63 hT) ki_281 kcl_281 rfl rfl (by decide) (m_281 (d := d + 1) (r := x6_49) hT hI50) (kF (fun v73 v73p => ?_))
                                    have he74 : M50 63 72 = M 63 72 := ((fl50 63 72 rfl).trans ((fl41 63 72 rfl).trans ((fl30 63 72 rfl).trans ((u28.2 63 72 (by omega)).trans ((fl20 63 72 rfl).trans (fl4 63 72 rfl))))))
                                    exact cP.wk (lS1 rfl (lS1 rfl (lS1 rfl (lS1 rfl (lS1 rfl (lS1 rfl lS0)))))) (jn77 v73 (by omega) (by omega) (by omega))
                                  · have hJ75 : Fr fS_282_j181 M50 M50 := Fr.refl
                                    refine s_iconst (v := (-1)) kx_282_184 (by decide) ?_
                                    refine s_goto (t := 194) kx_282_185 (by decide) ?_
                                    exact cP.wk (lS1 rfl (lS1 rfl (lS1 rfl (lS1 rfl (lS1 rfl (lS1 rfl lS0)))))) (jn77 (-1) (by omega) (by omega) (by omega))
                                · refine s_iload kx_282_164 rfl ?_
                                  refine s_iload_n kx_282_166 rfl ?_
                                  refine s_icmp_eq (t := 173) kx_282_167 (by decide) (fun hc102 => ?_) (fun hc102 => ?_)
                                  · refine s_aload_n kx_282_173 rfl ?_
                                    refine s_iload kx_282_174 rfl ?_
                                    refine s_iload kx_282_176 rfl ?_
                                    refine s_callV2 (k := 63) (s1 := 3) (s2 := 0) (as := [(0, x6_49), (0, x5_29)]) (rest := []) kx_282_178 kp_282_500 (Or.inl rfl) rfl (tk_63 hT) ki_243 kcl_243 rfl rfl (by decide) (m_243 (d := d) (p := x5_29) (r := x6_49) hT hI50 (by omega)) (kF (fun v103 v103p => ?_))
                                    have jn110 : ∀ (y109 : Int), ((-1) ≤ y109) → (y109 ≤ 7) → (y109 = -1 ∨ (0 ≤ y109 ∧ y109 < M 63 72)) → cP k_P xs Ln (d + 2) 282 194 [(0, rf 63), (1, (0, one)), (2, (0, where_)), (3, (0, x3_1)), (5, (0, x5_29)), (6, (0, x6_49))] [(0, y109)] (T, M50) (qW T M fS_282_m 0 (fun v M1 => True)) := by
                                      intro y109 a111 a112 a113
                                      refine s_istore kx_282_194 km_282_7 rfl ?_
                                      refine s_iconst (v := 0) kx_282_196 (by decide) ?_
                                      refine s_istore kx_282_197 km_282_8 rfl ?_
                                      have key116 : ∀ n117 : Nat, ∀ (x8_114 : Int), ∀ M115 : cM, Rng M115 → Fr fS_282_m M M115 → Fr fS_282_l104 M28 M115 → Fr fS_282_l144 M41 M115 → Fr fS_282_l199 M50 M115 → (0 ≤ x8_114) → (x8_114 ≤ 256) → (2147483647 - x8_114).toNat < n117 → cP k_P xs Ln (d + 2) 282 199 [(0, rf 63), (1, (0, one)), (2, (0, where_)), (3, (0, x3_1)), (5, (0, x5_29)), (6, (0, x6_49)), (7, (0, y109)), (8, (0, x8_114))] [] (T, M115) (qW T M fS_282_m 0 (fun v M1 => True)) := by
                                        intro n117
                                        induction n117 with
                                        | zero => intro x8_114 M115 hI115 hFm115 hFl104115 hFl144115 fl115 i118 i119 hm120; exact absurd hm120 (Nat.not_lt_zero _)
                                        | succ n117 ih121 =>
                                          intro x8_114 M115 hI115 hFm115 hFl104115 hFl144115 fl115 i118 i119 hm120
                                          refine s_iload kx_282_199 rfl ?_
                                          refine s_iload_n kx_282_201 rfl ?_
                                          refine s_icmp_ge (t := 292) kx_282_202 (by decide) (fun hc122 => ?_) (fun hc122 => ?_)
                                          · refine r_iinc kx_282_292 rfl km_282_6 (by decide) ⟨by omega, by omega⟩ rfl ?_
                                            refine s_goto (t := 144) kx_282_295 (by decide) ?_
                                            exact cP.wk (lS1 rfl (lS1 rfl (lS1 rfl (lS1 rfl (lS1 rfl (lS1 rfl lS0)))))) (ih55 (x6_49 + 1) M115 hI115 hFm115 hFl104115 hFl144115 (by omega) (by omega))
                                          · refine s_iload kx_282_205 rfl ?_
                                            refine s_iconst (v := (-1)) kx_282_207 (by decide) ?_
                                            refine s_icmp_ne (t := 231) kx_282_208 (by decide) (fun hc123 => ?_) (fun hc123 => ?_)
                                            · refine s_iload kx_282_231 rfl ?_
                                              refine s_aload_n kx_282_233 rfl ?_
                                              refine r_getR (k := 63) (f := 77) (k2 := 112) kx_282_234 kp_282_246 (tk_63 hT) kf_12_77 (by decide) (rq_63_77 hI115) ?_
                                              refine s_iload kx_282_237 rfl ?_
                                              obtain ⟨b1, b2, q, b3, b4⟩ := (SR.fr (SR.fr (SR.fr (SR.fr (SR.up (SR.fr i13 fl20 (fun _ => rfl) (fun _ => rfl)) u28 (by decide)) fl30 (fun _ => rfl) (fun _ => rfl)) fl41 (fun _ => rfl) (fun _ => rfl)) fl50 (fun _ => rfl) (fun _ => rfl)) fl115 (fun _ => rfl) (fun _ => rfl)).2 y109 (by omega) (by omega)
                                              refine r_aldU (k := 112) kx_282_239 (tk_112 hT) ⟨by omega, by omega⟩ (fun v124 v124e => ?_)
                                              have hd3 := mixle b1 b2 b3 b4
                                              have hd1 := Int.ediv_nonneg (show 0 ≤ x8_114 by omega) (show 0 ≤ v124 by omega)
                                              have hd2 := Int.ediv_le_self v124 (show 0 ≤ x8_114 by omega)
                                              refine r_idiv kx_282_240 (by omega) (by omega) (by omega) (by omega) ?_
                                              refine s_iconst (v := 1) kx_282_241 (by decide) ?_
                                              refine s_aload_n kx_282_242 rfl ?_
                                              refine r_getR (k := 63) (f := 74) (k2 := 109) kx_282_243 kp_282_237 (tk_63 hT) kf_12_74 (by decide) (rq_63_74 hI115) ?_
                                              refine s_iload kx_282_246 rfl ?_
                                              refine r_ald (k := 109) kx_282_248 (tk_109 hT) ⟨by omega, by omega⟩ (rg_109 hI115) (fun v125 v125e v125a v125b => ?_)
                                              refine r_add kx_282_249 ⟨by omega, by omega⟩ ?_
                                              refine r_irem kx_282_250 (by omega) (by omega) (by omega) (by omega) ?_
                                              refine s_aload_n kx_282_251 rfl ?_
                                              refine r_getR (k := 63) (f := 74) (k2 := 109) kx_282_252 kp_282_237 (tk_63 hT) kf_12_74 (by decide) (rq_63_74 hI115) ?_
                                              refine s_iload kx_282_255 rfl ?_
                                              refine r_aldK (k := 109) kx_282_257 (tk_109 hT) ⟨by omega, by omega⟩ v125e ?_
                                              refine s_icmp_ge (t := 286) kx_282_258 (by decide) (fun hc126 => ?_) (fun hc126 => ?_)
                                              · refine r_iinc kx_282_286 rfl km_282_8 (by decide) ⟨by omega, by omega⟩ rfl ?_
                                                refine s_goto (t := 199) kx_282_289 (by decide) ?_
                                                exact cP.wk (lS1 rfl (lS1 rfl (lS1 rfl (lS1 rfl (lS1 rfl (lS1 rfl (lS1 rfl (lS1 rfl lS0)))))))) (ih121 (x8_114 + 1) M115 hI115 hFm115 hFl104115 hFl144115 fl115 (by omega) (by omega) (by omega))
                                              · refine s_aload_n kx_282_261 rfl ?_
                                                refine r_getR (k := 63) (f := 76) (k2 := 111) kx_282_262 kp_282_243 (tk_63 hT) kf_12_76 (by decide) (rq_63_76 hI115) ?_
                                                refine s_iload kx_282_265 rfl ?_
                                                refine s_aload_n kx_282_267 rfl ?_
                                                refine r_getR (k := 63) (f := 77) (k2 := 112) kx_282_268 kp_282_246 (tk_63 hT) kf_12_77 (by decide) (rq_63_77 hI115) ?_
                                                refine s_iload kx_282_271 rfl ?_
                                                refine r_aldK (k := 112) kx_282_273 (tk_112 hT) ⟨by omega, by omega⟩ v124e ?_
                                                have hmx := mixrad (s := x8_114) (S := x3_1) (p := v124) (w := v125) (q := q) (by omega) (by omega) (by omega) (by omega) (by rw [b4, show M115 112 (y109).toNat = v124 by omega, show M115 109 (y109).toNat = v125 by omega]) (by rw [Int.add_comm v125 1]; omega)
                                                refine r_add kx_282_274 ⟨by omega, by omega⟩ ?_
                                                refine s_dup2 kx_282_275 rfl rfl ?_
                                                refine r_aldU (k := 111) kx_282_276 (tk_111 hT) ⟨by omega, by omega⟩ (fun v127 v127e => ?_)
                                                refine s_aload_n kx_282_277 rfl ?_
                                                refine r_getR (k := 63) (f := 75) (k2 := 110) kx_282_278 kp_282_240 (tk_63 hT) kf_12_75 (by decide) (rq_63_75 hI115) ?_
                                                refine s_iload kx_282_281 rfl ?_
                                                refine r_aldU (k := 110) kx_282_283 (tk_110 hT) ⟨by omega, by omega⟩ (fun v128 v128e => ?_)
                                                refine r_iaddR kx_282_284 (fun v129 v129a v129b => ?_)
                                                refine r_ast (k := 111) kx_282_285 (tk_111 hT) ⟨by omega, by omega⟩ hI115 ru_111 (fun M130 hI130 u130 => ?_)
                                                have hFm130 := hFm115.up u130 rfl
                                                have hFl104130 := hFl104115.up u130 rfl
                                                have hFl144130 := hFl144115.up u130 rfl
                                                have hFl199130 := fl115.up u130 rfl
                                                refine r_iinc kx_282_286 rfl km_282_8 (by decide) ⟨by omega, by omega⟩ rfl ?_
                                                refine s_goto (t := 199) kx_282_289 (by decide) ?_
                                                exact cP.wk (lS1 rfl (lS1 rfl (lS1 rfl (lS1 rfl (lS1 rfl (lS1 rfl (lS1 rfl (lS1 rfl lS0)))))))) (ih121 (x8_114 + 1) M130 hI130 hFm130 hFl104130 hFl144130 hFl199130 (by omega) (by omega) (by omega))
                                            · refine s_aload_n kx_282_211 rfl ?_
                                              refine r_getR (k := 63) (f := 76) (k2 := 111) kx_282_212 kp_282_243 (tk_63 hT) kf_12_76 (by decide) (rq_63_76 hI115) ?_
                                              refine s_iload kx_282_215 rfl ?_
                                              refine s_dup2 kx_282_217 rfl rfl ?_
                                              refine r_aldU (k := 111) kx_282_218 (tk_111 hT) ⟨by omega, by omega⟩ (fun v131 v131e => ?_)
                                              refine s_aload_n kx_282_219 rfl ?_
                                              refine r_getR (k := 63) (f := 75) (k2 := 110) kx_282_220 kp_282_240 (tk_63 hT) kf_12_75 (by decide) (rq_63_75 hI115) ?_
                                              refine s_iload kx_282_223 rfl ?_
                                              refine r_aldU (k := 110) kx_282_225 (tk_110 hT) ⟨by omega, by omega⟩ (fun v132 v132e => ?_)
                                              refine r_iaddR kx_282_226 (fun v133 v133a v133b => ?_)
                                              refine r_ast (k := 111) kx_282_227 (tk_111 hT) ⟨by omega, by omega⟩ hI115 ru_111 (fun M134 hI134 u134 => ?_)
                                              have hFm134 := hFm115.up u134 rfl
                                              have hFl104134 := hFl104115.up u134 rfl
                                              have hFl144134 := hFl144115.up u134 rfl
                                              have hFl199134 := fl115.up u134 rfl
                                              refine s_goto (t := 286) kx_282_228 (by decide) ?_
                                              refine r_iinc kx_282_286 rfl km_282_8 (by decide) ⟨by omega, by omega⟩ rfl ?_
                                              refine s_goto (t := 199) kx_282_289 (by decide) ?_
                                              exact cP.wk (lS1 rfl (lS1 rfl (lS1 rfl (lS1 rfl (lS1 rfl (lS1 rfl (lS1 rfl (lS1 rfl lS0)))))))) (ih121 (x8_114 + 1) M134 hI134 hFm134 hFl104134 hFl144134 hFl199134 (by omega) (by omega) (by omega))
                                      exact cP.wk (lS1 rfl (lS1 rfl (lS1 rfl (lS1 rfl (lS1 rfl (lS1 rfl (lS1 rfl (lS1 rfl lS0)))))))) (key116 _ 0 M50 hI50 hFm50 hFl10450 fl50 Fr.refl (by omega) (by omega) (Nat.lt_succ_self _))
                                    refine s_if_eq (t := 188) kx_282_181 (by decide) (fun hc104 => ?_) (fun hc104 => ?_)
                                    · have hJ105 : Fr fS_282_j181 M50 M50 := Fr.refl
                                      refine s_aload_n kx_282_188 rfl ?_
                                      refine s_iload kx_282_189 rfl ?_
                                      refine s_callV2 (k := 63) (s1 := 2) (s2 := 0) (as := [(0, x6_49)]) (rest := []) kx_282_191 kp_282_600 (Or.inl rfl) rfl (tk_63 hT) ki_281 kcl_281 rfl rfl (by decide) (m_281 (d := d + 1) (r := x6_49) hT hI50) (kF (fun v106 v106p => ?_))
                                      have he107 : M50 63 72 = M 63 72 := ((fl50 63 72 rfl).trans ((fl41 63 72 rfl).trans ((fl30 63 72 rfl).trans ((u28.2 63 72 (by omega)).trans ((fl20 63 72 rfl).trans (fl4 63 72 rfl))))))
                                      exact cP.wk (lS1 rfl (lS1 rfl (lS1 rfl (lS1 rfl (lS1 rfl (lS1 rfl lS0)))))) (jn110 v106 (by omega) (by omega) (by omega))
                                    · have hJ108 : Fr fS_282_j181 M50 M50 := Fr.refl
                                      refine s_iconst (v := (-1)) kx_282_184 (by decide) ?_
                                      refine s_goto (t := 194) kx_282_185 (by decide) ?_
                                      exact cP.wk (lS1 rfl (lS1 rfl (lS1 rfl (lS1 rfl (lS1 rfl (lS1 rfl lS0)))))) (jn110 (-1) (by omega) (by omega) (by omega))
                                  · refine s_goto (t := 292) kx_282_170 (by decide) ?_
                                    refine r_iinc kx_282_292 rfl km_282_6 (by decide) ⟨by omega, by omega⟩ rfl ?_
                                    refine s_goto (t := 144) kx_282_295 (by decide) ?_
                                    exact cP.wk (lS1 rfl (lS1 rfl (lS1 rfl (lS1 rfl (lS1 rfl (lS1 rfl lS0)))))) (ih55 (x6_49 + 1) M50 hI50 hFm50 hFl10450 fl50 (by omega) (by omega))
                          exact cP.wk (lS1 rfl (lS1 rfl (lS1 rfl (lS1 rfl (lS1 rfl (lS1 rfl lS0)))))) (key51 _ 0 M41 hI41 hFm41 hFl10441 Fr.refl (by omega) (Nat.lt_succ_self _))
                        · refine s_aload_n kx_282_127 rfl ?_
                          refine r_getR (k := 63) (f := 76) (k2 := 111) kx_282_128 kp_282_243 (tk_63 hT) kf_12_76 (by decide) (rq_63_76 hI41) ?_
                          refine s_iload kx_282_131 rfl ?_
                          refine s_iconst (v := 0) kx_282_133 (by decide) ?_
                          refine r_ast (k := 111) kx_282_134 (tk_111 hT) ⟨by omega, by omega⟩ hI41 ru_111 (fun M135 hI135 u135 => ?_)
                          have hFm135 := hFm41.up u135 rfl
                          have hFl104135 := hFl10441.up u135 rfl
                          have hFl121135 := fl41.up u135 rfl
                          refine r_iinc kx_282_135 rfl km_282_6 (by decide) ⟨by omega, by omega⟩ rfl ?_
                          refine s_goto (t := 121) kx_282_138 (by decide) ?_
                          exact cP.wk (lS1 rfl (lS1 rfl (lS1 rfl (lS1 rfl (lS1 rfl (lS1 rfl lS0)))))) (ih47 (x6_40 + 1) M135 hI135 hFm135 hFl104135 hFl121135 (by omega) (by omega) (by omega))
                    exact cP.wk (lS1 rfl (lS1 rfl (lS1 rfl (lS1 rfl (lS1 rfl (lS1 rfl lS0)))))) (key42 _ 0 M30 hI30 hFm30 fl30 Fr.refl (by omega) (by omega) (Nat.lt_succ_self _))
              exact cP.wk (lS1 rfl (lS1 rfl (lS1 rfl (lS1 rfl (lS1 rfl lS0))))) (key31 _ 0 M28 hI28 hFm28 Fr.refl (by omega) (Nat.lt_succ_self _))
            · refine s_aload_n kx_282_80 rfl ?_
              refine r_getR (k := 63) (f := 75) (k2 := 110) kx_282_81 kp_282_240 (tk_63 hT) kf_12_75 (by decide) (rq_63_75 hI20) ?_
              refine s_iload kx_282_84 rfl ?_
              refine s_iconst (v := 0) kx_282_86 (by decide) ?_
              refine r_ast (k := 110) kx_282_87 (tk_110 hT) ⟨by omega, by omega⟩ hI20 ru_110 (fun M136 hI136 u136 => ?_)
              have hFm136 := hFm20.up u136 rfl
              have hFl74136 := fl20.up u136 rfl
              refine r_iinc kx_282_88 rfl km_282_5 (by decide) ⟨by omega, by omega⟩ rfl ?_
              refine s_goto (t := 74) kx_282_91 (by decide) ?_
              exact cP.wk (lS1 rfl (lS1 rfl (lS1 rfl (lS1 rfl (lS1 rfl lS0))))) (ih26 (x5_19 + 1) M136 hI136 hFm136 hFl74136 (by omega) (by omega) (by omega))
        exact cP.wk (lS1 rfl (lS1 rfl (lS1 rfl (lS1 rfl (lS1 rfl lS0))))) (key21 _ 0 M4 hI4 hFm4 Fr.refl (by omega) (by omega) (Nat.lt_succ_self _))
      · refine s_iload kx_282_17 rfl ?_
        refine s_aload_n kx_282_19 rfl ?_
        refine r_getR (k := 63) (f := 74) (k2 := 109) kx_282_20 kp_282_237 (tk_63 hT) kf_12_74 (by decide) (rq_63_74 hI4) ?_
        refine s_iload kx_282_23 rfl ?_
        refine r_ald (k := 109) kx_282_25 (tk_109 hT) ⟨by omega, by omega⟩ (rg_109 hI4) (fun v137 v137e v137a v137b => ?_)
        refine r_add kx_282_26 ⟨by omega, by omega⟩ ?_
        refine s_istore kx_282_27 km_282_4 rfl ?_
        refine s_iload kx_282_29 rfl ?_
        refine s_aload_n kx_282_31 rfl ?_
        refine r_getR (k := 63) (f := 19) (k2 := 69) kx_282_32 kp_282_69 (tk_63 hT) kf_12_19 (by decide) (rq_63_19 hI4) ?_
        refine s_aload_n kx_282_35 rfl ?_
        refine r_getI (k := 63) (f := 14) kx_282_36 kp_282_54 (tk_63 hT) kf_12_14 (fun _ => rfl) (rg_63_14 hI4) (fun v138 v138e v138a v138b => ?_)
        have v138z : M 63 14 = v138 := ((fl4 63 14 rfl)).symm.trans v138e
        refine r_ald (k := 69) kx_282_39 (tk_69 hT) ⟨by omega, by omega⟩ (rg_69 hI4) (fun v139 v139e v139a v139b => ?_)
        refine s_icmp_le (t := 45) kx_282_40 (by decide) (fun hc140 => ?_) (fun hc140 => ?_)
        · refine s_aload_n kx_282_45 rfl ?_
          refine r_getR (k := 63) (f := 77) (k2 := 112) kx_282_46 kp_282_246 (tk_63 hT) kf_12_77 (by decide) (rq_63_77 hI4) ?_
          refine s_iload kx_282_49 rfl ?_
          refine s_iload_n kx_282_51 rfl ?_
          refine r_ast (k := 112) kx_282_52 (tk_112 hT) ⟨by omega, by omega⟩ hI4 ru_112 (fun M141 hI141 u141 => ?_)
          have hFm141 := hFm4.up u141 rfl
          have hFl8141 := fl4.up u141 rfl
          refine s_iload_n kx_282_53 rfl ?_
          refine s_iconst (v := 1) kx_282_54 (by decide) ?_
          refine s_aload_n kx_282_55 rfl ?_
          refine r_getR (k := 63) (f := 74) (k2 := 109) kx_282_56 kp_282_237 (tk_63 hT) kf_12_74 (by decide) (rq_63_74 hI141) ?_
          refine s_iload kx_282_59 rfl ?_
          refine r_aldK (k := 109) kx_282_61 (tk_109 hT) ⟨by omega, by omega⟩ ((u141.2 109 _ (by omega)).trans v137e) ?_
          refine r_add kx_282_62 ⟨by omega, by omega⟩ ?_
          have hm8 := lay_mul (S := x3_1) (a := x4_2) (m := v137) (by omega) (by omega) (by omega) (by omega)
          have hm9 := pow8 (n := x4_2 + v137) (by omega)
          refine r_mul kx_282_63 ⟨by omega, by omega⟩ ?_
          refine s_istore_n kx_282_64 km_282_3 rfl ?_
          refine r_iinc kx_282_65 rfl km_282_5 (by decide) ⟨by omega, by omega⟩ rfl ?_
          refine s_goto (t := 8) kx_282_68 (by decide) ?_
          exact cP.wk (lS1 rfl (lS1 rfl (lS1 rfl (lS1 rfl (lS1 rfl (lS1 rfl lS0)))))) (ih16 (x3_1 * (1 + v137)) (x4_2 + v137) (x5_3 + 1) M141 hI141 hFm141 hFl8141 (by omega) (by omega) (by omega) (by omega) (by omega) (by omega) (SR_step i13 (by omega) v137e (by omega) u141) (by omega) (by omega))
        · refine s_iconst (v := 0) kx_282_43 (by decide) ?_
          exact s_iret kx_282_44 (Or.inl kq_282) ⟨_, _, rfl, rfl, hI4, hFm4, trivial⟩
  have hz2 : (2 : Int) ^ (0 : Int).toNat = 1 := rfl
  exact cP.wk (lS1 rfl (lS1 rfl (lS1 rfl (lS1 rfl (lS1 rfl (lS1 rfl lS0)))))) (key5 _ 1 0 0 M hI hFm Fr.refl (by omega) (by omega) (by omega) (by omega) (by omega) (by omega) (⟨by omega, fun r a b => absurd b (by omega)⟩) (by omega) (Nat.lt_succ_self _))
theorem kx_283_0 : x_code k_P 283 0 = some (.iload_n 1, 1) := by decide +kernel
theorem kx_283_1 : x_code k_P 283 1 = some (.ifCond .eq 15, 3) := by decide +kernel
theorem kx_283_16 : x_code k_P 283 16 = some (.iconst 0, 1) := by decide +kernel
theorem kx_283_17 : x_code k_P 283 17 = some (.ireturn, 1) := by decide +kernel
theorem kq_283 : x_retk k_P 283 = 2 := by decide +kernel
theorem kx_283_4 : x_code k_P 283 4 = some (.iload_n 1, 1) := by decide +kernel
theorem kx_283_5 : x_code k_P 283 5 = some (.iconst 2, 1) := by decide +kernel
theorem kx_283_6 : x_code k_P 283 6 = some (.irem, 1) := by decide +kernel
theorem kx_283_7 : x_code k_P 283 7 = some (.ifCond .gt 9, 3) := by decide +kernel
theorem kx_283_10 : x_code k_P 283 10 = some (.iload_n 1, 1) := by decide +kernel
theorem kx_283_11 : x_code k_P 283 11 = some (.bipush 16, 2) := by decide +kernel
theorem kx_283_13 : x_code k_P 283 13 = some (.if_icmp .le 5, 3) := by decide +kernel
theorem kx_283_18 : x_code k_P 283 18 = some (.iconst 0, 1) := by decide +kernel
theorem kx_283_19 : x_code k_P 283 19 = some (.istore_n 2, 1) := by decide +kernel
theorem km_283_2 : 2 < x_maxL k_P 283 := by decide +kernel
theorem kx_283_20 : x_code k_P 283 20 = some (.iload_n 2, 1) := by decide +kernel
theorem kx_283_21 : x_code k_P 283 21 = some (.iload_n 1, 1) := by decide +kernel
theorem kx_283_22 : x_code k_P 283 22 = some (.if_icmp .ge 54, 3) := by decide +kernel
theorem kx_283_76 : x_code k_P 283 76 = some (.iconst 1, 1) := by decide +kernel
theorem kx_283_77 : x_code k_P 283 77 = some (.ireturn, 1) := by decide +kernel
theorem kx_283_25 : x_code k_P 283 25 = some (.aload_n 0, 1) := by decide +kernel
theorem kx_283_26 : x_code k_P 283 26 = some (.aload_n 0, 1) := by decide +kernel
theorem kx_283_27 : x_code k_P 283 27 = some (.getfield 7, 3) := by decide +kernel
theorem kp_283_7 : x_pool k_P 283 7 = (1, 12, 0) := by decide +kernel
theorem kx_283_30 : x_code k_P 283 30 = some (.iload_n 2, 1) := by decide +kernel
theorem kx_283_31 : x_code k_P 283 31 = some (.iaload, 1) := by decide +kernel
theorem kx_283_32 : x_code k_P 283 32 = some (.invokevirtual 508, 3) := by decide +kernel
theorem kp_283_508 : x_pool k_P 283 508 = (2, 220, 1) := by decide +kernel
theorem kx_283_35 : x_code k_P 283 35 = some (.ifCond .ne 5, 3) := by decide +kernel
theorem kx_283_40 : x_code k_P 283 40 = some (.iconst 0, 1) := by decide +kernel
theorem kx_283_41 : x_code k_P 283 41 = some (.istore_n 3, 1) := by decide +kernel
theorem km_283_3 : 3 < x_maxL k_P 283 := by decide +kernel
theorem kx_283_42 : x_code k_P 283 42 = some (.iload_n 3, 1) := by decide +kernel
theorem kx_283_43 : x_code k_P 283 43 = some (.iload_n 2, 1) := by decide +kernel
theorem kx_283_44 : x_code k_P 283 44 = some (.if_icmp .ge 26, 3) := by decide +kernel
theorem kx_283_70 : x_code k_P 283 70 = some (.iinc 2 2, 3) := by decide +kernel
theorem kx_283_73 : x_code k_P 283 73 = some (.goto (-53), 3) := by decide +kernel
theorem kx_283_47 : x_code k_P 283 47 = some (.aload_n 0, 1) := by decide +kernel
theorem kx_283_48 : x_code k_P 283 48 = some (.getfield 7, 3) := by decide +kernel
theorem kx_283_51 : x_code k_P 283 51 = some (.iload_n 3, 1) := by decide +kernel
theorem kx_283_52 : x_code k_P 283 52 = some (.iaload, 1) := by decide +kernel
theorem kx_283_53 : x_code k_P 283 53 = some (.aload_n 0, 1) := by decide +kernel
theorem kx_283_54 : x_code k_P 283 54 = some (.getfield 7, 3) := by decide +kernel
theorem kx_283_57 : x_code k_P 283 57 = some (.iload_n 2, 1) := by decide +kernel
theorem kx_283_58 : x_code k_P 283 58 = some (.iaload, 1) := by decide +kernel
theorem kx_283_59 : x_code k_P 283 59 = some (.if_icmp .ne 5, 3) := by decide +kernel
theorem kx_283_64 : x_code k_P 283 64 = some (.iinc 3 2, 3) := by decide +kernel
theorem kx_283_67 : x_code k_P 283 67 = some (.goto (-25), 3) := by decide +kernel
theorem kx_283_62 : x_code k_P 283 62 = some (.iconst 0, 1) := by decide +kernel
theorem kx_283_63 : x_code k_P 283 63 = some (.ireturn, 1) := by decide +kernel
theorem kx_283_38 : x_code k_P 283 38 = some (.iconst 0, 1) := by decide +kernel
theorem kx_283_39 : x_code k_P 283 39 = some (.ireturn, 1) := by decide +kernel
theorem m_283 {xs : Nat → Int} {Ln d : Nat} {T : List cK} {M : cM} (hT : TT T) (hI : Rng M) {n : Int} (p0 : 0 ≤ n ∧ n ≤ 1600) : cC k_P xs Ln (d + 1) 283 [rf 63, (0, n)] (T, M) (qF T M 0 (fun v => (v = 1 ∧ 2 ≤ n ∧ n ≤ 16) ∨ v = 0)) := by
  show cP k_P xs Ln (d + 1) 283 0 [(0, rf 63), (1, (0, n))] [] (T, M) _
  refine s_iload_n kx_283_0 rfl ?_
  refine s_if_eq (t := 16) kx_283_1 (by decide) (fun hc1 => ?_) (fun hc1 => ?_)
  · refine s_iconst (v := 0) kx_283_16 (by decide) ?_
    exact s_iret kx_283_17 (Or.inr ⟨kq_283, by omega⟩) ⟨_, rfl, rfl, (by omega)⟩
  · refine s_iload_n kx_283_4 rfl ?_
    refine s_iconst (v := 2) kx_283_5 (by decide) ?_
    refine r_irem kx_283_6 (by omega) (by omega) (by omega) (by omega) ?_
    refine s_if_gt (t := 16) kx_283_7 (by decide) (fun hc2 => ?_) (fun hc2 => ?_)
    · refine s_iconst (v := 0) kx_283_16 (by decide) ?_
      exact s_iret kx_283_17 (Or.inr ⟨kq_283, by omega⟩) ⟨_, rfl, rfl, (by omega)⟩
    · refine s_iload_n kx_283_10 rfl ?_
      refine s_bipush (v := 16) kx_283_11 (by decide) ?_
      refine s_icmp_le (t := 18) kx_283_13 (by decide) (fun hc3 => ?_) (fun hc3 => ?_)
      · refine s_iconst (v := 0) kx_283_18 (by decide) ?_
        refine s_istore_n kx_283_19 km_283_2 rfl ?_
        have key5 : ∀ n6 : Nat, ∀ (x2_4 : Int), (0 ≤ x2_4) → (x2_4 ≤ 17) → (2147483647 - x2_4).toNat < n6 → cP k_P xs Ln (d + 1) 283 20 [(0, rf 63), (1, (0, n)), (2, (0, x2_4))] [] (T, M) (qF T M 0 (fun v => (v = 1 ∧ 2 ≤ n ∧ n ≤ 16) ∨ v = 0)) := by
          intro n6
          induction n6 with
          | zero => intro x2_4 i7 i8 hm9; exact absurd hm9 (Nat.not_lt_zero _)
          | succ n6 ih10 =>
            intro x2_4 i7 i8 hm9
            refine s_iload_n kx_283_20 rfl ?_
            refine s_iload_n kx_283_21 rfl ?_
            refine s_icmp_ge (t := 76) kx_283_22 (by decide) (fun hc11 => ?_) (fun hc11 => ?_)
            · refine s_iconst (v := 1) kx_283_76 (by decide) ?_
              exact s_iret kx_283_77 (Or.inr ⟨kq_283, by omega⟩) ⟨_, rfl, rfl, (by omega)⟩
            · refine s_aload_n kx_283_25 rfl ?_
              refine s_aload_n kx_283_26 rfl ?_
              refine r_getR (k := 63) (f := 0) (k2 := 64) kx_283_27 kp_283_7 (tk_63 hT) kf_12_0 (by decide) (rq_63_0 hI) ?_
              refine s_iload_n kx_283_30 rfl ?_
              refine r_ald (k := 64) kx_283_31 (tk_64 hT) ⟨by omega, by omega⟩ (rg_64 hI) (fun v12 v12e v12a v12b => ?_)
              refine s_callV2 (k := 63) (s1 := 2) (s2 := 0) (as := [(0, v12)]) (rest := []) kx_283_32 kp_283_508 (Or.inl rfl) rfl (tk_63 hT) ki_220 kcl_220 rfl rfl (by decide) (m_220 (d := d) (r := v12) hT hI) (kF (fun v13 v13p => ?_))
              refine s_if_ne (t := 40) kx_283_35 (by decide) (fun hc14 => ?_) (fun hc14 => ?_)
              · replace v13p := v13p.resolve_right (by omega)
                refine s_iconst (v := 0) kx_283_40 (by decide) ?_
                refine s_istore_n kx_283_41 km_283_3 rfl ?_
                have key16 : ∀ n17 : Nat, ∀ (x3_15 : Int), (0 ≤ x3_15) → (x3_15 ≤ 17) → (2147483647 - x3_15).toNat < n17 → cP k_P xs Ln (d + 1) 283 42 [(0, rf 63), (1, (0, n)), (2, (0, x2_4)), (3, (0, x3_15))] [] (T, M) (qF T M 0 (fun v => (v = 1 ∧ 2 ≤ n ∧ n ≤ 16) ∨ v = 0)) := by
                  intro n17
                  induction n17 with
                  | zero => intro x3_15 i18 i19 hm20; exact absurd hm20 (Nat.not_lt_zero _)
                  | succ n17 ih21 =>
                    intro x3_15 i18 i19 hm20
                    refine s_iload_n kx_283_42 rfl ?_
                    refine s_iload_n kx_283_43 rfl ?_
                    refine s_icmp_ge (t := 70) kx_283_44 (by decide) (fun hc22 => ?_) (fun hc22 => ?_)
                    · refine r_iinc kx_283_70 rfl km_283_2 (by decide) ⟨by omega, by omega⟩ rfl ?_
                      refine s_goto (t := 20) kx_283_73 (by decide) ?_
                      exact cP.wk (lS1 rfl (lS1 rfl (lS1 rfl lS0))) (ih10 (x2_4 + 2) (by omega) (by omega) (by omega))
                    · refine s_aload_n kx_283_47 rfl ?_
                      refine r_getR (k := 63) (f := 0) (k2 := 64) kx_283_48 kp_283_7 (tk_63 hT) kf_12_0 (by decide) (rq_63_0 hI) ?_
                      refine s_iload_n kx_283_51 rfl ?_
                      refine r_ald (k := 64) kx_283_52 (tk_64 hT) ⟨by omega, by omega⟩ (rg_64 hI) (fun v23 v23e v23a v23b => ?_)
                      refine s_aload_n kx_283_53 rfl ?_
                      refine r_getR (k := 63) (f := 0) (k2 := 64) kx_283_54 kp_283_7 (tk_63 hT) kf_12_0 (by decide) (rq_63_0 hI) ?_
                      refine s_iload_n kx_283_57 rfl ?_
                      refine r_aldK (k := 64) kx_283_58 (tk_64 hT) ⟨by omega, by omega⟩ v12e ?_
                      refine s_icmp_ne (t := 64) kx_283_59 (by decide) (fun hc24 => ?_) (fun hc24 => ?_)
                      · refine r_iinc kx_283_64 rfl km_283_3 (by decide) ⟨by omega, by omega⟩ rfl ?_
                        refine s_goto (t := 42) kx_283_67 (by decide) ?_
                        exact cP.wk (lS1 rfl (lS1 rfl (lS1 rfl (lS1 rfl lS0)))) (ih21 (x3_15 + 2) (by omega) (by omega) (by omega))
                      · refine s_iconst (v := 0) kx_283_62 (by decide) ?_
                        exact s_iret kx_283_63 (Or.inr ⟨kq_283, by omega⟩) ⟨_, rfl, rfl, (by omega)⟩
                exact cP.wk (lS1 rfl (lS1 rfl (lS1 rfl (lS1 rfl lS0)))) (key16 _ 0 (by omega) (by omega) (Nat.lt_succ_self _))
              · replace v13p := v13p.resolve_left (by omega)
                refine s_iconst (v := 0) kx_283_38 (by decide) ?_
                exact s_iret kx_283_39 (Or.inr ⟨kq_283, by omega⟩) ⟨_, rfl, rfl, (by omega)⟩
        exact cP.wk (lS1 rfl (lS1 rfl (lS1 rfl lS0))) (key5 _ 0 (by omega) (by omega) (Nat.lt_succ_self _))
      · refine s_iconst (v := 0) kx_283_16 (by decide) ?_
        exact s_iret kx_283_17 (Or.inr ⟨kq_283, by omega⟩) ⟨_, rfl, rfl, (by omega)⟩
theorem kx_284_0 : x_code k_P 284 0 = some (.aload_n 0, 1) := by decide +kernel
theorem kx_284_1 : x_code k_P 284 1 = some (.getfield 13, 3) := by decide +kernel
theorem kp_284_13 : x_pool k_P 284 13 = (1, 12, 1) := by decide +kernel
theorem kx_284_4 : x_code k_P 284 4 = some (.istore_n 1, 1) := by decide +kernel
theorem km_284_1 : 1 < x_maxL k_P 284 := by decide +kernel
theorem kx_284_5 : x_code k_P 284 5 = some (.aload_n 0, 1) := by decide +kernel
theorem kx_284_6 : x_code k_P 284 6 = some (.iconst 0, 1) := by decide +kernel
theorem kx_284_7 : x_code k_P 284 7 = some (.putfield 13, 3) := by decide +kernel
theorem kx_284_10 : x_code k_P 284 10 = some (.aload_n 0, 1) := by decide +kernel
theorem kx_284_11 : x_code k_P 284 11 = some (.iload_n 1, 1) := by decide +kernel
theorem kx_284_12 : x_code k_P 284 12 = some (.invokevirtual 603, 3) := by decide +kernel
theorem kp_284_603 : x_pool k_P 284 603 = (2, 283, 1) := by decide +kernel
theorem ki_283 : x_mci k_P 283 = 12 := by decide +kernel
theorem kcl_283 : x_maxL k_P 283 ≤ 60 ∧ 2 ≤ x_maxL k_P 283 := by decide +kernel
theorem kx_284_15 : x_code k_P 284 15 = some (.ifCond .ne 9, 3) := by decide +kernel
theorem kx_284_24 : x_code k_P 284 24 = some (.aload_n 0, 1) := by decide +kernel
theorem kx_284_25 : x_code k_P 284 25 = some (.iload_n 1, 1) := by decide +kernel
theorem kx_284_26 : x_code k_P 284 26 = some (.iconst 2, 1) := by decide +kernel
theorem kx_284_27 : x_code k_P 284 27 = some (.idiv, 1) := by decide +kernel
theorem kx_284_28 : x_code k_P 284 28 = some (.putfield 231, 3) := by decide +kernel
theorem kp_284_231 : x_pool k_P 284 231 = (1, 12, 72) := by decide +kernel
theorem kx_284_31 : x_code k_P 284 31 = some (.iconst 0, 1) := by decide +kernel
theorem kx_284_32 : x_code k_P 284 32 = some (.istore_n 2, 1) := by decide +kernel
theorem km_284_2 : 2 < x_maxL k_P 284 := by decide +kernel
theorem kx_284_33 : x_code k_P 284 33 = some (.iload_n 2, 1) := by decide +kernel
theorem kx_284_34 : x_code k_P 284 34 = some (.aload_n 0, 1) := by decide +kernel
theorem kx_284_35 : x_code k_P 284 35 = some (.getfield 231, 3) := by decide +kernel
theorem kx_284_38 : x_code k_P 284 38 = some (.if_icmp .ge 39, 3) := by decide +kernel
theorem kx_284_77 : x_code k_P 284 77 = some (.aload_n 0, 1) := by decide +kernel
theorem kx_284_78 : x_code k_P 284 78 = some (.iconst 1, 1) := by decide +kernel
theorem kx_284_79 : x_code k_P 284 79 = some (.putfield 225, 3) := by decide +kernel
theorem kp_284_225 : x_pool k_P 284 225 = (1, 12, 70) := by decide +kernel
theorem kx_284_82 : x_code k_P 284 82 = some (.iconst 0, 1) := by decide +kernel
theorem kx_284_83 : x_code k_P 284 83 = some (.istore_n 2, 1) := by decide +kernel
theorem kx_284_84 : x_code k_P 284 84 = some (.iload_n 2, 1) := by decide +kernel
theorem kx_284_85 : x_code k_P 284 85 = some (.aload_n 0, 1) := by decide +kernel
theorem kx_284_86 : x_code k_P 284 86 = some (.getfield 69, 3) := by decide +kernel
theorem kp_284_69 : x_pool k_P 284 69 = (1, 12, 19) := by decide +kernel
theorem kx_284_89 : x_code k_P 284 89 = some (.aload_n 0, 1) := by decide +kernel
theorem kx_284_90 : x_code k_P 284 90 = some (.getfield 54, 3) := by decide +kernel
theorem kp_284_54 : x_pool k_P 284 54 = (1, 12, 14) := by decide +kernel
theorem kx_284_93 : x_code k_P 284 93 = some (.iaload, 1) := by decide +kernel
theorem kx_284_94 : x_code k_P 284 94 = some (.if_icmp .ge 47, 3) := by decide +kernel
theorem kx_284_141 : x_code k_P 284 141 = some (.aload_n 0, 1) := by decide +kernel
theorem kx_284_142 : x_code k_P 284 142 = some (.iconst (-1), 1) := by decide +kernel
theorem kx_284_143 : x_code k_P 284 143 = some (.iconst (-1), 1) := by decide +kernel
theorem kx_284_144 : x_code k_P 284 144 = some (.invokevirtual 606, 3) := by decide +kernel
theorem kp_284_606 : x_pool k_P 284 606 = (2, 282, 2) := by decide +kernel
theorem ki_282 : x_mci k_P 282 = 12 := by decide +kernel
theorem kcl_282 : x_maxL k_P 282 ≤ 60 ∧ 3 ≤ x_maxL k_P 282 := by decide +kernel
theorem kx_284_147 : x_code k_P 284 147 = some (.ireturn, 1) := by decide +kernel
theorem kq_284 : x_retk k_P 284 = 1 := by decide +kernel
theorem kx_284_97 : x_code k_P 284 97 = some (.iconst 0, 1) := by decide +kernel
theorem kx_284_98 : x_code k_P 284 98 = some (.istore_n 3, 1) := by decide +kernel
theorem km_284_3 : 3 < x_maxL k_P 284 := by decide +kernel
theorem kx_284_99 : x_code k_P 284 99 = some (.iload_n 3, 1) := by decide +kernel
theorem kx_284_100 : x_code k_P 284 100 = some (.aload_n 0, 1) := by decide +kernel
theorem kx_284_101 : x_code k_P 284 101 = some (.getfield 57, 3) := by decide +kernel
theorem kp_284_57 : x_pool k_P 284 57 = (1, 12, 15) := by decide +kernel
theorem kx_284_104 : x_code k_P 284 104 = some (.aload_n 0, 1) := by decide +kernel
theorem kx_284_105 : x_code k_P 284 105 = some (.getfield 54, 3) := by decide +kernel
theorem kx_284_108 : x_code k_P 284 108 = some (.iaload, 1) := by decide +kernel
theorem kx_284_109 : x_code k_P 284 109 = some (.if_icmp .ge 26, 3) := by decide +kernel
theorem kx_284_135 : x_code k_P 284 135 = some (.iinc 2 1, 3) := by decide +kernel
theorem kx_284_138 : x_code k_P 284 138 = some (.goto (-54), 3) := by decide +kernel
theorem kx_284_112 : x_code k_P 284 112 = some (.aload_n 0, 1) := by decide +kernel
theorem kx_284_113 : x_code k_P 284 113 = some (.getfield 228, 3) := by decide +kernel
theorem kp_284_228 : x_pool k_P 284 228 = (1, 12, 71) := by decide +kernel
theorem kx_284_116 : x_code k_P 284 116 = some (.bipush 8, 2) := by decide +kernel
theorem kx_284_118 : x_code k_P 284 118 = some (.iload_n 2, 1) := by decide +kernel
theorem kx_284_119 : x_code k_P 284 119 = some (.imul, 1) := by decide +kernel
theorem kx_284_120 : x_code k_P 284 120 = some (.iload_n 3, 1) := by decide +kernel
theorem kx_284_121 : x_code k_P 284 121 = some (.iadd, 1) := by decide +kernel
theorem kx_284_122 : x_code k_P 284 122 = some (.aload_n 0, 1) := by decide +kernel
theorem kx_284_123 : x_code k_P 284 123 = some (.iload_n 2, 1) := by decide +kernel
theorem kx_284_124 : x_code k_P 284 124 = some (.iload_n 3, 1) := by decide +kernel
theorem kx_284_125 : x_code k_P 284 125 = some (.invokevirtual 606, 3) := by decide +kernel
theorem kx_284_128 : x_code k_P 284 128 = some (.iastore, 1) := by decide +kernel
theorem kx_284_129 : x_code k_P 284 129 = some (.iinc 3 1, 3) := by decide +kernel
theorem kx_284_132 : x_code k_P 284 132 = some (.goto (-33), 3) := by decide +kernel
theorem kx_284_41 : x_code k_P 284 41 = some (.aload_n 0, 1) := by decide +kernel
theorem kx_284_42 : x_code k_P 284 42 = some (.getfield 234, 3) := by decide +kernel
theorem kp_284_234 : x_pool k_P 284 234 = (1, 12, 73) := by decide +kernel
theorem kx_284_45 : x_code k_P 284 45 = some (.iload_n 2, 1) := by decide +kernel
theorem kx_284_46 : x_code k_P 284 46 = some (.aload_n 0, 1) := by decide +kernel
theorem kx_284_47 : x_code k_P 284 47 = some (.getfield 7, 3) := by decide +kernel
theorem kp_284_7 : x_pool k_P 284 7 = (1, 12, 0) := by decide +kernel
theorem kx_284_50 : x_code k_P 284 50 = some (.iconst 2, 1) := by decide +kernel
theorem kx_284_51 : x_code k_P 284 51 = some (.iload_n 2, 1) := by decide +kernel
theorem kx_284_52 : x_code k_P 284 52 = some (.imul, 1) := by decide +kernel
theorem kx_284_53 : x_code k_P 284 53 = some (.iaload, 1) := by decide +kernel
theorem kx_284_54 : x_code k_P 284 54 = some (.iastore, 1) := by decide +kernel
theorem kx_284_55 : x_code k_P 284 55 = some (.aload_n 0, 1) := by decide +kernel
theorem kx_284_56 : x_code k_P 284 56 = some (.getfield 237, 3) := by decide +kernel
theorem kp_284_237 : x_pool k_P 284 237 = (1, 12, 74) := by decide +kernel
theorem kx_284_59 : x_code k_P 284 59 = some (.iload_n 2, 1) := by decide +kernel
theorem kx_284_60 : x_code k_P 284 60 = some (.aload_n 0, 1) := by decide +kernel
theorem kx_284_61 : x_code k_P 284 61 = some (.getfield 7, 3) := by decide +kernel
theorem kx_284_64 : x_code k_P 284 64 = some (.iconst 2, 1) := by decide +kernel
theorem kx_284_65 : x_code k_P 284 65 = some (.iload_n 2, 1) := by decide +kernel
theorem kx_284_66 : x_code k_P 284 66 = some (.imul, 1) := by decide +kernel
theorem kx_284_67 : x_code k_P 284 67 = some (.iconst 1, 1) := by decide +kernel
theorem kx_284_68 : x_code k_P 284 68 = some (.iadd, 1) := by decide +kernel
theorem kx_284_69 : x_code k_P 284 69 = some (.iaload, 1) := by decide +kernel
theorem kx_284_70 : x_code k_P 284 70 = some (.iastore, 1) := by decide +kernel
theorem kx_284_71 : x_code k_P 284 71 = some (.iinc 2 1, 3) := by decide +kernel
theorem kx_284_74 : x_code k_P 284 74 = some (.goto (-41), 3) := by decide +kernel
theorem kx_284_18 : x_code k_P 284 18 = some (.aload_n 0, 1) := by decide +kernel
theorem kx_284_19 : x_code k_P 284 19 = some (.iconst 5, 1) := by decide +kernel
theorem kx_284_20 : x_code k_P 284 20 = some (.invokevirtual 255, 3) := by decide +kernel
theorem kp_284_255 : x_pool k_P 284 255 = (2, 218, 1) := by decide +kernel
theorem kx_284_23 : x_code k_P 284 23 = some (.ireturn, 1) := by decide +kernel
def fS_284_l33 : List (Nat × Nat) := [(108, 99999), (109, 99999)]
def fS_284_l84 : List (Nat × Nat) := [(107, 99999), (110, 99999), (111, 99999), (112, 99999)]
def fS_284_l99 : List (Nat × Nat) := [(107, 99999), (110, 99999), (111, 99999), (112, 99999)]
def fS_284_m : List (Nat × Nat) := [(107, 99999), (108, 99999), (109, 99999), (110, 99999), (111, 99999), (112, 99999), (63, 1), (63, 70), (63, 72), (91, 99999)]
theorem m_284 {xs : Nat → Int} {Ln d : Nat} {T : List cK} {M : cM} (hT : TT T) (hI : Rng M) : cC k_P xs Ln (d + 3) 284 [rf 63] (T, M) (qW T M fS_284_m 0 (fun v M1 => M1 63 1 = 0)) := by
  show cP k_P xs Ln (d + 3) 284 0 [(0, rf 63)] [] (T, M) _
  have hFm : Fr fS_284_m M M := Fr.refl
  refine s_aload_n kx_284_0 rfl ?_
  refine r_getI (k := 63) (f := 1) kx_284_1 kp_284_13 (tk_63 hT) kf_12_1 (fun _ => rfl) (rg_63_1 hI) (fun v1 v1e v1a v1b => ?_)
  refine s_istore_n kx_284_4 km_284_1 rfl ?_
  refine s_aload_n kx_284_5 rfl ?_
  refine s_iconst (v := 0) kx_284_6 (by decide) ?_
  refine r_put (k := 63) (f := 1) kx_284_7 kp_284_13 (tk_63 hT) kf_12_1 rfl (by decide) (by decide) hI (ru_63_1 (by omega) (by omega)) (fun M2 hI2 u2 => ?_)
  have hFm2 := hFm.up u2 rfl
  refine s_aload_n kx_284_10 rfl ?_
  refine s_iload_n kx_284_11 rfl ?_
  refine s_callV2 (k := 63) (s1 := 2) (s2 := 0) (as := [(0, v1)]) (rest := []) kx_284_12 kp_284_603 (Or.inl rfl) rfl (tk_63 hT) ki_283 kcl_283 rfl rfl (by decide) (m_283 (d := d + 1) (n := v1) hT hI2 (by omega)) (kF (fun v3 v3p => ?_))
  refine s_if_ne (t := 24) kx_284_15 (by decide) (fun hc4 => ?_) (fun hc4 => ?_)
  · replace v3p := v3p.resolve_right (by omega)
    refine s_aload_n kx_284_24 rfl ?_
    refine s_iload_n kx_284_25 rfl ?_
    refine s_iconst (v := 2) kx_284_26 (by decide) ?_
    refine r_idiv kx_284_27 (by omega) (by omega) (by omega) (by omega) ?_
    refine r_put (k := 63) (f := 72) kx_284_28 kp_284_231 (tk_63 hT) kf_12_72 rfl (by decide) (by decide) hI2 (ru_63_72 (by omega) (by omega)) (fun M5 hI5 u5 => ?_)
    have hFm5 := hFm2.up u5 rfl
    refine s_iconst (v := 0) kx_284_31 (by decide) ?_
    refine s_istore_n kx_284_32 km_284_2 rfl ?_
    have key8 : ∀ n9 : Nat, ∀ (x2_6 : Int), ∀ M7 : cM, Rng M7 → Fr fS_284_m M M7 → Fr fS_284_l33 M5 M7 → (0 ≤ x2_6) → (x2_6 ≤ 8) → (2147483647 - x2_6).toNat < n9 → cP k_P xs Ln (d + 3) 284 33 [(0, rf 63), (2, (0, x2_6))] [] (T, M7) (qW T M fS_284_m 0 (fun v M1 => M1 63 1 = 0)) := by
      intro n9
      induction n9 with
      | zero => intro x2_6 M7 hI7 hFm7 fl7 i10 i11 hm12; exact absurd hm12 (Nat.not_lt_zero _)
      | succ n9 ih13 =>
        intro x2_6 M7 hI7 hFm7 fl7 i10 i11 hm12
        refine s_iload_n kx_284_33 rfl ?_
        refine s_aload_n kx_284_34 rfl ?_
        refine r_getK (k := 63) (f := 72) kx_284_35 kp_284_231 (tk_63 hT) kf_12_72 (fun _ => rfl) ((fl7 63 72 rfl).trans u5.1) ?_
        refine s_icmp_ge (t := 77) kx_284_38 (by decide) (fun hc14 => ?_) (fun hc14 => ?_)
        · refine s_aload_n kx_284_77 rfl ?_
          refine s_iconst (v := 1) kx_284_78 (by decide) ?_
          refine r_put (k := 63) (f := 70) kx_284_79 kp_284_225 (tk_63 hT) kf_12_70 rfl (by decide) (by decide) hI7 (ru_63_70 (by omega) (by omega)) (fun M15 hI15 u15 => ?_)
          have hFm15 := hFm7.up u15 rfl
          refine s_iconst (v := 0) kx_284_82 (by decide) ?_
          refine s_istore_n kx_284_83 km_284_2 rfl ?_
          have key18 : ∀ n19 : Nat, ∀ (x2_16 : Int), ∀ M17 : cM, Rng M17 → Fr fS_284_m M M17 → Fr fS_284_l84 M15 M17 → (0 ≤ x2_16) → (x2_16 ≤ 8) → (2147483647 - x2_16).toNat < n19 → cP k_P xs Ln (d + 3) 284 84 [(0, rf 63), (2, (0, x2_16))] [] (T, M17) (qW T M fS_284_m 0 (fun v M1 => M1 63 1 = 0)) := by
            intro n19
            induction n19 with
            | zero => intro x2_16 M17 hI17 hFm17 fl17 i20 i21 hm22; exact absurd hm22 (Nat.not_lt_zero _)
            | succ n19 ih23 =>
              intro x2_16 M17 hI17 hFm17 fl17 i20 i21 hm22
              refine s_iload_n kx_284_84 rfl ?_
              refine s_aload_n kx_284_85 rfl ?_
              refine r_getR (k := 63) (f := 19) (k2 := 69) kx_284_86 kp_284_69 (tk_63 hT) kf_12_19 (by decide) (rq_63_19 hI17) ?_
              refine s_aload_n kx_284_89 rfl ?_
              refine r_getI (k := 63) (f := 14) kx_284_90 kp_284_54 (tk_63 hT) kf_12_14 (fun _ => rfl) (rg_63_14 hI17) (fun v24 v24e v24a v24b => ?_)
              have v24z : M 63 14 = v24 := (((fl17 63 14 rfl).trans ((u15.2 63 14 (by omega)).trans ((fl7 63 14 rfl).trans ((u5.2 63 14 (by omega)).trans (u2.2 63 14 (by omega))))))).symm.trans v24e
              refine r_ald (k := 69) kx_284_93 (tk_69 hT) ⟨by omega, by omega⟩ (rg_69 hI17) (fun v25 v25e v25a v25b => ?_)
              refine s_icmp_ge (t := 141) kx_284_94 (by decide) (fun hc26 => ?_) (fun hc26 => ?_)
              · refine s_aload_n kx_284_141 rfl ?_
                refine s_iconst (v := (-1)) kx_284_142 (by decide) ?_
                refine s_iconst (v := (-1)) kx_284_143 (by decide) ?_
                refine s_callV2 (k := 63) (s1 := 3) (s2 := 0) (as := [(0, (-1)), (0, (-1))]) (rest := []) kx_284_144 kp_284_606 (Or.inl rfl) rfl (tk_63 hT) ki_282 kcl_282 rfl rfl (by decide) (m_282 (d := d) (one := (-1)) (where_ := (-1)) hT hI17) (kW (fun v27 M28 hI28 fr28 v27p => ?_))
                have hFm28 := hFm17.call fr28 rfl
                have hk29 : M28 63 1 = 0 := ((fr28 63 1 rfl).trans ((fl17 63 1 rfl).trans ((u15.2 63 1 (by omega)).trans ((fl7 63 1 rfl).trans ((u5.2 63 1 (by omega)).trans u2.1)))))
                exact s_iret kx_284_147 (Or.inl kq_284) ⟨_, _, rfl, rfl, hI28, hFm28, (by omega)⟩
              · refine s_iconst (v := 0) kx_284_97 (by decide) ?_
                refine s_istore_n kx_284_98 km_284_3 rfl ?_
                have key32 : ∀ n33 : Nat, ∀ (x3_30 : Int), ∀ M31 : cM, Rng M31 → Fr fS_284_m M M31 → Fr fS_284_l84 M15 M31 → Fr fS_284_l99 M17 M31 → (0 ≤ x3_30) → (x3_30 ≤ 8) → (2147483647 - x3_30).toNat < n33 → cP k_P xs Ln (d + 3) 284 99 [(0, rf 63), (2, (0, x2_16)), (3, (0, x3_30))] [] (T, M31) (qW T M fS_284_m 0 (fun v M1 => M1 63 1 = 0)) := by
                  intro n33
                  induction n33 with
                  | zero => intro x3_30 M31 hI31 hFm31 hFl8431 fl31 i34 i35 hm36; exact absurd hm36 (Nat.not_lt_zero _)
                  | succ n33 ih37 =>
                    intro x3_30 M31 hI31 hFm31 hFl8431 fl31 i34 i35 hm36
                    refine s_iload_n kx_284_99 rfl ?_
                    refine s_aload_n kx_284_100 rfl ?_
                    refine r_getR (k := 63) (f := 15) (k2 := 65) kx_284_101 kp_284_57 (tk_63 hT) kf_12_15 (by decide) (rq_63_15 hI31) ?_
                    refine s_aload_n kx_284_104 rfl ?_
                    refine r_getK (k := 63) (f := 14) kx_284_105 kp_284_54 (tk_63 hT) kf_12_14 (fun _ => rfl) ((fl31 63 14 rfl).trans v24e) ?_
                    refine r_ald (k := 65) kx_284_108 (tk_65 hT) ⟨by omega, by omega⟩ (rg_65 hI31) (fun v38 v38e v38a v38b => ?_)
                    refine s_icmp_ge (t := 135) kx_284_109 (by decide) (fun hc39 => ?_) (fun hc39 => ?_)
                    · refine r_iinc kx_284_135 rfl km_284_2 (by decide) ⟨by omega, by omega⟩ rfl ?_
                      refine s_goto (t := 84) kx_284_138 (by decide) ?_
                      exact cP.wk (lS1 rfl (lS1 rfl lS0)) (ih23 (x2_16 + 1) M31 hI31 hFm31 hFl8431 (by omega) (by omega) (by omega))
                    · refine s_aload_n kx_284_112 rfl ?_
                      refine r_getR (k := 63) (f := 71) (k2 := 107) kx_284_113 kp_284_228 (tk_63 hT) kf_12_71 (by decide) (rq_63_71 hI31) ?_
                      refine s_bipush (v := 8) kx_284_116 (by decide) ?_
                      refine s_iload_n kx_284_118 rfl ?_
                      refine r_mul kx_284_119 ⟨by omega, by omega⟩ ?_
                      refine s_iload_n kx_284_120 rfl ?_
                      refine r_add kx_284_121 ⟨by omega, by omega⟩ ?_
                      refine s_aload_n kx_284_122 rfl ?_
                      refine s_iload_n kx_284_123 rfl ?_
                      refine s_iload_n kx_284_124 rfl ?_
                      refine s_callV2 (k := 63) (s1 := 3) (s2 := 2) (as := [(0, x3_30), (0, x2_16)]) (rest := [(0, ((8 * x2_16) + x3_30)), rf 107]) kx_284_125 kp_284_606 (Or.inl rfl) rfl (tk_63 hT) ki_282 kcl_282 rfl rfl (by decide) (m_282 (d := d) (one := x2_16) (where_ := x3_30) hT hI31) (kW (fun v40 M41 hI41 fr41 v40p => ?_))
                      have hFm41 := hFm31.call fr41 rfl
                      have hFl8441 := hFl8431.call fr41 rfl
                      have hFl9941 := fl31.call fr41 rfl
                      refine r_ast (k := 107) kx_284_128 (tk_107 hT) ⟨by omega, by omega⟩ hI41 ru_107 (fun M42 hI42 u42 => ?_)
                      have hFm42 := hFm41.up u42 rfl
                      have hFl8442 := hFl8441.up u42 rfl
                      have hFl9942 := hFl9941.up u42 rfl
                      refine r_iinc kx_284_129 rfl km_284_3 (by decide) ⟨by omega, by omega⟩ rfl ?_
                      refine s_goto (t := 99) kx_284_132 (by decide) ?_
                      exact cP.wk (lS1 rfl (lS1 rfl (lS1 rfl lS0))) (ih37 (x3_30 + 1) M42 hI42 hFm42 hFl8442 hFl9942 (by omega) (by omega) (by omega))
                exact cP.wk (lS1 rfl (lS1 rfl (lS1 rfl lS0))) (key32 _ 0 M17 hI17 hFm17 fl17 Fr.refl (by omega) (by omega) (Nat.lt_succ_self _))
          exact cP.wk (lS1 rfl (lS1 rfl lS0)) (key18 _ 0 M15 hI15 hFm15 Fr.refl (by omega) (by omega) (Nat.lt_succ_self _))
        · refine s_aload_n kx_284_41 rfl ?_
          refine r_getR (k := 63) (f := 73) (k2 := 108) kx_284_42 kp_284_234 (tk_63 hT) kf_12_73 (by decide) (rq_63_73 hI7) ?_
          refine s_iload_n kx_284_45 rfl ?_
          refine s_aload_n kx_284_46 rfl ?_
          refine r_getR (k := 63) (f := 0) (k2 := 64) kx_284_47 kp_284_7 (tk_63 hT) kf_12_0 (by decide) (rq_63_0 hI7) ?_
          refine s_iconst (v := 2) kx_284_50 (by decide) ?_
          refine s_iload_n kx_284_51 rfl ?_
          refine r_mul kx_284_52 ⟨by omega, by omega⟩ ?_
          refine r_ald (k := 64) kx_284_53 (tk_64 hT) ⟨by omega, by omega⟩ (rg_64 hI7) (fun v43 v43e v43a v43b => ?_)
          refine r_ast (k := 108) kx_284_54 (tk_108 hT) ⟨by omega, by omega⟩ hI7 (ru_108 (by omega) (by omega)) (fun M44 hI44 u44 => ?_)
          have hFm44 := hFm7.up u44 rfl
          have hFl3344 := fl7.up u44 rfl
          refine s_aload_n kx_284_55 rfl ?_
          refine r_getR (k := 63) (f := 74) (k2 := 109) kx_284_56 kp_284_237 (tk_63 hT) kf_12_74 (by decide) (rq_63_74 hI44) ?_
          refine s_iload_n kx_284_59 rfl ?_
          refine s_aload_n kx_284_60 rfl ?_
          refine r_getR (k := 63) (f := 0) (k2 := 64) kx_284_61 kp_284_7 (tk_63 hT) kf_12_0 (by decide) (rq_63_0 hI44) ?_
          refine s_iconst (v := 2) kx_284_64 (by decide) ?_
          refine s_iload_n kx_284_65 rfl ?_
          refine r_mul kx_284_66 ⟨by omega, by omega⟩ ?_
          refine s_iconst (v := 1) kx_284_67 (by decide) ?_
          refine r_add kx_284_68 ⟨by omega, by omega⟩ ?_
          refine r_ald (k := 64) kx_284_69 (tk_64 hT) ⟨by omega, by omega⟩ (rg_64 hI44) (fun v45 v45e v45a v45b => ?_)
          refine r_ast (k := 109) kx_284_70 (tk_109 hT) ⟨by omega, by omega⟩ hI44 (ru_109 (by omega) (by omega)) (fun M46 hI46 u46 => ?_)
          have hFm46 := hFm44.up u46 rfl
          have hFl3346 := hFl3344.up u46 rfl
          refine r_iinc kx_284_71 rfl km_284_2 (by decide) ⟨by omega, by omega⟩ rfl ?_
          refine s_goto (t := 33) kx_284_74 (by decide) ?_
          exact cP.wk (lS1 rfl (lS1 rfl lS0)) (ih13 (x2_6 + 1) M46 hI46 hFm46 hFl3346 (by omega) (by omega) (by omega))
    exact cP.wk (lS1 rfl (lS1 rfl lS0)) (key8 _ 0 M5 hI5 hFm5 Fr.refl (by omega) (by omega) (Nat.lt_succ_self _))
  · replace v3p := v3p.resolve_left (by omega)
    refine s_aload_n kx_284_18 rfl ?_
    refine s_iconst (v := 5) kx_284_19 (by decide) ?_
    refine s_callV2 (k := 63) (s1 := 2) (s2 := 0) (as := [(0, 5)]) (rest := []) kx_284_20 kp_284_255 (Or.inl rfl) rfl (tk_63 hT) ki_218 kcl_218 rfl rfl (by decide) (m_218 (d := d + 2) (kind := 5) hT hI2 (by omega)) (kW (fun v47 M48 hI48 fr48 v47p => ?_))
    have hFm48 := hFm2.call fr48 rfl
    have hk49 : M48 63 1 = 0 := ((fr48 63 1 rfl).trans u2.1)
    exact s_iret kx_284_23 (Or.inl kq_284) ⟨_, _, rfl, rfl, hI48, hFm48, (by omega)⟩
