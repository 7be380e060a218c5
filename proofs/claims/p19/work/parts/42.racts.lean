/-! rooms of people and chairs in a row of the ring -/
def zR (M : cM) (c : Nat) (b n : Int) : Prop := ∀ q : Int, 0 ≤ q → q < n → 0 ≤ M c (8 * b + q).toNat ∧ M c (8 * b + q).toNat ≤ 7
theorem zR.up {M M1 : cM} {c k f : Nat} {b n v : Int} (h : zR M c b n) (u : Up M k f v M1) (hv : k = c → 0 ≤ v ∧ v ≤ 7) : zR M1 c b n := by
  intro q a1 a2
  by_cases e : c = k ∧ (8 * b + q).toNat = f
  · obtain ⟨rfl, rfl⟩ := e
    rw [u.1]
    exact hv rfl
  · rw [u.2 _ _ e]
    exact h q a1 a2
theorem zR.put {M M1 : cM} {c : Nat} {b n v : Int} (h : zR M c b n) (u : Up M c (8 * b + n).toNat v M1) (hv : 0 ≤ v ∧ v ≤ 7) : zR M1 c b (n + 1) := by
  intro q a1 a2
  by_cases e : c = c ∧ (8 * b + q).toNat = (8 * b + n).toNat
  · rw [e.2, u.1]
    exact hv
  · rw [u.2 _ _ e]
    refine h q a1 ?_
    by_cases e2 : q = n
    · exact absurd ⟨rfl, by rw [e2]⟩ e
    · omega
theorem zR.fr {S : List (Nat × Nat)} {M M1 : cM} {c : Nat} {b n : Int} (h : zR M c b n) (g : Fr S M M1) (hs : ∀ f, c_in S c f = false) : zR M1 c b n := fun q a1 a2 => by
  rw [g c _ (hs _)]
  exact h q a1 a2
theorem zR.le {M : cM} {c : Nat} {b n n' : Int} (h : zR M c b n) (hn : n' ≤ n) : zR M c b n' := fun q a1 a2 => h q a1 (by omega)
theorem zR_of92 {M : cM} {b : Int} (h : Rng M) (hb : 0 ≤ b ∧ b ≠ 1) : zR M 92 b 8 := fun q a1 a2 => rg_92 h (by omega)
theorem zR_of93 {M : cM} {b : Int} (h : Rng M) (hb : 0 ≤ b ∧ b ≠ 1) : zR M 93 b 8 := fun q a1 a2 => rg_93 h (by omega)
theorem kx_224_0 : x_code k_P 224 0 = some (.iconst 0, 1) := by decide +kernel
theorem kx_224_1 : x_code k_P 224 1 = some (.istore_n 3, 1) := by decide +kernel
theorem km_224_3 : 3 < x_maxL k_P 224 := by decide +kernel
theorem kx_224_2 : x_code k_P 224 2 = some (.iload_n 3, 1) := by decide +kernel
theorem kx_224_3 : x_code k_P 224 3 = some (.bipush 8, 2) := by decide +kernel
theorem kx_224_5 : x_code k_P 224 5 = some (.if_icmp .ge 95, 3) := by decide +kernel
theorem kx_224_100 : x_code k_P 224 100 = some (.aload_n 0, 1) := by decide +kernel
theorem kx_224_101 : x_code k_P 224 101 = some (.getfield 174, 3) := by decide +kernel
theorem kp_224_174 : x_pool k_P 224 174 = (1, 12, 53) := by decide +kernel
theorem kx_224_104 : x_code k_P 224 104 = some (.iload_n 1, 1) := by decide +kernel
theorem kx_224_105 : x_code k_P 224 105 = some (.aload_n 0, 1) := by decide +kernel
theorem kx_224_106 : x_code k_P 224 106 = some (.getfield 174, 3) := by decide +kernel
theorem kx_224_109 : x_code k_P 224 109 = some (.iload_n 2, 1) := by decide +kernel
theorem kx_224_110 : x_code k_P 224 110 = some (.iaload, 1) := by decide +kernel
theorem kx_224_111 : x_code k_P 224 111 = some (.iastore, 1) := by decide +kernel
theorem kx_224_112 : x_code k_P 224 112 = some (.iconst 0, 1) := by decide +kernel
theorem kx_224_113 : x_code k_P 224 113 = some (.istore_n 3, 1) := by decide +kernel
theorem kx_224_114 : x_code k_P 224 114 = some (.iload_n 3, 1) := by decide +kernel
theorem kx_224_115 : x_code k_P 224 115 = some (.aload_n 0, 1) := by decide +kernel
theorem kx_224_116 : x_code k_P 224 116 = some (.getfield 174, 3) := by decide +kernel
theorem kx_224_119 : x_code k_P 224 119 = some (.iload_n 2, 1) := by decide +kernel
theorem kx_224_120 : x_code k_P 224 120 = some (.iaload, 1) := by decide +kernel
theorem kx_224_121 : x_code k_P 224 121 = some (.if_icmp .ge 97, 3) := by decide +kernel
theorem kx_224_218 : x_code k_P 224 218 = some (.return_, 1) := by decide +kernel
theorem kq_224 : x_retk k_P 224 = 0 := by decide +kernel
theorem kx_224_124 : x_code k_P 224 124 = some (.aload_n 0, 1) := by decide +kernel
theorem kx_224_125 : x_code k_P 224 125 = some (.getfield 177, 3) := by decide +kernel
theorem kp_224_177 : x_pool k_P 224 177 = (1, 12, 54) := by decide +kernel
theorem kx_224_128 : x_code k_P 224 128 = some (.bipush 40, 2) := by decide +kernel
theorem kx_224_130 : x_code k_P 224 130 = some (.iload_n 1, 1) := by decide +kernel
theorem kx_224_131 : x_code k_P 224 131 = some (.imul, 1) := by decide +kernel
theorem kx_224_132 : x_code k_P 224 132 = some (.iload_n 3, 1) := by decide +kernel
theorem kx_224_133 : x_code k_P 224 133 = some (.iadd, 1) := by decide +kernel
theorem kx_224_134 : x_code k_P 224 134 = some (.aload_n 0, 1) := by decide +kernel
theorem kx_224_135 : x_code k_P 224 135 = some (.getfield 177, 3) := by decide +kernel
theorem kx_224_138 : x_code k_P 224 138 = some (.bipush 40, 2) := by decide +kernel
theorem kx_224_140 : x_code k_P 224 140 = some (.iload_n 2, 1) := by decide +kernel
theorem kx_224_141 : x_code k_P 224 141 = some (.imul, 1) := by decide +kernel
theorem kx_224_142 : x_code k_P 224 142 = some (.iload_n 3, 1) := by decide +kernel
theorem kx_224_143 : x_code k_P 224 143 = some (.iadd, 1) := by decide +kernel
theorem kx_224_144 : x_code k_P 224 144 = some (.iaload, 1) := by decide +kernel
theorem kx_224_145 : x_code k_P 224 145 = some (.iastore, 1) := by decide +kernel
theorem kx_224_146 : x_code k_P 224 146 = some (.aload_n 0, 1) := by decide +kernel
theorem kx_224_147 : x_code k_P 224 147 = some (.getfield 180, 3) := by decide +kernel
theorem kp_224_180 : x_pool k_P 224 180 = (1, 12, 55) := by decide +kernel
theorem kx_224_150 : x_code k_P 224 150 = some (.bipush 40, 2) := by decide +kernel
theorem kx_224_152 : x_code k_P 224 152 = some (.iload_n 1, 1) := by decide +kernel
theorem kx_224_153 : x_code k_P 224 153 = some (.imul, 1) := by decide +kernel
theorem kx_224_154 : x_code k_P 224 154 = some (.iload_n 3, 1) := by decide +kernel
theorem kx_224_155 : x_code k_P 224 155 = some (.iadd, 1) := by decide +kernel
theorem kx_224_156 : x_code k_P 224 156 = some (.aload_n 0, 1) := by decide +kernel
theorem kx_224_157 : x_code k_P 224 157 = some (.getfield 180, 3) := by decide +kernel
theorem kx_224_160 : x_code k_P 224 160 = some (.bipush 40, 2) := by decide +kernel
theorem kx_224_162 : x_code k_P 224 162 = some (.iload_n 2, 1) := by decide +kernel
theorem kx_224_163 : x_code k_P 224 163 = some (.imul, 1) := by decide +kernel
theorem kx_224_164 : x_code k_P 224 164 = some (.iload_n 3, 1) := by decide +kernel
theorem kx_224_165 : x_code k_P 224 165 = some (.iadd, 1) := by decide +kernel
theorem kx_224_166 : x_code k_P 224 166 = some (.iaload, 1) := by decide +kernel
theorem kx_224_167 : x_code k_P 224 167 = some (.iastore, 1) := by decide +kernel
theorem kx_224_168 : x_code k_P 224 168 = some (.aload_n 0, 1) := by decide +kernel
theorem kx_224_169 : x_code k_P 224 169 = some (.getfield 183, 3) := by decide +kernel
theorem kp_224_183 : x_pool k_P 224 183 = (1, 12, 56) := by decide +kernel
theorem kx_224_172 : x_code k_P 224 172 = some (.bipush 40, 2) := by decide +kernel
theorem kx_224_174 : x_code k_P 224 174 = some (.iload_n 1, 1) := by decide +kernel
theorem kx_224_175 : x_code k_P 224 175 = some (.imul, 1) := by decide +kernel
theorem kx_224_176 : x_code k_P 224 176 = some (.iload_n 3, 1) := by decide +kernel
theorem kx_224_177 : x_code k_P 224 177 = some (.iadd, 1) := by decide +kernel
theorem kx_224_178 : x_code k_P 224 178 = some (.aload_n 0, 1) := by decide +kernel
theorem kx_224_179 : x_code k_P 224 179 = some (.getfield 183, 3) := by decide +kernel
theorem kx_224_182 : x_code k_P 224 182 = some (.bipush 40, 2) := by decide +kernel
theorem kx_224_184 : x_code k_P 224 184 = some (.iload_n 2, 1) := by decide +kernel
theorem kx_224_185 : x_code k_P 224 185 = some (.imul, 1) := by decide +kernel
theorem kx_224_186 : x_code k_P 224 186 = some (.iload_n 3, 1) := by decide +kernel
theorem kx_224_187 : x_code k_P 224 187 = some (.iadd, 1) := by decide +kernel
theorem kx_224_188 : x_code k_P 224 188 = some (.iaload, 1) := by decide +kernel
theorem kx_224_189 : x_code k_P 224 189 = some (.iastore, 1) := by decide +kernel
theorem kx_224_190 : x_code k_P 224 190 = some (.aload_n 0, 1) := by decide +kernel
theorem kx_224_191 : x_code k_P 224 191 = some (.getfield 186, 3) := by decide +kernel
theorem kp_224_186 : x_pool k_P 224 186 = (1, 12, 57) := by decide +kernel
theorem kx_224_194 : x_code k_P 224 194 = some (.bipush 40, 2) := by decide +kernel
theorem kx_224_196 : x_code k_P 224 196 = some (.iload_n 1, 1) := by decide +kernel
theorem kx_224_197 : x_code k_P 224 197 = some (.imul, 1) := by decide +kernel
theorem kx_224_198 : x_code k_P 224 198 = some (.iload_n 3, 1) := by decide +kernel
theorem kx_224_199 : x_code k_P 224 199 = some (.iadd, 1) := by decide +kernel
theorem kx_224_200 : x_code k_P 224 200 = some (.aload_n 0, 1) := by decide +kernel
theorem kx_224_201 : x_code k_P 224 201 = some (.getfield 186, 3) := by decide +kernel
theorem kx_224_204 : x_code k_P 224 204 = some (.bipush 40, 2) := by decide +kernel
theorem kx_224_206 : x_code k_P 224 206 = some (.iload_n 2, 1) := by decide +kernel
theorem kx_224_207 : x_code k_P 224 207 = some (.imul, 1) := by decide +kernel
theorem kx_224_208 : x_code k_P 224 208 = some (.iload_n 3, 1) := by decide +kernel
theorem kx_224_209 : x_code k_P 224 209 = some (.iadd, 1) := by decide +kernel
theorem kx_224_210 : x_code k_P 224 210 = some (.iaload, 1) := by decide +kernel
theorem kx_224_211 : x_code k_P 224 211 = some (.iastore, 1) := by decide +kernel
theorem kx_224_212 : x_code k_P 224 212 = some (.iinc 3 1, 3) := by decide +kernel
theorem kx_224_215 : x_code k_P 224 215 = some (.goto (-101), 3) := by decide +kernel
theorem kx_224_8 : x_code k_P 224 8 = some (.bipush 8, 2) := by decide +kernel
theorem kx_224_10 : x_code k_P 224 10 = some (.iload_n 1, 1) := by decide +kernel
theorem kx_224_11 : x_code k_P 224 11 = some (.imul, 1) := by decide +kernel
theorem kx_224_12 : x_code k_P 224 12 = some (.iload_n 3, 1) := by decide +kernel
theorem kx_224_13 : x_code k_P 224 13 = some (.iadd, 1) := by decide +kernel
theorem kx_224_14 : x_code k_P 224 14 = some (.istore 4, 2) := by decide +kernel
theorem km_224_4 : 4 < x_maxL k_P 224 := by decide +kernel
theorem kx_224_16 : x_code k_P 224 16 = some (.bipush 8, 2) := by decide +kernel
theorem kx_224_18 : x_code k_P 224 18 = some (.iload_n 2, 1) := by decide +kernel
theorem kx_224_19 : x_code k_P 224 19 = some (.imul, 1) := by decide +kernel
theorem kx_224_20 : x_code k_P 224 20 = some (.iload_n 3, 1) := by decide +kernel
theorem kx_224_21 : x_code k_P 224 21 = some (.iadd, 1) := by decide +kernel
theorem kx_224_22 : x_code k_P 224 22 = some (.istore 5, 2) := by decide +kernel
theorem km_224_5 : 5 < x_maxL k_P 224 := by decide +kernel
theorem kx_224_24 : x_code k_P 224 24 = some (.aload_n 0, 1) := by decide +kernel
theorem kx_224_25 : x_code k_P 224 25 = some (.getfield 159, 3) := by decide +kernel
theorem kp_224_159 : x_pool k_P 224 159 = (1, 12, 48) := by decide +kernel
theorem kx_224_28 : x_code k_P 224 28 = some (.iload 4, 2) := by decide +kernel
theorem kx_224_30 : x_code k_P 224 30 = some (.aload_n 0, 1) := by decide +kernel
theorem kx_224_31 : x_code k_P 224 31 = some (.getfield 159, 3) := by decide +kernel
theorem kx_224_34 : x_code k_P 224 34 = some (.iload 5, 2) := by decide +kernel
theorem kx_224_36 : x_code k_P 224 36 = some (.iaload, 1) := by decide +kernel
theorem kx_224_37 : x_code k_P 224 37 = some (.iastore, 1) := by decide +kernel
theorem kx_224_38 : x_code k_P 224 38 = some (.aload_n 0, 1) := by decide +kernel
theorem kx_224_39 : x_code k_P 224 39 = some (.getfield 162, 3) := by decide +kernel
theorem kp_224_162 : x_pool k_P 224 162 = (1, 12, 49) := by decide +kernel
theorem kx_224_42 : x_code k_P 224 42 = some (.iload 4, 2) := by decide +kernel
theorem kx_224_44 : x_code k_P 224 44 = some (.aload_n 0, 1) := by decide +kernel
theorem kx_224_45 : x_code k_P 224 45 = some (.getfield 162, 3) := by decide +kernel
theorem kx_224_48 : x_code k_P 224 48 = some (.iload 5, 2) := by decide +kernel
theorem kx_224_50 : x_code k_P 224 50 = some (.iaload, 1) := by decide +kernel
theorem kx_224_51 : x_code k_P 224 51 = some (.iastore, 1) := by decide +kernel
theorem kx_224_52 : x_code k_P 224 52 = some (.aload_n 0, 1) := by decide +kernel
theorem kx_224_53 : x_code k_P 224 53 = some (.getfield 165, 3) := by decide +kernel
theorem kp_224_165 : x_pool k_P 224 165 = (1, 12, 50) := by decide +kernel
theorem kx_224_56 : x_code k_P 224 56 = some (.iload 4, 2) := by decide +kernel
theorem kx_224_58 : x_code k_P 224 58 = some (.aload_n 0, 1) := by decide +kernel
theorem kx_224_59 : x_code k_P 224 59 = some (.getfield 165, 3) := by decide +kernel
theorem kx_224_62 : x_code k_P 224 62 = some (.iload 5, 2) := by decide +kernel
theorem kx_224_64 : x_code k_P 224 64 = some (.iaload, 1) := by decide +kernel
theorem kx_224_65 : x_code k_P 224 65 = some (.iastore, 1) := by decide +kernel
theorem kx_224_66 : x_code k_P 224 66 = some (.aload_n 0, 1) := by decide +kernel
theorem kx_224_67 : x_code k_P 224 67 = some (.getfield 168, 3) := by decide +kernel
theorem kp_224_168 : x_pool k_P 224 168 = (1, 12, 51) := by decide +kernel
theorem kx_224_70 : x_code k_P 224 70 = some (.iload 4, 2) := by decide +kernel
theorem kx_224_72 : x_code k_P 224 72 = some (.aload_n 0, 1) := by decide +kernel
theorem kx_224_73 : x_code k_P 224 73 = some (.getfield 168, 3) := by decide +kernel
theorem kx_224_76 : x_code k_P 224 76 = some (.iload 5, 2) := by decide +kernel
theorem kx_224_78 : x_code k_P 224 78 = some (.iaload, 1) := by decide +kernel
theorem kx_224_79 : x_code k_P 224 79 = some (.iastore, 1) := by decide +kernel
theorem kx_224_80 : x_code k_P 224 80 = some (.aload_n 0, 1) := by decide +kernel
theorem kx_224_81 : x_code k_P 224 81 = some (.getfield 171, 3) := by decide +kernel
theorem kp_224_171 : x_pool k_P 224 171 = (1, 12, 52) := by decide +kernel
theorem kx_224_84 : x_code k_P 224 84 = some (.iload 4, 2) := by decide +kernel
theorem kx_224_86 : x_code k_P 224 86 = some (.aload_n 0, 1) := by decide +kernel
theorem kx_224_87 : x_code k_P 224 87 = some (.getfield 171, 3) := by decide +kernel
theorem kx_224_90 : x_code k_P 224 90 = some (.iload 5, 2) := by decide +kernel
theorem kx_224_92 : x_code k_P 224 92 = some (.iaload, 1) := by decide +kernel
theorem kx_224_93 : x_code k_P 224 93 = some (.iastore, 1) := by decide +kernel
theorem kx_224_94 : x_code k_P 224 94 = some (.iinc 3 1, 3) := by decide +kernel
theorem kx_224_97 : x_code k_P 224 97 = some (.goto (-95), 3) := by decide +kernel
def fS_224_l114 : List (Nat × Nat) := [(100, 99999), (101, 99999), (98, 99999), (99, 99999)]
def fS_224_l2 : List (Nat × Nat) := [(92, 99999), (93, 99999), (94, 99999), (95, 99999), (96, 99999)]
def fS_224_m : List (Nat × Nat) := [(100, 99999), (101, 99999), (92, 99999), (93, 99999), (94, 99999), (95, 99999), (96, 99999), (97, 99999), (98, 99999), (99, 99999)]
theorem m_224 {xs : Nat → Int} {Ln d : Nat} {T : List cK} {M : cM} (hT : TT T) (hI : Rng M) {to from_ : Int} (p0 : 0 ≤ to ∧ to ≤ 21) (p1 : 0 ≤ from_ ∧ from_ ≤ 21) (p2 : zR M 92 from_ 8) (p3 : zR M 93 from_ 8) : cC k_P xs Ln (d + 0) 224 [rf 63, (0, to), (0, from_)] (T, M) (qV T M fS_224_m (fun M1 => zR M1 92 to 8 ∧ zR M1 93 to 8)) := by
  show cP k_P xs Ln (d + 0) 224 0 [(0, rf 63), (1, (0, to)), (2, (0, from_))] [] (T, M) _
  have hFm : Fr fS_224_m M M := Fr.refl
  refine s_iconst (v := 0) kx_224_0 (by decide) ?_
  refine s_istore_n kx_224_1 km_224_3 rfl ?_
  have key3 : ∀ n4 : Nat, ∀ (x3_1 : Int), ∀ M2 : cM, Rng M2 → Fr fS_224_m M M2 → Fr fS_224_l2 M M2 → (0 ≤ x3_1) → (zR M2 92 from_ 8) → (zR M2 93 from_ 8) → (zR M2 92 to x3_1) → (zR M2 93 to x3_1) → (2147483647 - x3_1).toNat < n4 → cP k_P xs Ln (d + 0) 224 2 [(0, rf 63), (1, (0, to)), (2, (0, from_)), (3, (0, x3_1))] [] (T, M2) (qV T M fS_224_m (fun M1 => zR M1 92 to 8 ∧ zR M1 93 to 8)) := by
    intro n4
    induction n4 with
    | zero => intro x3_1 M2 hI2 hFm2 fl2 i5 i6 i7 i8 i9 hm10; exact absurd hm10 (Nat.not_lt_zero _)
    | succ n4 ih11 =>
      intro x3_1 M2 hI2 hFm2 fl2 i5 i6 i7 i8 i9 hm10
      refine s_iload_n kx_224_2 rfl ?_
      refine s_bipush (v := 8) kx_224_3 (by decide) ?_
      refine s_icmp_ge (t := 100) kx_224_5 (by decide) (fun hc12 => ?_) (fun hc12 => ?_)
      · refine s_aload_n kx_224_100 rfl ?_
        refine r_getR (k := 63) (f := 53) (k2 := 97) kx_224_101 kp_224_174 (tk_63 hT) kf_12_53 (by decide) (rq_63_53 hI2) ?_
        refine s_iload_n kx_224_104 rfl ?_
        refine s_aload_n kx_224_105 rfl ?_
        refine r_getR (k := 63) (f := 53) (k2 := 97) kx_224_106 kp_224_174 (tk_63 hT) kf_12_53 (by decide) (rq_63_53 hI2) ?_
        refine s_iload_n kx_224_109 rfl ?_
        refine r_ald (k := 97) kx_224_110 (tk_97 hT) ⟨by omega, by omega⟩ (rg_97 hI2) (fun v13 v13e v13a v13b => ?_)
        refine r_ast (k := 97) kx_224_111 (tk_97 hT) ⟨by omega, by omega⟩ hI2 (ru_97 (by omega) (by omega)) (fun M14 hI14 u14 => ?_)
        have hFm14 := hFm2.up u14 rfl
        refine s_iconst (v := 0) kx_224_112 (by decide) ?_
        refine s_istore_n kx_224_113 km_224_3 rfl ?_
        have key17 : ∀ n18 : Nat, ∀ (x3_15 : Int), ∀ M16 : cM, Rng M16 → Fr fS_224_m M M16 → Fr fS_224_l114 M14 M16 → (0 ≤ x3_15) → (2147483647 - x3_15).toNat < n18 → cP k_P xs Ln (d + 0) 224 114 [(0, rf 63), (1, (0, to)), (2, (0, from_)), (3, (0, x3_15))] [] (T, M16) (qV T M fS_224_m (fun M1 => zR M1 92 to 8 ∧ zR M1 93 to 8)) := by
          intro n18
          induction n18 with
          | zero => intro x3_15 M16 hI16 hFm16 fl16 i19 hm20; exact absurd hm20 (Nat.not_lt_zero _)
          | succ n18 ih21 =>
            intro x3_15 M16 hI16 hFm16 fl16 i19 hm20
            refine s_iload_n kx_224_114 rfl ?_
            refine s_aload_n kx_224_115 rfl ?_
            refine r_getR (k := 63) (f := 53) (k2 := 97) kx_224_116 kp_224_174 (tk_63 hT) kf_12_53 (by decide) (rq_63_53 hI16) ?_
            refine s_iload_n kx_224_119 rfl ?_
            refine r_ald (k := 97) kx_224_120 (tk_97 hT) ⟨by omega, by omega⟩ (rg_97 hI16) (fun v22 v22e v22a v22b => ?_)
            refine s_icmp_ge (t := 218) kx_224_121 (by decide) (fun hc23 => ?_) (fun hc23 => ?_)
            · exact s_vret kx_224_218 kq_224 ⟨_, rfl, rfl, hI16, hFm16, ⟨(zR.le (zR.fr (zR.up i8 u14 (fun e => absurd e (by decide))) fl16 (fun _ => rfl)) (by omega)), (zR.le (zR.fr (zR.up i9 u14 (fun e => absurd e (by decide))) fl16 (fun _ => rfl)) (by omega))⟩⟩
            · refine s_aload_n kx_224_124 rfl ?_
              refine r_getR (k := 63) (f := 54) (k2 := 98) kx_224_125 kp_224_177 (tk_63 hT) kf_12_54 (by decide) (rq_63_54 hI16) ?_
              refine s_bipush (v := 40) kx_224_128 (by decide) ?_
              refine s_iload_n kx_224_130 rfl ?_
              refine r_mul kx_224_131 ⟨by omega, by omega⟩ ?_
              refine s_iload_n kx_224_132 rfl ?_
              refine r_add kx_224_133 ⟨by omega, by omega⟩ ?_
              refine s_aload_n kx_224_134 rfl ?_
              refine r_getR (k := 63) (f := 54) (k2 := 98) kx_224_135 kp_224_177 (tk_63 hT) kf_12_54 (by decide) (rq_63_54 hI16) ?_
              refine s_bipush (v := 40) kx_224_138 (by decide) ?_
              refine s_iload_n kx_224_140 rfl ?_
              refine r_mul kx_224_141 ⟨by omega, by omega⟩ ?_
              refine s_iload_n kx_224_142 rfl ?_
              refine r_add kx_224_143 ⟨by omega, by omega⟩ ?_
              refine r_aldU (k := 98) kx_224_144 (tk_98 hT) ⟨by omega, by omega⟩ (fun v24 v24e => ?_)
              refine r_ast (k := 98) kx_224_145 (tk_98 hT) ⟨by omega, by omega⟩ hI16 ru_98 (fun M25 hI25 u25 => ?_)
              have hFm25 := hFm16.up u25 rfl
              have hFl11425 := fl16.up u25 rfl
              refine s_aload_n kx_224_146 rfl ?_
              refine r_getR (k := 63) (f := 55) (k2 := 99) kx_224_147 kp_224_180 (tk_63 hT) kf_12_55 (by decide) (rq_63_55 hI25) ?_
              refine s_bipush (v := 40) kx_224_150 (by decide) ?_
              refine s_iload_n kx_224_152 rfl ?_
              refine r_mul kx_224_153 ⟨by omega, by omega⟩ ?_
              refine s_iload_n kx_224_154 rfl ?_
              refine r_add kx_224_155 ⟨by omega, by omega⟩ ?_
              refine s_aload_n kx_224_156 rfl ?_
              refine r_getR (k := 63) (f := 55) (k2 := 99) kx_224_157 kp_224_180 (tk_63 hT) kf_12_55 (by decide) (rq_63_55 hI25) ?_
              refine s_bipush (v := 40) kx_224_160 (by decide) ?_
              refine s_iload_n kx_224_162 rfl ?_
              refine r_mul kx_224_163 ⟨by omega, by omega⟩ ?_
              refine s_iload_n kx_224_164 rfl ?_
              refine r_add kx_224_165 ⟨by omega, by omega⟩ ?_
              refine r_aldU (k := 99) kx_224_166 (tk_99 hT) ⟨by omega, by omega⟩ (fun v26 v26e => ?_)
              refine r_ast (k := 99) kx_224_167 (tk_99 hT) ⟨by omega, by omega⟩ hI25 ru_99 (fun M27 hI27 u27 => ?_)
              have hFm27 := hFm25.up u27 rfl
              have hFl11427 := hFl11425.up u27 rfl
              refine s_aload_n kx_224_168 rfl ?_
              refine r_getR (k := 63) (f := 56) (k2 := 100) kx_224_169 kp_224_183 (tk_63 hT) kf_12_56 (by decide) (rq_63_56 hI27) ?_
              refine s_bipush (v := 40) kx_224_172 (by decide) ?_
              refine s_iload_n kx_224_174 rfl ?_
              refine r_mul kx_224_175 ⟨by omega, by omega⟩ ?_
              refine s_iload_n kx_224_176 rfl ?_
              refine r_add kx_224_177 ⟨by omega, by omega⟩ ?_
              refine s_aload_n kx_224_178 rfl ?_
              refine r_getR (k := 63) (f := 56) (k2 := 100) kx_224_179 kp_224_183 (tk_63 hT) kf_12_56 (by decide) (rq_63_56 hI27) ?_
              refine s_bipush (v := 40) kx_224_182 (by decide) ?_
              refine s_iload_n kx_224_184 rfl ?_
              refine r_mul kx_224_185 ⟨by omega, by omega⟩ ?_
              refine s_iload_n kx_224_186 rfl ?_
              refine r_add kx_224_187 ⟨by omega, by omega⟩ ?_
              refine r_aldU (k := 100) kx_224_188 (tk_100 hT) ⟨by omega, by omega⟩ (fun v28 v28e => ?_)
              refine r_ast (k := 100) kx_224_189 (tk_100 hT) ⟨by omega, by omega⟩ hI27 ru_100 (fun M29 hI29 u29 => ?_)
              have hFm29 := hFm27.up u29 rfl
              have hFl11429 := hFl11427.up u29 rfl
              refine s_aload_n kx_224_190 rfl ?_
              refine r_getR (k := 63) (f := 57) (k2 := 101) kx_224_191 kp_224_186 (tk_63 hT) kf_12_57 (by decide) (rq_63_57 hI29) ?_
              refine s_bipush (v := 40) kx_224_194 (by decide) ?_
              refine s_iload_n kx_224_196 rfl ?_
              refine r_mul kx_224_197 ⟨by omega, by omega⟩ ?_
              refine s_iload_n kx_224_198 rfl ?_
              refine r_add kx_224_199 ⟨by omega, by omega⟩ ?_
              refine s_aload_n kx_224_200 rfl ?_
              refine r_getR (k := 63) (f := 57) (k2 := 101) kx_224_201 kp_224_186 (tk_63 hT) kf_12_57 (by decide) (rq_63_57 hI29) ?_
              refine s_bipush (v := 40) kx_224_204 (by decide) ?_
              refine s_iload_n kx_224_206 rfl ?_
              refine r_mul kx_224_207 ⟨by omega, by omega⟩ ?_
              refine s_iload_n kx_224_208 rfl ?_
              refine r_add kx_224_209 ⟨by omega, by omega⟩ ?_
              refine r_aldU (k := 101) kx_224_210 (tk_101 hT) ⟨by omega, by omega⟩ (fun v30 v30e => ?_)
              refine r_ast (k := 101) kx_224_211 (tk_101 hT) ⟨by omega, by omega⟩ hI29 ru_101 (fun M31 hI31 u31 => ?_)
              have hFm31 := hFm29.up u31 rfl
              have hFl11431 := hFl11429.up u31 rfl
              refine r_iinc kx_224_212 rfl km_224_3 (by decide) ⟨by omega, by omega⟩ rfl ?_
              refine s_goto (t := 114) kx_224_215 (by decide) ?_
              exact cP.wk (lS1 rfl (lS1 rfl (lS1 rfl (lS1 rfl lS0)))) (ih21 (x3_15 + 1) M31 hI31 hFm31 hFl11431 (by omega) (by omega))
        exact cP.wk (lS1 rfl (lS1 rfl (lS1 rfl (lS1 rfl lS0)))) (key17 _ 0 M14 hI14 hFm14 Fr.refl (by omega) (Nat.lt_succ_self _))
      · refine s_bipush (v := 8) kx_224_8 (by decide) ?_
        refine s_iload_n kx_224_10 rfl ?_
        refine r_mul kx_224_11 ⟨by omega, by omega⟩ ?_
        refine s_iload_n kx_224_12 rfl ?_
        refine r_add kx_224_13 ⟨by omega, by omega⟩ ?_
        refine s_istore kx_224_14 km_224_4 rfl ?_
        refine s_bipush (v := 8) kx_224_16 (by decide) ?_
        refine s_iload_n kx_224_18 rfl ?_
        refine r_mul kx_224_19 ⟨by omega, by omega⟩ ?_
        refine s_iload_n kx_224_20 rfl ?_
        refine r_add kx_224_21 ⟨by omega, by omega⟩ ?_
        refine s_istore kx_224_22 km_224_5 rfl ?_
        refine s_aload_n kx_224_24 rfl ?_
        refine r_getR (k := 63) (f := 48) (k2 := 92) kx_224_25 kp_224_159 (tk_63 hT) kf_12_48 (by decide) (rq_63_48 hI2) ?_
        refine s_iload kx_224_28 rfl ?_
        refine s_aload_n kx_224_30 rfl ?_
        refine r_getR (k := 63) (f := 48) (k2 := 92) kx_224_31 kp_224_159 (tk_63 hT) kf_12_48 (by decide) (rq_63_48 hI2) ?_
        refine s_iload kx_224_34 rfl ?_
        have hz32 := i6 x3_1 (by omega) (by omega)
        refine r_aldU (k := 92) kx_224_36 (tk_92 hT) ⟨by omega, by omega⟩ (fun v33 v33e => ?_)
        refine r_ast (k := 92) kx_224_37 (tk_92 hT) ⟨by omega, by omega⟩ hI2 (ru_92 (fun _ => by omega)) (fun M34 hI34 u34 => ?_)
        have hFm34 := hFm2.up u34 rfl
        have hFl234 := fl2.up u34 rfl
        refine s_aload_n kx_224_38 rfl ?_
        refine r_getR (k := 63) (f := 49) (k2 := 93) kx_224_39 kp_224_162 (tk_63 hT) kf_12_49 (by decide) (rq_63_49 hI34) ?_
        refine s_iload kx_224_42 rfl ?_
        refine s_aload_n kx_224_44 rfl ?_
        refine r_getR (k := 63) (f := 49) (k2 := 93) kx_224_45 kp_224_162 (tk_63 hT) kf_12_49 (by decide) (rq_63_49 hI34) ?_
        refine s_iload kx_224_48 rfl ?_
        have hz35 := (zR.up i7 u34 (fun e => absurd e (by decide))) x3_1 (by omega) (by omega)
        refine r_aldU (k := 93) kx_224_50 (tk_93 hT) ⟨by omega, by omega⟩ (fun v36 v36e => ?_)
        refine r_ast (k := 93) kx_224_51 (tk_93 hT) ⟨by omega, by omega⟩ hI34 (ru_93 (fun _ => by omega)) (fun M37 hI37 u37 => ?_)
        have hFm37 := hFm34.up u37 rfl
        have hFl237 := hFl234.up u37 rfl
        refine s_aload_n kx_224_52 rfl ?_
        refine r_getR (k := 63) (f := 50) (k2 := 94) kx_224_53 kp_224_165 (tk_63 hT) kf_12_50 (by decide) (rq_63_50 hI37) ?_
        refine s_iload kx_224_56 rfl ?_
        refine s_aload_n kx_224_58 rfl ?_
        refine r_getR (k := 63) (f := 50) (k2 := 94) kx_224_59 kp_224_165 (tk_63 hT) kf_12_50 (by decide) (rq_63_50 hI37) ?_
        refine s_iload kx_224_62 rfl ?_
        refine r_aldU (k := 94) kx_224_64 (tk_94 hT) ⟨by omega, by omega⟩ (fun v38 v38e => ?_)
        refine r_ast (k := 94) kx_224_65 (tk_94 hT) ⟨by omega, by omega⟩ hI37 ru_94 (fun M39 hI39 u39 => ?_)
        have hFm39 := hFm37.up u39 rfl
        have hFl239 := hFl237.up u39 rfl
        refine s_aload_n kx_224_66 rfl ?_
        refine r_getR (k := 63) (f := 51) (k2 := 95) kx_224_67 kp_224_168 (tk_63 hT) kf_12_51 (by decide) (rq_63_51 hI39) ?_
        refine s_iload kx_224_70 rfl ?_
        refine s_aload_n kx_224_72 rfl ?_
        refine r_getR (k := 63) (f := 51) (k2 := 95) kx_224_73 kp_224_168 (tk_63 hT) kf_12_51 (by decide) (rq_63_51 hI39) ?_
        refine s_iload kx_224_76 rfl ?_
        refine r_aldU (k := 95) kx_224_78 (tk_95 hT) ⟨by omega, by omega⟩ (fun v40 v40e => ?_)
        refine r_ast (k := 95) kx_224_79 (tk_95 hT) ⟨by omega, by omega⟩ hI39 ru_95 (fun M41 hI41 u41 => ?_)
        have hFm41 := hFm39.up u41 rfl
        have hFl241 := hFl239.up u41 rfl
        refine s_aload_n kx_224_80 rfl ?_
        refine r_getR (k := 63) (f := 52) (k2 := 96) kx_224_81 kp_224_171 (tk_63 hT) kf_12_52 (by decide) (rq_63_52 hI41) ?_
        refine s_iload kx_224_84 rfl ?_
        refine s_aload_n kx_224_86 rfl ?_
        refine r_getR (k := 63) (f := 52) (k2 := 96) kx_224_87 kp_224_171 (tk_63 hT) kf_12_52 (by decide) (rq_63_52 hI41) ?_
        refine s_iload kx_224_90 rfl ?_
        refine r_aldU (k := 96) kx_224_92 (tk_96 hT) ⟨by omega, by omega⟩ (fun v42 v42e => ?_)
        refine r_ast (k := 96) kx_224_93 (tk_96 hT) ⟨by omega, by omega⟩ hI41 ru_96 (fun M43 hI43 u43 => ?_)
        have hFm43 := hFm41.up u43 rfl
        have hFl243 := hFl241.up u43 rfl
        refine r_iinc kx_224_94 rfl km_224_3 (by decide) ⟨by omega, by omega⟩ rfl ?_
        refine s_goto (t := 2) kx_224_97 (by decide) ?_
        exact cP.wk (lS1 rfl (lS1 rfl (lS1 rfl (lS1 rfl lS0)))) (ih11 (x3_1 + 1) M43 hI43 hFm43 hFl243 (by omega) (zR.up (zR.up (zR.up (zR.up (zR.up i6 u34 (fun _ => by omega)) u37 (fun e => absurd e (by decide))) u39 (fun e => absurd e (by decide))) u41 (fun e => absurd e (by decide))) u43 (fun e => absurd e (by decide))) (zR.up (zR.up (zR.up (zR.up (zR.up i7 u34 (fun e => absurd e (by decide))) u37 (fun _ => by omega)) u39 (fun e => absurd e (by decide))) u41 (fun e => absurd e (by decide))) u43 (fun e => absurd e (by decide))) (zR.up (zR.up (zR.up (zR.up (zR.put i8 u34 (by omega)) u37 (fun e => absurd e (by decide))) u39 (fun e => absurd e (by decide))) u41 (fun e => absurd e (by decide))) u43 (fun e => absurd e (by decide))) (zR.up (zR.up (zR.up (zR.put (zR.up i9 u34 (fun e => absurd e (by decide))) u37 (by omega)) u39 (fun e => absurd e (by decide))) u41 (fun e => absurd e (by decide))) u43 (fun e => absurd e (by decide))) (by omega))
  exact cP.wk (lS1 rfl (lS1 rfl (lS1 rfl (lS1 rfl lS0)))) (key3 _ 0 M hI hFm Fr.refl (by omega) p2 p3 (fun q a b => absurd b (by omega) : zR M 92 to 0) (fun q a b => absurd b (by omega) : zR M 93 to 0) (Nat.lt_succ_self _))
theorem kx_225_0 : x_code k_P 225 0 = some (.iconst 0, 1) := by decide +kernel
theorem kx_225_1 : x_code k_P 225 1 = some (.istore_n 1, 1) := by decide +kernel
theorem km_225_1 : 1 < x_maxL k_P 225 := by decide +kernel
theorem kx_225_2 : x_code k_P 225 2 = some (.iload_n 1, 1) := by decide +kernel
theorem kx_225_3 : x_code k_P 225 3 = some (.bipush 8, 2) := by decide +kernel
theorem kx_225_5 : x_code k_P 225 5 = some (.if_icmp .ge 70, 3) := by decide +kernel
theorem kx_225_75 : x_code k_P 225 75 = some (.aload_n 0, 1) := by decide +kernel
theorem kx_225_76 : x_code k_P 225 76 = some (.getfield 174, 3) := by decide +kernel
theorem kp_225_174 : x_pool k_P 225 174 = (1, 12, 53) := by decide +kernel
theorem kx_225_79 : x_code k_P 225 79 = some (.iconst 0, 1) := by decide +kernel
theorem kx_225_80 : x_code k_P 225 80 = some (.iconst 0, 1) := by decide +kernel
theorem kx_225_81 : x_code k_P 225 81 = some (.iastore, 1) := by decide +kernel
theorem kx_225_82 : x_code k_P 225 82 = some (.aload_n 0, 1) := by decide +kernel
theorem kx_225_83 : x_code k_P 225 83 = some (.iconst 0, 1) := by decide +kernel
theorem kx_225_84 : x_code k_P 225 84 = some (.putfield 192, 3) := by decide +kernel
theorem kp_225_192 : x_pool k_P 225 192 = (1, 12, 59) := by decide +kernel
theorem kx_225_87 : x_code k_P 225 87 = some (.aload_n 0, 1) := by decide +kernel
theorem kx_225_88 : x_code k_P 225 88 = some (.iconst 0, 1) := by decide +kernel
theorem kx_225_89 : x_code k_P 225 89 = some (.putfield 225, 3) := by decide +kernel
theorem kp_225_225 : x_pool k_P 225 225 = (1, 12, 70) := by decide +kernel
theorem kx_225_92 : x_code k_P 225 92 = some (.aload_n 0, 1) := by decide +kernel
theorem kx_225_93 : x_code k_P 225 93 = some (.iconst 0, 1) := by decide +kernel
theorem kx_225_94 : x_code k_P 225 94 = some (.putfield 219, 3) := by decide +kernel
theorem kp_225_219 : x_pool k_P 225 219 = (1, 12, 68) := by decide +kernel
theorem kx_225_97 : x_code k_P 225 97 = some (.return_, 1) := by decide +kernel
theorem kq_225 : x_retk k_P 225 = 0 := by decide +kernel
theorem kx_225_8 : x_code k_P 225 8 = some (.aload_n 0, 1) := by decide +kernel
theorem kx_225_9 : x_code k_P 225 9 = some (.getfield 159, 3) := by decide +kernel
theorem kp_225_159 : x_pool k_P 225 159 = (1, 12, 48) := by decide +kernel
theorem kx_225_12 : x_code k_P 225 12 = some (.iload_n 1, 1) := by decide +kernel
theorem kx_225_13 : x_code k_P 225 13 = some (.aload_n 0, 1) := by decide +kernel
theorem kx_225_14 : x_code k_P 225 14 = some (.getfield 81, 3) := by decide +kernel
theorem kp_225_81 : x_pool k_P 225 81 = (1, 12, 23) := by decide +kernel
theorem kf_12_23 : (x_cls k_P 12)[23]? = some 12 := by decide +kernel
theorem kx_225_17 : x_code k_P 225 17 = some (.bipush 8, 2) := by decide +kernel
theorem kx_225_19 : x_code k_P 225 19 = some (.aload_n 0, 1) := by decide +kernel
theorem kx_225_20 : x_code k_P 225 20 = some (.getfield 54, 3) := by decide +kernel
theorem kp_225_54 : x_pool k_P 225 54 = (1, 12, 14) := by decide +kernel
theorem kx_225_23 : x_code k_P 225 23 = some (.imul, 1) := by decide +kernel
theorem kx_225_24 : x_code k_P 225 24 = some (.iload_n 1, 1) := by decide +kernel
theorem kx_225_25 : x_code k_P 225 25 = some (.iadd, 1) := by decide +kernel
theorem kx_225_26 : x_code k_P 225 26 = some (.iaload, 1) := by decide +kernel
theorem kx_225_27 : x_code k_P 225 27 = some (.iastore, 1) := by decide +kernel
theorem kx_225_28 : x_code k_P 225 28 = some (.aload_n 0, 1) := by decide +kernel
theorem kx_225_29 : x_code k_P 225 29 = some (.getfield 162, 3) := by decide +kernel
theorem kp_225_162 : x_pool k_P 225 162 = (1, 12, 49) := by decide +kernel
theorem kx_225_32 : x_code k_P 225 32 = some (.iload_n 1, 1) := by decide +kernel
theorem kx_225_33 : x_code k_P 225 33 = some (.aload_n 0, 1) := by decide +kernel
theorem kx_225_34 : x_code k_P 225 34 = some (.getfield 81, 3) := by decide +kernel
theorem kx_225_37 : x_code k_P 225 37 = some (.bipush 8, 2) := by decide +kernel
theorem kx_225_39 : x_code k_P 225 39 = some (.aload_n 0, 1) := by decide +kernel
theorem kx_225_40 : x_code k_P 225 40 = some (.getfield 54, 3) := by decide +kernel
theorem kx_225_43 : x_code k_P 225 43 = some (.imul, 1) := by decide +kernel
theorem kx_225_44 : x_code k_P 225 44 = some (.iload_n 1, 1) := by decide +kernel
theorem kx_225_45 : x_code k_P 225 45 = some (.iadd, 1) := by decide +kernel
theorem kx_225_46 : x_code k_P 225 46 = some (.iaload, 1) := by decide +kernel
theorem kx_225_47 : x_code k_P 225 47 = some (.iastore, 1) := by decide +kernel
theorem kx_225_48 : x_code k_P 225 48 = some (.aload_n 0, 1) := by decide +kernel
theorem kx_225_49 : x_code k_P 225 49 = some (.getfield 165, 3) := by decide +kernel
theorem kp_225_165 : x_pool k_P 225 165 = (1, 12, 50) := by decide +kernel
theorem kx_225_52 : x_code k_P 225 52 = some (.iload_n 1, 1) := by decide +kernel
theorem kx_225_53 : x_code k_P 225 53 = some (.iconst 0, 1) := by decide +kernel
theorem kx_225_54 : x_code k_P 225 54 = some (.iastore, 1) := by decide +kernel
theorem kx_225_55 : x_code k_P 225 55 = some (.aload_n 0, 1) := by decide +kernel
theorem kx_225_56 : x_code k_P 225 56 = some (.getfield 168, 3) := by decide +kernel
theorem kp_225_168 : x_pool k_P 225 168 = (1, 12, 51) := by decide +kernel
theorem kx_225_59 : x_code k_P 225 59 = some (.iload_n 1, 1) := by decide +kernel
theorem kx_225_60 : x_code k_P 225 60 = some (.iconst 0, 1) := by decide +kernel
theorem kx_225_61 : x_code k_P 225 61 = some (.iastore, 1) := by decide +kernel
theorem kx_225_62 : x_code k_P 225 62 = some (.aload_n 0, 1) := by decide +kernel
theorem kx_225_63 : x_code k_P 225 63 = some (.getfield 171, 3) := by decide +kernel
theorem kp_225_171 : x_pool k_P 225 171 = (1, 12, 52) := by decide +kernel
theorem kx_225_66 : x_code k_P 225 66 = some (.iload_n 1, 1) := by decide +kernel
theorem kx_225_67 : x_code k_P 225 67 = some (.iconst 0, 1) := by decide +kernel
theorem kx_225_68 : x_code k_P 225 68 = some (.iastore, 1) := by decide +kernel
theorem kx_225_69 : x_code k_P 225 69 = some (.iinc 1 1, 3) := by decide +kernel
theorem kx_225_72 : x_code k_P 225 72 = some (.goto (-70), 3) := by decide +kernel
def fS_225_l2 : List (Nat × Nat) := [(92, 99999), (93, 99999), (94, 99999), (95, 99999), (96, 99999)]
def fS_225_m : List (Nat × Nat) := [(63, 59), (63, 68), (63, 70), (92, 99999), (93, 99999), (94, 99999), (95, 99999), (96, 99999), (97, 99999)]
theorem m_225 {xs : Nat → Int} {Ln d : Nat} {T : List cK} {M : cM} (hT : TT T) (hI : Rng M) : cC k_P xs Ln (d + 0) 225 [rf 63] (T, M) (qV T M fS_225_m (fun M1 => True)) := by
  show cP k_P xs Ln (d + 0) 225 0 [(0, rf 63)] [] (T, M) _
  have hFm : Fr fS_225_m M M := Fr.refl
  refine s_iconst (v := 0) kx_225_0 (by decide) ?_
  refine s_istore_n kx_225_1 km_225_1 rfl ?_
  have key3 : ∀ n4 : Nat, ∀ (x1_1 : Int), ∀ M2 : cM, Rng M2 → Fr fS_225_m M M2 → Fr fS_225_l2 M M2 → (0 ≤ x1_1) → (2147483647 - x1_1).toNat < n4 → cP k_P xs Ln (d + 0) 225 2 [(0, rf 63), (1, (0, x1_1))] [] (T, M2) (qV T M fS_225_m (fun M1 => True)) := by
    intro n4
    induction n4 with
    | zero => intro x1_1 M2 hI2 hFm2 fl2 i5 hm6; exact absurd hm6 (Nat.not_lt_zero _)
    | succ n4 ih7 =>
      intro x1_1 M2 hI2 hFm2 fl2 i5 hm6
      refine s_iload_n kx_225_2 rfl ?_
      refine s_bipush (v := 8) kx_225_3 (by decide) ?_
      refine s_icmp_ge (t := 75) kx_225_5 (by decide) (fun hc8 => ?_) (fun hc8 => ?_)
      · refine s_aload_n kx_225_75 rfl ?_
        refine r_getR (k := 63) (f := 53) (k2 := 97) kx_225_76 kp_225_174 (tk_63 hT) kf_12_53 (by decide) (rq_63_53 hI2) ?_
        refine s_iconst (v := 0) kx_225_79 (by decide) ?_
        refine s_iconst (v := 0) kx_225_80 (by decide) ?_
        refine r_ast (k := 97) kx_225_81 (tk_97 hT) ⟨by decide, by decide⟩ hI2 (ru_97 (by omega) (by omega)) (fun M9 hI9 u9 => ?_)
        have hFm9 := hFm2.up u9 rfl
        refine s_aload_n kx_225_82 rfl ?_
        refine s_iconst (v := 0) kx_225_83 (by decide) ?_
        refine r_put (k := 63) (f := 59) kx_225_84 kp_225_192 (tk_63 hT) kf_12_59 rfl (by decide) (by decide) hI9 (ru_63_59 (by omega) (by omega)) (fun M10 hI10 u10 => ?_)
        have hFm10 := hFm9.up u10 rfl
        refine s_aload_n kx_225_87 rfl ?_
        refine s_iconst (v := 0) kx_225_88 (by decide) ?_
        refine r_put (k := 63) (f := 70) kx_225_89 kp_225_225 (tk_63 hT) kf_12_70 rfl (by decide) (by decide) hI10 (ru_63_70 (by omega) (by omega)) (fun M11 hI11 u11 => ?_)
        have hFm11 := hFm10.up u11 rfl
        refine s_aload_n kx_225_92 rfl ?_
        refine s_iconst (v := 0) kx_225_93 (by decide) ?_
        refine r_put (k := 63) (f := 68) kx_225_94 kp_225_219 (tk_63 hT) kf_12_68 rfl (by decide) (by decide) hI11 (ru_63_68 (by omega) (by omega)) (fun M12 hI12 u12 => ?_)
        have hFm12 := hFm11.up u12 rfl
        exact s_vret kx_225_97 kq_225 ⟨_, rfl, rfl, hI12, hFm12, trivial⟩
      · refine s_aload_n kx_225_8 rfl ?_
        refine r_getR (k := 63) (f := 48) (k2 := 92) kx_225_9 kp_225_159 (tk_63 hT) kf_12_48 (by decide) (rq_63_48 hI2) ?_
        refine s_iload_n kx_225_12 rfl ?_
        refine s_aload_n kx_225_13 rfl ?_
        refine r_getR (k := 63) (f := 23) (k2 := 73) kx_225_14 kp_225_81 (tk_63 hT) kf_12_23 (by decide) (rq_63_23 hI2) ?_
        refine s_bipush (v := 8) kx_225_17 (by decide) ?_
        refine s_aload_n kx_225_19 rfl ?_
        refine r_getI (k := 63) (f := 14) kx_225_20 kp_225_54 (tk_63 hT) kf_12_14 (fun _ => rfl) (rg_63_14 hI2) (fun v13 v13e v13a v13b => ?_)
        have v13z : M 63 14 = v13 := ((fl2 63 14 rfl)).symm.trans v13e
        refine r_mul kx_225_23 ⟨by omega, by omega⟩ ?_
        refine s_iload_n kx_225_24 rfl ?_
        refine r_add kx_225_25 ⟨by omega, by omega⟩ ?_
        refine r_ald (k := 73) kx_225_26 (tk_73 hT) ⟨by omega, by omega⟩ (rg_73 hI2) (fun v14 v14e v14a v14b => ?_)
        refine r_ast (k := 92) kx_225_27 (tk_92 hT) ⟨by omega, by omega⟩ hI2 (ru_92 (fun _ => by omega)) (fun M15 hI15 u15 => ?_)
        have hFm15 := hFm2.up u15 rfl
        have hFl215 := fl2.up u15 rfl
        refine s_aload_n kx_225_28 rfl ?_
        refine r_getR (k := 63) (f := 49) (k2 := 93) kx_225_29 kp_225_162 (tk_63 hT) kf_12_49 (by decide) (rq_63_49 hI15) ?_
        refine s_iload_n kx_225_32 rfl ?_
        refine s_aload_n kx_225_33 rfl ?_
        refine r_getR (k := 63) (f := 23) (k2 := 73) kx_225_34 kp_225_81 (tk_63 hT) kf_12_23 (by decide) (rq_63_23 hI15) ?_
        refine s_bipush (v := 8) kx_225_37 (by decide) ?_
        refine s_aload_n kx_225_39 rfl ?_
        refine r_getK (k := 63) (f := 14) kx_225_40 kp_225_54 (tk_63 hT) kf_12_14 (fun _ => rfl) ((u15.2 63 14 (by omega)).trans v13e) ?_
        refine r_mul kx_225_43 ⟨by omega, by omega⟩ ?_
        refine s_iload_n kx_225_44 rfl ?_
        refine r_add kx_225_45 ⟨by omega, by omega⟩ ?_
        refine r_aldK (k := 73) kx_225_46 (tk_73 hT) ⟨by omega, by omega⟩ ((u15.2 73 _ (by omega)).trans v14e) ?_
        refine r_ast (k := 93) kx_225_47 (tk_93 hT) ⟨by omega, by omega⟩ hI15 (ru_93 (fun _ => by omega)) (fun M16 hI16 u16 => ?_)
        have hFm16 := hFm15.up u16 rfl
        have hFl216 := hFl215.up u16 rfl
        refine s_aload_n kx_225_48 rfl ?_
        refine r_getR (k := 63) (f := 50) (k2 := 94) kx_225_49 kp_225_165 (tk_63 hT) kf_12_50 (by decide) (rq_63_50 hI16) ?_
        refine s_iload_n kx_225_52 rfl ?_
        refine s_iconst (v := 0) kx_225_53 (by decide) ?_
        refine r_ast (k := 94) kx_225_54 (tk_94 hT) ⟨by omega, by omega⟩ hI16 ru_94 (fun M17 hI17 u17 => ?_)
        have hFm17 := hFm16.up u17 rfl
        have hFl217 := hFl216.up u17 rfl
        refine s_aload_n kx_225_55 rfl ?_
        refine r_getR (k := 63) (f := 51) (k2 := 95) kx_225_56 kp_225_168 (tk_63 hT) kf_12_51 (by decide) (rq_63_51 hI17) ?_
        refine s_iload_n kx_225_59 rfl ?_
        refine s_iconst (v := 0) kx_225_60 (by decide) ?_
        refine r_ast (k := 95) kx_225_61 (tk_95 hT) ⟨by omega, by omega⟩ hI17 ru_95 (fun M18 hI18 u18 => ?_)
        have hFm18 := hFm17.up u18 rfl
        have hFl218 := hFl217.up u18 rfl
        refine s_aload_n kx_225_62 rfl ?_
        refine r_getR (k := 63) (f := 52) (k2 := 96) kx_225_63 kp_225_171 (tk_63 hT) kf_12_52 (by decide) (rq_63_52 hI18) ?_
        refine s_iload_n kx_225_66 rfl ?_
        refine s_iconst (v := 0) kx_225_67 (by decide) ?_
        refine r_ast (k := 96) kx_225_68 (tk_96 hT) ⟨by omega, by omega⟩ hI18 ru_96 (fun M19 hI19 u19 => ?_)
        have hFm19 := hFm18.up u19 rfl
        have hFl219 := hFl218.up u19 rfl
        refine r_iinc kx_225_69 rfl km_225_1 (by decide) ⟨by omega, by omega⟩ rfl ?_
        refine s_goto (t := 2) kx_225_72 (by decide) ?_
        exact cP.wk (lS1 rfl (lS1 rfl lS0)) (ih7 (x1_1 + 1) M19 hI19 hFm19 hFl219 (by omega) (by omega))
  exact cP.wk (lS1 rfl (lS1 rfl lS0)) (key3 _ 0 M hI hFm Fr.refl (by omega) (Nat.lt_succ_self _))
theorem kx_226_0 : x_code k_P 226 0 = some (.iconst 2, 1) := by decide +kernel
theorem kx_226_1 : x_code k_P 226 1 = some (.aload_n 0, 1) := by decide +kernel
theorem kx_226_2 : x_code k_P 226 2 = some (.getfield 189, 3) := by decide +kernel
theorem kp_226_189 : x_pool k_P 226 189 = (1, 12, 58) := by decide +kernel
theorem kf_12_58 : (x_cls k_P 12)[58]? = some 0 := by decide +kernel
theorem kx_226_5 : x_code k_P 226 5 = some (.iload_n 1, 1) := by decide +kernel
theorem kx_226_6 : x_code k_P 226 6 = some (.iadd, 1) := by decide +kernel
theorem kx_226_7 : x_code k_P 226 7 = some (.bipush 20, 2) := by decide +kernel
theorem kx_226_9 : x_code k_P 226 9 = some (.irem, 1) := by decide +kernel
theorem kx_226_10 : x_code k_P 226 10 = some (.iadd, 1) := by decide +kernel
theorem kx_226_11 : x_code k_P 226 11 = some (.ireturn, 1) := by decide +kernel
theorem kq_226 : x_retk k_P 226 = 1 := by decide +kernel
theorem m_226 {xs : Nat → Int} {Ln d : Nat} {T : List cK} {M : cM} (hT : TT T) (hI : Rng M) {k : Int} (p0 : 0 ≤ k ∧ k ≤ 20) : cC k_P xs Ln (d + 0) 226 [rf 63, (0, k)] (T, M) (qF T M 0 (fun v => 2 ≤ v ∧ v ≤ 21)) := by
  show cP k_P xs Ln (d + 0) 226 0 [(0, rf 63), (1, (0, k))] [] (T, M) _
  refine s_iconst (v := 2) kx_226_0 (by decide) ?_
  refine s_aload_n kx_226_1 rfl ?_
  refine r_getI (k := 63) (f := 58) kx_226_2 kp_226_189 (tk_63 hT) kf_12_58 (fun _ => rfl) (rg_63_58 hI) (fun v1 v1e v1a v1b => ?_)
  refine s_iload_n kx_226_5 rfl ?_
  refine r_add kx_226_6 ⟨by omega, by omega⟩ ?_
  refine s_bipush (v := 20) kx_226_7 (by decide) ?_
  refine r_irem kx_226_9 (by omega) (by omega) (by omega) (by omega) ?_
  refine r_add kx_226_10 ⟨by omega, by omega⟩ ?_
  exact s_iret kx_226_11 (Or.inl kq_226) ⟨_, rfl, rfl, (by omega)⟩
theorem kx_227_0 : x_code k_P 227 0 = some (.aload_n 0, 1) := by decide +kernel
theorem kx_227_1 : x_code k_P 227 1 = some (.getfield 192, 3) := by decide +kernel
theorem kp_227_192 : x_pool k_P 227 192 = (1, 12, 59) := by decide +kernel
theorem kx_227_4 : x_code k_P 227 4 = some (.bipush 20, 2) := by decide +kernel
theorem kx_227_6 : x_code k_P 227 6 = some (.if_icmp .ne 26, 3) := by decide +kernel
theorem kx_227_32 : x_code k_P 227 32 = some (.aload_n 0, 1) := by decide +kernel
theorem kx_227_33 : x_code k_P 227 33 = some (.aload_n 0, 1) := by decide +kernel
theorem kx_227_34 : x_code k_P 227 34 = some (.aload_n 0, 1) := by decide +kernel
theorem kx_227_35 : x_code k_P 227 35 = some (.getfield 192, 3) := by decide +kernel
theorem kx_227_38 : x_code k_P 227 38 = some (.invokevirtual 449, 3) := by decide +kernel
theorem kp_227_449 : x_pool k_P 227 449 = (2, 226, 1) := by decide +kernel
theorem ki_226 : x_mci k_P 226 = 12 := by decide +kernel
theorem kcl_226 : x_maxL k_P 226 ≤ 60 ∧ 2 ≤ x_maxL k_P 226 := by decide +kernel
theorem kx_227_41 : x_code k_P 227 41 = some (.iconst 0, 1) := by decide +kernel
theorem kx_227_42 : x_code k_P 227 42 = some (.invokevirtual 452, 3) := by decide +kernel
theorem kp_227_452 : x_pool k_P 227 452 = (2, 224, 2) := by decide +kernel
theorem ki_224 : x_mci k_P 224 = 12 := by decide +kernel
theorem kcl_224 : x_maxL k_P 224 ≤ 60 ∧ 3 ≤ x_maxL k_P 224 := by decide +kernel
theorem kx_227_45 : x_code k_P 227 45 = some (.aload_n 0, 1) := by decide +kernel
theorem kx_227_46 : x_code k_P 227 46 = some (.dup, 1) := by decide +kernel
theorem kx_227_47 : x_code k_P 227 47 = some (.getfield 192, 3) := by decide +kernel
theorem kx_227_50 : x_code k_P 227 50 = some (.iconst 1, 1) := by decide +kernel
theorem kx_227_51 : x_code k_P 227 51 = some (.iadd, 1) := by decide +kernel
theorem kx_227_52 : x_code k_P 227 52 = some (.putfield 192, 3) := by decide +kernel
theorem kx_227_55 : x_code k_P 227 55 = some (.return_, 1) := by decide +kernel
theorem kq_227 : x_retk k_P 227 = 0 := by decide +kernel
theorem kx_227_9 : x_code k_P 227 9 = some (.aload_n 0, 1) := by decide +kernel
theorem kx_227_10 : x_code k_P 227 10 = some (.aload_n 0, 1) := by decide +kernel
theorem kx_227_11 : x_code k_P 227 11 = some (.getfield 189, 3) := by decide +kernel
theorem kp_227_189 : x_pool k_P 227 189 = (1, 12, 58) := by decide +kernel
theorem kx_227_14 : x_code k_P 227 14 = some (.iconst 1, 1) := by decide +kernel
theorem kx_227_15 : x_code k_P 227 15 = some (.iadd, 1) := by decide +kernel
theorem kx_227_16 : x_code k_P 227 16 = some (.bipush 20, 2) := by decide +kernel
theorem kx_227_18 : x_code k_P 227 18 = some (.irem, 1) := by decide +kernel
theorem kx_227_19 : x_code k_P 227 19 = some (.putfield 189, 3) := by decide +kernel
theorem kx_227_22 : x_code k_P 227 22 = some (.aload_n 0, 1) := by decide +kernel
theorem kx_227_23 : x_code k_P 227 23 = some (.dup, 1) := by decide +kernel
theorem kx_227_24 : x_code k_P 227 24 = some (.getfield 192, 3) := by decide +kernel
theorem kx_227_27 : x_code k_P 227 27 = some (.iconst 1, 1) := by decide +kernel
theorem kx_227_28 : x_code k_P 227 28 = some (.isub, 1) := by decide +kernel
theorem kx_227_29 : x_code k_P 227 29 = some (.putfield 192, 3) := by decide +kernel
def fS_227_m : List (Nat × Nat) := [(100, 99999), (101, 99999), (63, 58), (63, 59), (92, 99999), (93, 99999), (94, 99999), (95, 99999), (96, 99999), (97, 99999), (98, 99999), (99, 99999)]
theorem m_227 {xs : Nat → Int} {Ln d : Nat} {T : List cK} {M : cM} (hT : TT T) (hI : Rng M) : cC k_P xs Ln (d + 1) 227 [rf 63] (T, M) (qV T M fS_227_m (fun M1 => True)) := by
  show cP k_P xs Ln (d + 1) 227 0 [(0, rf 63)] [] (T, M) _
  have hFm : Fr fS_227_m M M := Fr.refl
  refine s_aload_n kx_227_0 rfl ?_
  refine r_getI (k := 63) (f := 59) kx_227_1 kp_227_192 (tk_63 hT) kf_12_59 (fun _ => rfl) (rg_63_59 hI) (fun v1 v1e v1a v1b => ?_)
  refine s_bipush (v := 20) kx_227_4 (by decide) ?_
  refine s_icmp_ne (t := 32) kx_227_6 (by decide) (fun hc2 => ?_) (fun hc2 => ?_)
  · refine s_aload_n kx_227_32 rfl ?_
    refine s_aload_n kx_227_33 rfl ?_
    refine s_aload_n kx_227_34 rfl ?_
    refine r_getK (k := 63) (f := 59) kx_227_35 kp_227_192 (tk_63 hT) kf_12_59 (fun _ => rfl) v1e ?_
    refine s_callV2 (k := 63) (s1 := 2) (s2 := 1) (as := [(0, v1)]) (rest := [rf 63]) kx_227_38 kp_227_449 (Or.inl rfl) rfl (tk_63 hT) ki_226 kcl_226 rfl rfl (by decide) (m_226 (d := d) (k := v1) hT hI (by omega)) (kF (fun v3 v3p => ?_))
    refine s_iconst (v := 0) kx_227_41 (by decide) ?_
    refine s_callV2 (k := 63) (s1 := 3) (s2 := 0) (as := [(0, 0), (0, v3)]) (rest := []) kx_227_42 kp_227_452 (Or.inl rfl) rfl (tk_63 hT) ki_224 kcl_224 rfl rfl (by decide) (m_224 (d := d) (to := v3) (from_ := 0) hT hI (by omega) (by omega) (zR_of92 hI (by omega)) (zR_of93 hI (by omega))) (kV (fun M5 hI5 fr5 v4p => ?_))
    have hFm5 := hFm.call fr5 rfl
    refine s_aload_n kx_227_45 rfl ?_
    refine s_dup kx_227_46 rfl ?_
    refine r_getK (k := 63) (f := 59) kx_227_47 kp_227_192 (tk_63 hT) kf_12_59 (fun _ => rfl) ((fr5 63 59 rfl).trans v1e) ?_
    refine s_iconst (v := 1) kx_227_50 (by decide) ?_
    refine r_add kx_227_51 ⟨by omega, by omega⟩ ?_
    refine r_put (k := 63) (f := 59) kx_227_52 kp_227_192 (tk_63 hT) kf_12_59 rfl (by decide) (by decide) hI5 (ru_63_59 (by omega) (by omega)) (fun M6 hI6 u6 => ?_)
    have hFm6 := hFm5.up u6 rfl
    exact s_vret kx_227_55 kq_227 ⟨_, rfl, rfl, hI6, hFm6, trivial⟩
  · refine s_aload_n kx_227_9 rfl ?_
    refine s_aload_n kx_227_10 rfl ?_
    refine r_getI (k := 63) (f := 58) kx_227_11 kp_227_189 (tk_63 hT) kf_12_58 (fun _ => rfl) (rg_63_58 hI) (fun v7 v7e v7a v7b => ?_)
    refine s_iconst (v := 1) kx_227_14 (by decide) ?_
    refine r_add kx_227_15 ⟨by omega, by omega⟩ ?_
    refine s_bipush (v := 20) kx_227_16 (by decide) ?_
    refine r_irem kx_227_18 (by omega) (by omega) (by omega) (by omega) ?_
    refine r_put (k := 63) (f := 58) kx_227_19 kp_227_189 (tk_63 hT) kf_12_58 rfl (by decide) (by decide) hI (ru_63_58 (by omega) (by omega)) (fun M8 hI8 u8 => ?_)
    have hFm8 := hFm.up u8 rfl
    refine s_aload_n kx_227_22 rfl ?_
    refine s_dup kx_227_23 rfl ?_
    refine r_getK (k := 63) (f := 59) kx_227_24 kp_227_192 (tk_63 hT) kf_12_59 (fun _ => rfl) ((u8.2 63 59 (by omega)).trans v1e) ?_
    refine s_iconst (v := 1) kx_227_27 (by decide) ?_
    refine r_sub kx_227_28 ⟨by omega, by omega⟩ ?_
    refine r_put (k := 63) (f := 59) kx_227_29 kp_227_192 (tk_63 hT) kf_12_59 rfl (by decide) (by decide) hI8 (ru_63_59 (by omega) (by omega)) (fun M9 hI9 u9 => ?_)
    have hFm9 := hFm8.up u9 rfl
    refine s_aload_n kx_227_32 rfl ?_
    refine s_aload_n kx_227_33 rfl ?_
    refine s_aload_n kx_227_34 rfl ?_
    refine r_getK (k := 63) (f := 59) kx_227_35 kp_227_192 (tk_63 hT) kf_12_59 (fun _ => rfl) u9.1 ?_
    refine s_callV2 (k := 63) (s1 := 2) (s2 := 1) (as := [(0, (v1 - 1))]) (rest := [rf 63]) kx_227_38 kp_227_449 (Or.inl rfl) rfl (tk_63 hT) ki_226 kcl_226 rfl rfl (by decide) (m_226 (d := d) (k := (v1 - 1)) hT hI9 (by omega)) (kF (fun v10 v10p => ?_))
    refine s_iconst (v := 0) kx_227_41 (by decide) ?_
    refine s_callV2 (k := 63) (s1 := 3) (s2 := 0) (as := [(0, 0), (0, v10)]) (rest := []) kx_227_42 kp_227_452 (Or.inl rfl) rfl (tk_63 hT) ki_224 kcl_224 rfl rfl (by decide) (m_224 (d := d) (to := v10) (from_ := 0) hT hI9 (by omega) (by omega) (zR_of92 hI9 (by omega)) (zR_of93 hI9 (by omega))) (kV (fun M12 hI12 fr12 v11p => ?_))
    have hFm12 := hFm9.call fr12 rfl
    refine s_aload_n kx_227_45 rfl ?_
    refine s_dup kx_227_46 rfl ?_
    refine r_getK (k := 63) (f := 59) kx_227_47 kp_227_192 (tk_63 hT) kf_12_59 (fun _ => rfl) ((fr12 63 59 rfl).trans u9.1) ?_
    refine s_iconst (v := 1) kx_227_50 (by decide) ?_
    refine r_add kx_227_51 ⟨by omega, by omega⟩ ?_
    refine r_put (k := 63) (f := 59) kx_227_52 kp_227_192 (tk_63 hT) kf_12_59 rfl (by decide) (by decide) hI12 (ru_63_59 (by omega) (by omega)) (fun M13 hI13 u13 => ?_)
    have hFm13 := hFm12.up u13 rfl
    exact s_vret kx_227_55 kq_227 ⟨_, rfl, rfl, hI13, hFm13, trivial⟩
theorem kx_228_0 : x_code k_P 228 0 = some (.aload_n 0, 1) := by decide +kernel
theorem kx_228_1 : x_code k_P 228 1 = some (.getfield 192, 3) := by decide +kernel
theorem kp_228_192 : x_pool k_P 228 192 = (1, 12, 59) := by decide +kernel
theorem kx_228_4 : x_code k_P 228 4 = some (.ifCond .ne 17, 3) := by decide +kernel
theorem kx_228_21 : x_code k_P 228 21 = some (.aload_n 0, 1) := by decide +kernel
theorem kx_228_22 : x_code k_P 228 22 = some (.dup, 1) := by decide +kernel
theorem kx_228_23 : x_code k_P 228 23 = some (.getfield 192, 3) := by decide +kernel
theorem kx_228_26 : x_code k_P 228 26 = some (.iconst 1, 1) := by decide +kernel
theorem kx_228_27 : x_code k_P 228 27 = some (.isub, 1) := by decide +kernel
theorem kx_228_28 : x_code k_P 228 28 = some (.putfield 192, 3) := by decide +kernel
theorem kx_228_31 : x_code k_P 228 31 = some (.aload_n 0, 1) := by decide +kernel
theorem kx_228_32 : x_code k_P 228 32 = some (.iconst 0, 1) := by decide +kernel
theorem kx_228_33 : x_code k_P 228 33 = some (.aload_n 0, 1) := by decide +kernel
theorem kx_228_34 : x_code k_P 228 34 = some (.aload_n 0, 1) := by decide +kernel
theorem kx_228_35 : x_code k_P 228 35 = some (.getfield 192, 3) := by decide +kernel
theorem kx_228_38 : x_code k_P 228 38 = some (.invokevirtual 449, 3) := by decide +kernel
theorem kp_228_449 : x_pool k_P 228 449 = (2, 226, 1) := by decide +kernel
theorem kx_228_41 : x_code k_P 228 41 = some (.invokevirtual 452, 3) := by decide +kernel
theorem kp_228_452 : x_pool k_P 228 452 = (2, 224, 2) := by decide +kernel
theorem kx_228_44 : x_code k_P 228 44 = some (.iconst 1, 1) := by decide +kernel
theorem kx_228_45 : x_code k_P 228 45 = some (.ireturn, 1) := by decide +kernel
theorem kq_228 : x_retk k_P 228 = 2 := by decide +kernel
theorem kx_228_7 : x_code k_P 228 7 = some (.aload_n 0, 1) := by decide +kernel
theorem kx_228_8 : x_code k_P 228 8 = some (.iconst 4, 1) := by decide +kernel
theorem kx_228_9 : x_code k_P 228 9 = some (.invokevirtual 255, 3) := by decide +kernel
theorem kp_228_255 : x_pool k_P 228 255 = (2, 218, 1) := by decide +kernel
theorem ki_218 : x_mci k_P 218 = 12 := by decide +kernel
theorem kcl_218 : x_maxL k_P 218 ≤ 60 ∧ 2 ≤ x_maxL k_P 218 := by decide +kernel
theorem kx_228_12 : x_code k_P 228 12 = some (.ifCond .lt 7, 3) := by decide +kernel
theorem kx_228_19 : x_code k_P 228 19 = some (.iconst 0, 1) := by decide +kernel
theorem kx_228_20 : x_code k_P 228 20 = some (.ireturn, 1) := by decide +kernel
def fS_228_m : List (Nat × Nat) := [(100, 99999), (101, 99999), (63, 59), (91, 99999), (92, 99999), (93, 99999), (94, 99999), (95, 99999), (96, 99999), (97, 99999), (98, 99999), (99, 99999)]
theorem m_228 {xs : Nat → Int} {Ln d : Nat} {T : List cK} {M : cM} (hT : TT T) (hI : Rng M) : cC k_P xs Ln (d + 1) 228 [rf 63] (T, M) (qW T M fS_228_m 0 (fun v M1 => 0 ≤ v ∧ v ≤ 1)) := by
  show cP k_P xs Ln (d + 1) 228 0 [(0, rf 63)] [] (T, M) _
  have hFm : Fr fS_228_m M M := Fr.refl
  refine s_aload_n kx_228_0 rfl ?_
  refine r_getI (k := 63) (f := 59) kx_228_1 kp_228_192 (tk_63 hT) kf_12_59 (fun _ => rfl) (rg_63_59 hI) (fun v1 v1e v1a v1b => ?_)
  refine s_if_ne (t := 21) kx_228_4 (by decide) (fun hc2 => ?_) (fun hc2 => ?_)
  · refine s_aload_n kx_228_21 rfl ?_
    refine s_dup kx_228_22 rfl ?_
    refine r_getK (k := 63) (f := 59) kx_228_23 kp_228_192 (tk_63 hT) kf_12_59 (fun _ => rfl) v1e ?_
    refine s_iconst (v := 1) kx_228_26 (by decide) ?_
    refine r_sub kx_228_27 ⟨by omega, by omega⟩ ?_
    refine r_put (k := 63) (f := 59) kx_228_28 kp_228_192 (tk_63 hT) kf_12_59 rfl (by decide) (by decide) hI (ru_63_59 (by omega) (by omega)) (fun M3 hI3 u3 => ?_)
    have hFm3 := hFm.up u3 rfl
    refine s_aload_n kx_228_31 rfl ?_
    refine s_iconst (v := 0) kx_228_32 (by decide) ?_
    refine s_aload_n kx_228_33 rfl ?_
    refine s_aload_n kx_228_34 rfl ?_
    refine r_getK (k := 63) (f := 59) kx_228_35 kp_228_192 (tk_63 hT) kf_12_59 (fun _ => rfl) u3.1 ?_
    refine s_callV2 (k := 63) (s1 := 2) (s2 := 2) (as := [(0, (v1 - 1))]) (rest := [(0, 0), rf 63]) kx_228_38 kp_228_449 (Or.inl rfl) rfl (tk_63 hT) ki_226 kcl_226 rfl rfl (by decide) (m_226 (d := d) (k := (v1 - 1)) hT hI3 (by omega)) (kF (fun v4 v4p => ?_))
    refine s_callV2 (k := 63) (s1 := 3) (s2 := 0) (as := [(0, v4), (0, 0)]) (rest := []) kx_228_41 kp_228_452 (Or.inl rfl) rfl (tk_63 hT) ki_224 kcl_224 rfl rfl (by decide) (m_224 (d := d) (to := 0) (from_ := v4) hT hI3 (by omega) (by omega) (zR_of92 hI3 (by omega)) (zR_of93 hI3 (by omega))) (kV (fun M6 hI6 fr6 v5p => ?_))
    have hFm6 := hFm3.call fr6 rfl
    refine s_iconst (v := 1) kx_228_44 (by decide) ?_
    exact s_iret kx_228_45 (Or.inr ⟨kq_228, by omega⟩) ⟨_, _, rfl, rfl, hI6, hFm6, (by omega)⟩
  · refine s_aload_n kx_228_7 rfl ?_
    refine s_iconst (v := 4) kx_228_8 (by decide) ?_
    refine s_callV2 (k := 63) (s1 := 2) (s2 := 0) (as := [(0, 4)]) (rest := []) kx_228_9 kp_228_255 (Or.inl rfl) rfl (tk_63 hT) ki_218 kcl_218 rfl rfl (by decide) (m_218 (d := d) (kind := 4) hT hI (by omega)) (kW (fun v7 M8 hI8 fr8 v7p => ?_))
    have hFm8 := hFm.call fr8 rfl
    refine s_if_lt (t := 19) kx_228_12 (by decide) (fun hc9 => ?_) (fun hc9 => absurd hc9 (by omega))
    refine s_iconst (v := 0) kx_228_19 (by decide) ?_
    exact s_iret kx_228_20 (Or.inr ⟨kq_228, by omega⟩) ⟨_, _, rfl, rfl, hI8, hFm8, (by omega)⟩
theorem kx_257_0 : x_code k_P 257 0 = some (.aload_n 0, 1) := by decide +kernel
theorem kx_257_1 : x_code k_P 257 1 = some (.getfield 174, 3) := by decide +kernel
theorem kp_257_174 : x_pool k_P 257 174 = (1, 12, 53) := by decide +kernel
theorem kx_257_4 : x_code k_P 257 4 = some (.iconst 0, 1) := by decide +kernel
theorem kx_257_5 : x_code k_P 257 5 = some (.iaload, 1) := by decide +kernel
theorem kx_257_6 : x_code k_P 257 6 = some (.bipush 40, 2) := by decide +kernel
theorem kx_257_8 : x_code k_P 257 8 = some (.if_icmp .ne 93, 3) := by decide +kernel
theorem kx_257_101 : x_code k_P 257 101 = some (.aload_n 0, 1) := by decide +kernel
theorem kx_257_102 : x_code k_P 257 102 = some (.getfield 174, 3) := by decide +kernel
theorem kx_257_105 : x_code k_P 257 105 = some (.iconst 0, 1) := by decide +kernel
theorem kx_257_106 : x_code k_P 257 106 = some (.iaload, 1) := by decide +kernel
theorem kx_257_107 : x_code k_P 257 107 = some (.istore 5, 2) := by decide +kernel
theorem km_257_5 : 5 < x_maxL k_P 257 := by decide +kernel
theorem kx_257_109 : x_code k_P 257 109 = some (.aload_n 0, 1) := by decide +kernel
theorem kx_257_110 : x_code k_P 257 110 = some (.getfield 177, 3) := by decide +kernel
theorem kp_257_177 : x_pool k_P 257 177 = (1, 12, 54) := by decide +kernel
theorem kx_257_113 : x_code k_P 257 113 = some (.iload 5, 2) := by decide +kernel
theorem kx_257_115 : x_code k_P 257 115 = some (.iload_n 1, 1) := by decide +kernel
theorem kx_257_116 : x_code k_P 257 116 = some (.iastore, 1) := by decide +kernel
theorem kx_257_117 : x_code k_P 257 117 = some (.aload_n 0, 1) := by decide +kernel
theorem kx_257_118 : x_code k_P 257 118 = some (.getfield 180, 3) := by decide +kernel
theorem kp_257_180 : x_pool k_P 257 180 = (1, 12, 55) := by decide +kernel
theorem kx_257_121 : x_code k_P 257 121 = some (.iload 5, 2) := by decide +kernel
theorem kx_257_123 : x_code k_P 257 123 = some (.iload_n 2, 1) := by decide +kernel
theorem kx_257_124 : x_code k_P 257 124 = some (.iastore, 1) := by decide +kernel
theorem kx_257_125 : x_code k_P 257 125 = some (.aload_n 0, 1) := by decide +kernel
theorem kx_257_126 : x_code k_P 257 126 = some (.getfield 183, 3) := by decide +kernel
theorem kp_257_183 : x_pool k_P 257 183 = (1, 12, 56) := by decide +kernel
theorem kx_257_129 : x_code k_P 257 129 = some (.iload 5, 2) := by decide +kernel
theorem kx_257_131 : x_code k_P 257 131 = some (.iload_n 3, 1) := by decide +kernel
theorem kx_257_132 : x_code k_P 257 132 = some (.iastore, 1) := by decide +kernel
theorem kx_257_133 : x_code k_P 257 133 = some (.aload_n 0, 1) := by decide +kernel
theorem kx_257_134 : x_code k_P 257 134 = some (.getfield 186, 3) := by decide +kernel
theorem kp_257_186 : x_pool k_P 257 186 = (1, 12, 57) := by decide +kernel
theorem kx_257_137 : x_code k_P 257 137 = some (.iload 5, 2) := by decide +kernel
theorem kx_257_139 : x_code k_P 257 139 = some (.iload 4, 2) := by decide +kernel
theorem kx_257_141 : x_code k_P 257 141 = some (.iastore, 1) := by decide +kernel
theorem kx_257_142 : x_code k_P 257 142 = some (.aload_n 0, 1) := by decide +kernel
theorem kx_257_143 : x_code k_P 257 143 = some (.getfield 174, 3) := by decide +kernel
theorem kx_257_146 : x_code k_P 257 146 = some (.iconst 0, 1) := by decide +kernel
theorem kx_257_147 : x_code k_P 257 147 = some (.dup2, 1) := by decide +kernel
theorem kx_257_148 : x_code k_P 257 148 = some (.iaload, 1) := by decide +kernel
theorem kx_257_149 : x_code k_P 257 149 = some (.iconst 1, 1) := by decide +kernel
theorem kx_257_150 : x_code k_P 257 150 = some (.iadd, 1) := by decide +kernel
theorem kx_257_151 : x_code k_P 257 151 = some (.iastore, 1) := by decide +kernel
theorem kx_257_152 : x_code k_P 257 152 = some (.return_, 1) := by decide +kernel
theorem kq_257 : x_retk k_P 257 = 0 := by decide +kernel
theorem kx_257_11 : x_code k_P 257 11 = some (.iconst 0, 1) := by decide +kernel
theorem kx_257_12 : x_code k_P 257 12 = some (.istore 5, 2) := by decide +kernel
theorem kx_257_14 : x_code k_P 257 14 = some (.iload 5, 2) := by decide +kernel
theorem kx_257_16 : x_code k_P 257 16 = some (.bipush 39, 2) := by decide +kernel
theorem kx_257_18 : x_code k_P 257 18 = some (.if_icmp .ge 73, 3) := by decide +kernel
theorem kx_257_91 : x_code k_P 257 91 = some (.aload_n 0, 1) := by decide +kernel
theorem kx_257_92 : x_code k_P 257 92 = some (.getfield 174, 3) := by decide +kernel
theorem kx_257_95 : x_code k_P 257 95 = some (.iconst 0, 1) := by decide +kernel
theorem kx_257_96 : x_code k_P 257 96 = some (.dup2, 1) := by decide +kernel
theorem kx_257_97 : x_code k_P 257 97 = some (.iaload, 1) := by decide +kernel
theorem kx_257_98 : x_code k_P 257 98 = some (.iconst 1, 1) := by decide +kernel
theorem kx_257_99 : x_code k_P 257 99 = some (.isub, 1) := by decide +kernel
theorem kx_257_100 : x_code k_P 257 100 = some (.iastore, 1) := by decide +kernel
theorem kx_257_21 : x_code k_P 257 21 = some (.aload_n 0, 1) := by decide +kernel
theorem kx_257_22 : x_code k_P 257 22 = some (.getfield 177, 3) := by decide +kernel
theorem kx_257_25 : x_code k_P 257 25 = some (.iload 5, 2) := by decide +kernel
theorem kx_257_27 : x_code k_P 257 27 = some (.aload_n 0, 1) := by decide +kernel
theorem kx_257_28 : x_code k_P 257 28 = some (.getfield 177, 3) := by decide +kernel
theorem kx_257_31 : x_code k_P 257 31 = some (.iload 5, 2) := by decide +kernel
theorem kx_257_33 : x_code k_P 257 33 = some (.iconst 1, 1) := by decide +kernel
theorem kx_257_34 : x_code k_P 257 34 = some (.iadd, 1) := by decide +kernel
theorem kx_257_35 : x_code k_P 257 35 = some (.iaload, 1) := by decide +kernel
theorem kx_257_36 : x_code k_P 257 36 = some (.iastore, 1) := by decide +kernel
theorem kx_257_37 : x_code k_P 257 37 = some (.aload_n 0, 1) := by decide +kernel
theorem kx_257_38 : x_code k_P 257 38 = some (.getfield 180, 3) := by decide +kernel
theorem kx_257_41 : x_code k_P 257 41 = some (.iload 5, 2) := by decide +kernel
theorem kx_257_43 : x_code k_P 257 43 = some (.aload_n 0, 1) := by decide +kernel
theorem kx_257_44 : x_code k_P 257 44 = some (.getfield 180, 3) := by decide +kernel
theorem kx_257_47 : x_code k_P 257 47 = some (.iload 5, 2) := by decide +kernel
theorem kx_257_49 : x_code k_P 257 49 = some (.iconst 1, 1) := by decide +kernel
theorem kx_257_50 : x_code k_P 257 50 = some (.iadd, 1) := by decide +kernel
theorem kx_257_51 : x_code k_P 257 51 = some (.iaload, 1) := by decide +kernel
theorem kx_257_52 : x_code k_P 257 52 = some (.iastore, 1) := by decide +kernel
theorem kx_257_53 : x_code k_P 257 53 = some (.aload_n 0, 1) := by decide +kernel
theorem kx_257_54 : x_code k_P 257 54 = some (.getfield 183, 3) := by decide +kernel
theorem kx_257_57 : x_code k_P 257 57 = some (.iload 5, 2) := by decide +kernel
theorem kx_257_59 : x_code k_P 257 59 = some (.aload_n 0, 1) := by decide +kernel
theorem kx_257_60 : x_code k_P 257 60 = some (.getfield 183, 3) := by decide +kernel
theorem kx_257_63 : x_code k_P 257 63 = some (.iload 5, 2) := by decide +kernel
theorem kx_257_65 : x_code k_P 257 65 = some (.iconst 1, 1) := by decide +kernel
theorem kx_257_66 : x_code k_P 257 66 = some (.iadd, 1) := by decide +kernel
theorem kx_257_67 : x_code k_P 257 67 = some (.iaload, 1) := by decide +kernel
theorem kx_257_68 : x_code k_P 257 68 = some (.iastore, 1) := by decide +kernel
theorem kx_257_69 : x_code k_P 257 69 = some (.aload_n 0, 1) := by decide +kernel
theorem kx_257_70 : x_code k_P 257 70 = some (.getfield 186, 3) := by decide +kernel
theorem kx_257_73 : x_code k_P 257 73 = some (.iload 5, 2) := by decide +kernel
theorem kx_257_75 : x_code k_P 257 75 = some (.aload_n 0, 1) := by decide +kernel
theorem kx_257_76 : x_code k_P 257 76 = some (.getfield 186, 3) := by decide +kernel
theorem kx_257_79 : x_code k_P 257 79 = some (.iload 5, 2) := by decide +kernel
theorem kx_257_81 : x_code k_P 257 81 = some (.iconst 1, 1) := by decide +kernel
theorem kx_257_82 : x_code k_P 257 82 = some (.iadd, 1) := by decide +kernel
theorem kx_257_83 : x_code k_P 257 83 = some (.iaload, 1) := by decide +kernel
theorem kx_257_84 : x_code k_P 257 84 = some (.iastore, 1) := by decide +kernel
theorem kx_257_85 : x_code k_P 257 85 = some (.iinc 5 1, 3) := by decide +kernel
theorem kx_257_88 : x_code k_P 257 88 = some (.goto (-74), 3) := by decide +kernel
def fS_257_l14 : List (Nat × Nat) := [(100, 99999), (101, 99999), (98, 99999), (99, 99999)]
def fS_257_m : List (Nat × Nat) := [(100, 99999), (101, 99999), (97, 99999), (98, 99999), (99, 99999)]
theorem m_257 {xs : Nat → Int} {Ln d : Nat} {T : List cK} {M : cM} (hT : TT T) (hI : Rng M) {whose who r minutes : Int} (p0 : 0 ≤ whose ∧ whose ≤ 7) (p1 : 0 ≤ who ∧ who ≤ 7) (p2 : 0 ≤ r ∧ r ≤ 7) : cC k_P xs Ln (d + 0) 257 [rf 63, (0, whose), (0, who), (0, r), (0, minutes)] (T, M) (qV T M fS_257_m (fun M1 => True)) := by
  show cP k_P xs Ln (d + 0) 257 0 [(0, rf 63), (1, (0, whose)), (2, (0, who)), (3, (0, r)), (4, (0, minutes))] [] (T, M) _
  have hFm : Fr fS_257_m M M := Fr.refl
  refine s_aload_n kx_257_0 rfl ?_
  refine r_getR (k := 63) (f := 53) (k2 := 97) kx_257_1 kp_257_174 (tk_63 hT) kf_12_53 (by decide) (rq_63_53 hI) ?_
  refine s_iconst (v := 0) kx_257_4 (by decide) ?_
  refine r_ald (k := 97) kx_257_5 (tk_97 hT) ⟨by decide, by decide⟩ (rg_97 hI) (fun v1 v1e v1a v1b => ?_)
  refine s_bipush (v := 40) kx_257_6 (by decide) ?_
  refine s_icmp_ne (t := 101) kx_257_8 (by decide) (fun hc2 => ?_) (fun hc2 => ?_)
  · refine s_aload_n kx_257_101 rfl ?_
    refine r_getR (k := 63) (f := 53) (k2 := 97) kx_257_102 kp_257_174 (tk_63 hT) kf_12_53 (by decide) (rq_63_53 hI) ?_
    refine s_iconst (v := 0) kx_257_105 (by decide) ?_
    refine r_aldK (k := 97) kx_257_106 (tk_97 hT) ⟨by decide, by decide⟩ v1e ?_
    refine s_istore kx_257_107 km_257_5 rfl ?_
    refine s_aload_n kx_257_109 rfl ?_
    refine r_getR (k := 63) (f := 54) (k2 := 98) kx_257_110 kp_257_177 (tk_63 hT) kf_12_54 (by decide) (rq_63_54 hI) ?_
    refine s_iload kx_257_113 rfl ?_
    refine s_iload_n kx_257_115 rfl ?_
    refine r_ast (k := 98) kx_257_116 (tk_98 hT) ⟨by omega, by omega⟩ hI ru_98 (fun M3 hI3 u3 => ?_)
    have hFm3 := hFm.up u3 rfl
    refine s_aload_n kx_257_117 rfl ?_
    refine r_getR (k := 63) (f := 55) (k2 := 99) kx_257_118 kp_257_180 (tk_63 hT) kf_12_55 (by decide) (rq_63_55 hI3) ?_
    refine s_iload kx_257_121 rfl ?_
    refine s_iload_n kx_257_123 rfl ?_
    refine r_ast (k := 99) kx_257_124 (tk_99 hT) ⟨by omega, by omega⟩ hI3 ru_99 (fun M4 hI4 u4 => ?_)
    have hFm4 := hFm3.up u4 rfl
    refine s_aload_n kx_257_125 rfl ?_
    refine r_getR (k := 63) (f := 56) (k2 := 100) kx_257_126 kp_257_183 (tk_63 hT) kf_12_56 (by decide) (rq_63_56 hI4) ?_
    refine s_iload kx_257_129 rfl ?_
    refine s_iload_n kx_257_131 rfl ?_
    refine r_ast (k := 100) kx_257_132 (tk_100 hT) ⟨by omega, by omega⟩ hI4 ru_100 (fun M5 hI5 u5 => ?_)
    have hFm5 := hFm4.up u5 rfl
    refine s_aload_n kx_257_133 rfl ?_
    refine r_getR (k := 63) (f := 57) (k2 := 101) kx_257_134 kp_257_186 (tk_63 hT) kf_12_57 (by decide) (rq_63_57 hI5) ?_
    refine s_iload kx_257_137 rfl ?_
    refine s_iload kx_257_139 rfl ?_
    refine r_ast (k := 101) kx_257_141 (tk_101 hT) ⟨by omega, by omega⟩ hI5 ru_101 (fun M6 hI6 u6 => ?_)
    have hFm6 := hFm5.up u6 rfl
    refine s_aload_n kx_257_142 rfl ?_
    refine r_getR (k := 63) (f := 53) (k2 := 97) kx_257_143 kp_257_174 (tk_63 hT) kf_12_53 (by decide) (rq_63_53 hI6) ?_
    refine s_iconst (v := 0) kx_257_146 (by decide) ?_
    refine s_dup2 kx_257_147 rfl rfl ?_
    refine r_aldK (k := 97) kx_257_148 (tk_97 hT) ⟨by decide, by decide⟩ ((u6.2 97 _ (by omega)).trans ((u5.2 97 _ (by omega)).trans ((u4.2 97 _ (by omega)).trans ((u3.2 97 _ (by omega)).trans v1e)))) ?_
    refine s_iconst (v := 1) kx_257_149 (by decide) ?_
    refine r_add kx_257_150 ⟨by omega, by omega⟩ ?_
    refine r_ast (k := 97) kx_257_151 (tk_97 hT) ⟨by decide, by decide⟩ hI6 (ru_97 (by omega) (by omega)) (fun M7 hI7 u7 => ?_)
    have hFm7 := hFm6.up u7 rfl
    exact s_vret kx_257_152 kq_257 ⟨_, rfl, rfl, hI7, hFm7, trivial⟩
  · refine s_iconst (v := 0) kx_257_11 (by decide) ?_
    refine s_istore kx_257_12 km_257_5 rfl ?_
    have key10 : ∀ n11 : Nat, ∀ (x5_8 : Int), ∀ M9 : cM, Rng M9 → Fr fS_257_m M M9 → Fr fS_257_l14 M M9 → (0 ≤ x5_8) → (2147483647 - x5_8).toNat < n11 → cP k_P xs Ln (d + 0) 257 14 [(0, rf 63), (1, (0, whose)), (2, (0, who)), (3, (0, r)), (4, (0, minutes)), (5, (0, x5_8))] [] (T, M9) (qV T M fS_257_m (fun M1 => True)) := by
      intro n11
      induction n11 with
      | zero => intro x5_8 M9 hI9 hFm9 fl9 i12 hm13; exact absurd hm13 (Nat.not_lt_zero _)
      | succ n11 ih14 =>
        intro x5_8 M9 hI9 hFm9 fl9 i12 hm13
        refine s_iload kx_257_14 rfl ?_
        refine s_bipush (v := 39) kx_257_16 (by decide) ?_
        refine s_icmp_ge (t := 91) kx_257_18 (by decide) (fun hc15 => ?_) (fun hc15 => ?_)
        · refine s_aload_n kx_257_91 rfl ?_
          refine r_getR (k := 63) (f := 53) (k2 := 97) kx_257_92 kp_257_174 (tk_63 hT) kf_12_53 (by decide) (rq_63_53 hI9) ?_
          refine s_iconst (v := 0) kx_257_95 (by decide) ?_
          refine s_dup2 kx_257_96 rfl rfl ?_
          refine r_aldK (k := 97) kx_257_97 (tk_97 hT) ⟨by decide, by decide⟩ ((fl9 97 _ rfl).trans v1e) ?_
          refine s_iconst (v := 1) kx_257_98 (by decide) ?_
          refine r_sub kx_257_99 ⟨by omega, by omega⟩ ?_
          refine r_ast (k := 97) kx_257_100 (tk_97 hT) ⟨by decide, by decide⟩ hI9 (ru_97 (by omega) (by omega)) (fun M16 hI16 u16 => ?_)
          have hFm16 := hFm9.up u16 rfl
          refine s_aload_n kx_257_101 rfl ?_
          refine r_getR (k := 63) (f := 53) (k2 := 97) kx_257_102 kp_257_174 (tk_63 hT) kf_12_53 (by decide) (rq_63_53 hI16) ?_
          refine s_iconst (v := 0) kx_257_105 (by decide) ?_
          refine r_aldK (k := 97) kx_257_106 (tk_97 hT) ⟨by decide, by decide⟩ u16.1 ?_
          refine s_istore kx_257_107 km_257_5 rfl ?_
          refine s_aload_n kx_257_109 rfl ?_
          refine r_getR (k := 63) (f := 54) (k2 := 98) kx_257_110 kp_257_177 (tk_63 hT) kf_12_54 (by decide) (rq_63_54 hI16) ?_
          refine s_iload kx_257_113 rfl ?_
          refine s_iload_n kx_257_115 rfl ?_
          refine r_ast (k := 98) kx_257_116 (tk_98 hT) ⟨by omega, by omega⟩ hI16 ru_98 (fun M17 hI17 u17 => ?_)
          have hFm17 := hFm16.up u17 rfl
          refine s_aload_n kx_257_117 rfl ?_
          refine r_getR (k := 63) (f := 55) (k2 := 99) kx_257_118 kp_257_180 (tk_63 hT) kf_12_55 (by decide) (rq_63_55 hI17) ?_
          refine s_iload kx_257_121 rfl ?_
          refine s_iload_n kx_257_123 rfl ?_
          refine r_ast (k := 99) kx_257_124 (tk_99 hT) ⟨by omega, by omega⟩ hI17 ru_99 (fun M18 hI18 u18 => ?_)
          have hFm18 := hFm17.up u18 rfl
          refine s_aload_n kx_257_125 rfl ?_
          refine r_getR (k := 63) (f := 56) (k2 := 100) kx_257_126 kp_257_183 (tk_63 hT) kf_12_56 (by decide) (rq_63_56 hI18) ?_
          refine s_iload kx_257_129 rfl ?_
          refine s_iload_n kx_257_131 rfl ?_
          refine r_ast (k := 100) kx_257_132 (tk_100 hT) ⟨by omega, by omega⟩ hI18 ru_100 (fun M19 hI19 u19 => ?_)
          have hFm19 := hFm18.up u19 rfl
          refine s_aload_n kx_257_133 rfl ?_
          refine r_getR (k := 63) (f := 57) (k2 := 101) kx_257_134 kp_257_186 (tk_63 hT) kf_12_57 (by decide) (rq_63_57 hI19) ?_
          refine s_iload kx_257_137 rfl ?_
          refine s_iload kx_257_139 rfl ?_
          refine r_ast (k := 101) kx_257_141 (tk_101 hT) ⟨by omega, by omega⟩ hI19 ru_101 (fun M20 hI20 u20 => ?_)
          have hFm20 := hFm19.up u20 rfl
          refine s_aload_n kx_257_142 rfl ?_
          refine r_getR (k := 63) (f := 53) (k2 := 97) kx_257_143 kp_257_174 (tk_63 hT) kf_12_53 (by decide) (rq_63_53 hI20) ?_
          refine s_iconst (v := 0) kx_257_146 (by decide) ?_
          refine s_dup2 kx_257_147 rfl rfl ?_
          refine r_aldK (k := 97) kx_257_148 (tk_97 hT) ⟨by decide, by decide⟩ ((u20.2 97 _ (by omega)).trans ((u19.2 97 _ (by omega)).trans ((u18.2 97 _ (by omega)).trans ((u17.2 97 _ (by omega)).trans u16.1)))) ?_
          refine s_iconst (v := 1) kx_257_149 (by decide) ?_
          refine r_add kx_257_150 ⟨by omega, by omega⟩ ?_
          refine r_ast (k := 97) kx_257_151 (tk_97 hT) ⟨by decide, by decide⟩ hI20 (ru_97 (by omega) (by omega)) (fun M21 hI21 u21 => ?_)
          have hFm21 := hFm20.up u21 rfl
          exact s_vret kx_257_152 kq_257 ⟨_, rfl, rfl, hI21, hFm21, trivial⟩
        · refine s_aload_n kx_257_21 rfl ?_
          refine r_getR (k := 63) (f := 54) (k2 := 98) kx_257_22 kp_257_177 (tk_63 hT) kf_12_54 (by decide) (rq_63_54 hI9) ?_
          refine s_iload kx_257_25 rfl ?_
          refine s_aload_n kx_257_27 rfl ?_
          refine r_getR (k := 63) (f := 54) (k2 := 98) kx_257_28 kp_257_177 (tk_63 hT) kf_12_54 (by decide) (rq_63_54 hI9) ?_
          refine s_iload kx_257_31 rfl ?_
          refine s_iconst (v := 1) kx_257_33 (by decide) ?_
          refine r_add kx_257_34 ⟨by omega, by omega⟩ ?_
          refine r_aldU (k := 98) kx_257_35 (tk_98 hT) ⟨by omega, by omega⟩ (fun v22 v22e => ?_)
          refine r_ast (k := 98) kx_257_36 (tk_98 hT) ⟨by omega, by omega⟩ hI9 ru_98 (fun M23 hI23 u23 => ?_)
          have hFm23 := hFm9.up u23 rfl
          have hFl1423 := fl9.up u23 rfl
          refine s_aload_n kx_257_37 rfl ?_
          refine r_getR (k := 63) (f := 55) (k2 := 99) kx_257_38 kp_257_180 (tk_63 hT) kf_12_55 (by decide) (rq_63_55 hI23) ?_
          refine s_iload kx_257_41 rfl ?_
          refine s_aload_n kx_257_43 rfl ?_
          refine r_getR (k := 63) (f := 55) (k2 := 99) kx_257_44 kp_257_180 (tk_63 hT) kf_12_55 (by decide) (rq_63_55 hI23) ?_
          refine s_iload kx_257_47 rfl ?_
          refine s_iconst (v := 1) kx_257_49 (by decide) ?_
          refine r_add kx_257_50 ⟨by omega, by omega⟩ ?_
          refine r_aldU (k := 99) kx_257_51 (tk_99 hT) ⟨by omega, by omega⟩ (fun v24 v24e => ?_)
          refine r_ast (k := 99) kx_257_52 (tk_99 hT) ⟨by omega, by omega⟩ hI23 ru_99 (fun M25 hI25 u25 => ?_)
          have hFm25 := hFm23.up u25 rfl
          have hFl1425 := hFl1423.up u25 rfl
          refine s_aload_n kx_257_53 rfl ?_
          refine r_getR (k := 63) (f := 56) (k2 := 100) kx_257_54 kp_257_183 (tk_63 hT) kf_12_56 (by decide) (rq_63_56 hI25) ?_
          refine s_iload kx_257_57 rfl ?_
          refine s_aload_n kx_257_59 rfl ?_
          refine r_getR (k := 63) (f := 56) (k2 := 100) kx_257_60 kp_257_183 (tk_63 hT) kf_12_56 (by decide) (rq_63_56 hI25) ?_
          refine s_iload kx_257_63 rfl ?_
          refine s_iconst (v := 1) kx_257_65 (by decide) ?_
          refine r_add kx_257_66 ⟨by omega, by omega⟩ ?_
          refine r_aldU (k := 100) kx_257_67 (tk_100 hT) ⟨by omega, by omega⟩ (fun v26 v26e => ?_)
          refine r_ast (k := 100) kx_257_68 (tk_100 hT) ⟨by omega, by omega⟩ hI25 ru_100 (fun M27 hI27 u27 => ?_)
          have hFm27 := hFm25.up u27 rfl
          have hFl1427 := hFl1425.up u27 rfl
          refine s_aload_n kx_257_69 rfl ?_
          refine r_getR (k := 63) (f := 57) (k2 := 101) kx_257_70 kp_257_186 (tk_63 hT) kf_12_57 (by decide) (rq_63_57 hI27) ?_
          refine s_iload kx_257_73 rfl ?_
          refine s_aload_n kx_257_75 rfl ?_
          refine r_getR (k := 63) (f := 57) (k2 := 101) kx_257_76 kp_257_186 (tk_63 hT) kf_12_57 (by decide) (rq_63_57 hI27) ?_
          refine s_iload kx_257_79 rfl ?_
          refine s_iconst (v := 1) kx_257_81 (by decide) ?_
          refine r_add kx_257_82 ⟨by omega, by omega⟩ ?_
          refine r_aldU (k := 101) kx_257_83 (tk_101 hT) ⟨by omega, by omega⟩ (fun v28 v28e => ?_)
          refine r_ast (k := 101) kx_257_84 (tk_101 hT) ⟨by omega, by omega⟩ hI27 ru_101 (fun M29 hI29 u29 => ?_)
          have hFm29 := hFm27.up u29 rfl
          have hFl1429 := hFl1427.up u29 rfl
          refine r_iinc kx_257_85 rfl km_257_5 (by decide) ⟨by omega, by omega⟩ rfl ?_
          refine s_goto (t := 14) kx_257_88 (by decide) ?_
          exact cP.wk (lS1 rfl (lS1 rfl (lS1 rfl (lS1 rfl (lS1 rfl (lS1 rfl lS0)))))) (ih14 (x5_8 + 1) M29 hI29 hFm29 hFl1429 (by omega) (by omega))
    exact cP.wk (lS1 rfl (lS1 rfl (lS1 rfl (lS1 rfl (lS1 rfl (lS1 rfl lS0)))))) (key10 _ 0 M hI hFm Fr.refl (by omega) (Nat.lt_succ_self _))
theorem kx_258_0 : x_code k_P 258 0 = some (.aload_n 0, 1) := by decide +kernel
theorem kx_258_1 : x_code k_P 258 1 = some (.getfield 168, 3) := by decide +kernel
theorem kp_258_168 : x_pool k_P 258 168 = (1, 12, 51) := by decide +kernel
theorem kx_258_4 : x_code k_P 258 4 = some (.iload_n 1, 1) := by decide +kernel
theorem kx_258_5 : x_code k_P 258 5 = some (.aload_n 0, 1) := by decide +kernel
theorem kx_258_6 : x_code k_P 258 6 = some (.getfield 168, 3) := by decide +kernel
theorem kx_258_9 : x_code k_P 258 9 = some (.iload_n 1, 1) := by decide +kernel
theorem kx_258_10 : x_code k_P 258 10 = some (.iaload, 1) := by decide +kernel
theorem kx_258_11 : x_code k_P 258 11 = some (.ldc_w 541, 3) := by decide +kernel
theorem kp_258_541 : x_pool k_P 258 541 = (7, 0, 99999) := by decide +kernel
theorem kx_258_14 : x_code k_P 258 14 = some (.iload_n 2, 1) := by decide +kernel
theorem kx_258_15 : x_code k_P 258 15 = some (.isub, 1) := by decide +kernel
theorem kx_258_16 : x_code k_P 258 16 = some (.if_icmp .le 9, 3) := by decide +kernel
theorem kx_258_25 : x_code k_P 258 25 = some (.aload_n 0, 1) := by decide +kernel
theorem kx_258_26 : x_code k_P 258 26 = some (.getfield 168, 3) := by decide +kernel
theorem kx_258_29 : x_code k_P 258 29 = some (.iload_n 1, 1) := by decide +kernel
theorem kx_258_30 : x_code k_P 258 30 = some (.iaload, 1) := by decide +kernel
theorem kx_258_31 : x_code k_P 258 31 = some (.iload_n 2, 1) := by decide +kernel
theorem kx_258_32 : x_code k_P 258 32 = some (.iadd, 1) := by decide +kernel
theorem kx_258_33 : x_code k_P 258 33 = some (.iastore, 1) := by decide +kernel
theorem kx_258_34 : x_code k_P 258 34 = some (.return_, 1) := by decide +kernel
theorem kq_258 : x_retk k_P 258 = 0 := by decide +kernel
theorem kx_258_19 : x_code k_P 258 19 = some (.ldc_w 541, 3) := by decide +kernel
theorem kx_258_22 : x_code k_P 258 22 = some (.goto 11, 3) := by decide +kernel
def fS_258_m : List (Nat × Nat) := [(95, 99999)]
theorem m_258 {xs : Nat → Int} {Ln d : Nat} {T : List cK} {M : cM} (hT : TT T) (hI : Rng M) {p n : Int} (p0 : 0 ≤ p ∧ p ≤ 7) : cC k_P xs Ln (d + 0) 258 [rf 63, (0, p), (0, n)] (T, M) (qV T M fS_258_m (fun M1 => True)) := by
  show cP k_P xs Ln (d + 0) 258 0 [(0, rf 63), (1, (0, p)), (2, (0, n))] [] (T, M) _
  have hFm : Fr fS_258_m M M := Fr.refl
  refine s_aload_n kx_258_0 rfl ?_
  refine r_getR (k := 63) (f := 51) (k2 := 95) kx_258_1 kp_258_168 (tk_63 hT) kf_12_51 (by decide) (rq_63_51 hI) ?_
  refine s_iload_n kx_258_4 rfl ?_
  refine s_aload_n kx_258_5 rfl ?_
  refine r_getR (k := 63) (f := 51) (k2 := 95) kx_258_6 kp_258_168 (tk_63 hT) kf_12_51 (by decide) (rq_63_51 hI) ?_
  refine s_iload_n kx_258_9 rfl ?_
  refine r_aldU (k := 95) kx_258_10 (tk_95 hT) ⟨by omega, by omega⟩ (fun v1 v1e => ?_)
  refine s_ldc_w kx_258_11 kp_258_541 ?_
  refine s_iload_n kx_258_14 rfl ?_
  refine r_isubR kx_258_15 (fun v2 v2a v2b => ?_)
  refine s_icmp_le (t := 25) kx_258_16 (by decide) (fun hc3 => ?_) (fun hc3 => ?_)
  · refine s_aload_n kx_258_25 rfl ?_
    refine r_getR (k := 63) (f := 51) (k2 := 95) kx_258_26 kp_258_168 (tk_63 hT) kf_12_51 (by decide) (rq_63_51 hI) ?_
    refine s_iload_n kx_258_29 rfl ?_
    refine r_aldK (k := 95) kx_258_30 (tk_95 hT) ⟨by omega, by omega⟩ v1e ?_
    refine s_iload_n kx_258_31 rfl ?_
    refine r_iaddR kx_258_32 (fun v4 v4a v4b => ?_)
    refine r_ast (k := 95) kx_258_33 (tk_95 hT) ⟨by omega, by omega⟩ hI ru_95 (fun M5 hI5 u5 => ?_)
    have hFm5 := hFm.up u5 rfl
    exact s_vret kx_258_34 kq_258 ⟨_, rfl, rfl, hI5, hFm5, trivial⟩
  · refine s_ldc_w kx_258_19 kp_258_541 ?_
    refine s_goto (t := 33) kx_258_22 (by decide) ?_
    refine r_ast (k := 95) kx_258_33 (tk_95 hT) ⟨by omega, by omega⟩ hI ru_95 (fun M6 hI6 u6 => ?_)
    have hFm6 := hFm.up u6 rfl
    exact s_vret kx_258_34 kq_258 ⟨_, rfl, rfl, hI6, hFm6, trivial⟩
theorem kx_256_0 : x_code k_P 256 0 = some (.aload_n 0, 1) := by decide +kernel
theorem kx_256_1 : x_code k_P 256 1 = some (.ldc2_w 533, 3) := by decide +kernel
theorem kp_256_533 : x_pool k_P 256 533 = (8, 0, 1103515245) := by decide +kernel
theorem kx_256_4 : x_code k_P 256 4 = some (.aload_n 0, 1) := by decide +kernel
theorem kx_256_5 : x_code k_P 256 5 = some (.getfield 195, 3) := by decide +kernel
theorem kp_256_195 : x_pool k_P 256 195 = (1, 12, 60) := by decide +kernel
theorem kx_256_8 : x_code k_P 256 8 = some (.lmul, 1) := by decide +kernel
theorem kx_256_9 : x_code k_P 256 9 = some (.ldc2_w 535, 3) := by decide +kernel
theorem kp_256_535 : x_pool k_P 256 535 = (8, 0, 12345) := by decide +kernel
theorem kx_256_12 : x_code k_P 256 12 = some (.ladd, 1) := by decide +kernel
theorem kx_256_13 : x_code k_P 256 13 = some (.ldc2_w 537, 3) := by decide +kernel
theorem kp_256_537 : x_pool k_P 256 537 = (8, 0, 2147483648) := by decide +kernel
theorem kx_256_16 : x_code k_P 256 16 = some (.lrem, 1) := by decide +kernel
theorem kx_256_17 : x_code k_P 256 17 = some (.putfield 195, 3) := by decide +kernel
theorem kx_256_20 : x_code k_P 256 20 = some (.aload_n 0, 1) := by decide +kernel
theorem kx_256_21 : x_code k_P 256 21 = some (.getfield 195, 3) := by decide +kernel
theorem kx_256_24 : x_code k_P 256 24 = some (.ldc2_w 539, 3) := by decide +kernel
theorem kp_256_539 : x_pool k_P 256 539 = (8, 0, 64) := by decide +kernel
theorem kx_256_27 : x_code k_P 256 27 = some (.ldiv, 1) := by decide +kernel
theorem kx_256_28 : x_code k_P 256 28 = some (.iload_n 1, 1) := by decide +kernel
theorem kx_256_29 : x_code k_P 256 29 = some (.i2l, 1) := by decide +kernel
theorem kx_256_30 : x_code k_P 256 30 = some (.lrem, 1) := by decide +kernel
theorem kx_256_31 : x_code k_P 256 31 = some (.l2i, 1) := by decide +kernel
theorem kx_256_32 : x_code k_P 256 32 = some (.ireturn, 1) := by decide +kernel
theorem kq_256 : x_retk k_P 256 = 1 := by decide +kernel
def fS_256_m : List (Nat × Nat) := [(63, 60)]
theorem m_256 {xs : Nat → Int} {Ln d : Nat} {T : List cK} {M : cM} (hT : TT T) (hI : Rng M) {of_ : Int} (p0 : 1 ≤ of_ ∧ of_ ≤ 2147483647) : cC k_P xs Ln (d + 0) 256 [rf 63, (0, of_)] (T, M) (qW T M fS_256_m 0 (fun v M1 => 0 ≤ v ∧ v < of_)) := by
  show cP k_P xs Ln (d + 0) 256 0 [(0, rf 63), (1, (0, of_))] [] (T, M) _
  have hFm : Fr fS_256_m M M := Fr.refl
  refine s_aload_n kx_256_0 rfl ?_
  refine s_ldc2_w kx_256_1 kp_256_533 ?_
  refine s_aload_n kx_256_4 rfl ?_
  refine r_getI (k := 63) (f := 60) kx_256_5 kp_256_195 (tk_63 hT) kf_12_60 (fun _ => rfl) (rg_63_60 hI) (fun v1 v1e v1a v1b => ?_)
  refine r_lmulE kx_256_8 ⟨by omega, by omega⟩ ?_
  refine s_ldc2_w kx_256_9 kp_256_535 ?_
  refine r_laddE kx_256_12 ⟨by omega, by omega⟩ ?_
  refine s_ldc2_w kx_256_13 kp_256_537 ?_
  refine r_lremE kx_256_16 (by omega) (by omega) (by omega) (by omega) ?_
  refine r_put (k := 63) (f := 60) kx_256_17 kp_256_195 (tk_63 hT) kf_12_60 rfl (by decide) (by decide) hI (ru_63_60 (by omega) (by omega)) (fun M5 hI5 u5 => ?_)
  have hFm5 := hFm.up u5 rfl
  refine s_aload_n kx_256_20 rfl ?_
  refine r_getK (k := 63) (f := 60) kx_256_21 kp_256_195 (tk_63 hT) kf_12_60 (fun _ => rfl) u5.1 ?_
  refine s_ldc2_w kx_256_24 kp_256_539 ?_
  refine r_ldivE kx_256_27 (by omega) (by omega) (by omega) (by omega) ?_
  refine s_iload_n kx_256_28 rfl ?_
  refine s_i2l kx_256_29 ?_
  refine r_lremP kx_256_30 (by omega) (by omega) (by omega) (by omega) (fun v7 v7a v7b => ?_)
  refine r_l2iE kx_256_31 (by omega) (by omega) ?_
  exact s_iret kx_256_32 (Or.inl kq_256) ⟨_, _, rfl, rfl, hI5, hFm5, (by omega)⟩
theorem kx_259_0 : x_code k_P 259 0 = some (.aload_n 0, 1) := by decide +kernel
theorem kx_259_1 : x_code k_P 259 1 = some (.iload_n 1, 1) := by decide +kernel
theorem kx_259_2 : x_code k_P 259 2 = some (.iload_n 2, 1) := by decide +kernel
theorem kx_259_3 : x_code k_P 259 3 = some (.iload_n 3, 1) := by decide +kernel
theorem kx_259_4 : x_code k_P 259 4 = some (.invokevirtual 530, 3) := by decide +kernel
theorem kp_259_530 : x_pool k_P 259 530 = (2, 254, 3) := by decide +kernel
theorem kx_259_7 : x_code k_P 259 7 = some (.istore 4, 2) := by decide +kernel
theorem km_259_4 : 4 < x_maxL k_P 259 := by decide +kernel
theorem kx_259_9 : x_code k_P 259 9 = some (.aload_n 0, 1) := by decide +kernel
theorem kx_259_10 : x_code k_P 259 10 = some (.iload_n 1, 1) := by decide +kernel
theorem kx_259_11 : x_code k_P 259 11 = some (.iload 4, 2) := by decide +kernel
theorem kx_259_13 : x_code k_P 259 13 = some (.invokevirtual 542, 3) := by decide +kernel
theorem kp_259_542 : x_pool k_P 259 542 = (2, 258, 2) := by decide +kernel
theorem ki_258 : x_mci k_P 258 = 12 := by decide +kernel
theorem kcl_258 : x_maxL k_P 258 ≤ 60 ∧ 3 ≤ x_maxL k_P 258 := by decide +kernel
theorem kx_259_16 : x_code k_P 259 16 = some (.aload_n 0, 1) := by decide +kernel
theorem kx_259_17 : x_code k_P 259 17 = some (.getfield 159, 3) := by decide +kernel
theorem kp_259_159 : x_pool k_P 259 159 = (1, 12, 48) := by decide +kernel
theorem kx_259_20 : x_code k_P 259 20 = some (.iload_n 1, 1) := by decide +kernel
theorem kx_259_21 : x_code k_P 259 21 = some (.iload_n 2, 1) := by decide +kernel
theorem kx_259_22 : x_code k_P 259 22 = some (.iastore, 1) := by decide +kernel
theorem kx_259_23 : x_code k_P 259 23 = some (.iload_n 3, 1) := by decide +kernel
theorem kx_259_24 : x_code k_P 259 24 = some (.iconst (-1), 1) := by decide +kernel
theorem kx_259_25 : x_code k_P 259 25 = some (.if_icmp .ne 4, 3) := by decide +kernel
theorem kx_259_29 : x_code k_P 259 29 = some (.aload_n 0, 1) := by decide +kernel
theorem kx_259_30 : x_code k_P 259 30 = some (.getfield 162, 3) := by decide +kernel
theorem kp_259_162 : x_pool k_P 259 162 = (1, 12, 49) := by decide +kernel
theorem kx_259_33 : x_code k_P 259 33 = some (.iload_n 3, 1) := by decide +kernel
theorem kx_259_34 : x_code k_P 259 34 = some (.iload_n 2, 1) := by decide +kernel
theorem kx_259_35 : x_code k_P 259 35 = some (.iastore, 1) := by decide +kernel
theorem kx_259_36 : x_code k_P 259 36 = some (.aload_n 0, 1) := by decide +kernel
theorem kx_259_37 : x_code k_P 259 37 = some (.iload_n 3, 1) := by decide +kernel
theorem kx_259_38 : x_code k_P 259 38 = some (.iload_n 1, 1) := by decide +kernel
theorem kx_259_39 : x_code k_P 259 39 = some (.iload_n 2, 1) := by decide +kernel
theorem kx_259_40 : x_code k_P 259 40 = some (.iload 4, 2) := by decide +kernel
theorem kx_259_42 : x_code k_P 259 42 = some (.invokevirtual 545, 3) := by decide +kernel
theorem kp_259_545 : x_pool k_P 259 545 = (2, 257, 4) := by decide +kernel
theorem ki_257 : x_mci k_P 257 = 12 := by decide +kernel
theorem kcl_257 : x_maxL k_P 257 ≤ 60 ∧ 5 ≤ x_maxL k_P 257 := by decide +kernel
theorem kx_259_45 : x_code k_P 259 45 = some (.aload_n 0, 1) := by decide +kernel
theorem kx_259_46 : x_code k_P 259 46 = some (.getfield 99, 3) := by decide +kernel
theorem kp_259_99 : x_pool k_P 259 99 = (1, 12, 29) := by decide +kernel
theorem kx_259_49 : x_code k_P 259 49 = some (.aload_n 0, 1) := by decide +kernel
theorem kx_259_50 : x_code k_P 259 50 = some (.getfield 54, 3) := by decide +kernel
theorem kp_259_54 : x_pool k_P 259 54 = (1, 12, 14) := by decide +kernel
theorem kx_259_53 : x_code k_P 259 53 = some (.iaload, 1) := by decide +kernel
theorem kx_259_54 : x_code k_P 259 54 = some (.ifCond .le 28, 3) := by decide +kernel
theorem kx_259_82 : x_code k_P 259 82 = some (.return_, 1) := by decide +kernel
theorem kq_259 : x_retk k_P 259 = 0 := by decide +kernel
theorem kx_259_57 : x_code k_P 259 57 = some (.aload_n 0, 1) := by decide +kernel
theorem kx_259_58 : x_code k_P 259 58 = some (.bipush 100, 2) := by decide +kernel
theorem kx_259_60 : x_code k_P 259 60 = some (.invokevirtual 549, 3) := by decide +kernel
theorem kp_259_549 : x_pool k_P 259 549 = (2, 256, 1) := by decide +kernel
theorem ki_256 : x_mci k_P 256 = 12 := by decide +kernel
theorem kcl_256 : x_maxL k_P 256 ≤ 60 ∧ 2 ≤ x_maxL k_P 256 := by decide +kernel
theorem kx_259_63 : x_code k_P 259 63 = some (.aload_n 0, 1) := by decide +kernel
theorem kx_259_64 : x_code k_P 259 64 = some (.getfield 99, 3) := by decide +kernel
theorem kx_259_67 : x_code k_P 259 67 = some (.aload_n 0, 1) := by decide +kernel
theorem kx_259_68 : x_code k_P 259 68 = some (.getfield 54, 3) := by decide +kernel
theorem kx_259_71 : x_code k_P 259 71 = some (.iaload, 1) := by decide +kernel
theorem kx_259_72 : x_code k_P 259 72 = some (.if_icmp .ge 10, 3) := by decide +kernel
theorem kx_259_75 : x_code k_P 259 75 = some (.aload_n 0, 1) := by decide +kernel
theorem kx_259_76 : x_code k_P 259 76 = some (.getfield 165, 3) := by decide +kernel
theorem kp_259_165 : x_pool k_P 259 165 = (1, 12, 50) := by decide +kernel
theorem kx_259_79 : x_code k_P 259 79 = some (.iload_n 3, 1) := by decide +kernel
theorem kx_259_80 : x_code k_P 259 80 = some (.iconst 1, 1) := by decide +kernel
theorem kx_259_81 : x_code k_P 259 81 = some (.iastore, 1) := by decide +kernel
theorem kx_259_28 : x_code k_P 259 28 = some (.return_, 1) := by decide +kernel
def fS_259_m : List (Nat × Nat) := [(100, 99999), (101, 99999), (102, 99999), (63, 60), (63, 62), (63, 63), (63, 64), (92, 99999), (93, 99999), (94, 99999), (95, 99999), (97, 99999), (98, 99999), (99, 99999)]
theorem m_259 {xs : Nat → Int} {Ln d : Nat} {T : List cK} {M : cM} (hT : TT T) (hI : Rng M) {p r c : Int} (hS : Sg M) (p0 : 0 ≤ p ∧ p ≤ 7) (p1 : 0 ≤ r ∧ r ≤ 7) (p2 : (-1) ≤ c ∧ c ≤ 7) : cC k_P xs Ln (d + 5) 259 [rf 63, (0, p), (0, r), (0, c)] (T, M) (qV T M fS_259_m (fun M1 => True)) := by
  show cP k_P xs Ln (d + 5) 259 0 [(0, rf 63), (1, (0, p)), (2, (0, r)), (3, (0, c))] [] (T, M) _
  have hFm : Fr fS_259_m M M := Fr.refl
  refine s_aload_n kx_259_0 rfl ?_
  refine s_iload_n kx_259_1 rfl ?_
  refine s_iload_n kx_259_2 rfl ?_
  refine s_iload_n kx_259_3 rfl ?_
  refine s_callV2 (k := 63) (s1 := 4) (s2 := 0) (as := [(0, c), (0, r), (0, p)]) (rest := []) kx_259_4 kp_259_530 (Or.inl rfl) rfl (tk_63 hT) ki_254 kcl_254 rfl rfl (by decide) (m_254 (d := d) (p := p) (r := r) (c := c) hT hI hS (by omega) (by omega) (by omega)) (kW (fun v1 M2 hI2 fr2 v1p => ?_))
  have hFm2 := hFm.call fr2 rfl
  refine s_istore kx_259_7 km_259_4 rfl ?_
  refine s_aload_n kx_259_9 rfl ?_
  refine s_iload_n kx_259_10 rfl ?_
  refine s_iload kx_259_11 rfl ?_
  refine s_callV2 (k := 63) (s1 := 3) (s2 := 0) (as := [(0, v1), (0, p)]) (rest := []) kx_259_13 kp_259_542 (Or.inl rfl) rfl (tk_63 hT) ki_258 kcl_258 rfl rfl (by decide) (m_258 (d := d + 4) (p := p) (n := v1) hT hI2 (by omega)) (kV (fun M4 hI4 fr4 v3p => ?_))
  have hFm4 := hFm2.call fr4 rfl
  refine s_aload_n kx_259_16 rfl ?_
  refine r_getR (k := 63) (f := 48) (k2 := 92) kx_259_17 kp_259_159 (tk_63 hT) kf_12_48 (by decide) (rq_63_48 hI4) ?_
  refine s_iload_n kx_259_20 rfl ?_
  refine s_iload_n kx_259_21 rfl ?_
  refine r_ast (k := 92) kx_259_22 (tk_92 hT) ⟨by omega, by omega⟩ hI4 (ru_92 (fun _ => by omega)) (fun M5 hI5 u5 => ?_)
  have hFm5 := hFm4.up u5 rfl
  refine s_iload_n kx_259_23 rfl ?_
  refine s_iconst (v := (-1)) kx_259_24 (by decide) ?_
  refine s_icmp_ne (t := 29) kx_259_25 (by decide) (fun hc6 => ?_) (fun hc6 => ?_)
  · refine s_aload_n kx_259_29 rfl ?_
    refine r_getR (k := 63) (f := 49) (k2 := 93) kx_259_30 kp_259_162 (tk_63 hT) kf_12_49 (by decide) (rq_63_49 hI5) ?_
    refine s_iload_n kx_259_33 rfl ?_
    refine s_iload_n kx_259_34 rfl ?_
    refine r_ast (k := 93) kx_259_35 (tk_93 hT) ⟨by omega, by omega⟩ hI5 (ru_93 (fun _ => by omega)) (fun M7 hI7 u7 => ?_)
    have hFm7 := hFm5.up u7 rfl
    refine s_aload_n kx_259_36 rfl ?_
    refine s_iload_n kx_259_37 rfl ?_
    refine s_iload_n kx_259_38 rfl ?_
    refine s_iload_n kx_259_39 rfl ?_
    refine s_iload kx_259_40 rfl ?_
    refine s_callV2 (k := 63) (s1 := 5) (s2 := 0) (as := [(0, v1), (0, r), (0, p), (0, c)]) (rest := []) kx_259_42 kp_259_545 (Or.inl rfl) rfl (tk_63 hT) ki_257 kcl_257 rfl rfl (by decide) (m_257 (d := d + 4) (whose := c) (who := p) (r := r) (minutes := v1) hT hI7 (by omega) (by omega) (by omega)) (kV (fun M9 hI9 fr9 v8p => ?_))
    have hFm9 := hFm7.call fr9 rfl
    refine s_aload_n kx_259_45 rfl ?_
    refine r_getR (k := 63) (f := 29) (k2 := 79) kx_259_46 kp_259_99 (tk_63 hT) kf_12_29 (by decide) (rq_63_29 hI9) ?_
    refine s_aload_n kx_259_49 rfl ?_
    refine r_getI (k := 63) (f := 14) kx_259_50 kp_259_54 (tk_63 hT) kf_12_14 (fun _ => rfl) (rg_63_14 hI9) (fun v10 v10e v10a v10b => ?_)
    have v10z : M 63 14 = v10 := (((fr9 63 14 rfl).trans ((u7.2 63 14 (by omega)).trans ((u5.2 63 14 (by omega)).trans ((fr4 63 14 rfl).trans (fr2 63 14 rfl)))))).symm.trans v10e
    refine r_aldU (k := 79) kx_259_53 (tk_79 hT) ⟨by omega, by omega⟩ (fun v11 v11e => ?_)
    refine s_if_le (t := 82) kx_259_54 (by decide) (fun hc12 => ?_) (fun hc12 => ?_)
    · exact s_vret kx_259_82 kq_259 ⟨_, rfl, rfl, hI9, hFm9, trivial⟩
    · refine s_aload_n kx_259_57 rfl ?_
      refine s_bipush (v := 100) kx_259_58 (by decide) ?_
      refine s_callV2 (k := 63) (s1 := 2) (s2 := 0) (as := [(0, 100)]) (rest := []) kx_259_60 kp_259_549 (Or.inl rfl) rfl (tk_63 hT) ki_256 kcl_256 rfl rfl (by decide) (m_256 (d := d + 4) (of_ := 100) hT hI9 (by omega)) (kW (fun v13 M14 hI14 fr14 v13p => ?_))
      have hFm14 := hFm9.call fr14 rfl
      refine s_aload_n kx_259_63 rfl ?_
      refine r_getR (k := 63) (f := 29) (k2 := 79) kx_259_64 kp_259_99 (tk_63 hT) kf_12_29 (by decide) (rq_63_29 hI14) ?_
      refine s_aload_n kx_259_67 rfl ?_
      refine r_getK (k := 63) (f := 14) kx_259_68 kp_259_54 (tk_63 hT) kf_12_14 (fun _ => rfl) ((fr14 63 14 rfl).trans v10e) ?_
      refine r_aldK (k := 79) kx_259_71 (tk_79 hT) ⟨by omega, by omega⟩ ((fr14 79 _ rfl).trans v11e) ?_
      refine s_icmp_ge (t := 82) kx_259_72 (by decide) (fun hc15 => ?_) (fun hc15 => ?_)
      · exact s_vret kx_259_82 kq_259 ⟨_, rfl, rfl, hI14, hFm14, trivial⟩
      · refine s_aload_n kx_259_75 rfl ?_
        refine r_getR (k := 63) (f := 50) (k2 := 94) kx_259_76 kp_259_165 (tk_63 hT) kf_12_50 (by decide) (rq_63_50 hI14) ?_
        refine s_iload_n kx_259_79 rfl ?_
        refine s_iconst (v := 1) kx_259_80 (by decide) ?_
        refine r_ast (k := 94) kx_259_81 (tk_94 hT) ⟨by omega, by omega⟩ hI14 ru_94 (fun M16 hI16 u16 => ?_)
        have hFm16 := hFm14.up u16 rfl
        exact s_vret kx_259_82 kq_259 ⟨_, rfl, rfl, hI16, hFm16, trivial⟩
  · exact s_vret kx_259_28 kq_259 ⟨_, rfl, rfl, hI5, hFm5, trivial⟩
theorem kx_260_0 : x_code k_P 260 0 = some (.aload_n 0, 1) := by decide +kernel
theorem kx_260_1 : x_code k_P 260 1 = some (.iload_n 1, 1) := by decide +kernel
theorem kx_260_2 : x_code k_P 260 2 = some (.iload_n 2, 1) := by decide +kernel
theorem kx_260_3 : x_code k_P 260 3 = some (.iload_n 3, 1) := by decide +kernel
theorem kx_260_4 : x_code k_P 260 4 = some (.invokevirtual 527, 3) := by decide +kernel
theorem kp_260_527 : x_pool k_P 260 527 = (2, 253, 3) := by decide +kernel
theorem kx_260_7 : x_code k_P 260 7 = some (.ifCond .ne 9, 3) := by decide +kernel
theorem kx_260_16 : x_code k_P 260 16 = some (.aload_n 0, 1) := by decide +kernel
theorem kx_260_17 : x_code k_P 260 17 = some (.invokevirtual 552, 3) := by decide +kernel
theorem kp_260_552 : x_pool k_P 260 552 = (2, 227, 0) := by decide +kernel
theorem ki_227 : x_mci k_P 227 = 12 := by decide +kernel
theorem kcl_227 : x_maxL k_P 227 ≤ 60 ∧ 1 ≤ x_maxL k_P 227 := by decide +kernel
theorem kx_260_20 : x_code k_P 260 20 = some (.aload_n 0, 1) := by decide +kernel
theorem kx_260_21 : x_code k_P 260 21 = some (.iload_n 1, 1) := by decide +kernel
theorem kx_260_22 : x_code k_P 260 22 = some (.iload_n 2, 1) := by decide +kernel
theorem kx_260_23 : x_code k_P 260 23 = some (.iload_n 3, 1) := by decide +kernel
theorem kx_260_24 : x_code k_P 260 24 = some (.invokevirtual 555, 3) := by decide +kernel
theorem kp_260_555 : x_pool k_P 260 555 = (2, 259, 3) := by decide +kernel
theorem ki_259 : x_mci k_P 259 = 12 := by decide +kernel
theorem kcl_259 : x_maxL k_P 259 ≤ 60 ∧ 4 ≤ x_maxL k_P 259 := by decide +kernel
theorem kx_260_27 : x_code k_P 260 27 = some (.aload_n 0, 1) := by decide +kernel
theorem kx_260_28 : x_code k_P 260 28 = some (.getfield 168, 3) := by decide +kernel
theorem kp_260_168 : x_pool k_P 260 168 = (1, 12, 51) := by decide +kernel
theorem kx_260_31 : x_code k_P 260 31 = some (.iload_n 1, 1) := by decide +kernel
theorem kx_260_32 : x_code k_P 260 32 = some (.iaload, 1) := by decide +kernel
theorem kx_260_33 : x_code k_P 260 33 = some (.ireturn, 1) := by decide +kernel
theorem kq_260 : x_retk k_P 260 = 1 := by decide +kernel
theorem kx_260_10 : x_code k_P 260 10 = some (.aload_n 0, 1) := by decide +kernel
theorem kx_260_11 : x_code k_P 260 11 = some (.iconst 2, 1) := by decide +kernel
theorem kx_260_12 : x_code k_P 260 12 = some (.invokevirtual 255, 3) := by decide +kernel
theorem kp_260_255 : x_pool k_P 260 255 = (2, 218, 1) := by decide +kernel
theorem kx_260_15 : x_code k_P 260 15 = some (.ireturn, 1) := by decide +kernel
def fS_260_m : List (Nat × Nat) := [(100, 99999), (101, 99999), (102, 99999), (63, 58), (63, 59), (63, 60), (63, 62), (63, 63), (63, 64), (91, 99999), (92, 99999), (93, 99999), (94, 99999), (95, 99999), (96, 99999), (97, 99999), (98, 99999), (99, 99999)]
theorem m_260 {xs : Nat → Int} {Ln d : Nat} {T : List cK} {M : cM} (hT : TT T) (hI : Rng M) {p r c : Int} (hS : Sg M) : cC k_P xs Ln (d + 6) 260 [rf 63, (0, p), (0, r), (0, c)] (T, M) (qW T M fS_260_m 0 (fun v M1 => True)) := by
  show cP k_P xs Ln (d + 6) 260 0 [(0, rf 63), (1, (0, p)), (2, (0, r)), (3, (0, c))] [] (T, M) _
  have hFm : Fr fS_260_m M M := Fr.refl
  refine s_aload_n kx_260_0 rfl ?_
  refine s_iload_n kx_260_1 rfl ?_
  refine s_iload_n kx_260_2 rfl ?_
  refine s_iload_n kx_260_3 rfl ?_
  refine s_callV2 (k := 63) (s1 := 4) (s2 := 0) (as := [(0, c), (0, r), (0, p)]) (rest := []) kx_260_4 kp_260_527 (Or.inl rfl) rfl (tk_63 hT) ki_253 kcl_253 rfl rfl (by decide) (m_253 (d := d) (p := p) (r := r) (c := c) hT hI) (kF (fun v1 v1p => ?_))
  refine s_if_ne (t := 16) kx_260_7 (by decide) (fun hc2 => ?_) (fun hc2 => ?_)
  · replace v1p := v1p.resolve_right (by omega)
    refine s_aload_n kx_260_16 rfl ?_
    refine s_callV2 (k := 63) (s1 := 1) (s2 := 0) (as := []) (rest := []) kx_260_17 kp_260_552 (Or.inl rfl) rfl (tk_63 hT) ki_227 kcl_227 rfl rfl (by decide) (m_227 (d := d + 4) hT hI) (kV (fun M4 hI4 fr4 v3p => ?_))
    have hFm4 := hFm.call fr4 rfl
    refine s_aload_n kx_260_20 rfl ?_
    refine s_iload_n kx_260_21 rfl ?_
    refine s_iload_n kx_260_22 rfl ?_
    refine s_iload_n kx_260_23 rfl ?_
    refine s_callV2 (k := 63) (s1 := 4) (s2 := 0) (as := [(0, c), (0, r), (0, p)]) (rest := []) kx_260_24 kp_260_555 (Or.inl rfl) rfl (tk_63 hT) ki_259 kcl_259 rfl rfl (by decide) (m_259 (d := d) (p := p) (r := r) (c := c) hT hI4 (hS.fr hFm4 rfl) (by omega) (by omega) (by omega)) (kV (fun M6 hI6 fr6 v5p => ?_))
    have hFm6 := hFm4.call fr6 rfl
    refine s_aload_n kx_260_27 rfl ?_
    refine r_getR (k := 63) (f := 51) (k2 := 95) kx_260_28 kp_260_168 (tk_63 hT) kf_12_51 (by decide) (rq_63_51 hI6) ?_
    refine s_iload_n kx_260_31 rfl ?_
    refine r_aldU (k := 95) kx_260_32 (tk_95 hT) ⟨by omega, by omega⟩ (fun v7 v7e => ?_)
    exact s_iret kx_260_33 (Or.inl kq_260) ⟨_, _, rfl, rfl, hI6, hFm6, trivial⟩
  · replace v1p := v1p.resolve_left (by omega)
    refine s_aload_n kx_260_10 rfl ?_
    refine s_iconst (v := 2) kx_260_11 (by decide) ?_
    refine s_callV2 (k := 63) (s1 := 2) (s2 := 0) (as := [(0, 2)]) (rest := []) kx_260_12 kp_260_255 (Or.inl rfl) rfl (tk_63 hT) ki_218 kcl_218 rfl rfl (by decide) (m_218 (d := d + 5) (kind := 2) hT hI (by omega)) (kW (fun v8 M9 hI9 fr9 v8p => ?_))
    have hFm9 := hFm.call fr9 rfl
    exact s_iret kx_260_15 (Or.inl kq_260) ⟨_, _, rfl, rfl, hI9, hFm9, trivial⟩
theorem kx_261_0 : x_code k_P 261 0 = some (.aload_n 0, 1) := by decide +kernel
theorem kx_261_1 : x_code k_P 261 1 = some (.iload_n 1, 1) := by decide +kernel
theorem kx_261_2 : x_code k_P 261 2 = some (.invokevirtual 503, 3) := by decide +kernel
theorem kp_261_503 : x_pool k_P 261 503 = (2, 244, 1) := by decide +kernel
theorem kx_261_5 : x_code k_P 261 5 = some (.ifCond .eq 7, 3) := by decide +kernel
theorem kx_261_12 : x_code k_P 261 12 = some (.aload_n 0, 1) := by decide +kernel
theorem kx_261_13 : x_code k_P 261 13 = some (.iload_n 1, 1) := by decide +kernel
theorem kx_261_14 : x_code k_P 261 14 = some (.iload_n 2, 1) := by decide +kernel
theorem kx_261_15 : x_code k_P 261 15 = some (.invokevirtual 559, 3) := by decide +kernel
theorem kp_261_559 : x_pool k_P 261 559 = (2, 236, 2) := by decide +kernel
theorem ki_236 : x_mci k_P 236 = 12 := by decide +kernel
theorem kcl_236 : x_maxL k_P 236 ≤ 60 ∧ 3 ≤ x_maxL k_P 236 := by decide +kernel
theorem kx_261_8 : x_code k_P 261 8 = some (.iconst 0, 1) := by decide +kernel
theorem kx_261_9 : x_code k_P 261 9 = some (.goto 9, 3) := by decide +kernel
theorem kx_261_18 : x_code k_P 261 18 = some (.istore_n 3, 1) := by decide +kernel
theorem km_261_3 : 3 < x_maxL k_P 261 := by decide +kernel
theorem kx_261_19 : x_code k_P 261 19 = some (.aload_n 0, 1) := by decide +kernel
theorem kx_261_20 : x_code k_P 261 20 = some (.getfield 171, 3) := by decide +kernel
theorem kp_261_171 : x_pool k_P 261 171 = (1, 12, 52) := by decide +kernel
theorem kx_261_23 : x_code k_P 261 23 = some (.iload_n 1, 1) := by decide +kernel
theorem kx_261_24 : x_code k_P 261 24 = some (.aload_n 0, 1) := by decide +kernel
theorem kx_261_25 : x_code k_P 261 25 = some (.getfield 171, 3) := by decide +kernel
theorem kx_261_28 : x_code k_P 261 28 = some (.iload_n 1, 1) := by decide +kernel
theorem kx_261_29 : x_code k_P 261 29 = some (.iaload, 1) := by decide +kernel
theorem kx_261_30 : x_code k_P 261 30 = some (.ldc_w 541, 3) := by decide +kernel
theorem kp_261_541 : x_pool k_P 261 541 = (7, 0, 99999) := by decide +kernel
theorem kx_261_33 : x_code k_P 261 33 = some (.iload_n 3, 1) := by decide +kernel
theorem kx_261_34 : x_code k_P 261 34 = some (.isub, 1) := by decide +kernel
theorem kx_261_35 : x_code k_P 261 35 = some (.if_icmp .le 9, 3) := by decide +kernel
theorem kx_261_44 : x_code k_P 261 44 = some (.aload_n 0, 1) := by decide +kernel
theorem kx_261_45 : x_code k_P 261 45 = some (.getfield 171, 3) := by decide +kernel
theorem kx_261_48 : x_code k_P 261 48 = some (.iload_n 1, 1) := by decide +kernel
theorem kx_261_49 : x_code k_P 261 49 = some (.iaload, 1) := by decide +kernel
theorem kx_261_50 : x_code k_P 261 50 = some (.iload_n 3, 1) := by decide +kernel
theorem kx_261_51 : x_code k_P 261 51 = some (.iadd, 1) := by decide +kernel
theorem kx_261_52 : x_code k_P 261 52 = some (.iastore, 1) := by decide +kernel
theorem kx_261_53 : x_code k_P 261 53 = some (.aload_n 0, 1) := by decide +kernel
theorem kx_261_54 : x_code k_P 261 54 = some (.iload_n 1, 1) := by decide +kernel
theorem kx_261_55 : x_code k_P 261 55 = some (.iload_n 2, 1) := by decide +kernel
theorem kx_261_56 : x_code k_P 261 56 = some (.invokevirtual 542, 3) := by decide +kernel
theorem kp_261_542 : x_pool k_P 261 542 = (2, 258, 2) := by decide +kernel
theorem kx_261_59 : x_code k_P 261 59 = some (.return_, 1) := by decide +kernel
theorem kq_261 : x_retk k_P 261 = 0 := by decide +kernel
theorem kx_261_38 : x_code k_P 261 38 = some (.ldc_w 541, 3) := by decide +kernel
theorem kx_261_41 : x_code k_P 261 41 = some (.goto 11, 3) := by decide +kernel
def fS_261_j5 : List (Nat × Nat) := [(102, 99999), (63, 62), (63, 63), (63, 64)]
def fS_261_m : List (Nat × Nat) := [(102, 99999), (63, 62), (63, 63), (63, 64), (95, 99999), (96, 99999)]
theorem m_261 {xs : Nat → Int} {Ln d : Nat} {T : List cK} {M : cM} (hT : TT T) (hI : Rng M) {p n : Int} (hS : Sg M) (p0 : 0 ≤ p ∧ p ≤ 7) : cC k_P xs Ln (d + 4) 261 [rf 63, (0, p), (0, n)] (T, M) (qV T M fS_261_m (fun M1 => True)) := by
  show cP k_P xs Ln (d + 4) 261 0 [(0, rf 63), (1, (0, p)), (2, (0, n))] [] (T, M) _
  have hFm : Fr fS_261_m M M := Fr.refl
  refine s_aload_n kx_261_0 rfl ?_
  refine s_iload_n kx_261_1 rfl ?_
  refine s_callV2 (k := 63) (s1 := 2) (s2 := 0) (as := [(0, p)]) (rest := []) kx_261_2 kp_261_503 (Or.inl rfl) rfl (tk_63 hT) ki_244 kcl_244 rfl rfl (by decide) (m_244 (d := d + 1) (p := p) hT hI (by omega)) (kF (fun v1 v1p => ?_))
  have jn8 : ∀ (y7 : Int), ∀ M9 : cM, Rng M9 → Fr fS_261_j5 M M9 → Fr fS_261_m M M9 → cP k_P xs Ln (d + 4) 261 18 [(0, rf 63), (1, (0, p)), (2, (0, n))] [(0, y7)] (T, M9) (qV T M fS_261_m (fun M1 => True)) := by
    intro y7 M9 hI9 fj9 hFm9
    refine s_istore_n kx_261_18 km_261_3 rfl ?_
    refine s_aload_n kx_261_19 rfl ?_
    refine r_getR (k := 63) (f := 52) (k2 := 96) kx_261_20 kp_261_171 (tk_63 hT) kf_12_52 (by decide) (rq_63_52 hI9) ?_
    refine s_iload_n kx_261_23 rfl ?_
    refine s_aload_n kx_261_24 rfl ?_
    refine r_getR (k := 63) (f := 52) (k2 := 96) kx_261_25 kp_261_171 (tk_63 hT) kf_12_52 (by decide) (rq_63_52 hI9) ?_
    refine s_iload_n kx_261_28 rfl ?_
    refine r_aldU (k := 96) kx_261_29 (tk_96 hT) ⟨by omega, by omega⟩ (fun v10 v10e => ?_)
    refine s_ldc_w kx_261_30 kp_261_541 ?_
    refine s_iload_n kx_261_33 rfl ?_
    refine r_isubR kx_261_34 (fun v11 v11a v11b => ?_)
    refine s_icmp_le (t := 44) kx_261_35 (by decide) (fun hc12 => ?_) (fun hc12 => ?_)
    · refine s_aload_n kx_261_44 rfl ?_
      refine r_getR (k := 63) (f := 52) (k2 := 96) kx_261_45 kp_261_171 (tk_63 hT) kf_12_52 (by decide) (rq_63_52 hI9) ?_
      refine s_iload_n kx_261_48 rfl ?_
      refine r_aldK (k := 96) kx_261_49 (tk_96 hT) ⟨by omega, by omega⟩ v10e ?_
      refine s_iload_n kx_261_50 rfl ?_
      refine r_iaddR kx_261_51 (fun v13 v13a v13b => ?_)
      refine r_ast (k := 96) kx_261_52 (tk_96 hT) ⟨by omega, by omega⟩ hI9 ru_96 (fun M14 hI14 u14 => ?_)
      have hFm14 := hFm9.up u14 rfl
      refine s_aload_n kx_261_53 rfl ?_
      refine s_iload_n kx_261_54 rfl ?_
      refine s_iload_n kx_261_55 rfl ?_
      refine s_callV2 (k := 63) (s1 := 3) (s2 := 0) (as := [(0, n), (0, p)]) (rest := []) kx_261_56 kp_261_542 (Or.inl rfl) rfl (tk_63 hT) ki_258 kcl_258 rfl rfl (by decide) (m_258 (d := d + 3) (p := p) (n := n) hT hI14 (by omega)) (kV (fun M16 hI16 fr16 v15p => ?_))
      have hFm16 := hFm14.call fr16 rfl
      exact s_vret kx_261_59 kq_261 ⟨_, rfl, rfl, hI16, hFm16, trivial⟩
    · refine s_ldc_w kx_261_38 kp_261_541 ?_
      refine s_goto (t := 52) kx_261_41 (by decide) ?_
      refine r_ast (k := 96) kx_261_52 (tk_96 hT) ⟨by omega, by omega⟩ hI9 ru_96 (fun M17 hI17 u17 => ?_)
      have hFm17 := hFm9.up u17 rfl
      refine s_aload_n kx_261_53 rfl ?_
      refine s_iload_n kx_261_54 rfl ?_
      refine s_iload_n kx_261_55 rfl ?_
      refine s_callV2 (k := 63) (s1 := 3) (s2 := 0) (as := [(0, n), (0, p)]) (rest := []) kx_261_56 kp_261_542 (Or.inl rfl) rfl (tk_63 hT) ki_258 kcl_258 rfl rfl (by decide) (m_258 (d := d + 3) (p := p) (n := n) hT hI17 (by omega)) (kV (fun M19 hI19 fr19 v18p => ?_))
      have hFm19 := hFm17.call fr19 rfl
      exact s_vret kx_261_59 kq_261 ⟨_, rfl, rfl, hI19, hFm19, trivial⟩
  refine s_if_eq (t := 12) kx_261_5 (by decide) (fun hc2 => ?_) (fun hc2 => ?_)
  · have hJ3 : Fr fS_261_j5 M M := Fr.refl
    refine s_aload_n kx_261_12 rfl ?_
    refine s_iload_n kx_261_13 rfl ?_
    refine s_iload_n kx_261_14 rfl ?_
    refine s_callV2 (k := 63) (s1 := 3) (s2 := 0) (as := [(0, n), (0, p)]) (rest := []) kx_261_15 kp_261_559 (Or.inl rfl) rfl (tk_63 hT) ki_236 kcl_236 rfl rfl (by decide) (m_236 (d := d) (p := p) (n := n) hT hI hS (by omega)) (kW (fun v4 M5 hI5 fr5 v4p => ?_))
    have hFm5 := hFm.call fr5 rfl
    have hFj55 := hJ3.call fr5 rfl
    exact cP.wk (lS1 rfl (lS1 rfl (lS1 rfl lS0))) (jn8 v4 M5 hI5 hFj55 hFm5)
  · have hJ6 : Fr fS_261_j5 M M := Fr.refl
    refine s_iconst (v := 0) kx_261_8 (by decide) ?_
    refine s_goto (t := 18) kx_261_9 (by decide) ?_
    exact cP.wk (lS1 rfl (lS1 rfl (lS1 rfl lS0))) (jn8 0 M hI hJ6 hFm)
theorem kx_262_0 : x_code k_P 262 0 = some (.aload_n 0, 1) := by decide +kernel
theorem kx_262_1 : x_code k_P 262 1 = some (.iload_n 1, 1) := by decide +kernel
theorem kx_262_2 : x_code k_P 262 2 = some (.invokevirtual 514, 3) := by decide +kernel
theorem kp_262_514 : x_pool k_P 262 514 = (2, 221, 1) := by decide +kernel
theorem kx_262_5 : x_code k_P 262 5 = some (.ifCond .eq 14, 3) := by decide +kernel
theorem kx_262_19 : x_code k_P 262 19 = some (.aload_n 0, 1) := by decide +kernel
theorem kx_262_20 : x_code k_P 262 20 = some (.iconst 2, 1) := by decide +kernel
theorem kx_262_21 : x_code k_P 262 21 = some (.invokevirtual 255, 3) := by decide +kernel
theorem kp_262_255 : x_pool k_P 262 255 = (2, 218, 1) := by decide +kernel
theorem kx_262_24 : x_code k_P 262 24 = some (.ireturn, 1) := by decide +kernel
theorem kq_262 : x_retk k_P 262 = 1 := by decide +kernel
theorem kx_262_8 : x_code k_P 262 8 = some (.iload_n 2, 1) := by decide +kernel
theorem kx_262_9 : x_code k_P 262 9 = some (.iconst 1, 1) := by decide +kernel
theorem kx_262_10 : x_code k_P 262 10 = some (.sipush 999, 3) := by decide +kernel
theorem kx_262_13 : x_code k_P 262 13 = some (.invokestatic 345, 3) := by decide +kernel
theorem kp_262_345 : x_pool k_P 262 345 = (6, 172, 3) := by decide +kernel
theorem kx_262_16 : x_code k_P 262 16 = some (.ifCond .ne 9, 3) := by decide +kernel
theorem kx_262_25 : x_code k_P 262 25 = some (.aload_n 0, 1) := by decide +kernel
theorem kx_262_26 : x_code k_P 262 26 = some (.invokevirtual 552, 3) := by decide +kernel
theorem kp_262_552 : x_pool k_P 262 552 = (2, 227, 0) := by decide +kernel
theorem kx_262_29 : x_code k_P 262 29 = some (.aload_n 0, 1) := by decide +kernel
theorem kx_262_30 : x_code k_P 262 30 = some (.iload_n 1, 1) := by decide +kernel
theorem kx_262_31 : x_code k_P 262 31 = some (.iload_n 2, 1) := by decide +kernel
theorem kx_262_32 : x_code k_P 262 32 = some (.invokevirtual 562, 3) := by decide +kernel
theorem kp_262_562 : x_pool k_P 262 562 = (2, 261, 2) := by decide +kernel
theorem ki_261 : x_mci k_P 261 = 12 := by decide +kernel
theorem kcl_261 : x_maxL k_P 261 ≤ 60 ∧ 3 ≤ x_maxL k_P 261 := by decide +kernel
theorem kx_262_35 : x_code k_P 262 35 = some (.aload_n 0, 1) := by decide +kernel
theorem kx_262_36 : x_code k_P 262 36 = some (.getfield 171, 3) := by decide +kernel
theorem kp_262_171 : x_pool k_P 262 171 = (1, 12, 52) := by decide +kernel
theorem kx_262_39 : x_code k_P 262 39 = some (.iload_n 1, 1) := by decide +kernel
theorem kx_262_40 : x_code k_P 262 40 = some (.iaload, 1) := by decide +kernel
theorem kx_262_41 : x_code k_P 262 41 = some (.ireturn, 1) := by decide +kernel
def fS_262_m : List (Nat × Nat) := [(100, 99999), (101, 99999), (102, 99999), (63, 58), (63, 59), (63, 62), (63, 63), (63, 64), (91, 99999), (92, 99999), (93, 99999), (94, 99999), (95, 99999), (96, 99999), (97, 99999), (98, 99999), (99, 99999)]
theorem m_262 {xs : Nat → Int} {Ln d : Nat} {T : List cK} {M : cM} (hT : TT T) (hI : Rng M) {p n : Int} (hS : Sg M) : cC k_P xs Ln (d + 5) 262 [rf 63, (0, p), (0, n)] (T, M) (qW T M fS_262_m 0 (fun v M1 => True)) := by
  show cP k_P xs Ln (d + 5) 262 0 [(0, rf 63), (1, (0, p)), (2, (0, n))] [] (T, M) _
  have hFm : Fr fS_262_m M M := Fr.refl
  refine s_aload_n kx_262_0 rfl ?_
  refine s_iload_n kx_262_1 rfl ?_
  refine s_callV2 (k := 63) (s1 := 2) (s2 := 0) (as := [(0, p)]) (rest := []) kx_262_2 kp_262_514 (Or.inl rfl) rfl (tk_63 hT) ki_221 kcl_221 rfl rfl (by decide) (m_221 (d := d + 4) (p := p) hT hI) (kF (fun v1 v1p => ?_))
  refine s_if_eq (t := 19) kx_262_5 (by decide) (fun hc2 => ?_) (fun hc2 => ?_)
  · replace v1p := v1p.resolve_left (by omega)
    refine s_aload_n kx_262_19 rfl ?_
    refine s_iconst (v := 2) kx_262_20 (by decide) ?_
    refine s_callV2 (k := 63) (s1 := 2) (s2 := 0) (as := [(0, 2)]) (rest := []) kx_262_21 kp_262_255 (Or.inl rfl) rfl (tk_63 hT) ki_218 kcl_218 rfl rfl (by decide) (m_218 (d := d + 4) (kind := 2) hT hI (by omega)) (kW (fun v3 M4 hI4 fr4 v3p => ?_))
    have hFm4 := hFm.call fr4 rfl
    exact s_iret kx_262_24 (Or.inl kq_262) ⟨_, _, rfl, rfl, hI4, hFm4, trivial⟩
  · replace v1p := v1p.resolve_right (by omega)
    refine s_iload_n kx_262_8 rfl ?_
    refine s_iconst (v := 1) kx_262_9 (by decide) ?_
    refine s_sipush (v := 999) kx_262_10 (by decide) ?_
    refine s_callS2 (s1 := 3) (s2 := 0) (as := [(0, 999), (0, 1), (0, n)]) (rest := []) kx_262_13 kp_262_345 rfl kcl_172 rfl rfl (by decide) (m_172 (d := d + 4) (v_ := n) (least := 1) (most := 999) hT hI) (kF (fun v5 v5p => ?_))
    refine s_if_ne (t := 25) kx_262_16 (by decide) (fun hc6 => ?_) (fun hc6 => ?_)
    · replace v5p := v5p.resolve_right (by omega)
      refine s_aload_n kx_262_25 rfl ?_
      refine s_callV2 (k := 63) (s1 := 1) (s2 := 0) (as := []) (rest := []) kx_262_26 kp_262_552 (Or.inl rfl) rfl (tk_63 hT) ki_227 kcl_227 rfl rfl (by decide) (m_227 (d := d + 3) hT hI) (kV (fun M8 hI8 fr8 v7p => ?_))
      have hFm8 := hFm.call fr8 rfl
      refine s_aload_n kx_262_29 rfl ?_
      refine s_iload_n kx_262_30 rfl ?_
      refine s_iload_n kx_262_31 rfl ?_
      refine s_callV2 (k := 63) (s1 := 3) (s2 := 0) (as := [(0, n), (0, p)]) (rest := []) kx_262_32 kp_262_562 (Or.inl rfl) rfl (tk_63 hT) ki_261 kcl_261 rfl rfl (by decide) (m_261 (d := d) (p := p) (n := n) hT hI8 (hS.fr hFm8 rfl) (by omega)) (kV (fun M10 hI10 fr10 v9p => ?_))
      have hFm10 := hFm8.call fr10 rfl
      refine s_aload_n kx_262_35 rfl ?_
      refine r_getR (k := 63) (f := 52) (k2 := 96) kx_262_36 kp_262_171 (tk_63 hT) kf_12_52 (by decide) (rq_63_52 hI10) ?_
      refine s_iload_n kx_262_39 rfl ?_
      refine r_aldU (k := 96) kx_262_40 (tk_96 hT) ⟨by omega, by omega⟩ (fun v11 v11e => ?_)
      exact s_iret kx_262_41 (Or.inl kq_262) ⟨_, _, rfl, rfl, hI10, hFm10, trivial⟩
    · replace v5p := v5p.resolve_left (by omega)
      refine s_aload_n kx_262_19 rfl ?_
      refine s_iconst (v := 2) kx_262_20 (by decide) ?_
      refine s_callV2 (k := 63) (s1 := 2) (s2 := 0) (as := [(0, 2)]) (rest := []) kx_262_21 kp_262_255 (Or.inl rfl) rfl (tk_63 hT) ki_218 kcl_218 rfl rfl (by decide) (m_218 (d := d + 4) (kind := 2) hT hI (by omega)) (kW (fun v12 M13 hI13 fr13 v12p => ?_))
      have hFm13 := hFm.call fr13 rfl
      exact s_iret kx_262_24 (Or.inl kq_262) ⟨_, _, rfl, rfl, hI13, hFm13, trivial⟩
theorem kx_263_0 : x_code k_P 263 0 = some (.aload_n 0, 1) := by decide +kernel
theorem kx_263_1 : x_code k_P 263 1 = some (.iload_n 1, 1) := by decide +kernel
theorem kx_263_2 : x_code k_P 263 2 = some (.invokevirtual 514, 3) := by decide +kernel
theorem kp_263_514 : x_pool k_P 263 514 = (2, 221, 1) := by decide +kernel
theorem kx_263_5 : x_code k_P 263 5 = some (.ifCond .eq 74, 3) := by decide +kernel
theorem kx_263_79 : x_code k_P 263 79 = some (.iconst 0, 1) := by decide +kernel
theorem kx_263_80 : x_code k_P 263 80 = some (.istore_n 3, 1) := by decide +kernel
theorem km_263_3 : 3 < x_maxL k_P 263 := by decide +kernel
theorem kx_263_81 : x_code k_P 263 81 = some (.iload_n 3, 1) := by decide +kernel
theorem kx_263_82 : x_code k_P 263 82 = some (.ifCond .ne 17, 3) := by decide +kernel
theorem kx_263_85 : x_code k_P 263 85 = some (.aload_n 0, 1) := by decide +kernel
theorem kx_263_86 : x_code k_P 263 86 = some (.iconst 3, 1) := by decide +kernel
theorem kx_263_87 : x_code k_P 263 87 = some (.invokevirtual 255, 3) := by decide +kernel
theorem kp_263_255 : x_pool k_P 263 255 = (2, 218, 1) := by decide +kernel
theorem kx_263_90 : x_code k_P 263 90 = some (.ifCond .lt 7, 3) := by decide +kernel
theorem kx_263_97 : x_code k_P 263 97 = some (.iconst 0, 1) := by decide +kernel
theorem kx_263_98 : x_code k_P 263 98 = some (.ireturn, 1) := by decide +kernel
theorem kq_263 : x_retk k_P 263 = 2 := by decide +kernel
theorem kx_263_8 : x_code k_P 263 8 = some (.aload_n 0, 1) := by decide +kernel
theorem kx_263_9 : x_code k_P 263 9 = some (.iload_n 2, 1) := by decide +kernel
theorem kx_263_10 : x_code k_P 263 10 = some (.invokevirtual 514, 3) := by decide +kernel
theorem kx_263_13 : x_code k_P 263 13 = some (.ifCond .eq 66, 3) := by decide +kernel
theorem kx_263_16 : x_code k_P 263 16 = some (.aload_n 0, 1) := by decide +kernel
theorem kx_263_17 : x_code k_P 263 17 = some (.getfield 102, 3) := by decide +kernel
theorem kp_263_102 : x_pool k_P 263 102 = (1, 12, 30) := by decide +kernel
theorem kx_263_20 : x_code k_P 263 20 = some (.aload_n 0, 1) := by decide +kernel
theorem kx_263_21 : x_code k_P 263 21 = some (.getfield 54, 3) := by decide +kernel
theorem kp_263_54 : x_pool k_P 263 54 = (1, 12, 14) := by decide +kernel
theorem kx_263_24 : x_code k_P 263 24 = some (.iaload, 1) := by decide +kernel
theorem kx_263_25 : x_code k_P 263 25 = some (.iconst (-1), 1) := by decide +kernel
theorem kx_263_26 : x_code k_P 263 26 = some (.if_icmp .eq 53, 3) := by decide +kernel
theorem kx_263_29 : x_code k_P 263 29 = some (.aload_n 0, 1) := by decide +kernel
theorem kx_263_30 : x_code k_P 263 30 = some (.getfield 159, 3) := by decide +kernel
theorem kp_263_159 : x_pool k_P 263 159 = (1, 12, 48) := by decide +kernel
theorem kx_263_33 : x_code k_P 263 33 = some (.iload_n 1, 1) := by decide +kernel
theorem kx_263_34 : x_code k_P 263 34 = some (.iaload, 1) := by decide +kernel
theorem kx_263_35 : x_code k_P 263 35 = some (.aload_n 0, 1) := by decide +kernel
theorem kx_263_36 : x_code k_P 263 36 = some (.getfield 102, 3) := by decide +kernel
theorem kx_263_39 : x_code k_P 263 39 = some (.aload_n 0, 1) := by decide +kernel
theorem kx_263_40 : x_code k_P 263 40 = some (.getfield 54, 3) := by decide +kernel
theorem kx_263_43 : x_code k_P 263 43 = some (.iaload, 1) := by decide +kernel
theorem kx_263_44 : x_code k_P 263 44 = some (.if_icmp .ne 35, 3) := by decide +kernel
theorem kx_263_47 : x_code k_P 263 47 = some (.aload_n 0, 1) := by decide +kernel
theorem kx_263_48 : x_code k_P 263 48 = some (.getfield 162, 3) := by decide +kernel
theorem kp_263_162 : x_pool k_P 263 162 = (1, 12, 49) := by decide +kernel
theorem kx_263_51 : x_code k_P 263 51 = some (.iload_n 2, 1) := by decide +kernel
theorem kx_263_52 : x_code k_P 263 52 = some (.iaload, 1) := by decide +kernel
theorem kx_263_53 : x_code k_P 263 53 = some (.aload_n 0, 1) := by decide +kernel
theorem kx_263_54 : x_code k_P 263 54 = some (.getfield 102, 3) := by decide +kernel
theorem kx_263_57 : x_code k_P 263 57 = some (.aload_n 0, 1) := by decide +kernel
theorem kx_263_58 : x_code k_P 263 58 = some (.getfield 54, 3) := by decide +kernel
theorem kx_263_61 : x_code k_P 263 61 = some (.iaload, 1) := by decide +kernel
theorem kx_263_62 : x_code k_P 263 62 = some (.if_icmp .ne 17, 3) := by decide +kernel
theorem kx_263_65 : x_code k_P 263 65 = some (.aload_n 0, 1) := by decide +kernel
theorem kx_263_66 : x_code k_P 263 66 = some (.getfield 165, 3) := by decide +kernel
theorem kp_263_165 : x_pool k_P 263 165 = (1, 12, 50) := by decide +kernel
theorem kx_263_69 : x_code k_P 263 69 = some (.iload_n 2, 1) := by decide +kernel
theorem kx_263_70 : x_code k_P 263 70 = some (.iaload, 1) := by decide +kernel
theorem kx_263_71 : x_code k_P 263 71 = some (.iconst 1, 1) := by decide +kernel
theorem kx_263_72 : x_code k_P 263 72 = some (.if_icmp .ne 7, 3) := by decide +kernel
theorem kx_263_75 : x_code k_P 263 75 = some (.iconst 1, 1) := by decide +kernel
theorem kx_263_76 : x_code k_P 263 76 = some (.goto 4, 3) := by decide +kernel
theorem kx_263_99 : x_code k_P 263 99 = some (.aload_n 0, 1) := by decide +kernel
theorem kx_263_100 : x_code k_P 263 100 = some (.invokevirtual 552, 3) := by decide +kernel
theorem kp_263_552 : x_pool k_P 263 552 = (2, 227, 0) := by decide +kernel
theorem kx_263_103 : x_code k_P 263 103 = some (.aload_n 0, 1) := by decide +kernel
theorem kx_263_104 : x_code k_P 263 104 = some (.getfield 165, 3) := by decide +kernel
theorem kx_263_107 : x_code k_P 263 107 = some (.iload_n 2, 1) := by decide +kernel
theorem kx_263_108 : x_code k_P 263 108 = some (.iconst 0, 1) := by decide +kernel
theorem kx_263_109 : x_code k_P 263 109 = some (.iastore, 1) := by decide +kernel
theorem kx_263_110 : x_code k_P 263 110 = some (.aload_n 0, 1) := by decide +kernel
theorem kx_263_111 : x_code k_P 263 111 = some (.iload_n 1, 1) := by decide +kernel
theorem kx_263_112 : x_code k_P 263 112 = some (.bipush 30, 2) := by decide +kernel
theorem kx_263_114 : x_code k_P 263 114 = some (.invokevirtual 542, 3) := by decide +kernel
theorem kp_263_542 : x_pool k_P 263 542 = (2, 258, 2) := by decide +kernel
theorem kx_263_117 : x_code k_P 263 117 = some (.iconst 1, 1) := by decide +kernel
theorem kx_263_118 : x_code k_P 263 118 = some (.ireturn, 1) := by decide +kernel
def fS_263_m : List (Nat × Nat) := [(100, 99999), (101, 99999), (63, 58), (63, 59), (91, 99999), (92, 99999), (93, 99999), (94, 99999), (95, 99999), (96, 99999), (97, 99999), (98, 99999), (99, 99999)]
theorem m_263 {xs : Nat → Int} {Ln d : Nat} {T : List cK} {M : cM} (hT : TT T) (hI : Rng M) {p c : Int} : cC k_P xs Ln (d + 2) 263 [rf 63, (0, p), (0, c)] (T, M) (qW T M fS_263_m 0 (fun v M1 => 0 ≤ v ∧ v ≤ 1)) := by
  show cP k_P xs Ln (d + 2) 263 0 [(0, rf 63), (1, (0, p)), (2, (0, c))] [] (T, M) _
  have hFm : Fr fS_263_m M M := Fr.refl
  refine s_aload_n kx_263_0 rfl ?_
  refine s_iload_n kx_263_1 rfl ?_
  refine s_callV2 (k := 63) (s1 := 2) (s2 := 0) (as := [(0, p)]) (rest := []) kx_263_2 kp_263_514 (Or.inl rfl) rfl (tk_63 hT) ki_221 kcl_221 rfl rfl (by decide) (m_221 (d := d + 1) (p := p) hT hI) (kF (fun v1 v1p => ?_))
  refine s_if_eq (t := 79) kx_263_5 (by decide) (fun hc2 => ?_) (fun hc2 => ?_)
  · replace v1p := v1p.resolve_left (by omega)
    refine s_iconst (v := 0) kx_263_79 (by decide) ?_
    refine s_istore_n kx_263_80 km_263_3 rfl ?_
    refine s_iload_n kx_263_81 rfl ?_
    refine s_if_ne (t := 99) kx_263_82 (by decide) (fun hc3 => absurd hc3 (by decide)) (fun hc3 => ?_)
    refine s_aload_n kx_263_85 rfl ?_
    refine s_iconst (v := 3) kx_263_86 (by decide) ?_
    refine s_callV2 (k := 63) (s1 := 2) (s2 := 0) (as := [(0, 3)]) (rest := []) kx_263_87 kp_263_255 (Or.inl rfl) rfl (tk_63 hT) ki_218 kcl_218 rfl rfl (by decide) (m_218 (d := d + 1) (kind := 3) hT hI (by omega)) (kW (fun v4 M5 hI5 fr5 v4p => ?_))
    have hFm5 := hFm.call fr5 rfl
    refine s_if_lt (t := 97) kx_263_90 (by decide) (fun hc6 => ?_) (fun hc6 => absurd hc6 (by omega))
    refine s_iconst (v := 0) kx_263_97 (by decide) ?_
    exact s_iret kx_263_98 (Or.inr ⟨kq_263, by omega⟩) ⟨_, _, rfl, rfl, hI5, hFm5, (by omega)⟩
  · replace v1p := v1p.resolve_right (by omega)
    refine s_aload_n kx_263_8 rfl ?_
    refine s_iload_n kx_263_9 rfl ?_
    refine s_callV2 (k := 63) (s1 := 2) (s2 := 0) (as := [(0, c)]) (rest := []) kx_263_10 kp_263_514 (Or.inl rfl) rfl (tk_63 hT) ki_221 kcl_221 rfl rfl (by decide) (m_221 (d := d + 1) (p := c) hT hI) (kF (fun v7 v7p => ?_))
    refine s_if_eq (t := 79) kx_263_13 (by decide) (fun hc8 => ?_) (fun hc8 => ?_)
    · replace v7p := v7p.resolve_left (by omega)
      refine s_iconst (v := 0) kx_263_79 (by decide) ?_
      refine s_istore_n kx_263_80 km_263_3 rfl ?_
      refine s_iload_n kx_263_81 rfl ?_
      refine s_if_ne (t := 99) kx_263_82 (by decide) (fun hc9 => absurd hc9 (by decide)) (fun hc9 => ?_)
      refine s_aload_n kx_263_85 rfl ?_
      refine s_iconst (v := 3) kx_263_86 (by decide) ?_
      refine s_callV2 (k := 63) (s1 := 2) (s2 := 0) (as := [(0, 3)]) (rest := []) kx_263_87 kp_263_255 (Or.inl rfl) rfl (tk_63 hT) ki_218 kcl_218 rfl rfl (by decide) (m_218 (d := d + 1) (kind := 3) hT hI (by omega)) (kW (fun v10 M11 hI11 fr11 v10p => ?_))
      have hFm11 := hFm.call fr11 rfl
      refine s_if_lt (t := 97) kx_263_90 (by decide) (fun hc12 => ?_) (fun hc12 => absurd hc12 (by omega))
      refine s_iconst (v := 0) kx_263_97 (by decide) ?_
      exact s_iret kx_263_98 (Or.inr ⟨kq_263, by omega⟩) ⟨_, _, rfl, rfl, hI11, hFm11, (by omega)⟩
    · replace v7p := v7p.resolve_right (by omega)
      refine s_aload_n kx_263_16 rfl ?_
      refine r_getR (k := 63) (f := 30) (k2 := 80) kx_263_17 kp_263_102 (tk_63 hT) kf_12_30 (by decide) (rq_63_30 hI) ?_
      refine s_aload_n kx_263_20 rfl ?_
      refine r_getI (k := 63) (f := 14) kx_263_21 kp_263_54 (tk_63 hT) kf_12_14 (fun _ => rfl) (rg_63_14 hI) (fun v13 v13e v13a v13b => ?_)
      refine r_aldU (k := 80) kx_263_24 (tk_80 hT) ⟨by omega, by omega⟩ (fun v14 v14e => ?_)
      refine s_iconst (v := (-1)) kx_263_25 (by decide) ?_
      refine s_icmp_eq (t := 79) kx_263_26 (by decide) (fun hc15 => ?_) (fun hc15 => ?_)
      · refine s_iconst (v := 0) kx_263_79 (by decide) ?_
        refine s_istore_n kx_263_80 km_263_3 rfl ?_
        refine s_iload_n kx_263_81 rfl ?_
        refine s_if_ne (t := 99) kx_263_82 (by decide) (fun hc16 => absurd hc16 (by decide)) (fun hc16 => ?_)
        refine s_aload_n kx_263_85 rfl ?_
        refine s_iconst (v := 3) kx_263_86 (by decide) ?_
        refine s_callV2 (k := 63) (s1 := 2) (s2 := 0) (as := [(0, 3)]) (rest := []) kx_263_87 kp_263_255 (Or.inl rfl) rfl (tk_63 hT) ki_218 kcl_218 rfl rfl (by decide) (m_218 (d := d + 1) (kind := 3) hT hI (by omega)) (kW (fun v17 M18 hI18 fr18 v17p => ?_))
        have hFm18 := hFm.call fr18 rfl
        refine s_if_lt (t := 97) kx_263_90 (by decide) (fun hc19 => ?_) (fun hc19 => absurd hc19 (by omega))
        refine s_iconst (v := 0) kx_263_97 (by decide) ?_
        exact s_iret kx_263_98 (Or.inr ⟨kq_263, by omega⟩) ⟨_, _, rfl, rfl, hI18, hFm18, (by omega)⟩
      · refine s_aload_n kx_263_29 rfl ?_
        refine r_getR (k := 63) (f := 48) (k2 := 92) kx_263_30 kp_263_159 (tk_63 hT) kf_12_48 (by decide) (rq_63_48 hI) ?_
        refine s_iload_n kx_263_33 rfl ?_
        refine r_ald (k := 92) kx_263_34 (tk_92 hT) ⟨by omega, by omega⟩ (rg_92 hI (by omega)) (fun v20 v20e v20a v20b => ?_)
        refine s_aload_n kx_263_35 rfl ?_
        refine r_getR (k := 63) (f := 30) (k2 := 80) kx_263_36 kp_263_102 (tk_63 hT) kf_12_30 (by decide) (rq_63_30 hI) ?_
        refine s_aload_n kx_263_39 rfl ?_
        refine r_getK (k := 63) (f := 14) kx_263_40 kp_263_54 (tk_63 hT) kf_12_14 (fun _ => rfl) v13e ?_
        refine r_aldK (k := 80) kx_263_43 (tk_80 hT) ⟨by omega, by omega⟩ v14e ?_
        refine s_icmp_ne (t := 79) kx_263_44 (by decide) (fun hc21 => ?_) (fun hc21 => ?_)
        · refine s_iconst (v := 0) kx_263_79 (by decide) ?_
          refine s_istore_n kx_263_80 km_263_3 rfl ?_
          refine s_iload_n kx_263_81 rfl ?_
          refine s_if_ne (t := 99) kx_263_82 (by decide) (fun hc22 => absurd hc22 (by decide)) (fun hc22 => ?_)
          refine s_aload_n kx_263_85 rfl ?_
          refine s_iconst (v := 3) kx_263_86 (by decide) ?_
          refine s_callV2 (k := 63) (s1 := 2) (s2 := 0) (as := [(0, 3)]) (rest := []) kx_263_87 kp_263_255 (Or.inl rfl) rfl (tk_63 hT) ki_218 kcl_218 rfl rfl (by decide) (m_218 (d := d + 1) (kind := 3) hT hI (by omega)) (kW (fun v23 M24 hI24 fr24 v23p => ?_))
          have hFm24 := hFm.call fr24 rfl
          refine s_if_lt (t := 97) kx_263_90 (by decide) (fun hc25 => ?_) (fun hc25 => absurd hc25 (by omega))
          refine s_iconst (v := 0) kx_263_97 (by decide) ?_
          exact s_iret kx_263_98 (Or.inr ⟨kq_263, by omega⟩) ⟨_, _, rfl, rfl, hI24, hFm24, (by omega)⟩
        · refine s_aload_n kx_263_47 rfl ?_
          refine r_getR (k := 63) (f := 49) (k2 := 93) kx_263_48 kp_263_162 (tk_63 hT) kf_12_49 (by decide) (rq_63_49 hI) ?_
          refine s_iload_n kx_263_51 rfl ?_
          refine r_ald (k := 93) kx_263_52 (tk_93 hT) ⟨by omega, by omega⟩ (rg_93 hI (by omega)) (fun v26 v26e v26a v26b => ?_)
          refine s_aload_n kx_263_53 rfl ?_
          refine r_getR (k := 63) (f := 30) (k2 := 80) kx_263_54 kp_263_102 (tk_63 hT) kf_12_30 (by decide) (rq_63_30 hI) ?_
          refine s_aload_n kx_263_57 rfl ?_
          refine r_getK (k := 63) (f := 14) kx_263_58 kp_263_54 (tk_63 hT) kf_12_14 (fun _ => rfl) v13e ?_
          refine r_aldK (k := 80) kx_263_61 (tk_80 hT) ⟨by omega, by omega⟩ v14e ?_
          refine s_icmp_ne (t := 79) kx_263_62 (by decide) (fun hc27 => ?_) (fun hc27 => ?_)
          · refine s_iconst (v := 0) kx_263_79 (by decide) ?_
            refine s_istore_n kx_263_80 km_263_3 rfl ?_
            refine s_iload_n kx_263_81 rfl ?_
            refine s_if_ne (t := 99) kx_263_82 (by decide) (fun hc28 => absurd hc28 (by decide)) (fun hc28 => ?_)
            refine s_aload_n kx_263_85 rfl ?_
            refine s_iconst (v := 3) kx_263_86 (by decide) ?_
            refine s_callV2 (k := 63) (s1 := 2) (s2 := 0) (as := [(0, 3)]) (rest := []) kx_263_87 kp_263_255 (Or.inl rfl) rfl (tk_63 hT) ki_218 kcl_218 rfl rfl (by decide) (m_218 (d := d + 1) (kind := 3) hT hI (by omega)) (kW (fun v29 M30 hI30 fr30 v29p => ?_))
            have hFm30 := hFm.call fr30 rfl
            refine s_if_lt (t := 97) kx_263_90 (by decide) (fun hc31 => ?_) (fun hc31 => absurd hc31 (by omega))
            refine s_iconst (v := 0) kx_263_97 (by decide) ?_
            exact s_iret kx_263_98 (Or.inr ⟨kq_263, by omega⟩) ⟨_, _, rfl, rfl, hI30, hFm30, (by omega)⟩
          · refine s_aload_n kx_263_65 rfl ?_
            refine r_getR (k := 63) (f := 50) (k2 := 94) kx_263_66 kp_263_165 (tk_63 hT) kf_12_50 (by decide) (rq_63_50 hI) ?_
            refine s_iload_n kx_263_69 rfl ?_
            refine r_aldU (k := 94) kx_263_70 (tk_94 hT) ⟨by omega, by omega⟩ (fun v32 v32e => ?_)
            refine s_iconst (v := 1) kx_263_71 (by decide) ?_
            refine s_icmp_ne (t := 79) kx_263_72 (by decide) (fun hc33 => ?_) (fun hc33 => ?_)
            · refine s_iconst (v := 0) kx_263_79 (by decide) ?_
              refine s_istore_n kx_263_80 km_263_3 rfl ?_
              refine s_iload_n kx_263_81 rfl ?_
              refine s_if_ne (t := 99) kx_263_82 (by decide) (fun hc34 => absurd hc34 (by decide)) (fun hc34 => ?_)
              refine s_aload_n kx_263_85 rfl ?_
              refine s_iconst (v := 3) kx_263_86 (by decide) ?_
              refine s_callV2 (k := 63) (s1 := 2) (s2 := 0) (as := [(0, 3)]) (rest := []) kx_263_87 kp_263_255 (Or.inl rfl) rfl (tk_63 hT) ki_218 kcl_218 rfl rfl (by decide) (m_218 (d := d + 1) (kind := 3) hT hI (by omega)) (kW (fun v35 M36 hI36 fr36 v35p => ?_))
              have hFm36 := hFm.call fr36 rfl
              refine s_if_lt (t := 97) kx_263_90 (by decide) (fun hc37 => ?_) (fun hc37 => absurd hc37 (by omega))
              refine s_iconst (v := 0) kx_263_97 (by decide) ?_
              exact s_iret kx_263_98 (Or.inr ⟨kq_263, by omega⟩) ⟨_, _, rfl, rfl, hI36, hFm36, (by omega)⟩
            · refine s_iconst (v := 1) kx_263_75 (by decide) ?_
              refine s_goto (t := 80) kx_263_76 (by decide) ?_
              refine s_istore_n kx_263_80 km_263_3 rfl ?_
              refine s_iload_n kx_263_81 rfl ?_
              refine s_if_ne (t := 99) kx_263_82 (by decide) (fun hc38 => ?_) (fun hc38 => absurd hc38 (by decide))
              refine s_aload_n kx_263_99 rfl ?_
              refine s_callV2 (k := 63) (s1 := 1) (s2 := 0) (as := []) (rest := []) kx_263_100 kp_263_552 (Or.inl rfl) rfl (tk_63 hT) ki_227 kcl_227 rfl rfl (by decide) (m_227 (d := d) hT hI) (kV (fun M40 hI40 fr40 v39p => ?_))
              have hFm40 := hFm.call fr40 rfl
              refine s_aload_n kx_263_103 rfl ?_
              refine r_getR (k := 63) (f := 50) (k2 := 94) kx_263_104 kp_263_165 (tk_63 hT) kf_12_50 (by decide) (rq_63_50 hI40) ?_
              refine s_iload_n kx_263_107 rfl ?_
              refine s_iconst (v := 0) kx_263_108 (by decide) ?_
              refine r_ast (k := 94) kx_263_109 (tk_94 hT) ⟨by omega, by omega⟩ hI40 ru_94 (fun M41 hI41 u41 => ?_)
              have hFm41 := hFm40.up u41 rfl
              refine s_aload_n kx_263_110 rfl ?_
              refine s_iload_n kx_263_111 rfl ?_
              refine s_bipush (v := 30) kx_263_112 (by decide) ?_
              refine s_callV2 (k := 63) (s1 := 3) (s2 := 0) (as := [(0, 30), (0, p)]) (rest := []) kx_263_114 kp_263_542 (Or.inl rfl) rfl (tk_63 hT) ki_258 kcl_258 rfl rfl (by decide) (m_258 (d := d + 1) (p := p) (n := 30) hT hI41 (by omega)) (kV (fun M43 hI43 fr43 v42p => ?_))
              have hFm43 := hFm41.call fr43 rfl
              refine s_iconst (v := 1) kx_263_117 (by decide) ?_
              exact s_iret kx_263_118 (Or.inr ⟨kq_263, by omega⟩) ⟨_, _, rfl, rfl, hI43, hFm43, (by omega)⟩
def nRm (M : cM) : Int := M 65 (M 63 14).toNat
def nbR (M : cM) (a : Int) : Nat → Int
  | 0 => 0
  | n + 1 => nbR M a n + (if 0 < wr M a n then 1 else 0)
theorem nbR_step {M : cM} {a b : Int} (h : 0 ≤ b) : (nbR M a (b + 1).toNat = nbR M a b.toNat + 1 ∧ 0 < wr M a b) ∨ (nbR M a (b + 1).toNat = nbR M a b.toNat ∧ ¬ 0 < wr M a b) := by
  have e : (b + 1).toNat = b.toNat + 1 := by omega
  have e2 : ((b.toNat : Nat) : Int) = b := by omega
  have e3 : nbR M a (b.toNat + 1) = nbR M a b.toNat + (if 0 < wr M a ((b.toNat : Nat) : Int) then 1 else 0) := rfl
  rw [e, e3, e2]
  split
  next g => exact Or.inl ⟨rfl, g⟩
  next g => exact Or.inr ⟨by omega, g⟩
theorem wr_fr {S : List (Nat × Nat)} {M M1 : cM} {a b : Int} (g : Fr S M M1) (h0 : c_in S 63 14 = false) (h4 : ∀ f, c_in S 68 f = false) : wr M1 a b = wr M a b := by
  unfold wr
  rw [g 63 14 h0, g 68 _ (h4 _)]
theorem nbR_fr {S : List (Nat × Nat)} {M M1 : cM} {a : Int} (g : Fr S M M1) (h0 : c_in S 63 14 = false) (h4 : ∀ f, c_in S 68 f = false) : ∀ n, nbR M1 a n = nbR M a n
  | 0 => rfl
  | n + 1 => by
    unfold nbR
    rw [nbR_fr g h0 h4 n, wr_fr g h0 h4]
theorem nRm_fr {S : List (Nat × Nat)} {M M1 : cM} (g : Fr S M M1) (h0 : c_in S 63 14 = false) (h4 : ∀ f, c_in S 65 f = false) : nRm M1 = nRm M := by
  unfold nRm
  rw [g 63 14 h0, g 65 _ (h4 _)]
theorem kx_264_0 : x_code k_P 264 0 = some (.iload_n 2, 1) := by decide +kernel
theorem kx_264_1 : x_code k_P 264 1 = some (.istore_n 3, 1) := by decide +kernel
theorem km_264_3 : 3 < x_maxL k_P 264 := by decide +kernel
theorem kx_264_2 : x_code k_P 264 2 = some (.iconst 0, 1) := by decide +kernel
theorem kx_264_3 : x_code k_P 264 3 = some (.istore 4, 2) := by decide +kernel
theorem km_264_4 : 4 < x_maxL k_P 264 := by decide +kernel
theorem kx_264_5 : x_code k_P 264 5 = some (.iload 4, 2) := by decide +kernel
theorem kx_264_7 : x_code k_P 264 7 = some (.aload_n 0, 1) := by decide +kernel
theorem kx_264_8 : x_code k_P 264 8 = some (.getfield 57, 3) := by decide +kernel
theorem kp_264_57 : x_pool k_P 264 57 = (1, 12, 15) := by decide +kernel
theorem kx_264_11 : x_code k_P 264 11 = some (.aload_n 0, 1) := by decide +kernel
theorem kx_264_12 : x_code k_P 264 12 = some (.getfield 54, 3) := by decide +kernel
theorem kp_264_54 : x_pool k_P 264 54 = (1, 12, 14) := by decide +kernel
theorem kx_264_15 : x_code k_P 264 15 = some (.iaload, 1) := by decide +kernel
theorem kx_264_16 : x_code k_P 264 16 = some (.if_icmp .ge 32, 3) := by decide +kernel
theorem kx_264_48 : x_code k_P 264 48 = some (.iconst (-1), 1) := by decide +kernel
theorem kx_264_49 : x_code k_P 264 49 = some (.ireturn, 1) := by decide +kernel
theorem kx_264_19 : x_code k_P 264 19 = some (.aload_n 0, 1) := by decide +kernel
theorem kx_264_20 : x_code k_P 264 20 = some (.iload_n 1, 1) := by decide +kernel
theorem kx_264_21 : x_code k_P 264 21 = some (.iload 4, 2) := by decide +kernel
theorem kx_264_23 : x_code k_P 264 23 = some (.invokevirtual 511, 3) := by decide +kernel
theorem kp_264_511 : x_pool k_P 264 511 = (2, 245, 2) := by decide +kernel
theorem kx_264_26 : x_code k_P 264 26 = some (.ifCond .ne 6, 3) := by decide +kernel
theorem kx_264_32 : x_code k_P 264 32 = some (.iload_n 3, 1) := by decide +kernel
theorem kx_264_33 : x_code k_P 264 33 = some (.ifCond .ne 6, 3) := by decide +kernel
theorem kx_264_39 : x_code k_P 264 39 = some (.iinc 3 (-1), 3) := by decide +kernel
theorem kx_264_42 : x_code k_P 264 42 = some (.iinc 4 1, 3) := by decide +kernel
theorem kx_264_45 : x_code k_P 264 45 = some (.goto (-40), 3) := by decide +kernel
theorem kx_264_36 : x_code k_P 264 36 = some (.iload 4, 2) := by decide +kernel
theorem kx_264_38 : x_code k_P 264 38 = some (.ireturn, 1) := by decide +kernel
theorem kq_264 : x_retk k_P 264 = 1 := by decide +kernel
theorem kx_264_29 : x_code k_P 264 29 = some (.goto 13, 3) := by decide +kernel
theorem m_264 {xs : Nat → Int} {Ln d : Nat} {T : List cK} {M : cM} (hT : TT T) (hI : Rng M) {from_ k : Int} (p0 : 0 ≤ from_ ∧ from_ ≤ 7) (p1 : 0 ≤ k ∧ k ≤ 7) (p2 : k < nbR M from_ (nRm M).toNat) : cC k_P xs Ln (d + 1) 264 [rf 63, (0, from_), (0, k)] (T, M) (qF T M 0 (fun v => 0 ≤ v ∧ v ≤ 7)) := by
  show cP k_P xs Ln (d + 1) 264 0 [(0, rf 63), (1, (0, from_)), (2, (0, k))] [] (T, M) _
  refine s_iload_n kx_264_0 rfl ?_
  refine s_istore_n kx_264_1 km_264_3 rfl ?_
  refine s_iconst (v := 0) kx_264_2 (by decide) ?_
  refine s_istore kx_264_3 km_264_4 rfl ?_
  have key3 : ∀ n4 : Nat, ∀ (x3_1 x4_2 : Int), (0 ≤ x3_1) → (x3_1 ≤ 7) → (0 ≤ x4_2) → (x3_1 = k - nbR M from_ (x4_2).toNat) → (x4_2 ≤ nRm M) → (2147483647 - x4_2).toNat < n4 → cP k_P xs Ln (d + 1) 264 5 [(0, rf 63), (1, (0, from_)), (3, (0, x3_1)), (4, (0, x4_2))] [] (T, M) (qF T M 0 (fun v => 0 ≤ v ∧ v ≤ 7)) := by
    intro n4
    induction n4 with
    | zero => intro x3_1 x4_2 i5 i6 i7 i8 i9 hm10; exact absurd hm10 (Nat.not_lt_zero _)
    | succ n4 ih11 =>
      intro x3_1 x4_2 i5 i6 i7 i8 i9 hm10
      refine s_iload kx_264_5 rfl ?_
      refine s_aload_n kx_264_7 rfl ?_
      refine r_getR (k := 63) (f := 15) (k2 := 65) kx_264_8 kp_264_57 (tk_63 hT) kf_12_15 (by decide) (rq_63_15 hI) ?_
      refine s_aload_n kx_264_11 rfl ?_
      refine r_getI (k := 63) (f := 14) kx_264_12 kp_264_54 (tk_63 hT) kf_12_14 (fun _ => rfl) (rg_63_14 hI) (fun v12 v12e v12a v12b => ?_)
      refine r_ald (k := 65) kx_264_15 (tk_65 hT) ⟨by omega, by omega⟩ (rg_65 hI) (fun v13 v13e v13a v13b => ?_)
      refine s_icmp_ge (t := 48) kx_264_16 (by decide) (fun hc14 => ?_) (fun hc14 => ?_)
      · refine s_iconst (v := (-1)) kx_264_48 (by decide) ?_
        have hr15 : nRm M = v13 := by unfold nRm; rw [v12e]; exact v13e
        exfalso
        rw [show nRm M = x4_2 by omega] at p2
        omega
      · refine s_aload_n kx_264_19 rfl ?_
        refine s_iload_n kx_264_20 rfl ?_
        refine s_iload kx_264_21 rfl ?_
        refine s_callV2 (k := 63) (s1 := 3) (s2 := 0) (as := [(0, x4_2), (0, from_)]) (rest := []) kx_264_23 kp_264_511 (Or.inl rfl) rfl (tk_63 hT) ki_245 kcl_245 rfl rfl (by decide) (m_245 (d := d) (a := from_) (b := x4_2) hT hI (by omega) (by omega)) (kF (fun v16 v16p => ?_))
        have hr17 : nRm M = v13 := by unfold nRm; rw [v12e]; exact v13e
        have hst := @nbR_step M from_ x4_2 (by omega)
        have hwr : wr M from_ x4_2 = v16 := by omega
        refine s_if_ne (t := 32) kx_264_26 (by decide) (fun hc18 => ?_) (fun hc18 => ?_)
        · refine s_iload_n kx_264_32 rfl ?_
          refine s_if_ne (t := 39) kx_264_33 (by decide) (fun hc19 => ?_) (fun hc19 => ?_)
          · refine r_iinc kx_264_39 rfl km_264_3 (by decide) ⟨by omega, by omega⟩ rfl ?_
            refine r_iinc kx_264_42 rfl km_264_4 (by decide) ⟨by omega, by omega⟩ rfl ?_
            refine s_goto (t := 5) kx_264_45 (by decide) ?_
            exact cP.wk (lS1 rfl (lS1 rfl (lS1 rfl (lS1 rfl lS0)))) (ih11 (x3_1 + (-1)) (x4_2 + 1) (by omega) (by omega) (by omega) (by omega) (by omega) (by omega))
          · refine s_iload kx_264_36 rfl ?_
            exact s_iret kx_264_38 (Or.inl kq_264) ⟨_, rfl, rfl, (by omega)⟩
        · refine s_goto (t := 42) kx_264_29 (by decide) ?_
          refine r_iinc kx_264_42 rfl km_264_4 (by decide) ⟨by omega, by omega⟩ rfl ?_
          refine s_goto (t := 5) kx_264_45 (by decide) ?_
          exact cP.wk (lS1 rfl (lS1 rfl (lS1 rfl (lS1 rfl lS0)))) (ih11 x3_1 (x4_2 + 1) (by omega) (by omega) (by omega) (by omega) (by omega) (by omega))
  have hz : nbR M from_ (0 : Int).toNat = 0 := rfl
  have hr0 : 0 ≤ nRm M := (rg_65 hI).1
  exact cP.wk (lS1 rfl (lS1 rfl (lS1 rfl (lS1 rfl lS0)))) (key3 _ k 0 (by omega) (by omega) (by omega) (by omega) (by omega) (Nat.lt_succ_self _))
theorem kx_265_0 : x_code k_P 265 0 = some (.aload_n 0, 1) := by decide +kernel
theorem kx_265_1 : x_code k_P 265 1 = some (.iconst 3, 1) := by decide +kernel
theorem kx_265_2 : x_code k_P 265 2 = some (.invokevirtual 549, 3) := by decide +kernel
theorem kp_265_549 : x_pool k_P 265 549 = (2, 256, 1) := by decide +kernel
theorem kx_265_5 : x_code k_P 265 5 = some (.istore_n 2, 1) := by decide +kernel
theorem km_265_2 : 2 < x_maxL k_P 265 := by decide +kernel
theorem kx_265_6 : x_code k_P 265 6 = some (.iload_n 2, 1) := by decide +kernel
theorem kx_265_7 : x_code k_P 265 7 = some (.iconst 2, 1) := by decide +kernel
theorem kx_265_8 : x_code k_P 265 8 = some (.if_icmp .ne 10, 3) := by decide +kernel
theorem kx_265_18 : x_code k_P 265 18 = some (.iload_n 2, 1) := by decide +kernel
theorem kx_265_19 : x_code k_P 265 19 = some (.iconst 1, 1) := by decide +kernel
theorem kx_265_20 : x_code k_P 265 20 = some (.if_icmp .eq 5, 3) := by decide +kernel
theorem kx_265_25 : x_code k_P 265 25 = some (.iconst 0, 1) := by decide +kernel
theorem kx_265_26 : x_code k_P 265 26 = some (.istore_n 3, 1) := by decide +kernel
theorem km_265_3 : 3 < x_maxL k_P 265 := by decide +kernel
theorem kx_265_27 : x_code k_P 265 27 = some (.iconst 0, 1) := by decide +kernel
theorem kx_265_28 : x_code k_P 265 28 = some (.istore 4, 2) := by decide +kernel
theorem km_265_4 : 4 < x_maxL k_P 265 := by decide +kernel
theorem kx_265_30 : x_code k_P 265 30 = some (.iload 4, 2) := by decide +kernel
theorem kx_265_32 : x_code k_P 265 32 = some (.aload_n 0, 1) := by decide +kernel
theorem kx_265_33 : x_code k_P 265 33 = some (.getfield 57, 3) := by decide +kernel
theorem kp_265_57 : x_pool k_P 265 57 = (1, 12, 15) := by decide +kernel
theorem kx_265_36 : x_code k_P 265 36 = some (.aload_n 0, 1) := by decide +kernel
theorem kx_265_37 : x_code k_P 265 37 = some (.getfield 54, 3) := by decide +kernel
theorem kp_265_54 : x_pool k_P 265 54 = (1, 12, 14) := by decide +kernel
theorem kx_265_40 : x_code k_P 265 40 = some (.iaload, 1) := by decide +kernel
theorem kx_265_41 : x_code k_P 265 41 = some (.if_icmp .ge 32, 3) := by decide +kernel
theorem kx_265_73 : x_code k_P 265 73 = some (.iload_n 3, 1) := by decide +kernel
theorem kx_265_74 : x_code k_P 265 74 = some (.ifCond .ne 5, 3) := by decide +kernel
theorem kx_265_79 : x_code k_P 265 79 = some (.aload_n 0, 1) := by decide +kernel
theorem kx_265_80 : x_code k_P 265 80 = some (.aload_n 0, 1) := by decide +kernel
theorem kx_265_81 : x_code k_P 265 81 = some (.getfield 159, 3) := by decide +kernel
theorem kp_265_159 : x_pool k_P 265 159 = (1, 12, 48) := by decide +kernel
theorem kx_265_84 : x_code k_P 265 84 = some (.iload_n 1, 1) := by decide +kernel
theorem kx_265_85 : x_code k_P 265 85 = some (.iaload, 1) := by decide +kernel
theorem kx_265_86 : x_code k_P 265 86 = some (.aload_n 0, 1) := by decide +kernel
theorem kx_265_87 : x_code k_P 265 87 = some (.iload_n 3, 1) := by decide +kernel
theorem kx_265_88 : x_code k_P 265 88 = some (.invokevirtual 549, 3) := by decide +kernel
theorem kx_265_91 : x_code k_P 265 91 = some (.invokevirtual 565, 3) := by decide +kernel
theorem kp_265_565 : x_pool k_P 265 565 = (2, 264, 2) := by decide +kernel
theorem ki_264 : x_mci k_P 264 = 12 := by decide +kernel
theorem kcl_264 : x_maxL k_P 264 ≤ 60 ∧ 3 ≤ x_maxL k_P 264 := by decide +kernel
theorem kx_265_94 : x_code k_P 265 94 = some (.istore 4, 2) := by decide +kernel
theorem kx_265_96 : x_code k_P 265 96 = some (.aload_n 0, 1) := by decide +kernel
theorem kx_265_97 : x_code k_P 265 97 = some (.iload_n 1, 1) := by decide +kernel
theorem kx_265_98 : x_code k_P 265 98 = some (.iload 4, 2) := by decide +kernel
theorem kx_265_100 : x_code k_P 265 100 = some (.iload_n 1, 1) := by decide +kernel
theorem kx_265_101 : x_code k_P 265 101 = some (.invokevirtual 520, 3) := by decide +kernel
theorem kp_265_520 : x_pool k_P 265 520 = (2, 252, 3) := by decide +kernel
theorem kx_265_104 : x_code k_P 265 104 = some (.istore 5, 2) := by decide +kernel
theorem km_265_5 : 5 < x_maxL k_P 265 := by decide +kernel
theorem kx_265_106 : x_code k_P 265 106 = some (.aload_n 0, 1) := by decide +kernel
theorem kx_265_107 : x_code k_P 265 107 = some (.iload_n 1, 1) := by decide +kernel
theorem kx_265_108 : x_code k_P 265 108 = some (.iload 4, 2) := by decide +kernel
theorem kx_265_110 : x_code k_P 265 110 = some (.iload 5, 2) := by decide +kernel
theorem kx_265_112 : x_code k_P 265 112 = some (.ifCond .eq 7, 3) := by decide +kernel
theorem kx_265_119 : x_code k_P 265 119 = some (.iconst (-1), 1) := by decide +kernel
theorem kx_265_120 : x_code k_P 265 120 = some (.invokevirtual 555, 3) := by decide +kernel
theorem kp_265_555 : x_pool k_P 265 555 = (2, 259, 3) := by decide +kernel
theorem kx_265_123 : x_code k_P 265 123 = some (.iload 5, 2) := by decide +kernel
theorem kx_265_125 : x_code k_P 265 125 = some (.ireturn, 1) := by decide +kernel
theorem kq_265 : x_retk k_P 265 = 2 := by decide +kernel
theorem kx_265_115 : x_code k_P 265 115 = some (.iload_n 1, 1) := by decide +kernel
theorem kx_265_116 : x_code k_P 265 116 = some (.goto 4, 3) := by decide +kernel
theorem kx_265_77 : x_code k_P 265 77 = some (.iconst 0, 1) := by decide +kernel
theorem kx_265_78 : x_code k_P 265 78 = some (.ireturn, 1) := by decide +kernel
theorem kx_265_44 : x_code k_P 265 44 = some (.iload_n 3, 1) := by decide +kernel
theorem kx_265_45 : x_code k_P 265 45 = some (.aload_n 0, 1) := by decide +kernel
theorem kx_265_46 : x_code k_P 265 46 = some (.aload_n 0, 1) := by decide +kernel
theorem kx_265_47 : x_code k_P 265 47 = some (.getfield 159, 3) := by decide +kernel
theorem kx_265_50 : x_code k_P 265 50 = some (.iload_n 1, 1) := by decide +kernel
theorem kx_265_51 : x_code k_P 265 51 = some (.iaload, 1) := by decide +kernel
theorem kx_265_52 : x_code k_P 265 52 = some (.iload 4, 2) := by decide +kernel
theorem kx_265_54 : x_code k_P 265 54 = some (.invokevirtual 511, 3) := by decide +kernel
theorem kp_265_511 : x_pool k_P 265 511 = (2, 245, 2) := by decide +kernel
theorem kx_265_57 : x_code k_P 265 57 = some (.ifCond .le 7, 3) := by decide +kernel
theorem kx_265_64 : x_code k_P 265 64 = some (.iconst 0, 1) := by decide +kernel
theorem kx_265_65 : x_code k_P 265 65 = some (.iadd, 1) := by decide +kernel
theorem kx_265_66 : x_code k_P 265 66 = some (.istore_n 3, 1) := by decide +kernel
theorem kx_265_67 : x_code k_P 265 67 = some (.iinc 4 1, 3) := by decide +kernel
theorem kx_265_70 : x_code k_P 265 70 = some (.goto (-40), 3) := by decide +kernel
theorem kx_265_60 : x_code k_P 265 60 = some (.iconst 1, 1) := by decide +kernel
theorem kx_265_61 : x_code k_P 265 61 = some (.goto 4, 3) := by decide +kernel
theorem kx_265_23 : x_code k_P 265 23 = some (.iconst 0, 1) := by decide +kernel
theorem kx_265_24 : x_code k_P 265 24 = some (.ireturn, 1) := by decide +kernel
theorem kx_265_11 : x_code k_P 265 11 = some (.aload_n 0, 1) := by decide +kernel
theorem kx_265_12 : x_code k_P 265 12 = some (.iload_n 1, 1) := by decide +kernel
theorem kx_265_13 : x_code k_P 265 13 = some (.bipush 10, 2) := by decide +kernel
theorem kx_265_15 : x_code k_P 265 15 = some (.invokevirtual 562, 3) := by decide +kernel
theorem kp_265_562 : x_pool k_P 265 562 = (2, 261, 2) := by decide +kernel
def fS_265_m : List (Nat × Nat) := [(100, 99999), (101, 99999), (102, 99999), (63, 60), (63, 62), (63, 63), (63, 64), (92, 99999), (93, 99999), (94, 99999), (95, 99999), (96, 99999), (97, 99999), (98, 99999), (99, 99999)]
def fS_265_l30 : List (Nat × Nat) := []
theorem m_265 {xs : Nat → Int} {Ln d : Nat} {T : List cK} {M : cM} (hT : TT T) (hI : Rng M) {p : Int} (hS : Sg M) (p0 : 0 ≤ p ∧ p ≤ 7) : cC k_P xs Ln (d + 6) 265 [rf 63, (0, p)] (T, M) (qW T M fS_265_m 0 (fun v M1 => 0 ≤ v ∧ v ≤ 1)) := by
  show cP k_P xs Ln (d + 6) 265 0 [(0, rf 63), (1, (0, p))] [] (T, M) _
  have hFm : Fr fS_265_m M M := Fr.refl
  refine s_aload_n kx_265_0 rfl ?_
  refine s_iconst (v := 3) kx_265_1 (by decide) ?_
  refine s_callV2 (k := 63) (s1 := 2) (s2 := 0) (as := [(0, 3)]) (rest := []) kx_265_2 kp_265_549 (Or.inl rfl) rfl (tk_63 hT) ki_256 kcl_256 rfl rfl (by decide) (m_256 (d := d + 5) (of_ := 3) hT hI (by omega)) (kW (fun v1 M2 hI2 fr2 v1p => ?_))
  have hFm2 := hFm.call fr2 rfl
  refine s_istore_n kx_265_5 km_265_2 rfl ?_
  refine s_iload_n kx_265_6 rfl ?_
  refine s_iconst (v := 2) kx_265_7 (by decide) ?_
  refine s_icmp_ne (t := 18) kx_265_8 (by decide) (fun hc3 => ?_) (fun hc3 => ?_)
  · refine s_iload_n kx_265_18 rfl ?_
    refine s_iconst (v := 1) kx_265_19 (by decide) ?_
    refine s_icmp_eq (t := 25) kx_265_20 (by decide) (fun hc4 => ?_) (fun hc4 => ?_)
    · refine s_iconst (v := 0) kx_265_25 (by decide) ?_
      refine s_istore_n kx_265_26 km_265_3 rfl ?_
      refine s_iconst (v := 0) kx_265_27 (by decide) ?_
      refine s_istore kx_265_28 km_265_4 rfl ?_
      have key7 : ∀ n8 : Nat, ∀ (x3_5 x4_6 : Int), (0 ≤ x3_5) → (x3_5 ≤ 8) → (0 ≤ x4_6) → (x3_5 = nbR M2 (M2 92 (p).toNat) (x4_6).toNat) → (x3_5 ≤ x4_6) → (x4_6 ≤ nRm M2) → (2147483647 - x4_6).toNat < n8 → cP k_P xs Ln (d + 6) 265 30 [(0, rf 63), (1, (0, p)), (3, (0, x3_5)), (4, (0, x4_6))] [] (T, M2) (qW T M fS_265_m 0 (fun v M1 => 0 ≤ v ∧ v ≤ 1)) := by
        intro n8
        induction n8 with
        | zero => intro x3_5 x4_6 i9 i10 i11 i12 i13 i14 hm15; exact absurd hm15 (Nat.not_lt_zero _)
        | succ n8 ih16 =>
          intro x3_5 x4_6 i9 i10 i11 i12 i13 i14 hm15
          refine s_iload kx_265_30 rfl ?_
          refine s_aload_n kx_265_32 rfl ?_
          refine r_getR (k := 63) (f := 15) (k2 := 65) kx_265_33 kp_265_57 (tk_63 hT) kf_12_15 (by decide) (rq_63_15 hI2) ?_
          refine s_aload_n kx_265_36 rfl ?_
          refine r_getI (k := 63) (f := 14) kx_265_37 kp_265_54 (tk_63 hT) kf_12_14 (fun _ => rfl) (rg_63_14 hI2) (fun v17 v17e v17a v17b => ?_)
          have v17z : M 63 14 = v17 := ((fr2 63 14 rfl)).symm.trans v17e
          refine r_ald (k := 65) kx_265_40 (tk_65 hT) ⟨by omega, by omega⟩ (rg_65 hI2) (fun v18 v18e v18a v18b => ?_)
          have hr19 : nRm M2 = v18 := by unfold nRm; rw [v17e]; exact v18e
          refine s_icmp_ge (t := 73) kx_265_41 (by decide) (fun hc20 => ?_) (fun hc20 => ?_)
          · refine s_iload_n kx_265_73 rfl ?_
            refine s_if_ne (t := 79) kx_265_74 (by decide) (fun hc21 => ?_) (fun hc21 => ?_)
            · refine s_aload_n kx_265_79 rfl ?_
              refine s_aload_n kx_265_80 rfl ?_
              refine r_getR (k := 63) (f := 48) (k2 := 92) kx_265_81 kp_265_159 (tk_63 hT) kf_12_48 (by decide) (rq_63_48 hI2) ?_
              refine s_iload_n kx_265_84 rfl ?_
              refine r_ald (k := 92) kx_265_85 (tk_92 hT) ⟨by omega, by omega⟩ (rg_92 hI2 (by omega)) (fun v22 v22e v22a v22b => ?_)
              refine s_aload_n kx_265_86 rfl ?_
              refine s_iload_n kx_265_87 rfl ?_
              refine s_callV2 (k := 63) (s1 := 2) (s2 := 2) (as := [(0, x3_5)]) (rest := [(0, v22), rf 63]) kx_265_88 kp_265_549 (Or.inl rfl) rfl (tk_63 hT) ki_256 kcl_256 rfl rfl (by decide) (m_256 (d := d + 5) (of_ := x3_5) hT hI2 (by omega)) (kW (fun v23 M24 hI24 fr24 v23p => ?_))
              have hFm24 := hFm2.call fr24 rfl
              have hn1 : nbR M24 v22 (nRm M24).toNat = nbR M2 v22 (nRm M2).toNat := by rw [nbR_fr fr24 rfl (fun _ => rfl), nRm_fr fr24 rfl (fun _ => rfl)]
              have hn2 : nbR M2 v22 (nRm M2).toNat = x3_5 := by rw [show nRm M2 = x4_6 by omega, ← v22e]; omega
              refine s_callV2 (k := 63) (s1 := 3) (s2 := 0) (as := [(0, v23), (0, v22)]) (rest := []) kx_265_91 kp_265_565 (Or.inl rfl) rfl (tk_63 hT) ki_264 kcl_264 rfl rfl (by decide) (m_264 (d := d + 4) (from_ := v22) (k := v23) hT hI24 (by omega) (by omega) (by omega)) (kF (fun v25 v25p => ?_))
              refine s_istore kx_265_94 km_265_4 rfl ?_
              refine s_aload_n kx_265_96 rfl ?_
              refine s_iload_n kx_265_97 rfl ?_
              refine s_iload kx_265_98 rfl ?_
              refine s_iload_n kx_265_100 rfl ?_
              refine s_callV2 (k := 63) (s1 := 4) (s2 := 0) (as := [(0, p), (0, v25), (0, p)]) (rest := []) kx_265_101 kp_265_520 (Or.inl rfl) rfl (tk_63 hT) ki_252 kcl_252 rfl rfl (by decide) (m_252 (d := d + 1) (p := p) (r := v25) (c := p) hT hI24 (by omega) (by omega)) (kF (fun v26 v26p => ?_))
              refine s_istore kx_265_104 km_265_5 rfl ?_
              refine s_aload_n kx_265_106 rfl ?_
              refine s_iload_n kx_265_107 rfl ?_
              refine s_iload kx_265_108 rfl ?_
              refine s_iload kx_265_110 rfl ?_
              refine s_if_eq (t := 119) kx_265_112 (by decide) (fun hc27 => ?_) (fun hc27 => ?_)
              · replace v26p := v26p.resolve_left (by omega)
                refine s_iconst (v := (-1)) kx_265_119 (by decide) ?_
                refine s_callV2 (k := 63) (s1 := 4) (s2 := 0) (as := [(0, (-1)), (0, v25), (0, p)]) (rest := []) kx_265_120 kp_265_555 (Or.inl rfl) rfl (tk_63 hT) ki_259 kcl_259 rfl rfl (by decide) (m_259 (d := d) (p := p) (r := v25) (c := (-1)) hT hI24 (hS.fr hFm24 rfl) (by omega) (by omega) (by omega)) (kV (fun M29 hI29 fr29 v28p => ?_))
                have hFm29 := hFm24.call fr29 rfl
                refine s_iload kx_265_123 rfl ?_
                exact s_iret kx_265_125 (Or.inr ⟨kq_265, by omega⟩) ⟨_, _, rfl, rfl, hI29, hFm29, (by omega)⟩
              · replace v26p := v26p.resolve_right (by omega)
                refine s_iload_n kx_265_115 rfl ?_
                refine s_goto (t := 120) kx_265_116 (by decide) ?_
                refine s_callV2 (k := 63) (s1 := 4) (s2 := 0) (as := [(0, p), (0, v25), (0, p)]) (rest := []) kx_265_120 kp_265_555 (Or.inl rfl) rfl (tk_63 hT) ki_259 kcl_259 rfl rfl (by decide) (m_259 (d := d) (p := p) (r := v25) (c := p) hT hI24 (hS.fr hFm24 rfl) (by omega) (by omega) (by omega)) (kV (fun M31 hI31 fr31 v30p => ?_))
                have hFm31 := hFm24.call fr31 rfl
                refine s_iload kx_265_123 rfl ?_
                exact s_iret kx_265_125 (Or.inr ⟨kq_265, by omega⟩) ⟨_, _, rfl, rfl, hI31, hFm31, (by omega)⟩
            · refine s_iconst (v := 0) kx_265_77 (by decide) ?_
              exact s_iret kx_265_78 (Or.inr ⟨kq_265, by omega⟩) ⟨_, _, rfl, rfl, hI2, hFm2, (by omega)⟩
          · refine s_iload_n kx_265_44 rfl ?_
            refine s_aload_n kx_265_45 rfl ?_
            refine s_aload_n kx_265_46 rfl ?_
            refine r_getR (k := 63) (f := 48) (k2 := 92) kx_265_47 kp_265_159 (tk_63 hT) kf_12_48 (by decide) (rq_63_48 hI2) ?_
            refine s_iload_n kx_265_50 rfl ?_
            refine r_ald (k := 92) kx_265_51 (tk_92 hT) ⟨by omega, by omega⟩ (rg_92 hI2 (by omega)) (fun v32 v32e v32a v32b => ?_)
            refine s_iload kx_265_52 rfl ?_
            refine s_callV2 (k := 63) (s1 := 3) (s2 := 1) (as := [(0, x4_6), (0, v32)]) (rest := [(0, x3_5)]) kx_265_54 kp_265_511 (Or.inl rfl) rfl (tk_63 hT) ki_245 kcl_245 rfl rfl (by decide) (m_245 (d := d + 5) (a := v32) (b := x4_6) hT hI2 (by omega) (by omega)) (kF (fun v33 v33p => ?_))
            have hr34 : nRm M2 = v18 := by unfold nRm; rw [v17e]; exact v18e
            have hst := @nbR_step M2 (M2 92 (p).toNat) x4_6 (by omega)
            have hwr : wr M2 (M2 92 (p).toNat) x4_6 = v33 := by rw [v32e]; omega
            refine s_if_le (t := 64) kx_265_57 (by decide) (fun hc35 => ?_) (fun hc35 => ?_)
            · refine s_iconst (v := 0) kx_265_64 (by decide) ?_
              refine r_add kx_265_65 ⟨by omega, by omega⟩ ?_
              refine s_istore_n kx_265_66 km_265_3 rfl ?_
              refine r_iinc kx_265_67 rfl km_265_4 (by decide) ⟨by omega, by omega⟩ rfl ?_
              refine s_goto (t := 30) kx_265_70 (by decide) ?_
              exact cP.wk (lS1 rfl (lS1 rfl (lS1 rfl (lS1 rfl lS0)))) (ih16 (x3_5 + 0) (x4_6 + 1) (by omega) (by omega) (by omega) (by omega) (by omega) (by omega) (by omega))
            · refine s_iconst (v := 1) kx_265_60 (by decide) ?_
              refine s_goto (t := 65) kx_265_61 (by decide) ?_
              refine r_add kx_265_65 ⟨by omega, by omega⟩ ?_
              refine s_istore_n kx_265_66 km_265_3 rfl ?_
              refine r_iinc kx_265_67 rfl km_265_4 (by decide) ⟨by omega, by omega⟩ rfl ?_
              refine s_goto (t := 30) kx_265_70 (by decide) ?_
              exact cP.wk (lS1 rfl (lS1 rfl (lS1 rfl (lS1 rfl lS0)))) (ih16 (x3_5 + 1) (x4_6 + 1) (by omega) (by omega) (by omega) (by omega) (by omega) (by omega) (by omega))
      have hz : nbR M2 (M2 92 (p).toNat) (0 : Int).toNat = 0 := rfl
      have hr0 : 0 ≤ nRm M2 := (rg_65 hI2).1
      exact cP.wk (lS1 rfl (lS1 rfl (lS1 rfl (lS1 rfl lS0)))) (key7 _ 0 0 (by omega) (by omega) (by omega) (by omega) (by omega) (by omega) (Nat.lt_succ_self _))
    · refine s_iconst (v := 0) kx_265_23 (by decide) ?_
      exact s_iret kx_265_24 (Or.inr ⟨kq_265, by omega⟩) ⟨_, _, rfl, rfl, hI2, hFm2, (by omega)⟩
  · refine s_aload_n kx_265_11 rfl ?_
    refine s_iload_n kx_265_12 rfl ?_
    refine s_bipush (v := 10) kx_265_13 (by decide) ?_
    refine s_callV2 (k := 63) (s1 := 3) (s2 := 0) (as := [(0, 10), (0, p)]) (rest := []) kx_265_15 kp_265_562 (Or.inl rfl) rfl (tk_63 hT) ki_261 kcl_261 rfl rfl (by decide) (m_261 (d := d + 1) (p := p) (n := 10) hT hI2 (hS.fr hFm2 rfl) (by omega)) (kV (fun M37 hI37 fr37 v36p => ?_))
    have hFm37 := hFm2.call fr37 rfl
    refine s_iload_n kx_265_18 rfl ?_
    refine s_iconst (v := 1) kx_265_19 (by decide) ?_
    refine s_icmp_eq (t := 25) kx_265_20 (by decide) (fun hc38 => absurd hc38 (by omega)) (fun hc38 => ?_)
    refine s_iconst (v := 0) kx_265_23 (by decide) ?_
    exact s_iret kx_265_24 (Or.inr ⟨kq_265, by omega⟩) ⟨_, _, rfl, rfl, hI37, hFm37, (by omega)⟩
theorem kx_266_0 : x_code k_P 266 0 = some (.iload_n 1, 1) := by decide +kernel
theorem kx_266_1 : x_code k_P 266 1 = some (.iconst 1, 1) := by decide +kernel
theorem kx_266_2 : x_code k_P 266 2 = some (.bipush 30, 2) := by decide +kernel
theorem kx_266_4 : x_code k_P 266 4 = some (.invokestatic 345, 3) := by decide +kernel
theorem kp_266_345 : x_pool k_P 266 345 = (6, 172, 3) := by decide +kernel
theorem kx_266_7 : x_code k_P 266 7 = some (.ifCond .ne 9, 3) := by decide +kernel
theorem kx_266_16 : x_code k_P 266 16 = some (.aload_n 0, 1) := by decide +kernel
theorem kx_266_17 : x_code k_P 266 17 = some (.invokevirtual 552, 3) := by decide +kernel
theorem kp_266_552 : x_pool k_P 266 552 = (2, 227, 0) := by decide +kernel
theorem kx_266_20 : x_code k_P 266 20 = some (.iconst 0, 1) := by decide +kernel
theorem kx_266_21 : x_code k_P 266 21 = some (.istore_n 2, 1) := by decide +kernel
theorem km_266_2 : 2 < x_maxL k_P 266 := by decide +kernel
theorem kx_266_22 : x_code k_P 266 22 = some (.iconst 0, 1) := by decide +kernel
theorem kx_266_23 : x_code k_P 266 23 = some (.istore_n 3, 1) := by decide +kernel
theorem km_266_3 : 3 < x_maxL k_P 266 := by decide +kernel
theorem kx_266_24 : x_code k_P 266 24 = some (.iload_n 3, 1) := by decide +kernel
theorem kx_266_25 : x_code k_P 266 25 = some (.iload_n 1, 1) := by decide +kernel
theorem kx_266_26 : x_code k_P 266 26 = some (.if_icmp .ge 49, 3) := by decide +kernel
theorem kx_266_75 : x_code k_P 266 75 = some (.iload_n 2, 1) := by decide +kernel
theorem kx_266_76 : x_code k_P 266 76 = some (.ireturn, 1) := by decide +kernel
theorem kq_266 : x_retk k_P 266 = 1 := by decide +kernel
theorem kx_266_29 : x_code k_P 266 29 = some (.iconst 0, 1) := by decide +kernel
theorem kx_266_30 : x_code k_P 266 30 = some (.istore 4, 2) := by decide +kernel
theorem km_266_4 : 4 < x_maxL k_P 266 := by decide +kernel
theorem kx_266_32 : x_code k_P 266 32 = some (.iload 4, 2) := by decide +kernel
theorem kx_266_34 : x_code k_P 266 34 = some (.aload_n 0, 1) := by decide +kernel
theorem kx_266_35 : x_code k_P 266 35 = some (.getfield 69, 3) := by decide +kernel
theorem kp_266_69 : x_pool k_P 266 69 = (1, 12, 19) := by decide +kernel
theorem kx_266_38 : x_code k_P 266 38 = some (.aload_n 0, 1) := by decide +kernel
theorem kx_266_39 : x_code k_P 266 39 = some (.getfield 54, 3) := by decide +kernel
theorem kp_266_54 : x_pool k_P 266 54 = (1, 12, 14) := by decide +kernel
theorem kx_266_42 : x_code k_P 266 42 = some (.iaload, 1) := by decide +kernel
theorem kx_266_43 : x_code k_P 266 43 = some (.if_icmp .ge 26, 3) := by decide +kernel
theorem kx_266_69 : x_code k_P 266 69 = some (.iinc 3 1, 3) := by decide +kernel
theorem kx_266_72 : x_code k_P 266 72 = some (.goto (-48), 3) := by decide +kernel
theorem kx_266_46 : x_code k_P 266 46 = some (.iload_n 2, 1) := by decide +kernel
theorem kx_266_47 : x_code k_P 266 47 = some (.aload_n 0, 1) := by decide +kernel
theorem kx_266_48 : x_code k_P 266 48 = some (.iload 4, 2) := by decide +kernel
theorem kx_266_50 : x_code k_P 266 50 = some (.invokevirtual 568, 3) := by decide +kernel
theorem kp_266_568 : x_pool k_P 266 568 = (2, 265, 1) := by decide +kernel
theorem ki_265 : x_mci k_P 265 = 12 := by decide +kernel
theorem kcl_265 : x_maxL k_P 265 ≤ 60 ∧ 2 ≤ x_maxL k_P 265 := by decide +kernel
theorem kx_266_53 : x_code k_P 266 53 = some (.ifCond .eq 7, 3) := by decide +kernel
theorem kx_266_60 : x_code k_P 266 60 = some (.iconst 0, 1) := by decide +kernel
theorem kx_266_61 : x_code k_P 266 61 = some (.iadd, 1) := by decide +kernel
theorem kx_266_62 : x_code k_P 266 62 = some (.istore_n 2, 1) := by decide +kernel
theorem kx_266_63 : x_code k_P 266 63 = some (.iinc 4 1, 3) := by decide +kernel
theorem kx_266_66 : x_code k_P 266 66 = some (.goto (-34), 3) := by decide +kernel
theorem kx_266_56 : x_code k_P 266 56 = some (.iconst 1, 1) := by decide +kernel
theorem kx_266_57 : x_code k_P 266 57 = some (.goto 4, 3) := by decide +kernel
theorem kx_266_10 : x_code k_P 266 10 = some (.aload_n 0, 1) := by decide +kernel
theorem kx_266_11 : x_code k_P 266 11 = some (.iconst 3, 1) := by decide +kernel
theorem kx_266_12 : x_code k_P 266 12 = some (.invokevirtual 255, 3) := by decide +kernel
theorem kp_266_255 : x_pool k_P 266 255 = (2, 218, 1) := by decide +kernel
theorem kx_266_15 : x_code k_P 266 15 = some (.ireturn, 1) := by decide +kernel
def fS_266_l24 : List (Nat × Nat) := [(100, 99999), (101, 99999), (102, 99999), (63, 60), (63, 62), (63, 63), (63, 64), (92, 99999), (93, 99999), (94, 99999), (95, 99999), (96, 99999), (97, 99999), (98, 99999), (99, 99999)]
def fS_266_l32 : List (Nat × Nat) := [(100, 99999), (101, 99999), (102, 99999), (63, 60), (63, 62), (63, 63), (63, 64), (92, 99999), (93, 99999), (94, 99999), (95, 99999), (96, 99999), (97, 99999), (98, 99999), (99, 99999)]
def fS_266_m : List (Nat × Nat) := [(100, 99999), (101, 99999), (102, 99999), (63, 58), (63, 59), (63, 60), (63, 62), (63, 63), (63, 64), (91, 99999), (92, 99999), (93, 99999), (94, 99999), (95, 99999), (96, 99999), (97, 99999), (98, 99999), (99, 99999)]
theorem m_266 {xs : Nat → Int} {Ln d : Nat} {T : List cK} {M : cM} (hT : TT T) (hI : Rng M) {n : Int} (hS : Sg M) : cC k_P xs Ln (d + 7) 266 [rf 63, (0, n)] (T, M) (qW T M fS_266_m 0 (fun v M1 => True)) := by
  show cP k_P xs Ln (d + 7) 266 0 [(0, rf 63), (1, (0, n))] [] (T, M) _
  have hFm : Fr fS_266_m M M := Fr.refl
  refine s_iload_n kx_266_0 rfl ?_
  refine s_iconst (v := 1) kx_266_1 (by decide) ?_
  refine s_bipush (v := 30) kx_266_2 (by decide) ?_
  refine s_callS2 (s1 := 3) (s2 := 0) (as := [(0, 30), (0, 1), (0, n)]) (rest := []) kx_266_4 kp_266_345 rfl kcl_172 rfl rfl (by decide) (m_172 (d := d + 6) (v_ := n) (least := 1) (most := 30) hT hI) (kF (fun v1 v1p => ?_))
  refine s_if_ne (t := 16) kx_266_7 (by decide) (fun hc2 => ?_) (fun hc2 => ?_)
  · replace v1p := v1p.resolve_right (by omega)
    refine s_aload_n kx_266_16 rfl ?_
    refine s_callV2 (k := 63) (s1 := 1) (s2 := 0) (as := []) (rest := []) kx_266_17 kp_266_552 (Or.inl rfl) rfl (tk_63 hT) ki_227 kcl_227 rfl rfl (by decide) (m_227 (d := d + 5) hT hI) (kV (fun M4 hI4 fr4 v3p => ?_))
    have hFm4 := hFm.call fr4 rfl
    refine s_iconst (v := 0) kx_266_20 (by decide) ?_
    refine s_istore_n kx_266_21 km_266_2 rfl ?_
    refine s_iconst (v := 0) kx_266_22 (by decide) ?_
    refine s_istore_n kx_266_23 km_266_3 rfl ?_
    have key8 : ∀ n9 : Nat, ∀ (x2_5 x3_6 : Int), ∀ M7 : cM, Rng M7 → Fr fS_266_m M M7 → Fr fS_266_l24 M4 M7 → (0 ≤ x3_6) → (x3_6 ≤ 30) → (2147483647 - x3_6).toNat < n9 → cP k_P xs Ln (d + 7) 266 24 [(0, rf 63), (1, (0, n)), (2, (0, x2_5)), (3, (0, x3_6))] [] (T, M7) (qW T M fS_266_m 0 (fun v M1 => True)) := by
      intro n9
      induction n9 with
      | zero => intro x2_5 x3_6 M7 hI7 hFm7 fl7 i10 i11 hm12; exact absurd hm12 (Nat.not_lt_zero _)
      | succ n9 ih13 =>
        intro x2_5 x3_6 M7 hI7 hFm7 fl7 i10 i11 hm12
        refine s_iload_n kx_266_24 rfl ?_
        refine s_iload_n kx_266_25 rfl ?_
        refine s_icmp_ge (t := 75) kx_266_26 (by decide) (fun hc14 => ?_) (fun hc14 => ?_)
        · refine s_iload_n kx_266_75 rfl ?_
          exact s_iret kx_266_76 (Or.inl kq_266) ⟨_, _, rfl, rfl, hI7, hFm7, trivial⟩
        · refine s_iconst (v := 0) kx_266_29 (by decide) ?_
          refine s_istore kx_266_30 km_266_4 rfl ?_
          have key18 : ∀ n19 : Nat, ∀ (x2_15 x4_16 : Int), ∀ M17 : cM, Rng M17 → Fr fS_266_m M M17 → Fr fS_266_l24 M4 M17 → Fr fS_266_l32 M7 M17 → (0 ≤ x4_16) → (2147483647 - x4_16).toNat < n19 → cP k_P xs Ln (d + 7) 266 32 [(0, rf 63), (1, (0, n)), (2, (0, x2_15)), (3, (0, x3_6)), (4, (0, x4_16))] [] (T, M17) (qW T M fS_266_m 0 (fun v M1 => True)) := by
            intro n19
            induction n19 with
            | zero => intro x2_15 x4_16 M17 hI17 hFm17 hFl2417 fl17 i20 hm21; exact absurd hm21 (Nat.not_lt_zero _)
            | succ n19 ih22 =>
              intro x2_15 x4_16 M17 hI17 hFm17 hFl2417 fl17 i20 hm21
              refine s_iload kx_266_32 rfl ?_
              refine s_aload_n kx_266_34 rfl ?_
              refine r_getR (k := 63) (f := 19) (k2 := 69) kx_266_35 kp_266_69 (tk_63 hT) kf_12_19 (by decide) (rq_63_19 hI17) ?_
              refine s_aload_n kx_266_38 rfl ?_
              refine r_getI (k := 63) (f := 14) kx_266_39 kp_266_54 (tk_63 hT) kf_12_14 (fun _ => rfl) (rg_63_14 hI17) (fun v23 v23e v23a v23b => ?_)
              have v23z : M 63 14 = v23 := (((fl17 63 14 rfl).trans ((fl7 63 14 rfl).trans (fr4 63 14 rfl)))).symm.trans v23e
              refine r_ald (k := 69) kx_266_42 (tk_69 hT) ⟨by omega, by omega⟩ (rg_69 hI17) (fun v24 v24e v24a v24b => ?_)
              refine s_icmp_ge (t := 69) kx_266_43 (by decide) (fun hc25 => ?_) (fun hc25 => ?_)
              · refine r_iinc kx_266_69 rfl km_266_3 (by decide) ⟨by omega, by omega⟩ rfl ?_
                refine s_goto (t := 24) kx_266_72 (by decide) ?_
                exact cP.wk (lS1 rfl (lS1 rfl (lS1 rfl (lS1 rfl lS0)))) (ih13 x2_15 (x3_6 + 1) M17 hI17 hFm17 hFl2417 (by omega) (by omega) (by omega))
              · refine s_iload_n kx_266_46 rfl ?_
                refine s_aload_n kx_266_47 rfl ?_
                refine s_iload kx_266_48 rfl ?_
                refine s_callV2 (k := 63) (s1 := 2) (s2 := 1) (as := [(0, x4_16)]) (rest := [(0, x2_15)]) kx_266_50 kp_266_568 (Or.inl rfl) rfl (tk_63 hT) ki_265 kcl_265 rfl rfl (by decide) (m_265 (d := d) (p := x4_16) hT hI17 (hS.fr hFm17 rfl) (by omega)) (kW (fun v26 M27 hI27 fr27 v26p => ?_))
                have hFm27 := hFm17.call fr27 rfl
                have hFl2427 := hFl2417.call fr27 rfl
                have hFl3227 := fl17.call fr27 rfl
                refine s_if_eq (t := 60) kx_266_53 (by decide) (fun hc28 => ?_) (fun hc28 => ?_)
                · refine s_iconst (v := 0) kx_266_60 (by decide) ?_
                  refine r_iaddR kx_266_61 (fun v29 v29a v29b => ?_)
                  refine s_istore_n kx_266_62 km_266_2 rfl ?_
                  refine r_iinc kx_266_63 rfl km_266_4 (by decide) ⟨by omega, by omega⟩ rfl ?_
                  refine s_goto (t := 32) kx_266_66 (by decide) ?_
                  exact cP.wk (lS1 rfl (lS1 rfl (lS1 rfl (lS1 rfl (lS1 rfl lS0))))) (ih22 v29 (x4_16 + 1) M27 hI27 hFm27 hFl2427 hFl3227 (by omega) (by omega))
                · refine s_iconst (v := 1) kx_266_56 (by decide) ?_
                  refine s_goto (t := 61) kx_266_57 (by decide) ?_
                  refine r_iaddR kx_266_61 (fun v30 v30a v30b => ?_)
                  refine s_istore_n kx_266_62 km_266_2 rfl ?_
                  refine r_iinc kx_266_63 rfl km_266_4 (by decide) ⟨by omega, by omega⟩ rfl ?_
                  refine s_goto (t := 32) kx_266_66 (by decide) ?_
                  exact cP.wk (lS1 rfl (lS1 rfl (lS1 rfl (lS1 rfl (lS1 rfl lS0))))) (ih22 v30 (x4_16 + 1) M27 hI27 hFm27 hFl2427 hFl3227 (by omega) (by omega))
          exact cP.wk (lS1 rfl (lS1 rfl (lS1 rfl (lS1 rfl (lS1 rfl lS0))))) (key18 _ x2_5 0 M7 hI7 hFm7 fl7 Fr.refl (by omega) (Nat.lt_succ_self _))
    exact cP.wk (lS1 rfl (lS1 rfl (lS1 rfl (lS1 rfl lS0)))) (key8 _ 0 0 M4 hI4 hFm4 Fr.refl (by omega) (by omega) (Nat.lt_succ_self _))
  · replace v1p := v1p.resolve_left (by omega)
    refine s_aload_n kx_266_10 rfl ?_
    refine s_iconst (v := 3) kx_266_11 (by decide) ?_
    refine s_callV2 (k := 63) (s1 := 2) (s2 := 0) (as := [(0, 3)]) (rest := []) kx_266_12 kp_266_255 (Or.inl rfl) rfl (tk_63 hT) ki_218 kcl_218 rfl rfl (by decide) (m_218 (d := d + 6) (kind := 3) hT hI (by omega)) (kW (fun v31 M32 hI32 fr32 v31p => ?_))
    have hFm32 := hFm.call fr32 rfl
    exact s_iret kx_266_15 (Or.inl kq_266) ⟨_, _, rfl, rfl, hI32, hFm32, trivial⟩
theorem kx_267_0 : x_code k_P 267 0 = some (.iload_n 1, 1) := by decide +kernel
theorem kx_267_1 : x_code k_P 267 1 = some (.ifCond .ge 17, 3) := by decide +kernel
theorem kx_267_18 : x_code k_P 267 18 = some (.aload_n 0, 1) := by decide +kernel
theorem kx_267_19 : x_code k_P 267 19 = some (.iload_n 1, 1) := by decide +kernel
theorem kx_267_20 : x_code k_P 267 20 = some (.i2l, 1) := by decide +kernel
theorem kx_267_21 : x_code k_P 267 21 = some (.putfield 195, 3) := by decide +kernel
theorem kp_267_195 : x_pool k_P 267 195 = (1, 12, 60) := by decide +kernel
theorem kx_267_24 : x_code k_P 267 24 = some (.iconst 1, 1) := by decide +kernel
theorem kx_267_25 : x_code k_P 267 25 = some (.ireturn, 1) := by decide +kernel
theorem kq_267 : x_retk k_P 267 = 2 := by decide +kernel
theorem kx_267_4 : x_code k_P 267 4 = some (.aload_n 0, 1) := by decide +kernel
theorem kx_267_5 : x_code k_P 267 5 = some (.iconst 5, 1) := by decide +kernel
theorem kx_267_6 : x_code k_P 267 6 = some (.invokevirtual 255, 3) := by decide +kernel
theorem kp_267_255 : x_pool k_P 267 255 = (2, 218, 1) := by decide +kernel
theorem kx_267_9 : x_code k_P 267 9 = some (.ifCond .lt 7, 3) := by decide +kernel
theorem kx_267_16 : x_code k_P 267 16 = some (.iconst 0, 1) := by decide +kernel
theorem kx_267_17 : x_code k_P 267 17 = some (.ireturn, 1) := by decide +kernel
def fS_267_m : List (Nat × Nat) := [(63, 60), (91, 99999)]
theorem m_267 {xs : Nat → Int} {Ln d : Nat} {T : List cK} {M : cM} (hT : TT T) (hI : Rng M) {v_ : Int} (p0 : v_ ≤ 2147483647) : cC k_P xs Ln (d + 1) 267 [rf 63, (0, v_)] (T, M) (qW T M fS_267_m 0 (fun v M1 => (v = 1 ∧ 0 ≤ v_) ∨ (v = 0 ∧ v_ < 0))) := by
  show cP k_P xs Ln (d + 1) 267 0 [(0, rf 63), (1, (0, v_))] [] (T, M) _
  have hFm : Fr fS_267_m M M := Fr.refl
  refine s_iload_n kx_267_0 rfl ?_
  refine s_if_ge (t := 18) kx_267_1 (by decide) (fun hc1 => ?_) (fun hc1 => ?_)
  · refine s_aload_n kx_267_18 rfl ?_
    refine s_iload_n kx_267_19 rfl ?_
    refine s_i2l kx_267_20 ?_
    refine r_put (k := 63) (f := 60) kx_267_21 kp_267_195 (tk_63 hT) kf_12_60 rfl (by decide) (by decide) hI (ru_63_60 (by omega) (by omega)) (fun M2 hI2 u2 => ?_)
    have hFm2 := hFm.up u2 rfl
    refine s_iconst (v := 1) kx_267_24 (by decide) ?_
    exact s_iret kx_267_25 (Or.inr ⟨kq_267, by omega⟩) ⟨_, _, rfl, rfl, hI2, hFm2, (by omega)⟩
  · refine s_aload_n kx_267_4 rfl ?_
    refine s_iconst (v := 5) kx_267_5 (by decide) ?_
    refine s_callV2 (k := 63) (s1 := 2) (s2 := 0) (as := [(0, 5)]) (rest := []) kx_267_6 kp_267_255 (Or.inl rfl) rfl (tk_63 hT) ki_218 kcl_218 rfl rfl (by decide) (m_218 (d := d) (kind := 5) hT hI (by omega)) (kW (fun v3 M4 hI4 fr4 v3p => ?_))
    have hFm4 := hFm.call fr4 rfl
    refine s_if_lt (t := 16) kx_267_9 (by decide) (fun hc5 => ?_) (fun hc5 => absurd hc5 (by omega))
    refine s_iconst (v := 0) kx_267_16 (by decide) ?_
    exact s_iret kx_267_17 (Or.inr ⟨kq_267, by omega⟩) ⟨_, _, rfl, rfl, hI4, hFm4, (by omega)⟩
