/-! the law's loop: every call is made on both sides, what goes from call to call holds again -/
section LAW
variable {P : xP} {xs : Nat → Int} {Ln d pc : Nat} {L : List (Nat × cV)} {st : List cV} {T : List cK} {M : cM} {Q : Option cV → cH → Prop}
theorem l_ald {i : Int} (hc : x_code P 0 pc = some (.iaload, 1)) (h0 : 0 ≤ i ∧ i < (Ln : Int)) (k : ∀ v, v = xs i.toNat → cP P xs Ln d 0 (pc + 1) L ((0, v) :: st) (T, M) Q) : cP P xs Ln d 0 pc L ((0, i) :: (4, 0) :: st) (T, M) Q := by
  refine cP.step hc (q := (pc + 1, L, (0, xs i.toNat) :: st, (T, M))) ?_ (k _ rfl)
  show (if (0 : Nat) = 0 ∧ (0 : Nat) = 0 ∧ (0 : Nat) = 0 ∧ 0 ≤ i ∧ i < (Ln : Int) then c_go pc (T, M) 1 L ((0, xs i.toNat) :: st) else none) = _
  exact if_pos ⟨rfl, rfl, rfl, h0.1, h0.2⟩
theorem l_alen (hc : x_code P 0 pc = some (.arraylength, 1)) (k : cP P xs Ln d 0 (pc + 1) L ((0, (Ln : Int)) :: st) (T, M) Q) : cP P xs Ln d 0 pc L ((4, 0) :: st) (T, M) Q := by
  refine cP.step hc (q := (pc + 1, L, (0, (Ln : Int)) :: st, (T, M))) ?_ k
  show (if (0 : Nat) = 0 then c_go pc (T, M) 1 L ((0, (Ln : Int)) :: st) else none) = _
  exact if_pos rfl
end LAW
theorem tw_fin2 {t u : Nat} {M M1 M2 D' : cM} {f N v w : Int} {S S1 : List (Nat × Nat)} (h : ST u M) (hI : Rng M) (hI1 : Rng M1) (hi : 0 ≤ M 63 14 ∧ M 63 14 ≤ 1) (hux : u = 8 ∧ t = 25 ∨ u = 25 ∧ t = 8) (hc : (f ≠ 0 ∧ v = -1 ∧ 1 ≤ M1 0 10 ∧ 0 ≤ M1 0 11 ∧ M1 0 11 < 10000 ∧ 10000 * M1 0 10 + M1 0 11 = f ∧ M1 7 0 = ((u : Nat) : Int) ∧ M1 7 1 = ((t : Nat) : Int) ∧ KT u M M1) ∨ (f = 0 ∧ v = N ∧ 0 ≤ v ∧ M1 0 10 = 0 ∧ M1 0 11 = -1 ∧ M1 7 0 = ((t : Nat) : Int) ∧ M1 7 1 = ((u : Nat) : Int) ∧ owD M1 t = D' ∧ DW D' ∧ TD D')) (g1 : Fr S1 M M1) (hs1 : kbf S1 = true) (hc14 : c_in S1 63 14 = false) (g : Fr S M1 M2) (hk : ktf S = true) (h010 : c_in S 0 10 = false) (h011 : c_in S 0 11 = false) (hc7 : c_in S 7 0 = false) (hc71 : c_in S 7 1 = false) (hw : TwY M1 M2 f N w D') : v = w ∧ FT M2 ∧ ∃ t u : Nat, (u = 8 ∧ t = 25 ∨ u = 25 ∧ t = 8) ∧ M2 7 0 = ((t : Nat) : Int) ∧ M2 7 1 = ((u : Nat) : Int) ∧ ST t M2 := by
  unfold kbf at hs1
  rw [Bool.and_eq_true] at hs1
  exact tw_fin (t' := 0) h hI hi hux hc (g1 63 14 hc14) (fun c hc f => g1 c f (nin (by simp at hc; omega) (List.all_eq_true.mp hs1.2 c hc) f)) hI1 g hk h010 h011 hc7 hc71 hw
theorem tw_wf {t u : Nat} {M M1 M2 D' : cM} {f N v w : Int} (hc : (f ≠ 0 ∧ v = -1 ∧ 1 ≤ M1 0 10 ∧ 0 ≤ M1 0 11 ∧ M1 0 11 < 10000 ∧ 10000 * M1 0 10 + M1 0 11 = f ∧ M1 7 0 = ((u : Nat) : Int) ∧ M1 7 1 = ((t : Nat) : Int) ∧ KT u M M1) ∨ (f = 0 ∧ v = N ∧ 0 ≤ v ∧ M1 0 10 = 0 ∧ M1 0 11 = -1 ∧ M1 7 0 = ((t : Nat) : Int) ∧ M1 7 1 = ((u : Nat) : Int) ∧ owD M1 t = D' ∧ DW D' ∧ TD D')) (hw : TwY M1 M2 f N w D') : ((v = -1 ∧ M1 7 0 = ((u : Nat) : Int) ∧ KT u M M1) ∨ (0 ≤ v ∧ M1 7 0 = ((t : Nat) : Int))) ∧ ((v = -1 ∧ M2 63 14 = M1 63 14) ∨ (0 ≤ v ∧ M2 63 14 = 1 - M1 63 14)) := by
  unfold TwY at hw
  rcases hc with ⟨a1, a2, _, _, _, _, a7, _, a9⟩ | ⟨a1, a2, a3, _, _, a6, _⟩
  · rcases hw with ⟨b1, _, _, _, _, _, b7, _⟩ | ⟨b1, _⟩
    · exact ⟨Or.inl ⟨a2, a7, a9⟩, Or.inl ⟨a2, b7⟩⟩
    · exact absurd b1 a1
  · rcases hw with ⟨b1, _⟩ | ⟨b1, _, _, _, _, b6, _⟩
    · exact absurd a1 b1
    · exact ⟨Or.inr ⟨a3, a6⟩, Or.inr ⟨a3, b6⟩⟩
theorem fd_eq {M M1 M2 : cM} {v w a b c e f : Int} (h2 : M 2 = M 64) (hl : M 1 1 = M 63 1) (h : (1600 < M 1 1 + 20 ∧ v = -1 ∧ M1 1 1 = M 1 1 ∧ M1 2 = M 2) ∨ (M 1 1 + 20 ≤ 1600 ∧ v = M 1 1 + 20 ∧ M1 1 1 = v ∧ M1 2 = tp5 (M 2) (M 1 1) a b c e f)) (h64 : M1 64 = M 64) (h63 : M1 63 1 = M 63 1) (g : (1600 < M1 63 1 + 20 ∧ w = -1 ∧ M2 63 1 = M1 63 1 ∧ M2 64 = M1 64) ∨ (M1 63 1 + 20 ≤ 1600 ∧ w = M1 63 1 + 20 ∧ M2 63 1 = w ∧ M2 64 = tp5 (M1 64) (M1 63 1) a b c e f)) (hf : M2 2 = M1 2) : M2 2 = M2 64 := by
  rw [hf]
  rcases h with ⟨h1, _, _, h3⟩ | ⟨h1, _, _, h3⟩
  · rcases g with ⟨g1, _, _, g3⟩ | ⟨g1, _, _, g3⟩
    · rw [h3, g3, h64, h2]
    · exact absurd h1 (by omega)
  · rcases g with ⟨g1, _, _, g3⟩ | ⟨g1, _, _, g3⟩
    · exact absurd h1 (by omega)
    · rw [h3, g3, h64, h63, h2, hl]
theorem kx_0_164 : x_code k_P 0 164 = some (.aload_n 1, 1) := by decide +kernel
theorem kx_0_165 : x_code k_P 0 165 = some (.aload_n 0, 1) := by decide +kernel
theorem kx_0_166 : x_code k_P 0 166 = some (.iload_n 3, 1) := by decide +kernel
theorem kx_0_167 : x_code k_P 0 167 = some (.iconst 1, 1) := by decide +kernel
theorem kx_0_168 : x_code k_P 0 168 = some (.iadd, 1) := by decide +kernel
theorem kx_0_169 : x_code k_P 0 169 = some (.iaload, 1) := by decide +kernel
theorem kx_0_170 : x_code k_P 0 170 = some (.aload_n 0, 1) := by decide +kernel
theorem kx_0_171 : x_code k_P 0 171 = some (.iload_n 3, 1) := by decide +kernel
theorem kx_0_172 : x_code k_P 0 172 = some (.iconst 2, 1) := by decide +kernel
theorem kx_0_173 : x_code k_P 0 173 = some (.iadd, 1) := by decide +kernel
theorem kx_0_174 : x_code k_P 0 174 = some (.iaload, 1) := by decide +kernel
theorem kx_0_175 : x_code k_P 0 175 = some (.aload_n 0, 1) := by decide +kernel
theorem kx_0_176 : x_code k_P 0 176 = some (.iload_n 3, 1) := by decide +kernel
theorem kx_0_177 : x_code k_P 0 177 = some (.iconst 3, 1) := by decide +kernel
theorem kx_0_178 : x_code k_P 0 178 = some (.iadd, 1) := by decide +kernel
theorem kx_0_179 : x_code k_P 0 179 = some (.iaload, 1) := by decide +kernel
theorem kx_0_180 : x_code k_P 0 180 = some (.aload_n 0, 1) := by decide +kernel
theorem kx_0_181 : x_code k_P 0 181 = some (.iload_n 3, 1) := by decide +kernel
theorem kx_0_182 : x_code k_P 0 182 = some (.iconst 4, 1) := by decide +kernel
theorem kx_0_183 : x_code k_P 0 183 = some (.iadd, 1) := by decide +kernel
theorem kx_0_184 : x_code k_P 0 184 = some (.iaload, 1) := by decide +kernel
theorem kx_0_185 : x_code k_P 0 185 = some (.aload_n 0, 1) := by decide +kernel
theorem kx_0_186 : x_code k_P 0 186 = some (.iload_n 3, 1) := by decide +kernel
theorem kx_0_187 : x_code k_P 0 187 = some (.iconst 5, 1) := by decide +kernel
theorem kx_0_188 : x_code k_P 0 188 = some (.iadd, 1) := by decide +kernel
theorem kx_0_189 : x_code k_P 0 189 = some (.iaload, 1) := by decide +kernel
theorem kx_0_190 : x_code k_P 0 190 = some (.invokevirtual 13, 3) := by decide +kernel
theorem kp_0_13 : x_pool k_P 0 13 = (2, 136, 5) := by decide +kernel
theorem ki_136 : x_mci k_P 136 = 11 := by decide +kernel
theorem kcl_136 : x_maxL k_P 136 ≤ 60 ∧ 6 ≤ x_maxL k_P 136 := by decide +kernel
theorem kx_0_193 : x_code k_P 0 193 = some (.pop, 1) := by decide +kernel
theorem kx_0_194 : x_code k_P 0 194 = some (.aload_n 2, 1) := by decide +kernel
theorem kx_0_195 : x_code k_P 0 195 = some (.aload_n 0, 1) := by decide +kernel
theorem kx_0_196 : x_code k_P 0 196 = some (.iload_n 3, 1) := by decide +kernel
theorem kx_0_197 : x_code k_P 0 197 = some (.iconst 1, 1) := by decide +kernel
theorem kx_0_198 : x_code k_P 0 198 = some (.iadd, 1) := by decide +kernel
theorem kx_0_199 : x_code k_P 0 199 = some (.iaload, 1) := by decide +kernel
theorem kx_0_200 : x_code k_P 0 200 = some (.aload_n 0, 1) := by decide +kernel
theorem kx_0_201 : x_code k_P 0 201 = some (.iload_n 3, 1) := by decide +kernel
theorem kx_0_202 : x_code k_P 0 202 = some (.iconst 2, 1) := by decide +kernel
theorem kx_0_203 : x_code k_P 0 203 = some (.iadd, 1) := by decide +kernel
theorem kx_0_204 : x_code k_P 0 204 = some (.iaload, 1) := by decide +kernel
theorem kx_0_205 : x_code k_P 0 205 = some (.aload_n 0, 1) := by decide +kernel
theorem kx_0_206 : x_code k_P 0 206 = some (.iload_n 3, 1) := by decide +kernel
theorem kx_0_207 : x_code k_P 0 207 = some (.iconst 3, 1) := by decide +kernel
theorem kx_0_208 : x_code k_P 0 208 = some (.iadd, 1) := by decide +kernel
theorem kx_0_209 : x_code k_P 0 209 = some (.iaload, 1) := by decide +kernel
theorem kx_0_210 : x_code k_P 0 210 = some (.aload_n 0, 1) := by decide +kernel
theorem kx_0_211 : x_code k_P 0 211 = some (.iload_n 3, 1) := by decide +kernel
theorem kx_0_212 : x_code k_P 0 212 = some (.iconst 4, 1) := by decide +kernel
theorem kx_0_213 : x_code k_P 0 213 = some (.iadd, 1) := by decide +kernel
theorem kx_0_214 : x_code k_P 0 214 = some (.iaload, 1) := by decide +kernel
theorem kx_0_215 : x_code k_P 0 215 = some (.aload_n 0, 1) := by decide +kernel
theorem kx_0_216 : x_code k_P 0 216 = some (.iload_n 3, 1) := by decide +kernel
theorem kx_0_217 : x_code k_P 0 217 = some (.iconst 5, 1) := by decide +kernel
theorem kx_0_218 : x_code k_P 0 218 = some (.iadd, 1) := by decide +kernel
theorem kx_0_219 : x_code k_P 0 219 = some (.iaload, 1) := by decide +kernel
theorem kx_0_220 : x_code k_P 0 220 = some (.invokevirtual 17, 3) := by decide +kernel
theorem kp_0_17 : x_pool k_P 0 17 = (2, 174, 5) := by decide +kernel
theorem ki_174 : x_mci k_P 174 = 12 := by decide +kernel
theorem kcl_174 : x_maxL k_P 174 ≤ 60 ∧ 6 ≤ x_maxL k_P 174 := by decide +kernel
theorem kx_0_223 : x_code k_P 0 223 = some (.pop, 1) := by decide +kernel
theorem kx_0_224 : x_code k_P 0 224 = some (.goto 797, 3) := by decide +kernel
theorem lw_0 {xs : Nat → Int} {Ln d : Nat} {i : Int} {T : List cK} {M : cM} {Q : Option cV → cH → Prop} (hT : TT T) (hI : Rng M) (hG : Gm T M) (hS : Sg M) (hl : M 1 1 = M 63 1) (h2 : M 2 = M 64) (hft : FT M) {t u : Nat} (ht : t = 8 ∨ t = 25) (hu : u = 8 ∨ u = 25) (h70 : M 7 0 = ((t : Nat) : Int)) (h71 : M 7 1 = ((u : Nat) : Int)) (hux : u = 8 ∧ t = 25 ∨ u = 25 ∧ t = 8) (hst : ST t M) (hsc : SCN t M) (hx : ∀ j, -2147483648 ≤ xs j ∧ xs j ≤ 2147483647) (hi : 0 ≤ i ∧ i + 6 ≤ (Ln : Int) ∧ (Ln : Int) ≤ 3072) (k : ∀ T1 M1, LI T1 M1 → cP k_P xs Ln (d + 88) 0 1021 [(3, (0, i)), (2, rf 63), (1, rf 0), (0, (4, 0))] [] (T1, M1) Q) : cP k_P xs Ln (d + 88) 0 164 [(3, (0, i)), (2, rf 63), (1, rf 0), (0, (4, 0))] [] (T, M) Q := by
  have hr1 := rg_1_1 hI
  have hr63 := rg_63_1 hI
  obtain ⟨D, S, H, hc_, hC, hR, hH, hK⟩ := id hsc
  refine s_aload_n kx_0_164 rfl ?_
  refine s_aload_nS kx_0_165 rfl ?_
  refine s_iload_n kx_0_166 rfl ?_
  refine s_iconst (v := 1) kx_0_167 (by decide) ?_
  refine r_add kx_0_168 ⟨by omega, by omega⟩ ?_
  refine l_ald kx_0_169 ⟨by omega, by omega⟩ (fun v1 v1e => ?_)
  have v1r := hx ((i + 1)).toNat
  refine s_aload_nS kx_0_170 rfl ?_
  refine s_iload_n kx_0_171 rfl ?_
  refine s_iconst (v := 2) kx_0_172 (by decide) ?_
  refine r_add kx_0_173 ⟨by omega, by omega⟩ ?_
  refine l_ald kx_0_174 ⟨by omega, by omega⟩ (fun v2 v2e => ?_)
  have v2r := hx ((i + 2)).toNat
  refine s_aload_nS kx_0_175 rfl ?_
  refine s_iload_n kx_0_176 rfl ?_
  refine s_iconst (v := 3) kx_0_177 (by decide) ?_
  refine r_add kx_0_178 ⟨by omega, by omega⟩ ?_
  refine l_ald kx_0_179 ⟨by omega, by omega⟩ (fun v3 v3e => ?_)
  have v3r := hx ((i + 3)).toNat
  refine s_aload_nS kx_0_180 rfl ?_
  refine s_iload_n kx_0_181 rfl ?_
  refine s_iconst (v := 4) kx_0_182 (by decide) ?_
  refine r_add kx_0_183 ⟨by omega, by omega⟩ ?_
  refine l_ald kx_0_184 ⟨by omega, by omega⟩ (fun v4 v4e => ?_)
  have v4r := hx ((i + 4)).toNat
  refine s_aload_nS kx_0_185 rfl ?_
  refine s_iload_n kx_0_186 rfl ?_
  refine s_iconst (v := 5) kx_0_187 (by decide) ?_
  refine r_add kx_0_188 ⟨by omega, by omega⟩ ?_
  refine l_ald kx_0_189 ⟨by omega, by omega⟩ (fun v5 v5e => ?_)
  have v5r := hx ((i + 5)).toNat
  refine s_callV2 (k := 0) (s1 := 6) (s2 := 0) (as := [(0, v5), (0, v4), (0, v3), (0, v2), (0, v1)]) (rest := []) kx_0_190 kp_0_13 (Or.inl rfl) rfl (tk_0 hT) ki_136 kcl_136 rfl rfl (by decide) (f_136 (d := d + 86) (a := v1) (b := v2) (c := v3) (e := v4) (f := v5) hT hI) (kW (fun v6 M7 hI7 fr7 v6p => ?_))
  have tr8 := (fr7 63 1 rfl)
  refine s_pop kx_0_193 rfl ?_
  refine s_aload_n kx_0_194 rfl ?_
  refine s_aload_nS kx_0_195 rfl ?_
  refine s_iload_n kx_0_196 rfl ?_
  refine s_iconst (v := 1) kx_0_197 (by decide) ?_
  refine r_add kx_0_198 ⟨by omega, by omega⟩ ?_
  refine l_ald kx_0_199 ⟨by omega, by omega⟩ (fun v9 v9e => ?_)
  have v9r := hx ((i + 1)).toNat
  refine s_aload_nS kx_0_200 rfl ?_
  refine s_iload_n kx_0_201 rfl ?_
  refine s_iconst (v := 2) kx_0_202 (by decide) ?_
  refine r_add kx_0_203 ⟨by omega, by omega⟩ ?_
  refine l_ald kx_0_204 ⟨by omega, by omega⟩ (fun v10 v10e => ?_)
  have v10r := hx ((i + 2)).toNat
  refine s_aload_nS kx_0_205 rfl ?_
  refine s_iload_n kx_0_206 rfl ?_
  refine s_iconst (v := 3) kx_0_207 (by decide) ?_
  refine r_add kx_0_208 ⟨by omega, by omega⟩ ?_
  refine l_ald kx_0_209 ⟨by omega, by omega⟩ (fun v11 v11e => ?_)
  have v11r := hx ((i + 3)).toNat
  refine s_aload_nS kx_0_210 rfl ?_
  refine s_iload_n kx_0_211 rfl ?_
  refine s_iconst (v := 4) kx_0_212 (by decide) ?_
  refine r_add kx_0_213 ⟨by omega, by omega⟩ ?_
  refine l_ald kx_0_214 ⟨by omega, by omega⟩ (fun v12 v12e => ?_)
  have v12r := hx ((i + 4)).toNat
  refine s_aload_nS kx_0_215 rfl ?_
  refine s_iload_n kx_0_216 rfl ?_
  refine s_iconst (v := 5) kx_0_217 (by decide) ?_
  refine r_add kx_0_218 ⟨by omega, by omega⟩ ?_
  refine l_ald kx_0_219 ⟨by omega, by omega⟩ (fun v13 v13e => ?_)
  have v13r := hx ((i + 5)).toNat
  refine s_callV2 (k := 63) (s1 := 6) (s2 := 0) (as := [(0, v13), (0, v12), (0, v11), (0, v10), (0, v9)]) (rest := []) kx_0_220 kp_0_17 (Or.inl rfl) rfl (tk_63 hT) ki_174 kcl_174 rfl rfl (by decide) (f_174 (d := d + 86) (a := v9) (b := v10) (c := v11) (e := v12) (f := v13) hT hI7) (kW (fun v14 M15 hI15 fr15 v14p => ?_))
  have tr16 := (fr15 1 1 rfl)
  rw [show v9 = v1 from v9e.trans v1e.symm, show v10 = v2 from v10e.trans v2e.symm, show v11 = v3 from v11e.trans v3e.symm, show v12 = v4 from v12e.trans v4e.symm, show v13 = v5 from v13e.trans v5e.symm] at v14p
  have hfd := fd_eq h2 hl v6p (funext fun i => fr7 64 i rfl) (fr7 63 1 rfl) v14p (funext fun i => fr15 2 i rfl)
  refine s_pop kx_0_223 rfl ?_
  refine s_goto (t := 1021) kx_0_224 (by decide) ?_
  exact k T M15 ⟨hT, hI15, (Gm.fr (Gm.fr hG fr7 rfl) fr15 rfl), (Sg.fr (Sg.fr hS fr7 rfl) fr15 rfl), by omega, hfd, (FT.fr (FT.fr hft fr7 rfl) fr15 rfl), t, u, hux, ((fr15 7 0 rfl).trans ((fr7 7 0 rfl).trans h70)), ((fr15 7 1 rfl).trans ((fr7 7 1 rfl).trans h71)), (ST.fr (ST.fr hst fr7 ht rfl) fr15 ht rfl), (SCN.fr (SCN.fr hsc fr7 ht rfl) fr15 ht rfl)⟩
theorem kx_0_227 : x_code k_P 0 227 = some (.aload_n 1, 1) := by decide +kernel
theorem kx_0_228 : x_code k_P 0 228 = some (.aload_n 0, 1) := by decide +kernel
theorem kx_0_229 : x_code k_P 0 229 = some (.iload_n 3, 1) := by decide +kernel
theorem kx_0_230 : x_code k_P 0 230 = some (.iconst 1, 1) := by decide +kernel
theorem kx_0_231 : x_code k_P 0 231 = some (.iadd, 1) := by decide +kernel
theorem kx_0_232 : x_code k_P 0 232 = some (.iaload, 1) := by decide +kernel
theorem kx_0_233 : x_code k_P 0 233 = some (.invokevirtual 18, 3) := by decide +kernel
theorem kp_0_18 : x_pool k_P 0 18 = (2, 137, 1) := by decide +kernel
theorem ki_137 : x_mci k_P 137 = 11 := by decide +kernel
theorem kcl_137 : x_maxL k_P 137 ≤ 60 ∧ 2 ≤ x_maxL k_P 137 := by decide +kernel
theorem kx_0_236 : x_code k_P 0 236 = some (.pop, 1) := by decide +kernel
theorem kx_0_237 : x_code k_P 0 237 = some (.aload_n 2, 1) := by decide +kernel
theorem kx_0_238 : x_code k_P 0 238 = some (.aload_n 0, 1) := by decide +kernel
theorem kx_0_239 : x_code k_P 0 239 = some (.iload_n 3, 1) := by decide +kernel
theorem kx_0_240 : x_code k_P 0 240 = some (.iconst 1, 1) := by decide +kernel
theorem kx_0_241 : x_code k_P 0 241 = some (.iadd, 1) := by decide +kernel
theorem kx_0_242 : x_code k_P 0 242 = some (.iaload, 1) := by decide +kernel
theorem kx_0_243 : x_code k_P 0 243 = some (.invokevirtual 22, 3) := by decide +kernel
theorem kp_0_22 : x_pool k_P 0 22 = (2, 175, 1) := by decide +kernel
theorem ki_175 : x_mci k_P 175 = 12 := by decide +kernel
theorem kcl_175 : x_maxL k_P 175 ≤ 60 ∧ 2 ≤ x_maxL k_P 175 := by decide +kernel
theorem kx_0_246 : x_code k_P 0 246 = some (.pop, 1) := by decide +kernel
theorem kx_0_247 : x_code k_P 0 247 = some (.goto 774, 3) := by decide +kernel
theorem lw_1 {xs : Nat → Int} {Ln d : Nat} {i : Int} {T : List cK} {M : cM} {Q : Option cV → cH → Prop} (hT : TT T) (hI : Rng M) (hG : Gm T M) (hS : Sg M) (hl : M 1 1 = M 63 1) (h2 : M 2 = M 64) (hft : FT M) {t u : Nat} (ht : t = 8 ∨ t = 25) (hu : u = 8 ∨ u = 25) (h70 : M 7 0 = ((t : Nat) : Int)) (h71 : M 7 1 = ((u : Nat) : Int)) (hux : u = 8 ∧ t = 25 ∨ u = 25 ∧ t = 8) (hst : ST t M) (hsc : SCN t M) (hx : ∀ j, -2147483648 ≤ xs j ∧ xs j ≤ 2147483647) (hi : 0 ≤ i ∧ i + 6 ≤ (Ln : Int) ∧ (Ln : Int) ≤ 3072) (k : ∀ T1 M1, LI T1 M1 → cP k_P xs Ln (d + 88) 0 1021 [(3, (0, i)), (2, rf 63), (1, rf 0), (0, (4, 0))] [] (T1, M1) Q) : cP k_P xs Ln (d + 88) 0 227 [(3, (0, i)), (2, rf 63), (1, rf 0), (0, (4, 0))] [] (T, M) Q := by
  have hr1 := rg_1_1 hI
  have hr63 := rg_63_1 hI
  obtain ⟨D, S, H, hc_, hC, hR, hH, hK⟩ := id hsc
  refine s_aload_n kx_0_227 rfl ?_
  refine s_aload_nS kx_0_228 rfl ?_
  refine s_iload_n kx_0_229 rfl ?_
  refine s_iconst (v := 1) kx_0_230 (by decide) ?_
  refine r_add kx_0_231 ⟨by omega, by omega⟩ ?_
  refine l_ald kx_0_232 ⟨by omega, by omega⟩ (fun v1 v1e => ?_)
  have v1r := hx ((i + 1)).toNat
  refine s_callV2 (k := 0) (s1 := 2) (s2 := 0) (as := [(0, v1)]) (rest := []) kx_0_233 kp_0_18 (Or.inl rfl) rfl (tk_0 hT) ki_137 kcl_137 rfl rfl (by decide) (m_137 (d := d + 86) (n := v1) hT hI) (kW (fun v2 M3 hI3 fr3 v2p => ?_))
  have tr4 := (fr3 63 1 rfl)
  refine s_pop kx_0_236 rfl ?_
  refine s_aload_n kx_0_237 rfl ?_
  refine s_aload_nS kx_0_238 rfl ?_
  refine s_iload_n kx_0_239 rfl ?_
  refine s_iconst (v := 1) kx_0_240 (by decide) ?_
  refine r_add kx_0_241 ⟨by omega, by omega⟩ ?_
  refine l_ald kx_0_242 ⟨by omega, by omega⟩ (fun v5 v5e => ?_)
  have v5r := hx ((i + 1)).toNat
  refine s_callV2 (k := 63) (s1 := 2) (s2 := 0) (as := [(0, v5)]) (rest := []) kx_0_243 kp_0_22 (Or.inl rfl) rfl (tk_63 hT) ki_175 kcl_175 rfl rfl (by decide) (m_175 (d := d + 86) (n := v5) hT hI3) (kW (fun v6 M7 hI7 fr7 v6p => ?_))
  have tr8 := (fr7 1 1 rfl)
  refine s_pop kx_0_246 rfl ?_
  refine s_goto (t := 1021) kx_0_247 (by decide) ?_
  exact k T M7 ⟨hT, hI7, (Gm.fr (Gm.fr hG fr3 rfl) fr7 rfl), (Sg.fr (Sg.fr hS fr3 rfl) fr7 rfl), by omega, (((funext fun i => ((fr7 2 _ rfl).trans (fr3 2 _ rfl))).trans h2).trans (funext fun i => ((fr7 64 _ rfl).trans (fr3 64 _ rfl))).symm), (FT.fr (FT.fr hft fr3 rfl) fr7 rfl), t, u, hux, ((fr7 7 0 rfl).trans ((fr3 7 0 rfl).trans h70)), ((fr7 7 1 rfl).trans ((fr3 7 1 rfl).trans h71)), (ST.fr (ST.fr hst fr3 ht rfl) fr7 ht rfl), (SCN.fr (SCN.fr hsc fr3 ht rfl) fr7 ht rfl)⟩
theorem kx_0_250 : x_code k_P 0 250 = some (.aload_n 1, 1) := by decide +kernel
theorem kx_0_251 : x_code k_P 0 251 = some (.invokevirtual 23, 3) := by decide +kernel
theorem kp_0_23 : x_pool k_P 0 23 = (2, 138, 0) := by decide +kernel
theorem ki_138 : x_mci k_P 138 = 11 := by decide +kernel
theorem kcl_138 : x_maxL k_P 138 ≤ 60 ∧ 1 ≤ x_maxL k_P 138 := by decide +kernel
theorem kx_0_254 : x_code k_P 0 254 = some (.pop, 1) := by decide +kernel
theorem kx_0_255 : x_code k_P 0 255 = some (.aload_n 2, 1) := by decide +kernel
theorem kx_0_256 : x_code k_P 0 256 = some (.invokevirtual 27, 3) := by decide +kernel
theorem kp_0_27 : x_pool k_P 0 27 = (2, 216, 0) := by decide +kernel
theorem ki_216 : x_mci k_P 216 = 12 := by decide +kernel
theorem kcl_216 : x_maxL k_P 216 ≤ 60 ∧ 1 ≤ x_maxL k_P 216 := by decide +kernel
theorem kx_0_259 : x_code k_P 0 259 = some (.pop, 1) := by decide +kernel
theorem kx_0_260 : x_code k_P 0 260 = some (.goto 761, 3) := by decide +kernel
theorem lw_2 {xs : Nat → Int} {Ln d : Nat} {i : Int} {T : List cK} {M : cM} {Q : Option cV → cH → Prop} (hT : TT T) (hI : Rng M) (hG : Gm T M) (hS : Sg M) (hl : M 1 1 = M 63 1) (h2 : M 2 = M 64) (hft : FT M) {t u : Nat} (ht : t = 8 ∨ t = 25) (hu : u = 8 ∨ u = 25) (h71 : M 7 1 = ((t : Nat) : Int)) (h7u : M 7 0 = ((u : Nat) : Int)) (hux : u = 8 ∧ t = 25 ∨ u = 25 ∧ t = 8) (hst : ST u M) (hsc : SCN u M) (hx : ∀ j, -2147483648 ≤ xs j ∧ xs j ≤ 2147483647) (hi : 0 ≤ i ∧ i + 6 ≤ (Ln : Int) ∧ (Ln : Int) ≤ 3072) (k : ∀ T1 M1, LI T1 M1 → cP k_P xs Ln (d + 88) 0 1021 [(3, (0, i)), (2, rf 63), (1, rf 0), (0, (4, 0))] [] (T1, M1) Q) : cP k_P xs Ln (d + 88) 0 250 [(3, (0, i)), (2, rf 63), (1, rf 0), (0, (4, 0))] [] (T, M) Q := by
  have hr1 := rg_1_1 hI
  have hr63 := rg_63_1 hI
  refine s_aload_n kx_0_250 rfl ?_
  refine s_callV2 (k := 0) (s1 := 1) (s2 := 0) (as := []) (rest := []) kx_0_251 kp_0_23 (Or.inl rfl) rfl (tk_0 hT) ki_138 kcl_138 rfl rfl (by decide) (fg_138 (d := d) hT hI hG ht hu h71 h7u hux) (kG (fun v1 T2 M2 hT2 hI2 fr2 hG2 v1p => ?_))
  have tr3 := (fr2 63 1 rfl)
  obtain ⟨f_, N_, D0, D1, hrd, hDC, hcl⟩ := v1p.1.2.2
  have hs64 : M2 64 = M 2 := (funext fun i => fr2 64 i rfl).trans h2.symm
  have hsz1 : M2 63 1 = M 1 1 := (fr2 63 1 rfl).trans hl.symm
  refine s_pop kx_0_254 rfl ?_
  refine s_aload_n kx_0_255 rfl ?_
  refine s_callV2 (k := 63) (s1 := 1) (s2 := 0) (as := []) (rest := []) kx_0_256 kp_0_27 (Or.inl rfl) rfl (tk_63 hT2) ki_216 kcl_216 rfl rfl (by decide) (fg_216 (d := d + 80) hT2 hI2 (Sg.fr hS fr2 rfl) hs64 hsz1 hrd hDC) (kW (fun v4 M5 hI5 fr5 v4p => ?_))
  have tr6 := (fr5 1 1 rfl)
  obtain ⟨htw, hft2, t2, u2, hux2, e70, e71, hst2⟩ := tw_fin2 hst hI hI2 (rg_63_14 hI) hux hcl fr2 rfl rfl fr5 rfl rfl rfl rfl rfl v4p.1.2.2
  have hwf := tw_wf hcl v4p.1.2.2
  have hsc2 : SCN t2 M5 := tw_scn (t := t) (u := u) hsc hI5 (by omega) hst2 e70 (rg_63_14 hI).1 hwf.1 v1p.2 hwf.2 v4p.2 fr2 rfl fr5 rfl
  refine s_pop kx_0_259 rfl ?_
  refine s_goto (t := 1021) kx_0_260 (by decide) ?_
  exact k T2 M5 ⟨hT2, hI5, (Gm.fr hG2 fr5 rfl), v4p.1.2.1, by omega, (((funext fun i => ((fr5 2 _ rfl).trans (fr2 2 _ rfl))).trans h2).trans (funext fun i => ((fr5 64 _ rfl).trans (fr2 64 _ rfl))).symm), hft2, t2, u2, hux2, e70, e71, hst2, hsc2⟩
theorem kx_0_263 : x_code k_P 0 263 = some (.aload_n 1, 1) := by decide +kernel
theorem kx_0_264 : x_code k_P 0 264 = some (.aload_n 0, 1) := by decide +kernel
theorem kx_0_265 : x_code k_P 0 265 = some (.iload_n 3, 1) := by decide +kernel
theorem kx_0_266 : x_code k_P 0 266 = some (.iconst 1, 1) := by decide +kernel
theorem kx_0_267 : x_code k_P 0 267 = some (.iadd, 1) := by decide +kernel
theorem kx_0_268 : x_code k_P 0 268 = some (.iaload, 1) := by decide +kernel
theorem kx_0_269 : x_code k_P 0 269 = some (.invokevirtual 28, 3) := by decide +kernel
theorem kp_0_28 : x_pool k_P 0 28 = (2, 139, 1) := by decide +kernel
theorem ki_139 : x_mci k_P 139 = 11 := by decide +kernel
theorem kcl_139 : x_maxL k_P 139 ≤ 60 ∧ 2 ≤ x_maxL k_P 139 := by decide +kernel
theorem kx_0_272 : x_code k_P 0 272 = some (.pop, 1) := by decide +kernel
theorem kx_0_273 : x_code k_P 0 273 = some (.aload_n 2, 1) := by decide +kernel
theorem kx_0_274 : x_code k_P 0 274 = some (.aload_n 0, 1) := by decide +kernel
theorem kx_0_275 : x_code k_P 0 275 = some (.iload_n 3, 1) := by decide +kernel
theorem kx_0_276 : x_code k_P 0 276 = some (.iconst 1, 1) := by decide +kernel
theorem kx_0_277 : x_code k_P 0 277 = some (.iadd, 1) := by decide +kernel
theorem kx_0_278 : x_code k_P 0 278 = some (.iaload, 1) := by decide +kernel
theorem kx_0_279 : x_code k_P 0 279 = some (.invokevirtual 32, 3) := by decide +kernel
theorem kp_0_32 : x_pool k_P 0 32 = (2, 217, 1) := by decide +kernel
theorem ki_217 : x_mci k_P 217 = 12 := by decide +kernel
theorem kcl_217 : x_maxL k_P 217 ≤ 60 ∧ 2 ≤ x_maxL k_P 217 := by decide +kernel
theorem kx_0_282 : x_code k_P 0 282 = some (.pop, 1) := by decide +kernel
theorem kx_0_283 : x_code k_P 0 283 = some (.goto 738, 3) := by decide +kernel
theorem lw_3 {xs : Nat → Int} {Ln d : Nat} {i : Int} {T : List cK} {M : cM} {Q : Option cV → cH → Prop} (hT : TT T) (hI : Rng M) (hG : Gm T M) (hS : Sg M) (hl : M 1 1 = M 63 1) (h2 : M 2 = M 64) (hft : FT M) {t u : Nat} (ht : t = 8 ∨ t = 25) (hu : u = 8 ∨ u = 25) (h70 : M 7 0 = ((t : Nat) : Int)) (h71 : M 7 1 = ((u : Nat) : Int)) (hux : u = 8 ∧ t = 25 ∨ u = 25 ∧ t = 8) (hst : ST t M) (hsc : SCN t M) (hx : ∀ j, -2147483648 ≤ xs j ∧ xs j ≤ 2147483647) (hi : 0 ≤ i ∧ i + 6 ≤ (Ln : Int) ∧ (Ln : Int) ≤ 3072) (k : ∀ T1 M1, LI T1 M1 → cP k_P xs Ln (d + 88) 0 1021 [(3, (0, i)), (2, rf 63), (1, rf 0), (0, (4, 0))] [] (T1, M1) Q) : cP k_P xs Ln (d + 88) 0 263 [(3, (0, i)), (2, rf 63), (1, rf 0), (0, (4, 0))] [] (T, M) Q := by
  have hr1 := rg_1_1 hI
  have hr63 := rg_63_1 hI
  obtain ⟨D, S, H, hc_, hC, hR, hH, hK⟩ := id hsc
  refine s_aload_n kx_0_263 rfl ?_
  refine s_aload_nS kx_0_264 rfl ?_
  refine s_iload_n kx_0_265 rfl ?_
  refine s_iconst (v := 1) kx_0_266 (by decide) ?_
  refine r_add kx_0_267 ⟨by omega, by omega⟩ ?_
  refine l_ald kx_0_268 ⟨by omega, by omega⟩ (fun v1 v1e => ?_)
  have v1r := hx ((i + 1)).toNat
  refine s_callV2 (k := 0) (s1 := 2) (s2 := 0) (as := [(0, v1)]) (rest := []) kx_0_269 kp_0_28 (Or.inl rfl) rfl (tk_0 hT) ki_139 kcl_139 rfl rfl (by decide) (f_139 (d := d + 87) (what := v1) hT hI) (kF (fun v2 v2p => ?_))
  refine s_pop kx_0_272 rfl ?_
  refine s_aload_n kx_0_273 rfl ?_
  refine s_aload_nS kx_0_274 rfl ?_
  refine s_iload_n kx_0_275 rfl ?_
  refine s_iconst (v := 1) kx_0_276 (by decide) ?_
  refine r_add kx_0_277 ⟨by omega, by omega⟩ ?_
  refine l_ald kx_0_278 ⟨by omega, by omega⟩ (fun v3 v3e => ?_)
  have v3r := hx ((i + 1)).toNat
  refine s_callV2 (k := 63) (s1 := 2) (s2 := 0) (as := [(0, v3)]) (rest := []) kx_0_279 kp_0_32 (Or.inl rfl) rfl (tk_63 hT) ki_217 kcl_217 rfl rfl (by decide) (f_217 (d := d + 87) (what := v3) hT hI) (kF (fun v4 v4p => ?_))
  refine s_pop kx_0_282 rfl ?_
  refine s_goto (t := 1021) kx_0_283 (by decide) ?_
  exact k T M ⟨hT, hI, hG, hS, by omega, (((funext fun i => rfl).trans h2).trans (funext fun i => rfl).symm), hft, t, u, hux, h70, h71, hst, hsc⟩
theorem kx_0_286 : x_code k_P 0 286 = some (.aload_n 1, 1) := by decide +kernel
theorem kx_0_287 : x_code k_P 0 287 = some (.aload_n 0, 1) := by decide +kernel
theorem kx_0_288 : x_code k_P 0 288 = some (.iload_n 3, 1) := by decide +kernel
theorem kx_0_289 : x_code k_P 0 289 = some (.iconst 1, 1) := by decide +kernel
theorem kx_0_290 : x_code k_P 0 290 = some (.iadd, 1) := by decide +kernel
theorem kx_0_291 : x_code k_P 0 291 = some (.iaload, 1) := by decide +kernel
theorem kx_0_292 : x_code k_P 0 292 = some (.invokevirtual 33, 3) := by decide +kernel
theorem kp_0_33 : x_pool k_P 0 33 = (2, 140, 1) := by decide +kernel
theorem ki_140 : x_mci k_P 140 = 11 := by decide +kernel
theorem kcl_140 : x_maxL k_P 140 ≤ 60 ∧ 2 ≤ x_maxL k_P 140 := by decide +kernel
theorem kx_0_295 : x_code k_P 0 295 = some (.pop, 1) := by decide +kernel
theorem kx_0_296 : x_code k_P 0 296 = some (.aload_n 2, 1) := by decide +kernel
theorem kx_0_297 : x_code k_P 0 297 = some (.aload_n 0, 1) := by decide +kernel
theorem kx_0_298 : x_code k_P 0 298 = some (.iload_n 3, 1) := by decide +kernel
theorem kx_0_299 : x_code k_P 0 299 = some (.iconst 1, 1) := by decide +kernel
theorem kx_0_300 : x_code k_P 0 300 = some (.iadd, 1) := by decide +kernel
theorem kx_0_301 : x_code k_P 0 301 = some (.iaload, 1) := by decide +kernel
theorem kx_0_302 : x_code k_P 0 302 = some (.invokevirtual 36, 3) := by decide +kernel
theorem kp_0_36 : x_pool k_P 0 36 = (2, 246, 1) := by decide +kernel
theorem ki_246 : x_mci k_P 246 = 12 := by decide +kernel
theorem kcl_246 : x_maxL k_P 246 ≤ 60 ∧ 2 ≤ x_maxL k_P 246 := by decide +kernel
theorem kx_0_305 : x_code k_P 0 305 = some (.pop, 1) := by decide +kernel
theorem kx_0_306 : x_code k_P 0 306 = some (.goto 715, 3) := by decide +kernel
theorem lw_4 {xs : Nat → Int} {Ln d : Nat} {i : Int} {T : List cK} {M : cM} {Q : Option cV → cH → Prop} (hT : TT T) (hI : Rng M) (hG : Gm T M) (hS : Sg M) (hl : M 1 1 = M 63 1) (h2 : M 2 = M 64) (hft : FT M) {t u : Nat} (ht : t = 8 ∨ t = 25) (hu : u = 8 ∨ u = 25) (h70 : M 7 0 = ((t : Nat) : Int)) (h71 : M 7 1 = ((u : Nat) : Int)) (hux : u = 8 ∧ t = 25 ∨ u = 25 ∧ t = 8) (hst : ST t M) (hsc : SCN t M) (hx : ∀ j, -2147483648 ≤ xs j ∧ xs j ≤ 2147483647) (hi : 0 ≤ i ∧ i + 6 ≤ (Ln : Int) ∧ (Ln : Int) ≤ 3072) (k : ∀ T1 M1, LI T1 M1 → cP k_P xs Ln (d + 88) 0 1021 [(3, (0, i)), (2, rf 63), (1, rf 0), (0, (4, 0))] [] (T1, M1) Q) : cP k_P xs Ln (d + 88) 0 286 [(3, (0, i)), (2, rf 63), (1, rf 0), (0, (4, 0))] [] (T, M) Q := by
  have hr1 := rg_1_1 hI
  have hr63 := rg_63_1 hI
  obtain ⟨D, S, H, hc_, hC, hR, hH, hK⟩ := id hsc
  refine s_aload_n kx_0_286 rfl ?_
  refine s_aload_nS kx_0_287 rfl ?_
  refine s_iload_n kx_0_288 rfl ?_
  refine s_iconst (v := 1) kx_0_289 (by decide) ?_
  refine r_add kx_0_290 ⟨by omega, by omega⟩ ?_
  refine l_ald kx_0_291 ⟨by omega, by omega⟩ (fun v1 v1e => ?_)
  have v1r := hx ((i + 1)).toNat
  refine s_callV2 (k := 0) (s1 := 2) (s2 := 0) (as := [(0, v1)]) (rest := []) kx_0_292 kp_0_33 (Or.inl rfl) rfl (tk_0 hT) ki_140 kcl_140 rfl rfl (by decide) (m_140 (d := d + 83) (what := v1) hT hI ht h70) (kF (fun v2 v2p => ?_))
  refine s_pop kx_0_295 rfl ?_
  refine s_aload_n kx_0_296 rfl ?_
  refine s_aload_nS kx_0_297 rfl ?_
  refine s_iload_n kx_0_298 rfl ?_
  refine s_iconst (v := 1) kx_0_299 (by decide) ?_
  refine r_add kx_0_300 ⟨by omega, by omega⟩ ?_
  refine l_ald kx_0_301 ⟨by omega, by omega⟩ (fun v3 v3e => ?_)
  have v3r := hx ((i + 1)).toNat
  refine s_callV2 (k := 63) (s1 := 2) (s2 := 0) (as := [(0, v3)]) (rest := []) kx_0_302 kp_0_36 (Or.inl rfl) rfl (tk_63 hT) ki_246 kcl_246 rfl rfl (by decide) (m_246 (d := d + 84) (what := v3) hT hI) (kF (fun v4 v4p => ?_))
  refine s_pop kx_0_305 rfl ?_
  refine s_goto (t := 1021) kx_0_306 (by decide) ?_
  exact k T M ⟨hT, hI, hG, hS, by omega, (((funext fun i => rfl).trans h2).trans (funext fun i => rfl).symm), hft, t, u, hux, h70, h71, hst, hsc⟩
theorem kx_0_309 : x_code k_P 0 309 = some (.aload_n 1, 1) := by decide +kernel
theorem kx_0_310 : x_code k_P 0 310 = some (.aload_n 0, 1) := by decide +kernel
theorem kx_0_311 : x_code k_P 0 311 = some (.iload_n 3, 1) := by decide +kernel
theorem kx_0_312 : x_code k_P 0 312 = some (.iconst 1, 1) := by decide +kernel
theorem kx_0_313 : x_code k_P 0 313 = some (.iadd, 1) := by decide +kernel
theorem kx_0_314 : x_code k_P 0 314 = some (.iaload, 1) := by decide +kernel
theorem kx_0_315 : x_code k_P 0 315 = some (.aload_n 0, 1) := by decide +kernel
theorem kx_0_316 : x_code k_P 0 316 = some (.iload_n 3, 1) := by decide +kernel
theorem kx_0_317 : x_code k_P 0 317 = some (.iconst 2, 1) := by decide +kernel
theorem kx_0_318 : x_code k_P 0 318 = some (.iadd, 1) := by decide +kernel
theorem kx_0_319 : x_code k_P 0 319 = some (.iaload, 1) := by decide +kernel
theorem kx_0_320 : x_code k_P 0 320 = some (.aload_n 0, 1) := by decide +kernel
theorem kx_0_321 : x_code k_P 0 321 = some (.iload_n 3, 1) := by decide +kernel
theorem kx_0_322 : x_code k_P 0 322 = some (.iconst 3, 1) := by decide +kernel
theorem kx_0_323 : x_code k_P 0 323 = some (.iadd, 1) := by decide +kernel
theorem kx_0_324 : x_code k_P 0 324 = some (.iaload, 1) := by decide +kernel
theorem kx_0_325 : x_code k_P 0 325 = some (.invokevirtual 37, 3) := by decide +kernel
theorem kp_0_37 : x_pool k_P 0 37 = (2, 141, 3) := by decide +kernel
theorem ki_141 : x_mci k_P 141 = 11 := by decide +kernel
theorem kcl_141 : x_maxL k_P 141 ≤ 60 ∧ 4 ≤ x_maxL k_P 141 := by decide +kernel
theorem kx_0_328 : x_code k_P 0 328 = some (.pop, 1) := by decide +kernel
theorem kx_0_329 : x_code k_P 0 329 = some (.aload_n 2, 1) := by decide +kernel
theorem kx_0_330 : x_code k_P 0 330 = some (.aload_n 0, 1) := by decide +kernel
theorem kx_0_331 : x_code k_P 0 331 = some (.iload_n 3, 1) := by decide +kernel
theorem kx_0_332 : x_code k_P 0 332 = some (.iconst 1, 1) := by decide +kernel
theorem kx_0_333 : x_code k_P 0 333 = some (.iadd, 1) := by decide +kernel
theorem kx_0_334 : x_code k_P 0 334 = some (.iaload, 1) := by decide +kernel
theorem kx_0_335 : x_code k_P 0 335 = some (.aload_n 0, 1) := by decide +kernel
theorem kx_0_336 : x_code k_P 0 336 = some (.iload_n 3, 1) := by decide +kernel
theorem kx_0_337 : x_code k_P 0 337 = some (.iconst 2, 1) := by decide +kernel
theorem kx_0_338 : x_code k_P 0 338 = some (.iadd, 1) := by decide +kernel
theorem kx_0_339 : x_code k_P 0 339 = some (.iaload, 1) := by decide +kernel
theorem kx_0_340 : x_code k_P 0 340 = some (.aload_n 0, 1) := by decide +kernel
theorem kx_0_341 : x_code k_P 0 341 = some (.iload_n 3, 1) := by decide +kernel
theorem kx_0_342 : x_code k_P 0 342 = some (.iconst 3, 1) := by decide +kernel
theorem kx_0_343 : x_code k_P 0 343 = some (.iadd, 1) := by decide +kernel
theorem kx_0_344 : x_code k_P 0 344 = some (.iaload, 1) := by decide +kernel
theorem kx_0_345 : x_code k_P 0 345 = some (.invokevirtual 41, 3) := by decide +kernel
theorem kp_0_41 : x_pool k_P 0 41 = (2, 247, 3) := by decide +kernel
theorem ki_247 : x_mci k_P 247 = 12 := by decide +kernel
theorem kcl_247 : x_maxL k_P 247 ≤ 60 ∧ 4 ≤ x_maxL k_P 247 := by decide +kernel
theorem kx_0_348 : x_code k_P 0 348 = some (.pop, 1) := by decide +kernel
theorem kx_0_349 : x_code k_P 0 349 = some (.goto 672, 3) := by decide +kernel
theorem lw_5 {xs : Nat → Int} {Ln d : Nat} {i : Int} {T : List cK} {M : cM} {Q : Option cV → cH → Prop} (hT : TT T) (hI : Rng M) (hG : Gm T M) (hS : Sg M) (hl : M 1 1 = M 63 1) (h2 : M 2 = M 64) (hft : FT M) {t u : Nat} (ht : t = 8 ∨ t = 25) (hu : u = 8 ∨ u = 25) (h70 : M 7 0 = ((t : Nat) : Int)) (h71 : M 7 1 = ((u : Nat) : Int)) (hux : u = 8 ∧ t = 25 ∨ u = 25 ∧ t = 8) (hst : ST t M) (hsc : SCN t M) (hx : ∀ j, -2147483648 ≤ xs j ∧ xs j ≤ 2147483647) (hi : 0 ≤ i ∧ i + 6 ≤ (Ln : Int) ∧ (Ln : Int) ≤ 3072) (k : ∀ T1 M1, LI T1 M1 → cP k_P xs Ln (d + 88) 0 1021 [(3, (0, i)), (2, rf 63), (1, rf 0), (0, (4, 0))] [] (T1, M1) Q) : cP k_P xs Ln (d + 88) 0 309 [(3, (0, i)), (2, rf 63), (1, rf 0), (0, (4, 0))] [] (T, M) Q := by
  have hr1 := rg_1_1 hI
  have hr63 := rg_63_1 hI
  obtain ⟨D, S, H, hc_, hC, hR, hH, hK⟩ := id hsc
  refine s_aload_n kx_0_309 rfl ?_
  refine s_aload_nS kx_0_310 rfl ?_
  refine s_iload_n kx_0_311 rfl ?_
  refine s_iconst (v := 1) kx_0_312 (by decide) ?_
  refine r_add kx_0_313 ⟨by omega, by omega⟩ ?_
  refine l_ald kx_0_314 ⟨by omega, by omega⟩ (fun v1 v1e => ?_)
  have v1r := hx ((i + 1)).toNat
  refine s_aload_nS kx_0_315 rfl ?_
  refine s_iload_n kx_0_316 rfl ?_
  refine s_iconst (v := 2) kx_0_317 (by decide) ?_
  refine r_add kx_0_318 ⟨by omega, by omega⟩ ?_
  refine l_ald kx_0_319 ⟨by omega, by omega⟩ (fun v2 v2e => ?_)
  have v2r := hx ((i + 2)).toNat
  refine s_aload_nS kx_0_320 rfl ?_
  refine s_iload_n kx_0_321 rfl ?_
  refine s_iconst (v := 3) kx_0_322 (by decide) ?_
  refine r_add kx_0_323 ⟨by omega, by omega⟩ ?_
  refine l_ald kx_0_324 ⟨by omega, by omega⟩ (fun v3 v3e => ?_)
  have v3r := hx ((i + 3)).toNat
  refine s_callV2 (k := 0) (s1 := 4) (s2 := 0) (as := [(0, v3), (0, v2), (0, v1)]) (rest := []) kx_0_325 kp_0_37 (Or.inl rfl) rfl (tk_0 hT) ki_141 kcl_141 rfl rfl (by decide) (m_141 (d := d + 86) (kind := v1) (which := v2) (k := v3) hT hI ht h70) (kF (fun v4 v4p => ?_))
  refine s_pop kx_0_328 rfl ?_
  refine s_aload_n kx_0_329 rfl ?_
  refine s_aload_nS kx_0_330 rfl ?_
  refine s_iload_n kx_0_331 rfl ?_
  refine s_iconst (v := 1) kx_0_332 (by decide) ?_
  refine r_add kx_0_333 ⟨by omega, by omega⟩ ?_
  refine l_ald kx_0_334 ⟨by omega, by omega⟩ (fun v5 v5e => ?_)
  have v5r := hx ((i + 1)).toNat
  refine s_aload_nS kx_0_335 rfl ?_
  refine s_iload_n kx_0_336 rfl ?_
  refine s_iconst (v := 2) kx_0_337 (by decide) ?_
  refine r_add kx_0_338 ⟨by omega, by omega⟩ ?_
  refine l_ald kx_0_339 ⟨by omega, by omega⟩ (fun v6 v6e => ?_)
  have v6r := hx ((i + 2)).toNat
  refine s_aload_nS kx_0_340 rfl ?_
  refine s_iload_n kx_0_341 rfl ?_
  refine s_iconst (v := 3) kx_0_342 (by decide) ?_
  refine r_add kx_0_343 ⟨by omega, by omega⟩ ?_
  refine l_ald kx_0_344 ⟨by omega, by omega⟩ (fun v7 v7e => ?_)
  have v7r := hx ((i + 3)).toNat
  refine s_callV2 (k := 63) (s1 := 4) (s2 := 0) (as := [(0, v7), (0, v6), (0, v5)]) (rest := []) kx_0_345 kp_0_41 (Or.inl rfl) rfl (tk_63 hT) ki_247 kcl_247 rfl rfl (by decide) (m_247 (d := d + 86) (of_ := v5) (which := v6) (k := v7) hT hI) (kF (fun v8 v8p => ?_))
  refine s_pop kx_0_348 rfl ?_
  refine s_goto (t := 1021) kx_0_349 (by decide) ?_
  exact k T M ⟨hT, hI, hG, hS, by omega, (((funext fun i => rfl).trans h2).trans (funext fun i => rfl).symm), hft, t, u, hux, h70, h71, hst, hsc⟩
theorem kx_0_352 : x_code k_P 0 352 = some (.aload_n 1, 1) := by decide +kernel
theorem kx_0_353 : x_code k_P 0 353 = some (.aload_n 0, 1) := by decide +kernel
theorem kx_0_354 : x_code k_P 0 354 = some (.iload_n 3, 1) := by decide +kernel
theorem kx_0_355 : x_code k_P 0 355 = some (.iconst 1, 1) := by decide +kernel
theorem kx_0_356 : x_code k_P 0 356 = some (.iadd, 1) := by decide +kernel
theorem kx_0_357 : x_code k_P 0 357 = some (.iaload, 1) := by decide +kernel
theorem kx_0_358 : x_code k_P 0 358 = some (.aload_n 0, 1) := by decide +kernel
theorem kx_0_359 : x_code k_P 0 359 = some (.iload_n 3, 1) := by decide +kernel
theorem kx_0_360 : x_code k_P 0 360 = some (.iconst 2, 1) := by decide +kernel
theorem kx_0_361 : x_code k_P 0 361 = some (.iadd, 1) := by decide +kernel
theorem kx_0_362 : x_code k_P 0 362 = some (.iaload, 1) := by decide +kernel
theorem kx_0_363 : x_code k_P 0 363 = some (.invokevirtual 42, 3) := by decide +kernel
theorem kp_0_42 : x_pool k_P 0 42 = (2, 142, 2) := by decide +kernel
theorem ki_142 : x_mci k_P 142 = 11 := by decide +kernel
theorem kcl_142 : x_maxL k_P 142 ≤ 60 ∧ 3 ≤ x_maxL k_P 142 := by decide +kernel
theorem kx_0_366 : x_code k_P 0 366 = some (.pop, 1) := by decide +kernel
theorem kx_0_367 : x_code k_P 0 367 = some (.aload_n 2, 1) := by decide +kernel
theorem kx_0_368 : x_code k_P 0 368 = some (.aload_n 0, 1) := by decide +kernel
theorem kx_0_369 : x_code k_P 0 369 = some (.iload_n 3, 1) := by decide +kernel
theorem kx_0_370 : x_code k_P 0 370 = some (.iconst 1, 1) := by decide +kernel
theorem kx_0_371 : x_code k_P 0 371 = some (.iadd, 1) := by decide +kernel
theorem kx_0_372 : x_code k_P 0 372 = some (.iaload, 1) := by decide +kernel
theorem kx_0_373 : x_code k_P 0 373 = some (.aload_n 0, 1) := by decide +kernel
theorem kx_0_374 : x_code k_P 0 374 = some (.iload_n 3, 1) := by decide +kernel
theorem kx_0_375 : x_code k_P 0 375 = some (.iconst 2, 1) := by decide +kernel
theorem kx_0_376 : x_code k_P 0 376 = some (.iadd, 1) := by decide +kernel
theorem kx_0_377 : x_code k_P 0 377 = some (.iaload, 1) := by decide +kernel
theorem kx_0_378 : x_code k_P 0 378 = some (.invokevirtual 46, 3) := by decide +kernel
theorem kp_0_46 : x_pool k_P 0 46 = (2, 248, 2) := by decide +kernel
theorem ki_248 : x_mci k_P 248 = 12 := by decide +kernel
theorem kcl_248 : x_maxL k_P 248 ≤ 60 ∧ 3 ≤ x_maxL k_P 248 := by decide +kernel
theorem kx_0_381 : x_code k_P 0 381 = some (.pop, 1) := by decide +kernel
theorem kx_0_382 : x_code k_P 0 382 = some (.goto 639, 3) := by decide +kernel
theorem lw_6 {xs : Nat → Int} {Ln d : Nat} {i : Int} {T : List cK} {M : cM} {Q : Option cV → cH → Prop} (hT : TT T) (hI : Rng M) (hG : Gm T M) (hS : Sg M) (hl : M 1 1 = M 63 1) (h2 : M 2 = M 64) (hft : FT M) {t u : Nat} (ht : t = 8 ∨ t = 25) (hu : u = 8 ∨ u = 25) (h70 : M 7 0 = ((t : Nat) : Int)) (h71 : M 7 1 = ((u : Nat) : Int)) (hux : u = 8 ∧ t = 25 ∨ u = 25 ∧ t = 8) (hst : ST t M) (hsc : SCN t M) (hx : ∀ j, -2147483648 ≤ xs j ∧ xs j ≤ 2147483647) (hi : 0 ≤ i ∧ i + 6 ≤ (Ln : Int) ∧ (Ln : Int) ≤ 3072) (k : ∀ T1 M1, LI T1 M1 → cP k_P xs Ln (d + 88) 0 1021 [(3, (0, i)), (2, rf 63), (1, rf 0), (0, (4, 0))] [] (T1, M1) Q) : cP k_P xs Ln (d + 88) 0 352 [(3, (0, i)), (2, rf 63), (1, rf 0), (0, (4, 0))] [] (T, M) Q := by
  have hr1 := rg_1_1 hI
  have hr63 := rg_63_1 hI
  obtain ⟨D, S, H, hc_, hC, hR, hH, hK⟩ := id hsc
  refine s_aload_n kx_0_352 rfl ?_
  refine s_aload_nS kx_0_353 rfl ?_
  refine s_iload_n kx_0_354 rfl ?_
  refine s_iconst (v := 1) kx_0_355 (by decide) ?_
  refine r_add kx_0_356 ⟨by omega, by omega⟩ ?_
  refine l_ald kx_0_357 ⟨by omega, by omega⟩ (fun v1 v1e => ?_)
  have v1r := hx ((i + 1)).toNat
  refine s_aload_nS kx_0_358 rfl ?_
  refine s_iload_n kx_0_359 rfl ?_
  refine s_iconst (v := 2) kx_0_360 (by decide) ?_
  refine r_add kx_0_361 ⟨by omega, by omega⟩ ?_
  refine l_ald kx_0_362 ⟨by omega, by omega⟩ (fun v2 v2e => ?_)
  have v2r := hx ((i + 2)).toNat
  refine s_callV2 (k := 0) (s1 := 3) (s2 := 0) (as := [(0, v2), (0, v1)]) (rest := []) kx_0_363 kp_0_42 (Or.inl rfl) rfl (tk_0 hT) ki_142 kcl_142 rfl rfl (by decide) (m_142 (d := d + 83) (room := v1) (what := v2) hT hI ht h70) (kF (fun v3 v3p => ?_))
  refine s_pop kx_0_366 rfl ?_
  refine s_aload_n kx_0_367 rfl ?_
  refine s_aload_nS kx_0_368 rfl ?_
  refine s_iload_n kx_0_369 rfl ?_
  refine s_iconst (v := 1) kx_0_370 (by decide) ?_
  refine r_add kx_0_371 ⟨by omega, by omega⟩ ?_
  refine l_ald kx_0_372 ⟨by omega, by omega⟩ (fun v4 v4e => ?_)
  have v4r := hx ((i + 1)).toNat
  refine s_aload_nS kx_0_373 rfl ?_
  refine s_iload_n kx_0_374 rfl ?_
  refine s_iconst (v := 2) kx_0_375 (by decide) ?_
  refine r_add kx_0_376 ⟨by omega, by omega⟩ ?_
  refine l_ald kx_0_377 ⟨by omega, by omega⟩ (fun v5 v5e => ?_)
  have v5r := hx ((i + 2)).toNat
  refine s_callV2 (k := 63) (s1 := 3) (s2 := 0) (as := [(0, v5), (0, v4)]) (rest := []) kx_0_378 kp_0_46 (Or.inl rfl) rfl (tk_63 hT) ki_248 kcl_248 rfl rfl (by decide) (m_248 (d := d + 84) (r := v4) (what := v5) hT hI) (kF (fun v6 v6p => ?_))
  refine s_pop kx_0_381 rfl ?_
  refine s_goto (t := 1021) kx_0_382 (by decide) ?_
  exact k T M ⟨hT, hI, hG, hS, by omega, (((funext fun i => rfl).trans h2).trans (funext fun i => rfl).symm), hft, t, u, hux, h70, h71, hst, hsc⟩
theorem kx_0_385 : x_code k_P 0 385 = some (.aload_n 1, 1) := by decide +kernel
theorem kx_0_386 : x_code k_P 0 386 = some (.aload_n 0, 1) := by decide +kernel
theorem kx_0_387 : x_code k_P 0 387 = some (.iload_n 3, 1) := by decide +kernel
theorem kx_0_388 : x_code k_P 0 388 = some (.iconst 1, 1) := by decide +kernel
theorem kx_0_389 : x_code k_P 0 389 = some (.iadd, 1) := by decide +kernel
theorem kx_0_390 : x_code k_P 0 390 = some (.iaload, 1) := by decide +kernel
theorem kx_0_391 : x_code k_P 0 391 = some (.aload_n 0, 1) := by decide +kernel
theorem kx_0_392 : x_code k_P 0 392 = some (.iload_n 3, 1) := by decide +kernel
theorem kx_0_393 : x_code k_P 0 393 = some (.iconst 2, 1) := by decide +kernel
theorem kx_0_394 : x_code k_P 0 394 = some (.iadd, 1) := by decide +kernel
theorem kx_0_395 : x_code k_P 0 395 = some (.iaload, 1) := by decide +kernel
theorem kx_0_396 : x_code k_P 0 396 = some (.invokevirtual 47, 3) := by decide +kernel
theorem kp_0_47 : x_pool k_P 0 47 = (2, 143, 2) := by decide +kernel
theorem ki_143 : x_mci k_P 143 = 11 := by decide +kernel
theorem kcl_143 : x_maxL k_P 143 ≤ 60 ∧ 3 ≤ x_maxL k_P 143 := by decide +kernel
theorem kx_0_399 : x_code k_P 0 399 = some (.pop, 1) := by decide +kernel
theorem kx_0_400 : x_code k_P 0 400 = some (.aload_n 2, 1) := by decide +kernel
theorem kx_0_401 : x_code k_P 0 401 = some (.aload_n 0, 1) := by decide +kernel
theorem kx_0_402 : x_code k_P 0 402 = some (.iload_n 3, 1) := by decide +kernel
theorem kx_0_403 : x_code k_P 0 403 = some (.iconst 1, 1) := by decide +kernel
theorem kx_0_404 : x_code k_P 0 404 = some (.iadd, 1) := by decide +kernel
theorem kx_0_405 : x_code k_P 0 405 = some (.iaload, 1) := by decide +kernel
theorem kx_0_406 : x_code k_P 0 406 = some (.aload_n 0, 1) := by decide +kernel
theorem kx_0_407 : x_code k_P 0 407 = some (.iload_n 3, 1) := by decide +kernel
theorem kx_0_408 : x_code k_P 0 408 = some (.iconst 2, 1) := by decide +kernel
theorem kx_0_409 : x_code k_P 0 409 = some (.iadd, 1) := by decide +kernel
theorem kx_0_410 : x_code k_P 0 410 = some (.iaload, 1) := by decide +kernel
theorem kx_0_411 : x_code k_P 0 411 = some (.invokevirtual 50, 3) := by decide +kernel
theorem kp_0_50 : x_pool k_P 0 50 = (2, 249, 2) := by decide +kernel
theorem ki_249 : x_mci k_P 249 = 12 := by decide +kernel
theorem kcl_249 : x_maxL k_P 249 ≤ 60 ∧ 3 ≤ x_maxL k_P 249 := by decide +kernel
theorem kx_0_414 : x_code k_P 0 414 = some (.pop, 1) := by decide +kernel
theorem kx_0_415 : x_code k_P 0 415 = some (.goto 606, 3) := by decide +kernel
theorem lw_7 {xs : Nat → Int} {Ln d : Nat} {i : Int} {T : List cK} {M : cM} {Q : Option cV → cH → Prop} (hT : TT T) (hI : Rng M) (hG : Gm T M) (hS : Sg M) (hl : M 1 1 = M 63 1) (h2 : M 2 = M 64) (hft : FT M) {t u : Nat} (ht : t = 8 ∨ t = 25) (hu : u = 8 ∨ u = 25) (h70 : M 7 0 = ((t : Nat) : Int)) (h71 : M 7 1 = ((u : Nat) : Int)) (hux : u = 8 ∧ t = 25 ∨ u = 25 ∧ t = 8) (hst : ST t M) (hsc : SCN t M) (hx : ∀ j, -2147483648 ≤ xs j ∧ xs j ≤ 2147483647) (hi : 0 ≤ i ∧ i + 6 ≤ (Ln : Int) ∧ (Ln : Int) ≤ 3072) (k : ∀ T1 M1, LI T1 M1 → cP k_P xs Ln (d + 88) 0 1021 [(3, (0, i)), (2, rf 63), (1, rf 0), (0, (4, 0))] [] (T1, M1) Q) : cP k_P xs Ln (d + 88) 0 385 [(3, (0, i)), (2, rf 63), (1, rf 0), (0, (4, 0))] [] (T, M) Q := by
  have hr1 := rg_1_1 hI
  have hr63 := rg_63_1 hI
  obtain ⟨D, S, H, hc_, hC, hR, hH, hK⟩ := id hsc
  refine s_aload_n kx_0_385 rfl ?_
  refine s_aload_nS kx_0_386 rfl ?_
  refine s_iload_n kx_0_387 rfl ?_
  refine s_iconst (v := 1) kx_0_388 (by decide) ?_
  refine r_add kx_0_389 ⟨by omega, by omega⟩ ?_
  refine l_ald kx_0_390 ⟨by omega, by omega⟩ (fun v1 v1e => ?_)
  have v1r := hx ((i + 1)).toNat
  refine s_aload_nS kx_0_391 rfl ?_
  refine s_iload_n kx_0_392 rfl ?_
  refine s_iconst (v := 2) kx_0_393 (by decide) ?_
  refine r_add kx_0_394 ⟨by omega, by omega⟩ ?_
  refine l_ald kx_0_395 ⟨by omega, by omega⟩ (fun v2 v2e => ?_)
  have v2r := hx ((i + 2)).toNat
  refine s_callV2 (k := 0) (s1 := 3) (s2 := 0) (as := [(0, v2), (0, v1)]) (rest := []) kx_0_396 kp_0_47 (Or.inl rfl) rfl (tk_0 hT) ki_143 kcl_143 rfl rfl (by decide) (f_143 (d := d + 85) (a := v1) (b := v2) hT hI ht h70) (kF (fun v3 v3p => ?_))
  refine s_pop kx_0_399 rfl ?_
  refine s_aload_n kx_0_400 rfl ?_
  refine s_aload_nS kx_0_401 rfl ?_
  refine s_iload_n kx_0_402 rfl ?_
  refine s_iconst (v := 1) kx_0_403 (by decide) ?_
  refine r_add kx_0_404 ⟨by omega, by omega⟩ ?_
  refine l_ald kx_0_405 ⟨by omega, by omega⟩ (fun v4 v4e => ?_)
  have v4r := hx ((i + 1)).toNat
  refine s_aload_nS kx_0_406 rfl ?_
  refine s_iload_n kx_0_407 rfl ?_
  refine s_iconst (v := 2) kx_0_408 (by decide) ?_
  refine r_add kx_0_409 ⟨by omega, by omega⟩ ?_
  refine l_ald kx_0_410 ⟨by omega, by omega⟩ (fun v5 v5e => ?_)
  have v5r := hx ((i + 2)).toNat
  refine s_callV2 (k := 63) (s1 := 3) (s2 := 0) (as := [(0, v5), (0, v4)]) (rest := []) kx_0_411 kp_0_50 (Or.inl rfl) rfl (tk_63 hT) ki_249 kcl_249 rfl rfl (by decide) (f_249 (d := d + 86) (a := v4) (b := v5) hT hI) (kF (fun v6 v6p => ?_))
  refine s_pop kx_0_414 rfl ?_
  refine s_goto (t := 1021) kx_0_415 (by decide) ?_
  exact k T M ⟨hT, hI, hG, hS, by omega, (((funext fun i => rfl).trans h2).trans (funext fun i => rfl).symm), hft, t, u, hux, h70, h71, hst, hsc⟩
theorem kx_0_418 : x_code k_P 0 418 = some (.aload_n 1, 1) := by decide +kernel
theorem kx_0_419 : x_code k_P 0 419 = some (.aload_n 0, 1) := by decide +kernel
theorem kx_0_420 : x_code k_P 0 420 = some (.iload_n 3, 1) := by decide +kernel
theorem kx_0_421 : x_code k_P 0 421 = some (.iconst 1, 1) := by decide +kernel
theorem kx_0_422 : x_code k_P 0 422 = some (.iadd, 1) := by decide +kernel
theorem kx_0_423 : x_code k_P 0 423 = some (.iaload, 1) := by decide +kernel
theorem kx_0_424 : x_code k_P 0 424 = some (.aload_n 0, 1) := by decide +kernel
theorem kx_0_425 : x_code k_P 0 425 = some (.iload_n 3, 1) := by decide +kernel
theorem kx_0_426 : x_code k_P 0 426 = some (.iconst 2, 1) := by decide +kernel
theorem kx_0_427 : x_code k_P 0 427 = some (.iadd, 1) := by decide +kernel
theorem kx_0_428 : x_code k_P 0 428 = some (.iaload, 1) := by decide +kernel
theorem kx_0_429 : x_code k_P 0 429 = some (.invokevirtual 51, 3) := by decide +kernel
theorem kp_0_51 : x_pool k_P 0 51 = (2, 144, 2) := by decide +kernel
theorem ki_144 : x_mci k_P 144 = 11 := by decide +kernel
theorem kcl_144 : x_maxL k_P 144 ≤ 60 ∧ 3 ≤ x_maxL k_P 144 := by decide +kernel
theorem kx_0_432 : x_code k_P 0 432 = some (.pop, 1) := by decide +kernel
theorem kx_0_433 : x_code k_P 0 433 = some (.aload_n 2, 1) := by decide +kernel
theorem kx_0_434 : x_code k_P 0 434 = some (.aload_n 0, 1) := by decide +kernel
theorem kx_0_435 : x_code k_P 0 435 = some (.iload_n 3, 1) := by decide +kernel
theorem kx_0_436 : x_code k_P 0 436 = some (.iconst 1, 1) := by decide +kernel
theorem kx_0_437 : x_code k_P 0 437 = some (.iadd, 1) := by decide +kernel
theorem kx_0_438 : x_code k_P 0 438 = some (.iaload, 1) := by decide +kernel
theorem kx_0_439 : x_code k_P 0 439 = some (.aload_n 0, 1) := by decide +kernel
theorem kx_0_440 : x_code k_P 0 440 = some (.iload_n 3, 1) := by decide +kernel
theorem kx_0_441 : x_code k_P 0 441 = some (.iconst 2, 1) := by decide +kernel
theorem kx_0_442 : x_code k_P 0 442 = some (.iadd, 1) := by decide +kernel
theorem kx_0_443 : x_code k_P 0 443 = some (.iaload, 1) := by decide +kernel
theorem kx_0_444 : x_code k_P 0 444 = some (.invokevirtual 54, 3) := by decide +kernel
theorem kp_0_54 : x_pool k_P 0 54 = (2, 250, 2) := by decide +kernel
theorem ki_250 : x_mci k_P 250 = 12 := by decide +kernel
theorem kcl_250 : x_maxL k_P 250 ≤ 60 ∧ 3 ≤ x_maxL k_P 250 := by decide +kernel
theorem kx_0_447 : x_code k_P 0 447 = some (.pop, 1) := by decide +kernel
theorem kx_0_448 : x_code k_P 0 448 = some (.goto 573, 3) := by decide +kernel
theorem lw_8 {xs : Nat → Int} {Ln d : Nat} {i : Int} {T : List cK} {M : cM} {Q : Option cV → cH → Prop} (hT : TT T) (hI : Rng M) (hG : Gm T M) (hS : Sg M) (hl : M 1 1 = M 63 1) (h2 : M 2 = M 64) (hft : FT M) {t u : Nat} (ht : t = 8 ∨ t = 25) (hu : u = 8 ∨ u = 25) (h70 : M 7 0 = ((t : Nat) : Int)) (h71 : M 7 1 = ((u : Nat) : Int)) (hux : u = 8 ∧ t = 25 ∨ u = 25 ∧ t = 8) (hst : ST t M) (hsc : SCN t M) (hx : ∀ j, -2147483648 ≤ xs j ∧ xs j ≤ 2147483647) (hi : 0 ≤ i ∧ i + 6 ≤ (Ln : Int) ∧ (Ln : Int) ≤ 3072) (k : ∀ T1 M1, LI T1 M1 → cP k_P xs Ln (d + 88) 0 1021 [(3, (0, i)), (2, rf 63), (1, rf 0), (0, (4, 0))] [] (T1, M1) Q) : cP k_P xs Ln (d + 88) 0 418 [(3, (0, i)), (2, rf 63), (1, rf 0), (0, (4, 0))] [] (T, M) Q := by
  have hr1 := rg_1_1 hI
  have hr63 := rg_63_1 hI
  obtain ⟨D, S, H, hc_, hC, hR, hH, hK⟩ := id hsc
  refine s_aload_n kx_0_418 rfl ?_
  refine s_aload_nS kx_0_419 rfl ?_
  refine s_iload_n kx_0_420 rfl ?_
  refine s_iconst (v := 1) kx_0_421 (by decide) ?_
  refine r_add kx_0_422 ⟨by omega, by omega⟩ ?_
  refine l_ald kx_0_423 ⟨by omega, by omega⟩ (fun v1 v1e => ?_)
  have v1r := hx ((i + 1)).toNat
  refine s_aload_nS kx_0_424 rfl ?_
  refine s_iload_n kx_0_425 rfl ?_
  refine s_iconst (v := 2) kx_0_426 (by decide) ?_
  refine r_add kx_0_427 ⟨by omega, by omega⟩ ?_
  refine l_ald kx_0_428 ⟨by omega, by omega⟩ (fun v2 v2e => ?_)
  have v2r := hx ((i + 2)).toNat
  refine s_callV2 (k := 0) (s1 := 3) (s2 := 0) (as := [(0, v2), (0, v1)]) (rest := []) kx_0_429 kp_0_51 (Or.inl rfl) rfl (tk_0 hT) ki_144 kcl_144 rfl rfl (by decide) (m_144 (d := d + 84) (person := v1) (what := v2) hT hI ht h70) (kF (fun v3 v3p => ?_))
  refine s_pop kx_0_432 rfl ?_
  refine s_aload_n kx_0_433 rfl ?_
  refine s_aload_nS kx_0_434 rfl ?_
  refine s_iload_n kx_0_435 rfl ?_
  refine s_iconst (v := 1) kx_0_436 (by decide) ?_
  refine r_add kx_0_437 ⟨by omega, by omega⟩ ?_
  refine l_ald kx_0_438 ⟨by omega, by omega⟩ (fun v4 v4e => ?_)
  have v4r := hx ((i + 1)).toNat
  refine s_aload_nS kx_0_439 rfl ?_
  refine s_iload_n kx_0_440 rfl ?_
  refine s_iconst (v := 2) kx_0_441 (by decide) ?_
  refine r_add kx_0_442 ⟨by omega, by omega⟩ ?_
  refine l_ald kx_0_443 ⟨by omega, by omega⟩ (fun v5 v5e => ?_)
  have v5r := hx ((i + 2)).toNat
  refine s_callV2 (k := 63) (s1 := 3) (s2 := 0) (as := [(0, v5), (0, v4)]) (rest := []) kx_0_444 kp_0_54 (Or.inl rfl) rfl (tk_63 hT) ki_250 kcl_250 rfl rfl (by decide) (m_250 (d := d + 84) (p := v4) (what := v5) hT hI) (kF (fun v6 v6p => ?_))
  refine s_pop kx_0_447 rfl ?_
  refine s_goto (t := 1021) kx_0_448 (by decide) ?_
  exact k T M ⟨hT, hI, hG, hS, by omega, (((funext fun i => rfl).trans h2).trans (funext fun i => rfl).symm), hft, t, u, hux, h70, h71, hst, hsc⟩
theorem kx_0_451 : x_code k_P 0 451 = some (.aload_n 1, 1) := by decide +kernel
theorem kx_0_452 : x_code k_P 0 452 = some (.aload_n 0, 1) := by decide +kernel
theorem kx_0_453 : x_code k_P 0 453 = some (.iload_n 3, 1) := by decide +kernel
theorem kx_0_454 : x_code k_P 0 454 = some (.iconst 1, 1) := by decide +kernel
theorem kx_0_455 : x_code k_P 0 455 = some (.iadd, 1) := by decide +kernel
theorem kx_0_456 : x_code k_P 0 456 = some (.iaload, 1) := by decide +kernel
theorem kx_0_457 : x_code k_P 0 457 = some (.aload_n 0, 1) := by decide +kernel
theorem kx_0_458 : x_code k_P 0 458 = some (.iload_n 3, 1) := by decide +kernel
theorem kx_0_459 : x_code k_P 0 459 = some (.iconst 2, 1) := by decide +kernel
theorem kx_0_460 : x_code k_P 0 460 = some (.iadd, 1) := by decide +kernel
theorem kx_0_461 : x_code k_P 0 461 = some (.iaload, 1) := by decide +kernel
theorem kx_0_462 : x_code k_P 0 462 = some (.invokevirtual 55, 3) := by decide +kernel
theorem kp_0_55 : x_pool k_P 0 55 = (2, 145, 2) := by decide +kernel
theorem ki_145 : x_mci k_P 145 = 11 := by decide +kernel
theorem kcl_145 : x_maxL k_P 145 ≤ 60 ∧ 3 ≤ x_maxL k_P 145 := by decide +kernel
theorem kx_0_465 : x_code k_P 0 465 = some (.pop, 1) := by decide +kernel
theorem kx_0_466 : x_code k_P 0 466 = some (.aload_n 2, 1) := by decide +kernel
theorem kx_0_467 : x_code k_P 0 467 = some (.aload_n 0, 1) := by decide +kernel
theorem kx_0_468 : x_code k_P 0 468 = some (.iload_n 3, 1) := by decide +kernel
theorem kx_0_469 : x_code k_P 0 469 = some (.iconst 1, 1) := by decide +kernel
theorem kx_0_470 : x_code k_P 0 470 = some (.iadd, 1) := by decide +kernel
theorem kx_0_471 : x_code k_P 0 471 = some (.iaload, 1) := by decide +kernel
theorem kx_0_472 : x_code k_P 0 472 = some (.aload_n 0, 1) := by decide +kernel
theorem kx_0_473 : x_code k_P 0 473 = some (.iload_n 3, 1) := by decide +kernel
theorem kx_0_474 : x_code k_P 0 474 = some (.iconst 2, 1) := by decide +kernel
theorem kx_0_475 : x_code k_P 0 475 = some (.iadd, 1) := by decide +kernel
theorem kx_0_476 : x_code k_P 0 476 = some (.iaload, 1) := by decide +kernel
theorem kx_0_477 : x_code k_P 0 477 = some (.invokevirtual 58, 3) := by decide +kernel
theorem kp_0_58 : x_pool k_P 0 58 = (2, 251, 2) := by decide +kernel
theorem ki_251 : x_mci k_P 251 = 12 := by decide +kernel
theorem kcl_251 : x_maxL k_P 251 ≤ 60 ∧ 3 ≤ x_maxL k_P 251 := by decide +kernel
theorem kx_0_480 : x_code k_P 0 480 = some (.pop, 1) := by decide +kernel
theorem kx_0_481 : x_code k_P 0 481 = some (.goto 540, 3) := by decide +kernel
theorem lw_9 {xs : Nat → Int} {Ln d : Nat} {i : Int} {T : List cK} {M : cM} {Q : Option cV → cH → Prop} (hT : TT T) (hI : Rng M) (hG : Gm T M) (hS : Sg M) (hl : M 1 1 = M 63 1) (h2 : M 2 = M 64) (hft : FT M) {t u : Nat} (ht : t = 8 ∨ t = 25) (hu : u = 8 ∨ u = 25) (h70 : M 7 0 = ((t : Nat) : Int)) (h71 : M 7 1 = ((u : Nat) : Int)) (hux : u = 8 ∧ t = 25 ∨ u = 25 ∧ t = 8) (hst : ST t M) (hsc : SCN t M) (hx : ∀ j, -2147483648 ≤ xs j ∧ xs j ≤ 2147483647) (hi : 0 ≤ i ∧ i + 6 ≤ (Ln : Int) ∧ (Ln : Int) ≤ 3072) (k : ∀ T1 M1, LI T1 M1 → cP k_P xs Ln (d + 88) 0 1021 [(3, (0, i)), (2, rf 63), (1, rf 0), (0, (4, 0))] [] (T1, M1) Q) : cP k_P xs Ln (d + 88) 0 451 [(3, (0, i)), (2, rf 63), (1, rf 0), (0, (4, 0))] [] (T, M) Q := by
  have hr1 := rg_1_1 hI
  have hr63 := rg_63_1 hI
  obtain ⟨D, S, H, hc_, hC, hR, hH, hK⟩ := id hsc
  refine s_aload_n kx_0_451 rfl ?_
  refine s_aload_nS kx_0_452 rfl ?_
  refine s_iload_n kx_0_453 rfl ?_
  refine s_iconst (v := 1) kx_0_454 (by decide) ?_
  refine r_add kx_0_455 ⟨by omega, by omega⟩ ?_
  refine l_ald kx_0_456 ⟨by omega, by omega⟩ (fun v1 v1e => ?_)
  have v1r := hx ((i + 1)).toNat
  refine s_aload_nS kx_0_457 rfl ?_
  refine s_iload_n kx_0_458 rfl ?_
  refine s_iconst (v := 2) kx_0_459 (by decide) ?_
  refine r_add kx_0_460 ⟨by omega, by omega⟩ ?_
  refine l_ald kx_0_461 ⟨by omega, by omega⟩ (fun v2 v2e => ?_)
  have v2r := hx ((i + 2)).toNat
  refine s_callV2 (k := 0) (s1 := 3) (s2 := 0) (as := [(0, v2), (0, v1)]) (rest := []) kx_0_462 kp_0_55 (Or.inl rfl) rfl (tk_0 hT) ki_145 kcl_145 rfl rfl (by decide) (m_145 (d := d + 84) (chair := v1) (room := v2) hT hI ht h70) (kF (fun v3 v3p => ?_))
  refine s_pop kx_0_465 rfl ?_
  refine s_aload_n kx_0_466 rfl ?_
  refine s_aload_nS kx_0_467 rfl ?_
  refine s_iload_n kx_0_468 rfl ?_
  refine s_iconst (v := 1) kx_0_469 (by decide) ?_
  refine r_add kx_0_470 ⟨by omega, by omega⟩ ?_
  refine l_ald kx_0_471 ⟨by omega, by omega⟩ (fun v4 v4e => ?_)
  have v4r := hx ((i + 1)).toNat
  refine s_aload_nS kx_0_472 rfl ?_
  refine s_iload_n kx_0_473 rfl ?_
  refine s_iconst (v := 2) kx_0_474 (by decide) ?_
  refine r_add kx_0_475 ⟨by omega, by omega⟩ ?_
  refine l_ald kx_0_476 ⟨by omega, by omega⟩ (fun v5 v5e => ?_)
  have v5r := hx ((i + 2)).toNat
  refine s_callV2 (k := 63) (s1 := 3) (s2 := 0) (as := [(0, v5), (0, v4)]) (rest := []) kx_0_477 kp_0_58 (Or.inl rfl) rfl (tk_63 hT) ki_251 kcl_251 rfl rfl (by decide) (m_251 (d := d + 83) (c := v4) (r := v5) hT hI) (kF (fun v6 v6p => ?_))
  refine s_pop kx_0_480 rfl ?_
  refine s_goto (t := 1021) kx_0_481 (by decide) ?_
  exact k T M ⟨hT, hI, hG, hS, by omega, (((funext fun i => rfl).trans h2).trans (funext fun i => rfl).symm), hft, t, u, hux, h70, h71, hst, hsc⟩
theorem kx_0_484 : x_code k_P 0 484 = some (.aload_n 1, 1) := by decide +kernel
theorem kx_0_485 : x_code k_P 0 485 = some (.aload_n 0, 1) := by decide +kernel
theorem kx_0_486 : x_code k_P 0 486 = some (.iload_n 3, 1) := by decide +kernel
theorem kx_0_487 : x_code k_P 0 487 = some (.iconst 1, 1) := by decide +kernel
theorem kx_0_488 : x_code k_P 0 488 = some (.iadd, 1) := by decide +kernel
theorem kx_0_489 : x_code k_P 0 489 = some (.iaload, 1) := by decide +kernel
theorem kx_0_490 : x_code k_P 0 490 = some (.aload_n 0, 1) := by decide +kernel
theorem kx_0_491 : x_code k_P 0 491 = some (.iload_n 3, 1) := by decide +kernel
theorem kx_0_492 : x_code k_P 0 492 = some (.iconst 2, 1) := by decide +kernel
theorem kx_0_493 : x_code k_P 0 493 = some (.iadd, 1) := by decide +kernel
theorem kx_0_494 : x_code k_P 0 494 = some (.iaload, 1) := by decide +kernel
theorem kx_0_495 : x_code k_P 0 495 = some (.aload_n 0, 1) := by decide +kernel
theorem kx_0_496 : x_code k_P 0 496 = some (.iload_n 3, 1) := by decide +kernel
theorem kx_0_497 : x_code k_P 0 497 = some (.iconst 3, 1) := by decide +kernel
theorem kx_0_498 : x_code k_P 0 498 = some (.iadd, 1) := by decide +kernel
theorem kx_0_499 : x_code k_P 0 499 = some (.iaload, 1) := by decide +kernel
theorem kx_0_500 : x_code k_P 0 500 = some (.invokevirtual 59, 3) := by decide +kernel
theorem kp_0_59 : x_pool k_P 0 59 = (2, 146, 3) := by decide +kernel
theorem ki_146 : x_mci k_P 146 = 11 := by decide +kernel
theorem kcl_146 : x_maxL k_P 146 ≤ 60 ∧ 4 ≤ x_maxL k_P 146 := by decide +kernel
theorem kx_0_503 : x_code k_P 0 503 = some (.pop, 1) := by decide +kernel
theorem kx_0_504 : x_code k_P 0 504 = some (.aload_n 2, 1) := by decide +kernel
theorem kx_0_505 : x_code k_P 0 505 = some (.aload_n 0, 1) := by decide +kernel
theorem kx_0_506 : x_code k_P 0 506 = some (.iload_n 3, 1) := by decide +kernel
theorem kx_0_507 : x_code k_P 0 507 = some (.iconst 1, 1) := by decide +kernel
theorem kx_0_508 : x_code k_P 0 508 = some (.iadd, 1) := by decide +kernel
theorem kx_0_509 : x_code k_P 0 509 = some (.iaload, 1) := by decide +kernel
theorem kx_0_510 : x_code k_P 0 510 = some (.aload_n 0, 1) := by decide +kernel
theorem kx_0_511 : x_code k_P 0 511 = some (.iload_n 3, 1) := by decide +kernel
theorem kx_0_512 : x_code k_P 0 512 = some (.iconst 2, 1) := by decide +kernel
theorem kx_0_513 : x_code k_P 0 513 = some (.iadd, 1) := by decide +kernel
theorem kx_0_514 : x_code k_P 0 514 = some (.iaload, 1) := by decide +kernel
theorem kx_0_515 : x_code k_P 0 515 = some (.aload_n 0, 1) := by decide +kernel
theorem kx_0_516 : x_code k_P 0 516 = some (.iload_n 3, 1) := by decide +kernel
theorem kx_0_517 : x_code k_P 0 517 = some (.iconst 3, 1) := by decide +kernel
theorem kx_0_518 : x_code k_P 0 518 = some (.iadd, 1) := by decide +kernel
theorem kx_0_519 : x_code k_P 0 519 = some (.iaload, 1) := by decide +kernel
theorem kx_0_520 : x_code k_P 0 520 = some (.invokevirtual 62, 3) := by decide +kernel
theorem kp_0_62 : x_pool k_P 0 62 = (2, 255, 3) := by decide +kernel
theorem ki_255 : x_mci k_P 255 = 12 := by decide +kernel
theorem kcl_255 : x_maxL k_P 255 ≤ 60 ∧ 4 ≤ x_maxL k_P 255 := by decide +kernel
theorem kx_0_523 : x_code k_P 0 523 = some (.pop, 1) := by decide +kernel
theorem kx_0_524 : x_code k_P 0 524 = some (.goto 497, 3) := by decide +kernel
theorem lw_10 {xs : Nat → Int} {Ln d : Nat} {i : Int} {T : List cK} {M : cM} {Q : Option cV → cH → Prop} (hT : TT T) (hI : Rng M) (hG : Gm T M) (hS : Sg M) (hl : M 1 1 = M 63 1) (h2 : M 2 = M 64) (hft : FT M) {t u : Nat} (ht : t = 8 ∨ t = 25) (hu : u = 8 ∨ u = 25) (h70 : M 7 0 = ((t : Nat) : Int)) (h71 : M 7 1 = ((u : Nat) : Int)) (hux : u = 8 ∧ t = 25 ∨ u = 25 ∧ t = 8) (hst : ST t M) (hsc : SCN t M) (hx : ∀ j, -2147483648 ≤ xs j ∧ xs j ≤ 2147483647) (hi : 0 ≤ i ∧ i + 6 ≤ (Ln : Int) ∧ (Ln : Int) ≤ 3072) (k : ∀ T1 M1, LI T1 M1 → cP k_P xs Ln (d + 88) 0 1021 [(3, (0, i)), (2, rf 63), (1, rf 0), (0, (4, 0))] [] (T1, M1) Q) : cP k_P xs Ln (d + 88) 0 484 [(3, (0, i)), (2, rf 63), (1, rf 0), (0, (4, 0))] [] (T, M) Q := by
  have hr1 := rg_1_1 hI
  have hr63 := rg_63_1 hI
  obtain ⟨D, S, H, hc_, hC, hR, hH, hK⟩ := id hsc
  refine s_aload_n kx_0_484 rfl ?_
  refine s_aload_nS kx_0_485 rfl ?_
  refine s_iload_n kx_0_486 rfl ?_
  refine s_iconst (v := 1) kx_0_487 (by decide) ?_
  refine r_add kx_0_488 ⟨by omega, by omega⟩ ?_
  refine l_ald kx_0_489 ⟨by omega, by omega⟩ (fun v1 v1e => ?_)
  have v1r := hx ((i + 1)).toNat
  refine s_aload_nS kx_0_490 rfl ?_
  refine s_iload_n kx_0_491 rfl ?_
  refine s_iconst (v := 2) kx_0_492 (by decide) ?_
  refine r_add kx_0_493 ⟨by omega, by omega⟩ ?_
  refine l_ald kx_0_494 ⟨by omega, by omega⟩ (fun v2 v2e => ?_)
  have v2r := hx ((i + 2)).toNat
  refine s_aload_nS kx_0_495 rfl ?_
  refine s_iload_n kx_0_496 rfl ?_
  refine s_iconst (v := 3) kx_0_497 (by decide) ?_
  refine r_add kx_0_498 ⟨by omega, by omega⟩ ?_
  refine l_ald kx_0_499 ⟨by omega, by omega⟩ (fun v3 v3e => ?_)
  have v3r := hx ((i + 3)).toNat
  refine s_callV2 (k := 0) (s1 := 4) (s2 := 0) (as := [(0, v3), (0, v2), (0, v1)]) (rest := []) kx_0_500 kp_0_59 (Or.inl rfl) rfl (tk_0 hT) ki_146 kcl_146 rfl rfl (by decide) (m_146 (d := d + 81) (person := v1) (room := v2) (chair := v3) hT hI ht h70 (Gm.fm hG)) (kW (fun v4 M5 hI5 fr5 v4p => ?_))
  have tr6 := (fr5 1 1 rfl)
  have tr7 := (fr5 63 1 rfl)
  refine s_pop kx_0_503 rfl ?_
  refine s_aload_n kx_0_504 rfl ?_
  refine s_aload_nS kx_0_505 rfl ?_
  refine s_iload_n kx_0_506 rfl ?_
  refine s_iconst (v := 1) kx_0_507 (by decide) ?_
  refine r_add kx_0_508 ⟨by omega, by omega⟩ ?_
  refine l_ald kx_0_509 ⟨by omega, by omega⟩ (fun v8 v8e => ?_)
  have v8r := hx ((i + 1)).toNat
  refine s_aload_nS kx_0_510 rfl ?_
  refine s_iload_n kx_0_511 rfl ?_
  refine s_iconst (v := 2) kx_0_512 (by decide) ?_
  refine r_add kx_0_513 ⟨by omega, by omega⟩ ?_
  refine l_ald kx_0_514 ⟨by omega, by omega⟩ (fun v9 v9e => ?_)
  have v9r := hx ((i + 2)).toNat
  refine s_aload_nS kx_0_515 rfl ?_
  refine s_iload_n kx_0_516 rfl ?_
  refine s_iconst (v := 3) kx_0_517 (by decide) ?_
  refine r_add kx_0_518 ⟨by omega, by omega⟩ ?_
  refine l_ald kx_0_519 ⟨by omega, by omega⟩ (fun v10 v10e => ?_)
  have v10r := hx ((i + 3)).toNat
  refine s_callV2 (k := 63) (s1 := 4) (s2 := 0) (as := [(0, v10), (0, v9), (0, v8)]) (rest := []) kx_0_520 kp_0_62 (Or.inl rfl) rfl (tk_63 hT) ki_255 kcl_255 rfl rfl (by decide) (m_255 (d := d + 81) (p := v8) (r := v9) (c := v10) hT hI5 (Sg.fr hS fr5 rfl)) (kW (fun v11 M12 hI12 fr12 v11p => ?_))
  have tr13 := (fr12 1 1 rfl)
  have tr14 := (fr12 63 1 rfl)
  refine s_pop kx_0_523 rfl ?_
  refine s_goto (t := 1021) kx_0_524 (by decide) ?_
  exact k T M12 ⟨hT, hI12, (Gm.fr (Gm.fr hG fr5 rfl) fr12 rfl), (Sg.fr (Sg.fr hS fr5 rfl) fr12 rfl), by omega, (((funext fun i => ((fr12 2 _ rfl).trans (fr5 2 _ rfl))).trans h2).trans (funext fun i => ((fr12 64 _ rfl).trans (fr5 64 _ rfl))).symm), (FT.fr (FT.fr hft fr5 rfl) fr12 rfl), t, u, hux, ((fr12 7 0 rfl).trans ((fr5 7 0 rfl).trans h70)), ((fr12 7 1 rfl).trans ((fr5 7 1 rfl).trans h71)), (ST.fr (ST.fr hst fr5 ht rfl) fr12 ht rfl), (SCN.fr (SCN.fr hsc fr5 ht rfl) fr12 ht rfl)⟩
theorem kx_0_527 : x_code k_P 0 527 = some (.aload_n 1, 1) := by decide +kernel
theorem kx_0_528 : x_code k_P 0 528 = some (.aload_n 0, 1) := by decide +kernel
theorem kx_0_529 : x_code k_P 0 529 = some (.iload_n 3, 1) := by decide +kernel
theorem kx_0_530 : x_code k_P 0 530 = some (.iconst 1, 1) := by decide +kernel
theorem kx_0_531 : x_code k_P 0 531 = some (.iadd, 1) := by decide +kernel
theorem kx_0_532 : x_code k_P 0 532 = some (.iaload, 1) := by decide +kernel
theorem kx_0_533 : x_code k_P 0 533 = some (.aload_n 0, 1) := by decide +kernel
theorem kx_0_534 : x_code k_P 0 534 = some (.iload_n 3, 1) := by decide +kernel
theorem kx_0_535 : x_code k_P 0 535 = some (.iconst 2, 1) := by decide +kernel
theorem kx_0_536 : x_code k_P 0 536 = some (.iadd, 1) := by decide +kernel
theorem kx_0_537 : x_code k_P 0 537 = some (.iaload, 1) := by decide +kernel
theorem kx_0_538 : x_code k_P 0 538 = some (.aload_n 0, 1) := by decide +kernel
theorem kx_0_539 : x_code k_P 0 539 = some (.iload_n 3, 1) := by decide +kernel
theorem kx_0_540 : x_code k_P 0 540 = some (.iconst 3, 1) := by decide +kernel
theorem kx_0_541 : x_code k_P 0 541 = some (.iadd, 1) := by decide +kernel
theorem kx_0_542 : x_code k_P 0 542 = some (.iaload, 1) := by decide +kernel
theorem kx_0_543 : x_code k_P 0 543 = some (.invokevirtual 63, 3) := by decide +kernel
theorem kp_0_63 : x_pool k_P 0 63 = (2, 147, 3) := by decide +kernel
theorem ki_147 : x_mci k_P 147 = 11 := by decide +kernel
theorem kcl_147 : x_maxL k_P 147 ≤ 60 ∧ 4 ≤ x_maxL k_P 147 := by decide +kernel
theorem kx_0_546 : x_code k_P 0 546 = some (.pop, 1) := by decide +kernel
theorem kx_0_547 : x_code k_P 0 547 = some (.aload_n 2, 1) := by decide +kernel
theorem kx_0_548 : x_code k_P 0 548 = some (.aload_n 0, 1) := by decide +kernel
theorem kx_0_549 : x_code k_P 0 549 = some (.iload_n 3, 1) := by decide +kernel
theorem kx_0_550 : x_code k_P 0 550 = some (.iconst 1, 1) := by decide +kernel
theorem kx_0_551 : x_code k_P 0 551 = some (.iadd, 1) := by decide +kernel
theorem kx_0_552 : x_code k_P 0 552 = some (.iaload, 1) := by decide +kernel
theorem kx_0_553 : x_code k_P 0 553 = some (.aload_n 0, 1) := by decide +kernel
theorem kx_0_554 : x_code k_P 0 554 = some (.iload_n 3, 1) := by decide +kernel
theorem kx_0_555 : x_code k_P 0 555 = some (.iconst 2, 1) := by decide +kernel
theorem kx_0_556 : x_code k_P 0 556 = some (.iadd, 1) := by decide +kernel
theorem kx_0_557 : x_code k_P 0 557 = some (.iaload, 1) := by decide +kernel
theorem kx_0_558 : x_code k_P 0 558 = some (.aload_n 0, 1) := by decide +kernel
theorem kx_0_559 : x_code k_P 0 559 = some (.iload_n 3, 1) := by decide +kernel
theorem kx_0_560 : x_code k_P 0 560 = some (.iconst 3, 1) := by decide +kernel
theorem kx_0_561 : x_code k_P 0 561 = some (.iadd, 1) := by decide +kernel
theorem kx_0_562 : x_code k_P 0 562 = some (.iaload, 1) := by decide +kernel
theorem kx_0_563 : x_code k_P 0 563 = some (.invokevirtual 66, 3) := by decide +kernel
theorem kp_0_66 : x_pool k_P 0 66 = (2, 260, 3) := by decide +kernel
theorem ki_260 : x_mci k_P 260 = 12 := by decide +kernel
theorem kcl_260 : x_maxL k_P 260 ≤ 60 ∧ 4 ≤ x_maxL k_P 260 := by decide +kernel
theorem kx_0_566 : x_code k_P 0 566 = some (.pop, 1) := by decide +kernel
theorem kx_0_567 : x_code k_P 0 567 = some (.goto 454, 3) := by decide +kernel
theorem lw_11 {xs : Nat → Int} {Ln d : Nat} {i : Int} {T : List cK} {M : cM} {Q : Option cV → cH → Prop} (hT : TT T) (hI : Rng M) (hG : Gm T M) (hS : Sg M) (hl : M 1 1 = M 63 1) (h2 : M 2 = M 64) (hft : FT M) {t u : Nat} (ht : t = 8 ∨ t = 25) (hu : u = 8 ∨ u = 25) (h70 : M 7 0 = ((t : Nat) : Int)) (h71 : M 7 1 = ((u : Nat) : Int)) (hux : u = 8 ∧ t = 25 ∨ u = 25 ∧ t = 8) (hst : ST t M) (hsc : SCN t M) (hx : ∀ j, -2147483648 ≤ xs j ∧ xs j ≤ 2147483647) (hi : 0 ≤ i ∧ i + 6 ≤ (Ln : Int) ∧ (Ln : Int) ≤ 3072) (k : ∀ T1 M1, LI T1 M1 → cP k_P xs Ln (d + 88) 0 1021 [(3, (0, i)), (2, rf 63), (1, rf 0), (0, (4, 0))] [] (T1, M1) Q) : cP k_P xs Ln (d + 88) 0 527 [(3, (0, i)), (2, rf 63), (1, rf 0), (0, (4, 0))] [] (T, M) Q := by
  have hr1 := rg_1_1 hI
  have hr63 := rg_63_1 hI
  obtain ⟨D, S, H, hc_, hC, hR, hH, hK⟩ := id hsc
  refine s_aload_n kx_0_527 rfl ?_
  refine s_aload_nS kx_0_528 rfl ?_
  refine s_iload_n kx_0_529 rfl ?_
  refine s_iconst (v := 1) kx_0_530 (by decide) ?_
  refine r_add kx_0_531 ⟨by omega, by omega⟩ ?_
  refine l_ald kx_0_532 ⟨by omega, by omega⟩ (fun v1 v1e => ?_)
  have v1r := hx ((i + 1)).toNat
  refine s_aload_nS kx_0_533 rfl ?_
  refine s_iload_n kx_0_534 rfl ?_
  refine s_iconst (v := 2) kx_0_535 (by decide) ?_
  refine r_add kx_0_536 ⟨by omega, by omega⟩ ?_
  refine l_ald kx_0_537 ⟨by omega, by omega⟩ (fun v2 v2e => ?_)
  have v2r := hx ((i + 2)).toNat
  refine s_aload_nS kx_0_538 rfl ?_
  refine s_iload_n kx_0_539 rfl ?_
  refine s_iconst (v := 3) kx_0_540 (by decide) ?_
  refine r_add kx_0_541 ⟨by omega, by omega⟩ ?_
  refine l_ald kx_0_542 ⟨by omega, by omega⟩ (fun v3 v3e => ?_)
  have v3r := hx ((i + 3)).toNat
  refine s_callV2 (k := 0) (s1 := 4) (s2 := 0) (as := [(0, v3), (0, v2), (0, v1)]) (rest := []) kx_0_543 kp_0_63 (Or.inl rfl) rfl (tk_0 hT) ki_147 kcl_147 rfl rfl (by decide) (g_147 (d := d + 81) (person := v1) (room := v2) (chair := v3) hT hI ht h70 hC hH hG) (kW (fun v4 M5 hI5 fr5 v4p => ?_))
  have tr6 := (fr5 1 1 rfl)
  have tr7 := (fr5 63 1 rfl)
  have hrr := act_r ⟨hR, hK⟩ fr5 rfl
  refine s_pop kx_0_546 rfl ?_
  refine s_aload_n kx_0_547 rfl ?_
  refine s_aload_nS kx_0_548 rfl ?_
  refine s_iload_n kx_0_549 rfl ?_
  refine s_iconst (v := 1) kx_0_550 (by decide) ?_
  refine r_add kx_0_551 ⟨by omega, by omega⟩ ?_
  refine l_ald kx_0_552 ⟨by omega, by omega⟩ (fun v8 v8e => ?_)
  have v8r := hx ((i + 1)).toNat
  refine s_aload_nS kx_0_553 rfl ?_
  refine s_iload_n kx_0_554 rfl ?_
  refine s_iconst (v := 2) kx_0_555 (by decide) ?_
  refine r_add kx_0_556 ⟨by omega, by omega⟩ ?_
  refine l_ald kx_0_557 ⟨by omega, by omega⟩ (fun v9 v9e => ?_)
  have v9r := hx ((i + 2)).toNat
  refine s_aload_nS kx_0_558 rfl ?_
  refine s_iload_n kx_0_559 rfl ?_
  refine s_iconst (v := 3) kx_0_560 (by decide) ?_
  refine r_add kx_0_561 ⟨by omega, by omega⟩ ?_
  refine l_ald kx_0_562 ⟨by omega, by omega⟩ (fun v10 v10e => ?_)
  have v10r := hx ((i + 3)).toNat
  refine s_callV2 (k := 63) (s1 := 4) (s2 := 0) (as := [(0, v10), (0, v9), (0, v8)]) (rest := []) kx_0_563 kp_0_66 (Or.inl rfl) rfl (tk_63 hT) ki_260 kcl_260 rfl rfl (by decide) (g_260 (d := d + 81) (p := v8) (r := v9) (c := v10) hT hI5 hrr.1 (Sg.fr hS fr5 rfl) hrr.2) (kW (fun v11 M12 hI12 fr12 v11p => ?_))
  have tr13 := (fr12 1 1 rfl)
  have tr14 := (fr12 63 1 rfl)
  rw [show v8 = v1 from v8e.trans v1e.symm, show v9 = v2 from v9e.trans v2e.symm, show v10 = v3 from v10e.trans v3e.symm] at v11p
  obtain ⟨hxy, hsc2⟩ := act_fin ht v4p fr12 rfl v11p (fun z w => by omega) (fun z w => by omega)
  refine s_pop kx_0_566 rfl ?_
  refine s_goto (t := 1021) kx_0_567 (by decide) ?_
  exact k T M12 ⟨hT, hI12, (Gm.fr (Gm.fr hG fr5 rfl) fr12 rfl), (Sg.fr (Sg.fr hS fr5 rfl) fr12 rfl), by omega, (((funext fun i => ((fr12 2 _ rfl).trans (fr5 2 _ rfl))).trans h2).trans (funext fun i => ((fr12 64 _ rfl).trans (fr5 64 _ rfl))).symm), (FT.fr (FT.fr hft fr5 rfl) fr12 rfl), t, u, hux, ((fr12 7 0 rfl).trans ((fr5 7 0 rfl).trans h70)), ((fr12 7 1 rfl).trans ((fr5 7 1 rfl).trans h71)), (ST.fr (ST.fr hst fr5 ht rfl) fr12 ht rfl), hsc2⟩
theorem kx_0_570 : x_code k_P 0 570 = some (.aload_n 1, 1) := by decide +kernel
theorem kx_0_571 : x_code k_P 0 571 = some (.aload_n 0, 1) := by decide +kernel
theorem kx_0_572 : x_code k_P 0 572 = some (.iload_n 3, 1) := by decide +kernel
theorem kx_0_573 : x_code k_P 0 573 = some (.iconst 1, 1) := by decide +kernel
theorem kx_0_574 : x_code k_P 0 574 = some (.iadd, 1) := by decide +kernel
theorem kx_0_575 : x_code k_P 0 575 = some (.iaload, 1) := by decide +kernel
theorem kx_0_576 : x_code k_P 0 576 = some (.aload_n 0, 1) := by decide +kernel
theorem kx_0_577 : x_code k_P 0 577 = some (.iload_n 3, 1) := by decide +kernel
theorem kx_0_578 : x_code k_P 0 578 = some (.iconst 2, 1) := by decide +kernel
theorem kx_0_579 : x_code k_P 0 579 = some (.iadd, 1) := by decide +kernel
theorem kx_0_580 : x_code k_P 0 580 = some (.iaload, 1) := by decide +kernel
theorem kx_0_581 : x_code k_P 0 581 = some (.invokevirtual 67, 3) := by decide +kernel
theorem kp_0_67 : x_pool k_P 0 67 = (2, 148, 2) := by decide +kernel
theorem ki_148 : x_mci k_P 148 = 11 := by decide +kernel
theorem kcl_148 : x_maxL k_P 148 ≤ 60 ∧ 3 ≤ x_maxL k_P 148 := by decide +kernel
theorem kx_0_584 : x_code k_P 0 584 = some (.pop, 1) := by decide +kernel
theorem kx_0_585 : x_code k_P 0 585 = some (.aload_n 2, 1) := by decide +kernel
theorem kx_0_586 : x_code k_P 0 586 = some (.aload_n 0, 1) := by decide +kernel
theorem kx_0_587 : x_code k_P 0 587 = some (.iload_n 3, 1) := by decide +kernel
theorem kx_0_588 : x_code k_P 0 588 = some (.iconst 1, 1) := by decide +kernel
theorem kx_0_589 : x_code k_P 0 589 = some (.iadd, 1) := by decide +kernel
theorem kx_0_590 : x_code k_P 0 590 = some (.iaload, 1) := by decide +kernel
theorem kx_0_591 : x_code k_P 0 591 = some (.aload_n 0, 1) := by decide +kernel
theorem kx_0_592 : x_code k_P 0 592 = some (.iload_n 3, 1) := by decide +kernel
theorem kx_0_593 : x_code k_P 0 593 = some (.iconst 2, 1) := by decide +kernel
theorem kx_0_594 : x_code k_P 0 594 = some (.iadd, 1) := by decide +kernel
theorem kx_0_595 : x_code k_P 0 595 = some (.iaload, 1) := by decide +kernel
theorem kx_0_596 : x_code k_P 0 596 = some (.invokevirtual 70, 3) := by decide +kernel
theorem kp_0_70 : x_pool k_P 0 70 = (2, 262, 2) := by decide +kernel
theorem ki_262 : x_mci k_P 262 = 12 := by decide +kernel
theorem kcl_262 : x_maxL k_P 262 ≤ 60 ∧ 3 ≤ x_maxL k_P 262 := by decide +kernel
theorem kx_0_599 : x_code k_P 0 599 = some (.pop, 1) := by decide +kernel
theorem kx_0_600 : x_code k_P 0 600 = some (.goto 421, 3) := by decide +kernel
theorem lw_12 {xs : Nat → Int} {Ln d : Nat} {i : Int} {T : List cK} {M : cM} {Q : Option cV → cH → Prop} (hT : TT T) (hI : Rng M) (hG : Gm T M) (hS : Sg M) (hl : M 1 1 = M 63 1) (h2 : M 2 = M 64) (hft : FT M) {t u : Nat} (ht : t = 8 ∨ t = 25) (hu : u = 8 ∨ u = 25) (h70 : M 7 0 = ((t : Nat) : Int)) (h71 : M 7 1 = ((u : Nat) : Int)) (hux : u = 8 ∧ t = 25 ∨ u = 25 ∧ t = 8) (hst : ST t M) (hsc : SCN t M) (hx : ∀ j, -2147483648 ≤ xs j ∧ xs j ≤ 2147483647) (hi : 0 ≤ i ∧ i + 6 ≤ (Ln : Int) ∧ (Ln : Int) ≤ 3072) (k : ∀ T1 M1, LI T1 M1 → cP k_P xs Ln (d + 88) 0 1021 [(3, (0, i)), (2, rf 63), (1, rf 0), (0, (4, 0))] [] (T1, M1) Q) : cP k_P xs Ln (d + 88) 0 570 [(3, (0, i)), (2, rf 63), (1, rf 0), (0, (4, 0))] [] (T, M) Q := by
  have hr1 := rg_1_1 hI
  have hr63 := rg_63_1 hI
  obtain ⟨D, S, H, hc_, hC, hR, hH, hK⟩ := id hsc
  refine s_aload_n kx_0_570 rfl ?_
  refine s_aload_nS kx_0_571 rfl ?_
  refine s_iload_n kx_0_572 rfl ?_
  refine s_iconst (v := 1) kx_0_573 (by decide) ?_
  refine r_add kx_0_574 ⟨by omega, by omega⟩ ?_
  refine l_ald kx_0_575 ⟨by omega, by omega⟩ (fun v1 v1e => ?_)
  have v1r := hx ((i + 1)).toNat
  refine s_aload_nS kx_0_576 rfl ?_
  refine s_iload_n kx_0_577 rfl ?_
  refine s_iconst (v := 2) kx_0_578 (by decide) ?_
  refine r_add kx_0_579 ⟨by omega, by omega⟩ ?_
  refine l_ald kx_0_580 ⟨by omega, by omega⟩ (fun v2 v2e => ?_)
  have v2r := hx ((i + 2)).toNat
  refine s_callV2 (k := 0) (s1 := 3) (s2 := 0) (as := [(0, v2), (0, v1)]) (rest := []) kx_0_581 kp_0_67 (Or.inl rfl) rfl (tk_0 hT) ki_148 kcl_148 rfl rfl (by decide) (g_148 (d := d + 82) (person := v1) (n := v2) hT hI ht h70 (Gm.fm hG) hC hH) (kW (fun v3 M4 hI4 fr4 v3p => ?_))
  have tr5 := (fr4 1 1 rfl)
  have tr6 := (fr4 63 1 rfl)
  have hrr := act_r ⟨hR, hK⟩ fr4 rfl
  refine s_pop kx_0_584 rfl ?_
  refine s_aload_n kx_0_585 rfl ?_
  refine s_aload_nS kx_0_586 rfl ?_
  refine s_iload_n kx_0_587 rfl ?_
  refine s_iconst (v := 1) kx_0_588 (by decide) ?_
  refine r_add kx_0_589 ⟨by omega, by omega⟩ ?_
  refine l_ald kx_0_590 ⟨by omega, by omega⟩ (fun v7 v7e => ?_)
  have v7r := hx ((i + 1)).toNat
  refine s_aload_nS kx_0_591 rfl ?_
  refine s_iload_n kx_0_592 rfl ?_
  refine s_iconst (v := 2) kx_0_593 (by decide) ?_
  refine r_add kx_0_594 ⟨by omega, by omega⟩ ?_
  refine l_ald kx_0_595 ⟨by omega, by omega⟩ (fun v8 v8e => ?_)
  have v8r := hx ((i + 2)).toNat
  refine s_callV2 (k := 63) (s1 := 3) (s2 := 0) (as := [(0, v8), (0, v7)]) (rest := []) kx_0_596 kp_0_70 (Or.inl rfl) rfl (tk_63 hT) ki_262 kcl_262 rfl rfl (by decide) (g_262 (d := d + 82) (p := v7) (n := v8) hT hI4 hrr.1 (Sg.fr hS fr4 rfl) hrr.2) (kW (fun v9 M10 hI10 fr10 v9p => ?_))
  have tr11 := (fr10 1 1 rfl)
  have tr12 := (fr10 63 1 rfl)
  rw [show v7 = v1 from v7e.trans v1e.symm, show v8 = v2 from v8e.trans v2e.symm] at v9p
  obtain ⟨hxy, hsc2⟩ := act_fin ht v3p fr10 rfl v9p (fun z w => by omega) (fun z w => by omega)
  refine s_pop kx_0_599 rfl ?_
  refine s_goto (t := 1021) kx_0_600 (by decide) ?_
  exact k T M10 ⟨hT, hI10, (Gm.fr (Gm.fr hG fr4 rfl) fr10 rfl), (Sg.fr (Sg.fr hS fr4 rfl) fr10 rfl), by omega, (((funext fun i => ((fr10 2 _ rfl).trans (fr4 2 _ rfl))).trans h2).trans (funext fun i => ((fr10 64 _ rfl).trans (fr4 64 _ rfl))).symm), (FT.fr (FT.fr hft fr4 rfl) fr10 rfl), t, u, hux, ((fr10 7 0 rfl).trans ((fr4 7 0 rfl).trans h70)), ((fr10 7 1 rfl).trans ((fr4 7 1 rfl).trans h71)), (ST.fr (ST.fr hst fr4 ht rfl) fr10 ht rfl), hsc2⟩
theorem kx_0_603 : x_code k_P 0 603 = some (.aload_n 1, 1) := by decide +kernel
theorem kx_0_604 : x_code k_P 0 604 = some (.aload_n 0, 1) := by decide +kernel
theorem kx_0_605 : x_code k_P 0 605 = some (.iload_n 3, 1) := by decide +kernel
theorem kx_0_606 : x_code k_P 0 606 = some (.iconst 1, 1) := by decide +kernel
theorem kx_0_607 : x_code k_P 0 607 = some (.iadd, 1) := by decide +kernel
theorem kx_0_608 : x_code k_P 0 608 = some (.iaload, 1) := by decide +kernel
theorem kx_0_609 : x_code k_P 0 609 = some (.aload_n 0, 1) := by decide +kernel
theorem kx_0_610 : x_code k_P 0 610 = some (.iload_n 3, 1) := by decide +kernel
theorem kx_0_611 : x_code k_P 0 611 = some (.iconst 2, 1) := by decide +kernel
theorem kx_0_612 : x_code k_P 0 612 = some (.iadd, 1) := by decide +kernel
theorem kx_0_613 : x_code k_P 0 613 = some (.iaload, 1) := by decide +kernel
theorem kx_0_614 : x_code k_P 0 614 = some (.invokevirtual 71, 3) := by decide +kernel
theorem kp_0_71 : x_pool k_P 0 71 = (2, 149, 2) := by decide +kernel
theorem ki_149 : x_mci k_P 149 = 11 := by decide +kernel
theorem kcl_149 : x_maxL k_P 149 ≤ 60 ∧ 3 ≤ x_maxL k_P 149 := by decide +kernel
theorem kx_0_617 : x_code k_P 0 617 = some (.pop, 1) := by decide +kernel
theorem kx_0_618 : x_code k_P 0 618 = some (.aload_n 2, 1) := by decide +kernel
theorem kx_0_619 : x_code k_P 0 619 = some (.aload_n 0, 1) := by decide +kernel
theorem kx_0_620 : x_code k_P 0 620 = some (.iload_n 3, 1) := by decide +kernel
theorem kx_0_621 : x_code k_P 0 621 = some (.iconst 1, 1) := by decide +kernel
theorem kx_0_622 : x_code k_P 0 622 = some (.iadd, 1) := by decide +kernel
theorem kx_0_623 : x_code k_P 0 623 = some (.iaload, 1) := by decide +kernel
theorem kx_0_624 : x_code k_P 0 624 = some (.aload_n 0, 1) := by decide +kernel
theorem kx_0_625 : x_code k_P 0 625 = some (.iload_n 3, 1) := by decide +kernel
theorem kx_0_626 : x_code k_P 0 626 = some (.iconst 2, 1) := by decide +kernel
theorem kx_0_627 : x_code k_P 0 627 = some (.iadd, 1) := by decide +kernel
theorem kx_0_628 : x_code k_P 0 628 = some (.iaload, 1) := by decide +kernel
theorem kx_0_629 : x_code k_P 0 629 = some (.invokevirtual 75, 3) := by decide +kernel
theorem kp_0_75 : x_pool k_P 0 75 = (2, 263, 2) := by decide +kernel
theorem ki_263 : x_mci k_P 263 = 12 := by decide +kernel
theorem kcl_263 : x_maxL k_P 263 ≤ 60 ∧ 3 ≤ x_maxL k_P 263 := by decide +kernel
theorem kx_0_632 : x_code k_P 0 632 = some (.pop, 1) := by decide +kernel
theorem kx_0_633 : x_code k_P 0 633 = some (.goto 388, 3) := by decide +kernel
theorem lw_13 {xs : Nat → Int} {Ln d : Nat} {i : Int} {T : List cK} {M : cM} {Q : Option cV → cH → Prop} (hT : TT T) (hI : Rng M) (hG : Gm T M) (hS : Sg M) (hl : M 1 1 = M 63 1) (h2 : M 2 = M 64) (hft : FT M) {t u : Nat} (ht : t = 8 ∨ t = 25) (hu : u = 8 ∨ u = 25) (h70 : M 7 0 = ((t : Nat) : Int)) (h71 : M 7 1 = ((u : Nat) : Int)) (hux : u = 8 ∧ t = 25 ∨ u = 25 ∧ t = 8) (hst : ST t M) (hsc : SCN t M) (hx : ∀ j, -2147483648 ≤ xs j ∧ xs j ≤ 2147483647) (hi : 0 ≤ i ∧ i + 6 ≤ (Ln : Int) ∧ (Ln : Int) ≤ 3072) (k : ∀ T1 M1, LI T1 M1 → cP k_P xs Ln (d + 88) 0 1021 [(3, (0, i)), (2, rf 63), (1, rf 0), (0, (4, 0))] [] (T1, M1) Q) : cP k_P xs Ln (d + 88) 0 603 [(3, (0, i)), (2, rf 63), (1, rf 0), (0, (4, 0))] [] (T, M) Q := by
  have hr1 := rg_1_1 hI
  have hr63 := rg_63_1 hI
  obtain ⟨D, S, H, hc_, hC, hR, hH, hK⟩ := id hsc
  refine s_aload_n kx_0_603 rfl ?_
  refine s_aload_nS kx_0_604 rfl ?_
  refine s_iload_n kx_0_605 rfl ?_
  refine s_iconst (v := 1) kx_0_606 (by decide) ?_
  refine r_add kx_0_607 ⟨by omega, by omega⟩ ?_
  refine l_ald kx_0_608 ⟨by omega, by omega⟩ (fun v1 v1e => ?_)
  have v1r := hx ((i + 1)).toNat
  refine s_aload_nS kx_0_609 rfl ?_
  refine s_iload_n kx_0_610 rfl ?_
  refine s_iconst (v := 2) kx_0_611 (by decide) ?_
  refine r_add kx_0_612 ⟨by omega, by omega⟩ ?_
  refine l_ald kx_0_613 ⟨by omega, by omega⟩ (fun v2 v2e => ?_)
  have v2r := hx ((i + 2)).toNat
  refine s_callV2 (k := 0) (s1 := 3) (s2 := 0) (as := [(0, v2), (0, v1)]) (rest := []) kx_0_614 kp_0_71 (Or.inl rfl) rfl (tk_0 hT) ki_149 kcl_149 rfl rfl (by decide) (g_149 (d := d + 84) (person := v1) (chair := v2) hT hI ht h70 hC hH) (kW (fun v3 M4 hI4 fr4 v3p => ?_))
  have tr5 := (fr4 1 1 rfl)
  have tr6 := (fr4 63 1 rfl)
  have hrr := act_r ⟨hR, hK⟩ fr4 rfl
  refine s_pop kx_0_617 rfl ?_
  refine s_aload_n kx_0_618 rfl ?_
  refine s_aload_nS kx_0_619 rfl ?_
  refine s_iload_n kx_0_620 rfl ?_
  refine s_iconst (v := 1) kx_0_621 (by decide) ?_
  refine r_add kx_0_622 ⟨by omega, by omega⟩ ?_
  refine l_ald kx_0_623 ⟨by omega, by omega⟩ (fun v7 v7e => ?_)
  have v7r := hx ((i + 1)).toNat
  refine s_aload_nS kx_0_624 rfl ?_
  refine s_iload_n kx_0_625 rfl ?_
  refine s_iconst (v := 2) kx_0_626 (by decide) ?_
  refine r_add kx_0_627 ⟨by omega, by omega⟩ ?_
  refine l_ald kx_0_628 ⟨by omega, by omega⟩ (fun v8 v8e => ?_)
  have v8r := hx ((i + 2)).toNat
  refine s_callV2 (k := 63) (s1 := 3) (s2 := 0) (as := [(0, v8), (0, v7)]) (rest := []) kx_0_629 kp_0_75 (Or.inl rfl) rfl (tk_63 hT) ki_263 kcl_263 rfl rfl (by decide) (g_263 (d := d + 85) (p := v7) (c := v8) hT hI4 hrr.1 hrr.2) (kW (fun v9 M10 hI10 fr10 v9p => ?_))
  have tr11 := (fr10 1 1 rfl)
  have tr12 := (fr10 63 1 rfl)
  rw [show v7 = v1 from v7e.trans v1e.symm, show v8 = v2 from v8e.trans v2e.symm] at v9p
  obtain ⟨hxy, hsc2⟩ := act_fin ht v3p fr10 rfl v9p (fun z w => by omega) (fun z w => by omega)
  refine s_pop kx_0_632 rfl ?_
  refine s_goto (t := 1021) kx_0_633 (by decide) ?_
  exact k T M10 ⟨hT, hI10, (Gm.fr (Gm.fr hG fr4 rfl) fr10 rfl), (Sg.fr (Sg.fr hS fr4 rfl) fr10 rfl), by omega, (((funext fun i => ((fr10 2 _ rfl).trans (fr4 2 _ rfl))).trans h2).trans (funext fun i => ((fr10 64 _ rfl).trans (fr4 64 _ rfl))).symm), (FT.fr (FT.fr hft fr4 rfl) fr10 rfl), t, u, hux, ((fr10 7 0 rfl).trans ((fr4 7 0 rfl).trans h70)), ((fr10 7 1 rfl).trans ((fr4 7 1 rfl).trans h71)), (ST.fr (ST.fr hst fr4 ht rfl) fr10 ht rfl), hsc2⟩
theorem kx_0_636 : x_code k_P 0 636 = some (.aload_n 1, 1) := by decide +kernel
theorem kx_0_637 : x_code k_P 0 637 = some (.aload_n 0, 1) := by decide +kernel
theorem kx_0_638 : x_code k_P 0 638 = some (.iload_n 3, 1) := by decide +kernel
theorem kx_0_639 : x_code k_P 0 639 = some (.iconst 1, 1) := by decide +kernel
theorem kx_0_640 : x_code k_P 0 640 = some (.iadd, 1) := by decide +kernel
theorem kx_0_641 : x_code k_P 0 641 = some (.iaload, 1) := by decide +kernel
theorem kx_0_642 : x_code k_P 0 642 = some (.invokevirtual 76, 3) := by decide +kernel
theorem kp_0_76 : x_pool k_P 0 76 = (2, 150, 1) := by decide +kernel
theorem ki_150 : x_mci k_P 150 = 11 := by decide +kernel
theorem kcl_150 : x_maxL k_P 150 ≤ 60 ∧ 2 ≤ x_maxL k_P 150 := by decide +kernel
theorem kx_0_645 : x_code k_P 0 645 = some (.pop, 1) := by decide +kernel
theorem kx_0_646 : x_code k_P 0 646 = some (.aload_n 2, 1) := by decide +kernel
theorem kx_0_647 : x_code k_P 0 647 = some (.aload_n 0, 1) := by decide +kernel
theorem kx_0_648 : x_code k_P 0 648 = some (.iload_n 3, 1) := by decide +kernel
theorem kx_0_649 : x_code k_P 0 649 = some (.iconst 1, 1) := by decide +kernel
theorem kx_0_650 : x_code k_P 0 650 = some (.iadd, 1) := by decide +kernel
theorem kx_0_651 : x_code k_P 0 651 = some (.iaload, 1) := by decide +kernel
theorem kx_0_652 : x_code k_P 0 652 = some (.invokevirtual 79, 3) := by decide +kernel
theorem kp_0_79 : x_pool k_P 0 79 = (2, 266, 1) := by decide +kernel
theorem ki_266 : x_mci k_P 266 = 12 := by decide +kernel
theorem kcl_266 : x_maxL k_P 266 ≤ 60 ∧ 2 ≤ x_maxL k_P 266 := by decide +kernel
theorem kx_0_655 : x_code k_P 0 655 = some (.pop, 1) := by decide +kernel
theorem kx_0_656 : x_code k_P 0 656 = some (.goto 365, 3) := by decide +kernel
theorem lw_14 {xs : Nat → Int} {Ln d : Nat} {i : Int} {T : List cK} {M : cM} {Q : Option cV → cH → Prop} (hT : TT T) (hI : Rng M) (hG : Gm T M) (hS : Sg M) (hl : M 1 1 = M 63 1) (h2 : M 2 = M 64) (hft : FT M) {t u : Nat} (ht : t = 8 ∨ t = 25) (hu : u = 8 ∨ u = 25) (h70 : M 7 0 = ((t : Nat) : Int)) (h71 : M 7 1 = ((u : Nat) : Int)) (hux : u = 8 ∧ t = 25 ∨ u = 25 ∧ t = 8) (hst : ST t M) (hsc : SCN t M) (hx : ∀ j, -2147483648 ≤ xs j ∧ xs j ≤ 2147483647) (hi : 0 ≤ i ∧ i + 6 ≤ (Ln : Int) ∧ (Ln : Int) ≤ 3072) (k : ∀ T1 M1, LI T1 M1 → cP k_P xs Ln (d + 88) 0 1021 [(3, (0, i)), (2, rf 63), (1, rf 0), (0, (4, 0))] [] (T1, M1) Q) : cP k_P xs Ln (d + 88) 0 636 [(3, (0, i)), (2, rf 63), (1, rf 0), (0, (4, 0))] [] (T, M) Q := by
  have hr1 := rg_1_1 hI
  have hr63 := rg_63_1 hI
  obtain ⟨D, S, H, hc_, hC, hR, hH, hK⟩ := id hsc
  refine s_aload_n kx_0_636 rfl ?_
  refine s_aload_nS kx_0_637 rfl ?_
  refine s_iload_n kx_0_638 rfl ?_
  refine s_iconst (v := 1) kx_0_639 (by decide) ?_
  refine r_add kx_0_640 ⟨by omega, by omega⟩ ?_
  refine l_ald kx_0_641 ⟨by omega, by omega⟩ (fun v1 v1e => ?_)
  have v1r := hx ((i + 1)).toNat
  refine s_callV2 (k := 0) (s1 := 2) (s2 := 0) (as := [(0, v1)]) (rest := []) kx_0_642 kp_0_76 (Or.inl rfl) rfl (tk_0 hT) ki_150 kcl_150 rfl rfl (by decide) (g_150 (d := d + 80) (n := v1) hT hI ht h70 (Gm.fm hG) hC hH hG) (kW (fun v2 M3 hI3 fr3 v2p => ?_))
  have tr4 := (fr3 1 1 rfl)
  have tr5 := (fr3 63 1 rfl)
  have hrr := act_r ⟨hR, hK⟩ fr3 rfl
  refine s_pop kx_0_645 rfl ?_
  refine s_aload_n kx_0_646 rfl ?_
  refine s_aload_nS kx_0_647 rfl ?_
  refine s_iload_n kx_0_648 rfl ?_
  refine s_iconst (v := 1) kx_0_649 (by decide) ?_
  refine r_add kx_0_650 ⟨by omega, by omega⟩ ?_
  refine l_ald kx_0_651 ⟨by omega, by omega⟩ (fun v6 v6e => ?_)
  have v6r := hx ((i + 1)).toNat
  refine s_callV2 (k := 63) (s1 := 2) (s2 := 0) (as := [(0, v6)]) (rest := []) kx_0_652 kp_0_79 (Or.inl rfl) rfl (tk_63 hT) ki_266 kcl_266 rfl rfl (by decide) (g_266 (d := d + 80) (n := v6) hT hI3 hrr.1 (Sg.fr hS fr3 rfl) hrr.2) (kW (fun v7 M8 hI8 fr8 v7p => ?_))
  have tr9 := (fr8 1 1 rfl)
  have tr10 := (fr8 63 1 rfl)
  rw [show v6 = v1 from v6e.trans v1e.symm] at v7p
  obtain ⟨hxy, hsc2⟩ := act_fin ht v2p fr8 rfl v7p (fun z w => by omega) (fun z w => by omega)
  refine s_pop kx_0_655 rfl ?_
  refine s_goto (t := 1021) kx_0_656 (by decide) ?_
  exact k T M8 ⟨hT, hI8, (Gm.fr (Gm.fr hG fr3 rfl) fr8 rfl), (Sg.fr (Sg.fr hS fr3 rfl) fr8 rfl), by omega, (((funext fun i => ((fr8 2 _ rfl).trans (fr3 2 _ rfl))).trans h2).trans (funext fun i => ((fr8 64 _ rfl).trans (fr3 64 _ rfl))).symm), (FT.fr (FT.fr hft fr3 rfl) fr8 rfl), t, u, hux, ((fr8 7 0 rfl).trans ((fr3 7 0 rfl).trans h70)), ((fr8 7 1 rfl).trans ((fr3 7 1 rfl).trans h71)), (ST.fr (ST.fr hst fr3 ht rfl) fr8 ht rfl), hsc2⟩
theorem kx_0_659 : x_code k_P 0 659 = some (.aload_n 1, 1) := by decide +kernel
theorem kx_0_660 : x_code k_P 0 660 = some (.invokevirtual 80, 3) := by decide +kernel
theorem kp_0_80 : x_pool k_P 0 80 = (2, 151, 0) := by decide +kernel
theorem ki_151 : x_mci k_P 151 = 11 := by decide +kernel
theorem kcl_151 : x_maxL k_P 151 ≤ 60 ∧ 1 ≤ x_maxL k_P 151 := by decide +kernel
theorem kx_0_663 : x_code k_P 0 663 = some (.pop, 1) := by decide +kernel
theorem kx_0_664 : x_code k_P 0 664 = some (.aload_n 2, 1) := by decide +kernel
theorem kx_0_665 : x_code k_P 0 665 = some (.invokevirtual 84, 3) := by decide +kernel
theorem kp_0_84 : x_pool k_P 0 84 = (2, 228, 0) := by decide +kernel
theorem ki_228 : x_mci k_P 228 = 12 := by decide +kernel
theorem kcl_228 : x_maxL k_P 228 ≤ 60 ∧ 1 ≤ x_maxL k_P 228 := by decide +kernel
theorem kx_0_668 : x_code k_P 0 668 = some (.pop, 1) := by decide +kernel
theorem kx_0_669 : x_code k_P 0 669 = some (.goto 352, 3) := by decide +kernel
theorem lw_15 {xs : Nat → Int} {Ln d : Nat} {i : Int} {T : List cK} {M : cM} {Q : Option cV → cH → Prop} (hT : TT T) (hI : Rng M) (hG : Gm T M) (hS : Sg M) (hl : M 1 1 = M 63 1) (h2 : M 2 = M 64) (hft : FT M) {t u : Nat} (ht : t = 8 ∨ t = 25) (hu : u = 8 ∨ u = 25) (h70 : M 7 0 = ((t : Nat) : Int)) (h71 : M 7 1 = ((u : Nat) : Int)) (hux : u = 8 ∧ t = 25 ∨ u = 25 ∧ t = 8) (hst : ST t M) (hsc : SCN t M) (hx : ∀ j, -2147483648 ≤ xs j ∧ xs j ≤ 2147483647) (hi : 0 ≤ i ∧ i + 6 ≤ (Ln : Int) ∧ (Ln : Int) ≤ 3072) (k : ∀ T1 M1, LI T1 M1 → cP k_P xs Ln (d + 88) 0 1021 [(3, (0, i)), (2, rf 63), (1, rf 0), (0, (4, 0))] [] (T1, M1) Q) : cP k_P xs Ln (d + 88) 0 659 [(3, (0, i)), (2, rf 63), (1, rf 0), (0, (4, 0))] [] (T, M) Q := by
  have hr1 := rg_1_1 hI
  have hr63 := rg_63_1 hI
  obtain ⟨D, S, H, hc_, hC, hR, hH, hK⟩ := id hsc
  refine s_aload_n kx_0_659 rfl ?_
  refine s_callV2 (k := 0) (s1 := 1) (s2 := 0) (as := []) (rest := []) kx_0_660 kp_0_80 (Or.inl rfl) rfl (tk_0 hT) ki_151 kcl_151 rfl rfl (by decide) (g_151 (d := d + 85) hT hI ht h70 hC hH) (kW (fun v1 M2 hI2 fr2 v1p => ?_))
  have tr3 := (fr2 1 1 rfl)
  have tr4 := (fr2 63 1 rfl)
  have hrr := act_r ⟨hR, hK⟩ fr2 rfl
  refine s_pop kx_0_663 rfl ?_
  refine s_aload_n kx_0_664 rfl ?_
  refine s_callV2 (k := 63) (s1 := 1) (s2 := 0) (as := []) (rest := []) kx_0_665 kp_0_84 (Or.inl rfl) rfl (tk_63 hT) ki_228 kcl_228 rfl rfl (by decide) (g_228 (d := d + 86) hT hI2 hrr.1 hrr.2) (kW (fun v5 M6 hI6 fr6 v5p => ?_))
  have tr7 := (fr6 1 1 rfl)
  have tr8 := (fr6 63 1 rfl)
  obtain ⟨hxy, hsc2⟩ := act_fin ht v1p fr6 rfl v5p (fun z w => by omega) (fun z w => by omega)
  refine s_pop kx_0_668 rfl ?_
  refine s_goto (t := 1021) kx_0_669 (by decide) ?_
  exact k T M6 ⟨hT, hI6, (Gm.fr (Gm.fr hG fr2 rfl) fr6 rfl), (Sg.fr (Sg.fr hS fr2 rfl) fr6 rfl), by omega, (((funext fun i => ((fr6 2 _ rfl).trans (fr2 2 _ rfl))).trans h2).trans (funext fun i => ((fr6 64 _ rfl).trans (fr2 64 _ rfl))).symm), (FT.fr (FT.fr hft fr2 rfl) fr6 rfl), t, u, hux, ((fr6 7 0 rfl).trans ((fr2 7 0 rfl).trans h70)), ((fr6 7 1 rfl).trans ((fr2 7 1 rfl).trans h71)), (ST.fr (ST.fr hst fr2 ht rfl) fr6 ht rfl), hsc2⟩
theorem kx_0_672 : x_code k_P 0 672 = some (.aload_n 1, 1) := by decide +kernel
theorem kx_0_673 : x_code k_P 0 673 = some (.aload_n 0, 1) := by decide +kernel
theorem kx_0_674 : x_code k_P 0 674 = some (.iload_n 3, 1) := by decide +kernel
theorem kx_0_675 : x_code k_P 0 675 = some (.iconst 1, 1) := by decide +kernel
theorem kx_0_676 : x_code k_P 0 676 = some (.iadd, 1) := by decide +kernel
theorem kx_0_677 : x_code k_P 0 677 = some (.iaload, 1) := by decide +kernel
theorem kx_0_678 : x_code k_P 0 678 = some (.invokevirtual 85, 3) := by decide +kernel
theorem kp_0_85 : x_pool k_P 0 85 = (2, 152, 1) := by decide +kernel
theorem ki_152 : x_mci k_P 152 = 11 := by decide +kernel
theorem kcl_152 : x_maxL k_P 152 ≤ 60 ∧ 2 ≤ x_maxL k_P 152 := by decide +kernel
theorem kx_0_681 : x_code k_P 0 681 = some (.pop, 1) := by decide +kernel
theorem kx_0_682 : x_code k_P 0 682 = some (.aload_n 2, 1) := by decide +kernel
theorem kx_0_683 : x_code k_P 0 683 = some (.aload_n 0, 1) := by decide +kernel
theorem kx_0_684 : x_code k_P 0 684 = some (.iload_n 3, 1) := by decide +kernel
theorem kx_0_685 : x_code k_P 0 685 = some (.iconst 1, 1) := by decide +kernel
theorem kx_0_686 : x_code k_P 0 686 = some (.iadd, 1) := by decide +kernel
theorem kx_0_687 : x_code k_P 0 687 = some (.iaload, 1) := by decide +kernel
theorem kx_0_688 : x_code k_P 0 688 = some (.invokevirtual 88, 3) := by decide +kernel
theorem kp_0_88 : x_pool k_P 0 88 = (2, 267, 1) := by decide +kernel
theorem ki_267 : x_mci k_P 267 = 12 := by decide +kernel
theorem kcl_267 : x_maxL k_P 267 ≤ 60 ∧ 2 ≤ x_maxL k_P 267 := by decide +kernel
theorem kx_0_691 : x_code k_P 0 691 = some (.pop, 1) := by decide +kernel
theorem kx_0_692 : x_code k_P 0 692 = some (.goto 329, 3) := by decide +kernel
theorem lw_16 {xs : Nat → Int} {Ln d : Nat} {i : Int} {T : List cK} {M : cM} {Q : Option cV → cH → Prop} (hT : TT T) (hI : Rng M) (hG : Gm T M) (hS : Sg M) (hl : M 1 1 = M 63 1) (h2 : M 2 = M 64) (hft : FT M) {t u : Nat} (ht : t = 8 ∨ t = 25) (hu : u = 8 ∨ u = 25) (h70 : M 7 0 = ((t : Nat) : Int)) (h71 : M 7 1 = ((u : Nat) : Int)) (hux : u = 8 ∧ t = 25 ∨ u = 25 ∧ t = 8) (hst : ST t M) (hsc : SCN t M) (hx : ∀ j, -2147483648 ≤ xs j ∧ xs j ≤ 2147483647) (hi : 0 ≤ i ∧ i + 6 ≤ (Ln : Int) ∧ (Ln : Int) ≤ 3072) (k : ∀ T1 M1, LI T1 M1 → cP k_P xs Ln (d + 88) 0 1021 [(3, (0, i)), (2, rf 63), (1, rf 0), (0, (4, 0))] [] (T1, M1) Q) : cP k_P xs Ln (d + 88) 0 672 [(3, (0, i)), (2, rf 63), (1, rf 0), (0, (4, 0))] [] (T, M) Q := by
  have hr1 := rg_1_1 hI
  have hr63 := rg_63_1 hI
  obtain ⟨D, S, H, hc_, hC, hR, hH, hK⟩ := id hsc
  refine s_aload_n kx_0_672 rfl ?_
  refine s_aload_nS kx_0_673 rfl ?_
  refine s_iload_n kx_0_674 rfl ?_
  refine s_iconst (v := 1) kx_0_675 (by decide) ?_
  refine r_add kx_0_676 ⟨by omega, by omega⟩ ?_
  refine l_ald kx_0_677 ⟨by omega, by omega⟩ (fun v1 v1e => ?_)
  have v1r := hx ((i + 1)).toNat
  refine s_callV2 (k := 0) (s1 := 2) (s2 := 0) (as := [(0, v1)]) (rest := []) kx_0_678 kp_0_85 (Or.inl rfl) rfl (tk_0 hT) ki_152 kcl_152 rfl rfl (by decide) (g_152 (d := d + 86) (seed := v1) hT hI ht h70 hC hH (by omega)) (kW (fun v2 M3 hI3 fr3 v2p => ?_))
  have tr4 := (fr3 1 1 rfl)
  have tr5 := (fr3 63 1 rfl)
  have hrr := act_r ⟨hR, hK⟩ fr3 rfl
  refine s_pop kx_0_681 rfl ?_
  refine s_aload_n kx_0_682 rfl ?_
  refine s_aload_nS kx_0_683 rfl ?_
  refine s_iload_n kx_0_684 rfl ?_
  refine s_iconst (v := 1) kx_0_685 (by decide) ?_
  refine r_add kx_0_686 ⟨by omega, by omega⟩ ?_
  refine l_ald kx_0_687 ⟨by omega, by omega⟩ (fun v6 v6e => ?_)
  have v6r := hx ((i + 1)).toNat
  refine s_callV2 (k := 63) (s1 := 2) (s2 := 0) (as := [(0, v6)]) (rest := []) kx_0_688 kp_0_88 (Or.inl rfl) rfl (tk_63 hT) ki_267 kcl_267 rfl rfl (by decide) (g_267 (d := d + 86) (v_ := v6) hT hI3 hrr.1 hrr.2 (by omega)) (kW (fun v7 M8 hI8 fr8 v7p => ?_))
  have tr9 := (fr8 1 1 rfl)
  have tr10 := (fr8 63 1 rfl)
  rw [show v6 = v1 from v6e.trans v1e.symm] at v7p
  obtain ⟨hxy, hsc2⟩ := act_fin ht v2p fr8 rfl v7p (fun z w => by omega) (fun z w => by omega)
  refine s_pop kx_0_691 rfl ?_
  refine s_goto (t := 1021) kx_0_692 (by decide) ?_
  exact k T M8 ⟨hT, hI8, (Gm.fr (Gm.fr hG fr3 rfl) fr8 rfl), (Sg.fr (Sg.fr hS fr3 rfl) fr8 rfl), by omega, (((funext fun i => ((fr8 2 _ rfl).trans (fr3 2 _ rfl))).trans h2).trans (funext fun i => ((fr8 64 _ rfl).trans (fr3 64 _ rfl))).symm), (FT.fr (FT.fr hft fr3 rfl) fr8 rfl), t, u, hux, ((fr8 7 0 rfl).trans ((fr3 7 0 rfl).trans h70)), ((fr8 7 1 rfl).trans ((fr3 7 1 rfl).trans h71)), (ST.fr (ST.fr hst fr3 ht rfl) fr8 ht rfl), hsc2⟩
theorem kx_0_695 : x_code k_P 0 695 = some (.aload_n 1, 1) := by decide +kernel
theorem kx_0_696 : x_code k_P 0 696 = some (.aload_n 0, 1) := by decide +kernel
theorem kx_0_697 : x_code k_P 0 697 = some (.iload_n 3, 1) := by decide +kernel
theorem kx_0_698 : x_code k_P 0 698 = some (.iconst 1, 1) := by decide +kernel
theorem kx_0_699 : x_code k_P 0 699 = some (.iadd, 1) := by decide +kernel
theorem kx_0_700 : x_code k_P 0 700 = some (.iaload, 1) := by decide +kernel
theorem kx_0_701 : x_code k_P 0 701 = some (.aload_n 0, 1) := by decide +kernel
theorem kx_0_702 : x_code k_P 0 702 = some (.iload_n 3, 1) := by decide +kernel
theorem kx_0_703 : x_code k_P 0 703 = some (.iconst 2, 1) := by decide +kernel
theorem kx_0_704 : x_code k_P 0 704 = some (.iadd, 1) := by decide +kernel
theorem kx_0_705 : x_code k_P 0 705 = some (.iaload, 1) := by decide +kernel
theorem kx_0_706 : x_code k_P 0 706 = some (.invokevirtual 89, 3) := by decide +kernel
theorem kp_0_89 : x_pool k_P 0 89 = (2, 153, 2) := by decide +kernel
theorem ki_153 : x_mci k_P 153 = 11 := by decide +kernel
theorem kcl_153 : x_maxL k_P 153 ≤ 60 ∧ 3 ≤ x_maxL k_P 153 := by decide +kernel
theorem kx_0_709 : x_code k_P 0 709 = some (.aload_n 2, 1) := by decide +kernel
theorem kx_0_710 : x_code k_P 0 710 = some (.aload_n 0, 1) := by decide +kernel
theorem kx_0_711 : x_code k_P 0 711 = some (.iload_n 3, 1) := by decide +kernel
theorem kx_0_712 : x_code k_P 0 712 = some (.iconst 1, 1) := by decide +kernel
theorem kx_0_713 : x_code k_P 0 713 = some (.iadd, 1) := by decide +kernel
theorem kx_0_714 : x_code k_P 0 714 = some (.iaload, 1) := by decide +kernel
theorem kx_0_715 : x_code k_P 0 715 = some (.aload_n 0, 1) := by decide +kernel
theorem kx_0_716 : x_code k_P 0 716 = some (.iload_n 3, 1) := by decide +kernel
theorem kx_0_717 : x_code k_P 0 717 = some (.iconst 2, 1) := by decide +kernel
theorem kx_0_718 : x_code k_P 0 718 = some (.iadd, 1) := by decide +kernel
theorem kx_0_719 : x_code k_P 0 719 = some (.iaload, 1) := by decide +kernel
theorem kx_0_720 : x_code k_P 0 720 = some (.invokevirtual 92, 3) := by decide +kernel
theorem kp_0_92 : x_pool k_P 0 92 = (2, 268, 2) := by decide +kernel
theorem ki_268 : x_mci k_P 268 = 12 := by decide +kernel
theorem kcl_268 : x_maxL k_P 268 ≤ 60 ∧ 3 ≤ x_maxL k_P 268 := by decide +kernel
theorem kx_0_723 : x_code k_P 0 723 = some (.if_icmp .eq 298, 3) := by decide +kernel
theorem lw_17 {xs : Nat → Int} {Ln d : Nat} {i : Int} {T : List cK} {M : cM} {Q : Option cV → cH → Prop} (hT : TT T) (hI : Rng M) (hG : Gm T M) (hS : Sg M) (hl : M 1 1 = M 63 1) (h2 : M 2 = M 64) (hft : FT M) {t u : Nat} (ht : t = 8 ∨ t = 25) (hu : u = 8 ∨ u = 25) (h70 : M 7 0 = ((t : Nat) : Int)) (h71 : M 7 1 = ((u : Nat) : Int)) (hux : u = 8 ∧ t = 25 ∨ u = 25 ∧ t = 8) (hst : ST t M) (hsc : SCN t M) (hx : ∀ j, -2147483648 ≤ xs j ∧ xs j ≤ 2147483647) (hi : 0 ≤ i ∧ i + 6 ≤ (Ln : Int) ∧ (Ln : Int) ≤ 3072) (k : ∀ T1 M1, LI T1 M1 → cP k_P xs Ln (d + 88) 0 1021 [(3, (0, i)), (2, rf 63), (1, rf 0), (0, (4, 0))] [] (T1, M1) Q) : cP k_P xs Ln (d + 88) 0 695 [(3, (0, i)), (2, rf 63), (1, rf 0), (0, (4, 0))] [] (T, M) Q := by
  have hr1 := rg_1_1 hI
  have hr63 := rg_63_1 hI
  obtain ⟨D, S, H, hc_, hC, hR, hH, hK⟩ := id hsc
  refine s_aload_n kx_0_695 rfl ?_
  refine s_aload_nS kx_0_696 rfl ?_
  refine s_iload_n kx_0_697 rfl ?_
  refine s_iconst (v := 1) kx_0_698 (by decide) ?_
  refine r_add kx_0_699 ⟨by omega, by omega⟩ ?_
  refine l_ald kx_0_700 ⟨by omega, by omega⟩ (fun v1 v1e => ?_)
  have v1r := hx ((i + 1)).toNat
  refine s_aload_nS kx_0_701 rfl ?_
  refine s_iload_n kx_0_702 rfl ?_
  refine s_iconst (v := 2) kx_0_703 (by decide) ?_
  refine r_add kx_0_704 ⟨by omega, by omega⟩ ?_
  refine l_ald kx_0_705 ⟨by omega, by omega⟩ (fun v2 v2e => ?_)
  have v2r := hx ((i + 2)).toNat
  refine s_callV2 (k := 0) (s1 := 3) (s2 := 0) (as := [(0, v2), (0, v1)]) (rest := []) kx_0_706 kp_0_89 (Or.inl rfl) rfl (tk_0 hT) ki_153 kcl_153 rfl rfl (by decide) (g_153 (d := d + 85) (k := v1) (what := v2) hT hI ht h70 hC) (kF (fun v3 v3p => ?_))
  refine s_aload_n kx_0_709 rfl ?_
  refine s_aload_nS kx_0_710 rfl ?_
  refine s_iload_n kx_0_711 rfl ?_
  refine s_iconst (v := 1) kx_0_712 (by decide) ?_
  refine r_add kx_0_713 ⟨by omega, by omega⟩ ?_
  refine l_ald kx_0_714 ⟨by omega, by omega⟩ (fun v4 v4e => ?_)
  have v4r := hx ((i + 1)).toNat
  refine s_aload_nS kx_0_715 rfl ?_
  refine s_iload_n kx_0_716 rfl ?_
  refine s_iconst (v := 2) kx_0_717 (by decide) ?_
  refine r_add kx_0_718 ⟨by omega, by omega⟩ ?_
  refine l_ald kx_0_719 ⟨by omega, by omega⟩ (fun v5 v5e => ?_)
  have v5r := hx ((i + 2)).toNat
  refine s_callV2 (k := 63) (s1 := 3) (s2 := 1) (as := [(0, v5), (0, v4)]) (rest := [(0, v3)]) kx_0_720 kp_0_92 (Or.inl rfl) rfl (tk_63 hT) ki_268 kcl_268 rfl rfl (by decide) (g_268 (d := d + 86) (k := v4) (what := v5) hT hI hR) (kF (fun v6 v6p => ?_))
  rw [show v4 = v1 from v4e.trans v1e.symm, show v5 = v2 from v5e.trans v2e.symm] at v6p
  have heq : v3 = v6 := by rw [v3p, v6p]
  refine s_icmp_eq (t := 1021) kx_0_723 (by decide) (fun hc7 => ?_) (fun hc7 => ?_)
  · exact k T M ⟨hT, hI, hG, hS, by omega, (((funext fun i => rfl).trans h2).trans (funext fun i => rfl).symm), hft, t, u, hux, h70, h71, hst, hsc⟩
  · exfalso
    omega
theorem kx_0_728 : x_code k_P 0 728 = some (.aload_n 1, 1) := by decide +kernel
theorem kx_0_729 : x_code k_P 0 729 = some (.aload_n 0, 1) := by decide +kernel
theorem kx_0_730 : x_code k_P 0 730 = some (.iload_n 3, 1) := by decide +kernel
theorem kx_0_731 : x_code k_P 0 731 = some (.iconst 1, 1) := by decide +kernel
theorem kx_0_732 : x_code k_P 0 732 = some (.iadd, 1) := by decide +kernel
theorem kx_0_733 : x_code k_P 0 733 = some (.iaload, 1) := by decide +kernel
theorem kx_0_734 : x_code k_P 0 734 = some (.aload_n 0, 1) := by decide +kernel
theorem kx_0_735 : x_code k_P 0 735 = some (.iload_n 3, 1) := by decide +kernel
theorem kx_0_736 : x_code k_P 0 736 = some (.iconst 2, 1) := by decide +kernel
theorem kx_0_737 : x_code k_P 0 737 = some (.iadd, 1) := by decide +kernel
theorem kx_0_738 : x_code k_P 0 738 = some (.iaload, 1) := by decide +kernel
theorem kx_0_739 : x_code k_P 0 739 = some (.aload_n 0, 1) := by decide +kernel
theorem kx_0_740 : x_code k_P 0 740 = some (.iload_n 3, 1) := by decide +kernel
theorem kx_0_741 : x_code k_P 0 741 = some (.iconst 3, 1) := by decide +kernel
theorem kx_0_742 : x_code k_P 0 742 = some (.iadd, 1) := by decide +kernel
theorem kx_0_743 : x_code k_P 0 743 = some (.iaload, 1) := by decide +kernel
theorem kx_0_744 : x_code k_P 0 744 = some (.aload_n 0, 1) := by decide +kernel
theorem kx_0_745 : x_code k_P 0 745 = some (.iload_n 3, 1) := by decide +kernel
theorem kx_0_746 : x_code k_P 0 746 = some (.iconst 4, 1) := by decide +kernel
theorem kx_0_747 : x_code k_P 0 747 = some (.iadd, 1) := by decide +kernel
theorem kx_0_748 : x_code k_P 0 748 = some (.iaload, 1) := by decide +kernel
theorem kx_0_749 : x_code k_P 0 749 = some (.invokevirtual 93, 3) := by decide +kernel
theorem kp_0_93 : x_pool k_P 0 93 = (2, 154, 4) := by decide +kernel
theorem ki_154 : x_mci k_P 154 = 11 := by decide +kernel
theorem kcl_154 : x_maxL k_P 154 ≤ 60 ∧ 5 ≤ x_maxL k_P 154 := by decide +kernel
theorem kx_0_752 : x_code k_P 0 752 = some (.pop, 1) := by decide +kernel
theorem kx_0_753 : x_code k_P 0 753 = some (.aload_n 2, 1) := by decide +kernel
theorem kx_0_754 : x_code k_P 0 754 = some (.aload_n 0, 1) := by decide +kernel
theorem kx_0_755 : x_code k_P 0 755 = some (.iload_n 3, 1) := by decide +kernel
theorem kx_0_756 : x_code k_P 0 756 = some (.iconst 1, 1) := by decide +kernel
theorem kx_0_757 : x_code k_P 0 757 = some (.iadd, 1) := by decide +kernel
theorem kx_0_758 : x_code k_P 0 758 = some (.iaload, 1) := by decide +kernel
theorem kx_0_759 : x_code k_P 0 759 = some (.aload_n 0, 1) := by decide +kernel
theorem kx_0_760 : x_code k_P 0 760 = some (.iload_n 3, 1) := by decide +kernel
theorem kx_0_761 : x_code k_P 0 761 = some (.iconst 2, 1) := by decide +kernel
theorem kx_0_762 : x_code k_P 0 762 = some (.iadd, 1) := by decide +kernel
theorem kx_0_763 : x_code k_P 0 763 = some (.iaload, 1) := by decide +kernel
theorem kx_0_764 : x_code k_P 0 764 = some (.aload_n 0, 1) := by decide +kernel
theorem kx_0_765 : x_code k_P 0 765 = some (.iload_n 3, 1) := by decide +kernel
theorem kx_0_766 : x_code k_P 0 766 = some (.iconst 3, 1) := by decide +kernel
theorem kx_0_767 : x_code k_P 0 767 = some (.iadd, 1) := by decide +kernel
theorem kx_0_768 : x_code k_P 0 768 = some (.iaload, 1) := by decide +kernel
theorem kx_0_769 : x_code k_P 0 769 = some (.aload_n 0, 1) := by decide +kernel
theorem kx_0_770 : x_code k_P 0 770 = some (.iload_n 3, 1) := by decide +kernel
theorem kx_0_771 : x_code k_P 0 771 = some (.iconst 4, 1) := by decide +kernel
theorem kx_0_772 : x_code k_P 0 772 = some (.iadd, 1) := by decide +kernel
theorem kx_0_773 : x_code k_P 0 773 = some (.iaload, 1) := by decide +kernel
theorem kx_0_774 : x_code k_P 0 774 = some (.invokevirtual 97, 3) := by decide +kernel
theorem kp_0_97 : x_pool k_P 0 97 = (2, 273, 4) := by decide +kernel
theorem ki_273 : x_mci k_P 273 = 12 := by decide +kernel
theorem kcl_273 : x_maxL k_P 273 ≤ 60 ∧ 5 ≤ x_maxL k_P 273 := by decide +kernel
theorem kx_0_777 : x_code k_P 0 777 = some (.pop, 1) := by decide +kernel
theorem kx_0_778 : x_code k_P 0 778 = some (.goto 243, 3) := by decide +kernel
theorem lw_18 {xs : Nat → Int} {Ln d : Nat} {i : Int} {T : List cK} {M : cM} {Q : Option cV → cH → Prop} (hT : TT T) (hI : Rng M) (hG : Gm T M) (hS : Sg M) (hl : M 1 1 = M 63 1) (h2 : M 2 = M 64) (hft : FT M) {t u : Nat} (ht : t = 8 ∨ t = 25) (hu : u = 8 ∨ u = 25) (h70 : M 7 0 = ((t : Nat) : Int)) (h71 : M 7 1 = ((u : Nat) : Int)) (hux : u = 8 ∧ t = 25 ∨ u = 25 ∧ t = 8) (hst : ST t M) (hsc : SCN t M) (hx : ∀ j, -2147483648 ≤ xs j ∧ xs j ≤ 2147483647) (hi : 0 ≤ i ∧ i + 6 ≤ (Ln : Int) ∧ (Ln : Int) ≤ 3072) (k : ∀ T1 M1, LI T1 M1 → cP k_P xs Ln (d + 88) 0 1021 [(3, (0, i)), (2, rf 63), (1, rf 0), (0, (4, 0))] [] (T1, M1) Q) : cP k_P xs Ln (d + 88) 0 728 [(3, (0, i)), (2, rf 63), (1, rf 0), (0, (4, 0))] [] (T, M) Q := by
  have hr1 := rg_1_1 hI
  have hr63 := rg_63_1 hI
  obtain ⟨D, S, H, hc_, hC, hR, hH, hK⟩ := id hsc
  refine s_aload_n kx_0_728 rfl ?_
  refine s_aload_nS kx_0_729 rfl ?_
  refine s_iload_n kx_0_730 rfl ?_
  refine s_iconst (v := 1) kx_0_731 (by decide) ?_
  refine r_add kx_0_732 ⟨by omega, by omega⟩ ?_
  refine l_ald kx_0_733 ⟨by omega, by omega⟩ (fun v1 v1e => ?_)
  have v1r := hx ((i + 1)).toNat
  refine s_aload_nS kx_0_734 rfl ?_
  refine s_iload_n kx_0_735 rfl ?_
  refine s_iconst (v := 2) kx_0_736 (by decide) ?_
  refine r_add kx_0_737 ⟨by omega, by omega⟩ ?_
  refine l_ald kx_0_738 ⟨by omega, by omega⟩ (fun v2 v2e => ?_)
  have v2r := hx ((i + 2)).toNat
  refine s_aload_nS kx_0_739 rfl ?_
  refine s_iload_n kx_0_740 rfl ?_
  refine s_iconst (v := 3) kx_0_741 (by decide) ?_
  refine r_add kx_0_742 ⟨by omega, by omega⟩ ?_
  refine l_ald kx_0_743 ⟨by omega, by omega⟩ (fun v3 v3e => ?_)
  have v3r := hx ((i + 3)).toNat
  refine s_aload_nS kx_0_744 rfl ?_
  refine s_iload_n kx_0_745 rfl ?_
  refine s_iconst (v := 4) kx_0_746 (by decide) ?_
  refine r_add kx_0_747 ⟨by omega, by omega⟩ ?_
  refine l_ald kx_0_748 ⟨by omega, by omega⟩ (fun v4 v4e => ?_)
  have v4r := hx ((i + 4)).toNat
  refine s_callV2 (k := 0) (s1 := 5) (s2 := 0) (as := [(0, v4), (0, v3), (0, v2), (0, v1)]) (rest := []) kx_0_749 kp_0_93 (Or.inl rfl) rfl (tk_0 hT) ki_154 kcl_154 rfl rfl (by decide) (m_154 (d := d + 80) (person := v1) (chair := v2) (room := v3) (k := v4) hT hI ht h70 (Gm.fm hG)) (kW (fun v5 M6 hI6 fr6 v5p => ?_))
  have tr7 := (fr6 1 1 rfl)
  have tr8 := (fr6 63 1 rfl)
  refine s_pop kx_0_752 rfl ?_
  refine s_aload_n kx_0_753 rfl ?_
  refine s_aload_nS kx_0_754 rfl ?_
  refine s_iload_n kx_0_755 rfl ?_
  refine s_iconst (v := 1) kx_0_756 (by decide) ?_
  refine r_add kx_0_757 ⟨by omega, by omega⟩ ?_
  refine l_ald kx_0_758 ⟨by omega, by omega⟩ (fun v9 v9e => ?_)
  have v9r := hx ((i + 1)).toNat
  refine s_aload_nS kx_0_759 rfl ?_
  refine s_iload_n kx_0_760 rfl ?_
  refine s_iconst (v := 2) kx_0_761 (by decide) ?_
  refine r_add kx_0_762 ⟨by omega, by omega⟩ ?_
  refine l_ald kx_0_763 ⟨by omega, by omega⟩ (fun v10 v10e => ?_)
  have v10r := hx ((i + 2)).toNat
  refine s_aload_nS kx_0_764 rfl ?_
  refine s_iload_n kx_0_765 rfl ?_
  refine s_iconst (v := 3) kx_0_766 (by decide) ?_
  refine r_add kx_0_767 ⟨by omega, by omega⟩ ?_
  refine l_ald kx_0_768 ⟨by omega, by omega⟩ (fun v11 v11e => ?_)
  have v11r := hx ((i + 3)).toNat
  refine s_aload_nS kx_0_769 rfl ?_
  refine s_iload_n kx_0_770 rfl ?_
  refine s_iconst (v := 4) kx_0_771 (by decide) ?_
  refine r_add kx_0_772 ⟨by omega, by omega⟩ ?_
  refine l_ald kx_0_773 ⟨by omega, by omega⟩ (fun v12 v12e => ?_)
  have v12r := hx ((i + 4)).toNat
  refine s_callV2 (k := 63) (s1 := 5) (s2 := 0) (as := [(0, v12), (0, v11), (0, v10), (0, v9)]) (rest := []) kx_0_774 kp_0_97 (Or.inl rfl) rfl (tk_63 hT) ki_273 kcl_273 rfl rfl (by decide) (m_273 (d := d + 81) (p := v9) (c := v10) (to := v11) (k := v12) hT hI6 (Sg.fr hS fr6 rfl)) (kW (fun v13 M14 hI14 fr14 v13p => ?_))
  have tr15 := (fr14 1 1 rfl)
  have tr16 := (fr14 63 1 rfl)
  refine s_pop kx_0_777 rfl ?_
  refine s_goto (t := 1021) kx_0_778 (by decide) ?_
  exact k T M14 ⟨hT, hI14, (Gm.fr (Gm.fr hG fr6 rfl) fr14 rfl), (Sg.fr (Sg.fr hS fr6 rfl) fr14 rfl), by omega, (((funext fun i => ((fr14 2 _ rfl).trans (fr6 2 _ rfl))).trans h2).trans (funext fun i => ((fr14 64 _ rfl).trans (fr6 64 _ rfl))).symm), (FT.fr (FT.fr hft fr6 rfl) fr14 rfl), t, u, hux, ((fr14 7 0 rfl).trans ((fr6 7 0 rfl).trans h70)), ((fr14 7 1 rfl).trans ((fr6 7 1 rfl).trans h71)), (ST.fr (ST.fr hst fr6 ht rfl) fr14 ht rfl), (SCN.fr (SCN.fr hsc fr6 ht rfl) fr14 ht rfl)⟩
theorem kx_0_781 : x_code k_P 0 781 = some (.aload_n 1, 1) := by decide +kernel
theorem kx_0_782 : x_code k_P 0 782 = some (.aload_n 0, 1) := by decide +kernel
theorem kx_0_783 : x_code k_P 0 783 = some (.iload_n 3, 1) := by decide +kernel
theorem kx_0_784 : x_code k_P 0 784 = some (.iconst 1, 1) := by decide +kernel
theorem kx_0_785 : x_code k_P 0 785 = some (.iadd, 1) := by decide +kernel
theorem kx_0_786 : x_code k_P 0 786 = some (.iaload, 1) := by decide +kernel
theorem kx_0_787 : x_code k_P 0 787 = some (.aload_n 0, 1) := by decide +kernel
theorem kx_0_788 : x_code k_P 0 788 = some (.iload_n 3, 1) := by decide +kernel
theorem kx_0_789 : x_code k_P 0 789 = some (.iconst 2, 1) := by decide +kernel
theorem kx_0_790 : x_code k_P 0 790 = some (.iadd, 1) := by decide +kernel
theorem kx_0_791 : x_code k_P 0 791 = some (.iaload, 1) := by decide +kernel
theorem kx_0_792 : x_code k_P 0 792 = some (.aload_n 0, 1) := by decide +kernel
theorem kx_0_793 : x_code k_P 0 793 = some (.iload_n 3, 1) := by decide +kernel
theorem kx_0_794 : x_code k_P 0 794 = some (.iconst 3, 1) := by decide +kernel
theorem kx_0_795 : x_code k_P 0 795 = some (.iadd, 1) := by decide +kernel
theorem kx_0_796 : x_code k_P 0 796 = some (.iaload, 1) := by decide +kernel
theorem kx_0_797 : x_code k_P 0 797 = some (.invokevirtual 98, 3) := by decide +kernel
theorem kp_0_98 : x_pool k_P 0 98 = (2, 155, 3) := by decide +kernel
theorem ki_155 : x_mci k_P 155 = 11 := by decide +kernel
theorem kcl_155 : x_maxL k_P 155 ≤ 60 ∧ 4 ≤ x_maxL k_P 155 := by decide +kernel
theorem kx_0_800 : x_code k_P 0 800 = some (.pop, 1) := by decide +kernel
theorem kx_0_801 : x_code k_P 0 801 = some (.aload_n 2, 1) := by decide +kernel
theorem kx_0_802 : x_code k_P 0 802 = some (.aload_n 0, 1) := by decide +kernel
theorem kx_0_803 : x_code k_P 0 803 = some (.iload_n 3, 1) := by decide +kernel
theorem kx_0_804 : x_code k_P 0 804 = some (.iconst 1, 1) := by decide +kernel
theorem kx_0_805 : x_code k_P 0 805 = some (.iadd, 1) := by decide +kernel
theorem kx_0_806 : x_code k_P 0 806 = some (.iaload, 1) := by decide +kernel
theorem kx_0_807 : x_code k_P 0 807 = some (.aload_n 0, 1) := by decide +kernel
theorem kx_0_808 : x_code k_P 0 808 = some (.iload_n 3, 1) := by decide +kernel
theorem kx_0_809 : x_code k_P 0 809 = some (.iconst 2, 1) := by decide +kernel
theorem kx_0_810 : x_code k_P 0 810 = some (.iadd, 1) := by decide +kernel
theorem kx_0_811 : x_code k_P 0 811 = some (.iaload, 1) := by decide +kernel
theorem kx_0_812 : x_code k_P 0 812 = some (.aload_n 0, 1) := by decide +kernel
theorem kx_0_813 : x_code k_P 0 813 = some (.iload_n 3, 1) := by decide +kernel
theorem kx_0_814 : x_code k_P 0 814 = some (.iconst 3, 1) := by decide +kernel
theorem kx_0_815 : x_code k_P 0 815 = some (.iadd, 1) := by decide +kernel
theorem kx_0_816 : x_code k_P 0 816 = some (.iaload, 1) := by decide +kernel
theorem kx_0_817 : x_code k_P 0 817 = some (.invokevirtual 101, 3) := by decide +kernel
theorem kp_0_101 : x_pool k_P 0 101 = (2, 274, 3) := by decide +kernel
theorem ki_274 : x_mci k_P 274 = 12 := by decide +kernel
theorem kcl_274 : x_maxL k_P 274 ≤ 60 ∧ 4 ≤ x_maxL k_P 274 := by decide +kernel
theorem kx_0_820 : x_code k_P 0 820 = some (.pop, 1) := by decide +kernel
theorem kx_0_821 : x_code k_P 0 821 = some (.goto 200, 3) := by decide +kernel
theorem lw_19 {xs : Nat → Int} {Ln d : Nat} {i : Int} {T : List cK} {M : cM} {Q : Option cV → cH → Prop} (hT : TT T) (hI : Rng M) (hG : Gm T M) (hS : Sg M) (hl : M 1 1 = M 63 1) (h2 : M 2 = M 64) (hft : FT M) {t u : Nat} (ht : t = 8 ∨ t = 25) (hu : u = 8 ∨ u = 25) (h70 : M 7 0 = ((t : Nat) : Int)) (h71 : M 7 1 = ((u : Nat) : Int)) (hux : u = 8 ∧ t = 25 ∨ u = 25 ∧ t = 8) (hst : ST t M) (hsc : SCN t M) (hx : ∀ j, -2147483648 ≤ xs j ∧ xs j ≤ 2147483647) (hi : 0 ≤ i ∧ i + 6 ≤ (Ln : Int) ∧ (Ln : Int) ≤ 3072) (k : ∀ T1 M1, LI T1 M1 → cP k_P xs Ln (d + 88) 0 1021 [(3, (0, i)), (2, rf 63), (1, rf 0), (0, (4, 0))] [] (T1, M1) Q) : cP k_P xs Ln (d + 88) 0 781 [(3, (0, i)), (2, rf 63), (1, rf 0), (0, (4, 0))] [] (T, M) Q := by
  have hr1 := rg_1_1 hI
  have hr63 := rg_63_1 hI
  obtain ⟨D, S, H, hc_, hC, hR, hH, hK⟩ := id hsc
  refine s_aload_n kx_0_781 rfl ?_
  refine s_aload_nS kx_0_782 rfl ?_
  refine s_iload_n kx_0_783 rfl ?_
  refine s_iconst (v := 1) kx_0_784 (by decide) ?_
  refine r_add kx_0_785 ⟨by omega, by omega⟩ ?_
  refine l_ald kx_0_786 ⟨by omega, by omega⟩ (fun v1 v1e => ?_)
  have v1r := hx ((i + 1)).toNat
  refine s_aload_nS kx_0_787 rfl ?_
  refine s_iload_n kx_0_788 rfl ?_
  refine s_iconst (v := 2) kx_0_789 (by decide) ?_
  refine r_add kx_0_790 ⟨by omega, by omega⟩ ?_
  refine l_ald kx_0_791 ⟨by omega, by omega⟩ (fun v2 v2e => ?_)
  have v2r := hx ((i + 2)).toNat
  refine s_aload_nS kx_0_792 rfl ?_
  refine s_iload_n kx_0_793 rfl ?_
  refine s_iconst (v := 3) kx_0_794 (by decide) ?_
  refine r_add kx_0_795 ⟨by omega, by omega⟩ ?_
  refine l_ald kx_0_796 ⟨by omega, by omega⟩ (fun v3 v3e => ?_)
  have v3r := hx ((i + 3)).toNat
  refine s_callV2 (k := 0) (s1 := 4) (s2 := 0) (as := [(0, v3), (0, v2), (0, v1)]) (rest := []) kx_0_797 kp_0_98 (Or.inl rfl) rfl (tk_0 hT) ki_155 kcl_155 rfl rfl (by decide) (m_155 (d := d + 80) (chair := v1) (room := v2) (k := v3) hT hI ht h70 (Gm.fm hG)) (kW (fun v4 M5 hI5 fr5 v4p => ?_))
  have tr6 := (fr5 1 1 rfl)
  have tr7 := (fr5 63 1 rfl)
  refine s_pop kx_0_800 rfl ?_
  refine s_aload_n kx_0_801 rfl ?_
  refine s_aload_nS kx_0_802 rfl ?_
  refine s_iload_n kx_0_803 rfl ?_
  refine s_iconst (v := 1) kx_0_804 (by decide) ?_
  refine r_add kx_0_805 ⟨by omega, by omega⟩ ?_
  refine l_ald kx_0_806 ⟨by omega, by omega⟩ (fun v8 v8e => ?_)
  have v8r := hx ((i + 1)).toNat
  refine s_aload_nS kx_0_807 rfl ?_
  refine s_iload_n kx_0_808 rfl ?_
  refine s_iconst (v := 2) kx_0_809 (by decide) ?_
  refine r_add kx_0_810 ⟨by omega, by omega⟩ ?_
  refine l_ald kx_0_811 ⟨by omega, by omega⟩ (fun v9 v9e => ?_)
  have v9r := hx ((i + 2)).toNat
  refine s_aload_nS kx_0_812 rfl ?_
  refine s_iload_n kx_0_813 rfl ?_
  refine s_iconst (v := 3) kx_0_814 (by decide) ?_
  refine r_add kx_0_815 ⟨by omega, by omega⟩ ?_
  refine l_ald kx_0_816 ⟨by omega, by omega⟩ (fun v10 v10e => ?_)
  have v10r := hx ((i + 3)).toNat
  refine s_callV2 (k := 63) (s1 := 4) (s2 := 0) (as := [(0, v10), (0, v9), (0, v8)]) (rest := []) kx_0_817 kp_0_101 (Or.inl rfl) rfl (tk_63 hT) ki_274 kcl_274 rfl rfl (by decide) (m_274 (d := d + 81) (c := v8) (to := v9) (k := v10) hT hI5 (Sg.fr hS fr5 rfl)) (kW (fun v11 M12 hI12 fr12 v11p => ?_))
  have tr13 := (fr12 1 1 rfl)
  have tr14 := (fr12 63 1 rfl)
  refine s_pop kx_0_820 rfl ?_
  refine s_goto (t := 1021) kx_0_821 (by decide) ?_
  exact k T M12 ⟨hT, hI12, (Gm.fr (Gm.fr hG fr5 rfl) fr12 rfl), (Sg.fr (Sg.fr hS fr5 rfl) fr12 rfl), by omega, (((funext fun i => ((fr12 2 _ rfl).trans (fr5 2 _ rfl))).trans h2).trans (funext fun i => ((fr12 64 _ rfl).trans (fr5 64 _ rfl))).symm), (FT.fr (FT.fr hft fr5 rfl) fr12 rfl), t, u, hux, ((fr12 7 0 rfl).trans ((fr5 7 0 rfl).trans h70)), ((fr12 7 1 rfl).trans ((fr5 7 1 rfl).trans h71)), (ST.fr (ST.fr hst fr5 ht rfl) fr12 ht rfl), (SCN.fr (SCN.fr hsc fr5 ht rfl) fr12 ht rfl)⟩
theorem kx_0_824 : x_code k_P 0 824 = some (.aload_n 1, 1) := by decide +kernel
theorem kx_0_825 : x_code k_P 0 825 = some (.aload_n 0, 1) := by decide +kernel
theorem kx_0_826 : x_code k_P 0 826 = some (.iload_n 3, 1) := by decide +kernel
theorem kx_0_827 : x_code k_P 0 827 = some (.iconst 1, 1) := by decide +kernel
theorem kx_0_828 : x_code k_P 0 828 = some (.iadd, 1) := by decide +kernel
theorem kx_0_829 : x_code k_P 0 829 = some (.iaload, 1) := by decide +kernel
theorem kx_0_830 : x_code k_P 0 830 = some (.invokevirtual 102, 3) := by decide +kernel
theorem kp_0_102 : x_pool k_P 0 102 = (2, 156, 1) := by decide +kernel
theorem ki_156 : x_mci k_P 156 = 11 := by decide +kernel
theorem kcl_156 : x_maxL k_P 156 ≤ 60 ∧ 2 ≤ x_maxL k_P 156 := by decide +kernel
theorem kx_0_833 : x_code k_P 0 833 = some (.pop, 1) := by decide +kernel
theorem kx_0_834 : x_code k_P 0 834 = some (.aload_n 2, 1) := by decide +kernel
theorem kx_0_835 : x_code k_P 0 835 = some (.aload_n 0, 1) := by decide +kernel
theorem kx_0_836 : x_code k_P 0 836 = some (.iload_n 3, 1) := by decide +kernel
theorem kx_0_837 : x_code k_P 0 837 = some (.iconst 1, 1) := by decide +kernel
theorem kx_0_838 : x_code k_P 0 838 = some (.iadd, 1) := by decide +kernel
theorem kx_0_839 : x_code k_P 0 839 = some (.iaload, 1) := by decide +kernel
theorem kx_0_840 : x_code k_P 0 840 = some (.invokevirtual 105, 3) := by decide +kernel
theorem kp_0_105 : x_pool k_P 0 105 = (2, 277, 1) := by decide +kernel
theorem ki_277 : x_mci k_P 277 = 12 := by decide +kernel
theorem kcl_277 : x_maxL k_P 277 ≤ 60 ∧ 2 ≤ x_maxL k_P 277 := by decide +kernel
theorem kx_0_843 : x_code k_P 0 843 = some (.pop, 1) := by decide +kernel
theorem kx_0_844 : x_code k_P 0 844 = some (.goto 177, 3) := by decide +kernel
theorem lw_20 {xs : Nat → Int} {Ln d : Nat} {i : Int} {T : List cK} {M : cM} {Q : Option cV → cH → Prop} (hT : TT T) (hI : Rng M) (hG : Gm T M) (hS : Sg M) (hl : M 1 1 = M 63 1) (h2 : M 2 = M 64) (hft : FT M) {t u : Nat} (ht : t = 8 ∨ t = 25) (hu : u = 8 ∨ u = 25) (h70 : M 7 0 = ((t : Nat) : Int)) (h71 : M 7 1 = ((u : Nat) : Int)) (hux : u = 8 ∧ t = 25 ∨ u = 25 ∧ t = 8) (hst : ST t M) (hsc : SCN t M) (hx : ∀ j, -2147483648 ≤ xs j ∧ xs j ≤ 2147483647) (hi : 0 ≤ i ∧ i + 6 ≤ (Ln : Int) ∧ (Ln : Int) ≤ 3072) (k : ∀ T1 M1, LI T1 M1 → cP k_P xs Ln (d + 88) 0 1021 [(3, (0, i)), (2, rf 63), (1, rf 0), (0, (4, 0))] [] (T1, M1) Q) : cP k_P xs Ln (d + 88) 0 824 [(3, (0, i)), (2, rf 63), (1, rf 0), (0, (4, 0))] [] (T, M) Q := by
  have hr1 := rg_1_1 hI
  have hr63 := rg_63_1 hI
  obtain ⟨D, S, H, hc_, hC, hR, hH, hK⟩ := id hsc
  refine s_aload_n kx_0_824 rfl ?_
  refine s_aload_nS kx_0_825 rfl ?_
  refine s_iload_n kx_0_826 rfl ?_
  refine s_iconst (v := 1) kx_0_827 (by decide) ?_
  refine r_add kx_0_828 ⟨by omega, by omega⟩ ?_
  refine l_ald kx_0_829 ⟨by omega, by omega⟩ (fun v1 v1e => ?_)
  have v1r := hx ((i + 1)).toNat
  refine s_callV2 (k := 0) (s1 := 2) (s2 := 0) (as := [(0, v1)]) (rest := []) kx_0_830 kp_0_102 (Or.inl rfl) rfl (tk_0 hT) ki_156 kcl_156 rfl rfl (by decide) (m_156 (d := d + 80) (person := v1) hT hI ht h70 (Gm.fm hG)) (kW (fun v2 M3 hI3 fr3 v2p => ?_))
  have tr4 := (fr3 63 1 rfl)
  refine s_pop kx_0_833 rfl ?_
  refine s_aload_n kx_0_834 rfl ?_
  refine s_aload_nS kx_0_835 rfl ?_
  refine s_iload_n kx_0_836 rfl ?_
  refine s_iconst (v := 1) kx_0_837 (by decide) ?_
  refine r_add kx_0_838 ⟨by omega, by omega⟩ ?_
  refine l_ald kx_0_839 ⟨by omega, by omega⟩ (fun v5 v5e => ?_)
  have v5r := hx ((i + 1)).toNat
  refine s_callV2 (k := 63) (s1 := 2) (s2 := 0) (as := [(0, v5)]) (rest := []) kx_0_840 kp_0_105 (Or.inl rfl) rfl (tk_63 hT) ki_277 kcl_277 rfl rfl (by decide) (m_277 (d := d + 82) (p := v5) hT hI3 (Sg.fr hS fr3 rfl)) (kW (fun v6 M7 hI7 fr7 v6p => ?_))
  have tr8 := (fr7 1 1 rfl)
  refine s_pop kx_0_843 rfl ?_
  refine s_goto (t := 1021) kx_0_844 (by decide) ?_
  exact k T M7 ⟨hT, hI7, (Gm.fr (Gm.fr hG fr3 rfl) fr7 rfl), (Sg.fr (Sg.fr hS fr3 rfl) fr7 rfl), by omega, (((funext fun i => ((fr7 2 _ rfl).trans (fr3 2 _ rfl))).trans h2).trans (funext fun i => ((fr7 64 _ rfl).trans (fr3 64 _ rfl))).symm), (FT.fr (FT.fr hft fr3 rfl) fr7 rfl), t, u, hux, ((fr7 7 0 rfl).trans ((fr3 7 0 rfl).trans h70)), ((fr7 7 1 rfl).trans ((fr3 7 1 rfl).trans h71)), (ST.fr (ST.fr hst fr3 ht rfl) fr7 ht rfl), (SCN.fr (SCN.fr hsc fr3 ht rfl) fr7 ht rfl)⟩
theorem kx_0_847 : x_code k_P 0 847 = some (.aload_n 1, 1) := by decide +kernel
theorem kx_0_848 : x_code k_P 0 848 = some (.aload_n 0, 1) := by decide +kernel
theorem kx_0_849 : x_code k_P 0 849 = some (.iload_n 3, 1) := by decide +kernel
theorem kx_0_850 : x_code k_P 0 850 = some (.iconst 1, 1) := by decide +kernel
theorem kx_0_851 : x_code k_P 0 851 = some (.iadd, 1) := by decide +kernel
theorem kx_0_852 : x_code k_P 0 852 = some (.iaload, 1) := by decide +kernel
theorem kx_0_853 : x_code k_P 0 853 = some (.invokevirtual 106, 3) := by decide +kernel
theorem kp_0_106 : x_pool k_P 0 106 = (2, 157, 1) := by decide +kernel
theorem ki_157 : x_mci k_P 157 = 11 := by decide +kernel
theorem kcl_157 : x_maxL k_P 157 ≤ 60 ∧ 2 ≤ x_maxL k_P 157 := by decide +kernel
theorem kx_0_856 : x_code k_P 0 856 = some (.pop, 1) := by decide +kernel
theorem kx_0_857 : x_code k_P 0 857 = some (.aload_n 2, 1) := by decide +kernel
theorem kx_0_858 : x_code k_P 0 858 = some (.aload_n 0, 1) := by decide +kernel
theorem kx_0_859 : x_code k_P 0 859 = some (.iload_n 3, 1) := by decide +kernel
theorem kx_0_860 : x_code k_P 0 860 = some (.iconst 1, 1) := by decide +kernel
theorem kx_0_861 : x_code k_P 0 861 = some (.iadd, 1) := by decide +kernel
theorem kx_0_862 : x_code k_P 0 862 = some (.iaload, 1) := by decide +kernel
theorem kx_0_863 : x_code k_P 0 863 = some (.invokevirtual 109, 3) := by decide +kernel
theorem kp_0_109 : x_pool k_P 0 109 = (2, 278, 1) := by decide +kernel
theorem ki_278 : x_mci k_P 278 = 12 := by decide +kernel
theorem kcl_278 : x_maxL k_P 278 ≤ 60 ∧ 2 ≤ x_maxL k_P 278 := by decide +kernel
theorem kx_0_866 : x_code k_P 0 866 = some (.pop, 1) := by decide +kernel
theorem kx_0_867 : x_code k_P 0 867 = some (.goto 154, 3) := by decide +kernel
theorem lw_21 {xs : Nat → Int} {Ln d : Nat} {i : Int} {T : List cK} {M : cM} {Q : Option cV → cH → Prop} (hT : TT T) (hI : Rng M) (hG : Gm T M) (hS : Sg M) (hl : M 1 1 = M 63 1) (h2 : M 2 = M 64) (hft : FT M) {t u : Nat} (ht : t = 8 ∨ t = 25) (hu : u = 8 ∨ u = 25) (h70 : M 7 0 = ((t : Nat) : Int)) (h71 : M 7 1 = ((u : Nat) : Int)) (hux : u = 8 ∧ t = 25 ∨ u = 25 ∧ t = 8) (hst : ST t M) (hsc : SCN t M) (hx : ∀ j, -2147483648 ≤ xs j ∧ xs j ≤ 2147483647) (hi : 0 ≤ i ∧ i + 6 ≤ (Ln : Int) ∧ (Ln : Int) ≤ 3072) (k : ∀ T1 M1, LI T1 M1 → cP k_P xs Ln (d + 88) 0 1021 [(3, (0, i)), (2, rf 63), (1, rf 0), (0, (4, 0))] [] (T1, M1) Q) : cP k_P xs Ln (d + 88) 0 847 [(3, (0, i)), (2, rf 63), (1, rf 0), (0, (4, 0))] [] (T, M) Q := by
  have hr1 := rg_1_1 hI
  have hr63 := rg_63_1 hI
  obtain ⟨D, S, H, hc_, hC, hR, hH, hK⟩ := id hsc
  refine s_aload_n kx_0_847 rfl ?_
  refine s_aload_nS kx_0_848 rfl ?_
  refine s_iload_n kx_0_849 rfl ?_
  refine s_iconst (v := 1) kx_0_850 (by decide) ?_
  refine r_add kx_0_851 ⟨by omega, by omega⟩ ?_
  refine l_ald kx_0_852 ⟨by omega, by omega⟩ (fun v1 v1e => ?_)
  have v1r := hx ((i + 1)).toNat
  refine s_callV2 (k := 0) (s1 := 2) (s2 := 0) (as := [(0, v1)]) (rest := []) kx_0_853 kp_0_106 (Or.inl rfl) rfl (tk_0 hT) ki_157 kcl_157 rfl rfl (by decide) (m_157 (d := d + 87) (k := v1) hT hI) (kF (fun v2 v2p => ?_))
  refine s_pop kx_0_856 rfl ?_
  refine s_aload_n kx_0_857 rfl ?_
  refine s_aload_nS kx_0_858 rfl ?_
  refine s_iload_n kx_0_859 rfl ?_
  refine s_iconst (v := 1) kx_0_860 (by decide) ?_
  refine r_add kx_0_861 ⟨by omega, by omega⟩ ?_
  refine l_ald kx_0_862 ⟨by omega, by omega⟩ (fun v3 v3e => ?_)
  have v3r := hx ((i + 1)).toNat
  refine s_callV2 (k := 63) (s1 := 2) (s2 := 0) (as := [(0, v3)]) (rest := []) kx_0_863 kp_0_109 (Or.inl rfl) rfl (tk_63 hT) ki_278 kcl_278 rfl rfl (by decide) (m_278 (d := d + 86) (k := v3) hT hI) (kF (fun v4 v4p => ?_))
  refine s_pop kx_0_866 rfl ?_
  refine s_goto (t := 1021) kx_0_867 (by decide) ?_
  exact k T M ⟨hT, hI, hG, hS, by omega, (((funext fun i => rfl).trans h2).trans (funext fun i => rfl).symm), hft, t, u, hux, h70, h71, hst, hsc⟩
theorem kx_0_870 : x_code k_P 0 870 = some (.aload_n 1, 1) := by decide +kernel
theorem kx_0_871 : x_code k_P 0 871 = some (.aload_n 0, 1) := by decide +kernel
theorem kx_0_872 : x_code k_P 0 872 = some (.iload_n 3, 1) := by decide +kernel
theorem kx_0_873 : x_code k_P 0 873 = some (.iconst 1, 1) := by decide +kernel
theorem kx_0_874 : x_code k_P 0 874 = some (.iadd, 1) := by decide +kernel
theorem kx_0_875 : x_code k_P 0 875 = some (.iaload, 1) := by decide +kernel
theorem kx_0_876 : x_code k_P 0 876 = some (.aload_n 0, 1) := by decide +kernel
theorem kx_0_877 : x_code k_P 0 877 = some (.iload_n 3, 1) := by decide +kernel
theorem kx_0_878 : x_code k_P 0 878 = some (.iconst 2, 1) := by decide +kernel
theorem kx_0_879 : x_code k_P 0 879 = some (.iadd, 1) := by decide +kernel
theorem kx_0_880 : x_code k_P 0 880 = some (.iaload, 1) := by decide +kernel
theorem kx_0_881 : x_code k_P 0 881 = some (.invokevirtual 110, 3) := by decide +kernel
theorem kp_0_110 : x_pool k_P 0 110 = (2, 158, 2) := by decide +kernel
theorem ki_158 : x_mci k_P 158 = 11 := by decide +kernel
theorem kcl_158 : x_maxL k_P 158 ≤ 60 ∧ 3 ≤ x_maxL k_P 158 := by decide +kernel
theorem kx_0_884 : x_code k_P 0 884 = some (.pop, 1) := by decide +kernel
theorem kx_0_885 : x_code k_P 0 885 = some (.aload_n 2, 1) := by decide +kernel
theorem kx_0_886 : x_code k_P 0 886 = some (.aload_n 0, 1) := by decide +kernel
theorem kx_0_887 : x_code k_P 0 887 = some (.iload_n 3, 1) := by decide +kernel
theorem kx_0_888 : x_code k_P 0 888 = some (.iconst 1, 1) := by decide +kernel
theorem kx_0_889 : x_code k_P 0 889 = some (.iadd, 1) := by decide +kernel
theorem kx_0_890 : x_code k_P 0 890 = some (.iaload, 1) := by decide +kernel
theorem kx_0_891 : x_code k_P 0 891 = some (.aload_n 0, 1) := by decide +kernel
theorem kx_0_892 : x_code k_P 0 892 = some (.iload_n 3, 1) := by decide +kernel
theorem kx_0_893 : x_code k_P 0 893 = some (.iconst 2, 1) := by decide +kernel
theorem kx_0_894 : x_code k_P 0 894 = some (.iadd, 1) := by decide +kernel
theorem kx_0_895 : x_code k_P 0 895 = some (.iaload, 1) := by decide +kernel
theorem kx_0_896 : x_code k_P 0 896 = some (.invokevirtual 113, 3) := by decide +kernel
theorem kp_0_113 : x_pool k_P 0 113 = (2, 280, 2) := by decide +kernel
theorem ki_280 : x_mci k_P 280 = 12 := by decide +kernel
theorem kcl_280 : x_maxL k_P 280 ≤ 60 ∧ 3 ≤ x_maxL k_P 280 := by decide +kernel
theorem kx_0_899 : x_code k_P 0 899 = some (.pop, 1) := by decide +kernel
theorem kx_0_900 : x_code k_P 0 900 = some (.goto 121, 3) := by decide +kernel
theorem lw_22 {xs : Nat → Int} {Ln d : Nat} {i : Int} {T : List cK} {M : cM} {Q : Option cV → cH → Prop} (hT : TT T) (hI : Rng M) (hG : Gm T M) (hS : Sg M) (hl : M 1 1 = M 63 1) (h2 : M 2 = M 64) (hft : FT M) {t u : Nat} (ht : t = 8 ∨ t = 25) (hu : u = 8 ∨ u = 25) (h70 : M 7 0 = ((t : Nat) : Int)) (h71 : M 7 1 = ((u : Nat) : Int)) (hux : u = 8 ∧ t = 25 ∨ u = 25 ∧ t = 8) (hst : ST t M) (hsc : SCN t M) (hx : ∀ j, -2147483648 ≤ xs j ∧ xs j ≤ 2147483647) (hi : 0 ≤ i ∧ i + 6 ≤ (Ln : Int) ∧ (Ln : Int) ≤ 3072) (k : ∀ T1 M1, LI T1 M1 → cP k_P xs Ln (d + 88) 0 1021 [(3, (0, i)), (2, rf 63), (1, rf 0), (0, (4, 0))] [] (T1, M1) Q) : cP k_P xs Ln (d + 88) 0 870 [(3, (0, i)), (2, rf 63), (1, rf 0), (0, (4, 0))] [] (T, M) Q := by
  have hr1 := rg_1_1 hI
  have hr63 := rg_63_1 hI
  obtain ⟨D, S, H, hc_, hC, hR, hH, hK⟩ := id hsc
  refine s_aload_n kx_0_870 rfl ?_
  refine s_aload_nS kx_0_871 rfl ?_
  refine s_iload_n kx_0_872 rfl ?_
  refine s_iconst (v := 1) kx_0_873 (by decide) ?_
  refine r_add kx_0_874 ⟨by omega, by omega⟩ ?_
  refine l_ald kx_0_875 ⟨by omega, by omega⟩ (fun v1 v1e => ?_)
  have v1r := hx ((i + 1)).toNat
  refine s_aload_nS kx_0_876 rfl ?_
  refine s_iload_n kx_0_877 rfl ?_
  refine s_iconst (v := 2) kx_0_878 (by decide) ?_
  refine r_add kx_0_879 ⟨by omega, by omega⟩ ?_
  refine l_ald kx_0_880 ⟨by omega, by omega⟩ (fun v2 v2e => ?_)
  have v2r := hx ((i + 2)).toNat
  refine s_callV2 (k := 0) (s1 := 3) (s2 := 0) (as := [(0, v2), (0, v1)]) (rest := []) kx_0_881 kp_0_110 (Or.inl rfl) rfl (tk_0 hT) ki_158 kcl_158 rfl rfl (by decide) (m_158 (d := d + 83) (room := v1) (people := v2) hT hI ht h70) (kF (fun v3 v3p => ?_))
  refine s_pop kx_0_884 rfl ?_
  refine s_aload_n kx_0_885 rfl ?_
  refine s_aload_nS kx_0_886 rfl ?_
  refine s_iload_n kx_0_887 rfl ?_
  refine s_iconst (v := 1) kx_0_888 (by decide) ?_
  refine r_add kx_0_889 ⟨by omega, by omega⟩ ?_
  refine l_ald kx_0_890 ⟨by omega, by omega⟩ (fun v4 v4e => ?_)
  have v4r := hx ((i + 1)).toNat
  refine s_aload_nS kx_0_891 rfl ?_
  refine s_iload_n kx_0_892 rfl ?_
  refine s_iconst (v := 2) kx_0_893 (by decide) ?_
  refine r_add kx_0_894 ⟨by omega, by omega⟩ ?_
  refine l_ald kx_0_895 ⟨by omega, by omega⟩ (fun v5 v5e => ?_)
  have v5r := hx ((i + 2)).toNat
  refine s_callV2 (k := 63) (s1 := 3) (s2 := 0) (as := [(0, v5), (0, v4)]) (rest := []) kx_0_896 kp_0_113 (Or.inl rfl) rfl (tk_63 hT) ki_280 kcl_280 rfl rfl (by decide) (m_280 (d := d + 83) (r := v4) (people := v5) hT hI) (kF (fun v6 v6p => ?_))
  refine s_pop kx_0_899 rfl ?_
  refine s_goto (t := 1021) kx_0_900 (by decide) ?_
  exact k T M ⟨hT, hI, hG, hS, by omega, (((funext fun i => rfl).trans h2).trans (funext fun i => rfl).symm), hft, t, u, hux, h70, h71, hst, hsc⟩
theorem kx_0_903 : x_code k_P 0 903 = some (.aload_n 1, 1) := by decide +kernel
theorem kx_0_904 : x_code k_P 0 904 = some (.invokevirtual 114, 3) := by decide +kernel
theorem kp_0_114 : x_pool k_P 0 114 = (2, 159, 0) := by decide +kernel
theorem ki_159 : x_mci k_P 159 = 11 := by decide +kernel
theorem kcl_159 : x_maxL k_P 159 ≤ 60 ∧ 1 ≤ x_maxL k_P 159 := by decide +kernel
theorem kx_0_907 : x_code k_P 0 907 = some (.pop, 1) := by decide +kernel
theorem kx_0_908 : x_code k_P 0 908 = some (.aload_n 2, 1) := by decide +kernel
theorem kx_0_909 : x_code k_P 0 909 = some (.invokevirtual 117, 3) := by decide +kernel
theorem kp_0_117 : x_pool k_P 0 117 = (2, 284, 0) := by decide +kernel
theorem ki_284 : x_mci k_P 284 = 12 := by decide +kernel
theorem kcl_284 : x_maxL k_P 284 ≤ 60 ∧ 1 ≤ x_maxL k_P 284 := by decide +kernel
theorem kx_0_912 : x_code k_P 0 912 = some (.pop, 1) := by decide +kernel
theorem kx_0_913 : x_code k_P 0 913 = some (.goto 108, 3) := by decide +kernel
theorem lw_23 {xs : Nat → Int} {Ln d : Nat} {i : Int} {T : List cK} {M : cM} {Q : Option cV → cH → Prop} (hT : TT T) (hI : Rng M) (hG : Gm T M) (hS : Sg M) (hl : M 1 1 = M 63 1) (h2 : M 2 = M 64) (hft : FT M) {t u : Nat} (ht : t = 8 ∨ t = 25) (hu : u = 8 ∨ u = 25) (h70 : M 7 0 = ((t : Nat) : Int)) (h71 : M 7 1 = ((u : Nat) : Int)) (hux : u = 8 ∧ t = 25 ∨ u = 25 ∧ t = 8) (hst : ST t M) (hsc : SCN t M) (hx : ∀ j, -2147483648 ≤ xs j ∧ xs j ≤ 2147483647) (hi : 0 ≤ i ∧ i + 6 ≤ (Ln : Int) ∧ (Ln : Int) ≤ 3072) (k : ∀ T1 M1, LI T1 M1 → cP k_P xs Ln (d + 88) 0 1021 [(3, (0, i)), (2, rf 63), (1, rf 0), (0, (4, 0))] [] (T1, M1) Q) : cP k_P xs Ln (d + 88) 0 903 [(3, (0, i)), (2, rf 63), (1, rf 0), (0, (4, 0))] [] (T, M) Q := by
  have hr1 := rg_1_1 hI
  have hr63 := rg_63_1 hI
  obtain ⟨D, S, H, hc_, hC, hR, hH, hK⟩ := id hsc
  refine s_aload_n kx_0_903 rfl ?_
  refine s_callV2 (k := 0) (s1 := 1) (s2 := 0) (as := []) (rest := []) kx_0_904 kp_0_114 (Or.inl rfl) rfl (tk_0 hT) ki_159 kcl_159 rfl rfl (by decide) (m_159 (d := d + 82) hT hI ht h70) (kW (fun v1 M2 hI2 fr2 v1p => ?_))
  have tr3 := (fr2 63 1 rfl)
  refine s_pop kx_0_907 rfl ?_
  refine s_aload_n kx_0_908 rfl ?_
  refine s_callV2 (k := 63) (s1 := 1) (s2 := 0) (as := []) (rest := []) kx_0_909 kp_0_117 (Or.inl rfl) rfl (tk_63 hT) ki_284 kcl_284 rfl rfl (by decide) (m_284 (d := d + 84) hT hI2) (kW (fun v4 M5 hI5 fr5 v4p => ?_))
  have tr6 := (fr5 1 1 rfl)
  refine s_pop kx_0_912 rfl ?_
  refine s_goto (t := 1021) kx_0_913 (by decide) ?_
  exact k T M5 ⟨hT, hI5, (Gm.fr (Gm.fr hG fr2 rfl) fr5 rfl), (Sg.fr (Sg.fr hS fr2 rfl) fr5 rfl), by omega, (((funext fun i => ((fr5 2 _ rfl).trans (fr2 2 _ rfl))).trans h2).trans (funext fun i => ((fr5 64 _ rfl).trans (fr2 64 _ rfl))).symm), (FT.fr (FT.fr hft fr2 rfl) fr5 rfl), t, u, hux, ((fr5 7 0 rfl).trans ((fr2 7 0 rfl).trans h70)), ((fr5 7 1 rfl).trans ((fr2 7 1 rfl).trans h71)), (ST.fr (ST.fr hst fr2 ht rfl) fr5 ht rfl), (SCN.fr (SCN.fr hsc fr2 ht rfl) fr5 ht rfl)⟩
theorem kx_0_916 : x_code k_P 0 916 = some (.aload_n 1, 1) := by decide +kernel
theorem kx_0_917 : x_code k_P 0 917 = some (.aload_n 0, 1) := by decide +kernel
theorem kx_0_918 : x_code k_P 0 918 = some (.iload_n 3, 1) := by decide +kernel
theorem kx_0_919 : x_code k_P 0 919 = some (.iconst 1, 1) := by decide +kernel
theorem kx_0_920 : x_code k_P 0 920 = some (.iadd, 1) := by decide +kernel
theorem kx_0_921 : x_code k_P 0 921 = some (.iaload, 1) := by decide +kernel
theorem kx_0_922 : x_code k_P 0 922 = some (.aload_n 0, 1) := by decide +kernel
theorem kx_0_923 : x_code k_P 0 923 = some (.iload_n 3, 1) := by decide +kernel
theorem kx_0_924 : x_code k_P 0 924 = some (.iconst 2, 1) := by decide +kernel
theorem kx_0_925 : x_code k_P 0 925 = some (.iadd, 1) := by decide +kernel
theorem kx_0_926 : x_code k_P 0 926 = some (.iaload, 1) := by decide +kernel
theorem kx_0_927 : x_code k_P 0 927 = some (.invokevirtual 118, 3) := by decide +kernel
theorem kp_0_118 : x_pool k_P 0 118 = (2, 160, 2) := by decide +kernel
theorem ki_160 : x_mci k_P 160 = 11 := by decide +kernel
theorem kcl_160 : x_maxL k_P 160 ≤ 60 ∧ 3 ≤ x_maxL k_P 160 := by decide +kernel
theorem kx_0_930 : x_code k_P 0 930 = some (.pop, 1) := by decide +kernel
theorem kx_0_931 : x_code k_P 0 931 = some (.aload_n 2, 1) := by decide +kernel
theorem kx_0_932 : x_code k_P 0 932 = some (.aload_n 0, 1) := by decide +kernel
theorem kx_0_933 : x_code k_P 0 933 = some (.iload_n 3, 1) := by decide +kernel
theorem kx_0_934 : x_code k_P 0 934 = some (.iconst 1, 1) := by decide +kernel
theorem kx_0_935 : x_code k_P 0 935 = some (.iadd, 1) := by decide +kernel
theorem kx_0_936 : x_code k_P 0 936 = some (.iaload, 1) := by decide +kernel
theorem kx_0_937 : x_code k_P 0 937 = some (.aload_n 0, 1) := by decide +kernel
theorem kx_0_938 : x_code k_P 0 938 = some (.iload_n 3, 1) := by decide +kernel
theorem kx_0_939 : x_code k_P 0 939 = some (.iconst 2, 1) := by decide +kernel
theorem kx_0_940 : x_code k_P 0 940 = some (.iadd, 1) := by decide +kernel
theorem kx_0_941 : x_code k_P 0 941 = some (.iaload, 1) := by decide +kernel
theorem kx_0_942 : x_code k_P 0 942 = some (.invokevirtual 121, 3) := by decide +kernel
theorem kp_0_121 : x_pool k_P 0 121 = (2, 285, 2) := by decide +kernel
theorem ki_285 : x_mci k_P 285 = 12 := by decide +kernel
theorem kcl_285 : x_maxL k_P 285 ≤ 60 ∧ 3 ≤ x_maxL k_P 285 := by decide +kernel
theorem kx_0_945 : x_code k_P 0 945 = some (.pop, 1) := by decide +kernel
theorem kx_0_946 : x_code k_P 0 946 = some (.goto 75, 3) := by decide +kernel
theorem lw_24 {xs : Nat → Int} {Ln d : Nat} {i : Int} {T : List cK} {M : cM} {Q : Option cV → cH → Prop} (hT : TT T) (hI : Rng M) (hG : Gm T M) (hS : Sg M) (hl : M 1 1 = M 63 1) (h2 : M 2 = M 64) (hft : FT M) {t u : Nat} (ht : t = 8 ∨ t = 25) (hu : u = 8 ∨ u = 25) (h70 : M 7 0 = ((t : Nat) : Int)) (h71 : M 7 1 = ((u : Nat) : Int)) (hux : u = 8 ∧ t = 25 ∨ u = 25 ∧ t = 8) (hst : ST t M) (hsc : SCN t M) (hx : ∀ j, -2147483648 ≤ xs j ∧ xs j ≤ 2147483647) (hi : 0 ≤ i ∧ i + 6 ≤ (Ln : Int) ∧ (Ln : Int) ≤ 3072) (k : ∀ T1 M1, LI T1 M1 → cP k_P xs Ln (d + 88) 0 1021 [(3, (0, i)), (2, rf 63), (1, rf 0), (0, (4, 0))] [] (T1, M1) Q) : cP k_P xs Ln (d + 88) 0 916 [(3, (0, i)), (2, rf 63), (1, rf 0), (0, (4, 0))] [] (T, M) Q := by
  have hr1 := rg_1_1 hI
  have hr63 := rg_63_1 hI
  obtain ⟨D, S, H, hc_, hC, hR, hH, hK⟩ := id hsc
  refine s_aload_n kx_0_916 rfl ?_
  refine s_aload_nS kx_0_917 rfl ?_
  refine s_iload_n kx_0_918 rfl ?_
  refine s_iconst (v := 1) kx_0_919 (by decide) ?_
  refine r_add kx_0_920 ⟨by omega, by omega⟩ ?_
  refine l_ald kx_0_921 ⟨by omega, by omega⟩ (fun v1 v1e => ?_)
  have v1r := hx ((i + 1)).toNat
  refine s_aload_nS kx_0_922 rfl ?_
  refine s_iload_n kx_0_923 rfl ?_
  refine s_iconst (v := 2) kx_0_924 (by decide) ?_
  refine r_add kx_0_925 ⟨by omega, by omega⟩ ?_
  refine l_ald kx_0_926 ⟨by omega, by omega⟩ (fun v2 v2e => ?_)
  have v2r := hx ((i + 2)).toNat
  refine s_callV2 (k := 0) (s1 := 3) (s2 := 0) (as := [(0, v2), (0, v1)]) (rest := []) kx_0_927 kp_0_118 (Or.inl rfl) rfl (tk_0 hT) ki_160 kcl_160 rfl rfl (by decide) (m_160 (d := d + 86) (person := v1) (room := v2) hT hI ht h70) (kF (fun v3 v3p => ?_))
  refine s_pop kx_0_930 rfl ?_
  refine s_aload_n kx_0_931 rfl ?_
  refine s_aload_nS kx_0_932 rfl ?_
  refine s_iload_n kx_0_933 rfl ?_
  refine s_iconst (v := 1) kx_0_934 (by decide) ?_
  refine r_add kx_0_935 ⟨by omega, by omega⟩ ?_
  refine l_ald kx_0_936 ⟨by omega, by omega⟩ (fun v4 v4e => ?_)
  have v4r := hx ((i + 1)).toNat
  refine s_aload_nS kx_0_937 rfl ?_
  refine s_iload_n kx_0_938 rfl ?_
  refine s_iconst (v := 2) kx_0_939 (by decide) ?_
  refine r_add kx_0_940 ⟨by omega, by omega⟩ ?_
  refine l_ald kx_0_941 ⟨by omega, by omega⟩ (fun v5 v5e => ?_)
  have v5r := hx ((i + 2)).toNat
  refine s_callV2 (k := 63) (s1 := 3) (s2 := 0) (as := [(0, v5), (0, v4)]) (rest := []) kx_0_942 kp_0_121 (Or.inl rfl) rfl (tk_63 hT) ki_285 kcl_285 rfl rfl (by decide) (m_285 (d := d + 86) (p := v4) (r := v5) hT hI) (kF (fun v6 v6p => ?_))
  refine s_pop kx_0_945 rfl ?_
  refine s_goto (t := 1021) kx_0_946 (by decide) ?_
  exact k T M ⟨hT, hI, hG, hS, by omega, (((funext fun i => rfl).trans h2).trans (funext fun i => rfl).symm), hft, t, u, hux, h70, h71, hst, hsc⟩
theorem kx_0_949 : x_code k_P 0 949 = some (.aload_n 1, 1) := by decide +kernel
theorem kx_0_950 : x_code k_P 0 950 = some (.invokevirtual 122, 3) := by decide +kernel
theorem kp_0_122 : x_pool k_P 0 122 = (2, 161, 0) := by decide +kernel
theorem ki_161 : x_mci k_P 161 = 11 := by decide +kernel
theorem kcl_161 : x_maxL k_P 161 ≤ 60 ∧ 1 ≤ x_maxL k_P 161 := by decide +kernel
theorem kx_0_953 : x_code k_P 0 953 = some (.pop, 1) := by decide +kernel
theorem kx_0_954 : x_code k_P 0 954 = some (.aload_n 2, 1) := by decide +kernel
theorem kx_0_955 : x_code k_P 0 955 = some (.invokevirtual 125, 3) := by decide +kernel
theorem kp_0_125 : x_pool k_P 0 125 = (2, 288, 0) := by decide +kernel
theorem ki_288 : x_mci k_P 288 = 12 := by decide +kernel
theorem kcl_288 : x_maxL k_P 288 ≤ 60 ∧ 1 ≤ x_maxL k_P 288 := by decide +kernel
theorem kx_0_958 : x_code k_P 0 958 = some (.pop, 1) := by decide +kernel
theorem kx_0_959 : x_code k_P 0 959 = some (.goto 62, 3) := by decide +kernel
theorem lw_25 {xs : Nat → Int} {Ln d : Nat} {i : Int} {T : List cK} {M : cM} {Q : Option cV → cH → Prop} (hT : TT T) (hI : Rng M) (hG : Gm T M) (hS : Sg M) (hl : M 1 1 = M 63 1) (h2 : M 2 = M 64) (hft : FT M) {t u : Nat} (ht : t = 8 ∨ t = 25) (hu : u = 8 ∨ u = 25) (h70 : M 7 0 = ((t : Nat) : Int)) (h71 : M 7 1 = ((u : Nat) : Int)) (hux : u = 8 ∧ t = 25 ∨ u = 25 ∧ t = 8) (hst : ST t M) (hsc : SCN t M) (hx : ∀ j, -2147483648 ≤ xs j ∧ xs j ≤ 2147483647) (hi : 0 ≤ i ∧ i + 6 ≤ (Ln : Int) ∧ (Ln : Int) ≤ 3072) (k : ∀ T1 M1, LI T1 M1 → cP k_P xs Ln (d + 88) 0 1021 [(3, (0, i)), (2, rf 63), (1, rf 0), (0, (4, 0))] [] (T1, M1) Q) : cP k_P xs Ln (d + 88) 0 949 [(3, (0, i)), (2, rf 63), (1, rf 0), (0, (4, 0))] [] (T, M) Q := by
  have hr1 := rg_1_1 hI
  have hr63 := rg_63_1 hI
  obtain ⟨D, S, H, hc_, hC, hR, hH, hK⟩ := id hsc
  refine s_aload_n kx_0_949 rfl ?_
  refine s_callV2 (k := 0) (s1 := 1) (s2 := 0) (as := []) (rest := []) kx_0_950 kp_0_122 (Or.inl rfl) rfl (tk_0 hT) ki_161 kcl_161 rfl rfl (by decide) (f_161 (d := d + 84) hT hI ht h70) (kW (fun v1 M2 hI2 fr2 v1p => ?_))
  have tr3 := (fr2 1 1 rfl)
  have tr4 := (fr2 63 1 rfl)
  refine s_pop kx_0_953 rfl ?_
  refine s_aload_n kx_0_954 rfl ?_
  refine s_callV2 (k := 63) (s1 := 1) (s2 := 0) (as := []) (rest := []) kx_0_955 kp_0_125 (Or.inl rfl) rfl (tk_63 hT) ki_288 kcl_288 rfl rfl (by decide) (f_288 (d := d + 85) hT hI2) (kW (fun v5 M6 hI6 fr6 v5p => ?_))
  have tr7 := (fr6 1 1 rfl)
  have tr8 := (fr6 63 1 rfl)
  refine s_pop kx_0_958 rfl ?_
  refine s_goto (t := 1021) kx_0_959 (by decide) ?_
  exact k T M6 ⟨hT, hI6, (Gm.fr (Gm.fr hG fr2 rfl) fr6 rfl), (Sg.fr (Sg.fr hS fr2 rfl) fr6 rfl), by omega, (((funext fun i => ((fr6 2 _ rfl).trans (fr2 2 _ rfl))).trans h2).trans (funext fun i => ((fr6 64 _ rfl).trans (fr2 64 _ rfl))).symm), (FT.fr (FT.fr hft fr2 rfl) fr6 rfl), t, u, hux, ((fr6 7 0 rfl).trans ((fr2 7 0 rfl).trans h70)), ((fr6 7 1 rfl).trans ((fr2 7 1 rfl).trans h71)), (ST.fr (ST.fr hst fr2 ht rfl) fr6 ht rfl), (SCN.fr (SCN.fr hsc fr2 ht rfl) fr6 ht rfl)⟩
theorem kx_0_962 : x_code k_P 0 962 = some (.aload_n 1, 1) := by decide +kernel
theorem kx_0_963 : x_code k_P 0 963 = some (.aload_n 0, 1) := by decide +kernel
theorem kx_0_964 : x_code k_P 0 964 = some (.iload_n 3, 1) := by decide +kernel
theorem kx_0_965 : x_code k_P 0 965 = some (.iconst 1, 1) := by decide +kernel
theorem kx_0_966 : x_code k_P 0 966 = some (.iadd, 1) := by decide +kernel
theorem kx_0_967 : x_code k_P 0 967 = some (.iaload, 1) := by decide +kernel
theorem kx_0_968 : x_code k_P 0 968 = some (.invokevirtual 126, 3) := by decide +kernel
theorem kp_0_126 : x_pool k_P 0 126 = (2, 162, 1) := by decide +kernel
theorem ki_162 : x_mci k_P 162 = 11 := by decide +kernel
theorem kcl_162 : x_maxL k_P 162 ≤ 60 ∧ 2 ≤ x_maxL k_P 162 := by decide +kernel
theorem kx_0_971 : x_code k_P 0 971 = some (.pop, 1) := by decide +kernel
theorem kx_0_972 : x_code k_P 0 972 = some (.aload_n 2, 1) := by decide +kernel
theorem kx_0_973 : x_code k_P 0 973 = some (.aload_n 0, 1) := by decide +kernel
theorem kx_0_974 : x_code k_P 0 974 = some (.iload_n 3, 1) := by decide +kernel
theorem kx_0_975 : x_code k_P 0 975 = some (.iconst 1, 1) := by decide +kernel
theorem kx_0_976 : x_code k_P 0 976 = some (.iadd, 1) := by decide +kernel
theorem kx_0_977 : x_code k_P 0 977 = some (.iaload, 1) := by decide +kernel
theorem kx_0_978 : x_code k_P 0 978 = some (.invokevirtual 129, 3) := by decide +kernel
theorem kp_0_129 : x_pool k_P 0 129 = (2, 289, 1) := by decide +kernel
theorem ki_289 : x_mci k_P 289 = 12 := by decide +kernel
theorem kcl_289 : x_maxL k_P 289 ≤ 60 ∧ 2 ≤ x_maxL k_P 289 := by decide +kernel
theorem kx_0_981 : x_code k_P 0 981 = some (.pop, 1) := by decide +kernel
theorem kx_0_982 : x_code k_P 0 982 = some (.goto 39, 3) := by decide +kernel
theorem lw_26 {xs : Nat → Int} {Ln d : Nat} {i : Int} {T : List cK} {M : cM} {Q : Option cV → cH → Prop} (hT : TT T) (hI : Rng M) (hG : Gm T M) (hS : Sg M) (hl : M 1 1 = M 63 1) (h2 : M 2 = M 64) (hft : FT M) {t u : Nat} (ht : t = 8 ∨ t = 25) (hu : u = 8 ∨ u = 25) (h70 : M 7 0 = ((t : Nat) : Int)) (h71 : M 7 1 = ((u : Nat) : Int)) (hux : u = 8 ∧ t = 25 ∨ u = 25 ∧ t = 8) (hst : ST t M) (hsc : SCN t M) (hx : ∀ j, -2147483648 ≤ xs j ∧ xs j ≤ 2147483647) (hi : 0 ≤ i ∧ i + 6 ≤ (Ln : Int) ∧ (Ln : Int) ≤ 3072) (k : ∀ T1 M1, LI T1 M1 → cP k_P xs Ln (d + 88) 0 1021 [(3, (0, i)), (2, rf 63), (1, rf 0), (0, (4, 0))] [] (T1, M1) Q) : cP k_P xs Ln (d + 88) 0 962 [(3, (0, i)), (2, rf 63), (1, rf 0), (0, (4, 0))] [] (T, M) Q := by
  have hr1 := rg_1_1 hI
  have hr63 := rg_63_1 hI
  obtain ⟨D, S, H, hc_, hC, hR, hH, hK⟩ := id hsc
  refine s_aload_n kx_0_962 rfl ?_
  refine s_aload_nS kx_0_963 rfl ?_
  refine s_iload_n kx_0_964 rfl ?_
  refine s_iconst (v := 1) kx_0_965 (by decide) ?_
  refine r_add kx_0_966 ⟨by omega, by omega⟩ ?_
  refine l_ald kx_0_967 ⟨by omega, by omega⟩ (fun v1 v1e => ?_)
  have v1r := hx ((i + 1)).toNat
  refine s_callV2 (k := 0) (s1 := 2) (s2 := 0) (as := [(0, v1)]) (rest := []) kx_0_968 kp_0_126 (Or.inl rfl) rfl (tk_0 hT) ki_162 kcl_162 rfl rfl (by decide) (m_162 (d := d + 87) (k := v1) hT hI) (kF (fun v2 v2p => ?_))
  refine s_pop kx_0_971 rfl ?_
  refine s_aload_n kx_0_972 rfl ?_
  refine s_aload_nS kx_0_973 rfl ?_
  refine s_iload_n kx_0_974 rfl ?_
  refine s_iconst (v := 1) kx_0_975 (by decide) ?_
  refine r_add kx_0_976 ⟨by omega, by omega⟩ ?_
  refine l_ald kx_0_977 ⟨by omega, by omega⟩ (fun v3 v3e => ?_)
  have v3r := hx ((i + 1)).toNat
  refine s_callV2 (k := 63) (s1 := 2) (s2 := 0) (as := [(0, v3)]) (rest := []) kx_0_978 kp_0_129 (Or.inl rfl) rfl (tk_63 hT) ki_289 kcl_289 rfl rfl (by decide) (m_289 (d := d + 86) (k := v3) hT hI) (kF (fun v4 v4p => ?_))
  refine s_pop kx_0_981 rfl ?_
  refine s_goto (t := 1021) kx_0_982 (by decide) ?_
  exact k T M ⟨hT, hI, hG, hS, by omega, (((funext fun i => rfl).trans h2).trans (funext fun i => rfl).symm), hft, t, u, hux, h70, h71, hst, hsc⟩
theorem kx_0_985 : x_code k_P 0 985 = some (.aload_n 1, 1) := by decide +kernel
theorem kx_0_986 : x_code k_P 0 986 = some (.invokevirtual 130, 3) := by decide +kernel
theorem kp_0_130 : x_pool k_P 0 130 = (2, 163, 0) := by decide +kernel
theorem ki_163 : x_mci k_P 163 = 11 := by decide +kernel
theorem kcl_163 : x_maxL k_P 163 ≤ 60 ∧ 1 ≤ x_maxL k_P 163 := by decide +kernel
theorem kx_0_989 : x_code k_P 0 989 = some (.pop, 1) := by decide +kernel
theorem kx_0_990 : x_code k_P 0 990 = some (.aload_n 2, 1) := by decide +kernel
theorem kx_0_991 : x_code k_P 0 991 = some (.invokevirtual 133, 3) := by decide +kernel
theorem kp_0_133 : x_pool k_P 0 133 = (2, 293, 0) := by decide +kernel
theorem ki_293 : x_mci k_P 293 = 12 := by decide +kernel
theorem kcl_293 : x_maxL k_P 293 ≤ 60 ∧ 1 ≤ x_maxL k_P 293 := by decide +kernel
theorem kx_0_994 : x_code k_P 0 994 = some (.pop, 1) := by decide +kernel
theorem kx_0_995 : x_code k_P 0 995 = some (.goto 26, 3) := by decide +kernel
theorem lw_27 {xs : Nat → Int} {Ln d : Nat} {i : Int} {T : List cK} {M : cM} {Q : Option cV → cH → Prop} (hT : TT T) (hI : Rng M) (hG : Gm T M) (hS : Sg M) (hl : M 1 1 = M 63 1) (h2 : M 2 = M 64) (hft : FT M) {t u : Nat} (ht : t = 8 ∨ t = 25) (hu : u = 8 ∨ u = 25) (h70 : M 7 0 = ((t : Nat) : Int)) (h71 : M 7 1 = ((u : Nat) : Int)) (hux : u = 8 ∧ t = 25 ∨ u = 25 ∧ t = 8) (hst : ST t M) (hsc : SCN t M) (hx : ∀ j, -2147483648 ≤ xs j ∧ xs j ≤ 2147483647) (hi : 0 ≤ i ∧ i + 6 ≤ (Ln : Int) ∧ (Ln : Int) ≤ 3072) (k : ∀ T1 M1, LI T1 M1 → cP k_P xs Ln (d + 88) 0 1021 [(3, (0, i)), (2, rf 63), (1, rf 0), (0, (4, 0))] [] (T1, M1) Q) : cP k_P xs Ln (d + 88) 0 985 [(3, (0, i)), (2, rf 63), (1, rf 0), (0, (4, 0))] [] (T, M) Q := by
  have hr1 := rg_1_1 hI
  have hr63 := rg_63_1 hI
  obtain ⟨D, S, H, hc_, hC, hR, hH, hK⟩ := id hsc
  refine s_aload_n kx_0_985 rfl ?_
  refine s_callV2 (k := 0) (s1 := 1) (s2 := 0) (as := []) (rest := []) kx_0_986 kp_0_130 (Or.inl rfl) rfl (tk_0 hT) ki_163 kcl_163 rfl rfl (by decide) (g_163 (d := d + 85) hT hI ht h70 hC hH rfl) (kW (fun v1 M2 hI2 fr2 v1p => ?_))
  have tr3 := (fr2 63 1 rfl)
  have hrr := act_r ⟨hR, hK⟩ fr2 rfl
  have hs64 : M2 64 = M 2 := (funext fun i => fr2 64 i rfl).trans h2.symm
  refine s_pop kx_0_989 rfl ?_
  refine s_aload_n kx_0_990 rfl ?_
  refine s_callV2 (k := 63) (s1 := 1) (s2 := 0) (as := []) (rest := []) kx_0_991 kp_0_133 (Or.inl rfl) rfl (tk_63 hT) ki_293 kcl_293 rfl rfl (by decide) (g_293 (d := d + 84) hT hI2 hrr.1 hrr.2 hs64) (kW (fun v4 M5 hI5 fr5 v4p => ?_))
  have tr6 := (fr5 1 1 rfl)
  have hl27 : M2 63 1 = M 1 1 := (fr2 63 1 rfl).trans hl.symm
  rw [hl27] at v4p
  obtain ⟨hxy, hsc2⟩ := act_fin ht v1p.1 fr5 rfl v4p.1 (fun z w => by omega) (fun z w => by omega)
  refine s_pop kx_0_994 rfl ?_
  refine s_goto (t := 1021) kx_0_995 (by decide) ?_
  exact k T M5 ⟨hT, hI5, (Gm.fr (Gm.fr hG fr2 rfl) fr5 rfl), (Sg.fr (Sg.fr hS fr2 rfl) fr5 rfl), by omega, (((funext fun i => ((fr5 2 _ rfl).trans (fr2 2 _ rfl))).trans h2).trans (funext fun i => ((fr5 64 _ rfl).trans (fr2 64 _ rfl))).symm), (FT.fr (FT.fr hft fr2 rfl) fr5 rfl), t, u, hux, ((fr5 7 0 rfl).trans ((fr2 7 0 rfl).trans h70)), ((fr5 7 1 rfl).trans ((fr2 7 1 rfl).trans h71)), (ST.fr (ST.fr hst fr2 ht rfl) fr5 ht rfl), hsc2⟩
theorem kx_0_998 : x_code k_P 0 998 = some (.aload_n 1, 1) := by decide +kernel
theorem kx_0_999 : x_code k_P 0 999 = some (.aload_n 0, 1) := by decide +kernel
theorem kx_0_1000 : x_code k_P 0 1000 = some (.iload_n 3, 1) := by decide +kernel
theorem kx_0_1001 : x_code k_P 0 1001 = some (.iconst 1, 1) := by decide +kernel
theorem kx_0_1002 : x_code k_P 0 1002 = some (.iadd, 1) := by decide +kernel
theorem kx_0_1003 : x_code k_P 0 1003 = some (.iaload, 1) := by decide +kernel
theorem kx_0_1004 : x_code k_P 0 1004 = some (.invokevirtual 134, 3) := by decide +kernel
theorem kp_0_134 : x_pool k_P 0 134 = (2, 164, 1) := by decide +kernel
theorem ki_164 : x_mci k_P 164 = 11 := by decide +kernel
theorem kcl_164 : x_maxL k_P 164 ≤ 60 ∧ 2 ≤ x_maxL k_P 164 := by decide +kernel
theorem kx_0_1007 : x_code k_P 0 1007 = some (.pop, 1) := by decide +kernel
theorem kx_0_1008 : x_code k_P 0 1008 = some (.aload_n 2, 1) := by decide +kernel
theorem kx_0_1009 : x_code k_P 0 1009 = some (.aload_n 0, 1) := by decide +kernel
theorem kx_0_1010 : x_code k_P 0 1010 = some (.iload_n 3, 1) := by decide +kernel
theorem kx_0_1011 : x_code k_P 0 1011 = some (.iconst 1, 1) := by decide +kernel
theorem kx_0_1012 : x_code k_P 0 1012 = some (.iadd, 1) := by decide +kernel
theorem kx_0_1013 : x_code k_P 0 1013 = some (.iaload, 1) := by decide +kernel
theorem kx_0_1014 : x_code k_P 0 1014 = some (.invokevirtual 137, 3) := by decide +kernel
theorem kp_0_137 : x_pool k_P 0 137 = (2, 219, 1) := by decide +kernel
theorem ki_219 : x_mci k_P 219 = 12 := by decide +kernel
theorem kcl_219 : x_maxL k_P 219 ≤ 60 ∧ 2 ≤ x_maxL k_P 219 := by decide +kernel
theorem kx_0_1017 : x_code k_P 0 1017 = some (.pop, 1) := by decide +kernel
theorem kx_0_1018 : x_code k_P 0 1018 = some (.goto 3, 3) := by decide +kernel
theorem lw_28 {xs : Nat → Int} {Ln d : Nat} {i : Int} {T : List cK} {M : cM} {Q : Option cV → cH → Prop} (hT : TT T) (hI : Rng M) (hG : Gm T M) (hS : Sg M) (hl : M 1 1 = M 63 1) (h2 : M 2 = M 64) (hft : FT M) {t u : Nat} (ht : t = 8 ∨ t = 25) (hu : u = 8 ∨ u = 25) (h70 : M 7 0 = ((t : Nat) : Int)) (h71 : M 7 1 = ((u : Nat) : Int)) (hux : u = 8 ∧ t = 25 ∨ u = 25 ∧ t = 8) (hst : ST t M) (hsc : SCN t M) (hx : ∀ j, -2147483648 ≤ xs j ∧ xs j ≤ 2147483647) (hi : 0 ≤ i ∧ i + 6 ≤ (Ln : Int) ∧ (Ln : Int) ≤ 3072) (k : ∀ T1 M1, LI T1 M1 → cP k_P xs Ln (d + 88) 0 1021 [(3, (0, i)), (2, rf 63), (1, rf 0), (0, (4, 0))] [] (T1, M1) Q) : cP k_P xs Ln (d + 88) 0 998 [(3, (0, i)), (2, rf 63), (1, rf 0), (0, (4, 0))] [] (T, M) Q := by
  have hr1 := rg_1_1 hI
  have hr63 := rg_63_1 hI
  obtain ⟨D, S, H, hc_, hC, hR, hH, hK⟩ := id hsc
  refine s_aload_n kx_0_998 rfl ?_
  refine s_aload_nS kx_0_999 rfl ?_
  refine s_iload_n kx_0_1000 rfl ?_
  refine s_iconst (v := 1) kx_0_1001 (by decide) ?_
  refine r_add kx_0_1002 ⟨by omega, by omega⟩ ?_
  refine l_ald kx_0_1003 ⟨by omega, by omega⟩ (fun v1 v1e => ?_)
  have v1r := hx ((i + 1)).toNat
  refine s_callV2 (k := 0) (s1 := 2) (s2 := 0) (as := [(0, v1)]) (rest := []) kx_0_1004 kp_0_134 (Or.inl rfl) rfl (tk_0 hT) ki_164 kcl_164 rfl rfl (by decide) (m_164 (d := d + 87) (what := v1) hT hI) (kF (fun v2 v2p => ?_))
  refine s_pop kx_0_1007 rfl ?_
  refine s_aload_n kx_0_1008 rfl ?_
  refine s_aload_nS kx_0_1009 rfl ?_
  refine s_iload_n kx_0_1010 rfl ?_
  refine s_iconst (v := 1) kx_0_1011 (by decide) ?_
  refine r_add kx_0_1012 ⟨by omega, by omega⟩ ?_
  refine l_ald kx_0_1013 ⟨by omega, by omega⟩ (fun v3 v3e => ?_)
  have v3r := hx ((i + 1)).toNat
  refine s_callV2 (k := 63) (s1 := 2) (s2 := 0) (as := [(0, v3)]) (rest := []) kx_0_1014 kp_0_137 (Or.inl rfl) rfl (tk_63 hT) ki_219 kcl_219 rfl rfl (by decide) (m_219 (d := d + 86) (what := v3) hT hI) (kF (fun v4 v4p => ?_))
  refine s_pop kx_0_1017 rfl ?_
  refine s_goto (t := 1021) kx_0_1018 (by decide) ?_
  exact k T M ⟨hT, hI, hG, hS, by omega, (((funext fun i => rfl).trans h2).trans (funext fun i => rfl).symm), hft, t, u, hux, h70, h71, hst, hsc⟩
