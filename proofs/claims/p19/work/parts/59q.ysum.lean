def gS_196_j118 : List (Nat × Nat) := [(63, 10), (63, 13), (63, 3), (63, 35), (63, 4), (63, 42), (63, 43), (63, 5), (63, 6), (63, 7), (63, 8), (63, 9), (81, 99999), (82, 99999), (85, 99999), (86, 99999), (87, 99999), (89, 99999)]
def gS_196_j194 : List (Nat × Nat) := [(63, 10), (63, 13), (63, 3), (63, 35), (63, 4), (63, 5), (63, 6), (63, 7), (63, 8), (63, 9), (81, 99999), (82, 99999)]
def gS_196_j48 : List (Nat × Nat) := [(63, 10), (63, 13), (63, 3), (63, 4), (63, 43), (63, 45), (63, 5), (63, 6), (63, 7), (63, 8), (63, 9), (90, 99999)]
def gS_196_m : List (Nat × Nat) := [(63, 10), (63, 13), (63, 3), (63, 35), (63, 4), (63, 42), (63, 43), (63, 45), (63, 5), (63, 6), (63, 7), (63, 8), (63, 9), (81, 99999), (82, 99999), (85, 99999), (86, 99999), (87, 99999), (88, 99999), (89, 99999), (90, 99999)]
def gS_196_j29 : List (Nat × Nat) := []
def gS_196_j318 : List (Nat × Nat) := []
def gS_196_j224 : List (Nat × Nat) := []
set_option maxHeartbeats 8000000 in
theorem f_196 {xs : Nat → Int} {Ln d : Nat} {T : List cK} {M : cM} (hT : TT T) (hI : Rng M) (hX : LXp M) {s : Nat → Int} {n p : Int} (hn : n ≤ 1600) (hL : LyA M s n p) (h9 : M 63 9 = 0) {k_ ph bg pr : Int} {os_ : List Int} {fs_ : List pF} (hQ : QJ M ((k_, ph, bg, pr, os_) :: fs_) 0) {cs : List Int} {ra : pRa} (hRC : RCo M ra cs) {c : Nat → Int} {a q : Int} (hP : PI M c a 0 7 q 0) {bX : Int} {WX : cM} (hKX : KB bX WX M) (p0 : q ≤ M 63 4) : cC k_P xs Ln (d + 3) 196 [rf 63] (T, M) (qW T M gS_196_m 0 (fun v M1 => (0 ≤ v ∧ v ≤ 1 ∧ (LXp M1 ∧ M 63 4 ≤ M1 63 4 ∧ M 63 9 ≤ M1 63 9 ∧ (OPd M M1 c a v ∧ KP M M1) ∧ (StT M1 s n ra (pSt s n (0, (k_, ph, bg, pr, os_) :: fs_, cs, p)) v))) ∧ KB bX WX M1)) := by
  show cP k_P xs Ln (d + 3) 196 0 [(0, rf 63)] [] (T, M) _
  have hFm : Fr gS_196_m M M := Fr.refl
  have h639 := rg_63_9 hI
  have ⟨lx1, lx2⟩ := hX
  have hd := PI.deep hP
  have hs := PI.small hP (rg_63_43 hI).2 (by decide)
  have hs1 := hs.1
  have hs2 := hs.2.1
  have h4 := rg_63_4 hI
  have h43 := rg_63_43 hI
  have h5 := rg_63_5 hI
  have h45 := rg_63_45 hI
  have hkx1 := hKX.1
  have hkx2 := hKX.2.1
  have hkx3 := hKX.2.2.1
  refine s_aload_n kx_196_0 rfl ?_
  refine s_callV2 (k := 63) (s1 := 1) (s2 := 0) (as := []) (rest := []) kx_196_1 kp_196_280 (Or.inl rfl) rfl (tk_63 hT) ki_179 kcl_179 rfl rfl (by decide) (f_179 (d := d + 1) hT hI (show Yst M s n 0 p from Or.inr ⟨rfl, h9, hL⟩) hn) (kV (fun M2 hI2 fr2 v1p => ?_))
  have hFm2 := hFm.call fr2 rfl
  have tr3 := (fr2 63 3 rfl)
  have tr4 := (fr2 63 4 rfl)
  have tr5 := (fr2 63 5 rfl)
  have tr6 := (fr2 63 35 rfl)
  have tr7 := (fr2 63 42 rfl)
  have tr8 := (fr2 63 43 rfl)
  have tr9 := (fr2 63 45 rfl)
  have tr10 := (fr2 63 36 rfl)
  have tr11 := rg_63_9 hI2
  refine s_aload_n kx_196_4 rfl ?_
  refine r_getI (k := 63) (f := 9) kx_196_5 kp_196_39 (tk_63 hT) kf_12_9 (fun _ => rfl) (rg_63_9 hI2) (fun v12 v12e v12a v12b => ?_)
  refine s_if_le (t := 13) kx_196_8 (by decide) (fun hc13 => ?_) (fun hc13 => ?_)
  · have hz := Yst.zero v1p.1 (by omega)
    have hzk := yLx_0 hz.1 hz.2.2.2.1
    have hK5 := hzk.2
    have hzb := hz.2.b hn
    have hzp := hz.2.2.2.1
    have hzn := hz.2.2.2.2.1
    have hys0 : Yst M2 s n 0 p := Or.inr ⟨rfl, by omega, hz.2⟩
    refine s_aload_n kx_196_13 rfl ?_
    refine r_getI (k := 63) (f := 42) kx_196_14 kp_196_140 (tk_63 hT) kf_12_42 (fun _ => rfl) (rg_63_42 hI2) (fun v14 v14e v14a v14b => ?_)
    have v14z : M 63 42 = v14 := ((fr2 63 42 rfl)).symm.trans v14e
    refine s_iconst (v := 1) kx_196_17 (by decide) ?_
    refine r_sub kx_196_18 ⟨by omega, by omega⟩ ?_
    have htop := (QJ.fr hQ fr2 rfl).top1
    rw [v14e] at htop
    have ht1 := htop.1
    have ht2 := htop.2.1
    have ht3 := htop.2.2.1
    have ht4 := htop.2.2.2.1
    have ht6 := htop.2.2.2.2.2
    have htl : 0 ≤ ((fs_.length : Nat) : Int) := Int.natCast_nonneg _
    refine s_istore_n kx_196_19 km_196_1 rfl ?_
    refine s_aload_n kx_196_20 rfl ?_
    refine r_getR (k := 63) (f := 37) (k2 := 85) kx_196_21 kp_196_124 (tk_63 hT) kf_12_37 (by decide) (rq_63_37 hI2) ?_
    refine s_iload_n kx_196_24 rfl ?_
    refine r_ald (k := 85) kx_196_25 (tk_85 hT) ⟨by omega, by omega⟩ (rg_85 hI2) (fun v15 v15e v15a v15b => ?_)
    refine s_callS2 (s1 := 1) (s2 := 0) (as := [(0, v15)]) (rest := []) kx_196_26 kp_196_358 rfl kcl_195 rfl rfl (by decide) (f_195 (d := d + 2) (kind := v15) hT hI2) (kF (fun v16 v16p => ?_))
    have jn23 : ∀ (y22 : Int), (0 ≤ y22) → (y22 ≤ 1) → ((y22 = 0 ∨ M2 87 ((v14 - 1)).toNat = 1)) → ((y22 = 1 ∧ (k_ = 1 ∨ k_ = 5 ∨ k_ = 6) ∧ bg = 1) ∨ (y22 = 0 ∧ (bg ≠ 1 ∨ (k_ ≠ 1 ∧ k_ ≠ 5 ∧ k_ ≠ 6)))) → cP k_P xs Ln (d + 3) 196 46 [(0, rf 63), (1, (0, (v14 - 1)))] [(0, y22)] (T, M2) (qW T M gS_196_m 0 (fun v M1 => (0 ≤ v ∧ v ≤ 1 ∧ (LXp M1 ∧ M 63 4 ≤ M1 63 4 ∧ M 63 9 ≤ M1 63 9 ∧ (OPd M M1 c a v ∧ KP M M1) ∧ (StT M1 s n ra (pSt s n (0, (k_, ph, bg, pr, os_) :: fs_, cs, p)) v))) ∧ KB bX WX M1)) := by
      clear v16p
      intro y22 a24 a25 a26 a27
      refine s_istore_n kx_196_46 km_196_2 rfl ?_
      refine s_iload_n kx_196_47 rfl ?_
      have jn92 : (y22 = 0 ∨ owW s n p 486146048 = 0) → cP k_P xs Ln (d + 3) 196 110 [(0, rf 63), (1, (0, (v14 - 1))), (2, (0, y22))] [] (T, M2) (qW T M gS_196_m 0 (fun v M1 => (0 ≤ v ∧ v ≤ 1 ∧ (LXp M1 ∧ M 63 4 ≤ M1 63 4 ∧ M 63 9 ≤ M1 63 9 ∧ (OPd M M1 c a v ∧ KP M M1) ∧ (StT M1 s n ra (pSt s n (0, (k_, ph, bg, pr, os_) :: fs_, cs, p)) v))) ∧ KB bX WX M1)) := by
        intro a93
        refine s_aload_n kx_196_110 rfl ?_
        refine r_getR (k := 63) (f := 39) (k2 := 87) kx_196_111 kp_196_130 (tk_63 hT) kf_12_39 (by decide) (rq_63_39 hI2) ?_
        refine s_iload_n kx_196_114 rfl ?_
        refine s_iconst (v := 0) kx_196_115 (by decide) ?_
        refine r_bast (k := 87) kx_196_116 (tk_87 hT) ⟨by omega, by omega⟩ (by omega) hI2 (ru_87 (by omega) (by omega)) (fun M94 hI94 u94 => ?_)
        have hFm94 := hFm2.up u94 rfl
        have tr95 := (u94.2 63 3 (by omega))
        have tr96 := (u94.2 63 4 (by omega))
        have tr97 := (u94.2 63 5 (by omega))
        have tr98 := (u94.2 63 9 (by omega))
        have tr99 := (u94.2 63 35 (by omega))
        have tr100 := (u94.2 63 42 (by omega))
        have tr101 := (u94.2 63 43 (by omega))
        have tr102 := (u94.2 63 45 (by omega))
        have tr103 := (u94.2 63 10 (by omega))
        have tr104 := (u94.2 63 36 (by omega))
        have hkx105 := (KB.up0 (KB.fr hKX fr2 rfl) u94 (by omega))
        have hqj106 := QJ.bg0 (QJ.fr hQ fr2 rfl) (by omega) u94
        have hB107 : B0 M94 := B0.mk (by omega) u94
        have hP108 := (PI.begins0 (PI.fr hP fr2 rfl) (by omega) u94)
        refine s_iload_n kx_196_117 rfl ?_
        have jn163 : (nFst s n p k_ bg) → cP k_P xs Ln (d + 3) 196 171 [(0, rf 63)] [] (T, M94) (qW T M gS_196_m 0 (fun v M1 => (0 ≤ v ∧ v ≤ 1 ∧ (LXp M1 ∧ M 63 4 ≤ M1 63 4 ∧ M 63 9 ≤ M1 63 9 ∧ (OPd M M1 c a v ∧ KP M M1) ∧ (StT M1 s n ra (pSt s n (0, (k_, ph, bg, pr, os_) :: fs_, cs, p)) v))) ∧ KB bX WX M1)) := by
          clear a93 a24 a25 a26 a27
          intro a164
          have hnf := a164
          refine s_aload_n kx_196_171 rfl ?_
          refine s_bipush (v := 40) kx_196_172 (by decide) ?_
          refine s_callV2 (k := 63) (s1 := 2) (s2 := 0) (as := [(0, 40)]) (rest := []) kx_196_174 kp_196_283 (Or.inl rfl) rfl (tk_63 hT) ki_181 kcl_181 rfl rfl (by decide) (m_181 (d := d + 2) (c := 40) hT hI94) (kF (fun v165 v165p => ?_))
          have hiss166 := (LyA.up hz.2 u94 ⟨by decide, Or.inl (by decide)⟩).iss (c := 40)
          refine s_if_eq (t := 187) kx_196_177 (by decide) (fun hc167 => ?_) (fun hc167 => ?_)
          · replace v165p := v165p.resolve_left (by omega)
            have hg40 : owG s n p 40 = 0 := by omega
            clear v165p hiss166
            refine s_aload_n kx_196_187 rfl ?_
            refine s_ldc2_w kx_196_188 kp_196_333 ?_
            refine s_callV2 (k := 63) (s1 := 3) (s2 := 0) (as := [(1, 7170414)]) (rest := []) kx_196_191 kp_196_361 (Or.inl rfl) rfl (tk_63 hT) ki_182 kcl_182 rfl rfl (by decide) (f_182 (d := d + 2) (w := 7170414) hT hI94 (LyA.up hz.2 u94 ⟨by decide, Or.inl (by decide)⟩) hK5 (w5 := 446103552) n58_min (Or.inr (by decide)) (by omega)) (kF (fun v168 v168p => ?_))
            have jn244 : (owW s n p 446103552 = 1 ∨ owW s n p 438042624 = 1 ∨ owW s n p 308281344 = 1) → cP k_P xs Ln (d + 3) 196 217 [(0, rf 63)] [] (T, M94) (qW T M gS_196_m 0 (fun v M1 => (0 ≤ v ∧ v ≤ 1 ∧ (LXp M1 ∧ M 63 4 ≤ M1 63 4 ∧ M 63 9 ≤ M1 63 9 ∧ (OPd M M1 c a v ∧ KP M M1) ∧ (StT M1 s n ra (pSt s n (0, (k_, ph, bg, pr, os_) :: fs_, cs, p)) v))) ∧ KB bX WX M1)) := by
              clear v168p
              intro a245
              refine s_aload_n kx_196_217 rfl ?_
              refine s_ldc2_w kx_196_218 kp_196_333 ?_
              refine s_callV2 (k := 63) (s1 := 3) (s2 := 0) (as := [(1, 7170414)]) (rest := []) kx_196_221 kp_196_361 (Or.inl rfl) rfl (tk_63 hT) ki_182 kcl_182 rfl rfl (by decide) (f_182 (d := d + 2) (w := 7170414) hT hI94 (LyA.up hz.2 u94 ⟨by decide, Or.inl (by decide)⟩) hK5 (w5 := 446103552) n58_min (Or.inr (by decide)) (by omega)) (kF (fun v246 v246p => ?_))
              have jn253 : ∀ (y252 : Int), (15 ≤ y252) → (y252 ≤ 23) → ((y252 = 15 ∨ y252 = 16 ∨ y252 = 23)) → (y252 = owMx s n p) → cP k_P xs Ln (d + 3) 196 249 [(0, rf 63)] [(0, y252)] (T, M94) (qW T M gS_196_m 0 (fun v M1 => (0 ≤ v ∧ v ≤ 1 ∧ (LXp M1 ∧ M 63 4 ≤ M1 63 4 ∧ M 63 9 ≤ M1 63 9 ∧ (OPd M M1 c a v ∧ KP M M1) ∧ (StT M1 s n ra (pSt s n (0, (k_, ph, bg, pr, os_) :: fs_, cs, p)) v))) ∧ KB bX WX M1)) := by
                clear v246p a245 a164
                intro y252 a254 a255 a256 a257
                refine s_istore_n kx_196_249 km_196_3 rfl ?_
                refine s_aload_n kx_196_250 rfl ?_
                refine s_callV2 (k := 63) (s1 := 1) (s2 := 0) (as := []) (rest := []) kx_196_251 kp_196_286 (Or.inl rfl) rfl (tk_63 hT) ki_180 kcl_180 rfl rfl (by decide) (f_180 (d := d + 1) hT hI94 (LyA.up hz.2 u94 ⟨by decide, Or.inl (by decide)⟩).1 (LyA.up hz.2 u94 ⟨by decide, Or.inl (by decide)⟩).2.1 (LyA.up hz.2 u94 ⟨by decide, Or.inl (by decide)⟩).2.2.2.2.2.1 (owE_i2 ⟨(LyA.up hz.2 u94 ⟨by decide, Or.inl (by decide)⟩).2.2.1, (LyA.up hz.2 u94 ⟨by decide, Or.inl (by decide)⟩).2.2.2.1⟩).1 (owE_i2 ⟨(LyA.up hz.2 u94 ⟨by decide, Or.inl (by decide)⟩).2.2.1, (LyA.up hz.2 u94 ⟨by decide, Or.inl (by decide)⟩).2.2.2.1⟩).2 (LyA.up hz.2 u94 ⟨by decide, Or.inl (by decide)⟩).2.2.2.2.2.2.2.2.2.2.2.2) (kV (fun M259 hI259 fr259 v258p => ?_))
                have hFm259 := hFm94.call fr259 rfl
                have tr260 := (fr259 63 9 rfl)
                have tr261 := (fr259 63 35 rfl)
                have tr262 := (fr259 63 42 rfl)
                have tr263 := (fr259 63 43 rfl)
                have tr264 := (fr259 63 45 rfl)
                have tr265 := (fr259 63 10 rfl)
                have tr266 := (fr259 63 36 rfl)
                have tr267 := rg_63_9 hI259
                have hp1 := (v258p.1).2.2.1
                refine s_aload_n kx_196_254 rfl ?_
                refine s_callV2 (k := 63) (s1 := 1) (s2 := 0) (as := []) (rest := []) kx_196_255 kp_196_280 (Or.inl rfl) rfl (tk_63 hT) ki_179 kcl_179 rfl rfl (by decide) (f_179 (d := d + 1) hT hI259 (show Yst M259 s n 0 (owE s n p) from Or.inr ⟨rfl, by omega, v258p.1⟩) hn) (kV (fun M269 hI269 fr269 v268p => ?_))
                have hFm269 := hFm259.call fr269 rfl
                have tr270 := (fr269 63 3 rfl)
                have tr271 := (fr269 63 4 rfl)
                have tr272 := (fr269 63 5 rfl)
                have tr273 := (fr269 63 35 rfl)
                have tr274 := (fr269 63 42 rfl)
                have tr275 := (fr269 63 43 rfl)
                have tr276 := (fr269 63 45 rfl)
                have tr277 := (fr269 63 36 rfl)
                have tr278 := rg_63_9 hI269
                refine s_aload_n kx_196_258 rfl ?_
                refine s_bipush (v := 40) kx_196_259 (by decide) ?_
                refine s_callV2 (k := 63) (s1 := 2) (s2 := 0) (as := [(0, 40)]) (rest := []) kx_196_261 kp_196_283 (Or.inl rfl) rfl (tk_63 hT) ki_181 kcl_181 rfl rfl (by decide) (m_181 (d := d + 2) (c := 40) hT hI269) (kF (fun v279 v279p => ?_))
                refine s_if_ne (t := 276) kx_196_264 (by decide) (fun hc280 => ?_) (fun hc280 => ?_)
                · replace v279p := v279p.resolve_right (by omega)
                  refine s_aload_n kx_196_276 rfl ?_
                  have hym281 := mg_s1 v268p.1 v279p.2.2
                  refine s_iload_n kx_196_277 rfl ?_
                  refine s_bipush (v := 23) kx_196_278 (by decide) ?_
                  refine s_icmp_ne (t := 288) kx_196_280 (by decide) (fun hc282 => ?_) (fun hc282 => ?_)
                  · refine s_iconst (v := 3) kx_196_288 (by decide) ?_
                    refine s_callV2 (k := 63) (s1 := 2) (s2 := 0) (as := [(0, 3)]) (rest := []) kx_196_289 kp_196_367 (Or.inl rfl) rfl (tk_63 hT) ki_194 kcl_194 rfl rfl (by decide) (f_194 (d := d) (kind := 3) hT hI269 (LXp.fr (show LXp M259 from v258p.2.2) fr269 rfl) hym281 hn (QJ.fr (QJ.fr hqj106 fr259 rfl) fr269 rfl) (PI.fr (PI.fr hP108 fr259 rfl) fr269 rfl) (B0.fr (B0.fr hB107 fr259 rfl (fun _ => rfl)) fr269 rfl (fun _ => rfl)) (by omega)) (kV (fun M284 hI284 fr284 v283p => ?_))
                    have hFm284 := hFm269.call fr284 rfl
                    have tr285 := (fr284 63 35 rfl)
                    have tr286 := (fr284 63 45 rfl)
                    have tr287 := (fr284 63 36 rfl)
                    have tr288 := rg_63_9 hI284
                    refine s_aload_n kx_196_292 rfl ?_
                    refine r_getI (k := 63) (f := 9) kx_196_293 kp_196_39 (tk_63 hT) kf_12_9 (fun _ => rfl) (rg_63_9 hI284) (fun v289 v289e v289a v289b => ?_)
                    refine s_if_ne (t := 311) kx_196_296 (by decide) (fun hc290 => ?_) (fun hc290 => ?_)
                    · refine s_iconst (v := 0) kx_196_311 (by decide) ?_
                      have hk291 : M284 63 9 = v289 := v289e
                      exact s_iret kx_196_312 (Or.inr ⟨kq_196, by omega⟩) ⟨_, _, rfl, rfl, hI284, hFm284, ⟨⟨by omega, by omega, v283p.1, (by omega), (by omega), ⟨(Or.inl (by omega)), (KP.fr (KP.fr (KP.fr (KP.up (KP.fr (KP.refl (M := M)) fr2 (fun _ => rfl)) u94 (by decide)) fr259 (fun _ => rfl)) fr269 (fun _ => rfl)) fr284 (fun _ => rfl))⟩, (mx_f hK5 hnf (by omega) (by omega) hp1 (v283p.2.2.2.2.resolve_right (fun z => by have := z.2.2.1; omega)))⟩, (KB.fr (KB.fr (KB.fr hkx105 fr259 rfl) fr269 rfl) fr284 rfl)⟩⟩
                    · refine s_aload_n kx_196_299 rfl ?_
                      refine r_getR (k := 63) (f := 40) (k2 := 88) kx_196_300 kp_196_134 (tk_63 hT) kf_12_40 (by decide) (rq_63_40 hI284) ?_
                      refine s_aload_n kx_196_303 rfl ?_
                      refine r_getI (k := 63) (f := 42) kx_196_304 kp_196_140 (tk_63 hT) kf_12_42 (fun _ => rfl) (rg_63_42 hI284) (fun v292 v292e v292a v292b => ?_)
                      refine s_iconst (v := 1) kx_196_307 (by decide) ?_
                      refine r_sub kx_196_308 ⟨by omega, by omega⟩ ?_
                      refine s_iload_n kx_196_309 rfl ?_
                      refine r_ast (k := 88) kx_196_310 (tk_88 hT) ⟨by omega, by omega⟩ hI284 (ru_88 (by omega) (by omega)) (fun M293 hI293 u293 => ?_)
                      have hFm293 := hFm284.up u293 rfl
                      have tr294 := (u293.2 63 3 (by omega))
                      have tr295 := (u293.2 63 4 (by omega))
                      have tr296 := (u293.2 63 5 (by omega))
                      have tr297 := (u293.2 63 9 (by omega))
                      have tr298 := (u293.2 63 35 (by omega))
                      have tr299 := (u293.2 63 42 (by omega))
                      have tr300 := (u293.2 63 43 (by omega))
                      have tr301 := (u293.2 63 45 (by omega))
                      have tr302 := (u293.2 63 10 (by omega))
                      have tr303 := (u293.2 63 36 (by omega))
                      have hkx304 := (KB.up0 (KB.fr (KB.fr (KB.fr hkx105 fr259 rfl) fr269 rfl) fr284 rfl) u293 (by omega))
                      have hpp := (v283p.2.2.2.1.resolve_left (by omega)).2.2.2 _ _ (by rw [v292e]; exact u293) (by omega)
                      refine s_iconst (v := 0) kx_196_311 (by decide) ?_
                      have hk305 : M293 63 9 = v289 := ((u293.2 63 9 (by omega)).trans v289e)
                      exact s_iret kx_196_312 (Or.inr ⟨kq_196, by omega⟩) ⟨_, _, rfl, rfl, hI293, hFm293, ⟨⟨by omega, by omega, (LXp.up v283p.1 u293 (Or.inl (by decide))), (by omega), (by omega), ⟨(Or.inr ⟨by omega, Or.inr ⟨rfl, PI.to7 hpp (by omega)⟩⟩), (KP.up (KP.fr (KP.fr (KP.fr (KP.up (KP.fr (KP.refl (M := M)) fr2 (fun _ => rfl)) u94 (by decide)) fr259 (fun _ => rfl)) fr269 (fun _ => rfl)) fr284 (fun _ => rfl)) u293 (by decide))⟩, (mx_k hp1 hK5 hnf (by omega) (by omega) (v283p.2.2.2.2.resolve_left (fun z => by have := z.2.1; omega)) (by rw [v292e]; exact u293) (by omega) (by omega) rfl (RCo.up (RCo.fr (RCo.fr (RCo.fr (RCo.up (RCo.fr hRC fr2 rfl) u94 ⟨by decide, by decide, Or.inl (by decide)⟩) fr259 rfl) fr269 rfl) fr284 rfl) u293 ⟨by decide, by decide, Or.inl (by decide)⟩))⟩, hkx304⟩⟩
                  · refine s_bipush (v := 6) kx_196_283 (by decide) ?_
                    refine s_goto (t := 289) kx_196_285 (by decide) ?_
                    refine s_callV2 (k := 63) (s1 := 2) (s2 := 0) (as := [(0, 6)]) (rest := []) kx_196_289 kp_196_367 (Or.inl rfl) rfl (tk_63 hT) ki_194 kcl_194 rfl rfl (by decide) (f_194 (d := d) (kind := 6) hT hI269 (LXp.fr (show LXp M259 from v258p.2.2) fr269 rfl) hym281 hn (QJ.fr (QJ.fr hqj106 fr259 rfl) fr269 rfl) (PI.fr (PI.fr hP108 fr259 rfl) fr269 rfl) (B0.fr (B0.fr hB107 fr259 rfl (fun _ => rfl)) fr269 rfl (fun _ => rfl)) (by omega)) (kV (fun M307 hI307 fr307 v306p => ?_))
                    have hFm307 := hFm269.call fr307 rfl
                    have tr308 := (fr307 63 35 rfl)
                    have tr309 := (fr307 63 45 rfl)
                    have tr310 := (fr307 63 36 rfl)
                    have tr311 := rg_63_9 hI307
                    refine s_aload_n kx_196_292 rfl ?_
                    refine r_getI (k := 63) (f := 9) kx_196_293 kp_196_39 (tk_63 hT) kf_12_9 (fun _ => rfl) (rg_63_9 hI307) (fun v312 v312e v312a v312b => ?_)
                    refine s_if_ne (t := 311) kx_196_296 (by decide) (fun hc313 => ?_) (fun hc313 => ?_)
                    · refine s_iconst (v := 0) kx_196_311 (by decide) ?_
                      have hk314 : M307 63 9 = v312 := v312e
                      exact s_iret kx_196_312 (Or.inr ⟨kq_196, by omega⟩) ⟨_, _, rfl, rfl, hI307, hFm307, ⟨⟨by omega, by omega, v306p.1, (by omega), (by omega), ⟨(Or.inl (by omega)), (KP.fr (KP.fr (KP.fr (KP.up (KP.fr (KP.refl (M := M)) fr2 (fun _ => rfl)) u94 (by decide)) fr259 (fun _ => rfl)) fr269 (fun _ => rfl)) fr307 (fun _ => rfl))⟩, (mx_f hK5 hnf (by omega) (by omega) hp1 (v306p.2.2.2.2.resolve_right (fun z => by have := z.2.2.1; omega)))⟩, (KB.fr (KB.fr (KB.fr hkx105 fr259 rfl) fr269 rfl) fr307 rfl)⟩⟩
                    · refine s_aload_n kx_196_299 rfl ?_
                      refine r_getR (k := 63) (f := 40) (k2 := 88) kx_196_300 kp_196_134 (tk_63 hT) kf_12_40 (by decide) (rq_63_40 hI307) ?_
                      refine s_aload_n kx_196_303 rfl ?_
                      refine r_getI (k := 63) (f := 42) kx_196_304 kp_196_140 (tk_63 hT) kf_12_42 (fun _ => rfl) (rg_63_42 hI307) (fun v315 v315e v315a v315b => ?_)
                      refine s_iconst (v := 1) kx_196_307 (by decide) ?_
                      refine r_sub kx_196_308 ⟨by omega, by omega⟩ ?_
                      refine s_iload_n kx_196_309 rfl ?_
                      refine r_ast (k := 88) kx_196_310 (tk_88 hT) ⟨by omega, by omega⟩ hI307 (ru_88 (by omega) (by omega)) (fun M316 hI316 u316 => ?_)
                      have hFm316 := hFm307.up u316 rfl
                      have tr317 := (u316.2 63 3 (by omega))
                      have tr318 := (u316.2 63 4 (by omega))
                      have tr319 := (u316.2 63 5 (by omega))
                      have tr320 := (u316.2 63 9 (by omega))
                      have tr321 := (u316.2 63 35 (by omega))
                      have tr322 := (u316.2 63 42 (by omega))
                      have tr323 := (u316.2 63 43 (by omega))
                      have tr324 := (u316.2 63 45 (by omega))
                      have tr325 := (u316.2 63 10 (by omega))
                      have tr326 := (u316.2 63 36 (by omega))
                      have hkx327 := (KB.up0 (KB.fr (KB.fr (KB.fr hkx105 fr259 rfl) fr269 rfl) fr307 rfl) u316 (by omega))
                      have hpp := (v306p.2.2.2.1.resolve_left (by omega)).2.2.2 _ _ (by rw [v315e]; exact u316) (by omega)
                      refine s_iconst (v := 0) kx_196_311 (by decide) ?_
                      have hk328 : M316 63 9 = v312 := ((u316.2 63 9 (by omega)).trans v312e)
                      exact s_iret kx_196_312 (Or.inr ⟨kq_196, by omega⟩) ⟨_, _, rfl, rfl, hI316, hFm316, ⟨⟨by omega, by omega, (LXp.up v306p.1 u316 (Or.inl (by decide))), (by omega), (by omega), ⟨(Or.inr ⟨by omega, Or.inr ⟨rfl, PI.to7 hpp (by omega)⟩⟩), (KP.up (KP.fr (KP.fr (KP.fr (KP.up (KP.fr (KP.refl (M := M)) fr2 (fun _ => rfl)) u94 (by decide)) fr259 (fun _ => rfl)) fr269 (fun _ => rfl)) fr307 (fun _ => rfl)) u316 (by decide))⟩, (mx_k hp1 hK5 hnf (by omega) (by omega) (v306p.2.2.2.2.resolve_left (fun z => by have := z.2.1; omega)) (by rw [v315e]; exact u316) (by omega) (by omega) rfl (RCo.up (RCo.fr (RCo.fr (RCo.fr (RCo.up (RCo.fr hRC fr2 rfl) u94 ⟨by decide, by decide, Or.inl (by decide)⟩) fr259 rfl) fr269 rfl) fr307 rfl) u316 ⟨by decide, by decide, Or.inl (by decide)⟩))⟩, hkx327⟩⟩
                · replace v279p := v279p.resolve_left (by omega)
                  refine s_aload_n kx_196_267 rfl ?_
                  refine s_iconst (v := 1) kx_196_268 (by decide) ?_
                  refine s_aload_n kx_196_269 rfl ?_
                  refine r_getI (k := 63) (f := 4) kx_196_270 kp_196_23 (tk_63 hT) kf_12_4 (fun _ => rfl) (rg_63_4 hI269) (fun v329 v329e v329a v329b => ?_)
                  refine s_callV2 (k := 63) (s1 := 3) (s2 := 0) (as := [(0, v329), (0, 1)]) (rest := []) kx_196_273 kp_196_263 (Or.inl rfl) rfl (tk_63 hT) ki_176 kcl_176 rfl rfl (by decide) (f_176 (d := d + 2) (kind := 1) (place := v329) hT hI269 (by omega)) (kV (fun M331 hI331 fr331 v330p => ?_))
                  have hFm331 := hFm269.call fr331 rfl
                  have tr332 := (fr331 63 3 rfl)
                  have tr333 := (fr331 63 4 rfl)
                  have tr334 := (fr331 63 5 rfl)
                  have tr335 := (fr331 63 35 rfl)
                  have tr336 := (fr331 63 42 rfl)
                  have tr337 := (fr331 63 43 rfl)
                  have tr338 := (fr331 63 45 rfl)
                  have tr339 := (fr331 63 36 rfl)
                  have tr340 := rg_63_9 hI331
                  refine s_aload_n kx_196_276 rfl ?_
                  have hym341 := mg_bl (M1 := M331) (q' := owE s n p) (x := v329) v268p.1 hn v279p.2 ⟨by omega, by omega⟩
                  refine s_iload_n kx_196_277 rfl ?_
                  refine s_bipush (v := 23) kx_196_278 (by decide) ?_
                  refine s_icmp_ne (t := 288) kx_196_280 (by decide) (fun hc342 => ?_) (fun hc342 => ?_)
                  · refine s_iconst (v := 3) kx_196_288 (by decide) ?_
                    refine s_callV2 (k := 63) (s1 := 2) (s2 := 0) (as := [(0, 3)]) (rest := []) kx_196_289 kp_196_367 (Or.inl rfl) rfl (tk_63 hT) ki_194 kcl_194 rfl rfl (by decide) (f_194 (d := d) (kind := 3) hT hI331 (LXp.fr (LXp.fr (show LXp M259 from v258p.2.2) fr269 rfl) fr331 rfl) hym341 hn (QJ.fr (QJ.fr (QJ.fr hqj106 fr259 rfl) fr269 rfl) fr331 rfl) (PI.fr (PI.fr (PI.fr hP108 fr259 rfl) fr269 rfl) fr331 rfl) (B0.fr (B0.fr (B0.fr hB107 fr259 rfl (fun _ => rfl)) fr269 rfl (fun _ => rfl)) fr331 rfl (fun _ => rfl)) (by omega)) (kV (fun M344 hI344 fr344 v343p => ?_))
                    have hFm344 := hFm331.call fr344 rfl
                    have tr345 := (fr344 63 35 rfl)
                    have tr346 := (fr344 63 45 rfl)
                    have tr347 := (fr344 63 36 rfl)
                    have tr348 := rg_63_9 hI344
                    refine s_aload_n kx_196_292 rfl ?_
                    refine r_getI (k := 63) (f := 9) kx_196_293 kp_196_39 (tk_63 hT) kf_12_9 (fun _ => rfl) (rg_63_9 hI344) (fun v349 v349e v349a v349b => ?_)
                    refine s_if_ne (t := 311) kx_196_296 (by decide) (fun hc350 => ?_) (fun hc350 => ?_)
                    · refine s_iconst (v := 0) kx_196_311 (by decide) ?_
                      have hk351 : M344 63 9 = v349 := v349e
                      exact s_iret kx_196_312 (Or.inr ⟨kq_196, by omega⟩) ⟨_, _, rfl, rfl, hI344, hFm344, ⟨⟨by omega, by omega, v343p.1, (by omega), (by omega), ⟨(Or.inl (by omega)), (KP.fr (KP.fr (KP.fr (KP.fr (KP.up (KP.fr (KP.refl (M := M)) fr2 (fun _ => rfl)) u94 (by decide)) fr259 (fun _ => rfl)) fr269 (fun _ => rfl)) fr331 (fun _ => rfl)) fr344 (fun _ => rfl))⟩, (mx_f hK5 hnf (by omega) (by omega) hp1 (v343p.2.2.2.2.resolve_right (fun z => by have := z.2.2.1; omega)))⟩, (KB.fr (KB.fr (KB.fr (KB.fr hkx105 fr259 rfl) fr269 rfl) fr331 rfl) fr344 rfl)⟩⟩
                    · exact absurd h639 (by omega)
                  · refine s_bipush (v := 6) kx_196_283 (by decide) ?_
                    refine s_goto (t := 289) kx_196_285 (by decide) ?_
                    refine s_callV2 (k := 63) (s1 := 2) (s2 := 0) (as := [(0, 6)]) (rest := []) kx_196_289 kp_196_367 (Or.inl rfl) rfl (tk_63 hT) ki_194 kcl_194 rfl rfl (by decide) (f_194 (d := d) (kind := 6) hT hI331 (LXp.fr (LXp.fr (show LXp M259 from v258p.2.2) fr269 rfl) fr331 rfl) hym341 hn (QJ.fr (QJ.fr (QJ.fr hqj106 fr259 rfl) fr269 rfl) fr331 rfl) (PI.fr (PI.fr (PI.fr hP108 fr259 rfl) fr269 rfl) fr331 rfl) (B0.fr (B0.fr (B0.fr hB107 fr259 rfl (fun _ => rfl)) fr269 rfl (fun _ => rfl)) fr331 rfl (fun _ => rfl)) (by omega)) (kV (fun M353 hI353 fr353 v352p => ?_))
                    have hFm353 := hFm331.call fr353 rfl
                    have tr354 := (fr353 63 35 rfl)
                    have tr355 := (fr353 63 45 rfl)
                    have tr356 := (fr353 63 36 rfl)
                    have tr357 := rg_63_9 hI353
                    refine s_aload_n kx_196_292 rfl ?_
                    refine r_getI (k := 63) (f := 9) kx_196_293 kp_196_39 (tk_63 hT) kf_12_9 (fun _ => rfl) (rg_63_9 hI353) (fun v358 v358e v358a v358b => ?_)
                    refine s_if_ne (t := 311) kx_196_296 (by decide) (fun hc359 => ?_) (fun hc359 => ?_)
                    · refine s_iconst (v := 0) kx_196_311 (by decide) ?_
                      have hk360 : M353 63 9 = v358 := v358e
                      exact s_iret kx_196_312 (Or.inr ⟨kq_196, by omega⟩) ⟨_, _, rfl, rfl, hI353, hFm353, ⟨⟨by omega, by omega, v352p.1, (by omega), (by omega), ⟨(Or.inl (by omega)), (KP.fr (KP.fr (KP.fr (KP.fr (KP.up (KP.fr (KP.refl (M := M)) fr2 (fun _ => rfl)) u94 (by decide)) fr259 (fun _ => rfl)) fr269 (fun _ => rfl)) fr331 (fun _ => rfl)) fr353 (fun _ => rfl))⟩, (mx_f hK5 hnf (by omega) (by omega) hp1 (v352p.2.2.2.2.resolve_right (fun z => by have := z.2.2.1; omega)))⟩, (KB.fr (KB.fr (KB.fr (KB.fr hkx105 fr259 rfl) fr269 rfl) fr331 rfl) fr353 rfl)⟩⟩
                    · exact absurd h639 (by omega)
              refine s_if_eq (t := 232) kx_196_224 (by decide) (fun hc247 => ?_) (fun hc247 => ?_)
              · have hJ248 : Fr gS_196_j224 M94 M94 := Fr.refl
                replace v246p := v246p.resolve_left (by omega)
                refine s_aload_n kx_196_232 rfl ?_
                refine s_ldc2_w kx_196_233 kp_196_335 ?_
                refine s_callV2 (k := 63) (s1 := 3) (s2 := 0) (as := [(1, 7168376)]) (rest := []) kx_196_236 kp_196_361 (Or.inl rfl) rfl (tk_63 hT) ki_182 kcl_182 rfl rfl (by decide) (f_182 (d := d + 2) (w := 7168376) hT hI94 (LyA.up hz.2 u94 ⟨by decide, Or.inl (by decide)⟩) hK5 (w5 := 438042624) n58_max (Or.inr (by decide)) (by omega)) (kF (fun v249 v249p => ?_))
                refine s_if_eq (t := 247) kx_196_239 (by decide) (fun hc250 => ?_) (fun hc250 => ?_)
                · replace v249p := v249p.resolve_left (by omega)
                  refine s_bipush (v := 23) kx_196_247 (by decide) ?_
                  exact cP.wk (lS1 rfl lS0) (jn253 23 (by omega) (by omega) (by omega) ((mx_of (z := 23) (w := 308281344) (by omega) (by omega)).symm))
                · replace v249p := v249p.resolve_right (by omega)
                  refine s_bipush (v := 16) kx_196_242 (by decide) ?_
                  refine s_goto (t := 249) kx_196_244 (by decide) ?_
                  exact cP.wk (lS1 rfl lS0) (jn253 16 (by omega) (by omega) (by omega) ((mx_of (z := 16) (w := 438042624) (by omega) (by omega)).symm))
              · have hJ251 : Fr gS_196_j224 M94 M94 := Fr.refl
                replace v246p := v246p.resolve_right (by omega)
                refine s_bipush (v := 15) kx_196_227 (by decide) ?_
                refine s_goto (t := 249) kx_196_229 (by decide) ?_
                exact cP.wk (lS1 rfl lS0) (jn253 15 (by omega) (by omega) (by omega) ((mx_of (z := 15) (w := 446103552) (by omega) (by omega)).symm))
            refine s_if_ne (t := 217) kx_196_194 (by decide) (fun hc169 => ?_) (fun hc169 => ?_)
            · have hJ170 : Fr gS_196_j194 M94 M94 := Fr.refl
              replace v168p := v168p.resolve_right (by omega)
              exact cP.wk (lS1 rfl lS0) (jn244 (by omega))
            · have hJ171 : Fr gS_196_j194 M94 M94 := Fr.refl
              replace v168p := v168p.resolve_left (by omega)
              refine s_aload_n kx_196_197 rfl ?_
              refine s_ldc2_w kx_196_198 kp_196_335 ?_
              refine s_callV2 (k := 63) (s1 := 3) (s2 := 0) (as := [(1, 7168376)]) (rest := []) kx_196_201 kp_196_361 (Or.inl rfl) rfl (tk_63 hT) ki_182 kcl_182 rfl rfl (by decide) (f_182 (d := d + 2) (w := 7168376) hT hI94 (LyA.up hz.2 u94 ⟨by decide, Or.inl (by decide)⟩) hK5 (w5 := 438042624) n58_max (Or.inr (by decide)) (by omega)) (kF (fun v172 v172p => ?_))
              refine s_if_ne (t := 217) kx_196_204 (by decide) (fun hc173 => ?_) (fun hc173 => ?_)
              · replace v172p := v172p.resolve_right (by omega)
                exact cP.wk (lS1 rfl lS0) (jn244 (by omega))
              · replace v172p := v172p.resolve_left (by omega)
                refine s_aload_n kx_196_207 rfl ?_
                refine s_ldc2_w kx_196_208 kp_196_323 ?_
                refine s_callV2 (k := 63) (s1 := 3) (s2 := 0) (as := [(1, 26982)]) (rest := []) kx_196_211 kp_196_361 (Or.inl rfl) rfl (tk_63 hT) ki_182 kcl_182 rfl rfl (by decide) (f_182 (d := d + 2) (w := 26982) hT hI94 (LyA.up hz.2 u94 ⟨by decide, Or.inl (by decide)⟩) hK5 (w5 := 308281344) n58_if (Or.inr (by decide)) (by omega)) (kF (fun v174 v174p => ?_))
                refine s_if_eq (t := 313) kx_196_214 (by decide) (fun hc175 => ?_) (fun hc175 => ?_)
                · replace v174p := v174p.resolve_left (by omega)
                  have hmx0 := mx_n (s := s) (n := n) (p := p) (by omega) (by omega) (by omega)
                  refine s_aload_n kx_196_313 rfl ?_
                  refine r_getI (k := 63) (f := 3) kx_196_314 kp_196_20 (tk_63 hT) kf_12_3 (fun _ => rfl) (rg_63_3 hI94) (fun v176 v176e v176a v176b => ?_)
                  have v176z : M 63 3 = v176 := (((u94.2 63 3 (by omega)).trans (fr2 63 3 rfl))).symm.trans v176e
                  refine s_iconst (v := 2) kx_196_317 (by decide) ?_
                  have hk3 : (v176 = 2 ∧ owK s n p = 3) ∨ (v176 ≠ 2 ∧ owK s n p ≠ 3) := by have hkk := (LyA.up hz.2 u94 ⟨by decide, Or.inl (by decide)⟩).kinds; omega
                  have jn193 : ∀ (y192 : Int), ((-1) ≤ y192) → (y192 ≤ 6) → ((y192 = -1 ∨ M94 63 3 ≠ 0)) → ((y192 = 0 ∧ owK s n p = 3) ∨ (1 ≤ y192 ∧ y192 ≤ 6 ∧ y192 = -owCd s n p) ∨ (y192 = -1 ∧ owK s n p ≠ 3 ∧ owCd s n p = 0)) → cP k_P xs Ln (d + 3) 196 411 [(0, rf 63)] [(0, y192)] (T, M94) (qW T M gS_196_m 0 (fun v M1 => (0 ≤ v ∧ v ≤ 1 ∧ (LXp M1 ∧ M 63 4 ≤ M1 63 4 ∧ M 63 9 ≤ M1 63 9 ∧ (OPd M M1 c a v ∧ KP M M1) ∧ (StT M1 s n ra (pSt s n (0, (k_, ph, bg, pr, os_) :: fs_, cs, p)) v))) ∧ KB bX WX M1)) := by
                    clear hk3 v174p v172p v168p a164
                    intro y192 a194 a195 a196 a197
                    have hsrt := a197
                    refine s_istore_n kx_196_411 km_196_3 rfl ?_
                    refine s_iload_n kx_196_412 rfl ?_
                    refine s_iconst (v := (-1)) kx_196_413 (by decide) ?_
                    refine s_icmp_ne (t := 426) kx_196_414 (by decide) (fun hc198 => ?_) (fun hc198 => ?_)
                    · refine s_aload_n kx_196_426 rfl ?_
                      refine r_getK (k := 63) (f := 9) kx_196_427 kp_196_39 (tk_63 hT) kf_12_9 (fun _ => rfl) ((u94.2 63 9 (by omega)).trans v12e) ?_
                      refine s_if_le (t := 435) kx_196_430 (by decide) (fun hc199 => ?_) (fun hc199 => absurd hc199 (by omega))
                      refine s_aload_n kx_196_435 rfl ?_
                      refine s_iload_n kx_196_436 rfl ?_
                      refine s_aload_n kx_196_437 rfl ?_
                      refine r_getU (k := 63) (f := 6) kx_196_438 kp_196_29 (tk_63 hT) kf_12_6 (fun _ => rfl) (fun v200 v200e => ?_)
                      have v200z : M 63 6 = v200 := (((u94.2 63 6 (by omega)).trans (fr2 63 6 rfl))).symm.trans v200e
                      refine s_callV2 (k := 63) (s1 := 3) (s2 := 0) (as := [(0, v200), (0, y192)]) (rest := []) kx_196_441 kp_196_352 (Or.inl rfl) rfl (tk_63 hT) ki_189 kcl_189 rfl rfl (by decide) (f_189 (d := d + 2) (sort := y192) (v_ := v200) hT hI94  hkx105 (by omega) (by omega)) (kV (fun M202 hI202 fr202 v201p => ?_))
                      have hFm202 := hFm94.call fr202 rfl
                      have hFj194202 := hJ171.call fr202 rfl
                      have tr203 := (fr202 63 3 rfl)
                      have tr204 := (fr202 63 4 rfl)
                      have tr205 := (fr202 63 5 rfl)
                      have tr206 := (fr202 63 9 rfl)
                      have tr207 := (fr202 63 42 rfl)
                      have tr208 := (fr202 63 43 rfl)
                      have tr209 := (fr202 63 45 rfl)
                      have tr210 := (fr202 63 10 rfl)
                      have tr211 := (fr202 63 36 rfl)
                      have tr212 := rg_63_9 hI202
                      have v201pk := v201p.2
                      (replace v201p := v201p.1)
                      have v201py := v201p.2
                      (replace v201p := v201p.1)
                      have hP213 := PI.codeV hP108 (by omega) (by omega) (by decide) (by decide) fr202 v201p.1 v201p.2.1 v201p.2.2
                      have hK214 := KP.add (KP.up (KP.fr (KP.refl (M := M)) fr2 (fun _ => rfl)) u94 (by decide)) ((u94.2 63 36 (by omega)).trans (fr2 63 36 rfl)) ⟨(rg_63_35 hI94).1, by omega⟩ (rg_63_36 hI94).1 v201p.2.2
                      obtain ⟨cx, hcx1, hcx2⟩ := od_c (sort := y192) (val := v200) (by omega) (fun z => (v200e).symm.trans (((LyA.up hz.2 u94 ⟨by decide, Or.inl (by decide)⟩)).2.2.2.2.2.2.2.2.1 z).2)
                      have hrc215 := RCo.push (RCo.up (RCo.fr hRC fr2 rfl) u94 ⟨by decide, by decide, Or.inl (by decide)⟩) fr202 rfl v201p.1 v201p.2.1 v201p.2.2 v201py hcx2
                      refine s_aload_n kx_196_444 rfl ?_
                      refine s_callV2 (k := 63) (s1 := 1) (s2 := 0) (as := []) (rest := []) kx_196_445 kp_196_286 (Or.inl rfl) rfl (tk_63 hT) ki_180 kcl_180 rfl rfl (by decide) (f_180 (d := d + 1) hT hI202 (LyA.fr (LyA.up hz.2 u94 ⟨by decide, Or.inl (by decide)⟩) fr202 rfl).1 (LyA.fr (LyA.up hz.2 u94 ⟨by decide, Or.inl (by decide)⟩) fr202 rfl).2.1 (LyA.fr (LyA.up hz.2 u94 ⟨by decide, Or.inl (by decide)⟩) fr202 rfl).2.2.2.2.2.1 (owE_i2 ⟨(LyA.fr (LyA.up hz.2 u94 ⟨by decide, Or.inl (by decide)⟩) fr202 rfl).2.2.1, (LyA.fr (LyA.up hz.2 u94 ⟨by decide, Or.inl (by decide)⟩) fr202 rfl).2.2.2.1⟩).1 (owE_i2 ⟨(LyA.fr (LyA.up hz.2 u94 ⟨by decide, Or.inl (by decide)⟩) fr202 rfl).2.2.1, (LyA.fr (LyA.up hz.2 u94 ⟨by decide, Or.inl (by decide)⟩) fr202 rfl).2.2.2.1⟩).2 (LyA.fr (LyA.up hz.2 u94 ⟨by decide, Or.inl (by decide)⟩) fr202 rfl).2.2.2.2.2.2.2.2.2.2.2.2) (kV (fun M217 hI217 fr217 v216p => ?_))
                      have hFm217 := hFm202.call fr217 rfl
                      have hFj194217 := hFj194202.call fr217 rfl
                      have tr218 := (fr217 63 9 rfl)
                      have tr219 := (fr217 63 35 rfl)
                      have tr220 := (fr217 63 42 rfl)
                      have tr221 := (fr217 63 43 rfl)
                      have tr222 := (fr217 63 45 rfl)
                      have tr223 := (fr217 63 10 rfl)
                      have tr224 := (fr217 63 36 rfl)
                      have tr225 := rg_63_9 hI217
                      refine s_iconst (v := 1) kx_196_448 (by decide) ?_
                      have hk226 : M217 63 9 = v12 := ((fr217 63 9 rfl).trans ((fr202 63 9 rfl).trans ((u94.2 63 9 (by omega)).trans v12e)))
                      exact s_iret kx_196_449 (Or.inr ⟨kq_196, by omega⟩) ⟨_, _, rfl, rfl, hI217, hFm217, ⟨⟨by omega, by omega, (show LXp M217 from v216p.2.2), (by omega), (by omega), ⟨(Or.inr ⟨by omega, Or.inl ⟨rfl, (B0.fr (B0.fr hB107 fr202 rfl (fun _ => rfl)) fr217 rfl (fun _ => rfl)), PI.to7 (PI.fr hP213 fr217 rfl) (by omega)⟩⟩), (KP.fr hK214 fr217 (fun _ => rfl))⟩, (StT.l (od_v hK5 hnf (by omega) (by omega) hcx1) rfl (QJ.fr (QJ.fr hqj106 fr202 rfl) fr217 rfl) (by omega) v216p.1 (RCo.fr hrc215 fr217 rfl))⟩, (KB.fr v201pk fr217 rfl)⟩⟩
                    · refine s_aload_n kx_196_417 rfl ?_
                      refine s_iconst (v := 1) kx_196_418 (by decide) ?_
                      refine s_aload_n kx_196_419 rfl ?_
                      refine r_getI (k := 63) (f := 4) kx_196_420 kp_196_23 (tk_63 hT) kf_12_4 (fun _ => rfl) (rg_63_4 hI94) (fun v227 v227e v227a v227b => ?_)
                      have v227z : M 63 4 = v227 := (((u94.2 63 4 (by omega)).trans (fr2 63 4 rfl))).symm.trans v227e
                      refine s_callV2 (k := 63) (s1 := 3) (s2 := 0) (as := [(0, v227), (0, 1)]) (rest := []) kx_196_423 kp_196_263 (Or.inl rfl) rfl (tk_63 hT) ki_176 kcl_176 rfl rfl (by decide) (f_176 (d := d + 2) (kind := 1) (place := v227) hT hI94 (by omega)) (kV (fun M229 hI229 fr229 v228p => ?_))
                      have hFm229 := hFm94.call fr229 rfl
                      have hFj194229 := hJ171.call fr229 rfl
                      have tr230 := (fr229 63 3 rfl)
                      have tr231 := (fr229 63 4 rfl)
                      have tr232 := (fr229 63 5 rfl)
                      have tr233 := (fr229 63 35 rfl)
                      have tr234 := (fr229 63 42 rfl)
                      have tr235 := (fr229 63 43 rfl)
                      have tr236 := (fr229 63 45 rfl)
                      have tr237 := (fr229 63 36 rfl)
                      have tr238 := rg_63_9 hI229
                      refine s_aload_n kx_196_426 rfl ?_
                      refine r_getI (k := 63) (f := 9) kx_196_427 kp_196_39 (tk_63 hT) kf_12_9 (fun _ => rfl) (rg_63_9 hI229) (fun v239 v239e v239a v239b => ?_)
                      refine s_if_le (t := 435) kx_196_430 (by decide) (fun hc240 => ?_) (fun hc240 => ?_)
                      · exact absurd h639 (by omega)
                      · refine s_iconst (v := 1) kx_196_433 (by decide) ?_
                        have hk241 : M229 63 3 = v176 := ((fr229 63 3 rfl).trans v176e)
                        have hk242 : M229 63 4 = v227 := ((fr229 63 4 rfl).trans v227e)
                        have hk243 : M229 63 9 = v239 := v239e
                        exact s_iret kx_196_434 (Or.inr ⟨kq_196, by omega⟩) ⟨_, _, rfl, rfl, hI229, hFm229, ⟨⟨by omega, by omega, (LXp.fr (LXp.up (LXp.fr hX fr2 rfl) u94 (Or.inl (by decide))) fr229 rfl), (by omega), (by omega), ⟨(Or.inl (by omega)), (KP.fr (KP.up (KP.fr (KP.refl (M := M)) fr2 (fun _ => rfl)) u94 (by decide)) fr229 (fun _ => rfl))⟩, (StT.r (od_x hK5 hnf (by omega) (by omega) (by omega) (by omega)) (owFl2 (k := 1) (x := owB s n p) (by omega) (by omega) (by decide) (by omega) (by unfold owU; rw [if_neg hK5]; omega)))⟩, (KB.fr hkx105 fr229 rfl)⟩⟩
                  refine s_icmp_ne (t := 325) kx_196_318 (by decide) (fun hc177 => ?_) (fun hc177 => ?_)
                  · have hJ178 : Fr gS_196_j318 M94 M94 := Fr.refl
                    refine s_aload_n kx_196_325 rfl ?_
                    refine s_ldc2_w kx_196_326 kp_196_297 ?_
                    refine s_callV2 (k := 63) (s1 := 3) (s2 := 0) (as := [(1, 499850634611)]) (rest := []) kx_196_329 kp_196_361 (Or.inl rfl) rfl (tk_63 hT) ki_182 kcl_182 rfl rfl (by decide) (f_182 (d := d + 2) (w := 499850634611) hT hI94 (LyA.up hz.2 u94 ⟨by decide, Or.inl (by decide)⟩) hK5 (w5 := 672503392) n58_takes (Or.inr (by decide)) (by omega)) (kF (fun v179 v179p => ?_))
                    refine s_if_eq (t := 339) kx_196_332 (by decide) (fun hc180 => ?_) (fun hc180 => ?_)
                    · replace v179p := v179p.resolve_left (by omega)
                      refine s_aload_n kx_196_339 rfl ?_
                      refine s_ldc2_w kx_196_340 kp_196_317 ?_
                      refine s_callV2 (k := 63) (s1 := 3) (s2 := 0) (as := [(1, 131277443786868)]) (rest := []) kx_196_343 kp_196_361 (Or.inl rfl) rfl (tk_63 hT) ki_182 kcl_182 rfl rfl (by decide) (f_182 (d := d + 2) (w := 131277443786868) hT hI94 (LyA.up hz.2 u94 ⟨by decide, Or.inl (by decide)⟩) hK5 (w5 := 777297172) n58_weight (Or.inr (by decide)) (by omega)) (kF (fun v181 v181p => ?_))
                      refine s_if_eq (t := 353) kx_196_346 (by decide) (fun hc182 => ?_) (fun hc182 => ?_)
                      · replace v181p := v181p.resolve_left (by omega)
                        refine s_aload_n kx_196_353 rfl ?_
                        refine s_ldc2_w kx_196_354 kp_196_301 ?_
                        refine s_callV2 (k := 63) (s1 := 3) (s2 := 0) (as := [(1, 126943973305959)]) (rest := []) kx_196_357 kp_196_361 (Or.inl rfl) rfl (tk_63 hT) ki_182 kcl_182 rfl rfl (by decide) (f_182 (d := d + 2) (w := 126943973305959) hT hI94 (LyA.up hz.2 u94 ⟨by decide, Or.inl (by decide)⟩) hK5 (w5 := 659111367) n58_strong (Or.inr (by decide)) (by omega)) (kF (fun v183 v183p => ?_))
                        refine s_if_eq (t := 367) kx_196_360 (by decide) (fun hc184 => ?_) (fun hc184 => ?_)
                        · replace v183p := v183p.resolve_left (by omega)
                          refine s_aload_n kx_196_367 rfl ?_
                          refine s_ldc2_w kx_196_368 kp_196_305 ?_
                          refine s_callV2 (k := 63) (s1 := 3) (s2 := 0) (as := [(1, 2003395685)]) (rest := []) kx_196_371 kp_196_361 (Or.inl rfl) rfl (tk_63 hT) ki_182 kcl_182 rfl rfl (by decide) (f_182 (d := d + 2) (w := 2003395685) hT hI94 (LyA.up hz.2 u94 ⟨by decide, Or.inl (by decide)⟩) hK5 (w5 := 781325312) n58_wide (Or.inr (by decide)) (by omega)) (kF (fun v185 v185p => ?_))
                          refine s_if_eq (t := 381) kx_196_374 (by decide) (fun hc186 => ?_) (fun hc186 => ?_)
                          · replace v185p := v185p.resolve_left (by omega)
                            refine s_aload_n kx_196_381 rfl ?_
                            refine s_ldc2_w kx_196_382 kp_196_319 ?_
                            refine s_callV2 (k := 63) (s1 := 3) (s2 := 0) (as := [(1, 427021001579)]) (rest := []) kx_196_385 kp_196_361 (Or.inl rfl) rfl (tk_63 hT) ki_182 kcl_182 rfl rfl (by decide) (f_182 (d := d + 2) (w := 427021001579) hT hI94 (LyA.up hz.2 u94 ⟨by decide, Or.inl (by decide)⟩) hK5 (w5 := 113741152) n58_clock (Or.inr (by decide)) (by omega)) (kF (fun v187 v187p => ?_))
                            refine s_if_eq (t := 395) kx_196_388 (by decide) (fun hc188 => ?_) (fun hc188 => ?_)
                            · replace v187p := v187p.resolve_left (by omega)
                              refine s_aload_n kx_196_395 rfl ?_
                              refine s_ldc2_w kx_196_396 kp_196_321 ?_
                              refine s_callV2 (k := 63) (s1 := 3) (s2 := 0) (as := [(1, 7305070)]) (rest := []) kx_196_399 kp_196_361 (Or.inl rfl) rfl (tk_63 hT) ki_182 kcl_182 rfl rfl (by decide) (f_182 (d := d + 2) (w := 7305070) hT hI94 (LyA.up hz.2 u94 ⟨by decide, Or.inl (by decide)⟩) hK5 (w5 := 527892480) n58_own (Or.inr (by decide)) (by omega)) (kF (fun v189 v189p => ?_))
                              refine s_if_eq (t := 410) kx_196_402 (by decide) (fun hc190 => ?_) (fun hc190 => ?_)
                              · replace v189p := v189p.resolve_left (by omega)
                                refine s_iconst (v := (-1)) kx_196_410 (by decide) ?_
                                exact cP.wk (lS1 rfl lS0) (jn193 (-1) (by omega) (by omega) (by omega) (Or.inr (Or.inr ⟨rfl, by omega, cd_n (by omega) (by omega) (by omega) (by omega) (by omega) (by omega)⟩)))
                              · replace v189p := v189p.resolve_right (by omega)
                                refine s_bipush (v := 6) kx_196_405 (by decide) ?_
                                refine s_goto (t := 411) kx_196_407 (by decide) ?_
                                exact cP.wk (lS1 rfl lS0) (jn193 6 (by omega) (by omega) (by omega) (Or.inr (Or.inl ⟨by decide, by decide, by have hcd := cd_of (s := s) (n := n) (p := p) (z := -6) (w := 527892480) (by omega) (by omega); omega⟩)))
                            · replace v187p := v187p.resolve_right (by omega)
                              refine s_iconst (v := 5) kx_196_391 (by decide) ?_
                              refine s_goto (t := 411) kx_196_392 (by decide) ?_
                              exact cP.wk (lS1 rfl lS0) (jn193 5 (by omega) (by omega) (by omega) (Or.inr (Or.inl ⟨by decide, by decide, by have hcd := cd_of (s := s) (n := n) (p := p) (z := -5) (w := 113741152) (by omega) (by omega); omega⟩)))
                          · replace v185p := v185p.resolve_right (by omega)
                            refine s_iconst (v := 4) kx_196_377 (by decide) ?_
                            refine s_goto (t := 411) kx_196_378 (by decide) ?_
                            exact cP.wk (lS1 rfl lS0) (jn193 4 (by omega) (by omega) (by omega) (Or.inr (Or.inl ⟨by decide, by decide, by have hcd := cd_of (s := s) (n := n) (p := p) (z := -4) (w := 781325312) (by omega) (by omega); omega⟩)))
                        · replace v183p := v183p.resolve_right (by omega)
                          refine s_iconst (v := 3) kx_196_363 (by decide) ?_
                          refine s_goto (t := 411) kx_196_364 (by decide) ?_
                          exact cP.wk (lS1 rfl lS0) (jn193 3 (by omega) (by omega) (by omega) (Or.inr (Or.inl ⟨by decide, by decide, by have hcd := cd_of (s := s) (n := n) (p := p) (z := -3) (w := 659111367) (by omega) (by omega); omega⟩)))
                      · replace v181p := v181p.resolve_right (by omega)
                        refine s_iconst (v := 2) kx_196_349 (by decide) ?_
                        refine s_goto (t := 411) kx_196_350 (by decide) ?_
                        exact cP.wk (lS1 rfl lS0) (jn193 2 (by omega) (by omega) (by omega) (Or.inr (Or.inl ⟨by decide, by decide, by have hcd := cd_of (s := s) (n := n) (p := p) (z := -2) (w := 777297172) (by omega) (by omega); omega⟩)))
                    · replace v179p := v179p.resolve_right (by omega)
                      refine s_iconst (v := 1) kx_196_335 (by decide) ?_
                      refine s_goto (t := 411) kx_196_336 (by decide) ?_
                      exact cP.wk (lS1 rfl lS0) (jn193 1 (by omega) (by omega) (by omega) (Or.inr (Or.inl ⟨by decide, by decide, by have hcd := cd_of (s := s) (n := n) (p := p) (z := -1) (w := 672503392) (by omega) (by omega); omega⟩)))
                  · have hJ191 : Fr gS_196_j318 M94 M94 := Fr.refl
                    refine s_iconst (v := 0) kx_196_321 (by decide) ?_
                    refine s_goto (t := 411) kx_196_322 (by decide) ?_
                    exact cP.wk (lS1 rfl lS0) (jn193 0 (by omega) (by omega) (by omega) (Or.inl ⟨rfl, by omega⟩))
                · replace v174p := v174p.resolve_right (by omega)
                  exact cP.wk (lS1 rfl lS0) (jn244 (by omega))
          · replace v165p := v165p.resolve_right (by omega)
            refine s_aload_n kx_196_180 rfl ?_
            refine s_iconst (v := 2) kx_196_181 (by decide) ?_
            refine s_callV2 (k := 63) (s1 := 2) (s2 := 0) (as := [(0, 2)]) (rest := []) kx_196_182 kp_196_367 (Or.inl rfl) rfl (tk_63 hT) ki_194 kcl_194 rfl rfl (by decide) (f_194 (d := d) (kind := 2) hT hI94 (LXp.up (LXp.fr hX fr2 rfl) u94 (Or.inl (by decide))) (Yst.up hys0 u94 ⟨by decide, Or.inl (by decide)⟩) hn hqj106 hP108 hB107 (by omega)) (kV (fun M362 hI362 fr362 v361p => ?_))
            have hFm362 := hFm94.call fr362 rfl
            have tr363 := (fr362 63 35 rfl)
            have tr364 := (fr362 63 45 rfl)
            have tr365 := (fr362 63 36 rfl)
            have tr366 := rg_63_9 hI362
            refine s_iconst (v := 0) kx_196_185 (by decide) ?_
            exact s_iret kx_196_186 (Or.inr ⟨kq_196, by omega⟩) ⟨_, _, rfl, rfl, hI362, hFm362, ⟨⟨by omega, by omega, v361p.1, (by omega), (by omega), ⟨(v361p.2.2.2.1.imp id (fun z => ⟨by omega, Or.inr ⟨rfl, PI.to7 (PQ.id z.2.2.2 (by decide)) (by omega)⟩⟩)), (KP.fr (KP.up (KP.fr (KP.refl (M := M)) fr2 (fun _ => rfl)) u94 (by decide)) fr362 (fun _ => rfl))⟩, (op_st (f := 0) rfl (by rw [od_p hK5 hnf (by omega), pOp_bg (bg := bg) (ph := ph) (bg' := 0) (ph' := ph)]) (by decide) hzp v361p.2.2.2.2 (RCo.fr (RCo.up (RCo.fr hRC fr2 rfl) u94 ⟨by decide, by decide, Or.inl (by decide)⟩) fr362 rfl))⟩, (KB.fr hkx105 fr362 rfl)⟩⟩
        refine s_if_eq (t := 137) kx_196_118 (by decide) (fun hc109 => ?_) (fun hc109 => ?_)
        · have hJ110 : Fr gS_196_j118 M94 M94 := Fr.refl
          refine s_iload_n kx_196_137 rfl ?_
          refine s_if_eq (t := 171) kx_196_138 (by decide) (fun hc111 => ?_) (fun hc111 => absurd hc111 (by omega))
          exact cP.wk (lS1 rfl lS0) (jn163 (by unfold nFst; omega))
        · have hJ112 : Fr gS_196_j118 M94 M94 := Fr.refl
          have hfst : (pT k_ ∧ bg = 1) ∧ True := ⟨⟨by omega, by omega⟩, trivial⟩
          refine s_aload_n kx_196_121 rfl ?_
          refine s_bipush (v := 91) kx_196_122 (by decide) ?_
          refine s_callV2 (k := 63) (s1 := 2) (s2 := 0) (as := [(0, 91)]) (rest := []) kx_196_124 kp_196_283 (Or.inl rfl) rfl (tk_63 hT) ki_181 kcl_181 rfl rfl (by decide) (m_181 (d := d + 2) (c := 91) hT hI94) (kF (fun v113 v113p => ?_))
          have hiss114 := (LyA.up hz.2 u94 ⟨by decide, Or.inl (by decide)⟩).iss (c := 91)
          refine s_if_eq (t := 137) kx_196_127 (by decide) (fun hc115 => ?_) (fun hc115 => ?_)
          · replace v113p := v113p.resolve_left (by omega)
            refine s_iload_n kx_196_137 rfl ?_
            refine s_if_eq (t := 171) kx_196_138 (by decide) (fun hc116 => absurd hc116 (by omega)) (fun hc116 => ?_)
            refine s_aload_n kx_196_141 rfl ?_
            refine s_ldc2_w kx_196_142 kp_196_331 ?_
            refine s_callV2 (k := 63) (s1 := 3) (s2 := 0) (as := [(1, 6384748)]) (rest := []) kx_196_145 kp_196_361 (Or.inl rfl) rfl (tk_63 hT) ki_182 kcl_182 rfl rfl (by decide) (f_182 (d := d + 2) (w := 6384748) hT hI94 (LyA.up hz.2 u94 ⟨by decide, Or.inl (by decide)⟩) hK5 (w5 := 46530560) n58_all (Or.inr (by decide)) (by omega)) (kF (fun v117 v117p => ?_))
            refine s_if_eq (t := 171) kx_196_148 (by decide) (fun hc118 => ?_) (fun hc118 => ?_)
            · replace v117p := v117p.resolve_left (by omega)
              exact cP.wk (lS1 rfl lS0) (jn163 (by unfold nFst; omega))
            · replace v117p := v117p.resolve_right (by omega)
              refine s_aload_n kx_196_151 rfl ?_
              refine s_bipush (v := 9) kx_196_152 (by decide) ?_
              refine s_iconst (v := 0) kx_196_154 (by decide) ?_
              refine s_callV2 (k := 63) (s1 := 3) (s2 := 0) (as := [(0, 0), (0, 9)]) (rest := []) kx_196_155 kp_196_352 (Or.inl rfl) rfl (tk_63 hT) ki_189 kcl_189 rfl rfl (by decide) (f_189 (d := d + 2) (sort := 9) (v_ := 0) hT hI94  hkx105 (by omega) (by omega)) (kV (fun M120 hI120 fr120 v119p => ?_))
              have hFm120 := hFm94.call fr120 rfl
              have hFj118120 := hJ112.call fr120 rfl
              have tr121 := (fr120 63 3 rfl)
              have tr122 := (fr120 63 4 rfl)
              have tr123 := (fr120 63 5 rfl)
              have tr124 := (fr120 63 9 rfl)
              have tr125 := (fr120 63 42 rfl)
              have tr126 := (fr120 63 43 rfl)
              have tr127 := (fr120 63 45 rfl)
              have tr128 := (fr120 63 10 rfl)
              have tr129 := (fr120 63 36 rfl)
              have tr130 := rg_63_9 hI120
              have v119pk := v119p.2
              (replace v119p := v119p.1)
              have v119py := v119p.2
              (replace v119p := v119p.1)
              have hP131 := PI.codeV hP108 (by omega) (by omega) (by decide) (by decide) fr120 v119p.1 v119p.2.1 v119p.2.2
              have hK132 := KP.add (KP.up (KP.fr (KP.refl (M := M)) fr2 (fun _ => rfl)) u94 (by decide)) ((u94.2 63 36 (by omega)).trans (fr2 63 36 rfl)) ⟨(rg_63_35 hI94).1, by omega⟩ (rg_63_36 hI94).1 v119p.2.2
              have hrc133 := RCo.push (RCo.up (RCo.fr hRC fr2 rfl) u94 ⟨by decide, by decide, Or.inl (by decide)⟩) fr120 rfl v119p.1 v119p.2.1 v119p.2.2 v119py (Or.inr (Or.inl ⟨rfl, rfl⟩))
              refine s_aload_n kx_196_158 rfl ?_
              refine r_getR (k := 63) (f := 38) (k2 := 86) kx_196_159 kp_196_127 (tk_63 hT) kf_12_38 (by decide) (rq_63_38 hI120) ?_
              refine s_iload_n kx_196_162 rfl ?_
              refine s_iconst (v := 2) kx_196_163 (by decide) ?_
              refine r_ast (k := 86) kx_196_164 (tk_86 hT) ⟨by omega, by omega⟩ hI120 (ru_86 (by omega) (by omega)) (fun M134 hI134 u134 => ?_)
              have hFm134 := hFm120.up u134 rfl
              have hFj118134 := hFj118120.up u134 rfl
              have tr135 := (u134.2 63 3 (by omega))
              have tr136 := (u134.2 63 4 (by omega))
              have tr137 := (u134.2 63 5 (by omega))
              have tr138 := (u134.2 63 9 (by omega))
              have tr139 := (u134.2 63 35 (by omega))
              have tr140 := (u134.2 63 42 (by omega))
              have tr141 := (u134.2 63 43 (by omega))
              have tr142 := (u134.2 63 45 (by omega))
              have tr143 := (u134.2 63 10 (by omega))
              have tr144 := (u134.2 63 36 (by omega))
              have hkx145 := (KB.up0 v119pk u134 (by omega))
              refine s_aload_n kx_196_165 rfl ?_
              refine s_callV2 (k := 63) (s1 := 1) (s2 := 0) (as := []) (rest := []) kx_196_166 kp_196_286 (Or.inl rfl) rfl (tk_63 hT) ki_180 kcl_180 rfl rfl (by decide) (f_180 (d := d + 1) hT hI134 (LyA.up (LyA.fr (LyA.up hz.2 u94 ⟨by decide, Or.inl (by decide)⟩) fr120 rfl) u134 ⟨by decide, Or.inl (by decide)⟩).1 (LyA.up (LyA.fr (LyA.up hz.2 u94 ⟨by decide, Or.inl (by decide)⟩) fr120 rfl) u134 ⟨by decide, Or.inl (by decide)⟩).2.1 (LyA.up (LyA.fr (LyA.up hz.2 u94 ⟨by decide, Or.inl (by decide)⟩) fr120 rfl) u134 ⟨by decide, Or.inl (by decide)⟩).2.2.2.2.2.1 (owE_i2 ⟨(LyA.up (LyA.fr (LyA.up hz.2 u94 ⟨by decide, Or.inl (by decide)⟩) fr120 rfl) u134 ⟨by decide, Or.inl (by decide)⟩).2.2.1, (LyA.up (LyA.fr (LyA.up hz.2 u94 ⟨by decide, Or.inl (by decide)⟩) fr120 rfl) u134 ⟨by decide, Or.inl (by decide)⟩).2.2.2.1⟩).1 (owE_i2 ⟨(LyA.up (LyA.fr (LyA.up hz.2 u94 ⟨by decide, Or.inl (by decide)⟩) fr120 rfl) u134 ⟨by decide, Or.inl (by decide)⟩).2.2.1, (LyA.up (LyA.fr (LyA.up hz.2 u94 ⟨by decide, Or.inl (by decide)⟩) fr120 rfl) u134 ⟨by decide, Or.inl (by decide)⟩).2.2.2.1⟩).2 (LyA.up (LyA.fr (LyA.up hz.2 u94 ⟨by decide, Or.inl (by decide)⟩) fr120 rfl) u134 ⟨by decide, Or.inl (by decide)⟩).2.2.2.2.2.2.2.2.2.2.2.2) (kV (fun M147 hI147 fr147 v146p => ?_))
              have hFm147 := hFm134.call fr147 rfl
              have hFj118147 := hFj118134.call fr147 rfl
              have tr148 := (fr147 63 9 rfl)
              have tr149 := (fr147 63 35 rfl)
              have tr150 := (fr147 63 42 rfl)
              have tr151 := (fr147 63 43 rfl)
              have tr152 := (fr147 63 45 rfl)
              have tr153 := (fr147 63 10 rfl)
              have tr154 := (fr147 63 36 rfl)
              have tr155 := rg_63_9 hI147
              refine s_iconst (v := 1) kx_196_169 (by decide) ?_
              have hk156 : M147 63 9 = v12 := ((fr147 63 9 rfl).trans ((u134.2 63 9 (by omega)).trans ((fr120 63 9 rfl).trans ((u94.2 63 9 (by omega)).trans v12e))))
              exact s_iret kx_196_170 (Or.inr ⟨kq_196, by omega⟩) ⟨_, _, rfl, rfl, hI147, hFm147, ⟨⟨by omega, by omega, (show LXp M147 from v146p.2.2), (by omega), (by omega), ⟨(Or.inr ⟨by omega, Or.inl ⟨rfl, (B0.fr (B0.up (B0.fr hB107 fr120 rfl (fun _ => rfl)) u134 ⟨by decide, Or.inl (by decide)⟩) fr147 rfl (fun _ => rfl)), PI.to7 (PI.fr (PI.phase hP131 (Or.inl (by decide)) (by omega) u134) fr147 rfl) (by omega)⟩⟩), (KP.fr (KP.up hK132 u134 (by decide)) fr147 (fun _ => rfl))⟩, (StT.l (od_a hK5 hfst.1 (by omega) (by omega) (by omega)) rfl (QJ.fr (QJ.phs (QJ.fr hqj106 fr120 rfl) (by omega) u134) fr147 rfl) (by omega) v146p.1 (RCo.fr (RCo.up hrc133 u134 ⟨by decide, by decide, Or.inl (by decide)⟩) fr147 rfl))⟩, (KB.fr hkx145 fr147 rfl)⟩⟩
          · replace v113p := v113p.resolve_right (by omega)
            refine s_aload_n kx_196_130 rfl ?_
            refine s_iconst (v := 5) kx_196_131 (by decide) ?_
            refine s_callV2 (k := 63) (s1 := 2) (s2 := 0) (as := [(0, 5)]) (rest := []) kx_196_132 kp_196_367 (Or.inl rfl) rfl (tk_63 hT) ki_194 kcl_194 rfl rfl (by decide) (f_194 (d := d) (kind := 5) hT hI94 (LXp.up (LXp.fr hX fr2 rfl) u94 (Or.inl (by decide))) (Yst.up hys0 u94 ⟨by decide, Or.inl (by decide)⟩) hn hqj106 hP108 hB107 (by omega)) (kV (fun M158 hI158 fr158 v157p => ?_))
            have hFm158 := hFm94.call fr158 rfl
            have hFj118158 := hJ112.call fr158 rfl
            have tr159 := (fr158 63 35 rfl)
            have tr160 := (fr158 63 45 rfl)
            have tr161 := (fr158 63 36 rfl)
            have tr162 := rg_63_9 hI158
            refine s_iconst (v := 0) kx_196_135 (by decide) ?_
            exact s_iret kx_196_136 (Or.inr ⟨kq_196, by omega⟩) ⟨_, _, rfl, rfl, hI158, hFm158, ⟨⟨by omega, by omega, v157p.1, (by omega), (by omega), ⟨(v157p.2.2.2.1.imp id (fun z => ⟨by omega, Or.inr ⟨rfl, PI.to7 (PQ.id z.2.2.2 (by decide)) (by omega)⟩⟩)), (KP.fr (KP.up (KP.fr (KP.refl (M := M)) fr2 (fun _ => rfl)) u94 (by decide)) fr158 (fun _ => rfl))⟩, (op_st (f := 0) rfl (by rw [od_q hK5 hfst.1 (by omega) (by omega), pOp_bg (bg := bg) (ph := ph) (bg' := 0) (ph' := ph)]) (by decide) hzp v157p.2.2.2.2 (RCo.fr (RCo.up (RCo.fr hRC fr2 rfl) u94 ⟨by decide, by decide, Or.inl (by decide)⟩) fr158 rfl))⟩, (KB.fr hkx105 fr158 rfl)⟩⟩
      refine s_if_eq (t := 110) kx_196_48 (by decide) (fun hc28 => ?_) (fun hc28 => ?_)
      · have hJ29 : Fr gS_196_j48 M2 M2 := Fr.refl
        exact cP.wk (lS1 rfl (lS1 rfl (lS1 rfl lS0))) (jn92 (by omega))
      · have hJ30 : Fr gS_196_j48 M2 M2 := Fr.refl
        have hfst : (pT k_ ∧ bg = 1) ∧ True := ⟨⟨by omega, by omega⟩, trivial⟩
        refine s_aload_n kx_196_51 rfl ?_
        refine s_ldc2_w kx_196_52 kp_196_329 ?_
        refine s_callV2 (k := 63) (s1 := 3) (s2 := 0) (as := [(1, 7237492)]) (rest := []) kx_196_55 kp_196_361 (Or.inl rfl) rfl (tk_63 hT) ki_182 kcl_182 rfl rfl (by decide) (f_182 (d := d + 2) (w := 7237492) hT hI2 hz.2 hK5 (w5 := 486146048) n58_not (Or.inr (by decide)) (by omega)) (kF (fun v31 v31p => ?_))
        refine s_if_eq (t := 110) kx_196_58 (by decide) (fun hc32 => ?_) (fun hc32 => ?_)
        · replace v31p := v31p.resolve_left (by omega)
          exact cP.wk (lS1 rfl (lS1 rfl (lS1 rfl lS0))) (jn92 (by omega))
        · replace v31p := v31p.resolve_right (by omega)
          have hb133 : M2 87 ((v14 - 1)).toNat = 1 := by omega
          refine s_aload_n kx_196_61 rfl ?_
          refine r_getI (k := 63) (f := 43) kx_196_62 kp_196_143 (tk_63 hT) kf_12_43 (fun _ => rfl) (rg_63_43 hI2) (fun v34 v34e v34a v34b => ?_)
          have v34z : M 63 43 = v34 := ((fr2 63 43 rfl)).symm.trans v34e
          refine s_bipush (v := 7) kx_196_65 (by decide) ?_
          refine s_icmp_ne (t := 79) kx_196_67 (by decide) (fun hc35 => ?_) (fun hc35 => ?_)
          · refine s_aload_n kx_196_79 rfl ?_
            refine r_getK (k := 63) (f := 9) kx_196_80 kp_196_39 (tk_63 hT) kf_12_9 (fun _ => rfl) v12e ?_
            refine s_if_le (t := 88) kx_196_83 (by decide) (fun hc36 => ?_) (fun hc36 => absurd hc36 (by omega))
            refine s_aload_n kx_196_88 rfl ?_
            refine s_dup kx_196_89 rfl ?_
            refine r_getK (k := 63) (f := 43) kx_196_90 kp_196_143 (tk_63 hT) kf_12_43 (fun _ => rfl) v34e ?_
            refine s_iconst (v := 1) kx_196_93 (by decide) ?_
            refine r_add kx_196_94 ⟨by omega, by omega⟩ ?_
            refine r_put (k := 63) (f := 43) kx_196_95 kp_196_143 (tk_63 hT) kf_12_43 rfl (by decide) (by decide) hI2 (ru_63_43 (by omega) (by omega)) (fun M37 hI37 u37 => ?_)
            have hFm37 := hFm2.up u37 rfl
            have hFj4837 := hJ30.up u37 rfl
            have tr38 := (u37.2 63 3 (by omega))
            have tr39 := (u37.2 63 4 (by omega))
            have tr40 := (u37.2 63 5 (by omega))
            have tr41 := (u37.2 63 9 (by omega))
            have tr42 := (u37.2 63 35 (by omega))
            have tr43 := (u37.2 63 42 (by omega))
            have tr44 := u37.1
            have tr45 := (u37.2 63 45 (by omega))
            have tr46 := (u37.2 63 10 (by omega))
            have tr47 := (u37.2 63 36 (by omega))
            have hkx48 := (KB.up0 (KB.fr hKX fr2 rfl) u37 (by decide))
            have hP49 := (PI.opn (e' := 1) (PI.fr hP fr2 rfl) u37 (by omega))
            have hqj50 := (QJ.opn (e' := 1) (QJ.fr hQ fr2 rfl) u37 (by omega))
            refine s_aload_n kx_196_98 rfl ?_
            refine s_bipush (v := 22) kx_196_99 (by decide) ?_
            refine s_callV2 (k := 63) (s1 := 2) (s2 := 0) (as := [(0, 22)]) (rest := []) kx_196_101 kp_196_364 (Or.inl rfl) rfl (tk_63 hT) ki_192 kcl_192 rfl rfl (by decide) (m_192 (d := d + 2) (op := 22) hT hI37 (by omega) (by omega)) (kV (fun M52 hI52 fr52 v51p => ?_))
            have hFm52 := hFm37.call fr52 rfl
            have hFj4852 := hFj4837.call fr52 rfl
            have tr53 := (fr52 63 3 rfl)
            have tr54 := (fr52 63 4 rfl)
            have tr55 := (fr52 63 5 rfl)
            have tr56 := (fr52 63 9 rfl)
            have tr57 := (fr52 63 35 rfl)
            have tr58 := (fr52 63 42 rfl)
            have tr59 := (fr52 63 43 rfl)
            have tr60 := (fr52 63 10 rfl)
            have tr61 := (fr52 63 36 rfl)
            have tr62 := rg_63_9 hI52
            have hP64 := PI.holdN hP49 (f := (v14 - 1)) (by omega) ((u37.2 87 _ (by omega)).trans hb133) fr52 v51p.1 v51p.2.1 v51p.2.2
            have hqj63 := QJ.hold (e' := 0) hqj50 fr52 v51p.1 v51p.2.1 v51p.2.2 (by rw [if_pos rfl]; omega)
            refine s_aload_n kx_196_104 rfl ?_
            refine s_callV2 (k := 63) (s1 := 1) (s2 := 0) (as := []) (rest := []) kx_196_105 kp_196_286 (Or.inl rfl) rfl (tk_63 hT) ki_180 kcl_180 rfl rfl (by decide) (f_180 (d := d + 1) hT hI52 (LyA.fr (LyA.up hz.2 u37 (by decide)) fr52 rfl).1 (LyA.fr (LyA.up hz.2 u37 (by decide)) fr52 rfl).2.1 (LyA.fr (LyA.up hz.2 u37 (by decide)) fr52 rfl).2.2.2.2.2.1 (owE_i2 ⟨(LyA.fr (LyA.up hz.2 u37 (by decide)) fr52 rfl).2.2.1, (LyA.fr (LyA.up hz.2 u37 (by decide)) fr52 rfl).2.2.2.1⟩).1 (owE_i2 ⟨(LyA.fr (LyA.up hz.2 u37 (by decide)) fr52 rfl).2.2.1, (LyA.fr (LyA.up hz.2 u37 (by decide)) fr52 rfl).2.2.2.1⟩).2 (LyA.fr (LyA.up hz.2 u37 (by decide)) fr52 rfl).2.2.2.2.2.2.2.2.2.2.2.2) (kV (fun M66 hI66 fr66 v65p => ?_))
            have hFm66 := hFm52.call fr66 rfl
            have hFj4866 := hFj4852.call fr66 rfl
            have tr67 := (fr66 63 9 rfl)
            have tr68 := (fr66 63 35 rfl)
            have tr69 := (fr66 63 42 rfl)
            have tr70 := (fr66 63 43 rfl)
            have tr71 := (fr66 63 45 rfl)
            have tr72 := (fr66 63 10 rfl)
            have tr73 := (fr66 63 36 rfl)
            have tr74 := rg_63_9 hI66
            refine s_iconst (v := 0) kx_196_108 (by decide) ?_
            have hk75 : M66 63 9 = v12 := ((fr66 63 9 rfl).trans ((fr52 63 9 rfl).trans ((u37.2 63 9 (by omega)).trans v12e)))
            exact s_iret kx_196_109 (Or.inr ⟨kq_196, by omega⟩) ⟨_, _, rfl, rfl, hI66, hFm66, ⟨⟨by omega, by omega, (show LXp M66 from v65p.2.2), (by omega), (by omega), ⟨(Or.inr ⟨by omega, Or.inr ⟨rfl, PI.to7 (PI.fr hP64 fr66 rfl) (by omega)⟩⟩), (KP.fr (KP.fr (KP.up (KP.fr (KP.refl (M := M)) fr2 (fun _ => rfl)) u37 (by decide)) fr52 (fun _ => rfl)) fr66 (fun _ => rfl))⟩, (StT.l (od_n hK5 hfst.1 (by omega) (by omega)) rfl (QJ.fr hqj63 fr66 rfl) (by omega) v65p.1 (RCo.fr (RCo.fr (RCo.up (RCo.fr hRC fr2 rfl) u37 (by decide)) fr52 rfl) fr66 rfl))⟩, (KB.fr (KB.fr hkx48 fr52 rfl) fr66 rfl)⟩⟩
          · refine s_aload_n kx_196_70 rfl ?_
            refine s_iconst (v := 5) kx_196_71 (by decide) ?_
            refine s_aload_n kx_196_72 rfl ?_
            refine r_getI (k := 63) (f := 4) kx_196_73 kp_196_23 (tk_63 hT) kf_12_4 (fun _ => rfl) (rg_63_4 hI2) (fun v76 v76e v76a v76b => ?_)
            have v76z : M 63 4 = v76 := ((fr2 63 4 rfl)).symm.trans v76e
            refine s_callV2 (k := 63) (s1 := 3) (s2 := 0) (as := [(0, v76), (0, 5)]) (rest := []) kx_196_76 kp_196_263 (Or.inl rfl) rfl (tk_63 hT) ki_176 kcl_176 rfl rfl (by decide) (f_176 (d := d + 2) (kind := 5) (place := v76) hT hI2 (by omega)) (kV (fun M78 hI78 fr78 v77p => ?_))
            have hFm78 := hFm2.call fr78 rfl
            have hFj4878 := hJ30.call fr78 rfl
            have tr79 := (fr78 63 3 rfl)
            have tr80 := (fr78 63 4 rfl)
            have tr81 := (fr78 63 5 rfl)
            have tr82 := (fr78 63 35 rfl)
            have tr83 := (fr78 63 42 rfl)
            have tr84 := (fr78 63 43 rfl)
            have tr85 := (fr78 63 45 rfl)
            have tr86 := (fr78 63 36 rfl)
            have tr87 := rg_63_9 hI78
            refine s_aload_n kx_196_79 rfl ?_
            refine r_getI (k := 63) (f := 9) kx_196_80 kp_196_39 (tk_63 hT) kf_12_9 (fun _ => rfl) (rg_63_9 hI78) (fun v88 v88e v88a v88b => ?_)
            refine s_if_le (t := 88) kx_196_83 (by decide) (fun hc89 => ?_) (fun hc89 => ?_)
            · exact absurd h639 (by omega)
            · refine s_iconst (v := 1) kx_196_86 (by decide) ?_
              have hk90 : M78 63 4 = v76 := ((fr78 63 4 rfl).trans v76e)
              have hk91 : M78 63 9 = v88 := v88e
              exact s_iret kx_196_87 (Or.inr ⟨kq_196, by omega⟩) ⟨_, _, rfl, rfl, hI78, hFm78, ⟨⟨by omega, by omega, (LXp.fr (LXp.fr hX fr2 rfl) fr78 rfl), (by omega), (by omega), ⟨(Or.inl (by omega)), (KP.fr (KP.fr (KP.refl (M := M)) fr2 (fun _ => rfl)) fr78 (fun _ => rfl))⟩, (StT.r (od_n7 hK5 hfst.1 (by omega) (by omega)) (owFl2 (k := 5) (x := owB s n p) (by omega) (by omega) (by decide) (by omega) (by omega)))⟩, (KB.fr (KB.fr hKX fr2 rfl) fr78 rfl)⟩⟩
    refine s_if_eq (t := 45) kx_196_29 (by decide) (fun hc17 => ?_) (fun hc17 => ?_)
    · have hJ18 : Fr gS_196_j29 M2 M2 := Fr.refl
      replace v16p := v16p.resolve_left (by omega)
      refine s_iconst (v := 0) kx_196_45 (by decide) ?_
      exact cP.wk (lS1 rfl (lS1 rfl lS0)) (jn23 0 (by omega) (by omega) (by omega) (by omega))
    · have hJ19 : Fr gS_196_j29 M2 M2 := Fr.refl
      replace v16p := v16p.resolve_right (by omega)
      refine s_aload_n kx_196_32 rfl ?_
      refine r_getR (k := 63) (f := 39) (k2 := 87) kx_196_33 kp_196_130 (tk_63 hT) kf_12_39 (by decide) (rq_63_39 hI2) ?_
      refine s_iload_n kx_196_36 rfl ?_
      refine r_bald (k := 87) kx_196_37 (tk_87 hT) ⟨by omega, by omega⟩ (rg_87 hI2) (fun v20 v20e v20a v20b => ?_)
      refine s_if_eq (t := 45) kx_196_38 (by decide) (fun hc21 => ?_) (fun hc21 => ?_)
      · refine s_iconst (v := 0) kx_196_45 (by decide) ?_
        exact cP.wk (lS1 rfl (lS1 rfl lS0)) (jn23 0 (by omega) (by omega) (by omega) (by omega))
      · refine s_iconst (v := 1) kx_196_41 (by decide) ?_
        refine s_goto (t := 46) kx_196_42 (by decide) ?_
        exact cP.wk (lS1 rfl (lS1 rfl lS0)) (jn23 1 (by omega) (by omega) (by omega) (by omega))
  · have hp9 := Yst.pos v1p.1 (by omega)
    have hk5 : owK s n p = 5 := Decidable.byContradiction fun g => hp9.1 (by unfold yLx; rw [if_neg (by decide), if_neg g])
    refine s_iconst (v := 1) kx_196_11 (by decide) ?_
    have hk367 : M2 63 9 = v12 := v12e
    exact s_iret kx_196_12 (Or.inr ⟨kq_196, by omega⟩) ⟨_, _, rfl, rfl, hI2, hFm2, ⟨⟨by omega, by omega, (LXp.fr hX fr2 rfl), (by omega), (by omega), ⟨(Or.inl (by omega)), (KP.fr (KP.refl (M := M)) fr2 (fun _ => rfl))⟩, (StT.r (pOd_5 hk5) (by have hp := Yst.pos v1p.1 (by omega); rw [show owU s n p = yLx s n 0 p by unfold yLx; rw [if_neg (by decide), if_pos hk5, owU5 hk5]]; exact hp))⟩, (KB.fr hKX fr2 rfl)⟩⟩
