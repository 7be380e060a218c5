def gS_196_j118 : List (Nat × Nat) := [(63, 10), (63, 13), (63, 3), (63, 35), (63, 4), (63, 42), (63, 43), (63, 5), (63, 6), (63, 7), (63, 8), (63, 9), (81, 99999), (82, 99999), (85, 99999), (86, 99999), (87, 99999), (89, 99999)]
def gS_196_j194 : List (Nat × Nat) := [(63, 10), (63, 13), (63, 3), (63, 35), (63, 4), (63, 5), (63, 6), (63, 7), (63, 8), (63, 9), (81, 99999), (82, 99999)]
def gS_196_j48 : List (Nat × Nat) := [(63, 10), (63, 13), (63, 3), (63, 4), (63, 43), (63, 45), (63, 5), (63, 6), (63, 7), (63, 8), (63, 9), (90, 99999)]
def gS_196_m : List (Nat × Nat) := [(63, 10), (63, 13), (63, 3), (63, 35), (63, 4), (63, 42), (63, 43), (63, 45), (63, 5), (63, 6), (63, 7), (63, 8), (63, 9), (81, 99999), (82, 99999), (85, 99999), (86, 99999), (87, 99999), (88, 99999), (89, 99999), (90, 99999)]
def gS_196_j29 : List (Nat × Nat) := []
def gS_196_j318 : List (Nat × Nat) := []
def gS_196_j224 : List (Nat × Nat) := []
set_option maxHeartbeats 8000000 in
theorem f_196 {xs : Nat → Int} {Ln d : Nat} {T : List cK} {M : cM} (hT : TT T) (hI : Rng M) (hX : LXp M) {s : Nat → Int} {n p : Int} (hn : n ≤ 1600) (hL : LyA M s n p) (h9 : M 63 9 = 0) {k_ ph bg pr : Int} {os_ : List Int} {fs_ : List pF} (hQ : QJ M ((k_, ph, bg, pr, os_) :: fs_) 0) {cs : List Int} {c : Nat → Int} {a q : Int} (hP : PI M c a 0 7 q 0) (p0 : q ≤ M 63 4) : cC k_P xs Ln (d + 3) 196 [rf 63] (T, M) (qW T M gS_196_m 0 (fun v M1 => 0 ≤ v ∧ v ≤ 1 ∧ (LXp M1 ∧ M 63 4 ≤ M1 63 4 ∧ M 63 9 ≤ M1 63 9 ∧ (OPd M M1 c a v ∧ KP M M1) ∧ (StT M1 s n (pSt s n (0, (k_, ph, bg, pr, os_) :: fs_, cs, p)) v)))) := by
  show cP k_P xs Ln (d + 3) 196 0 [(0, rf 63)] [] (T, M) _
  have hFm : Fr gS_196_m M M := Fr.refl
  have h639 := rg_63_9 hI
  have ⟨lx1, lx2⟩ := hX
  have hd := PI.deep hP
  have hs := PI.small hP (rg_63_43 hI).2 (by decide)
  have hs1 := hs.1
  have hs2 := hs.2.1
  have h4 := rg_63_4 hI
  have h43 := rg_63_43 hI
  have h5 := rg_63_5 hI
  have h45 := rg_63_45 hI
  refine s_aload_n kx_196_0 rfl ?_
  refine s_callV2 (k := 63) (s1 := 1) (s2 := 0) (as := []) (rest := []) kx_196_1 kp_196_280 (Or.inl rfl) rfl (tk_63 hT) ki_179 kcl_179 rfl rfl (by decide) (f_179 (d := d + 1) hT hI (show Yst M s n 0 p from Or.inr ⟨rfl, h9, hL⟩) hn) (kV (fun M2 hI2 fr2 v1p => ?_))
  have hFm2 := hFm.call fr2 rfl
  have tr3 := (fr2 63 3 rfl)
  have tr4 := (fr2 63 4 rfl)
  have tr5 := (fr2 63 5 rfl)
  have tr6 := (fr2 63 35 rfl)
  have tr7 := (fr2 63 42 rfl)
  have tr8 := (fr2 63 43 rfl)
  have tr9 := (fr2 63 45 rfl)
  have tr10 := rg_63_9 hI2
  refine s_aload_n kx_196_4 rfl ?_
  refine r_getI (k := 63) (f := 9) kx_196_5 kp_196_39 (tk_63 hT) kf_12_9 (fun _ => rfl) (rg_63_9 hI2) (fun v11 v11e v11a v11b => ?_)
  refine s_if_le (t := 13) kx_196_8 (by decide) (fun hc12 => ?_) (fun hc12 => ?_)
  · have hz := Yst.zero v1p.1 (by omega)
    have hzk := yLx_0 hz.1 hz.2.2.2.1
    have hK5 := hzk.2
    have hzb := hz.2.b hn
    have hzp := hz.2.2.2.1
    have hzn := hz.2.2.2.2.1
    have hys0 : Yst M2 s n 0 p := Or.inr ⟨rfl, by omega, hz.2⟩
    refine s_aload_n kx_196_13 rfl ?_
    refine r_getI (k := 63) (f := 42) kx_196_14 kp_196_140 (tk_63 hT) kf_12_42 (fun _ => rfl) (rg_63_42 hI2) (fun v13 v13e v13a v13b => ?_)
    have v13z : M 63 42 = v13 := ((fr2 63 42 rfl)).symm.trans v13e
    refine s_iconst (v := 1) kx_196_17 (by decide) ?_
    refine r_sub kx_196_18 ⟨by omega, by omega⟩ ?_
    have htop := (QJ.fr hQ fr2 rfl).top1
    rw [v13e] at htop
    have ht1 := htop.1
    have ht2 := htop.2.1
    have ht3 := htop.2.2.1
    have ht4 := htop.2.2.2.1
    have ht6 := htop.2.2.2.2.2
    have htl : 0 ≤ ((fs_.length : Nat) : Int) := Int.natCast_nonneg _
    refine s_istore_n kx_196_19 km_196_1 rfl ?_
    refine s_aload_n kx_196_20 rfl ?_
    refine r_getR (k := 63) (f := 37) (k2 := 85) kx_196_21 kp_196_124 (tk_63 hT) kf_12_37 (by decide) (rq_63_37 hI2) ?_
    refine s_iload_n kx_196_24 rfl ?_
    refine r_ald (k := 85) kx_196_25 (tk_85 hT) ⟨by omega, by omega⟩ (rg_85 hI2) (fun v14 v14e v14a v14b => ?_)
    refine s_callS2 (s1 := 1) (s2 := 0) (as := [(0, v14)]) (rest := []) kx_196_26 kp_196_358 rfl kcl_195 rfl rfl (by decide) (f_195 (d := d + 2) (kind := v14) hT hI2) (kF (fun v15 v15p => ?_))
    have jn22 : ∀ (y21 : Int), (0 ≤ y21) → (y21 ≤ 1) → ((y21 = 0 ∨ M2 87 ((v13 - 1)).toNat = 1)) → ((y21 = 1 ∧ (k_ = 1 ∨ k_ = 5 ∨ k_ = 6) ∧ bg = 1) ∨ (y21 = 0 ∧ (bg ≠ 1 ∨ (k_ ≠ 1 ∧ k_ ≠ 5 ∧ k_ ≠ 6)))) → cP k_P xs Ln (d + 3) 196 46 [(0, rf 63), (1, (0, (v13 - 1)))] [(0, y21)] (T, M2) (qW T M gS_196_m 0 (fun v M1 => 0 ≤ v ∧ v ≤ 1 ∧ (LXp M1 ∧ M 63 4 ≤ M1 63 4 ∧ M 63 9 ≤ M1 63 9 ∧ (OPd M M1 c a v ∧ KP M M1) ∧ (StT M1 s n (pSt s n (0, (k_, ph, bg, pr, os_) :: fs_, cs, p)) v)))) := by
      clear v15p
      intro y21 a23 a24 a25 a26
      refine s_istore_n kx_196_46 km_196_2 rfl ?_
      refine s_iload_n kx_196_47 rfl ?_
      have jn86 : (y21 = 0 ∨ owW s n p 486146048 = 0) → cP k_P xs Ln (d + 3) 196 110 [(0, rf 63), (1, (0, (v13 - 1))), (2, (0, y21))] [] (T, M2) (qW T M gS_196_m 0 (fun v M1 => 0 ≤ v ∧ v ≤ 1 ∧ (LXp M1 ∧ M 63 4 ≤ M1 63 4 ∧ M 63 9 ≤ M1 63 9 ∧ (OPd M M1 c a v ∧ KP M M1) ∧ (StT M1 s n (pSt s n (0, (k_, ph, bg, pr, os_) :: fs_, cs, p)) v)))) := by
        intro a87
        refine s_aload_n kx_196_110 rfl ?_
        refine r_getR (k := 63) (f := 39) (k2 := 87) kx_196_111 kp_196_130 (tk_63 hT) kf_12_39 (by decide) (rq_63_39 hI2) ?_
        refine s_iload_n kx_196_114 rfl ?_
        refine s_iconst (v := 0) kx_196_115 (by decide) ?_
        refine r_bast (k := 87) kx_196_116 (tk_87 hT) ⟨by omega, by omega⟩ (by omega) hI2 (ru_87 (by omega) (by omega)) (fun M88 hI88 u88 => ?_)
        have hFm88 := hFm2.up u88 rfl
        have tr89 := (u88.2 63 3 (by omega))
        have tr90 := (u88.2 63 4 (by omega))
        have tr91 := (u88.2 63 5 (by omega))
        have tr92 := (u88.2 63 9 (by omega))
        have tr93 := (u88.2 63 35 (by omega))
        have tr94 := (u88.2 63 42 (by omega))
        have tr95 := (u88.2 63 43 (by omega))
        have tr96 := (u88.2 63 45 (by omega))
        have tr97 := (u88.2 63 10 (by omega))
        have hqj98 := QJ.bg0 (QJ.fr hQ fr2 rfl) (by omega) u88
        have hB99 : B0 M88 := B0.mk (by omega) u88
        have hP100 := (PI.begins0 (PI.fr hP fr2 rfl) (by omega) u88)
        refine s_iload_n kx_196_117 rfl ?_
        have jn149 : (nFst s n p k_ bg) → cP k_P xs Ln (d + 3) 196 171 [(0, rf 63)] [] (T, M88) (qW T M gS_196_m 0 (fun v M1 => 0 ≤ v ∧ v ≤ 1 ∧ (LXp M1 ∧ M 63 4 ≤ M1 63 4 ∧ M 63 9 ≤ M1 63 9 ∧ (OPd M M1 c a v ∧ KP M M1) ∧ (StT M1 s n (pSt s n (0, (k_, ph, bg, pr, os_) :: fs_, cs, p)) v)))) := by
          clear a87 a23 a24 a25 a26
          intro a150
          have hnf := a150
          refine s_aload_n kx_196_171 rfl ?_
          refine s_bipush (v := 40) kx_196_172 (by decide) ?_
          refine s_callV2 (k := 63) (s1 := 2) (s2 := 0) (as := [(0, 40)]) (rest := []) kx_196_174 kp_196_283 (Or.inl rfl) rfl (tk_63 hT) ki_181 kcl_181 rfl rfl (by decide) (m_181 (d := d + 2) (c := 40) hT hI88) (kF (fun v151 v151p => ?_))
          have hiss152 := (LyA.up hz.2 u88 ⟨by decide, Or.inl (by decide)⟩).iss (c := 40)
          refine s_if_eq (t := 187) kx_196_177 (by decide) (fun hc153 => ?_) (fun hc153 => ?_)
          · replace v151p := v151p.resolve_left (by omega)
            have hg40 : owG s n p 40 = 0 := by omega
            clear v151p hiss152
            refine s_aload_n kx_196_187 rfl ?_
            refine s_ldc2_w kx_196_188 kp_196_333 ?_
            refine s_callV2 (k := 63) (s1 := 3) (s2 := 0) (as := [(1, 7170414)]) (rest := []) kx_196_191 kp_196_361 (Or.inl rfl) rfl (tk_63 hT) ki_182 kcl_182 rfl rfl (by decide) (f_182 (d := d + 2) (w := 7170414) hT hI88 (LyA.up hz.2 u88 ⟨by decide, Or.inl (by decide)⟩) hK5 (w5 := 446103552) n58_min (Or.inr (by decide)) (by omega)) (kF (fun v154 v154p => ?_))
            have jn226 : (owW s n p 446103552 = 1 ∨ owW s n p 438042624 = 1 ∨ owW s n p 308281344 = 1) → cP k_P xs Ln (d + 3) 196 217 [(0, rf 63)] [] (T, M88) (qW T M gS_196_m 0 (fun v M1 => 0 ≤ v ∧ v ≤ 1 ∧ (LXp M1 ∧ M 63 4 ≤ M1 63 4 ∧ M 63 9 ≤ M1 63 9 ∧ (OPd M M1 c a v ∧ KP M M1) ∧ (StT M1 s n (pSt s n (0, (k_, ph, bg, pr, os_) :: fs_, cs, p)) v)))) := by
              clear v154p
              intro a227
              refine s_aload_n kx_196_217 rfl ?_
              refine s_ldc2_w kx_196_218 kp_196_333 ?_
              refine s_callV2 (k := 63) (s1 := 3) (s2 := 0) (as := [(1, 7170414)]) (rest := []) kx_196_221 kp_196_361 (Or.inl rfl) rfl (tk_63 hT) ki_182 kcl_182 rfl rfl (by decide) (f_182 (d := d + 2) (w := 7170414) hT hI88 (LyA.up hz.2 u88 ⟨by decide, Or.inl (by decide)⟩) hK5 (w5 := 446103552) n58_min (Or.inr (by decide)) (by omega)) (kF (fun v228 v228p => ?_))
              have jn235 : ∀ (y234 : Int), (15 ≤ y234) → (y234 ≤ 23) → ((y234 = 15 ∨ y234 = 16 ∨ y234 = 23)) → (y234 = owMx s n p) → cP k_P xs Ln (d + 3) 196 249 [(0, rf 63)] [(0, y234)] (T, M88) (qW T M gS_196_m 0 (fun v M1 => 0 ≤ v ∧ v ≤ 1 ∧ (LXp M1 ∧ M 63 4 ≤ M1 63 4 ∧ M 63 9 ≤ M1 63 9 ∧ (OPd M M1 c a v ∧ KP M M1) ∧ (StT M1 s n (pSt s n (0, (k_, ph, bg, pr, os_) :: fs_, cs, p)) v)))) := by
                clear v228p a227 a150
                intro y234 a236 a237 a238 a239
                refine s_istore_n kx_196_249 km_196_3 rfl ?_
                refine s_aload_n kx_196_250 rfl ?_
                refine s_callV2 (k := 63) (s1 := 1) (s2 := 0) (as := []) (rest := []) kx_196_251 kp_196_286 (Or.inl rfl) rfl (tk_63 hT) ki_180 kcl_180 rfl rfl (by decide) (f_180 (d := d + 1) hT hI88 (LyA.up hz.2 u88 ⟨by decide, Or.inl (by decide)⟩).1 (LyA.up hz.2 u88 ⟨by decide, Or.inl (by decide)⟩).2.1 (LyA.up hz.2 u88 ⟨by decide, Or.inl (by decide)⟩).2.2.2.2.2.1 (owE_i2 ⟨(LyA.up hz.2 u88 ⟨by decide, Or.inl (by decide)⟩).2.2.1, (LyA.up hz.2 u88 ⟨by decide, Or.inl (by decide)⟩).2.2.2.1⟩).1 (owE_i2 ⟨(LyA.up hz.2 u88 ⟨by decide, Or.inl (by decide)⟩).2.2.1, (LyA.up hz.2 u88 ⟨by decide, Or.inl (by decide)⟩).2.2.2.1⟩).2 (LyA.up hz.2 u88 ⟨by decide, Or.inl (by decide)⟩).2.2.2.2.2.2.2.2.2.2.2.2) (kV (fun M241 hI241 fr241 v240p => ?_))
                have hFm241 := hFm88.call fr241 rfl
                have tr242 := (fr241 63 9 rfl)
                have tr243 := (fr241 63 35 rfl)
                have tr244 := (fr241 63 42 rfl)
                have tr245 := (fr241 63 43 rfl)
                have tr246 := (fr241 63 45 rfl)
                have tr247 := (fr241 63 10 rfl)
                have tr248 := rg_63_9 hI241
                have hp1 := (v240p.1).2.2.1
                refine s_aload_n kx_196_254 rfl ?_
                refine s_callV2 (k := 63) (s1 := 1) (s2 := 0) (as := []) (rest := []) kx_196_255 kp_196_280 (Or.inl rfl) rfl (tk_63 hT) ki_179 kcl_179 rfl rfl (by decide) (f_179 (d := d + 1) hT hI241 (show Yst M241 s n 0 (owE s n p) from Or.inr ⟨rfl, by omega, v240p.1⟩) hn) (kV (fun M250 hI250 fr250 v249p => ?_))
                have hFm250 := hFm241.call fr250 rfl
                have tr251 := (fr250 63 3 rfl)
                have tr252 := (fr250 63 4 rfl)
                have tr253 := (fr250 63 5 rfl)
                have tr254 := (fr250 63 35 rfl)
                have tr255 := (fr250 63 42 rfl)
                have tr256 := (fr250 63 43 rfl)
                have tr257 := (fr250 63 45 rfl)
                have tr258 := rg_63_9 hI250
                refine s_aload_n kx_196_258 rfl ?_
                refine s_bipush (v := 40) kx_196_259 (by decide) ?_
                refine s_callV2 (k := 63) (s1 := 2) (s2 := 0) (as := [(0, 40)]) (rest := []) kx_196_261 kp_196_283 (Or.inl rfl) rfl (tk_63 hT) ki_181 kcl_181 rfl rfl (by decide) (m_181 (d := d + 2) (c := 40) hT hI250) (kF (fun v259 v259p => ?_))
                refine s_if_ne (t := 276) kx_196_264 (by decide) (fun hc260 => ?_) (fun hc260 => ?_)
                · replace v259p := v259p.resolve_right (by omega)
                  refine s_aload_n kx_196_276 rfl ?_
                  have hym261 := mg_s1 v249p.1 v259p.2.2
                  refine s_iload_n kx_196_277 rfl ?_
                  refine s_bipush (v := 23) kx_196_278 (by decide) ?_
                  refine s_icmp_ne (t := 288) kx_196_280 (by decide) (fun hc262 => ?_) (fun hc262 => ?_)
                  · refine s_iconst (v := 3) kx_196_288 (by decide) ?_
                    refine s_callV2 (k := 63) (s1 := 2) (s2 := 0) (as := [(0, 3)]) (rest := []) kx_196_289 kp_196_367 (Or.inl rfl) rfl (tk_63 hT) ki_194 kcl_194 rfl rfl (by decide) (f_194 (d := d) (kind := 3) hT hI250 (LXp.fr (show LXp M241 from v240p.2.2) fr250 rfl) hym261 hn (QJ.fr (QJ.fr hqj98 fr241 rfl) fr250 rfl) (PI.fr (PI.fr hP100 fr241 rfl) fr250 rfl) (B0.fr (B0.fr hB99 fr241 rfl (fun _ => rfl)) fr250 rfl (fun _ => rfl)) (by omega)) (kV (fun M264 hI264 fr264 v263p => ?_))
                    have hFm264 := hFm250.call fr264 rfl
                    have tr265 := (fr264 63 35 rfl)
                    have tr266 := (fr264 63 45 rfl)
                    have tr267 := rg_63_9 hI264
                    refine s_aload_n kx_196_292 rfl ?_
                    refine r_getI (k := 63) (f := 9) kx_196_293 kp_196_39 (tk_63 hT) kf_12_9 (fun _ => rfl) (rg_63_9 hI264) (fun v268 v268e v268a v268b => ?_)
                    refine s_if_ne (t := 311) kx_196_296 (by decide) (fun hc269 => ?_) (fun hc269 => ?_)
                    · refine s_iconst (v := 0) kx_196_311 (by decide) ?_
                      have hk270 : M264 63 9 = v268 := v268e
                      exact s_iret kx_196_312 (Or.inr ⟨kq_196, by omega⟩) ⟨_, _, rfl, rfl, hI264, hFm264, ⟨by omega, by omega, v263p.1, (by omega), (by omega), ⟨(Or.inl (by omega)), (KP.fr (KP.fr (KP.fr (KP.up (KP.fr (KP.refl (M := M)) fr2 (fun _ => rfl)) u88 (by decide)) fr241 (fun _ => rfl)) fr250 (fun _ => rfl)) fr264 (fun _ => rfl))⟩, (mx_f hK5 hnf (by omega) (by omega) hp1 (v263p.2.2.2.2.resolve_right (fun z => by have := z.2.2.1; omega)))⟩⟩
                    · refine s_aload_n kx_196_299 rfl ?_
                      refine r_getR (k := 63) (f := 40) (k2 := 88) kx_196_300 kp_196_134 (tk_63 hT) kf_12_40 (by decide) (rq_63_40 hI264) ?_
                      refine s_aload_n kx_196_303 rfl ?_
                      refine r_getI (k := 63) (f := 42) kx_196_304 kp_196_140 (tk_63 hT) kf_12_42 (fun _ => rfl) (rg_63_42 hI264) (fun v271 v271e v271a v271b => ?_)
                      refine s_iconst (v := 1) kx_196_307 (by decide) ?_
                      refine r_sub kx_196_308 ⟨by omega, by omega⟩ ?_
                      refine s_iload_n kx_196_309 rfl ?_
                      refine r_ast (k := 88) kx_196_310 (tk_88 hT) ⟨by omega, by omega⟩ hI264 (ru_88 (by omega) (by omega)) (fun M272 hI272 u272 => ?_)
                      have hFm272 := hFm264.up u272 rfl
                      have tr273 := (u272.2 63 3 (by omega))
                      have tr274 := (u272.2 63 4 (by omega))
                      have tr275 := (u272.2 63 5 (by omega))
                      have tr276 := (u272.2 63 9 (by omega))
                      have tr277 := (u272.2 63 35 (by omega))
                      have tr278 := (u272.2 63 42 (by omega))
                      have tr279 := (u272.2 63 43 (by omega))
                      have tr280 := (u272.2 63 45 (by omega))
                      have tr281 := (u272.2 63 10 (by omega))
                      have hpp := (v263p.2.2.2.1.resolve_left (by omega)).2.2.2 _ _ (by rw [v271e]; exact u272) (by omega)
                      refine s_iconst (v := 0) kx_196_311 (by decide) ?_
                      have hk282 : M272 63 9 = v268 := ((u272.2 63 9 (by omega)).trans v268e)
                      exact s_iret kx_196_312 (Or.inr ⟨kq_196, by omega⟩) ⟨_, _, rfl, rfl, hI272, hFm272, ⟨by omega, by omega, (LXp.up v263p.1 u272 (Or.inl (by decide))), (by omega), (by omega), ⟨(Or.inr ⟨by omega, Or.inr ⟨rfl, PI.to7 hpp (by omega)⟩⟩), (KP.up (KP.fr (KP.fr (KP.fr (KP.up (KP.fr (KP.refl (M := M)) fr2 (fun _ => rfl)) u88 (by decide)) fr241 (fun _ => rfl)) fr250 (fun _ => rfl)) fr264 (fun _ => rfl)) u272 (by decide))⟩, (mx_k hp1 hK5 hnf (by omega) (by omega) (v263p.2.2.2.2.resolve_left (fun z => by have := z.2.1; omega)) (by rw [v271e]; exact u272) (by omega) (by omega) rfl)⟩⟩
                  · refine s_bipush (v := 6) kx_196_283 (by decide) ?_
                    refine s_goto (t := 289) kx_196_285 (by decide) ?_
                    refine s_callV2 (k := 63) (s1 := 2) (s2 := 0) (as := [(0, 6)]) (rest := []) kx_196_289 kp_196_367 (Or.inl rfl) rfl (tk_63 hT) ki_194 kcl_194 rfl rfl (by decide) (f_194 (d := d) (kind := 6) hT hI250 (LXp.fr (show LXp M241 from v240p.2.2) fr250 rfl) hym261 hn (QJ.fr (QJ.fr hqj98 fr241 rfl) fr250 rfl) (PI.fr (PI.fr hP100 fr241 rfl) fr250 rfl) (B0.fr (B0.fr hB99 fr241 rfl (fun _ => rfl)) fr250 rfl (fun _ => rfl)) (by omega)) (kV (fun M284 hI284 fr284 v283p => ?_))
                    have hFm284 := hFm250.call fr284 rfl
                    have tr285 := (fr284 63 35 rfl)
                    have tr286 := (fr284 63 45 rfl)
                    have tr287 := rg_63_9 hI284
                    refine s_aload_n kx_196_292 rfl ?_
                    refine r_getI (k := 63) (f := 9) kx_196_293 kp_196_39 (tk_63 hT) kf_12_9 (fun _ => rfl) (rg_63_9 hI284) (fun v288 v288e v288a v288b => ?_)
                    refine s_if_ne (t := 311) kx_196_296 (by decide) (fun hc289 => ?_) (fun hc289 => ?_)
                    · refine s_iconst (v := 0) kx_196_311 (by decide) ?_
                      have hk290 : M284 63 9 = v288 := v288e
                      exact s_iret kx_196_312 (Or.inr ⟨kq_196, by omega⟩) ⟨_, _, rfl, rfl, hI284, hFm284, ⟨by omega, by omega, v283p.1, (by omega), (by omega), ⟨(Or.inl (by omega)), (KP.fr (KP.fr (KP.fr (KP.up (KP.fr (KP.refl (M := M)) fr2 (fun _ => rfl)) u88 (by decide)) fr241 (fun _ => rfl)) fr250 (fun _ => rfl)) fr284 (fun _ => rfl))⟩, (mx_f hK5 hnf (by omega) (by omega) hp1 (v283p.2.2.2.2.resolve_right (fun z => by have := z.2.2.1; omega)))⟩⟩
                    · refine s_aload_n kx_196_299 rfl ?_
                      refine r_getR (k := 63) (f := 40) (k2 := 88) kx_196_300 kp_196_134 (tk_63 hT) kf_12_40 (by decide) (rq_63_40 hI284) ?_
                      refine s_aload_n kx_196_303 rfl ?_
                      refine r_getI (k := 63) (f := 42) kx_196_304 kp_196_140 (tk_63 hT) kf_12_42 (fun _ => rfl) (rg_63_42 hI284) (fun v291 v291e v291a v291b => ?_)
                      refine s_iconst (v := 1) kx_196_307 (by decide) ?_
                      refine r_sub kx_196_308 ⟨by omega, by omega⟩ ?_
                      refine s_iload_n kx_196_309 rfl ?_
                      refine r_ast (k := 88) kx_196_310 (tk_88 hT) ⟨by omega, by omega⟩ hI284 (ru_88 (by omega) (by omega)) (fun M292 hI292 u292 => ?_)
                      have hFm292 := hFm284.up u292 rfl
                      have tr293 := (u292.2 63 3 (by omega))
                      have tr294 := (u292.2 63 4 (by omega))
                      have tr295 := (u292.2 63 5 (by omega))
                      have tr296 := (u292.2 63 9 (by omega))
                      have tr297 := (u292.2 63 35 (by omega))
                      have tr298 := (u292.2 63 42 (by omega))
                      have tr299 := (u292.2 63 43 (by omega))
                      have tr300 := (u292.2 63 45 (by omega))
                      have tr301 := (u292.2 63 10 (by omega))
                      have hpp := (v283p.2.2.2.1.resolve_left (by omega)).2.2.2 _ _ (by rw [v291e]; exact u292) (by omega)
                      refine s_iconst (v := 0) kx_196_311 (by decide) ?_
                      have hk302 : M292 63 9 = v288 := ((u292.2 63 9 (by omega)).trans v288e)
                      exact s_iret kx_196_312 (Or.inr ⟨kq_196, by omega⟩) ⟨_, _, rfl, rfl, hI292, hFm292, ⟨by omega, by omega, (LXp.up v283p.1 u292 (Or.inl (by decide))), (by omega), (by omega), ⟨(Or.inr ⟨by omega, Or.inr ⟨rfl, PI.to7 hpp (by omega)⟩⟩), (KP.up (KP.fr (KP.fr (KP.fr (KP.up (KP.fr (KP.refl (M := M)) fr2 (fun _ => rfl)) u88 (by decide)) fr241 (fun _ => rfl)) fr250 (fun _ => rfl)) fr284 (fun _ => rfl)) u292 (by decide))⟩, (mx_k hp1 hK5 hnf (by omega) (by omega) (v283p.2.2.2.2.resolve_left (fun z => by have := z.2.1; omega)) (by rw [v291e]; exact u292) (by omega) (by omega) rfl)⟩⟩
                · replace v259p := v259p.resolve_left (by omega)
                  refine s_aload_n kx_196_267 rfl ?_
                  refine s_iconst (v := 1) kx_196_268 (by decide) ?_
                  refine s_aload_n kx_196_269 rfl ?_
                  refine r_getI (k := 63) (f := 4) kx_196_270 kp_196_23 (tk_63 hT) kf_12_4 (fun _ => rfl) (rg_63_4 hI250) (fun v303 v303e v303a v303b => ?_)
                  refine s_callV2 (k := 63) (s1 := 3) (s2 := 0) (as := [(0, v303), (0, 1)]) (rest := []) kx_196_273 kp_196_263 (Or.inl rfl) rfl (tk_63 hT) ki_176 kcl_176 rfl rfl (by decide) (f_176 (d := d + 2) (kind := 1) (place := v303) hT hI250 (by omega)) (kV (fun M305 hI305 fr305 v304p => ?_))
                  have hFm305 := hFm250.call fr305 rfl
                  have tr306 := (fr305 63 3 rfl)
                  have tr307 := (fr305 63 4 rfl)
                  have tr308 := (fr305 63 5 rfl)
                  have tr309 := (fr305 63 35 rfl)
                  have tr310 := (fr305 63 42 rfl)
                  have tr311 := (fr305 63 43 rfl)
                  have tr312 := (fr305 63 45 rfl)
                  have tr313 := rg_63_9 hI305
                  refine s_aload_n kx_196_276 rfl ?_
                  have hym314 := mg_bl (M1 := M305) (q' := owE s n p) (x := v303) v249p.1 hn v259p.2 ⟨by omega, by omega⟩
                  refine s_iload_n kx_196_277 rfl ?_
                  refine s_bipush (v := 23) kx_196_278 (by decide) ?_
                  refine s_icmp_ne (t := 288) kx_196_280 (by decide) (fun hc315 => ?_) (fun hc315 => ?_)
                  · refine s_iconst (v := 3) kx_196_288 (by decide) ?_
                    refine s_callV2 (k := 63) (s1 := 2) (s2 := 0) (as := [(0, 3)]) (rest := []) kx_196_289 kp_196_367 (Or.inl rfl) rfl (tk_63 hT) ki_194 kcl_194 rfl rfl (by decide) (f_194 (d := d) (kind := 3) hT hI305 (LXp.fr (LXp.fr (show LXp M241 from v240p.2.2) fr250 rfl) fr305 rfl) hym314 hn (QJ.fr (QJ.fr (QJ.fr hqj98 fr241 rfl) fr250 rfl) fr305 rfl) (PI.fr (PI.fr (PI.fr hP100 fr241 rfl) fr250 rfl) fr305 rfl) (B0.fr (B0.fr (B0.fr hB99 fr241 rfl (fun _ => rfl)) fr250 rfl (fun _ => rfl)) fr305 rfl (fun _ => rfl)) (by omega)) (kV (fun M317 hI317 fr317 v316p => ?_))
                    have hFm317 := hFm305.call fr317 rfl
                    have tr318 := (fr317 63 35 rfl)
                    have tr319 := (fr317 63 45 rfl)
                    have tr320 := rg_63_9 hI317
                    refine s_aload_n kx_196_292 rfl ?_
                    refine r_getI (k := 63) (f := 9) kx_196_293 kp_196_39 (tk_63 hT) kf_12_9 (fun _ => rfl) (rg_63_9 hI317) (fun v321 v321e v321a v321b => ?_)
                    refine s_if_ne (t := 311) kx_196_296 (by decide) (fun hc322 => ?_) (fun hc322 => ?_)
                    · refine s_iconst (v := 0) kx_196_311 (by decide) ?_
                      have hk323 : M317 63 9 = v321 := v321e
                      exact s_iret kx_196_312 (Or.inr ⟨kq_196, by omega⟩) ⟨_, _, rfl, rfl, hI317, hFm317, ⟨by omega, by omega, v316p.1, (by omega), (by omega), ⟨(Or.inl (by omega)), (KP.fr (KP.fr (KP.fr (KP.fr (KP.up (KP.fr (KP.refl (M := M)) fr2 (fun _ => rfl)) u88 (by decide)) fr241 (fun _ => rfl)) fr250 (fun _ => rfl)) fr305 (fun _ => rfl)) fr317 (fun _ => rfl))⟩, (mx_f hK5 hnf (by omega) (by omega) hp1 (v316p.2.2.2.2.resolve_right (fun z => by have := z.2.2.1; omega)))⟩⟩
                    · exact absurd h639 (by omega)
                  · refine s_bipush (v := 6) kx_196_283 (by decide) ?_
                    refine s_goto (t := 289) kx_196_285 (by decide) ?_
                    refine s_callV2 (k := 63) (s1 := 2) (s2 := 0) (as := [(0, 6)]) (rest := []) kx_196_289 kp_196_367 (Or.inl rfl) rfl (tk_63 hT) ki_194 kcl_194 rfl rfl (by decide) (f_194 (d := d) (kind := 6) hT hI305 (LXp.fr (LXp.fr (show LXp M241 from v240p.2.2) fr250 rfl) fr305 rfl) hym314 hn (QJ.fr (QJ.fr (QJ.fr hqj98 fr241 rfl) fr250 rfl) fr305 rfl) (PI.fr (PI.fr (PI.fr hP100 fr241 rfl) fr250 rfl) fr305 rfl) (B0.fr (B0.fr (B0.fr hB99 fr241 rfl (fun _ => rfl)) fr250 rfl (fun _ => rfl)) fr305 rfl (fun _ => rfl)) (by omega)) (kV (fun M325 hI325 fr325 v324p => ?_))
                    have hFm325 := hFm305.call fr325 rfl
                    have tr326 := (fr325 63 35 rfl)
                    have tr327 := (fr325 63 45 rfl)
                    have tr328 := rg_63_9 hI325
                    refine s_aload_n kx_196_292 rfl ?_
                    refine r_getI (k := 63) (f := 9) kx_196_293 kp_196_39 (tk_63 hT) kf_12_9 (fun _ => rfl) (rg_63_9 hI325) (fun v329 v329e v329a v329b => ?_)
                    refine s_if_ne (t := 311) kx_196_296 (by decide) (fun hc330 => ?_) (fun hc330 => ?_)
                    · refine s_iconst (v := 0) kx_196_311 (by decide) ?_
                      have hk331 : M325 63 9 = v329 := v329e
                      exact s_iret kx_196_312 (Or.inr ⟨kq_196, by omega⟩) ⟨_, _, rfl, rfl, hI325, hFm325, ⟨by omega, by omega, v324p.1, (by omega), (by omega), ⟨(Or.inl (by omega)), (KP.fr (KP.fr (KP.fr (KP.fr (KP.up (KP.fr (KP.refl (M := M)) fr2 (fun _ => rfl)) u88 (by decide)) fr241 (fun _ => rfl)) fr250 (fun _ => rfl)) fr305 (fun _ => rfl)) fr325 (fun _ => rfl))⟩, (mx_f hK5 hnf (by omega) (by omega) hp1 (v324p.2.2.2.2.resolve_right (fun z => by have := z.2.2.1; omega)))⟩⟩
                    · exact absurd h639 (by omega)
              refine s_if_eq (t := 232) kx_196_224 (by decide) (fun hc229 => ?_) (fun hc229 => ?_)
              · have hJ230 : Fr gS_196_j224 M88 M88 := Fr.refl
                replace v228p := v228p.resolve_left (by omega)
                refine s_aload_n kx_196_232 rfl ?_
                refine s_ldc2_w kx_196_233 kp_196_335 ?_
                refine s_callV2 (k := 63) (s1 := 3) (s2 := 0) (as := [(1, 7168376)]) (rest := []) kx_196_236 kp_196_361 (Or.inl rfl) rfl (tk_63 hT) ki_182 kcl_182 rfl rfl (by decide) (f_182 (d := d + 2) (w := 7168376) hT hI88 (LyA.up hz.2 u88 ⟨by decide, Or.inl (by decide)⟩) hK5 (w5 := 438042624) n58_max (Or.inr (by decide)) (by omega)) (kF (fun v231 v231p => ?_))
                refine s_if_eq (t := 247) kx_196_239 (by decide) (fun hc232 => ?_) (fun hc232 => ?_)
                · replace v231p := v231p.resolve_left (by omega)
                  refine s_bipush (v := 23) kx_196_247 (by decide) ?_
                  exact cP.wk (lS1 rfl lS0) (jn235 23 (by omega) (by omega) (by omega) ((mx_of (z := 23) (w := 308281344) (by omega) (by omega)).symm))
                · replace v231p := v231p.resolve_right (by omega)
                  refine s_bipush (v := 16) kx_196_242 (by decide) ?_
                  refine s_goto (t := 249) kx_196_244 (by decide) ?_
                  exact cP.wk (lS1 rfl lS0) (jn235 16 (by omega) (by omega) (by omega) ((mx_of (z := 16) (w := 438042624) (by omega) (by omega)).symm))
              · have hJ233 : Fr gS_196_j224 M88 M88 := Fr.refl
                replace v228p := v228p.resolve_right (by omega)
                refine s_bipush (v := 15) kx_196_227 (by decide) ?_
                refine s_goto (t := 249) kx_196_229 (by decide) ?_
                exact cP.wk (lS1 rfl lS0) (jn235 15 (by omega) (by omega) (by omega) ((mx_of (z := 15) (w := 446103552) (by omega) (by omega)).symm))
            refine s_if_ne (t := 217) kx_196_194 (by decide) (fun hc155 => ?_) (fun hc155 => ?_)
            · have hJ156 : Fr gS_196_j194 M88 M88 := Fr.refl
              replace v154p := v154p.resolve_right (by omega)
              exact cP.wk (lS1 rfl lS0) (jn226 (by omega))
            · have hJ157 : Fr gS_196_j194 M88 M88 := Fr.refl
              replace v154p := v154p.resolve_left (by omega)
              refine s_aload_n kx_196_197 rfl ?_
              refine s_ldc2_w kx_196_198 kp_196_335 ?_
              refine s_callV2 (k := 63) (s1 := 3) (s2 := 0) (as := [(1, 7168376)]) (rest := []) kx_196_201 kp_196_361 (Or.inl rfl) rfl (tk_63 hT) ki_182 kcl_182 rfl rfl (by decide) (f_182 (d := d + 2) (w := 7168376) hT hI88 (LyA.up hz.2 u88 ⟨by decide, Or.inl (by decide)⟩) hK5 (w5 := 438042624) n58_max (Or.inr (by decide)) (by omega)) (kF (fun v158 v158p => ?_))
              refine s_if_ne (t := 217) kx_196_204 (by decide) (fun hc159 => ?_) (fun hc159 => ?_)
              · replace v158p := v158p.resolve_right (by omega)
                exact cP.wk (lS1 rfl lS0) (jn226 (by omega))
              · replace v158p := v158p.resolve_left (by omega)
                refine s_aload_n kx_196_207 rfl ?_
                refine s_ldc2_w kx_196_208 kp_196_323 ?_
                refine s_callV2 (k := 63) (s1 := 3) (s2 := 0) (as := [(1, 26982)]) (rest := []) kx_196_211 kp_196_361 (Or.inl rfl) rfl (tk_63 hT) ki_182 kcl_182 rfl rfl (by decide) (f_182 (d := d + 2) (w := 26982) hT hI88 (LyA.up hz.2 u88 ⟨by decide, Or.inl (by decide)⟩) hK5 (w5 := 308281344) n58_if (Or.inr (by decide)) (by omega)) (kF (fun v160 v160p => ?_))
                refine s_if_eq (t := 313) kx_196_214 (by decide) (fun hc161 => ?_) (fun hc161 => ?_)
                · replace v160p := v160p.resolve_left (by omega)
                  have hmx0 := mx_n (s := s) (n := n) (p := p) (by omega) (by omega) (by omega)
                  refine s_aload_n kx_196_313 rfl ?_
                  refine r_getI (k := 63) (f := 3) kx_196_314 kp_196_20 (tk_63 hT) kf_12_3 (fun _ => rfl) (rg_63_3 hI88) (fun v162 v162e v162a v162b => ?_)
                  have v162z : M 63 3 = v162 := (((u88.2 63 3 (by omega)).trans (fr2 63 3 rfl))).symm.trans v162e
                  refine s_iconst (v := 2) kx_196_317 (by decide) ?_
                  have hk3 : (v162 = 2 ∧ owK s n p = 3) ∨ (v162 ≠ 2 ∧ owK s n p ≠ 3) := by have hkk := (LyA.up hz.2 u88 ⟨by decide, Or.inl (by decide)⟩).kinds; omega
                  have jn179 : ∀ (y178 : Int), ((-1) ≤ y178) → (y178 ≤ 6) → ((y178 = -1 ∨ M88 63 3 ≠ 0)) → ((y178 = 0 ∧ owK s n p = 3) ∨ (1 ≤ y178 ∧ y178 ≤ 6 ∧ y178 = -owCd s n p) ∨ (y178 = -1 ∧ owK s n p ≠ 3 ∧ owCd s n p = 0)) → cP k_P xs Ln (d + 3) 196 411 [(0, rf 63)] [(0, y178)] (T, M88) (qW T M gS_196_m 0 (fun v M1 => 0 ≤ v ∧ v ≤ 1 ∧ (LXp M1 ∧ M 63 4 ≤ M1 63 4 ∧ M 63 9 ≤ M1 63 9 ∧ (OPd M M1 c a v ∧ KP M M1) ∧ (StT M1 s n (pSt s n (0, (k_, ph, bg, pr, os_) :: fs_, cs, p)) v)))) := by
                    clear hk3 v160p v158p v154p a150
                    intro y178 a180 a181 a182 a183
                    refine s_istore_n kx_196_411 km_196_3 rfl ?_
                    refine s_iload_n kx_196_412 rfl ?_
                    refine s_iconst (v := (-1)) kx_196_413 (by decide) ?_
                    refine s_icmp_ne (t := 426) kx_196_414 (by decide) (fun hc184 => ?_) (fun hc184 => ?_)
                    · refine s_aload_n kx_196_426 rfl ?_
                      refine r_getK (k := 63) (f := 9) kx_196_427 kp_196_39 (tk_63 hT) kf_12_9 (fun _ => rfl) ((u88.2 63 9 (by omega)).trans v11e) ?_
                      refine s_if_le (t := 435) kx_196_430 (by decide) (fun hc185 => ?_) (fun hc185 => absurd hc185 (by omega))
                      refine s_aload_n kx_196_435 rfl ?_
                      refine s_iload_n kx_196_436 rfl ?_
                      refine s_aload_n kx_196_437 rfl ?_
                      refine r_getU (k := 63) (f := 6) kx_196_438 kp_196_29 (tk_63 hT) kf_12_6 (fun _ => rfl) (fun v186 v186e => ?_)
                      have v186z : M 63 6 = v186 := (((u88.2 63 6 (by omega)).trans (fr2 63 6 rfl))).symm.trans v186e
                      refine s_callV2 (k := 63) (s1 := 3) (s2 := 0) (as := [(0, v186), (0, y178)]) (rest := []) kx_196_441 kp_196_352 (Or.inl rfl) rfl (tk_63 hT) ki_189 kcl_189 rfl rfl (by decide) (m_189 (d := d + 2) (sort := y178) (v_ := v186) hT hI88 (by omega) (by omega)) (kV (fun M188 hI188 fr188 v187p => ?_))
                      have hFm188 := hFm88.call fr188 rfl
                      have hFj194188 := hJ157.call fr188 rfl
                      have tr189 := (fr188 63 3 rfl)
                      have tr190 := (fr188 63 4 rfl)
                      have tr191 := (fr188 63 5 rfl)
                      have tr192 := (fr188 63 9 rfl)
                      have tr193 := (fr188 63 42 rfl)
                      have tr194 := (fr188 63 43 rfl)
                      have tr195 := (fr188 63 45 rfl)
                      have tr196 := (fr188 63 10 rfl)
                      have tr197 := rg_63_9 hI188
                      have hP198 := PI.codeV hP100 (by omega) (by omega) (by decide) (by decide) fr188 v187p.1 v187p.2.1 v187p.2.2
                      have hK199 := KP.add (KP.up (KP.fr (KP.refl (M := M)) fr2 (fun _ => rfl)) u88 (by decide)) ((u88.2 63 36 (by omega)).trans (fr2 63 36 rfl)) ⟨(rg_63_35 hI88).1, by omega⟩ (rg_63_36 hI88).1 v187p.2.2
                      refine s_aload_n kx_196_444 rfl ?_
                      refine s_callV2 (k := 63) (s1 := 1) (s2 := 0) (as := []) (rest := []) kx_196_445 kp_196_286 (Or.inl rfl) rfl (tk_63 hT) ki_180 kcl_180 rfl rfl (by decide) (f_180 (d := d + 1) hT hI188 (LyA.fr (LyA.up hz.2 u88 ⟨by decide, Or.inl (by decide)⟩) fr188 rfl).1 (LyA.fr (LyA.up hz.2 u88 ⟨by decide, Or.inl (by decide)⟩) fr188 rfl).2.1 (LyA.fr (LyA.up hz.2 u88 ⟨by decide, Or.inl (by decide)⟩) fr188 rfl).2.2.2.2.2.1 (owE_i2 ⟨(LyA.fr (LyA.up hz.2 u88 ⟨by decide, Or.inl (by decide)⟩) fr188 rfl).2.2.1, (LyA.fr (LyA.up hz.2 u88 ⟨by decide, Or.inl (by decide)⟩) fr188 rfl).2.2.2.1⟩).1 (owE_i2 ⟨(LyA.fr (LyA.up hz.2 u88 ⟨by decide, Or.inl (by decide)⟩) fr188 rfl).2.2.1, (LyA.fr (LyA.up hz.2 u88 ⟨by decide, Or.inl (by decide)⟩) fr188 rfl).2.2.2.1⟩).2 (LyA.fr (LyA.up hz.2 u88 ⟨by decide, Or.inl (by decide)⟩) fr188 rfl).2.2.2.2.2.2.2.2.2.2.2.2) (kV (fun M201 hI201 fr201 v200p => ?_))
                      have hFm201 := hFm188.call fr201 rfl
                      have hFj194201 := hFj194188.call fr201 rfl
                      have tr202 := (fr201 63 9 rfl)
                      have tr203 := (fr201 63 35 rfl)
                      have tr204 := (fr201 63 42 rfl)
                      have tr205 := (fr201 63 43 rfl)
                      have tr206 := (fr201 63 45 rfl)
                      have tr207 := (fr201 63 10 rfl)
                      have tr208 := rg_63_9 hI201
                      refine s_iconst (v := 1) kx_196_448 (by decide) ?_
                      have hk209 : M201 63 9 = v11 := ((fr201 63 9 rfl).trans ((fr188 63 9 rfl).trans ((u88.2 63 9 (by omega)).trans v11e)))
                      exact s_iret kx_196_449 (Or.inr ⟨kq_196, by omega⟩) ⟨_, _, rfl, rfl, hI201, hFm201, ⟨by omega, by omega, (show LXp M201 from v200p.2.2), (by omega), (by omega), ⟨(Or.inr ⟨by omega, Or.inl ⟨rfl, (B0.fr (B0.fr hB99 fr188 rfl (fun _ => rfl)) fr201 rfl (fun _ => rfl)), PI.to7 (PI.fr hP198 fr201 rfl) (by omega)⟩⟩), (KP.fr hK199 fr201 (fun _ => rfl))⟩, ((od_v hK5 hnf (by omega) (by omega) (by omega)).elim (fun c hc => StT.l hc rfl (QJ.fr (QJ.fr hqj98 fr188 rfl) fr201 rfl) (by omega) v200p.1))⟩⟩
                    · refine s_aload_n kx_196_417 rfl ?_
                      refine s_iconst (v := 1) kx_196_418 (by decide) ?_
                      refine s_aload_n kx_196_419 rfl ?_
                      refine r_getI (k := 63) (f := 4) kx_196_420 kp_196_23 (tk_63 hT) kf_12_4 (fun _ => rfl) (rg_63_4 hI88) (fun v210 v210e v210a v210b => ?_)
                      have v210z : M 63 4 = v210 := (((u88.2 63 4 (by omega)).trans (fr2 63 4 rfl))).symm.trans v210e
                      refine s_callV2 (k := 63) (s1 := 3) (s2 := 0) (as := [(0, v210), (0, 1)]) (rest := []) kx_196_423 kp_196_263 (Or.inl rfl) rfl (tk_63 hT) ki_176 kcl_176 rfl rfl (by decide) (f_176 (d := d + 2) (kind := 1) (place := v210) hT hI88 (by omega)) (kV (fun M212 hI212 fr212 v211p => ?_))
                      have hFm212 := hFm88.call fr212 rfl
                      have hFj194212 := hJ157.call fr212 rfl
                      have tr213 := (fr212 63 3 rfl)
                      have tr214 := (fr212 63 4 rfl)
                      have tr215 := (fr212 63 5 rfl)
                      have tr216 := (fr212 63 35 rfl)
                      have tr217 := (fr212 63 42 rfl)
                      have tr218 := (fr212 63 43 rfl)
                      have tr219 := (fr212 63 45 rfl)
                      have tr220 := rg_63_9 hI212
                      refine s_aload_n kx_196_426 rfl ?_
                      refine r_getI (k := 63) (f := 9) kx_196_427 kp_196_39 (tk_63 hT) kf_12_9 (fun _ => rfl) (rg_63_9 hI212) (fun v221 v221e v221a v221b => ?_)
                      refine s_if_le (t := 435) kx_196_430 (by decide) (fun hc222 => ?_) (fun hc222 => ?_)
                      · exact absurd h639 (by omega)
                      · refine s_iconst (v := 1) kx_196_433 (by decide) ?_
                        have hk223 : M212 63 3 = v162 := ((fr212 63 3 rfl).trans v162e)
                        have hk224 : M212 63 4 = v210 := ((fr212 63 4 rfl).trans v210e)
                        have hk225 : M212 63 9 = v221 := v221e
                        exact s_iret kx_196_434 (Or.inr ⟨kq_196, by omega⟩) ⟨_, _, rfl, rfl, hI212, hFm212, ⟨by omega, by omega, (LXp.fr (LXp.up (LXp.fr hX fr2 rfl) u88 (Or.inl (by decide))) fr212 rfl), (by omega), (by omega), ⟨(Or.inl (by omega)), (KP.fr (KP.up (KP.fr (KP.refl (M := M)) fr2 (fun _ => rfl)) u88 (by decide)) fr212 (fun _ => rfl))⟩, (StT.r (od_x hK5 hnf (by omega) (by omega) (by omega) (by omega)) (owFl2 (k := 1) (x := owB s n p) (by omega) (by omega) (by decide) (by omega) (by unfold owU; rw [if_neg hK5]; omega)))⟩⟩
                  refine s_icmp_ne (t := 325) kx_196_318 (by decide) (fun hc163 => ?_) (fun hc163 => ?_)
                  · have hJ164 : Fr gS_196_j318 M88 M88 := Fr.refl
                    refine s_aload_n kx_196_325 rfl ?_
                    refine s_ldc2_w kx_196_326 kp_196_297 ?_
                    refine s_callV2 (k := 63) (s1 := 3) (s2 := 0) (as := [(1, 499850634611)]) (rest := []) kx_196_329 kp_196_361 (Or.inl rfl) rfl (tk_63 hT) ki_182 kcl_182 rfl rfl (by decide) (f_182 (d := d + 2) (w := 499850634611) hT hI88 (LyA.up hz.2 u88 ⟨by decide, Or.inl (by decide)⟩) hK5 (w5 := 672503392) n58_takes (Or.inr (by decide)) (by omega)) (kF (fun v165 v165p => ?_))
                    refine s_if_eq (t := 339) kx_196_332 (by decide) (fun hc166 => ?_) (fun hc166 => ?_)
                    · replace v165p := v165p.resolve_left (by omega)
                      refine s_aload_n kx_196_339 rfl ?_
                      refine s_ldc2_w kx_196_340 kp_196_317 ?_
                      refine s_callV2 (k := 63) (s1 := 3) (s2 := 0) (as := [(1, 131277443786868)]) (rest := []) kx_196_343 kp_196_361 (Or.inl rfl) rfl (tk_63 hT) ki_182 kcl_182 rfl rfl (by decide) (f_182 (d := d + 2) (w := 131277443786868) hT hI88 (LyA.up hz.2 u88 ⟨by decide, Or.inl (by decide)⟩) hK5 (w5 := 777297172) n58_weight (Or.inr (by decide)) (by omega)) (kF (fun v167 v167p => ?_))
                      refine s_if_eq (t := 353) kx_196_346 (by decide) (fun hc168 => ?_) (fun hc168 => ?_)
                      · replace v167p := v167p.resolve_left (by omega)
                        refine s_aload_n kx_196_353 rfl ?_
                        refine s_ldc2_w kx_196_354 kp_196_301 ?_
                        refine s_callV2 (k := 63) (s1 := 3) (s2 := 0) (as := [(1, 126943973305959)]) (rest := []) kx_196_357 kp_196_361 (Or.inl rfl) rfl (tk_63 hT) ki_182 kcl_182 rfl rfl (by decide) (f_182 (d := d + 2) (w := 126943973305959) hT hI88 (LyA.up hz.2 u88 ⟨by decide, Or.inl (by decide)⟩) hK5 (w5 := 659111367) n58_strong (Or.inr (by decide)) (by omega)) (kF (fun v169 v169p => ?_))
                        refine s_if_eq (t := 367) kx_196_360 (by decide) (fun hc170 => ?_) (fun hc170 => ?_)
                        · replace v169p := v169p.resolve_left (by omega)
                          refine s_aload_n kx_196_367 rfl ?_
                          refine s_ldc2_w kx_196_368 kp_196_305 ?_
                          refine s_callV2 (k := 63) (s1 := 3) (s2 := 0) (as := [(1, 2003395685)]) (rest := []) kx_196_371 kp_196_361 (Or.inl rfl) rfl (tk_63 hT) ki_182 kcl_182 rfl rfl (by decide) (f_182 (d := d + 2) (w := 2003395685) hT hI88 (LyA.up hz.2 u88 ⟨by decide, Or.inl (by decide)⟩) hK5 (w5 := 781325312) n58_wide (Or.inr (by decide)) (by omega)) (kF (fun v171 v171p => ?_))
                          refine s_if_eq (t := 381) kx_196_374 (by decide) (fun hc172 => ?_) (fun hc172 => ?_)
                          · replace v171p := v171p.resolve_left (by omega)
                            refine s_aload_n kx_196_381 rfl ?_
                            refine s_ldc2_w kx_196_382 kp_196_319 ?_
                            refine s_callV2 (k := 63) (s1 := 3) (s2 := 0) (as := [(1, 427021001579)]) (rest := []) kx_196_385 kp_196_361 (Or.inl rfl) rfl (tk_63 hT) ki_182 kcl_182 rfl rfl (by decide) (f_182 (d := d + 2) (w := 427021001579) hT hI88 (LyA.up hz.2 u88 ⟨by decide, Or.inl (by decide)⟩) hK5 (w5 := 113741152) n58_clock (Or.inr (by decide)) (by omega)) (kF (fun v173 v173p => ?_))
                            refine s_if_eq (t := 395) kx_196_388 (by decide) (fun hc174 => ?_) (fun hc174 => ?_)
                            · replace v173p := v173p.resolve_left (by omega)
                              refine s_aload_n kx_196_395 rfl ?_
                              refine s_ldc2_w kx_196_396 kp_196_321 ?_
                              refine s_callV2 (k := 63) (s1 := 3) (s2 := 0) (as := [(1, 7305070)]) (rest := []) kx_196_399 kp_196_361 (Or.inl rfl) rfl (tk_63 hT) ki_182 kcl_182 rfl rfl (by decide) (f_182 (d := d + 2) (w := 7305070) hT hI88 (LyA.up hz.2 u88 ⟨by decide, Or.inl (by decide)⟩) hK5 (w5 := 527892480) n58_own (Or.inr (by decide)) (by omega)) (kF (fun v175 v175p => ?_))
                              refine s_if_eq (t := 410) kx_196_402 (by decide) (fun hc176 => ?_) (fun hc176 => ?_)
                              · replace v175p := v175p.resolve_left (by omega)
                                refine s_iconst (v := (-1)) kx_196_410 (by decide) ?_
                                exact cP.wk (lS1 rfl lS0) (jn179 (-1) (by omega) (by omega) (by omega) (Or.inr (Or.inr ⟨rfl, by omega, cd_n (by omega) (by omega) (by omega) (by omega) (by omega) (by omega)⟩)))
                              · replace v175p := v175p.resolve_right (by omega)
                                refine s_bipush (v := 6) kx_196_405 (by decide) ?_
                                refine s_goto (t := 411) kx_196_407 (by decide) ?_
                                exact cP.wk (lS1 rfl lS0) (jn179 6 (by omega) (by omega) (by omega) (Or.inr (Or.inl ⟨by decide, by decide, by have hcd := cd_of (s := s) (n := n) (p := p) (z := -6) (w := 527892480) (by omega) (by omega); omega⟩)))
                            · replace v173p := v173p.resolve_right (by omega)
                              refine s_iconst (v := 5) kx_196_391 (by decide) ?_
                              refine s_goto (t := 411) kx_196_392 (by decide) ?_
                              exact cP.wk (lS1 rfl lS0) (jn179 5 (by omega) (by omega) (by omega) (Or.inr (Or.inl ⟨by decide, by decide, by have hcd := cd_of (s := s) (n := n) (p := p) (z := -5) (w := 113741152) (by omega) (by omega); omega⟩)))
                          · replace v171p := v171p.resolve_right (by omega)
                            refine s_iconst (v := 4) kx_196_377 (by decide) ?_
                            refine s_goto (t := 411) kx_196_378 (by decide) ?_
                            exact cP.wk (lS1 rfl lS0) (jn179 4 (by omega) (by omega) (by omega) (Or.inr (Or.inl ⟨by decide, by decide, by have hcd := cd_of (s := s) (n := n) (p := p) (z := -4) (w := 781325312) (by omega) (by omega); omega⟩)))
                        · replace v169p := v169p.resolve_right (by omega)
                          refine s_iconst (v := 3) kx_196_363 (by decide) ?_
                          refine s_goto (t := 411) kx_196_364 (by decide) ?_
                          exact cP.wk (lS1 rfl lS0) (jn179 3 (by omega) (by omega) (by omega) (Or.inr (Or.inl ⟨by decide, by decide, by have hcd := cd_of (s := s) (n := n) (p := p) (z := -3) (w := 659111367) (by omega) (by omega); omega⟩)))
                      · replace v167p := v167p.resolve_right (by omega)
                        refine s_iconst (v := 2) kx_196_349 (by decide) ?_
                        refine s_goto (t := 411) kx_196_350 (by decide) ?_
                        exact cP.wk (lS1 rfl lS0) (jn179 2 (by omega) (by omega) (by omega) (Or.inr (Or.inl ⟨by decide, by decide, by have hcd := cd_of (s := s) (n := n) (p := p) (z := -2) (w := 777297172) (by omega) (by omega); omega⟩)))
                    · replace v165p := v165p.resolve_right (by omega)
                      refine s_iconst (v := 1) kx_196_335 (by decide) ?_
                      refine s_goto (t := 411) kx_196_336 (by decide) ?_
                      exact cP.wk (lS1 rfl lS0) (jn179 1 (by omega) (by omega) (by omega) (Or.inr (Or.inl ⟨by decide, by decide, by have hcd := cd_of (s := s) (n := n) (p := p) (z := -1) (w := 672503392) (by omega) (by omega); omega⟩)))
                  · have hJ177 : Fr gS_196_j318 M88 M88 := Fr.refl
                    refine s_iconst (v := 0) kx_196_321 (by decide) ?_
                    refine s_goto (t := 411) kx_196_322 (by decide) ?_
                    exact cP.wk (lS1 rfl lS0) (jn179 0 (by omega) (by omega) (by omega) (Or.inl ⟨rfl, by omega⟩))
                · replace v160p := v160p.resolve_right (by omega)
                  exact cP.wk (lS1 rfl lS0) (jn226 (by omega))
          · replace v151p := v151p.resolve_right (by omega)
            refine s_aload_n kx_196_180 rfl ?_
            refine s_iconst (v := 2) kx_196_181 (by decide) ?_
            refine s_callV2 (k := 63) (s1 := 2) (s2 := 0) (as := [(0, 2)]) (rest := []) kx_196_182 kp_196_367 (Or.inl rfl) rfl (tk_63 hT) ki_194 kcl_194 rfl rfl (by decide) (f_194 (d := d) (kind := 2) hT hI88 (LXp.up (LXp.fr hX fr2 rfl) u88 (Or.inl (by decide))) (Yst.up hys0 u88 ⟨by decide, Or.inl (by decide)⟩) hn hqj98 hP100 hB99 (by omega)) (kV (fun M333 hI333 fr333 v332p => ?_))
            have hFm333 := hFm88.call fr333 rfl
            have tr334 := (fr333 63 35 rfl)
            have tr335 := (fr333 63 45 rfl)
            have tr336 := rg_63_9 hI333
            refine s_iconst (v := 0) kx_196_185 (by decide) ?_
            exact s_iret kx_196_186 (Or.inr ⟨kq_196, by omega⟩) ⟨_, _, rfl, rfl, hI333, hFm333, ⟨by omega, by omega, v332p.1, (by omega), (by omega), ⟨(v332p.2.2.2.1.imp id (fun z => ⟨by omega, Or.inr ⟨rfl, PI.to7 (PQ.id z.2.2.2 (by decide)) (by omega)⟩⟩)), (KP.fr (KP.up (KP.fr (KP.refl (M := M)) fr2 (fun _ => rfl)) u88 (by decide)) fr333 (fun _ => rfl))⟩, (op_st (f := 0) rfl (by rw [od_p hK5 hnf (by omega), pOp_bg (bg := bg) (ph := ph) (bg' := 0) (ph' := ph)]) (by decide) hzp v332p.2.2.2.2)⟩⟩
        refine s_if_eq (t := 137) kx_196_118 (by decide) (fun hc101 => ?_) (fun hc101 => ?_)
        · have hJ102 : Fr gS_196_j118 M88 M88 := Fr.refl
          refine s_iload_n kx_196_137 rfl ?_
          refine s_if_eq (t := 171) kx_196_138 (by decide) (fun hc103 => ?_) (fun hc103 => absurd hc103 (by omega))
          exact cP.wk (lS1 rfl lS0) (jn149 (by unfold nFst; omega))
        · have hJ104 : Fr gS_196_j118 M88 M88 := Fr.refl
          have hfst : (pT k_ ∧ bg = 1) ∧ True := ⟨⟨by omega, by omega⟩, trivial⟩
          refine s_aload_n kx_196_121 rfl ?_
          refine s_bipush (v := 91) kx_196_122 (by decide) ?_
          refine s_callV2 (k := 63) (s1 := 2) (s2 := 0) (as := [(0, 91)]) (rest := []) kx_196_124 kp_196_283 (Or.inl rfl) rfl (tk_63 hT) ki_181 kcl_181 rfl rfl (by decide) (m_181 (d := d + 2) (c := 91) hT hI88) (kF (fun v105 v105p => ?_))
          have hiss106 := (LyA.up hz.2 u88 ⟨by decide, Or.inl (by decide)⟩).iss (c := 91)
          refine s_if_eq (t := 137) kx_196_127 (by decide) (fun hc107 => ?_) (fun hc107 => ?_)
          · replace v105p := v105p.resolve_left (by omega)
            refine s_iload_n kx_196_137 rfl ?_
            refine s_if_eq (t := 171) kx_196_138 (by decide) (fun hc108 => absurd hc108 (by omega)) (fun hc108 => ?_)
            refine s_aload_n kx_196_141 rfl ?_
            refine s_ldc2_w kx_196_142 kp_196_331 ?_
            refine s_callV2 (k := 63) (s1 := 3) (s2 := 0) (as := [(1, 6384748)]) (rest := []) kx_196_145 kp_196_361 (Or.inl rfl) rfl (tk_63 hT) ki_182 kcl_182 rfl rfl (by decide) (f_182 (d := d + 2) (w := 6384748) hT hI88 (LyA.up hz.2 u88 ⟨by decide, Or.inl (by decide)⟩) hK5 (w5 := 46530560) n58_all (Or.inr (by decide)) (by omega)) (kF (fun v109 v109p => ?_))
            refine s_if_eq (t := 171) kx_196_148 (by decide) (fun hc110 => ?_) (fun hc110 => ?_)
            · replace v109p := v109p.resolve_left (by omega)
              exact cP.wk (lS1 rfl lS0) (jn149 (by unfold nFst; omega))
            · replace v109p := v109p.resolve_right (by omega)
              refine s_aload_n kx_196_151 rfl ?_
              refine s_bipush (v := 9) kx_196_152 (by decide) ?_
              refine s_iconst (v := 0) kx_196_154 (by decide) ?_
              refine s_callV2 (k := 63) (s1 := 3) (s2 := 0) (as := [(0, 0), (0, 9)]) (rest := []) kx_196_155 kp_196_352 (Or.inl rfl) rfl (tk_63 hT) ki_189 kcl_189 rfl rfl (by decide) (m_189 (d := d + 2) (sort := 9) (v_ := 0) hT hI88 (by omega) (by omega)) (kV (fun M112 hI112 fr112 v111p => ?_))
              have hFm112 := hFm88.call fr112 rfl
              have hFj118112 := hJ104.call fr112 rfl
              have tr113 := (fr112 63 3 rfl)
              have tr114 := (fr112 63 4 rfl)
              have tr115 := (fr112 63 5 rfl)
              have tr116 := (fr112 63 9 rfl)
              have tr117 := (fr112 63 42 rfl)
              have tr118 := (fr112 63 43 rfl)
              have tr119 := (fr112 63 45 rfl)
              have tr120 := (fr112 63 10 rfl)
              have tr121 := rg_63_9 hI112
              have hP122 := PI.codeV hP100 (by omega) (by omega) (by decide) (by decide) fr112 v111p.1 v111p.2.1 v111p.2.2
              have hK123 := KP.add (KP.up (KP.fr (KP.refl (M := M)) fr2 (fun _ => rfl)) u88 (by decide)) ((u88.2 63 36 (by omega)).trans (fr2 63 36 rfl)) ⟨(rg_63_35 hI88).1, by omega⟩ (rg_63_36 hI88).1 v111p.2.2
              refine s_aload_n kx_196_158 rfl ?_
              refine r_getR (k := 63) (f := 38) (k2 := 86) kx_196_159 kp_196_127 (tk_63 hT) kf_12_38 (by decide) (rq_63_38 hI112) ?_
              refine s_iload_n kx_196_162 rfl ?_
              refine s_iconst (v := 2) kx_196_163 (by decide) ?_
              refine r_ast (k := 86) kx_196_164 (tk_86 hT) ⟨by omega, by omega⟩ hI112 (ru_86 (by omega) (by omega)) (fun M124 hI124 u124 => ?_)
              have hFm124 := hFm112.up u124 rfl
              have hFj118124 := hFj118112.up u124 rfl
              have tr125 := (u124.2 63 3 (by omega))
              have tr126 := (u124.2 63 4 (by omega))
              have tr127 := (u124.2 63 5 (by omega))
              have tr128 := (u124.2 63 9 (by omega))
              have tr129 := (u124.2 63 35 (by omega))
              have tr130 := (u124.2 63 42 (by omega))
              have tr131 := (u124.2 63 43 (by omega))
              have tr132 := (u124.2 63 45 (by omega))
              have tr133 := (u124.2 63 10 (by omega))
              refine s_aload_n kx_196_165 rfl ?_
              refine s_callV2 (k := 63) (s1 := 1) (s2 := 0) (as := []) (rest := []) kx_196_166 kp_196_286 (Or.inl rfl) rfl (tk_63 hT) ki_180 kcl_180 rfl rfl (by decide) (f_180 (d := d + 1) hT hI124 (LyA.up (LyA.fr (LyA.up hz.2 u88 ⟨by decide, Or.inl (by decide)⟩) fr112 rfl) u124 ⟨by decide, Or.inl (by decide)⟩).1 (LyA.up (LyA.fr (LyA.up hz.2 u88 ⟨by decide, Or.inl (by decide)⟩) fr112 rfl) u124 ⟨by decide, Or.inl (by decide)⟩).2.1 (LyA.up (LyA.fr (LyA.up hz.2 u88 ⟨by decide, Or.inl (by decide)⟩) fr112 rfl) u124 ⟨by decide, Or.inl (by decide)⟩).2.2.2.2.2.1 (owE_i2 ⟨(LyA.up (LyA.fr (LyA.up hz.2 u88 ⟨by decide, Or.inl (by decide)⟩) fr112 rfl) u124 ⟨by decide, Or.inl (by decide)⟩).2.2.1, (LyA.up (LyA.fr (LyA.up hz.2 u88 ⟨by decide, Or.inl (by decide)⟩) fr112 rfl) u124 ⟨by decide, Or.inl (by decide)⟩).2.2.2.1⟩).1 (owE_i2 ⟨(LyA.up (LyA.fr (LyA.up hz.2 u88 ⟨by decide, Or.inl (by decide)⟩) fr112 rfl) u124 ⟨by decide, Or.inl (by decide)⟩).2.2.1, (LyA.up (LyA.fr (LyA.up hz.2 u88 ⟨by decide, Or.inl (by decide)⟩) fr112 rfl) u124 ⟨by decide, Or.inl (by decide)⟩).2.2.2.1⟩).2 (LyA.up (LyA.fr (LyA.up hz.2 u88 ⟨by decide, Or.inl (by decide)⟩) fr112 rfl) u124 ⟨by decide, Or.inl (by decide)⟩).2.2.2.2.2.2.2.2.2.2.2.2) (kV (fun M135 hI135 fr135 v134p => ?_))
              have hFm135 := hFm124.call fr135 rfl
              have hFj118135 := hFj118124.call fr135 rfl
              have tr136 := (fr135 63 9 rfl)
              have tr137 := (fr135 63 35 rfl)
              have tr138 := (fr135 63 42 rfl)
              have tr139 := (fr135 63 43 rfl)
              have tr140 := (fr135 63 45 rfl)
              have tr141 := (fr135 63 10 rfl)
              have tr142 := rg_63_9 hI135
              refine s_iconst (v := 1) kx_196_169 (by decide) ?_
              have hk143 : M135 63 9 = v11 := ((fr135 63 9 rfl).trans ((u124.2 63 9 (by omega)).trans ((fr112 63 9 rfl).trans ((u88.2 63 9 (by omega)).trans v11e))))
              exact s_iret kx_196_170 (Or.inr ⟨kq_196, by omega⟩) ⟨_, _, rfl, rfl, hI135, hFm135, ⟨by omega, by omega, (show LXp M135 from v134p.2.2), (by omega), (by omega), ⟨(Or.inr ⟨by omega, Or.inl ⟨rfl, (B0.fr (B0.up (B0.fr hB99 fr112 rfl (fun _ => rfl)) u124 ⟨by decide, Or.inl (by decide)⟩) fr135 rfl (fun _ => rfl)), PI.to7 (PI.fr (PI.phase hP122 (Or.inl (by decide)) (by omega) u124) fr135 rfl) (by omega)⟩⟩), (KP.fr (KP.up hK123 u124 (by decide)) fr135 (fun _ => rfl))⟩, (StT.l (od_a hK5 hfst.1 (by omega) (by omega) (by omega)) rfl (QJ.fr (QJ.phs (QJ.fr hqj98 fr112 rfl) (by omega) u124) fr135 rfl) (by omega) v134p.1)⟩⟩
          · replace v105p := v105p.resolve_right (by omega)
            refine s_aload_n kx_196_130 rfl ?_
            refine s_iconst (v := 5) kx_196_131 (by decide) ?_
            refine s_callV2 (k := 63) (s1 := 2) (s2 := 0) (as := [(0, 5)]) (rest := []) kx_196_132 kp_196_367 (Or.inl rfl) rfl (tk_63 hT) ki_194 kcl_194 rfl rfl (by decide) (f_194 (d := d) (kind := 5) hT hI88 (LXp.up (LXp.fr hX fr2 rfl) u88 (Or.inl (by decide))) (Yst.up hys0 u88 ⟨by decide, Or.inl (by decide)⟩) hn hqj98 hP100 hB99 (by omega)) (kV (fun M145 hI145 fr145 v144p => ?_))
            have hFm145 := hFm88.call fr145 rfl
            have hFj118145 := hJ104.call fr145 rfl
            have tr146 := (fr145 63 35 rfl)
            have tr147 := (fr145 63 45 rfl)
            have tr148 := rg_63_9 hI145
            refine s_iconst (v := 0) kx_196_135 (by decide) ?_
            exact s_iret kx_196_136 (Or.inr ⟨kq_196, by omega⟩) ⟨_, _, rfl, rfl, hI145, hFm145, ⟨by omega, by omega, v144p.1, (by omega), (by omega), ⟨(v144p.2.2.2.1.imp id (fun z => ⟨by omega, Or.inr ⟨rfl, PI.to7 (PQ.id z.2.2.2 (by decide)) (by omega)⟩⟩)), (KP.fr (KP.up (KP.fr (KP.refl (M := M)) fr2 (fun _ => rfl)) u88 (by decide)) fr145 (fun _ => rfl))⟩, (op_st (f := 0) rfl (by rw [od_q hK5 hfst.1 (by omega) (by omega), pOp_bg (bg := bg) (ph := ph) (bg' := 0) (ph' := ph)]) (by decide) hzp v144p.2.2.2.2)⟩⟩
      refine s_if_eq (t := 110) kx_196_48 (by decide) (fun hc27 => ?_) (fun hc27 => ?_)
      · have hJ28 : Fr gS_196_j48 M2 M2 := Fr.refl
        exact cP.wk (lS1 rfl (lS1 rfl (lS1 rfl lS0))) (jn86 (by omega))
      · have hJ29 : Fr gS_196_j48 M2 M2 := Fr.refl
        have hfst : (pT k_ ∧ bg = 1) ∧ True := ⟨⟨by omega, by omega⟩, trivial⟩
        refine s_aload_n kx_196_51 rfl ?_
        refine s_ldc2_w kx_196_52 kp_196_329 ?_
        refine s_callV2 (k := 63) (s1 := 3) (s2 := 0) (as := [(1, 7237492)]) (rest := []) kx_196_55 kp_196_361 (Or.inl rfl) rfl (tk_63 hT) ki_182 kcl_182 rfl rfl (by decide) (f_182 (d := d + 2) (w := 7237492) hT hI2 hz.2 hK5 (w5 := 486146048) n58_not (Or.inr (by decide)) (by omega)) (kF (fun v30 v30p => ?_))
        refine s_if_eq (t := 110) kx_196_58 (by decide) (fun hc31 => ?_) (fun hc31 => ?_)
        · replace v30p := v30p.resolve_left (by omega)
          exact cP.wk (lS1 rfl (lS1 rfl (lS1 rfl lS0))) (jn86 (by omega))
        · replace v30p := v30p.resolve_right (by omega)
          have hb132 : M2 87 ((v13 - 1)).toNat = 1 := by omega
          refine s_aload_n kx_196_61 rfl ?_
          refine r_getI (k := 63) (f := 43) kx_196_62 kp_196_143 (tk_63 hT) kf_12_43 (fun _ => rfl) (rg_63_43 hI2) (fun v33 v33e v33a v33b => ?_)
          have v33z : M 63 43 = v33 := ((fr2 63 43 rfl)).symm.trans v33e
          refine s_bipush (v := 7) kx_196_65 (by decide) ?_
          refine s_icmp_ne (t := 79) kx_196_67 (by decide) (fun hc34 => ?_) (fun hc34 => ?_)
          · refine s_aload_n kx_196_79 rfl ?_
            refine r_getK (k := 63) (f := 9) kx_196_80 kp_196_39 (tk_63 hT) kf_12_9 (fun _ => rfl) v11e ?_
            refine s_if_le (t := 88) kx_196_83 (by decide) (fun hc35 => ?_) (fun hc35 => absurd hc35 (by omega))
            refine s_aload_n kx_196_88 rfl ?_
            refine s_dup kx_196_89 rfl ?_
            refine r_getK (k := 63) (f := 43) kx_196_90 kp_196_143 (tk_63 hT) kf_12_43 (fun _ => rfl) v33e ?_
            refine s_iconst (v := 1) kx_196_93 (by decide) ?_
            refine r_add kx_196_94 ⟨by omega, by omega⟩ ?_
            refine r_put (k := 63) (f := 43) kx_196_95 kp_196_143 (tk_63 hT) kf_12_43 rfl (by decide) (by decide) hI2 (ru_63_43 (by omega) (by omega)) (fun M36 hI36 u36 => ?_)
            have hFm36 := hFm2.up u36 rfl
            have hFj4836 := hJ29.up u36 rfl
            have tr37 := (u36.2 63 3 (by omega))
            have tr38 := (u36.2 63 4 (by omega))
            have tr39 := (u36.2 63 5 (by omega))
            have tr40 := (u36.2 63 9 (by omega))
            have tr41 := (u36.2 63 35 (by omega))
            have tr42 := (u36.2 63 42 (by omega))
            have tr43 := u36.1
            have tr44 := (u36.2 63 45 (by omega))
            have tr45 := (u36.2 63 10 (by omega))
            have hP46 := (PI.opn (e' := 1) (PI.fr hP fr2 rfl) u36 (by omega))
            have hqj47 := (QJ.opn (e' := 1) (QJ.fr hQ fr2 rfl) u36 (by omega))
            refine s_aload_n kx_196_98 rfl ?_
            refine s_bipush (v := 22) kx_196_99 (by decide) ?_
            refine s_callV2 (k := 63) (s1 := 2) (s2 := 0) (as := [(0, 22)]) (rest := []) kx_196_101 kp_196_364 (Or.inl rfl) rfl (tk_63 hT) ki_192 kcl_192 rfl rfl (by decide) (m_192 (d := d + 2) (op := 22) hT hI36 (by omega) (by omega)) (kV (fun M49 hI49 fr49 v48p => ?_))
            have hFm49 := hFm36.call fr49 rfl
            have hFj4849 := hFj4836.call fr49 rfl
            have tr50 := (fr49 63 3 rfl)
            have tr51 := (fr49 63 4 rfl)
            have tr52 := (fr49 63 5 rfl)
            have tr53 := (fr49 63 9 rfl)
            have tr54 := (fr49 63 35 rfl)
            have tr55 := (fr49 63 42 rfl)
            have tr56 := (fr49 63 43 rfl)
            have tr57 := (fr49 63 10 rfl)
            have tr58 := rg_63_9 hI49
            have hP60 := PI.holdN hP46 (f := (v13 - 1)) (by omega) ((u36.2 87 _ (by omega)).trans hb132) fr49 v48p.1 v48p.2.1 v48p.2.2
            have hqj59 := QJ.hold (e' := 0) hqj47 fr49 v48p.1 v48p.2.1 v48p.2.2 (by rw [if_pos rfl]; omega)
            refine s_aload_n kx_196_104 rfl ?_
            refine s_callV2 (k := 63) (s1 := 1) (s2 := 0) (as := []) (rest := []) kx_196_105 kp_196_286 (Or.inl rfl) rfl (tk_63 hT) ki_180 kcl_180 rfl rfl (by decide) (f_180 (d := d + 1) hT hI49 (LyA.fr (LyA.up hz.2 u36 (by decide)) fr49 rfl).1 (LyA.fr (LyA.up hz.2 u36 (by decide)) fr49 rfl).2.1 (LyA.fr (LyA.up hz.2 u36 (by decide)) fr49 rfl).2.2.2.2.2.1 (owE_i2 ⟨(LyA.fr (LyA.up hz.2 u36 (by decide)) fr49 rfl).2.2.1, (LyA.fr (LyA.up hz.2 u36 (by decide)) fr49 rfl).2.2.2.1⟩).1 (owE_i2 ⟨(LyA.fr (LyA.up hz.2 u36 (by decide)) fr49 rfl).2.2.1, (LyA.fr (LyA.up hz.2 u36 (by decide)) fr49 rfl).2.2.2.1⟩).2 (LyA.fr (LyA.up hz.2 u36 (by decide)) fr49 rfl).2.2.2.2.2.2.2.2.2.2.2.2) (kV (fun M62 hI62 fr62 v61p => ?_))
            have hFm62 := hFm49.call fr62 rfl
            have hFj4862 := hFj4849.call fr62 rfl
            have tr63 := (fr62 63 9 rfl)
            have tr64 := (fr62 63 35 rfl)
            have tr65 := (fr62 63 42 rfl)
            have tr66 := (fr62 63 43 rfl)
            have tr67 := (fr62 63 45 rfl)
            have tr68 := (fr62 63 10 rfl)
            have tr69 := rg_63_9 hI62
            refine s_iconst (v := 0) kx_196_108 (by decide) ?_
            have hk70 : M62 63 9 = v11 := ((fr62 63 9 rfl).trans ((fr49 63 9 rfl).trans ((u36.2 63 9 (by omega)).trans v11e)))
            exact s_iret kx_196_109 (Or.inr ⟨kq_196, by omega⟩) ⟨_, _, rfl, rfl, hI62, hFm62, ⟨by omega, by omega, (show LXp M62 from v61p.2.2), (by omega), (by omega), ⟨(Or.inr ⟨by omega, Or.inr ⟨rfl, PI.to7 (PI.fr hP60 fr62 rfl) (by omega)⟩⟩), (KP.fr (KP.fr (KP.up (KP.fr (KP.refl (M := M)) fr2 (fun _ => rfl)) u36 (by decide)) fr49 (fun _ => rfl)) fr62 (fun _ => rfl))⟩, (StT.l (od_n hK5 hfst.1 (by omega) (by omega)) rfl (QJ.fr hqj59 fr62 rfl) (by omega) v61p.1)⟩⟩
          · refine s_aload_n kx_196_70 rfl ?_
            refine s_iconst (v := 5) kx_196_71 (by decide) ?_
            refine s_aload_n kx_196_72 rfl ?_
            refine r_getI (k := 63) (f := 4) kx_196_73 kp_196_23 (tk_63 hT) kf_12_4 (fun _ => rfl) (rg_63_4 hI2) (fun v71 v71e v71a v71b => ?_)
            have v71z : M 63 4 = v71 := ((fr2 63 4 rfl)).symm.trans v71e
            refine s_callV2 (k := 63) (s1 := 3) (s2 := 0) (as := [(0, v71), (0, 5)]) (rest := []) kx_196_76 kp_196_263 (Or.inl rfl) rfl (tk_63 hT) ki_176 kcl_176 rfl rfl (by decide) (f_176 (d := d + 2) (kind := 5) (place := v71) hT hI2 (by omega)) (kV (fun M73 hI73 fr73 v72p => ?_))
            have hFm73 := hFm2.call fr73 rfl
            have hFj4873 := hJ29.call fr73 rfl
            have tr74 := (fr73 63 3 rfl)
            have tr75 := (fr73 63 4 rfl)
            have tr76 := (fr73 63 5 rfl)
            have tr77 := (fr73 63 35 rfl)
            have tr78 := (fr73 63 42 rfl)
            have tr79 := (fr73 63 43 rfl)
            have tr80 := (fr73 63 45 rfl)
            have tr81 := rg_63_9 hI73
            refine s_aload_n kx_196_79 rfl ?_
            refine r_getI (k := 63) (f := 9) kx_196_80 kp_196_39 (tk_63 hT) kf_12_9 (fun _ => rfl) (rg_63_9 hI73) (fun v82 v82e v82a v82b => ?_)
            refine s_if_le (t := 88) kx_196_83 (by decide) (fun hc83 => ?_) (fun hc83 => ?_)
            · exact absurd h639 (by omega)
            · refine s_iconst (v := 1) kx_196_86 (by decide) ?_
              have hk84 : M73 63 4 = v71 := ((fr73 63 4 rfl).trans v71e)
              have hk85 : M73 63 9 = v82 := v82e
              exact s_iret kx_196_87 (Or.inr ⟨kq_196, by omega⟩) ⟨_, _, rfl, rfl, hI73, hFm73, ⟨by omega, by omega, (LXp.fr (LXp.fr hX fr2 rfl) fr73 rfl), (by omega), (by omega), ⟨(Or.inl (by omega)), (KP.fr (KP.fr (KP.refl (M := M)) fr2 (fun _ => rfl)) fr73 (fun _ => rfl))⟩, (StT.r (od_n7 hK5 hfst.1 (by omega) (by omega)) (owFl2 (k := 5) (x := owB s n p) (by omega) (by omega) (by decide) (by omega) (by omega)))⟩⟩
    refine s_if_eq (t := 45) kx_196_29 (by decide) (fun hc16 => ?_) (fun hc16 => ?_)
    · have hJ17 : Fr gS_196_j29 M2 M2 := Fr.refl
      replace v15p := v15p.resolve_left (by omega)
      refine s_iconst (v := 0) kx_196_45 (by decide) ?_
      exact cP.wk (lS1 rfl (lS1 rfl lS0)) (jn22 0 (by omega) (by omega) (by omega) (by omega))
    · have hJ18 : Fr gS_196_j29 M2 M2 := Fr.refl
      replace v15p := v15p.resolve_right (by omega)
      refine s_aload_n kx_196_32 rfl ?_
      refine r_getR (k := 63) (f := 39) (k2 := 87) kx_196_33 kp_196_130 (tk_63 hT) kf_12_39 (by decide) (rq_63_39 hI2) ?_
      refine s_iload_n kx_196_36 rfl ?_
      refine r_bald (k := 87) kx_196_37 (tk_87 hT) ⟨by omega, by omega⟩ (rg_87 hI2) (fun v19 v19e v19a v19b => ?_)
      refine s_if_eq (t := 45) kx_196_38 (by decide) (fun hc20 => ?_) (fun hc20 => ?_)
      · refine s_iconst (v := 0) kx_196_45 (by decide) ?_
        exact cP.wk (lS1 rfl (lS1 rfl lS0)) (jn22 0 (by omega) (by omega) (by omega) (by omega))
      · refine s_iconst (v := 1) kx_196_41 (by decide) ?_
        refine s_goto (t := 46) kx_196_42 (by decide) ?_
        exact cP.wk (lS1 rfl (lS1 rfl lS0)) (jn22 1 (by omega) (by omega) (by omega) (by omega))
  · have hp9 := Yst.pos v1p.1 (by omega)
    have hk5 : owK s n p = 5 := Decidable.byContradiction fun g => hp9.1 (by unfold yLx; rw [if_neg (by decide), if_neg g])
    refine s_iconst (v := 1) kx_196_11 (by decide) ?_
    have hk337 : M2 63 9 = v11 := v11e
    exact s_iret kx_196_12 (Or.inr ⟨kq_196, by omega⟩) ⟨_, _, rfl, rfl, hI2, hFm2, ⟨by omega, by omega, (LXp.fr hX fr2 rfl), (by omega), (by omega), ⟨(Or.inl (by omega)), (KP.fr (KP.refl (M := M)) fr2 (fun _ => rfl))⟩, (StT.r (pOd_5 hk5) (by have hp := Yst.pos v1p.1 (by omega); rw [show owU s n p = yLx s n 0 p by unfold yLx; rw [if_neg (by decide), if_pos hk5, owU5 hk5]]; exact hp))⟩⟩
