def wr (M : cM) (a b : Int) : Int := M 68 (8 * (8 * M 63 14 + a) + b).toNat
theorem kx_172_0 : x_code k_P 172 0 = some (.iload_n 0, 1) := by decide +kernel
theorem kx_172_1 : x_code k_P 172 1 = some (.iload_n 1, 1) := by decide +kernel
theorem kx_172_2 : x_code k_P 172 2 = some (.if_icmp .lt 12, 3) := by decide +kernel
theorem kx_172_14 : x_code k_P 172 14 = some (.iconst 0, 1) := by decide +kernel
theorem kx_172_15 : x_code k_P 172 15 = some (.ireturn, 1) := by decide +kernel
theorem kq_172 : x_retk k_P 172 = 2 := by decide +kernel
theorem kx_172_5 : x_code k_P 172 5 = some (.iload_n 0, 1) := by decide +kernel
theorem kx_172_6 : x_code k_P 172 6 = some (.iload_n 2, 1) := by decide +kernel
theorem kx_172_7 : x_code k_P 172 7 = some (.if_icmp .gt 7, 3) := by decide +kernel
theorem kx_172_10 : x_code k_P 172 10 = some (.iconst 1, 1) := by decide +kernel
theorem kx_172_11 : x_code k_P 172 11 = some (.goto 4, 3) := by decide +kernel
theorem m_172 {xs : Nat → Int} {Ln d : Nat} {T : List cK} {M : cM} (hT : TT T) (hI : Rng M) {v_ least most : Int} : cC k_P xs Ln (d + 0) 172 [(0, v_), (0, least), (0, most)] (T, M) (qF T M 0 (fun v => (v = 1 ∧ least ≤ v_ ∧ v_ ≤ most) ∨ (v = 0 ∧ (v_ < least ∨ most < v_)))) := by
  show cP k_P xs Ln (d + 0) 172 0 [(0, (0, v_)), (1, (0, least)), (2, (0, most))] [] (T, M) _
  refine s_iload_n kx_172_0 rfl ?_
  refine s_iload_n kx_172_1 rfl ?_
  refine s_icmp_lt (t := 14) kx_172_2 (by decide) (fun hc1 => ?_) (fun hc1 => ?_)
  · refine s_iconst (v := 0) kx_172_14 (by decide) ?_
    exact s_iret kx_172_15 (Or.inr ⟨kq_172, by omega⟩) ⟨_, rfl, rfl, (by omega)⟩
  · refine s_iload_n kx_172_5 rfl ?_
    refine s_iload_n kx_172_6 rfl ?_
    refine s_icmp_gt (t := 14) kx_172_7 (by decide) (fun hc2 => ?_) (fun hc2 => ?_)
    · refine s_iconst (v := 0) kx_172_14 (by decide) ?_
      exact s_iret kx_172_15 (Or.inr ⟨kq_172, by omega⟩) ⟨_, rfl, rfl, (by omega)⟩
    · refine s_iconst (v := 1) kx_172_10 (by decide) ?_
      refine s_goto (t := 15) kx_172_11 (by decide) ?_
      exact s_iret kx_172_15 (Or.inr ⟨kq_172, by omega⟩) ⟨_, rfl, rfl, (by omega)⟩
theorem kx_177_0 : x_code k_P 177 0 = some (.iload_n 0, 1) := by decide +kernel
theorem kx_177_1 : x_code k_P 177 1 = some (.bipush 97, 2) := by decide +kernel
theorem kx_177_3 : x_code k_P 177 3 = some (.if_icmp .lt 13, 3) := by decide +kernel
theorem kx_177_16 : x_code k_P 177 16 = some (.iconst 0, 1) := by decide +kernel
theorem kx_177_17 : x_code k_P 177 17 = some (.ireturn, 1) := by decide +kernel
theorem kq_177 : x_retk k_P 177 = 2 := by decide +kernel
theorem kx_177_6 : x_code k_P 177 6 = some (.iload_n 0, 1) := by decide +kernel
theorem kx_177_7 : x_code k_P 177 7 = some (.bipush 122, 2) := by decide +kernel
theorem kx_177_9 : x_code k_P 177 9 = some (.if_icmp .gt 7, 3) := by decide +kernel
theorem kx_177_12 : x_code k_P 177 12 = some (.iconst 1, 1) := by decide +kernel
theorem kx_177_13 : x_code k_P 177 13 = some (.goto 4, 3) := by decide +kernel
theorem m_177 {xs : Nat → Int} {Ln d : Nat} {T : List cK} {M : cM} (hT : TT T) (hI : Rng M) {c : Int} : cC k_P xs Ln (d + 0) 177 [(0, c)] (T, M) (qF T M 0 (fun v => (v = 1 ∧ 97 ≤ c ∧ c ≤ 122) ∨ (v = 0 ∧ (c < 97 ∨ 122 < c)))) := by
  show cP k_P xs Ln (d + 0) 177 0 [(0, (0, c))] [] (T, M) _
  refine s_iload_n kx_177_0 rfl ?_
  refine s_bipush (v := 97) kx_177_1 (by decide) ?_
  refine s_icmp_lt (t := 16) kx_177_3 (by decide) (fun hc1 => ?_) (fun hc1 => ?_)
  · refine s_iconst (v := 0) kx_177_16 (by decide) ?_
    exact s_iret kx_177_17 (Or.inr ⟨kq_177, by omega⟩) ⟨_, rfl, rfl, (by omega)⟩
  · refine s_iload_n kx_177_6 rfl ?_
    refine s_bipush (v := 122) kx_177_7 (by decide) ?_
    refine s_icmp_gt (t := 16) kx_177_9 (by decide) (fun hc2 => ?_) (fun hc2 => ?_)
    · refine s_iconst (v := 0) kx_177_16 (by decide) ?_
      exact s_iret kx_177_17 (Or.inr ⟨kq_177, by omega⟩) ⟨_, rfl, rfl, (by omega)⟩
    · refine s_iconst (v := 1) kx_177_12 (by decide) ?_
      refine s_goto (t := 17) kx_177_13 (by decide) ?_
      exact s_iret kx_177_17 (Or.inr ⟨kq_177, by omega⟩) ⟨_, rfl, rfl, (by omega)⟩
theorem kx_178_0 : x_code k_P 178 0 = some (.iload_n 0, 1) := by decide +kernel
theorem kx_178_1 : x_code k_P 178 1 = some (.bipush 48, 2) := by decide +kernel
theorem kx_178_3 : x_code k_P 178 3 = some (.if_icmp .lt 13, 3) := by decide +kernel
theorem kx_178_16 : x_code k_P 178 16 = some (.iconst 0, 1) := by decide +kernel
theorem kx_178_17 : x_code k_P 178 17 = some (.ireturn, 1) := by decide +kernel
theorem kq_178 : x_retk k_P 178 = 2 := by decide +kernel
theorem kx_178_6 : x_code k_P 178 6 = some (.iload_n 0, 1) := by decide +kernel
theorem kx_178_7 : x_code k_P 178 7 = some (.bipush 57, 2) := by decide +kernel
theorem kx_178_9 : x_code k_P 178 9 = some (.if_icmp .gt 7, 3) := by decide +kernel
theorem kx_178_12 : x_code k_P 178 12 = some (.iconst 1, 1) := by decide +kernel
theorem kx_178_13 : x_code k_P 178 13 = some (.goto 4, 3) := by decide +kernel
theorem m_178 {xs : Nat → Int} {Ln d : Nat} {T : List cK} {M : cM} (hT : TT T) (hI : Rng M) {c : Int} : cC k_P xs Ln (d + 0) 178 [(0, c)] (T, M) (qF T M 0 (fun v => (v = 1 ∧ 48 ≤ c ∧ c ≤ 57) ∨ (v = 0 ∧ (c < 48 ∨ 57 < c)))) := by
  show cP k_P xs Ln (d + 0) 178 0 [(0, (0, c))] [] (T, M) _
  refine s_iload_n kx_178_0 rfl ?_
  refine s_bipush (v := 48) kx_178_1 (by decide) ?_
  refine s_icmp_lt (t := 16) kx_178_3 (by decide) (fun hc1 => ?_) (fun hc1 => ?_)
  · refine s_iconst (v := 0) kx_178_16 (by decide) ?_
    exact s_iret kx_178_17 (Or.inr ⟨kq_178, by omega⟩) ⟨_, rfl, rfl, (by omega)⟩
  · refine s_iload_n kx_178_6 rfl ?_
    refine s_bipush (v := 57) kx_178_7 (by decide) ?_
    refine s_icmp_gt (t := 16) kx_178_9 (by decide) (fun hc2 => ?_) (fun hc2 => ?_)
    · refine s_iconst (v := 0) kx_178_16 (by decide) ?_
      exact s_iret kx_178_17 (Or.inr ⟨kq_178, by omega⟩) ⟨_, rfl, rfl, (by omega)⟩
    · refine s_iconst (v := 1) kx_178_12 (by decide) ?_
      refine s_goto (t := 17) kx_178_13 (by decide) ?_
      exact s_iret kx_178_17 (Or.inr ⟨kq_178, by omega⟩) ⟨_, rfl, rfl, (by omega)⟩
theorem kx_218_0 : x_code k_P 218 0 = some (.aload_n 0, 1) := by decide +kernel
theorem kx_218_1 : x_code k_P 218 1 = some (.getfield 156, 3) := by decide +kernel
theorem kp_218_156 : x_pool k_P 218 156 = (1, 12, 47) := by decide +kernel
theorem kf_12_47 : (x_cls k_P 12)[47]? = some 12 := by decide +kernel
theorem kx_218_4 : x_code k_P 218 4 = some (.iload_n 1, 1) := by decide +kernel
theorem kx_218_5 : x_code k_P 218 5 = some (.dup2, 1) := by decide +kernel
theorem kx_218_6 : x_code k_P 218 6 = some (.iaload, 1) := by decide +kernel
theorem kx_218_7 : x_code k_P 218 7 = some (.iconst 1, 1) := by decide +kernel
theorem kx_218_8 : x_code k_P 218 8 = some (.iadd, 1) := by decide +kernel
theorem kx_218_9 : x_code k_P 218 9 = some (.iastore, 1) := by decide +kernel
theorem kx_218_10 : x_code k_P 218 10 = some (.iconst (-1), 1) := by decide +kernel
theorem kx_218_11 : x_code k_P 218 11 = some (.ireturn, 1) := by decide +kernel
theorem kq_218 : x_retk k_P 218 = 1 := by decide +kernel
def fS_218_m : List (Nat × Nat) := [(91, 99999)]
theorem m_218 {xs : Nat → Int} {Ln d : Nat} {T : List cK} {M : cM} (hT : TT T) (hI : Rng M) {kind : Int} (p0 : 0 ≤ kind ∧ kind ≤ 5) : cC k_P xs Ln (d + 0) 218 [rf 63, (0, kind)] (T, M) (qW T M fS_218_m 0 (fun v M1 => (-1) ≤ v ∧ v ≤ (-1))) := by
  show cP k_P xs Ln (d + 0) 218 0 [(0, rf 63), (1, (0, kind))] [] (T, M) _
  have hFm : Fr fS_218_m M M := Fr.refl
  refine s_aload_n kx_218_0 rfl ?_
  refine r_getR (k := 63) (f := 47) (k2 := 91) kx_218_1 kp_218_156 (tk_63 hT) kf_12_47 (by decide) (rq_63_47 hI) ?_
  refine s_iload_n kx_218_4 rfl ?_
  refine s_dup2 kx_218_5 rfl rfl ?_
  refine r_aldU (k := 91) kx_218_6 (tk_91 hT) ⟨by omega, by omega⟩ (fun v1 v1e => ?_)
  refine s_iconst (v := 1) kx_218_7 (by decide) ?_
  refine r_iaddR kx_218_8 (fun v2 v2a v2b => ?_)
  refine r_ast (k := 91) kx_218_9 (tk_91 hT) ⟨by omega, by omega⟩ hI ru_91 (fun M3 hI3 u3 => ?_)
  have hFm3 := hFm.up u3 rfl
  refine s_iconst (v := (-1)) kx_218_10 (by decide) ?_
  exact s_iret kx_218_11 (Or.inl kq_218) ⟨_, _, rfl, rfl, hI3, hFm3, (by omega)⟩
theorem kx_219_0 : x_code k_P 219 0 = some (.iload_n 1, 1) := by decide +kernel
theorem kx_219_1 : x_code k_P 219 1 = some (.iconst 0, 1) := by decide +kernel
theorem kx_219_2 : x_code k_P 219 2 = some (.iconst 5, 1) := by decide +kernel
theorem kx_219_3 : x_code k_P 219 3 = some (.invokestatic 345, 3) := by decide +kernel
theorem kp_219_345 : x_pool k_P 219 345 = (6, 172, 3) := by decide +kernel
theorem kcl_172 : x_maxL k_P 172 ≤ 60 ∧ 3 ≤ x_maxL k_P 172 := by decide +kernel
theorem kx_219_6 : x_code k_P 219 6 = some (.ifCond .eq 12, 3) := by decide +kernel
theorem kx_219_18 : x_code k_P 219 18 = some (.iconst (-1), 1) := by decide +kernel
theorem kx_219_19 : x_code k_P 219 19 = some (.ireturn, 1) := by decide +kernel
theorem kq_219 : x_retk k_P 219 = 1 := by decide +kernel
theorem kx_219_9 : x_code k_P 219 9 = some (.aload_n 0, 1) := by decide +kernel
theorem kx_219_10 : x_code k_P 219 10 = some (.getfield 156, 3) := by decide +kernel
theorem kp_219_156 : x_pool k_P 219 156 = (1, 12, 47) := by decide +kernel
theorem kx_219_13 : x_code k_P 219 13 = some (.iload_n 1, 1) := by decide +kernel
theorem kx_219_14 : x_code k_P 219 14 = some (.iaload, 1) := by decide +kernel
theorem kx_219_15 : x_code k_P 219 15 = some (.goto 4, 3) := by decide +kernel
theorem m_219 {xs : Nat → Int} {Ln d : Nat} {T : List cK} {M : cM} (hT : TT T) (hI : Rng M) {what : Int} : cC k_P xs Ln (d + 1) 219 [rf 63, (0, what)] (T, M) (qF T M 0 (fun v => True)) := by
  show cP k_P xs Ln (d + 1) 219 0 [(0, rf 63), (1, (0, what))] [] (T, M) _
  refine s_iload_n kx_219_0 rfl ?_
  refine s_iconst (v := 0) kx_219_1 (by decide) ?_
  refine s_iconst (v := 5) kx_219_2 (by decide) ?_
  refine s_callS2 (s1 := 3) (s2 := 0) (as := [(0, 5), (0, 0), (0, what)]) (rest := []) kx_219_3 kp_219_345 rfl kcl_172 rfl rfl (by decide) (m_172 (d := d) (v_ := what) (least := 0) (most := 5) hT hI) (kF (fun v1 v1p => ?_))
  refine s_if_eq (t := 18) kx_219_6 (by decide) (fun hc2 => ?_) (fun hc2 => ?_)
  · replace v1p := v1p.resolve_left (by omega)
    refine s_iconst (v := (-1)) kx_219_18 (by decide) ?_
    exact s_iret kx_219_19 (Or.inl kq_219) ⟨_, rfl, rfl, trivial⟩
  · replace v1p := v1p.resolve_right (by omega)
    refine s_aload_n kx_219_9 rfl ?_
    refine r_getR (k := 63) (f := 47) (k2 := 91) kx_219_10 kp_219_156 (tk_63 hT) kf_12_47 (by decide) (rq_63_47 hI) ?_
    refine s_iload_n kx_219_13 rfl ?_
    refine r_aldU (k := 91) kx_219_14 (tk_91 hT) ⟨by omega, by omega⟩ (fun v3 v3e => ?_)
    refine s_goto (t := 19) kx_219_15 (by decide) ?_
    exact s_iret kx_219_19 (Or.inl kq_219) ⟨_, rfl, rfl, trivial⟩
theorem kx_217_0 : x_code k_P 217 0 = some (.iload_n 1, 1) := by decide +kernel
theorem kx_217_1 : x_code k_P 217 1 = some (.ifCond .ne 10, 3) := by decide +kernel
theorem kx_217_11 : x_code k_P 217 11 = some (.iload_n 1, 1) := by decide +kernel
theorem kx_217_12 : x_code k_P 217 12 = some (.iconst 1, 1) := by decide +kernel
theorem kx_217_13 : x_code k_P 217 13 = some (.if_icmp .ne 10, 3) := by decide +kernel
theorem kx_217_23 : x_code k_P 217 23 = some (.iconst (-1), 1) := by decide +kernel
theorem kx_217_24 : x_code k_P 217 24 = some (.ireturn, 1) := by decide +kernel
theorem kq_217 : x_retk k_P 217 = 1 := by decide +kernel
theorem kx_217_16 : x_code k_P 217 16 = some (.aload_n 0, 1) := by decide +kernel
theorem kx_217_17 : x_code k_P 217 17 = some (.getfield 48, 3) := by decide +kernel
theorem kp_217_48 : x_pool k_P 217 48 = (1, 12, 12) := by decide +kernel
theorem kf_12_12 : (x_cls k_P 12)[12]? = some 0 := by decide +kernel
theorem kx_217_20 : x_code k_P 217 20 = some (.goto 4, 3) := by decide +kernel
theorem kx_217_4 : x_code k_P 217 4 = some (.aload_n 0, 1) := by decide +kernel
theorem kx_217_5 : x_code k_P 217 5 = some (.getfield 45, 3) := by decide +kernel
theorem kp_217_45 : x_pool k_P 217 45 = (1, 12, 11) := by decide +kernel
theorem kf_12_11 : (x_cls k_P 12)[11]? = some 0 := by decide +kernel
theorem kx_217_8 : x_code k_P 217 8 = some (.goto 16, 3) := by decide +kernel
theorem m_217 {xs : Nat → Int} {Ln d : Nat} {T : List cK} {M : cM} (hT : TT T) (hI : Rng M) {what : Int} : cC k_P xs Ln (d + 0) 217 [rf 63, (0, what)] (T, M) (qF T M 0 (fun v => True)) := by
  show cP k_P xs Ln (d + 0) 217 0 [(0, rf 63), (1, (0, what))] [] (T, M) _
  refine s_iload_n kx_217_0 rfl ?_
  refine s_if_ne (t := 11) kx_217_1 (by decide) (fun hc1 => ?_) (fun hc1 => ?_)
  · refine s_iload_n kx_217_11 rfl ?_
    refine s_iconst (v := 1) kx_217_12 (by decide) ?_
    refine s_icmp_ne (t := 23) kx_217_13 (by decide) (fun hc2 => ?_) (fun hc2 => ?_)
    · refine s_iconst (v := (-1)) kx_217_23 (by decide) ?_
      exact s_iret kx_217_24 (Or.inl kq_217) ⟨_, rfl, rfl, trivial⟩
    · refine s_aload_n kx_217_16 rfl ?_
      refine r_getU (k := 63) (f := 12) kx_217_17 kp_217_48 (tk_63 hT) kf_12_12 (fun _ => rfl) (fun v3 v3e => ?_)
      refine s_goto (t := 24) kx_217_20 (by decide) ?_
      exact s_iret kx_217_24 (Or.inl kq_217) ⟨_, rfl, rfl, trivial⟩
  · refine s_aload_n kx_217_4 rfl ?_
    refine r_getU (k := 63) (f := 11) kx_217_5 kp_217_45 (tk_63 hT) kf_12_11 (fun _ => rfl) (fun v4 v4e => ?_)
    refine s_goto (t := 24) kx_217_8 (by decide) ?_
    exact s_iret kx_217_24 (Or.inl kq_217) ⟨_, rfl, rfl, trivial⟩
theorem kx_220_0 : x_code k_P 220 0 = some (.iload_n 1, 1) := by decide +kernel
theorem kx_220_1 : x_code k_P 220 1 = some (.ifCond .lt 20, 3) := by decide +kernel
theorem kx_220_21 : x_code k_P 220 21 = some (.iconst 0, 1) := by decide +kernel
theorem kx_220_22 : x_code k_P 220 22 = some (.ireturn, 1) := by decide +kernel
theorem kq_220 : x_retk k_P 220 = 2 := by decide +kernel
theorem kx_220_4 : x_code k_P 220 4 = some (.iload_n 1, 1) := by decide +kernel
theorem kx_220_5 : x_code k_P 220 5 = some (.aload_n 0, 1) := by decide +kernel
theorem kx_220_6 : x_code k_P 220 6 = some (.getfield 57, 3) := by decide +kernel
theorem kp_220_57 : x_pool k_P 220 57 = (1, 12, 15) := by decide +kernel
theorem kf_12_15 : (x_cls k_P 12)[15]? = some 12 := by decide +kernel
theorem kx_220_9 : x_code k_P 220 9 = some (.aload_n 0, 1) := by decide +kernel
theorem kx_220_10 : x_code k_P 220 10 = some (.getfield 54, 3) := by decide +kernel
theorem kp_220_54 : x_pool k_P 220 54 = (1, 12, 14) := by decide +kernel
theorem kf_12_14 : (x_cls k_P 12)[14]? = some 0 := by decide +kernel
theorem kx_220_13 : x_code k_P 220 13 = some (.iaload, 1) := by decide +kernel
theorem kx_220_14 : x_code k_P 220 14 = some (.if_icmp .ge 7, 3) := by decide +kernel
theorem kx_220_17 : x_code k_P 220 17 = some (.iconst 1, 1) := by decide +kernel
theorem kx_220_18 : x_code k_P 220 18 = some (.goto 4, 3) := by decide +kernel
theorem m_220 {xs : Nat → Int} {Ln d : Nat} {T : List cK} {M : cM} (hT : TT T) (hI : Rng M) {r : Int} : cC k_P xs Ln (d + 0) 220 [rf 63, (0, r)] (T, M) (qF T M 0 (fun v => (v = 1 ∧ 0 ≤ r ∧ r ≤ 7 ∧ r < M 65 (M 63 14).toNat) ∨ (v = 0 ∧ (r < 0 ∨ M 65 (M 63 14).toNat ≤ r)))) := by
  show cP k_P xs Ln (d + 0) 220 0 [(0, rf 63), (1, (0, r))] [] (T, M) _
  refine s_iload_n kx_220_0 rfl ?_
  refine s_if_lt (t := 21) kx_220_1 (by decide) (fun hc1 => ?_) (fun hc1 => ?_)
  · refine s_iconst (v := 0) kx_220_21 (by decide) ?_
    exact s_iret kx_220_22 (Or.inr ⟨kq_220, by omega⟩) ⟨_, rfl, rfl, (by omega)⟩
  · refine s_iload_n kx_220_4 rfl ?_
    refine s_aload_n kx_220_5 rfl ?_
    refine r_getR (k := 63) (f := 15) (k2 := 65) kx_220_6 kp_220_57 (tk_63 hT) kf_12_15 (by decide) (rq_63_15 hI) ?_
    refine s_aload_n kx_220_9 rfl ?_
    refine r_getI (k := 63) (f := 14) kx_220_10 kp_220_54 (tk_63 hT) kf_12_14 (fun _ => rfl) (rg_63_14 hI) (fun v2 v2e v2a v2b => ?_)
    refine r_ald (k := 65) kx_220_13 (tk_65 hT) ⟨by omega, by omega⟩ (rg_65 hI) (fun v3 v3e v3a v3b => ?_)
    refine s_icmp_ge (t := 21) kx_220_14 (by decide) (fun hc4 => ?_) (fun hc4 => ?_)
    · refine s_iconst (v := 0) kx_220_21 (by decide) ?_
      have hq5 : M 65 (M 63 14).toNat = v3 := by rw [v2e]; exact v3e
      exact s_iret kx_220_22 (Or.inr ⟨kq_220, by omega⟩) ⟨_, rfl, rfl, (by omega)⟩
    · refine s_iconst (v := 1) kx_220_17 (by decide) ?_
      refine s_goto (t := 22) kx_220_18 (by decide) ?_
      have hq6 : M 65 (M 63 14).toNat = v3 := by rw [v2e]; exact v3e
      exact s_iret kx_220_22 (Or.inr ⟨kq_220, by omega⟩) ⟨_, rfl, rfl, (by omega)⟩
theorem kx_221_0 : x_code k_P 221 0 = some (.iload_n 1, 1) := by decide +kernel
theorem kx_221_1 : x_code k_P 221 1 = some (.ifCond .lt 20, 3) := by decide +kernel
theorem kx_221_21 : x_code k_P 221 21 = some (.iconst 0, 1) := by decide +kernel
theorem kx_221_22 : x_code k_P 221 22 = some (.ireturn, 1) := by decide +kernel
theorem kq_221 : x_retk k_P 221 = 2 := by decide +kernel
theorem kx_221_4 : x_code k_P 221 4 = some (.iload_n 1, 1) := by decide +kernel
theorem kx_221_5 : x_code k_P 221 5 = some (.aload_n 0, 1) := by decide +kernel
theorem kx_221_6 : x_code k_P 221 6 = some (.getfield 69, 3) := by decide +kernel
theorem kp_221_69 : x_pool k_P 221 69 = (1, 12, 19) := by decide +kernel
theorem kf_12_19 : (x_cls k_P 12)[19]? = some 12 := by decide +kernel
theorem kx_221_9 : x_code k_P 221 9 = some (.aload_n 0, 1) := by decide +kernel
theorem kx_221_10 : x_code k_P 221 10 = some (.getfield 54, 3) := by decide +kernel
theorem kp_221_54 : x_pool k_P 221 54 = (1, 12, 14) := by decide +kernel
theorem kx_221_13 : x_code k_P 221 13 = some (.iaload, 1) := by decide +kernel
theorem kx_221_14 : x_code k_P 221 14 = some (.if_icmp .ge 7, 3) := by decide +kernel
theorem kx_221_17 : x_code k_P 221 17 = some (.iconst 1, 1) := by decide +kernel
theorem kx_221_18 : x_code k_P 221 18 = some (.goto 4, 3) := by decide +kernel
theorem m_221 {xs : Nat → Int} {Ln d : Nat} {T : List cK} {M : cM} (hT : TT T) (hI : Rng M) {p : Int} : cC k_P xs Ln (d + 0) 221 [rf 63, (0, p)] (T, M) (qF T M 0 (fun v => (v = 1 ∧ 0 ≤ p ∧ p ≤ 7 ∧ p < M 69 (M 63 14).toNat) ∨ (v = 0 ∧ (p < 0 ∨ M 69 (M 63 14).toNat ≤ p)))) := by
  show cP k_P xs Ln (d + 0) 221 0 [(0, rf 63), (1, (0, p))] [] (T, M) _
  refine s_iload_n kx_221_0 rfl ?_
  refine s_if_lt (t := 21) kx_221_1 (by decide) (fun hc1 => ?_) (fun hc1 => ?_)
  · refine s_iconst (v := 0) kx_221_21 (by decide) ?_
    exact s_iret kx_221_22 (Or.inr ⟨kq_221, by omega⟩) ⟨_, rfl, rfl, (by omega)⟩
  · refine s_iload_n kx_221_4 rfl ?_
    refine s_aload_n kx_221_5 rfl ?_
    refine r_getR (k := 63) (f := 19) (k2 := 69) kx_221_6 kp_221_69 (tk_63 hT) kf_12_19 (by decide) (rq_63_19 hI) ?_
    refine s_aload_n kx_221_9 rfl ?_
    refine r_getI (k := 63) (f := 14) kx_221_10 kp_221_54 (tk_63 hT) kf_12_14 (fun _ => rfl) (rg_63_14 hI) (fun v2 v2e v2a v2b => ?_)
    refine r_ald (k := 69) kx_221_13 (tk_69 hT) ⟨by omega, by omega⟩ (rg_69 hI) (fun v3 v3e v3a v3b => ?_)
    refine s_icmp_ge (t := 21) kx_221_14 (by decide) (fun hc4 => ?_) (fun hc4 => ?_)
    · refine s_iconst (v := 0) kx_221_21 (by decide) ?_
      have hq5 : M 69 (M 63 14).toNat = v3 := by rw [v2e]; exact v3e
      exact s_iret kx_221_22 (Or.inr ⟨kq_221, by omega⟩) ⟨_, rfl, rfl, (by omega)⟩
    · refine s_iconst (v := 1) kx_221_17 (by decide) ?_
      refine s_goto (t := 22) kx_221_18 (by decide) ?_
      have hq6 : M 69 (M 63 14).toNat = v3 := by rw [v2e]; exact v3e
      exact s_iret kx_221_22 (Or.inr ⟨kq_221, by omega⟩) ⟨_, rfl, rfl, (by omega)⟩
theorem kx_222_0 : x_code k_P 222 0 = some (.iload_n 0, 1) := by decide +kernel
theorem kx_222_1 : x_code k_P 222 1 = some (.iload_n 1, 1) := by decide +kernel
theorem kx_222_2 : x_code k_P 222 2 = some (.ishr, 1) := by decide +kernel
theorem kx_222_3 : x_code k_P 222 3 = some (.iconst 1, 1) := by decide +kernel
theorem kx_222_4 : x_code k_P 222 4 = some (.iand, 1) := by decide +kernel
theorem kx_222_5 : x_code k_P 222 5 = some (.iconst 1, 1) := by decide +kernel
theorem kx_222_6 : x_code k_P 222 6 = some (.if_icmp .ne 7, 3) := by decide +kernel
theorem kx_222_13 : x_code k_P 222 13 = some (.iconst 0, 1) := by decide +kernel
theorem kx_222_14 : x_code k_P 222 14 = some (.ireturn, 1) := by decide +kernel
theorem kq_222 : x_retk k_P 222 = 2 := by decide +kernel
theorem kx_222_9 : x_code k_P 222 9 = some (.iconst 1, 1) := by decide +kernel
theorem kx_222_10 : x_code k_P 222 10 = some (.goto 4, 3) := by decide +kernel
theorem m_222 {xs : Nat → Int} {Ln d : Nat} {T : List cK} {M : cM} (hT : TT T) (hI : Rng M) {set k : Int} : cC k_P xs Ln (d + 0) 222 [(0, set), (0, k)] (T, M) (qF T M 0 (fun v => 0 ≤ v ∧ v ≤ 1)) := by
  show cP k_P xs Ln (d + 0) 222 0 [(0, (0, set)), (1, (0, k))] [] (T, M) _
  refine s_iload_n kx_222_0 rfl ?_
  refine s_iload_n kx_222_1 rfl ?_
  refine r_ishrR kx_222_2 (fun v1 v1a v1b => ?_)
  refine s_iconst (v := 1) kx_222_3 (by decide) ?_
  refine r_iandM kx_222_4 (by decide) (by decide) (fun v2 v2a v2b => ?_)
  refine s_iconst (v := 1) kx_222_5 (by decide) ?_
  refine s_icmp_ne (t := 13) kx_222_6 (by decide) (fun hc3 => ?_) (fun hc3 => ?_)
  · refine s_iconst (v := 0) kx_222_13 (by decide) ?_
    exact s_iret kx_222_14 (Or.inr ⟨kq_222, by omega⟩) ⟨_, rfl, rfl, (by omega)⟩
  · refine s_iconst (v := 1) kx_222_9 (by decide) ?_
    refine s_goto (t := 14) kx_222_10 (by decide) ?_
    exact s_iret kx_222_14 (Or.inr ⟨kq_222, by omega⟩) ⟨_, rfl, rfl, (by omega)⟩
theorem kx_237_0 : x_code k_P 237 0 = some (.aload_n 0, 1) := by decide +kernel
theorem kx_237_1 : x_code k_P 237 1 = some (.getfield 78, 3) := by decide +kernel
theorem kp_237_78 : x_pool k_P 237 78 = (1, 12, 22) := by decide +kernel
theorem kf_12_22 : (x_cls k_P 12)[22]? = some 12 := by decide +kernel
theorem kx_237_4 : x_code k_P 237 4 = some (.bipush 8, 2) := by decide +kernel
theorem kx_237_6 : x_code k_P 237 6 = some (.aload_n 0, 1) := by decide +kernel
theorem kx_237_7 : x_code k_P 237 7 = some (.getfield 54, 3) := by decide +kernel
theorem kp_237_54 : x_pool k_P 237 54 = (1, 12, 14) := by decide +kernel
theorem kx_237_10 : x_code k_P 237 10 = some (.imul, 1) := by decide +kernel
theorem kx_237_11 : x_code k_P 237 11 = some (.iload_n 1, 1) := by decide +kernel
theorem kx_237_12 : x_code k_P 237 12 = some (.iadd, 1) := by decide +kernel
theorem kx_237_13 : x_code k_P 237 13 = some (.iaload, 1) := by decide +kernel
theorem kx_237_14 : x_code k_P 237 14 = some (.ireturn, 1) := by decide +kernel
theorem kq_237 : x_retk k_P 237 = 1 := by decide +kernel
theorem m_237 {xs : Nat → Int} {Ln d : Nat} {T : List cK} {M : cM} (hT : TT T) (hI : Rng M) {c : Int} (p0 : 0 ≤ c ∧ c ≤ 7) : cC k_P xs Ln (d + 0) 237 [rf 63, (0, c)] (T, M) (qF T M 0 (fun v => True)) := by
  show cP k_P xs Ln (d + 0) 237 0 [(0, rf 63), (1, (0, c))] [] (T, M) _
  refine s_aload_n kx_237_0 rfl ?_
  refine r_getR (k := 63) (f := 22) (k2 := 72) kx_237_1 kp_237_78 (tk_63 hT) kf_12_22 (by decide) (rq_63_22 hI) ?_
  refine s_bipush (v := 8) kx_237_4 (by decide) ?_
  refine s_aload_n kx_237_6 rfl ?_
  refine r_getI (k := 63) (f := 14) kx_237_7 kp_237_54 (tk_63 hT) kf_12_14 (fun _ => rfl) (rg_63_14 hI) (fun v1 v1e v1a v1b => ?_)
  refine r_mul kx_237_10 ⟨by omega, by omega⟩ ?_
  refine s_iload_n kx_237_11 rfl ?_
  refine r_add kx_237_12 ⟨by omega, by omega⟩ ?_
  refine r_aldU (k := 72) kx_237_13 (tk_72 hT) ⟨by omega, by omega⟩ (fun v2 v2e => ?_)
  exact s_iret kx_237_14 (Or.inl kq_237) ⟨_, rfl, rfl, trivial⟩
theorem kx_238_0 : x_code k_P 238 0 = some (.aload_n 0, 1) := by decide +kernel
theorem kx_238_1 : x_code k_P 238 1 = some (.getfield 84, 3) := by decide +kernel
theorem kp_238_84 : x_pool k_P 238 84 = (1, 12, 24) := by decide +kernel
theorem kf_12_24 : (x_cls k_P 12)[24]? = some 12 := by decide +kernel
theorem kx_238_4 : x_code k_P 238 4 = some (.bipush 8, 2) := by decide +kernel
theorem kx_238_6 : x_code k_P 238 6 = some (.aload_n 0, 1) := by decide +kernel
theorem kx_238_7 : x_code k_P 238 7 = some (.getfield 54, 3) := by decide +kernel
theorem kp_238_54 : x_pool k_P 238 54 = (1, 12, 14) := by decide +kernel
theorem kx_238_10 : x_code k_P 238 10 = some (.imul, 1) := by decide +kernel
theorem kx_238_11 : x_code k_P 238 11 = some (.iload_n 1, 1) := by decide +kernel
theorem kx_238_12 : x_code k_P 238 12 = some (.iadd, 1) := by decide +kernel
theorem kx_238_13 : x_code k_P 238 13 = some (.iaload, 1) := by decide +kernel
theorem kx_238_14 : x_code k_P 238 14 = some (.ireturn, 1) := by decide +kernel
theorem kq_238 : x_retk k_P 238 = 1 := by decide +kernel
theorem m_238 {xs : Nat → Int} {Ln d : Nat} {T : List cK} {M : cM} (hT : TT T) (hI : Rng M) {p : Int} (p0 : 0 ≤ p ∧ p ≤ 7) : cC k_P xs Ln (d + 0) 238 [rf 63, (0, p)] (T, M) (qF T M 0 (fun v => (-1) ≤ v ∧ v ≤ 7 ∧ (v = M 74 (8 * M 63 14 + p).toNat))) := by
  show cP k_P xs Ln (d + 0) 238 0 [(0, rf 63), (1, (0, p))] [] (T, M) _
  refine s_aload_n kx_238_0 rfl ?_
  refine r_getR (k := 63) (f := 24) (k2 := 74) kx_238_1 kp_238_84 (tk_63 hT) kf_12_24 (by decide) (rq_63_24 hI) ?_
  refine s_bipush (v := 8) kx_238_4 (by decide) ?_
  refine s_aload_n kx_238_6 rfl ?_
  refine r_getI (k := 63) (f := 14) kx_238_7 kp_238_54 (tk_63 hT) kf_12_14 (fun _ => rfl) (rg_63_14 hI) (fun v1 v1e v1a v1b => ?_)
  refine r_mul kx_238_10 ⟨by omega, by omega⟩ ?_
  refine s_iload_n kx_238_11 rfl ?_
  refine r_add kx_238_12 ⟨by omega, by omega⟩ ?_
  refine r_ald (k := 74) kx_238_13 (tk_74 hT) ⟨by omega, by omega⟩ (rg_74 hI) (fun v2 v2e v2a v2b => ?_)
  have hq3 : M 74 (((8 * M 63 14) + p)).toNat = v2 := by rw [v1e]; exact v2e
  exact s_iret kx_238_14 (Or.inl kq_238) ⟨_, rfl, rfl, (by omega)⟩
theorem kx_239_0 : x_code k_P 239 0 = some (.aload_n 0, 1) := by decide +kernel
theorem kx_239_1 : x_code k_P 239 1 = some (.iload_n 1, 1) := by decide +kernel
theorem kx_239_2 : x_code k_P 239 2 = some (.invokevirtual 484, 3) := by decide +kernel
theorem kp_239_484 : x_pool k_P 239 484 = (2, 237, 1) := by decide +kernel
theorem ki_237 : x_mci k_P 237 = 12 := by decide +kernel
theorem kcl_237 : x_maxL k_P 237 ≤ 60 ∧ 2 ≤ x_maxL k_P 237 := by decide +kernel
theorem kx_239_5 : x_code k_P 239 5 = some (.aload_n 0, 1) := by decide +kernel
theorem kx_239_6 : x_code k_P 239 6 = some (.iload_n 1, 1) := by decide +kernel
theorem kx_239_7 : x_code k_P 239 7 = some (.invokevirtual 487, 3) := by decide +kernel
theorem kp_239_487 : x_pool k_P 239 487 = (2, 238, 1) := by decide +kernel
theorem ki_238 : x_mci k_P 238 = 12 := by decide +kernel
theorem kcl_238 : x_maxL k_P 238 ≤ 60 ∧ 2 ≤ x_maxL k_P 238 := by decide +kernel
theorem kx_239_10 : x_code k_P 239 10 = some (.iconst (-1), 1) := by decide +kernel
theorem kx_239_11 : x_code k_P 239 11 = some (.if_icmp .ne 7, 3) := by decide +kernel
theorem kx_239_18 : x_code k_P 239 18 = some (.aload_n 0, 1) := by decide +kernel
theorem kx_239_19 : x_code k_P 239 19 = some (.aload_n 0, 1) := by decide +kernel
theorem kx_239_20 : x_code k_P 239 20 = some (.iload_n 1, 1) := by decide +kernel
theorem kx_239_21 : x_code k_P 239 21 = some (.invokevirtual 487, 3) := by decide +kernel
theorem kx_239_24 : x_code k_P 239 24 = some (.invokevirtual 484, 3) := by decide +kernel
theorem kx_239_27 : x_code k_P 239 27 = some (.iadd, 1) := by decide +kernel
theorem kx_239_28 : x_code k_P 239 28 = some (.ireturn, 1) := by decide +kernel
theorem kq_239 : x_retk k_P 239 = 1 := by decide +kernel
theorem kx_239_14 : x_code k_P 239 14 = some (.iconst 0, 1) := by decide +kernel
theorem kx_239_15 : x_code k_P 239 15 = some (.goto 12, 3) := by decide +kernel
theorem m_239 {xs : Nat → Int} {Ln d : Nat} {T : List cK} {M : cM} (hT : TT T) (hI : Rng M) {c : Int} (p0 : 0 ≤ c ∧ c ≤ 7) : cC k_P xs Ln (d + 1) 239 [rf 63, (0, c)] (T, M) (qF T M 0 (fun v => True)) := by
  show cP k_P xs Ln (d + 1) 239 0 [(0, rf 63), (1, (0, c))] [] (T, M) _
  refine s_aload_n kx_239_0 rfl ?_
  refine s_iload_n kx_239_1 rfl ?_
  refine s_callV2 (k := 63) (s1 := 2) (s2 := 0) (as := [(0, c)]) (rest := []) kx_239_2 kp_239_484 (Or.inl rfl) rfl (tk_63 hT) ki_237 kcl_237 rfl rfl (by decide) (m_237 (d := d) (c := c) hT hI (by omega)) (kF (fun v1 v1p => ?_))
  refine s_aload_n kx_239_5 rfl ?_
  refine s_iload_n kx_239_6 rfl ?_
  refine s_callV2 (k := 63) (s1 := 2) (s2 := 1) (as := [(0, c)]) (rest := [(0, v1)]) kx_239_7 kp_239_487 (Or.inl rfl) rfl (tk_63 hT) ki_238 kcl_238 rfl rfl (by decide) (m_238 (d := d) (p := c) hT hI (by omega)) (kF (fun v2 v2p => ?_))
  refine s_iconst (v := (-1)) kx_239_10 (by decide) ?_
  refine s_icmp_ne (t := 18) kx_239_11 (by decide) (fun hc3 => ?_) (fun hc3 => ?_)
  · refine s_aload_n kx_239_18 rfl ?_
    refine s_aload_n kx_239_19 rfl ?_
    refine s_iload_n kx_239_20 rfl ?_
    refine s_callV2 (k := 63) (s1 := 2) (s2 := 2) (as := [(0, c)]) (rest := [rf 63, (0, v1)]) kx_239_21 kp_239_487 (Or.inl rfl) rfl (tk_63 hT) ki_238 kcl_238 rfl rfl (by decide) (m_238 (d := d) (p := c) hT hI (by omega)) (kF (fun v4 v4p => ?_))
    refine s_callV2 (k := 63) (s1 := 2) (s2 := 1) (as := [(0, v4)]) (rest := [(0, v1)]) kx_239_24 kp_239_484 (Or.inl rfl) rfl (tk_63 hT) ki_237 kcl_237 rfl rfl (by decide) (m_237 (d := d) (c := v4) hT hI (by omega)) (kF (fun v5 v5p => ?_))
    refine r_iaddR kx_239_27 (fun v6 v6a v6b => ?_)
    exact s_iret kx_239_28 (Or.inl kq_239) ⟨_, rfl, rfl, trivial⟩
  · refine s_iconst (v := 0) kx_239_14 (by decide) ?_
    refine s_goto (t := 27) kx_239_15 (by decide) ?_
    refine r_iaddR kx_239_27 (fun v7 v7a v7b => ?_)
    exact s_iret kx_239_28 (Or.inl kq_239) ⟨_, rfl, rfl, trivial⟩
theorem kx_240_0 : x_code k_P 240 0 = some (.iconst 0, 1) := by decide +kernel
theorem kx_240_1 : x_code k_P 240 1 = some (.istore_n 3, 1) := by decide +kernel
theorem km_240_3 : 3 < x_maxL k_P 240 := by decide +kernel
theorem kx_240_2 : x_code k_P 240 2 = some (.iconst 0, 1) := by decide +kernel
theorem kx_240_3 : x_code k_P 240 3 = some (.istore 4, 2) := by decide +kernel
theorem km_240_4 : 4 < x_maxL k_P 240 := by decide +kernel
theorem kx_240_5 : x_code k_P 240 5 = some (.iload 4, 2) := by decide +kernel
theorem kx_240_7 : x_code k_P 240 7 = some (.aload_n 0, 1) := by decide +kernel
theorem kx_240_8 : x_code k_P 240 8 = some (.getfield 69, 3) := by decide +kernel
theorem kp_240_69 : x_pool k_P 240 69 = (1, 12, 19) := by decide +kernel
theorem kx_240_11 : x_code k_P 240 11 = some (.aload_n 0, 1) := by decide +kernel
theorem kx_240_12 : x_code k_P 240 12 = some (.getfield 54, 3) := by decide +kernel
theorem kp_240_54 : x_pool k_P 240 54 = (1, 12, 14) := by decide +kernel
theorem kx_240_15 : x_code k_P 240 15 = some (.iaload, 1) := by decide +kernel
theorem kx_240_16 : x_code k_P 240 16 = some (.if_icmp .ge 39, 3) := by decide +kernel
theorem kx_240_55 : x_code k_P 240 55 = some (.iload_n 3, 1) := by decide +kernel
theorem kx_240_56 : x_code k_P 240 56 = some (.ireturn, 1) := by decide +kernel
theorem kq_240 : x_retk k_P 240 = 1 := by decide +kernel
theorem kx_240_19 : x_code k_P 240 19 = some (.iload_n 3, 1) := by decide +kernel
theorem kx_240_20 : x_code k_P 240 20 = some (.iload 4, 2) := by decide +kernel
theorem kx_240_22 : x_code k_P 240 22 = some (.iload_n 2, 1) := by decide +kernel
theorem kx_240_23 : x_code k_P 240 23 = some (.if_icmp .eq 23, 3) := by decide +kernel
theorem kx_240_46 : x_code k_P 240 46 = some (.iconst 0, 1) := by decide +kernel
theorem kx_240_47 : x_code k_P 240 47 = some (.iadd, 1) := by decide +kernel
theorem kx_240_48 : x_code k_P 240 48 = some (.istore_n 3, 1) := by decide +kernel
theorem kx_240_49 : x_code k_P 240 49 = some (.iinc 4 1, 3) := by decide +kernel
theorem kx_240_52 : x_code k_P 240 52 = some (.goto (-47), 3) := by decide +kernel
theorem kx_240_26 : x_code k_P 240 26 = some (.aload_n 0, 1) := by decide +kernel
theorem kx_240_27 : x_code k_P 240 27 = some (.getfield 162, 3) := by decide +kernel
theorem kp_240_162 : x_pool k_P 240 162 = (1, 12, 49) := by decide +kernel
theorem kf_12_49 : (x_cls k_P 12)[49]? = some 12 := by decide +kernel
theorem kx_240_30 : x_code k_P 240 30 = some (.iload 4, 2) := by decide +kernel
theorem kx_240_32 : x_code k_P 240 32 = some (.iaload, 1) := by decide +kernel
theorem kx_240_33 : x_code k_P 240 33 = some (.iload_n 1, 1) := by decide +kernel
theorem kx_240_34 : x_code k_P 240 34 = some (.if_icmp .ne 12, 3) := by decide +kernel
theorem kx_240_37 : x_code k_P 240 37 = some (.aload_n 0, 1) := by decide +kernel
theorem kx_240_38 : x_code k_P 240 38 = some (.iload 4, 2) := by decide +kernel
theorem kx_240_40 : x_code k_P 240 40 = some (.invokevirtual 484, 3) := by decide +kernel
theorem kp_240_484 : x_pool k_P 240 484 = (2, 237, 1) := by decide +kernel
theorem kx_240_43 : x_code k_P 240 43 = some (.goto 4, 3) := by decide +kernel
theorem m_240 {xs : Nat → Int} {Ln d : Nat} {T : List cK} {M : cM} (hT : TT T) (hI : Rng M) {r but : Int} : cC k_P xs Ln (d + 1) 240 [rf 63, (0, r), (0, but)] (T, M) (qF T M 0 (fun v => True)) := by
  show cP k_P xs Ln (d + 1) 240 0 [(0, rf 63), (1, (0, r)), (2, (0, but))] [] (T, M) _
  refine s_iconst (v := 0) kx_240_0 (by decide) ?_
  refine s_istore_n kx_240_1 km_240_3 rfl ?_
  refine s_iconst (v := 0) kx_240_2 (by decide) ?_
  refine s_istore kx_240_3 km_240_4 rfl ?_
  have key3 : ∀ n4 : Nat, ∀ (x3_1 x4_2 : Int), (0 ≤ x4_2) → (2147483647 - x4_2).toNat < n4 → cP k_P xs Ln (d + 1) 240 5 [(0, rf 63), (1, (0, r)), (2, (0, but)), (3, (0, x3_1)), (4, (0, x4_2))] [] (T, M) (qF T M 0 (fun v => True)) := by
    intro n4
    induction n4 with
    | zero => intro x3_1 x4_2 i5 hm6; exact absurd hm6 (Nat.not_lt_zero _)
    | succ n4 ih7 =>
      intro x3_1 x4_2 i5 hm6
      refine s_iload kx_240_5 rfl ?_
      refine s_aload_n kx_240_7 rfl ?_
      refine r_getR (k := 63) (f := 19) (k2 := 69) kx_240_8 kp_240_69 (tk_63 hT) kf_12_19 (by decide) (rq_63_19 hI) ?_
      refine s_aload_n kx_240_11 rfl ?_
      refine r_getI (k := 63) (f := 14) kx_240_12 kp_240_54 (tk_63 hT) kf_12_14 (fun _ => rfl) (rg_63_14 hI) (fun v8 v8e v8a v8b => ?_)
      refine r_ald (k := 69) kx_240_15 (tk_69 hT) ⟨by omega, by omega⟩ (rg_69 hI) (fun v9 v9e v9a v9b => ?_)
      refine s_icmp_ge (t := 55) kx_240_16 (by decide) (fun hc10 => ?_) (fun hc10 => ?_)
      · refine s_iload_n kx_240_55 rfl ?_
        exact s_iret kx_240_56 (Or.inl kq_240) ⟨_, rfl, rfl, trivial⟩
      · refine s_iload_n kx_240_19 rfl ?_
        refine s_iload kx_240_20 rfl ?_
        refine s_iload_n kx_240_22 rfl ?_
        refine s_icmp_eq (t := 46) kx_240_23 (by decide) (fun hc11 => ?_) (fun hc11 => ?_)
        · refine s_iconst (v := 0) kx_240_46 (by decide) ?_
          refine r_iaddR kx_240_47 (fun v12 v12a v12b => ?_)
          refine s_istore_n kx_240_48 km_240_3 rfl ?_
          refine r_iinc kx_240_49 rfl km_240_4 (by decide) ⟨by omega, by omega⟩ rfl ?_
          refine s_goto (t := 5) kx_240_52 (by decide) ?_
          exact cP.wk (lS1 rfl (lS1 rfl (lS1 rfl (lS1 rfl (lS1 rfl lS0))))) (ih7 v12 (x4_2 + 1) (by omega) (by omega))
        · refine s_aload_n kx_240_26 rfl ?_
          refine r_getR (k := 63) (f := 49) (k2 := 93) kx_240_27 kp_240_162 (tk_63 hT) kf_12_49 (by decide) (rq_63_49 hI) ?_
          refine s_iload kx_240_30 rfl ?_
          refine r_ald (k := 93) kx_240_32 (tk_93 hT) ⟨by omega, by omega⟩ (rg_93 hI (by omega)) (fun v13 v13e v13a v13b => ?_)
          refine s_iload_n kx_240_33 rfl ?_
          refine s_icmp_ne (t := 46) kx_240_34 (by decide) (fun hc14 => ?_) (fun hc14 => ?_)
          · refine s_iconst (v := 0) kx_240_46 (by decide) ?_
            refine r_iaddR kx_240_47 (fun v15 v15a v15b => ?_)
            refine s_istore_n kx_240_48 km_240_3 rfl ?_
            refine r_iinc kx_240_49 rfl km_240_4 (by decide) ⟨by omega, by omega⟩ rfl ?_
            refine s_goto (t := 5) kx_240_52 (by decide) ?_
            exact cP.wk (lS1 rfl (lS1 rfl (lS1 rfl (lS1 rfl (lS1 rfl lS0))))) (ih7 v15 (x4_2 + 1) (by omega) (by omega))
          · refine s_aload_n kx_240_37 rfl ?_
            refine s_iload kx_240_38 rfl ?_
            refine s_callV2 (k := 63) (s1 := 2) (s2 := 1) (as := [(0, x4_2)]) (rest := [(0, x3_1)]) kx_240_40 kp_240_484 (Or.inl rfl) rfl (tk_63 hT) ki_237 kcl_237 rfl rfl (by decide) (m_237 (d := d) (c := x4_2) hT hI (by omega)) (kF (fun v16 v16p => ?_))
            refine s_goto (t := 47) kx_240_43 (by decide) ?_
            refine r_iaddR kx_240_47 (fun v17 v17a v17b => ?_)
            refine s_istore_n kx_240_48 km_240_3 rfl ?_
            refine r_iinc kx_240_49 rfl km_240_4 (by decide) ⟨by omega, by omega⟩ rfl ?_
            refine s_goto (t := 5) kx_240_52 (by decide) ?_
            exact cP.wk (lS1 rfl (lS1 rfl (lS1 rfl (lS1 rfl (lS1 rfl lS0))))) (ih7 v17 (x4_2 + 1) (by omega) (by omega))
  exact cP.wk (lS1 rfl (lS1 rfl (lS1 rfl (lS1 rfl (lS1 rfl lS0))))) (key3 _ 0 0 (by omega) (Nat.lt_succ_self _))
theorem kx_241_0 : x_code k_P 241 0 = some (.aload_n 0, 1) := by decide +kernel
theorem kx_241_1 : x_code k_P 241 1 = some (.iload_n 1, 1) := by decide +kernel
theorem kx_241_2 : x_code k_P 241 2 = some (.invokevirtual 490, 3) := by decide +kernel
theorem kp_241_490 : x_pool k_P 241 490 = (2, 239, 1) := by decide +kernel
theorem ki_239 : x_mci k_P 239 = 12 := by decide +kernel
theorem kcl_239 : x_maxL k_P 239 ≤ 60 ∧ 2 ≤ x_maxL k_P 239 := by decide +kernel
theorem kx_241_5 : x_code k_P 241 5 = some (.aload_n 0, 1) := by decide +kernel
theorem kx_241_6 : x_code k_P 241 6 = some (.getfield 60, 3) := by decide +kernel
theorem kp_241_60 : x_pool k_P 241 60 = (1, 12, 16) := by decide +kernel
theorem kf_12_16 : (x_cls k_P 12)[16]? = some 12 := by decide +kernel
theorem kx_241_9 : x_code k_P 241 9 = some (.bipush 8, 2) := by decide +kernel
theorem kx_241_11 : x_code k_P 241 11 = some (.aload_n 0, 1) := by decide +kernel
theorem kx_241_12 : x_code k_P 241 12 = some (.getfield 54, 3) := by decide +kernel
theorem kp_241_54 : x_pool k_P 241 54 = (1, 12, 14) := by decide +kernel
theorem kx_241_15 : x_code k_P 241 15 = some (.imul, 1) := by decide +kernel
theorem kx_241_16 : x_code k_P 241 16 = some (.iload_n 2, 1) := by decide +kernel
theorem kx_241_17 : x_code k_P 241 17 = some (.iadd, 1) := by decide +kernel
theorem kx_241_18 : x_code k_P 241 18 = some (.iaload, 1) := by decide +kernel
theorem kx_241_19 : x_code k_P 241 19 = some (.if_icmp .gt 7, 3) := by decide +kernel
theorem kx_241_26 : x_code k_P 241 26 = some (.iconst 0, 1) := by decide +kernel
theorem kx_241_27 : x_code k_P 241 27 = some (.ireturn, 1) := by decide +kernel
theorem kq_241 : x_retk k_P 241 = 2 := by decide +kernel
theorem kx_241_22 : x_code k_P 241 22 = some (.iconst 1, 1) := by decide +kernel
theorem kx_241_23 : x_code k_P 241 23 = some (.goto 4, 3) := by decide +kernel
theorem m_241 {xs : Nat → Int} {Ln d : Nat} {T : List cK} {M : cM} (hT : TT T) (hI : Rng M) {c r : Int} (p0 : 0 ≤ c ∧ c ≤ 7) (p1 : 0 ≤ r ∧ r ≤ 7) : cC k_P xs Ln (d + 2) 241 [rf 63, (0, c), (0, r)] (T, M) (qF T M 0 (fun v => 0 ≤ v ∧ v ≤ 1)) := by
  show cP k_P xs Ln (d + 2) 241 0 [(0, rf 63), (1, (0, c)), (2, (0, r))] [] (T, M) _
  refine s_aload_n kx_241_0 rfl ?_
  refine s_iload_n kx_241_1 rfl ?_
  refine s_callV2 (k := 63) (s1 := 2) (s2 := 0) (as := [(0, c)]) (rest := []) kx_241_2 kp_241_490 (Or.inl rfl) rfl (tk_63 hT) ki_239 kcl_239 rfl rfl (by decide) (m_239 (d := d) (c := c) hT hI (by omega)) (kF (fun v1 v1p => ?_))
  refine s_aload_n kx_241_5 rfl ?_
  refine r_getR (k := 63) (f := 16) (k2 := 66) kx_241_6 kp_241_60 (tk_63 hT) kf_12_16 (by decide) (rq_63_16 hI) ?_
  refine s_bipush (v := 8) kx_241_9 (by decide) ?_
  refine s_aload_n kx_241_11 rfl ?_
  refine r_getI (k := 63) (f := 14) kx_241_12 kp_241_54 (tk_63 hT) kf_12_14 (fun _ => rfl) (rg_63_14 hI) (fun v2 v2e v2a v2b => ?_)
  refine r_mul kx_241_15 ⟨by omega, by omega⟩ ?_
  refine s_iload_n kx_241_16 rfl ?_
  refine r_add kx_241_17 ⟨by omega, by omega⟩ ?_
  refine r_aldU (k := 66) kx_241_18 (tk_66 hT) ⟨by omega, by omega⟩ (fun v3 v3e => ?_)
  refine s_icmp_gt (t := 26) kx_241_19 (by decide) (fun hc4 => ?_) (fun hc4 => ?_)
  · refine s_iconst (v := 0) kx_241_26 (by decide) ?_
    exact s_iret kx_241_27 (Or.inr ⟨kq_241, by omega⟩) ⟨_, rfl, rfl, (by omega)⟩
  · refine s_iconst (v := 1) kx_241_22 (by decide) ?_
    refine s_goto (t := 27) kx_241_23 (by decide) ?_
    exact s_iret kx_241_27 (Or.inr ⟨kq_241, by omega⟩) ⟨_, rfl, rfl, (by omega)⟩
theorem kx_242_0 : x_code k_P 242 0 = some (.aload_n 0, 1) := by decide +kernel
theorem kx_242_1 : x_code k_P 242 1 = some (.iload_n 1, 1) := by decide +kernel
theorem kx_242_2 : x_code k_P 242 2 = some (.iload_n 2, 1) := by decide +kernel
theorem kx_242_3 : x_code k_P 242 3 = some (.invokevirtual 493, 3) := by decide +kernel
theorem kp_242_493 : x_pool k_P 242 493 = (2, 241, 2) := by decide +kernel
theorem ki_241 : x_mci k_P 241 = 12 := by decide +kernel
theorem kcl_241 : x_maxL k_P 241 ≤ 60 ∧ 3 ≤ x_maxL k_P 241 := by decide +kernel
theorem kx_242_6 : x_code k_P 242 6 = some (.ifCond .eq 36, 3) := by decide +kernel
theorem kx_242_42 : x_code k_P 242 42 = some (.iconst 0, 1) := by decide +kernel
theorem kx_242_43 : x_code k_P 242 43 = some (.ireturn, 1) := by decide +kernel
theorem kq_242 : x_retk k_P 242 = 2 := by decide +kernel
theorem kx_242_9 : x_code k_P 242 9 = some (.aload_n 0, 1) := by decide +kernel
theorem kx_242_10 : x_code k_P 242 10 = some (.iload_n 2, 1) := by decide +kernel
theorem kx_242_11 : x_code k_P 242 11 = some (.iload_n 1, 1) := by decide +kernel
theorem kx_242_12 : x_code k_P 242 12 = some (.invokevirtual 497, 3) := by decide +kernel
theorem kp_242_497 : x_pool k_P 242 497 = (2, 240, 2) := by decide +kernel
theorem ki_240 : x_mci k_P 240 = 12 := by decide +kernel
theorem kcl_240 : x_maxL k_P 240 ≤ 60 ∧ 3 ≤ x_maxL k_P 240 := by decide +kernel
theorem kx_242_15 : x_code k_P 242 15 = some (.aload_n 0, 1) := by decide +kernel
theorem kx_242_16 : x_code k_P 242 16 = some (.iload_n 1, 1) := by decide +kernel
theorem kx_242_17 : x_code k_P 242 17 = some (.invokevirtual 484, 3) := by decide +kernel
theorem kp_242_484 : x_pool k_P 242 484 = (2, 237, 1) := by decide +kernel
theorem kx_242_20 : x_code k_P 242 20 = some (.iadd, 1) := by decide +kernel
theorem kx_242_21 : x_code k_P 242 21 = some (.aload_n 0, 1) := by decide +kernel
theorem kx_242_22 : x_code k_P 242 22 = some (.getfield 63, 3) := by decide +kernel
theorem kp_242_63 : x_pool k_P 242 63 = (1, 12, 17) := by decide +kernel
theorem kf_12_17 : (x_cls k_P 12)[17]? = some 12 := by decide +kernel
theorem kx_242_25 : x_code k_P 242 25 = some (.bipush 8, 2) := by decide +kernel
theorem kx_242_27 : x_code k_P 242 27 = some (.aload_n 0, 1) := by decide +kernel
theorem kx_242_28 : x_code k_P 242 28 = some (.getfield 54, 3) := by decide +kernel
theorem kp_242_54 : x_pool k_P 242 54 = (1, 12, 14) := by decide +kernel
theorem kx_242_31 : x_code k_P 242 31 = some (.imul, 1) := by decide +kernel
theorem kx_242_32 : x_code k_P 242 32 = some (.iload_n 2, 1) := by decide +kernel
theorem kx_242_33 : x_code k_P 242 33 = some (.iadd, 1) := by decide +kernel
theorem kx_242_34 : x_code k_P 242 34 = some (.iaload, 1) := by decide +kernel
theorem kx_242_35 : x_code k_P 242 35 = some (.if_icmp .gt 7, 3) := by decide +kernel
theorem kx_242_38 : x_code k_P 242 38 = some (.iconst 1, 1) := by decide +kernel
theorem kx_242_39 : x_code k_P 242 39 = some (.goto 4, 3) := by decide +kernel
theorem m_242 {xs : Nat → Int} {Ln d : Nat} {T : List cK} {M : cM} (hT : TT T) (hI : Rng M) {c r : Int} (p0 : 0 ≤ c ∧ c ≤ 7) (p1 : 0 ≤ r ∧ r ≤ 7) : cC k_P xs Ln (d + 3) 242 [rf 63, (0, c), (0, r)] (T, M) (qF T M 0 (fun v => 0 ≤ v ∧ v ≤ 1)) := by
  show cP k_P xs Ln (d + 3) 242 0 [(0, rf 63), (1, (0, c)), (2, (0, r))] [] (T, M) _
  refine s_aload_n kx_242_0 rfl ?_
  refine s_iload_n kx_242_1 rfl ?_
  refine s_iload_n kx_242_2 rfl ?_
  refine s_callV2 (k := 63) (s1 := 3) (s2 := 0) (as := [(0, r), (0, c)]) (rest := []) kx_242_3 kp_242_493 (Or.inl rfl) rfl (tk_63 hT) ki_241 kcl_241 rfl rfl (by decide) (m_241 (d := d) (c := c) (r := r) hT hI (by omega) (by omega)) (kF (fun v1 v1p => ?_))
  refine s_if_eq (t := 42) kx_242_6 (by decide) (fun hc2 => ?_) (fun hc2 => ?_)
  · refine s_iconst (v := 0) kx_242_42 (by decide) ?_
    exact s_iret kx_242_43 (Or.inr ⟨kq_242, by omega⟩) ⟨_, rfl, rfl, (by omega)⟩
  · refine s_aload_n kx_242_9 rfl ?_
    refine s_iload_n kx_242_10 rfl ?_
    refine s_iload_n kx_242_11 rfl ?_
    refine s_callV2 (k := 63) (s1 := 3) (s2 := 0) (as := [(0, c), (0, r)]) (rest := []) kx_242_12 kp_242_497 (Or.inl rfl) rfl (tk_63 hT) ki_240 kcl_240 rfl rfl (by decide) (m_240 (d := d + 1) (r := r) (but := c) hT hI) (kF (fun v3 v3p => ?_))
    refine s_aload_n kx_242_15 rfl ?_
    refine s_iload_n kx_242_16 rfl ?_
    refine s_callV2 (k := 63) (s1 := 2) (s2 := 1) (as := [(0, c)]) (rest := [(0, v3)]) kx_242_17 kp_242_484 (Or.inl rfl) rfl (tk_63 hT) ki_237 kcl_237 rfl rfl (by decide) (m_237 (d := d + 2) (c := c) hT hI (by omega)) (kF (fun v4 v4p => ?_))
    refine r_iaddR kx_242_20 (fun v5 v5a v5b => ?_)
    refine s_aload_n kx_242_21 rfl ?_
    refine r_getR (k := 63) (f := 17) (k2 := 67) kx_242_22 kp_242_63 (tk_63 hT) kf_12_17 (by decide) (rq_63_17 hI) ?_
    refine s_bipush (v := 8) kx_242_25 (by decide) ?_
    refine s_aload_n kx_242_27 rfl ?_
    refine r_getI (k := 63) (f := 14) kx_242_28 kp_242_54 (tk_63 hT) kf_12_14 (fun _ => rfl) (rg_63_14 hI) (fun v6 v6e v6a v6b => ?_)
    refine r_mul kx_242_31 ⟨by omega, by omega⟩ ?_
    refine s_iload_n kx_242_32 rfl ?_
    refine r_add kx_242_33 ⟨by omega, by omega⟩ ?_
    refine r_aldU (k := 67) kx_242_34 (tk_67 hT) ⟨by omega, by omega⟩ (fun v7 v7e => ?_)
    refine s_icmp_gt (t := 42) kx_242_35 (by decide) (fun hc8 => ?_) (fun hc8 => ?_)
    · refine s_iconst (v := 0) kx_242_42 (by decide) ?_
      exact s_iret kx_242_43 (Or.inr ⟨kq_242, by omega⟩) ⟨_, rfl, rfl, (by omega)⟩
    · refine s_iconst (v := 1) kx_242_38 (by decide) ?_
      refine s_goto (t := 43) kx_242_39 (by decide) ?_
      exact s_iret kx_242_43 (Or.inr ⟨kq_242, by omega⟩) ⟨_, rfl, rfl, (by omega)⟩
theorem kx_243_0 : x_code k_P 243 0 = some (.aload_n 0, 1) := by decide +kernel
theorem kx_243_1 : x_code k_P 243 1 = some (.getfield 162, 3) := by decide +kernel
theorem kp_243_162 : x_pool k_P 243 162 = (1, 12, 49) := by decide +kernel
theorem kx_243_4 : x_code k_P 243 4 = some (.iload_n 1, 1) := by decide +kernel
theorem kx_243_5 : x_code k_P 243 5 = some (.iaload, 1) := by decide +kernel
theorem kx_243_6 : x_code k_P 243 6 = some (.iload_n 2, 1) := by decide +kernel
theorem kx_243_7 : x_code k_P 243 7 = some (.if_icmp .ne 39, 3) := by decide +kernel
theorem kx_243_46 : x_code k_P 243 46 = some (.iconst 0, 1) := by decide +kernel
theorem kx_243_47 : x_code k_P 243 47 = some (.ireturn, 1) := by decide +kernel
theorem kq_243 : x_retk k_P 243 = 2 := by decide +kernel
theorem kx_243_10 : x_code k_P 243 10 = some (.aload_n 0, 1) := by decide +kernel
theorem kx_243_11 : x_code k_P 243 11 = some (.getfield 165, 3) := by decide +kernel
theorem kp_243_165 : x_pool k_P 243 165 = (1, 12, 50) := by decide +kernel
theorem kf_12_50 : (x_cls k_P 12)[50]? = some 12 := by decide +kernel
theorem kx_243_14 : x_code k_P 243 14 = some (.iload_n 1, 1) := by decide +kernel
theorem kx_243_15 : x_code k_P 243 15 = some (.iaload, 1) := by decide +kernel
theorem kx_243_16 : x_code k_P 243 16 = some (.ifCond .ne 30, 3) := by decide +kernel
theorem kx_243_19 : x_code k_P 243 19 = some (.aload_n 0, 1) := by decide +kernel
theorem kx_243_20 : x_code k_P 243 20 = some (.iload_n 1, 1) := by decide +kernel
theorem kx_243_21 : x_code k_P 243 21 = some (.invokevirtual 487, 3) := by decide +kernel
theorem kp_243_487 : x_pool k_P 243 487 = (2, 238, 1) := by decide +kernel
theorem kx_243_24 : x_code k_P 243 24 = some (.iconst (-1), 1) := by decide +kernel
theorem kx_243_25 : x_code k_P 243 25 = some (.if_icmp .eq 17, 3) := by decide +kernel
theorem kx_243_42 : x_code k_P 243 42 = some (.iconst 1, 1) := by decide +kernel
theorem kx_243_43 : x_code k_P 243 43 = some (.goto 4, 3) := by decide +kernel
theorem kx_243_28 : x_code k_P 243 28 = some (.aload_n 0, 1) := by decide +kernel
theorem kx_243_29 : x_code k_P 243 29 = some (.getfield 162, 3) := by decide +kernel
theorem kx_243_32 : x_code k_P 243 32 = some (.aload_n 0, 1) := by decide +kernel
theorem kx_243_33 : x_code k_P 243 33 = some (.iload_n 1, 1) := by decide +kernel
theorem kx_243_34 : x_code k_P 243 34 = some (.invokevirtual 487, 3) := by decide +kernel
theorem kx_243_37 : x_code k_P 243 37 = some (.iaload, 1) := by decide +kernel
theorem kx_243_38 : x_code k_P 243 38 = some (.iload_n 2, 1) := by decide +kernel
theorem kx_243_39 : x_code k_P 243 39 = some (.if_icmp .ne 7, 3) := by decide +kernel
theorem m_243 {xs : Nat → Int} {Ln d : Nat} {T : List cK} {M : cM} (hT : TT T) (hI : Rng M) {p r : Int} (p0 : 0 ≤ p ∧ p ≤ 7) : cC k_P xs Ln (d + 1) 243 [rf 63, (0, p), (0, r)] (T, M) (qF T M 0 (fun v => 0 ≤ v ∧ v ≤ 1)) := by
  show cP k_P xs Ln (d + 1) 243 0 [(0, rf 63), (1, (0, p)), (2, (0, r))] [] (T, M) _
  refine s_aload_n kx_243_0 rfl ?_
  refine r_getR (k := 63) (f := 49) (k2 := 93) kx_243_1 kp_243_162 (tk_63 hT) kf_12_49 (by decide) (rq_63_49 hI) ?_
  refine s_iload_n kx_243_4 rfl ?_
  refine r_ald (k := 93) kx_243_5 (tk_93 hT) ⟨by omega, by omega⟩ (rg_93 hI (by omega)) (fun v1 v1e v1a v1b => ?_)
  refine s_iload_n kx_243_6 rfl ?_
  refine s_icmp_ne (t := 46) kx_243_7 (by decide) (fun hc2 => ?_) (fun hc2 => ?_)
  · refine s_iconst (v := 0) kx_243_46 (by decide) ?_
    exact s_iret kx_243_47 (Or.inr ⟨kq_243, by omega⟩) ⟨_, rfl, rfl, (by omega)⟩
  · refine s_aload_n kx_243_10 rfl ?_
    refine r_getR (k := 63) (f := 50) (k2 := 94) kx_243_11 kp_243_165 (tk_63 hT) kf_12_50 (by decide) (rq_63_50 hI) ?_
    refine s_iload_n kx_243_14 rfl ?_
    refine r_aldU (k := 94) kx_243_15 (tk_94 hT) ⟨by omega, by omega⟩ (fun v3 v3e => ?_)
    refine s_if_ne (t := 46) kx_243_16 (by decide) (fun hc4 => ?_) (fun hc4 => ?_)
    · refine s_iconst (v := 0) kx_243_46 (by decide) ?_
      exact s_iret kx_243_47 (Or.inr ⟨kq_243, by omega⟩) ⟨_, rfl, rfl, (by omega)⟩
    · refine s_aload_n kx_243_19 rfl ?_
      refine s_iload_n kx_243_20 rfl ?_
      refine s_callV2 (k := 63) (s1 := 2) (s2 := 0) (as := [(0, p)]) (rest := []) kx_243_21 kp_243_487 (Or.inl rfl) rfl (tk_63 hT) ki_238 kcl_238 rfl rfl (by decide) (m_238 (d := d) (p := p) hT hI (by omega)) (kF (fun v5 v5p => ?_))
      refine s_iconst (v := (-1)) kx_243_24 (by decide) ?_
      refine s_icmp_eq (t := 42) kx_243_25 (by decide) (fun hc6 => ?_) (fun hc6 => ?_)
      · refine s_iconst (v := 1) kx_243_42 (by decide) ?_
        refine s_goto (t := 47) kx_243_43 (by decide) ?_
        exact s_iret kx_243_47 (Or.inr ⟨kq_243, by omega⟩) ⟨_, rfl, rfl, (by omega)⟩
      · refine s_aload_n kx_243_28 rfl ?_
        refine r_getR (k := 63) (f := 49) (k2 := 93) kx_243_29 kp_243_162 (tk_63 hT) kf_12_49 (by decide) (rq_63_49 hI) ?_
        refine s_aload_n kx_243_32 rfl ?_
        refine s_iload_n kx_243_33 rfl ?_
        refine s_callV2 (k := 63) (s1 := 2) (s2 := 1) (as := [(0, p)]) (rest := [rf 93]) kx_243_34 kp_243_487 (Or.inl rfl) rfl (tk_63 hT) ki_238 kcl_238 rfl rfl (by decide) (m_238 (d := d) (p := p) hT hI (by omega)) (kF (fun v7 v7p => ?_))
        refine r_ald (k := 93) kx_243_37 (tk_93 hT) ⟨by omega, by omega⟩ (rg_93 hI (by omega)) (fun v8 v8e v8a v8b => ?_)
        refine s_iload_n kx_243_38 rfl ?_
        refine s_icmp_ne (t := 46) kx_243_39 (by decide) (fun hc9 => ?_) (fun hc9 => ?_)
        · refine s_iconst (v := 0) kx_243_46 (by decide) ?_
          exact s_iret kx_243_47 (Or.inr ⟨kq_243, by omega⟩) ⟨_, rfl, rfl, (by omega)⟩
        · refine s_iconst (v := 1) kx_243_42 (by decide) ?_
          refine s_goto (t := 47) kx_243_43 (by decide) ?_
          exact s_iret kx_243_47 (Or.inr ⟨kq_243, by omega⟩) ⟨_, rfl, rfl, (by omega)⟩
theorem kx_244_0 : x_code k_P 244 0 = some (.aload_n 0, 1) := by decide +kernel
theorem kx_244_1 : x_code k_P 244 1 = some (.iload_n 1, 1) := by decide +kernel
theorem kx_244_2 : x_code k_P 244 2 = some (.aload_n 0, 1) := by decide +kernel
theorem kx_244_3 : x_code k_P 244 3 = some (.getfield 159, 3) := by decide +kernel
theorem kp_244_159 : x_pool k_P 244 159 = (1, 12, 48) := by decide +kernel
theorem kf_12_48 : (x_cls k_P 12)[48]? = some 12 := by decide +kernel
theorem kx_244_6 : x_code k_P 244 6 = some (.iload_n 1, 1) := by decide +kernel
theorem kx_244_7 : x_code k_P 244 7 = some (.iaload, 1) := by decide +kernel
theorem kx_244_8 : x_code k_P 244 8 = some (.invokevirtual 500, 3) := by decide +kernel
theorem kp_244_500 : x_pool k_P 244 500 = (2, 243, 2) := by decide +kernel
theorem ki_243 : x_mci k_P 243 = 12 := by decide +kernel
theorem kcl_243 : x_maxL k_P 243 ≤ 60 ∧ 3 ≤ x_maxL k_P 243 := by decide +kernel
theorem kx_244_11 : x_code k_P 244 11 = some (.ireturn, 1) := by decide +kernel
theorem kq_244 : x_retk k_P 244 = 2 := by decide +kernel
theorem m_244 {xs : Nat → Int} {Ln d : Nat} {T : List cK} {M : cM} (hT : TT T) (hI : Rng M) {p : Int} (p0 : 0 ≤ p ∧ p ≤ 7) : cC k_P xs Ln (d + 2) 244 [rf 63, (0, p)] (T, M) (qF T M 0 (fun v => 0 ≤ v ∧ v ≤ 1)) := by
  show cP k_P xs Ln (d + 2) 244 0 [(0, rf 63), (1, (0, p))] [] (T, M) _
  refine s_aload_n kx_244_0 rfl ?_
  refine s_iload_n kx_244_1 rfl ?_
  refine s_aload_n kx_244_2 rfl ?_
  refine r_getR (k := 63) (f := 48) (k2 := 92) kx_244_3 kp_244_159 (tk_63 hT) kf_12_48 (by decide) (rq_63_48 hI) ?_
  refine s_iload_n kx_244_6 rfl ?_
  refine r_ald (k := 92) kx_244_7 (tk_92 hT) ⟨by omega, by omega⟩ (rg_92 hI (by omega)) (fun v1 v1e v1a v1b => ?_)
  refine s_callV2 (k := 63) (s1 := 3) (s2 := 0) (as := [(0, v1), (0, p)]) (rest := []) kx_244_8 kp_244_500 (Or.inl rfl) rfl (tk_63 hT) ki_243 kcl_243 rfl rfl (by decide) (m_243 (d := d) (p := p) (r := v1) hT hI (by omega)) (kF (fun v2 v2p => ?_))
  exact s_iret kx_244_11 (Or.inr ⟨kq_244, by omega⟩) ⟨_, rfl, rfl, (by omega)⟩
theorem kx_245_0 : x_code k_P 245 0 = some (.aload_n 0, 1) := by decide +kernel
theorem kx_245_1 : x_code k_P 245 1 = some (.getfield 66, 3) := by decide +kernel
theorem kp_245_66 : x_pool k_P 245 66 = (1, 12, 18) := by decide +kernel
theorem kf_12_18 : (x_cls k_P 12)[18]? = some 12 := by decide +kernel
theorem kx_245_4 : x_code k_P 245 4 = some (.bipush 8, 2) := by decide +kernel
theorem kx_245_6 : x_code k_P 245 6 = some (.bipush 8, 2) := by decide +kernel
theorem kx_245_8 : x_code k_P 245 8 = some (.aload_n 0, 1) := by decide +kernel
theorem kx_245_9 : x_code k_P 245 9 = some (.getfield 54, 3) := by decide +kernel
theorem kp_245_54 : x_pool k_P 245 54 = (1, 12, 14) := by decide +kernel
theorem kx_245_12 : x_code k_P 245 12 = some (.imul, 1) := by decide +kernel
theorem kx_245_13 : x_code k_P 245 13 = some (.iload_n 1, 1) := by decide +kernel
theorem kx_245_14 : x_code k_P 245 14 = some (.iadd, 1) := by decide +kernel
theorem kx_245_15 : x_code k_P 245 15 = some (.imul, 1) := by decide +kernel
theorem kx_245_16 : x_code k_P 245 16 = some (.iload_n 2, 1) := by decide +kernel
theorem kx_245_17 : x_code k_P 245 17 = some (.iadd, 1) := by decide +kernel
theorem kx_245_18 : x_code k_P 245 18 = some (.iaload, 1) := by decide +kernel
theorem kx_245_19 : x_code k_P 245 19 = some (.ireturn, 1) := by decide +kernel
theorem kq_245 : x_retk k_P 245 = 1 := by decide +kernel
theorem m_245 {xs : Nat → Int} {Ln d : Nat} {T : List cK} {M : cM} (hT : TT T) (hI : Rng M) {a b : Int} (p0 : 0 ≤ a ∧ a ≤ 7) (p1 : 0 ≤ b ∧ b ≤ 7) : cC k_P xs Ln (d + 0) 245 [rf 63, (0, a), (0, b)] (T, M) (qF T M 0 (fun v => 0 ≤ v ∧ v ≤ 60 ∧ (v = wr M a b))) := by
  show cP k_P xs Ln (d + 0) 245 0 [(0, rf 63), (1, (0, a)), (2, (0, b))] [] (T, M) _
  refine s_aload_n kx_245_0 rfl ?_
  refine r_getR (k := 63) (f := 18) (k2 := 68) kx_245_1 kp_245_66 (tk_63 hT) kf_12_18 (by decide) (rq_63_18 hI) ?_
  refine s_bipush (v := 8) kx_245_4 (by decide) ?_
  refine s_bipush (v := 8) kx_245_6 (by decide) ?_
  refine s_aload_n kx_245_8 rfl ?_
  refine r_getI (k := 63) (f := 14) kx_245_9 kp_245_54 (tk_63 hT) kf_12_14 (fun _ => rfl) (rg_63_14 hI) (fun v1 v1e v1a v1b => ?_)
  refine r_mul kx_245_12 ⟨by omega, by omega⟩ ?_
  refine s_iload_n kx_245_13 rfl ?_
  refine r_add kx_245_14 ⟨by omega, by omega⟩ ?_
  refine r_mul kx_245_15 ⟨by omega, by omega⟩ ?_
  refine s_iload_n kx_245_16 rfl ?_
  refine r_add kx_245_17 ⟨by omega, by omega⟩ ?_
  refine r_ald (k := 68) kx_245_18 (tk_68 hT) ⟨by omega, by omega⟩ (rg_68 hI) (fun v2 v2e v2a v2b => ?_)
  have hq3 : M 68 (((8 * ((8 * M 63 14) + a)) + b)).toNat = v2 := by rw [v1e]; exact v2e
  exact s_iret kx_245_19 (Or.inl kq_245) ⟨_, rfl, rfl, ⟨by omega, by omega, by unfold wr; omega⟩⟩
theorem kx_185_0 : x_code k_P 185 0 = some (.iload_n 2, 1) := by decide +kernel
theorem kx_185_1 : x_code k_P 185 1 = some (.ifCond .ne 12, 3) := by decide +kernel
theorem kx_185_13 : x_code k_P 185 13 = some (.aload_n 0, 1) := by decide +kernel
theorem kx_185_14 : x_code k_P 185 14 = some (.getfield 69, 3) := by decide +kernel
theorem kp_185_69 : x_pool k_P 185 69 = (1, 12, 19) := by decide +kernel
theorem kx_185_17 : x_code k_P 185 17 = some (.iload_n 1, 1) := by decide +kernel
theorem kx_185_18 : x_code k_P 185 18 = some (.iaload, 1) := by decide +kernel
theorem kx_185_19 : x_code k_P 185 19 = some (.ireturn, 1) := by decide +kernel
theorem kq_185 : x_retk k_P 185 = 1 := by decide +kernel
theorem kx_185_4 : x_code k_P 185 4 = some (.aload_n 0, 1) := by decide +kernel
theorem kx_185_5 : x_code k_P 185 5 = some (.getfield 57, 3) := by decide +kernel
theorem kp_185_57 : x_pool k_P 185 57 = (1, 12, 15) := by decide +kernel
theorem kx_185_8 : x_code k_P 185 8 = some (.iload_n 1, 1) := by decide +kernel
theorem kx_185_9 : x_code k_P 185 9 = some (.iaload, 1) := by decide +kernel
theorem kx_185_10 : x_code k_P 185 10 = some (.goto 9, 3) := by decide +kernel
theorem m_185 {xs : Nat → Int} {Ln d : Nat} {T : List cK} {M : cM} (hT : TT T) (hI : Rng M) {b kind : Int} (p0 : 0 ≤ b ∧ b ≤ 1) : cC k_P xs Ln (d + 0) 185 [rf 63, (0, b), (0, kind)] (T, M) (qF T M 0 (fun v => 0 ≤ v ∧ v ≤ 8 ∧ ((kind = 0 ∧ v = M 65 b.toNat) ∨ (kind ≠ 0 ∧ v = M 69 b.toNat)))) := by
  show cP k_P xs Ln (d + 0) 185 0 [(0, rf 63), (1, (0, b)), (2, (0, kind))] [] (T, M) _
  refine s_iload_n kx_185_0 rfl ?_
  refine s_if_ne (t := 13) kx_185_1 (by decide) (fun hc1 => ?_) (fun hc1 => ?_)
  · refine s_aload_n kx_185_13 rfl ?_
    refine r_getR (k := 63) (f := 19) (k2 := 69) kx_185_14 kp_185_69 (tk_63 hT) kf_12_19 (by decide) (rq_63_19 hI) ?_
    refine s_iload_n kx_185_17 rfl ?_
    refine r_ald (k := 69) kx_185_18 (tk_69 hT) ⟨by omega, by omega⟩ (rg_69 hI) (fun v2 v2e v2a v2b => ?_)
    exact s_iret kx_185_19 (Or.inl kq_185) ⟨_, rfl, rfl, (by omega)⟩
  · refine s_aload_n kx_185_4 rfl ?_
    refine r_getR (k := 63) (f := 15) (k2 := 65) kx_185_5 kp_185_57 (tk_63 hT) kf_12_15 (by decide) (rq_63_15 hI) ?_
    refine s_iload_n kx_185_8 rfl ?_
    refine r_ald (k := 65) kx_185_9 (tk_65 hT) ⟨by omega, by omega⟩ (rg_65 hI) (fun v3 v3e v3a v3b => ?_)
    refine s_goto (t := 19) kx_185_10 (by decide) ?_
    exact s_iret kx_185_19 (Or.inl kq_185) ⟨_, rfl, rfl, (by omega)⟩
theorem kx_186_0 : x_code k_P 186 0 = some (.iload_n 2, 1) := by decide +kernel
theorem kx_186_1 : x_code k_P 186 1 = some (.ifCond .ne 17, 3) := by decide +kernel
theorem kx_186_18 : x_code k_P 186 18 = some (.aload_n 0, 1) := by decide +kernel
theorem kx_186_19 : x_code k_P 186 19 = some (.getfield 115, 3) := by decide +kernel
theorem kp_186_115 : x_pool k_P 186 115 = (1, 12, 34) := by decide +kernel
theorem kf_12_34 : (x_cls k_P 12)[34]? = some 12 := by decide +kernel
theorem kx_186_22 : x_code k_P 186 22 = some (.bipush 8, 2) := by decide +kernel
theorem kx_186_24 : x_code k_P 186 24 = some (.iload_n 1, 1) := by decide +kernel
theorem kx_186_25 : x_code k_P 186 25 = some (.imul, 1) := by decide +kernel
theorem kx_186_26 : x_code k_P 186 26 = some (.iload_n 3, 1) := by decide +kernel
theorem kx_186_27 : x_code k_P 186 27 = some (.iadd, 1) := by decide +kernel
theorem kx_186_28 : x_code k_P 186 28 = some (.laload, 1) := by decide +kernel
theorem kx_186_29 : x_code k_P 186 29 = some (.lreturn, 1) := by decide +kernel
theorem kq_186 : x_retk k_P 186 = 3 := by decide +kernel
theorem kx_186_4 : x_code k_P 186 4 = some (.aload_n 0, 1) := by decide +kernel
theorem kx_186_5 : x_code k_P 186 5 = some (.getfield 111, 3) := by decide +kernel
theorem kp_186_111 : x_pool k_P 186 111 = (1, 12, 33) := by decide +kernel
theorem kf_12_33 : (x_cls k_P 12)[33]? = some 12 := by decide +kernel
theorem kx_186_8 : x_code k_P 186 8 = some (.bipush 8, 2) := by decide +kernel
theorem kx_186_10 : x_code k_P 186 10 = some (.iload_n 1, 1) := by decide +kernel
theorem kx_186_11 : x_code k_P 186 11 = some (.imul, 1) := by decide +kernel
theorem kx_186_12 : x_code k_P 186 12 = some (.iload_n 3, 1) := by decide +kernel
theorem kx_186_13 : x_code k_P 186 13 = some (.iadd, 1) := by decide +kernel
theorem kx_186_14 : x_code k_P 186 14 = some (.laload, 1) := by decide +kernel
theorem kx_186_15 : x_code k_P 186 15 = some (.goto 14, 3) := by decide +kernel
theorem m_186 {xs : Nat → Int} {Ln d : Nat} {T : List cK} {M : cM} (hT : TT T) (hI : Rng M) {b kind k : Int} (p0 : 0 ≤ b ∧ b ≤ 1) (p1 : 0 ≤ k ∧ k ≤ 7) : cC k_P xs Ln (d + 0) 186 [rf 63, (0, b), (0, kind), (0, k)] (T, M) (qF T M 1 (fun v => True)) := by
  show cP k_P xs Ln (d + 0) 186 0 [(0, rf 63), (1, (0, b)), (2, (0, kind)), (3, (0, k))] [] (T, M) _
  refine s_iload_n kx_186_0 rfl ?_
  refine s_if_ne (t := 18) kx_186_1 (by decide) (fun hc1 => ?_) (fun hc1 => ?_)
  · refine s_aload_n kx_186_18 rfl ?_
    refine r_getR (k := 63) (f := 34) (k2 := 84) kx_186_19 kp_186_115 (tk_63 hT) kf_12_34 (by decide) (rq_63_34 hI) ?_
    refine s_bipush (v := 8) kx_186_22 (by decide) ?_
    refine s_iload_n kx_186_24 rfl ?_
    refine r_mul kx_186_25 ⟨by omega, by omega⟩ ?_
    refine s_iload_n kx_186_26 rfl ?_
    refine r_add kx_186_27 ⟨by omega, by omega⟩ ?_
    refine r_laldU (k := 84) kx_186_28 (tk_84 hT) ⟨by omega, by omega⟩ (fun v2 v2e => ?_)
    exact s_lret kx_186_29 kq_186 ⟨_, rfl, rfl, trivial⟩
  · refine s_aload_n kx_186_4 rfl ?_
    refine r_getR (k := 63) (f := 33) (k2 := 83) kx_186_5 kp_186_111 (tk_63 hT) kf_12_33 (by decide) (rq_63_33 hI) ?_
    refine s_bipush (v := 8) kx_186_8 (by decide) ?_
    refine s_iload_n kx_186_10 rfl ?_
    refine r_mul kx_186_11 ⟨by omega, by omega⟩ ?_
    refine s_iload_n kx_186_12 rfl ?_
    refine r_add kx_186_13 ⟨by omega, by omega⟩ ?_
    refine r_laldU (k := 83) kx_186_14 (tk_83 hT) ⟨by omega, by omega⟩ (fun v3 v3e => ?_)
    refine s_goto (t := 29) kx_186_15 (by decide) ?_
    exact s_lret kx_186_29 kq_186 ⟨_, rfl, rfl, trivial⟩
theorem kx_246_0 : x_code k_P 246 0 = some (.iconst 0, 1) := by decide +kernel
theorem kx_246_1 : x_code k_P 246 1 = some (.istore_n 2, 1) := by decide +kernel
theorem km_246_2 : 2 < x_maxL k_P 246 := by decide +kernel
theorem kx_246_2 : x_code k_P 246 2 = some (.iload_n 1, 1) := by decide +kernel
theorem kx_246_3 : x_code k_P 246 3 = some (.tableswitch 262 0 10 #[57, 67, 77, 87, 97, 136, 168, 212, 244, 251, 256], 57) := by decide +kernel
theorem kx_246_60 : x_code k_P 246 60 = some (.aload_n 0, 1) := by decide +kernel
theorem kx_246_61 : x_code k_P 246 61 = some (.getfield 57, 3) := by decide +kernel
theorem kp_246_57 : x_pool k_P 246 57 = (1, 12, 15) := by decide +kernel
theorem kx_246_64 : x_code k_P 246 64 = some (.aload_n 0, 1) := by decide +kernel
theorem kx_246_65 : x_code k_P 246 65 = some (.getfield 54, 3) := by decide +kernel
theorem kp_246_54 : x_pool k_P 246 54 = (1, 12, 14) := by decide +kernel
theorem kx_246_68 : x_code k_P 246 68 = some (.iaload, 1) := by decide +kernel
theorem kx_246_69 : x_code k_P 246 69 = some (.ireturn, 1) := by decide +kernel
theorem kq_246 : x_retk k_P 246 = 1 := by decide +kernel
theorem kx_246_70 : x_code k_P 246 70 = some (.aload_n 0, 1) := by decide +kernel
theorem kx_246_71 : x_code k_P 246 71 = some (.getfield 69, 3) := by decide +kernel
theorem kp_246_69 : x_pool k_P 246 69 = (1, 12, 19) := by decide +kernel
theorem kx_246_74 : x_code k_P 246 74 = some (.aload_n 0, 1) := by decide +kernel
theorem kx_246_75 : x_code k_P 246 75 = some (.getfield 54, 3) := by decide +kernel
theorem kx_246_78 : x_code k_P 246 78 = some (.iaload, 1) := by decide +kernel
theorem kx_246_79 : x_code k_P 246 79 = some (.ireturn, 1) := by decide +kernel
theorem kx_246_80 : x_code k_P 246 80 = some (.aload_n 0, 1) := by decide +kernel
theorem kx_246_81 : x_code k_P 246 81 = some (.getfield 99, 3) := by decide +kernel
theorem kp_246_99 : x_pool k_P 246 99 = (1, 12, 29) := by decide +kernel
theorem kf_12_29 : (x_cls k_P 12)[29]? = some 12 := by decide +kernel
theorem kx_246_84 : x_code k_P 246 84 = some (.aload_n 0, 1) := by decide +kernel
theorem kx_246_85 : x_code k_P 246 85 = some (.getfield 54, 3) := by decide +kernel
theorem kx_246_88 : x_code k_P 246 88 = some (.iaload, 1) := by decide +kernel
theorem kx_246_89 : x_code k_P 246 89 = some (.ireturn, 1) := by decide +kernel
theorem kx_246_90 : x_code k_P 246 90 = some (.aload_n 0, 1) := by decide +kernel
theorem kx_246_91 : x_code k_P 246 91 = some (.getfield 102, 3) := by decide +kernel
theorem kp_246_102 : x_pool k_P 246 102 = (1, 12, 30) := by decide +kernel
theorem kf_12_30 : (x_cls k_P 12)[30]? = some 12 := by decide +kernel
theorem kx_246_94 : x_code k_P 246 94 = some (.aload_n 0, 1) := by decide +kernel
theorem kx_246_95 : x_code k_P 246 95 = some (.getfield 54, 3) := by decide +kernel
theorem kx_246_98 : x_code k_P 246 98 = some (.iaload, 1) := by decide +kernel
theorem kx_246_99 : x_code k_P 246 99 = some (.ireturn, 1) := by decide +kernel
theorem kx_246_100 : x_code k_P 246 100 = some (.iconst 0, 1) := by decide +kernel
theorem kx_246_101 : x_code k_P 246 101 = some (.istore_n 3, 1) := by decide +kernel
theorem km_246_3 : 3 < x_maxL k_P 246 := by decide +kernel
theorem kx_246_102 : x_code k_P 246 102 = some (.iload_n 3, 1) := by decide +kernel
theorem kx_246_103 : x_code k_P 246 103 = some (.aload_n 0, 1) := by decide +kernel
theorem kx_246_104 : x_code k_P 246 104 = some (.getfield 69, 3) := by decide +kernel
theorem kx_246_107 : x_code k_P 246 107 = some (.aload_n 0, 1) := by decide +kernel
theorem kx_246_108 : x_code k_P 246 108 = some (.getfield 54, 3) := by decide +kernel
theorem kx_246_111 : x_code k_P 246 111 = some (.iaload, 1) := by decide +kernel
theorem kx_246_112 : x_code k_P 246 112 = some (.if_icmp .ge 25, 3) := by decide +kernel
theorem kx_246_137 : x_code k_P 246 137 = some (.iload_n 2, 1) := by decide +kernel
theorem kx_246_138 : x_code k_P 246 138 = some (.ireturn, 1) := by decide +kernel
theorem kx_246_115 : x_code k_P 246 115 = some (.iload_n 2, 1) := by decide +kernel
theorem kx_246_116 : x_code k_P 246 116 = some (.aload_n 0, 1) := by decide +kernel
theorem kx_246_117 : x_code k_P 246 117 = some (.iload_n 3, 1) := by decide +kernel
theorem kx_246_118 : x_code k_P 246 118 = some (.invokevirtual 503, 3) := by decide +kernel
theorem kp_246_503 : x_pool k_P 246 503 = (2, 244, 1) := by decide +kernel
theorem ki_244 : x_mci k_P 244 = 12 := by decide +kernel
theorem kcl_244 : x_maxL k_P 244 ≤ 60 ∧ 2 ≤ x_maxL k_P 244 := by decide +kernel
theorem kx_246_121 : x_code k_P 246 121 = some (.ifCond .eq 7, 3) := by decide +kernel
theorem kx_246_128 : x_code k_P 246 128 = some (.iconst 0, 1) := by decide +kernel
theorem kx_246_129 : x_code k_P 246 129 = some (.iadd, 1) := by decide +kernel
theorem kx_246_130 : x_code k_P 246 130 = some (.istore_n 2, 1) := by decide +kernel
theorem kx_246_131 : x_code k_P 246 131 = some (.iinc 3 1, 3) := by decide +kernel
theorem kx_246_134 : x_code k_P 246 134 = some (.goto (-32), 3) := by decide +kernel
theorem kx_246_124 : x_code k_P 246 124 = some (.iconst 1, 1) := by decide +kernel
theorem kx_246_125 : x_code k_P 246 125 = some (.goto 4, 3) := by decide +kernel
theorem kx_246_139 : x_code k_P 246 139 = some (.iconst 0, 1) := by decide +kernel
theorem kx_246_140 : x_code k_P 246 140 = some (.istore_n 3, 1) := by decide +kernel
theorem kx_246_141 : x_code k_P 246 141 = some (.iload_n 3, 1) := by decide +kernel
theorem kx_246_142 : x_code k_P 246 142 = some (.aload_n 0, 1) := by decide +kernel
theorem kx_246_143 : x_code k_P 246 143 = some (.getfield 69, 3) := by decide +kernel
theorem kx_246_146 : x_code k_P 246 146 = some (.aload_n 0, 1) := by decide +kernel
theorem kx_246_147 : x_code k_P 246 147 = some (.getfield 54, 3) := by decide +kernel
theorem kx_246_150 : x_code k_P 246 150 = some (.iaload, 1) := by decide +kernel
theorem kx_246_151 : x_code k_P 246 151 = some (.if_icmp .ge 18, 3) := by decide +kernel
theorem kx_246_169 : x_code k_P 246 169 = some (.iload_n 2, 1) := by decide +kernel
theorem kx_246_170 : x_code k_P 246 170 = some (.ireturn, 1) := by decide +kernel
theorem kx_246_154 : x_code k_P 246 154 = some (.iload_n 2, 1) := by decide +kernel
theorem kx_246_155 : x_code k_P 246 155 = some (.aload_n 0, 1) := by decide +kernel
theorem kx_246_156 : x_code k_P 246 156 = some (.getfield 165, 3) := by decide +kernel
theorem kp_246_165 : x_pool k_P 246 165 = (1, 12, 50) := by decide +kernel
theorem kx_246_159 : x_code k_P 246 159 = some (.iload_n 3, 1) := by decide +kernel
theorem kx_246_160 : x_code k_P 246 160 = some (.iaload, 1) := by decide +kernel
theorem kx_246_161 : x_code k_P 246 161 = some (.iadd, 1) := by decide +kernel
theorem kx_246_162 : x_code k_P 246 162 = some (.istore_n 2, 1) := by decide +kernel
theorem kx_246_163 : x_code k_P 246 163 = some (.iinc 3 1, 3) := by decide +kernel
theorem kx_246_166 : x_code k_P 246 166 = some (.goto (-25), 3) := by decide +kernel
theorem kx_246_171 : x_code k_P 246 171 = some (.iconst 0, 1) := by decide +kernel
theorem kx_246_172 : x_code k_P 246 172 = some (.istore_n 3, 1) := by decide +kernel
theorem kx_246_173 : x_code k_P 246 173 = some (.iload_n 3, 1) := by decide +kernel
theorem kx_246_174 : x_code k_P 246 174 = some (.aload_n 0, 1) := by decide +kernel
theorem kx_246_175 : x_code k_P 246 175 = some (.getfield 69, 3) := by decide +kernel
theorem kx_246_178 : x_code k_P 246 178 = some (.aload_n 0, 1) := by decide +kernel
theorem kx_246_179 : x_code k_P 246 179 = some (.getfield 54, 3) := by decide +kernel
theorem kx_246_182 : x_code k_P 246 182 = some (.iaload, 1) := by decide +kernel
theorem kx_246_183 : x_code k_P 246 183 = some (.if_icmp .ge 30, 3) := by decide +kernel
theorem kx_246_213 : x_code k_P 246 213 = some (.iload_n 2, 1) := by decide +kernel
theorem kx_246_214 : x_code k_P 246 214 = some (.ireturn, 1) := by decide +kernel
theorem kx_246_186 : x_code k_P 246 186 = some (.aload_n 0, 1) := by decide +kernel
theorem kx_246_187 : x_code k_P 246 187 = some (.getfield 168, 3) := by decide +kernel
theorem kp_246_168 : x_pool k_P 246 168 = (1, 12, 51) := by decide +kernel
theorem kf_12_51 : (x_cls k_P 12)[51]? = some 12 := by decide +kernel
theorem kx_246_190 : x_code k_P 246 190 = some (.iload_n 3, 1) := by decide +kernel
theorem kx_246_191 : x_code k_P 246 191 = some (.iaload, 1) := by decide +kernel
theorem kx_246_192 : x_code k_P 246 192 = some (.iload_n 2, 1) := by decide +kernel
theorem kx_246_193 : x_code k_P 246 193 = some (.if_icmp .le 12, 3) := by decide +kernel
theorem kx_246_205 : x_code k_P 246 205 = some (.iload_n 2, 1) := by decide +kernel
theorem kx_246_206 : x_code k_P 246 206 = some (.istore_n 2, 1) := by decide +kernel
theorem kx_246_207 : x_code k_P 246 207 = some (.iinc 3 1, 3) := by decide +kernel
theorem kx_246_210 : x_code k_P 246 210 = some (.goto (-37), 3) := by decide +kernel
theorem kx_246_196 : x_code k_P 246 196 = some (.aload_n 0, 1) := by decide +kernel
theorem kx_246_197 : x_code k_P 246 197 = some (.getfield 168, 3) := by decide +kernel
theorem kx_246_200 : x_code k_P 246 200 = some (.iload_n 3, 1) := by decide +kernel
theorem kx_246_201 : x_code k_P 246 201 = some (.iaload, 1) := by decide +kernel
theorem kx_246_202 : x_code k_P 246 202 = some (.goto 4, 3) := by decide +kernel
theorem kx_246_215 : x_code k_P 246 215 = some (.iconst 0, 1) := by decide +kernel
theorem kx_246_216 : x_code k_P 246 216 = some (.istore_n 3, 1) := by decide +kernel
theorem kx_246_217 : x_code k_P 246 217 = some (.iload_n 3, 1) := by decide +kernel
theorem kx_246_218 : x_code k_P 246 218 = some (.aload_n 0, 1) := by decide +kernel
theorem kx_246_219 : x_code k_P 246 219 = some (.getfield 69, 3) := by decide +kernel
theorem kx_246_222 : x_code k_P 246 222 = some (.aload_n 0, 1) := by decide +kernel
theorem kx_246_223 : x_code k_P 246 223 = some (.getfield 54, 3) := by decide +kernel
theorem kx_246_226 : x_code k_P 246 226 = some (.iaload, 1) := by decide +kernel
theorem kx_246_227 : x_code k_P 246 227 = some (.if_icmp .ge 18, 3) := by decide +kernel
theorem kx_246_245 : x_code k_P 246 245 = some (.iload_n 2, 1) := by decide +kernel
theorem kx_246_246 : x_code k_P 246 246 = some (.ireturn, 1) := by decide +kernel
theorem kx_246_230 : x_code k_P 246 230 = some (.iload_n 2, 1) := by decide +kernel
theorem kx_246_231 : x_code k_P 246 231 = some (.aload_n 0, 1) := by decide +kernel
theorem kx_246_232 : x_code k_P 246 232 = some (.getfield 171, 3) := by decide +kernel
theorem kp_246_171 : x_pool k_P 246 171 = (1, 12, 52) := by decide +kernel
theorem kf_12_52 : (x_cls k_P 12)[52]? = some 12 := by decide +kernel
theorem kx_246_235 : x_code k_P 246 235 = some (.iload_n 3, 1) := by decide +kernel
theorem kx_246_236 : x_code k_P 246 236 = some (.iaload, 1) := by decide +kernel
theorem kx_246_237 : x_code k_P 246 237 = some (.iadd, 1) := by decide +kernel
theorem kx_246_238 : x_code k_P 246 238 = some (.istore_n 2, 1) := by decide +kernel
theorem kx_246_239 : x_code k_P 246 239 = some (.iinc 3 1, 3) := by decide +kernel
theorem kx_246_242 : x_code k_P 246 242 = some (.goto (-25), 3) := by decide +kernel
theorem kx_246_247 : x_code k_P 246 247 = some (.aload_n 0, 1) := by decide +kernel
theorem kx_246_248 : x_code k_P 246 248 = some (.getfield 174, 3) := by decide +kernel
theorem kp_246_174 : x_pool k_P 246 174 = (1, 12, 53) := by decide +kernel
theorem kf_12_53 : (x_cls k_P 12)[53]? = some 12 := by decide +kernel
theorem kx_246_251 : x_code k_P 246 251 = some (.iconst 0, 1) := by decide +kernel
theorem kx_246_252 : x_code k_P 246 252 = some (.iaload, 1) := by decide +kernel
theorem kx_246_253 : x_code k_P 246 253 = some (.ireturn, 1) := by decide +kernel
theorem kx_246_254 : x_code k_P 246 254 = some (.aload_n 0, 1) := by decide +kernel
theorem kx_246_255 : x_code k_P 246 255 = some (.getfield 192, 3) := by decide +kernel
theorem kp_246_192 : x_pool k_P 246 192 = (1, 12, 59) := by decide +kernel
theorem kf_12_59 : (x_cls k_P 12)[59]? = some 0 := by decide +kernel
theorem kx_246_258 : x_code k_P 246 258 = some (.ireturn, 1) := by decide +kernel
theorem kx_246_259 : x_code k_P 246 259 = some (.aload_n 0, 1) := by decide +kernel
theorem kx_246_260 : x_code k_P 246 260 = some (.getfield 195, 3) := by decide +kernel
theorem kp_246_195 : x_pool k_P 246 195 = (1, 12, 60) := by decide +kernel
theorem kf_12_60 : (x_cls k_P 12)[60]? = some 1 := by decide +kernel
theorem kx_246_263 : x_code k_P 246 263 = some (.l2i, 1) := by decide +kernel
theorem kx_246_264 : x_code k_P 246 264 = some (.ireturn, 1) := by decide +kernel
theorem kx_246_265 : x_code k_P 246 265 = some (.iconst (-1), 1) := by decide +kernel
theorem kx_246_266 : x_code k_P 246 266 = some (.ireturn, 1) := by decide +kernel
theorem m_246 {xs : Nat → Int} {Ln d : Nat} {T : List cK} {M : cM} (hT : TT T) (hI : Rng M) {what : Int} : cC k_P xs Ln (d + 3) 246 [rf 63, (0, what)] (T, M) (qF T M 0 (fun v => True)) := by
  show cP k_P xs Ln (d + 3) 246 0 [(0, rf 63), (1, (0, what))] [] (T, M) _
  refine s_iconst (v := 0) kx_246_0 (by decide) ?_
  refine s_istore_n kx_246_1 km_246_2 rfl ?_
  refine s_iload_n kx_246_2 rfl ?_
  rcases (by omega : what = 0 ∨ what = 1 ∨ what = 2 ∨ what = 3 ∨ what = 4 ∨ what = 5 ∨ what = 6 ∨ what = 7 ∨ what = 8 ∨ what = 9 ∨ what = 10 ∨ (what < 0 ∨ 10 < what)) with hs1 | hs1 | hs1 | hs1 | hs1 | hs1 | hs1 | hs1 | hs1 | hs1 | hs1 | hs1
  · refine s_tsw (t := 60) kx_246_3 (by decide) 0 hs1 (by decide) ?_
    refine s_aload_n kx_246_60 rfl ?_
    refine r_getR (k := 63) (f := 15) (k2 := 65) kx_246_61 kp_246_57 (tk_63 hT) kf_12_15 (by decide) (rq_63_15 hI) ?_
    refine s_aload_n kx_246_64 rfl ?_
    refine r_getI (k := 63) (f := 14) kx_246_65 kp_246_54 (tk_63 hT) kf_12_14 (fun _ => rfl) (rg_63_14 hI) (fun v2 v2e v2a v2b => ?_)
    refine r_ald (k := 65) kx_246_68 (tk_65 hT) ⟨by omega, by omega⟩ (rg_65 hI) (fun v3 v3e v3a v3b => ?_)
    exact s_iret kx_246_69 (Or.inl kq_246) ⟨_, rfl, rfl, trivial⟩
  · refine s_tsw (t := 70) kx_246_3 (by decide) 1 hs1 (by decide) ?_
    refine s_aload_n kx_246_70 rfl ?_
    refine r_getR (k := 63) (f := 19) (k2 := 69) kx_246_71 kp_246_69 (tk_63 hT) kf_12_19 (by decide) (rq_63_19 hI) ?_
    refine s_aload_n kx_246_74 rfl ?_
    refine r_getI (k := 63) (f := 14) kx_246_75 kp_246_54 (tk_63 hT) kf_12_14 (fun _ => rfl) (rg_63_14 hI) (fun v4 v4e v4a v4b => ?_)
    refine r_ald (k := 69) kx_246_78 (tk_69 hT) ⟨by omega, by omega⟩ (rg_69 hI) (fun v5 v5e v5a v5b => ?_)
    exact s_iret kx_246_79 (Or.inl kq_246) ⟨_, rfl, rfl, trivial⟩
  · refine s_tsw (t := 80) kx_246_3 (by decide) 2 hs1 (by decide) ?_
    refine s_aload_n kx_246_80 rfl ?_
    refine r_getR (k := 63) (f := 29) (k2 := 79) kx_246_81 kp_246_99 (tk_63 hT) kf_12_29 (by decide) (rq_63_29 hI) ?_
    refine s_aload_n kx_246_84 rfl ?_
    refine r_getI (k := 63) (f := 14) kx_246_85 kp_246_54 (tk_63 hT) kf_12_14 (fun _ => rfl) (rg_63_14 hI) (fun v6 v6e v6a v6b => ?_)
    refine r_aldU (k := 79) kx_246_88 (tk_79 hT) ⟨by omega, by omega⟩ (fun v7 v7e => ?_)
    exact s_iret kx_246_89 (Or.inl kq_246) ⟨_, rfl, rfl, trivial⟩
  · refine s_tsw (t := 90) kx_246_3 (by decide) 3 hs1 (by decide) ?_
    refine s_aload_n kx_246_90 rfl ?_
    refine r_getR (k := 63) (f := 30) (k2 := 80) kx_246_91 kp_246_102 (tk_63 hT) kf_12_30 (by decide) (rq_63_30 hI) ?_
    refine s_aload_n kx_246_94 rfl ?_
    refine r_getI (k := 63) (f := 14) kx_246_95 kp_246_54 (tk_63 hT) kf_12_14 (fun _ => rfl) (rg_63_14 hI) (fun v8 v8e v8a v8b => ?_)
    refine r_aldU (k := 80) kx_246_98 (tk_80 hT) ⟨by omega, by omega⟩ (fun v9 v9e => ?_)
    exact s_iret kx_246_99 (Or.inl kq_246) ⟨_, rfl, rfl, trivial⟩
  · refine s_tsw (t := 100) kx_246_3 (by decide) 4 hs1 (by decide) ?_
    refine s_iconst (v := 0) kx_246_100 (by decide) ?_
    refine s_istore_n kx_246_101 km_246_3 rfl ?_
    have key12 : ∀ n13 : Nat, ∀ (x2_10 x3_11 : Int), (0 ≤ x3_11) → (2147483647 - x3_11).toNat < n13 → cP k_P xs Ln (d + 3) 246 102 [(0, rf 63), (2, (0, x2_10)), (3, (0, x3_11))] [] (T, M) (qF T M 0 (fun v => True)) := by
      intro n13
      induction n13 with
      | zero => intro x2_10 x3_11 i14 hm15; exact absurd hm15 (Nat.not_lt_zero _)
      | succ n13 ih16 =>
        intro x2_10 x3_11 i14 hm15
        refine s_iload_n kx_246_102 rfl ?_
        refine s_aload_n kx_246_103 rfl ?_
        refine r_getR (k := 63) (f := 19) (k2 := 69) kx_246_104 kp_246_69 (tk_63 hT) kf_12_19 (by decide) (rq_63_19 hI) ?_
        refine s_aload_n kx_246_107 rfl ?_
        refine r_getI (k := 63) (f := 14) kx_246_108 kp_246_54 (tk_63 hT) kf_12_14 (fun _ => rfl) (rg_63_14 hI) (fun v17 v17e v17a v17b => ?_)
        refine r_ald (k := 69) kx_246_111 (tk_69 hT) ⟨by omega, by omega⟩ (rg_69 hI) (fun v18 v18e v18a v18b => ?_)
        refine s_icmp_ge (t := 137) kx_246_112 (by decide) (fun hc19 => ?_) (fun hc19 => ?_)
        · refine s_iload_n kx_246_137 rfl ?_
          exact s_iret kx_246_138 (Or.inl kq_246) ⟨_, rfl, rfl, trivial⟩
        · refine s_iload_n kx_246_115 rfl ?_
          refine s_aload_n kx_246_116 rfl ?_
          refine s_iload_n kx_246_117 rfl ?_
          refine s_callV2 (k := 63) (s1 := 2) (s2 := 1) (as := [(0, x3_11)]) (rest := [(0, x2_10)]) kx_246_118 kp_246_503 (Or.inl rfl) rfl (tk_63 hT) ki_244 kcl_244 rfl rfl (by decide) (m_244 (d := d) (p := x3_11) hT hI (by omega)) (kF (fun v20 v20p => ?_))
          refine s_if_eq (t := 128) kx_246_121 (by decide) (fun hc21 => ?_) (fun hc21 => ?_)
          · refine s_iconst (v := 0) kx_246_128 (by decide) ?_
            refine r_iaddR kx_246_129 (fun v22 v22a v22b => ?_)
            refine s_istore_n kx_246_130 km_246_2 rfl ?_
            refine r_iinc kx_246_131 rfl km_246_3 (by decide) ⟨by omega, by omega⟩ rfl ?_
            refine s_goto (t := 102) kx_246_134 (by decide) ?_
            exact cP.wk (lS1 rfl (lS1 rfl (lS1 rfl lS0))) (ih16 v22 (x3_11 + 1) (by omega) (by omega))
          · refine s_iconst (v := 1) kx_246_124 (by decide) ?_
            refine s_goto (t := 129) kx_246_125 (by decide) ?_
            refine r_iaddR kx_246_129 (fun v23 v23a v23b => ?_)
            refine s_istore_n kx_246_130 km_246_2 rfl ?_
            refine r_iinc kx_246_131 rfl km_246_3 (by decide) ⟨by omega, by omega⟩ rfl ?_
            refine s_goto (t := 102) kx_246_134 (by decide) ?_
            exact cP.wk (lS1 rfl (lS1 rfl (lS1 rfl lS0))) (ih16 v23 (x3_11 + 1) (by omega) (by omega))
    exact cP.wk (lS1 rfl (lS1 rfl (lS1 rfl lS0))) (key12 _ 0 0 (by omega) (Nat.lt_succ_self _))
  · refine s_tsw (t := 139) kx_246_3 (by decide) 5 hs1 (by decide) ?_
    refine s_iconst (v := 0) kx_246_139 (by decide) ?_
    refine s_istore_n kx_246_140 km_246_3 rfl ?_
    have key26 : ∀ n27 : Nat, ∀ (x2_24 x3_25 : Int), (0 ≤ x3_25) → (2147483647 - x3_25).toNat < n27 → cP k_P xs Ln (d + 3) 246 141 [(0, rf 63), (2, (0, x2_24)), (3, (0, x3_25))] [] (T, M) (qF T M 0 (fun v => True)) := by
      intro n27
      induction n27 with
      | zero => intro x2_24 x3_25 i28 hm29; exact absurd hm29 (Nat.not_lt_zero _)
      | succ n27 ih30 =>
        intro x2_24 x3_25 i28 hm29
        refine s_iload_n kx_246_141 rfl ?_
        refine s_aload_n kx_246_142 rfl ?_
        refine r_getR (k := 63) (f := 19) (k2 := 69) kx_246_143 kp_246_69 (tk_63 hT) kf_12_19 (by decide) (rq_63_19 hI) ?_
        refine s_aload_n kx_246_146 rfl ?_
        refine r_getI (k := 63) (f := 14) kx_246_147 kp_246_54 (tk_63 hT) kf_12_14 (fun _ => rfl) (rg_63_14 hI) (fun v31 v31e v31a v31b => ?_)
        refine r_ald (k := 69) kx_246_150 (tk_69 hT) ⟨by omega, by omega⟩ (rg_69 hI) (fun v32 v32e v32a v32b => ?_)
        refine s_icmp_ge (t := 169) kx_246_151 (by decide) (fun hc33 => ?_) (fun hc33 => ?_)
        · refine s_iload_n kx_246_169 rfl ?_
          exact s_iret kx_246_170 (Or.inl kq_246) ⟨_, rfl, rfl, trivial⟩
        · refine s_iload_n kx_246_154 rfl ?_
          refine s_aload_n kx_246_155 rfl ?_
          refine r_getR (k := 63) (f := 50) (k2 := 94) kx_246_156 kp_246_165 (tk_63 hT) kf_12_50 (by decide) (rq_63_50 hI) ?_
          refine s_iload_n kx_246_159 rfl ?_
          refine r_aldU (k := 94) kx_246_160 (tk_94 hT) ⟨by omega, by omega⟩ (fun v34 v34e => ?_)
          refine r_iaddR kx_246_161 (fun v35 v35a v35b => ?_)
          refine s_istore_n kx_246_162 km_246_2 rfl ?_
          refine r_iinc kx_246_163 rfl km_246_3 (by decide) ⟨by omega, by omega⟩ rfl ?_
          refine s_goto (t := 141) kx_246_166 (by decide) ?_
          exact cP.wk (lS1 rfl (lS1 rfl (lS1 rfl lS0))) (ih30 v35 (x3_25 + 1) (by omega) (by omega))
    exact cP.wk (lS1 rfl (lS1 rfl (lS1 rfl lS0))) (key26 _ 0 0 (by omega) (Nat.lt_succ_self _))
  · refine s_tsw (t := 171) kx_246_3 (by decide) 6 hs1 (by decide) ?_
    refine s_iconst (v := 0) kx_246_171 (by decide) ?_
    refine s_istore_n kx_246_172 km_246_3 rfl ?_
    have key38 : ∀ n39 : Nat, ∀ (x2_36 x3_37 : Int), (0 ≤ x3_37) → (2147483647 - x3_37).toNat < n39 → cP k_P xs Ln (d + 3) 246 173 [(0, rf 63), (2, (0, x2_36)), (3, (0, x3_37))] [] (T, M) (qF T M 0 (fun v => True)) := by
      intro n39
      induction n39 with
      | zero => intro x2_36 x3_37 i40 hm41; exact absurd hm41 (Nat.not_lt_zero _)
      | succ n39 ih42 =>
        intro x2_36 x3_37 i40 hm41
        refine s_iload_n kx_246_173 rfl ?_
        refine s_aload_n kx_246_174 rfl ?_
        refine r_getR (k := 63) (f := 19) (k2 := 69) kx_246_175 kp_246_69 (tk_63 hT) kf_12_19 (by decide) (rq_63_19 hI) ?_
        refine s_aload_n kx_246_178 rfl ?_
        refine r_getI (k := 63) (f := 14) kx_246_179 kp_246_54 (tk_63 hT) kf_12_14 (fun _ => rfl) (rg_63_14 hI) (fun v43 v43e v43a v43b => ?_)
        refine r_ald (k := 69) kx_246_182 (tk_69 hT) ⟨by omega, by omega⟩ (rg_69 hI) (fun v44 v44e v44a v44b => ?_)
        refine s_icmp_ge (t := 213) kx_246_183 (by decide) (fun hc45 => ?_) (fun hc45 => ?_)
        · refine s_iload_n kx_246_213 rfl ?_
          exact s_iret kx_246_214 (Or.inl kq_246) ⟨_, rfl, rfl, trivial⟩
        · refine s_aload_n kx_246_186 rfl ?_
          refine r_getR (k := 63) (f := 51) (k2 := 95) kx_246_187 kp_246_168 (tk_63 hT) kf_12_51 (by decide) (rq_63_51 hI) ?_
          refine s_iload_n kx_246_190 rfl ?_
          refine r_aldU (k := 95) kx_246_191 (tk_95 hT) ⟨by omega, by omega⟩ (fun v46 v46e => ?_)
          refine s_iload_n kx_246_192 rfl ?_
          refine s_icmp_le (t := 205) kx_246_193 (by decide) (fun hc47 => ?_) (fun hc47 => ?_)
          · refine s_iload_n kx_246_205 rfl ?_
            refine s_istore_n kx_246_206 km_246_2 rfl ?_
            refine r_iinc kx_246_207 rfl km_246_3 (by decide) ⟨by omega, by omega⟩ rfl ?_
            refine s_goto (t := 173) kx_246_210 (by decide) ?_
            exact cP.wk (lS1 rfl (lS1 rfl (lS1 rfl lS0))) (ih42 x2_36 (x3_37 + 1) (by omega) (by omega))
          · refine s_aload_n kx_246_196 rfl ?_
            refine r_getR (k := 63) (f := 51) (k2 := 95) kx_246_197 kp_246_168 (tk_63 hT) kf_12_51 (by decide) (rq_63_51 hI) ?_
            refine s_iload_n kx_246_200 rfl ?_
            refine r_aldK (k := 95) kx_246_201 (tk_95 hT) ⟨by omega, by omega⟩ v46e ?_
            refine s_goto (t := 206) kx_246_202 (by decide) ?_
            refine s_istore_n kx_246_206 km_246_2 rfl ?_
            refine r_iinc kx_246_207 rfl km_246_3 (by decide) ⟨by omega, by omega⟩ rfl ?_
            refine s_goto (t := 173) kx_246_210 (by decide) ?_
            exact cP.wk (lS1 rfl (lS1 rfl (lS1 rfl lS0))) (ih42 v46 (x3_37 + 1) (by omega) (by omega))
    exact cP.wk (lS1 rfl (lS1 rfl (lS1 rfl lS0))) (key38 _ 0 0 (by omega) (Nat.lt_succ_self _))
  · refine s_tsw (t := 215) kx_246_3 (by decide) 7 hs1 (by decide) ?_
    refine s_iconst (v := 0) kx_246_215 (by decide) ?_
    refine s_istore_n kx_246_216 km_246_3 rfl ?_
    have key50 : ∀ n51 : Nat, ∀ (x2_48 x3_49 : Int), (0 ≤ x3_49) → (2147483647 - x3_49).toNat < n51 → cP k_P xs Ln (d + 3) 246 217 [(0, rf 63), (2, (0, x2_48)), (3, (0, x3_49))] [] (T, M) (qF T M 0 (fun v => True)) := by
      intro n51
      induction n51 with
      | zero => intro x2_48 x3_49 i52 hm53; exact absurd hm53 (Nat.not_lt_zero _)
      | succ n51 ih54 =>
        intro x2_48 x3_49 i52 hm53
        refine s_iload_n kx_246_217 rfl ?_
        refine s_aload_n kx_246_218 rfl ?_
        refine r_getR (k := 63) (f := 19) (k2 := 69) kx_246_219 kp_246_69 (tk_63 hT) kf_12_19 (by decide) (rq_63_19 hI) ?_
        refine s_aload_n kx_246_222 rfl ?_
        refine r_getI (k := 63) (f := 14) kx_246_223 kp_246_54 (tk_63 hT) kf_12_14 (fun _ => rfl) (rg_63_14 hI) (fun v55 v55e v55a v55b => ?_)
        refine r_ald (k := 69) kx_246_226 (tk_69 hT) ⟨by omega, by omega⟩ (rg_69 hI) (fun v56 v56e v56a v56b => ?_)
        refine s_icmp_ge (t := 245) kx_246_227 (by decide) (fun hc57 => ?_) (fun hc57 => ?_)
        · refine s_iload_n kx_246_245 rfl ?_
          exact s_iret kx_246_246 (Or.inl kq_246) ⟨_, rfl, rfl, trivial⟩
        · refine s_iload_n kx_246_230 rfl ?_
          refine s_aload_n kx_246_231 rfl ?_
          refine r_getR (k := 63) (f := 52) (k2 := 96) kx_246_232 kp_246_171 (tk_63 hT) kf_12_52 (by decide) (rq_63_52 hI) ?_
          refine s_iload_n kx_246_235 rfl ?_
          refine r_aldU (k := 96) kx_246_236 (tk_96 hT) ⟨by omega, by omega⟩ (fun v58 v58e => ?_)
          refine r_iaddR kx_246_237 (fun v59 v59a v59b => ?_)
          refine s_istore_n kx_246_238 km_246_2 rfl ?_
          refine r_iinc kx_246_239 rfl km_246_3 (by decide) ⟨by omega, by omega⟩ rfl ?_
          refine s_goto (t := 217) kx_246_242 (by decide) ?_
          exact cP.wk (lS1 rfl (lS1 rfl (lS1 rfl lS0))) (ih54 v59 (x3_49 + 1) (by omega) (by omega))
    exact cP.wk (lS1 rfl (lS1 rfl (lS1 rfl lS0))) (key50 _ 0 0 (by omega) (Nat.lt_succ_self _))
  · refine s_tsw (t := 247) kx_246_3 (by decide) 8 hs1 (by decide) ?_
    refine s_aload_n kx_246_247 rfl ?_
    refine r_getR (k := 63) (f := 53) (k2 := 97) kx_246_248 kp_246_174 (tk_63 hT) kf_12_53 (by decide) (rq_63_53 hI) ?_
    refine s_iconst (v := 0) kx_246_251 (by decide) ?_
    refine r_ald (k := 97) kx_246_252 (tk_97 hT) ⟨by decide, by decide⟩ (rg_97 hI) (fun v60 v60e v60a v60b => ?_)
    exact s_iret kx_246_253 (Or.inl kq_246) ⟨_, rfl, rfl, trivial⟩
  · refine s_tsw (t := 254) kx_246_3 (by decide) 9 hs1 (by decide) ?_
    refine s_aload_n kx_246_254 rfl ?_
    refine r_getI (k := 63) (f := 59) kx_246_255 kp_246_192 (tk_63 hT) kf_12_59 (fun _ => rfl) (rg_63_59 hI) (fun v61 v61e v61a v61b => ?_)
    exact s_iret kx_246_258 (Or.inl kq_246) ⟨_, rfl, rfl, trivial⟩
  · refine s_tsw (t := 259) kx_246_3 (by decide) 10 hs1 (by decide) ?_
    refine s_aload_n kx_246_259 rfl ?_
    refine r_getI (k := 63) (f := 60) kx_246_260 kp_246_195 (tk_63 hT) kf_12_60 (fun _ => rfl) (rg_63_60 hI) (fun v62 v62e v62a v62b => ?_)
    refine r_l2iE kx_246_263 (by omega) (by omega) ?_
    exact s_iret kx_246_264 (Or.inl kq_246) ⟨_, rfl, rfl, trivial⟩
  · refine s_tswD (t := 265) kx_246_3 (by decide) hs1 (by decide) ?_
    refine s_iconst (v := (-1)) kx_246_265 (by decide) ?_
    exact s_iret kx_246_266 (Or.inl kq_246) ⟨_, rfl, rfl, trivial⟩
theorem kx_248_0 : x_code k_P 248 0 = some (.aload_n 0, 1) := by decide +kernel
theorem kx_248_1 : x_code k_P 248 1 = some (.iload_n 1, 1) := by decide +kernel
theorem kx_248_2 : x_code k_P 248 2 = some (.invokevirtual 508, 3) := by decide +kernel
theorem kp_248_508 : x_pool k_P 248 508 = (2, 220, 1) := by decide +kernel
theorem ki_220 : x_mci k_P 220 = 12 := by decide +kernel
theorem kcl_220 : x_maxL k_P 220 ≤ 60 ∧ 2 ≤ x_maxL k_P 220 := by decide +kernel
theorem kx_248_5 : x_code k_P 248 5 = some (.ifCond .ne 5, 3) := by decide +kernel
theorem kx_248_10 : x_code k_P 248 10 = some (.iconst 0, 1) := by decide +kernel
theorem kx_248_11 : x_code k_P 248 11 = some (.istore_n 3, 1) := by decide +kernel
theorem km_248_3 : 3 < x_maxL k_P 248 := by decide +kernel
theorem kx_248_12 : x_code k_P 248 12 = some (.iload_n 2, 1) := by decide +kernel
theorem kx_248_13 : x_code k_P 248 13 = some (.tableswitch 226 0 5 #[39, 54, 69, 76, 123, 170], 39) := by decide +kernel
theorem kx_248_52 : x_code k_P 248 52 = some (.aload_n 0, 1) := by decide +kernel
theorem kx_248_53 : x_code k_P 248 53 = some (.getfield 60, 3) := by decide +kernel
theorem kp_248_60 : x_pool k_P 248 60 = (1, 12, 16) := by decide +kernel
theorem kx_248_56 : x_code k_P 248 56 = some (.bipush 8, 2) := by decide +kernel
theorem kx_248_58 : x_code k_P 248 58 = some (.aload_n 0, 1) := by decide +kernel
theorem kx_248_59 : x_code k_P 248 59 = some (.getfield 54, 3) := by decide +kernel
theorem kp_248_54 : x_pool k_P 248 54 = (1, 12, 14) := by decide +kernel
theorem kx_248_62 : x_code k_P 248 62 = some (.imul, 1) := by decide +kernel
theorem kx_248_63 : x_code k_P 248 63 = some (.iload_n 1, 1) := by decide +kernel
theorem kx_248_64 : x_code k_P 248 64 = some (.iadd, 1) := by decide +kernel
theorem kx_248_65 : x_code k_P 248 65 = some (.iaload, 1) := by decide +kernel
theorem kx_248_66 : x_code k_P 248 66 = some (.ireturn, 1) := by decide +kernel
theorem kq_248 : x_retk k_P 248 = 1 := by decide +kernel
theorem kx_248_67 : x_code k_P 248 67 = some (.aload_n 0, 1) := by decide +kernel
theorem kx_248_68 : x_code k_P 248 68 = some (.getfield 63, 3) := by decide +kernel
theorem kp_248_63 : x_pool k_P 248 63 = (1, 12, 17) := by decide +kernel
theorem kx_248_71 : x_code k_P 248 71 = some (.bipush 8, 2) := by decide +kernel
theorem kx_248_73 : x_code k_P 248 73 = some (.aload_n 0, 1) := by decide +kernel
theorem kx_248_74 : x_code k_P 248 74 = some (.getfield 54, 3) := by decide +kernel
theorem kx_248_77 : x_code k_P 248 77 = some (.imul, 1) := by decide +kernel
theorem kx_248_78 : x_code k_P 248 78 = some (.iload_n 1, 1) := by decide +kernel
theorem kx_248_79 : x_code k_P 248 79 = some (.iadd, 1) := by decide +kernel
theorem kx_248_80 : x_code k_P 248 80 = some (.iaload, 1) := by decide +kernel
theorem kx_248_81 : x_code k_P 248 81 = some (.ireturn, 1) := by decide +kernel
theorem kx_248_82 : x_code k_P 248 82 = some (.aload_n 0, 1) := by decide +kernel
theorem kx_248_83 : x_code k_P 248 83 = some (.iload_n 1, 1) := by decide +kernel
theorem kx_248_84 : x_code k_P 248 84 = some (.iconst (-1), 1) := by decide +kernel
theorem kx_248_85 : x_code k_P 248 85 = some (.invokevirtual 497, 3) := by decide +kernel
theorem kp_248_497 : x_pool k_P 248 497 = (2, 240, 2) := by decide +kernel
theorem kx_248_88 : x_code k_P 248 88 = some (.ireturn, 1) := by decide +kernel
theorem kx_248_89 : x_code k_P 248 89 = some (.iconst 0, 1) := by decide +kernel
theorem kx_248_90 : x_code k_P 248 90 = some (.istore 4, 2) := by decide +kernel
theorem km_248_4 : 4 < x_maxL k_P 248 := by decide +kernel
theorem kx_248_92 : x_code k_P 248 92 = some (.iload 4, 2) := by decide +kernel
theorem kx_248_94 : x_code k_P 248 94 = some (.aload_n 0, 1) := by decide +kernel
theorem kx_248_95 : x_code k_P 248 95 = some (.getfield 69, 3) := by decide +kernel
theorem kp_248_69 : x_pool k_P 248 69 = (1, 12, 19) := by decide +kernel
theorem kx_248_98 : x_code k_P 248 98 = some (.aload_n 0, 1) := by decide +kernel
theorem kx_248_99 : x_code k_P 248 99 = some (.getfield 54, 3) := by decide +kernel
theorem kx_248_102 : x_code k_P 248 102 = some (.iaload, 1) := by decide +kernel
theorem kx_248_103 : x_code k_P 248 103 = some (.if_icmp .ge 31, 3) := by decide +kernel
theorem kx_248_134 : x_code k_P 248 134 = some (.iload_n 3, 1) := by decide +kernel
theorem kx_248_135 : x_code k_P 248 135 = some (.ireturn, 1) := by decide +kernel
theorem kx_248_106 : x_code k_P 248 106 = some (.iload_n 3, 1) := by decide +kernel
theorem kx_248_107 : x_code k_P 248 107 = some (.aload_n 0, 1) := by decide +kernel
theorem kx_248_108 : x_code k_P 248 108 = some (.getfield 159, 3) := by decide +kernel
theorem kp_248_159 : x_pool k_P 248 159 = (1, 12, 48) := by decide +kernel
theorem kx_248_111 : x_code k_P 248 111 = some (.iload 4, 2) := by decide +kernel
theorem kx_248_113 : x_code k_P 248 113 = some (.iaload, 1) := by decide +kernel
theorem kx_248_114 : x_code k_P 248 114 = some (.iload_n 1, 1) := by decide +kernel
theorem kx_248_115 : x_code k_P 248 115 = some (.if_icmp .ne 10, 3) := by decide +kernel
theorem kx_248_125 : x_code k_P 248 125 = some (.iconst 0, 1) := by decide +kernel
theorem kx_248_126 : x_code k_P 248 126 = some (.ior, 1) := by decide +kernel
theorem kx_248_127 : x_code k_P 248 127 = some (.istore_n 3, 1) := by decide +kernel
theorem kx_248_128 : x_code k_P 248 128 = some (.iinc 4 1, 3) := by decide +kernel
theorem kx_248_131 : x_code k_P 248 131 = some (.goto (-39), 3) := by decide +kernel
theorem kx_248_118 : x_code k_P 248 118 = some (.iconst 1, 1) := by decide +kernel
theorem kx_248_119 : x_code k_P 248 119 = some (.iload 4, 2) := by decide +kernel
theorem kx_248_121 : x_code k_P 248 121 = some (.ishl, 1) := by decide +kernel
theorem kx_248_122 : x_code k_P 248 122 = some (.goto 4, 3) := by decide +kernel
theorem kx_248_136 : x_code k_P 248 136 = some (.iconst 0, 1) := by decide +kernel
theorem kx_248_137 : x_code k_P 248 137 = some (.istore 4, 2) := by decide +kernel
theorem kx_248_139 : x_code k_P 248 139 = some (.iload 4, 2) := by decide +kernel
theorem kx_248_141 : x_code k_P 248 141 = some (.aload_n 0, 1) := by decide +kernel
theorem kx_248_142 : x_code k_P 248 142 = some (.getfield 69, 3) := by decide +kernel
theorem kx_248_145 : x_code k_P 248 145 = some (.aload_n 0, 1) := by decide +kernel
theorem kx_248_146 : x_code k_P 248 146 = some (.getfield 54, 3) := by decide +kernel
theorem kx_248_149 : x_code k_P 248 149 = some (.iaload, 1) := by decide +kernel
theorem kx_248_150 : x_code k_P 248 150 = some (.if_icmp .ge 31, 3) := by decide +kernel
theorem kx_248_181 : x_code k_P 248 181 = some (.iload_n 3, 1) := by decide +kernel
theorem kx_248_182 : x_code k_P 248 182 = some (.ireturn, 1) := by decide +kernel
theorem kx_248_153 : x_code k_P 248 153 = some (.iload_n 3, 1) := by decide +kernel
theorem kx_248_154 : x_code k_P 248 154 = some (.aload_n 0, 1) := by decide +kernel
theorem kx_248_155 : x_code k_P 248 155 = some (.getfield 162, 3) := by decide +kernel
theorem kp_248_162 : x_pool k_P 248 162 = (1, 12, 49) := by decide +kernel
theorem kx_248_158 : x_code k_P 248 158 = some (.iload 4, 2) := by decide +kernel
theorem kx_248_160 : x_code k_P 248 160 = some (.iaload, 1) := by decide +kernel
theorem kx_248_161 : x_code k_P 248 161 = some (.iload_n 1, 1) := by decide +kernel
theorem kx_248_162 : x_code k_P 248 162 = some (.if_icmp .ne 10, 3) := by decide +kernel
theorem kx_248_172 : x_code k_P 248 172 = some (.iconst 0, 1) := by decide +kernel
theorem kx_248_173 : x_code k_P 248 173 = some (.ior, 1) := by decide +kernel
theorem kx_248_174 : x_code k_P 248 174 = some (.istore_n 3, 1) := by decide +kernel
theorem kx_248_175 : x_code k_P 248 175 = some (.iinc 4 1, 3) := by decide +kernel
theorem kx_248_178 : x_code k_P 248 178 = some (.goto (-39), 3) := by decide +kernel
theorem kx_248_165 : x_code k_P 248 165 = some (.iconst 1, 1) := by decide +kernel
theorem kx_248_166 : x_code k_P 248 166 = some (.iload 4, 2) := by decide +kernel
theorem kx_248_168 : x_code k_P 248 168 = some (.ishl, 1) := by decide +kernel
theorem kx_248_169 : x_code k_P 248 169 = some (.goto 4, 3) := by decide +kernel
theorem kx_248_183 : x_code k_P 248 183 = some (.iconst 0, 1) := by decide +kernel
theorem kx_248_184 : x_code k_P 248 184 = some (.istore 4, 2) := by decide +kernel
theorem kx_248_186 : x_code k_P 248 186 = some (.iload 4, 2) := by decide +kernel
theorem kx_248_188 : x_code k_P 248 188 = some (.aload_n 0, 1) := by decide +kernel
theorem kx_248_189 : x_code k_P 248 189 = some (.getfield 69, 3) := by decide +kernel
theorem kx_248_192 : x_code k_P 248 192 = some (.aload_n 0, 1) := by decide +kernel
theorem kx_248_193 : x_code k_P 248 193 = some (.getfield 54, 3) := by decide +kernel
theorem kx_248_196 : x_code k_P 248 196 = some (.iaload, 1) := by decide +kernel
theorem kx_248_197 : x_code k_P 248 197 = some (.if_icmp .ge 40, 3) := by decide +kernel
theorem kx_248_237 : x_code k_P 248 237 = some (.iload_n 3, 1) := by decide +kernel
theorem kx_248_238 : x_code k_P 248 238 = some (.ireturn, 1) := by decide +kernel
theorem kx_248_200 : x_code k_P 248 200 = some (.iload_n 3, 1) := by decide +kernel
theorem kx_248_201 : x_code k_P 248 201 = some (.aload_n 0, 1) := by decide +kernel
theorem kx_248_202 : x_code k_P 248 202 = some (.getfield 159, 3) := by decide +kernel
theorem kx_248_205 : x_code k_P 248 205 = some (.iload 4, 2) := by decide +kernel
theorem kx_248_207 : x_code k_P 248 207 = some (.iaload, 1) := by decide +kernel
theorem kx_248_208 : x_code k_P 248 208 = some (.iload_n 1, 1) := by decide +kernel
theorem kx_248_209 : x_code k_P 248 209 = some (.if_icmp .ne 19, 3) := by decide +kernel
theorem kx_248_228 : x_code k_P 248 228 = some (.iconst 0, 1) := by decide +kernel
theorem kx_248_229 : x_code k_P 248 229 = some (.ior, 1) := by decide +kernel
theorem kx_248_230 : x_code k_P 248 230 = some (.istore_n 3, 1) := by decide +kernel
theorem kx_248_231 : x_code k_P 248 231 = some (.iinc 4 1, 3) := by decide +kernel
theorem kx_248_234 : x_code k_P 248 234 = some (.goto (-48), 3) := by decide +kernel
theorem kx_248_212 : x_code k_P 248 212 = some (.aload_n 0, 1) := by decide +kernel
theorem kx_248_213 : x_code k_P 248 213 = some (.iload 4, 2) := by decide +kernel
theorem kx_248_215 : x_code k_P 248 215 = some (.invokevirtual 503, 3) := by decide +kernel
theorem kp_248_503 : x_pool k_P 248 503 = (2, 244, 1) := by decide +kernel
theorem kx_248_218 : x_code k_P 248 218 = some (.ifCond .eq 10, 3) := by decide +kernel
theorem kx_248_221 : x_code k_P 248 221 = some (.iconst 1, 1) := by decide +kernel
theorem kx_248_222 : x_code k_P 248 222 = some (.iload 4, 2) := by decide +kernel
theorem kx_248_224 : x_code k_P 248 224 = some (.ishl, 1) := by decide +kernel
theorem kx_248_225 : x_code k_P 248 225 = some (.goto 4, 3) := by decide +kernel
theorem kx_248_239 : x_code k_P 248 239 = some (.iconst (-1), 1) := by decide +kernel
theorem kx_248_240 : x_code k_P 248 240 = some (.ireturn, 1) := by decide +kernel
theorem kx_248_8 : x_code k_P 248 8 = some (.iconst (-1), 1) := by decide +kernel
theorem kx_248_9 : x_code k_P 248 9 = some (.ireturn, 1) := by decide +kernel
theorem m_248 {xs : Nat → Int} {Ln d : Nat} {T : List cK} {M : cM} (hT : TT T) (hI : Rng M) {r what : Int} : cC k_P xs Ln (d + 3) 248 [rf 63, (0, r), (0, what)] (T, M) (qF T M 0 (fun v => True)) := by
  show cP k_P xs Ln (d + 3) 248 0 [(0, rf 63), (1, (0, r)), (2, (0, what))] [] (T, M) _
  refine s_aload_n kx_248_0 rfl ?_
  refine s_iload_n kx_248_1 rfl ?_
  refine s_callV2 (k := 63) (s1 := 2) (s2 := 0) (as := [(0, r)]) (rest := []) kx_248_2 kp_248_508 (Or.inl rfl) rfl (tk_63 hT) ki_220 kcl_220 rfl rfl (by decide) (m_220 (d := d + 2) (r := r) hT hI) (kF (fun v1 v1p => ?_))
  refine s_if_ne (t := 10) kx_248_5 (by decide) (fun hc2 => ?_) (fun hc2 => ?_)
  · replace v1p := v1p.resolve_right (by omega)
    refine s_iconst (v := 0) kx_248_10 (by decide) ?_
    refine s_istore_n kx_248_11 km_248_3 rfl ?_
    refine s_iload_n kx_248_12 rfl ?_
    rcases (by omega : what = 0 ∨ what = 1 ∨ what = 2 ∨ what = 3 ∨ what = 4 ∨ what = 5 ∨ (what < 0 ∨ 5 < what)) with hs3 | hs3 | hs3 | hs3 | hs3 | hs3 | hs3
    · refine s_tsw (t := 52) kx_248_13 (by decide) 0 hs3 (by decide) ?_
      refine s_aload_n kx_248_52 rfl ?_
      refine r_getR (k := 63) (f := 16) (k2 := 66) kx_248_53 kp_248_60 (tk_63 hT) kf_12_16 (by decide) (rq_63_16 hI) ?_
      refine s_bipush (v := 8) kx_248_56 (by decide) ?_
      refine s_aload_n kx_248_58 rfl ?_
      refine r_getI (k := 63) (f := 14) kx_248_59 kp_248_54 (tk_63 hT) kf_12_14 (fun _ => rfl) (rg_63_14 hI) (fun v4 v4e v4a v4b => ?_)
      refine r_mul kx_248_62 ⟨by omega, by omega⟩ ?_
      refine s_iload_n kx_248_63 rfl ?_
      refine r_add kx_248_64 ⟨by omega, by omega⟩ ?_
      refine r_aldU (k := 66) kx_248_65 (tk_66 hT) ⟨by omega, by omega⟩ (fun v5 v5e => ?_)
      exact s_iret kx_248_66 (Or.inl kq_248) ⟨_, rfl, rfl, trivial⟩
    · refine s_tsw (t := 67) kx_248_13 (by decide) 1 hs3 (by decide) ?_
      refine s_aload_n kx_248_67 rfl ?_
      refine r_getR (k := 63) (f := 17) (k2 := 67) kx_248_68 kp_248_63 (tk_63 hT) kf_12_17 (by decide) (rq_63_17 hI) ?_
      refine s_bipush (v := 8) kx_248_71 (by decide) ?_
      refine s_aload_n kx_248_73 rfl ?_
      refine r_getI (k := 63) (f := 14) kx_248_74 kp_248_54 (tk_63 hT) kf_12_14 (fun _ => rfl) (rg_63_14 hI) (fun v6 v6e v6a v6b => ?_)
      refine r_mul kx_248_77 ⟨by omega, by omega⟩ ?_
      refine s_iload_n kx_248_78 rfl ?_
      refine r_add kx_248_79 ⟨by omega, by omega⟩ ?_
      refine r_aldU (k := 67) kx_248_80 (tk_67 hT) ⟨by omega, by omega⟩ (fun v7 v7e => ?_)
      exact s_iret kx_248_81 (Or.inl kq_248) ⟨_, rfl, rfl, trivial⟩
    · refine s_tsw (t := 82) kx_248_13 (by decide) 2 hs3 (by decide) ?_
      refine s_aload_n kx_248_82 rfl ?_
      refine s_iload_n kx_248_83 rfl ?_
      refine s_iconst (v := (-1)) kx_248_84 (by decide) ?_
      refine s_callV2 (k := 63) (s1 := 3) (s2 := 0) (as := [(0, (-1)), (0, r)]) (rest := []) kx_248_85 kp_248_497 (Or.inl rfl) rfl (tk_63 hT) ki_240 kcl_240 rfl rfl (by decide) (m_240 (d := d + 1) (r := r) (but := (-1)) hT hI) (kF (fun v8 v8p => ?_))
      exact s_iret kx_248_88 (Or.inl kq_248) ⟨_, rfl, rfl, trivial⟩
    · refine s_tsw (t := 89) kx_248_13 (by decide) 3 hs3 (by decide) ?_
      refine s_iconst (v := 0) kx_248_89 (by decide) ?_
      refine s_istore kx_248_90 km_248_4 rfl ?_
      have key11 : ∀ n12 : Nat, ∀ (x3_9 x4_10 : Int), (0 ≤ x4_10) → (2147483647 - x4_10).toNat < n12 → cP k_P xs Ln (d + 3) 248 92 [(0, rf 63), (1, (0, r)), (3, (0, x3_9)), (4, (0, x4_10))] [] (T, M) (qF T M 0 (fun v => True)) := by
        intro n12
        induction n12 with
        | zero => intro x3_9 x4_10 i13 hm14; exact absurd hm14 (Nat.not_lt_zero _)
        | succ n12 ih15 =>
          intro x3_9 x4_10 i13 hm14
          refine s_iload kx_248_92 rfl ?_
          refine s_aload_n kx_248_94 rfl ?_
          refine r_getR (k := 63) (f := 19) (k2 := 69) kx_248_95 kp_248_69 (tk_63 hT) kf_12_19 (by decide) (rq_63_19 hI) ?_
          refine s_aload_n kx_248_98 rfl ?_
          refine r_getI (k := 63) (f := 14) kx_248_99 kp_248_54 (tk_63 hT) kf_12_14 (fun _ => rfl) (rg_63_14 hI) (fun v16 v16e v16a v16b => ?_)
          refine r_ald (k := 69) kx_248_102 (tk_69 hT) ⟨by omega, by omega⟩ (rg_69 hI) (fun v17 v17e v17a v17b => ?_)
          refine s_icmp_ge (t := 134) kx_248_103 (by decide) (fun hc18 => ?_) (fun hc18 => ?_)
          · refine s_iload_n kx_248_134 rfl ?_
            exact s_iret kx_248_135 (Or.inl kq_248) ⟨_, rfl, rfl, trivial⟩
          · refine s_iload_n kx_248_106 rfl ?_
            refine s_aload_n kx_248_107 rfl ?_
            refine r_getR (k := 63) (f := 48) (k2 := 92) kx_248_108 kp_248_159 (tk_63 hT) kf_12_48 (by decide) (rq_63_48 hI) ?_
            refine s_iload kx_248_111 rfl ?_
            refine r_ald (k := 92) kx_248_113 (tk_92 hT) ⟨by omega, by omega⟩ (rg_92 hI (by omega)) (fun v19 v19e v19a v19b => ?_)
            refine s_iload_n kx_248_114 rfl ?_
            refine s_icmp_ne (t := 125) kx_248_115 (by decide) (fun hc20 => ?_) (fun hc20 => ?_)
            · refine s_iconst (v := 0) kx_248_125 (by decide) ?_
              refine r_iorR kx_248_126 (fun v21 v21a v21b => ?_)
              refine s_istore_n kx_248_127 km_248_3 rfl ?_
              refine r_iinc kx_248_128 rfl km_248_4 (by decide) ⟨by omega, by omega⟩ rfl ?_
              refine s_goto (t := 92) kx_248_131 (by decide) ?_
              exact cP.wk (lS1 rfl (lS1 rfl (lS1 rfl (lS1 rfl lS0)))) (ih15 v21 (x4_10 + 1) (by omega) (by omega))
            · refine s_iconst (v := 1) kx_248_118 (by decide) ?_
              refine s_iload kx_248_119 rfl ?_
              refine r_ishlR kx_248_121 (fun v22 v22a v22b => ?_)
              refine s_goto (t := 126) kx_248_122 (by decide) ?_
              refine r_iorR kx_248_126 (fun v23 v23a v23b => ?_)
              refine s_istore_n kx_248_127 km_248_3 rfl ?_
              refine r_iinc kx_248_128 rfl km_248_4 (by decide) ⟨by omega, by omega⟩ rfl ?_
              refine s_goto (t := 92) kx_248_131 (by decide) ?_
              exact cP.wk (lS1 rfl (lS1 rfl (lS1 rfl (lS1 rfl lS0)))) (ih15 v23 (x4_10 + 1) (by omega) (by omega))
      exact cP.wk (lS1 rfl (lS1 rfl (lS1 rfl (lS1 rfl lS0)))) (key11 _ 0 0 (by omega) (Nat.lt_succ_self _))
    · refine s_tsw (t := 136) kx_248_13 (by decide) 4 hs3 (by decide) ?_
      refine s_iconst (v := 0) kx_248_136 (by decide) ?_
      refine s_istore kx_248_137 km_248_4 rfl ?_
      have key26 : ∀ n27 : Nat, ∀ (x3_24 x4_25 : Int), (0 ≤ x4_25) → (2147483647 - x4_25).toNat < n27 → cP k_P xs Ln (d + 3) 248 139 [(0, rf 63), (1, (0, r)), (3, (0, x3_24)), (4, (0, x4_25))] [] (T, M) (qF T M 0 (fun v => True)) := by
        intro n27
        induction n27 with
        | zero => intro x3_24 x4_25 i28 hm29; exact absurd hm29 (Nat.not_lt_zero _)
        | succ n27 ih30 =>
          intro x3_24 x4_25 i28 hm29
          refine s_iload kx_248_139 rfl ?_
          refine s_aload_n kx_248_141 rfl ?_
          refine r_getR (k := 63) (f := 19) (k2 := 69) kx_248_142 kp_248_69 (tk_63 hT) kf_12_19 (by decide) (rq_63_19 hI) ?_
          refine s_aload_n kx_248_145 rfl ?_
          refine r_getI (k := 63) (f := 14) kx_248_146 kp_248_54 (tk_63 hT) kf_12_14 (fun _ => rfl) (rg_63_14 hI) (fun v31 v31e v31a v31b => ?_)
          refine r_ald (k := 69) kx_248_149 (tk_69 hT) ⟨by omega, by omega⟩ (rg_69 hI) (fun v32 v32e v32a v32b => ?_)
          refine s_icmp_ge (t := 181) kx_248_150 (by decide) (fun hc33 => ?_) (fun hc33 => ?_)
          · refine s_iload_n kx_248_181 rfl ?_
            exact s_iret kx_248_182 (Or.inl kq_248) ⟨_, rfl, rfl, trivial⟩
          · refine s_iload_n kx_248_153 rfl ?_
            refine s_aload_n kx_248_154 rfl ?_
            refine r_getR (k := 63) (f := 49) (k2 := 93) kx_248_155 kp_248_162 (tk_63 hT) kf_12_49 (by decide) (rq_63_49 hI) ?_
            refine s_iload kx_248_158 rfl ?_
            refine r_ald (k := 93) kx_248_160 (tk_93 hT) ⟨by omega, by omega⟩ (rg_93 hI (by omega)) (fun v34 v34e v34a v34b => ?_)
            refine s_iload_n kx_248_161 rfl ?_
            refine s_icmp_ne (t := 172) kx_248_162 (by decide) (fun hc35 => ?_) (fun hc35 => ?_)
            · refine s_iconst (v := 0) kx_248_172 (by decide) ?_
              refine r_iorR kx_248_173 (fun v36 v36a v36b => ?_)
              refine s_istore_n kx_248_174 km_248_3 rfl ?_
              refine r_iinc kx_248_175 rfl km_248_4 (by decide) ⟨by omega, by omega⟩ rfl ?_
              refine s_goto (t := 139) kx_248_178 (by decide) ?_
              exact cP.wk (lS1 rfl (lS1 rfl (lS1 rfl (lS1 rfl lS0)))) (ih30 v36 (x4_25 + 1) (by omega) (by omega))
            · refine s_iconst (v := 1) kx_248_165 (by decide) ?_
              refine s_iload kx_248_166 rfl ?_
              refine r_ishlR kx_248_168 (fun v37 v37a v37b => ?_)
              refine s_goto (t := 173) kx_248_169 (by decide) ?_
              refine r_iorR kx_248_173 (fun v38 v38a v38b => ?_)
              refine s_istore_n kx_248_174 km_248_3 rfl ?_
              refine r_iinc kx_248_175 rfl km_248_4 (by decide) ⟨by omega, by omega⟩ rfl ?_
              refine s_goto (t := 139) kx_248_178 (by decide) ?_
              exact cP.wk (lS1 rfl (lS1 rfl (lS1 rfl (lS1 rfl lS0)))) (ih30 v38 (x4_25 + 1) (by omega) (by omega))
      exact cP.wk (lS1 rfl (lS1 rfl (lS1 rfl (lS1 rfl lS0)))) (key26 _ 0 0 (by omega) (Nat.lt_succ_self _))
    · refine s_tsw (t := 183) kx_248_13 (by decide) 5 hs3 (by decide) ?_
      refine s_iconst (v := 0) kx_248_183 (by decide) ?_
      refine s_istore kx_248_184 km_248_4 rfl ?_
      have key41 : ∀ n42 : Nat, ∀ (x3_39 x4_40 : Int), (0 ≤ x4_40) → (2147483647 - x4_40).toNat < n42 → cP k_P xs Ln (d + 3) 248 186 [(0, rf 63), (1, (0, r)), (3, (0, x3_39)), (4, (0, x4_40))] [] (T, M) (qF T M 0 (fun v => True)) := by
        intro n42
        induction n42 with
        | zero => intro x3_39 x4_40 i43 hm44; exact absurd hm44 (Nat.not_lt_zero _)
        | succ n42 ih45 =>
          intro x3_39 x4_40 i43 hm44
          refine s_iload kx_248_186 rfl ?_
          refine s_aload_n kx_248_188 rfl ?_
          refine r_getR (k := 63) (f := 19) (k2 := 69) kx_248_189 kp_248_69 (tk_63 hT) kf_12_19 (by decide) (rq_63_19 hI) ?_
          refine s_aload_n kx_248_192 rfl ?_
          refine r_getI (k := 63) (f := 14) kx_248_193 kp_248_54 (tk_63 hT) kf_12_14 (fun _ => rfl) (rg_63_14 hI) (fun v46 v46e v46a v46b => ?_)
          refine r_ald (k := 69) kx_248_196 (tk_69 hT) ⟨by omega, by omega⟩ (rg_69 hI) (fun v47 v47e v47a v47b => ?_)
          refine s_icmp_ge (t := 237) kx_248_197 (by decide) (fun hc48 => ?_) (fun hc48 => ?_)
          · refine s_iload_n kx_248_237 rfl ?_
            exact s_iret kx_248_238 (Or.inl kq_248) ⟨_, rfl, rfl, trivial⟩
          · refine s_iload_n kx_248_200 rfl ?_
            refine s_aload_n kx_248_201 rfl ?_
            refine r_getR (k := 63) (f := 48) (k2 := 92) kx_248_202 kp_248_159 (tk_63 hT) kf_12_48 (by decide) (rq_63_48 hI) ?_
            refine s_iload kx_248_205 rfl ?_
            refine r_ald (k := 92) kx_248_207 (tk_92 hT) ⟨by omega, by omega⟩ (rg_92 hI (by omega)) (fun v49 v49e v49a v49b => ?_)
            refine s_iload_n kx_248_208 rfl ?_
            refine s_icmp_ne (t := 228) kx_248_209 (by decide) (fun hc50 => ?_) (fun hc50 => ?_)
            · refine s_iconst (v := 0) kx_248_228 (by decide) ?_
              refine r_iorR kx_248_229 (fun v51 v51a v51b => ?_)
              refine s_istore_n kx_248_230 km_248_3 rfl ?_
              refine r_iinc kx_248_231 rfl km_248_4 (by decide) ⟨by omega, by omega⟩ rfl ?_
              refine s_goto (t := 186) kx_248_234 (by decide) ?_
              exact cP.wk (lS1 rfl (lS1 rfl (lS1 rfl (lS1 rfl lS0)))) (ih45 v51 (x4_40 + 1) (by omega) (by omega))
            · refine s_aload_n kx_248_212 rfl ?_
              refine s_iload kx_248_213 rfl ?_
              refine s_callV2 (k := 63) (s1 := 2) (s2 := 1) (as := [(0, x4_40)]) (rest := [(0, x3_39)]) kx_248_215 kp_248_503 (Or.inl rfl) rfl (tk_63 hT) ki_244 kcl_244 rfl rfl (by decide) (m_244 (d := d) (p := x4_40) hT hI (by omega)) (kF (fun v52 v52p => ?_))
              refine s_if_eq (t := 228) kx_248_218 (by decide) (fun hc53 => ?_) (fun hc53 => ?_)
              · refine s_iconst (v := 0) kx_248_228 (by decide) ?_
                refine r_iorR kx_248_229 (fun v54 v54a v54b => ?_)
                refine s_istore_n kx_248_230 km_248_3 rfl ?_
                refine r_iinc kx_248_231 rfl km_248_4 (by decide) ⟨by omega, by omega⟩ rfl ?_
                refine s_goto (t := 186) kx_248_234 (by decide) ?_
                exact cP.wk (lS1 rfl (lS1 rfl (lS1 rfl (lS1 rfl lS0)))) (ih45 v54 (x4_40 + 1) (by omega) (by omega))
              · refine s_iconst (v := 1) kx_248_221 (by decide) ?_
                refine s_iload kx_248_222 rfl ?_
                refine r_ishlR kx_248_224 (fun v55 v55a v55b => ?_)
                refine s_goto (t := 229) kx_248_225 (by decide) ?_
                refine r_iorR kx_248_229 (fun v56 v56a v56b => ?_)
                refine s_istore_n kx_248_230 km_248_3 rfl ?_
                refine r_iinc kx_248_231 rfl km_248_4 (by decide) ⟨by omega, by omega⟩ rfl ?_
                refine s_goto (t := 186) kx_248_234 (by decide) ?_
                exact cP.wk (lS1 rfl (lS1 rfl (lS1 rfl (lS1 rfl lS0)))) (ih45 v56 (x4_40 + 1) (by omega) (by omega))
      exact cP.wk (lS1 rfl (lS1 rfl (lS1 rfl (lS1 rfl lS0)))) (key41 _ 0 0 (by omega) (Nat.lt_succ_self _))
    · refine s_tswD (t := 239) kx_248_13 (by decide) hs3 (by decide) ?_
      refine s_iconst (v := (-1)) kx_248_239 (by decide) ?_
      exact s_iret kx_248_240 (Or.inl kq_248) ⟨_, rfl, rfl, trivial⟩
  · replace v1p := v1p.resolve_left (by omega)
    refine s_iconst (v := (-1)) kx_248_8 (by decide) ?_
    exact s_iret kx_248_9 (Or.inl kq_248) ⟨_, rfl, rfl, trivial⟩
theorem kx_249_0 : x_code k_P 249 0 = some (.aload_n 0, 1) := by decide +kernel
theorem kx_249_1 : x_code k_P 249 1 = some (.iload_n 1, 1) := by decide +kernel
theorem kx_249_2 : x_code k_P 249 2 = some (.invokevirtual 508, 3) := by decide +kernel
theorem kp_249_508 : x_pool k_P 249 508 = (2, 220, 1) := by decide +kernel
theorem kx_249_5 : x_code k_P 249 5 = some (.ifCond .eq 29, 3) := by decide +kernel
theorem kx_249_34 : x_code k_P 249 34 = some (.iconst (-1), 1) := by decide +kernel
theorem kx_249_35 : x_code k_P 249 35 = some (.ireturn, 1) := by decide +kernel
theorem kq_249 : x_retk k_P 249 = 1 := by decide +kernel
theorem kx_249_8 : x_code k_P 249 8 = some (.aload_n 0, 1) := by decide +kernel
theorem kx_249_9 : x_code k_P 249 9 = some (.iload_n 2, 1) := by decide +kernel
theorem kx_249_10 : x_code k_P 249 10 = some (.invokevirtual 508, 3) := by decide +kernel
theorem kx_249_13 : x_code k_P 249 13 = some (.ifCond .eq 21, 3) := by decide +kernel
theorem kx_249_16 : x_code k_P 249 16 = some (.aload_n 0, 1) := by decide +kernel
theorem kx_249_17 : x_code k_P 249 17 = some (.iload_n 1, 1) := by decide +kernel
theorem kx_249_18 : x_code k_P 249 18 = some (.iload_n 2, 1) := by decide +kernel
theorem kx_249_19 : x_code k_P 249 19 = some (.invokevirtual 511, 3) := by decide +kernel
theorem kp_249_511 : x_pool k_P 249 511 = (2, 245, 2) := by decide +kernel
theorem ki_245 : x_mci k_P 245 = 12 := by decide +kernel
theorem kcl_245 : x_maxL k_P 245 ≤ 60 ∧ 3 ≤ x_maxL k_P 245 := by decide +kernel
theorem kx_249_22 : x_code k_P 249 22 = some (.ifCond .le 12, 3) := by decide +kernel
theorem kx_249_25 : x_code k_P 249 25 = some (.aload_n 0, 1) := by decide +kernel
theorem kx_249_26 : x_code k_P 249 26 = some (.iload_n 1, 1) := by decide +kernel
theorem kx_249_27 : x_code k_P 249 27 = some (.iload_n 2, 1) := by decide +kernel
theorem kx_249_28 : x_code k_P 249 28 = some (.invokevirtual 511, 3) := by decide +kernel
theorem kx_249_31 : x_code k_P 249 31 = some (.goto 4, 3) := by decide +kernel
theorem m_249 {xs : Nat → Int} {Ln d : Nat} {T : List cK} {M : cM} (hT : TT T) (hI : Rng M) {a b : Int} : cC k_P xs Ln (d + 1) 249 [rf 63, (0, a), (0, b)] (T, M) (qF T M 0 (fun v => True)) := by
  show cP k_P xs Ln (d + 1) 249 0 [(0, rf 63), (1, (0, a)), (2, (0, b))] [] (T, M) _
  refine s_aload_n kx_249_0 rfl ?_
  refine s_iload_n kx_249_1 rfl ?_
  refine s_callV2 (k := 63) (s1 := 2) (s2 := 0) (as := [(0, a)]) (rest := []) kx_249_2 kp_249_508 (Or.inl rfl) rfl (tk_63 hT) ki_220 kcl_220 rfl rfl (by decide) (m_220 (d := d) (r := a) hT hI) (kF (fun v1 v1p => ?_))
  refine s_if_eq (t := 34) kx_249_5 (by decide) (fun hc2 => ?_) (fun hc2 => ?_)
  · replace v1p := v1p.resolve_left (by omega)
    refine s_iconst (v := (-1)) kx_249_34 (by decide) ?_
    exact s_iret kx_249_35 (Or.inl kq_249) ⟨_, rfl, rfl, trivial⟩
  · replace v1p := v1p.resolve_right (by omega)
    refine s_aload_n kx_249_8 rfl ?_
    refine s_iload_n kx_249_9 rfl ?_
    refine s_callV2 (k := 63) (s1 := 2) (s2 := 0) (as := [(0, b)]) (rest := []) kx_249_10 kp_249_508 (Or.inl rfl) rfl (tk_63 hT) ki_220 kcl_220 rfl rfl (by decide) (m_220 (d := d) (r := b) hT hI) (kF (fun v3 v3p => ?_))
    refine s_if_eq (t := 34) kx_249_13 (by decide) (fun hc4 => ?_) (fun hc4 => ?_)
    · replace v3p := v3p.resolve_left (by omega)
      refine s_iconst (v := (-1)) kx_249_34 (by decide) ?_
      exact s_iret kx_249_35 (Or.inl kq_249) ⟨_, rfl, rfl, trivial⟩
    · replace v3p := v3p.resolve_right (by omega)
      refine s_aload_n kx_249_16 rfl ?_
      refine s_iload_n kx_249_17 rfl ?_
      refine s_iload_n kx_249_18 rfl ?_
      refine s_callV2 (k := 63) (s1 := 3) (s2 := 0) (as := [(0, b), (0, a)]) (rest := []) kx_249_19 kp_249_511 (Or.inl rfl) rfl (tk_63 hT) ki_245 kcl_245 rfl rfl (by decide) (m_245 (d := d) (a := a) (b := b) hT hI (by omega) (by omega)) (kF (fun v5 v5p => ?_))
      refine s_if_le (t := 34) kx_249_22 (by decide) (fun hc6 => ?_) (fun hc6 => ?_)
      · refine s_iconst (v := (-1)) kx_249_34 (by decide) ?_
        exact s_iret kx_249_35 (Or.inl kq_249) ⟨_, rfl, rfl, trivial⟩
      · refine s_aload_n kx_249_25 rfl ?_
        refine s_iload_n kx_249_26 rfl ?_
        refine s_iload_n kx_249_27 rfl ?_
        refine s_callV2 (k := 63) (s1 := 3) (s2 := 0) (as := [(0, b), (0, a)]) (rest := []) kx_249_28 kp_249_511 (Or.inl rfl) rfl (tk_63 hT) ki_245 kcl_245 rfl rfl (by decide) (m_245 (d := d) (a := a) (b := b) hT hI (by omega) (by omega)) (kF (fun v7 v7p => ?_))
        refine s_goto (t := 35) kx_249_31 (by decide) ?_
        exact s_iret kx_249_35 (Or.inl kq_249) ⟨_, rfl, rfl, trivial⟩
theorem kx_250_0 : x_code k_P 250 0 = some (.aload_n 0, 1) := by decide +kernel
theorem kx_250_1 : x_code k_P 250 1 = some (.iload_n 1, 1) := by decide +kernel
theorem kx_250_2 : x_code k_P 250 2 = some (.invokevirtual 514, 3) := by decide +kernel
theorem kp_250_514 : x_pool k_P 250 514 = (2, 221, 1) := by decide +kernel
theorem ki_221 : x_mci k_P 221 = 12 := by decide +kernel
theorem kcl_221 : x_maxL k_P 221 ≤ 60 ∧ 2 ≤ x_maxL k_P 221 := by decide +kernel
theorem kx_250_5 : x_code k_P 250 5 = some (.ifCond .ne 5, 3) := by decide +kernel
theorem kx_250_10 : x_code k_P 250 10 = some (.iload_n 2, 1) := by decide +kernel
theorem kx_250_11 : x_code k_P 250 11 = some (.tableswitch 154 0 10 #[57, 64, 71, 78, 92, 99, 106, 112, 127, 142, 148], 57) := by decide +kernel
theorem kx_250_68 : x_code k_P 250 68 = some (.aload_n 0, 1) := by decide +kernel
theorem kx_250_69 : x_code k_P 250 69 = some (.getfield 159, 3) := by decide +kernel
theorem kp_250_159 : x_pool k_P 250 159 = (1, 12, 48) := by decide +kernel
theorem kx_250_72 : x_code k_P 250 72 = some (.iload_n 1, 1) := by decide +kernel
theorem kx_250_73 : x_code k_P 250 73 = some (.iaload, 1) := by decide +kernel
theorem kx_250_74 : x_code k_P 250 74 = some (.ireturn, 1) := by decide +kernel
theorem kq_250 : x_retk k_P 250 = 1 := by decide +kernel
theorem kx_250_75 : x_code k_P 250 75 = some (.aload_n 0, 1) := by decide +kernel
theorem kx_250_76 : x_code k_P 250 76 = some (.getfield 162, 3) := by decide +kernel
theorem kp_250_162 : x_pool k_P 250 162 = (1, 12, 49) := by decide +kernel
theorem kx_250_79 : x_code k_P 250 79 = some (.iload_n 1, 1) := by decide +kernel
theorem kx_250_80 : x_code k_P 250 80 = some (.iaload, 1) := by decide +kernel
theorem kx_250_81 : x_code k_P 250 81 = some (.ireturn, 1) := by decide +kernel
theorem kx_250_82 : x_code k_P 250 82 = some (.aload_n 0, 1) := by decide +kernel
theorem kx_250_83 : x_code k_P 250 83 = some (.getfield 165, 3) := by decide +kernel
theorem kp_250_165 : x_pool k_P 250 165 = (1, 12, 50) := by decide +kernel
theorem kx_250_86 : x_code k_P 250 86 = some (.iload_n 1, 1) := by decide +kernel
theorem kx_250_87 : x_code k_P 250 87 = some (.iaload, 1) := by decide +kernel
theorem kx_250_88 : x_code k_P 250 88 = some (.ireturn, 1) := by decide +kernel
theorem kx_250_89 : x_code k_P 250 89 = some (.aload_n 0, 1) := by decide +kernel
theorem kx_250_90 : x_code k_P 250 90 = some (.iload_n 1, 1) := by decide +kernel
theorem kx_250_91 : x_code k_P 250 91 = some (.invokevirtual 503, 3) := by decide +kernel
theorem kp_250_503 : x_pool k_P 250 503 = (2, 244, 1) := by decide +kernel
theorem kx_250_94 : x_code k_P 250 94 = some (.ifCond .eq 7, 3) := by decide +kernel
theorem kx_250_101 : x_code k_P 250 101 = some (.iconst 0, 1) := by decide +kernel
theorem kx_250_102 : x_code k_P 250 102 = some (.ireturn, 1) := by decide +kernel
theorem kx_250_97 : x_code k_P 250 97 = some (.iconst 1, 1) := by decide +kernel
theorem kx_250_98 : x_code k_P 250 98 = some (.goto 4, 3) := by decide +kernel
theorem kx_250_103 : x_code k_P 250 103 = some (.aload_n 0, 1) := by decide +kernel
theorem kx_250_104 : x_code k_P 250 104 = some (.getfield 168, 3) := by decide +kernel
theorem kp_250_168 : x_pool k_P 250 168 = (1, 12, 51) := by decide +kernel
theorem kx_250_107 : x_code k_P 250 107 = some (.iload_n 1, 1) := by decide +kernel
theorem kx_250_108 : x_code k_P 250 108 = some (.iaload, 1) := by decide +kernel
theorem kx_250_109 : x_code k_P 250 109 = some (.ireturn, 1) := by decide +kernel
theorem kx_250_110 : x_code k_P 250 110 = some (.aload_n 0, 1) := by decide +kernel
theorem kx_250_111 : x_code k_P 250 111 = some (.getfield 171, 3) := by decide +kernel
theorem kp_250_171 : x_pool k_P 250 171 = (1, 12, 52) := by decide +kernel
theorem kx_250_114 : x_code k_P 250 114 = some (.iload_n 1, 1) := by decide +kernel
theorem kx_250_115 : x_code k_P 250 115 = some (.iaload, 1) := by decide +kernel
theorem kx_250_116 : x_code k_P 250 116 = some (.ireturn, 1) := by decide +kernel
theorem kx_250_117 : x_code k_P 250 117 = some (.aload_n 0, 1) := by decide +kernel
theorem kx_250_118 : x_code k_P 250 118 = some (.iload_n 1, 1) := by decide +kernel
theorem kx_250_119 : x_code k_P 250 119 = some (.invokevirtual 487, 3) := by decide +kernel
theorem kp_250_487 : x_pool k_P 250 487 = (2, 238, 1) := by decide +kernel
theorem kx_250_122 : x_code k_P 250 122 = some (.ireturn, 1) := by decide +kernel
theorem kx_250_123 : x_code k_P 250 123 = some (.aload_n 0, 1) := by decide +kernel
theorem kx_250_124 : x_code k_P 250 124 = some (.getfield 72, 3) := by decide +kernel
theorem kp_250_72 : x_pool k_P 250 72 = (1, 12, 20) := by decide +kernel
theorem kf_12_20 : (x_cls k_P 12)[20]? = some 12 := by decide +kernel
theorem kx_250_127 : x_code k_P 250 127 = some (.bipush 8, 2) := by decide +kernel
theorem kx_250_129 : x_code k_P 250 129 = some (.aload_n 0, 1) := by decide +kernel
theorem kx_250_130 : x_code k_P 250 130 = some (.getfield 54, 3) := by decide +kernel
theorem kp_250_54 : x_pool k_P 250 54 = (1, 12, 14) := by decide +kernel
theorem kx_250_133 : x_code k_P 250 133 = some (.imul, 1) := by decide +kernel
theorem kx_250_134 : x_code k_P 250 134 = some (.iload_n 1, 1) := by decide +kernel
theorem kx_250_135 : x_code k_P 250 135 = some (.iadd, 1) := by decide +kernel
theorem kx_250_136 : x_code k_P 250 136 = some (.iaload, 1) := by decide +kernel
theorem kx_250_137 : x_code k_P 250 137 = some (.ireturn, 1) := by decide +kernel
theorem kx_250_138 : x_code k_P 250 138 = some (.aload_n 0, 1) := by decide +kernel
theorem kx_250_139 : x_code k_P 250 139 = some (.getfield 75, 3) := by decide +kernel
theorem kp_250_75 : x_pool k_P 250 75 = (1, 12, 21) := by decide +kernel
theorem kf_12_21 : (x_cls k_P 12)[21]? = some 12 := by decide +kernel
theorem kx_250_142 : x_code k_P 250 142 = some (.bipush 8, 2) := by decide +kernel
theorem kx_250_144 : x_code k_P 250 144 = some (.aload_n 0, 1) := by decide +kernel
theorem kx_250_145 : x_code k_P 250 145 = some (.getfield 54, 3) := by decide +kernel
theorem kx_250_148 : x_code k_P 250 148 = some (.imul, 1) := by decide +kernel
theorem kx_250_149 : x_code k_P 250 149 = some (.iload_n 1, 1) := by decide +kernel
theorem kx_250_150 : x_code k_P 250 150 = some (.iadd, 1) := by decide +kernel
theorem kx_250_151 : x_code k_P 250 151 = some (.iaload, 1) := by decide +kernel
theorem kx_250_152 : x_code k_P 250 152 = some (.ireturn, 1) := by decide +kernel
theorem kx_250_153 : x_code k_P 250 153 = some (.aload_n 0, 1) := by decide +kernel
theorem kx_250_154 : x_code k_P 250 154 = some (.iload_n 1, 1) := by decide +kernel
theorem kx_250_155 : x_code k_P 250 155 = some (.invokevirtual 484, 3) := by decide +kernel
theorem kp_250_484 : x_pool k_P 250 484 = (2, 237, 1) := by decide +kernel
theorem kx_250_158 : x_code k_P 250 158 = some (.ireturn, 1) := by decide +kernel
theorem kx_250_159 : x_code k_P 250 159 = some (.aload_n 0, 1) := by decide +kernel
theorem kx_250_160 : x_code k_P 250 160 = some (.iload_n 1, 1) := by decide +kernel
theorem kx_250_161 : x_code k_P 250 161 = some (.invokevirtual 490, 3) := by decide +kernel
theorem kp_250_490 : x_pool k_P 250 490 = (2, 239, 1) := by decide +kernel
theorem kx_250_164 : x_code k_P 250 164 = some (.ireturn, 1) := by decide +kernel
theorem kx_250_165 : x_code k_P 250 165 = some (.iconst (-1), 1) := by decide +kernel
theorem kx_250_166 : x_code k_P 250 166 = some (.ireturn, 1) := by decide +kernel
theorem kx_250_8 : x_code k_P 250 8 = some (.iconst (-1), 1) := by decide +kernel
theorem kx_250_9 : x_code k_P 250 9 = some (.ireturn, 1) := by decide +kernel
theorem m_250 {xs : Nat → Int} {Ln d : Nat} {T : List cK} {M : cM} (hT : TT T) (hI : Rng M) {p what : Int} : cC k_P xs Ln (d + 3) 250 [rf 63, (0, p), (0, what)] (T, M) (qF T M 0 (fun v => True)) := by
  show cP k_P xs Ln (d + 3) 250 0 [(0, rf 63), (1, (0, p)), (2, (0, what))] [] (T, M) _
  refine s_aload_n kx_250_0 rfl ?_
  refine s_iload_n kx_250_1 rfl ?_
  refine s_callV2 (k := 63) (s1 := 2) (s2 := 0) (as := [(0, p)]) (rest := []) kx_250_2 kp_250_514 (Or.inl rfl) rfl (tk_63 hT) ki_221 kcl_221 rfl rfl (by decide) (m_221 (d := d + 2) (p := p) hT hI) (kF (fun v1 v1p => ?_))
  refine s_if_ne (t := 10) kx_250_5 (by decide) (fun hc2 => ?_) (fun hc2 => ?_)
  · replace v1p := v1p.resolve_right (by omega)
    refine s_iload_n kx_250_10 rfl ?_
    rcases (by omega : what = 0 ∨ what = 1 ∨ what = 2 ∨ what = 3 ∨ what = 4 ∨ what = 5 ∨ what = 6 ∨ what = 7 ∨ what = 8 ∨ what = 9 ∨ what = 10 ∨ (what < 0 ∨ 10 < what)) with hs3 | hs3 | hs3 | hs3 | hs3 | hs3 | hs3 | hs3 | hs3 | hs3 | hs3 | hs3
    · refine s_tsw (t := 68) kx_250_11 (by decide) 0 hs3 (by decide) ?_
      refine s_aload_n kx_250_68 rfl ?_
      refine r_getR (k := 63) (f := 48) (k2 := 92) kx_250_69 kp_250_159 (tk_63 hT) kf_12_48 (by decide) (rq_63_48 hI) ?_
      refine s_iload_n kx_250_72 rfl ?_
      refine r_ald (k := 92) kx_250_73 (tk_92 hT) ⟨by omega, by omega⟩ (rg_92 hI (by omega)) (fun v4 v4e v4a v4b => ?_)
      exact s_iret kx_250_74 (Or.inl kq_250) ⟨_, rfl, rfl, trivial⟩
    · refine s_tsw (t := 75) kx_250_11 (by decide) 1 hs3 (by decide) ?_
      refine s_aload_n kx_250_75 rfl ?_
      refine r_getR (k := 63) (f := 49) (k2 := 93) kx_250_76 kp_250_162 (tk_63 hT) kf_12_49 (by decide) (rq_63_49 hI) ?_
      refine s_iload_n kx_250_79 rfl ?_
      refine r_ald (k := 93) kx_250_80 (tk_93 hT) ⟨by omega, by omega⟩ (rg_93 hI (by omega)) (fun v5 v5e v5a v5b => ?_)
      exact s_iret kx_250_81 (Or.inl kq_250) ⟨_, rfl, rfl, trivial⟩
    · refine s_tsw (t := 82) kx_250_11 (by decide) 2 hs3 (by decide) ?_
      refine s_aload_n kx_250_82 rfl ?_
      refine r_getR (k := 63) (f := 50) (k2 := 94) kx_250_83 kp_250_165 (tk_63 hT) kf_12_50 (by decide) (rq_63_50 hI) ?_
      refine s_iload_n kx_250_86 rfl ?_
      refine r_aldU (k := 94) kx_250_87 (tk_94 hT) ⟨by omega, by omega⟩ (fun v6 v6e => ?_)
      exact s_iret kx_250_88 (Or.inl kq_250) ⟨_, rfl, rfl, trivial⟩
    · refine s_tsw (t := 89) kx_250_11 (by decide) 3 hs3 (by decide) ?_
      refine s_aload_n kx_250_89 rfl ?_
      refine s_iload_n kx_250_90 rfl ?_
      refine s_callV2 (k := 63) (s1 := 2) (s2 := 0) (as := [(0, p)]) (rest := []) kx_250_91 kp_250_503 (Or.inl rfl) rfl (tk_63 hT) ki_244 kcl_244 rfl rfl (by decide) (m_244 (d := d) (p := p) hT hI (by omega)) (kF (fun v7 v7p => ?_))
      refine s_if_eq (t := 101) kx_250_94 (by decide) (fun hc8 => ?_) (fun hc8 => ?_)
      · refine s_iconst (v := 0) kx_250_101 (by decide) ?_
        exact s_iret kx_250_102 (Or.inl kq_250) ⟨_, rfl, rfl, trivial⟩
      · refine s_iconst (v := 1) kx_250_97 (by decide) ?_
        refine s_goto (t := 102) kx_250_98 (by decide) ?_
        exact s_iret kx_250_102 (Or.inl kq_250) ⟨_, rfl, rfl, trivial⟩
    · refine s_tsw (t := 103) kx_250_11 (by decide) 4 hs3 (by decide) ?_
      refine s_aload_n kx_250_103 rfl ?_
      refine r_getR (k := 63) (f := 51) (k2 := 95) kx_250_104 kp_250_168 (tk_63 hT) kf_12_51 (by decide) (rq_63_51 hI) ?_
      refine s_iload_n kx_250_107 rfl ?_
      refine r_aldU (k := 95) kx_250_108 (tk_95 hT) ⟨by omega, by omega⟩ (fun v9 v9e => ?_)
      exact s_iret kx_250_109 (Or.inl kq_250) ⟨_, rfl, rfl, trivial⟩
    · refine s_tsw (t := 110) kx_250_11 (by decide) 5 hs3 (by decide) ?_
      refine s_aload_n kx_250_110 rfl ?_
      refine r_getR (k := 63) (f := 52) (k2 := 96) kx_250_111 kp_250_171 (tk_63 hT) kf_12_52 (by decide) (rq_63_52 hI) ?_
      refine s_iload_n kx_250_114 rfl ?_
      refine r_aldU (k := 96) kx_250_115 (tk_96 hT) ⟨by omega, by omega⟩ (fun v10 v10e => ?_)
      exact s_iret kx_250_116 (Or.inl kq_250) ⟨_, rfl, rfl, trivial⟩
    · refine s_tsw (t := 117) kx_250_11 (by decide) 6 hs3 (by decide) ?_
      refine s_aload_n kx_250_117 rfl ?_
      refine s_iload_n kx_250_118 rfl ?_
      refine s_callV2 (k := 63) (s1 := 2) (s2 := 0) (as := [(0, p)]) (rest := []) kx_250_119 kp_250_487 (Or.inl rfl) rfl (tk_63 hT) ki_238 kcl_238 rfl rfl (by decide) (m_238 (d := d + 2) (p := p) hT hI (by omega)) (kF (fun v11 v11p => ?_))
      exact s_iret kx_250_122 (Or.inl kq_250) ⟨_, rfl, rfl, trivial⟩
    · refine s_tsw (t := 123) kx_250_11 (by decide) 7 hs3 (by decide) ?_
      refine s_aload_n kx_250_123 rfl ?_
      refine r_getR (k := 63) (f := 20) (k2 := 70) kx_250_124 kp_250_72 (tk_63 hT) kf_12_20 (by decide) (rq_63_20 hI) ?_
      refine s_bipush (v := 8) kx_250_127 (by decide) ?_
      refine s_aload_n kx_250_129 rfl ?_
      refine r_getI (k := 63) (f := 14) kx_250_130 kp_250_54 (tk_63 hT) kf_12_14 (fun _ => rfl) (rg_63_14 hI) (fun v12 v12e v12a v12b => ?_)
      refine r_mul kx_250_133 ⟨by omega, by omega⟩ ?_
      refine s_iload_n kx_250_134 rfl ?_
      refine r_add kx_250_135 ⟨by omega, by omega⟩ ?_
      refine r_aldU (k := 70) kx_250_136 (tk_70 hT) ⟨by omega, by omega⟩ (fun v13 v13e => ?_)
      exact s_iret kx_250_137 (Or.inl kq_250) ⟨_, rfl, rfl, trivial⟩
    · refine s_tsw (t := 138) kx_250_11 (by decide) 8 hs3 (by decide) ?_
      refine s_aload_n kx_250_138 rfl ?_
      refine r_getR (k := 63) (f := 21) (k2 := 71) kx_250_139 kp_250_75 (tk_63 hT) kf_12_21 (by decide) (rq_63_21 hI) ?_
      refine s_bipush (v := 8) kx_250_142 (by decide) ?_
      refine s_aload_n kx_250_144 rfl ?_
      refine r_getI (k := 63) (f := 14) kx_250_145 kp_250_54 (tk_63 hT) kf_12_14 (fun _ => rfl) (rg_63_14 hI) (fun v14 v14e v14a v14b => ?_)
      refine r_mul kx_250_148 ⟨by omega, by omega⟩ ?_
      refine s_iload_n kx_250_149 rfl ?_
      refine r_add kx_250_150 ⟨by omega, by omega⟩ ?_
      refine r_aldU (k := 71) kx_250_151 (tk_71 hT) ⟨by omega, by omega⟩ (fun v15 v15e => ?_)
      exact s_iret kx_250_152 (Or.inl kq_250) ⟨_, rfl, rfl, trivial⟩
    · refine s_tsw (t := 153) kx_250_11 (by decide) 9 hs3 (by decide) ?_
      refine s_aload_n kx_250_153 rfl ?_
      refine s_iload_n kx_250_154 rfl ?_
      refine s_callV2 (k := 63) (s1 := 2) (s2 := 0) (as := [(0, p)]) (rest := []) kx_250_155 kp_250_484 (Or.inl rfl) rfl (tk_63 hT) ki_237 kcl_237 rfl rfl (by decide) (m_237 (d := d + 2) (c := p) hT hI (by omega)) (kF (fun v16 v16p => ?_))
      exact s_iret kx_250_158 (Or.inl kq_250) ⟨_, rfl, rfl, trivial⟩
    · refine s_tsw (t := 159) kx_250_11 (by decide) 10 hs3 (by decide) ?_
      refine s_aload_n kx_250_159 rfl ?_
      refine s_iload_n kx_250_160 rfl ?_
      refine s_callV2 (k := 63) (s1 := 2) (s2 := 0) (as := [(0, p)]) (rest := []) kx_250_161 kp_250_490 (Or.inl rfl) rfl (tk_63 hT) ki_239 kcl_239 rfl rfl (by decide) (m_239 (d := d + 1) (c := p) hT hI (by omega)) (kF (fun v17 v17p => ?_))
      exact s_iret kx_250_164 (Or.inl kq_250) ⟨_, rfl, rfl, trivial⟩
    · refine s_tswD (t := 165) kx_250_11 (by decide) hs3 (by decide) ?_
      refine s_iconst (v := (-1)) kx_250_165 (by decide) ?_
      exact s_iret kx_250_166 (Or.inl kq_250) ⟨_, rfl, rfl, trivial⟩
  · replace v1p := v1p.resolve_left (by omega)
    refine s_iconst (v := (-1)) kx_250_8 (by decide) ?_
    exact s_iret kx_250_9 (Or.inl kq_250) ⟨_, rfl, rfl, trivial⟩
theorem kx_251_0 : x_code k_P 251 0 = some (.aload_n 0, 1) := by decide +kernel
theorem kx_251_1 : x_code k_P 251 1 = some (.iload_n 1, 1) := by decide +kernel
theorem kx_251_2 : x_code k_P 251 2 = some (.invokevirtual 514, 3) := by decide +kernel
theorem kp_251_514 : x_pool k_P 251 514 = (2, 221, 1) := by decide +kernel
theorem kx_251_5 : x_code k_P 251 5 = some (.ifCond .eq 21, 3) := by decide +kernel
theorem kx_251_26 : x_code k_P 251 26 = some (.iconst (-1), 1) := by decide +kernel
theorem kx_251_27 : x_code k_P 251 27 = some (.goto 17, 3) := by decide +kernel
theorem kx_251_44 : x_code k_P 251 44 = some (.ireturn, 1) := by decide +kernel
theorem kq_251 : x_retk k_P 251 = 1 := by decide +kernel
theorem kx_251_8 : x_code k_P 251 8 = some (.aload_n 0, 1) := by decide +kernel
theorem kx_251_9 : x_code k_P 251 9 = some (.iload_n 2, 1) := by decide +kernel
theorem kx_251_10 : x_code k_P 251 10 = some (.invokevirtual 508, 3) := by decide +kernel
theorem kp_251_508 : x_pool k_P 251 508 = (2, 220, 1) := by decide +kernel
theorem kx_251_13 : x_code k_P 251 13 = some (.ifCond .eq 13, 3) := by decide +kernel
theorem kx_251_16 : x_code k_P 251 16 = some (.aload_n 0, 1) := by decide +kernel
theorem kx_251_17 : x_code k_P 251 17 = some (.getfield 162, 3) := by decide +kernel
theorem kp_251_162 : x_pool k_P 251 162 = (1, 12, 49) := by decide +kernel
theorem kx_251_20 : x_code k_P 251 20 = some (.iload_n 1, 1) := by decide +kernel
theorem kx_251_21 : x_code k_P 251 21 = some (.iaload, 1) := by decide +kernel
theorem kx_251_22 : x_code k_P 251 22 = some (.iload_n 2, 1) := by decide +kernel
theorem kx_251_23 : x_code k_P 251 23 = some (.if_icmp .ne 7, 3) := by decide +kernel
theorem kx_251_30 : x_code k_P 251 30 = some (.aload_n 0, 1) := by decide +kernel
theorem kx_251_31 : x_code k_P 251 31 = some (.iload_n 1, 1) := by decide +kernel
theorem kx_251_32 : x_code k_P 251 32 = some (.iload_n 2, 1) := by decide +kernel
theorem kx_251_33 : x_code k_P 251 33 = some (.invokevirtual 517, 3) := by decide +kernel
theorem kp_251_517 : x_pool k_P 251 517 = (2, 242, 2) := by decide +kernel
theorem ki_242 : x_mci k_P 242 = 12 := by decide +kernel
theorem kcl_242 : x_maxL k_P 242 ≤ 60 ∧ 3 ≤ x_maxL k_P 242 := by decide +kernel
theorem kx_251_36 : x_code k_P 251 36 = some (.ifCond .eq 7, 3) := by decide +kernel
theorem kx_251_43 : x_code k_P 251 43 = some (.iconst 0, 1) := by decide +kernel
theorem kx_251_39 : x_code k_P 251 39 = some (.iconst 1, 1) := by decide +kernel
theorem kx_251_40 : x_code k_P 251 40 = some (.goto 4, 3) := by decide +kernel
theorem m_251 {xs : Nat → Int} {Ln d : Nat} {T : List cK} {M : cM} (hT : TT T) (hI : Rng M) {c r : Int} : cC k_P xs Ln (d + 4) 251 [rf 63, (0, c), (0, r)] (T, M) (qF T M 0 (fun v => True)) := by
  show cP k_P xs Ln (d + 4) 251 0 [(0, rf 63), (1, (0, c)), (2, (0, r))] [] (T, M) _
  refine s_aload_n kx_251_0 rfl ?_
  refine s_iload_n kx_251_1 rfl ?_
  refine s_callV2 (k := 63) (s1 := 2) (s2 := 0) (as := [(0, c)]) (rest := []) kx_251_2 kp_251_514 (Or.inl rfl) rfl (tk_63 hT) ki_221 kcl_221 rfl rfl (by decide) (m_221 (d := d + 3) (p := c) hT hI) (kF (fun v1 v1p => ?_))
  refine s_if_eq (t := 26) kx_251_5 (by decide) (fun hc2 => ?_) (fun hc2 => ?_)
  · replace v1p := v1p.resolve_left (by omega)
    refine s_iconst (v := (-1)) kx_251_26 (by decide) ?_
    refine s_goto (t := 44) kx_251_27 (by decide) ?_
    exact s_iret kx_251_44 (Or.inl kq_251) ⟨_, rfl, rfl, trivial⟩
  · replace v1p := v1p.resolve_right (by omega)
    refine s_aload_n kx_251_8 rfl ?_
    refine s_iload_n kx_251_9 rfl ?_
    refine s_callV2 (k := 63) (s1 := 2) (s2 := 0) (as := [(0, r)]) (rest := []) kx_251_10 kp_251_508 (Or.inl rfl) rfl (tk_63 hT) ki_220 kcl_220 rfl rfl (by decide) (m_220 (d := d + 3) (r := r) hT hI) (kF (fun v3 v3p => ?_))
    refine s_if_eq (t := 26) kx_251_13 (by decide) (fun hc4 => ?_) (fun hc4 => ?_)
    · replace v3p := v3p.resolve_left (by omega)
      refine s_iconst (v := (-1)) kx_251_26 (by decide) ?_
      refine s_goto (t := 44) kx_251_27 (by decide) ?_
      exact s_iret kx_251_44 (Or.inl kq_251) ⟨_, rfl, rfl, trivial⟩
    · replace v3p := v3p.resolve_right (by omega)
      refine s_aload_n kx_251_16 rfl ?_
      refine r_getR (k := 63) (f := 49) (k2 := 93) kx_251_17 kp_251_162 (tk_63 hT) kf_12_49 (by decide) (rq_63_49 hI) ?_
      refine s_iload_n kx_251_20 rfl ?_
      refine r_ald (k := 93) kx_251_21 (tk_93 hT) ⟨by omega, by omega⟩ (rg_93 hI (by omega)) (fun v5 v5e v5a v5b => ?_)
      refine s_iload_n kx_251_22 rfl ?_
      refine s_icmp_ne (t := 30) kx_251_23 (by decide) (fun hc6 => ?_) (fun hc6 => ?_)
      · refine s_aload_n kx_251_30 rfl ?_
        refine s_iload_n kx_251_31 rfl ?_
        refine s_iload_n kx_251_32 rfl ?_
        refine s_callV2 (k := 63) (s1 := 3) (s2 := 0) (as := [(0, r), (0, c)]) (rest := []) kx_251_33 kp_251_517 (Or.inl rfl) rfl (tk_63 hT) ki_242 kcl_242 rfl rfl (by decide) (m_242 (d := d) (c := c) (r := r) hT hI (by omega) (by omega)) (kF (fun v7 v7p => ?_))
        refine s_if_eq (t := 43) kx_251_36 (by decide) (fun hc8 => ?_) (fun hc8 => ?_)
        · refine s_iconst (v := 0) kx_251_43 (by decide) ?_
          exact s_iret kx_251_44 (Or.inl kq_251) ⟨_, rfl, rfl, trivial⟩
        · refine s_iconst (v := 1) kx_251_39 (by decide) ?_
          refine s_goto (t := 44) kx_251_40 (by decide) ?_
          exact s_iret kx_251_44 (Or.inl kq_251) ⟨_, rfl, rfl, trivial⟩
      · refine s_iconst (v := (-1)) kx_251_26 (by decide) ?_
        refine s_goto (t := 44) kx_251_27 (by decide) ?_
        exact s_iret kx_251_44 (Or.inl kq_251) ⟨_, rfl, rfl, trivial⟩
theorem kx_252_0 : x_code k_P 252 0 = some (.iload_n 3, 1) := by decide +kernel
theorem kx_252_1 : x_code k_P 252 1 = some (.iconst (-1), 1) := by decide +kernel
theorem kx_252_2 : x_code k_P 252 2 = some (.if_icmp .eq 44, 3) := by decide +kernel
theorem kx_252_46 : x_code k_P 252 46 = some (.iconst 1, 1) := by decide +kernel
theorem kx_252_47 : x_code k_P 252 47 = some (.goto 4, 3) := by decide +kernel
theorem kx_252_51 : x_code k_P 252 51 = some (.ireturn, 1) := by decide +kernel
theorem kq_252 : x_retk k_P 252 = 2 := by decide +kernel
theorem kx_252_5 : x_code k_P 252 5 = some (.aload_n 0, 1) := by decide +kernel
theorem kx_252_6 : x_code k_P 252 6 = some (.iload_n 3, 1) := by decide +kernel
theorem kx_252_7 : x_code k_P 252 7 = some (.invokevirtual 514, 3) := by decide +kernel
theorem kp_252_514 : x_pool k_P 252 514 = (2, 221, 1) := by decide +kernel
theorem kx_252_10 : x_code k_P 252 10 = some (.ifCond .eq 40, 3) := by decide +kernel
theorem kx_252_50 : x_code k_P 252 50 = some (.iconst 0, 1) := by decide +kernel
theorem kx_252_13 : x_code k_P 252 13 = some (.aload_n 0, 1) := by decide +kernel
theorem kx_252_14 : x_code k_P 252 14 = some (.getfield 162, 3) := by decide +kernel
theorem kp_252_162 : x_pool k_P 252 162 = (1, 12, 49) := by decide +kernel
theorem kx_252_17 : x_code k_P 252 17 = some (.iload_n 3, 1) := by decide +kernel
theorem kx_252_18 : x_code k_P 252 18 = some (.iaload, 1) := by decide +kernel
theorem kx_252_19 : x_code k_P 252 19 = some (.aload_n 0, 1) := by decide +kernel
theorem kx_252_20 : x_code k_P 252 20 = some (.getfield 159, 3) := by decide +kernel
theorem kp_252_159 : x_pool k_P 252 159 = (1, 12, 48) := by decide +kernel
theorem kx_252_23 : x_code k_P 252 23 = some (.iload_n 1, 1) := by decide +kernel
theorem kx_252_24 : x_code k_P 252 24 = some (.iaload, 1) := by decide +kernel
theorem kx_252_25 : x_code k_P 252 25 = some (.if_icmp .ne 25, 3) := by decide +kernel
theorem kx_252_28 : x_code k_P 252 28 = some (.aload_n 0, 1) := by decide +kernel
theorem kx_252_29 : x_code k_P 252 29 = some (.getfield 165, 3) := by decide +kernel
theorem kp_252_165 : x_pool k_P 252 165 = (1, 12, 50) := by decide +kernel
theorem kx_252_32 : x_code k_P 252 32 = some (.iload_n 3, 1) := by decide +kernel
theorem kx_252_33 : x_code k_P 252 33 = some (.iaload, 1) := by decide +kernel
theorem kx_252_34 : x_code k_P 252 34 = some (.ifCond .ne 16, 3) := by decide +kernel
theorem kx_252_37 : x_code k_P 252 37 = some (.aload_n 0, 1) := by decide +kernel
theorem kx_252_38 : x_code k_P 252 38 = some (.iload_n 3, 1) := by decide +kernel
theorem kx_252_39 : x_code k_P 252 39 = some (.iload_n 2, 1) := by decide +kernel
theorem kx_252_40 : x_code k_P 252 40 = some (.invokevirtual 517, 3) := by decide +kernel
theorem kp_252_517 : x_pool k_P 252 517 = (2, 242, 2) := by decide +kernel
theorem kx_252_43 : x_code k_P 252 43 = some (.ifCond .eq 7, 3) := by decide +kernel
theorem m_252 {xs : Nat → Int} {Ln d : Nat} {T : List cK} {M : cM} (hT : TT T) (hI : Rng M) {p r c : Int} (p0 : 0 ≤ p ∧ p ≤ 7) (p1 : 0 ≤ r ∧ r ≤ 7) : cC k_P xs Ln (d + 4) 252 [rf 63, (0, p), (0, r), (0, c)] (T, M) (qF T M 0 (fun v => (v = 1 ∧ (c = -1 ∨ 0 ≤ c ∧ c ≤ 7)) ∨ v = 0)) := by
  show cP k_P xs Ln (d + 4) 252 0 [(0, rf 63), (1, (0, p)), (2, (0, r)), (3, (0, c))] [] (T, M) _
  refine s_iload_n kx_252_0 rfl ?_
  refine s_iconst (v := (-1)) kx_252_1 (by decide) ?_
  refine s_icmp_eq (t := 46) kx_252_2 (by decide) (fun hc1 => ?_) (fun hc1 => ?_)
  · refine s_iconst (v := 1) kx_252_46 (by decide) ?_
    refine s_goto (t := 51) kx_252_47 (by decide) ?_
    exact s_iret kx_252_51 (Or.inr ⟨kq_252, by omega⟩) ⟨_, rfl, rfl, (by omega)⟩
  · refine s_aload_n kx_252_5 rfl ?_
    refine s_iload_n kx_252_6 rfl ?_
    refine s_callV2 (k := 63) (s1 := 2) (s2 := 0) (as := [(0, c)]) (rest := []) kx_252_7 kp_252_514 (Or.inl rfl) rfl (tk_63 hT) ki_221 kcl_221 rfl rfl (by decide) (m_221 (d := d + 3) (p := c) hT hI) (kF (fun v2 v2p => ?_))
    refine s_if_eq (t := 50) kx_252_10 (by decide) (fun hc3 => ?_) (fun hc3 => ?_)
    · replace v2p := v2p.resolve_left (by omega)
      refine s_iconst (v := 0) kx_252_50 (by decide) ?_
      exact s_iret kx_252_51 (Or.inr ⟨kq_252, by omega⟩) ⟨_, rfl, rfl, (by omega)⟩
    · replace v2p := v2p.resolve_right (by omega)
      refine s_aload_n kx_252_13 rfl ?_
      refine r_getR (k := 63) (f := 49) (k2 := 93) kx_252_14 kp_252_162 (tk_63 hT) kf_12_49 (by decide) (rq_63_49 hI) ?_
      refine s_iload_n kx_252_17 rfl ?_
      refine r_ald (k := 93) kx_252_18 (tk_93 hT) ⟨by omega, by omega⟩ (rg_93 hI (by omega)) (fun v4 v4e v4a v4b => ?_)
      refine s_aload_n kx_252_19 rfl ?_
      refine r_getR (k := 63) (f := 48) (k2 := 92) kx_252_20 kp_252_159 (tk_63 hT) kf_12_48 (by decide) (rq_63_48 hI) ?_
      refine s_iload_n kx_252_23 rfl ?_
      refine r_ald (k := 92) kx_252_24 (tk_92 hT) ⟨by omega, by omega⟩ (rg_92 hI (by omega)) (fun v5 v5e v5a v5b => ?_)
      refine s_icmp_ne (t := 50) kx_252_25 (by decide) (fun hc6 => ?_) (fun hc6 => ?_)
      · refine s_iconst (v := 0) kx_252_50 (by decide) ?_
        exact s_iret kx_252_51 (Or.inr ⟨kq_252, by omega⟩) ⟨_, rfl, rfl, (by omega)⟩
      · refine s_aload_n kx_252_28 rfl ?_
        refine r_getR (k := 63) (f := 50) (k2 := 94) kx_252_29 kp_252_165 (tk_63 hT) kf_12_50 (by decide) (rq_63_50 hI) ?_
        refine s_iload_n kx_252_32 rfl ?_
        refine r_aldU (k := 94) kx_252_33 (tk_94 hT) ⟨by omega, by omega⟩ (fun v7 v7e => ?_)
        refine s_if_ne (t := 50) kx_252_34 (by decide) (fun hc8 => ?_) (fun hc8 => ?_)
        · refine s_iconst (v := 0) kx_252_50 (by decide) ?_
          exact s_iret kx_252_51 (Or.inr ⟨kq_252, by omega⟩) ⟨_, rfl, rfl, (by omega)⟩
        · refine s_aload_n kx_252_37 rfl ?_
          refine s_iload_n kx_252_38 rfl ?_
          refine s_iload_n kx_252_39 rfl ?_
          refine s_callV2 (k := 63) (s1 := 3) (s2 := 0) (as := [(0, r), (0, c)]) (rest := []) kx_252_40 kp_252_517 (Or.inl rfl) rfl (tk_63 hT) ki_242 kcl_242 rfl rfl (by decide) (m_242 (d := d) (c := c) (r := r) hT hI (by omega) (by omega)) (kF (fun v9 v9p => ?_))
          refine s_if_eq (t := 50) kx_252_43 (by decide) (fun hc10 => ?_) (fun hc10 => ?_)
          · refine s_iconst (v := 0) kx_252_50 (by decide) ?_
            exact s_iret kx_252_51 (Or.inr ⟨kq_252, by omega⟩) ⟨_, rfl, rfl, (by omega)⟩
          · refine s_iconst (v := 1) kx_252_46 (by decide) ?_
            refine s_goto (t := 51) kx_252_47 (by decide) ?_
            exact s_iret kx_252_51 (Or.inr ⟨kq_252, by omega⟩) ⟨_, rfl, rfl, (by omega)⟩
theorem kx_253_0 : x_code k_P 253 0 = some (.aload_n 0, 1) := by decide +kernel
theorem kx_253_1 : x_code k_P 253 1 = some (.iload_n 1, 1) := by decide +kernel
theorem kx_253_2 : x_code k_P 253 2 = some (.invokevirtual 514, 3) := by decide +kernel
theorem kp_253_514 : x_pool k_P 253 514 = (2, 221, 1) := by decide +kernel
theorem kx_253_5 : x_code k_P 253 5 = some (.ifCond .eq 39, 3) := by decide +kernel
theorem kx_253_44 : x_code k_P 253 44 = some (.iconst 0, 1) := by decide +kernel
theorem kx_253_45 : x_code k_P 253 45 = some (.ireturn, 1) := by decide +kernel
theorem kq_253 : x_retk k_P 253 = 2 := by decide +kernel
theorem kx_253_8 : x_code k_P 253 8 = some (.aload_n 0, 1) := by decide +kernel
theorem kx_253_9 : x_code k_P 253 9 = some (.iload_n 2, 1) := by decide +kernel
theorem kx_253_10 : x_code k_P 253 10 = some (.invokevirtual 508, 3) := by decide +kernel
theorem kp_253_508 : x_pool k_P 253 508 = (2, 220, 1) := by decide +kernel
theorem kx_253_13 : x_code k_P 253 13 = some (.ifCond .eq 31, 3) := by decide +kernel
theorem kx_253_16 : x_code k_P 253 16 = some (.aload_n 0, 1) := by decide +kernel
theorem kx_253_17 : x_code k_P 253 17 = some (.aload_n 0, 1) := by decide +kernel
theorem kx_253_18 : x_code k_P 253 18 = some (.getfield 159, 3) := by decide +kernel
theorem kp_253_159 : x_pool k_P 253 159 = (1, 12, 48) := by decide +kernel
theorem kx_253_21 : x_code k_P 253 21 = some (.iload_n 1, 1) := by decide +kernel
theorem kx_253_22 : x_code k_P 253 22 = some (.iaload, 1) := by decide +kernel
theorem kx_253_23 : x_code k_P 253 23 = some (.iload_n 2, 1) := by decide +kernel
theorem kx_253_24 : x_code k_P 253 24 = some (.invokevirtual 511, 3) := by decide +kernel
theorem kp_253_511 : x_pool k_P 253 511 = (2, 245, 2) := by decide +kernel
theorem kx_253_27 : x_code k_P 253 27 = some (.ifCond .le 17, 3) := by decide +kernel
theorem kx_253_30 : x_code k_P 253 30 = some (.aload_n 0, 1) := by decide +kernel
theorem kx_253_31 : x_code k_P 253 31 = some (.iload_n 1, 1) := by decide +kernel
theorem kx_253_32 : x_code k_P 253 32 = some (.iload_n 2, 1) := by decide +kernel
theorem kx_253_33 : x_code k_P 253 33 = some (.iload_n 3, 1) := by decide +kernel
theorem kx_253_34 : x_code k_P 253 34 = some (.invokevirtual 520, 3) := by decide +kernel
theorem kp_253_520 : x_pool k_P 253 520 = (2, 252, 3) := by decide +kernel
theorem ki_252 : x_mci k_P 252 = 12 := by decide +kernel
theorem kcl_252 : x_maxL k_P 252 ≤ 60 ∧ 4 ≤ x_maxL k_P 252 := by decide +kernel
theorem kx_253_37 : x_code k_P 253 37 = some (.ifCond .eq 7, 3) := by decide +kernel
theorem kx_253_40 : x_code k_P 253 40 = some (.iconst 1, 1) := by decide +kernel
theorem kx_253_41 : x_code k_P 253 41 = some (.goto 4, 3) := by decide +kernel
theorem m_253 {xs : Nat → Int} {Ln d : Nat} {T : List cK} {M : cM} (hT : TT T) (hI : Rng M) {p r c : Int} : cC k_P xs Ln (d + 5) 253 [rf 63, (0, p), (0, r), (0, c)] (T, M) (qF T M 0 (fun v => (v = 1 ∧ 0 ≤ p ∧ p ≤ 7 ∧ 0 ≤ r ∧ r ≤ 7 ∧ (c = -1 ∨ 0 ≤ c ∧ c ≤ 7)) ∨ v = 0)) := by
  show cP k_P xs Ln (d + 5) 253 0 [(0, rf 63), (1, (0, p)), (2, (0, r)), (3, (0, c))] [] (T, M) _
  refine s_aload_n kx_253_0 rfl ?_
  refine s_iload_n kx_253_1 rfl ?_
  refine s_callV2 (k := 63) (s1 := 2) (s2 := 0) (as := [(0, p)]) (rest := []) kx_253_2 kp_253_514 (Or.inl rfl) rfl (tk_63 hT) ki_221 kcl_221 rfl rfl (by decide) (m_221 (d := d + 4) (p := p) hT hI) (kF (fun v1 v1p => ?_))
  refine s_if_eq (t := 44) kx_253_5 (by decide) (fun hc2 => ?_) (fun hc2 => ?_)
  · replace v1p := v1p.resolve_left (by omega)
    refine s_iconst (v := 0) kx_253_44 (by decide) ?_
    exact s_iret kx_253_45 (Or.inr ⟨kq_253, by omega⟩) ⟨_, rfl, rfl, (by omega)⟩
  · replace v1p := v1p.resolve_right (by omega)
    refine s_aload_n kx_253_8 rfl ?_
    refine s_iload_n kx_253_9 rfl ?_
    refine s_callV2 (k := 63) (s1 := 2) (s2 := 0) (as := [(0, r)]) (rest := []) kx_253_10 kp_253_508 (Or.inl rfl) rfl (tk_63 hT) ki_220 kcl_220 rfl rfl (by decide) (m_220 (d := d + 4) (r := r) hT hI) (kF (fun v3 v3p => ?_))
    refine s_if_eq (t := 44) kx_253_13 (by decide) (fun hc4 => ?_) (fun hc4 => ?_)
    · replace v3p := v3p.resolve_left (by omega)
      refine s_iconst (v := 0) kx_253_44 (by decide) ?_
      exact s_iret kx_253_45 (Or.inr ⟨kq_253, by omega⟩) ⟨_, rfl, rfl, (by omega)⟩
    · replace v3p := v3p.resolve_right (by omega)
      refine s_aload_n kx_253_16 rfl ?_
      refine s_aload_n kx_253_17 rfl ?_
      refine r_getR (k := 63) (f := 48) (k2 := 92) kx_253_18 kp_253_159 (tk_63 hT) kf_12_48 (by decide) (rq_63_48 hI) ?_
      refine s_iload_n kx_253_21 rfl ?_
      refine r_ald (k := 92) kx_253_22 (tk_92 hT) ⟨by omega, by omega⟩ (rg_92 hI (by omega)) (fun v5 v5e v5a v5b => ?_)
      refine s_iload_n kx_253_23 rfl ?_
      refine s_callV2 (k := 63) (s1 := 3) (s2 := 0) (as := [(0, r), (0, v5)]) (rest := []) kx_253_24 kp_253_511 (Or.inl rfl) rfl (tk_63 hT) ki_245 kcl_245 rfl rfl (by decide) (m_245 (d := d + 4) (a := v5) (b := r) hT hI (by omega) (by omega)) (kF (fun v6 v6p => ?_))
      refine s_if_le (t := 44) kx_253_27 (by decide) (fun hc7 => ?_) (fun hc7 => ?_)
      · refine s_iconst (v := 0) kx_253_44 (by decide) ?_
        exact s_iret kx_253_45 (Or.inr ⟨kq_253, by omega⟩) ⟨_, rfl, rfl, (by omega)⟩
      · refine s_aload_n kx_253_30 rfl ?_
        refine s_iload_n kx_253_31 rfl ?_
        refine s_iload_n kx_253_32 rfl ?_
        refine s_iload_n kx_253_33 rfl ?_
        refine s_callV2 (k := 63) (s1 := 4) (s2 := 0) (as := [(0, c), (0, r), (0, p)]) (rest := []) kx_253_34 kp_253_520 (Or.inl rfl) rfl (tk_63 hT) ki_252 kcl_252 rfl rfl (by decide) (m_252 (d := d) (p := p) (r := r) (c := c) hT hI (by omega) (by omega)) (kF (fun v8 v8p => ?_))
        refine s_if_eq (t := 44) kx_253_37 (by decide) (fun hc9 => ?_) (fun hc9 => ?_)
        · replace v8p := v8p.resolve_left (by omega)
          refine s_iconst (v := 0) kx_253_44 (by decide) ?_
          exact s_iret kx_253_45 (Or.inr ⟨kq_253, by omega⟩) ⟨_, rfl, rfl, (by omega)⟩
        · replace v8p := v8p.resolve_right (by omega)
          refine s_iconst (v := 1) kx_253_40 (by decide) ?_
          refine s_goto (t := 45) kx_253_41 (by decide) ?_
          exact s_iret kx_253_45 (Or.inr ⟨kq_253, by omega⟩) ⟨_, rfl, rfl, (by omega)⟩
theorem kx_278_0 : x_code k_P 278 0 = some (.iload_n 1, 1) := by decide +kernel
theorem kx_278_1 : x_code k_P 278 1 = some (.iconst 0, 1) := by decide +kernel
theorem kx_278_2 : x_code k_P 278 2 = some (.aload_n 0, 1) := by decide +kernel
theorem kx_278_3 : x_code k_P 278 3 = some (.getfield 219, 3) := by decide +kernel
theorem kp_278_219 : x_pool k_P 278 219 = (1, 12, 68) := by decide +kernel
theorem kf_12_68 : (x_cls k_P 12)[68]? = some 0 := by decide +kernel
theorem kx_278_6 : x_code k_P 278 6 = some (.iconst 1, 1) := by decide +kernel
theorem kx_278_7 : x_code k_P 278 7 = some (.isub, 1) := by decide +kernel
theorem kx_278_8 : x_code k_P 278 8 = some (.invokestatic 345, 3) := by decide +kernel
theorem kp_278_345 : x_pool k_P 278 345 = (6, 172, 3) := by decide +kernel
theorem kx_278_11 : x_code k_P 278 11 = some (.ifCond .eq 12, 3) := by decide +kernel
theorem kx_278_23 : x_code k_P 278 23 = some (.iconst (-1), 1) := by decide +kernel
theorem kx_278_24 : x_code k_P 278 24 = some (.ireturn, 1) := by decide +kernel
theorem kq_278 : x_retk k_P 278 = 1 := by decide +kernel
theorem kx_278_14 : x_code k_P 278 14 = some (.aload_n 0, 1) := by decide +kernel
theorem kx_278_15 : x_code k_P 278 15 = some (.getfield 222, 3) := by decide +kernel
theorem kp_278_222 : x_pool k_P 278 222 = (1, 12, 69) := by decide +kernel
theorem kf_12_69 : (x_cls k_P 12)[69]? = some 12 := by decide +kernel
theorem kx_278_18 : x_code k_P 278 18 = some (.iload_n 1, 1) := by decide +kernel
theorem kx_278_19 : x_code k_P 278 19 = some (.iaload, 1) := by decide +kernel
theorem kx_278_20 : x_code k_P 278 20 = some (.goto 4, 3) := by decide +kernel
theorem m_278 {xs : Nat → Int} {Ln d : Nat} {T : List cK} {M : cM} (hT : TT T) (hI : Rng M) {k : Int} : cC k_P xs Ln (d + 1) 278 [rf 63, (0, k)] (T, M) (qF T M 0 (fun v => True)) := by
  show cP k_P xs Ln (d + 1) 278 0 [(0, rf 63), (1, (0, k))] [] (T, M) _
  refine s_iload_n kx_278_0 rfl ?_
  refine s_iconst (v := 0) kx_278_1 (by decide) ?_
  refine s_aload_n kx_278_2 rfl ?_
  refine r_getI (k := 63) (f := 68) kx_278_3 kp_278_219 (tk_63 hT) kf_12_68 (fun _ => rfl) (rg_63_68 hI) (fun v1 v1e v1a v1b => ?_)
  refine s_iconst (v := 1) kx_278_6 (by decide) ?_
  refine r_sub kx_278_7 ⟨by omega, by omega⟩ ?_
  refine s_callS2 (s1 := 3) (s2 := 0) (as := [(0, (v1 - 1)), (0, 0), (0, k)]) (rest := []) kx_278_8 kp_278_345 rfl kcl_172 rfl rfl (by decide) (m_172 (d := d) (v_ := k) (least := 0) (most := (v1 - 1)) hT hI) (kF (fun v2 v2p => ?_))
  refine s_if_eq (t := 23) kx_278_11 (by decide) (fun hc3 => ?_) (fun hc3 => ?_)
  · replace v2p := v2p.resolve_left (by omega)
    refine s_iconst (v := (-1)) kx_278_23 (by decide) ?_
    exact s_iret kx_278_24 (Or.inl kq_278) ⟨_, rfl, rfl, trivial⟩
  · replace v2p := v2p.resolve_right (by omega)
    refine s_aload_n kx_278_14 rfl ?_
    refine r_getR (k := 63) (f := 69) (k2 := 106) kx_278_15 kp_278_222 (tk_63 hT) kf_12_69 (by decide) (rq_63_69 hI) ?_
    refine s_iload_n kx_278_18 rfl ?_
    refine r_aldU (k := 106) kx_278_19 (tk_106 hT) ⟨by omega, by omega⟩ (fun v4 v4e => ?_)
    refine s_goto (t := 24) kx_278_20 (by decide) ?_
    exact s_iret kx_278_24 (Or.inl kq_278) ⟨_, rfl, rfl, trivial⟩
theorem kx_285_0 : x_code k_P 285 0 = some (.aload_n 0, 1) := by decide +kernel
theorem kx_285_1 : x_code k_P 285 1 = some (.getfield 225, 3) := by decide +kernel
theorem kp_285_225 : x_pool k_P 285 225 = (1, 12, 70) := by decide +kernel
theorem kf_12_70 : (x_cls k_P 12)[70]? = some 3 := by decide +kernel
theorem kx_285_4 : x_code k_P 285 4 = some (.ifCond .eq 33, 3) := by decide +kernel
theorem kx_285_37 : x_code k_P 285 37 = some (.iconst (-1), 1) := by decide +kernel
theorem kx_285_38 : x_code k_P 285 38 = some (.ireturn, 1) := by decide +kernel
theorem kq_285 : x_retk k_P 285 = 1 := by decide +kernel
theorem kx_285_7 : x_code k_P 285 7 = some (.aload_n 0, 1) := by decide +kernel
theorem kx_285_8 : x_code k_P 285 8 = some (.iload_n 1, 1) := by decide +kernel
theorem kx_285_9 : x_code k_P 285 9 = some (.invokevirtual 514, 3) := by decide +kernel
theorem kp_285_514 : x_pool k_P 285 514 = (2, 221, 1) := by decide +kernel
theorem kx_285_12 : x_code k_P 285 12 = some (.ifCond .eq 25, 3) := by decide +kernel
theorem kx_285_15 : x_code k_P 285 15 = some (.aload_n 0, 1) := by decide +kernel
theorem kx_285_16 : x_code k_P 285 16 = some (.iload_n 2, 1) := by decide +kernel
theorem kx_285_17 : x_code k_P 285 17 = some (.invokevirtual 508, 3) := by decide +kernel
theorem kp_285_508 : x_pool k_P 285 508 = (2, 220, 1) := by decide +kernel
theorem kx_285_20 : x_code k_P 285 20 = some (.ifCond .eq 17, 3) := by decide +kernel
theorem kx_285_23 : x_code k_P 285 23 = some (.aload_n 0, 1) := by decide +kernel
theorem kx_285_24 : x_code k_P 285 24 = some (.getfield 228, 3) := by decide +kernel
theorem kp_285_228 : x_pool k_P 285 228 = (1, 12, 71) := by decide +kernel
theorem kf_12_71 : (x_cls k_P 12)[71]? = some 12 := by decide +kernel
theorem kx_285_27 : x_code k_P 285 27 = some (.bipush 8, 2) := by decide +kernel
theorem kx_285_29 : x_code k_P 285 29 = some (.iload_n 1, 1) := by decide +kernel
theorem kx_285_30 : x_code k_P 285 30 = some (.imul, 1) := by decide +kernel
theorem kx_285_31 : x_code k_P 285 31 = some (.iload_n 2, 1) := by decide +kernel
theorem kx_285_32 : x_code k_P 285 32 = some (.iadd, 1) := by decide +kernel
theorem kx_285_33 : x_code k_P 285 33 = some (.iaload, 1) := by decide +kernel
theorem kx_285_34 : x_code k_P 285 34 = some (.goto 4, 3) := by decide +kernel
theorem m_285 {xs : Nat → Int} {Ln d : Nat} {T : List cK} {M : cM} (hT : TT T) (hI : Rng M) {p r : Int} : cC k_P xs Ln (d + 1) 285 [rf 63, (0, p), (0, r)] (T, M) (qF T M 0 (fun v => True)) := by
  show cP k_P xs Ln (d + 1) 285 0 [(0, rf 63), (1, (0, p)), (2, (0, r))] [] (T, M) _
  refine s_aload_n kx_285_0 rfl ?_
  refine r_getI (k := 63) (f := 70) kx_285_1 kp_285_225 (tk_63 hT) kf_12_70 (fun _ => rfl) (rg_63_70 hI) (fun v1 v1e v1a v1b => ?_)
  refine s_if_eq (t := 37) kx_285_4 (by decide) (fun hc2 => ?_) (fun hc2 => ?_)
  · refine s_iconst (v := (-1)) kx_285_37 (by decide) ?_
    exact s_iret kx_285_38 (Or.inl kq_285) ⟨_, rfl, rfl, trivial⟩
  · refine s_aload_n kx_285_7 rfl ?_
    refine s_iload_n kx_285_8 rfl ?_
    refine s_callV2 (k := 63) (s1 := 2) (s2 := 0) (as := [(0, p)]) (rest := []) kx_285_9 kp_285_514 (Or.inl rfl) rfl (tk_63 hT) ki_221 kcl_221 rfl rfl (by decide) (m_221 (d := d) (p := p) hT hI) (kF (fun v3 v3p => ?_))
    refine s_if_eq (t := 37) kx_285_12 (by decide) (fun hc4 => ?_) (fun hc4 => ?_)
    · replace v3p := v3p.resolve_left (by omega)
      refine s_iconst (v := (-1)) kx_285_37 (by decide) ?_
      exact s_iret kx_285_38 (Or.inl kq_285) ⟨_, rfl, rfl, trivial⟩
    · replace v3p := v3p.resolve_right (by omega)
      refine s_aload_n kx_285_15 rfl ?_
      refine s_iload_n kx_285_16 rfl ?_
      refine s_callV2 (k := 63) (s1 := 2) (s2 := 0) (as := [(0, r)]) (rest := []) kx_285_17 kp_285_508 (Or.inl rfl) rfl (tk_63 hT) ki_220 kcl_220 rfl rfl (by decide) (m_220 (d := d) (r := r) hT hI) (kF (fun v5 v5p => ?_))
      refine s_if_eq (t := 37) kx_285_20 (by decide) (fun hc6 => ?_) (fun hc6 => ?_)
      · replace v5p := v5p.resolve_left (by omega)
        refine s_iconst (v := (-1)) kx_285_37 (by decide) ?_
        exact s_iret kx_285_38 (Or.inl kq_285) ⟨_, rfl, rfl, trivial⟩
      · replace v5p := v5p.resolve_right (by omega)
        refine s_aload_n kx_285_23 rfl ?_
        refine r_getR (k := 63) (f := 71) (k2 := 107) kx_285_24 kp_285_228 (tk_63 hT) kf_12_71 (by decide) (rq_63_71 hI) ?_
        refine s_bipush (v := 8) kx_285_27 (by decide) ?_
        refine s_iload_n kx_285_29 rfl ?_
        refine r_mul kx_285_30 ⟨by omega, by omega⟩ ?_
        refine s_iload_n kx_285_31 rfl ?_
        refine r_add kx_285_32 ⟨by omega, by omega⟩ ?_
        refine r_aldU (k := 107) kx_285_33 (tk_107 hT) ⟨by omega, by omega⟩ (fun v7 v7e => ?_)
        refine s_goto (t := 38) kx_285_34 (by decide) ?_
        exact s_iret kx_285_38 (Or.inl kq_285) ⟨_, rfl, rfl, trivial⟩
theorem kx_289_0 : x_code k_P 289 0 = some (.iload_n 1, 1) := by decide +kernel
theorem kx_289_1 : x_code k_P 289 1 = some (.iconst 0, 1) := by decide +kernel
theorem kx_289_2 : x_code k_P 289 2 = some (.aload_n 0, 1) := by decide +kernel
theorem kx_289_3 : x_code k_P 289 3 = some (.getfield 252, 3) := by decide +kernel
theorem kp_289_252 : x_pool k_P 289 252 = (1, 12, 79) := by decide +kernel
theorem kf_12_79 : (x_cls k_P 12)[79]? = some 0 := by decide +kernel
theorem kx_289_6 : x_code k_P 289 6 = some (.iconst 1, 1) := by decide +kernel
theorem kx_289_7 : x_code k_P 289 7 = some (.isub, 1) := by decide +kernel
theorem kx_289_8 : x_code k_P 289 8 = some (.invokestatic 345, 3) := by decide +kernel
theorem kp_289_345 : x_pool k_P 289 345 = (6, 172, 3) := by decide +kernel
theorem kx_289_11 : x_code k_P 289 11 = some (.ifCond .eq 12, 3) := by decide +kernel
theorem kx_289_23 : x_code k_P 289 23 = some (.iconst (-1), 1) := by decide +kernel
theorem kx_289_24 : x_code k_P 289 24 = some (.ireturn, 1) := by decide +kernel
theorem kq_289 : x_retk k_P 289 = 1 := by decide +kernel
theorem kx_289_14 : x_code k_P 289 14 = some (.aload_n 0, 1) := by decide +kernel
theorem kx_289_15 : x_code k_P 289 15 = some (.getfield 249, 3) := by decide +kernel
theorem kp_289_249 : x_pool k_P 289 249 = (1, 12, 78) := by decide +kernel
theorem kf_12_78 : (x_cls k_P 12)[78]? = some 12 := by decide +kernel
theorem kx_289_18 : x_code k_P 289 18 = some (.iload_n 1, 1) := by decide +kernel
theorem kx_289_19 : x_code k_P 289 19 = some (.iaload, 1) := by decide +kernel
theorem kx_289_20 : x_code k_P 289 20 = some (.goto 4, 3) := by decide +kernel
theorem m_289 {xs : Nat → Int} {Ln d : Nat} {T : List cK} {M : cM} (hT : TT T) (hI : Rng M) {k : Int} : cC k_P xs Ln (d + 1) 289 [rf 63, (0, k)] (T, M) (qF T M 0 (fun v => True)) := by
  show cP k_P xs Ln (d + 1) 289 0 [(0, rf 63), (1, (0, k))] [] (T, M) _
  refine s_iload_n kx_289_0 rfl ?_
  refine s_iconst (v := 0) kx_289_1 (by decide) ?_
  refine s_aload_n kx_289_2 rfl ?_
  refine r_getI (k := 63) (f := 79) kx_289_3 kp_289_252 (tk_63 hT) kf_12_79 (fun _ => rfl) (rg_63_79 hI) (fun v1 v1e v1a v1b => ?_)
  refine s_iconst (v := 1) kx_289_6 (by decide) ?_
  refine r_sub kx_289_7 ⟨by omega, by omega⟩ ?_
  refine s_callS2 (s1 := 3) (s2 := 0) (as := [(0, (v1 - 1)), (0, 0), (0, k)]) (rest := []) kx_289_8 kp_289_345 rfl kcl_172 rfl rfl (by decide) (m_172 (d := d) (v_ := k) (least := 0) (most := (v1 - 1)) hT hI) (kF (fun v2 v2p => ?_))
  refine s_if_eq (t := 23) kx_289_11 (by decide) (fun hc3 => ?_) (fun hc3 => ?_)
  · replace v2p := v2p.resolve_left (by omega)
    refine s_iconst (v := (-1)) kx_289_23 (by decide) ?_
    exact s_iret kx_289_24 (Or.inl kq_289) ⟨_, rfl, rfl, trivial⟩
  · replace v2p := v2p.resolve_right (by omega)
    refine s_aload_n kx_289_14 rfl ?_
    refine r_getR (k := 63) (f := 78) (k2 := 113) kx_289_15 kp_289_249 (tk_63 hT) kf_12_78 (by decide) (rq_63_78 hI) ?_
    refine s_iload_n kx_289_18 rfl ?_
    refine r_aldU (k := 113) kx_289_19 (tk_113 hT) ⟨by omega, by omega⟩ (fun v4 v4e => ?_)
    refine s_goto (t := 24) kx_289_20 (by decide) ?_
    exact s_iret kx_289_24 (Or.inl kq_289) ⟨_, rfl, rfl, trivial⟩
theorem kx_268_0 : x_code k_P 268 0 = some (.iload_n 1, 1) := by decide +kernel
theorem kx_268_1 : x_code k_P 268 1 = some (.iconst 0, 1) := by decide +kernel
theorem kx_268_2 : x_code k_P 268 2 = some (.aload_n 0, 1) := by decide +kernel
theorem kx_268_3 : x_code k_P 268 3 = some (.getfield 174, 3) := by decide +kernel
theorem kp_268_174 : x_pool k_P 268 174 = (1, 12, 53) := by decide +kernel
theorem kx_268_6 : x_code k_P 268 6 = some (.iconst 0, 1) := by decide +kernel
theorem kx_268_7 : x_code k_P 268 7 = some (.iaload, 1) := by decide +kernel
theorem kx_268_8 : x_code k_P 268 8 = some (.iconst 1, 1) := by decide +kernel
theorem kx_268_9 : x_code k_P 268 9 = some (.isub, 1) := by decide +kernel
theorem kx_268_10 : x_code k_P 268 10 = some (.invokestatic 345, 3) := by decide +kernel
theorem kp_268_345 : x_pool k_P 268 345 = (6, 172, 3) := by decide +kernel
theorem kx_268_13 : x_code k_P 268 13 = some (.ifCond .eq 12, 3) := by decide +kernel
theorem kx_268_25 : x_code k_P 268 25 = some (.iconst (-1), 1) := by decide +kernel
theorem kx_268_26 : x_code k_P 268 26 = some (.ireturn, 1) := by decide +kernel
theorem kq_268 : x_retk k_P 268 = 1 := by decide +kernel
theorem kx_268_16 : x_code k_P 268 16 = some (.iload_n 2, 1) := by decide +kernel
theorem kx_268_17 : x_code k_P 268 17 = some (.iconst 0, 1) := by decide +kernel
theorem kx_268_18 : x_code k_P 268 18 = some (.iconst 3, 1) := by decide +kernel
theorem kx_268_19 : x_code k_P 268 19 = some (.invokestatic 345, 3) := by decide +kernel
theorem kx_268_22 : x_code k_P 268 22 = some (.ifCond .ne 5, 3) := by decide +kernel
theorem kx_268_27 : x_code k_P 268 27 = some (.iload_n 2, 1) := by decide +kernel
theorem kx_268_28 : x_code k_P 268 28 = some (.ifCond .ne 12, 3) := by decide +kernel
theorem kx_268_40 : x_code k_P 268 40 = some (.iload_n 2, 1) := by decide +kernel
theorem kx_268_41 : x_code k_P 268 41 = some (.iconst 1, 1) := by decide +kernel
theorem kx_268_42 : x_code k_P 268 42 = some (.if_icmp .ne 12, 3) := by decide +kernel
theorem kx_268_54 : x_code k_P 268 54 = some (.iload_n 2, 1) := by decide +kernel
theorem kx_268_55 : x_code k_P 268 55 = some (.iconst 2, 1) := by decide +kernel
theorem kx_268_56 : x_code k_P 268 56 = some (.if_icmp .ne 12, 3) := by decide +kernel
theorem kx_268_68 : x_code k_P 268 68 = some (.aload_n 0, 1) := by decide +kernel
theorem kx_268_69 : x_code k_P 268 69 = some (.getfield 186, 3) := by decide +kernel
theorem kp_268_186 : x_pool k_P 268 186 = (1, 12, 57) := by decide +kernel
theorem kf_12_57 : (x_cls k_P 12)[57]? = some 12 := by decide +kernel
theorem kx_268_72 : x_code k_P 268 72 = some (.iload_n 1, 1) := by decide +kernel
theorem kx_268_73 : x_code k_P 268 73 = some (.iaload, 1) := by decide +kernel
theorem kx_268_74 : x_code k_P 268 74 = some (.ireturn, 1) := by decide +kernel
theorem kx_268_59 : x_code k_P 268 59 = some (.aload_n 0, 1) := by decide +kernel
theorem kx_268_60 : x_code k_P 268 60 = some (.getfield 183, 3) := by decide +kernel
theorem kp_268_183 : x_pool k_P 268 183 = (1, 12, 56) := by decide +kernel
theorem kf_12_56 : (x_cls k_P 12)[56]? = some 12 := by decide +kernel
theorem kx_268_63 : x_code k_P 268 63 = some (.iload_n 1, 1) := by decide +kernel
theorem kx_268_64 : x_code k_P 268 64 = some (.iaload, 1) := by decide +kernel
theorem kx_268_65 : x_code k_P 268 65 = some (.goto 9, 3) := by decide +kernel
theorem kx_268_45 : x_code k_P 268 45 = some (.aload_n 0, 1) := by decide +kernel
theorem kx_268_46 : x_code k_P 268 46 = some (.getfield 180, 3) := by decide +kernel
theorem kp_268_180 : x_pool k_P 268 180 = (1, 12, 55) := by decide +kernel
theorem kf_12_55 : (x_cls k_P 12)[55]? = some 12 := by decide +kernel
theorem kx_268_49 : x_code k_P 268 49 = some (.iload_n 1, 1) := by decide +kernel
theorem kx_268_50 : x_code k_P 268 50 = some (.iaload, 1) := by decide +kernel
theorem kx_268_51 : x_code k_P 268 51 = some (.goto 23, 3) := by decide +kernel
theorem kx_268_31 : x_code k_P 268 31 = some (.aload_n 0, 1) := by decide +kernel
theorem kx_268_32 : x_code k_P 268 32 = some (.getfield 177, 3) := by decide +kernel
theorem kp_268_177 : x_pool k_P 268 177 = (1, 12, 54) := by decide +kernel
theorem kf_12_54 : (x_cls k_P 12)[54]? = some 12 := by decide +kernel
theorem kx_268_35 : x_code k_P 268 35 = some (.iload_n 1, 1) := by decide +kernel
theorem kx_268_36 : x_code k_P 268 36 = some (.iaload, 1) := by decide +kernel
theorem kx_268_37 : x_code k_P 268 37 = some (.goto 37, 3) := by decide +kernel
theorem m_268 {xs : Nat → Int} {Ln d : Nat} {T : List cK} {M : cM} (hT : TT T) (hI : Rng M) {k what : Int} : cC k_P xs Ln (d + 1) 268 [rf 63, (0, k), (0, what)] (T, M) (qF T M 0 (fun v => True)) := by
  show cP k_P xs Ln (d + 1) 268 0 [(0, rf 63), (1, (0, k)), (2, (0, what))] [] (T, M) _
  refine s_iload_n kx_268_0 rfl ?_
  refine s_iconst (v := 0) kx_268_1 (by decide) ?_
  refine s_aload_n kx_268_2 rfl ?_
  refine r_getR (k := 63) (f := 53) (k2 := 97) kx_268_3 kp_268_174 (tk_63 hT) kf_12_53 (by decide) (rq_63_53 hI) ?_
  refine s_iconst (v := 0) kx_268_6 (by decide) ?_
  refine r_ald (k := 97) kx_268_7 (tk_97 hT) ⟨by decide, by decide⟩ (rg_97 hI) (fun v1 v1e v1a v1b => ?_)
  refine s_iconst (v := 1) kx_268_8 (by decide) ?_
  refine r_sub kx_268_9 ⟨by omega, by omega⟩ ?_
  refine s_callS2 (s1 := 3) (s2 := 0) (as := [(0, (v1 - 1)), (0, 0), (0, k)]) (rest := []) kx_268_10 kp_268_345 rfl kcl_172 rfl rfl (by decide) (m_172 (d := d) (v_ := k) (least := 0) (most := (v1 - 1)) hT hI) (kF (fun v2 v2p => ?_))
  refine s_if_eq (t := 25) kx_268_13 (by decide) (fun hc3 => ?_) (fun hc3 => ?_)
  · replace v2p := v2p.resolve_left (by omega)
    refine s_iconst (v := (-1)) kx_268_25 (by decide) ?_
    exact s_iret kx_268_26 (Or.inl kq_268) ⟨_, rfl, rfl, trivial⟩
  · replace v2p := v2p.resolve_right (by omega)
    refine s_iload_n kx_268_16 rfl ?_
    refine s_iconst (v := 0) kx_268_17 (by decide) ?_
    refine s_iconst (v := 3) kx_268_18 (by decide) ?_
    refine s_callS2 (s1 := 3) (s2 := 0) (as := [(0, 3), (0, 0), (0, what)]) (rest := []) kx_268_19 kp_268_345 rfl kcl_172 rfl rfl (by decide) (m_172 (d := d) (v_ := what) (least := 0) (most := 3) hT hI) (kF (fun v4 v4p => ?_))
    refine s_if_ne (t := 27) kx_268_22 (by decide) (fun hc5 => ?_) (fun hc5 => ?_)
    · replace v4p := v4p.resolve_right (by omega)
      refine s_iload_n kx_268_27 rfl ?_
      refine s_if_ne (t := 40) kx_268_28 (by decide) (fun hc6 => ?_) (fun hc6 => ?_)
      · refine s_iload_n kx_268_40 rfl ?_
        refine s_iconst (v := 1) kx_268_41 (by decide) ?_
        refine s_icmp_ne (t := 54) kx_268_42 (by decide) (fun hc7 => ?_) (fun hc7 => ?_)
        · refine s_iload_n kx_268_54 rfl ?_
          refine s_iconst (v := 2) kx_268_55 (by decide) ?_
          refine s_icmp_ne (t := 68) kx_268_56 (by decide) (fun hc8 => ?_) (fun hc8 => ?_)
          · refine s_aload_n kx_268_68 rfl ?_
            refine r_getR (k := 63) (f := 57) (k2 := 101) kx_268_69 kp_268_186 (tk_63 hT) kf_12_57 (by decide) (rq_63_57 hI) ?_
            refine s_iload_n kx_268_72 rfl ?_
            refine r_aldU (k := 101) kx_268_73 (tk_101 hT) ⟨by omega, by omega⟩ (fun v9 v9e => ?_)
            exact s_iret kx_268_74 (Or.inl kq_268) ⟨_, rfl, rfl, trivial⟩
          · refine s_aload_n kx_268_59 rfl ?_
            refine r_getR (k := 63) (f := 56) (k2 := 100) kx_268_60 kp_268_183 (tk_63 hT) kf_12_56 (by decide) (rq_63_56 hI) ?_
            refine s_iload_n kx_268_63 rfl ?_
            refine r_aldU (k := 100) kx_268_64 (tk_100 hT) ⟨by omega, by omega⟩ (fun v10 v10e => ?_)
            refine s_goto (t := 74) kx_268_65 (by decide) ?_
            exact s_iret kx_268_74 (Or.inl kq_268) ⟨_, rfl, rfl, trivial⟩
        · refine s_aload_n kx_268_45 rfl ?_
          refine r_getR (k := 63) (f := 55) (k2 := 99) kx_268_46 kp_268_180 (tk_63 hT) kf_12_55 (by decide) (rq_63_55 hI) ?_
          refine s_iload_n kx_268_49 rfl ?_
          refine r_aldU (k := 99) kx_268_50 (tk_99 hT) ⟨by omega, by omega⟩ (fun v11 v11e => ?_)
          refine s_goto (t := 74) kx_268_51 (by decide) ?_
          exact s_iret kx_268_74 (Or.inl kq_268) ⟨_, rfl, rfl, trivial⟩
      · refine s_aload_n kx_268_31 rfl ?_
        refine r_getR (k := 63) (f := 54) (k2 := 98) kx_268_32 kp_268_177 (tk_63 hT) kf_12_54 (by decide) (rq_63_54 hI) ?_
        refine s_iload_n kx_268_35 rfl ?_
        refine r_aldU (k := 98) kx_268_36 (tk_98 hT) ⟨by omega, by omega⟩ (fun v12 v12e => ?_)
        refine s_goto (t := 74) kx_268_37 (by decide) ?_
        exact s_iret kx_268_74 (Or.inl kq_268) ⟨_, rfl, rfl, trivial⟩
    · replace v4p := v4p.resolve_left (by omega)
      refine s_iconst (v := (-1)) kx_268_25 (by decide) ?_
      exact s_iret kx_268_26 (Or.inl kq_268) ⟨_, rfl, rfl, trivial⟩
