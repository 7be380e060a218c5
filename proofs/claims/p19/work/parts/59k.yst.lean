/-! the reference's statements -/
section YK
variable {M M1 D : cM} {s : Nat → Int} {n f q : Int}
theorem Yst.z (h : Yst M s n 0 q) : M 63 9 = 0 ∧ LyA M s n q := by
  rcases h with ⟨h1, _⟩ | ⟨_, h2, h3⟩
  · exact absurd rfl h1
  · exact ⟨h2, h3⟩
def yUj (s : Nat → Int) (n : Int) (D : cM) (f q but : Int) : Int := if f ≠ 0 then f else owUj s n D q but
theorem yPi : yIx s n D q 1 = owPi s n D q := rfl
theorem yRi : yIx s n D q 0 = owRi s n D q := rfl
theorem yNm_seq {w lo hi : Int} (hq : 0 ≤ q ∧ q ≤ n) : yNu s n (yMu s n f q w) (owE s n q) lo hi = if f ≠ 0 then f else owNm s n q w lo hi := by
  have h1 := owU_pos (s := s) (n := n) hq.1
  have h2 := owE_i2 (s := s) hq
  have h3 := owU_pos (s := s) (n := n) h2.1
  unfold yNu yMu owNm
  (repeat' split) <;> omega
theorem RSD.joined (h : RSD M D) {j : Int} (h0 : 0 ≤ j) (hj : j < D 0 1) : M 74 (8 * M 63 36 + j).toNat = D 9 j.toNat := by
  have := (h.2.2.2.2.2.1 j.toNat (by omega)).2.2.2.2.1
  rw [show ((j.toNat : Nat) : Int) = j by omega] at this
  exact this
/-- a place of the room, of the person that is next -/
theorem RSD.upk {c g : Nat} {v : Int} (h : RSD M D) (u : Up M c g v M1) (h36 : 0 ≤ M 63 36) (hR : 0 ≤ D 0 0 ∧ 0 ≤ D 0 1) (hc : ((c = 83 ∨ c = 66 ∨ c = 67) ∧ (g : Int) = 8 * M 63 36 + D 0 0) ∨ ((c = 84 ∨ c = 70 ∨ c = 71 ∨ c = 72 ∨ c = 73 ∨ c = 74) ∧ (g : Int) = 8 * M 63 36 + D 0 1)) : RSD M1 D := by
  obtain ⟨a1, a2, a3, a4, a5, a6, a7, a8, a9⟩ := h
  have e36 : M1 63 36 = M 63 36 := u.2 63 36 (by omega)
  unfold RSD
  rw [e36]
  refine ⟨(u.2 65 _ (by omega)).trans a1, (u.2 69 _ (by omega)).trans a2, (u.2 79 _ (by omega)).trans a3, (u.2 80 _ (by omega)).trans a4, fun k hk => ?_, fun k hk => ?_, ?_, ?_, a9.of (fun g => u.2 68 g (by omega)) rfl (fun _ => rfl)⟩
  · have := a5 k hk
    rw [u.2 83 _ (by omega), u.2 66 _ (by omega), u.2 67 _ (by omega)]
    exact this
  · have := a6 k hk
    rw [u.2 84 _ (by omega), u.2 70 _ (by omega), u.2 71 _ (by omega), u.2 72 _ (by omega), u.2 73 _ (by omega), u.2 74 _ (by omega)]
    exact this
  · rw [u.2 75 _ (by omega)]; exact a7
  · rw [u.2 77 _ (by omega)]; exact a8
theorem RSD.addR {nm d fl i : Int} (h : RSD M D) (hi : M 63 36 = i) (h36 : 0 ≤ i) (hD : 0 ≤ D 0 0) (hD8 : D 0 0 < 8) (hz : ∀ j : Nat, (j : Int) < 8 → M 68 (64 * i + 8 * D 0 0 + (j : Int)).toNat = 0 ∧ M 68 (64 * i + 8 * (j : Int) + D 0 0).toNat = 0) (hn : N58 nm (M 83 (8 * i + D 0 0).toNat)) (hd : M 66 (8 * i + D 0 0).toNat = d) (hf : M 67 (8 * i + D 0 0).toNat = fl) (u : Up M 65 i.toNat (D 0 0 + 1) M1) : RSD M1 (owAR D nm d fl) := by
  obtain ⟨a1, a2, a3, a4, a5, a6, a7, a8, a9⟩ := h
  have e36 : M1 63 36 = i := (u.2 63 36 (by omega)).trans hi
  have ec : ∀ c, c ≠ 65 → ∀ g, M1 c g = M c g := fun c hc g => u.2 c g (by omega)
  rw [hi] at a1 a2 a3 a4 a7 a8 a9
  unfold RSD
  rw [e36]
  refine ⟨?_, ?_, ?_, ?_, fun k hk => ?_, fun k hk => ?_, ?_, ?_, ?_⟩
  · rw [u.1]; simp [owAR, c_up]
  · rw [ec 69 (by decide)]; simp [owAR, c_up]; exact a2
  · rw [ec 79 (by decide)]; simp [owAR, c_up]; exact a3
  · rw [ec 80 (by decide)]; simp [owAR, c_up]; exact a4
  · rw [ec 83 (by decide), ec 66 (by decide), ec 67 (by decide)]
    simp [owAR, c_up] at hk ⊢
    by_cases e : k = (D 0 0).toNat
    · rw [if_pos e, if_pos e, if_pos e, show (k : Int) = D 0 0 by omega]
      exact ⟨hn, hd, hf⟩
    · rw [if_neg e, if_neg e, if_neg e]
      have := a5 k (by omega)
      rw [hi] at this
      exact this
  · rw [ec 84 (by decide), ec 70 (by decide), ec 71 (by decide), ec 72 (by decide), ec 74 (by decide), ec 73 (by decide)]
    simp [owAR, c_up] at hk ⊢
    have := a6 k hk
    rw [hi] at this
    exact this
  · rw [ec 75 (by decide)]; simp [owAR, c_up]; exact a7
  · rw [ec 77 (by decide)]; simp [owAR, c_up]; exact a8
  · have e0 : owAR D nm d fl 0 0 = D 0 0 + 1 := by simp [owAR, c_up]
    have e4 : ∀ g, owAR D nm d fl 4 g = D 4 g := fun g => by simp [owAR, c_up]
    unfold WYS
    rw [e0]
    simp only [e4, ec 68 (by decide)]
    refine ⟨fun a b ha hb => ?_, fun a b ha hb h => a9.2 a b ha hb (by omega)⟩
    by_cases ea : (a : Int) = D 0 0
    · rw [a9.2 a b (by omega) (by omega) (Or.inl (by omega)), ea]
      exact (hz b (by omega)).1
    · by_cases eb : (b : Int) = D 0 0
      · rw [a9.2 a b (by omega) (by omega) (Or.inr (by omega)), eb]
        exact (hz a (by omega)).2
      · exact a9.1 a b (by omega) (by omega)
theorem room_seq (hq : 0 ≤ q ∧ q ≤ n) (h8 : D 0 0 < 8) : yNu s n (yMu s n (yNu s n (yMu s n (yFr s n D 0 (owE s n q)) (owE s n (owE s n q)) 150456320) (owE s n (owE s n (owE s n q))) 1 9) (owE s n (owE s n (owE s n (owE s n q)))) 214416960) (owE s n (owE s n (owE s n (owE s n (owE s n q))))) 1 99 = owRoomF s n D q := by
  have p1 := owE_i2 (s := s) hq
  have p2 := owE_i2 (s := s) p1
  have p3 := owE_i2 (s := s) p2
  have p4 := owE_i2 (s := s) p3
  rw [yNm_seq p4, yNm_seq p2]
  unfold yFr owRoomF
  (repeat' split) <;> omega
theorem uj_n {but : Int} (h : yKr s n D f q 1 ≠ 0) : yUj s n D f q but ≠ 0 := by
  unfold yKr yKf at h
  unfold yUj owUj
  rw [← yPi]
  (repeat' split) <;> (repeat' split at h) <;> omega
theorem uj_e {but : Int} (h : yKr s n D f q 1 ≠ 0) : yUj s n D f q but = yKr s n D f q 1 := by
  unfold yKr yKf at h ⊢
  unfold yUj owUj
  rw [← yPi]
  (repeat' split) <;> (repeat' split at h) <;> omega
theorem uj_f {but q' : Int} (h : yKr s n D f q 1 ≠ 0) (g : Yst M s n (yKr s n D f q 1) q) : Yst M s n (yUj s n D f q but) q' := yst_is (uj_e h) g h
theorem yNu_f {lo hi : Int} (h : yNu s n f q lo hi = 0) : f = 0 := by
  unfold yNu at h
  split at h <;> omega
theorem yMu_f {w : Int} (h : yMu s n f q w = 0) : f = 0 := by
  unfold yMu at h
  split at h <;> omega
theorem yMg_f {w : Int} (h : yMg s n f q w = 0) : f = 0 := by
  unfold yMg at h
  split at h <;> omega
theorem yKr_f {k : Int} (h : yKr s n D f q k = 0) : f = 0 := by
  unfold yKr at h
  split at h <;> omega
end YK
def gS_203_m : List (Nat × Nat) := [(63, 10), (63, 13), (63, 3), (63, 4), (63, 5), (63, 6), (63, 7), (63, 8), (63, 9)]
theorem f_203 {xs : Nat → Int} {Ln d : Nat} {T : List cK} {M : cM} (hT : TT T) (hI : Rng M) {kind : Int} (hX : LXp M) {s : Nat → Int} {n f q : Int} (hY : Yst M s n f q) (hn : n ≤ 1600) {D : cM} (hR : RSD M D) (p0 : 0 ≤ kind ∧ kind ≤ 1) : cC k_P xs Ln (d + 3) 203 [rf 63, (0, kind)] (T, M) (qW T M gS_203_m 0 (fun v M1 => 0 ≤ v ∧ v ≤ 7 ∧ (LXp M1 ∧ M 63 4 ≤ M1 63 4 ∧ M 63 9 ≤ M1 63 9 ∧ (PRd M M1) ∧ (Yst M1 s n (yKr s n D f q kind) (owE s n q) ∧ (yKr s n D f q kind = 0 → v = yIx s n D q kind ∧ v < yCt D kind ∧ owK s n q = 2))))) := by
  show cP k_P xs Ln (d + 3) 203 0 [(0, rf 63), (1, (0, kind))] [] (T, M) _
  have hFm : Fr gS_203_m M M := Fr.refl
  have h639 := rg_63_9 hI
  have ⟨lx1, lx2⟩ := hX
  refine s_aload_n kx_203_0 rfl ?_
  refine s_iload_n kx_203_1 rfl ?_
  refine s_callV2 (k := 63) (s1 := 2) (s2 := 0) (as := [(0, kind)]) (rest := []) kx_203_2 kp_203_383 (Or.inl rfl) rfl (tk_63 hT) ki_202 kcl_202 rfl rfl (by decide) (f_202 (d := d) (kind := kind) hT hI hY hn hR (by omega)) (kW (fun v1 M2 hI2 fr2 v1p => ?_))
  have hFm2 := hFm.call fr2 rfl
  have tr3 := (fr2 63 3 rfl)
  have tr4 := (fr2 63 4 rfl)
  have tr5 := (fr2 63 5 rfl)
  have tr6 := (fr2 63 6 rfl)
  have tr7 := rg_63_9 hI2
  refine s_istore_n kx_203_5 km_203_2 rfl ?_
  refine s_aload_n kx_203_6 rfl ?_
  refine r_getI (k := 63) (f := 9) kx_203_7 kp_203_39 (tk_63 hT) kf_12_9 (fun _ => rfl) (rg_63_9 hI2) (fun v8 v8e v8a v8b => ?_)
  refine s_if_ne (t := 17) kx_203_10 (by decide) (fun hc9 => ?_) (fun hc9 => ?_)
  · refine s_aload_n kx_203_17 rfl ?_
    refine r_getK (k := 63) (f := 9) kx_203_18 kp_203_39 (tk_63 hT) kf_12_9 (fun _ => rfl) v8e ?_
    refine s_if_le (t := 28) kx_203_21 (by decide) (fun hc10 => absurd hc10 (by omega)) (fun hc10 => ?_)
    refine s_iconst (v := 0) kx_203_24 (by decide) ?_
    refine s_goto (t := 29) kx_203_25 (by decide) ?_
    have hk11 : M2 63 9 = v8 := v8e
    exact s_iret kx_203_29 (Or.inl kq_203) ⟨_, _, rfl, rfl, hI2, hFm2, ⟨by omega, by omega, (LXp.fr hX fr2 rfl), by omega, by omega, by unfold PRd; omega, ⟨(yst_is rfl v1p.2.2.2.2.1 (Yst.pos v1p.2.2.2.2.1 (by omega)).1), fun g => absurd g (Yst.pos v1p.2.2.2.2.1 (by omega)).1⟩⟩⟩
  · have hz12 := Yst.zero v1p.2.2.2.2.1 (by omega)
    have hz12v := v1p.2.2.2.2.2 hz12.1
    have hz12b := hz12.2.b hn
    have hz12p := hz12.2.2.2.1
    have hz12q := hz12.2.2.2.2.1
    refine s_aload_n kx_203_13 rfl ?_
    refine s_callV2 (k := 63) (s1 := 1) (s2 := 0) (as := []) (rest := []) kx_203_14 kp_203_286 (Or.inl rfl) rfl (tk_63 hT) ki_180 kcl_180 rfl rfl (by decide) (f_180 (d := d + 1) hT hI2 hz12.2.1 hz12.2.2.1 hz12.2.2.2.2.2.2.1 (owE_i2 ⟨hz12.2.2.2.1, hz12.2.2.2.2.1⟩).1 (owE_i2 ⟨hz12.2.2.2.1, hz12.2.2.2.2.1⟩).2 hz12.2.2.2.2.2.2.2.2.2.2.2.2.2) (kV (fun M14 hI14 fr14 v13p => ?_))
    have hFm14 := hFm2.call fr14 rfl
    have tr15 := (fr14 63 9 rfl)
    have tr16 := (fr14 63 10 rfl)
    have tr17 := rg_63_9 hI14
    refine s_aload_n kx_203_17 rfl ?_
    refine r_getK (k := 63) (f := 9) kx_203_18 kp_203_39 (tk_63 hT) kf_12_9 (fun _ => rfl) ((fr14 63 9 rfl).trans v8e) ?_
    refine s_if_le (t := 28) kx_203_21 (by decide) (fun hc18 => ?_) (fun hc18 => absurd hc18 (by omega))
    refine s_iload_n kx_203_28 rfl ?_
    have hk19 : M14 63 9 = v8 := ((fr14 63 9 rfl).trans v8e)
    exact s_iret kx_203_29 (Or.inl kq_203) ⟨_, _, rfl, rfl, hI14, hFm14, ⟨by omega, by omega, (show LXp M14 from v13p.2.2), by omega, by omega, by unfold PRd; omega, ⟨(Or.inr ⟨hz12.1, by omega, v13p.1⟩), fun _ => hz12v⟩⟩⟩
def gS_199_m : List (Nat × Nat) := [(63, 10), (63, 13), (63, 3), (63, 4), (63, 5), (63, 6), (63, 7), (63, 8), (63, 9)]
theorem f_199 {xs : Nat → Int} {Ln d : Nat} {T : List cK} {M : cM} (hT : TT T) (hI : Rng M) {full : Int} (hX : LXp M) {s : Nat → Int} {n q : Int} (hY : Yst M s n 0 q) (hn : n ≤ 1600) (p0 : 0 ≤ full ∧ full ≤ 1) : cC k_P xs Ln (d + 2) 199 [rf 63, (0, full)] (T, M) (qW T M gS_199_m 0 (fun v M1 => LXp M1 ∧ M 63 4 ≤ M1 63 4 ∧ M 63 9 ≤ M1 63 9 ∧ ((v = 1 ∧ (full = 0 ∧ M 63 5 ≤ M1 63 4 ∧ M1 63 9 = 0) ∧ LyA M1 s n (owE s n q)) ∨ (v = 0 ∧ full = 1 ∧ (60000 + owB s n q ≠ 0 ∧ FlY M1 (60000 + owB s n q)) ∧ 1 ≤ M1 63 9)))) := by
  show cP k_P xs Ln (d + 2) 199 0 [(0, rf 63), (1, (0, full))] [] (T, M) _
  have hFm : Fr gS_199_m M M := Fr.refl
  have h639 := rg_63_9 hI
  have ⟨lx1, lx2⟩ := hX
  have hz9 := hY.z.1
  have hzb := hY.z.2.b hn
  refine s_aload_n kx_199_0 rfl ?_
  refine r_getI (k := 63) (f := 9) kx_199_1 kp_199_39 (tk_63 hT) kf_12_9 (fun _ => rfl) (rg_63_9 hI) (fun v1 v1e v1a v1b => ?_)
  refine s_if_ne (t := 21) kx_199_4 (by decide) (fun hc2 => ?_) (fun hc2 => ?_)
  · refine s_aload_n kx_199_21 rfl ?_
    refine r_getK (k := 63) (f := 9) kx_199_22 kp_199_39 (tk_63 hT) kf_12_9 (fun _ => rfl) v1e ?_
    refine s_if_ne (t := 32) kx_199_25 (by decide) (fun hc3 => ?_) (fun hc3 => absurd hc3 (by omega))
    refine s_aload_n kx_199_32 rfl ?_
    refine r_getK (k := 63) (f := 9) kx_199_33 kp_199_39 (tk_63 hT) kf_12_9 (fun _ => rfl) v1e ?_
    refine s_if_ne (t := 43) kx_199_36 (by decide) (fun hc4 => ?_) (fun hc4 => absurd hc4 (by omega))
    refine s_iconst (v := 0) kx_199_43 (by decide) ?_
    have hk5 : M 63 9 = v1 := v1e
    exact s_iret kx_199_44 (Or.inr ⟨kq_199, by omega⟩) ⟨_, _, rfl, rfl, hI, hFm, ⟨hX, by omega, by omega, (False.elim (by omega))⟩⟩
  · refine s_iload_n kx_199_7 rfl ?_
    refine s_if_eq (t := 21) kx_199_8 (by decide) (fun hc6 => ?_) (fun hc6 => ?_)
    · refine s_aload_n kx_199_21 rfl ?_
      refine r_getK (k := 63) (f := 9) kx_199_22 kp_199_39 (tk_63 hT) kf_12_9 (fun _ => rfl) v1e ?_
      refine s_if_ne (t := 32) kx_199_25 (by decide) (fun hc7 => absurd hc7 (by omega)) (fun hc7 => ?_)
      refine s_aload_n kx_199_28 rfl ?_
      refine s_callV2 (k := 63) (s1 := 1) (s2 := 0) (as := []) (rest := []) kx_199_29 kp_199_286 (Or.inl rfl) rfl (tk_63 hT) ki_180 kcl_180 rfl rfl (by decide) (f_180 (d := d) hT hI hY.z.2.1 hY.z.2.2.1 hY.z.2.2.2.2.2.2.1 (owE_i2 ⟨hY.z.2.2.2.1, hY.z.2.2.2.2.1⟩).1 (owE_i2 ⟨hY.z.2.2.2.1, hY.z.2.2.2.2.1⟩).2 hY.z.2.2.2.2.2.2.2.2.2.2.2.2.2) (kV (fun M9 hI9 fr9 v8p => ?_))
      have hFm9 := hFm.call fr9 rfl
      have tr10 := (fr9 63 9 rfl)
      have tr11 := (fr9 63 10 rfl)
      have tr12 := rg_63_9 hI9
      refine s_aload_n kx_199_32 rfl ?_
      refine r_getK (k := 63) (f := 9) kx_199_33 kp_199_39 (tk_63 hT) kf_12_9 (fun _ => rfl) ((fr9 63 9 rfl).trans v1e) ?_
      refine s_if_ne (t := 43) kx_199_36 (by decide) (fun hc13 => absurd hc13 (by omega)) (fun hc13 => ?_)
      refine s_iconst (v := 1) kx_199_39 (by decide) ?_
      refine s_goto (t := 44) kx_199_40 (by decide) ?_
      have hk14 : M9 63 9 = v1 := ((fr9 63 9 rfl).trans v1e)
      exact s_iret kx_199_44 (Or.inr ⟨kq_199, by omega⟩) ⟨_, _, rfl, rfl, hI9, hFm9, ⟨(show LXp M9 from v8p.2.2), by omega, by omega, (Or.inl ⟨rfl, ⟨by omega, by omega, by omega⟩, v8p.1⟩)⟩⟩
    · refine s_aload_n kx_199_11 rfl ?_
      refine s_bipush (v := 6) kx_199_12 (by decide) ?_
      refine s_aload_n kx_199_14 rfl ?_
      refine r_getI (k := 63) (f := 4) kx_199_15 kp_199_23 (tk_63 hT) kf_12_4 (fun _ => rfl) (rg_63_4 hI) (fun v15 v15e v15a v15b => ?_)
      refine s_callV2 (k := 63) (s1 := 3) (s2 := 0) (as := [(0, v15), (0, 6)]) (rest := []) kx_199_18 kp_199_263 (Or.inl rfl) rfl (tk_63 hT) ki_176 kcl_176 rfl rfl (by decide) (f_176 (d := d + 1) (kind := 6) (place := v15) hT hI (by omega)) (kV (fun M17 hI17 fr17 v16p => ?_))
      have hFm17 := hFm.call fr17 rfl
      have tr18 := (fr17 63 3 rfl)
      have tr19 := (fr17 63 4 rfl)
      have tr20 := (fr17 63 5 rfl)
      have tr21 := (fr17 63 6 rfl)
      have tr22 := rg_63_9 hI17
      refine s_aload_n kx_199_21 rfl ?_
      refine r_getI (k := 63) (f := 9) kx_199_22 kp_199_39 (tk_63 hT) kf_12_9 (fun _ => rfl) (rg_63_9 hI17) (fun v23 v23e v23a v23b => ?_)
      refine s_if_ne (t := 32) kx_199_25 (by decide) (fun hc24 => ?_) (fun hc24 => ?_)
      · refine s_aload_n kx_199_32 rfl ?_
        refine r_getK (k := 63) (f := 9) kx_199_33 kp_199_39 (tk_63 hT) kf_12_9 (fun _ => rfl) v23e ?_
        refine s_if_ne (t := 43) kx_199_36 (by decide) (fun hc25 => ?_) (fun hc25 => absurd hc25 (by omega))
        refine s_iconst (v := 0) kx_199_43 (by decide) ?_
        have hk26 : M17 63 4 = v15 := ((fr17 63 4 rfl).trans v15e)
        have hk27 : M17 63 9 = v23 := v23e
        exact s_iret kx_199_44 (Or.inr ⟨kq_199, by omega⟩) ⟨_, _, rfl, rfl, hI17, hFm17, ⟨(LXp.fr hX fr17 rfl), by omega, by omega, (Or.inr ⟨rfl, by omega, (owFl2 (k := 6) (x := owB s n q) (by omega) (by omega) (by decide) (by omega) (show 60000 + owB s n q = 10000 * 6 + owB s n q by omega)), by omega⟩)⟩⟩
      · refine s_aload_n kx_199_28 rfl ?_
        refine s_callV2 (k := 63) (s1 := 1) (s2 := 0) (as := []) (rest := []) kx_199_29 kp_199_286 (Or.inl rfl) rfl (tk_63 hT) ki_180 kcl_180 rfl rfl (by decide) (f_180 (d := d) hT hI17 (LyA.bl (M1 := M17) hY.z.2 (by omega)).1 (LyA.bl (M1 := M17) hY.z.2 (by omega)).2.1 (LyA.bl (M1 := M17) hY.z.2 (by omega)).2.2.2.2.2.1 (owE_i2 ⟨(LyA.bl (M1 := M17) hY.z.2 (by omega)).2.2.1, (LyA.bl (M1 := M17) hY.z.2 (by omega)).2.2.2.1⟩).1 (owE_i2 ⟨(LyA.bl (M1 := M17) hY.z.2 (by omega)).2.2.1, (LyA.bl (M1 := M17) hY.z.2 (by omega)).2.2.2.1⟩).2 (LyA.bl (M1 := M17) hY.z.2 (by omega)).2.2.2.2.2.2.2.2.2.2.2.2) (kV (fun M29 hI29 fr29 v28p => ?_))
        have hFm29 := hFm17.call fr29 rfl
        have tr30 := (fr29 63 9 rfl)
        have tr31 := (fr29 63 10 rfl)
        have tr32 := rg_63_9 hI29
        refine s_aload_n kx_199_32 rfl ?_
        refine r_getK (k := 63) (f := 9) kx_199_33 kp_199_39 (tk_63 hT) kf_12_9 (fun _ => rfl) ((fr29 63 9 rfl).trans v23e) ?_
        refine s_if_ne (t := 43) kx_199_36 (by decide) (fun hc33 => absurd hc33 (by omega)) (fun hc33 => ?_)
        refine s_iconst (v := 1) kx_199_39 (by decide) ?_
        refine s_goto (t := 44) kx_199_40 (by decide) ?_
        have hk34 : M29 63 9 = v23 := ((fr29 63 9 rfl).trans v23e)
        exact s_iret kx_199_44 (Or.inr ⟨kq_199, by omega⟩) ⟨_, _, rfl, rfl, hI29, hFm29, ⟨(show LXp M29 from v28p.2.2), by omega, by omega, (Or.inl ⟨rfl, ⟨by omega, by omega, by omega⟩, v28p.1⟩)⟩⟩
def gS_208_m : List (Nat × Nat) := [(63, 10), (63, 13), (63, 3), (63, 4), (63, 5), (63, 6), (63, 7), (63, 8), (63, 9)]
theorem f_208 {xs : Nat → Int} {Ln d : Nat} {T : List cK} {M : cM} (hT : TT T) (hI : Rng M) {but : Int} (hX : LXp M) {s : Nat → Int} {n f q : Int} (hY : Yst M s n f q) (hn : n ≤ 1600) {D : cM} (hR : RSD M D) : cC k_P xs Ln (d + 3) 208 [rf 63, (0, but)] (T, M) (qW T M gS_208_m 0 (fun v M1 => 0 ≤ v ∧ v ≤ 7 ∧ (LXp M1 ∧ M 63 4 ≤ M1 63 4 ∧ M 63 9 ≤ M1 63 9 ∧ (PRd M M1) ∧ (Yst M1 s n (yUj s n D f q but) (owE s n q) ∧ (yUj s n D f q but = 0 → v = owPi s n D q))))) := by
  show cP k_P xs Ln (d + 3) 208 0 [(0, rf 63), (1, (0, but))] [] (T, M) _
  have hFm : Fr gS_208_m M M := Fr.refl
  have h639 := rg_63_9 hI
  have ⟨lx1, lx2⟩ := hX
  refine s_aload_n kx_208_0 rfl ?_
  refine s_iconst (v := 1) kx_208_1 (by decide) ?_
  refine s_callV2 (k := 63) (s1 := 2) (s2 := 0) (as := [(0, 1)]) (rest := []) kx_208_2 kp_208_383 (Or.inl rfl) rfl (tk_63 hT) ki_202 kcl_202 rfl rfl (by decide) (f_202 (d := d) (kind := 1) hT hI hY hn hR (by omega)) (kW (fun v1 M2 hI2 fr2 v1p => ?_))
  have hFm2 := hFm.call fr2 rfl
  have tr3 := (fr2 63 3 rfl)
  have tr4 := (fr2 63 4 rfl)
  have tr5 := (fr2 63 5 rfl)
  have tr6 := (fr2 63 6 rfl)
  have tr7 := rg_63_9 hI2
  refine s_istore_n kx_208_5 km_208_2 rfl ?_
  refine s_aload_n kx_208_6 rfl ?_
  refine r_getI (k := 63) (f := 9) kx_208_7 kp_208_39 (tk_63 hT) kf_12_9 (fun _ => rfl) (rg_63_9 hI2) (fun v8 v8e v8a v8b => ?_)
  refine s_if_ne (t := 45) kx_208_10 (by decide) (fun hc9 => ?_) (fun hc9 => ?_)
  · have hp10 := Yst.pos v1p.2.2.2.2.1 (by omega)
    refine s_aload_n kx_208_45 rfl ?_
    refine r_getK (k := 63) (f := 9) kx_208_46 kp_208_39 (tk_63 hT) kf_12_9 (fun _ => rfl) v8e ?_
    refine s_if_ne (t := 56) kx_208_49 (by decide) (fun hc11 => ?_) (fun hc11 => absurd hc11 (by omega))
    refine s_iload_n kx_208_56 rfl ?_
    have hk12 : M2 63 9 = v8 := v8e
    exact s_iret kx_208_57 (Or.inl kq_208) ⟨_, _, rfl, rfl, hI2, hFm2, ⟨by omega, by omega, (LXp.fr hX fr2 rfl), by omega, by omega, by unfold PRd; omega, ⟨(uj_f hp10.1 v1p.2.2.2.2.1), fun g => absurd g (uj_n hp10.1)⟩⟩⟩
  · have hz13 := Yst.zero v1p.2.2.2.2.1 (by omega)
    have hz13v := v1p.2.2.2.2.2 hz13.1
    have hz13b := hz13.2.b hn
    have hz13p := hz13.2.2.2.1
    have hz13q := hz13.2.2.2.2.1
    refine s_iload_n kx_208_13 rfl ?_
    refine s_iload_n kx_208_14 rfl ?_
    refine s_icmp_eq (t := 36) kx_208_15 (by decide) (fun hc14 => ?_) (fun hc14 => ?_)
    · refine s_aload_n kx_208_36 rfl ?_
      refine s_iconst (v := 3) kx_208_37 (by decide) ?_
      refine s_aload_n kx_208_38 rfl ?_
      refine r_getI (k := 63) (f := 4) kx_208_39 kp_208_23 (tk_63 hT) kf_12_4 (fun _ => rfl) (rg_63_4 hI2) (fun v15 v15e v15a v15b => ?_)
      have v15z : M 63 4 = v15 := ((fr2 63 4 rfl)).symm.trans v15e
      refine s_callV2 (k := 63) (s1 := 3) (s2 := 0) (as := [(0, v15), (0, 3)]) (rest := []) kx_208_42 kp_208_263 (Or.inl rfl) rfl (tk_63 hT) ki_176 kcl_176 rfl rfl (by decide) (f_176 (d := d + 2) (kind := 3) (place := v15) hT hI2 (by omega)) (kV (fun M17 hI17 fr17 v16p => ?_))
      have hFm17 := hFm2.call fr17 rfl
      have tr18 := (fr17 63 3 rfl)
      have tr19 := (fr17 63 4 rfl)
      have tr20 := (fr17 63 5 rfl)
      have tr21 := (fr17 63 6 rfl)
      have tr22 := rg_63_9 hI17
      refine s_aload_n kx_208_45 rfl ?_
      refine r_getI (k := 63) (f := 9) kx_208_46 kp_208_39 (tk_63 hT) kf_12_9 (fun _ => rfl) (rg_63_9 hI17) (fun v23 v23e v23a v23b => ?_)
      refine s_if_ne (t := 56) kx_208_49 (by decide) (fun hc24 => ?_) (fun hc24 => ?_)
      · refine s_iload_n kx_208_56 rfl ?_
        have hk25 : M17 63 4 = v15 := ((fr17 63 4 rfl).trans v15e)
        have hk26 : M17 63 9 = v23 := v23e
        exact s_iret kx_208_57 (Or.inl kq_208) ⟨_, _, rfl, rfl, hI17, hFm17, ⟨by omega, by omega, (LXp.fr (LXp.fr hX fr2 rfl) fr17 rfl), by omega, by omega, by unfold PRd; omega, ⟨(yst_bl (k := 3) (x := owB s n q) (by omega) (by omega) (by decide) (by omega) (by unfold yUj owUj owU; rw [← yPi]; have hkz := hz13.1; unfold yKr yKf at hkz; (repeat' split) <;> (repeat' split at hkz) <;> omega)), fun g => by exfalso; unfold yUj owUj owU at g; rw [← yPi] at g; have hkz := hz13.1; unfold yKr yKf at hkz; (repeat' split at g) <;> (repeat' split at hkz) <;> omega⟩⟩⟩
      · exact absurd h639 (by omega)
    · refine s_aload_n kx_208_18 rfl ?_
      refine r_getR (k := 63) (f := 24) (k2 := 74) kx_208_19 kp_208_84 (tk_63 hT) kf_12_24 (by decide) (rq_63_24 hI2) ?_
      refine s_bipush (v := 8) kx_208_22 (by decide) ?_
      refine s_aload_n kx_208_24 rfl ?_
      refine r_getI (k := 63) (f := 36) kx_208_25 kp_208_121 (tk_63 hT) kf_12_36 (fun _ => rfl) (rg_63_36 hI2) (fun v27 v27e v27a v27b => ?_)
      have v27z : M 63 36 = v27 := ((fr2 63 36 rfl)).symm.trans v27e
      refine r_mul kx_208_28 ⟨by omega, by omega⟩ ?_
      refine s_iload_n kx_208_29 rfl ?_
      refine r_add kx_208_30 ⟨by omega, by omega⟩ ?_
      refine r_ald (k := 74) kx_208_31 (tk_74 hT) ⟨by omega, by omega⟩ (rg_74 hI2) (fun v28 v28e v28a v28b => ?_)
      have hjj := (RSD.fr hR fr2 rfl).joined (j := v1) (by omega) (by have hyc : yCt D 1 = D 0 1 := rfl; omega)
      rw [v27e, v28e] at hjj
      rw [show v1 = yIx s n D q 1 from hz13v.1] at hjj
      refine s_iconst (v := (-1)) kx_208_32 (by decide) ?_
      refine s_icmp_eq (t := 45) kx_208_33 (by decide) (fun hc29 => ?_) (fun hc29 => ?_)
      · refine s_aload_n kx_208_45 rfl ?_
        refine r_getK (k := 63) (f := 9) kx_208_46 kp_208_39 (tk_63 hT) kf_12_9 (fun _ => rfl) v8e ?_
        refine s_if_ne (t := 56) kx_208_49 (by decide) (fun hc30 => absurd hc30 (by omega)) (fun hc30 => ?_)
        refine s_aload_n kx_208_52 rfl ?_
        refine s_callV2 (k := 63) (s1 := 1) (s2 := 0) (as := []) (rest := []) kx_208_53 kp_208_286 (Or.inl rfl) rfl (tk_63 hT) ki_180 kcl_180 rfl rfl (by decide) (f_180 (d := d + 1) hT hI2 hz13.2.1 hz13.2.2.1 hz13.2.2.2.2.2.2.1 (owE_i2 ⟨hz13.2.2.2.1, hz13.2.2.2.2.1⟩).1 (owE_i2 ⟨hz13.2.2.2.1, hz13.2.2.2.2.1⟩).2 hz13.2.2.2.2.2.2.2.2.2.2.2.2.2) (kV (fun M32 hI32 fr32 v31p => ?_))
        have hFm32 := hFm2.call fr32 rfl
        have tr33 := (fr32 63 9 rfl)
        have tr34 := (fr32 63 10 rfl)
        have tr35 := rg_63_9 hI32
        refine s_iload_n kx_208_56 rfl ?_
        have hk36 : M32 63 9 = v8 := ((fr32 63 9 rfl).trans v8e)
        exact s_iret kx_208_57 (Or.inl kq_208) ⟨_, _, rfl, rfl, hI32, hFm32, ⟨by omega, by omega, (show LXp M32 from v31p.2.2), by omega, by omega, by unfold PRd; omega, ⟨(Or.inr ⟨by unfold yUj owUj; rw [← yPi]; have hkz := hz13.1; unfold yKr yKf at hkz; (repeat' split) <;> (repeat' split at hkz) <;> omega, by omega, v31p.1⟩), fun _ => by rw [← yPi]; exact hz13v.1⟩⟩⟩
      · refine s_aload_n kx_208_36 rfl ?_
        refine s_iconst (v := 3) kx_208_37 (by decide) ?_
        refine s_aload_n kx_208_38 rfl ?_
        refine r_getI (k := 63) (f := 4) kx_208_39 kp_208_23 (tk_63 hT) kf_12_4 (fun _ => rfl) (rg_63_4 hI2) (fun v37 v37e v37a v37b => ?_)
        have v37z : M 63 4 = v37 := ((fr2 63 4 rfl)).symm.trans v37e
        refine s_callV2 (k := 63) (s1 := 3) (s2 := 0) (as := [(0, v37), (0, 3)]) (rest := []) kx_208_42 kp_208_263 (Or.inl rfl) rfl (tk_63 hT) ki_176 kcl_176 rfl rfl (by decide) (f_176 (d := d + 2) (kind := 3) (place := v37) hT hI2 (by omega)) (kV (fun M39 hI39 fr39 v38p => ?_))
        have hFm39 := hFm2.call fr39 rfl
        have tr40 := (fr39 63 3 rfl)
        have tr41 := (fr39 63 4 rfl)
        have tr42 := (fr39 63 5 rfl)
        have tr43 := (fr39 63 6 rfl)
        have tr44 := rg_63_9 hI39
        refine s_aload_n kx_208_45 rfl ?_
        refine r_getI (k := 63) (f := 9) kx_208_46 kp_208_39 (tk_63 hT) kf_12_9 (fun _ => rfl) (rg_63_9 hI39) (fun v45 v45e v45a v45b => ?_)
        refine s_if_ne (t := 56) kx_208_49 (by decide) (fun hc46 => ?_) (fun hc46 => ?_)
        · refine s_iload_n kx_208_56 rfl ?_
          have hk47 : M39 63 4 = v37 := ((fr39 63 4 rfl).trans v37e)
          have hk48 : M39 63 9 = v45 := v45e
          exact s_iret kx_208_57 (Or.inl kq_208) ⟨_, _, rfl, rfl, hI39, hFm39, ⟨by omega, by omega, (LXp.fr (LXp.fr hX fr2 rfl) fr39 rfl), by omega, by omega, by unfold PRd; omega, ⟨(yst_bl (k := 3) (x := owB s n q) (by omega) (by omega) (by decide) (by omega) (by unfold yUj owUj owU; rw [← yPi]; have hkz := hz13.1; unfold yKr yKf at hkz; (repeat' split) <;> (repeat' split at hkz) <;> omega)), fun g => by exfalso; unfold yUj owUj owU at g; rw [← yPi] at g; have hkz := hz13.1; unfold yKr yKf at hkz; (repeat' split at g) <;> (repeat' split at hkz) <;> omega⟩⟩⟩
        · exact absurd h639 (by omega)
