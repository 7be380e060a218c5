/-! reads -/
abbrev pI0 (p : Int) : pSs := (0, [(0, 0, 1, 0, [])], [], p)
def RsX (M : cM) (s : Nat → Int) (n p : Int) : Prop := (∃ f, f ≠ 0 ∧ FlY M f ∧ pHf s n (pI0 p) f) ∨ (M 63 9 = 0 ∧ ∃ q c, LyA M s n q ∧ pHl s n (pI0 p) (0, q, c))
def RsM (M : cM) (s : Nat → Int) (n p : Int) : Prop := M 63 9 = 0 ∧ ∃ (k ph bg pr : Int) (os : List Int) (fs : List pF) (cs : List Int) (q : Int), QJ M ((k, ph, bg, pr, os) :: fs) 0 ∧ LyA M s n q ∧ (M 63 46 = 0 ∨ M 63 46 = 1) ∧ ∀ r, pHl s n (M 63 46, (k, ph, bg, pr, os) :: fs, cs, q) r → pHl s n (pI0 p) r
def RLq (M : cM) (s : Nat → Int) (n p m : Int) : Prop := (m = 1 ∧ RsM M s n p) ∨ (m = 0 ∧ RsX M s n p)
section RLQ
variable {M M1 M2 : cM} {s : Nat → Int} {n p m v : Int}
theorem RLq.more (h : RLq M s n p m) (hm : m ≠ 0) : RsM M s n p := by
  rcases h with h | h
  · exact h.2
  · exact absurd h.1 hm
theorem RLq.done (h : RLq M s n p m) (hm : m = 0) : RsX M s n p := by
  rcases h with h | h
  · omega
  · exact h.2
theorem QJ.nil (h42 : M 63 42 = 0) (h43 : M 63 43 = 0) (h45 : M 63 45 = 0) : QJ M [] 1 := ⟨by omega, by rw [h45]; rfl, h42, by rw [h43]; rfl⟩
theorem RLq.begin (h9 : M 63 9 = 0) (hq : QJ M [(0, 0, 1, 0, [])] 0) (hl : LyA M s n p) (h46 : M 63 46 = 0) : RLq M s n p 1 := Or.inl ⟨rfl, h9, 0, 0, 1, 0, [], [], [], p, hq, hl, Or.inl h46, fun r hr => by rw [h46] at hr; exact hr⟩
theorem StT.cons {r : pSs ⊕ pRs} {o : Int} {gs : List pF} {c : List Int} {q : Int} (h : QJ M gs 0) (hd : 1 ≤ M 63 42) : ∃ k ph bg pr os fs, gs = ((k, ph, bg, pr, os) :: fs : List pF) := by
  have := h.2.2.1
  cases gs with
  | nil =>
    rw [List.length_nil] at this
    omega
  | cons G fs => exact ⟨G.1, G.2.1, G.2.2.1, G.2.2.2.1, G.2.2.2.2, fs, rfl⟩
theorem RLq.op {gs : List pF} {cs : List Int} {q : Int} (hall : ∀ r, pHl s n (0, gs, cs, q) r → pHl s n (pI0 p) r) (hst : StT M1 s n (pSt s n (0, gs, cs, q)) v) (hv : v = 0 ∨ v = 1) (hd : 1 ≤ M1 63 42 ∨ M1 63 9 ≠ 0) (u : Up M1 63 46 v M2) (hm : (m = 1 ∧ M1 63 9 = 0) ∨ (m = 0 ∧ M1 63 9 ≠ 0)) : RLq M2 s n p m := by
  cases e : pSt s n (0, gs, cs, q) with
  | inl τ =>
    rw [e] at hst
    obtain ⟨h1, h2, h3, h4⟩ := hst
    obtain ⟨o, gs', cs', q'⟩ := τ
    dsimp only at *
    have hd' : 1 ≤ M1 63 42 := by omega
    obtain ⟨k, ph, bg, pr, os, fs, rfl⟩ := StT.cons (r := .inr (0, 0, [])) (o := 0) (c := []) (q := 0) h2 hd'
    refine Or.inl ⟨by omega, (u.2 63 9 (by omega)).trans h3, k, ph, bg, pr, os, fs, cs', q', h2.up u (by decide), h4.up u (by decide), by rw [u.1]; exact hv, fun r hr => ?_⟩
    rw [u.1, ← h1] at hr
    exact hall r (pHl.of (pGt.step e) hr)
  | inr r =>
    rw [e] at hst
    have h9 := hst.2.1
    refine Or.inr ⟨by omega, Or.inl ⟨r.1, hst.1, hst.2.up u (by decide), r.2.1, r.2.2, hall _ (pHl.step e)⟩⟩
theorem RLq.go {gs : List pF} {cs : List Int} {q : Int} (hall : ∀ r, pHl s n (1, gs, cs, q) r → pHl s n (pI0 p) r) (hst : StG M1 s n (pSt s n (1, gs, cs, q)) v) (h46 : M1 63 46 = 0 ∨ M1 63 46 = 1) (hd : 1 ≤ M1 63 42 ∨ M1 63 9 ≠ 0 ∨ v = 0) (hm : (m = 1 ∧ v = 1 ∧ M1 63 9 = 0) ∨ (m = 0 ∧ (v = 0 ∨ M1 63 9 ≠ 0))) : RLq M1 s n p m := by
  cases e : pSt s n (1, gs, cs, q) with
  | inl τ =>
    rw [e] at hst
    obtain ⟨h0, h1, h2, h3, h4⟩ := hst
    obtain ⟨o, gs', cs', q'⟩ := τ
    dsimp only at *
    have hd' : 1 ≤ M1 63 42 := by omega
    obtain ⟨k, ph, bg, pr, os, fs, rfl⟩ := StT.cons (r := .inr (0, 0, [])) (o := 0) (c := []) (q := 0) h2 hd'
    refine Or.inl ⟨by omega, h3, k, ph, bg, pr, os, fs, cs', q', h2, h4, h46, fun r hr => ?_⟩
    rw [h1] at hr
    exact hall r (pHl.of (pGt.step e) hr)
  | inr r =>
    rw [e] at hst
    obtain ⟨h0, h1 | h1⟩ := hst
    · exact Or.inr ⟨by omega, Or.inl ⟨r.1, h1.1, h1.2, r.2.1, r.2.2, hall _ (pHl.step e)⟩⟩
    · refine Or.inr ⟨by omega, Or.inr ⟨h1.2.1, r.2.1, r.2.2, h1.2.2, hall _ (pHl.step ?_)⟩⟩
      rw [e]
      congr 1
      exact Prod.ext h1.1 rfl
end RLQ
theorem OPd.dp {M M1 : cM} {c : Nat → Int} {a v : Int} (h : OPd M M1 c a v) : 1 ≤ M1 63 42 ∨ M1 63 9 ≠ 0 := by
  rcases h with z | ⟨_, z | z⟩
  · exact Or.inr (by omega)
  · exact Or.inl z.2.2.deep.1
  · exact Or.inl z.2.deep.1
theorem GOd.dp {M M1 : cM} {c : Nat → Int} {a v : Int} (h : GOd M M1 c a v) : 1 ≤ M1 63 42 ∨ M1 63 9 ≠ 0 ∨ v = 0 := by
  rcases h with z | z | ⟨_, _, z | z⟩
  · exact Or.inr (Or.inl (by omega))
  · exact Or.inr (Or.inr z.1)
  · exact Or.inl z.2.deep.1
  · exact Or.inl z.2.2.deep.1
def gS_198_l43 : List (Nat × Nat) := [(63, 10), (63, 13), (63, 3), (63, 35), (63, 4), (63, 42), (63, 43), (63, 45), (63, 46), (63, 5), (63, 6), (63, 7), (63, 8), (63, 9), (81, 99999), (82, 99999), (85, 99999), (86, 99999), (87, 99999), (88, 99999), (89, 99999), (90, 99999)]
def gS_198_m : List (Nat × Nat) := [(63, 10), (63, 13), (63, 3), (63, 35), (63, 4), (63, 42), (63, 43), (63, 45), (63, 46), (63, 5), (63, 6), (63, 7), (63, 8), (63, 9), (81, 99999), (82, 99999), (85, 99999), (86, 99999), (87, 99999), (88, 99999), (89, 99999), (90, 99999)]
theorem f_198 {xs : Nat → Int} {Ln d : Nat} {T : List cK} {M : cM} (hT : TT T) (hI : Rng M) {test : Int} (hX : LXp M) {s : Nat → Int} {n p : Int} (hn : n ≤ 1600) (hL : LyA M s n p) (h9 : M 63 9 = 0) (p0 : 0 ≤ test ∧ test ≤ 0) (p1 : M 63 35 ≤ M 63 4) : cC k_P xs Ln (d + 4) 198 [rf 63, (0, test)] (T, M) (qV T M gS_198_m (fun M1 => LXp M1 ∧ M 63 4 ≤ M1 63 4 ∧ M 63 9 ≤ M1 63 9 ∧ (RDd M M1 ∧ KP M M1) ∧ (RsX M1 s n p))) := by
  show cP k_P xs Ln (d + 4) 198 0 [(0, rf 63), (1, (0, test))] [] (T, M) _
  have hFm : Fr gS_198_m M M := Fr.refl
  have h639 := rg_63_9 hI
  have ⟨lx1, lx2⟩ := hX
  refine s_aload_n kx_198_0 rfl ?_
  refine r_getI (k := 63) (f := 9) kx_198_1 kp_198_39 (tk_63 hT) kf_12_9 (fun _ => rfl) (rg_63_9 hI) (fun v1 v1e v1a v1b => ?_)
  refine s_if_le (t := 8) kx_198_4 (by decide) (fun hc2 => ?_) (fun hc2 => ?_)
  · refine s_aload_n kx_198_8 rfl ?_
    refine s_iconst (v := 0) kx_198_9 (by decide) ?_
    refine r_put (k := 63) (f := 42) kx_198_10 kp_198_140 (tk_63 hT) kf_12_42 rfl (by decide) (by decide) hI (ru_63_42 (by omega) (by omega)) (fun M3 hI3 u3 => ?_)
    have hFm3 := hFm.up u3 rfl
    have tr4 := (u3.2 63 3 (by omega))
    have tr5 := (u3.2 63 4 (by omega))
    have tr6 := (u3.2 63 5 (by omega))
    have tr7 := (u3.2 63 9 (by omega))
    have tr8 := (u3.2 63 35 (by omega))
    refine s_aload_n kx_198_13 rfl ?_
    refine s_iconst (v := 0) kx_198_14 (by decide) ?_
    refine r_put (k := 63) (f := 43) kx_198_15 kp_198_143 (tk_63 hT) kf_12_43 rfl (by decide) (by decide) hI3 (ru_63_43 (by omega) (by omega)) (fun M9 hI9 u9 => ?_)
    have hFm9 := hFm3.up u9 rfl
    have tr10 := (u9.2 63 3 (by omega))
    have tr11 := (u9.2 63 4 (by omega))
    have tr12 := (u9.2 63 5 (by omega))
    have tr13 := (u9.2 63 9 (by omega))
    have tr14 := (u9.2 63 35 (by omega))
    refine s_aload_n kx_198_18 rfl ?_
    refine s_iconst (v := 0) kx_198_19 (by decide) ?_
    refine r_put (k := 63) (f := 45) kx_198_20 kp_198_149 (tk_63 hT) kf_12_45 rfl (by decide) (by decide) hI9 (ru_63_45 (by omega) (by omega)) (fun M15 hI15 u15 => ?_)
    have hFm15 := hFm9.up u15 rfl
    have tr16 := (u15.2 63 3 (by omega))
    have tr17 := (u15.2 63 4 (by omega))
    have tr18 := (u15.2 63 5 (by omega))
    have tr19 := (u15.2 63 9 (by omega))
    have tr20 := (u15.2 63 35 (by omega))
    refine s_aload_n kx_198_23 rfl ?_
    refine s_iconst (v := 0) kx_198_24 (by decide) ?_
    refine r_put (k := 63) (f := 46) kx_198_25 kp_198_152 (tk_63 hT) kf_12_46 rfl (by decide) (by decide) hI15 (ru_63_46 (by omega) (by omega)) (fun M21 hI21 u21 => ?_)
    have hFm21 := hFm15.up u21 rfl
    have tr22 := (u21.2 63 3 (by omega))
    have tr23 := (u21.2 63 4 (by omega))
    have tr24 := (u21.2 63 5 (by omega))
    have tr25 := (u21.2 63 9 (by omega))
    have tr26 := (u21.2 63 35 (by omega))
    refine s_aload_n kx_198_28 rfl ?_
    refine s_iload_n kx_198_29 rfl ?_
    refine s_if_eq (t := 37) kx_198_30 (by decide) (fun hc27 => ?_) (fun hc27 => absurd hc27 (by omega))
    refine s_iconst (v := 0) kx_198_37 (by decide) ?_
    have hk28 : M21 63 42 = 0 := ((u21.2 63 42 (by omega)).trans ((u15.2 63 42 (by omega)).trans ((u9.2 63 42 (by omega)).trans u3.1)))
    refine s_callV2 (k := 63) (s1 := 2) (s2 := 0) (as := [(0, 0)]) (rest := []) kx_198_38 kp_198_355 (Or.inl rfl) rfl (tk_63 hT) ki_193 kcl_193 rfl rfl (by decide) (m_193 (d := d + 3) (kind := 0) hT hI21 (by omega) (by omega)) (kV (fun M30 hI30 fr30 v29p => ?_))
    have hFm30 := hFm21.call fr30 rfl
    have tr31 := (fr30 63 3 rfl)
    have tr32 := (fr30 63 4 rfl)
    have tr33 := (fr30 63 5 rfl)
    have tr34 := (fr30 63 9 rfl)
    have tr35 := (fr30 63 35 rfl)
    have tr36 := rg_63_9 hI30
    have hPs := PI.start (c := M 81) (a := M 63 35) (q := M30 63 4) v29p fr30 ((u21.2 63 35 (by omega)).trans ((u15.2 63 35 (by omega)).trans ((u9.2 63 35 (by omega)).trans (u3.2 63 35 (by omega))))) ((u21.2 63 42 (by omega)).trans ((u15.2 63 42 (by omega)).trans ((u9.2 63 42 (by omega)).trans u3.1))) ((u21.2 63 43 (by omega)).trans ((u15.2 63 43 (by omega)).trans u9.1)) ((u21.2 63 45 (by omega)).trans u15.1) (by omega) (rg_63_35 hI21).1 (rg_63_36 hI21).1 (by omega) (fun k _ => ((u21.2 81 k (by omega)).trans ((u15.2 81 k (by omega)).trans ((u9.2 81 k (by omega)).trans (u3.2 81 k (by omega))))))
    have hq0 := QJ.push (QJ.nil ((u21.2 63 42 (by omega)).trans ((u15.2 63 42 (by omega)).trans ((u9.2 63 42 (by omega)).trans u3.1))) ((u21.2 63 43 (by omega)).trans ((u15.2 63 43 (by omega)).trans u9.1)) ((u21.2 63 45 (by omega)).trans u15.1)) fr30 v29p (Or.inr (Or.inr rfl))
    have hRq : RLq M30 s n p 1 := RLq.begin (by omega) hq0 (LyA.fr (LyA.up (LyA.up (LyA.up (LyA.up hL u3 (by decide)) u9 (by decide)) u15 (by decide)) u21 (by decide)) fr30 rfl) ((fr30 63 46 rfl).trans u21.1)
    refine s_iconst (v := 1) kx_198_41 (by decide) ?_
    refine s_istore_n kx_198_42 km_198_2 rfl ?_
    have key39 : ∀ n40 : Nat, ∀ (x2_37 : Int), ∀ M38 : cM, Rng M38 → Fr gS_198_m M M38 → Fr gS_198_l43 M30 M38 → (0 ≤ x2_37) → (x2_37 ≤ 1) → (LXp M38) → (KP M M38) → (M 63 4 ≤ M38 63 4) → (M 63 9 ≤ M38 63 9) → (RLp M M38 x2_37) → (RLq M38 s n p x2_37) → (2 * (1600 - M38 63 4) + x2_37).toNat < n40 → cP k_P xs Ln (d + 4) 198 43 [(0, rf 63), (2, (0, x2_37))] [] (T, M38) (qV T M gS_198_m (fun M1 => LXp M1 ∧ M 63 4 ≤ M1 63 4 ∧ M 63 9 ≤ M1 63 9 ∧ (RDd M M1 ∧ KP M M1) ∧ (RsX M1 s n p))) := by
      intro n40
      induction n40 with
      | zero => intro x2_37 M38 hI38 hFm38 fl38 i41 i42 i43 i44 i45 i46 i47 i48 hm49; exact absurd hm49 (Nat.not_lt_zero _)
      | succ n40 ih50 =>
        intro x2_37 M38 hI38 hFm38 fl38 i41 i42 i43 i44 i45 i46 i47 i48 hm49
        have tr51 := rg_63_9 hI38
        have tr52 := rg_63_4 hI38
        refine s_iload_n kx_198_43 rfl ?_
        refine s_if_eq (t := 90) kx_198_44 (by decide) (fun hc53 => ?_) (fun hc53 => ?_)
        · exact s_vret kx_198_90 kq_198 ⟨_, rfl, rfl, hI38, hFm38, ⟨i43, (by omega), (by omega), ⟨RLp.done i47 (by omega), i44⟩, (RLq.done i48 (by omega))⟩⟩
        · have hrl := RLp.more i47 (by omega)
          have h9z := hrl.1
          obtain ⟨h9q, k_, ph, bg, pr, os_, fs_, cs, q_, hqj, hlyq, h46q, hallq⟩ := RLq.more i48 (by omega)
          refine s_aload_n kx_198_47 rfl ?_
          refine r_getI (k := 63) (f := 46) kx_198_48 kp_198_152 (tk_63 hT) kf_12_46 (fun _ => rfl) (rg_63_46 hI38) (fun v54 v54e v54a v54b => ?_)
          refine s_if_ne (t := 65) kx_198_51 (by decide) (fun hc55 => ?_) (fun hc55 => ?_)
          · have hp1 := Or.resolve_left hrl.2 (fun z => absurd z.1 (by omega))
            have hall0 : ∀ r, pHl s n (1, (k_, ph, bg, pr, os_) :: fs_, cs, q_) r → pHl s n (pI0 p) r := fun r hr => hallq r (by rw [show M38 63 46 = 1 by omega]; exact hr)
            refine s_aload_n kx_198_65 rfl ?_
            refine s_callV2 (k := 63) (s1 := 1) (s2 := 0) (as := []) (rest := []) kx_198_66 kp_198_376 (Or.inl rfl) rfl (tk_63 hT) ki_197 kcl_197 rfl rfl (by decide) (f_197 (d := d + 1) hT hI38 i43 hn hlyq (by omega) hqj (cs := cs) (by omega) hp1.2.2 hp1.2.1 (by omega)) (kW (fun v56 M57 hI57 fr57 v56p => ?_))
            have hFm57 := hFm38.call fr57 rfl
            have hFl4357 := fl38.call fr57 rfl
            have tr58 := rg_63_9 hI57
            have hK59 := KP.trans i44 ((fl38 63 36 rfl).trans ((fr30 63 36 rfl).trans ((u21.2 63 36 (by omega)).trans ((u15.2 63 36 (by omega)).trans ((u9.2 63 36 (by omega)).trans (u3.2 63 36 (by omega))))))) v56p.2.2.2.2.2.1.2
            have hgo := RLp.go v56p.2.2.2.2.2.1.1 hp1.1 ((fr57 63 36 rfl).trans ((fl38 63 36 rfl).trans ((fr30 63 36 rfl).trans ((u21.2 63 36 (by omega)).trans ((u15.2 63 36 (by omega)).trans ((u9.2 63 36 (by omega)).trans (u3.2 63 36 (by omega))))))))
            have h46r := rg_63_46 hI57
            refine s_istore_n kx_198_69 km_198_2 rfl ?_
            refine s_iload_n kx_198_70 rfl ?_
            refine s_if_eq (t := 85) kx_198_71 (by decide) (fun hc60 => ?_) (fun hc60 => ?_)
            · refine s_iconst (v := 0) kx_198_85 (by decide) ?_
              refine s_istore_n kx_198_86 km_198_2 rfl ?_
              refine s_goto (t := 43) kx_198_87 (by decide) ?_
              exact cP.wk (lS1 rfl (lS1 rfl lS0)) (ih50 0 M57 hI57 hFm57 hFl4357 (by omega) (by omega) v56p.2.2.1 hK59 (by omega) (by omega) (by first | exact hgo.2.1 (by omega) | exact hgo.1 (by omega)) (RLq.go hall0 v56p.2.2.2.2.2.2 (by omega) (GOd.dp v56p.2.2.2.2.2.1.1) (by omega)) (by omega))
            · refine s_aload_n kx_198_74 rfl ?_
              refine r_getI (k := 63) (f := 9) kx_198_75 kp_198_39 (tk_63 hT) kf_12_9 (fun _ => rfl) (rg_63_9 hI57) (fun v61 v61e v61a v61b => ?_)
              refine s_if_ne (t := 85) kx_198_78 (by decide) (fun hc62 => ?_) (fun hc62 => ?_)
              · refine s_iconst (v := 0) kx_198_85 (by decide) ?_
                refine s_istore_n kx_198_86 km_198_2 rfl ?_
                refine s_goto (t := 43) kx_198_87 (by decide) ?_
                exact cP.wk (lS1 rfl (lS1 rfl lS0)) (ih50 0 M57 hI57 hFm57 hFl4357 (by omega) (by omega) v56p.2.2.1 hK59 (by omega) (by omega) (by first | exact hgo.2.1 (by omega) | exact hgo.1 (by omega)) (RLq.go hall0 v56p.2.2.2.2.2.2 (by omega) (GOd.dp v56p.2.2.2.2.2.1.1) (by omega)) (by omega))
              · have hgr := hgo.2.2 (by omega) (by omega) (by omega)
                have hpr := hgr.2
                refine s_iconst (v := 1) kx_198_81 (by decide) ?_
                refine s_goto (t := 86) kx_198_82 (by decide) ?_
                refine s_istore_n kx_198_86 km_198_2 rfl ?_
                refine s_goto (t := 43) kx_198_87 (by decide) ?_
                exact cP.wk (lS1 rfl (lS1 rfl lS0)) (ih50 1 M57 hI57 hFm57 hFl4357 (by omega) (by omega) v56p.2.2.1 hK59 (by omega) (by omega) hgr.1 (RLq.go hall0 v56p.2.2.2.2.2.2 (by omega) (GOd.dp v56p.2.2.2.2.2.1.1) (by omega)) (by omega))
          · have hp0 := (Or.resolve_right hrl.2 (fun z => absurd z.1 (by omega))).2
            have hall0 : ∀ r, pHl s n (0, (k_, ph, bg, pr, os_) :: fs_, cs, q_) r → pHl s n (pI0 p) r := fun r hr => hallq r (by rw [show M38 63 46 = 0 by omega]; exact hr)
            refine s_aload_n kx_198_54 rfl ?_
            refine s_aload_n kx_198_55 rfl ?_
            refine s_callV2 (k := 63) (s1 := 1) (s2 := 1) (as := []) (rest := [rf 63]) kx_198_56 kp_198_373 (Or.inl rfl) rfl (tk_63 hT) ki_196 kcl_196 rfl rfl (by decide) (f_196 (d := d) hT hI38 i43 hn hlyq (by omega) hqj (cs := cs) hp0 (by omega)) (kW (fun v63 M64 hI64 fr64 v63p => ?_))
            have hFm64 := hFm38.call fr64 rfl
            have hFl4364 := fl38.call fr64 rfl
            have tr65 := rg_63_9 hI64
            have hK66 := KP.trans i44 ((fl38 63 36 rfl).trans ((fr30 63 36 rfl).trans ((u21.2 63 36 (by omega)).trans ((u15.2 63 36 (by omega)).trans ((u9.2 63 36 (by omega)).trans (u3.2 63 36 (by omega))))))) v63p.2.2.2.2.2.1.2
            refine r_put (k := 63) (f := 46) kx_198_59 kp_198_152 (tk_63 hT) kf_12_46 (c_fitB (by omega)) (by decide) (by decide) hI64 (ru_63_46 (by omega) (by omega)) (fun M67 hI67 u67 => ?_)
            have hFm67 := hFm64.up u67 rfl
            have hFl4367 := hFl4364.up u67 rfl
            have tr68 := (u67.2 63 3 (by omega))
            have tr69 := (u67.2 63 4 (by omega))
            have tr70 := (u67.2 63 5 (by omega))
            have tr71 := (u67.2 63 9 (by omega))
            have tr72 := (u67.2 63 35 (by omega))
            refine s_goto (t := 70) kx_198_62 (by decide) ?_
            refine s_iload_n kx_198_70 rfl ?_
            refine s_if_eq (t := 85) kx_198_71 (by decide) (fun hc73 => absurd hc73 (by omega)) (fun hc73 => ?_)
            refine s_aload_n kx_198_74 rfl ?_
            refine r_getI (k := 63) (f := 9) kx_198_75 kp_198_39 (tk_63 hT) kf_12_9 (fun _ => rfl) (rg_63_9 hI67) (fun v74 v74e v74a v74b => ?_)
            refine s_if_ne (t := 85) kx_198_78 (by decide) (fun hc75 => ?_) (fun hc75 => ?_)
            · refine s_iconst (v := 0) kx_198_85 (by decide) ?_
              refine s_istore_n kx_198_86 km_198_2 rfl ?_
              refine s_goto (t := 43) kx_198_87 (by decide) ?_
              exact cP.wk (lS1 rfl (lS1 rfl lS0)) (ih50 0 M67 hI67 hFm67 hFl4367 (by omega) (by omega) (LXp.up v63p.2.2.1 u67 (by decide)) (KP.up hK66 u67 (by decide)) (by omega) (by omega) (Or.inl ⟨rfl, Or.inl (by omega)⟩) (RLq.op hall0 v63p.2.2.2.2.2.2 (by omega) (OPd.dp v63p.2.2.2.2.2.1.1) u67 (by omega)) (by omega))
            · have hpr := OPd.prog v63p.2.2.2.2.2.1.1 (by omega)
              refine s_iconst (v := 1) kx_198_81 (by decide) ?_
              refine s_goto (t := 86) kx_198_82 (by decide) ?_
              refine s_istore_n kx_198_86 km_198_2 rfl ?_
              refine s_goto (t := 43) kx_198_87 (by decide) ?_
              exact cP.wk (lS1 rfl (lS1 rfl lS0)) (ih50 1 M67 hI67 hFm67 hFl4367 (by omega) (by omega) (LXp.up v63p.2.2.1 u67 (by decide)) (KP.up hK66 u67 (by decide)) (by omega) (by omega) (RLp.op v63p.2.2.2.2.2.1.1 (by omega) (by omega) u67) (RLq.op hall0 v63p.2.2.2.2.2.2 (by omega) (OPd.dp v63p.2.2.2.2.2.1.1) u67 (by omega)) (by omega))
    exact cP.wk (lS1 rfl (lS1 rfl lS0)) (key39 _ 1 M30 hI30 hFm30 Fr.refl (by omega) (by omega) (LXp.fr (LXp.up (LXp.up (LXp.up (LXp.up hX u3 (by decide)) u9 (by decide)) u15 (by decide)) u21 (by decide)) fr30 rfl) (KP.fr (KP.up (KP.up (KP.up (KP.up (KP.refl (M := M)) u3 (by decide)) u9 (by decide)) u15 (by decide)) u21 (by decide)) fr30 (fun _ => rfl)) (by omega) (by omega) (Or.inr ⟨rfl, by omega, Or.inl ⟨((fr30 63 46 rfl).trans u21.1), hPs⟩⟩) hRq (Nat.lt_succ_self _))
  · exact absurd h639 (by omega)
