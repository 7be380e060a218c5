/-! reads -/
abbrev pI0 (p : Int) : pSs := (0, [(0, 0, 1, 0, [])], [], p)
def RsX (M : cM) (s : Nat → Int) (n p : Int) (Pc : List Int → Prop) : Prop := (∃ f, f ≠ 0 ∧ FlY M f ∧ pHf s n (pI0 p) f) ∨ (M 63 9 = 0 ∧ ∃ q c, LyA M s n q ∧ pHl s n (pI0 p) (0, q, c) ∧ Pc c)
def RsM (M : cM) (s : Nat → Int) (n p : Int) (a : pRa) : Prop := M 63 9 = 0 ∧ ∃ (k ph bg pr : Int) (os : List Int) (fs : List pF) (cs : List Int) (q : Int), QJ M ((k, ph, bg, pr, os) :: fs) 0 ∧ LyA M s n q ∧ (M 63 46 = 0 ∨ M 63 46 = 1) ∧ RCo M a cs ∧ ∀ r, pHl s n (M 63 46, (k, ph, bg, pr, os) :: fs, cs, q) r → pHl s n (pI0 p) r
def RLq (M : cM) (s : Nat → Int) (n p : Int) (a : pRa) (m : Int) : Prop := (m = 1 ∧ RsM M s n p a) ∨ (m = 0 ∧ RsX M s n p (RCo M a))
section RLQ
variable {M M1 M2 : cM} {s : Nat → Int} {n p m v : Int} {a : pRa}
theorem RLq.more (h : RLq M s n p a m) (hm : m ≠ 0) : RsM M s n p a := by
  rcases h with h | h
  · exact h.2
  · exact absurd h.1 hm
theorem RLq.done (h : RLq M s n p a m) (hm : m = 0) : RsX M s n p (RCo M a) := by
  rcases h with h | h
  · omega
  · exact h.2
theorem QJ.nil (h42 : M 63 42 = 0) (h43 : M 63 43 = 0) (h45 : M 63 45 = 0) : QJ M [] 1 := ⟨by omega, by rw [h45]; rfl, h42, by rw [h43]; rfl⟩
theorem RCo.nil {W : Nat → Int} {x : Int} (hW : ∀ k, M 82 k = W k) (hx : M 63 35 = x) (h0 : 0 ≤ M 63 36) (h1 : 0 ≤ x) : RCo M (W, x) [] := ⟨h1, h0, hx.trans (Int.add_zero _).symm, fun i hi => absurd hi (Nat.not_lt_zero _), fun k _ => hW k⟩
theorem RsX.mono {Pc Qc : List Int → Prop} (h : RsX M s n p Pc) (g : M 63 9 = 0 → ∀ c, Pc c → Qc c) : RsX M s n p Qc := by
  rcases h with h | ⟨h9, q, c, h1, h2, h3⟩
  · exact Or.inl h
  · exact Or.inr ⟨h9, q, c, h1, h2, g h9 c h3⟩
theorem RLq.begin (h9 : M 63 9 = 0) (hq : QJ M [(0, 0, 1, 0, [])] 0) (hl : LyA M s n p) (h46 : M 63 46 = 0) (hc : RCo M a []) : RLq M s n p a 1 := Or.inl ⟨rfl, h9, 0, 0, 1, 0, [], [], [], p, hq, hl, Or.inl h46, hc, fun r hr => by rw [h46] at hr; exact hr⟩
theorem StT.cons {r : pSs ⊕ pRs} {o : Int} {gs : List pF} {c : List Int} {q : Int} (h : QJ M gs 0) (hd : 1 ≤ M 63 42) : ∃ k ph bg pr os fs, gs = ((k, ph, bg, pr, os) :: fs : List pF) := by
  have := h.2.2.1
  cases gs with
  | nil =>
    rw [List.length_nil] at this
    omega
  | cons G fs => exact ⟨G.1, G.2.1, G.2.2.1, G.2.2.2.1, G.2.2.2.2, fs, rfl⟩
theorem RLq.op {gs : List pF} {cs : List Int} {q : Int} (hall : ∀ r, pHl s n (0, gs, cs, q) r → pHl s n (pI0 p) r) (hst : StT M1 s n a (pSt s n (0, gs, cs, q)) v) (hv : v = 0 ∨ v = 1) (hd : 1 ≤ M1 63 42 ∨ M1 63 9 ≠ 0) (u : Up M1 63 46 v M2) (hm : (m = 1 ∧ M1 63 9 = 0) ∨ (m = 0 ∧ M1 63 9 ≠ 0)) : RLq M2 s n p a m := by
  cases e : pSt s n (0, gs, cs, q) with
  | inl τ =>
    rw [e] at hst
    obtain ⟨h1, h2, h3, h4, h5⟩ := hst
    obtain ⟨o, gs', cs', q'⟩ := τ
    dsimp only at *
    have hd' : 1 ≤ M1 63 42 := by omega
    obtain ⟨k, ph, bg, pr, os, fs, rfl⟩ := StT.cons (r := .inr (0, 0, [])) (o := 0) (c := []) (q := 0) h2 hd'
    refine Or.inl ⟨by omega, (u.2 63 9 (by omega)).trans h3, k, ph, bg, pr, os, fs, cs', q', h2.up u (by decide), h4.up u (by decide), by rw [u.1]; exact hv, h5.up u (by decide), fun r hr => ?_⟩
    rw [u.1, ← h1] at hr
    exact hall r (pHl.of (pGt.step e) hr)
  | inr r =>
    rw [e] at hst
    have h9 := hst.2.1
    refine Or.inr ⟨by omega, Or.inl ⟨r.1, hst.1, hst.2.up u (by decide), r.2.1, r.2.2, hall _ (pHl.step e)⟩⟩
theorem RLq.go {gs : List pF} {cs : List Int} {q : Int} (hall : ∀ r, pHl s n (1, gs, cs, q) r → pHl s n (pI0 p) r) (hst : StG M1 s n a (pSt s n (1, gs, cs, q)) v) (h46 : M1 63 46 = 0 ∨ M1 63 46 = 1) (hd : 1 ≤ M1 63 42 ∨ M1 63 9 ≠ 0 ∨ v = 0) (hm : (m = 1 ∧ v = 1 ∧ M1 63 9 = 0) ∨ (m = 0 ∧ (v = 0 ∨ M1 63 9 ≠ 0))) : RLq M1 s n p a m := by
  cases e : pSt s n (1, gs, cs, q) with
  | inl τ =>
    rw [e] at hst
    obtain ⟨h0, h1, h2, h3, h4, h5⟩ := hst
    obtain ⟨o, gs', cs', q'⟩ := τ
    dsimp only at *
    have hd' : 1 ≤ M1 63 42 := by omega
    obtain ⟨k, ph, bg, pr, os, fs, rfl⟩ := StT.cons (r := .inr (0, 0, [])) (o := 0) (c := []) (q := 0) h2 hd'
    refine Or.inl ⟨by omega, h3, k, ph, bg, pr, os, fs, cs', q', h2, h4, h46, h5, fun r hr => ?_⟩
    rw [h1] at hr
    exact hall r (pHl.of (pGt.step e) hr)
  | inr r =>
    rw [e] at hst
    obtain ⟨h0, h1 | h1⟩ := hst
    · exact Or.inr ⟨by omega, Or.inl ⟨r.1, h1.1, h1.2, r.2.1, r.2.2, hall _ (pHl.step e)⟩⟩
    · refine Or.inr ⟨by omega, Or.inr ⟨h1.2.1, r.2.1, r.2.2, h1.2.2.1, hall _ (pHl.step ?_), h1.2.2.2⟩⟩
      rw [e]
      congr 1
      exact Prod.ext h1.1 rfl
end RLQ
theorem OPd.dp {M M1 : cM} {c : Nat → Int} {a v : Int} (h : OPd M M1 c a v) : 1 ≤ M1 63 42 ∨ M1 63 9 ≠ 0 := by
  rcases h with z | ⟨_, z | z⟩
  · exact Or.inr (by omega)
  · exact Or.inl z.2.2.deep.1
  · exact Or.inl z.2.deep.1
theorem GOd.dp {M M1 : cM} {c : Nat → Int} {a v : Int} (h : GOd M M1 c a v) : 1 ≤ M1 63 42 ∨ M1 63 9 ≠ 0 ∨ v = 0 := by
  rcases h with z | z | ⟨_, _, z | z⟩
  · exact Or.inr (Or.inl (by omega))
  · exact Or.inr (Or.inr z.1)
  · exact Or.inl z.2.deep.1
  · exact Or.inl z.2.2.deep.1
def gS_198_l43 : List (Nat × Nat) := [(63, 10), (63, 13), (63, 3), (63, 35), (63, 4), (63, 42), (63, 43), (63, 45), (63, 46), (63, 5), (63, 6), (63, 7), (63, 8), (63, 9), (81, 99999), (82, 99999), (85, 99999), (86, 99999), (87, 99999), (88, 99999), (89, 99999), (90, 99999)]
def gS_198_m : List (Nat × Nat) := [(63, 10), (63, 13), (63, 3), (63, 35), (63, 4), (63, 42), (63, 43), (63, 45), (63, 46), (63, 5), (63, 6), (63, 7), (63, 8), (63, 9), (81, 99999), (82, 99999), (85, 99999), (86, 99999), (87, 99999), (88, 99999), (89, 99999), (90, 99999)]
theorem f_198 {xs : Nat → Int} {Ln d : Nat} {T : List cK} {M : cM} (hT : TT T) (hI : Rng M) {test : Int} (hX : LXp M) {s : Nat → Int} {n p : Int} (hn : n ≤ 1600) (hL : LyA M s n p) (h9 : M 63 9 = 0) {bX : Int} {WX : cM} (hKX : KB bX WX M) (p0 : 0 ≤ test ∧ test ≤ 0) (p1 : M 63 35 ≤ M 63 4) : cC k_P xs Ln (d + 4) 198 [rf 63, (0, test)] (T, M) (qV T M gS_198_m (fun M1 => (LXp M1 ∧ M 63 4 ≤ M1 63 4 ∧ M 63 9 ≤ M1 63 9 ∧ (RDd M M1 ∧ KP M M1) ∧ (RsX M1 s n p (RCo M1 (M 82, M 63 35)))) ∧ KB bX WX M1)) := by
  show cP k_P xs Ln (d + 4) 198 0 [(0, rf 63), (1, (0, test))] [] (T, M) _
  have hFm : Fr gS_198_m M M := Fr.refl
  have h639 := rg_63_9 hI
  have ⟨lx1, lx2⟩ := hX
  have hkx1 := hKX.1
  have hkx2 := hKX.2.1
  have hkx3 := hKX.2.2.1
  refine s_aload_n kx_198_0 rfl ?_
  refine r_getI (k := 63) (f := 9) kx_198_1 kp_198_39 (tk_63 hT) kf_12_9 (fun _ => rfl) (rg_63_9 hI) (fun v1 v1e v1a v1b => ?_)
  refine s_if_le (t := 8) kx_198_4 (by decide) (fun hc2 => ?_) (fun hc2 => ?_)
  · refine s_aload_n kx_198_8 rfl ?_
    refine s_iconst (v := 0) kx_198_9 (by decide) ?_
    refine r_put (k := 63) (f := 42) kx_198_10 kp_198_140 (tk_63 hT) kf_12_42 rfl (by decide) (by decide) hI (ru_63_42 (by omega) (by omega)) (fun M3 hI3 u3 => ?_)
    have hFm3 := hFm.up u3 rfl
    have tr4 := (u3.2 63 3 (by omega))
    have tr5 := (u3.2 63 4 (by omega))
    have tr6 := (u3.2 63 5 (by omega))
    have tr7 := (u3.2 63 9 (by omega))
    have tr8 := (u3.2 63 35 (by omega))
    have tr9 := (u3.2 63 36 (by omega))
    have hkx10 := (KB.up0 hKX u3 (by decide))
    refine s_aload_n kx_198_13 rfl ?_
    refine s_iconst (v := 0) kx_198_14 (by decide) ?_
    refine r_put (k := 63) (f := 43) kx_198_15 kp_198_143 (tk_63 hT) kf_12_43 rfl (by decide) (by decide) hI3 (ru_63_43 (by omega) (by omega)) (fun M11 hI11 u11 => ?_)
    have hFm11 := hFm3.up u11 rfl
    have tr12 := (u11.2 63 3 (by omega))
    have tr13 := (u11.2 63 4 (by omega))
    have tr14 := (u11.2 63 5 (by omega))
    have tr15 := (u11.2 63 9 (by omega))
    have tr16 := (u11.2 63 35 (by omega))
    have tr17 := (u11.2 63 36 (by omega))
    have hkx18 := (KB.up0 hkx10 u11 (by decide))
    refine s_aload_n kx_198_18 rfl ?_
    refine s_iconst (v := 0) kx_198_19 (by decide) ?_
    refine r_put (k := 63) (f := 45) kx_198_20 kp_198_149 (tk_63 hT) kf_12_45 rfl (by decide) (by decide) hI11 (ru_63_45 (by omega) (by omega)) (fun M19 hI19 u19 => ?_)
    have hFm19 := hFm11.up u19 rfl
    have tr20 := (u19.2 63 3 (by omega))
    have tr21 := (u19.2 63 4 (by omega))
    have tr22 := (u19.2 63 5 (by omega))
    have tr23 := (u19.2 63 9 (by omega))
    have tr24 := (u19.2 63 35 (by omega))
    have tr25 := (u19.2 63 36 (by omega))
    have hkx26 := (KB.up0 hkx18 u19 (by decide))
    refine s_aload_n kx_198_23 rfl ?_
    refine s_iconst (v := 0) kx_198_24 (by decide) ?_
    refine r_put (k := 63) (f := 46) kx_198_25 kp_198_152 (tk_63 hT) kf_12_46 rfl (by decide) (by decide) hI19 (ru_63_46 (by omega) (by omega)) (fun M27 hI27 u27 => ?_)
    have hFm27 := hFm19.up u27 rfl
    have tr28 := (u27.2 63 3 (by omega))
    have tr29 := (u27.2 63 4 (by omega))
    have tr30 := (u27.2 63 5 (by omega))
    have tr31 := (u27.2 63 9 (by omega))
    have tr32 := (u27.2 63 35 (by omega))
    have tr33 := (u27.2 63 36 (by omega))
    have hkx34 := (KB.up0 hkx26 u27 (by decide))
    refine s_aload_n kx_198_28 rfl ?_
    refine s_iload_n kx_198_29 rfl ?_
    refine s_if_eq (t := 37) kx_198_30 (by decide) (fun hc35 => ?_) (fun hc35 => absurd hc35 (by omega))
    refine s_iconst (v := 0) kx_198_37 (by decide) ?_
    have hk36 : M27 63 42 = 0 := ((u27.2 63 42 (by omega)).trans ((u19.2 63 42 (by omega)).trans ((u11.2 63 42 (by omega)).trans u3.1)))
    refine s_callV2 (k := 63) (s1 := 2) (s2 := 0) (as := [(0, 0)]) (rest := []) kx_198_38 kp_198_355 (Or.inl rfl) rfl (tk_63 hT) ki_193 kcl_193 rfl rfl (by decide) (m_193 (d := d + 3) (kind := 0) hT hI27 (by omega) (by omega)) (kV (fun M38 hI38 fr38 v37p => ?_))
    have hFm38 := hFm27.call fr38 rfl
    have tr39 := (fr38 63 3 rfl)
    have tr40 := (fr38 63 4 rfl)
    have tr41 := (fr38 63 5 rfl)
    have tr42 := (fr38 63 9 rfl)
    have tr43 := (fr38 63 35 rfl)
    have tr44 := (fr38 63 36 rfl)
    have tr45 := rg_63_9 hI38
    have hPs := PI.start (c := M 81) (a := M 63 35) (q := M38 63 4) v37p fr38 ((u27.2 63 35 (by omega)).trans ((u19.2 63 35 (by omega)).trans ((u11.2 63 35 (by omega)).trans (u3.2 63 35 (by omega))))) ((u27.2 63 42 (by omega)).trans ((u19.2 63 42 (by omega)).trans ((u11.2 63 42 (by omega)).trans u3.1))) ((u27.2 63 43 (by omega)).trans ((u19.2 63 43 (by omega)).trans u11.1)) ((u27.2 63 45 (by omega)).trans u19.1) (by omega) (rg_63_35 hI27).1 (rg_63_36 hI27).1 (by omega) (fun k _ => ((u27.2 81 k (by omega)).trans ((u19.2 81 k (by omega)).trans ((u11.2 81 k (by omega)).trans (u3.2 81 k (by omega))))))
    have hq0 := QJ.push (QJ.nil ((u27.2 63 42 (by omega)).trans ((u19.2 63 42 (by omega)).trans ((u11.2 63 42 (by omega)).trans u3.1))) ((u27.2 63 43 (by omega)).trans ((u19.2 63 43 (by omega)).trans u11.1)) ((u27.2 63 45 (by omega)).trans u19.1)) fr38 v37p (Or.inr (Or.inr rfl))
    have hRq : RLq M38 s n p (M 82, M 63 35) 1 := RLq.begin (by omega) hq0 (LyA.fr (LyA.up (LyA.up (LyA.up (LyA.up hL u3 (by decide)) u11 (by decide)) u19 (by decide)) u27 (by decide)) fr38 rfl) ((fr38 63 46 rfl).trans u27.1) (RCo.nil (W := M 82) (x := M 63 35) (fun k => ((fr38 82 k rfl).trans ((u27.2 82 k (by omega)).trans ((u19.2 82 k (by omega)).trans ((u11.2 82 k (by omega)).trans (u3.2 82 k (by omega))))))) (((fr38 63 35 rfl).trans ((u27.2 63 35 (by omega)).trans ((u19.2 63 35 (by omega)).trans ((u11.2 63 35 (by omega)).trans (u3.2 63 35 (by omega))))))) (rg_63_36 hI38).1 (rg_63_35 hI).1)
    refine s_iconst (v := 1) kx_198_41 (by decide) ?_
    refine s_istore_n kx_198_42 km_198_2 rfl ?_
    have key48 : ∀ n49 : Nat, ∀ (x2_46 : Int), ∀ M47 : cM, Rng M47 → Fr gS_198_m M M47 → Fr gS_198_l43 M38 M47 → (0 ≤ x2_46) → (x2_46 ≤ 1) → (KB bX WX M47) → (LXp M47) → (KP M M47) → (M 63 4 ≤ M47 63 4) → (M 63 9 ≤ M47 63 9) → (RLp M M47 x2_46) → (RLq M47 s n p (M 82, M 63 35) x2_46) → (2 * (1600 - M47 63 4) + x2_46).toNat < n49 → cP k_P xs Ln (d + 4) 198 43 [(0, rf 63), (2, (0, x2_46))] [] (T, M47) (qV T M gS_198_m (fun M1 => (LXp M1 ∧ M 63 4 ≤ M1 63 4 ∧ M 63 9 ≤ M1 63 9 ∧ (RDd M M1 ∧ KP M M1) ∧ (RsX M1 s n p (RCo M1 (M 82, M 63 35)))) ∧ KB bX WX M1)) := by
      intro n49
      induction n49 with
      | zero => intro x2_46 M47 hI47 hFm47 fl47 i50 i51 i52 i53 i54 i55 i56 i57 i58 hm59; exact absurd hm59 (Nat.not_lt_zero _)
      | succ n49 ih60 =>
        intro x2_46 M47 hI47 hFm47 fl47 i50 i51 i52 i53 i54 i55 i56 i57 i58 hm59
        have tr61 := rg_63_9 hI47
        have tr62 := rg_63_4 hI47
        refine s_iload_n kx_198_43 rfl ?_
        refine s_if_eq (t := 90) kx_198_44 (by decide) (fun hc63 => ?_) (fun hc63 => ?_)
        · exact s_vret kx_198_90 kq_198 ⟨_, rfl, rfl, hI47, hFm47, ⟨⟨i53, (by omega), (by omega), ⟨RLp.done i57 (by omega), i54⟩, (RLq.done i58 (by omega))⟩, i52⟩⟩
        · have hrl := RLp.more i57 (by omega)
          have h9z := hrl.1
          obtain ⟨h9q, k_, ph, bg, pr, os_, fs_, cs, q_, hqj, hlyq, h46q, hrcq, hallq⟩ := RLq.more i58 (by omega)
          refine s_aload_n kx_198_47 rfl ?_
          refine r_getI (k := 63) (f := 46) kx_198_48 kp_198_152 (tk_63 hT) kf_12_46 (fun _ => rfl) (rg_63_46 hI47) (fun v64 v64e v64a v64b => ?_)
          refine s_if_ne (t := 65) kx_198_51 (by decide) (fun hc65 => ?_) (fun hc65 => ?_)
          · have hp1 := Or.resolve_left hrl.2 (fun z => absurd z.1 (by omega))
            have hall0 : ∀ r, pHl s n (1, (k_, ph, bg, pr, os_) :: fs_, cs, q_) r → pHl s n (pI0 p) r := fun r hr => hallq r (by rw [show M47 63 46 = 1 by omega]; exact hr)
            refine s_aload_n kx_198_65 rfl ?_
            refine s_callV2 (k := 63) (s1 := 1) (s2 := 0) (as := []) (rest := []) kx_198_66 kp_198_376 (Or.inl rfl) rfl (tk_63 hT) ki_197 kcl_197 rfl rfl (by decide) (f_197 (d := d + 1) hT hI47 i53 hn hlyq (by omega) hqj (cs := cs) hrcq (by omega) hp1.2.2 hp1.2.1  i52 (by omega)) (kW (fun v66 M67 hI67 fr67 v66p => ?_))
            have hFm67 := hFm47.call fr67 rfl
            have hFl4367 := fl47.call fr67 rfl
            have tr68 := (fr67 63 36 rfl)
            have tr69 := rg_63_9 hI67
            have v66pk := v66p.2
            (replace v66p := v66p.1)
            have hK70 := KP.trans i54 ((fl47 63 36 rfl).trans ((fr38 63 36 rfl).trans ((u27.2 63 36 (by omega)).trans ((u19.2 63 36 (by omega)).trans ((u11.2 63 36 (by omega)).trans (u3.2 63 36 (by omega))))))) v66p.2.2.2.2.2.1.2
            have hgo := RLp.go v66p.2.2.2.2.2.1.1 hp1.1 ((fr67 63 36 rfl).trans ((fl47 63 36 rfl).trans ((fr38 63 36 rfl).trans ((u27.2 63 36 (by omega)).trans ((u19.2 63 36 (by omega)).trans ((u11.2 63 36 (by omega)).trans (u3.2 63 36 (by omega))))))))
            have h46r := rg_63_46 hI67
            refine s_istore_n kx_198_69 km_198_2 rfl ?_
            refine s_iload_n kx_198_70 rfl ?_
            refine s_if_eq (t := 85) kx_198_71 (by decide) (fun hc71 => ?_) (fun hc71 => ?_)
            · refine s_iconst (v := 0) kx_198_85 (by decide) ?_
              refine s_istore_n kx_198_86 km_198_2 rfl ?_
              refine s_goto (t := 43) kx_198_87 (by decide) ?_
              exact cP.wk (lS1 rfl (lS1 rfl lS0)) (ih60 0 M67 hI67 hFm67 hFl4367 (by omega) (by omega) v66pk v66p.2.2.1 hK70 (by omega) (by omega) (by first | exact hgo.2.1 (by omega) | exact hgo.1 (by omega)) (RLq.go hall0 v66p.2.2.2.2.2.2 (by omega) (GOd.dp v66p.2.2.2.2.2.1.1) (by omega)) (by omega))
            · refine s_aload_n kx_198_74 rfl ?_
              refine r_getI (k := 63) (f := 9) kx_198_75 kp_198_39 (tk_63 hT) kf_12_9 (fun _ => rfl) (rg_63_9 hI67) (fun v72 v72e v72a v72b => ?_)
              refine s_if_ne (t := 85) kx_198_78 (by decide) (fun hc73 => ?_) (fun hc73 => ?_)
              · refine s_iconst (v := 0) kx_198_85 (by decide) ?_
                refine s_istore_n kx_198_86 km_198_2 rfl ?_
                refine s_goto (t := 43) kx_198_87 (by decide) ?_
                exact cP.wk (lS1 rfl (lS1 rfl lS0)) (ih60 0 M67 hI67 hFm67 hFl4367 (by omega) (by omega) v66pk v66p.2.2.1 hK70 (by omega) (by omega) (by first | exact hgo.2.1 (by omega) | exact hgo.1 (by omega)) (RLq.go hall0 v66p.2.2.2.2.2.2 (by omega) (GOd.dp v66p.2.2.2.2.2.1.1) (by omega)) (by omega))
              · have hgr := hgo.2.2 (by omega) (by omega) (by omega)
                have hpr := hgr.2
                refine s_iconst (v := 1) kx_198_81 (by decide) ?_
                refine s_goto (t := 86) kx_198_82 (by decide) ?_
                refine s_istore_n kx_198_86 km_198_2 rfl ?_
                refine s_goto (t := 43) kx_198_87 (by decide) ?_
                exact cP.wk (lS1 rfl (lS1 rfl lS0)) (ih60 1 M67 hI67 hFm67 hFl4367 (by omega) (by omega) v66pk v66p.2.2.1 hK70 (by omega) (by omega) hgr.1 (RLq.go hall0 v66p.2.2.2.2.2.2 (by omega) (GOd.dp v66p.2.2.2.2.2.1.1) (by omega)) (by omega))
          · have hp0 := (Or.resolve_right hrl.2 (fun z => absurd z.1 (by omega))).2
            have hall0 : ∀ r, pHl s n (0, (k_, ph, bg, pr, os_) :: fs_, cs, q_) r → pHl s n (pI0 p) r := fun r hr => hallq r (by rw [show M47 63 46 = 0 by omega]; exact hr)
            refine s_aload_n kx_198_54 rfl ?_
            refine s_aload_n kx_198_55 rfl ?_
            refine s_callV2 (k := 63) (s1 := 1) (s2 := 1) (as := []) (rest := [rf 63]) kx_198_56 kp_198_373 (Or.inl rfl) rfl (tk_63 hT) ki_196 kcl_196 rfl rfl (by decide) (f_196 (d := d) hT hI47 i53 hn hlyq (by omega) hqj (cs := cs) hrcq hp0  i52 (by omega)) (kW (fun v74 M75 hI75 fr75 v74p => ?_))
            have hFm75 := hFm47.call fr75 rfl
            have hFl4375 := fl47.call fr75 rfl
            have tr76 := (fr75 63 36 rfl)
            have tr77 := rg_63_9 hI75
            have v74pk := v74p.2
            (replace v74p := v74p.1)
            have hK78 := KP.trans i54 ((fl47 63 36 rfl).trans ((fr38 63 36 rfl).trans ((u27.2 63 36 (by omega)).trans ((u19.2 63 36 (by omega)).trans ((u11.2 63 36 (by omega)).trans (u3.2 63 36 (by omega))))))) v74p.2.2.2.2.2.1.2
            refine r_put (k := 63) (f := 46) kx_198_59 kp_198_152 (tk_63 hT) kf_12_46 (c_fitB (by omega)) (by decide) (by decide) hI75 (ru_63_46 (by omega) (by omega)) (fun M79 hI79 u79 => ?_)
            have hFm79 := hFm75.up u79 rfl
            have hFl4379 := hFl4375.up u79 rfl
            have tr80 := (u79.2 63 3 (by omega))
            have tr81 := (u79.2 63 4 (by omega))
            have tr82 := (u79.2 63 5 (by omega))
            have tr83 := (u79.2 63 9 (by omega))
            have tr84 := (u79.2 63 35 (by omega))
            have tr85 := (u79.2 63 36 (by omega))
            have hkx86 := (KB.up0 v74pk u79 (by decide))
            refine s_goto (t := 70) kx_198_62 (by decide) ?_
            refine s_iload_n kx_198_70 rfl ?_
            refine s_if_eq (t := 85) kx_198_71 (by decide) (fun hc87 => absurd hc87 (by omega)) (fun hc87 => ?_)
            refine s_aload_n kx_198_74 rfl ?_
            refine r_getI (k := 63) (f := 9) kx_198_75 kp_198_39 (tk_63 hT) kf_12_9 (fun _ => rfl) (rg_63_9 hI79) (fun v88 v88e v88a v88b => ?_)
            refine s_if_ne (t := 85) kx_198_78 (by decide) (fun hc89 => ?_) (fun hc89 => ?_)
            · refine s_iconst (v := 0) kx_198_85 (by decide) ?_
              refine s_istore_n kx_198_86 km_198_2 rfl ?_
              refine s_goto (t := 43) kx_198_87 (by decide) ?_
              exact cP.wk (lS1 rfl (lS1 rfl lS0)) (ih60 0 M79 hI79 hFm79 hFl4379 (by omega) (by omega) hkx86 (LXp.up v74p.2.2.1 u79 (by decide)) (KP.up hK78 u79 (by decide)) (by omega) (by omega) (Or.inl ⟨rfl, Or.inl (by omega)⟩) (RLq.op hall0 v74p.2.2.2.2.2.2 (by omega) (OPd.dp v74p.2.2.2.2.2.1.1) u79 (by omega)) (by omega))
            · have hpr := OPd.prog v74p.2.2.2.2.2.1.1 (by omega)
              refine s_iconst (v := 1) kx_198_81 (by decide) ?_
              refine s_goto (t := 86) kx_198_82 (by decide) ?_
              refine s_istore_n kx_198_86 km_198_2 rfl ?_
              refine s_goto (t := 43) kx_198_87 (by decide) ?_
              exact cP.wk (lS1 rfl (lS1 rfl lS0)) (ih60 1 M79 hI79 hFm79 hFl4379 (by omega) (by omega) hkx86 (LXp.up v74p.2.2.1 u79 (by decide)) (KP.up hK78 u79 (by decide)) (by omega) (by omega) (RLp.op v74p.2.2.2.2.2.1.1 (by omega) (by omega) u79) (RLq.op hall0 v74p.2.2.2.2.2.2 (by omega) (OPd.dp v74p.2.2.2.2.2.1.1) u79 (by omega)) (by omega))
    exact cP.wk (lS1 rfl (lS1 rfl lS0)) (key48 _ 1 M38 hI38 hFm38 Fr.refl (by omega) (by omega) (KB.fr hkx34 fr38 rfl) (LXp.fr (LXp.up (LXp.up (LXp.up (LXp.up hX u3 (by decide)) u11 (by decide)) u19 (by decide)) u27 (by decide)) fr38 rfl) (KP.fr (KP.up (KP.up (KP.up (KP.up (KP.refl (M := M)) u3 (by decide)) u11 (by decide)) u19 (by decide)) u27 (by decide)) fr38 (fun _ => rfl)) (by omega) (by omega) (Or.inr ⟨rfl, by omega, Or.inl ⟨((fr38 63 46 rfl).trans u27.1), hPs⟩⟩) hRq (Nat.lt_succ_self _))
  · exact absurd h639 (by omega)
