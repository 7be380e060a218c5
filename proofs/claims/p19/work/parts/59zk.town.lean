/-! towns told: the scene behind them; two contracts of one call -/
theorem c_det {P : xP} {xs : Nat → Int} {Ln d m pc n k : Nat} {L : List (Nat × cV)} {st : List cV} {h : cH} {r r' : Option cV × cH} (a : c_exec P xs Ln n d m pc L st h = some r) (b : c_exec P xs Ln k d m pc L st h = some r') : r = r' := by
  have a2 := c_mono (show n ≤ n + k by omega) (Nat.le_refl d) a
  have b2 := c_mono (show k ≤ n + k by omega) (Nat.le_refl d) b
  rw [a2] at b2
  exact Option.some.inj b2
theorem qG_and {P : xP} {xs : Nat → Int} {Ln d m tg : Nat} {as : List cV} {T : List cK} {M : cM} {F F' : List (Nat × Nat)} {p p' : Int → cM → Prop} (a : cC P xs Ln d m as (T, M) (qG T M F tg p)) (b : cC P xs Ln d m as (T, M) (qG T M F' tg p')) : cC P xs Ln d m as (T, M) (qG T M F tg (fun v M1 => p v M1 ∧ p' v M1)) := by
  obtain ⟨r, h, ⟨n, e⟩, v, T1, M1, hr, hh, c1, c2, c3, c4, c5⟩ := a
  obtain ⟨r', h', ⟨k, e'⟩, v', T1', M1', hr', hh', d1, d2, d3, d4, d5⟩ := b
  have hd := c_det e e'
  obtain ⟨rfl, rfl⟩ := Prod.mk.inj hd
  rw [hr] at hr'
  rw [hh] at hh'
  obtain ⟨_, hv⟩ := Prod.mk.inj (Option.some.inj hr')
  obtain ⟨_, hM⟩ := Prod.mk.inj hh'
  subst hv hM
  exact ⟨r, h, ⟨n, e⟩, v, T1, M1, hr, hh, c1, c2, c3, c4, c5, d5⟩
theorem qW_and {P : xP} {xs : Nat → Int} {Ln d m tg : Nat} {as : List cV} {T : List cK} {M : cM} {F F' : List (Nat × Nat)} {p p' : Int → cM → Prop} (a : cC P xs Ln d m as (T, M) (qW T M F tg p)) (b : cC P xs Ln d m as (T, M) (qW T M F' tg p')) : cC P xs Ln d m as (T, M) (qW T M F tg (fun v M1 => p v M1 ∧ p' v M1)) := by
  obtain ⟨r, h, ⟨n, e⟩, v, M1, hr, hh, c2, c3, c5⟩ := a
  obtain ⟨r', h', ⟨k, e'⟩, v', M1', hr', hh', d2, d3, d5⟩ := b
  have hd := c_det e e'
  obtain ⟨rfl, rfl⟩ := Prod.mk.inj hd
  rw [hr] at hr'
  rw [hh] at hh'
  obtain ⟨_, hv⟩ := Prod.mk.inj (Option.some.inj hr')
  obtain ⟨_, hM⟩ := Prod.mk.inj hh'
  subst hv hM
  exact ⟨r, h, ⟨n, e⟩, v, M1, hr, hh, c2, c3, c5, d5⟩
/-- the class's draft is taken: all at home -/
def TDr (M0 : cM) (t : Nat) (x : Int) (M : cM) : Prop := ∀ p : Nat, p < 8 → ((p : Int) < x → M 42 p = M0 (t + 10) p ∧ M 42 (8 + p) = M0 (t + 10) p) ∧ M 42 (16 + p) = 0 ∧ M 42 (24 + p) = 0 ∧ M 42 40 = 0
def TRr (M0 : cM) (x : Int) (M : cM) : Prop := ∀ q : Nat, (q : Int) < x → M 92 q = M0 73 (8 * M0 63 14 + (q : Int)).toNat ∧ M 93 q = M0 73 (8 * M0 63 14 + (q : Int)).toNat ∧ M 94 q = 0 ∧ M 95 q = 0
section TDR
variable {M0 M M1 M2 M3 : cM} {t f g : Nat} {x a b : Int}
theorem TDr.nx (h : TDr M0 t x M) (h0 : 0 ≤ x ∧ x < 8) (u1 : Up M 42 f a M1) (u2 : Up M1 42 g b M2) (hf : f = x.toNat) (hg : g = 8 + x.toNat) (ha : M0 (t + 10) x.toNat = a) (hb : M0 (t + 10) x.toNat = b) : TDr M0 t (x + 1) M2 := by
  subst hf hg
  intro p hp
  have h1 := h p hp
  refine ⟨fun hx => ?_, ?_⟩
  · by_cases e : p = x.toNat
    · subst e
      exact ⟨(u2.2 42 _ (by omega)).trans (u1.1.trans ha.symm), u2.1.trans hb.symm⟩
    · rw [u2.2 42 _ (by omega), u1.2 42 _ (by omega), u2.2 42 _ (by omega), u1.2 42 _ (by omega)]
      exact h1.1 (by omega)
  · rw [u2.2 42 (16 + p) (by omega), u1.2 42 (16 + p) (by omega), u2.2 42 (24 + p) (by omega), u1.2 42 (24 + p) (by omega), u2.2 42 40 (by omega), u1.2 42 40 (by omega)]
    exact h1.2
theorem TDr.of (h : TDr M0 t x M) {y : Int} (e : ∀ q : Nat, M1 42 q = M 42 q) (e0 : ∀ q : Nat, M1 (t + 10) q = M0 (t + 10) q) (hx : y = x) : TDr M1 t y M1 := by
  subst hx
  intro p hp
  rw [e, e, e, e, e, e0]
  exact h p hp
theorem TRr.nx (h : TRr M0 x M) (h0 : 0 ≤ x) (e1 : M1 92 x.toNat = M0 73 (8 * M0 63 14 + x).toNat) (e2 : M1 93 x.toNat = M0 73 (8 * M0 63 14 + x).toNat) (e3 : M1 94 x.toNat = 0) (e5 : M1 95 x.toNat = 0) (o : ∀ c, c = 92 ∨ c = 93 ∨ c = 94 ∨ c = 95 → ∀ f, f ≠ x.toNat → M1 c f = M c f) : TRr M0 (x + 1) M1 := by
  intro q hq
  by_cases e : (q : Int) = x
  · have e4 : q = x.toNat := by omega
    rw [e, e4]
    exact ⟨e1, e2, e3, e5⟩
  · rw [o 92 (by decide) q (by omega), o 93 (by decide) q (by omega), o 94 (by decide) q (by omega), o 95 (by decide) q (by omega)]
    exact h q (by omega)
theorem TRr.of (h : TRr M0 x M) (e : ∀ c, c = 92 ∨ c = 93 ∨ c = 94 ∨ c = 95 → ∀ f, M1 c f = M c f) (e1 : ∀ f, M1 73 f = M0 73 f) (e2 : M1 63 14 = M0 63 14) : TRr M1 x M1 := by
  intro q hq
  rw [e 92 (by decide) q, e 93 (by decide) q, e 94 (by decide) q, e 95 (by decide) q, e1, e2]
  exact h q hq
theorem TRr.keep (h : TRr M0 x M) (e : ∀ c, c = 92 ∨ c = 93 ∨ c = 94 ∨ c = 95 → ∀ f, M1 c f = M c f) : TRr M0 x M1 := by
  intro q hq
  rw [e 92 (by decide) q, e 93 (by decide) q, e 94 (by decide) q, e 95 (by decide) q]
  exact h q hq
end TDR
/-- the scene, the same on both sides -/
def SCN (t : Nat) (M : cM) : Prop := ∃ (D S : cM) (H : Nat → cM) (c : Int), CR D S t M ∧ RR D S M ∧ CH D H c M ∧ RH D H c M
def scf (F : List (Nat × Nat)) : Bool := crf F && rrf F && chf F && rhf F
theorem SCN.fr {F : List (Nat × Nat)} {t : Nat} {M M1 : cM} (h : SCN t M) (g : Fr F M M1) (ht : t = 8 ∨ t = 25) (hs : scf F = true) : SCN t M1 := by
  unfold scf at hs
  rw [Bool.and_eq_true, Bool.and_eq_true, Bool.and_eq_true] at hs
  obtain ⟨D, S, H, c, a1, a2, a3, a4⟩ := h
  exact ⟨D, S, H, c, a1.fr g ht hs.1.1.1, a2.fr g hs.1.1.2, a3.fr g hs.1.2, a4.fr a1.2.1.1 g hs.2⟩
/-- an act on both sides -/
theorem act_fin {X Y X' Y' : Prop} {D S S' : cM} {H H' : Nat → cM} {c c' : Int} {t : Nat} {M1 M2 : cM} {F : List (Nat × Nat)} (ht : t = 8 ∨ t = 25) (p : (X ∧ CR D S t M1 ∧ CH D H c M1) ∨ (Y ∧ CR D S' t M1 ∧ CH D H' c' M1)) (g : Fr F M1 M2) (hf : (crf F && chf F) = true) (q : (X' ∧ RR D S M2 ∧ RH D H c M2) ∨ (Y' ∧ RR D S' M2 ∧ RH D H' c' M2)) (h1 : X → Y' → False) (h2 : Y → X' → False) : ((X ∧ X') ∨ (Y ∧ Y')) ∧ SCN t M2 := by
  rw [Bool.and_eq_true] at hf
  rcases p with ⟨a, b, e⟩ | ⟨a, b, e⟩ <;> rcases q with ⟨a', b', e'⟩ | ⟨a', b', e'⟩
  · exact ⟨Or.inl ⟨a, a'⟩, D, S, H, c, b.fr g ht hf.1, b', e.fr g hf.2, e'⟩
  · exact (h1 a a').elim
  · exact (h2 a a').elim
  · exact ⟨Or.inr ⟨a, a'⟩, D, S', H', c', b.fr g ht hf.1, b', e.fr g hf.2, e'⟩
theorem act_r {D S : cM} {H : Nat → cM} {c : Int} {M M1 : cM} {F : List (Nat × Nat)} (h : RR D S M ∧ RH D H c M) (g : Fr F M M1) (hf : (rrf F && rhf F) = true) : RR D S M1 ∧ RH D H c M1 := by
  rw [Bool.and_eq_true] at hf
  exact ⟨h.1.fr g hf.1, h.2.fr h.1.2.1.1 g hf.2⟩
/-- minutes of ways -/
theorem ST.dz {t : Nat} {M : cM} (h : ST t M) (hI : Rng M) : DZ (owD M t) := by
  refine ⟨h.2.1, fun i hi => ?_, h.2.2.2⟩
  have w := h.1.2.2.2.2.2.2
  by_cases g : ((i / 8 : Nat) : Int) < owD M t 0 0 ∧ ((i % 8 : Nat) : Int) < owD M t 0 0
  · have e := w.1 (i / 8) (i % 8) g.1 g.2
    rw [show 8 * (i / 8) + i % 8 = i by omega] at e
    rw [← e]
    exact rg_68 hI
  · have e := w.2 (i / 8) (i % 8) (by omega) (by omega) (by omega)
    rw [show 8 * (i / 8) + i % 8 = i by omega] at e
    rw [e]
    decide
/-- all at home -/
def pHm (D : cM) (x : Int) : cM := fun k f => if k = 0 ∨ k = 1 then D 10 f else if k = 3 then x else 0
theorem CDX.dd {i : Int} {M D D1 : cM} (h : CDX i M D) (e : ∀ j f, j = 11 ∨ j = 12 → D1 j f = D j f) : CDX i M D1 := ⟨h.1.dd e, fun z => h.2 ((e 11 0 (Or.inl rfl)).symm.trans z)⟩
theorem owD_11 {M : cM} {t i : Nat} : owD M t 11 i = fCd M (t + 11) i := rfl
theorem owD_12 {M : cM} {t i : Nat} : owD M t 12 i = fCd M (t + 14) i := rfl
theorem tw_scn {t u t2 : Nat} {M M1 M2 : cM} {v : Int} {F F' : List (Nat × Nat)} (hsc : SCN u M) (hI2 : Rng M2) (ht2 : t2 = 8 ∨ t2 = 25) (hst : ST t2 M2) (h7 : M2 7 0 = ((t2 : Nat) : Int)) (hb : 0 ≤ M 63 14)
    (hcf : (v = -1 ∧ M1 7 0 = ((u : Nat) : Int) ∧ KT u M M1) ∨ (0 ≤ v ∧ M1 7 0 = ((t : Nat) : Int)))
    (hcg : (v = -1 ∧ (∀ f, M1 42 f = M 42 f) ∧ (∀ f, M1 44 f = M 44 f) ∧ (∀ f, M1 45 f = M 45 f) ∧ M1 0 12 = M 0 12) ∨ (v ≠ -1 ∧ M1 44 2 = 0 ∧ M1 0 12 = M 0 12 ∧ TDr M1 t (M1 t 1) M1))
    (hwf : (v = -1 ∧ M2 63 14 = M1 63 14) ∨ (0 ≤ v ∧ M2 63 14 = 1 - M1 63 14))
    (hwg : (M2 63 14 = M1 63 14 ∧ (∀ c, c = 92 ∨ c = 93 ∨ c = 94 ∨ c = 95 ∨ c = 97 ∨ c = 98 ∨ c = 99 ∨ c = 100 ∨ c = 101 → ∀ f, M2 c f = M1 c f) ∧ M2 63 58 = M1 63 58 ∧ M2 63 59 = M1 63 59 ∧ M2 63 60 = M1 63 60) ∨ (M2 63 14 = 1 - M1 63 14 ∧ TRr M2 8 M2 ∧ M2 63 59 = 0 ∧ M2 63 60 = M1 63 60 ∧ M2 97 0 = 0))
    (g1 : Fr F M M1) (hf1 : (!c_in F 63 14 && !c_in F 63 58 && !c_in F 63 59 && !c_in F 63 60 && [92, 93, 94, 95, 97, 98, 99, 100, 101].all fun c => F.all fun p => p.1 != c) = true)
    (g2 : Fr F' M1 M2) (hf2 : (ktf F' && !c_in F' 7 0 && !c_in F' 0 12 && [42, 44, 45].all fun c => F'.all fun p => p.1 != c) = true) : SCN t2 M2 := by
  simp only [Bool.and_eq_true] at hf1 hf2
  obtain ⟨⟨⟨⟨i1, i2⟩, i3⟩, i4⟩, i5⟩ := hf1
  obtain ⟨⟨⟨j1, j2⟩, j3⟩, j4⟩ := hf2
  have e14 := g1 63 14 (by simpa using i1)
  have e58 := g1 63 58 (by simpa using i2)
  have e59 := g1 63 59 (by simpa using i3)
  have e60 := g1 63 60 (by simpa using i4)
  have er : ∀ c, c = 92 ∨ c = 93 ∨ c = 94 ∨ c = 95 ∨ c = 97 ∨ c = 98 ∨ c = 99 ∨ c = 100 ∨ c = 101 → ∀ f, M1 c f = M c f := fun c hc f => g1 c f (nin (by omega) (List.all_eq_true.mp i5 c (by simp; omega)) f)
  have e70 := g2 7 0 (by simpa using j2)
  have e12 := g2 0 12 (by simpa using j3)
  have ec : ∀ c, c = 42 ∨ c = 44 ∨ c = 45 → ∀ f, M2 c f = M1 c f := fun c hc f => g2 c f (nin (by omega) (List.all_eq_true.mp j4 c (by simp; omega)) f)
  have ek : ∀ k f, k ≤ 10 → M2 (t2 + k) f = M1 (t2 + k) f := fun k f hk => g2 (t2 + k) f (ktf_in j1 (by omega))
  obtain ⟨D, S, H, c, hC, hR, hH, hK⟩ := hsc
  rcases hcf with ⟨v1, a1, a2⟩ | ⟨v1, a1⟩
  · have et : t2 = u := by omega
    subst et
    rcases hcg with ⟨_, b1, b2, b3, b4⟩ | ⟨b0, _⟩
    · rcases hwf with ⟨_, c1⟩ | ⟨c0, _⟩
      · rcases hwg with ⟨_, d1, d2, d3, d4⟩ | ⟨d0, _⟩
        · have eD : ∀ k f, k ≤ 10 → M2 (t2 + k) f = D k f := fun k f hk => by
            rw [ek k f hk]
            rw [a2.1 k f hk]
            exact hC.1 k f hk
          have hD8 := hC.2.1.1.2.2.2.1
          have eC : CDC t2 D M2 := ⟨fun i => (fCd_fr (fF_slow ht2) g2 (ktf_k j1) i).trans ((a2.2.1 i).trans (hC.2.2.2.2.2.1.1 i)), fun i => (fCd_fr (fF_stands ht2) g2 (ktf_k j1) i).trans ((a2.2.2 i).trans (hC.2.2.2.2.2.1.2 i))⟩
          have eX : CDX (M2 63 14) M2 D := hst.2.2.1.dd (fun j f hj => by
            rcases hj with rfl | rfl
            · rw [owD_11, eC.1]
            · rw [owD_12, eC.2])
          refine ⟨D, S, H, c, ⟨eD, hC.2.1, hC.2.2.1.of hD8 (fun q _ => (ec 42 (by decide) q).trans (b1 q)), ?_, hC.2.2.2.2.1, eC, hC.k.of (fun q _ _ => (ec 42 (by decide) q).trans (b1 q))⟩, ⟨?_, hR.2.1, hR.2.2.1.of hD8 (fun x hx p _ => (d1 x (by omega) _).trans (er x (by omega) _)), ?_, hR.2.2.2.2.1, eX, hR.k.all (fun x hx f => (d1 x (by omega) f).trans (er x (by omega) f))⟩, ?_, ?_⟩
          · rw [e12, b4]
            exact hC.2.2.2.1
          · exact hst.1.dd (fun k f hk => by rw [owD_le hk, eD k f hk])
          · rw [d4, e60]
            exact hR.2.2.2.1
          · unfold CH
            rw [ec 44 (by decide), ec 44 (by decide), b2, b2]
            refine ⟨hH.1, fun k hk => ⟨fun p hp => ?_, (hH.2 k hk).2.1, (hH.2 k hk).2.2.of (fun q _ _ => (ec 45 (by decide) _).trans (b3 _))⟩⟩
            have h1 := (hH.2 k hk).1 p hp
            simp only [ec 45 (by decide), b3]
            exact h1
          · exact hK.hi hC.2.1.1 (d2.trans e58) (d3.trans e59) (fun x hx f _ => (d1 x (by omega) f).trans (er x (by omega) f)) (fun f _ => (d1 97 (by omega) f).trans (er 97 (by omega) f)) (fun x hx f _ => (d1 x (by omega) f).trans (er x (by omega) f))
        · omega
      · omega
    · omega
  · have et : t2 = t := by omega
    subst et
    rcases hcg with ⟨b0, _⟩ | ⟨_, b1, b2, b3⟩
    · omega
    · rcases hwf with ⟨c0, _⟩ | ⟨_, c1⟩
      · omega
      · rcases hwg with ⟨d0, _⟩ | ⟨_, d1, d2, d3, d4⟩
        · omega
        · have hz := hst.dz hI2
          have hD8 := hst.2.1.2.2.2.1
          have e10 : owD M2 t2 0 1 = M2 t2 1 := owD_le (by decide)
          have e11 : M2 t2 1 = M1 t2 1 := ek 0 1 (by decide)
          have hS : SW (owD M2 t2) (pHm (owD M2 t2) (M2 0 12)) := fun p hp => by
            have h1 := hst.2.1.2.2.2.2.1 p hp
            exact ⟨⟨h1.2.2.1, h1.2.2.2.1⟩, ⟨h1.2.2.1, h1.2.2.2.1⟩, Or.inl rfl, Int.le_refl _, show (0 : Int) ≤ 99999 by decide⟩
          refine ⟨owD M2 t2, pHm (owD M2 t2) (M2 0 12), H, 0, ⟨fun k f hk => (owD_le hk).symm, hz, fun p hp => ?_, rfl, hS, ⟨fun i => rfl, fun i => rfl⟩, KC.z ((ec 42 (by decide) 40).trans (b3 0 (by decide)).2.2.2) rfl⟩, ⟨hst.1, hz, fun p hp => ?_, ?_, hS, hst.2.2.1, KX.z d4 rfl⟩, CH.zero ((ec 44 (by decide) 2).trans b1), RH.zero d2⟩
          · have h1 := b3 p (by omega)
            have h2 := h1.1 (by omega)
            rw [ec 42 (by decide), ec 42 (by decide), ec 42 (by decide), ec 42 (by decide), h2.1, h2.2, h1.2.1, h1.2.2.1]
            have h3 : owD M2 t2 10 p = M1 (t2 + 10) p := (owD_le (by decide)).trans (ek 10 p (by decide))
            exact ⟨h3.symm, h3.symm, rfl, rfl⟩
          · have h1 := d1 p (by omega)
            have h2 := (hst.1.2.2.2.2.2.1 p hp).2.2.2.2.2
            rw [show (8 * (0 : Int) + (p : Int)).toNat = p by omega, h1.1, h1.2.1, h1.2.2.1, h1.2.2.2, h2]
            exact ⟨rfl, rfl, rfl, rfl⟩
          · rw [d3, e60, hR.2.2.2.1, ← hC.2.2.2.1, ← b2, ← e12]
            rfl
/-- at the start nobody is there -/
theorem SCN.start {M : cM} (hst : ST 8 M) (hI : Rng M) (h1 : M 8 1 = 0) (h44 : M 44 2 = 0) (h59 : M 63 59 = 0) (h60 : M 0 12 = M 63 60) (h42 : M 42 40 = 0) (h97 : M 97 0 = 0) : SCN 8 M := by
  have e1 : owD M 8 0 1 = 0 := (owD_le (by decide)).trans h1
  refine ⟨owD M 8, fun k _ => if k = 3 then M 0 12 else 0, fun _ => M, 0, ⟨fun k f hk => (owD_le hk).symm, hst.dz hI, fun p hp => ?_, rfl, fun p hp => ?_, ⟨fun i => rfl, fun i => rfl⟩, KC.z h42 rfl⟩, ⟨hst.1, hst.dz hI, fun p hp => ?_, h60.symm, fun p hp => ?_, hst.2.2.1, KX.z h97 rfl⟩, CH.zero h44, RH.zero h59⟩
  · rw [e1] at hp
    omega
  · rw [e1] at hp
    omega
  · rw [e1] at hp
    omega
  · rw [e1] at hp
    omega
