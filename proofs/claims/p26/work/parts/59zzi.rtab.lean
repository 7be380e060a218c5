/-! the reference's rows and tables -/
def RWS (s : Nat → Int) (R : Int) (M : cM) : Prop := M 63 72 = R ∧ ∀ k : Int, 0 ≤ k → k < R → M 108 k.toNat = s (2 * k).toNat ∧ M 109 k.toNat = s (2 * k + 1).toNat
def KOK (D S : cM) (s : Nat → Int) (R p r k : Int) : Prop := (k = -1 ∧ pFr D S (pWt s R.toNat) p r = 1) ∨ ((0 ≤ k ∧ k < R) ∧ pFr D S (pWt s R.toNat) p r ≠ 1 ∧ pRw s R.toNat r = k)
def rN (D S : cM) (s : Nat → Int) (R p r x : Int) : Int := yN (rAs s R) (pRw s R.toNat) (pFr D S (pWt s R.toNat)) p r x
def rA (D S : cM) (s : Nat → Int) (R : Int) (al : Int → Int → Int) (p : Nat) (x : Int) : Int := yA (rAs s R) (pRw s R.toNat) (pFr D S (pWt s R.toNat)) al (D 0 0).toNat p x
def rC (D S : cM) (s : Nat → Int) (R : Int) (al : Int → Int → Int) (p r x t : Int) : Int := yC (rAs s R) (pRw s R.toNat) (pFr D S (pWt s R.toNat)) al R.toNat (rA D S s R al p.toNat) p r x t
def ZR (c : Nat) (k : Int) (M : cM) : Prop := ∀ t : Int, 0 ≤ t → t < k → M c t.toNat = 0
def DGS (s : Nat → Int) (R k : Int) (M : cM) : Prop := ∀ t : Int, 0 ≤ t → t < k → M 112 t.toNat = pPr (rAs s R) t.toNat
def RWY (D S : cM) (s : Nat → Int) (R : Int) (al : Int → Int → Int) (p : Int) (M : cM) : Prop := ∀ t : Int, 0 ≤ t → t < pPr (rAs s R) R.toNat → M 110 t.toNat = wr32 (rA D S s R al p.toNat t)
def THN (D S : cM) (s : Nat → Int) (R : Int) (al : Int → Int → Int) (p r x : Int) (M : cM) : Prop := ∀ t : Int, 0 ≤ t → t < pPr (rAs s R) R.toNat → M 111 t.toNat = wr32 (rC D S s R al p r x t)
def CPY (k : Int) (M : cM) : Prop := ∀ t : Int, 0 ≤ t → t < k → M 110 t.toNat = M 111 t.toNat
def pWa (D S : cM) (s : Nat → Int) (R : Int) (al : Int → Int → Int) : Int := if pSum (fun k => s (2 * k + 1).toNat) R.toNat ≤ D 0 1 then yW (pFr D S (pWt s R.toNat)) al (D 0 0).toNat (D 0 1).toNat (vFl (pWt s R.toNat)) else 0
def WHO (D S : cM) (s : Nat → Int) (R p r : Int) (M : cM) : Prop := ∀ q x : Int, 0 ≤ q → 0 ≤ x → x < D 0 0 → (q < p ∨ (q = p ∧ x < r)) → M 107 (8 * q + x).toNat = wr32 (pWh D S s R q x)
section RTB
variable {D S M M1 : cM} {s : Nat → Int} {R p r k x y z v t : Int} {al : Int → Int → Int} {f c : Nat}
theorem RWS.fr {F : List (Nat × Nat)} (h : RWS s R M) (g : Fr F M M1) (h1 : c_in F 63 72 = false) (h2 : ∀ f, c_in F 108 f = false) (h3 : ∀ f, c_in F 109 f = false) : RWS s R M1 := by
  refine ⟨(g 63 72 h1).trans h.1, fun k a b => ?_⟩
  rw [g 108 _ (h2 _), g 109 _ (h3 _)]
  exact h.2 k a b
theorem RWS.up (h : RWS s R M) (u : Up M c f v M1) (h1 : ¬ (c = 63 ∧ f = 72) ∧ c ≠ 108 ∧ c ≠ 109) : RWS s R M1 := by
  refine ⟨(u.2 63 72 (by omega)).trans h.1, fun k a b => ?_⟩
  rw [u.2 108 _ (by omega), u.2 109 _ (by omega)]
  exact h.2 k a b
theorem pRw_S (n : Nat) : pRw s (n + 1) r = if pRw s n r = -1 then (if s (2 * (n : Int)).toNat = r then (n : Int) else -1) else pRw s n r := rfl
theorem pRw_st {k : Nat} (h : pRw s k r ≠ -1) : ∀ {n : Nat}, k ≤ n → pRw s n r = pRw s k r
  | 0, hk => by rw [Nat.le_zero.mp hk]
  | n + 1, hk => by
    by_cases e : k = n + 1
    · rw [e]
    · have ih := pRw_st h (n := n) (by omega)
      rw [pRw_S, ih, if_neg h]
theorem pRw_hit (h : pRw s k.toNat r = -1) (h0 : 0 ≤ k) (h1 : k < R) (e : s (2 * k).toNat = r) : pRw s R.toNat r = k := by
  have e1 : pRw s (k.toNat + 1) r = k := by
    rw [pRw_S, if_pos h, show ((k.toNat : Nat) : Int) = k by omega, if_pos e]
  rw [pRw_st (k := k.toNat + 1) (by omega) (by omega), e1]
theorem pRw_mis (h : pRw s k.toNat r = -1) (h0 : 0 ≤ k) (e : s (2 * k).toNat ≠ r) : pRw s (k + 1).toNat r = -1 := by
  rw [show (k + 1).toNat = k.toNat + 1 by omega, pRw_S, if_pos h, show ((k.toNat : Nat) : Int) = k by omega, if_neg e]
theorem KOK.w (h : pSi D S p r (S 1 p.toNat) = 1) : KOK D S s R p r (-1) := by
  refine Or.inl ⟨rfl, ?_⟩
  unfold pFr
  rw [if_neg (by omega)]
theorem KOK.ro (hs : DST s R) (h0 : 0 ≤ R) (hr : 0 ≤ r ∧ r < 8) (h : pSi D S p r (S 1 p.toNat) ≠ 1) (hk : k = pRw s R.toNat r) : KOK D S s R p r k := by
  subst hk
  rcases row_at (r := r) hs R.toNat (by omega) with ⟨a, b⟩ | ⟨a, _, c⟩
  · refine Or.inl ⟨a, ?_⟩
    unfold pFr
    rw [if_neg (by omega)]
  · have := hs.1 (2 * pRw s R.toNat r + 1).toNat
    refine Or.inr ⟨⟨a.1, by omega⟩, ?_, rfl⟩
    unfold pFr
    rw [if_pos ⟨⟨hr.1, hr.2, by omega⟩, h⟩]
    decide
theorem rN_f (h : KOK D S s R p r k) (hk : k = -1) : rN D S s R p r x = x := by
  unfold rN yN
  rw [if_pos (h.resolve_right (by omega)).2]
theorem rN_k (h : KOK D S s R p r k) (hk : k ≠ -1) : rN D S s R p r x = if x / pPr (rAs s R) k.toNat % (1 + s (2 * k + 1).toNat) < s (2 * k + 1).toNat then x + pPr (rAs s R) k.toNat else -1 := by
  have h2 := h.resolve_left (by omega)
  have e : rAs s R k = s (2 * k + 1).toNat := if_pos h2.1
  unfold rN yN pDg
  rw [if_neg h2.2.1, h2.2.2, show ((k.toNat : Nat) : Int) = k by omega, e]
theorem rAs_ge (hs : DST s R) : ∀ k, 0 ≤ rAs s R k := fun k => by
  unfold rAs
  split
  · exact hs.1 _
  · exact Int.le_refl _
theorem rP_S (h0 : 0 ≤ k) (h1 : k < R) (hv : s (2 * k + 1).toNat = v) : pPr (rAs s R) (k + 1).toNat = pPr (rAs s R) k.toNat * (1 + v) := by
  rw [show (k + 1).toNat = k.toNat + 1 by omega]
  show pPr (rAs s R) k.toNat * (1 + rAs s R ((k.toNat : Nat) : Int)) = _
  rw [show ((k.toNat : Nat) : Int) = k by omega]
  have e : rAs s R k = s (2 * k + 1).toNat := if_pos ⟨h0, h1⟩
  rw [e, hv]
theorem rS_S (h0 : 0 ≤ k) (hv : s (2 * k + 1).toNat = v) : pSum (fun k => s (2 * k + 1).toNat) (k + 1).toNat = pSum (fun k => s (2 * k + 1).toNat) k.toNat + v := by
  rw [show (k + 1).toNat = k.toNat + 1 by omega]
  show _ + s (2 * ((k.toNat : Nat) : Int) + 1).toNat = _
  rw [show ((k.toNat : Nat) : Int) = k by omega, hv]
theorem ZR.nx (h : ZR c k M) (h0 : 0 ≤ k) (u : Up M c f 0 M1) (hf : f = k.toNat) : ZR c (k + 1) M1 := by
  subst hf
  intro t t0 t1
  by_cases e : t = k
  · rw [e, u.1]
  · rw [u.2 c _ (by omega)]
    exact h t t0 (by omega)
theorem DGS.nx (h : DGS s R k M) (h0 : 0 ≤ k) (hv : v = pPr (rAs s R) k.toNat) (u : Up M 112 f v M1) (hf : f = k.toNat) : DGS s R (k + 1) M1 := by
  subst hf
  intro t t0 t1
  by_cases e : t = k
  · rw [e, u.1, hv]
  · rw [u.2 112 _ (by omega)]
    exact h t t0 (by omega)
theorem DGS.fr {F : List (Nat × Nat)} (h : DGS s R k M) (g : Fr F M M1) (h2 : ∀ f, c_in F 112 f = false) : DGS s R k M1 := fun t t0 t1 => (g 112 _ (h2 _)).trans (h t t0 t1)
theorem DGS.up (h : DGS s R k M) (u : Up M c f v M1) (h1 : c ≠ 112) : DGS s R k M1 := fun t t0 t1 => (u.2 112 _ (by omega)).trans (h t t0 t1)
theorem RWY.fr {F : List (Nat × Nat)} (h : RWY D S s R al p M) (g : Fr F M M1) (h2 : ∀ f, c_in F 110 f = false) : RWY D S s R al p M1 := fun t t0 t1 => (g 110 _ (h2 _)).trans (h t t0 t1)
theorem RWY.up (h : RWY D S s R al p M) (u : Up M c f v M1) (h1 : c ≠ 110) : RWY D S s R al p M1 := fun t t0 t1 => (u.2 110 _ (by omega)).trans (h t t0 t1)
theorem RWY.st (h : ZR 110 (pPr (rAs s R) R.toNat) M) (u : Up M 110 f 1 M1) (hf : f = 0) : RWY D S s R al 0 M1 := by
  subst hf
  intro t t0 t1
  show _ = wr32 (if t = 0 then 1 else 0)
  by_cases e : t = 0
  · subst e
    rw [if_pos rfl, wr_1]
    exact u.1
  · rw [if_neg e, wr_0, u.2 110 _ (by omega)]
    exact h t t0 t1
theorem THN.fr {F : List (Nat × Nat)} (h : THN D S s R al p r x M) (g : Fr F M M1) (h2 : ∀ f, c_in F 111 f = false) : THN D S s R al p r x M1 := fun t t0 t1 => (g 111 _ (h2 _)).trans (h t t0 t1)
theorem THN.up (h : THN D S s R al p r x M) (u : Up M c f v M1) (h1 : c ≠ 111) : THN D S s R al p r x M1 := fun t t0 t1 => (u.2 111 _ (by omega)).trans (h t t0 t1)
theorem THN.st (h : ZR 111 k M) (hk : pPr (rAs s R) R.toNat ≤ k) : THN D S s R al p 0 0 M := by
  intro t t0 t1
  rw [h t t0 (by omega)]
  exact wr_0.symm
theorem THN.nx (h : THN D S s R al p r x M) (hx : 0 ≤ x) (hz : rN D S s R p r x = z) (hz0 : 0 ≤ z ∧ z < pPr (rAs s R) R.toNat) (hw : wr32 (rA D S s R al p.toNat x) = y) (hf : f = z.toNat) (hv : M 111 f = v) (u : Up M 111 f (tbP v y) M1) : THN D S s R al p r (x + 1) M1 := by
  subst hf
  intro t t0 t1
  have e3 : rC D S s R al p r (x + 1) t = rC D S s R al p r x t + (if rN D S s R p r x = t then rA D S s R al p.toNat x else 0) := yC_S hx
  rw [e3, hz]
  by_cases e : t = z
  · subst e
    rw [u.1, if_pos rfl, ← wr_add, hw, ← h t t0 t1, hv]
  · rw [u.2 111 _ (by omega), if_neg (by omega), Int.add_zero]
    exact h t t0 t1
theorem THN.no (h : THN D S s R al p r x M) (hx : 0 ≤ x) (hz : rN D S s R p r x = -1) : THN D S s R al p r (x + 1) M := by
  intro t t0 t1
  have e3 : rC D S s R al p r (x + 1) t = rC D S s R al p r x t + (if rN D S s R p r x = t then rA D S s R al p.toNat x else 0) := yC_S hx
  rw [e3, hz, if_neg (by omega), Int.add_zero]
  exact h t t0 t1
theorem THN.rm (h : THN D S s R al p r x M) (hr : 0 ≤ r) (hx : x = pPr (rAs s R) R.toNat) (ha : al p r = 1) : THN D S s R al p (r + 1) 0 M := by
  intro t t0 t1
  have e3 : rC D S s R al p (r + 1) 0 t = rC D S s R al p r x t := yC_R hr hx ha
  rw [e3]
  exact h t t0 t1
theorem THN.sk (h : THN D S s R al p r 0 M) (hr : 0 ≤ r) (ha : al p r ≠ 1) : THN D S s R al p (r + 1) 0 M := by
  intro t t0 t1
  have e3 : rC D S s R al p (r + 1) 0 t = rC D S s R al p r 0 t := yC_R0 hr ha
  rw [e3]
  exact h t t0 t1
theorem CPY.nx (h : CPY k M) (h0 : 0 ≤ k) (u : Up M 110 f v M1) (hf : f = k.toNat) (hv : M 111 f = v) : CPY (k + 1) M1 := by
  subst hf
  intro t t0 t1
  rw [u.2 111 _ (by omega)]
  by_cases e : t = k
  · rw [e, u.1, hv]
  · rw [u.2 110 _ (by omega)]
    exact h t t0 (by omega)
theorem RWY.nx (hs : DST s R) (h0 : 0 ≤ R) (hT : THN D S s R al p r 0 M) (hr : r = D 0 0) (hp : 0 ≤ p) (hC : CPY k M) (hk : pPr (rAs s R) R.toNat ≤ k) : RWY D S s R al (p + 1) M := by
  subst hr
  intro t t0 t1
  rw [hC t t0 (by omega), hT t t0 t1]
  have e3 : rC D S s R al p (D 0 0) 0 t = rA D S s R al (p.toNat + 1) t := yC_full (rdxR hs h0) (frR hs h0) (by omega) t0 t1 rfl
  rw [e3, show (p + 1).toNat = p.toNat + 1 by omega]
theorem alO_1 {one wh : Int} (h : ¬ (p = one ∧ r ≠ wh)) : alO one wh p r = 1 := by
  unfold alO
  exact if_neg h
theorem alO_0 {one wh : Int} (h : p = one ∧ r ≠ wh) : alO one wh p r ≠ 1 := by
  unfold alO
  rw [if_pos h]
  decide
theorem rtot (hs : DST s R) (h0 : 0 ≤ R) (hn : 0 ≤ D 0 1) (hN : D 0 0 ≤ 8) (h : RWY D S s R al p M) (hp : p = D 0 1) (hl : pSum (fun k => s (2 * k + 1).toNat) R.toNat ≤ D 0 1) (hf : f = (pPr (rAs s R) R.toNat - 1).toNat) : M 110 f = wr32 (pWa D S s R al) := by
  subst hp; subst hf
  have hS := pPr_pos (rdxR hs h0).1 R.toNat
  rw [h _ (by omega) (by omega)]
  have e1 : rA D S s R al (D 0 1).toNat (pPr (rAs s R) R.toNat - 1) = pWa D S s R al := by
    unfold rA pWa
    rw [if_pos hl, yA_W (rdxR hs h0) (by omega) (frR hs h0) _ _ (by omega) (by omega), vR_full hs h0]
  rw [e1]
theorem rtot0 (hs : DST s R) (hk : k ≤ R) (hl : D 0 1 < pSum (fun k => s (2 * k + 1).toNat) k.toNat) : pWa D S s R al = 0 := by
  have := pSum_mono (f := fun k => s (2 * k + 1).toNat) (fun x => hs.1 _) (n := k.toNat) (m := R.toNat) (by omega)
  unfold pWa
  rw [if_neg (by omega)]
theorem yW_al {fr al al' : Int → Int → Int} {N : Nat} : ∀ {k : Nat}, (∀ q : Int, 0 ≤ q → q < k → ∀ x, al q x = al' q x) → ∀ v, yW fr al N k v = yW fr al' N k v
  | 0, _, _ => rfl
  | k + 1, h, v => by
    have ih := yW_al (k := k) (fr := fr) (N := N) (fun q q0 q1 => h q q0 (by omega))
    show pSum (fun r => if al k r = 1 then (if fr k r = 1 then yW fr al N k v else if 0 < v r then yW fr al N k (vDn v r) else 0) else 0) N = pSum (fun r => if al' k r = 1 then (if fr k r = 1 then yW fr al' N k v else if 0 < v r then yW fr al' N k (vDn v r) else 0) else 0) N
    refine pSum_eq _ (fun x _ _ => ?_)
    try dsimp only
    rw [h k (by omega) (by omega), ih, ih]
theorem pWa_t : pWa D S s R (alO (-1) (-1)) = pTt D S s R := by
  unfold pWa pTt
  rw [yW_al (al := alO (-1) (-1)) (al' := alA) (fun q q0 _ x => by
    unfold alO alA
    rw [if_neg (by omega)])]
theorem pWa_w : pWa D S s R (alO p r) = pWh D S s R p r := rfl
theorem WHO.nx (h : WHO D S s R p r M) (hp : 0 ≤ p) (hr : 0 ≤ r ∧ r < 8) (hN : D 0 0 ≤ 8) (u : Up M 107 f v M1) (hf : f = (8 * p + r).toNat) (hv : v = wr32 (pWa D S s R (alO p r))) : WHO D S s R p (r + 1) M1 := by
  subst hf
  intro q x q0 x0 x1 g
  by_cases e : q = p ∧ x = r
  · obtain ⟨e1, e2⟩ := e
    subst e1; subst e2
    rw [u.1, hv, pWa_w]
  · rw [u.2 107 _ (by omega)]
    exact h q x q0 x0 x1 (by omega)
theorem WHO.ps (h : WHO D S s R p r M) (hr : D 0 0 ≤ r) : WHO D S s R (p + 1) 0 M := fun q x q0 x0 x1 g => h q x q0 x0 x1 (by omega)
theorem WHO.fr {F : List (Nat × Nat)} (h : WHO D S s R p r M) (g : Fr F M M1) (h2 : ∀ f, c_in F 107 f = false) : WHO D S s R p r M1 := fun q x q0 x0 x1 e => (g 107 _ (h2 _)).trans (h q x q0 x0 x1 e)
theorem WHO.up (h : WHO D S s R p r M) (u : Up M c f v M1) (h1 : c ≠ 107) : WHO D S s R p r M1 := fun q x q0 x0 x1 e => (u.2 107 _ (by omega)).trans (h q x q0 x0 x1 e)
theorem WHO.en (h : WHO D S s R p r M) (hp : D 0 1 ≤ p) : WHS D S s R (fun q x => M 107 (8 * q + x).toNat) := fun q x q0 q1 x0 x1 => h q x q0 x0 x1 (Or.inl (by omega))
theorem RWS.nx {M2 : cM} (h : ∀ k : Int, 0 ≤ k → k < x → M 108 k.toNat = s (2 * k).toNat ∧ M 109 k.toNat = s (2 * k + 1).toNat) (h0 : 0 ≤ x) {f1 f2 : Nat} {v1 v2 : Int} (u1 : Up M 108 f1 v1 M1) (u2 : Up M1 109 f2 v2 M2) (hf1 : f1 = x.toNat) (hf2 : f2 = x.toNat) (hv1 : s (2 * x).toNat = v1) (hv2 : s (2 * x + 1).toNat = v2) : ∀ k : Int, 0 ≤ k → k < x + 1 → M2 108 k.toNat = s (2 * k).toNat ∧ M2 109 k.toNat = s (2 * k + 1).toNat := by
  subst hf1; subst hf2
  intro k k0 k1
  by_cases e : k = x
  · subst e
    rw [u2.2 108 _ (by omega), u1.1, u2.1, hv1, hv2]
    exact ⟨rfl, rfl⟩
  · rw [u2.2 108 _ (by omega), u1.2 108 _ (by omega), u2.2 109 _ (by omega), u1.2 109 _ (by omega)]
    exact h k k0 (by omega)
end RTB
