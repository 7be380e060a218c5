/-! refusals counted; errands and standing told -/
def RFn (k : Int) (a b : Nat → Int) : Prop := ∀ f, b f = if f = k.toNat then tbP (a f) 1 else a f
def R0n (a b : Nat → Int) : Prop := ∀ f, b f = a f
section REF
variable {a b c d : Nat → Int} {k : Int}
theorem RFn.of (h : RFn k b c) (e1 : ∀ f, b f = a f) (e2 : ∀ f, d f = c f) : RFn k a d := fun f => by
  rw [e2 f, h f, e1 f]
theorem RFn.up {M M1 : cM} {x v : Int} {r : Nat} (u : Up M r k.toNat (tbP v 1) M1) (hv : M r k.toNat = v) : RFn k (M r) (M1 r) := fun f => by
  by_cases e : f = k.toNat
  · rw [if_pos e, e, u.1, hv]
  · rw [if_neg e, u.2 r f (by omega)]
theorem RFn.both (h : RFn k a b) (g : RFn k c d) (e : a = c) : b = d := by
  subst e
  funext f
  rw [h f, g f]
theorem R0n.both (h : R0n a b) (g : R0n c d) (e : a = c) : b = d := by
  subst e
  funext f
  rw [h f, g f]
end REF
/-- an errand is told -/
def pEa (S : cM) (s : Nat → Int) (p j : Int) : Int := if j = 0 then S 0 p.toNat else s (2 * j - 2).toNat
def cEr (D S : cM) (s : Nat → Int) (p j : Int) : Int := if 0 < pWy D (pEa S s p j) (s (2 * j).toNat) ∧ s (2 * j + 1).toNat ≤ 1 then 1 else 0
def pEt (D S : cM) (s : Nat → Int) (n p : Int) : Int := if (0 ≤ p ∧ p < D 0 1) ∧ (2 ≤ n ∧ n ≤ 24 ∧ n % 2 = 0) ∧ pAll (cEr D S s p) (n / 2).toNat = 1 then 1 else 0
theorem pEa_S {S : cM} {s : Nat → Int} {p j : Int} (h : 0 ≤ j) : pEa S s p (j + 1) = s (2 * j).toNat := by
  unfold pEa
  rw [if_neg (by omega)]
  exact congrArg s (by omega)
theorem pWy_0 {D : cM} {a b : Int} (h : ¬ (0 ≤ b ∧ b < D 0 0)) : pWy D a b = 0 := if_neg (fun z => h ⟨z.2.2.1, z.2.2.2⟩)
/-- who stands is told -/
def cNe (s : Nat → Int) (r i : Int) : Int := if s (2 * i).toNat = r then 0 else 1
def cSo (D : cM) (s : Nat → Int) (j : Int) : Int := if (0 ≤ s (2 * j).toNat ∧ s (2 * j).toNat < D 0 0) ∧ pAll (cNe s (s (2 * j).toNat)) j.toNat = 1 then 1 else 0
def pSo (D : cM) (s : Nat → Int) (n : Int) : Int := if (2 ≤ n ∧ n ≤ 16 ∧ n % 2 = 0) ∧ pAll (cSo D s) (n / 2).toNat = 1 then 1 else 0
theorem see_all : ∀ (a : Fin 256) (b c : Fin 8), tbA (tbS (tbO ((a.val : Nat) : Int) (tbL 1 ((b.val : Nat) : Int))) ((c.val : Nat) : Int)) 1 = (if c.val = b.val then 1 else tbA (tbS ((a.val : Nat) : Int) ((c.val : Nat) : Int)) 1) ∧ 0 ≤ tbO ((a.val : Nat) : Int) (tbL 1 ((b.val : Nat) : Int)) ∧ tbO ((a.val : Nat) : Int) (tbL 1 ((b.val : Nat) : Int)) ≤ 255 := by decide +kernel
theorem see_S {a b c : Int} (ha : 0 ≤ a ∧ a ≤ 255) (hb : 0 ≤ b ∧ b ≤ 7) (hc : 0 ≤ c ∧ c ≤ 7) : tbA (tbS (tbO a (tbL 1 b)) c) 1 = (if c = b then 1 else tbA (tbS a c) 1) ∧ 0 ≤ tbO a (tbL 1 b) ∧ tbO a (tbL 1 b) ≤ 255 := by
  have h := see_all ⟨a.toNat, by omega⟩ ⟨b.toNat, by omega⟩ ⟨c.toNat, by omega⟩
  rw [show (((⟨a.toNat, by omega⟩ : Fin 256).val : Nat) : Int) = a from (show ((a.toNat : Nat) : Int) = a by omega), show (((⟨b.toNat, by omega⟩ : Fin 8).val : Nat) : Int) = b from (show ((b.toNat : Nat) : Int) = b by omega), show (((⟨c.toNat, by omega⟩ : Fin 8).val : Nat) : Int) = c from (show ((c.toNat : Nat) : Int) = c by omega)] at h
  refine ⟨h.1.trans ?_, h.2⟩
  show (if c.toNat = b.toNat then (1 : Int) else _) = _
  by_cases e : c = b
  · rw [if_pos e, if_pos (by rw [e])]
  · rw [if_neg e, if_neg (by omega)]
theorem see_0 {c : Int} (hc : 0 ≤ c ∧ c ≤ 7) : tbA (tbS 0 c) 1 = 0 := by
  rcases (by omega : c = 0 ∨ c = 1 ∨ c = 2 ∨ c = 3 ∨ c = 4 ∨ c = 5 ∨ c = 6 ∨ c = 7) with rfl | rfl | rfl | rfl | rfl | rfl | rfl | rfl <;> decide
/-- which rooms were told so far -/
def SEE (s : Nat → Int) (j a : Int) : Prop := (0 ≤ a ∧ a ≤ 255) ∧ ∀ r : Int, 0 ≤ r → r ≤ 7 → (tbA (tbS a r) 1 = 1 ∧ pAll (cNe s r) j.toNat = 0) ∨ (tbA (tbS a r) 1 = 0 ∧ pAll (cNe s r) j.toNat = 1)
theorem SEE.zero {s : Nat → Int} : SEE s 0 0 := ⟨by decide, fun r h0 h7 => Or.inr ⟨see_0 ⟨h0, h7⟩, rfl⟩⟩
theorem SEE.nx {s : Nat → Int} {j a b : Int} (h : SEE s j a) (h0 : 0 ≤ j) (hb : 0 ≤ b ∧ b ≤ 7) (hs : s (2 * j).toNat = b) : SEE s (j + 1) (tbO a (tbL 1 b)) := by
  refine ⟨(see_S h.1 hb hb).2, fun r r0 r7 => ?_⟩
  have h1 := (see_S h.1 hb ⟨r0, r7⟩).1
  rw [h1]
  by_cases e : r = b
  · rw [if_pos e]
    exact Or.inl ⟨rfl, pAll_0 (x := j) h0 (by unfold cNe; rw [if_pos (by rw [hs, e])]; decide) _ (by omega)⟩
  · rw [if_neg e]
    rcases h.2 r r0 r7 with ⟨g1, g2⟩ | ⟨g1, g2⟩
    · refine Or.inl ⟨g1, ?_⟩
      rw [show (j + 1).toNat = j.toNat + 1 by omega]
      show (if pAll (cNe s r) j.toNat = 1 ∧ cNe s r ((j.toNat : Nat) : Int) = 1 then (1 : Int) else 0) = 0
      rw [if_neg (fun z => by omega)]
    · refine Or.inr ⟨g1, pAll_S g2 h0 ?_⟩
      unfold cNe
      rw [if_neg (by rw [hs]; omega)]
def nS_165_m : List (Nat × Nat) := [(61, 99999)]
theorem n_165 {xs : Nat → Int} {Ln d : Nat} {T : List cK} {M : cM} (hT : TT T) (hI : Rng M) {kind : Int} (p0 : 0 ≤ kind ∧ kind ≤ 5) : cC k_P xs Ln (d + 0) 165 [rf 0, (0, kind)] (T, M) (qW T M nS_165_m 0 (fun v M1 => (-1) ≤ v ∧ v ≤ (-1) ∧ (RFn kind (M 61) (M1 61)))) := by
  show cP k_P xs Ln (d + 0) 165 0 [(0, rf 0), (1, (0, kind))] [] (T, M) _
  have hFm : Fr nS_165_m M M := Fr.refl
  refine s_iload_n kx_165_0 rfl ?_
  refine s_if_lt (t := 23) kx_165_1 (by decide) (fun hc1 => absurd hc1 (by omega)) (fun hc1 => ?_)
  refine s_iload_n kx_165_4 rfl ?_
  refine s_aload_n kx_165_5 rfl ?_
  refine r_getR (k := 0) (f := 7) (k2 := 61) kx_165_6 kp_165_58 (tk_0 hT) kf_11_7 (by decide) (rq_0_7 hI) ?_
  refine r_alen (k := 61) kx_165_9 (tk_61 hT) ⟨by decide, by decide⟩ ?_
  refine s_icmp_ge (t := 23) kx_165_10 (by decide) (fun hc2 => absurd hc2 (by omega)) (fun hc2 => ?_)
  refine s_aload_n kx_165_13 rfl ?_
  refine r_getR (k := 0) (f := 7) (k2 := 61) kx_165_14 kp_165_58 (tk_0 hT) kf_11_7 (by decide) (rq_0_7 hI) ?_
  refine s_iload_n kx_165_17 rfl ?_
  refine s_dup2 kx_165_18 rfl rfl ?_
  refine r_aldU (k := 61) kx_165_19 (tk_61 hT) ⟨by omega, by omega⟩ (fun v3 v3e => ?_)
  refine s_iconst (v := 1) kx_165_20 (by decide) ?_
  refine s_iadd (z := (tbP v3 1)) kx_165_21 rfl ?_
  refine r_ast (k := 61) kx_165_22 (tk_61 hT) ⟨by omega, by omega⟩ hI ru_61 (fun M4 hI4 u4 => ?_)
  have hFm4 := hFm.up u4 rfl
  refine s_iconst (v := (-1)) kx_165_23 (by decide) ?_
  exact s_iret kx_165_24 (Or.inl kq_165) ⟨_, _, rfl, rfl, hI4, hFm4, ⟨by omega, by omega, (RFn.up (x := 0) u4 v3e)⟩⟩
def nS_218_m : List (Nat × Nat) := [(91, 99999)]
theorem n_218 {xs : Nat → Int} {Ln d : Nat} {T : List cK} {M : cM} (hT : TT T) (hI : Rng M) {kind : Int} (p0 : 0 ≤ kind ∧ kind ≤ 5) : cC k_P xs Ln (d + 0) 218 [rf 63, (0, kind)] (T, M) (qW T M nS_218_m 0 (fun v M1 => (-1) ≤ v ∧ v ≤ (-1) ∧ (RFn kind (M 91) (M1 91)))) := by
  show cP k_P xs Ln (d + 0) 218 0 [(0, rf 63), (1, (0, kind))] [] (T, M) _
  have hFm : Fr nS_218_m M M := Fr.refl
  refine s_aload_n kx_218_0 rfl ?_
  refine r_getR (k := 63) (f := 47) (k2 := 91) kx_218_1 kp_218_156 (tk_63 hT) kf_12_47 (by decide) (rq_63_47 hI) ?_
  refine s_iload_n kx_218_4 rfl ?_
  refine s_dup2 kx_218_5 rfl rfl ?_
  refine r_aldU (k := 91) kx_218_6 (tk_91 hT) ⟨by omega, by omega⟩ (fun v1 v1e => ?_)
  refine s_iconst (v := 1) kx_218_7 (by decide) ?_
  refine s_iadd (z := (tbP v1 1)) kx_218_8 rfl ?_
  refine r_ast (k := 91) kx_218_9 (tk_91 hT) ⟨by omega, by omega⟩ hI ru_91 (fun M2 hI2 u2 => ?_)
  have hFm2 := hFm.up u2 rfl
  refine s_iconst (v := (-1)) kx_218_10 (by decide) ?_
  exact s_iret kx_218_11 (Or.inl kq_218) ⟨_, _, rfl, rfl, hI2, hFm2, ⟨by omega, by omega, (RFn.up (x := 0) u2 v1e)⟩⟩
