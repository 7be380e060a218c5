/-! what an errand leaves behind is kept from call to call -/
def ALD (M : cM) : Prop := M 51 2 = M 63 68 ∧ ∀ k : Nat, (k : Int) < M 51 2 → M 53 k = M 106 k
def alf (F : List (Nat × Nat)) : Bool := !c_in F 51 2 && (!c_in F 63 68 && [53, 106].all fun c => F.all fun p => p.1 != c)
theorem ALD.of {M M1 : cM} (h : ALD M) (a : M1 51 2 = M 51 2) (b : M1 63 68 = M 63 68) (c : ∀ k, M1 53 k = M 53 k) (d : ∀ k, M1 106 k = M 106 k) : ALD M1 := by
  unfold ALD
  rw [a, b]
  refine ⟨h.1, fun k hk => ?_⟩
  rw [c, d]
  exact h.2 k hk
theorem ALD.fr {F : List (Nat × Nat)} {M M1 : cM} (h : ALD M) (g : Fr F M M1) (hs : alf F = true) : ALD M1 := by
  unfold alf at hs
  rw [Bool.and_eq_true, Bool.and_eq_true] at hs
  obtain ⟨h2, h3, h4⟩ := hs
  have e : ∀ c, c = 53 ∨ c = 106 → ∀ f, M1 c f = M c f := fun c hc f => g c f (nin (by omega) (List.all_eq_true.mp h4 c (by rcases hc with rfl | rfl <;> simp)) f)
  exact h.of (g 51 2 (by simpa using h2)) (g 63 68 (by simpa using h3)) (e 53 (Or.inl rfl)) (e 106 (Or.inr rfl))
theorem ALD.er {D S M Ma Mb : cM} {s : Nat → Int} {p n v w : Int} (h : ALD M) (hvw : v = w) (h1 : (v = -1 ∧ pEt D S s p n = 0 ∧ Ma 51 2 = M 51 2 ∧ ∀ k, Ma 53 k = M 53 k) ∨ (pEt D S s p n = 1 ∧ v = pVb D S s p (n / 2).toNat 0 (S 1 p.toNat) ∧ Ma 51 2 = (if v = -1 then 0 else n / 2) ∧ (v ≠ -1 → pTr D S s p (n / 2).toNat Ma (n / 2)))) (a1 : Ma 63 68 = M 63 68) (a2 : ∀ f, Ma 106 f = M 106 f) (h2 : (w = -1 ∧ pEt D S s p n = 0 ∧ Mb 63 68 = Ma 63 68 ∧ ∀ k, Mb 106 k = Ma 106 k) ∨ (pEt D S s p n = 1 ∧ w = pVb D S s p (n / 2).toNat 0 (S 1 p.toNat) ∧ Mb 63 68 = (if w = -1 then 0 else n / 2) ∧ (w ≠ -1 → ∀ k : Nat, (k : Int) < n / 2 → Mb 106 k = pTn D S s p (n / 2).toNat k))) (b1 : Mb 51 2 = Ma 51 2) (b2 : ∀ f, Mb 53 f = Ma 53 f) : ALD Mb := by
  subst hvw
  rcases h1 with ⟨_, c2, c3, c4⟩ | ⟨c1, _, c3, c4⟩
  · rcases h2 with ⟨_, _, d3, d4⟩ | ⟨d1, _⟩
    · exact h.of (b1.trans c3) (d3.trans a1) (fun k => (b2 k).trans (c4 k)) (fun k => (d4 k).trans (a2 k))
    · omega
  · rcases h2 with ⟨_, d1, _⟩ | ⟨_, _, d3, d4⟩
    · omega
    · refine ⟨b1.trans (c3.trans d3.symm), fun k hk => ?_⟩
      rw [b1, c3] at hk
      split at hk
      next => omega
      next g => exact (b2 k).trans ((c4 g k hk).trans (d4 g k hk).symm)
/-- a town told on both sides: refused or new -/
theorem ALD.tw {M Ma Mb : cM} {v : Int} {X Y : Prop} (h : ALD M) (h1 : (v = -1 ∧ Ma 51 2 = M 51 2 ∧ ∀ f, Ma 53 f = M 53 f) ∨ (v ≠ -1 ∧ Ma 51 2 = 0)) (a1 : Ma 63 68 = M 63 68) (a2 : ∀ f, Ma 106 f = M 106 f) (h2 : (Mb 63 14 = Ma 63 14 ∧ Mb 63 68 = Ma 63 68 ∧ ∀ f, Mb 106 f = Ma 106 f) ∨ (Mb 63 14 = 1 - Ma 63 14 ∧ Mb 63 68 = 0)) (b1 : Mb 51 2 = Ma 51 2) (b2 : ∀ f, Mb 53 f = Ma 53 f) (hw : ((v = -1 ∧ X) ∨ (0 ≤ v ∧ Y)) ∧ ((v = -1 ∧ Mb 63 14 = Ma 63 14) ∨ (0 ≤ v ∧ Mb 63 14 = 1 - Ma 63 14))) : ALD Mb := by
  have d := hw.2
  rcases h1 with ⟨g1, g2, g3⟩ | ⟨g1, g2⟩
  · rcases h2 with ⟨_, k2, k3⟩ | ⟨k1, _⟩
    · exact h.of (b1.trans g2) (k2.trans a1) (fun k => (b2 k).trans (g3 k)) (fun k => (k3 k).trans (a2 k))
    · omega
  · rcases h2 with ⟨k1, _⟩ | ⟨_, k2⟩
    · omega
    · refine ⟨b1.trans (g2.trans k2.symm), fun k hk => ?_⟩
      rw [b1, g2] at hk
      omega
def pAq (n : Int) (f : Nat → Int) (k : Int) : Int := if 0 ≤ k ∧ k < n then f k.toNat else -1
theorem along_eq {M : cM} {k v w : Int} (h : ALD M) (h1 : v = pAq (M 51 2) (fun i => M 53 i) k) (h2 : w = pAq (M 63 68) (fun i => M 106 i) k) : v = w := by
  rw [h1, h2, ← h.1]
  unfold pAq
  by_cases g : 0 ≤ k ∧ k < M 51 2
  · rw [if_pos g, if_pos g]
    exact h.2 k.toNat (by omega)
  · rw [if_neg g, if_neg g]
