/-! the least minutes: rounds of relaxing come to rest -/
def mnB (f : Nat → Int) : Nat → Int → Int
  | 0, x => x
  | n + 1, x => if f n < mnB f n x then f n else mnB f n x
theorem mnB_le {f : Nat → Int} {x : Int} : ∀ {n : Nat}, mnB f n x ≤ x
  | 0 => Int.le_refl _
  | n + 1 => by
    have := @mnB_le f x n
    unfold mnB
    split <;> omega
theorem mnB_leF {f : Nat → Int} {x : Int} {b : Nat} : ∀ {n : Nat}, b < n → mnB f n x ≤ f b
  | 0, h => absurd h (by omega)
  | n + 1, h => by
    unfold mnB
    by_cases e : b = n
    · subst e
      split <;> omega
    · have := @mnB_leF f x b n (by omega)
      split <;> omega
theorem mnB_or {f : Nat → Int} {x : Int} : ∀ {n : Nat}, mnB f n x = x ∨ ∃ b, b < n ∧ mnB f n x = f b
  | 0 => Or.inl rfl
  | n + 1 => by
    unfold mnB
    split
    next => exact Or.inr ⟨n, by omega, rfl⟩
    next =>
      rcases @mnB_or f x n with h | ⟨b, h1, h2⟩
      · exact Or.inl h
      · exact Or.inr ⟨b, by omega, h2⟩
section BF
variable {n t : Nat} {s : Nat → Nat → Int}
/-- the least minutes by at most k ways -/
def bD (n t : Nat) (s : Nat → Nat → Int) : Nat → Nat → Int
  | 0, a => if a = t then 0 else 100000000
  | k + 1, a => mnB (fun b => s a b + bD n t s k b) n (bD n t s k a)
theorem bD_step {k a : Nat} : bD n t s (k + 1) a ≤ bD n t s k a := mnB_le
theorem bD_anti {a j : Nat} : ∀ {k : Nat}, j ≤ k → bD n t s k a ≤ bD n t s j a
  | 0, h => by rw [Nat.le_zero.mp h]; exact Int.le_refl _
  | k + 1, h => by
    by_cases e : j = k + 1
    · rw [e]; exact Int.le_refl _
    · exact Int.le_trans bD_step (bD_anti (k := k) (by omega))
theorem bD_way {k a b : Nat} (hb : b < n) : bD n t s (k + 1) a ≤ s a b + bD n t s k b := @mnB_leF (fun b => s a b + bD n t s k b) _ b n hb
theorem bD_or {k a : Nat} : bD n t s (k + 1) a = bD n t s k a ∨ ∃ b, b < n ∧ bD n t s (k + 1) a = s a b + bD n t s k b := mnB_or
theorem bD_pos (hs : ∀ a b, a < n → b < n → 1 ≤ s a b) : ∀ {k a : Nat}, a < n → 0 ≤ bD n t s k a
  | 0, a, _ => by
    unfold bD
    split <;> omega
  | k + 1, a, ha => by
    rcases @bD_or n t s k a with h | ⟨b, hb, h⟩
    · rw [h]; exact bD_pos hs ha
    · have h1 := hs a b ha hb
      have h2 := @bD_pos hs k b hb
      omega
theorem bD_t (hs : ∀ a b, a < n → b < n → 1 ≤ s a b) (ht : t < n) {k : Nat} : bD n t s k t = 0 := by
  have h1 := @bD_pos n t s hs k t ht
  have h2 := @bD_anti n t s t 0 k (by omega)
  have h3 : bD n t s 0 t = 0 := if_pos rfl
  omega
theorem bD_chain (hs : ∀ a b, a < n → b < n → 1 ≤ s a b) (ht : t < n) : ∀ (k a : Nat), a < n → bD n t s (k + 1) a < bD n t s k a → ∃ l : List Nat, l.length = k + 1 ∧ (a :: l).Nodup ∧ (∀ x ∈ a :: l, x < n) ∧ (∀ x ∈ l, bD n t s (k + 1) x < bD n t s (k + 1) a)
  | 0, a, ha, h => by
    rcases @bD_or n t s 0 a with g | ⟨b, hb, g⟩
    · omega
    · have h1 := hs a b ha hb
      have hat : a ≠ t := by
        rintro rfl
        rw [bD_t hs ha, bD_t hs ha] at h
        omega
      have h0a : bD n t s 0 a = 100000000 := if_neg hat
      have hbt : b = t := by
        by_cases e : b = t
        · exact e
        · have h0b : bD n t s 0 b = 100000000 := if_neg e
          omega
      subst hbt
      refine ⟨[b], rfl, ?_, ?_, ?_⟩
      · simp [hat]
      · simp [ha, hb]
      · intro x hx
        rw [List.mem_singleton.mp hx, bD_t hs hb]
        have h0b : bD n b s 0 b = 0 := if_pos rfl
        omega
  | k + 1, a, ha, h => by
    rcases @bD_or n t s (k + 1) a with g | ⟨b, hb, g⟩
    · omega
    · have h1 := hs a b ha hb
      have h2 := @bD_step n t s k b
      have h3 := @bD_way n t s k a b hb
      obtain ⟨l, g1, g2, g3, g4⟩ := bD_chain hs ht k b hb (by omega)
      have g5 : ∀ x ∈ b :: l, bD n t s (k + 1 + 1) x < bD n t s (k + 1 + 1) a := by
        intro x hx
        have h4 := @bD_step n t s (k + 1) x
        rcases List.mem_cons.mp hx with rfl | hx
        · omega
        · have := g4 x hx
          omega
      refine ⟨b :: l, by simp [g1], ?_, ?_, g5⟩
      · refine List.nodup_cons.mpr ⟨?_, g2⟩
        intro hm
        have := g5 a hm
        omega
      · intro x hx
        rcases List.mem_cons.mp hx with rfl | hx
        · exact ha
        · exact g3 x hx
theorem pigeon : ∀ (n : Nat) (l : List Nat), l.Nodup → (∀ x ∈ l, x < n) → l.length ≤ n
  | 0, l, _, h => by
    cases l with
    | nil => exact Nat.le_refl _
    | cons x l => exact absurd (h x List.mem_cons_self) (by omega)
  | n + 1, l, hd, h => by
    by_cases hm : n ∈ l
    · have h1 := pigeon n (l.erase n) (hd.erase n) (fun x hx => by
        have h2 := (hd.mem_erase_iff).mp hx
        have h3 := h x h2.2
        omega)
      rw [List.length_erase_of_mem hm] at h1
      omega
    · have h1 := pigeon n l hd (fun x hx => by
        have h3 := h x hx
        have h4 : x ≠ n := fun e => hm (e ▸ hx)
        omega)
      omega
theorem bD_rest (hs : ∀ a b, a < n → b < n → 1 ≤ s a b) (ht : t < n) {k a : Nat} (hk : n ≤ k + 1) (ha : a < n) : bD n t s (k + 1) a = bD n t s k a := by
  have h1 := @bD_step n t s k a
  by_cases h : bD n t s (k + 1) a < bD n t s k a
  · obtain ⟨l, g1, g2, g3, _⟩ := bD_chain hs ht k a ha h
    have := pigeon n (a :: l) g2 g3
    simp [g1] at this
    omega
  · omega
theorem bD_low (hs : ∀ a b, a < n → b < n → 1 ≤ s a b) (ht : t < n) {a b : Nat} (ha : a < n) (hb : b < n) : bD n t s (n - 1) a ≤ s a b + bD n t s (n - 1) b := by
  rw [← bD_rest hs ht (k := n - 1) (by omega) ha]
  exact bD_way hb
theorem bD_fix : ∀ {k a : Nat}, bD n t s k a < 100000000 → a ≠ t → ∃ b j, b < n ∧ j < k ∧ bD n t s k a = s a b + bD n t s j b
  | 0, a, h, hat => by
    have : bD n t s 0 a = 100000000 := if_neg hat
    omega
  | k + 1, a, h, hat => by
    rcases @bD_or n t s k a with g | ⟨b, hb, g⟩
    · rw [g] at h ⊢
      obtain ⟨b, j, h1, h2, h3⟩ := bD_fix h hat
      exact ⟨b, j, h1, by omega, h3⟩
    · exact ⟨b, k, hb, by omega, g⟩
theorem bD_eq (hs : ∀ a b, a < n → b < n → 1 ≤ s a b) (ht : t < n) {a : Nat} (ha : a < n) (h : bD n t s (n - 1) a < 100000000) (hat : a ≠ t) : ∃ b, b < n ∧ s a b + bD n t s (n - 1) b = bD n t s (n - 1) a := by
  obtain ⟨b, j, hb, hj, e⟩ := bD_fix h hat
  have h1 := @bD_anti n t s b j (n - 1) (by omega)
  have h2 := @bD_low n t s hs ht a b ha hb
  exact ⟨b, hb, by omega⟩
end BF
/-- the ways' minutes as numbers -/
def bS (M : cM) (a b : Nat) : Int := M 103 (8 * a + b)
def bN (M : cM) : Nat := (M 65 (M 63 14).toNat).toNat
/-- behind k rounds, i rooms and j ways of the round -/
def RB (M M' : cM) (t k i j : Nat) : Prop := ∀ a, a < bN M → (a < i → M' 105 a ≤ bD (bN M) t (bS M) (k + 1) a) ∧ M' 105 a ≤ bD (bN M) t (bS M) k a ∧ bD (bN M) t (bS M) (bN M - 1) a ≤ M' 105 a ∧ (a = i → ∀ b, b < j → b < bN M → M' 105 a ≤ bS M a b + bD (bN M) t (bS M) k b)
theorem RB.relax {M M' M2 : cM} {t k i j : Nat} {v : Int} (h : RB M M' t k i j) (hs : ∀ a b, a < bN M → b < bN M → 1 ≤ bS M a b) (ht : t < bN M) (hi : i < bN M) (hj : j < bN M) (u : Up M' 105 i v M2) (hv : v ≤ M' 105 i ∧ v ≤ bS M i j + M' 105 j ∧ (v = M' 105 i ∨ v = bS M i j + M' 105 j)) : RB M M2 t k i (j + 1) := by
  intro a ha
  obtain ⟨h1, h2, h3, h4⟩ := h a ha
  by_cases e : a = i
  · subst e
    rw [u.1]
    have hjj := h j hj
    refine ⟨fun g => absurd g (by omega), by omega, ?_, ?_⟩
    · rcases hv.2.2 with g | g
      · omega
      · have := @bD_low (bN M) t (bS M) hs ht a j ha hj
        have := hjj.2.2.1
        omega
    · intro _ b hb hbn
      by_cases e2 : b = j
      · subst e2
        have := hjj.2.1
        omega
      · have := h4 rfl b (by omega) hbn
        omega
  · rw [u.2 105 a (by omega)]
    exact ⟨h1, h2, h3, fun g => absurd g e⟩
theorem RB.row {M M' : cM} {t k i j : Nat} (h : RB M M' t k i j) (hj : bN M ≤ j) : RB M M' t k (i + 1) 0 := by
  intro a ha
  obtain ⟨h1, h2, h3, h4⟩ := h a ha
  refine ⟨fun g => ?_, h2, h3, fun _ b hb => absurd hb (by omega)⟩
  by_cases e : a = i
  · show _ ≤ mnB (fun b => bS M a b + bD (bN M) t (bS M) k b) (bN M) (bD (bN M) t (bS M) k a)
    rcases @mnB_or (fun b => bS M a b + bD (bN M) t (bS M) k b) (bD (bN M) t (bS M) k a) (bN M) with g2 | ⟨b, hb, g2⟩
    · rw [g2]; exact h2
    · rw [g2]; exact h4 e b (by omega) hb
  · exact h1 (by omega)
theorem RB.round {M M' : cM} {t k i j : Nat} (h : RB M M' t k i j) (hi : bN M ≤ i) : RB M M' t (k + 1) 0 0 := by
  intro a ha
  obtain ⟨h1, h2, h3, h4⟩ := h a ha
  exact ⟨fun g => absurd g (by omega), h1 (by omega), h3, fun _ b hb => absurd hb (by omega)⟩
theorem RB.init {M M' : cM} {t : Nat} (h : ∀ a, a < bN M → M' 105 a = if a = t then 0 else 100000000) : RB M M' t 0 0 0 := by
  intro a ha
  have e : M' 105 a = bD (bN M) t (bS M) 0 a := h a ha
  refine ⟨fun g => absurd g (by omega), by omega, ?_, fun _ b hb => absurd hb (by omega)⟩
  rw [e]
  exact bD_anti (by omega)
/-- from every room but the last there is a next one through which nothing is lost -/
def FX (M : cM) (t : Int) : Prop := ∀ a : Int, 0 ≤ a → a ≤ 7 → a ≠ t → M 105 a.toNat < 100000000 → ∃ b : Int, 0 ≤ b ∧ b ≤ 7 ∧ (∀ c : Int, 0 ≤ c → c ≤ b → 1 ≤ M 103 (8 * a + c).toNat) ∧ M 103 (8 * a + b).toNat + M 105 b.toNat = M 105 a.toNat
theorem RB.fx {M M' : cM} {t k : Nat} (h : RB M M' t k 0 0) (hs : ∀ a b, a < bN M → b < bN M → 1 ≤ bS M a b) (ht : t < bN M) (hn : bN M ≤ 8) (hk : bN M ≤ k) (h3 : ∀ f, M' 103 f = M 103 f) (h5 : ∀ a : Nat, bN M ≤ a → a ≤ 7 → M' 105 a = 100000000) : FX M' t := by
  have hL : ∀ a, a < bN M → M' 105 a = bD (bN M) t (bS M) (bN M - 1) a := by
    intro a ha
    obtain ⟨_, g2, g3, _⟩ := h a ha
    have := @bD_anti (bN M) t (bS M) a (bN M - 1) k (by omega)
    omega
  intro a a1 a2 a3 a4
  have ha : a.toNat < bN M := by
    by_cases g : a.toNat < bN M
    · exact g
    · have := h5 a.toNat (by omega) (by omega)
      omega
  rw [hL _ ha] at a4
  obtain ⟨b, hb, e⟩ := bD_eq hs ht ha a4 (by omega)
  refine ⟨(b : Int), by omega, by omega, ?_, ?_⟩
  · intro c c1 c2
    rw [h3, show (8 * a + c).toNat = 8 * a.toNat + c.toNat by omega]
    exact hs a.toNat c.toNat ha (by omega)
  · rw [h3, hL _ ha, Int.toNat_natCast, hL b hb, show (8 * a + (b : Int)).toNat = 8 * a.toNat + b by omega]
    exact e
/-- the ways laid so far take a minute at least -/
def pS (M : cM) (n i j : Int) : Prop := ∀ a b : Int, 0 ≤ a → a < n → 0 ≤ b → b < n → (a < i ∨ (a = i ∧ b < j)) → 1 ≤ M 103 (8 * a + b).toNat
theorem pS.up {M M1 : cM} {k f : Nat} {n i j v : Int} (h : pS M n i j) (u : Up M k f v M1) (hv : k = 103 → 1 ≤ v) : pS M1 n i j := by
  intro a b a1 a2 a3 a4 a5
  by_cases e : 103 = k ∧ (8 * a + b).toNat = f
  · obtain ⟨rfl, rfl⟩ := e
    rw [u.1]
    exact hv rfl
  · rw [u.2 _ _ e]
    exact h a b a1 a2 a3 a4 a5
theorem pS.put {M M1 : cM} {n i j v : Int} (h : pS M n i j) (u : Up M 103 (8 * i + j).toNat v M1) (hv : 1 ≤ v) : pS M1 n i (j + 1) := by
  intro a b a1 a2 a3 a4 a5
  by_cases e : 103 = 103 ∧ (8 * a + b).toNat = (8 * i + j).toNat
  · rw [e.2, u.1]
    exact hv
  · rw [u.2 _ _ e]
    refine h a b a1 a2 a3 a4 ?_
    rcases a5 with a5 | ⟨a5, a6⟩
    · exact Or.inl a5
    · refine Or.inr ⟨a5, ?_⟩
      by_cases e2 : b = j
      · exact absurd ⟨rfl, by rw [a5, e2]⟩ e
      · omega
theorem pS.fr {S : List (Nat × Nat)} {M M1 : cM} {n i j : Int} (h : pS M n i j) (g : Fr S M M1) (hs : ∀ f, c_in S 103 f = false) : pS M1 n i j := fun a b a1 a2 a3 a4 a5 => by
  rw [g 103 _ (hs _)]
  exact h a b a1 a2 a3 a4 a5
theorem pS.row {M : cM} {n i j : Int} (h : pS M n i j) (hj : n ≤ j) : pS M n (i + 1) 0 := by
  intro a b a1 a2 a3 a4 a5
  refine h a b a1 a2 a3 a4 ?_
  omega
theorem wr_up {M M1 : cM} {k f : Nat} {v a b : Int} (u : Up M k f v M1) (h : k ≠ 68 ∧ (k ≠ 63 ∨ f ≠ 14)) : wr M1 a b = wr M a b := by
  unfold wr
  rw [u.2 63 14 (by omega), u.2 68 _ (by omega)]
theorem nRm_up {M M1 : cM} {k f : Nat} {v : Int} (u : Up M k f v M1) (h : k ≠ 65 ∧ (k ≠ 63 ∨ f ≠ 14)) : nRm M1 = nRm M := by
  unfold nRm
  rw [u.2 63 14 (by omega), u.2 65 _ (by omega)]
theorem pS_bS {M : cM} {n i j : Int} (h : pS M n i j) (hn : n = nRm M) (hi : n ≤ i) : ∀ a b, a < bN M → b < bN M → 1 ≤ bS M a b := by
  intro a b ha hb
  have e : (bN M : Int) = nRm M ∨ (nRm M < 0 ∧ bN M = 0) := by
    unfold bN nRm
    omega
  have h1 := h (a : Int) (b : Int) (by omega) (by omega) (by omega) (by omega) (by omega)
  rw [show (8 * (a : Int) + (b : Int)).toNat = 8 * a + b by omega] at h1
  exact h1
theorem kx_269_0 : x_code k_P 269 0 = some (.iconst 0, 1) := by decide +kernel
theorem kx_269_1 : x_code k_P 269 1 = some (.istore_n 3, 1) := by decide +kernel
theorem km_269_3 : 3 < x_maxL k_P 269 := by decide +kernel
theorem kx_269_2 : x_code k_P 269 2 = some (.iload_n 3, 1) := by decide +kernel
theorem kx_269_3 : x_code k_P 269 3 = some (.aload_n 0, 1) := by decide +kernel
theorem kx_269_4 : x_code k_P 269 4 = some (.getfield 57, 3) := by decide +kernel
theorem kp_269_57 : x_pool k_P 269 57 = (1, 12, 15) := by decide +kernel
theorem kx_269_7 : x_code k_P 269 7 = some (.aload_n 0, 1) := by decide +kernel
theorem kx_269_8 : x_code k_P 269 8 = some (.getfield 54, 3) := by decide +kernel
theorem kp_269_54 : x_pool k_P 269 54 = (1, 12, 14) := by decide +kernel
theorem kx_269_11 : x_code k_P 269 11 = some (.iaload, 1) := by decide +kernel
theorem kx_269_12 : x_code k_P 269 12 = some (.if_icmp .ge 173, 3) := by decide +kernel
theorem kx_269_185 : x_code k_P 269 185 = some (.return_, 1) := by decide +kernel
theorem kq_269 : x_retk k_P 269 = 0 := by decide +kernel
theorem kx_269_15 : x_code k_P 269 15 = some (.iconst 0, 1) := by decide +kernel
theorem kx_269_16 : x_code k_P 269 16 = some (.istore 4, 2) := by decide +kernel
theorem km_269_4 : 4 < x_maxL k_P 269 := by decide +kernel
theorem kx_269_18 : x_code k_P 269 18 = some (.iload 4, 2) := by decide +kernel
theorem kx_269_20 : x_code k_P 269 20 = some (.aload_n 0, 1) := by decide +kernel
theorem kx_269_21 : x_code k_P 269 21 = some (.getfield 57, 3) := by decide +kernel
theorem kx_269_24 : x_code k_P 269 24 = some (.aload_n 0, 1) := by decide +kernel
theorem kx_269_25 : x_code k_P 269 25 = some (.getfield 54, 3) := by decide +kernel
theorem kx_269_28 : x_code k_P 269 28 = some (.iaload, 1) := by decide +kernel
theorem kx_269_29 : x_code k_P 269 29 = some (.if_icmp .ge 150, 3) := by decide +kernel
theorem kx_269_179 : x_code k_P 269 179 = some (.iinc 3 1, 3) := by decide +kernel
theorem kx_269_182 : x_code k_P 269 182 = some (.goto (-180), 3) := by decide +kernel
theorem kx_269_32 : x_code k_P 269 32 = some (.bipush 8, 2) := by decide +kernel
theorem kx_269_34 : x_code k_P 269 34 = some (.iload_n 3, 1) := by decide +kernel
theorem kx_269_35 : x_code k_P 269 35 = some (.imul, 1) := by decide +kernel
theorem kx_269_36 : x_code k_P 269 36 = some (.iload 4, 2) := by decide +kernel
theorem kx_269_38 : x_code k_P 269 38 = some (.iadd, 1) := by decide +kernel
theorem kx_269_39 : x_code k_P 269 39 = some (.istore 5, 2) := by decide +kernel
theorem km_269_5 : 5 < x_maxL k_P 269 := by decide +kernel
theorem kx_269_41 : x_code k_P 269 41 = some (.aload_n 0, 1) := by decide +kernel
theorem kx_269_42 : x_code k_P 269 42 = some (.getfield 210, 3) := by decide +kernel
theorem kp_269_210 : x_pool k_P 269 210 = (1, 12, 65) := by decide +kernel
theorem kf_12_65 : (x_cls k_P 12)[65]? = some 12 := by decide +kernel
theorem kx_269_45 : x_code k_P 269 45 = some (.iload 5, 2) := by decide +kernel
theorem kx_269_47 : x_code k_P 269 47 = some (.ldc_w 571, 3) := by decide +kernel
theorem kp_269_571 : x_pool k_P 269 571 = (7, 0, 100000000) := by decide +kernel
theorem kx_269_50 : x_code k_P 269 50 = some (.iastore, 1) := by decide +kernel
theorem kx_269_51 : x_code k_P 269 51 = some (.aload_n 0, 1) := by decide +kernel
theorem kx_269_52 : x_code k_P 269 52 = some (.getfield 213, 3) := by decide +kernel
theorem kp_269_213 : x_pool k_P 269 213 = (1, 12, 66) := by decide +kernel
theorem kf_12_66 : (x_cls k_P 12)[66]? = some 12 := by decide +kernel
theorem kx_269_55 : x_code k_P 269 55 = some (.iload 5, 2) := by decide +kernel
theorem kx_269_57 : x_code k_P 269 57 = some (.iconst (-1), 1) := by decide +kernel
theorem kx_269_58 : x_code k_P 269 58 = some (.iastore, 1) := by decide +kernel
theorem kx_269_59 : x_code k_P 269 59 = some (.aload_n 0, 1) := by decide +kernel
theorem kx_269_60 : x_code k_P 269 60 = some (.iload_n 3, 1) := by decide +kernel
theorem kx_269_61 : x_code k_P 269 61 = some (.iload 4, 2) := by decide +kernel
theorem kx_269_63 : x_code k_P 269 63 = some (.invokevirtual 511, 3) := by decide +kernel
theorem kp_269_511 : x_pool k_P 269 511 = (2, 245, 2) := by decide +kernel
theorem kx_269_66 : x_code k_P 269 66 = some (.ifCond .eq 107, 3) := by decide +kernel
theorem kx_269_173 : x_code k_P 269 173 = some (.iinc 4 1, 3) := by decide +kernel
theorem kx_269_176 : x_code k_P 269 176 = some (.goto (-158), 3) := by decide +kernel
theorem kx_269_69 : x_code k_P 269 69 = some (.aload_n 0, 1) := by decide +kernel
theorem kx_269_70 : x_code k_P 269 70 = some (.iload_n 2, 1) := by decide +kernel
theorem kx_269_71 : x_code k_P 269 71 = some (.iload 4, 2) := by decide +kernel
theorem kx_269_73 : x_code k_P 269 73 = some (.invokevirtual 517, 3) := by decide +kernel
theorem kp_269_517 : x_pool k_P 269 517 = (2, 242, 2) := by decide +kernel
theorem kx_269_76 : x_code k_P 269 76 = some (.ifCond .ne 6, 3) := by decide +kernel
theorem kx_269_82 : x_code k_P 269 82 = some (.iconst 0, 1) := by decide +kernel
theorem kx_269_83 : x_code k_P 269 83 = some (.istore 6, 2) := by decide +kernel
theorem km_269_6 : 6 < x_maxL k_P 269 := by decide +kernel
theorem kx_269_85 : x_code k_P 269 85 = some (.iload 6, 2) := by decide +kernel
theorem kx_269_87 : x_code k_P 269 87 = some (.aload_n 0, 1) := by decide +kernel
theorem kx_269_88 : x_code k_P 269 88 = some (.getfield 69, 3) := by decide +kernel
theorem kp_269_69 : x_pool k_P 269 69 = (1, 12, 19) := by decide +kernel
theorem kx_269_91 : x_code k_P 269 91 = some (.aload_n 0, 1) := by decide +kernel
theorem kx_269_92 : x_code k_P 269 92 = some (.getfield 54, 3) := by decide +kernel
theorem kx_269_95 : x_code k_P 269 95 = some (.iaload, 1) := by decide +kernel
theorem kx_269_96 : x_code k_P 269 96 = some (.if_icmp .ge 77, 3) := by decide +kernel
theorem kx_269_99 : x_code k_P 269 99 = some (.iload_n 1, 1) := by decide +kernel
theorem kx_269_100 : x_code k_P 269 100 = some (.iconst (-1), 1) := by decide +kernel
theorem kx_269_101 : x_code k_P 269 101 = some (.if_icmp .eq 9, 3) := by decide +kernel
theorem kx_269_110 : x_code k_P 269 110 = some (.aload_n 0, 1) := by decide +kernel
theorem kx_269_111 : x_code k_P 269 111 = some (.iload 6, 2) := by decide +kernel
theorem kx_269_113 : x_code k_P 269 113 = some (.iload_n 2, 1) := by decide +kernel
theorem kx_269_114 : x_code k_P 269 114 = some (.aload_n 0, 1) := by decide +kernel
theorem kx_269_115 : x_code k_P 269 115 = some (.iload_n 3, 1) := by decide +kernel
theorem kx_269_116 : x_code k_P 269 116 = some (.iload 4, 2) := by decide +kernel
theorem kx_269_118 : x_code k_P 269 118 = some (.invokevirtual 511, 3) := by decide +kernel
theorem kx_269_121 : x_code k_P 269 121 = some (.invokevirtual 523, 3) := by decide +kernel
theorem kp_269_523 : x_pool k_P 269 523 = (2, 235, 3) := by decide +kernel
theorem kx_269_124 : x_code k_P 269 124 = some (.aload_n 0, 1) := by decide +kernel
theorem kx_269_125 : x_code k_P 269 125 = some (.getfield 210, 3) := by decide +kernel
theorem kx_269_128 : x_code k_P 269 128 = some (.iload 5, 2) := by decide +kernel
theorem kx_269_130 : x_code k_P 269 130 = some (.iaload, 1) := by decide +kernel
theorem kx_269_131 : x_code k_P 269 131 = some (.if_icmp .lt 6, 3) := by decide +kernel
theorem kx_269_137 : x_code k_P 269 137 = some (.aload_n 0, 1) := by decide +kernel
theorem kx_269_138 : x_code k_P 269 138 = some (.getfield 210, 3) := by decide +kernel
theorem kx_269_141 : x_code k_P 269 141 = some (.iload 5, 2) := by decide +kernel
theorem kx_269_143 : x_code k_P 269 143 = some (.aload_n 0, 1) := by decide +kernel
theorem kx_269_144 : x_code k_P 269 144 = some (.iload 6, 2) := by decide +kernel
theorem kx_269_146 : x_code k_P 269 146 = some (.iload_n 2, 1) := by decide +kernel
theorem kx_269_147 : x_code k_P 269 147 = some (.aload_n 0, 1) := by decide +kernel
theorem kx_269_148 : x_code k_P 269 148 = some (.iload_n 3, 1) := by decide +kernel
theorem kx_269_149 : x_code k_P 269 149 = some (.iload 4, 2) := by decide +kernel
theorem kx_269_151 : x_code k_P 269 151 = some (.invokevirtual 511, 3) := by decide +kernel
theorem kx_269_154 : x_code k_P 269 154 = some (.invokevirtual 523, 3) := by decide +kernel
theorem kx_269_157 : x_code k_P 269 157 = some (.iastore, 1) := by decide +kernel
theorem kx_269_158 : x_code k_P 269 158 = some (.aload_n 0, 1) := by decide +kernel
theorem kx_269_159 : x_code k_P 269 159 = some (.getfield 213, 3) := by decide +kernel
theorem kx_269_162 : x_code k_P 269 162 = some (.iload 5, 2) := by decide +kernel
theorem kx_269_164 : x_code k_P 269 164 = some (.iload 6, 2) := by decide +kernel
theorem kx_269_166 : x_code k_P 269 166 = some (.iastore, 1) := by decide +kernel
theorem kx_269_167 : x_code k_P 269 167 = some (.iinc 6 1, 3) := by decide +kernel
theorem kx_269_170 : x_code k_P 269 170 = some (.goto (-85), 3) := by decide +kernel
theorem kx_269_104 : x_code k_P 269 104 = some (.iload_n 1, 1) := by decide +kernel
theorem kx_269_105 : x_code k_P 269 105 = some (.iload 6, 2) := by decide +kernel
theorem kx_269_107 : x_code k_P 269 107 = some (.if_icmp .ne 60, 3) := by decide +kernel
theorem kx_269_134 : x_code k_P 269 134 = some (.goto 33, 3) := by decide +kernel
theorem kx_269_79 : x_code k_P 269 79 = some (.goto 94, 3) := by decide +kernel
def fS_269_l18 : List (Nat × Nat) := [(102, 99999), (103, 99999), (104, 99999), (63, 62), (63, 63), (63, 64)]
def fS_269_l2 : List (Nat × Nat) := [(102, 99999), (103, 99999), (104, 99999), (63, 62), (63, 63), (63, 64)]
def fS_269_l85 : List (Nat × Nat) := [(102, 99999), (103, 99999), (104, 99999), (63, 62), (63, 63), (63, 64)]
def fS_269_m : List (Nat × Nat) := [(102, 99999), (103, 99999), (104, 99999), (63, 62), (63, 63), (63, 64)]
theorem m_269 {xs : Nat → Int} {Ln d : Nat} {T : List cK} {M : cM} (hT : TT T) (hI : Rng M) {who c : Int} (hS : Sg M) (p0 : 0 ≤ c ∧ c ≤ 7) : cC k_P xs Ln (d + 4) 269 [rf 63, (0, who), (0, c)] (T, M) (qV T M fS_269_m (fun M1 => pS M1 (nRm M1) 8 0 ∧ nRm M1 = nRm M)) := by
  show cP k_P xs Ln (d + 4) 269 0 [(0, rf 63), (1, (0, who)), (2, (0, c))] [] (T, M) _
  have hFm : Fr fS_269_m M M := Fr.refl
  refine s_iconst (v := 0) kx_269_0 (by decide) ?_
  refine s_istore_n kx_269_1 km_269_3 rfl ?_
  have key3 : ∀ n4 : Nat, ∀ (x3_1 : Int), ∀ M2 : cM, Rng M2 → Fr fS_269_m M M2 → Fr fS_269_l2 M M2 → (0 ≤ x3_1) → (x3_1 ≤ 8) → (pS M2 (nRm M) x3_1 0) → (2147483647 - x3_1).toNat < n4 → cP k_P xs Ln (d + 4) 269 2 [(0, rf 63), (1, (0, who)), (2, (0, c)), (3, (0, x3_1))] [] (T, M2) (qV T M fS_269_m (fun M1 => pS M1 (nRm M1) 8 0 ∧ nRm M1 = nRm M)) := by
    intro n4
    induction n4 with
    | zero => intro x3_1 M2 hI2 hFm2 fl2 i5 i6 i7 hm8; exact absurd hm8 (Nat.not_lt_zero _)
    | succ n4 ih9 =>
      intro x3_1 M2 hI2 hFm2 fl2 i5 i6 i7 hm8
      skip
      refine s_iload_n kx_269_2 rfl ?_
      refine s_aload_n kx_269_3 rfl ?_
      refine r_getR (k := 63) (f := 15) (k2 := 65) kx_269_4 kp_269_57 (tk_63 hT) kf_12_15 (by decide) (rq_63_15 hI2) ?_
      refine s_aload_n kx_269_7 rfl ?_
      refine r_getI (k := 63) (f := 14) kx_269_8 kp_269_54 (tk_63 hT) kf_12_14 (fun _ => rfl) (rg_63_14 hI2) (fun v10 v10e v10a v10b => ?_)
      have v10z : M 63 14 = v10 := ((fl2 63 14 rfl)).symm.trans v10e
      refine r_ald (k := 65) kx_269_11 (tk_65 hT) ⟨by omega, by omega⟩ (rg_65 hI2) (fun v11 v11e v11a v11b => ?_)
      have hr12 : nRm M2 = v11 := by unfold nRm; rw [v10e]; exact v11e
      have hn13 : nRm M2 = nRm M := ((nRm_fr fl2 rfl (fun _ => rfl)).trans (rfl : nRm M = nRm M))
      refine s_icmp_ge (t := 185) kx_269_12 (by decide) (fun hc14 => ?_) (fun hc14 => ?_)
      · exact s_vret kx_269_185 kq_269 ⟨_, rfl, rfl, hI2, hFm2, ⟨by rw [((nRm_fr fl2 rfl (fun _ => rfl)).trans (rfl : nRm M = nRm M))]; exact (fun a b a1 a2 a3 a4 a5 => i7 a b a1 a2 a3 a4 (by omega)), ((nRm_fr fl2 rfl (fun _ => rfl)).trans (rfl : nRm M = nRm M))⟩⟩
      · refine s_iconst (v := 0) kx_269_15 (by decide) ?_
        refine s_istore kx_269_16 km_269_4 rfl ?_
        have key17 : ∀ n18 : Nat, ∀ (x4_15 : Int), ∀ M16 : cM, Rng M16 → Fr fS_269_m M M16 → Fr fS_269_l2 M M16 → Fr fS_269_l18 M2 M16 → (0 ≤ x4_15) → (x4_15 ≤ 8) → (pS M16 (nRm M) x3_1 x4_15) → (2147483647 - x4_15).toNat < n18 → cP k_P xs Ln (d + 4) 269 18 [(0, rf 63), (1, (0, who)), (2, (0, c)), (3, (0, x3_1)), (4, (0, x4_15))] [] (T, M16) (qV T M fS_269_m (fun M1 => pS M1 (nRm M1) 8 0 ∧ nRm M1 = nRm M)) := by
          intro n18
          induction n18 with
          | zero => intro x4_15 M16 hI16 hFm16 hFl216 fl16 i19 i20 i21 hm22; exact absurd hm22 (Nat.not_lt_zero _)
          | succ n18 ih23 =>
            intro x4_15 M16 hI16 hFm16 hFl216 fl16 i19 i20 i21 hm22
            refine s_iload kx_269_18 rfl ?_
            refine s_aload_n kx_269_20 rfl ?_
            refine r_getR (k := 63) (f := 15) (k2 := 65) kx_269_21 kp_269_57 (tk_63 hT) kf_12_15 (by decide) (rq_63_15 hI16) ?_
            refine s_aload_n kx_269_24 rfl ?_
            refine r_getK (k := 63) (f := 14) kx_269_25 kp_269_54 (tk_63 hT) kf_12_14 (fun _ => rfl) ((fl16 63 14 rfl).trans v10e) ?_
            refine r_aldK (k := 65) kx_269_28 (tk_65 hT) ⟨by omega, by omega⟩ ((fl16 65 _ rfl).trans v11e) ?_
            have hr24 : nRm M16 = v11 := by unfold nRm; rw [((fl16 63 14 rfl).trans v10e)]; exact ((fl16 65 _ rfl).trans v11e)
            have hn25 : nRm M16 = nRm M := ((nRm_fr fl16 rfl (fun _ => rfl)).trans ((nRm_fr fl2 rfl (fun _ => rfl)).trans (rfl : nRm M = nRm M)))
            refine s_icmp_ge (t := 179) kx_269_29 (by decide) (fun hc26 => ?_) (fun hc26 => ?_)
            · have hx27 := pS.row i21 (show nRm M ≤ x4_15 by omega)
              refine r_iinc kx_269_179 rfl km_269_3 (by decide) ⟨by omega, by omega⟩ rfl ?_
              refine s_goto (t := 2) kx_269_182 (by decide) ?_
              exact cP.wk (lS1 rfl (lS1 rfl (lS1 rfl (lS1 rfl lS0)))) (ih9 (x3_1 + 1) M16 hI16 hFm16 hFl216 (by omega) (by omega) hx27 (by omega))
            · refine s_bipush (v := 8) kx_269_32 (by decide) ?_
              refine s_iload_n kx_269_34 rfl ?_
              refine r_mul kx_269_35 ⟨by omega, by omega⟩ ?_
              refine s_iload kx_269_36 rfl ?_
              refine r_add kx_269_38 ⟨by omega, by omega⟩ ?_
              refine s_istore kx_269_39 km_269_5 rfl ?_
              refine s_aload_n kx_269_41 rfl ?_
              refine r_getR (k := 63) (f := 65) (k2 := 103) kx_269_42 kp_269_210 (tk_63 hT) kf_12_65 (by decide) (rq_63_65 hI16) ?_
              refine s_iload kx_269_45 rfl ?_
              refine s_ldc_w kx_269_47 kp_269_571 ?_
              refine r_ast (k := 103) kx_269_50 (tk_103 hT) ⟨by omega, by omega⟩ hI16 (ru_103 (by omega) (by omega)) (fun M28 hI28 u28 => ?_)
              have hFm28 := hFm16.up u28 rfl
              have hFl228 := hFl216.up u28 rfl
              have hFl1828 := fl16.up u28 rfl
              refine s_aload_n kx_269_51 rfl ?_
              refine r_getR (k := 63) (f := 66) (k2 := 104) kx_269_52 kp_269_213 (tk_63 hT) kf_12_66 (by decide) (rq_63_66 hI28) ?_
              refine s_iload kx_269_55 rfl ?_
              refine s_iconst (v := (-1)) kx_269_57 (by decide) ?_
              refine r_ast (k := 104) kx_269_58 (tk_104 hT) ⟨by omega, by omega⟩ hI28 (ru_104 (by omega) (by omega)) (fun M29 hI29 u29 => ?_)
              have hFm29 := hFm28.up u29 rfl
              have hFl229 := hFl228.up u29 rfl
              have hFl1829 := hFl1828.up u29 rfl
              refine s_aload_n kx_269_59 rfl ?_
              refine s_iload_n kx_269_60 rfl ?_
              refine s_iload kx_269_61 rfl ?_
              refine s_callV2 (k := 63) (s1 := 3) (s2 := 0) (as := [(0, x4_15), (0, x3_1)]) (rest := []) kx_269_63 kp_269_511 (Or.inl rfl) rfl (tk_63 hT) ki_245 kcl_245 rfl rfl (by decide) (m_245 (d := d + 3) (a := x3_1) (b := x4_15) hT hI29 (by omega) (by omega)) (kF (fun v30 v30p => ?_))
              refine s_if_eq (t := 173) kx_269_66 (by decide) (fun hc31 => ?_) (fun hc31 => ?_)
              · refine r_iinc kx_269_173 rfl km_269_4 (by decide) ⟨by omega, by omega⟩ rfl ?_
                refine s_goto (t := 18) kx_269_176 (by decide) ?_
                exact cP.wk (lS1 rfl (lS1 rfl (lS1 rfl (lS1 rfl (lS1 rfl lS0))))) (ih23 (x4_15 + 1) M29 hI29 hFm29 hFl229 hFl1829 (by omega) (by omega) (pS.up (pS.put i21 u28 (by omega)) u29 (fun e => absurd e (by decide))) (by omega))
              · refine s_aload_n kx_269_69 rfl ?_
                refine s_iload_n kx_269_70 rfl ?_
                refine s_iload kx_269_71 rfl ?_
                refine s_callV2 (k := 63) (s1 := 3) (s2 := 0) (as := [(0, x4_15), (0, c)]) (rest := []) kx_269_73 kp_269_517 (Or.inl rfl) rfl (tk_63 hT) ki_242 kcl_242 rfl rfl (by decide) (m_242 (d := d) (c := c) (r := x4_15) hT hI29 (by omega) (by omega)) (kF (fun v32 v32p => ?_))
                refine s_if_ne (t := 82) kx_269_76 (by decide) (fun hc33 => ?_) (fun hc33 => ?_)
                · refine s_iconst (v := 0) kx_269_82 (by decide) ?_
                  refine s_istore kx_269_83 km_269_6 rfl ?_
                  have key36 : ∀ n37 : Nat, ∀ (x6_34 : Int), ∀ M35 : cM, Rng M35 → Fr fS_269_m M M35 → Fr fS_269_l2 M M35 → Fr fS_269_l18 M2 M35 → Fr fS_269_l85 M29 M35 → (0 ≤ x6_34) → (x6_34 ≤ 8) → (pS M35 (nRm M) x3_1 (x4_15 + 1)) → (2147483647 - x6_34).toNat < n37 → cP k_P xs Ln (d + 4) 269 85 [(0, rf 63), (1, (0, who)), (2, (0, c)), (3, (0, x3_1)), (4, (0, x4_15)), (5, (0, ((8 * x3_1) + x4_15))), (6, (0, x6_34))] [] (T, M35) (qV T M fS_269_m (fun M1 => pS M1 (nRm M1) 8 0 ∧ nRm M1 = nRm M)) := by
                    intro n37
                    induction n37 with
                    | zero => intro x6_34 M35 hI35 hFm35 hFl235 hFl1835 fl35 i38 i39 i40 hm41; exact absurd hm41 (Nat.not_lt_zero _)
                    | succ n37 ih42 =>
                      intro x6_34 M35 hI35 hFm35 hFl235 hFl1835 fl35 i38 i39 i40 hm41
                      refine s_iload kx_269_85 rfl ?_
                      refine s_aload_n kx_269_87 rfl ?_
                      refine r_getR (k := 63) (f := 19) (k2 := 69) kx_269_88 kp_269_69 (tk_63 hT) kf_12_19 (by decide) (rq_63_19 hI35) ?_
                      refine s_aload_n kx_269_91 rfl ?_
                      refine r_getK (k := 63) (f := 14) kx_269_92 kp_269_54 (tk_63 hT) kf_12_14 (fun _ => rfl) ((fl35 63 14 rfl).trans ((u29.2 63 14 (by omega)).trans ((u28.2 63 14 (by omega)).trans ((fl16 63 14 rfl).trans v10e)))) ?_
                      refine r_ald (k := 69) kx_269_95 (tk_69 hT) ⟨by omega, by omega⟩ (rg_69 hI35) (fun v43 v43e v43a v43b => ?_)
                      refine s_icmp_ge (t := 173) kx_269_96 (by decide) (fun hc44 => ?_) (fun hc44 => ?_)
                      · refine r_iinc kx_269_173 rfl km_269_4 (by decide) ⟨by omega, by omega⟩ rfl ?_
                        refine s_goto (t := 18) kx_269_176 (by decide) ?_
                        exact cP.wk (lS1 rfl (lS1 rfl (lS1 rfl (lS1 rfl (lS1 rfl lS0))))) (ih23 (x4_15 + 1) M35 hI35 hFm35 hFl235 hFl1835 (by omega) (by omega) i40 (by omega))
                      · refine s_iload_n kx_269_99 rfl ?_
                        refine s_iconst (v := (-1)) kx_269_100 (by decide) ?_
                        refine s_icmp_eq (t := 110) kx_269_101 (by decide) (fun hc45 => ?_) (fun hc45 => ?_)
                        · refine s_aload_n kx_269_110 rfl ?_
                          refine s_iload kx_269_111 rfl ?_
                          refine s_iload_n kx_269_113 rfl ?_
                          refine s_aload_n kx_269_114 rfl ?_
                          refine s_iload_n kx_269_115 rfl ?_
                          refine s_iload kx_269_116 rfl ?_
                          refine s_callV2 (k := 63) (s1 := 3) (s2 := 3) (as := [(0, x4_15), (0, x3_1)]) (rest := [(0, c), (0, x6_34), rf 63]) kx_269_118 kp_269_511 (Or.inl rfl) rfl (tk_63 hT) ki_245 kcl_245 rfl rfl (by decide) (m_245 (d := d + 3) (a := x3_1) (b := x4_15) hT hI35 (by omega) (by omega)) (kF (fun v46 v46p => ?_))
                          have hw47 := ((wr_fr fl35 rfl (fun _ => rfl)).trans v30p.2.2.symm)
                          refine s_callV2 (k := 63) (s1 := 4) (s2 := 0) (as := [(0, v46), (0, c), (0, x6_34)]) (rest := []) kx_269_121 kp_269_523 (Or.inl rfl) rfl (tk_63 hT) ki_235 kcl_235 rfl rfl (by decide) (m_235 (d := d) (p := x6_34) (chair := c) (takes := v46) hT hI35 (hS.fr hFm35 rfl) (by omega) (by omega) (by omega)) (kW (fun v48 M49 hI49 fr49 v48p => ?_))
                          have hFm49 := hFm35.call fr49 rfl
                          have hFl249 := hFl235.call fr49 rfl
                          have hFl1849 := hFl1835.call fr49 rfl
                          have hFl8549 := fl35.call fr49 rfl
                          refine s_aload_n kx_269_124 rfl ?_
                          refine r_getR (k := 63) (f := 65) (k2 := 103) kx_269_125 kp_269_210 (tk_63 hT) kf_12_65 (by decide) (rq_63_65 hI49) ?_
                          refine s_iload kx_269_128 rfl ?_
                          refine r_ald (k := 103) kx_269_130 (tk_103 hT) ⟨by omega, by omega⟩ (rg_103 hI49) (fun v50 v50e v50a v50b => ?_)
                          refine s_icmp_lt (t := 137) kx_269_131 (by decide) (fun hc51 => ?_) (fun hc51 => ?_)
                          · refine s_aload_n kx_269_137 rfl ?_
                            refine r_getR (k := 63) (f := 65) (k2 := 103) kx_269_138 kp_269_210 (tk_63 hT) kf_12_65 (by decide) (rq_63_65 hI49) ?_
                            refine s_iload kx_269_141 rfl ?_
                            refine s_aload_n kx_269_143 rfl ?_
                            refine s_iload kx_269_144 rfl ?_
                            refine s_iload_n kx_269_146 rfl ?_
                            refine s_aload_n kx_269_147 rfl ?_
                            refine s_iload_n kx_269_148 rfl ?_
                            refine s_iload kx_269_149 rfl ?_
                            refine s_callV2 (k := 63) (s1 := 3) (s2 := 5) (as := [(0, x4_15), (0, x3_1)]) (rest := [(0, c), (0, x6_34), rf 63, (0, ((8 * x3_1) + x4_15)), rf 103]) kx_269_151 kp_269_511 (Or.inl rfl) rfl (tk_63 hT) ki_245 kcl_245 rfl rfl (by decide) (m_245 (d := d + 3) (a := x3_1) (b := x4_15) hT hI49 (by omega) (by omega)) (kF (fun v52 v52p => ?_))
                            have hw53 := ((wr_fr fr49 rfl (fun _ => rfl)).trans ((wr_fr fl35 rfl (fun _ => rfl)).trans v30p.2.2.symm))
                            refine s_callV2 (k := 63) (s1 := 4) (s2 := 2) (as := [(0, v52), (0, c), (0, x6_34)]) (rest := [(0, ((8 * x3_1) + x4_15)), rf 103]) kx_269_154 kp_269_523 (Or.inl rfl) rfl (tk_63 hT) ki_235 kcl_235 rfl rfl (by decide) (m_235 (d := d) (p := x6_34) (chair := c) (takes := v52) hT hI49 (hS.fr hFm49 rfl) (by omega) (by omega) (by omega)) (kW (fun v54 M55 hI55 fr55 v54p => ?_))
                            have hFm55 := hFm49.call fr55 rfl
                            have hFl255 := hFl249.call fr55 rfl
                            have hFl1855 := hFl1849.call fr55 rfl
                            have hFl8555 := hFl8549.call fr55 rfl
                            refine r_ast (k := 103) kx_269_157 (tk_103 hT) ⟨by omega, by omega⟩ hI55 (ru_103 (by omega) (by omega)) (fun M56 hI56 u56 => ?_)
                            have hFm56 := hFm55.up u56 rfl
                            have hFl256 := hFl255.up u56 rfl
                            have hFl1856 := hFl1855.up u56 rfl
                            have hFl8556 := hFl8555.up u56 rfl
                            refine s_aload_n kx_269_158 rfl ?_
                            refine r_getR (k := 63) (f := 66) (k2 := 104) kx_269_159 kp_269_213 (tk_63 hT) kf_12_66 (by decide) (rq_63_66 hI56) ?_
                            refine s_iload kx_269_162 rfl ?_
                            refine s_iload kx_269_164 rfl ?_
                            refine r_ast (k := 104) kx_269_166 (tk_104 hT) ⟨by omega, by omega⟩ hI56 (ru_104 (by omega) (by omega)) (fun M57 hI57 u57 => ?_)
                            have hFm57 := hFm56.up u57 rfl
                            have hFl257 := hFl256.up u57 rfl
                            have hFl1857 := hFl1856.up u57 rfl
                            have hFl8557 := hFl8556.up u57 rfl
                            refine r_iinc kx_269_167 rfl km_269_6 (by decide) ⟨by omega, by omega⟩ rfl ?_
                            refine s_goto (t := 85) kx_269_170 (by decide) ?_
                            exact cP.wk (lS1 rfl (lS1 rfl (lS1 rfl (lS1 rfl (lS1 rfl (lS1 rfl (lS1 rfl lS0))))))) (ih42 (x6_34 + 1) M57 hI57 hFm57 hFl257 hFl1857 hFl8557 (by omega) (by omega) (pS.up (pS.up (pS.fr (pS.fr i40 fr49 (fun _ => rfl)) fr55 (fun _ => rfl)) u56 (fun _ => by omega)) u57 (fun e => absurd e (by decide))) (by omega))
                          · refine s_goto (t := 167) kx_269_134 (by decide) ?_
                            refine r_iinc kx_269_167 rfl km_269_6 (by decide) ⟨by omega, by omega⟩ rfl ?_
                            refine s_goto (t := 85) kx_269_170 (by decide) ?_
                            exact cP.wk (lS1 rfl (lS1 rfl (lS1 rfl (lS1 rfl (lS1 rfl (lS1 rfl (lS1 rfl lS0))))))) (ih42 (x6_34 + 1) M49 hI49 hFm49 hFl249 hFl1849 hFl8549 (by omega) (by omega) (pS.fr i40 fr49 (fun _ => rfl)) (by omega))
                        · refine s_iload_n kx_269_104 rfl ?_
                          refine s_iload kx_269_105 rfl ?_
                          refine s_icmp_ne (t := 167) kx_269_107 (by decide) (fun hc58 => ?_) (fun hc58 => ?_)
                          · refine r_iinc kx_269_167 rfl km_269_6 (by decide) ⟨by omega, by omega⟩ rfl ?_
                            refine s_goto (t := 85) kx_269_170 (by decide) ?_
                            exact cP.wk (lS1 rfl (lS1 rfl (lS1 rfl (lS1 rfl (lS1 rfl (lS1 rfl (lS1 rfl lS0))))))) (ih42 (x6_34 + 1) M35 hI35 hFm35 hFl235 hFl1835 fl35 (by omega) (by omega) i40 (by omega))
                          · refine s_aload_n kx_269_110 rfl ?_
                            refine s_iload kx_269_111 rfl ?_
                            refine s_iload_n kx_269_113 rfl ?_
                            refine s_aload_n kx_269_114 rfl ?_
                            refine s_iload_n kx_269_115 rfl ?_
                            refine s_iload kx_269_116 rfl ?_
                            refine s_callV2 (k := 63) (s1 := 3) (s2 := 3) (as := [(0, x4_15), (0, x3_1)]) (rest := [(0, c), (0, x6_34), rf 63]) kx_269_118 kp_269_511 (Or.inl rfl) rfl (tk_63 hT) ki_245 kcl_245 rfl rfl (by decide) (m_245 (d := d + 3) (a := x3_1) (b := x4_15) hT hI35 (by omega) (by omega)) (kF (fun v59 v59p => ?_))
                            have hw60 := ((wr_fr fl35 rfl (fun _ => rfl)).trans v30p.2.2.symm)
                            refine s_callV2 (k := 63) (s1 := 4) (s2 := 0) (as := [(0, v59), (0, c), (0, x6_34)]) (rest := []) kx_269_121 kp_269_523 (Or.inl rfl) rfl (tk_63 hT) ki_235 kcl_235 rfl rfl (by decide) (m_235 (d := d) (p := x6_34) (chair := c) (takes := v59) hT hI35 (hS.fr hFm35 rfl) (by omega) (by omega) (by omega)) (kW (fun v61 M62 hI62 fr62 v61p => ?_))
                            have hFm62 := hFm35.call fr62 rfl
                            have hFl262 := hFl235.call fr62 rfl
                            have hFl1862 := hFl1835.call fr62 rfl
                            have hFl8562 := fl35.call fr62 rfl
                            refine s_aload_n kx_269_124 rfl ?_
                            refine r_getR (k := 63) (f := 65) (k2 := 103) kx_269_125 kp_269_210 (tk_63 hT) kf_12_65 (by decide) (rq_63_65 hI62) ?_
                            refine s_iload kx_269_128 rfl ?_
                            refine r_ald (k := 103) kx_269_130 (tk_103 hT) ⟨by omega, by omega⟩ (rg_103 hI62) (fun v63 v63e v63a v63b => ?_)
                            refine s_icmp_lt (t := 137) kx_269_131 (by decide) (fun hc64 => ?_) (fun hc64 => ?_)
                            · refine s_aload_n kx_269_137 rfl ?_
                              refine r_getR (k := 63) (f := 65) (k2 := 103) kx_269_138 kp_269_210 (tk_63 hT) kf_12_65 (by decide) (rq_63_65 hI62) ?_
                              refine s_iload kx_269_141 rfl ?_
                              refine s_aload_n kx_269_143 rfl ?_
                              refine s_iload kx_269_144 rfl ?_
                              refine s_iload_n kx_269_146 rfl ?_
                              refine s_aload_n kx_269_147 rfl ?_
                              refine s_iload_n kx_269_148 rfl ?_
                              refine s_iload kx_269_149 rfl ?_
                              refine s_callV2 (k := 63) (s1 := 3) (s2 := 5) (as := [(0, x4_15), (0, x3_1)]) (rest := [(0, c), (0, x6_34), rf 63, (0, ((8 * x3_1) + x4_15)), rf 103]) kx_269_151 kp_269_511 (Or.inl rfl) rfl (tk_63 hT) ki_245 kcl_245 rfl rfl (by decide) (m_245 (d := d + 3) (a := x3_1) (b := x4_15) hT hI62 (by omega) (by omega)) (kF (fun v65 v65p => ?_))
                              have hw66 := ((wr_fr fr62 rfl (fun _ => rfl)).trans ((wr_fr fl35 rfl (fun _ => rfl)).trans v30p.2.2.symm))
                              refine s_callV2 (k := 63) (s1 := 4) (s2 := 2) (as := [(0, v65), (0, c), (0, x6_34)]) (rest := [(0, ((8 * x3_1) + x4_15)), rf 103]) kx_269_154 kp_269_523 (Or.inl rfl) rfl (tk_63 hT) ki_235 kcl_235 rfl rfl (by decide) (m_235 (d := d) (p := x6_34) (chair := c) (takes := v65) hT hI62 (hS.fr hFm62 rfl) (by omega) (by omega) (by omega)) (kW (fun v67 M68 hI68 fr68 v67p => ?_))
                              have hFm68 := hFm62.call fr68 rfl
                              have hFl268 := hFl262.call fr68 rfl
                              have hFl1868 := hFl1862.call fr68 rfl
                              have hFl8568 := hFl8562.call fr68 rfl
                              refine r_ast (k := 103) kx_269_157 (tk_103 hT) ⟨by omega, by omega⟩ hI68 (ru_103 (by omega) (by omega)) (fun M69 hI69 u69 => ?_)
                              have hFm69 := hFm68.up u69 rfl
                              have hFl269 := hFl268.up u69 rfl
                              have hFl1869 := hFl1868.up u69 rfl
                              have hFl8569 := hFl8568.up u69 rfl
                              refine s_aload_n kx_269_158 rfl ?_
                              refine r_getR (k := 63) (f := 66) (k2 := 104) kx_269_159 kp_269_213 (tk_63 hT) kf_12_66 (by decide) (rq_63_66 hI69) ?_
                              refine s_iload kx_269_162 rfl ?_
                              refine s_iload kx_269_164 rfl ?_
                              refine r_ast (k := 104) kx_269_166 (tk_104 hT) ⟨by omega, by omega⟩ hI69 (ru_104 (by omega) (by omega)) (fun M70 hI70 u70 => ?_)
                              have hFm70 := hFm69.up u70 rfl
                              have hFl270 := hFl269.up u70 rfl
                              have hFl1870 := hFl1869.up u70 rfl
                              have hFl8570 := hFl8569.up u70 rfl
                              refine r_iinc kx_269_167 rfl km_269_6 (by decide) ⟨by omega, by omega⟩ rfl ?_
                              refine s_goto (t := 85) kx_269_170 (by decide) ?_
                              exact cP.wk (lS1 rfl (lS1 rfl (lS1 rfl (lS1 rfl (lS1 rfl (lS1 rfl (lS1 rfl lS0))))))) (ih42 (x6_34 + 1) M70 hI70 hFm70 hFl270 hFl1870 hFl8570 (by omega) (by omega) (pS.up (pS.up (pS.fr (pS.fr i40 fr62 (fun _ => rfl)) fr68 (fun _ => rfl)) u69 (fun _ => by omega)) u70 (fun e => absurd e (by decide))) (by omega))
                            · refine s_goto (t := 167) kx_269_134 (by decide) ?_
                              refine r_iinc kx_269_167 rfl km_269_6 (by decide) ⟨by omega, by omega⟩ rfl ?_
                              refine s_goto (t := 85) kx_269_170 (by decide) ?_
                              exact cP.wk (lS1 rfl (lS1 rfl (lS1 rfl (lS1 rfl (lS1 rfl (lS1 rfl (lS1 rfl lS0))))))) (ih42 (x6_34 + 1) M62 hI62 hFm62 hFl262 hFl1862 hFl8562 (by omega) (by omega) (pS.fr i40 fr62 (fun _ => rfl)) (by omega))
                  exact cP.wk (lS1 rfl (lS1 rfl (lS1 rfl (lS1 rfl (lS1 rfl (lS1 rfl (lS1 rfl lS0))))))) (key36 _ 0 M29 hI29 hFm29 hFl229 hFl1829 Fr.refl (by omega) (by omega) (pS.up (pS.put i21 u28 (by omega)) u29 (fun e => absurd e (by decide))) (Nat.lt_succ_self _))
                · refine s_goto (t := 173) kx_269_79 (by decide) ?_
                  refine r_iinc kx_269_173 rfl km_269_4 (by decide) ⟨by omega, by omega⟩ rfl ?_
                  refine s_goto (t := 18) kx_269_176 (by decide) ?_
                  exact cP.wk (lS1 rfl (lS1 rfl (lS1 rfl (lS1 rfl (lS1 rfl lS0))))) (ih23 (x4_15 + 1) M29 hI29 hFm29 hFl229 hFl1829 (by omega) (by omega) (pS.up (pS.put i21 u28 (by omega)) u29 (fun e => absurd e (by decide))) (by omega))
        exact cP.wk (lS1 rfl (lS1 rfl (lS1 rfl (lS1 rfl (lS1 rfl lS0))))) (key17 _ 0 M2 hI2 hFm2 fl2 Fr.refl (by omega) (by omega) i7 (Nat.lt_succ_self _))
  exact cP.wk (lS1 rfl (lS1 rfl (lS1 rfl (lS1 rfl lS0)))) (key3 _ 0 M hI hFm Fr.refl (by omega) (by omega) (fun a b a1 a2 a3 a4 a5 => absurd a5 (by omega) : pS M (nRm M) 0 0) (Nat.lt_succ_self _))
def hi5 (M M' : cM) (m : Nat) : Prop := ∀ a : Nat, m ≤ a → a ≤ 7 → M' 105 a = 100000000
theorem hi5.up {M M' M2 : cM} {m i : Nat} {v : Int} (h : hi5 M M' m) (u : Up M' 105 i v M2) (hi : i < m) : hi5 M M2 m := fun a a1 a2 => by
  rw [u.2 105 a (by omega)]
  exact h a a1 a2
/-- the first loop: the rooms below r are laid -/
def lay5 (M' : cM) (t r : Int) : Prop := ∀ a : Int, 0 ≤ a → a < r → M' 105 a.toNat = if a = t then 0 else 100000000
theorem lay5.put {M' M2 : cM} {t r v : Int} (h : lay5 M' t r) (h0 : 0 ≤ r) (u : Up M' 105 r.toNat v M2) (hv : (r = t ∧ v = 0) ∨ (r ≠ t ∧ v = 100000000)) : lay5 M2 t (r + 1) := by
  intro a a1 a2
  by_cases e : a = r
  · subst e
    rw [u.1]
    rcases hv with ⟨g, e⟩ | ⟨g, e⟩
    · rw [if_pos g, e]
    · rw [if_neg g, e]
  · rw [u.2 105 a.toNat (by omega)]
    exact h a a1 (by omega)
theorem lay5.rb {M M' : cM} {t r : Int} (h : lay5 M' t r) (hr : 8 ≤ r) (ht : 0 ≤ t) (hn : bN M ≤ 8) : RB M M' t.toNat 0 0 0 := RB.init (fun a ha => by
  have := h (a : Int) (by omega) (by omega)
  rw [Int.toNat_natCast] at this
  rw [this]
  by_cases e : (a : Int) = t
  · rw [if_pos e, if_pos (by omega)]
  · rw [if_neg e, if_neg (by omega)])
theorem lay5.hi {M M' : cM} {t r : Int} (h : lay5 M' t r) (hr : 8 ≤ r) (ht : t < bN M) : hi5 M M' (bN M) := fun a a1 a2 => by
  have := h (a : Int) (by omega) (by omega)
  rw [Int.toNat_natCast] at this
  rw [this, if_neg (by omega)]
theorem bN_nRm {M : cM} (h : 0 ≤ nRm M) : (bN M : Int) = nRm M := by
  unfold bN nRm at *
  omega
theorem kx_270_0 : x_code k_P 270 0 = some (.iconst 0, 1) := by decide +kernel
theorem kx_270_1 : x_code k_P 270 1 = some (.istore_n 2, 1) := by decide +kernel
theorem km_270_2 : 2 < x_maxL k_P 270 := by decide +kernel
theorem kx_270_2 : x_code k_P 270 2 = some (.iload_n 2, 1) := by decide +kernel
theorem kx_270_3 : x_code k_P 270 3 = some (.bipush 8, 2) := by decide +kernel
theorem kx_270_5 : x_code k_P 270 5 = some (.if_icmp .ge 27, 3) := by decide +kernel
theorem kx_270_32 : x_code k_P 270 32 = some (.iconst 0, 1) := by decide +kernel
theorem kx_270_33 : x_code k_P 270 33 = some (.istore_n 2, 1) := by decide +kernel
theorem kx_270_34 : x_code k_P 270 34 = some (.iload_n 2, 1) := by decide +kernel
theorem kx_270_35 : x_code k_P 270 35 = some (.aload_n 0, 1) := by decide +kernel
theorem kx_270_36 : x_code k_P 270 36 = some (.getfield 57, 3) := by decide +kernel
theorem kp_270_57 : x_pool k_P 270 57 = (1, 12, 15) := by decide +kernel
theorem kx_270_39 : x_code k_P 270 39 = some (.aload_n 0, 1) := by decide +kernel
theorem kx_270_40 : x_code k_P 270 40 = some (.getfield 54, 3) := by decide +kernel
theorem kp_270_54 : x_pool k_P 270 54 = (1, 12, 14) := by decide +kernel
theorem kx_270_43 : x_code k_P 270 43 = some (.iaload, 1) := by decide +kernel
theorem kx_270_44 : x_code k_P 270 44 = some (.if_icmp .ge 103, 3) := by decide +kernel
theorem kx_270_147 : x_code k_P 270 147 = some (.return_, 1) := by decide +kernel
theorem kq_270 : x_retk k_P 270 = 0 := by decide +kernel
theorem kx_270_47 : x_code k_P 270 47 = some (.iconst 0, 1) := by decide +kernel
theorem kx_270_48 : x_code k_P 270 48 = some (.istore_n 3, 1) := by decide +kernel
theorem km_270_3 : 3 < x_maxL k_P 270 := by decide +kernel
theorem kx_270_49 : x_code k_P 270 49 = some (.iload_n 3, 1) := by decide +kernel
theorem kx_270_50 : x_code k_P 270 50 = some (.aload_n 0, 1) := by decide +kernel
theorem kx_270_51 : x_code k_P 270 51 = some (.getfield 57, 3) := by decide +kernel
theorem kx_270_54 : x_code k_P 270 54 = some (.aload_n 0, 1) := by decide +kernel
theorem kx_270_55 : x_code k_P 270 55 = some (.getfield 54, 3) := by decide +kernel
theorem kx_270_58 : x_code k_P 270 58 = some (.iaload, 1) := by decide +kernel
theorem kx_270_59 : x_code k_P 270 59 = some (.if_icmp .ge 82, 3) := by decide +kernel
theorem kx_270_141 : x_code k_P 270 141 = some (.iinc 2 1, 3) := by decide +kernel
theorem kx_270_144 : x_code k_P 270 144 = some (.goto (-110), 3) := by decide +kernel
theorem kx_270_62 : x_code k_P 270 62 = some (.iconst 0, 1) := by decide +kernel
theorem kx_270_63 : x_code k_P 270 63 = some (.istore 4, 2) := by decide +kernel
theorem km_270_4 : 4 < x_maxL k_P 270 := by decide +kernel
theorem kx_270_65 : x_code k_P 270 65 = some (.iload 4, 2) := by decide +kernel
theorem kx_270_67 : x_code k_P 270 67 = some (.aload_n 0, 1) := by decide +kernel
theorem kx_270_68 : x_code k_P 270 68 = some (.getfield 57, 3) := by decide +kernel
theorem kx_270_71 : x_code k_P 270 71 = some (.aload_n 0, 1) := by decide +kernel
theorem kx_270_72 : x_code k_P 270 72 = some (.getfield 54, 3) := by decide +kernel
theorem kx_270_75 : x_code k_P 270 75 = some (.iaload, 1) := by decide +kernel
theorem kx_270_76 : x_code k_P 270 76 = some (.if_icmp .ge 59, 3) := by decide +kernel
theorem kx_270_135 : x_code k_P 270 135 = some (.iinc 3 1, 3) := by decide +kernel
theorem kx_270_138 : x_code k_P 270 138 = some (.goto (-89), 3) := by decide +kernel
theorem kx_270_79 : x_code k_P 270 79 = some (.aload_n 0, 1) := by decide +kernel
theorem kx_270_80 : x_code k_P 270 80 = some (.getfield 210, 3) := by decide +kernel
theorem kp_270_210 : x_pool k_P 270 210 = (1, 12, 65) := by decide +kernel
theorem kx_270_83 : x_code k_P 270 83 = some (.bipush 8, 2) := by decide +kernel
theorem kx_270_85 : x_code k_P 270 85 = some (.iload_n 3, 1) := by decide +kernel
theorem kx_270_86 : x_code k_P 270 86 = some (.imul, 1) := by decide +kernel
theorem kx_270_87 : x_code k_P 270 87 = some (.iload 4, 2) := by decide +kernel
theorem kx_270_89 : x_code k_P 270 89 = some (.iadd, 1) := by decide +kernel
theorem kx_270_90 : x_code k_P 270 90 = some (.iaload, 1) := by decide +kernel
theorem kx_270_91 : x_code k_P 270 91 = some (.aload_n 0, 1) := by decide +kernel
theorem kx_270_92 : x_code k_P 270 92 = some (.getfield 216, 3) := by decide +kernel
theorem kp_270_216 : x_pool k_P 270 216 = (1, 12, 67) := by decide +kernel
theorem kf_12_67 : (x_cls k_P 12)[67]? = some 12 := by decide +kernel
theorem kx_270_95 : x_code k_P 270 95 = some (.iload 4, 2) := by decide +kernel
theorem kx_270_97 : x_code k_P 270 97 = some (.iaload, 1) := by decide +kernel
theorem kx_270_98 : x_code k_P 270 98 = some (.iadd, 1) := by decide +kernel
theorem kx_270_99 : x_code k_P 270 99 = some (.istore 5, 2) := by decide +kernel
theorem km_270_5 : 5 < x_maxL k_P 270 := by decide +kernel
theorem kx_270_101 : x_code k_P 270 101 = some (.aload_n 0, 1) := by decide +kernel
theorem kx_270_102 : x_code k_P 270 102 = some (.getfield 216, 3) := by decide +kernel
theorem kx_270_105 : x_code k_P 270 105 = some (.iload_n 3, 1) := by decide +kernel
theorem kx_270_106 : x_code k_P 270 106 = some (.iload 5, 2) := by decide +kernel
theorem kx_270_108 : x_code k_P 270 108 = some (.aload_n 0, 1) := by decide +kernel
theorem kx_270_109 : x_code k_P 270 109 = some (.getfield 216, 3) := by decide +kernel
theorem kx_270_112 : x_code k_P 270 112 = some (.iload_n 3, 1) := by decide +kernel
theorem kx_270_113 : x_code k_P 270 113 = some (.iaload, 1) := by decide +kernel
theorem kx_270_114 : x_code k_P 270 114 = some (.if_icmp .ge 8, 3) := by decide +kernel
theorem kx_270_122 : x_code k_P 270 122 = some (.aload_n 0, 1) := by decide +kernel
theorem kx_270_123 : x_code k_P 270 123 = some (.getfield 216, 3) := by decide +kernel
theorem kx_270_126 : x_code k_P 270 126 = some (.iload_n 3, 1) := by decide +kernel
theorem kx_270_127 : x_code k_P 270 127 = some (.iaload, 1) := by decide +kernel
theorem kx_270_128 : x_code k_P 270 128 = some (.iastore, 1) := by decide +kernel
theorem kx_270_129 : x_code k_P 270 129 = some (.iinc 4 1, 3) := by decide +kernel
theorem kx_270_132 : x_code k_P 270 132 = some (.goto (-67), 3) := by decide +kernel
theorem kx_270_117 : x_code k_P 270 117 = some (.iload 5, 2) := by decide +kernel
theorem kx_270_119 : x_code k_P 270 119 = some (.goto 9, 3) := by decide +kernel
theorem kx_270_8 : x_code k_P 270 8 = some (.aload_n 0, 1) := by decide +kernel
theorem kx_270_9 : x_code k_P 270 9 = some (.getfield 216, 3) := by decide +kernel
theorem kx_270_12 : x_code k_P 270 12 = some (.iload_n 2, 1) := by decide +kernel
theorem kx_270_13 : x_code k_P 270 13 = some (.iload_n 2, 1) := by decide +kernel
theorem kx_270_14 : x_code k_P 270 14 = some (.iload_n 1, 1) := by decide +kernel
theorem kx_270_15 : x_code k_P 270 15 = some (.if_icmp .ne 7, 3) := by decide +kernel
theorem kx_270_22 : x_code k_P 270 22 = some (.ldc_w 571, 3) := by decide +kernel
theorem kp_270_571 : x_pool k_P 270 571 = (7, 0, 100000000) := by decide +kernel
theorem kx_270_25 : x_code k_P 270 25 = some (.iastore, 1) := by decide +kernel
theorem kx_270_26 : x_code k_P 270 26 = some (.iinc 2 1, 3) := by decide +kernel
theorem kx_270_29 : x_code k_P 270 29 = some (.goto (-27), 3) := by decide +kernel
theorem kx_270_18 : x_code k_P 270 18 = some (.iconst 0, 1) := by decide +kernel
theorem kx_270_19 : x_code k_P 270 19 = some (.goto 6, 3) := by decide +kernel
def fS_270_l2 : List (Nat × Nat) := [(105, 99999)]
def fS_270_l34 : List (Nat × Nat) := [(105, 99999)]
def fS_270_l49 : List (Nat × Nat) := [(105, 99999)]
def fS_270_l65 : List (Nat × Nat) := [(105, 99999)]
def fS_270_m : List (Nat × Nat) := [(105, 99999)]
theorem m_270 {xs : Nat → Int} {Ln d : Nat} {T : List cK} {M : cM} (hT : TT T) (hI : Rng M) {to : Int} (p0 : 0 ≤ to ∧ to ≤ 7) (p1 : to < nRm M) (p2 : pS M (nRm M) 8 0) : cC k_P xs Ln (d + 0) 270 [rf 63, (0, to)] (T, M) (qV T M fS_270_m (fun M1 => FX M1 to)) := by
  show cP k_P xs Ln (d + 0) 270 0 [(0, rf 63), (1, (0, to))] [] (T, M) _
  have hFm : Fr fS_270_m M M := Fr.refl
  have hr65 : 0 ≤ nRm M ∧ nRm M ≤ 8 := rg_65 hI
  have hbN := bN_nRm hr65.1
  have hps := pS_bS p2 rfl (by omega)
  refine s_iconst (v := 0) kx_270_0 (by decide) ?_
  refine s_istore_n kx_270_1 km_270_2 rfl ?_
  have key3 : ∀ n4 : Nat, ∀ (x2_1 : Int), ∀ M2 : cM, Rng M2 → Fr fS_270_m M M2 → Fr fS_270_l2 M M2 → (0 ≤ x2_1) → (x2_1 ≤ 8) → (lay5 M2 to x2_1) → (2147483647 - x2_1).toNat < n4 → cP k_P xs Ln (d + 0) 270 2 [(0, rf 63), (1, (0, to)), (2, (0, x2_1))] [] (T, M2) (qV T M fS_270_m (fun M1 => FX M1 to)) := by
    intro n4
    induction n4 with
    | zero => intro x2_1 M2 hI2 hFm2 fl2 i5 i6 i7 hm8; exact absurd hm8 (Nat.not_lt_zero _)
    | succ n4 ih9 =>
      intro x2_1 M2 hI2 hFm2 fl2 i5 i6 i7 hm8
      skip
      refine s_iload_n kx_270_2 rfl ?_
      refine s_bipush (v := 8) kx_270_3 (by decide) ?_
      refine s_icmp_ge (t := 32) kx_270_5 (by decide) (fun hc10 => ?_) (fun hc10 => ?_)
      · refine s_iconst (v := 0) kx_270_32 (by decide) ?_
        refine s_istore_n kx_270_33 km_270_2 rfl ?_
        have key13 : ∀ n14 : Nat, ∀ (x2_11 : Int), ∀ M12 : cM, Rng M12 → Fr fS_270_m M M12 → Fr fS_270_l34 M2 M12 → (0 ≤ x2_11) → (x2_11 ≤ 8) → (RB M M12 (to).toNat (x2_11).toNat 0 0) → (hi5 M M12 (bN M)) → (2147483647 - x2_11).toNat < n14 → cP k_P xs Ln (d + 0) 270 34 [(0, rf 63), (2, (0, x2_11))] [] (T, M12) (qV T M fS_270_m (fun M1 => FX M1 to)) := by
          intro n14
          induction n14 with
          | zero => intro x2_11 M12 hI12 hFm12 fl12 i15 i16 i17 i18 hm19; exact absurd hm19 (Nat.not_lt_zero _)
          | succ n14 ih20 =>
            intro x2_11 M12 hI12 hFm12 fl12 i15 i16 i17 i18 hm19
            skip
            refine s_iload_n kx_270_34 rfl ?_
            refine s_aload_n kx_270_35 rfl ?_
            refine r_getR (k := 63) (f := 15) (k2 := 65) kx_270_36 kp_270_57 (tk_63 hT) kf_12_15 (by decide) (rq_63_15 hI12) ?_
            refine s_aload_n kx_270_39 rfl ?_
            refine r_getI (k := 63) (f := 14) kx_270_40 kp_270_54 (tk_63 hT) kf_12_14 (fun _ => rfl) (rg_63_14 hI12) (fun v21 v21e v21a v21b => ?_)
            have v21z : M 63 14 = v21 := (((fl12 63 14 rfl).trans (fl2 63 14 rfl))).symm.trans v21e
            refine r_ald (k := 65) kx_270_43 (tk_65 hT) ⟨by omega, by omega⟩ (rg_65 hI12) (fun v22 v22e v22a v22b => ?_)
            have hr23 : nRm M12 = v22 := by unfold nRm; rw [v21e]; exact v22e
            have hn24 : nRm M12 = nRm M := ((nRm_fr fl12 rfl (fun _ => rfl)).trans ((nRm_fr fl2 rfl (fun _ => rfl)).trans (rfl : nRm M = nRm M)))
            refine s_icmp_ge (t := 147) kx_270_44 (by decide) (fun hc25 => ?_) (fun hc25 => ?_)
            · exact s_vret kx_270_147 kq_270 ⟨_, rfl, rfl, hI12, hFm12, (by have := RB.fx i17 hps (by omega) (by omega) (by omega) (fun f => hFm12 103 f rfl) i18; rw [Int.toNat_of_nonneg (by omega)] at this; exact this)⟩
            · refine s_iconst (v := 0) kx_270_47 (by decide) ?_
              refine s_istore_n kx_270_48 km_270_3 rfl ?_
              have key28 : ∀ n29 : Nat, ∀ (x3_26 : Int), ∀ M27 : cM, Rng M27 → Fr fS_270_m M M27 → Fr fS_270_l34 M2 M27 → Fr fS_270_l49 M12 M27 → (0 ≤ x3_26) → (x3_26 ≤ 8) → (RB M M27 (to).toNat (x2_11).toNat (x3_26).toNat 0) → (hi5 M M27 (bN M)) → (2147483647 - x3_26).toNat < n29 → cP k_P xs Ln (d + 0) 270 49 [(0, rf 63), (2, (0, x2_11)), (3, (0, x3_26))] [] (T, M27) (qV T M fS_270_m (fun M1 => FX M1 to)) := by
                intro n29
                induction n29 with
                | zero => intro x3_26 M27 hI27 hFm27 hFl3427 fl27 i30 i31 i32 i33 hm34; exact absurd hm34 (Nat.not_lt_zero _)
                | succ n29 ih35 =>
                  intro x3_26 M27 hI27 hFm27 hFl3427 fl27 i30 i31 i32 i33 hm34
                  skip
                  refine s_iload_n kx_270_49 rfl ?_
                  refine s_aload_n kx_270_50 rfl ?_
                  refine r_getR (k := 63) (f := 15) (k2 := 65) kx_270_51 kp_270_57 (tk_63 hT) kf_12_15 (by decide) (rq_63_15 hI27) ?_
                  refine s_aload_n kx_270_54 rfl ?_
                  refine r_getK (k := 63) (f := 14) kx_270_55 kp_270_54 (tk_63 hT) kf_12_14 (fun _ => rfl) ((fl27 63 14 rfl).trans v21e) ?_
                  refine r_aldK (k := 65) kx_270_58 (tk_65 hT) ⟨by omega, by omega⟩ ((fl27 65 _ rfl).trans v22e) ?_
                  have hr36 : nRm M27 = v22 := by unfold nRm; rw [((fl27 63 14 rfl).trans v21e)]; exact ((fl27 65 _ rfl).trans v22e)
                  have hn37 : nRm M27 = nRm M := ((nRm_fr fl27 rfl (fun _ => rfl)).trans ((nRm_fr fl12 rfl (fun _ => rfl)).trans ((nRm_fr fl2 rfl (fun _ => rfl)).trans (rfl : nRm M = nRm M))))
                  refine s_icmp_ge (t := 141) kx_270_59 (by decide) (fun hc38 => ?_) (fun hc38 => ?_)
                  · have hx39 := RB.round i32 (show bN M ≤ (x3_26).toNat by omega)
                    refine r_iinc kx_270_141 rfl km_270_2 (by decide) ⟨by omega, by omega⟩ rfl ?_
                    refine s_goto (t := 34) kx_270_144 (by decide) ?_
                    exact cP.wk (lS1 rfl (lS1 rfl lS0)) (ih20 (x2_11 + 1) M27 hI27 hFm27 hFl3427 (by omega) (by omega) (by rw [show (x2_11 + 1).toNat = (x2_11).toNat + 1 by omega]; exact hx39) i33 (by omega))
                  · refine s_iconst (v := 0) kx_270_62 (by decide) ?_
                    refine s_istore kx_270_63 km_270_4 rfl ?_
                    have key42 : ∀ n43 : Nat, ∀ (x4_40 : Int), ∀ M41 : cM, Rng M41 → Fr fS_270_m M M41 → Fr fS_270_l34 M2 M41 → Fr fS_270_l49 M12 M41 → Fr fS_270_l65 M27 M41 → (0 ≤ x4_40) → (x4_40 ≤ 8) → (RB M M41 (to).toNat (x2_11).toNat (x3_26).toNat (x4_40).toNat) → (hi5 M M41 (bN M)) → (2147483647 - x4_40).toNat < n43 → cP k_P xs Ln (d + 0) 270 65 [(0, rf 63), (2, (0, x2_11)), (3, (0, x3_26)), (4, (0, x4_40))] [] (T, M41) (qV T M fS_270_m (fun M1 => FX M1 to)) := by
                      intro n43
                      induction n43 with
                      | zero => intro x4_40 M41 hI41 hFm41 hFl3441 hFl4941 fl41 i44 i45 i46 i47 hm48; exact absurd hm48 (Nat.not_lt_zero _)
                      | succ n43 ih49 =>
                        intro x4_40 M41 hI41 hFm41 hFl3441 hFl4941 fl41 i44 i45 i46 i47 hm48
                        skip
                        refine s_iload kx_270_65 rfl ?_
                        refine s_aload_n kx_270_67 rfl ?_
                        refine r_getR (k := 63) (f := 15) (k2 := 65) kx_270_68 kp_270_57 (tk_63 hT) kf_12_15 (by decide) (rq_63_15 hI41) ?_
                        refine s_aload_n kx_270_71 rfl ?_
                        refine r_getK (k := 63) (f := 14) kx_270_72 kp_270_54 (tk_63 hT) kf_12_14 (fun _ => rfl) ((fl41 63 14 rfl).trans ((fl27 63 14 rfl).trans v21e)) ?_
                        refine r_aldK (k := 65) kx_270_75 (tk_65 hT) ⟨by omega, by omega⟩ ((fl41 65 _ rfl).trans ((fl27 65 _ rfl).trans v22e)) ?_
                        have hr50 : nRm M41 = v22 := by unfold nRm; rw [((fl41 63 14 rfl).trans ((fl27 63 14 rfl).trans v21e))]; exact ((fl41 65 _ rfl).trans ((fl27 65 _ rfl).trans v22e))
                        have hn51 : nRm M41 = nRm M := ((nRm_fr fl41 rfl (fun _ => rfl)).trans ((nRm_fr fl27 rfl (fun _ => rfl)).trans ((nRm_fr fl12 rfl (fun _ => rfl)).trans ((nRm_fr fl2 rfl (fun _ => rfl)).trans (rfl : nRm M = nRm M)))))
                        refine s_icmp_ge (t := 135) kx_270_76 (by decide) (fun hc52 => ?_) (fun hc52 => ?_)
                        · have hx53 := RB.row i46 (show bN M ≤ (x4_40).toNat by omega)
                          refine r_iinc kx_270_135 rfl km_270_3 (by decide) ⟨by omega, by omega⟩ rfl ?_
                          refine s_goto (t := 49) kx_270_138 (by decide) ?_
                          exact cP.wk (lS1 rfl (lS1 rfl (lS1 rfl lS0))) (ih35 (x3_26 + 1) M41 hI41 hFm41 hFl3441 hFl4941 (by omega) (by omega) (by rw [show (x3_26 + 1).toNat = (x3_26).toNat + 1 by omega]; exact hx53) i47 (by omega))
                        · refine s_aload_n kx_270_79 rfl ?_
                          refine r_getR (k := 63) (f := 65) (k2 := 103) kx_270_80 kp_270_210 (tk_63 hT) kf_12_65 (by decide) (rq_63_65 hI41) ?_
                          refine s_bipush (v := 8) kx_270_83 (by decide) ?_
                          refine s_iload_n kx_270_85 rfl ?_
                          refine r_mul kx_270_86 ⟨by omega, by omega⟩ ?_
                          refine s_iload kx_270_87 rfl ?_
                          refine r_add kx_270_89 ⟨by omega, by omega⟩ ?_
                          refine r_ald (k := 103) kx_270_90 (tk_103 hT) ⟨by omega, by omega⟩ (rg_103 hI41) (fun v54 v54e v54a v54b => ?_)
                          refine s_aload_n kx_270_91 rfl ?_
                          refine r_getR (k := 63) (f := 67) (k2 := 105) kx_270_92 kp_270_216 (tk_63 hT) kf_12_67 (by decide) (rq_63_67 hI41) ?_
                          refine s_iload kx_270_95 rfl ?_
                          refine r_ald (k := 105) kx_270_97 (tk_105 hT) ⟨by omega, by omega⟩ (rg_105 hI41) (fun v55 v55e v55a v55b => ?_)
                          have hbs : bS M (x3_26).toNat (x4_40).toNat = M41 103 ((8 * x3_26) + x4_40).toNat := by rw [show ((8 * x3_26) + x4_40).toNat = 8 * (x3_26).toNat + (x4_40).toNat by omega]; exact (((fl41 103 _ rfl).trans ((fl27 103 _ rfl).trans ((fl12 103 _ rfl).trans (fl2 103 _ rfl))))).symm
                          refine r_add kx_270_98 ⟨by omega, by omega⟩ ?_
                          refine s_istore kx_270_99 km_270_5 rfl ?_
                          refine s_aload_n kx_270_101 rfl ?_
                          refine r_getR (k := 63) (f := 67) (k2 := 105) kx_270_102 kp_270_216 (tk_63 hT) kf_12_67 (by decide) (rq_63_67 hI41) ?_
                          refine s_iload_n kx_270_105 rfl ?_
                          refine s_iload kx_270_106 rfl ?_
                          refine s_aload_n kx_270_108 rfl ?_
                          refine r_getR (k := 63) (f := 67) (k2 := 105) kx_270_109 kp_270_216 (tk_63 hT) kf_12_67 (by decide) (rq_63_67 hI41) ?_
                          refine s_iload_n kx_270_112 rfl ?_
                          refine r_ald (k := 105) kx_270_113 (tk_105 hT) ⟨by omega, by omega⟩ (rg_105 hI41) (fun v56 v56e v56a v56b => ?_)
                          refine s_icmp_ge (t := 122) kx_270_114 (by decide) (fun hc57 => ?_) (fun hc57 => ?_)
                          · refine s_aload_n kx_270_122 rfl ?_
                            refine r_getR (k := 63) (f := 67) (k2 := 105) kx_270_123 kp_270_216 (tk_63 hT) kf_12_67 (by decide) (rq_63_67 hI41) ?_
                            refine s_iload_n kx_270_126 rfl ?_
                            refine r_aldK (k := 105) kx_270_127 (tk_105 hT) ⟨by omega, by omega⟩ v56e ?_
                            refine r_ast (k := 105) kx_270_128 (tk_105 hT) ⟨by omega, by omega⟩ hI41 (ru_105 (by omega) (by omega)) (fun M58 hI58 u58 => ?_)
                            have hFm58 := hFm41.up u58 rfl
                            have hFl3458 := hFl3441.up u58 rfl
                            have hFl4958 := hFl4941.up u58 rfl
                            have hFl6558 := fl41.up u58 rfl
                            refine r_iinc kx_270_129 rfl km_270_4 (by decide) ⟨by omega, by omega⟩ rfl ?_
                            refine s_goto (t := 65) kx_270_132 (by decide) ?_
                            exact cP.wk (lS1 rfl (lS1 rfl (lS1 rfl (lS1 rfl lS0)))) (ih49 (x4_40 + 1) M58 hI58 hFm58 hFl3458 hFl4958 hFl6558 (by omega) (by omega) (by rw [show (x4_40 + 1).toNat = (x4_40).toNat + 1 by omega]; exact RB.relax i46 hps (by omega) (by omega) (by omega) u58 ⟨by omega, by omega, by omega⟩) (hi5.up i47 u58 (by omega)) (by omega))
                          · refine s_iload kx_270_117 rfl ?_
                            refine s_goto (t := 128) kx_270_119 (by decide) ?_
                            refine r_ast (k := 105) kx_270_128 (tk_105 hT) ⟨by omega, by omega⟩ hI41 (ru_105 (by omega) (by omega)) (fun M59 hI59 u59 => ?_)
                            have hFm59 := hFm41.up u59 rfl
                            have hFl3459 := hFl3441.up u59 rfl
                            have hFl4959 := hFl4941.up u59 rfl
                            have hFl6559 := fl41.up u59 rfl
                            refine r_iinc kx_270_129 rfl km_270_4 (by decide) ⟨by omega, by omega⟩ rfl ?_
                            refine s_goto (t := 65) kx_270_132 (by decide) ?_
                            exact cP.wk (lS1 rfl (lS1 rfl (lS1 rfl (lS1 rfl lS0)))) (ih49 (x4_40 + 1) M59 hI59 hFm59 hFl3459 hFl4959 hFl6559 (by omega) (by omega) (by rw [show (x4_40 + 1).toNat = (x4_40).toNat + 1 by omega]; exact RB.relax i46 hps (by omega) (by omega) (by omega) u59 ⟨by omega, by omega, by omega⟩) (hi5.up i47 u59 (by omega)) (by omega))
                    exact cP.wk (lS1 rfl (lS1 rfl (lS1 rfl (lS1 rfl lS0)))) (key42 _ 0 M27 hI27 hFm27 hFl3427 fl27 Fr.refl (by omega) (by omega) i32 i33 (Nat.lt_succ_self _))
              exact cP.wk (lS1 rfl (lS1 rfl (lS1 rfl lS0))) (key28 _ 0 M12 hI12 hFm12 fl12 Fr.refl (by omega) (by omega) i17 i18 (Nat.lt_succ_self _))
        exact cP.wk (lS1 rfl (lS1 rfl lS0)) (key13 _ 0 M2 hI2 hFm2 Fr.refl (by omega) (by omega) (lay5.rb i7 (by omega) (by omega) (by omega)) (lay5.hi i7 (by omega) (by omega)) (Nat.lt_succ_self _))
      · refine s_aload_n kx_270_8 rfl ?_
        refine r_getR (k := 63) (f := 67) (k2 := 105) kx_270_9 kp_270_216 (tk_63 hT) kf_12_67 (by decide) (rq_63_67 hI2) ?_
        refine s_iload_n kx_270_12 rfl ?_
        refine s_iload_n kx_270_13 rfl ?_
        refine s_iload_n kx_270_14 rfl ?_
        refine s_icmp_ne (t := 22) kx_270_15 (by decide) (fun hc60 => ?_) (fun hc60 => ?_)
        · refine s_ldc_w kx_270_22 kp_270_571 ?_
          refine r_ast (k := 105) kx_270_25 (tk_105 hT) ⟨by omega, by omega⟩ hI2 (ru_105 (by omega) (by omega)) (fun M61 hI61 u61 => ?_)
          have hFm61 := hFm2.up u61 rfl
          have hFl261 := fl2.up u61 rfl
          refine r_iinc kx_270_26 rfl km_270_2 (by decide) ⟨by omega, by omega⟩ rfl ?_
          refine s_goto (t := 2) kx_270_29 (by decide) ?_
          exact cP.wk (lS1 rfl (lS1 rfl (lS1 rfl lS0))) (ih9 (x2_1 + 1) M61 hI61 hFm61 hFl261 (by omega) (by omega) (lay5.put i7 (by omega) u61 (by omega)) (by omega))
        · refine s_iconst (v := 0) kx_270_18 (by decide) ?_
          refine s_goto (t := 25) kx_270_19 (by decide) ?_
          refine r_ast (k := 105) kx_270_25 (tk_105 hT) ⟨by omega, by omega⟩ hI2 (ru_105 (by omega) (by omega)) (fun M62 hI62 u62 => ?_)
          have hFm62 := hFm2.up u62 rfl
          have hFl262 := fl2.up u62 rfl
          refine r_iinc kx_270_26 rfl km_270_2 (by decide) ⟨by omega, by omega⟩ rfl ?_
          refine s_goto (t := 2) kx_270_29 (by decide) ?_
          exact cP.wk (lS1 rfl (lS1 rfl (lS1 rfl lS0))) (ih9 (x2_1 + 1) M62 hI62 hFm62 hFl262 (by omega) (by omega) (lay5.put i7 (by omega) u62 (by omega)) (by omega))
  exact cP.wk (lS1 rfl (lS1 rfl (lS1 rfl lS0))) (key3 _ 0 M hI hFm Fr.refl (by omega) (by omega) (fun a a1 a2 => absurd a2 (by omega)) (Nat.lt_succ_self _))
theorem kx_271_0 : x_code k_P 271 0 = some (.iconst 0, 1) := by decide +kernel
theorem kx_271_1 : x_code k_P 271 1 = some (.istore_n 2, 1) := by decide +kernel
theorem km_271_2 : 2 < x_maxL k_P 271 := by decide +kernel
theorem kx_271_2 : x_code k_P 271 2 = some (.aload_n 0, 1) := by decide +kernel
theorem kx_271_3 : x_code k_P 271 3 = some (.getfield 210, 3) := by decide +kernel
theorem kp_271_210 : x_pool k_P 271 210 = (1, 12, 65) := by decide +kernel
theorem kx_271_6 : x_code k_P 271 6 = some (.bipush 8, 2) := by decide +kernel
theorem kx_271_8 : x_code k_P 271 8 = some (.iload_n 1, 1) := by decide +kernel
theorem kx_271_9 : x_code k_P 271 9 = some (.imul, 1) := by decide +kernel
theorem kx_271_10 : x_code k_P 271 10 = some (.iload_n 2, 1) := by decide +kernel
theorem kx_271_11 : x_code k_P 271 11 = some (.iadd, 1) := by decide +kernel
theorem kx_271_12 : x_code k_P 271 12 = some (.iaload, 1) := by decide +kernel
theorem kx_271_13 : x_code k_P 271 13 = some (.aload_n 0, 1) := by decide +kernel
theorem kx_271_14 : x_code k_P 271 14 = some (.getfield 216, 3) := by decide +kernel
theorem kp_271_216 : x_pool k_P 271 216 = (1, 12, 67) := by decide +kernel
theorem kx_271_17 : x_code k_P 271 17 = some (.iload_n 2, 1) := by decide +kernel
theorem kx_271_18 : x_code k_P 271 18 = some (.iaload, 1) := by decide +kernel
theorem kx_271_19 : x_code k_P 271 19 = some (.iadd, 1) := by decide +kernel
theorem kx_271_20 : x_code k_P 271 20 = some (.aload_n 0, 1) := by decide +kernel
theorem kx_271_21 : x_code k_P 271 21 = some (.getfield 216, 3) := by decide +kernel
theorem kx_271_24 : x_code k_P 271 24 = some (.iload_n 1, 1) := by decide +kernel
theorem kx_271_25 : x_code k_P 271 25 = some (.iaload, 1) := by decide +kernel
theorem kx_271_26 : x_code k_P 271 26 = some (.if_icmp .eq 9, 3) := by decide +kernel
theorem kx_271_35 : x_code k_P 271 35 = some (.iload_n 2, 1) := by decide +kernel
theorem kx_271_36 : x_code k_P 271 36 = some (.ireturn, 1) := by decide +kernel
theorem kq_271 : x_retk k_P 271 = 1 := by decide +kernel
theorem kx_271_29 : x_code k_P 271 29 = some (.iinc 2 1, 3) := by decide +kernel
theorem kx_271_32 : x_code k_P 271 32 = some (.goto (-30), 3) := by decide +kernel
theorem m_271 {xs : Nat → Int} {Ln d : Nat} {T : List cK} {M : cM} (hT : TT T) (hI : Rng M) {a w : Int} (p0 : 0 ≤ a ∧ a ≤ 7) (p1 : 0 ≤ w ∧ w ≤ 7) (p2 : M 103 (8 * a + w).toNat + M 105 w.toNat = M 105 a.toNat) : cC k_P xs Ln (d + 0) 271 [rf 63, (0, a)] (T, M) (qF T M 0 (fun v => 0 ≤ v ∧ v ≤ 7 ∧ (v ≤ w ∧ M 103 (8 * a + v).toNat + M 105 v.toNat = M 105 a.toNat))) := by
  show cP k_P xs Ln (d + 0) 271 0 [(0, rf 63), (1, (0, a))] [] (T, M) _
  refine s_iconst (v := 0) kx_271_0 (by decide) ?_
  refine s_istore_n kx_271_1 km_271_2 rfl ?_
  have key2 : ∀ n3 : Nat, ∀ (x2_1 : Int), (0 ≤ x2_1) → (x2_1 ≤ 7) → (x2_1 ≤ w) → (2147483647 - x2_1).toNat < n3 → cP k_P xs Ln (d + 0) 271 2 [(0, rf 63), (1, (0, a)), (2, (0, x2_1))] [] (T, M) (qF T M 0 (fun v => 0 ≤ v ∧ v ≤ 7 ∧ (v ≤ w ∧ M 103 (8 * a + v).toNat + M 105 v.toNat = M 105 a.toNat))) := by
    intro n3
    induction n3 with
    | zero => intro x2_1 i4 i5 i6 hm7; exact absurd hm7 (Nat.not_lt_zero _)
    | succ n3 ih8 =>
      intro x2_1 i4 i5 i6 hm7
      refine s_aload_n kx_271_2 rfl ?_
      refine r_getR (k := 63) (f := 65) (k2 := 103) kx_271_3 kp_271_210 (tk_63 hT) kf_12_65 (by decide) (rq_63_65 hI) ?_
      refine s_bipush (v := 8) kx_271_6 (by decide) ?_
      refine s_iload_n kx_271_8 rfl ?_
      refine r_mul kx_271_9 ⟨by omega, by omega⟩ ?_
      refine s_iload_n kx_271_10 rfl ?_
      refine r_add kx_271_11 ⟨by omega, by omega⟩ ?_
      refine r_ald (k := 103) kx_271_12 (tk_103 hT) ⟨by omega, by omega⟩ (rg_103 hI) (fun v9 v9e v9a v9b => ?_)
      refine s_aload_n kx_271_13 rfl ?_
      refine r_getR (k := 63) (f := 67) (k2 := 105) kx_271_14 kp_271_216 (tk_63 hT) kf_12_67 (by decide) (rq_63_67 hI) ?_
      refine s_iload_n kx_271_17 rfl ?_
      refine r_ald (k := 105) kx_271_18 (tk_105 hT) ⟨by omega, by omega⟩ (rg_105 hI) (fun v10 v10e v10a v10b => ?_)
      refine r_add kx_271_19 ⟨by omega, by omega⟩ ?_
      refine s_aload_n kx_271_20 rfl ?_
      refine r_getR (k := 63) (f := 67) (k2 := 105) kx_271_21 kp_271_216 (tk_63 hT) kf_12_67 (by decide) (rq_63_67 hI) ?_
      refine s_iload_n kx_271_24 rfl ?_
      refine r_ald (k := 105) kx_271_25 (tk_105 hT) ⟨by omega, by omega⟩ (rg_105 hI) (fun v11 v11e v11a v11b => ?_)
      refine s_icmp_eq (t := 35) kx_271_26 (by decide) (fun hc12 => ?_) (fun hc12 => ?_)
      · refine s_iload_n kx_271_35 rfl ?_
        exact s_iret kx_271_36 (Or.inl kq_271) ⟨_, rfl, rfl, (by omega)⟩
      · have hne : x2_1 ≠ w := fun e => by have e1 := v9e; have e2 := v10e; rw [e] at e1 e2; omega
        refine r_iinc kx_271_29 rfl km_271_2 (by decide) ⟨by omega, by omega⟩ rfl ?_
        refine s_goto (t := 2) kx_271_32 (by decide) ?_
        exact cP.wk (lS1 rfl (lS1 rfl (lS1 rfl lS0))) (ih8 (x2_1 + 1) (by omega) (by omega) (by omega) (by omega))
  exact cP.wk (lS1 rfl (lS1 rfl (lS1 rfl lS0))) (key2 _ 0 (by omega) (by omega) (by omega) (Nat.lt_succ_self _))
theorem kx_272_0 : x_code k_P 272 0 = some (.aload_n 0, 1) := by decide +kernel
theorem kx_272_1 : x_code k_P 272 1 = some (.iload_n 2, 1) := by decide +kernel
theorem kx_272_2 : x_code k_P 272 2 = some (.invokevirtual 514, 3) := by decide +kernel
theorem kp_272_514 : x_pool k_P 272 514 = (2, 221, 1) := by decide +kernel
theorem kx_272_5 : x_code k_P 272 5 = some (.ifCond .eq 27, 3) := by decide +kernel
theorem kx_272_32 : x_code k_P 272 32 = some (.iconst (-1), 1) := by decide +kernel
theorem kx_272_33 : x_code k_P 272 33 = some (.ireturn, 1) := by decide +kernel
theorem kq_272 : x_retk k_P 272 = 1 := by decide +kernel
theorem kx_272_8 : x_code k_P 272 8 = some (.aload_n 0, 1) := by decide +kernel
theorem kx_272_9 : x_code k_P 272 9 = some (.iload_n 3, 1) := by decide +kernel
theorem kx_272_10 : x_code k_P 272 10 = some (.invokevirtual 508, 3) := by decide +kernel
theorem kp_272_508 : x_pool k_P 272 508 = (2, 220, 1) := by decide +kernel
theorem kx_272_13 : x_code k_P 272 13 = some (.ifCond .eq 19, 3) := by decide +kernel
theorem kx_272_16 : x_code k_P 272 16 = some (.aload_n 0, 1) := by decide +kernel
theorem kx_272_17 : x_code k_P 272 17 = some (.getfield 165, 3) := by decide +kernel
theorem kp_272_165 : x_pool k_P 272 165 = (1, 12, 50) := by decide +kernel
theorem kx_272_20 : x_code k_P 272 20 = some (.iload_n 2, 1) := by decide +kernel
theorem kx_272_21 : x_code k_P 272 21 = some (.iaload, 1) := by decide +kernel
theorem kx_272_22 : x_code k_P 272 22 = some (.iconst 1, 1) := by decide +kernel
theorem kx_272_23 : x_code k_P 272 23 = some (.if_icmp .eq 9, 3) := by decide +kernel
theorem kx_272_26 : x_code k_P 272 26 = some (.iload 4, 2) := by decide +kernel
theorem kx_272_28 : x_code k_P 272 28 = some (.iconst (-1), 1) := by decide +kernel
theorem kx_272_29 : x_code k_P 272 29 = some (.if_icmp .ge 5, 3) := by decide +kernel
theorem kx_272_34 : x_code k_P 272 34 = some (.aload_n 0, 1) := by decide +kernel
theorem kx_272_35 : x_code k_P 272 35 = some (.iload_n 1, 1) := by decide +kernel
theorem kx_272_36 : x_code k_P 272 36 = some (.iload_n 2, 1) := by decide +kernel
theorem kx_272_37 : x_code k_P 272 37 = some (.invokevirtual 572, 3) := by decide +kernel
theorem kp_272_572 : x_pool k_P 272 572 = (2, 269, 2) := by decide +kernel
theorem ki_269 : x_mci k_P 269 = 12 := by decide +kernel
theorem kcl_269 : x_maxL k_P 269 ≤ 60 ∧ 3 ≤ x_maxL k_P 269 := by decide +kernel
theorem kx_272_40 : x_code k_P 272 40 = some (.aload_n 0, 1) := by decide +kernel
theorem kx_272_41 : x_code k_P 272 41 = some (.iload_n 3, 1) := by decide +kernel
theorem kx_272_42 : x_code k_P 272 42 = some (.invokevirtual 575, 3) := by decide +kernel
theorem kp_272_575 : x_pool k_P 272 575 = (2, 270, 1) := by decide +kernel
theorem ki_270 : x_mci k_P 270 = 12 := by decide +kernel
theorem kcl_270 : x_maxL k_P 270 ≤ 60 ∧ 2 ≤ x_maxL k_P 270 := by decide +kernel
theorem kx_272_45 : x_code k_P 272 45 = some (.aload_n 0, 1) := by decide +kernel
theorem kx_272_46 : x_code k_P 272 46 = some (.getfield 162, 3) := by decide +kernel
theorem kp_272_162 : x_pool k_P 272 162 = (1, 12, 49) := by decide +kernel
theorem kx_272_49 : x_code k_P 272 49 = some (.iload_n 2, 1) := by decide +kernel
theorem kx_272_50 : x_code k_P 272 50 = some (.iaload, 1) := by decide +kernel
theorem kx_272_51 : x_code k_P 272 51 = some (.istore 6, 2) := by decide +kernel
theorem km_272_6 : 6 < x_maxL k_P 272 := by decide +kernel
theorem kx_272_53 : x_code k_P 272 53 = some (.aload_n 0, 1) := by decide +kernel
theorem kx_272_54 : x_code k_P 272 54 = some (.getfield 216, 3) := by decide +kernel
theorem kp_272_216 : x_pool k_P 272 216 = (1, 12, 67) := by decide +kernel
theorem kx_272_57 : x_code k_P 272 57 = some (.iload 6, 2) := by decide +kernel
theorem kx_272_59 : x_code k_P 272 59 = some (.iaload, 1) := by decide +kernel
theorem kx_272_60 : x_code k_P 272 60 = some (.ldc_w 571, 3) := by decide +kernel
theorem kp_272_571 : x_pool k_P 272 571 = (7, 0, 100000000) := by decide +kernel
theorem kx_272_63 : x_code k_P 272 63 = some (.if_icmp .lt 5, 3) := by decide +kernel
theorem kx_272_68 : x_code k_P 272 68 = some (.iload 4, 2) := by decide +kernel
theorem kx_272_70 : x_code k_P 272 70 = some (.iconst (-1), 1) := by decide +kernel
theorem kx_272_71 : x_code k_P 272 71 = some (.if_icmp .ne 11, 3) := by decide +kernel
theorem kx_272_82 : x_code k_P 272 82 = some (.iconst 0, 1) := by decide +kernel
theorem kx_272_83 : x_code k_P 272 83 = some (.istore 7, 2) := by decide +kernel
theorem km_272_7 : 7 < x_maxL k_P 272 := by decide +kernel
theorem kx_272_85 : x_code k_P 272 85 = some (.iload 6, 2) := by decide +kernel
theorem kx_272_87 : x_code k_P 272 87 = some (.iload_n 3, 1) := by decide +kernel
theorem kx_272_88 : x_code k_P 272 88 = some (.if_icmp .eq 52, 3) := by decide +kernel
theorem kx_272_140 : x_code k_P 272 140 = some (.iconst (-1), 1) := by decide +kernel
theorem kx_272_141 : x_code k_P 272 141 = some (.ireturn, 1) := by decide +kernel
theorem kx_272_91 : x_code k_P 272 91 = some (.aload_n 0, 1) := by decide +kernel
theorem kx_272_92 : x_code k_P 272 92 = some (.iload 6, 2) := by decide +kernel
theorem kx_272_94 : x_code k_P 272 94 = some (.invokevirtual 578, 3) := by decide +kernel
theorem kp_272_578 : x_pool k_P 272 578 = (2, 271, 1) := by decide +kernel
theorem ki_271 : x_mci k_P 271 = 12 := by decide +kernel
theorem kcl_271 : x_maxL k_P 271 ≤ 60 ∧ 2 ≤ x_maxL k_P 271 := by decide +kernel
theorem kx_272_97 : x_code k_P 272 97 = some (.istore 8, 2) := by decide +kernel
theorem km_272_8 : 8 < x_maxL k_P 272 := by decide +kernel
theorem kx_272_99 : x_code k_P 272 99 = some (.iload 7, 2) := by decide +kernel
theorem kx_272_101 : x_code k_P 272 101 = some (.iload 4, 2) := by decide +kernel
theorem kx_272_103 : x_code k_P 272 103 = some (.if_icmp .ne 27, 3) := by decide +kernel
theorem kx_272_130 : x_code k_P 272 130 = some (.iload 8, 2) := by decide +kernel
theorem kx_272_132 : x_code k_P 272 132 = some (.istore 6, 2) := by decide +kernel
theorem kx_272_134 : x_code k_P 272 134 = some (.iinc 7 1, 3) := by decide +kernel
theorem kx_272_137 : x_code k_P 272 137 = some (.goto (-52), 3) := by decide +kernel
theorem kx_272_106 : x_code k_P 272 106 = some (.iload 5, 2) := by decide +kernel
theorem kx_272_108 : x_code k_P 272 108 = some (.ifCond .eq 19, 3) := by decide +kernel
theorem kx_272_127 : x_code k_P 272 127 = some (.iload 8, 2) := by decide +kernel
theorem kx_272_129 : x_code k_P 272 129 = some (.ireturn, 1) := by decide +kernel
theorem kx_272_111 : x_code k_P 272 111 = some (.aload_n 0, 1) := by decide +kernel
theorem kx_272_112 : x_code k_P 272 112 = some (.getfield 213, 3) := by decide +kernel
theorem kp_272_213 : x_pool k_P 272 213 = (1, 12, 66) := by decide +kernel
theorem kx_272_115 : x_code k_P 272 115 = some (.bipush 8, 2) := by decide +kernel
theorem kx_272_117 : x_code k_P 272 117 = some (.iload 6, 2) := by decide +kernel
theorem kx_272_119 : x_code k_P 272 119 = some (.imul, 1) := by decide +kernel
theorem kx_272_120 : x_code k_P 272 120 = some (.iload 8, 2) := by decide +kernel
theorem kx_272_122 : x_code k_P 272 122 = some (.iadd, 1) := by decide +kernel
theorem kx_272_123 : x_code k_P 272 123 = some (.iaload, 1) := by decide +kernel
theorem kx_272_124 : x_code k_P 272 124 = some (.goto 5, 3) := by decide +kernel
theorem kx_272_74 : x_code k_P 272 74 = some (.aload_n 0, 1) := by decide +kernel
theorem kx_272_75 : x_code k_P 272 75 = some (.getfield 216, 3) := by decide +kernel
theorem kx_272_78 : x_code k_P 272 78 = some (.iload 6, 2) := by decide +kernel
theorem kx_272_80 : x_code k_P 272 80 = some (.iaload, 1) := by decide +kernel
theorem kx_272_81 : x_code k_P 272 81 = some (.ireturn, 1) := by decide +kernel
theorem kx_272_66 : x_code k_P 272 66 = some (.iconst (-1), 1) := by decide +kernel
theorem kx_272_67 : x_code k_P 272 67 = some (.ireturn, 1) := by decide +kernel
def fS_272_m : List (Nat × Nat) := [(102, 99999), (103, 99999), (104, 99999), (105, 99999), (63, 62), (63, 63), (63, 64)]
def fS_272_l85 : List (Nat × Nat) := []
theorem m_272 {xs : Nat → Int} {Ln d : Nat} {T : List cK} {M : cM} (hT : TT T) (hI : Rng M) {who c to k isWho : Int} (hS : Sg M) (p0 : 0 ≤ isWho ∧ isWho ≤ 1) : cC k_P xs Ln (d + 5) 272 [rf 63, (0, who), (0, c), (0, to), (0, k), (0, isWho)] (T, M) (qW T M fS_272_m 0 (fun v M1 => True)) := by
  show cP k_P xs Ln (d + 5) 272 0 [(0, rf 63), (1, (0, who)), (2, (0, c)), (3, (0, to)), (4, (0, k)), (5, (0, isWho))] [] (T, M) _
  have hFm : Fr fS_272_m M M := Fr.refl
  refine s_aload_n kx_272_0 rfl ?_
  refine s_iload_n kx_272_1 rfl ?_
  refine s_callV2 (k := 63) (s1 := 2) (s2 := 0) (as := [(0, c)]) (rest := []) kx_272_2 kp_272_514 (Or.inl rfl) rfl (tk_63 hT) ki_221 kcl_221 rfl rfl (by decide) (m_221 (d := d + 4) (p := c) hT hI) (kF (fun v1 v1p => ?_))
  refine s_if_eq (t := 32) kx_272_5 (by decide) (fun hc2 => ?_) (fun hc2 => ?_)
  · replace v1p := v1p.resolve_left (by omega)
    refine s_iconst (v := (-1)) kx_272_32 (by decide) ?_
    exact s_iret kx_272_33 (Or.inl kq_272) ⟨_, _, rfl, rfl, hI, hFm, trivial⟩
  · replace v1p := v1p.resolve_right (by omega)
    refine s_aload_n kx_272_8 rfl ?_
    refine s_iload_n kx_272_9 rfl ?_
    refine s_callV2 (k := 63) (s1 := 2) (s2 := 0) (as := [(0, to)]) (rest := []) kx_272_10 kp_272_508 (Or.inl rfl) rfl (tk_63 hT) ki_220 kcl_220 rfl rfl (by decide) (m_220 (d := d + 4) (r := to) hT hI) (kF (fun v3 v3p => ?_))
    refine s_if_eq (t := 32) kx_272_13 (by decide) (fun hc4 => ?_) (fun hc4 => ?_)
    · replace v3p := v3p.resolve_left (by omega)
      refine s_iconst (v := (-1)) kx_272_32 (by decide) ?_
      exact s_iret kx_272_33 (Or.inl kq_272) ⟨_, _, rfl, rfl, hI, hFm, trivial⟩
    · replace v3p := v3p.resolve_right (by omega)
      refine s_aload_n kx_272_16 rfl ?_
      refine r_getR (k := 63) (f := 50) (k2 := 94) kx_272_17 kp_272_165 (tk_63 hT) kf_12_50 (by decide) (rq_63_50 hI) ?_
      refine s_iload_n kx_272_20 rfl ?_
      refine r_aldU (k := 94) kx_272_21 (tk_94 hT) ⟨by omega, by omega⟩ (fun v5 v5e => ?_)
      refine s_iconst (v := 1) kx_272_22 (by decide) ?_
      refine s_icmp_eq (t := 32) kx_272_23 (by decide) (fun hc6 => ?_) (fun hc6 => ?_)
      · refine s_iconst (v := (-1)) kx_272_32 (by decide) ?_
        exact s_iret kx_272_33 (Or.inl kq_272) ⟨_, _, rfl, rfl, hI, hFm, trivial⟩
      · refine s_iload kx_272_26 rfl ?_
        refine s_iconst (v := (-1)) kx_272_28 (by decide) ?_
        refine s_icmp_ge (t := 34) kx_272_29 (by decide) (fun hc7 => ?_) (fun hc7 => ?_)
        · have hnr : nRm M = M 65 (M 63 14).toNat := rfl
          refine s_aload_n kx_272_34 rfl ?_
          refine s_iload_n kx_272_35 rfl ?_
          refine s_iload_n kx_272_36 rfl ?_
          refine s_callV2 (k := 63) (s1 := 3) (s2 := 0) (as := [(0, c), (0, who)]) (rest := []) kx_272_37 kp_272_572 (Or.inl rfl) rfl (tk_63 hT) ki_269 kcl_269 rfl rfl (by decide) (m_269 (d := d) (who := who) (c := c) hT hI hS (by omega)) (kV (fun M9 hI9 fr9 v8p => ?_))
          have hFm9 := hFm.call fr9 rfl
          refine s_aload_n kx_272_40 rfl ?_
          refine s_iload_n kx_272_41 rfl ?_
          refine s_callV2 (k := 63) (s1 := 2) (s2 := 0) (as := [(0, to)]) (rest := []) kx_272_42 kp_272_575 (Or.inl rfl) rfl (tk_63 hT) ki_270 kcl_270 rfl rfl (by decide) (m_270 (d := d + 4) (to := to) hT hI9 (by omega) (by omega) v8p.1) (kV (fun M11 hI11 fr11 v10p => ?_))
          have hFm11 := hFm9.call fr11 rfl
          refine s_aload_n kx_272_45 rfl ?_
          refine r_getR (k := 63) (f := 49) (k2 := 93) kx_272_46 kp_272_162 (tk_63 hT) kf_12_49 (by decide) (rq_63_49 hI11) ?_
          refine s_iload_n kx_272_49 rfl ?_
          refine r_ald (k := 93) kx_272_50 (tk_93 hT) ⟨by omega, by omega⟩ (rg_93 hI11 (by omega)) (fun v12 v12e v12a v12b => ?_)
          refine s_istore kx_272_51 km_272_6 rfl ?_
          refine s_aload_n kx_272_53 rfl ?_
          refine r_getR (k := 63) (f := 67) (k2 := 105) kx_272_54 kp_272_216 (tk_63 hT) kf_12_67 (by decide) (rq_63_67 hI11) ?_
          refine s_iload kx_272_57 rfl ?_
          refine r_ald (k := 105) kx_272_59 (tk_105 hT) ⟨by omega, by omega⟩ (rg_105 hI11) (fun v13 v13e v13a v13b => ?_)
          refine s_ldc_w kx_272_60 kp_272_571 ?_
          refine s_icmp_lt (t := 68) kx_272_63 (by decide) (fun hc14 => ?_) (fun hc14 => ?_)
          · refine s_iload kx_272_68 rfl ?_
            refine s_iconst (v := (-1)) kx_272_70 (by decide) ?_
            refine s_icmp_ne (t := 82) kx_272_71 (by decide) (fun hc15 => ?_) (fun hc15 => ?_)
            · refine s_iconst (v := 0) kx_272_82 (by decide) ?_
              refine s_istore kx_272_83 km_272_7 rfl ?_
              have key18 : ∀ n19 : Nat, ∀ (x6_16 x7_17 : Int), (0 ≤ x6_16) → (x6_16 ≤ 7) → ((-2147483648) ≤ x7_17) → (x7_17 ≤ 2147483647) → (M11 105 (x6_16).toNat < 100000000) → (M11 105 (x6_16).toNat).toNat < n19 → cP k_P xs Ln (d + 5) 272 85 [(0, rf 63), (3, (0, to)), (4, (0, k)), (5, (0, isWho)), (6, (0, x6_16)), (7, (0, x7_17))] [] (T, M11) (qW T M fS_272_m 0 (fun v M1 => True)) := by
                intro n19
                induction n19 with
                | zero => intro x6_16 x7_17 i20 i21 i22 i23 i24 hm25; exact absurd hm25 (Nat.not_lt_zero _)
                | succ n19 ih26 =>
                  intro x6_16 x7_17 i20 i21 i22 i23 i24 hm25
                  refine s_iload kx_272_85 rfl ?_
                  refine s_iload_n kx_272_87 rfl ?_
                  refine s_icmp_eq (t := 140) kx_272_88 (by decide) (fun hc27 => ?_) (fun hc27 => ?_)
                  · refine s_iconst (v := (-1)) kx_272_140 (by decide) ?_
                    exact s_iret kx_272_141 (Or.inl kq_272) ⟨_, _, rfl, rfl, hI11, hFm11, trivial⟩
                  · refine s_aload_n kx_272_91 rfl ?_
                    refine s_iload kx_272_92 rfl ?_
                    obtain ⟨w0, w1, w2, w3, w4⟩ := v10p x6_16 (by omega) (by omega) (by omega) (by omega)
                    refine s_callV2 (k := 63) (s1 := 2) (s2 := 0) (as := [(0, x6_16)]) (rest := []) kx_272_94 kp_272_578 (Or.inl rfl) rfl (tk_63 hT) ki_271 kcl_271 rfl rfl (by decide) (m_271 (d := d + 4) (a := x6_16) (w := w0) hT hI11 (by omega) (by omega) (by omega)) (kF (fun v28 v28p => ?_))
                    have hps := w3 v28 (by omega) (by omega)
                    have hr5 : 0 ≤ M11 105 (v28).toNat := (rg_105 hI11).1
                    refine s_istore kx_272_97 km_272_8 rfl ?_
                    refine s_iload kx_272_99 rfl ?_
                    refine s_iload kx_272_101 rfl ?_
                    refine s_icmp_ne (t := 130) kx_272_103 (by decide) (fun hc29 => ?_) (fun hc29 => ?_)
                    · refine s_iload kx_272_130 rfl ?_
                      refine s_istore kx_272_132 km_272_6 rfl ?_
                      refine r_iincR kx_272_134 rfl km_272_7 (fun v30 v30a v30b => ?_)
                      refine s_goto (t := 85) kx_272_137 (by decide) ?_
                      exact cP.wk (lS1 rfl (lS1 rfl (lS1 rfl (lS1 rfl (lS1 rfl (lS1 rfl lS0)))))) (ih26 v28 v30 (by omega) (by omega) (by omega) (by omega) (by omega) (by omega))
                    · refine s_iload kx_272_106 rfl ?_
                      refine s_if_eq (t := 127) kx_272_108 (by decide) (fun hc31 => ?_) (fun hc31 => ?_)
                      · refine s_iload kx_272_127 rfl ?_
                        exact s_iret kx_272_129 (Or.inl kq_272) ⟨_, _, rfl, rfl, hI11, hFm11, trivial⟩
                      · refine s_aload_n kx_272_111 rfl ?_
                        refine r_getR (k := 63) (f := 66) (k2 := 104) kx_272_112 kp_272_213 (tk_63 hT) kf_12_66 (by decide) (rq_63_66 hI11) ?_
                        refine s_bipush (v := 8) kx_272_115 (by decide) ?_
                        refine s_iload kx_272_117 rfl ?_
                        refine r_mul kx_272_119 ⟨by omega, by omega⟩ ?_
                        refine s_iload kx_272_120 rfl ?_
                        refine r_add kx_272_122 ⟨by omega, by omega⟩ ?_
                        refine r_ald (k := 104) kx_272_123 (tk_104 hT) ⟨by omega, by omega⟩ (rg_104 hI11) (fun v32 v32e v32a v32b => ?_)
                        refine s_goto (t := 129) kx_272_124 (by decide) ?_
                        exact s_iret kx_272_129 (Or.inl kq_272) ⟨_, _, rfl, rfl, hI11, hFm11, trivial⟩
              exact cP.wk (lS1 rfl (lS1 rfl (lS1 rfl (lS1 rfl (lS1 rfl (lS1 rfl lS0)))))) (key18 _ v12 0 (by omega) (by omega) (by omega) (by omega) (by omega) (Nat.lt_succ_self _))
            · refine s_aload_n kx_272_74 rfl ?_
              refine r_getR (k := 63) (f := 67) (k2 := 105) kx_272_75 kp_272_216 (tk_63 hT) kf_12_67 (by decide) (rq_63_67 hI11) ?_
              refine s_iload kx_272_78 rfl ?_
              refine r_aldK (k := 105) kx_272_80 (tk_105 hT) ⟨by omega, by omega⟩ v13e ?_
              exact s_iret kx_272_81 (Or.inl kq_272) ⟨_, _, rfl, rfl, hI11, hFm11, trivial⟩
          · refine s_iconst (v := (-1)) kx_272_66 (by decide) ?_
            exact s_iret kx_272_67 (Or.inl kq_272) ⟨_, _, rfl, rfl, hI11, hFm11, trivial⟩
        · refine s_iconst (v := (-1)) kx_272_32 (by decide) ?_
          exact s_iret kx_272_33 (Or.inl kq_272) ⟨_, _, rfl, rfl, hI, hFm, trivial⟩
theorem kx_273_0 : x_code k_P 273 0 = some (.aload_n 0, 1) := by decide +kernel
theorem kx_273_1 : x_code k_P 273 1 = some (.iload_n 1, 1) := by decide +kernel
theorem kx_273_2 : x_code k_P 273 2 = some (.invokevirtual 514, 3) := by decide +kernel
theorem kp_273_514 : x_pool k_P 273 514 = (2, 221, 1) := by decide +kernel
theorem kx_273_5 : x_code k_P 273 5 = some (.ifCond .eq 16, 3) := by decide +kernel
theorem kx_273_21 : x_code k_P 273 21 = some (.iconst (-1), 1) := by decide +kernel
theorem kx_273_22 : x_code k_P 273 22 = some (.ireturn, 1) := by decide +kernel
theorem kq_273 : x_retk k_P 273 = 1 := by decide +kernel
theorem kx_273_8 : x_code k_P 273 8 = some (.aload_n 0, 1) := by decide +kernel
theorem kx_273_9 : x_code k_P 273 9 = some (.iload_n 1, 1) := by decide +kernel
theorem kx_273_10 : x_code k_P 273 10 = some (.iload_n 2, 1) := by decide +kernel
theorem kx_273_11 : x_code k_P 273 11 = some (.iload_n 3, 1) := by decide +kernel
theorem kx_273_12 : x_code k_P 273 12 = some (.iload 4, 2) := by decide +kernel
theorem kx_273_14 : x_code k_P 273 14 = some (.iconst 0, 1) := by decide +kernel
theorem kx_273_15 : x_code k_P 273 15 = some (.invokevirtual 581, 3) := by decide +kernel
theorem kp_273_581 : x_pool k_P 273 581 = (2, 272, 5) := by decide +kernel
theorem ki_272 : x_mci k_P 272 = 12 := by decide +kernel
theorem kcl_272 : x_maxL k_P 272 ≤ 60 ∧ 6 ≤ x_maxL k_P 272 := by decide +kernel
theorem kx_273_18 : x_code k_P 273 18 = some (.goto 4, 3) := by decide +kernel
def fS_273_m : List (Nat × Nat) := [(102, 99999), (103, 99999), (104, 99999), (105, 99999), (63, 62), (63, 63), (63, 64)]
theorem m_273 {xs : Nat → Int} {Ln d : Nat} {T : List cK} {M : cM} (hT : TT T) (hI : Rng M) {p c to k : Int} (hS : Sg M) : cC k_P xs Ln (d + 6) 273 [rf 63, (0, p), (0, c), (0, to), (0, k)] (T, M) (qW T M fS_273_m 0 (fun v M1 => True)) := by
  show cP k_P xs Ln (d + 6) 273 0 [(0, rf 63), (1, (0, p)), (2, (0, c)), (3, (0, to)), (4, (0, k))] [] (T, M) _
  have hFm : Fr fS_273_m M M := Fr.refl
  refine s_aload_n kx_273_0 rfl ?_
  refine s_iload_n kx_273_1 rfl ?_
  refine s_callV2 (k := 63) (s1 := 2) (s2 := 0) (as := [(0, p)]) (rest := []) kx_273_2 kp_273_514 (Or.inl rfl) rfl (tk_63 hT) ki_221 kcl_221 rfl rfl (by decide) (m_221 (d := d + 5) (p := p) hT hI) (kF (fun v1 v1p => ?_))
  refine s_if_eq (t := 21) kx_273_5 (by decide) (fun hc2 => ?_) (fun hc2 => ?_)
  · replace v1p := v1p.resolve_left (by omega)
    refine s_iconst (v := (-1)) kx_273_21 (by decide) ?_
    exact s_iret kx_273_22 (Or.inl kq_273) ⟨_, _, rfl, rfl, hI, hFm, trivial⟩
  · replace v1p := v1p.resolve_right (by omega)
    refine s_aload_n kx_273_8 rfl ?_
    refine s_iload_n kx_273_9 rfl ?_
    refine s_iload_n kx_273_10 rfl ?_
    refine s_iload_n kx_273_11 rfl ?_
    refine s_iload kx_273_12 rfl ?_
    refine s_iconst (v := 0) kx_273_14 (by decide) ?_
    refine s_callV2 (k := 63) (s1 := 6) (s2 := 0) (as := [(0, 0), (0, k), (0, to), (0, c), (0, p)]) (rest := []) kx_273_15 kp_273_581 (Or.inl rfl) rfl (tk_63 hT) ki_272 kcl_272 rfl rfl (by decide) (m_272 (d := d) (who := p) (c := c) (to := to) (k := k) (isWho := 0) hT hI hS (by omega)) (kW (fun v3 M4 hI4 fr4 v3p => ?_))
    have hFm4 := hFm.call fr4 rfl
    refine s_goto (t := 22) kx_273_18 (by decide) ?_
    exact s_iret kx_273_22 (Or.inl kq_273) ⟨_, _, rfl, rfl, hI4, hFm4, trivial⟩
theorem kx_274_0 : x_code k_P 274 0 = some (.aload_n 0, 1) := by decide +kernel
theorem kx_274_1 : x_code k_P 274 1 = some (.iconst (-1), 1) := by decide +kernel
theorem kx_274_2 : x_code k_P 274 2 = some (.iload_n 1, 1) := by decide +kernel
theorem kx_274_3 : x_code k_P 274 3 = some (.iload_n 2, 1) := by decide +kernel
theorem kx_274_4 : x_code k_P 274 4 = some (.iload_n 3, 1) := by decide +kernel
theorem kx_274_5 : x_code k_P 274 5 = some (.iconst 1, 1) := by decide +kernel
theorem kx_274_6 : x_code k_P 274 6 = some (.invokevirtual 581, 3) := by decide +kernel
theorem kp_274_581 : x_pool k_P 274 581 = (2, 272, 5) := by decide +kernel
theorem kx_274_9 : x_code k_P 274 9 = some (.ireturn, 1) := by decide +kernel
theorem kq_274 : x_retk k_P 274 = 1 := by decide +kernel
def fS_274_m : List (Nat × Nat) := [(102, 99999), (103, 99999), (104, 99999), (105, 99999), (63, 62), (63, 63), (63, 64)]
theorem m_274 {xs : Nat → Int} {Ln d : Nat} {T : List cK} {M : cM} (hT : TT T) (hI : Rng M) {c to k : Int} (hS : Sg M) : cC k_P xs Ln (d + 6) 274 [rf 63, (0, c), (0, to), (0, k)] (T, M) (qW T M fS_274_m 0 (fun v M1 => True)) := by
  show cP k_P xs Ln (d + 6) 274 0 [(0, rf 63), (1, (0, c)), (2, (0, to)), (3, (0, k))] [] (T, M) _
  have hFm : Fr fS_274_m M M := Fr.refl
  refine s_aload_n kx_274_0 rfl ?_
  refine s_iconst (v := (-1)) kx_274_1 (by decide) ?_
  refine s_iload_n kx_274_2 rfl ?_
  refine s_iload_n kx_274_3 rfl ?_
  refine s_iload_n kx_274_4 rfl ?_
  refine s_iconst (v := 1) kx_274_5 (by decide) ?_
  refine s_callV2 (k := 63) (s1 := 6) (s2 := 0) (as := [(0, 1), (0, k), (0, to), (0, c), (0, (-1))]) (rest := []) kx_274_6 kp_274_581 (Or.inl rfl) rfl (tk_63 hT) ki_272 kcl_272 rfl rfl (by decide) (m_272 (d := d) (who := (-1)) (c := c) (to := to) (k := k) (isWho := 1) hT hI hS (by omega)) (kW (fun v1 M2 hI2 fr2 v1p => ?_))
  have hFm2 := hFm.call fr2 rfl
  exact s_iret kx_274_9 (Or.inl kq_274) ⟨_, _, rfl, rfl, hI2, hFm2, trivial⟩
