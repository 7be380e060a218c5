/-! rules that carry ranges and frames -/
theorem bmod32 {z : Int} (h1 : -2147483648 ≤ z) (h2 : z ≤ 2147483647) : (Int32.ofInt z).toInt = z := by
  rw [Int32.toInt_ofInt]
  have e : Int32.size = 4294967296 := rfl
  exact Int.bmod_eq_of_le (by rw [e]; omega) (by rw [e]; omega)
theorem i32_rng (x : Int32) : -2147483648 ≤ x.toInt ∧ x.toInt ≤ 2147483647 := by
  have h1 := x.le_toInt
  have h2 := x.toInt_lt
  omega
theorem c_addE {a b : Int} (h1 : -2147483648 ≤ a + b) (h2 : a + b ≤ 2147483647) : c_bin (· + ·) a b = a + b := by
  unfold c_bin
  dsimp only
  rw [← Int32.ofInt_add]
  exact bmod32 h1 h2
theorem c_subE {a b : Int} (h1 : -2147483648 ≤ a - b) (h2 : a - b ≤ 2147483647) : c_bin (· - ·) a b = a - b := by
  unfold c_bin
  dsimp only
  rw [← Int32.ofInt_sub]
  exact bmod32 h1 h2
theorem c_mulE {a b : Int} (h1 : -2147483648 ≤ a * b) (h2 : a * b ≤ 2147483647) : c_bin (· * ·) a b = a * b := by
  unfold c_bin
  dsimp only
  rw [← Int32.ofInt_mul]
  exact bmod32 h1 h2
theorem c_bin_rng (op : Int32 → Int32 → Int32) (a b : Int) : -2147483648 ≤ c_bin op a b ∧ c_bin op a b ≤ 2147483647 := i32_rng _
def qF (T : List cK) (M : cM) (tg : Nat) (p : Int → Prop) : Option cV → cH → Prop := fun r h => ∃ v, r = some (tg, v) ∧ h = (T, M) ∧ p v
def qW (T : List cK) (M : cM) (S : List (Nat × Nat)) (tg : Nat) (p : Int → cM → Prop) : Option cV → cH → Prop := fun r h => ∃ v M1, r = some (tg, v) ∧ h = (T, M1) ∧ Rng M1 ∧ Fr S M M1 ∧ p v M1
def qV (T : List cK) (M : cM) (S : List (Nat × Nat)) (p : cM → Prop) : Option cV → cH → Prop := fun r h => ∃ M1, r = none ∧ h = (T, M1) ∧ Rng M1 ∧ Fr S M M1 ∧ p M1
def qG (T : List cK) (M : cM) (S : List (Nat × Nat)) (tg : Nat) (p : Int → cM → Prop) : Option cV → cH → Prop := fun r h => ∃ v T1 M1, r = some (tg, v) ∧ h = (T1, M1) ∧ TT T1 ∧ Rng M1 ∧ Fr S M M1 ∧ Gm T1 M1 ∧ p v M1
def qGV (T : List cK) (M : cM) (S : List (Nat × Nat)) (p : cM → Prop) : Option cV → cH → Prop := fun r h => ∃ T1 M1, r = none ∧ h = (T1, M1) ∧ TT T1 ∧ Rng M1 ∧ Fr S M M1 ∧ Gm T1 M1 ∧ p M1
theorem cC.deep {P : xP} {xs : Nat → Int} {Ln d e m : Nat} {as : List cV} {h : cH} {Q : Option cV → cH → Prop} (g : cC P xs Ln d m as h Q) (hd : d ≤ e) : cC P xs Ln e m as h Q := cP.mono g hd (fun _ _ q => q)
section RR
variable {P : xP} {xs : Nat → Int} {Ln d m pc : Nat} {L : List (Nat × cV)} {st : List cV} {T : List cK} {M : cM} {Q : Option cV → cH → Prop}
theorem r_add {v w : Int} (hc : x_code P m pc = some (.iadd, 1)) (h : -2147483648 ≤ v + w ∧ v + w ≤ 2147483647) (k : cP P xs Ln d m (pc + 1) L ((0, v + w) :: st) (T, M) Q) : cP P xs Ln d m pc L ((0, w) :: (0, v) :: st) (T, M) Q := s_iadd hc (c_addE h.1 h.2) k
theorem r_sub {v w : Int} (hc : x_code P m pc = some (.isub, 1)) (h : -2147483648 ≤ v - w ∧ v - w ≤ 2147483647) (k : cP P xs Ln d m (pc + 1) L ((0, v - w) :: st) (T, M) Q) : cP P xs Ln d m pc L ((0, w) :: (0, v) :: st) (T, M) Q := s_isub hc (c_subE h.1 h.2) k
theorem r_mul {v w : Int} (hc : x_code P m pc = some (.imul, 1)) (h : -2147483648 ≤ v * w ∧ v * w ≤ 2147483647) (k : cP P xs Ln d m (pc + 1) L ((0, v * w) :: st) (T, M) Q) : cP P xs Ln d m pc L ((0, w) :: (0, v) :: st) (T, M) Q := s_imul hc (c_mulE h.1 h.2) k
theorem r_iinc {z : Nat} {zc v : Int} {L' : List (Nat × cV)} (hc : x_code P m pc = some (.iinc z zc, 3)) (hl : c_find L z = some (0, v)) (hm : z < x_maxL P m) (hz : (Int32.ofInt zc).toInt = zc) (h : -2147483648 ≤ v + zc ∧ v + zc ≤ 2147483647) (hL : c_put1 L z (0, v + zc) = L') (k : cP P xs Ln d m (pc + 3) L' st (T, M) Q) : cP P xs Ln d m pc L st (T, M) Q := s_iinc hc hl hm (by rw [hz]; exact c_addE h.1 h.2) hL k
theorem r_getI {idx ci k f kd tg : Nat} {lo hi : Int} (hc : x_code P m pc = some (.getfield idx, 3)) (hp : x_pool P m idx = (1, ci, (f : Int))) (hT : T[k]? = some (.inr ci)) (hk : (x_cls P ci)[f]? = some kd) (hd : ∀ x, c_fld kd x = (tg, x)) (hr : lo ≤ M k f ∧ M k f ≤ hi) (kk : ∀ v, M k f = v → lo ≤ v → v ≤ hi → cP P xs Ln d m (pc + 3) L ((tg, v) :: st) (T, M) Q) : cP P xs Ln d m pc L (rf k :: st) (T, M) Q :=
  s_getf hc hp hT hk (hd _) (kk _ rfl hr.1 hr.2)
theorem r_getU {idx ci k f kd tg : Nat} (hc : x_code P m pc = some (.getfield idx, 3)) (hp : x_pool P m idx = (1, ci, (f : Int))) (hT : T[k]? = some (.inr ci)) (hk : (x_cls P ci)[f]? = some kd) (hd : ∀ x, c_fld kd x = (tg, x)) (kk : ∀ v, M k f = v → cP P xs Ln d m (pc + 3) L ((tg, v) :: st) (T, M) Q) : cP P xs Ln d m pc L (rf k :: st) (T, M) Q :=
  s_getf hc hp hT hk (hd _) (kk _ rfl)
theorem r_getK {idx ci k f kd tg : Nat} {w : Int} (hc : x_code P m pc = some (.getfield idx, 3)) (hp : x_pool P m idx = (1, ci, (f : Int))) (hT : T[k]? = some (.inr ci)) (hk : (x_cls P ci)[f]? = some kd) (hd : ∀ x, c_fld kd x = (tg, x)) (hw : M k f = w) (kk : cP P xs Ln d m (pc + 3) L ((tg, w) :: st) (T, M) Q) : cP P xs Ln d m pc L (rf k :: st) (T, M) Q :=
  s_getf hc hp hT hk (hw ▸ hd _) kk
theorem r_getR {idx ci k f kd k2 : Nat} (hc : x_code P m pc = some (.getfield idx, 3)) (hp : x_pool P m idx = (1, ci, (f : Int))) (hT : T[k]? = some (.inr ci)) (hk : (x_cls P ci)[f]? = some kd) (hd : kd % 10 = 2) (hv : M k f = ((k2 : Nat) : Int)) (kk : cP P xs Ln d m (pc + 3) L (rf k2 :: st) (T, M) Q) : cP P xs Ln d m pc L (rf k :: st) (T, M) Q := by
  refine s_getf hc hp hT hk ?_ kk
  unfold c_fld
  rw [hd, hv]
  exact if_neg (by omega)
theorem r_put {idx ci k f kd tg : Nat} {x : Int} (hc : x_code P m pc = some (.putfield idx, 3)) (hp : x_pool P m idx = (1, ci, (f : Int))) (hT : T[k]? = some (.inr ci)) (hk : (x_cls P ci)[f]? = some kd) (hf : c_fit kd (tg, x) = true) (hd : kd < 10) (ht : tg ≠ 2) (hI : Rng M) (hx : r_ok k f x) (kk : ∀ M1, Rng M1 → Up M k f x M1 → cP P xs Ln d m (pc + 3) L st (T, M1) Q) : cP P xs Ln d m pc L ((tg, x) :: rf k :: st) (T, M) Q := by
  refine s_putf hc hp hT hk hf (Or.inl hd) rfl ?_
  have e : c_enc (tg, x) = x := if_neg ht
  rw [e]
  exact kk _ (hI.up (Up.of ..) hx) (Up.of ..)
theorem r_ald {k n : Nat} {i lo hi : Int} (hc : x_code P m pc = some (.iaload, 1)) (hT : T[k]? = some (.inl (0, n))) (h0 : 0 ≤ i ∧ i < (n : Int)) (hr : lo ≤ M k i.toNat ∧ M k i.toNat ≤ hi) (kk : ∀ v, M k i.toNat = v → lo ≤ v → v ≤ hi → cP P xs Ln d m (pc + 1) L ((0, v) :: st) (T, M) Q) : cP P xs Ln d m pc L ((0, i) :: rf k :: st) (T, M) Q := s_iald hc hT h0 rfl (kk _ rfl hr.1 hr.2)
theorem r_aldU {k n : Nat} {i : Int} (hc : x_code P m pc = some (.iaload, 1)) (hT : T[k]? = some (.inl (0, n))) (h0 : 0 ≤ i ∧ i < (n : Int)) (kk : ∀ v, M k i.toNat = v → cP P xs Ln d m (pc + 1) L ((0, v) :: st) (T, M) Q) : cP P xs Ln d m pc L ((0, i) :: rf k :: st) (T, M) Q := s_iald hc hT h0 rfl (kk _ rfl)
theorem r_aldK {k n : Nat} {i w : Int} (hc : x_code P m pc = some (.iaload, 1)) (hT : T[k]? = some (.inl (0, n))) (h0 : 0 ≤ i ∧ i < (n : Int)) (hw : M k i.toNat = w) (kk : cP P xs Ln d m (pc + 1) L ((0, w) :: st) (T, M) Q) : cP P xs Ln d m pc L ((0, i) :: rf k :: st) (T, M) Q := s_iald hc hT h0 hw kk
theorem s_lald {k n : Nat} {i v : Int} (hc : x_code P m pc = some (.laload, 1)) (hT : T[k]? = some (.inl (1, n))) (h0 : 0 ≤ i ∧ i < (n : Int)) (hv : M k i.toNat = v) (kk : cP P xs Ln d m (pc + 1) L ((1, v) :: st) (T, M) Q) : cP P xs Ln d m pc L ((0, i) :: rf k :: st) (T, M) Q := by
  subst hv
  refine cP.step hc (q := (pc + 1, L, (1, M k i.toNat) :: st, (T, M))) ?_ kk
  show (match T[k]? with
    | some (.inl a) => if (0 : Nat) = 0 ∧ a.1 = 1 ∧ 0 ≤ i ∧ i < (a.2 : Int) then c_go pc (T, M) 1 L ((1, M k i.toNat) :: st) else none
    | _ => none) = _
  rw [hT]
  exact if_pos ⟨rfl, rfl, h0.1, h0.2⟩
theorem r_laldU {k n : Nat} {i : Int} (hc : x_code P m pc = some (.laload, 1)) (hT : T[k]? = some (.inl (1, n))) (h0 : 0 ≤ i ∧ i < (n : Int)) (kk : ∀ v, M k i.toNat = v → cP P xs Ln d m (pc + 1) L ((1, v) :: st) (T, M) Q) : cP P xs Ln d m pc L ((0, i) :: rf k :: st) (T, M) Q := s_lald hc hT h0 rfl (kk _ rfl)
theorem s_bald {k n : Nat} {i v : Int} (hc : x_code P m pc = some (.baload, 1)) (hT : T[k]? = some (.inl (2, n))) (h0 : 0 ≤ i ∧ i < (n : Int)) (hv : M k i.toNat = v) (kk : cP P xs Ln d m (pc + 1) L ((0, v) :: st) (T, M) Q) : cP P xs Ln d m pc L ((0, i) :: rf k :: st) (T, M) Q := by
  subst hv
  refine cP.step hc (q := (pc + 1, L, (0, M k i.toNat) :: st, (T, M))) ?_ kk
  show (match T[k]? with
    | some (.inl a) => if (0 : Nat) = 0 ∧ a.1 = 2 ∧ 0 ≤ i ∧ i < (a.2 : Int) then c_go pc (T, M) 1 L ((0, M k i.toNat) :: st) else none
    | _ => none) = _
  rw [hT]
  exact if_pos ⟨rfl, rfl, h0.1, h0.2⟩
theorem r_bald {k n : Nat} {i lo hi : Int} (hc : x_code P m pc = some (.baload, 1)) (hT : T[k]? = some (.inl (2, n))) (h0 : 0 ≤ i ∧ i < (n : Int)) (hr : lo ≤ M k i.toNat ∧ M k i.toNat ≤ hi) (kk : ∀ v, M k i.toNat = v → lo ≤ v → v ≤ hi → cP P xs Ln d m (pc + 1) L ((0, v) :: st) (T, M) Q) : cP P xs Ln d m pc L ((0, i) :: rf k :: st) (T, M) Q := s_bald hc hT h0 rfl (kk _ rfl hr.1 hr.2)
theorem r_ast {k n : Nat} {i v : Int} (hc : x_code P m pc = some (.iastore, 1)) (hT : T[k]? = some (.inl (0, n))) (h0 : 0 ≤ i ∧ i < (n : Int)) (hI : Rng M) (hx : r_ok k i.toNat v) (kk : ∀ M1, Rng M1 → Up M k i.toNat v M1 → cP P xs Ln d m (pc + 1) L st (T, M1) Q) : cP P xs Ln d m pc L ((0, v) :: (0, i) :: rf k :: st) (T, M) Q :=
  s_iast hc hT h0 rfl (kk _ (hI.up (Up.of ..) hx) (Up.of ..))
theorem s_last {k n : Nat} {i v : Int} {M' : cM} (hc : x_code P m pc = some (.lastore, 1)) (hT : T[k]? = some (.inl (1, n))) (h0 : 0 ≤ i ∧ i < (n : Int)) (hM : c_up M k i.toNat v = M') (kk : cP P xs Ln d m (pc + 1) L st (T, M') Q) : cP P xs Ln d m pc L ((1, v) :: (0, i) :: rf k :: st) (T, M) Q := by
  subst hM
  refine cP.step hc (q := (pc + 1, L, st, (T, c_up M k i.toNat v))) ?_ kk
  show (match T[k]? with
    | some (.inl a) => if (0 : Nat) = 0 ∧ (1 : Nat) = 1 ∧ a.1 = 1 ∧ 0 ≤ i ∧ i < (a.2 : Int) ∧ ((1 : Nat) = 2 → c_fit 3 (1, v) = true) then (some (.inl (pc + 1, L, st, (T, c_up M k i.toNat v))) : Option cO) else none
    | _ => none) = _
  rw [hT]
  exact if_pos ⟨rfl, rfl, rfl, h0.1, h0.2, fun z => absurd z (by decide)⟩
theorem r_last {k n : Nat} {i v : Int} (hc : x_code P m pc = some (.lastore, 1)) (hT : T[k]? = some (.inl (1, n))) (h0 : 0 ≤ i ∧ i < (n : Int)) (hI : Rng M) (hx : r_ok k i.toNat v) (kk : ∀ M1, Rng M1 → Up M k i.toNat v M1 → cP P xs Ln d m (pc + 1) L st (T, M1) Q) : cP P xs Ln d m pc L ((1, v) :: (0, i) :: rf k :: st) (T, M) Q :=
  s_last hc hT h0 rfl (kk _ (hI.up (Up.of ..) hx) (Up.of ..))
theorem r_bast {k n : Nat} {i v : Int} (hc : x_code P m pc = some (.bastore, 1)) (hT : T[k]? = some (.inl (2, n))) (h0 : 0 ≤ i ∧ i < (n : Int)) (hb : v = 0 ∨ v = 1) (hI : Rng M) (hx : r_ok k i.toNat v) (kk : ∀ M1, Rng M1 → Up M k i.toNat v M1 → cP P xs Ln d m (pc + 1) L st (T, M1) Q) : cP P xs Ln d m pc L ((0, v) :: (0, i) :: rf k :: st) (T, M) Q := by
  refine cP.step hc (q := (pc + 1, L, st, (T, c_up M k i.toNat v))) ?_ (kk _ (hI.up (Up.of ..) hx) (Up.of ..))
  show (match T[k]? with
    | some (.inl a) => if (0 : Nat) = 0 ∧ (0 : Nat) = 0 ∧ a.1 = 2 ∧ 0 ≤ i ∧ i < (a.2 : Int) ∧ ((2 : Nat) = 2 → c_fit 3 (0, v) = true) then (some (.inl (pc + 1, L, st, (T, c_up M k i.toNat v))) : Option cO) else none
    | _ => none) = _
  rw [hT]
  exact if_pos ⟨rfl, rfl, rfl, h0.1, h0.2, fun _ => by simpa [c_fit] using hb⟩
theorem r_alen {k n ty : Nat} (hc : x_code P m pc = some (.arraylength, 1)) (hT : T[k]? = some (.inl (ty, n))) (h3 : ty < 3 ∧ n < 2147483648) (kk : cP P xs Ln d m (pc + 1) L ((0, (n : Int)) :: st) (T, M) Q) : cP P xs Ln d m pc L (rf k :: st) (T, M) Q := s_alen hc hT h3 kk
theorem r_cpy {ks kd n0 n1 idx a : Nat} {b n dp sp : Int} (hc : x_code P m pc = some (.invokestatic idx, 3)) (hp : x_pool P m idx = (10, a, b)) (h1 : T[ks]? = some (.inl (0, n0))) (h2 : T[kd]? = some (.inl (0, n1))) (h3 : 0 ≤ n ∧ 0 ≤ dp ∧ 0 ≤ sp ∧ sp + n ≤ n0 ∧ dp + n ≤ n1) (h8 : (st.map c_cat).sum ≤ 8) (hI : Rng M) (hx : ∀ q : Nat, dp.toNat ≤ q → q < dp.toNat + n.toNat → r_ok kd q (M ks (sp.toNat + (q - dp.toNat))))
    (kk : ∀ M1, Rng M1 → (∀ q : Nat, dp.toNat ≤ q → q < dp.toNat + n.toNat → M1 kd q = M ks (sp.toNat + (q - dp.toNat))) → (∀ x y : Nat, ¬ (x = kd ∧ dp.toNat ≤ y ∧ y < dp.toNat + n.toNat) → M1 x y = M x y) → cP P xs Ln d m (pc + 3) L st (T, M1) Q) : cP P xs Ln d m pc L ((0, n) :: (0, dp) :: rf kd :: (0, sp) :: rf ks :: st) (T, M) Q := by
  have g1 : ∀ q : Nat, dp.toNat ≤ q → q < dp.toNat + n.toNat → (fun a b => if a = kd ∧ dp.toNat ≤ b ∧ b < dp.toNat + n.toNat then M ks (sp.toNat + (b - dp.toNat)) else M a b : cM) kd q = M ks (sp.toNat + (q - dp.toNat)) := fun q a1 a2 => if_pos ⟨rfl, a1, a2⟩
  have g2 : ∀ x y : Nat, ¬ (x = kd ∧ dp.toNat ≤ y ∧ y < dp.toNat + n.toNat) → (fun a b => if a = kd ∧ dp.toNat ≤ b ∧ b < dp.toNat + n.toNat then M ks (sp.toNat + (b - dp.toNat)) else M a b : cM) x y = M x y := fun x y a1 => if_neg a1
  refine cP.step hc (q := (pc + 3, L, st, (T, fun a b => if a = kd ∧ dp.toNat ≤ b ∧ b < dp.toNat + n.toNat then M ks (sp.toNat + (b - dp.toNat)) else M a b))) ?_ (kk _ ?_ g1 g2)
  · show c_if true (c_invS P m pc L ((0, n) :: (0, dp) :: rf kd :: (0, sp) :: rf ks :: st) (T, M) idx) = _
    simp only [c_if, cond_true, c_invS, hp, c_cpy, Int.toNat_natCast, h1, h2]
    exact if_pos ⟨h3.1, h3.2.1, h3.2.2.1, h3.2.2.2.1, h3.2.2.2.2, h8⟩
  · intro x y
    by_cases g : x = kd ∧ dp.toNat ≤ y ∧ y < dp.toNat + n.toNat
    · obtain ⟨rfl, ga, gb⟩ := g
      rw [g1 y ga gb]
      exact hx y ga gb
    · rw [g2 x y g]
      exact hI x y
theorem s_lret {v : Int} (hc : x_code P m pc = some (.lreturn, 1)) (hk : x_retk P m = 3) (hQ : Q (some (1, v)) (T, M)) : cP P xs Ln d m pc L [(1, v)] (T, M) Q := by
  refine cP.ret hc ?_ hQ
  exact if_pos ⟨rfl, Or.inr (Or.inr (Or.inl ⟨rfl, hk⟩))⟩
theorem s_aret {k : Nat} (hc : x_code P m pc = some (.areturn, 1)) (hk : x_retk P m = 4) (hQ : Q (some (rf k)) (T, M)) : cP P xs Ln d m pc L [rf k] (T, M) Q := by
  refine cP.ret hc ?_ hQ
  exact if_pos ⟨rfl, Or.inr (Or.inr (Or.inr ⟨rfl, hk⟩))⟩
theorem s_tsw {df lo hi : Int} {offs : Array Int} {len t : Nat} {v : Int} (hc : x_code P m pc = some (.tableswitch df lo hi offs, len)) (hn : (offs.toList.length : Int) = hi - lo + 1) (w : Int) (hv : v = w) (ht : (pc : Int) + c_swT df lo hi offs.toList w = (t : Int)) (k : cP P xs Ln d m t L st (T, M) Q) : cP P xs Ln d m pc L ((0, v) :: st) (T, M) Q := by
  subst hv
  refine cP.step hc (q := (t, L, st, (T, M))) ?_ k
  show c_sw pc L ((0, v) :: st) (T, M) df lo hi offs.toList = _
  unfold c_sw
  dsimp only
  rw [ht, if_pos ⟨rfl, hn, by omega⟩]
  rfl
theorem s_tswD {df lo hi : Int} {offs : Array Int} {len t : Nat} {v : Int} (hc : x_code P m pc = some (.tableswitch df lo hi offs, len)) (hn : (offs.toList.length : Int) = hi - lo + 1) (hv : v < lo ∨ hi < v) (ht : (pc : Int) + df = (t : Int)) (k : cP P xs Ln d m t L st (T, M) Q) : cP P xs Ln d m pc L ((0, v) :: st) (T, M) Q :=
  s_tsw hc hn v rfl (by unfold c_swT; rw [if_pos hv]; exact ht) k
theorem s_lsw {df : Int} {ps : Array (Int × Int)} {len t : Nat} {v : Int} (hc : x_code P m pc = some (.lookupswitch df ps, len)) (hs : (ps.toList.zip (ps.toList.drop 1)).all (fun (a, next) => a.1 < next.1) = true) (w : Int) (hv : v = w) (ht : (pc : Int) + Op.lookupswitch.offset ps.toList df w = (t : Int)) (k : cP P xs Ln d m t L st (T, M) Q) : cP P xs Ln d m pc L ((0, v) :: st) (T, M) Q := by
  subst hv
  refine cP.step hc (q := (t, L, st, (T, M))) ?_ k
  show c_lsw pc L ((0, v) :: st) (T, M) df ps.toList = _
  unfold c_lsw
  dsimp only
  rw [ht, if_pos ⟨rfl, hs, by omega⟩]
  rfl
theorem lsw_dflt {df v : Int} : ∀ {ps : List (Int × Int)}, (∀ q ∈ ps, ¬ v = q.1) → Op.lookupswitch.offset ps df v = df
  | [], _ => rfl
  | q :: l, h => by
    rw [Op.lookupswitch.offset_cons, if_neg (fun e => h q List.mem_cons_self e.symm)]
    exact lsw_dflt (fun q hq => h q (List.mem_cons_of_mem _ hq))
theorem s_lswD {df : Int} {ps : Array (Int × Int)} {len t : Nat} {v : Int} (hc : x_code P m pc = some (.lookupswitch df ps, len)) (hs : (ps.toList.zip (ps.toList.drop 1)).all (fun (a, next) => a.1 < next.1) = true) (hv : ∀ q ∈ ps.toList, ¬ v = q.1) (ht : (pc : Int) + df = (t : Int)) (k : cP P xs Ln d m t L st (T, M) Q) : cP P xs Ln d m pc L ((0, v) :: st) (T, M) Q :=
  s_lsw hc hs v rfl (by rw [lsw_dflt hv]; exact ht) k
def lswK (v : Int) (K : Int → Prop) : List (Int × Int) → Prop
  | [] => True
  | q :: l => (v = q.1 → K q.2) ∧ lswK v K l
theorem lswK_off {v df : Int} {K : Int → Prop} (hd : K df) : ∀ {ps : List (Int × Int)}, lswK v K ps → K (Op.lookupswitch.offset ps df v)
  | [], _ => hd
  | q :: l, h => by
    rw [Op.lookupswitch.offset_cons]
    split
    next e => exact h.1 e.symm
    next e => exact lswK_off hd h.2
theorem s_lswA {df : Int} {ps : Array (Int × Int)} {len : Nat} {v : Int} (hc : x_code P m pc = some (.lookupswitch df ps, len)) (hs : (ps.toList.zip (ps.toList.drop 1)).all (fun (a, next) => a.1 < next.1) = true) (hp' : 0 ≤ (pc : Int) + df ∧ (ps.toList.all fun q => decide (0 ≤ (pc : Int) + q.2)) = true) (kd : cP P xs Ln d m ((pc : Int) + df).toNat L st (T, M) Q) (k : lswK v (fun o => cP P xs Ln d m ((pc : Int) + o).toNat L st (T, M) Q) ps.toList) : cP P xs Ln d m pc L ((0, v) :: st) (T, M) Q := by
  have h1 : ∀ {l : List (Int × Int)}, (l.all fun q => decide (0 ≤ (pc : Int) + q.2)) = true → lswK v (fun o => cP P xs Ln d m ((pc : Int) + o).toNat L st (T, M) Q) l → lswK v (fun o => 0 ≤ (pc : Int) + o ∧ cP P xs Ln d m ((pc : Int) + o).toNat L st (T, M) Q) l := by
    intro l
    induction l with
    | nil => intro _ _; trivial
    | cons q l ih =>
      intro a b
      rw [List.all_cons, Bool.and_eq_true, decide_eq_true_iff] at a
      exact ⟨fun e => ⟨a.1, b.1 e⟩, ih a.2 b.2⟩
  obtain ⟨h2, h3⟩ := lswK_off (df := df) (K := fun o => 0 ≤ (pc : Int) + o ∧ cP P xs Ln d m ((pc : Int) + o).toNat L st (T, M) Q) ⟨hp'.1, kd⟩ (h1 hp'.2 k)
  exact s_lsw hc hs v rfl (by omega) h3
theorem s_callV2 {idx kn j n k ci s1 s2 : Nat} {as rest : List cV} {Q1 : Option cV → cH → Prop} (hc : x_code P m pc = some (.invokevirtual idx, 3)) (hp : x_pool P m idx = (kn, j, (n : Int))) (hkn : kn = 2 ∨ kn = 12) (hn : as.length = n) (hT : T[k]? = some (.inr ci)) (hci : x_mci P j = ci) (hm : x_maxL P j ≤ 60 ∧ s1 ≤ x_maxL P j) (hs : ((rf k :: as.reverse).map c_cat).sum = s1) (hr : (rest.map c_cat).sum = s2) (h8 : s2 ≤ 8)
    (hR : cC P xs Ln d j (rf k :: as.reverse) (T, M) Q1) (kk : ∀ (r1 : Option cV) (h1 : cH), Q1 r1 h1 → cP P xs Ln (d + 1) m (pc + 3) L (r1.toList ++ rest) h1 Q) : cP P xs Ln (d + 1) m pc L (as ++ rf k :: rest) (T, M) Q := by
  subst hn hs hr hci
  refine cP.call hc (j := j) (as := rf k :: as.reverse) (rest := rest) ?_ hR kk
  show c_if true (c_invV P m (as ++ rf k :: rest) (T, M) idx) = _
  rcases hkn with rfl | rfl
  · simp only [c_if, cond_true, c_invV, hp, Int.toNat_natCast, List.drop_left', List.take_left', hT]
    rw [if_pos ⟨trivial, trivial⟩]
    unfold c_call
    exact if_pos ⟨hm.1, hm.2, h8⟩
  · simp only [c_if, cond_true, c_invV, hp, Int.toNat_natCast, List.drop_left', List.take_left', hT]
    rw [if_pos ⟨trivial, trivial⟩]
    unfold c_call
    exact if_pos ⟨hm.1, hm.2, h8⟩
theorem s_callS2 {idx j n s1 s2 : Nat} {as rest : List cV} {Q1 : Option cV → cH → Prop} (hc : x_code P m pc = some (.invokestatic idx, 3)) (hp : x_pool P m idx = (6, j, (n : Int))) (hn : as.length = n) (hm : x_maxL P j ≤ 60 ∧ s1 ≤ x_maxL P j) (hs : (as.reverse.map c_cat).sum = s1) (hr : (rest.map c_cat).sum = s2) (h8 : s2 ≤ 8)
    (hR : cC P xs Ln d j as.reverse (T, M) Q1) (kk : ∀ (r1 : Option cV) (h1 : cH), Q1 r1 h1 → cP P xs Ln (d + 1) m (pc + 3) L (r1.toList ++ rest) h1 Q) : cP P xs Ln (d + 1) m pc L (as ++ rest) (T, M) Q := by
  subst hn hs hr
  refine cP.call hc (j := j) (as := as.reverse) (rest := rest) ?_ hR kk
  show c_if true (c_invS P m pc L (as ++ rest) (T, M) idx) = _
  simp only [c_if, cond_true, c_invS, hp, Int.toNat_natCast, List.drop_left', List.take_left']
  rw [if_pos trivial]
  unfold c_call
  exact if_pos ⟨hm.1, hm.2, h8⟩
theorem kF {rest : List cV} {tg : Nat} {p : Int → Prop} (kk : ∀ v, p v → cP P xs Ln d m pc L ((tg, v) :: rest) (T, M) Q) : ∀ (r1 : Option cV) (h1 : cH), qF T M tg p r1 h1 → cP P xs Ln d m pc L (r1.toList ++ rest) h1 Q := by
  rintro r1 h1 ⟨v, rfl, rfl, hp⟩
  exact kk v hp
theorem kW {rest : List cV} {tg : Nat} {S : List (Nat × Nat)} {p : Int → cM → Prop} (kk : ∀ v M1, Rng M1 → Fr S M M1 → p v M1 → cP P xs Ln d m pc L ((tg, v) :: rest) (T, M1) Q) : ∀ (r1 : Option cV) (h1 : cH), qW T M S tg p r1 h1 → cP P xs Ln d m pc L (r1.toList ++ rest) h1 Q := by
  rintro r1 h1 ⟨v, M1, rfl, rfl, a, b, hp⟩
  exact kk v M1 a b hp
theorem kV {rest : List cV} {S : List (Nat × Nat)} {p : cM → Prop} (kk : ∀ M1, Rng M1 → Fr S M M1 → p M1 → cP P xs Ln d m pc L rest (T, M1) Q) : ∀ (r1 : Option cV) (h1 : cH), qV T M S p r1 h1 → cP P xs Ln d m pc L (r1.toList ++ rest) h1 Q := by
  rintro r1 h1 ⟨M1, rfl, rfl, a, b, hp⟩
  exact kk M1 a b hp
theorem kG {rest : List cV} {tg : Nat} {S : List (Nat × Nat)} {p : Int → cM → Prop} (kk : ∀ v T1 M1, TT T1 → Rng M1 → Fr S M M1 → Gm T1 M1 → p v M1 → cP P xs Ln d m pc L ((tg, v) :: rest) (T1, M1) Q) : ∀ (r1 : Option cV) (h1 : cH), qG T M S tg p r1 h1 → cP P xs Ln d m pc L (r1.toList ++ rest) h1 Q := by
  rintro r1 h1 ⟨v, T1, M1, rfl, rfl, a0, a, b, c, hp⟩
  exact kk v T1 M1 a0 a b c hp
theorem kGV {rest : List cV} {S : List (Nat × Nat)} {p : cM → Prop} (kk : ∀ T1 M1, TT T1 → Rng M1 → Fr S M M1 → Gm T1 M1 → p M1 → cP P xs Ln d m pc L rest (T1, M1) Q) : ∀ (r1 : Option cV) (h1 : cH), qGV T M S p r1 h1 → cP P xs Ln d m pc L (r1.toList ++ rest) h1 Q := by
  rintro r1 h1 ⟨T1, M1, rfl, rfl, a0, a, b, c, hp⟩
  exact kk T1 M1 a0 a b c hp
theorem s_newa {n : Int} (hc : x_code P m pc = some (.newarray .int, 2)) (h0 : 0 ≤ n ∧ n ≤ 60000000) (k : cP P xs Ln d m (pc + 2) L (rf T.length :: st) (T ++ [.inl (0, n.toNat)], c_new M T.length (fun _ => 0)) Q) : cP P xs Ln d m pc L ((0, n) :: st) (T, M) Q := by
  refine cP.step hc (q := (pc + 2, L, rf T.length :: st, (T ++ [.inl (0, n.toNat)], c_new M T.length (fun _ => 0)))) ?_ k
  exact if_pos h0
end RR
theorem c_fitB {v : Int} (h : v = 0 ∨ v = 1) : c_fit 3 (0, v) = true := by simpa [c_fit] using h
