/-! who is seated -/
def tbX (x y : Int) : Int := c_bin (· ^^^ ·) x y
def tbP (x y : Int) : Int := c_bin (· + ·) x y
def tbM (x y : Int) : Int := c_bin (· - ·) x y
theorem tbA_1 (x : Int) : 0 ≤ tbA x 1 ∧ tbA x 1 ≤ 1 := c_andM (by decide) (by decide)
def pPop (x : Int) : Int := x % 2 + x / 2 % 2 + x / 4 % 2 + x / 8 % 2 + x / 16 % 2 + x / 32 % 2 + x / 64 % 2 + x / 128 % 2
def j1 (x : Int) : Int := tbM x (tbA (tbU x 1) 1431655765)
def j2 (x : Int) : Int := tbP (tbA x 858993459) (tbA (tbU x 2) 858993459)
def j3 (x : Int) : Int := tbA (tbP x (tbU x 4)) 252645135
def j4 (x : Int) : Int := tbP x (tbU x 8)
def j5 (x : Int) : Int := tbP x (tbU x 16)
def jPop (x : Int) : Int := tbA (j5 (j4 (j3 (j2 (j1 x))))) 63
theorem jp_all : ∀ i : Fin 256, jPop ((i.val : Nat) : Int) = pPop ((i.val : Nat) : Int) := by decide +kernel
theorem jp_eq {x : Int} (h : 0 ≤ x ∧ x ≤ 255) : jPop x = pPop x := by
  have h1 := jp_all ⟨x.toNat, by omega⟩
  rw [show (((⟨x.toNat, by omega⟩ : Fin 256).val : Nat) : Int) = x from (show ((x.toNat : Nat) : Int) = x by omega)] at h1
  exact h1
theorem bt_all : ∀ i : Fin 256, i.val = 0 ∨ (pPop (tbA ((i.val : Nat) : Int) (((i.val : Nat) : Int) - 1)) = pPop ((i.val : Nat) : Int) - 1 ∧ 0 ≤ tbA ((i.val : Nat) : Int) (((i.val : Nat) : Int) - 1) ∧ tbA ((i.val : Nat) : Int) (((i.val : Nat) : Int) - 1) < ((i.val : Nat) : Int)) := by decide +kernel
theorem bt_S {x : Int} (h : 0 < x ∧ x ≤ 255) : pPop (tbA x (x - 1)) = pPop x - 1 ∧ 0 ≤ tbA x (x - 1) ∧ tbA x (x - 1) < x := by
  have h1 := (bt_all ⟨x.toNat, by omega⟩).resolve_left (show x.toNat ≠ 0 by omega)
  rw [show (((⟨x.toNat, by omega⟩ : Fin 256).val : Nat) : Int) = x from (show ((x.toNat : Nat) : Int) = x by omega)] at h1
  exact h1
theorem tbL_pw {n : Int} (h : 0 ≤ n ∧ n ≤ 8) : 1 ≤ tbL 1 n ∧ tbL 1 n ≤ 256 := by
  rcases (by omega : n = 0 ∨ n = 1 ∨ n = 2 ∨ n = 3 ∨ n = 4 ∨ n = 5 ∨ n = 6 ∨ n = 7 ∨ n = 8) with rfl | rfl | rfl | rfl | rfl | rfl | rfl | rfl | rfl <;> decide
/-- of the set k nothing lies outside p -/
def pSub (p k : Int) : Int := tbA k (tbX p (-1))
theorem i32_nat {k : Int} (h : 0 ≤ k ∧ k ≤ 255) : (Int32.ofInt k).toBitVec.toNat = k.toNat := by
  have h1 : (Int32.ofInt k).toBitVec.toInt = k := by
    have hs : ((Int32.size : Nat) : Int) = 4294967296 := rfl
    rw [Int32.toInt_toBitVec, Int32.toInt_ofInt]
    exact Int.bmod_eq_of_le (by omega) (by omega)
  have h2 := (Int32.ofInt k).toBitVec.isLt
  rw [BitVec.toInt_eq_toNat_cond] at h1
  split at h1 <;> omega
theorem pSub_ne {p k : Int} (h0 : 0 ≤ p) (hk : p < k) (h8 : k ≤ 255) : pSub p k ≠ 0 := by
  intro h
  unfold pSub tbA tbX c_bin at h
  rw [Int32.ofInt_toInt] at h
  have h2 : (Int32.ofInt k).toBitVec &&& ((Int32.ofInt p).toBitVec ^^^ BitVec.allOnes 32) = 0#32 := BitVec.toInt_inj.mp h
  have h3 : (Int32.ofInt k).toBitVec = (Int32.ofInt k).toBitVec &&& (Int32.ofInt p).toBitVec := by
    apply BitVec.eq_of_getLsbD_eq
    intro i hi
    have h4 := congrArg (fun z => BitVec.getLsbD z i) h2
    simp only [BitVec.getLsbD_and, BitVec.getLsbD_xor, BitVec.getLsbD_allOnes, BitVec.getLsbD_zero] at h4
    rw [BitVec.getLsbD_and]
    cases hb : (Int32.ofInt k).toBitVec.getLsbD i
    · rfl
    · cases hc : (Int32.ofInt p).toBitVec.getLsbD i
      · rw [hb, hc, decide_eq_true hi] at h4
        exact absurd h4 (by decide)
      · rfl
  have h5 := congrArg BitVec.toNat h3
  rw [BitVec.toNat_and, i32_nat ⟨by omega, h8⟩, i32_nat ⟨h0, by omega⟩] at h5
  have h6 := @Nat.and_le_right k.toNat p.toNat
  omega
/-- a set of people could sit in a room -/
def cOk (D S : cM) (r set x : Int) : Int := if tbA (tbS set x) 1 = 1 then (if S 2 x.toNat = 0 ∧ (D 9 x.toNat = -1 ∨ tbA (tbS set (D 9 x.toNat)) 1 = 1) ∧ (S 1 x.toNat = r ∨ pDw D x ≤ D 2 r.toNat) then 1 else 0) else 1
def pWs (D S : cM) (r set : Int) : Nat → Int
  | 0 => 0
  | k + 1 => pWs D S r set k + (if tbA (tbS set k) 1 = 1 ∨ S 1 k = r then D 8 k else 0)
def pXs (D S : cM) (r set : Int) : Nat → Int
  | 0 => 0
  | k + 1 => pXs D S r set k + (if tbA (tbS set k) 1 = 1 ∧ S 1 k ≠ r then D 8 k else 0)
def pCs (D S : cM) (r set : Int) : Int := if pAll (cOk D S r set) (D 0 1).toNat = 1 ∧ pWs D S r set (D 0 1).toNat ≤ D 3 r.toNat then 1 else 0
def pStt (D S : cM) (r p : Int) : Nat → Int
  | 0 => 0
  | k + 1 => if pSub p ((k : Int) + 1) = 0 ∧ pPop (pStt D S r p k) < pPop ((k : Int) + 1) ∧ pCs D S r ((k : Int) + 1) = 1 then (k : Int) + 1 else pStt D S r p k
def pSe (D S : cM) (r p : Int) : Int := if (0 ≤ r ∧ r < D 0 0) ∧ 0 ≤ p ∧ p < tbL 1 (D 0 1) then pStt D S r p p.toNat else -1
section SEA
variable {D S : cM} {r set p x : Int}
theorem pWs_S {z y : Int} (h : z = pWs D S r set x.toNat) (h0 : 0 ≤ x) (hy : ((tbA (tbS set x) 1 = 1 ∨ S 1 x.toNat = r) ∧ y = D 8 x.toNat) ∨ (¬ (tbA (tbS set x) 1 = 1 ∨ S 1 x.toNat = r) ∧ y = 0)) : z + y = pWs D S r set (x + 1).toNat := by
  rw [show (x + 1).toNat = x.toNat + 1 by omega]
  show z + y = pWs D S r set x.toNat + (if tbA (tbS set ((x.toNat : Nat) : Int)) 1 = 1 ∨ S 1 x.toNat = r then D 8 x.toNat else 0)
  rw [show ((x.toNat : Nat) : Int) = x by omega, ← h]
  rcases hy with ⟨a, b⟩ | ⟨a, b⟩
  · rw [if_pos a, b]
  · rw [if_neg a, b]
theorem pXs_S {z y b : Int} (h : z = b + pXs D S r set x.toNat) (h0 : 0 ≤ x) (hy : ((tbA (tbS set x) 1 = 1 ∧ S 1 x.toNat ≠ r) ∧ y = D 8 x.toNat) ∨ (¬ (tbA (tbS set x) 1 = 1 ∧ S 1 x.toNat ≠ r) ∧ y = 0)) : z + y = b + pXs D S r set (x + 1).toNat := by
  rw [show (x + 1).toNat = x.toNat + 1 by omega]
  show z + y = b + (pXs D S r set x.toNat + (if tbA (tbS set ((x.toNat : Nat) : Int)) 1 = 1 ∧ S 1 x.toNat ≠ r then D 8 x.toNat else 0))
  rw [show ((x.toNat : Nat) : Int) = x by omega]
  rcases hy with ⟨a, b⟩ | ⟨a, b⟩
  · rw [if_pos a, b]; omega
  · rw [if_neg a, b]; omega
theorem pXs_0 {z b : Int} (h : z = b + pXs D S r set x.toNat) (h0 : 0 ≤ x) (hy : ¬ (tbA (tbS set x) 1 = 1 ∧ S 1 x.toNat ≠ r)) : z = b + pXs D S r set (x + 1).toNat := by
  have h1 := pXs_S (y := 0) h h0 (Or.inr ⟨hy, rfl⟩)
  omega
theorem pWs_eq : ∀ k : Nat, pLd D S r (-1) k + pXs D S r set k = pWs D S r set k
  | 0 => rfl
  | k + 1 => by
    have h := pWs_eq k
    show pLd D S r (-1) k + (if (k : Int) ≠ -1 ∧ S 1 k = r then D 8 k else 0) + (pXs D S r set k + (if tbA (tbS set (k : Int)) 1 = 1 ∧ S 1 k ≠ r then D 8 k else 0)) = pWs D S r set k + (if tbA (tbS set (k : Int)) 1 = 1 ∨ S 1 k = r then D 8 k else 0)
    by_cases g : S 1 k = r
    · rw [if_pos ⟨by omega, g⟩, if_neg (fun z => z.2 g), if_pos (Or.inr g)]
      omega
    · rw [if_neg (fun z => g z.2)]
      by_cases g2 : tbA (tbS set (k : Int)) 1 = 1
      · rw [if_pos ⟨g2, g⟩, if_pos (Or.inl g2)]
        omega
      · rw [if_neg (fun z => g2 z.1), if_neg (fun z => z.elim g2 g)]
        omega
theorem pStt_S {z z' : Int} (h : z = pStt D S r p (x - 1).toNat) (h0 : 1 ≤ x) (hy : (pSub p x = 0 ∧ pPop z < pPop x ∧ pCs D S r x = 1 ∧ z' = x) ∨ (¬ (pSub p x = 0 ∧ pPop z < pPop x ∧ pCs D S r x = 1) ∧ z' = z)) : z' = pStt D S r p (x + 1 - 1).toNat := by
  rw [show (x + 1 - 1).toNat = (x - 1).toNat + 1 by omega]
  show z' = if pSub p ((((x - 1).toNat : Nat) : Int) + 1) = 0 ∧ pPop (pStt D S r p (x - 1).toNat) < pPop ((((x - 1).toNat : Nat) : Int) + 1) ∧ pCs D S r ((((x - 1).toNat : Nat) : Int) + 1) = 1 then (((x - 1).toNat : Nat) : Int) + 1 else pStt D S r p (x - 1).toNat
  rw [show (((x - 1).toNat : Nat) : Int) + 1 = x by omega, ← h]
  rcases hy with ⟨a, b, c, d⟩ | ⟨a, b⟩
  · rw [if_pos ⟨a, b, c⟩, d]
  · rw [if_neg a, b]
theorem pStt_hi (h0 : 0 ≤ p) : ∀ k : Nat, p ≤ k → k ≤ 255 → pStt D S r p k = pStt D S r p p.toNat
  | 0, h, _ => by rw [show p.toNat = 0 by omega]
  | k + 1, h, h8 => by
    by_cases e : p = ((k + 1 : Nat) : Int)
    · rw [show p.toNat = k + 1 by omega]
    · have h1 := pStt_hi h0 k (by omega) (by omega)
      have h2 : pSub p ((k : Int) + 1) ≠ 0 := pSub_ne h0 (by omega) (by omega)
      show (if pSub p ((k : Int) + 1) = 0 ∧ pPop (pStt D S r p k) < pPop ((k : Int) + 1) ∧ pCs D S r ((k : Int) + 1) = 1 then (k : Int) + 1 else pStt D S r p k) = _
      rw [if_neg (fun z => h2 z.1), h1]
end SEA
