theorem fn_136 {xs : Nat → Int} {Ln d : Nat} {T : List cK} {M : cM} (hT : TT T) (hI : Rng M) {a b c e f : Int} : cC k_P xs Ln (d + 1) 136 [rf 0, (0, a), (0, b), (0, c), (0, e), (0, f)] (T, M) (qW T M gS_136_m 0 (fun v M1 => ((1600 < M 1 1 + 20 ∧ v = -1 ∧ M1 1 1 = M 1 1 ∧ M1 2 = M 2) ∨ (M 1 1 + 20 ≤ 1600 ∧ v = M 1 1 + 20 ∧ M1 1 1 = v ∧ M1 2 = tp5 (M 2) (M 1 1) a b c e f)) ∧ (((1600 < M 1 1 + 20) ∧ RFn 0 (M 61) (M1 61)) ∨ ((M 1 1 + 20 ≤ 1600) ∧ R0n (M 61) (M1 61))))) :=
  qW_and (f_136 (d := d) hT hI) (n_136 (d := d) hT hI)
theorem fn_174 {xs : Nat → Int} {Ln d : Nat} {T : List cK} {M : cM} (hT : TT T) (hI : Rng M) {a b c e f : Int} : cC k_P xs Ln (d + 1) 174 [rf 63, (0, a), (0, b), (0, c), (0, e), (0, f)] (T, M) (qW T M gS_174_m 0 (fun v M1 => ((1600 < M 63 1 + 20 ∧ v = -1 ∧ M1 63 1 = M 63 1 ∧ M1 64 = M 64) ∨ (M 63 1 + 20 ≤ 1600 ∧ v = M 63 1 + 20 ∧ M1 63 1 = v ∧ M1 64 = tp5 (M 64) (M 63 1) a b c e f)) ∧ (((1600 < M 63 1 + 20) ∧ RFn 0 (M 91) (M1 91)) ∨ ((M 63 1 + 20 ≤ 1600) ∧ R0n (M 91) (M1 91))))) :=
  qW_and (f_174 (d := d) hT hI) (n_174 (d := d) hT hI)
theorem fn_138 {xs : Nat → Int} {Ln d : Nat} {T : List cK} {M : cM} (hT : TT T) (hI : Rng M) (hG : Gm T M) {t u : Nat} (ht : t = 8 ∨ t = 25) (hu : u = 8 ∨ u = 25) (h71 : M 7 1 = ((t : Nat) : Int)) (h7u : M 7 0 = ((u : Nat) : Int)) (hux : u = 8 ∧ t = 25 ∨ u = 25 ∧ t = 8) : cC k_P xs Ln (d + 87) 138 [rf 0] (T, M) (qG T M gS_138_m 0 (fun v M1 => (((M1 7 0 = ((t : Nat) : Int) ∧ M1 7 1 = ((u : Nat) : Int) ∨ M1 7 0 = ((u : Nat) : Int) ∧ M1 7 1 = ((t : Nat) : Int)) ∧ M1 1 1 = 0 ∧ TwX t u M M1 v) ∧ ((v = -1 ∧ (∀ f, M1 42 f = M 42 f) ∧ (∀ f, M1 44 f = M 44 f) ∧ (∀ f, M1 45 f = M 45 f) ∧ M1 0 12 = M 0 12) ∨ (v ≠ -1 ∧ M1 44 2 = 0 ∧ M1 0 12 = M 0 12 ∧ TDr M1 t (M1 t 1) M1))) ∧ (((v = -1) ∧ RFn 1 (M 61) (M1 61)) ∨ ((v ≠ -1) ∧ R0n (M 61) (M1 61))))) :=
  qG_and (fg_138 (d := d) hT hI hG ht hu h71 h7u hux) (n_138 (d := d) hT hI hG ht hu h71 h7u hux)
theorem fn_216 {xs : Nat → Int} {Ln d : Nat} {T : List cK} {M : cM} (hT : TT T) (hI : Rng M) (hS : Sg M) {s : Nat → Int} {n fR NR : Int} {D0 D' : cM} (hs : M 64 = s) (hsz : M 63 1 = n) (hrd0 : RdR s n 81 D0 0 0 fR NR D') (hDC : DC D0) : cC k_P xs Ln (d + 7) 216 [rf 63] (T, M) (qW T M gS_216_m 0 (fun v M1 => ((M1 63 1 = 0 ∧ Sg M1 ∧ TwY M M1 fR NR v D') ∧ ((M1 63 14 = M 63 14 ∧ (∀ c, c = 92 ∨ c = 93 ∨ c = 94 → ∀ f, M1 c f = M c f) ∧ M1 63 58 = M 63 58 ∧ M1 63 59 = M 63 59 ∧ M1 63 60 = M 63 60) ∨ (M1 63 14 = 1 - M 63 14 ∧ TRr M1 8 M1 ∧ M1 63 59 = 0 ∧ M1 63 60 = M 63 60))) ∧ (((M1 63 14 = M 63 14) ∧ RFn 1 (M 91) (M1 91)) ∨ ((M1 63 14 = 1 - M 63 14) ∧ R0n (M 91) (M1 91))))) :=
  qW_and (fg_216 (d := d) hT hI hS hs hsz hrd0 hDC) (n_216 (d := d) hT hI hS)
theorem rf_fin {X Y X' Y' : Prop} {k : Int} {a b c d : Nat → Int} (h : (X ∧ RFn k a b) ∨ (Y ∧ R0n a b)) (g : (X' ∧ RFn k c d) ∨ (Y' ∧ R0n c d)) (h1 : X → Y' → False) (h2 : Y → X' → False) (e : a = c) : b = d := by
  rcases h with ⟨x, p⟩ | ⟨x, p⟩ <;> rcases g with ⟨y, q⟩ | ⟨y, q⟩
  · exact p.both q e
  · exact (h1 x y).elim
  · exact (h2 x y).elim
  · exact p.both q e
theorem rf_act {X Y X' Y' : Prop} {k : Int} {a b c d : Nat → Int} (h : ((X ∧ RFn k a b) ∧ (X' ∧ RFn k c d)) ∨ ((Y ∧ R0n a b) ∧ (Y' ∧ R0n c d))) (e : a = c) : b = d := by
  rcases h with ⟨⟨_, p⟩, ⟨_, q⟩⟩ | ⟨⟨_, p⟩, ⟨_, q⟩⟩
  · exact p.both q e
  · exact p.both q e
theorem rf_act2 {X Y X' Y' : Prop} {k : Int} {a b c d : Nat → Int} (h : ((X ∧ R0n a b) ∧ (X' ∧ R0n c d)) ∨ ((Y ∧ RFn k a b) ∧ (Y' ∧ RFn k c d))) (e : a = c) : b = d := by
  rcases h with ⟨⟨_, p⟩, ⟨_, q⟩⟩ | ⟨⟨_, p⟩, ⟨_, q⟩⟩
  · exact p.both q e
  · exact p.both q e
