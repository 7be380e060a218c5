/-! the tables are right: checks by the kernel -/
def k_chk : List Cond → List Nat → Bool
  | [], _ => true
  | w :: ws, i :: is => decide (lw_tbl[i]? = some w) && (goodWord w && k_chk ws is)
  | _ :: _, [] => false
theorem k_chk_ok : ∀ {ws : List Cond} {is : List Nat}, k_chk ws is = true → ∀ w ∈ ws, w ∈ x_tbl
  | [], _, _, w, hw => by cases hw
  | w :: ws, i :: is, h, v, hv => by
    simp only [k_chk, Bool.and_eq_true, decide_eq_true_eq] at h
    rcases List.mem_cons.mp hv with rfl | hv
    · exact List.mem_filter.mpr ⟨List.mem_of_getElem? h.1, h.2.1⟩
    · exact k_chk_ok h.2.2 v hv
  | _ :: _, [], h, _, _ => by cases h
def k_rt : Nat → Option FieldType → Bool
  | 0, none => true
  | 1, some .int => true
  | 2, some .boolean => true
  | 3, some .long => true
  | 4, some (.array _) => true
  | _, _ => false
def k_m (j : Nat) (is : List Nat) : Bool := k_chk [Cond.initialized (x_nm k_P j).cls] is && (plainFor (x_nm k_P j) && (decide ((x_nm k_P j).cls ≠ "java/lang/invoke/MethodHandle") && (decide ((x_nm k_P j).cls ≠ "java/lang/invoke/VarHandle") && (k_rt (x_retk k_P j) (x_rt k_P j) && decide (j ≠ 0)))))
theorem k_m_ok {j : Nat} {is : List Nat} (hcw : Cond.code (x_nm k_P j) (x_by k_P j) (x_maxL k_P j) (x_rt k_P j) ∈ lw_tbl) (h : k_m j is = true) : x_okm k_P j := by
  simp only [k_m, Bool.and_eq_true, decide_eq_true_eq] at h
  obtain ⟨h1, h2, h3, h4, h5, h6⟩ := h
  have hw := k_chk_ok h1
  refine ⟨List.mem_filter.mpr ⟨hcw, rfl⟩, hw _ (by simp), h2, ⟨h3, h4⟩, ?_, h6⟩
  revert h5
  generalize x_retk k_P j = a
  generalize x_rt k_P j = b
  intro h5
  match a, b, h5 with
  | 0, none, _ => rfl
  | 1, some .int, _ => rfl
  | 2, some .boolean, _ => rfl
  | 3, some .long, _ => rfl
  | 4, some (.array t), _ => exact ⟨t, rfl⟩
def k_w (own : String) (idx kd a : Nat) (b : Int) : List Cond := match kd with
  | 1 => match k_cl[a]? with
    | some C => [.fieldLink own idx (C.2.1 b.toNat).1 (C.2.1 b.toNat).2.1 (C.2.1 b.toNat).2.2.1]
    | none => []
  | 2 => [.methodLink own idx (x_nm k_P a), .instanceMethod (x_nm k_P a), .selects (x_nm k_P a).cls (x_nm k_P a) (x_nm k_P a)]
  | 3 => [.methodLink own idx (x_nm k_P a), .instanceMethod (x_nm k_P a)]
  | 4 => [.instanceMethod (x_nm k_P a)]
  | 5 => [.methodLink own idx objectInit, .instanceMethod objectInit, .code objectInit ⟨#[0xb1]⟩ 1 none]
  | 6 => [.methodLink own idx (x_nm k_P a), .static (x_nm k_P a)]
  | 7 => [.constant own idx (Int32.ofInt b)]
  | 8 => [.constantLong own idx (Int64.ofInt b)]
  | 9 => match k_cl[a]? with
    | some C => [.classLink own idx C.1, .instantiable C.1 C.2.2, .initialized C.1]
    | none => []
  | 10 => [.methodLink own idx arraycopyName, .native arraycopyName, .static arraycopyName, .initialized "java/lang/System"]
  | 12 => [.instanceMethod (x_nm k_P a), .selects (x_nm k_P a).cls (x_nm k_P a) (x_nm k_P a)]
  | _ => []
def k_args (a : Nat) (b : Int) : Bool := decide ((parseMethodDescriptor (x_nm k_P a).desc).map (fun d => d.parameters.length) = some b.toNat)
theorem k_args_ok {a : Nat} {b : Int} (h : k_args a b = true) : x_oka k_P a b := by
  unfold k_args at h
  have h2 := of_decide_eq_true h
  exact h2
def k_b (own : String) (idx kd a : Nat) (b : Int) (is : List Nat) : Bool := match kd with
  | 1 => match k_cl[a]? with
    | some C => decide (b.toNat < C.2.2)
    | none => false
  | 2 => k_used.contains a && (k_args a b && (match k_cl[x_mci k_P a]? with
    | some C => decide (C.1 = (x_nm k_P a).cls)
    | none => false))
  | 3 => k_used.contains a && (k_args a b && (decide ((x_nm k_P a).name = "<init>") && (x_rt k_P a).isNone))
  | 4 => k_used.contains a && (k_args a b && (decide ((x_nm k_P a).name = "<init>") && ((x_rt k_P a).isNone && decide (lw_tbl[is.getD 1 0]? = some (.methodLinkNest own idx (x_nm k_P a) "OwnChair")))))
  | 6 => k_used.contains a && k_args a b
  | 12 => k_used.contains a && (k_args a b && ((match k_cl[x_mci k_P a]? with
    | some C => decide (C.1 = (x_nm k_P a).cls)
    | none => false) && decide (lw_tbl[is.getD 2 0]? = some (.methodLinkNest own idx (x_nm k_P a) "OwnChair"))))
  | 7 => decide ((Int32.ofInt b).toInt = b)
  | 8 => decide ((Int64.ofInt b).toInt = b)
  | 9 => (k_cl[a]?).isSome
  | _ => true
def k_ent (own : String) (q : Nat × Nat × Nat × Int) (is : List Nat) : Bool := k_chk (k_w own q.1 q.2.1 q.2.2.1 q.2.2.2) is && k_b own q.1 q.2.1 q.2.2.1 q.2.2.2 is
theorem k_ent_ok (hm : ∀ j ∈ k_used, x_okm k_P j) {own : String} {q : Nat × Nat × Nat × Int} {is : List Nat} (h : k_ent own q is = true) : x_okp k_cl k_P own q.1 q.2 := by
  obtain ⟨idx, kd, a, b⟩ := q
  simp only [k_ent, Bool.and_eq_true] at h
  obtain ⟨h1, h2⟩ := h
  have hw := k_chk_ok h1
  match kd, hw, h2 with
  | 0, _, _ => exact trivial
  | 1, hw, h2 =>
    simp only [k_w, k_b] at hw h2
    cases hC : k_cl[a]? with
    | none => rw [hC] at h2; cases h2
    | some C =>
      rw [hC] at hw h2
      exact ⟨C, hC, by simpa using h2, hw _ (by simp)⟩
  | 2, hw, h2 =>
    simp only [k_w, k_b, Bool.and_eq_true] at hw h2
    obtain ⟨g1, g2, g3⟩ := h2
    cases hC : k_cl[x_mci k_P a]? with
    | none => rw [hC] at g3; cases g3
    | some C =>
      rw [hC] at g3
      exact ⟨hm a (by simpa using g1), k_args_ok g2, hw _ (by simp), hw _ (by simp), hw _ (by simp), C, hC, by simpa using g3⟩
  | 3, hw, h2 =>
    simp only [k_w, k_b, Bool.and_eq_true, decide_eq_true_eq, Option.isNone_iff_eq_none] at hw h2
    obtain ⟨g1, g2, g3, g4⟩ := h2
    exact ⟨hm a (by simpa using g1), k_args_ok g2, hw _ (by simp), hw _ (by simp), g3, g4⟩
  | 4, hw, h2 =>
    simp only [k_w, k_b, Bool.and_eq_true, decide_eq_true_eq, Option.isNone_iff_eq_none] at hw h2
    obtain ⟨g1, g2, g3, g4, g5⟩ := h2
    exact ⟨hm a (by simpa using g1), k_args_ok g2, ⟨"OwnChair", List.mem_filter.mpr ⟨List.mem_of_getElem? g5, rfl⟩⟩, hw _ (by simp), g3, g4⟩
  | 5, hw, h2 =>
    simp only [k_w] at hw
    exact ⟨hw _ (by simp), hw _ (by simp), hw _ (by simp)⟩
  | 6, hw, h2 =>
    simp only [k_w, k_b, Bool.and_eq_true] at hw h2
    exact ⟨hm a (by simpa using h2.1), k_args_ok h2.2, hw _ (by simp), hw _ (by simp)⟩
  | 7, hw, h2 =>
    simp only [k_w, k_b, decide_eq_true_eq] at hw h2
    exact ⟨_, hw _ (by simp), h2⟩
  | 8, hw, h2 =>
    simp only [k_w, k_b, decide_eq_true_eq] at hw h2
    exact ⟨_, hw _ (by simp), h2⟩
  | 9, hw, h2 =>
    simp only [k_w, k_b] at hw h2
    cases hC : k_cl[a]? with
    | none => rw [hC] at h2; cases h2
    | some C =>
      rw [hC] at hw
      exact ⟨C, hC, hw _ (by simp), hw _ (by simp), hw _ (by simp)⟩
  | 10, hw, h2 =>
    simp only [k_w] at hw
    exact ⟨hw _ (by simp), hw _ (by simp), hw _ (by simp), hw _ (by simp)⟩
  | 11, _, _ => exact trivial
  | 12, hw, h2 =>
    simp only [k_w, k_b, Bool.and_eq_true, decide_eq_true_eq] at hw h2
    obtain ⟨g1, g2, g3, g4⟩ := h2
    cases hC : k_cl[x_mci k_P a]? with
    | none => rw [hC] at g3; cases g3
    | some C =>
      rw [hC] at g3
      exact ⟨hm a (by simpa using g1), k_args_ok g2, ⟨"OwnChair", List.mem_filter.mpr ⟨List.mem_of_getElem? g4, rfl⟩⟩, hw _ (by simp), hw _ (by simp), C, hC, by simpa using g3⟩
  | _ + 13, _, _ => exact trivial
def k_ents (own : String) : List (Nat × Nat × Nat × Int) → List (List Nat) → Bool
  | [], _ => true
  | q :: l, is :: hs => k_ent own q is && k_ents own l hs
  | _ :: _, [] => false
theorem k_ents_ok (hm : ∀ j ∈ k_used, x_okm k_P j) {own : String} : ∀ {l : List (Nat × Nat × Nat × Int)} {hs : List (List Nat)}, k_ents own l hs = true → ∀ q ∈ l, x_okp k_cl k_P own q.1 q.2
  | [], _, _, q, hq => by cases hq
  | a :: l, is :: hs, h, q, hq => by
    simp only [k_ents, Bool.and_eq_true] at h
    rcases List.mem_cons.mp hq with rfl | hq
    · exact k_ent_ok hm h.1
    · exact k_ents_ok hm h.2 q hq
  | _ :: _, [], h, _, _ => by cases h
/-- a record: its code, its pool, its class -/
def k_own (r : xR) : Bool := match k_cl[r.2.2.1.2.2]? with
  | some C => decide (C.1 = r.2.2.2.1.cls)
  | none => true
def k_recP (r : xR) : Prop := (∀ ch ∈ r.1, ∀ q ∈ ch, decode r.2.2.2.2.1 q.1 = .ok q.2) ∧ (∀ q ∈ r.2.1, x_okp k_cl k_P r.2.2.2.1.cls q.1 q.2) ∧ ∀ C : vw_C, r.2.2.2.1.name = "<init>" → k_cl[r.2.2.1.2.2]? = some C → C.1 = r.2.2.2.1.cls
theorem k_rec_ok (hm : ∀ j ∈ k_used, x_okm k_P j) {r : xR} {hs : List (List Nat)} (h1 : ∀ ch ∈ r.1, ∀ q ∈ ch, decode r.2.2.2.2.1 q.1 = .ok q.2) (h2 : k_ents r.2.2.2.1.cls r.2.1 hs = true) (h3 : k_own r = true) : k_recP r := by
  refine ⟨h1, k_ents_ok hm h2, fun C _ hC => ?_⟩
  unfold k_own at h3
  rw [hC] at h3
  simpa using h3
theorem k_none_ok : k_recP k_none := ⟨fun _ h => absurd h List.not_mem_nil, fun _ h => absurd h List.not_mem_nil, fun _ h _ => absurd h (by decide)⟩
theorem k_find_mem {α : Type} {i : Nat} {q : α} : ∀ {l : List (Nat × α)}, k_find l i = some q → (i, q) ∈ l
  | [], h => by cases h
  | a :: l, h => by
    unfold k_find at h
    cases hb : Nat.beq a.1 i with
    | true =>
      rw [hb] at h
      cases h
      have := Nat.eq_of_beq_eq_true hb
      subst this
      exact List.mem_cons_self
    | false =>
      rw [hb] at h
      exact List.mem_cons_of_mem _ (k_find_mem h)
theorem k_getD_mem {α : Type} {d : α} {l : List α} {i : Nat} : l.getD i d = d ∨ l.getD i d ∈ l := by
  rw [List.getD_eq_getElem?_getD]
  cases h : l[i]? with
  | none => exact Or.inl rfl
  | some a => exact Or.inr (List.mem_of_getElem? h)
theorem k_get_ok (h : ∀ t ∈ kT, ∀ r ∈ t, k_recP r) (m : Nat) : k_recP (k_get m) := by
  unfold k_get
  rcases k_getD_mem (d := ([] : List xR)) (l := kT) (i := m / 16) with e | e
  · rw [e]; exact k_none_ok
  · rcases k_getD_mem (d := k_none) (l := kT.getD (m / 16) []) (i := m % 16) with g | g
    · rw [g]; exact k_none_ok
    · exact h _ e _ g
/-- a class -/
def k_tyk : Nat → FieldType → Bool
  | 0, .int => true
  | 1, .long => true
  | 2, .object _ => true
  | 2, .array _ => true
  | 3, .boolean => true
  | _, _ => false
theorem k_tyk_ok {k : Nat} {ty : FieldType} (h : k_tyk k ty = true) : x_tyk k ty := by
  match k, ty, h with
  | 0, .int, _ => rfl
  | 1, .long, _ => rfl
  | 2, .object n, _ => exact Or.inl ⟨n, rfl⟩
  | 2, .array n, _ => exact Or.inr ⟨n, rfl⟩
  | 3, .boolean, _ => rfl
def k_fld (C : vw_C) (ty : Nat → FieldType) : Nat → List Nat → Bool
  | _, [] => true
  | k, kd :: l => k_tyk (kd % 10) (ty k) && ((C.2.1 k).2.2.2 == decide (10 ≤ kd) && (decide ((C.2.1 k).1 = C.1) && k_fld C ty (k + 1) l))
theorem k_fld_ok {C : vw_C} {ty : Nat → FieldType} : ∀ {l : List Nat} {n : Nat}, k_fld C ty n l = true → ∀ (k kd : Nat), l[k]? = some kd → x_tyk (kd % 10) (ty (n + k)) ∧ (C.2.1 (n + k)).2.2.2 = decide (10 ≤ kd) ∧ (C.2.1 (n + k)).1 = C.1
  | [], _, _, k, kd, hk => by simp at hk
  | a :: l, n, h, 0, kd, hk => by
    simp only [k_fld, Bool.and_eq_true, beq_iff_eq, decide_eq_true_eq] at h
    have hk : a = kd := by simpa using hk
    subst hk
    exact ⟨k_tyk_ok h.1, h.2.1, h.2.2.1⟩
  | a :: l, n, h, k + 1, kd, hk => by
    simp only [k_fld, Bool.and_eq_true, beq_iff_eq, decide_eq_true_eq] at h
    have := k_fld_ok h.2.2.2 k kd (by simpa using hk)
    rw [show n + (k + 1) = n + 1 + k by omega]
    exact this
theorem k_cls_ok {ci : Nat} {C : vw_C} {ty : Nat → FieldType} {is : List Nat} (h1 : k_chk (u_ws C.1 C.2.1 C.2.2) is = true) (h2 : C.2.2 = (x_cls k_P ci).length) (h3 : ∀ a, a < C.2.2 → ∀ b, b < C.2.2 → a ≠ b → (C.2.1 a).2.1 ≠ (C.2.1 b).2.1) (h4 : ∀ k, k < C.2.2 → parseFieldDescriptor (C.2.1 k).2.2.1 = some (ty k)) (h5 : k_fld C ty 0 (x_cls k_P ci) = true) : x_okc k_P ci C :=
  ⟨k_chk_ok h1, h2, h3, ty, h4, fun k kd hk => by have := k_fld_ok h5 k kd hk; rwa [Nat.zero_add] at this⟩
theorem k_maxL_eq (m : Nat) : x_maxL k_P m = (k_get m).2.2.1.1 := by unfold x_maxL k_P; rfl
theorem k_rt_eq (m : Nat) : x_rt k_P m = (k_get m).2.2.2.2.2 := by unfold x_rt k_P; rfl
theorem k_dec_app {a b : List (List (Nat × Instr × Nat))} {cc : ByteArray} (h1 : ∀ ch ∈ a, ∀ q ∈ ch, decode cc q.1 = .ok q.2) (h2 : ∀ ch ∈ b, ∀ q ∈ ch, decode cc q.1 = .ok q.2) : ∀ ch ∈ a ++ b, ∀ q ∈ ch, decode cc q.1 = .ok q.2 := List.forall_mem_append.mpr ⟨h1, h2⟩
def k_decL (cc : ByteArray) (l : List (List (Nat × Instr × Nat))) : Bool := l.all (fun ch => ch.all (fun q => decide (decode cc q.1 = .ok q.2)))
theorem k_decL_ok {cc : ByteArray} {l : List (List (Nat × Instr × Nat))} (h : k_decL cc l = true) : ∀ ch ∈ l, ∀ q ∈ ch, decode cc q.1 = .ok q.2 := by
  intro ch hc q hq
  have := List.all_eq_true.mp (List.all_eq_true.mp h ch hc) q hq
  simpa using this
theorem k_code_eq (m pc : Nat) : x_code k_P m pc = k_find ((k_get m).1.getD (pc / 16) []) pc := by unfold x_code k_P; rfl
theorem k_pool_eq (m idx : Nat) : x_pool k_P m idx = (k_find (k_get m).2.1 idx).getD (0, 0, 0) := by unfold x_pool k_P; rfl
theorem k_nm_eq (m : Nat) : x_nm k_P m = (k_get m).2.2.2.1 := by unfold x_nm k_P; rfl
theorem k_by_eq (m : Nat) : x_by k_P m = (k_get m).2.2.2.2.1 := by unfold x_by k_P; rfl
theorem k_mci_eq (m : Nat) : x_mci k_P m = (k_get m).2.2.1.2.2 := by unfold x_mci k_P; rfl
/-- the code's word of a record -/
theorem k_cw {j : Nat} {r : xR} (hr : k_get j = r) {y : MethodName} {cc : ByteArray} {n : Nat} {rt : Option FieldType} (h1 : r.2.2.2.1 = y) (h2 : r.2.2.2.2.1 = cc) (h3 : r.2.2.1.1 = n) (h4 : r.2.2.2.2.2 = rt) (hm : Cond.code y cc n rt ∈ lw_tbl) : Cond.code (x_nm k_P j) (x_by k_P j) (x_maxL k_P j) (x_rt k_P j) ∈ lw_tbl := by
  rw [k_nm_eq, k_by_eq, k_maxL_eq, k_rt_eq, hr, h1, h2, h3, h4]
  exact hm
theorem k_OK1 {r : xR} (hg : k_recP r) {pc : Nat} {i : Instr} {len : Nat} (h : k_find (r.1.getD (pc / 16) []) pc = some (i, len)) : decode r.2.2.2.2.1 pc = .ok (i, len) := by
  have h1 := k_find_mem h
  rcases k_getD_mem (d := ([] : List (Nat × Instr × Nat))) (l := r.1) (i := pc / 16) with e | e
  · rw [e] at h1; exact absurd h1 List.not_mem_nil
  · have h2 := hg.1 _ e (pc, i, len) h1
    exact h2
theorem k_OK2 {r : xR} (hg : ∀ q ∈ r.2.1, x_okp k_cl k_P r.2.2.2.1.cls q.1 q.2) (idx : Nat) : x_okp k_cl k_P r.2.2.2.1.cls idx ((k_find r.2.1 idx).getD (0, 0, 0)) := by
  cases h : k_find r.2.1 idx with
  | none => exact trivial
  | some q =>
    have h2 := hg (idx, q) (k_find_mem h)
    exact h2
theorem k_OK (hm : ∀ j ∈ k_used, x_okm k_P j) (hr : ∀ t ∈ kT, ∀ r ∈ t, k_recP r) (hc : ∀ (ci : Nat) (q : vw_C), k_cl[ci]? = some q → x_okc k_P ci q) (ha : k_chk [.arrayClass .int, .arrayClass .long, .arrayClass .boolean] k_ac = true) : x_OK k_cl k_P := by
  have hg := k_get_ok hr
  have hw := k_chk_ok ha
  refine ⟨fun m pc i len h => ?_, hc, fun m idx => ?_, hw _ (by simp), hw _ (by simp), hw _ (by simp), fun m C h1 h2 => ?_⟩
  · rw [k_code_eq] at h
    rw [k_by_eq]
    exact k_OK1 (hg m) h
  · rw [k_nm_eq, k_pool_eq]
    exact k_OK2 (hg m).2.1 idx
  · rw [k_nm_eq] at h1 ⊢
    rw [k_mci_eq] at h2
    exact (hg m).2.2 C h1 h2
