/-! A SMALL LOGIC OVER W: one world of NO cells; what they hold of whole numbers is a function of place and slot -/
abbrev Sg : Type := Nat → Nat → Int32
abbrev Sh : Type := (Bool × Nat) ⊕ (Nat × List (Option Nat))
abbrev Gx : Type := va_G × ClassId × ClassId × (Nat → Nat)
def NO : Nat := 57
def twF (t : Nat) : List (Option Nat) := [some (t + 1), some (t + 2), some (t + 3), some (t + 4), some (t + 5), some (t + 6), some (t + 7), some (t + 8), none, none, none, none]
def twL (t : Nat) : List Sh := [.inr (1, twF t), .inl (false, 6), .inl (false, 6), .inl (false, 6), .inl (false, 6), .inl (false, 6), .inl (false, 6), .inl (false, 6), .inl (false, 6)]
def pbF : List (Option Nat) := [some 1, some 10, some 19, some 28, some 37, some 39, some 40, some 41, some 42, none, none]
def mdF : List (Option Nat) := [some 44, some 45, some 46, some 47, some 48, none, none, none, some 49, some 50, none, none, some 51, some 52, some 53, some 54, some 55, none, some 56, none]
def shL : List Sh := [.inr (2, pbF)] ++ twL 1 ++ twL 10 ++ twL 19 ++ twL 28 ++ [.inr (0, [some 38, none]), .inl (true, 64), .inl (false, 6), .inl (false, 6), .inl (false, 6), .inl (false, 7)] ++
  [.inr (3, mdF), .inl (false, 7), .inl (false, 51), .inl (false, 51), .inl (false, 51), .inl (false, 51), .inl (false, 64), .inl (false, 4), .inl (false, 7), .inl (false, 51), .inl (false, 41), .inl (false, 6), .inl (false, 6), .inl (false, 6)]
def shp (o : Nat) : Sh := shL.getD o (.inl (false, 0))
def abv (ad : Nat → Nat) (v : Value) : Value := match v with
  | .ref o => .ref (ad o)
  | w => w
theorem abv_cat {ad : Nat → Nat} {v : Value} : (abv ad v).category = v.category := by cases v <;> rfl
def fvs (ad : Nat → Nat) (f : Nat → Int32) : Nat → List (Option Nat) → List Value
  | _, [] => []
  | k, none :: r => .int (f k) :: fvs ad f (k + 1) r
  | k, some j :: r => .ref (ad j) :: fvs ad f (k + 1) r
theorem fvs_at (ad : Nat → Nat) (f : Nat → Int32) : ∀ (ks : List (Option Nat)) (k i : Nat), (fvs ad f k ks)[i]? = (ks[i]?).map (fun z => match z with | none => .int (f (k + i)) | some j => .ref (ad j))
  | [], k, i => by simp [fvs]
  | none :: r, k, 0 => by simp [fvs]
  | some j :: r, k, 0 => by simp [fvs]
  | none :: r, k, i + 1 => by
    show (fvs ad f (k + 1) r)[i]? = _
    rw [fvs_at ad f r (k + 1) i, show k + 1 + i = k + (i + 1) from by omega]
    simp
  | some j :: r, k, i + 1 => by
    show (fvs ad f (k + 1) r)[i]? = _
    rw [fvs_at ad f r (k + 1) i, show k + 1 + i = k + (i + 1) from by omega]
    simp
theorem fvs_len (ad : Nat → Nat) (f : Nat → Int32) : ∀ (ks : List (Option Nat)) (k : Nat), (fvs ad f k ks).length = ks.length
  | [], k => rfl
  | none :: r, k => by show (fvs ad f (k + 1) r).length + 1 = _; rw [fvs_len ad f r (k + 1)]; rfl
  | some j :: r, k => by show (fvs ad f (k + 1) r).length + 1 = _; rw [fvs_len ad f r (k + 1)]; rfl
theorem fvs_set (ad : Nat → Nat) (f : Nat → Int32) {ks : List (Option Nat)} {i : Nat} (h : ks[i]? = some none) (x : Int32) : (fvs ad f 0 ks).set i (.int x) = fvs ad (upd f i x) 0 ks := by
  have hi : i < ks.length := (List.getElem?_eq_some_iff.mp h).1
  apply List.ext_getElem?
  intro j
  by_cases hj : j = i
  · subst hj
    rw [List.getElem?_set_self (by rw [fvs_len]; exact hi), fvs_at, h]
    simp [upd]
  · rw [List.getElem?_set_ne (Ne.symm hj), fvs_at, fvs_at]
    cases hk : ks[j]? with
    | none => rfl
    | some z => cases z with
      | none => simp [upd, hj]
      | some q => rfl
def ent (G : Gx) (σ : Sg) (o : Nat) : va_E := match shp o with
  | .inl (b, n) => .inl (if b = true then G.2.2.1 else G.2.1, n, .inl (σ o))
  | .inr (ci, ks) => .inr (ci, fvs G.2.2.2 (σ o) 0 ks)
theorem ent_arr {G : Gx} {σ : Sg} {o n : Nat} {b : Bool} (h : shp o = .inl (b, n)) : ent G σ o = .inl (if b = true then G.2.2.1 else G.2.1, n, .inl (σ o)) := by
  unfold ent; rw [h]
theorem ent_obj {G : Gx} {σ : Sg} {o ci : Nat} {ks : List (Option Nat)} (h : shp o = .inr (ci, ks)) : ent G σ o = .inr (ci, fvs G.2.2.2 (σ o) 0 ks) := by
  unfold ent; rw [h]
theorem ent_eq {G : Gx} {σ τ : Sg} {o : Nat} (h : σ o = τ o) : ent G σ o = ent G τ o := by unfold ent; rw [h]
def world (G : Gx) (σ : Sg) : va_W := (List.range NO).map (fun o => (G.2.2.2 o, ent G σ o))
theorem world_at {G : Gx} {σ : Sg} {o : Nat} (h : o < NO) : (world G σ)[o]? = some (G.2.2.2 o, ent G σ o) := by
  unfold world; rw [List.getElem?_map, List.getElem?_range h]; rfl
theorem world_in {G : Gx} {σ : Sg} {k : Nat} {q : Nat × va_E} (h : (world G σ)[k]? = some q) : k < NO ∧ q = (G.2.2.2 k, ent G σ k) := by
  have hk : k < NO := by
    have := (List.getElem?_eq_some_iff.mp h).1
    simpa [world] using this
  rw [world_at hk] at h
  exact ⟨hk, (Option.some.inj h).symm⟩
def so (σ : Sg) (o : Nat) (f : Nat → Int32) : Sg := fun q => if q = o then f else σ q
def w2 (σ : Sg) (o k : Nat) (x : Int32) : Sg := so σ o (upd (σ o) k x)
theorem so_at {σ : Sg} {o : Nat} {f : Nat → Int32} : so σ o f o = f := by simp [so]
theorem so_ne {σ : Sg} {o q : Nat} {f : Nat → Int32} (h : q ≠ o) : so σ o f q = σ q := by simp [so, h]
theorem w2_at {σ : Sg} {o k : Nat} {x : Int32} : w2 σ o k x o k = x := by simp [w2, so, upd]
theorem w2_ne {σ : Sg} {o q k : Nat} {x : Int32} (h : q ≠ o) : w2 σ o k x q = σ q := by simp [w2, so, h]
theorem w2_nk {σ : Sg} {o k j : Nat} {x : Int32} (h : j ≠ k) : w2 σ o k x o j = σ o j := by simp [w2, so, upd, h]
theorem world_set {G : Gx} {σ : Sg} {o : Nat} {f : Nat → Int32} {e : va_E} (ho : o < NO) (he : ent G (so σ o f) o = e) : (world G σ).set o (G.2.2.2 o, e) = world G (so σ o f) := by
  apply List.ext_getElem?
  intro k
  by_cases hk : k = o
  · subst hk
    rw [List.getElem?_set_self (by simp [world]; exact ho), world_at ho, he]
  · rw [List.getElem?_set_ne (Ne.symm hk)]
    by_cases hn : k < NO
    · rw [world_at hn, world_at hn, ent_eq (σ := so σ o f) (τ := σ) (so_ne hk)]
    · rw [List.getElem?_eq_none (by simp [world]; omega), List.getElem?_eq_none (by simp [world]; omega)]
theorem world_D {G : Gx} {σ τ : Sg} {A : Nat → Prop} (h : va_D A (world G σ)) : va_D A (world G τ) := by
  refine ⟨fun i j p q hi hj e => ?_, fun k q hk => ?_⟩
  · obtain ⟨h1, rfl⟩ := world_in hi
    obtain ⟨h2, rfl⟩ := world_in hj
    exact h.1 i j _ _ (world_at h1) (world_at h2) e
  · obtain ⟨h1, rfl⟩ := world_in hk
    have h2 := h.2 k _ (world_at (σ := σ) h1)
    exact h2
/-! the words -/
def WL : List Cond := lw_tbl.filter goodWord
theorem wl_of {w : Cond} (i : Nat) (h : lw_tbl[i]? = some w) (hg : goodWord w = true) : w ∈ WL := List.mem_filter.mpr ⟨List.mem_of_getElem? h, hg⟩
theorem wl_in {w : Cond} (h : w ∈ WL) : w ∈ lw_tbl := (List.mem_filter.mp h).1
theorem wl_good {big : List Cond} {ws : List Cond} (hb : ∀ w ∈ WL, w ∈ big) (h : ∀ w ∈ ws, w ∈ WL) : GoodIn big ws := fun w hw => ⟨hb w (h w hw), good_of_word (List.mem_filter.mp (h w hw)).2⟩
/-- a call's words: the link, the callee's kind and its code -/
def LkV (own : String) (idx : Nat) (y : MethodName) (cc : ByteArray) (nL : Nat) (ret : Option FieldType) (n : Nat) : Prop :=
  Cond.methodLink own idx y ∈ WL ∧ Cond.instanceMethod y ∈ WL ∧ Cond.selects y.cls y y ∈ WL ∧ Cond.initialized y.cls ∈ WL ∧ Cond.code y cc nL ret ∈ WL ∧ nL ≤ 20 ∧
  (y.cls ≠ "java/lang/invoke/MethodHandle" ∧ y.cls ≠ "java/lang/invoke/VarHandle" ∧ (parseMethodDescriptor y.desc).map (fun d => d.parameters.length) = some n)
def LkS (own : String) (idx : Nat) (y : MethodName) (cc : ByteArray) (nL : Nat) (ret : Option FieldType) (n : Nat) : Prop :=
  Cond.methodLink own idx y ∈ WL ∧ Cond.static y ∈ WL ∧ Cond.initialized y.cls ∈ WL ∧ Cond.code y cc nL ret ∈ WL ∧ nL ≤ 20 ∧
  (y.cls ≠ "java/lang/invoke/MethodHandle" ∧ y.cls ≠ "java/lang/invoke/VarHandle" ∧ (parseMethodDescriptor y.desc).map (fun d => d.parameters.length) = some n)
def FLk (own : String) (idx ci k : Nat) : Prop := ∃ (C : String) (T : u_T) (N : Nat), vwCl[ci]? = some (C, T, N) ∧ k < N ∧ (∀ w ∈ u_ws C T N, w ∈ WL) ∧ Cond.fieldLink own idx (T k).1 (T k).2.1 (T k).2.2.1 ∈ WL
def FPk (own : String) (idx ci k : Nat) (ty : FieldType) : Prop := ∃ (C : String) (T : u_T) (N : Nat), vwCl[ci]? = some (C, T, N) ∧ k < N ∧ (∀ w ∈ u_ws C T N, w ∈ WL) ∧ Cond.fieldLink own idx (T k).1 (T k).2.1 (T k).2.2.1 ∈ WL ∧
  (T k).2.2.2 = false ∧ parseFieldDescriptor (T k).2.2.1 = some ty ∧ (∃ ty0 : Nat → FieldType, ∀ k, k < N → parseFieldDescriptor (T k).2.2.1 = some (ty0 k)) ∧ (∀ a, a < N → ∀ b, b < N → a ≠ b → (T a).2.1 ≠ (T b).2.1)
def nestL : List (Nat × String × String × String) := [(73, RX1, "kind", "[I"), (76, RX1, "mud", "[I"), (79, RX1, "wear", "[I"), (82, RX1, "hands", "[I"), (85, RX1, "pence", "[I"), (88, RX1, "mends", "[I"), (91, RX1, "mended", "[I"), (120, RX1, "count", "I"), (97, RX1, "year", "I"), (132, RX1, "lazed", "I"), (61, RX0, "length", "I")]
def FLn (own : String) (idx ci k : Nat) : Prop := own = RX2 ∧ ∃ (C : String) (T : u_T) (N : Nat), vwCl[ci]? = some (C, T, N) ∧ k < N ∧ (∀ w ∈ u_ws C T N, w ∈ WL) ∧ (idx, (T k).1, (T k).2.1, (T k).2.2.1) ∈ nestL
def FPn (own : String) (idx ci k : Nat) (ty : FieldType) : Prop := own = RX2 ∧ ∃ (C : String) (T : u_T) (N : Nat), vwCl[ci]? = some (C, T, N) ∧ k < N ∧ (∀ w ∈ u_ws C T N, w ∈ WL) ∧ (idx, (T k).1, (T k).2.1, (T k).2.2.1) ∈ nestL ∧
  (T k).2.2.2 = false ∧ parseFieldDescriptor (T k).2.2.1 = some ty ∧ (∃ ty0 : Nat → FieldType, ∀ k, k < N → parseFieldDescriptor (T k).2.2.1 = some (ty0 k)) ∧ (∀ a, a < N → ∀ b, b < N → a ≠ b → (T a).2.1 ≠ (T b).2.1)
def LkM (own : String) (idx : Nat) : Prop := Cond.methodLink own idx Lib.Math.min.name ∈ WL ∧ Cond.static Lib.Math.min.name ∈ WL ∧ Cond.initialized "java/lang/Math" ∈ WL ∧ Cond.code Lib.Math.min.name Lib.Math.min.code 2 (some .int) ∈ WL
def LkX (own : String) (idx : Nat) : Prop := Cond.methodLink own idx Lib.Math.max.name ∈ WL ∧ Cond.static Lib.Math.max.name ∈ WL ∧ Cond.initialized "java/lang/Math" ∈ WL ∧ Cond.code Lib.Math.max.name Lib.Math.max.code 2 (some .int) ∈ WL
def LkA (own : String) (idx : Nat) : Prop := Cond.methodLink own idx arraycopyName ∈ WL ∧ Cond.native arraycopyName ∈ WL ∧ Cond.static arraycopyName ∈ WL ∧ Cond.initialized "java/lang/System" ∈ WL
