/-! what is known beside the world: the text, and a static -/
def KF (G : Gx) (U : State) : Prop := va_K G.1 vwCl [(G.2.1, .int), (G.2.2.1, .char)] U
def KLen : List Nat := [6]
def KByt : List (List Int32) := [[100, 108, 116, 119, 109, 99]]
def NF (U : State) : Prop := ∀ q ∈ nestL, va_Nw (.fieldLinkNest RX2 q.1 q.2.1 q.2.2.1 q.2.2.2 RX2) U
def SF (G : Gx) (A : Nat → Prop) (U : State) (H : Heap) : Prop :=
  NF U ∧ vk_S 1 KLen KByt (fun _ => G.2.2.2 100) (fun _ => G.2.2.2 101) A U H ∧ vk_R RX0 43 "dltwmc" (G.2.2.2 100) U ∧ vk_R RX2 178 "dltwmc" (G.2.2.2 100) U ∧ va_Z "java/lang/String" "COMPACT_STRINGS" "Z" (.int 1) A U H
def AW (G : Gx) (sz : Nat) : Nat → Prop := fun q => (∃ o : Nat, o < NO ∧ q = G.2.2.2 o) ∨ sz ≤ q
theorem AW_D {G : Gx} {σ : Sg} {A : Nat → Prop} {sz : Nat} (h : va_D A (world G σ)) : va_D (AW G sz) (world G σ) := ⟨h.1, fun k q hk => by
  obtain ⟨h1, rfl⟩ := world_in hk
  exact Or.inl ⟨k, h1, rfl⟩⟩
theorem AW_sub {G : Gx} {σ : Sg} {A : Nat → Prop} {sz s0 : Nat} (h : va_D A (world G σ)) (hA : ∀ q, s0 ≤ q → A q) (hs : s0 ≤ sz) : ∀ q, AW G sz q → A q := by
  intro q hq
  rcases hq with ⟨o, ho, rfl⟩ | hq
  · exact h.2 o _ (world_at ho)
  · exact hA q (Nat.le_trans hs hq)
theorem SF_call {G : Gx} {A : Nat → Prop} {s U : State} {H : Heap} {locs : List Loc} {B : Nat → Prop} (h : SF G A s s.heap) (hW : s.WarmedH U.vm) (hS : va_S A s.heap H locs) (hU : U.heap = H) (hB : ∀ q, B q → A q) : SF G B U U.heap := by
  obtain ⟨h0, h1, h2, h3, h4⟩ := h
  rw [hU]
  exact ⟨fun q hq => va_Nw.warmF hW (h0 q hq), ((h1.kept hS.2.1).moved hW.alike).narrow hB, h2.warm hW, h3.warm hW, ((h4.kept hS.2.1).moved hW.alike).narrow hB⟩
theorem SF_same {G : Gx} {A : Nat → Prop} {U U1 : State} (h : SF G A U U.heap) (hv : U1.vm = U.vm) (hh : U1.heap = U.heap) : SF G A U1 U1.heap := by
  obtain ⟨h0, h1, h2, h3, h4⟩ := h
  rw [hh]
  exact ⟨fun q hq => va_Nw.same rfl hv.symm (h0 q hq), h1.moved (by rw [hv]; exact Vm.Alike.refl _), vk_R.same hv h2, vk_R.same hv h3, h4.moved (by rw [hv]; exact Vm.Alike.refl _)⟩
/-! contracts -/
def rmD (d : Nat) : Room := { frames := d, cells := 0, slots := 0, locals := 64 * d }
def PC (G : Gx) (av : List Value) (σ : Sg) (sz : Nat) : Array Value → State → Prop := fun v U => v = (av.map (abv G.2.2.2)).toArray ∧ U.heap.size = sz ∧ va_P G.1 vwCl (world G σ) U.heap ∧ KF G U ∧ va_D (fun _ => True) (world G σ) ∧ SF G (AW G sz) U U.heap
def QC (G : Gx) (post : Option Value → Sg → Prop) (sz : Nat) : Array Value → State → Outcome → State → Prop := fun _ st oc t =>
  (∃ (r : Option Value) (σ' : Sg), oc = .returned (r.map (abv G.2.2.2)) ∧ post r σ' ∧ va_P G.1 vwCl (world G σ') t.heap) ∧ va_F (AW G sz) st t
def Con (d : Nat) (y : MethodName) (cc : ByteArray) (nL : Nat) (ret : Option FieldType) (av : List Value) (σ : Sg) (post : Option Value → Sg → Prop) : Prop :=
  ∀ (l : Launch) (G : Gx) (sz : Nat), Met l y (Cond.code y cc nL ret :: WL) (rmD d) (PC G av σ sz) (QC G post sz) 0 0 (AW G sz)
def PI (p : Int32 → Sg → Prop) : Option Value → Sg → Prop := fun r σ => ∃ v : Int32, r = some (.int v) ∧ p v σ
def PV (p : Sg → Prop) : Option Value → Sg → Prop := fun r σ => r = none ∧ p σ
/-! the walks -/
abbrev Cx : Type := Program × Launch × Env × Room × State × MethodId × Array Value × List Frame × Method × Code × Nat × Nat × (State → Prop) × (Nat → Prop) × Gx
def xp (x : Cx) := x.1
def xl (x : Cx) := x.2.1
def xe (x : Cx) := x.2.2.1
def xR (x : Cx) := x.2.2.2.1
def xs (x : Cx) := x.2.2.2.2.1
def xm (x : Cx) := x.2.2.2.2.2.1
def xa (x : Cx) := x.2.2.2.2.2.2.1
def xb (x : Cx) := x.2.2.2.2.2.2.2.1
def xM (x : Cx) := x.2.2.2.2.2.2.2.2.1
def xc (x : Cx) := x.2.2.2.2.2.2.2.2.2.1
def xk (x : Cx) := x.2.2.2.2.2.2.2.2.2.2.1
def xn (x : Cx) := x.2.2.2.2.2.2.2.2.2.2.2.1
def xQ (x : Cx) := x.2.2.2.2.2.2.2.2.2.2.2.2.1
def xA (x : Cx) := x.2.2.2.2.2.2.2.2.2.2.2.2.2.1
def xG (x : Cx) : Gx := x.2.2.2.2.2.2.2.2.2.2.2.2.2.2
def FX (x : Cx) (own : String) (cc : ByteArray) (nL : Nat) : Prop :=
  (xp x).tables.exec = Jvm.exec ∧ (xc x).code = cc ∧ (xc x).maxLocals = nL ∧ (xs x).vm.findClass own = some (xm x).cls ∧ (∀ w ∈ WL, w.before (xa x) (xs x) = true) ∧ KF (xG x) (xs x) ∧ va_D (xA x) (world (xG x) (fun _ _ => 0)) ∧
  SF (xG x) (xA x) (xs x) (xs x).heap ∧ (∀ q, (xs x).heap.size ≤ q → xA x q) ∧ xk x ≤ (xR x).cells ∧ xn x ≤ (xR x).slots
def lvO (ad : Nat → Nat) (ls : Array Slot) (nL : Nat) (L : List (Option Value)) : Prop := ls.size = nL ∧ L.length ≤ nL ∧ lv_wf ls ∧ ∀ (k : Nat) (v : Value), L[k]? = some (some v) → ls[k]? = some (.val (abv ad v)) ∧ v.category = 1
def V (x : Cx) (own : String) (cc : ByteArray) (nL : Nat) (pc : Nat) (L : List (Option Value)) (st : List Value) (σ : Sg) : Prop :=
  FX x own cc nL → ∀ (H : Heap) (locs : List Loc) (ls : Array Slot), va_P (xG x).1 vwCl (world (xG x) σ) H → va_S (xA x) (xs x).heap H locs → lvO (xG x).2.2.2 ls nL L →
    W (xp x) (xl x) (xe x) (xR x) (xs x) (xm x) (xa x) (xb x) (xM x) (xc x) H locs (xk x) (xn x) (xQ x) (F0 (xm x) pc ls (st.map (abv (xG x).2.2.2)))
/-- the room of a callee of depth d -/
def Rm (x : Cx) (d : Nat) : Prop := d + 1 ≤ (xR x).frames ∧ 64 * (d + 1) ≤ (xR x).locals
def prs (ad : Nat → Nat) (L : List (Option Value)) : List (Nat × Value) := (List.range L.length).filterMap (fun k => match L[k]? with | some (some v) => some (k, abv ad v) | _ => none)
theorem prs_mem {ad : Nat → Nat} {L : List (Option Value)} {q : Nat × Value} : q ∈ prs ad L ↔ ∃ v : Value, L[q.1]? = some (some v) ∧ q.2 = abv ad v := by
  unfold prs
  rw [List.mem_filterMap]
  constructor
  · rintro ⟨k, hk, h⟩
    cases hL : L[k]? with
    | none => rw [hL] at h; cases h
    | some z => cases z with
      | none => rw [hL] at h; cases h
      | some v =>
        rw [hL] at h
        cases h
        exact ⟨v, hL, rfl⟩
  · rintro ⟨v, h1, h2⟩
    refine ⟨q.1, List.mem_range.mpr (List.getElem?_eq_some_iff.mp h1).1, ?_⟩
    rw [h1]
    show some (q.1, abv ad v) = some q
    rw [← h2]
theorem lvO_has {ad : Nat → Nat} {ls : Array Slot} {nL : Nat} {L : List (Option Value)} (h : lvO ad ls nL L) : lv_has ls nL (prs ad L) := by
  refine ⟨h.1, h.2.2.1, fun q hq => ?_⟩
  obtain ⟨v, h1, h2⟩ := prs_mem.mp hq
  rw [h2]
  exact (h.2.2.2 q.1 v h1).1
theorem lvO_set {ad : Nat → Nat} {ls ls' : Array Slot} {nL i : Nat} {L : List (Option Value)} {v : Value} (h : lvO ad ls nL L) (hv : v.category = 1) (h' : lv_has ls' nL ((i, abv ad v) :: (prs ad L).filter (fun q => !(q.1 == i) && !(q.1 + 1 == i && q.2.category == 2)))) : lvO ad ls' nL (L.set i (some v)) := by
  refine ⟨h'.1, by rw [List.length_set]; exact h.2.1, h'.2.1, fun k u hk => ?_⟩
  by_cases hki : k = i
  · subst hki
    have hlt : k < L.length := by
      have := (List.getElem?_eq_some_iff.mp hk).1
      rwa [List.length_set] at this
    rw [List.getElem?_set_self hlt] at hk
    cases hk
    exact ⟨h'.2.2 (k, abv ad v) List.mem_cons_self, hv⟩
  · rw [List.getElem?_set_ne (Ne.symm hki)] at hk
    have hc := (h.2.2.2 k u hk).2
    refine ⟨h'.2.2 (k, abv ad u) (List.mem_cons_of_mem _ (List.mem_filter.mpr ⟨prs_mem.mpr ⟨u, hk, rfl⟩, ?_⟩)), hc⟩
    simp [hki, abv_cat, hc]
theorem lvO_le {ad : Nat → Nat} {ls : Array Slot} {nL : Nat} {L L' : List (Option Value)} (h : lvO ad ls nL L) (hn : L'.length ≤ nL) (hL : ∀ (k : Nat) (v : Value), L'[k]? = some (some v) → L[k]? = some (some v)) : lvO ad ls nL L' := ⟨h.1, hn, h.2.2.1, fun k v hk => h.2.2.2 k v (hL k v hk)⟩
section VV
variable {x : Cx} {own : String} {cc : ByteArray} {nL pc q : Nat} {L : List (Option Value)} {st : List Value} {σ : Sg}
theorem V.cq (h : V x own cc nL q L st σ) (e : pc = q) : V x own cc nL pc L st σ := e ▸ h
theorem V.le {L' : List (Option Value)} (h : V x own cc nL pc L' st σ) (hn : L'.length ≤ L.length) (hL : ∀ (k : Nat) (v : Value), L'[k]? = some (some v) → L[k]? = some (some v)) : V x own cc nL pc L st σ :=
  fun hF H locs ls hP hS hl => h hF H locs ls hP hS (lvO_le hl (Nat.le_trans hn hl.2.1) hL)
theorem V.iconst {n : Int} {v : Int32} (hd : decode cc pc = .ok (.iconst n, 1)) (e : pc + 1 = q) (hv : Int32.ofInt n = v) (h : V x own cc nL q L (.int v :: st) σ) : V x own cc nL pc L st σ :=
  fun hF H locs ls hP hS hl => lv_iconst hF.1 hF.2.1 hd hv (e ▸ h hF H locs ls hP hS hl)
theorem V.bipush {n : Int} {v : Int32} (hd : decode cc pc = .ok (.bipush n, 2)) (e : pc + 2 = q) (hv : (Int8.ofInt n).toInt32 = v) (h : V x own cc nL q L (.int v :: st) σ) : V x own cc nL pc L st σ :=
  fun hF H locs ls hP hS hl => lv_bipush hF.1 hF.2.1 hd hv (e ▸ h hF H locs ls hP hS hl)
theorem V.sipush {n : Int} {v : Int32} (hd : decode cc pc = .ok (.sipush n, 3)) (e : pc + 3 = q) (hv : (Int16.ofInt n).toInt32 = v) (h : V x own cc nL q L (.int v :: st) σ) : V x own cc nL pc L st σ :=
  fun hF H locs ls hP hS hl => lv_sipush hF.1 hF.2.1 hd hv (e ▸ h hF H locs ls hP hS hl)
theorem V.ldc {idx : Nat} {v : Int32} (hd : decode cc pc = .ok (.ldc idx, 2)) (e : pc + 2 = q) (hc : Cond.constant own idx v ∈ WL) (h : V x own cc nL q L (.int v :: st) σ) : V x own cc nL pc L st σ :=
  fun hF H locs ls hP hS hl => lv_ldc hF.1 hF.2.1 hF.2.2.2.1 (hF.2.2.2.2.1 _ hc) hd (e ▸ h hF H locs ls hP hS hl)
theorem V.iload_n {k : Fin 4} {v : Int32} (hd : decode cc pc = .ok (.iload_n k, 1)) (e : pc + 1 = q) (hk : L[k.val]? = some (some (.int v))) (h : V x own cc nL q L (.int v :: st) σ) : V x own cc nL pc L st σ :=
  fun hF H locs ls hP hS hl => lv_iload_n hF.1 hF.2.1 hd rfl (hl.2.2.2 _ _ hk).1 (e ▸ h hF H locs ls hP hS hl)
theorem V.iload {i : Nat} {v : Int32} (hd : decode cc pc = .ok (.iload i, 2)) (e : pc + 2 = q) (hk : L[i]? = some (some (.int v))) (h : V x own cc nL q L (.int v :: st) σ) : V x own cc nL pc L st σ :=
  fun hF H locs ls hP hS hl => lv_iload hF.1 hF.2.1 hd (hl.2.2.2 _ _ hk).1 (e ▸ h hF H locs ls hP hS hl)
theorem V.aload_n {k : Fin 4} {o : Nat} (hd : decode cc pc = .ok (.aload_n k, 1)) (e : pc + 1 = q) (hk : L[k.val]? = some (some (.ref o))) (h : V x own cc nL q L (.ref o :: st) σ) : V x own cc nL pc L st σ :=
  fun hF H locs ls hP hS hl => lv_aload_n hF.1 hF.2.1 hd rfl (hl.2.2.2 _ _ hk).1 (e ▸ h hF H locs ls hP hS hl)
theorem V.aload {i : Nat} {o : Nat} (hd : decode cc pc = .ok (.aload i, 2)) (e : pc + 2 = q) (hk : L[i]? = some (some (.ref o))) (h : V x own cc nL q L (.ref o :: st) σ) : V x own cc nL pc L st σ :=
  fun hF H locs ls hP hS hl => lv_aload hF.1 hF.2.1 hd (hl.2.2.2 _ _ hk).1 (e ▸ h hF H locs ls hP hS hl)
theorem V.istore_n {k : Fin 4} {v : Int32} (hd : decode cc pc = .ok (.istore_n k, 1)) (e : pc + 1 = q) (hk : k.val < L.length) (h : V x own cc nL q (L.set k.val (some (.int v))) st σ) : V x own cc nL pc L (.int v :: st) σ :=
  fun hF H locs ls hP hS hl => lv_istore_n hF.1 hF.2.1 hd rfl (lvO_has hl) (Nat.lt_of_lt_of_le hk hl.2.1) rfl (fun ls' h' => e ▸ h hF H locs ls' hP hS (lvO_set hl rfl h'))
theorem V.istore {i : Nat} {v : Int32} (hd : decode cc pc = .ok (.istore i, 2)) (e : pc + 2 = q) (hk : i < L.length) (h : V x own cc nL q (L.set i (some (.int v))) st σ) : V x own cc nL pc L (.int v :: st) σ :=
  fun hF H locs ls hP hS hl => lv_istore hF.1 hF.2.1 hd (lvO_has hl) (Nat.lt_of_lt_of_le hk hl.2.1) rfl (fun ls' h' => e ▸ h hF H locs ls' hP hS (lvO_set hl rfl h'))
theorem V.iinc {i : Nat} {n : Int} {u v : Int32} (hd : decode cc pc = .ok (.iinc i n, 3)) (e : pc + 3 = q) (hk : L[i]? = some (some (.int u))) (hv : u + Int32.ofInt n = v) (h : V x own cc nL q (L.set i (some (.int v))) st σ) : V x own cc nL pc L st σ := by
  intro hF H locs ls hP hS hl
  have hm : (i, Value.int u) ∈ prs (xG x).2.2.2 L := prs_mem.mpr ⟨.int u, hk, rfl⟩
  obtain ⟨j, hj⟩ := List.getElem?_of_mem hm
  exact lv_iinc hF.1 hF.2.1 hd (lvO_has hl) hj hv (Nat.lt_of_lt_of_le (List.getElem?_eq_some_iff.mp hk).1 hl.2.1) rfl (fun ls' h' => e ▸ h hF H locs ls' hP hS (lvO_set (v := .int v) hl rfl h'))
theorem V.ist0 {a0 : Option Value} {T : List (Option Value)} {v : Int32} (hd : decode cc pc = .ok (.istore_n 0, 1)) (e : pc + 1 = q) (h : V x own cc nL q (some (.int v) :: T) st σ) : V x own cc nL pc (a0 :: T) (.int v :: st) σ := V.istore_n hd e (by show 0 < _; simp) h
theorem V.inc0  {T : List (Option Value)} {n : Int} {u v : Int32} (hd : decode cc pc = .ok (.iinc 0 n, 3)) (e : pc + 3 = q) (hv : u + Int32.ofInt n = v) (h : V x own cc nL q (some (.int v) :: T) st σ) : V x own cc nL pc (some (.int u) :: T) st σ := V.iinc hd e rfl hv h
theorem V.fg0 {a0 : Option Value} {T : List (Option Value)} (h : V x own cc nL pc (none :: T) st σ) : V x own cc nL pc (a0 :: T) st σ := V.le h (by simp) (fun j v hj => by
  by_cases hjk : j = 0
  · subst hjk; simp at hj
  · have e : (none :: T) = ((a0 :: T).set 0 none) := rfl
    rw [e, List.getElem?_set_ne (Ne.symm hjk)] at hj
    exact hj)
theorem V.ist1 {a0 a1 : Option Value} {T : List (Option Value)} {v : Int32} (hd : decode cc pc = .ok (.istore_n 1, 1)) (e : pc + 1 = q) (h : V x own cc nL q (a0 :: some (.int v) :: T) st σ) : V x own cc nL pc (a0 :: a1 :: T) (.int v :: st) σ := V.istore_n hd e (by show 1 < _; simp) h
theorem V.inc1 {a0 : Option Value}  {T : List (Option Value)} {n : Int} {u v : Int32} (hd : decode cc pc = .ok (.iinc 1 n, 3)) (e : pc + 3 = q) (hv : u + Int32.ofInt n = v) (h : V x own cc nL q (a0 :: some (.int v) :: T) st σ) : V x own cc nL pc (a0 :: some (.int u) :: T) st σ := V.iinc hd e rfl hv h
theorem V.fg1 {a0 a1 : Option Value} {T : List (Option Value)} (h : V x own cc nL pc (a0 :: none :: T) st σ) : V x own cc nL pc (a0 :: a1 :: T) st σ := V.le h (by simp) (fun j v hj => by
  by_cases hjk : j = 1
  · subst hjk; simp at hj
  · have e : (a0 :: none :: T) = ((a0 :: a1 :: T).set 1 none) := rfl
    rw [e, List.getElem?_set_ne (Ne.symm hjk)] at hj
    exact hj)
theorem V.ist2 {a0 a1 a2 : Option Value} {T : List (Option Value)} {v : Int32} (hd : decode cc pc = .ok (.istore_n 2, 1)) (e : pc + 1 = q) (h : V x own cc nL q (a0 :: a1 :: some (.int v) :: T) st σ) : V x own cc nL pc (a0 :: a1 :: a2 :: T) (.int v :: st) σ := V.istore_n hd e (by show 2 < _; simp) h
theorem V.inc2 {a0 a1 : Option Value}  {T : List (Option Value)} {n : Int} {u v : Int32} (hd : decode cc pc = .ok (.iinc 2 n, 3)) (e : pc + 3 = q) (hv : u + Int32.ofInt n = v) (h : V x own cc nL q (a0 :: a1 :: some (.int v) :: T) st σ) : V x own cc nL pc (a0 :: a1 :: some (.int u) :: T) st σ := V.iinc hd e rfl hv h
theorem V.fg2 {a0 a1 a2 : Option Value} {T : List (Option Value)} (h : V x own cc nL pc (a0 :: a1 :: none :: T) st σ) : V x own cc nL pc (a0 :: a1 :: a2 :: T) st σ := V.le h (by simp) (fun j v hj => by
  by_cases hjk : j = 2
  · subst hjk; simp at hj
  · have e : (a0 :: a1 :: none :: T) = ((a0 :: a1 :: a2 :: T).set 2 none) := rfl
    rw [e, List.getElem?_set_ne (Ne.symm hjk)] at hj
    exact hj)
theorem V.ist3 {a0 a1 a2 a3 : Option Value} {T : List (Option Value)} {v : Int32} (hd : decode cc pc = .ok (.istore_n 3, 1)) (e : pc + 1 = q) (h : V x own cc nL q (a0 :: a1 :: a2 :: some (.int v) :: T) st σ) : V x own cc nL pc (a0 :: a1 :: a2 :: a3 :: T) (.int v :: st) σ := V.istore_n hd e (by show 3 < _; simp) h
theorem V.inc3 {a0 a1 a2 : Option Value}  {T : List (Option Value)} {n : Int} {u v : Int32} (hd : decode cc pc = .ok (.iinc 3 n, 3)) (e : pc + 3 = q) (hv : u + Int32.ofInt n = v) (h : V x own cc nL q (a0 :: a1 :: a2 :: some (.int v) :: T) st σ) : V x own cc nL pc (a0 :: a1 :: a2 :: some (.int u) :: T) st σ := V.iinc hd e rfl hv h
theorem V.fg3 {a0 a1 a2 a3 : Option Value} {T : List (Option Value)} (h : V x own cc nL pc (a0 :: a1 :: a2 :: none :: T) st σ) : V x own cc nL pc (a0 :: a1 :: a2 :: a3 :: T) st σ := V.le h (by simp) (fun j v hj => by
  by_cases hjk : j = 3
  · subst hjk; simp at hj
  · have e : (a0 :: a1 :: a2 :: none :: T) = ((a0 :: a1 :: a2 :: a3 :: T).set 3 none) := rfl
    rw [e, List.getElem?_set_ne (Ne.symm hjk)] at hj
    exact hj)
theorem V.ist4 {a0 a1 a2 a3 a4 : Option Value} {T : List (Option Value)} {v : Int32} (hd : decode cc pc = .ok (.istore 4, 2)) (e : pc + 2 = q) (h : V x own cc nL q (a0 :: a1 :: a2 :: a3 :: some (.int v) :: T) st σ) : V x own cc nL pc (a0 :: a1 :: a2 :: a3 :: a4 :: T) (.int v :: st) σ := V.istore hd e (by show 4 < _; simp) h
theorem V.inc4 {a0 a1 a2 a3 : Option Value}  {T : List (Option Value)} {n : Int} {u v : Int32} (hd : decode cc pc = .ok (.iinc 4 n, 3)) (e : pc + 3 = q) (hv : u + Int32.ofInt n = v) (h : V x own cc nL q (a0 :: a1 :: a2 :: a3 :: some (.int v) :: T) st σ) : V x own cc nL pc (a0 :: a1 :: a2 :: a3 :: some (.int u) :: T) st σ := V.iinc hd e rfl hv h
theorem V.fg4 {a0 a1 a2 a3 a4 : Option Value} {T : List (Option Value)} (h : V x own cc nL pc (a0 :: a1 :: a2 :: a3 :: none :: T) st σ) : V x own cc nL pc (a0 :: a1 :: a2 :: a3 :: a4 :: T) st σ := V.le h (by simp) (fun j v hj => by
  by_cases hjk : j = 4
  · subst hjk; simp at hj
  · have e : (a0 :: a1 :: a2 :: a3 :: none :: T) = ((a0 :: a1 :: a2 :: a3 :: a4 :: T).set 4 none) := rfl
    rw [e, List.getElem?_set_ne (Ne.symm hjk)] at hj
    exact hj)
theorem V.ist5 {a0 a1 a2 a3 a4 a5 : Option Value} {T : List (Option Value)} {v : Int32} (hd : decode cc pc = .ok (.istore 5, 2)) (e : pc + 2 = q) (h : V x own cc nL q (a0 :: a1 :: a2 :: a3 :: a4 :: some (.int v) :: T) st σ) : V x own cc nL pc (a0 :: a1 :: a2 :: a3 :: a4 :: a5 :: T) (.int v :: st) σ := V.istore hd e (by show 5 < _; simp) h
theorem V.inc5 {a0 a1 a2 a3 a4 : Option Value}  {T : List (Option Value)} {n : Int} {u v : Int32} (hd : decode cc pc = .ok (.iinc 5 n, 3)) (e : pc + 3 = q) (hv : u + Int32.ofInt n = v) (h : V x own cc nL q (a0 :: a1 :: a2 :: a3 :: a4 :: some (.int v) :: T) st σ) : V x own cc nL pc (a0 :: a1 :: a2 :: a3 :: a4 :: some (.int u) :: T) st σ := V.iinc hd e rfl hv h
theorem V.fg5 {a0 a1 a2 a3 a4 a5 : Option Value} {T : List (Option Value)} (h : V x own cc nL pc (a0 :: a1 :: a2 :: a3 :: a4 :: none :: T) st σ) : V x own cc nL pc (a0 :: a1 :: a2 :: a3 :: a4 :: a5 :: T) st σ := V.le h (by simp) (fun j v hj => by
  by_cases hjk : j = 5
  · subst hjk; simp at hj
  · have e : (a0 :: a1 :: a2 :: a3 :: a4 :: none :: T) = ((a0 :: a1 :: a2 :: a3 :: a4 :: a5 :: T).set 5 none) := rfl
    rw [e, List.getElem?_set_ne (Ne.symm hjk)] at hj
    exact hj)
theorem V.ist6 {a0 a1 a2 a3 a4 a5 a6 : Option Value} {T : List (Option Value)} {v : Int32} (hd : decode cc pc = .ok (.istore 6, 2)) (e : pc + 2 = q) (h : V x own cc nL q (a0 :: a1 :: a2 :: a3 :: a4 :: a5 :: some (.int v) :: T) st σ) : V x own cc nL pc (a0 :: a1 :: a2 :: a3 :: a4 :: a5 :: a6 :: T) (.int v :: st) σ := V.istore hd e (by show 6 < _; simp) h
theorem V.inc6 {a0 a1 a2 a3 a4 a5 : Option Value}  {T : List (Option Value)} {n : Int} {u v : Int32} (hd : decode cc pc = .ok (.iinc 6 n, 3)) (e : pc + 3 = q) (hv : u + Int32.ofInt n = v) (h : V x own cc nL q (a0 :: a1 :: a2 :: a3 :: a4 :: a5 :: some (.int v) :: T) st σ) : V x own cc nL pc (a0 :: a1 :: a2 :: a3 :: a4 :: a5 :: some (.int u) :: T) st σ := V.iinc hd e rfl hv h
theorem V.fg6 {a0 a1 a2 a3 a4 a5 a6 : Option Value} {T : List (Option Value)} (h : V x own cc nL pc (a0 :: a1 :: a2 :: a3 :: a4 :: a5 :: none :: T) st σ) : V x own cc nL pc (a0 :: a1 :: a2 :: a3 :: a4 :: a5 :: a6 :: T) st σ := V.le h (by simp) (fun j v hj => by
  by_cases hjk : j = 6
  · subst hjk; simp at hj
  · have e : (a0 :: a1 :: a2 :: a3 :: a4 :: a5 :: none :: T) = ((a0 :: a1 :: a2 :: a3 :: a4 :: a5 :: a6 :: T).set 6 none) := rfl
    rw [e, List.getElem?_set_ne (Ne.symm hjk)] at hj
    exact hj)
theorem V.ist7 {a0 a1 a2 a3 a4 a5 a6 a7 : Option Value} {T : List (Option Value)} {v : Int32} (hd : decode cc pc = .ok (.istore 7, 2)) (e : pc + 2 = q) (h : V x own cc nL q (a0 :: a1 :: a2 :: a3 :: a4 :: a5 :: a6 :: some (.int v) :: T) st σ) : V x own cc nL pc (a0 :: a1 :: a2 :: a3 :: a4 :: a5 :: a6 :: a7 :: T) (.int v :: st) σ := V.istore hd e (by show 7 < _; simp) h
theorem V.inc7 {a0 a1 a2 a3 a4 a5 a6 : Option Value}  {T : List (Option Value)} {n : Int} {u v : Int32} (hd : decode cc pc = .ok (.iinc 7 n, 3)) (e : pc + 3 = q) (hv : u + Int32.ofInt n = v) (h : V x own cc nL q (a0 :: a1 :: a2 :: a3 :: a4 :: a5 :: a6 :: some (.int v) :: T) st σ) : V x own cc nL pc (a0 :: a1 :: a2 :: a3 :: a4 :: a5 :: a6 :: some (.int u) :: T) st σ := V.iinc hd e rfl hv h
theorem V.fg7 {a0 a1 a2 a3 a4 a5 a6 a7 : Option Value} {T : List (Option Value)} (h : V x own cc nL pc (a0 :: a1 :: a2 :: a3 :: a4 :: a5 :: a6 :: none :: T) st σ) : V x own cc nL pc (a0 :: a1 :: a2 :: a3 :: a4 :: a5 :: a6 :: a7 :: T) st σ := V.le h (by simp) (fun j v hj => by
  by_cases hjk : j = 7
  · subst hjk; simp at hj
  · have e : (a0 :: a1 :: a2 :: a3 :: a4 :: a5 :: a6 :: none :: T) = ((a0 :: a1 :: a2 :: a3 :: a4 :: a5 :: a6 :: a7 :: T).set 7 none) := rfl
    rw [e, List.getElem?_set_ne (Ne.symm hjk)] at hj
    exact hj)
theorem V.iadd {a b : Int32} (hd : decode cc pc = .ok (.iadd, 1)) (e : pc + 1 = q) (h : V x own cc nL q L (.int (a + b) :: st) σ) : V x own cc nL pc L (.int b :: .int a :: st) σ :=
  fun hF H locs ls hP hS hl => lv_iadd hF.1 hF.2.1 hd (e ▸ h hF H locs ls hP hS hl)
theorem V.iaddN {a b : Nat} (hd : decode cc pc = .ok (.iadd, 1)) (e : pc + 1 = q) (h : V x own cc nL q L (.int (nI (a + b)) :: st) σ) : V x own cc nL pc L (.int (nI b) :: .int (nI a) :: st) σ := V.iadd hd e (nI_add a b ▸ h)
theorem V.isub {a b : Int32} (hd : decode cc pc = .ok (.isub, 1)) (e : pc + 1 = q) (h : V x own cc nL q L (.int (a - b) :: st) σ) : V x own cc nL pc L (.int b :: .int a :: st) σ :=
  fun hF H locs ls hP hS hl => lv_isub hF.1 hF.2.1 hd (e ▸ h hF H locs ls hP hS hl)
theorem V.imul {a b : Int32} (hd : decode cc pc = .ok (.imul, 1)) (e : pc + 1 = q) (h : V x own cc nL q L (.int (a * b) :: st) σ) : V x own cc nL pc L (.int b :: .int a :: st) σ :=
  fun hF H locs ls hP hS hl => lv_imul hF.1 hF.2.1 hd (e ▸ h hF H locs ls hP hS hl)
theorem V.imulN {a b : Nat} (hd : decode cc pc = .ok (.imul, 1)) (e : pc + 1 = q) (h : V x own cc nL q L (.int (nI (a * b)) :: st) σ) : V x own cc nL pc L (.int (nI b) :: .int (nI a) :: st) σ := V.imul hd e (pk_mul a b ▸ h)
theorem V.iand {a b : Int32} (hd : decode cc pc = .ok (.iand, 1)) (e : pc + 1 = q) (h : V x own cc nL q L (.int (a &&& b) :: st) σ) : V x own cc nL pc L (.int b :: .int a :: st) σ :=
  fun hF H locs ls hP hS hl => lv_iand hF.1 hF.2.1 hd (e ▸ h hF H locs ls hP hS hl)
theorem V.ior {a b : Int32} (hd : decode cc pc = .ok (.ior, 1)) (e : pc + 1 = q) (h : V x own cc nL q L (.int (a ||| b) :: st) σ) : V x own cc nL pc L (.int b :: .int a :: st) σ :=
  fun hF H locs ls hP hS hl => lv_ior hF.1 hF.2.1 hd (e ▸ h hF H locs ls hP hS hl)
theorem V.ishl {a b : Int32} (hd : decode cc pc = .ok (.ishl, 1)) (e : pc + 1 = q) (h : V x own cc nL q L (.int (a <<< (b &&& 31)) :: st) σ) : V x own cc nL pc L (.int b :: .int a :: st) σ :=
  fun hF H locs ls hP hS hl => lv_ishl hF.1 hF.2.1 hd (e ▸ h hF H locs ls hP hS hl)
theorem V.ishr {a b : Int32} (hd : decode cc pc = .ok (.ishr, 1)) (e : pc + 1 = q) (h : V x own cc nL q L (.int (a >>> (b &&& 31)) :: st) σ) : V x own cc nL pc L (.int b :: .int a :: st) σ :=
  fun hF H locs ls hP hS hl => lv_ishr hF.1 hF.2.1 hd (e ▸ h hF H locs ls hP hS hl)
theorem V.idiv {a b : Int32} (hd : decode cc pc = .ok (.idiv, 1)) (e : pc + 1 = q) (hne : ¬ b = 0) (h : V x own cc nL q L (.int (a / b) :: st) σ) : V x own cc nL pc L (.int b :: .int a :: st) σ :=
  fun hF H locs ls hP hS hl => lv_idiv hF.1 hF.2.1 hd hne (e ▸ h hF H locs ls hP hS hl)
theorem V.irem {a b : Int32} (hd : decode cc pc = .ok (.irem, 1)) (e : pc + 1 = q) (hne : ¬ b = 0) (h : V x own cc nL q L (.int (a - a / b * b) :: st) σ) : V x own cc nL pc L (.int b :: .int a :: st) σ :=
  fun hF H locs ls hP hS hl => lv_irem hF.1 hF.2.1 hd hne (e ▸ h hF H locs ls hP hS hl)
theorem V.iremN {a b : Nat} (hd : decode cc pc = .ok (.irem, 1)) (e : pc + 1 = q) (ha : a < 2 ^ 31) (h0 : 0 < b) (hb : b < 2 ^ 31) (h : V x own cc nL q L (.int (nI (a % b)) :: st) σ) : V x own cc nL pc L (.int (nI b) :: .int (nI a) :: st) σ := V.irem hd e (nI_ne0 h0 hb) (pk_rem ha h0 hb ▸ h)
theorem V.idivN {a b : Nat} (hd : decode cc pc = .ok (.idiv, 1)) (e : pc + 1 = q) (ha : a < 2 ^ 31) (h0 : 0 < b) (hb : b < 2 ^ 31) (h : V x own cc nL q L (.int (nI (a / b)) :: st) σ) : V x own cc nL pc L (.int (nI b) :: .int (nI a) :: st) σ := V.idiv hd e (nI_ne0 h0 hb) (pk_div ha h0 hb ▸ h)
theorem V.isubN {a b : Nat} (hd : decode cc pc = .ok (.isub, 1)) (e : pc + 1 = q) (hb : b ≤ a) (h : V x own cc nL q L (.int (nI (a - b)) :: st) σ) : V x own cc nL pc L (.int (nI b) :: .int (nI a) :: st) σ := V.isub hd e (pk_sub hb ▸ h)
theorem V.ineg {a : Int32} (hd : decode cc pc = .ok (.ineg, 1)) (e : pc + 1 = q) (h : V x own cc nL q L (.int (-a) :: st) σ) : V x own cc nL pc L (.int a :: st) σ :=
  fun hF H locs ls hP hS hl => lv_ineg hF.1 hF.2.1 hd (e ▸ h hF H locs ls hP hS hl)
theorem V.i2c {a v : Int32} (hd : decode cc pc = .ok (.i2c, 1)) (e : pc + 1 = q) (hv : (a.toUInt32 % 65536).toInt32 = v) (h : V x own cc nL q L (.int v :: st) σ) : V x own cc nL pc L (.int a :: st) σ :=
  fun hF H locs ls hP hS hl => lv_i2c hF.1 hF.2.1 hd hv (e ▸ h hF H locs ls hP hS hl)
theorem V.dup {v : Value} (hd : decode cc pc = .ok (.dup, 1)) (e : pc + 1 = q) (hv : v.category = 1) (h : V x own cc nL q L (v :: v :: st) σ) : V x own cc nL pc L (v :: st) σ :=
  fun hF H locs ls hP hS hl => lv_dup hF.1 hF.2.1 hd (abv_cat.trans hv) (e ▸ h hF H locs ls hP hS hl)
theorem V.pop {v : Value} (hd : decode cc pc = .ok (.pop, 1)) (e : pc + 1 = q) (hv : v.category = 1) (h : V x own cc nL q L st σ) : V x own cc nL pc L (v :: st) σ :=
  fun hF H locs ls hP hS hl => lv_pop hF.1 hF.2.1 hd (abv_cat.trans hv) (e ▸ h hF H locs ls hP hS hl)
theorem V.dup2 {v w : Value} (hd : decode cc pc = .ok (.dup2, 1)) (e : pc + 1 = q) (hv : v.category = 1) (hw : w.category = 1) (h : V x own cc nL q L (v :: w :: v :: w :: st) σ) : V x own cc nL pc L (v :: w :: st) σ :=
  fun hF H locs ls hP hS hl => lv_dup2_11 hF.1 hF.2.1 hd (abv_cat.trans hv) (abv_cat.trans hw) (e ▸ h hF H locs ls hP hS hl)
theorem V.goto {off : Int} (hd : decode cc pc = .ok (.goto off, 3)) (ht : (pc : Int) + off = (q : Int)) (h : V x own cc nL q L st σ) : V x own cc nL pc L st σ :=
  fun hF H locs ls hP hS hl => lv_goto hF.1 hF.2.1 hd ht (h hF H locs ls hP hS hl)
theorem V.lookup {dflt : Int} {ps : Array (Int × Int)} {len : Nat} {v : Int32} {off : Int} (hd : decode cc pc = .ok (.lookupswitch dflt ps, len)) (hp : (ps.toList.zip (ps.toList.drop 1)).all (fun (a, next) => a.1 < next.1) = true) (ho : Op.lookupswitch.offset ps.toList dflt v.toInt = off) (ht : (pc : Int) + off = (q : Int)) (h : V x own cc nL q L st σ) : V x own cc nL pc L (.int v :: st) σ :=
  fun hF H locs ls hP hS hl => lv_lookup hF.1 hF.2.1 hd hp ho ht (h hF H locs ls hP hS hl)
theorem V.tableIn {dflt lo hi : Int} {offs : Array Int} {len : Nat} {v : Int32} {off : Int} (hd : decode cc pc = .ok (.tableswitch dflt lo hi offs, len)) (h1 : ¬ v.toInt < lo) (h2 : ¬ hi < v.toInt) (ho : offs[(v.toInt - lo).toNat]? = some off) (ht : (pc : Int) + off = (q : Int)) (h : V x own cc nL q L st σ) : V x own cc nL pc L (.int v :: st) σ :=
  fun hF H locs ls hP hS hl => lv_tableIn hF.1 hF.2.1 hd h1 h2 ho ht (h hF H locs ls hP hS hl)
theorem V.tableOut {dflt lo hi : Int} {offs : Array Int} {len : Nat} {v : Int32} (hd : decode cc pc = .ok (.tableswitch dflt lo hi offs, len)) (h1 : v.toInt < lo ∨ hi < v.toInt) (ht : (pc : Int) + dflt = (q : Int)) (h : V x own cc nL q L st σ) : V x own cc nL pc L (.int v :: st) σ :=
  fun hF H locs ls hP hS hl => lv_tableOut hF.1 hF.2.1 hd h1 ht (h hF H locs ls hP hS hl)
theorem V.if_eq {u : Int32} {off : Int} {t : Nat} (hd : decode cc pc = .ok (.ifCond .eq off, 3)) (ht : (pc : Int) + off = (t : Int)) (e : pc + 3 = q) (kt : u = 0 → V x own cc nL t L st σ) (kf : ¬ u = 0 → V x own cc nL q L st σ) : V x own cc nL pc L (.int u :: st) σ :=
  fun hF H locs ls hP hS hl => lv_if_eq hF.1 hF.2.1 hd ht (fun hc => kt hc hF H locs ls hP hS hl) (fun hc => e ▸ kf hc hF H locs ls hP hS hl)
theorem V.icmp_eq {u v : Int32} {off : Int} {t : Nat} (hd : decode cc pc = .ok (.if_icmp .eq off, 3)) (ht : (pc : Int) + off = (t : Int)) (e : pc + 3 = q) (kt : u = v → V x own cc nL t L st σ) (kf : ¬ u = v → V x own cc nL q L st σ) : V x own cc nL pc L (.int v :: .int u :: st) σ :=
  fun hF H locs ls hP hS hl => lv_icmp_eq hF.1 hF.2.1 hd ht (fun hc => kt hc hF H locs ls hP hS hl) (fun hc => e ▸ kf hc hF H locs ls hP hS hl)
theorem V.if_ne {u : Int32} {off : Int} {t : Nat} (hd : decode cc pc = .ok (.ifCond .ne off, 3)) (ht : (pc : Int) + off = (t : Int)) (e : pc + 3 = q) (kt : ¬ u = 0 → V x own cc nL t L st σ) (kf : u = 0 → V x own cc nL q L st σ) : V x own cc nL pc L (.int u :: st) σ :=
  fun hF H locs ls hP hS hl => lv_if_ne hF.1 hF.2.1 hd ht (fun hc => kt hc hF H locs ls hP hS hl) (fun hc => e ▸ kf hc hF H locs ls hP hS hl)
theorem V.icmp_ne {u v : Int32} {off : Int} {t : Nat} (hd : decode cc pc = .ok (.if_icmp .ne off, 3)) (ht : (pc : Int) + off = (t : Int)) (e : pc + 3 = q) (kt : ¬ u = v → V x own cc nL t L st σ) (kf : u = v → V x own cc nL q L st σ) : V x own cc nL pc L (.int v :: .int u :: st) σ :=
  fun hF H locs ls hP hS hl => lv_icmp_ne hF.1 hF.2.1 hd ht (fun hc => kt hc hF H locs ls hP hS hl) (fun hc => e ▸ kf hc hF H locs ls hP hS hl)
theorem V.if_lt {u : Int32} {off : Int} {t : Nat} (hd : decode cc pc = .ok (.ifCond .lt off, 3)) (ht : (pc : Int) + off = (t : Int)) (e : pc + 3 = q) (kt : u < 0 → V x own cc nL t L st σ) (kf : ¬ u < 0 → V x own cc nL q L st σ) : V x own cc nL pc L (.int u :: st) σ :=
  fun hF H locs ls hP hS hl => lv_if_lt hF.1 hF.2.1 hd ht (fun hc => kt hc hF H locs ls hP hS hl) (fun hc => e ▸ kf hc hF H locs ls hP hS hl)
theorem V.icmp_lt {u v : Int32} {off : Int} {t : Nat} (hd : decode cc pc = .ok (.if_icmp .lt off, 3)) (ht : (pc : Int) + off = (t : Int)) (e : pc + 3 = q) (kt : u < v → V x own cc nL t L st σ) (kf : ¬ u < v → V x own cc nL q L st σ) : V x own cc nL pc L (.int v :: .int u :: st) σ :=
  fun hF H locs ls hP hS hl => lv_icmp_lt hF.1 hF.2.1 hd ht (fun hc => kt hc hF H locs ls hP hS hl) (fun hc => e ▸ kf hc hF H locs ls hP hS hl)
theorem V.if_ge {u : Int32} {off : Int} {t : Nat} (hd : decode cc pc = .ok (.ifCond .ge off, 3)) (ht : (pc : Int) + off = (t : Int)) (e : pc + 3 = q) (kt : 0 ≤ u → V x own cc nL t L st σ) (kf : ¬ 0 ≤ u → V x own cc nL q L st σ) : V x own cc nL pc L (.int u :: st) σ :=
  fun hF H locs ls hP hS hl => lv_if_ge hF.1 hF.2.1 hd ht (fun hc => kt hc hF H locs ls hP hS hl) (fun hc => e ▸ kf hc hF H locs ls hP hS hl)
theorem V.icmp_ge {u v : Int32} {off : Int} {t : Nat} (hd : decode cc pc = .ok (.if_icmp .ge off, 3)) (ht : (pc : Int) + off = (t : Int)) (e : pc + 3 = q) (kt : v ≤ u → V x own cc nL t L st σ) (kf : ¬ v ≤ u → V x own cc nL q L st σ) : V x own cc nL pc L (.int v :: .int u :: st) σ :=
  fun hF H locs ls hP hS hl => lv_icmp_ge hF.1 hF.2.1 hd ht (fun hc => kt hc hF H locs ls hP hS hl) (fun hc => e ▸ kf hc hF H locs ls hP hS hl)
theorem V.if_gt {u : Int32} {off : Int} {t : Nat} (hd : decode cc pc = .ok (.ifCond .gt off, 3)) (ht : (pc : Int) + off = (t : Int)) (e : pc + 3 = q) (kt : 0 < u → V x own cc nL t L st σ) (kf : ¬ 0 < u → V x own cc nL q L st σ) : V x own cc nL pc L (.int u :: st) σ :=
  fun hF H locs ls hP hS hl => lv_if_gt hF.1 hF.2.1 hd ht (fun hc => kt hc hF H locs ls hP hS hl) (fun hc => e ▸ kf hc hF H locs ls hP hS hl)
theorem V.icmp_gt {u v : Int32} {off : Int} {t : Nat} (hd : decode cc pc = .ok (.if_icmp .gt off, 3)) (ht : (pc : Int) + off = (t : Int)) (e : pc + 3 = q) (kt : v < u → V x own cc nL t L st σ) (kf : ¬ v < u → V x own cc nL q L st σ) : V x own cc nL pc L (.int v :: .int u :: st) σ :=
  fun hF H locs ls hP hS hl => lv_icmp_gt hF.1 hF.2.1 hd ht (fun hc => kt hc hF H locs ls hP hS hl) (fun hc => e ▸ kf hc hF H locs ls hP hS hl)
theorem V.if_le {u : Int32} {off : Int} {t : Nat} (hd : decode cc pc = .ok (.ifCond .le off, 3)) (ht : (pc : Int) + off = (t : Int)) (e : pc + 3 = q) (kt : u ≤ 0 → V x own cc nL t L st σ) (kf : ¬ u ≤ 0 → V x own cc nL q L st σ) : V x own cc nL pc L (.int u :: st) σ :=
  fun hF H locs ls hP hS hl => lv_if_le hF.1 hF.2.1 hd ht (fun hc => kt hc hF H locs ls hP hS hl) (fun hc => e ▸ kf hc hF H locs ls hP hS hl)
theorem V.icmp_le {u v : Int32} {off : Int} {t : Nat} (hd : decode cc pc = .ok (.if_icmp .le off, 3)) (ht : (pc : Int) + off = (t : Int)) (e : pc + 3 = q) (kt : u ≤ v → V x own cc nL t L st σ) (kf : ¬ u ≤ v → V x own cc nL q L st σ) : V x own cc nL pc L (.int v :: .int u :: st) σ :=
  fun hF H locs ls hP hS hl => lv_icmp_le hF.1 hF.2.1 hd ht (fun hc => kt hc hF H locs ls hP hS hl) (fun hc => e ▸ kf hc hF H locs ls hP hS hl)
theorem V.icmpN_eq {a b : Nat} {off : Int} {t : Nat} (hd : decode cc pc = .ok (.if_icmp .eq off, 3)) (ht : (pc : Int) + off = (t : Int)) (e : pc + 3 = q) (ha : a < 2 ^ 31) (hb : b < 2 ^ 31) (kt : a = b → V x own cc nL t L st σ) (kf : a ≠ b → V x own cc nL q L st σ) : V x own cc nL pc L (.int (nI b) :: .int (nI a) :: st) σ := by
  have L9 := nI_eq ha hb
  exact V.icmp_eq hd ht e (fun h => kt (L9.mp h)) (fun h => kf (fun z => h (L9.mpr z)))
theorem V.ifN_eq {a : Nat} {off : Int} {t : Nat} (hd : decode cc pc = .ok (.ifCond .eq off, 3)) (ht : (pc : Int) + off = (t : Int)) (e : pc + 3 = q) (ha : a < 2 ^ 31) (kt : a = 0 → V x own cc nL t L st σ) (kf : a ≠ 0 → V x own cc nL q L st σ) : V x own cc nL pc L (.int (nI a) :: st) σ := by
  have hb : 0 < 2 ^ 31 := by decide
  have L9 := nI_eq ha hb
  rw [nI_0] at L9
  exact V.if_eq hd ht e (fun h => kt (L9.mp h)) (fun h => kf (fun z => h (L9.mpr z)))
theorem V.icmpN_ne {a b : Nat} {off : Int} {t : Nat} (hd : decode cc pc = .ok (.if_icmp .ne off, 3)) (ht : (pc : Int) + off = (t : Int)) (e : pc + 3 = q) (ha : a < 2 ^ 31) (hb : b < 2 ^ 31) (kt : a ≠ b → V x own cc nL t L st σ) (kf : a = b → V x own cc nL q L st σ) : V x own cc nL pc L (.int (nI b) :: .int (nI a) :: st) σ := by
  have L9 := nI_eq ha hb
  exact V.icmp_ne hd ht e (fun h => kt (fun z => h (L9.mpr z))) (fun h => kf (L9.mp h))
theorem V.ifN_ne {a : Nat} {off : Int} {t : Nat} (hd : decode cc pc = .ok (.ifCond .ne off, 3)) (ht : (pc : Int) + off = (t : Int)) (e : pc + 3 = q) (ha : a < 2 ^ 31) (kt : a ≠ 0 → V x own cc nL t L st σ) (kf : a = 0 → V x own cc nL q L st σ) : V x own cc nL pc L (.int (nI a) :: st) σ := by
  have hb : 0 < 2 ^ 31 := by decide
  have L9 := nI_eq ha hb
  rw [nI_0] at L9
  exact V.if_ne hd ht e (fun h => kt (fun z => h (L9.mpr z))) (fun h => kf (L9.mp h))
theorem V.icmpN_lt {a b : Nat} {off : Int} {t : Nat} (hd : decode cc pc = .ok (.if_icmp .lt off, 3)) (ht : (pc : Int) + off = (t : Int)) (e : pc + 3 = q) (ha : a < 2 ^ 31) (hb : b < 2 ^ 31) (kt : a < b → V x own cc nL t L st σ) (kf : b ≤ a → V x own cc nL q L st σ) : V x own cc nL pc L (.int (nI b) :: .int (nI a) :: st) σ := by
  have L9 := nI_ltI ha hb
  exact V.icmp_lt hd ht e (fun h => kt (L9.mp h)) (fun h => kf (by have h9 : ¬ _ := fun z => h (L9.mpr z); omega))
theorem V.ifN_lt {a : Nat} {off : Int} {t : Nat} (hd : decode cc pc = .ok (.ifCond .lt off, 3)) (ht : (pc : Int) + off = (t : Int)) (e : pc + 3 = q) (ha : a < 2 ^ 31) (kt : a < 0 → V x own cc nL t L st σ) (kf : 0 ≤ a → V x own cc nL q L st σ) : V x own cc nL pc L (.int (nI a) :: st) σ := by
  have hb : 0 < 2 ^ 31 := by decide
  have L9 := nI_ltI ha hb
  rw [nI_0] at L9
  exact V.if_lt hd ht e (fun h => kt (L9.mp h)) (fun h => kf (by have h9 : ¬ _ := fun z => h (L9.mpr z); omega))
theorem V.icmpN_ge {a b : Nat} {off : Int} {t : Nat} (hd : decode cc pc = .ok (.if_icmp .ge off, 3)) (ht : (pc : Int) + off = (t : Int)) (e : pc + 3 = q) (ha : a < 2 ^ 31) (hb : b < 2 ^ 31) (kt : b ≤ a → V x own cc nL t L st σ) (kf : a < b → V x own cc nL q L st σ) : V x own cc nL pc L (.int (nI b) :: .int (nI a) :: st) σ := by
  have L9 := nI_leI hb ha
  exact V.icmp_ge hd ht e (fun h => kt (L9.mp h)) (fun h => kf (by have h9 : ¬ _ := fun z => h (L9.mpr z); omega))
theorem V.ifN_ge {a : Nat} {off : Int} {t : Nat} (hd : decode cc pc = .ok (.ifCond .ge off, 3)) (ht : (pc : Int) + off = (t : Int)) (e : pc + 3 = q) (ha : a < 2 ^ 31) (kt : 0 ≤ a → V x own cc nL t L st σ) (kf : a < 0 → V x own cc nL q L st σ) : V x own cc nL pc L (.int (nI a) :: st) σ := by
  have hb : 0 < 2 ^ 31 := by decide
  have L9 := nI_leI hb ha
  rw [nI_0] at L9
  exact V.if_ge hd ht e (fun h => kt (L9.mp h)) (fun h => kf (by have h9 : ¬ _ := fun z => h (L9.mpr z); omega))
theorem V.icmpN_gt {a b : Nat} {off : Int} {t : Nat} (hd : decode cc pc = .ok (.if_icmp .gt off, 3)) (ht : (pc : Int) + off = (t : Int)) (e : pc + 3 = q) (ha : a < 2 ^ 31) (hb : b < 2 ^ 31) (kt : b < a → V x own cc nL t L st σ) (kf : a ≤ b → V x own cc nL q L st σ) : V x own cc nL pc L (.int (nI b) :: .int (nI a) :: st) σ := by
  have L9 := nI_ltI hb ha
  exact V.icmp_gt hd ht e (fun h => kt (L9.mp h)) (fun h => kf (by have h9 : ¬ _ := fun z => h (L9.mpr z); omega))
theorem V.ifN_gt {a : Nat} {off : Int} {t : Nat} (hd : decode cc pc = .ok (.ifCond .gt off, 3)) (ht : (pc : Int) + off = (t : Int)) (e : pc + 3 = q) (ha : a < 2 ^ 31) (kt : 0 < a → V x own cc nL t L st σ) (kf : a ≤ 0 → V x own cc nL q L st σ) : V x own cc nL pc L (.int (nI a) :: st) σ := by
  have hb : 0 < 2 ^ 31 := by decide
  have L9 := nI_ltI hb ha
  rw [nI_0] at L9
  exact V.if_gt hd ht e (fun h => kt (L9.mp h)) (fun h => kf (by have h9 : ¬ _ := fun z => h (L9.mpr z); omega))
theorem V.icmpN_le {a b : Nat} {off : Int} {t : Nat} (hd : decode cc pc = .ok (.if_icmp .le off, 3)) (ht : (pc : Int) + off = (t : Int)) (e : pc + 3 = q) (ha : a < 2 ^ 31) (hb : b < 2 ^ 31) (kt : a ≤ b → V x own cc nL t L st σ) (kf : b < a → V x own cc nL q L st σ) : V x own cc nL pc L (.int (nI b) :: .int (nI a) :: st) σ := by
  have L9 := nI_leI ha hb
  exact V.icmp_le hd ht e (fun h => kt (L9.mp h)) (fun h => kf (by have h9 : ¬ _ := fun z => h (L9.mpr z); omega))
theorem V.ifN_le {a : Nat} {off : Int} {t : Nat} (hd : decode cc pc = .ok (.ifCond .le off, 3)) (ht : (pc : Int) + off = (t : Int)) (e : pc + 3 = q) (ha : a < 2 ^ 31) (kt : a ≤ 0 → V x own cc nL t L st σ) (kf : 0 < a → V x own cc nL q L st σ) : V x own cc nL pc L (.int (nI a) :: st) σ := by
  have hb : 0 < 2 ^ 31 := by decide
  have L9 := nI_leI ha hb
  rw [nI_0] at L9
  exact V.if_le hd ht e (fun h => kt (L9.mp h)) (fun h => kf (by have h9 : ¬ _ := fun z => h (L9.mpr z); omega))
theorem wl_hts (hF : FX x own cc nL) {w : Cond} (h : w ∈ WL) : w.before (xa x) (xs x) = true := hF.2.2.2.2.1 w h
theorem world_arr {G : Gx} {o n : Nat} {b : Bool} (h : shp o = .inl (b, n)) (ho : o < NO) : (world G σ)[o]? = some (G.2.2.2 o, .inl (if b = true then G.2.2.1 else G.2.1, n, .inl (σ o))) := by rw [world_at ho, ent_arr h]
theorem world_obj {G : Gx} {o ci : Nat} {ks : List (Option Nat)} (h : shp o = .inr (ci, ks)) (ho : o < NO) : (world G σ)[o]? = some (G.2.2.2 o, .inr (ci, fvs G.2.2.2 (σ o) 0 ks)) := by rw [world_at ho, ent_obj h]
theorem world_put {G : Gx} {o ci k : Nat} {v : Int32} {ks : List (Option Nat)} (h : shp o = .inr (ci, ks)) (ho : o < NO) (hk : ks[k]? = some none) : (world G σ).set o (G.2.2.2 o, .inr (ci, (fvs G.2.2.2 (σ o) 0 ks).set k (.int v))) = world G (w2 σ o k v) := by
  unfold w2
  apply world_set ho
  rw [ent_obj h, so_at, fvs_set G.2.2.2 (σ o) hk]
theorem world_ast {G : Gx} {o n : Nat} {b : Bool} {f : Nat → Int32} (h : shp o = .inl (b, n)) (ho : o < NO) : (world G σ).set o (G.2.2.2 o, .inl (if b = true then G.2.2.1 else G.2.1, n, .inl f)) = world G (so σ o f) := by
  apply world_set ho
  rw [ent_arr h, so_at]
theorem V.getI {o idx ci k : Nat} {ks : List (Option Nat)} {v : Int32} (hd : decode cc pc = .ok (.getfield idx, 3)) (e : pc + 3 = q) (hl : FLk own idx ci k) (hs : shp o = .inr (ci, ks)) (ho : o < NO) (hk : ks[k]? = some none) (hv : σ o k = v) (h : V x own cc nL q L (.int v :: st) σ) : V x own cc nL pc L (.ref o :: st) σ := by
  intro hF H locs ls hP hS hl1
  subst hv
  obtain ⟨C, T, N, h1, h2, h3, h4⟩ := hl
  exact va_get (C := C) (T := T) (N := N) (v := .int (σ o k)) hF.1 hF.2.1 hF.2.2.2.2.1 h3 hF.2.2.2.1 hF.2.2.2.2.2.1 hP o (world_obj hs ho) h1 k h2 (wl_hts hF h4) (fun _ h9 => h9) (by rw [fvs_at, hk]; simp) hd (e ▸ h hF H locs ls hP hS hl1)
theorem V.getR {o idx ci k j : Nat} {ks : List (Option Nat)} (hd : decode cc pc = .ok (.getfield idx, 3)) (e : pc + 3 = q) (hl : FLk own idx ci k) (hs : shp o = .inr (ci, ks)) (ho : o < NO) (hk : ks[k]? = some (some j)) (h : V x own cc nL q L (.ref j :: st) σ) : V x own cc nL pc L (.ref o :: st) σ := by
  intro hF H locs ls hP hS hl1
  obtain ⟨C, T, N, h1, h2, h3, h4⟩ := hl
  exact va_get (C := C) (T := T) (N := N) (v := .ref ((xG x).2.2.2 j)) hF.1 hF.2.1 hF.2.2.2.2.1 h3 hF.2.2.2.1 hF.2.2.2.2.2.1 hP o (world_obj hs ho) h1 k h2 (wl_hts hF h4) (fun _ h9 => h9) (by rw [fvs_at, hk]; simp) hd (e ▸ h hF H locs ls hP hS hl1)
theorem V.putI {o idx ci k : Nat} {ks : List (Option Nat)} {v : Int32} {ty : FieldType} (hd : decode cc pc = .ok (.putfield idx, 3)) (e : pc + 3 = q) (hl : FPk own idx ci k ty) (hs : shp o = .inr (ci, ks)) (ho : o < NO) (hk : ks[k]? = some none) (hn : narrow ty (.int v) = .int v) (hf : fits ty (.int v) = true) (h : V x own cc nL q L st (w2 σ o k v)) : V x own cc nL pc L (.int v :: .ref o :: st) σ := by
  intro hF H locs ls hP hS hl1
  obtain ⟨C, T, N, h1, h2, h3, h4, h5, h6, ⟨ty0, h7⟩, h8⟩ := hl
  refine va_put (C := C) (T := T) (N := N) (v := .int v) (ty := ty) hF.1 hF.2.1 hF.2.2.2.2.1 h3 ty0 h7 h8 hF.2.2.2.1 hF.2.2.2.2.2.1 hP (world_D hF.2.2.2.2.2.2.1) hS o (world_obj hs ho) h1 k h2 (wl_hts hF h4) (fun _ h9 => h9) h5 h6 hn hf (by rw [fvs_len]; exact (List.getElem?_eq_some_iff.mp hk).1) hd (fun H1 locs1 hP1 hD1 hS1 => ?_)
  rw [world_put hs ho hk] at hP1
  exact e ▸ h hF H1 locs1 ls hP1 hS1 hl1
theorem V.getIn {o idx ci k : Nat} {ks : List (Option Nat)} {v : Int32} (hd : decode cc pc = .ok (.getfield idx, 3)) (e : pc + 3 = q) (hl : FLn own idx ci k) (hs : shp o = .inr (ci, ks)) (ho : o < NO) (hk : ks[k]? = some none) (hv : σ o k = v) (h : V x own cc nL q L (.int v :: st) σ) : V x own cc nL pc L (.ref o :: st) σ := by
  intro hF H locs ls hP hS hl1
  subst hv
  obtain ⟨rfl, C, T, N, h1, h2, h3, h4⟩ := hl
  exact va_getN (C := C) (T := T) (N := N) (v := .int (σ o k)) hF.1 hF.2.1 hF.2.2.2.2.1 h3 hF.2.2.2.1 hF.2.2.2.2.2.1 hP o (world_obj hs ho) h1 k h2 (va_Nw.use rfl (hF.2.2.2.2.2.2.2.1.1 _ h4)) (fun _ h9 => h9) (by rw [fvs_at, hk]; simp) hd (e ▸ h hF H locs ls hP hS hl1)
theorem V.getRn {o idx ci k j : Nat} {ks : List (Option Nat)} (hd : decode cc pc = .ok (.getfield idx, 3)) (e : pc + 3 = q) (hl : FLn own idx ci k) (hs : shp o = .inr (ci, ks)) (ho : o < NO) (hk : ks[k]? = some (some j)) (h : V x own cc nL q L (.ref j :: st) σ) : V x own cc nL pc L (.ref o :: st) σ := by
  intro hF H locs ls hP hS hl1
  obtain ⟨rfl, C, T, N, h1, h2, h3, h4⟩ := hl
  exact va_getN (C := C) (T := T) (N := N) (v := .ref ((xG x).2.2.2 j)) hF.1 hF.2.1 hF.2.2.2.2.1 h3 hF.2.2.2.1 hF.2.2.2.2.2.1 hP o (world_obj hs ho) h1 k h2 (va_Nw.use rfl (hF.2.2.2.2.2.2.2.1.1 _ h4)) (fun _ h9 => h9) (by rw [fvs_at, hk]; simp) hd (e ▸ h hF H locs ls hP hS hl1)
theorem V.putIn {o idx ci k : Nat} {ks : List (Option Nat)} {v : Int32} {ty : FieldType} (hd : decode cc pc = .ok (.putfield idx, 3)) (e : pc + 3 = q) (hl : FPn own idx ci k ty) (hs : shp o = .inr (ci, ks)) (ho : o < NO) (hk : ks[k]? = some none) (hn : narrow ty (.int v) = .int v) (hf : fits ty (.int v) = true) (h : V x own cc nL q L st (w2 σ o k v)) : V x own cc nL pc L (.int v :: .ref o :: st) σ := by
  intro hF H locs ls hP hS hl1
  obtain ⟨rfl, C, T, N, h1, h2, h3, h4, h5, h6, ⟨ty0, h7⟩, h8⟩ := hl
  refine va_putN (C := C) (T := T) (N := N) (v := .int v) (ty := ty) hF.1 hF.2.1 hF.2.2.2.2.1 h3 ty0 h7 h8 hF.2.2.2.1 hF.2.2.2.2.2.1 hP (world_D hF.2.2.2.2.2.2.1) hS o (world_obj hs ho) h1 k h2 (va_Nw.use rfl (hF.2.2.2.2.2.2.2.1.1 _ h4)) (fun _ h9 => h9) h5 h6 hn hf (by rw [fvs_len]; exact (List.getElem?_eq_some_iff.mp hk).1) hd (fun H1 locs1 hP1 hD1 hS1 => ?_)
  rw [world_put hs ho hk] at hP1
  exact e ▸ h hF H1 locs1 ls hP1 hS1 hl1
theorem V.iald {o n : Nat} {i v : Int32} (hd : decode cc pc = .ok (.iaload, 1)) (e : pc + 1 = q) (hs : shp o = .inl (false, n)) (ho : o < NO) (hi : vp_in i n) (hv : σ o i.toNatClampNeg = v) (h : V x own cc nL q L (.int v :: st) σ) : V x own cc nL pc L (.int i :: .ref o :: st) σ := by
  intro hF H locs ls hP hS hl1
  subst hv
  exact va_iald hF.1 hF.2.1 hF.2.2.2.2.2.1 hP o 0 (world_arr hs ho) rfl hi hd (e ▸ h hF H locs ls hP hS hl1)
theorem V.iast {o n : Nat} {i v : Int32} (hd : decode cc pc = .ok (.iastore, 1)) (e : pc + 1 = q) (hs : shp o = .inl (false, n)) (ho : o < NO) (hi : vp_in i n) (h : V x own cc nL q L st (w2 σ o i.toNatClampNeg v)) : V x own cc nL pc L (.int v :: .int i :: .ref o :: st) σ := by
  intro hF H locs ls hP hS hl1
  refine va_iast hF.1 hF.2.1 hF.2.2.2.2.2.1 hP (world_D hF.2.2.2.2.2.2.1) hS o 0 (world_arr hs ho) rfl hi hd (fun H1 locs1 hP1 hD1 hS1 => ?_)
  rw [world_ast hs ho] at hP1
  exact e ▸ h hF H1 locs1 ls hP1 hS1 hl1
theorem V.ialdN {o n i : Nat} {v : Int32} (hd : decode cc pc = .ok (.iaload, 1)) (e : pc + 1 = q) (hs : shp o = .inl (false, n)) (ho : o < NO) (hi : i < n) (hn : n < 100) (hv : σ o i = v) (h : V x own cc nL q L (.int v :: st) σ) : V x own cc nL pc L (.int (nI i) :: .ref o :: st) σ :=
  V.iald hd e hs ho (vp_in_nI hi (by omega)) (by rw [nI_clamp (by omega)]; exact hv) h
theorem V.iastN {o n i : Nat} {v : Int32} (hd : decode cc pc = .ok (.iastore, 1)) (e : pc + 1 = q) (hs : shp o = .inl (false, n)) (ho : o < NO) (hi : i < n) (hn : n < 100) (h : V x own cc nL q L st (w2 σ o i v)) : V x own cc nL pc L (.int v :: .int (nI i) :: .ref o :: st) σ :=
  V.iast hd e hs ho (vp_in_nI hi (by omega)) (by rw [nI_clamp (by omega)]; exact h)
theorem V.caldN {o n i : Nat} {v : Int32} (hd : decode cc pc = .ok (.caload, 1)) (e : pc + 1 = q) (hs : shp o = .inl (true, n)) (ho : o < NO) (hi : i < n) (hn : n < 100) (hv : σ o i = v) (h : V x own cc nL q L (.int v :: st) σ) : V x own cc nL pc L (.int (nI i) :: .ref o :: st) σ := by
  intro hF H locs ls hP hS hl1
  subst hv
  have e2 : (nI i).toNatClampNeg = i := nI_clamp (by omega)
  have h2 := e ▸ h hF H locs ls hP hS hl1
  rw [← e2] at h2
  exact va_cald hF.1 hF.2.1 hF.2.2.2.2.2.1 hP o 1 (world_arr hs ho) rfl (vp_in_nI hi (by omega)) hd h2
theorem V.castN {o n i : Nat} {v : Int32} (hd : decode cc pc = .ok (.castore, 1)) (e : pc + 1 = q) (hs : shp o = .inl (true, n)) (ho : o < NO) (hi : i < n) (hn : n < 100) (h : V x own cc nL q L st (w2 σ o i (vp_nar .char v))) : V x own cc nL pc L (.int v :: .int (nI i) :: .ref o :: st) σ := by
  intro hF H locs ls hP hS hl1
  have e2 : (nI i).toNatClampNeg = i := nI_clamp (by omega)
  refine va_cast hF.1 hF.2.1 hF.2.2.2.2.2.1 hP (world_D hF.2.2.2.2.2.2.1) hS o 1 (world_arr hs ho) rfl (vp_in_nI hi (by omega)) hd (fun H1 locs1 hP1 hD1 hS1 => ?_)
  rw [world_ast hs ho, e2] at hP1
  exact e ▸ h hF H1 locs1 ls hP1 hS1 hl1
theorem V.alen {o n : Nat} {b : Bool} (hd : decode cc pc = .ok (.arraylength, 1)) (e : pc + 1 = q) (hs : shp o = .inl (b, n)) (ho : o < NO) (h : V x own cc nL q L (.int (nI n) :: st) σ) : V x own cc nL pc L (.ref o :: st) σ := by
  intro hF H locs ls hP hS hl1
  cases b with
  | false => exact va_alen hF.1 hF.2.1 hF.2.2.2.2.2.1 hP o 0 (world_arr hs ho) (ty := .int) rfl rfl hd (e ▸ h hF H locs ls hP hS hl1)
  | true => exact va_alen hF.1 hF.2.1 hF.2.2.2.2.2.1 hP o 1 (world_arr hs ho) (ty := .char) rfl rfl hd (e ▸ h hF H locs ls hP hS hl1)
theorem V.min {idx : Nat} {a b v : Int32} (hd : decode cc pc = .ok (.invokestatic idx, 3)) (e : pc + 3 = q) (hk : LkM own idx) (hR : Rm x 0) (hc : ((st.map (abv (xG x).2.2.2)).map fun v => v.category).sum ≤ 8) (hv : (if b < a then b else a) = v) (h : V x own cc nL q L (.int v :: st) σ) : V x own cc nL pc L (.int b :: .int a :: st) σ := by
  intro hF H locs ls hP hS hl1
  subst hv
  exact va_mmin hF.1 hF.2.1 (hF.2.2.1.trans hl1.1.symm) hF.2.2.2.1 (wl_hts hF hk.1) (wl_hts hF hk.2.1) (wl_hts hF hk.2.2.1) (wl_hts hF hk.2.2.2) hR.1 (by have := hR.2; omega) hF.2.2.2.2.2.2.2.2.2.1 hF.2.2.2.2.2.2.2.2.2.2 hd (e ▸ h hF H locs ls hP hS hl1)
theorem V.max {idx : Nat} {a b v : Int32} (hd : decode cc pc = .ok (.invokestatic idx, 3)) (e : pc + 3 = q) (hk : LkX own idx) (hR : Rm x 0) (hc : ((st.map (abv (xG x).2.2.2)).map fun v => v.category).sum ≤ 8) (hv : (if a < b then b else a) = v) (h : V x own cc nL q L (.int v :: st) σ) : V x own cc nL pc L (.int b :: .int a :: st) σ := by
  intro hF H locs ls hP hS hl1
  subst hv
  exact va_mmax hF.1 hF.2.1 (hF.2.2.1.trans hl1.1.symm) hF.2.2.2.1 (wl_hts hF hk.1) (wl_hts hF hk.2.1) (wl_hts hF hk.2.2.1) (wl_hts hF hk.2.2.2) hR.1 (by have := hR.2; omega) hF.2.2.2.2.2.2.2.2.2.1 hF.2.2.2.2.2.2.2.2.2.2 hd (e ▸ h hF H locs ls hP hS hl1)
theorem nfw : nativeFrameWords "java/lang/System" "arraycopy" 5 = 7 := by decide +kernel
/-- the six first places of a row, from the beginning -/
theorem V.copy6 {idx o0 o1 : Nat} (hd : decode cc pc = .ok (.invokestatic idx, 3)) (e : pc + 3 = q) (hk : LkA own idx) (hR : Rm x 0) (hc : ((st.map (abv (xG x).2.2.2)).map fun v => v.category).sum ≤ 8) (hs0 : shp o0 = .inl (false, 6)) (ho0 : o0 < NO) (hs1 : shp o1 = .inl (false, 6)) (ho1 : o1 < NO)
    (h : V x own cc nL q L st (so σ o1 (fun k => if k < 6 then σ o0 k else σ o1 k))) : V x own cc nL pc L (.int (nI 6) :: .int (nI 0) :: .ref o1 :: .int (nI 0) :: .ref o0 :: st) σ := by
  intro hF H locs ls hP hS hl1
  refine va_copyi (ty := .int) hF.1 hF.2.1 (hF.2.2.1.trans hl1.1.symm) hF.2.2.2.1 (wl_hts hF hk.1) (wl_hts hF hk.2.1) (wl_hts hF hk.2.2.1) (wl_hts hF hk.2.2.2) hF.2.2.2.2.2.1 hP (world_D hF.2.2.2.2.2.2.1) hS o0 o1 0 0 (world_arr hs0 ho0) (world_arr hs1 ho1) rfl rfl rfl (by decide +kernel) (by decide +kernel) (by decide +kernel) (by decide +kernel) (by decide +kernel) (fun i hi => rfl) hR.1 (by have := hR.2; rw [nfw]; omega) hd (fun H1 locs1 hP1 hD1 hS1 => ?_)
  have e1 : va_cpy (σ o0) (σ o1) (nI 0).toNatClampNeg (nI 0).toNatClampNeg (nI 6).toNatClampNeg = fun k => if k < 6 then σ o0 k else σ o1 k := by
    funext k
    have e0 : (nI 0).toNatClampNeg = 0 := by decide +kernel
    have e6 : (nI 6).toNatClampNeg = 6 := by decide +kernel
    rw [e0, e6]
    unfold va_cpy
    by_cases hk6 : k < 6
    · rw [if_pos ⟨Nat.zero_le _, by omega⟩, if_pos hk6]; simp
    · rw [if_neg (fun z => hk6 (by omega)), if_neg hk6]
  rw [world_ast hs1 ho1, e1] at hP1
  exact e ▸ h hF H1 locs1 ls hP1 hS1 hl1
end VV
/-! a method's body, and its ends -/
def IsB (x : Cx) (ret : Option FieldType) (d : Nat) (post : Option Value → Sg → Prop) : Prop :=
  xR x = rmD d ∧ xQ x = MQ (xb x) (QC (xG x) post (xs x).heap.size) (xa x) (xs x) 0 0 (xA x) ∧ xA x = AW (xG x) (xs x).heap.size ∧ xk x = 0 ∧ xn x = 0 ∧ (xM x).sig.returnType = ret ∧ (xM x).locks = false
theorem IsB.rm {x : Cx} {ret : Option FieldType} {d d' : Nat} {post : Option Value → Sg → Prop} (h : IsB x ret d post) (hd : d' < d) : Rm x d' := by
  unfold Rm; rw [h.1]; exact ⟨hd, Nat.mul_le_mul_left 64 hd⟩
section VR
variable {x : Cx} {own : String} {cc : ByteArray} {nL pc : Nat} {L : List (Option Value)} {σ : Sg} {d : Nat} {post : Option Value → Sg → Prop}
theorem V.ret_int {ty : FieldType} {v : Int32} (hB : IsB x (some ty) d post) (hd : decode cc pc = .ok (.ireturn, 1)) (hn : narrow ty (.int v) = .int v) (hp : post (some (.int v)) σ) : V x own cc nL pc L [.int v] σ := by
  intro hF H locs ls hP hS hl1
  obtain ⟨hR, hQ, hA, hk, hn0, hr, hlk⟩ := hB
  rw [hQ, hk, hn0]
  refine W.zret (v := v) hF.1 hF.2.1 hr hn (fun t ht hW => ⟨⟨some (.int v), σ, rfl, hp, by rw [ht]; exact hP⟩, ?_⟩) hS.2.2 hd hlk
  have h1 := hS.F ht
  rw [hA] at h1
  exact h1
theorem V.ret_v (hB : IsB x none d post) (hd : decode cc pc = .ok (.return_, 1)) (hp : post none σ) : V x own cc nL pc L [] σ := by
  intro hF H locs ls hP hS hl1
  obtain ⟨hR, hQ, hA, hk, hn0, hr, hlk⟩ := hB
  rw [hQ, hk, hn0]
  refine W.vret hF.1 hF.2.1 hr (fun t ht hW => ⟨⟨none, σ, rfl, hp, by rw [ht]; exact hP⟩, ?_⟩) hS.2.2 hd hlk
  have h1 := hS.F ht
  rw [hA] at h1
  exact h1
end VR
theorem lva1 : ∀ (vs : List Value) (i : Nat), (∀ v ∈ vs, v.category = 1) → ∀ (k : Nat) (v : Value), vs[k]? = some v → (i + k, v) ∈ lv_args i vs
  | [], i, hc, k, v, h => by simp at h
  | u :: vs, i, hc, 0, v, h => by
    simp at h; subst h
    show (i + 0, u) ∈ (i, u) :: _
    exact List.mem_cons_self
  | u :: vs, i, hc, k + 1, v, h => by
    have hu : u.category = 1 := hc u List.mem_cons_self
    show (i + (k + 1), v) ∈ (i, u) :: lv_args (if u.category = 2 then i + 2 else i + 1) vs
    rw [if_neg (by omega)]
    have := lva1 vs (i + 1) (fun w hw => hc w (List.mem_cons_of_mem _ hw)) k v (by simpa using h)
    rw [show i + (k + 1) = i + 1 + k from by omega]
    exact List.mem_cons_of_mem _ this
theorem lvO_entry (ad : Nat → Nat) (av : List Value) (nL : Nat) (hc : ∀ v ∈ av, v.category = 1) (hn : av.length ≤ nL) :
    lvO ad ((lg_sl (av.map (abv ad)) ++ List.replicate (nL - (lg_sl (av.map (abv ad))).length) Slot.unset).toArray) nL (av.map some ++ List.replicate (nL - av.length) none) := by
  have hc' : ∀ v ∈ av.map (abv ad), v.category = 1 := by
    intro v hv
    obtain ⟨u, hu, rfl⟩ := List.mem_map.mp hv
    rw [abv_cat]; exact hc u hu
  have hlen : (lg_sl (av.map (abv ad))).length ≤ nL := by
    have e : ∀ (vs : List Value), (∀ v ∈ vs, v.category = 1) → (lg_sl vs).length = vs.length := by
      intro vs
      induction vs with
      | nil => intro _; rfl
      | cons u vs ih =>
        intro h
        have hu : ¬ u.category = 2 := by have := h u List.mem_cons_self; omega
        show (List.flatMap _ (u :: vs)).length = _
        rw [List.flatMap_cons, if_neg hu, List.length_append]
        have := ih (fun w hw => h w (List.mem_cons_of_mem _ hw))
        unfold lg_sl at this
        rw [this]; simp; omega
    rw [e _ hc', List.length_map]; exact hn
  obtain ⟨h1, h2, h3⟩ := lv_entry (av.map (abv ad)) (n := nL) hlen
  refine ⟨h1, by simp; omega, h2, fun k v hk => ?_⟩
  have hk2 : k < av.length := by
    rcases Nat.lt_or_ge k av.length with z | z
    · exact z
    · rw [List.getElem?_append_right (by rw [List.length_map]; exact z)] at hk
      have := List.mem_of_getElem? hk
      rw [List.mem_replicate] at this
      cases this.2
  rw [List.getElem?_append_left (by rw [List.length_map]; exact hk2), List.getElem?_map] at hk
  cases hv : av[k]? with
  | none => rw [hv] at hk; cases hk
  | some u =>
    rw [hv] at hk
    have huv : u = v := by simpa using hk
    subst huv
    have := lva1 (av.map (abv ad)) 0 hc' k (abv ad u) (by rw [List.getElem?_map, hv]; rfl)
    rw [Nat.zero_add] at this
    exact ⟨h3 _ this, hc u (List.mem_of_getElem? hv)⟩
/-- a contract out of a walk of the body -/
theorem Con.of {d : Nat} {y : MethodName} {cc : ByteArray} {nL : Nat} {ret : Option FieldType} {av : List Value} {σ : Sg} {post : Option Value → Sg → Prop} (hy : plainName y.cls = true) (hc : ∀ v ∈ av, v.category = 1) (hn : av.length ≤ nL)
    (body : ∀ x : Cx, IsB x ret d post → V x y.cls cc nL 0 (av.map some ++ List.replicate (nL - av.length) none) [] σ) : Con d y cc nL ret av σ post := by
  intro l G sz
  refine Met.ofW (cc := cc) (maxL := nL) (ret := ret) hy rfl ?_
  intro p e s m args below meth c s₁ B hml hv
  obtain ⟨rfl, hsz, hP, hK, hD, hSF⟩ := hv
  subst hsz
  have hts := atoms_spec (ws := Cond.code y cc nL ret :: WL) B.pre
  have hA : va_D (AW G s.heap.size) (world G σ) := AW_D hD
  have hw := body (p, l, e, rmD d, s, m, (av.map (abv G.2.2.2)).toArray, below, meth, c, 0, 0, MQ below (QC G post s.heap.size) (av.map (abv G.2.2.2)).toArray s 0 0 (AW G s.heap.size), AW G s.heap.size, G) ⟨rfl, rfl, rfl, rfl, rfl, B.returns, B.notSynchronized⟩
  have h2 := hw ⟨B.exec, B.bytes, hml, findClass_of_methodNamed B.named, fun w h => hts w (List.mem_cons_of_mem _ h), hK, world_D hA, hSF, fun q h => Or.inr h, Nat.le_refl 0, Nat.le_refl 0⟩ s.heap [] _ hP va_S.rf (lvO_entry G.2.2.2 av nL hc hn)
  rw [lg_entry_eq]
  exact h2
theorem PC_blind {G : Gx} {av : List Value} {σ : Sg} {sz : Nat} : FrameBlind (PC G av σ sz) := by
  intro a U g mk h
  obtain ⟨h1, h2, h3, h4, h5, h6⟩ := h
  exact ⟨h1, h2, h3, va_K.moved (u := U) (U := U.calling g mk a) (Vm.Alike.refl U.vm) h4, h5, SF_same h6 rfl rfl⟩
theorem Con.weaken {d : Nat} {y : MethodName} {cc : ByteArray} {nL : Nat} {ret : Option FieldType} {av : List Value} {σ : Sg} {p1 p2 : Option Value → Sg → Prop} (h : Con d y cc nL ret av σ p1) (hp : ∀ r τ, p1 r τ → p2 r τ) : Con d y cc nL ret av σ p2 := by
  have e : p2 = fun r τ => p1 r τ ∨ p2 r τ := by
    funext r τ
    exact propext ⟨Or.inr, fun z => z.elim (hp r τ) id⟩
  intro l G sz
  have h1 := h l G sz
  intro p ep ha hc hk s m args below hf hfit hheap happ
  obtain ⟨k, o, q1, q2, q3, ⟨⟨⟨r, τ, w1, w2', w3⟩, w4⟩, w5⟩⟩ := h1 p ep ha hc hk s m args below hf hfit hheap happ
  exact ⟨k, o, q1, q2, q3, ⟨⟨⟨r, τ, w1, hp r τ w2', w3⟩, w4⟩, w5⟩⟩
section VC
variable {x : Cx} {own : String} {cc : ByteArray} {nL pc q : Nat} {L : List (Option Value)} {σ : Sg} {y : MethodName} {c2 : ByteArray} {n2 idx d n : Nat} {ret : Option FieldType} {As rest st : List Value} {post : Option Value → Sg → Prop}
theorem call_go (hF : FX x own cc nL) (hC : Con d y c2 n2 ret As σ post) {H : Heap} {locs : List Loc} {ls : Array Slot} {a : Array Value} {st0 : List Value} (hS : va_S (xA x) (xs x).heap H locs) (hl : lvO (xG x).2.2.2 ls nL L)
    (hr : va_Run (xp x) (xl x) (xe x) (xR x) (xs x) (xm x) (xa x) (xb x) (xM x) (xc x) H locs (xk x) (xn x) 0 0 (F0 (xm x) pc ls st0) (rest.map (abv (xG x).2.2.2)) (QC (xG x) post H.size a) (AW (xG x) H.size))
    (kk : ∀ (r : Option Value) (τ : Sg), post r τ → V x own cc nL (pc + 3) L (r.toList ++ rest) τ) : W (xp x) (xl x) (xe x) (xR x) (xs x) (xm x) (xa x) (xb x) (xM x) (xc x) H locs (xk x) (xn x) (xQ x) (F0 (xm x) pc ls st0) := by
  intro T hT X
  obtain ⟨v, st₀, t, T', L1, h0, X', hL, e1, e2, ⟨⟨r, τ, hv, hp, hW⟩, hz, hk⟩, st⟩ := hr T hT X
  have hAs := AW_sub (sz := H.size) hF.2.2.2.2.2.2.1 hF.2.2.2.2.2.2.2.2.1 hS.1
  cases hv
  rw [h0] at hz hk
  have h3 := kk r τ hp hF T'.heap (locs ++ L1) ls (by rw [e1]; exact hW) ⟨Nat.le_trans hS.1 (by rw [e1]; exact hz), fun z h1 h2 => by rw [e1, hk z (Nat.lt_of_lt_of_le h1 hS.1) (fun w => h2 (hAs z w))]; exact hS.2.1 z h1 h2, fun z hq => by
      rcases List.mem_append.mp hq with h | h
      · exact hS.2.2 z h
      · exact hAs _ (hL z h)⟩ hl
  have e3 : (r.toList ++ rest).map (abv (xG x).2.2.2) = (r.map (abv (xG x).2.2.2)).toList ++ rest.map (abv (xG x).2.2.2) := by cases r <;> simp
  rw [e3] at h3
  obtain ⟨t2, a1, b1⟩ := h3 T' rfl X'
  exact ⟨t2, st t2 a1, b1⟩
theorem call_pc (hF : FX x own cc nL) {H : Heap} {locs : List Loc} (hP : va_P (xG x).1 vwCl (world (xG x) σ) H) (hS : va_S (xA x) (xs x).heap H locs) : ∀ U : State, U.heap = H → (xs x).WarmedH U.vm → PC (xG x) As σ H.size (As.map (abv (xG x).2.2.2)).toArray U := by
  intro U hU hW
  have hAs := AW_sub (sz := H.size) hF.2.2.2.2.2.2.1 hF.2.2.2.2.2.2.2.2.1 hS.1
  exact ⟨rfl, by rw [hU], by rw [hU]; exact hP, va_K.moved hW.alike hF.2.2.2.2.2.1, (world_D hF.2.2.2.2.2.2.1).weaken (fun _ _ _ _ => trivial), SF_call hF.2.2.2.2.2.2.2.1 hW hS hU hAs⟩
theorem V.callV {o ci : Nat} {ks : List (Option Nat)} {T : u_T} {N : Nat} (hd : decode cc pc = .ok (.invokevirtual idx, 3)) (hk : LkV own idx y c2 n2 ret n) (hs : shp o = .inr (ci, ks)) (ho : o < NO) (hci : vwCl[ci]? = some (y.cls, T, N)) (hn : As.length = n) (hR : Rm x d)
    (hcat : ((rest.map (abv (xG x).2.2.2)).map fun v => v.category).sum ≤ 8) (hst : st = As.reverse ++ .ref o :: rest) (hC : Con d y c2 n2 ret (.ref o :: As) σ post)
    (kk : ∀ (r : Option Value) (τ : Sg), post r τ → V x own cc nL (pc + 3) L (r.toList ++ rest) τ) : V x own cc nL pc L st σ := by
  intro hF H locs ls hP hS hl
  subst hst
  obtain ⟨k1, k2, k3, k4, k5, k6, k7, k8, k9⟩ := hk
  have hG : GoodIn WL (wsV own idx y.cls y (Cond.code y c2 n2 ret :: WL)) := wl_good (fun _ h => h) (fun w hw => by
    unfold wsV at hw
    rcases List.mem_append.mp hw with h | h
    · rcases List.mem_cons.mp h with rfl | h
      · exact k1
      rcases List.mem_cons.mp h with rfl | h
      · exact k2
      rcases List.mem_cons.mp h with rfl | h
      · exact k3
      rcases List.mem_cons.mp h with rfl | h
      · exact k4
      cases h
    · rcases List.mem_cons.mp h with rfl | h
      · exact k5
      · exact h)
  have hcw := cwV (R := xR x) (args := xa x) (s := xs x) (rm := rmD d) (mc := 0) (ms := 0) n hF.2.2.2.2.1 hG rfl rfl rfl ⟨rfl, k7, k8, k9⟩ ⟨hR.1, by have := hR.2; show 8 + (n2 + 11) + 64 * d ≤ _; omega⟩
  refine call_go hF hC hS hl (va_runV (As := As.map (abv (xG x).2.2.2)) (b := (xG x).2.2.2 o) (rest := rest.map (abv (xG x).2.2.2)) ⟨hF.1, hF.2.1, hF.2.2.1, hF.2.2.2.1, hF.2.2.2.2.1⟩ (hC (xl x) (xG x) H.size) hcw ⟨PC_blind, va_recv hF.2.2.2.2.2.1 hP hci (world_obj hs ho), call_pc hF hP hS⟩ rfl (by rw [List.length_map]; exact hn) hl.1 ?_ (lv_room hcat) hd ⟨hF.2.2.2.2.2.2.2.2.2.1, hF.2.2.2.2.2.2.2.2.2.2⟩) kk
  show (As.reverse ++ .ref o :: rest).map (abv (xG x).2.2.2) = _
  rw [List.map_append, List.map_reverse]; rfl
theorem V.callS (hd : decode cc pc = .ok (.invokestatic idx, 3)) (hk : LkS own idx y c2 n2 ret n) (hn : As.length = n) (hR : Rm x d)
    (hcat : ((rest.map (abv (xG x).2.2.2)).map fun v => v.category).sum ≤ 8) (hst : st = As.reverse ++ rest) (hC : Con d y c2 n2 ret As σ post)
    (kk : ∀ (r : Option Value) (τ : Sg), post r τ → V x own cc nL (pc + 3) L (r.toList ++ rest) τ) : V x own cc nL pc L st σ := by
  intro hF H locs ls hP hS hl
  subst hst
  obtain ⟨k1, k2, k4, k5, k6, k7, k8, k9⟩ := hk
  have hG : GoodIn WL (va_wsS own idx y (Cond.code y c2 n2 ret :: WL)) := wl_good (fun _ h => h) (fun w hw => by
    unfold va_wsS at hw
    rcases List.mem_append.mp hw with h | h
    · rcases List.mem_cons.mp h with rfl | h
      · exact k1
      rcases List.mem_cons.mp h with rfl | h
      · exact k2
      rcases List.mem_cons.mp h with rfl | h
      · exact k4
      cases h
    · rcases List.mem_cons.mp h with rfl | h
      · exact k5
      · exact h)
  have hcw := va_cwS (R := xR x) (args := xa x) (s := xs x) (rm := rmD d) (mc := 0) (ms := 0) n hF.2.2.2.2.1 hG rfl rfl rfl ⟨k7, k8, k9⟩ ⟨hR.1, by have := hR.2; show 8 + (n2 + 11) + 64 * d ≤ _; omega⟩
  refine call_go hF hC hS hl (va_runS (As := As.map (abv (xG x).2.2.2)) (rest := rest.map (abv (xG x).2.2.2)) ⟨hF.1, hF.2.1, hF.2.2.1, hF.2.2.2.1, hF.2.2.2.2.1⟩ (hC (xl x) (xG x) H.size) hcw ⟨PC_blind, call_pc hF hP hS⟩ rfl (by rw [List.length_map]; exact hn) hl.1 ?_ (lv_room hcat) hd ⟨hF.2.2.2.2.2.2.2.2.2.1, hF.2.2.2.2.2.2.2.2.2.2⟩) kk
  show (As.reverse ++ rest).map (abv (xG x).2.2.2) = _
  rw [List.map_append, List.map_reverse]
theorem V.cvi0 {pi : Int32 → Sg → Prop} {o ci : Nat} {ks : List (Option Nat)} {T : u_T} {N : Nat} (hd : decode cc pc = .ok (.invokevirtual idx, 3)) (e : pc + 3 = q) (hk : LkV own idx y c2 n2 ret 0) (hs : shp o = .inr (ci, ks)) (ho : o < NO) (hci : vwCl[ci]? = some (y.cls, T, N)) (hR : Rm x d) (hcat : ((rest.map (abv (xG x).2.2.2)).map fun v => v.category).sum ≤ 8) (hC : Con d y c2 n2 ret (.ref o :: []) σ (PI pi)) (kk : ∀ (v : Int32) (τ : Sg), pi v τ → V x own cc nL q L (.int v :: rest) τ) : V x own cc nL pc L (.ref o :: rest) σ := V.callV (As := []) hd hk hs ho hci rfl hR hcat rfl hC (fun r τ h => by obtain ⟨v, rfl, hp⟩ := h; exact e ▸ kk v τ hp)
theorem V.csi0 {pi : Int32 → Sg → Prop} (hd : decode cc pc = .ok (.invokestatic idx, 3)) (e : pc + 3 = q) (hk : LkS own idx y c2 n2 ret 0) (hR : Rm x d) (hcat : ((rest.map (abv (xG x).2.2.2)).map fun v => v.category).sum ≤ 8) (hC : Con d y c2 n2 ret [] σ (PI pi)) (kk : ∀ (v : Int32) (τ : Sg), pi v τ → V x own cc nL q L (.int v :: rest) τ) : V x own cc nL pc L (rest) σ := V.callS (As := []) hd hk rfl hR hcat rfl hC (fun r τ h => by obtain ⟨v, rfl, hp⟩ := h; exact e ▸ kk v τ hp)
theorem V.cvv0 {pv : Sg → Prop} {o ci : Nat} {ks : List (Option Nat)} {T : u_T} {N : Nat} (hd : decode cc pc = .ok (.invokevirtual idx, 3)) (e : pc + 3 = q) (hk : LkV own idx y c2 n2 ret 0) (hs : shp o = .inr (ci, ks)) (ho : o < NO) (hci : vwCl[ci]? = some (y.cls, T, N)) (hR : Rm x d) (hcat : ((rest.map (abv (xG x).2.2.2)).map fun v => v.category).sum ≤ 8) (hC : Con d y c2 n2 ret (.ref o :: []) σ (PV pv)) (kk : ∀ (τ : Sg), pv τ → V x own cc nL q L rest τ) : V x own cc nL pc L (.ref o :: rest) σ := V.callV (As := []) hd hk hs ho hci rfl hR hcat rfl hC (fun r τ h => by obtain ⟨rfl, hp⟩ := h; exact e ▸ kk τ hp)
theorem V.csv0 {pv : Sg → Prop} (hd : decode cc pc = .ok (.invokestatic idx, 3)) (e : pc + 3 = q) (hk : LkS own idx y c2 n2 ret 0) (hR : Rm x d) (hcat : ((rest.map (abv (xG x).2.2.2)).map fun v => v.category).sum ≤ 8) (hC : Con d y c2 n2 ret [] σ (PV pv)) (kk : ∀ (τ : Sg), pv τ → V x own cc nL q L rest τ) : V x own cc nL pc L (rest) σ := V.callS (As := []) hd hk rfl hR hcat rfl hC (fun r τ h => by obtain ⟨rfl, hp⟩ := h; exact e ▸ kk τ hp)
theorem V.cvi1 {b0 : Value} {pi : Int32 → Sg → Prop} {o ci : Nat} {ks : List (Option Nat)} {T : u_T} {N : Nat} (hd : decode cc pc = .ok (.invokevirtual idx, 3)) (e : pc + 3 = q) (hk : LkV own idx y c2 n2 ret 1) (hs : shp o = .inr (ci, ks)) (ho : o < NO) (hci : vwCl[ci]? = some (y.cls, T, N)) (hR : Rm x d) (hcat : ((rest.map (abv (xG x).2.2.2)).map fun v => v.category).sum ≤ 8) (hC : Con d y c2 n2 ret (.ref o :: [b0]) σ (PI pi)) (kk : ∀ (v : Int32) (τ : Sg), pi v τ → V x own cc nL q L (.int v :: rest) τ) : V x own cc nL pc L (b0 :: .ref o :: rest) σ := V.callV (As := [b0]) hd hk hs ho hci rfl hR hcat rfl hC (fun r τ h => by obtain ⟨v, rfl, hp⟩ := h; exact e ▸ kk v τ hp)
theorem V.csi1 {b0 : Value} {pi : Int32 → Sg → Prop} (hd : decode cc pc = .ok (.invokestatic idx, 3)) (e : pc + 3 = q) (hk : LkS own idx y c2 n2 ret 1) (hR : Rm x d) (hcat : ((rest.map (abv (xG x).2.2.2)).map fun v => v.category).sum ≤ 8) (hC : Con d y c2 n2 ret [b0] σ (PI pi)) (kk : ∀ (v : Int32) (τ : Sg), pi v τ → V x own cc nL q L (.int v :: rest) τ) : V x own cc nL pc L (b0 :: rest) σ := V.callS (As := [b0]) hd hk rfl hR hcat rfl hC (fun r τ h => by obtain ⟨v, rfl, hp⟩ := h; exact e ▸ kk v τ hp)
theorem V.cvv1 {b0 : Value} {pv : Sg → Prop} {o ci : Nat} {ks : List (Option Nat)} {T : u_T} {N : Nat} (hd : decode cc pc = .ok (.invokevirtual idx, 3)) (e : pc + 3 = q) (hk : LkV own idx y c2 n2 ret 1) (hs : shp o = .inr (ci, ks)) (ho : o < NO) (hci : vwCl[ci]? = some (y.cls, T, N)) (hR : Rm x d) (hcat : ((rest.map (abv (xG x).2.2.2)).map fun v => v.category).sum ≤ 8) (hC : Con d y c2 n2 ret (.ref o :: [b0]) σ (PV pv)) (kk : ∀ (τ : Sg), pv τ → V x own cc nL q L rest τ) : V x own cc nL pc L (b0 :: .ref o :: rest) σ := V.callV (As := [b0]) hd hk hs ho hci rfl hR hcat rfl hC (fun r τ h => by obtain ⟨rfl, hp⟩ := h; exact e ▸ kk τ hp)
theorem V.csv1 {b0 : Value} {pv : Sg → Prop} (hd : decode cc pc = .ok (.invokestatic idx, 3)) (e : pc + 3 = q) (hk : LkS own idx y c2 n2 ret 1) (hR : Rm x d) (hcat : ((rest.map (abv (xG x).2.2.2)).map fun v => v.category).sum ≤ 8) (hC : Con d y c2 n2 ret [b0] σ (PV pv)) (kk : ∀ (τ : Sg), pv τ → V x own cc nL q L rest τ) : V x own cc nL pc L (b0 :: rest) σ := V.callS (As := [b0]) hd hk rfl hR hcat rfl hC (fun r τ h => by obtain ⟨rfl, hp⟩ := h; exact e ▸ kk τ hp)
theorem V.cvi2 {b0 b1 : Value} {pi : Int32 → Sg → Prop} {o ci : Nat} {ks : List (Option Nat)} {T : u_T} {N : Nat} (hd : decode cc pc = .ok (.invokevirtual idx, 3)) (e : pc + 3 = q) (hk : LkV own idx y c2 n2 ret 2) (hs : shp o = .inr (ci, ks)) (ho : o < NO) (hci : vwCl[ci]? = some (y.cls, T, N)) (hR : Rm x d) (hcat : ((rest.map (abv (xG x).2.2.2)).map fun v => v.category).sum ≤ 8) (hC : Con d y c2 n2 ret (.ref o :: [b0, b1]) σ (PI pi)) (kk : ∀ (v : Int32) (τ : Sg), pi v τ → V x own cc nL q L (.int v :: rest) τ) : V x own cc nL pc L (b1 :: b0 :: .ref o :: rest) σ := V.callV (As := [b0, b1]) hd hk hs ho hci rfl hR hcat rfl hC (fun r τ h => by obtain ⟨v, rfl, hp⟩ := h; exact e ▸ kk v τ hp)
theorem V.csi2 {b0 b1 : Value} {pi : Int32 → Sg → Prop} (hd : decode cc pc = .ok (.invokestatic idx, 3)) (e : pc + 3 = q) (hk : LkS own idx y c2 n2 ret 2) (hR : Rm x d) (hcat : ((rest.map (abv (xG x).2.2.2)).map fun v => v.category).sum ≤ 8) (hC : Con d y c2 n2 ret [b0, b1] σ (PI pi)) (kk : ∀ (v : Int32) (τ : Sg), pi v τ → V x own cc nL q L (.int v :: rest) τ) : V x own cc nL pc L (b1 :: b0 :: rest) σ := V.callS (As := [b0, b1]) hd hk rfl hR hcat rfl hC (fun r τ h => by obtain ⟨v, rfl, hp⟩ := h; exact e ▸ kk v τ hp)
theorem V.cvv2 {b0 b1 : Value} {pv : Sg → Prop} {o ci : Nat} {ks : List (Option Nat)} {T : u_T} {N : Nat} (hd : decode cc pc = .ok (.invokevirtual idx, 3)) (e : pc + 3 = q) (hk : LkV own idx y c2 n2 ret 2) (hs : shp o = .inr (ci, ks)) (ho : o < NO) (hci : vwCl[ci]? = some (y.cls, T, N)) (hR : Rm x d) (hcat : ((rest.map (abv (xG x).2.2.2)).map fun v => v.category).sum ≤ 8) (hC : Con d y c2 n2 ret (.ref o :: [b0, b1]) σ (PV pv)) (kk : ∀ (τ : Sg), pv τ → V x own cc nL q L rest τ) : V x own cc nL pc L (b1 :: b0 :: .ref o :: rest) σ := V.callV (As := [b0, b1]) hd hk hs ho hci rfl hR hcat rfl hC (fun r τ h => by obtain ⟨rfl, hp⟩ := h; exact e ▸ kk τ hp)
theorem V.csv2 {b0 b1 : Value} {pv : Sg → Prop} (hd : decode cc pc = .ok (.invokestatic idx, 3)) (e : pc + 3 = q) (hk : LkS own idx y c2 n2 ret 2) (hR : Rm x d) (hcat : ((rest.map (abv (xG x).2.2.2)).map fun v => v.category).sum ≤ 8) (hC : Con d y c2 n2 ret [b0, b1] σ (PV pv)) (kk : ∀ (τ : Sg), pv τ → V x own cc nL q L rest τ) : V x own cc nL pc L (b1 :: b0 :: rest) σ := V.callS (As := [b0, b1]) hd hk rfl hR hcat rfl hC (fun r τ h => by obtain ⟨rfl, hp⟩ := h; exact e ▸ kk τ hp)
theorem V.cvi3 {b0 b1 b2 : Value} {pi : Int32 → Sg → Prop} {o ci : Nat} {ks : List (Option Nat)} {T : u_T} {N : Nat} (hd : decode cc pc = .ok (.invokevirtual idx, 3)) (e : pc + 3 = q) (hk : LkV own idx y c2 n2 ret 3) (hs : shp o = .inr (ci, ks)) (ho : o < NO) (hci : vwCl[ci]? = some (y.cls, T, N)) (hR : Rm x d) (hcat : ((rest.map (abv (xG x).2.2.2)).map fun v => v.category).sum ≤ 8) (hC : Con d y c2 n2 ret (.ref o :: [b0, b1, b2]) σ (PI pi)) (kk : ∀ (v : Int32) (τ : Sg), pi v τ → V x own cc nL q L (.int v :: rest) τ) : V x own cc nL pc L (b2 :: b1 :: b0 :: .ref o :: rest) σ := V.callV (As := [b0, b1, b2]) hd hk hs ho hci rfl hR hcat rfl hC (fun r τ h => by obtain ⟨v, rfl, hp⟩ := h; exact e ▸ kk v τ hp)
theorem V.csi3 {b0 b1 b2 : Value} {pi : Int32 → Sg → Prop} (hd : decode cc pc = .ok (.invokestatic idx, 3)) (e : pc + 3 = q) (hk : LkS own idx y c2 n2 ret 3) (hR : Rm x d) (hcat : ((rest.map (abv (xG x).2.2.2)).map fun v => v.category).sum ≤ 8) (hC : Con d y c2 n2 ret [b0, b1, b2] σ (PI pi)) (kk : ∀ (v : Int32) (τ : Sg), pi v τ → V x own cc nL q L (.int v :: rest) τ) : V x own cc nL pc L (b2 :: b1 :: b0 :: rest) σ := V.callS (As := [b0, b1, b2]) hd hk rfl hR hcat rfl hC (fun r τ h => by obtain ⟨v, rfl, hp⟩ := h; exact e ▸ kk v τ hp)
theorem V.cvv3 {b0 b1 b2 : Value} {pv : Sg → Prop} {o ci : Nat} {ks : List (Option Nat)} {T : u_T} {N : Nat} (hd : decode cc pc = .ok (.invokevirtual idx, 3)) (e : pc + 3 = q) (hk : LkV own idx y c2 n2 ret 3) (hs : shp o = .inr (ci, ks)) (ho : o < NO) (hci : vwCl[ci]? = some (y.cls, T, N)) (hR : Rm x d) (hcat : ((rest.map (abv (xG x).2.2.2)).map fun v => v.category).sum ≤ 8) (hC : Con d y c2 n2 ret (.ref o :: [b0, b1, b2]) σ (PV pv)) (kk : ∀ (τ : Sg), pv τ → V x own cc nL q L rest τ) : V x own cc nL pc L (b2 :: b1 :: b0 :: .ref o :: rest) σ := V.callV (As := [b0, b1, b2]) hd hk hs ho hci rfl hR hcat rfl hC (fun r τ h => by obtain ⟨rfl, hp⟩ := h; exact e ▸ kk τ hp)
theorem V.csv3 {b0 b1 b2 : Value} {pv : Sg → Prop} (hd : decode cc pc = .ok (.invokestatic idx, 3)) (e : pc + 3 = q) (hk : LkS own idx y c2 n2 ret 3) (hR : Rm x d) (hcat : ((rest.map (abv (xG x).2.2.2)).map fun v => v.category).sum ≤ 8) (hC : Con d y c2 n2 ret [b0, b1, b2] σ (PV pv)) (kk : ∀ (τ : Sg), pv τ → V x own cc nL q L rest τ) : V x own cc nL pc L (b2 :: b1 :: b0 :: rest) σ := V.callS (As := [b0, b1, b2]) hd hk rfl hR hcat rfl hC (fun r τ h => by obtain ⟨rfl, hp⟩ := h; exact e ▸ kk τ hp)
theorem V.cvi4 {b0 b1 b2 b3 : Value} {pi : Int32 → Sg → Prop} {o ci : Nat} {ks : List (Option Nat)} {T : u_T} {N : Nat} (hd : decode cc pc = .ok (.invokevirtual idx, 3)) (e : pc + 3 = q) (hk : LkV own idx y c2 n2 ret 4) (hs : shp o = .inr (ci, ks)) (ho : o < NO) (hci : vwCl[ci]? = some (y.cls, T, N)) (hR : Rm x d) (hcat : ((rest.map (abv (xG x).2.2.2)).map fun v => v.category).sum ≤ 8) (hC : Con d y c2 n2 ret (.ref o :: [b0, b1, b2, b3]) σ (PI pi)) (kk : ∀ (v : Int32) (τ : Sg), pi v τ → V x own cc nL q L (.int v :: rest) τ) : V x own cc nL pc L (b3 :: b2 :: b1 :: b0 :: .ref o :: rest) σ := V.callV (As := [b0, b1, b2, b3]) hd hk hs ho hci rfl hR hcat rfl hC (fun r τ h => by obtain ⟨v, rfl, hp⟩ := h; exact e ▸ kk v τ hp)
theorem V.csi4 {b0 b1 b2 b3 : Value} {pi : Int32 → Sg → Prop} (hd : decode cc pc = .ok (.invokestatic idx, 3)) (e : pc + 3 = q) (hk : LkS own idx y c2 n2 ret 4) (hR : Rm x d) (hcat : ((rest.map (abv (xG x).2.2.2)).map fun v => v.category).sum ≤ 8) (hC : Con d y c2 n2 ret [b0, b1, b2, b3] σ (PI pi)) (kk : ∀ (v : Int32) (τ : Sg), pi v τ → V x own cc nL q L (.int v :: rest) τ) : V x own cc nL pc L (b3 :: b2 :: b1 :: b0 :: rest) σ := V.callS (As := [b0, b1, b2, b3]) hd hk rfl hR hcat rfl hC (fun r τ h => by obtain ⟨v, rfl, hp⟩ := h; exact e ▸ kk v τ hp)
theorem V.cvv4 {b0 b1 b2 b3 : Value} {pv : Sg → Prop} {o ci : Nat} {ks : List (Option Nat)} {T : u_T} {N : Nat} (hd : decode cc pc = .ok (.invokevirtual idx, 3)) (e : pc + 3 = q) (hk : LkV own idx y c2 n2 ret 4) (hs : shp o = .inr (ci, ks)) (ho : o < NO) (hci : vwCl[ci]? = some (y.cls, T, N)) (hR : Rm x d) (hcat : ((rest.map (abv (xG x).2.2.2)).map fun v => v.category).sum ≤ 8) (hC : Con d y c2 n2 ret (.ref o :: [b0, b1, b2, b3]) σ (PV pv)) (kk : ∀ (τ : Sg), pv τ → V x own cc nL q L rest τ) : V x own cc nL pc L (b3 :: b2 :: b1 :: b0 :: .ref o :: rest) σ := V.callV (As := [b0, b1, b2, b3]) hd hk hs ho hci rfl hR hcat rfl hC (fun r τ h => by obtain ⟨rfl, hp⟩ := h; exact e ▸ kk τ hp)
theorem V.csv4 {b0 b1 b2 b3 : Value} {pv : Sg → Prop} (hd : decode cc pc = .ok (.invokestatic idx, 3)) (e : pc + 3 = q) (hk : LkS own idx y c2 n2 ret 4) (hR : Rm x d) (hcat : ((rest.map (abv (xG x).2.2.2)).map fun v => v.category).sum ≤ 8) (hC : Con d y c2 n2 ret [b0, b1, b2, b3] σ (PV pv)) (kk : ∀ (τ : Sg), pv τ → V x own cc nL q L rest τ) : V x own cc nL pc L (b3 :: b2 :: b1 :: b0 :: rest) σ := V.callS (As := [b0, b1, b2, b3]) hd hk rfl hR hcat rfl hC (fun r τ h => by obtain ⟨rfl, hp⟩ := h; exact e ▸ kk τ hp)
end VC
