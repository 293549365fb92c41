/-! THE CONSTRUCTORS -/
def NN (U : State) : Prop := va_Nw (.methodLinkNest RX2 11 yX1_init RX2) U ∧ va_Nw (.methodLinkNest RX2 27 yX0_init RX2) U
theorem NN.warm {s U : State} (hW : s.WarmedH U.vm) (h : NN s) : NN U := ⟨va_Nw.warmM hW h.1, va_Nw.warmM hW h.2⟩
theorem NN.same {U U1 : State} (hv : U1.vm = U.vm) (h : NN U) : NN U1 := ⟨va_Nw.same rfl hv.symm h.1, va_Nw.same rfl hv.symm h.2⟩
theorem gd_init {y : MethodName} {cc : ByteArray} (h : Cond.code y cc 1 none ∈ WL) : GoodIn WL (Cond.code y cc 1 none :: WL) := wl_good (fun _ h => h) (fun w hw => by
  rcases List.mem_cons.mp hw with rfl | h9
  · exact h
  · exact h9)
theorem rt_P {D : va_G} {w0 wc : va_W} {H : Heap} (hP : va_P D vwCl (w0 ++ wc) H) : va_P D vwCl wc H := fun k q hq => hP (w0.length + k) q (by rw [List.getElem?_append_right (by omega), Nat.add_sub_cancel_left]; exact hq)
theorem rt_D {A : Nat → Prop} {w0 wc : va_W} (hD : va_D A (w0 ++ wc)) : va_D A wc := by
  have key : ∀ (k : Nat) (q : Nat × va_E), wc[k]? = some q → (w0 ++ wc)[w0.length + k]? = some q := fun k q hq => by
    rw [List.getElem?_append_right (by omega), Nat.add_sub_cancel_left]; exact hq
  exact ⟨fun i j p q hi hj e => by have := hD.1 _ _ p q (key i p hi) (key j q hj) e; omega, fun k q hq => hD.2 _ q (key k q hq)⟩
theorem lf_D {A : Nat → Prop} {w0 wc : va_W} (hD : va_D A (w0 ++ wc)) : va_D A w0 := by
  have key : ∀ (k : Nat) (q : Nat × va_E), w0[k]? = some q → (w0 ++ wc)[k]? = some q := fun k q hq => by
    rw [List.getElem?_append_left (List.getElem?_eq_some_iff.mp hq).1]; exact hq
  exact ⟨fun i j p q hi hj e => hD.1 _ _ p q (key i p hi) (key j q hj) e, fun k q hq => hD.2 _ q (key k q hq)⟩
theorem rt_F {A0 : Nat → Prop} {w0 wc : va_W} {H0 H : Heap} {locs : List Loc} (hD : va_D A0 (w0 ++ wc)) (hS : va_S A0 H0 H locs) (hA : ∀ q, H0.size ≤ q → A0 q) : ∀ q, va_A wc H.size q → A0 q := by
  intro q h
  rcases h with ⟨k, e, h⟩ | h
  · exact (rt_D hD).2 k (q, e) h
  · exact hA q (Nat.le_trans hS.1 h)
theorem jn {A0 : Nat → Prop} {D : va_G} {w0 wc w1 : va_W} {H H1 : Heap} (hP : va_P D vwCl (w0 ++ wc) H) (hD : va_D A0 (w0 ++ wc)) (hk : ∀ q : Nat, q < H.size → ¬ va_A wc H.size q → H1[q]? = H[q]?) (hF : ∀ q, va_A wc H.size q → A0 q) (hP1 : va_P D vwCl w1 H1) (hD1 : va_D (va_A wc H.size) w1) : va_P D vwCl (w0 ++ w1) H1 ∧ va_D A0 (w0 ++ w1) := by
  have key : ∀ (k : Nat) (q : Nat × va_E), w0[k]? = some q → (w0 ++ wc)[k]? = some q := fun k q hq => by
    rw [List.getElem?_append_left (List.getElem?_eq_some_iff.mp hq).1]; exact hq
  have apart : ∀ (k : Nat) (q : Nat × va_E), w0[k]? = some q → q.1 < H.size ∧ ¬ va_A wc H.size q.1 := by
    intro k q hq
    have hk0 : k < w0.length := (List.getElem?_eq_some_iff.mp hq).1
    have h2 := key k q hq
    have hl := (hP k q h2).lt
    refine ⟨hl, fun h => ?_⟩
    rcases h with ⟨k2, e, h⟩ | h
    · have h4 : (w0 ++ wc)[w0.length + k2]? = some (q.1, e) := by rw [List.getElem?_append_right (by omega), Nat.add_sub_cancel_left]; exact h
      have := hD.1 k (w0.length + k2) q (q.1, e) h2 h4 rfl
      omega
    · omega
  refine ⟨va_P.app (fun k q hq => ?_) hP1, va_D.app (lf_D hD) (hD1.weaken (fun k q _ h => hF q.1 h)) (fun i j x y hx hy hxy => (apart i x hx).2 (by rw [hxy]; exact hD1.2 j y hy))⟩
  obtain ⟨g1, g2⟩ := apart k q hq
  exact (hP k q (key k q hq)).kept (hk q.1 g1 g2)
def IC (y : MethodName) (cc : ByteArray) (rm : Room) (mc ms ci : Nat) (fs0 : List Value) (post : Gx → Nat → va_W → Prop) : Prop :=
  ∀ (l : Launch) (G : Gx) (h0 sz : Nat), Met l y (Cond.code y cc 1 none :: WL) rm (va_Pc [.ref h0] (fun U => U.heap.size = sz ∧ va_P G.1 vwCl [(h0, .inr (ci, fs0))] U.heap ∧ KF G U ∧ NN U ∧ va_D (fun _ => True) [(h0, .inr (ci, fs0))]))
    (va_Qv (post G h0) (fun ws t => va_P G.1 vwCl ws t.heap ∧ va_D (va_A [(h0, .inr (ci, fs0))] sz) ws) (va_A [(h0, .inr (ci, fs0))] sz)) mc ms (va_A [(h0, .inr (ci, fs0))] sz)
theorem IC_blind {G : Gx} {h0 sz ci : Nat} {fs0 : List Value} : FrameBlind (va_Pc [.ref h0] (fun U => U.heap.size = sz ∧ va_P G.1 vwCl [(h0, .inr (ci, fs0))] U.heap ∧ KF G U ∧ NN U ∧ va_D (fun _ => True) [(h0, .inr (ci, fs0))])) := by
  intro a U g mk q
  obtain ⟨q0, q1, qP, qK, qN, qD⟩ := q
  exact ⟨q0, q1, qP, va_K.moved (u := U) (U := U.calling g mk a) (Vm.Alike.refl U.vm) qK, NN.same rfl qN, qD⟩
def FI (x : Cx) (own : String) (cc : ByteArray) : Prop :=
  (xp x).tables.exec = Jvm.exec ∧ (xc x).code = cc ∧ (xc x).maxLocals = 1 ∧ (xs x).vm.findClass own = some (xm x).cls ∧ (∀ w ∈ WL, w.before (xa x) (xs x) = true) ∧ KF (xG x) (xs x) ∧ NN (xs x) ∧ (∀ q, (xs x).heap.size ≤ q → xA x q) ∧ (xM x).name = "<init>"
def VI (x : Cx) (own : String) (cc : ByteArray) (pc h : Nat) (st : List Value) (ws : va_W) (kc ks : Nat) : Prop :=
  FI x own cc → ∀ (H : Heap) (locs : List Loc) (ls : Array Slot), va_P (xG x).1 vwCl ws H → va_D (xA x) ws → va_S (xA x) (xs x).heap H locs → lv_has ls 1 [(0, .ref h)] →
    W (xp x) (xl x) (xe x) (xR x) (xs x) (xm x) (xa x) (xb x) (xM x) (xc x) H locs kc ks (xQ x) (F0 (xm x) pc ls st)
def IB (x : Cx) (rm : Room) (h0 ci : Nat) (fs0 : List Value) (post : Gx → Nat → va_W → Prop) (mc ms : Nat) : Prop :=
  xR x = rm ∧ xQ x = MQ (xb x) (va_Qv (post (xG x) h0) (fun ws t => va_P (xG x).1 vwCl ws t.heap ∧ va_D (va_A [(h0, .inr (ci, fs0))] (xs x).heap.size) ws) (va_A [(h0, .inr (ci, fs0))] (xs x).heap.size)) (xa x) (xs x) mc ms (xA x) ∧ xA x = va_A [(h0, .inr (ci, fs0))] (xs x).heap.size ∧ (xM x).sig.returnType = none ∧ (xM x).locks = false
theorem IC.of {y : MethodName} {cc : ByteArray} {rm : Room} {mc ms ci : Nat} {fs0 : List Value} {post : Gx → Nat → va_W → Prop} (hy : plainName y.cls = true) (hin : y.name = "<init>") (body : ∀ (x : Cx) (h0 : Nat), IB x rm h0 ci fs0 post mc ms → VI x y.cls cc 0 h0 [] [(h0, .inr (ci, fs0))] 0 0) : IC y cc rm mc ms ci fs0 post := by
  intro l G h0 sz
  refine Met.ofW (cc := cc) (maxL := 1) (ret := none) hy rfl ?_
  intro p e s m args below meth c s₁ B hml hv
  obtain ⟨rfl, hsz, hP, hK, hN, hD0⟩ := hv
  subst hsz
  have hts := atoms_spec (ws := Cond.code y cc 1 none :: WL) B.pre
  have hname : meth.name = "<init>" := (name_of_methodNamed B.named B.method).1.trans hin
  have hl := lv_entry ([.ref h0]) (n := 1) (Nat.le_of_ble_eq_true rfl)
  have hw := body (p, l, e, rm, s, m, [Value.ref h0].toArray, below, meth, c, mc, ms, MQ below (va_Qv (post G h0) (fun ws t => va_P G.1 vwCl ws t.heap ∧ va_D (va_A [(h0, .inr (ci, fs0))] s.heap.size) ws) (va_A [(h0, .inr (ci, fs0))] s.heap.size)) [Value.ref h0].toArray s mc ms (va_A [(h0, .inr (ci, fs0))] s.heap.size), va_A [(h0, .inr (ci, fs0))] s.heap.size, G) h0 ⟨rfl, rfl, rfl, B.returns, B.notSynchronized⟩
  have h2 := hw ⟨B.exec, B.bytes, hml, findClass_of_methodNamed B.named, fun w h => hts w (List.mem_cons_of_mem _ h), hK, hN, fun q h => Or.inr h, hname⟩ s.heap [] _ hP hD0.self va_S.rf hl
  rw [lg_entry_eq]
  exact h2
section VIs
variable {x : Cx} {own : String} {cc : ByteArray} {pc q h kc ks : Nat} {st : List Value} {ws : va_W} {o : Nat × va_E} {rest : va_W}
theorem VI.w {kc2 ks2 : Nat} (h1 : kc ≤ kc2) (h2 : ks ≤ ks2) (k : VI x own cc pc h st ws kc2 ks2) : VI x own cc pc h st ws kc ks :=
  fun hF H locs ls hP hD hS hl => W.widen h1 h2 (k hF H locs ls hP hD hS hl)
theorem VI.obj {idx : Nat} (d0 : decode cc 0 = .ok (.aload_n 0, 1)) (d1 : decode cc 1 = .ok (.invokespecial idx, 3)) (w1 : Cond.methodLink own idx objectInit ∈ WL) (hR : 1 ≤ (xR x).frames ∧ 12 ≤ (xR x).locals) (k : VI x own cc 4 h [] ws kc ks) : VI x own cc 0 h [] ws kc ks := by
  intro hF H locs ls hP hD hS hl
  refine lv_aload_n hF.1 hF.2.1 d0 rfl (lv_at hl 0 rfl) ?_
  refine W.objInit hF.1 hF.2.1 hF.2.2.2.1 (hF.2.2.2.2.1 _ w1) (hF.2.2.2.2.1 _ (wl_of 58 rfl rfl)) (hF.2.2.2.2.1 _ (wl_of 59 rfl rfl)) rfl (by rw [hF.2.2.1]; exact hl.1) rfl d1 hR.1 hR.2 ?_
  refine W.eq (g2 := F0 (xm x) 4 ls []) rfl ?_
  exact k hF H locs ls hP hD hS hl
theorem VI.aload (hd : decode cc pc = .ok (.aload_n 0, 1)) (e : pc + 1 = q) (k : VI x own cc q h (.ref h :: st) ws kc ks) : VI x own cc pc h st ws kc ks :=
  fun hF H locs ls hP hD hS hl => lv_aload_n hF.1 hF.2.1 hd rfl (lv_at hl 0 rfl) (e ▸ k hF H locs ls hP hD hS hl)
theorem VI.bipush {n : Int} {v : Int32} (hd : decode cc pc = .ok (.bipush n, 2)) (e : pc + 2 = q) (hv : (Int8.ofInt n).toInt32 = v) (k : VI x own cc q h (.int v :: st) ws kc ks) : VI x own cc pc h st ws kc ks :=
  fun hF H locs ls hP hD hS hl => lv_bipush hF.1 hF.2.1 hd hv (e ▸ k hF H locs ls hP hD hS hl)
theorem VI.iconst {n : Int} {v : Int32} (hd : decode cc pc = .ok (.iconst n, 1)) (e : pc + 1 = q) (hv : Int32.ofInt n = v) (k : VI x own cc q h (.int v :: st) ws kc ks) : VI x own cc pc h st ws kc ks :=
  fun hF H locs ls hP hD hS hl => lv_iconst hF.1 hF.2.1 hd hv (e ▸ k hF H locs ls hP hD hS hl)
theorem VI.dup {v : Value} (hd : decode cc pc = .ok (.dup, 1)) (e : pc + 1 = q) (hv : v.category = 1) (k : VI x own cc q h (v :: v :: st) ws kc ks) : VI x own cc pc h (v :: st) ws kc ks :=
  fun hF H locs ls hP hD hS hl => lv_dup hF.1 hF.2.1 hd hv (e ▸ k hF H locs ls hP hD hS hl)
theorem VI.newI {n : Int32} {N : Nat} (hd : decode cc pc = .ok (.newarray .int, 2)) (e : pc + 2 = q) (hn : ¬ n < 0) (hN : n.toNatClampNeg = N) (hb : N * componentBytes .int ≤ 536870912) (hR : kc + 1 ≤ (xR x).cells ∧ ks + N ≤ (xR x).slots) (k : ∀ r, VI x own cc q h (.ref r :: st) (o :: (rest ++ [(r, .inl ((xG x).2.1, N, .inl (fun _ => 0)))])) (kc + 1) (ks + N)) : VI x own cc pc h (.int n :: st) (o :: rest) kc ks := by
  intro hF H locs ls hP hD hS hl
  have hK := hF.2.2.2.2.2.1
  subst e
  refine va_newa (atype := .int) (ty := .int) (a0 := (N, .inl (fun _ => 0))) hF.1 hF.2.1 (hF.2.2.2.2.1 _ (wl_of 113 rfl rfl)) rfl hK hP hD hS hF.2.2.2.2.2.2.2.1 (fun _ => rfl) hn hN hb hR.1 hR.2 hd (fun r cA H1 hK1 hP1 hD1 hS1 => ?_)
  have e9 : cA = (xG x).2.1 := by
    have h1 := (hK1.2 2 (cA, .int) rfl).2
    have h2 := (hK.2 0 ((xG x).2.1, .int) rfl).2
    exact Option.some.inj (h1.symm.trans h2)
  rw [e9] at hP1 hD1
  exact k r hF H1 locs ls hP1 hD1 hS1 hl
theorem VI.newC {n : Int32} {N : Nat} (hd : decode cc pc = .ok (.newarray .char, 2)) (e : pc + 2 = q) (hn : ¬ n < 0) (hN : n.toNatClampNeg = N) (hb : N * componentBytes .char ≤ 536870912) (hR : kc + 1 ≤ (xR x).cells ∧ ks + N ≤ (xR x).slots) (k : ∀ r, VI x own cc q h (.ref r :: st) (o :: (rest ++ [(r, .inl ((xG x).2.2.1, N, .inl (fun _ => 0)))])) (kc + 1) (ks + N)) : VI x own cc pc h (.int n :: st) (o :: rest) kc ks := by
  intro hF H locs ls hP hD hS hl
  have hK := hF.2.2.2.2.2.1
  subst e
  refine va_newa (atype := .char) (ty := .char) (a0 := (N, .inl (fun _ => 0))) hF.1 hF.2.1 (hF.2.2.2.2.1 _ (wl_of 128 rfl rfl)) rfl hK hP hD hS hF.2.2.2.2.2.2.2.1 (fun _ => rfl) hn hN hb hR.1 hR.2 hd (fun r cA H1 hK1 hP1 hD1 hS1 => ?_)
  have e9 : cA = (xG x).2.2.1 := by
    have h1 := (hK1.2 2 (cA, .char) rfl).2
    have h2 := (hK.2 1 ((xG x).2.2.1, .char) rfl).2
    exact Option.some.inj (h1.symm.trans h2)
  rw [e9] at hP1 hD1
  exact k r hF H1 locs ls hP1 hD1 hS1 hl
def FPf (own : String) (idx ci k : Nat) (ty : FieldType) : Prop := ∃ (T : u_T) (N : Nat), vwCl[ci]? = some (own, T, N) ∧ k < N ∧ (∀ w ∈ u_ws own T N, w ∈ WL) ∧ Cond.fieldLink own idx own (T k).2.1 (T k).2.2.1 ∈ WL ∧
  (T k).2.2.2 = true ∧ (T k).1 = own ∧ parseFieldDescriptor (T k).2.2.1 = some ty ∧ (∃ ty0 : Nat → FieldType, ∀ k, k < N → parseFieldDescriptor (T k).2.2.1 = some (ty0 k)) ∧ (∀ a, a < N → ∀ b, b < N → a ≠ b → (T a).2.1 ≠ (T b).2.1)
theorem VI.putR {idx ci kf : Nat} {fs : List Value} {ty : FieldType} {v : Value} (hd : decode cc pc = .ok (.putfield idx, 3)) (e : pc + 3 = q) (hp : FPf own idx ci kf ty) (hn : narrow ty v = v) (hfit : fits ty v = true) (hlf : kf < fs.length) (k : VI x own cc q h st ((h, .inr (ci, fs.set kf v)) :: rest) kc ks) : VI x own cc pc h (v :: .ref h :: st) ((h, .inr (ci, fs)) :: rest) kc ks := by
  intro hF H locs ls hP hD hS hl
  obtain ⟨T, N, h1, h2, h3, h4, h5, h6, h7, ⟨ty0, h8⟩, h9⟩ := hp
  subst e
  exact va_putF (C := own) (T := T) (N := N) (ref := own) hF.1 hF.2.1 hF.2.2.2.2.1 h3 ty0 h8 h9 hF.2.2.2.1 hF.2.2.2.2.2.1 hP hD hS 0 rfl h1 kf h2 (hF.2.2.2.2.1 _ h4) (fun y hy => by rw [h6] at hy; exact hy) h5 hF.2.2.2.2.2.2.2.2 h6 h7 hn hfit hlf hd (fun H1 locs1 hP1 hD1 hS1 => k hF H1 locs1 ls hP1 hD1 hS1 hl)
theorem VI.putI {idx ci kf : Nat} {fs : List Value} {ty : FieldType} {v : Value} (hd : decode cc pc = .ok (.putfield idx, 3)) (e : pc + 3 = q) (hp : FPk own idx ci kf ty) (hn : narrow ty v = v) (hfit : fits ty v = true) (hlf : kf < fs.length) (k : VI x own cc q h st ((h, .inr (ci, fs.set kf v)) :: rest) kc ks) : VI x own cc pc h (v :: .ref h :: st) ((h, .inr (ci, fs)) :: rest) kc ks := by
  intro hF H locs ls hP hD hS hl
  obtain ⟨C, T, N, h1, h2, h3, h4, h5, h7, ⟨ty0, h8⟩, h9⟩ := hp
  subst e
  exact va_put (C := C) (T := T) (N := N) (ref := (T kf).1) hF.1 hF.2.1 hF.2.2.2.2.1 h3 ty0 h8 h9 hF.2.2.2.1 hF.2.2.2.2.2.1 hP hD hS 0 rfl h1 kf h2 (hF.2.2.2.2.1 _ h4) (fun y hy => hy) h5 h7 hn hfit hlf hd (fun H1 locs1 hP1 hD1 hS1 => k hF H1 locs1 ls hP1 hD1 hS1 hl)
theorem VI.new {idx ci N : Nat} {C : String} {T : u_T} {fs0 : List Value} (hd : decode cc pc = .ok (.new idx, 3)) (e : pc + 3 = q) (hci : vwCl[ci]? = some (C, T, N)) (hw : ∀ w ∈ u_ws C T N, w ∈ WL) (ty : Nat → FieldType) (hty : ∀ k, k < N → parseFieldDescriptor (T k).2.2.1 = some (ty k)) (h1 : Cond.classLink own idx C ∈ WL) (h2 : Cond.instantiable C N ∈ WL) (h3 : Cond.initialized C ∈ WL) (hfs : ∀ j, j < N → defaultValue (ty j) = vp_V fs0 j) (hR : kc + 1 ≤ (xR x).cells ∧ ks + N ≤ (xR x).slots) (k : ∀ r, VI x own cc q h (.ref r :: st) (o :: (rest ++ [(r, .inr (ci, fs0))])) (kc + 1) (ks + N)) : VI x own cc pc h st (o :: rest) kc ks := by
  intro hF H locs ls hP hD hS hl
  subst e
  exact va_new (ci := ci) (fs := fs0) (C := C) (T := T) (N := N) hF.1 hF.2.1 hF.2.2.2.2.1 hw ty hty hF.2.2.2.1 (hF.2.2.2.2.1 _ h1) (hF.2.2.2.2.1 _ h2) (hF.2.2.2.2.1 _ h3) hF.2.2.2.2.2.1 hP hD hS hF.2.2.2.2.2.2.2.1 hci hfs hR.1 hR.2 hd (fun r H1 hP1 hD1 hS1 => k r hF H1 locs ls hP1 hD1 hS1 hl)
theorem VI.call {idx ci mc ms r : Nat} {y : MethodName} {c2 : ByteArray} {rm : Room} {fs0 : List Value} {post : Gx → Nat → va_W → Prop} (hd : decode cc pc = .ok (.invokespecial idx, 3)) (e : pc + 3 = q) (hC : IC y c2 rm mc ms ci fs0 post) (hNw : NN (xs x) → va_Nw (.methodLinkNest own idx y own) (xs x)) (hini : Cond.initialized y.cls ∈ WL) (hin : Cond.instanceMethod y ∈ WL) (hcode : Cond.code y c2 1 none ∈ WL) (hnm : y.name = "<init>")
    (hy : y.cls ≠ "java/lang/invoke/MethodHandle" ∧ y.cls ≠ "java/lang/invoke/VarHandle" ∧ (parseMethodDescriptor y.desc).map (fun d => d.parameters.length) = some 0) (hrm : rm.cells = mc ∧ rm.slots = ms) (hR : rm.frames + 1 ≤ (xR x).frames ∧ 8 + (1 + 11) + rm.locals ≤ (xR x).locals) (hR2 : kc + mc ≤ (xR x).cells ∧ ks + ms ≤ (xR x).slots) (hcat : (st.map fun v => v.category).sum ≤ 8)
    (k : ∀ ws1, post (xG x) r ws1 → VI x own cc q h st (o :: (rest ++ ws1)) (kc + mc) (ks + ms)) : VI x own cc pc h (.ref r :: st) (o :: (rest ++ [(r, .inr (ci, fs0))])) kc ks := by
  intro hF H locs ls hP hD hS hl
  subst e
  have hP0 : va_P (xG x).1 vwCl ((o :: rest) ++ [(r, .inr (ci, fs0))]) H := hP
  have hD0 : va_D (xA x) ((o :: rest) ++ [(r, .inr (ci, fs0))]) := hD
  have hPc := rt_P hP0
  have hDc := rt_D hD0
  have hFc := rt_F hD0 hS hF.2.2.2.2.2.2.2.1
  have hts := hF.2.2.2.2.1
  refine va_callv (va_runIN (As := []) (rest := st) ⟨hF.1, hF.2.1, hF.2.2.1, hF.2.2.2.1, hts⟩ (hC (xl x) (xG x) r H.size) ⟨va_cnB 0 hts (gd_init hcode) rfl hrm.1 hrm.2 (hNw hF.2.2.2.2.2.2.1) (hts _ hini) hy hR, hnm, hts _ hin⟩ ⟨IC_blind, fun U hU hW => ⟨rfl, by rw [hU], by rw [hU]; exact hPc, va_K.moved hW.alike hF.2.2.2.2.2.1, NN.warm hW hF.2.2.2.2.2.2.1, hDc.weaken (fun _ _ _ _ => trivial)⟩⟩ rfl rfl hl.1 rfl (lv_room hcat) hd hR2) hS (fun q _ h => hFc q h) hFc (fun ws1 t H1 locs1 ht hvm hw hB hz1 hk1 hS1 => ?_)
  obtain ⟨hP1, hD1⟩ := hB
  rw [ht] at hP1
  obtain ⟨hP2, hD2⟩ := jn hP0 hD0 hk1 hFc hP1 hD1
  exact k ws1 hw hF H1 locs1 ls hP2 hD2 hS1 hl
theorem VI.ret {rm : Room} {ci : Nat} {fs0 : List Value} {post : Gx → Nat → va_W → Prop} (hB : IB x rm h ci fs0 post kc ks) (hd : decode cc pc = .ok (.return_, 1)) (hp : post (xG x) h ws) : VI x own cc pc h [] ws kc ks := by
  intro hF H locs ls hP hD hS hl
  obtain ⟨-, hQ, hA, hr, hlk⟩ := hB
  rw [hQ]
  refine W.vret hF.1 hF.2.1 hr (fun t ht hW => ⟨⟨ws, rfl, hp, by rw [ht]; exact hP, by rw [← hA]; exact hD⟩, ?_⟩) hS.2.2 hd hlk
  have h1 := hS.F ht
  rw [hA] at h1
  exact h1
end VIs
set_option maxRecDepth 20000 in
theorem kF_X0_9 : FPf RX0 9 0 0 (.array .char) := ⟨TX0, 2, rfl, by decide, wX0, wl_of 120 rfl rfl, rfl, rfl, by decide +kernel, ⟨tyX0, tyX0_ok⟩, nmX0⟩
set_option maxRecDepth 20000 in
theorem kF_X1_9 : FPf RX1 9 1 0 (.array .int) := ⟨TX1, 12, rfl, by decide, wX1, wl_of 66 rfl rfl, rfl, rfl, by decide +kernel, ⟨tyX1, tyX1_ok⟩, nmX1⟩
set_option maxRecDepth 20000 in
theorem kF_X1_15 : FPf RX1 15 1 1 (.array .int) := ⟨TX1, 12, rfl, by decide, wX1, wl_of 68 rfl rfl, rfl, rfl, by decide +kernel, ⟨tyX1, tyX1_ok⟩, nmX1⟩
set_option maxRecDepth 20000 in
theorem kF_X1_18 : FPf RX1 18 1 2 (.array .int) := ⟨TX1, 12, rfl, by decide, wX1, wl_of 70 rfl rfl, rfl, rfl, by decide +kernel, ⟨tyX1, tyX1_ok⟩, nmX1⟩
set_option maxRecDepth 20000 in
theorem kF_X1_21 : FPf RX1 21 1 3 (.array .int) := ⟨TX1, 12, rfl, by decide, wX1, wl_of 72 rfl rfl, rfl, rfl, by decide +kernel, ⟨tyX1, tyX1_ok⟩, nmX1⟩
set_option maxRecDepth 20000 in
theorem kF_X1_24 : FPf RX1 24 1 4 (.array .int) := ⟨TX1, 12, rfl, by decide, wX1, wl_of 74 rfl rfl, rfl, rfl, by decide +kernel, ⟨tyX1, tyX1_ok⟩, nmX1⟩
set_option maxRecDepth 20000 in
theorem kF_X1_27 : FPf RX1 27 1 5 (.array .int) := ⟨TX1, 12, rfl, by decide, wX1, wl_of 76 rfl rfl, rfl, rfl, by decide +kernel, ⟨tyX1, tyX1_ok⟩, nmX1⟩
set_option maxRecDepth 20000 in
theorem kF_X1_30 : FPf RX1 30 1 6 (.array .int) := ⟨TX1, 12, rfl, by decide, wX1, wl_of 78 rfl rfl, rfl, rfl, by decide +kernel, ⟨tyX1, tyX1_ok⟩, nmX1⟩
set_option maxRecDepth 20000 in
theorem kF_X1_33 : FPf RX1 33 1 7 (.array .int) := ⟨TX1, 12, rfl, by decide, wX1, wl_of 80 rfl rfl, rfl, rfl, by decide +kernel, ⟨tyX1, tyX1_ok⟩, nmX1⟩
set_option maxRecDepth 20000 in
theorem kF_X2_12 : FPf RX2 12 2 0 (.object "PavedByNext$Town") := ⟨TX2, 11, rfl, by decide, wX2, wl_of 129 rfl rfl, rfl, rfl, by decide +kernel, ⟨tyX2, tyX2_ok⟩, nmX2⟩
set_option maxRecDepth 20000 in
theorem kF_X2_16 : FPf RX2 16 2 1 (.object "PavedByNext$Town") := ⟨TX2, 11, rfl, by decide, wX2, wl_of 130 rfl rfl, rfl, rfl, by decide +kernel, ⟨tyX2, tyX2_ok⟩, nmX2⟩
set_option maxRecDepth 20000 in
theorem kF_X2_19 : FPf RX2 19 2 2 (.object "PavedByNext$Town") := ⟨TX2, 11, rfl, by decide, wX2, wl_of 131 rfl rfl, rfl, rfl, by decide +kernel, ⟨tyX2, tyX2_ok⟩, nmX2⟩
set_option maxRecDepth 20000 in
theorem kF_X2_22 : FPf RX2 22 2 3 (.object "PavedByNext$Town") := ⟨TX2, 11, rfl, by decide, wX2, wl_of 132 rfl rfl, rfl, rfl, by decide +kernel, ⟨tyX2, tyX2_ok⟩, nmX2⟩
set_option maxRecDepth 20000 in
theorem kF_X2_28 : FPf RX2 28 2 4 (.object "PavedByNext$Text") := ⟨TX2, 11, rfl, by decide, wX2, wl_of 133 rfl rfl, rfl, rfl, by decide +kernel, ⟨tyX2, tyX2_ok⟩, nmX2⟩
set_option maxRecDepth 20000 in
theorem kF_X2_32 : FPf RX2 32 2 5 (.array .int) := ⟨TX2, 11, rfl, by decide, wX2, wl_of 134 rfl rfl, rfl, rfl, by decide +kernel, ⟨tyX2, tyX2_ok⟩, nmX2⟩
set_option maxRecDepth 20000 in
theorem kF_X2_36 : FPf RX2 36 2 6 (.array .int) := ⟨TX2, 11, rfl, by decide, wX2, wl_of 135 rfl rfl, rfl, rfl, by decide +kernel, ⟨tyX2, tyX2_ok⟩, nmX2⟩
set_option maxRecDepth 20000 in
theorem kF_X2_39 : FPf RX2 39 2 7 (.array .int) := ⟨TX2, 11, rfl, by decide, wX2, wl_of 136 rfl rfl, rfl, rfl, by decide +kernel, ⟨tyX2, tyX2_ok⟩, nmX2⟩
set_option maxRecDepth 20000 in
theorem kF_X2_42 : FPf RX2 42 2 8 (.array .int) := ⟨TX2, 11, rfl, by decide, wX2, wl_of 137 rfl rfl, rfl, rfl, by decide +kernel, ⟨tyX2, tyX2_ok⟩, nmX2⟩
set_option maxRecDepth 20000 in
theorem kF_X3_7 : FPf RX3 7 3 0 (.array .int) := ⟨TX3, 20, rfl, by decide, wX3, wl_of 558 rfl rfl, rfl, rfl, by decide +kernel, ⟨tyX3, tyX3_ok⟩, nmX3⟩
set_option maxRecDepth 20000 in
theorem kF_X3_13 : FPf RX3 13 3 1 (.array .int) := ⟨TX3, 20, rfl, by decide, wX3, wl_of 559 rfl rfl, rfl, rfl, by decide +kernel, ⟨tyX3, tyX3_ok⟩, nmX3⟩
set_option maxRecDepth 20000 in
theorem kF_X3_16 : FPf RX3 16 3 2 (.array .int) := ⟨TX3, 20, rfl, by decide, wX3, wl_of 560 rfl rfl, rfl, rfl, by decide +kernel, ⟨tyX3, tyX3_ok⟩, nmX3⟩
set_option maxRecDepth 20000 in
theorem kF_X3_19 : FPf RX3 19 3 3 (.array .int) := ⟨TX3, 20, rfl, by decide, wX3, wl_of 561 rfl rfl, rfl, rfl, by decide +kernel, ⟨tyX3, tyX3_ok⟩, nmX3⟩
set_option maxRecDepth 20000 in
theorem kF_X3_22 : FPf RX3 22 3 4 (.array .int) := ⟨TX3, 20, rfl, by decide, wX3, wl_of 562 rfl rfl, rfl, rfl, by decide +kernel, ⟨tyX3, tyX3_ok⟩, nmX3⟩
set_option maxRecDepth 20000 in
theorem kF_X3_32 : FPf RX3 32 3 8 (.array .int) := ⟨TX3, 20, rfl, by decide, wX3, wl_of 566 rfl rfl, rfl, rfl, by decide +kernel, ⟨tyX3, tyX3_ok⟩, nmX3⟩
set_option maxRecDepth 20000 in
theorem kF_X3_35 : FPf RX3 35 3 9 (.array .int) := ⟨TX3, 20, rfl, by decide, wX3, wl_of 567 rfl rfl, rfl, rfl, by decide +kernel, ⟨tyX3, tyX3_ok⟩, nmX3⟩
set_option maxRecDepth 20000 in
theorem kF_X3_38 : FPf RX3 38 3 12 (.array .int) := ⟨TX3, 20, rfl, by decide, wX3, wl_of 570 rfl rfl, rfl, rfl, by decide +kernel, ⟨tyX3, tyX3_ok⟩, nmX3⟩
set_option maxRecDepth 20000 in
theorem kF_X3_41 : FPf RX3 41 3 13 (.array .int) := ⟨TX3, 20, rfl, by decide, wX3, wl_of 571 rfl rfl, rfl, rfl, by decide +kernel, ⟨tyX3, tyX3_ok⟩, nmX3⟩
set_option maxRecDepth 20000 in
theorem kF_X3_44 : FPf RX3 44 3 14 (.array .int) := ⟨TX3, 20, rfl, by decide, wX3, wl_of 572 rfl rfl, rfl, rfl, by decide +kernel, ⟨tyX3, tyX3_ok⟩, nmX3⟩
set_option maxRecDepth 20000 in
theorem kF_X3_47 : FPf RX3 47 3 15 (.array .int) := ⟨TX3, 20, rfl, by decide, wX3, wl_of 573 rfl rfl, rfl, rfl, by decide +kernel, ⟨tyX3, tyX3_ok⟩, nmX3⟩
set_option maxRecDepth 20000 in
theorem kF_X3_50 : FPf RX3 50 3 16 (.array .int) := ⟨TX3, 20, rfl, by decide, wX3, wl_of 574 rfl rfl, rfl, rfl, by decide +kernel, ⟨tyX3, tyX3_ok⟩, nmX3⟩
set_option maxRecDepth 20000 in
theorem kF_X3_53 : FPf RX3 53 3 18 (.array .int) := ⟨TX3, 20, rfl, by decide, wX3, wl_of 576 rfl rfl, rfl, rfl, by decide +kernel, ⟨tyX3, tyX3_ok⟩, nmX3⟩
def tCells (iA : ClassId) (a : Nat → Nat) : va_W := [(a 0, .inr (1, [.ref (a 1), .ref (a 2), .ref (a 3), .ref (a 4), .ref (a 5), .ref (a 6), .ref (a 7), .ref (a 8), .int 0, .int 0, .int (-1), .int (-1)])), (a 1, .inl (iA, 6, .inl (fun _ => 0))), (a 2, .inl (iA, 6, .inl (fun _ => 0))), (a 3, .inl (iA, 6, .inl (fun _ => 0))), (a 4, .inl (iA, 6, .inl (fun _ => 0))), (a 5, .inl (iA, 6, .inl (fun _ => 0))), (a 6, .inl (iA, 6, .inl (fun _ => 0))), (a 7, .inl (iA, 6, .inl (fun _ => 0))), (a 8, .inl (iA, 6, .inl (fun _ => 0)))]
def xCells (iC : ClassId) (a : Nat → Nat) : va_W := [(a 0, .inr (0, [.ref (a 1), .int 0])), (a 1, .inl (iC, 64, .inl (fun _ => 0)))]
def pCells (iA iC : ClassId) (ad : Nat → Nat) : va_W := (ad 0, .inr (2, [.ref (ad 1), .ref (ad 10), .ref (ad 19), .ref (ad 28), .ref (ad 37), .ref (ad 39), .ref (ad 40), .ref (ad 41), .ref (ad 42), .int 0, .int 0])) :: (((((((((([] ++ tCells iA (fun j => ad (1 + j))) ++ tCells iA (fun j => ad (10 + j))) ++ tCells iA (fun j => ad (19 + j))) ++ tCells iA (fun j => ad (28 + j))) ++ xCells iC (fun j => ad (37 + j))) ++ [(ad 39, .inl (iA, 6, .inl (fun _ => 0)))]) ++ [(ad 40, .inl (iA, 6, .inl (fun _ => 0)))]) ++ [(ad 41, .inl (iA, 6, .inl (fun _ => 0)))]) ++ [(ad 42, .inl (iA, 7, .inl (fun _ => 0)))]))
def mCells (iA : ClassId) (a : Nat → Nat) : va_W := [(a 0, .inr (3, [.ref (a 1), .ref (a 2), .ref (a 3), .ref (a 4), .ref (a 5), .int 0, .int (-9), .int (-9), .ref (a 6), .ref (a 7), .int 0, .int 0, .ref (a 8), .ref (a 9), .ref (a 10), .ref (a 11), .ref (a 12), .int 0, .ref (a 13), .int 0])), (a 1, .inl (iA, 7, .inl (fun _ => 0))), (a 2, .inl (iA, 51, .inl (fun _ => 0))), (a 3, .inl (iA, 51, .inl (fun _ => 0))), (a 4, .inl (iA, 51, .inl (fun _ => 0))), (a 5, .inl (iA, 51, .inl (fun _ => 0))), (a 6, .inl (iA, 64, .inl (fun _ => 0))), (a 7, .inl (iA, 4, .inl (fun _ => 0))), (a 8, .inl (iA, 7, .inl (fun _ => 0))), (a 9, .inl (iA, 51, .inl (fun _ => 0))), (a 10, .inl (iA, 41, .inl (fun _ => 0))), (a 11, .inl (iA, 6, .inl (fun _ => 0))), (a 12, .inl (iA, 6, .inl (fun _ => 0))), (a 13, .inl (iA, 6, .inl (fun _ => 0)))]
-- PavedByNext$Text()
set_option maxHeartbeats 4000000 in
set_option maxRecDepth 100000 in
theorem c_X0_init : IC yX0_init cX0_init { frames := 1, cells := 1, slots := 64, locals := 12 } 1 64 0 [.null, .int 0] (fun G h ws => ∃ a : Nat → Nat, a 0 = h ∧ ws = xCells G.2.2.1 a) := by
  refine IC.of (by decide) rfl (fun x h0 hB => ?_)
  refine VI.obj dX0_init_0 dX0_init_1 (wl_of 119 rfl rfl) (by rw [hB.1]; exact ⟨Nat.le_of_ble_eq_true rfl, Nat.le_of_ble_eq_true rfl⟩) ?_
  refine VI.aload (q := 5) dX0_init_4 rfl ?_
  refine VI.bipush (q := 7) (v := nI 64) dX0_init_5 rfl (by decide +kernel) ?_
  refine VI.newC (q := 9) (N := 64) dX0_init_7 rfl (by decide +kernel) (by decide +kernel) (by decide +kernel) (by rw [hB.1]; exact ⟨Nat.le_of_ble_eq_true rfl, Nat.le_of_ble_eq_true rfl⟩) (fun r7 => ?_)
  refine VI.w (kc2 := 1) (ks2 := 64) (by decide) (by decide) ?_
  refine VI.putR (q := 12) dX0_init_9 rfl kF_X0_9 rfl rfl (Nat.le_of_ble_eq_true rfl) ?_
  exact VI.ret hB dX0_init_12 ⟨fun j => if j = 0 then h0 else if j = 1 then r7 else h0, rfl, rfl⟩
-- PavedByNext$Town()
set_option maxHeartbeats 4000000 in
set_option maxRecDepth 100000 in
theorem c_X1_init : IC yX1_init cX1_init { frames := 1, cells := 8, slots := 48, locals := 12 } 8 48 1 [.null, .null, .null, .null, .null, .null, .null, .null, .int 0, .int 0, .int 0, .int 0] (fun G h ws => ∃ a : Nat → Nat, a 0 = h ∧ ws = tCells G.2.1 a) := by
  refine IC.of (by decide) rfl (fun x h0 hB => ?_)
  refine VI.obj dX1_init_0 dX1_init_1 (wl_of 65 rfl rfl) (by rw [hB.1]; exact ⟨Nat.le_of_ble_eq_true rfl, Nat.le_of_ble_eq_true rfl⟩) ?_
  refine VI.aload (q := 5) dX1_init_4 rfl ?_
  refine VI.bipush (q := 7) (v := nI 6) dX1_init_5 rfl (by decide +kernel) ?_
  refine VI.newI (q := 9) (N := 6) dX1_init_7 rfl (by decide +kernel) (by decide +kernel) (by decide +kernel) (by rw [hB.1]; exact ⟨Nat.le_of_ble_eq_true rfl, Nat.le_of_ble_eq_true rfl⟩) (fun r7 => ?_)
  refine VI.w (kc2 := 1) (ks2 := 6) (by decide) (by decide) ?_
  refine VI.putR (q := 12) dX1_init_9 rfl kF_X1_9 rfl rfl (Nat.le_of_ble_eq_true rfl) ?_
  refine VI.aload (q := 13) dX1_init_12 rfl ?_
  refine VI.bipush (q := 15) (v := nI 6) dX1_init_13 rfl (by decide +kernel) ?_
  refine VI.newI (q := 17) (N := 6) dX1_init_15 rfl (by decide +kernel) (by decide +kernel) (by decide +kernel) (by rw [hB.1]; exact ⟨Nat.le_of_ble_eq_true rfl, Nat.le_of_ble_eq_true rfl⟩) (fun r15 => ?_)
  refine VI.w (kc2 := 2) (ks2 := 12) (by decide) (by decide) ?_
  refine VI.putR (q := 20) dX1_init_17 rfl kF_X1_15 rfl rfl (Nat.le_of_ble_eq_true rfl) ?_
  refine VI.aload (q := 21) dX1_init_20 rfl ?_
  refine VI.bipush (q := 23) (v := nI 6) dX1_init_21 rfl (by decide +kernel) ?_
  refine VI.newI (q := 25) (N := 6) dX1_init_23 rfl (by decide +kernel) (by decide +kernel) (by decide +kernel) (by rw [hB.1]; exact ⟨Nat.le_of_ble_eq_true rfl, Nat.le_of_ble_eq_true rfl⟩) (fun r23 => ?_)
  refine VI.w (kc2 := 3) (ks2 := 18) (by decide) (by decide) ?_
  refine VI.putR (q := 28) dX1_init_25 rfl kF_X1_18 rfl rfl (Nat.le_of_ble_eq_true rfl) ?_
  refine VI.aload (q := 29) dX1_init_28 rfl ?_
  refine VI.bipush (q := 31) (v := nI 6) dX1_init_29 rfl (by decide +kernel) ?_
  refine VI.newI (q := 33) (N := 6) dX1_init_31 rfl (by decide +kernel) (by decide +kernel) (by decide +kernel) (by rw [hB.1]; exact ⟨Nat.le_of_ble_eq_true rfl, Nat.le_of_ble_eq_true rfl⟩) (fun r31 => ?_)
  refine VI.w (kc2 := 4) (ks2 := 24) (by decide) (by decide) ?_
  refine VI.putR (q := 36) dX1_init_33 rfl kF_X1_21 rfl rfl (Nat.le_of_ble_eq_true rfl) ?_
  refine VI.aload (q := 37) dX1_init_36 rfl ?_
  refine VI.bipush (q := 39) (v := nI 6) dX1_init_37 rfl (by decide +kernel) ?_
  refine VI.newI (q := 41) (N := 6) dX1_init_39 rfl (by decide +kernel) (by decide +kernel) (by decide +kernel) (by rw [hB.1]; exact ⟨Nat.le_of_ble_eq_true rfl, Nat.le_of_ble_eq_true rfl⟩) (fun r39 => ?_)
  refine VI.w (kc2 := 5) (ks2 := 30) (by decide) (by decide) ?_
  refine VI.putR (q := 44) dX1_init_41 rfl kF_X1_24 rfl rfl (Nat.le_of_ble_eq_true rfl) ?_
  refine VI.aload (q := 45) dX1_init_44 rfl ?_
  refine VI.bipush (q := 47) (v := nI 6) dX1_init_45 rfl (by decide +kernel) ?_
  refine VI.newI (q := 49) (N := 6) dX1_init_47 rfl (by decide +kernel) (by decide +kernel) (by decide +kernel) (by rw [hB.1]; exact ⟨Nat.le_of_ble_eq_true rfl, Nat.le_of_ble_eq_true rfl⟩) (fun r47 => ?_)
  refine VI.w (kc2 := 6) (ks2 := 36) (by decide) (by decide) ?_
  refine VI.putR (q := 52) dX1_init_49 rfl kF_X1_27 rfl rfl (Nat.le_of_ble_eq_true rfl) ?_
  refine VI.aload (q := 53) dX1_init_52 rfl ?_
  refine VI.bipush (q := 55) (v := nI 6) dX1_init_53 rfl (by decide +kernel) ?_
  refine VI.newI (q := 57) (N := 6) dX1_init_55 rfl (by decide +kernel) (by decide +kernel) (by decide +kernel) (by rw [hB.1]; exact ⟨Nat.le_of_ble_eq_true rfl, Nat.le_of_ble_eq_true rfl⟩) (fun r55 => ?_)
  refine VI.w (kc2 := 7) (ks2 := 42) (by decide) (by decide) ?_
  refine VI.putR (q := 60) dX1_init_57 rfl kF_X1_30 rfl rfl (Nat.le_of_ble_eq_true rfl) ?_
  refine VI.aload (q := 61) dX1_init_60 rfl ?_
  refine VI.bipush (q := 63) (v := nI 6) dX1_init_61 rfl (by decide +kernel) ?_
  refine VI.newI (q := 65) (N := 6) dX1_init_63 rfl (by decide +kernel) (by decide +kernel) (by decide +kernel) (by rw [hB.1]; exact ⟨Nat.le_of_ble_eq_true rfl, Nat.le_of_ble_eq_true rfl⟩) (fun r63 => ?_)
  refine VI.w (kc2 := 8) (ks2 := 48) (by decide) (by decide) ?_
  refine VI.putR (q := 68) dX1_init_65 rfl kF_X1_33 rfl rfl (Nat.le_of_ble_eq_true rfl) ?_
  refine VI.aload (q := 69) dX1_init_68 rfl ?_
  refine VI.iconst (q := 70) (v := (-1)) dX1_init_69 rfl (by decide +kernel) ?_
  refine VI.putI (q := 73) dX1_init_70 rfl kp_X1_36 rfl rfl (Nat.le_of_ble_eq_true rfl) ?_
  refine VI.aload (q := 74) dX1_init_73 rfl ?_
  refine VI.iconst (q := 75) (v := (-1)) dX1_init_74 rfl (by decide +kernel) ?_
  refine VI.putI (q := 78) dX1_init_75 rfl kp_X1_40 rfl rfl (Nat.le_of_ble_eq_true rfl) ?_
  exact VI.ret hB dX1_init_78 ⟨fun j => if j = 0 then h0 else if j = 1 then r7 else if j = 2 then r15 else if j = 3 then r23 else if j = 4 then r31 else if j = 5 then r39 else if j = 6 then r47 else if j = 7 then r55 else if j = 8 then r63 else h0, rfl, rfl⟩
-- PavedByNextModel()
set_option maxHeartbeats 4000000 in
set_option maxRecDepth 100000 in
theorem c_X3_init : IC yX3_init cX3_init { frames := 1, cells := 13, slots := 396, locals := 12 } 13 396 3 [.null, .null, .null, .null, .null, .int 0, .int 0, .int 0, .null, .null, .int 0, .int 0, .null, .null, .null, .null, .null, .int 0, .null, .int 0] (fun G h ws => ∃ a : Nat → Nat, a 0 = h ∧ ws = mCells G.2.1 a) := by
  refine IC.of (by decide) rfl (fun x h0 hB => ?_)
  refine VI.obj dX3_init_0 dX3_init_1 (wl_of 557 rfl rfl) (by rw [hB.1]; exact ⟨Nat.le_of_ble_eq_true rfl, Nat.le_of_ble_eq_true rfl⟩) ?_
  refine VI.aload (q := 5) dX3_init_4 rfl ?_
  refine VI.bipush (q := 7) (v := nI 7) dX3_init_5 rfl (by decide +kernel) ?_
  refine VI.newI (q := 9) (N := 7) dX3_init_7 rfl (by decide +kernel) (by decide +kernel) (by decide +kernel) (by rw [hB.1]; exact ⟨Nat.le_of_ble_eq_true rfl, Nat.le_of_ble_eq_true rfl⟩) (fun r7 => ?_)
  refine VI.w (kc2 := 1) (ks2 := 7) (by decide) (by decide) ?_
  refine VI.putR (q := 12) dX3_init_9 rfl kF_X3_7 rfl rfl (Nat.le_of_ble_eq_true rfl) ?_
  refine VI.aload (q := 13) dX3_init_12 rfl ?_
  refine VI.bipush (q := 15) (v := nI 51) dX3_init_13 rfl (by decide +kernel) ?_
  refine VI.newI (q := 17) (N := 51) dX3_init_15 rfl (by decide +kernel) (by decide +kernel) (by decide +kernel) (by rw [hB.1]; exact ⟨Nat.le_of_ble_eq_true rfl, Nat.le_of_ble_eq_true rfl⟩) (fun r15 => ?_)
  refine VI.w (kc2 := 2) (ks2 := 58) (by decide) (by decide) ?_
  refine VI.putR (q := 20) dX3_init_17 rfl kF_X3_13 rfl rfl (Nat.le_of_ble_eq_true rfl) ?_
  refine VI.aload (q := 21) dX3_init_20 rfl ?_
  refine VI.bipush (q := 23) (v := nI 51) dX3_init_21 rfl (by decide +kernel) ?_
  refine VI.newI (q := 25) (N := 51) dX3_init_23 rfl (by decide +kernel) (by decide +kernel) (by decide +kernel) (by rw [hB.1]; exact ⟨Nat.le_of_ble_eq_true rfl, Nat.le_of_ble_eq_true rfl⟩) (fun r23 => ?_)
  refine VI.w (kc2 := 3) (ks2 := 109) (by decide) (by decide) ?_
  refine VI.putR (q := 28) dX3_init_25 rfl kF_X3_16 rfl rfl (Nat.le_of_ble_eq_true rfl) ?_
  refine VI.aload (q := 29) dX3_init_28 rfl ?_
  refine VI.bipush (q := 31) (v := nI 51) dX3_init_29 rfl (by decide +kernel) ?_
  refine VI.newI (q := 33) (N := 51) dX3_init_31 rfl (by decide +kernel) (by decide +kernel) (by decide +kernel) (by rw [hB.1]; exact ⟨Nat.le_of_ble_eq_true rfl, Nat.le_of_ble_eq_true rfl⟩) (fun r31 => ?_)
  refine VI.w (kc2 := 4) (ks2 := 160) (by decide) (by decide) ?_
  refine VI.putR (q := 36) dX3_init_33 rfl kF_X3_19 rfl rfl (Nat.le_of_ble_eq_true rfl) ?_
  refine VI.aload (q := 37) dX3_init_36 rfl ?_
  refine VI.bipush (q := 39) (v := nI 51) dX3_init_37 rfl (by decide +kernel) ?_
  refine VI.newI (q := 41) (N := 51) dX3_init_39 rfl (by decide +kernel) (by decide +kernel) (by decide +kernel) (by rw [hB.1]; exact ⟨Nat.le_of_ble_eq_true rfl, Nat.le_of_ble_eq_true rfl⟩) (fun r39 => ?_)
  refine VI.w (kc2 := 5) (ks2 := 211) (by decide) (by decide) ?_
  refine VI.putR (q := 44) dX3_init_41 rfl kF_X3_22 rfl rfl (Nat.le_of_ble_eq_true rfl) ?_
  refine VI.aload (q := 45) dX3_init_44 rfl ?_
  refine VI.bipush (q := 47) (v := (-9)) dX3_init_45 rfl (by decide +kernel) ?_
  refine VI.putI (q := 50) dX3_init_47 rfl kp_X3_25 rfl rfl (Nat.le_of_ble_eq_true rfl) ?_
  refine VI.aload (q := 51) dX3_init_50 rfl ?_
  refine VI.bipush (q := 53) (v := (-9)) dX3_init_51 rfl (by decide +kernel) ?_
  refine VI.putI (q := 56) dX3_init_53 rfl kp_X3_29 rfl rfl (Nat.le_of_ble_eq_true rfl) ?_
  refine VI.aload (q := 57) dX3_init_56 rfl ?_
  refine VI.bipush (q := 59) (v := nI 64) dX3_init_57 rfl (by decide +kernel) ?_
  refine VI.newI (q := 61) (N := 64) dX3_init_59 rfl (by decide +kernel) (by decide +kernel) (by decide +kernel) (by rw [hB.1]; exact ⟨Nat.le_of_ble_eq_true rfl, Nat.le_of_ble_eq_true rfl⟩) (fun r59 => ?_)
  refine VI.w (kc2 := 6) (ks2 := 275) (by decide) (by decide) ?_
  refine VI.putR (q := 64) dX3_init_61 rfl kF_X3_32 rfl rfl (Nat.le_of_ble_eq_true rfl) ?_
  refine VI.aload (q := 65) dX3_init_64 rfl ?_
  refine VI.iconst (q := 66) (v := nI 4) dX3_init_65 rfl (by decide +kernel) ?_
  refine VI.newI (q := 68) (N := 4) dX3_init_66 rfl (by decide +kernel) (by decide +kernel) (by decide +kernel) (by rw [hB.1]; exact ⟨Nat.le_of_ble_eq_true rfl, Nat.le_of_ble_eq_true rfl⟩) (fun r66 => ?_)
  refine VI.w (kc2 := 7) (ks2 := 279) (by decide) (by decide) ?_
  refine VI.putR (q := 71) dX3_init_68 rfl kF_X3_35 rfl rfl (Nat.le_of_ble_eq_true rfl) ?_
  refine VI.aload (q := 72) dX3_init_71 rfl ?_
  refine VI.bipush (q := 74) (v := nI 7) dX3_init_72 rfl (by decide +kernel) ?_
  refine VI.newI (q := 76) (N := 7) dX3_init_74 rfl (by decide +kernel) (by decide +kernel) (by decide +kernel) (by rw [hB.1]; exact ⟨Nat.le_of_ble_eq_true rfl, Nat.le_of_ble_eq_true rfl⟩) (fun r74 => ?_)
  refine VI.w (kc2 := 8) (ks2 := 286) (by decide) (by decide) ?_
  refine VI.putR (q := 79) dX3_init_76 rfl kF_X3_38 rfl rfl (Nat.le_of_ble_eq_true rfl) ?_
  refine VI.aload (q := 80) dX3_init_79 rfl ?_
  refine VI.bipush (q := 82) (v := nI 51) dX3_init_80 rfl (by decide +kernel) ?_
  refine VI.newI (q := 84) (N := 51) dX3_init_82 rfl (by decide +kernel) (by decide +kernel) (by decide +kernel) (by rw [hB.1]; exact ⟨Nat.le_of_ble_eq_true rfl, Nat.le_of_ble_eq_true rfl⟩) (fun r82 => ?_)
  refine VI.w (kc2 := 9) (ks2 := 337) (by decide) (by decide) ?_
  refine VI.putR (q := 87) dX3_init_84 rfl kF_X3_41 rfl rfl (Nat.le_of_ble_eq_true rfl) ?_
  refine VI.aload (q := 88) dX3_init_87 rfl ?_
  refine VI.bipush (q := 90) (v := nI 41) dX3_init_88 rfl (by decide +kernel) ?_
  refine VI.newI (q := 92) (N := 41) dX3_init_90 rfl (by decide +kernel) (by decide +kernel) (by decide +kernel) (by rw [hB.1]; exact ⟨Nat.le_of_ble_eq_true rfl, Nat.le_of_ble_eq_true rfl⟩) (fun r90 => ?_)
  refine VI.w (kc2 := 10) (ks2 := 378) (by decide) (by decide) ?_
  refine VI.putR (q := 95) dX3_init_92 rfl kF_X3_44 rfl rfl (Nat.le_of_ble_eq_true rfl) ?_
  refine VI.aload (q := 96) dX3_init_95 rfl ?_
  refine VI.bipush (q := 98) (v := nI 6) dX3_init_96 rfl (by decide +kernel) ?_
  refine VI.newI (q := 100) (N := 6) dX3_init_98 rfl (by decide +kernel) (by decide +kernel) (by decide +kernel) (by rw [hB.1]; exact ⟨Nat.le_of_ble_eq_true rfl, Nat.le_of_ble_eq_true rfl⟩) (fun r98 => ?_)
  refine VI.w (kc2 := 11) (ks2 := 384) (by decide) (by decide) ?_
  refine VI.putR (q := 103) dX3_init_100 rfl kF_X3_47 rfl rfl (Nat.le_of_ble_eq_true rfl) ?_
  refine VI.aload (q := 104) dX3_init_103 rfl ?_
  refine VI.bipush (q := 106) (v := nI 6) dX3_init_104 rfl (by decide +kernel) ?_
  refine VI.newI (q := 108) (N := 6) dX3_init_106 rfl (by decide +kernel) (by decide +kernel) (by decide +kernel) (by rw [hB.1]; exact ⟨Nat.le_of_ble_eq_true rfl, Nat.le_of_ble_eq_true rfl⟩) (fun r106 => ?_)
  refine VI.w (kc2 := 12) (ks2 := 390) (by decide) (by decide) ?_
  refine VI.putR (q := 111) dX3_init_108 rfl kF_X3_50 rfl rfl (Nat.le_of_ble_eq_true rfl) ?_
  refine VI.aload (q := 112) dX3_init_111 rfl ?_
  refine VI.bipush (q := 114) (v := nI 6) dX3_init_112 rfl (by decide +kernel) ?_
  refine VI.newI (q := 116) (N := 6) dX3_init_114 rfl (by decide +kernel) (by decide +kernel) (by decide +kernel) (by rw [hB.1]; exact ⟨Nat.le_of_ble_eq_true rfl, Nat.le_of_ble_eq_true rfl⟩) (fun r114 => ?_)
  refine VI.w (kc2 := 13) (ks2 := 396) (by decide) (by decide) ?_
  refine VI.putR (q := 119) dX3_init_116 rfl kF_X3_53 rfl rfl (Nat.le_of_ble_eq_true rfl) ?_
  exact VI.ret hB dX3_init_119 ⟨fun j => if j = 0 then h0 else if j = 1 then r7 else if j = 2 then r15 else if j = 3 then r23 else if j = 4 then r31 else if j = 5 then r39 else if j = 6 then r59 else if j = 7 then r66 else if j = 8 then r74 else if j = 9 then r82 else if j = 10 then r90 else if j = 11 then r98 else if j = 12 then r106 else if j = 13 then r114 else h0, rfl, rfl⟩
-- PavedByNext()
set_option maxHeartbeats 4000000 in
set_option maxRecDepth 100000 in
theorem c_X2_init : IC yX2_init cX2_init { frames := 2, cells := 42, slots := 331, locals := 32 } 42 331 2 [.null, .null, .null, .null, .null, .null, .null, .null, .null, .int 0, .int 0] (fun G h ws => ∃ a : Nat → Nat, a 0 = h ∧ ws = pCells G.2.1 G.2.2.1 a) := by
  refine IC.of (by decide) rfl (fun x h0 hB => ?_)
  refine VI.obj dX2_init_0 dX2_init_1 (wl_of 57 rfl rfl) (by rw [hB.1]; exact ⟨Nat.le_of_ble_eq_true rfl, Nat.le_of_ble_eq_true rfl⟩) ?_
  refine VI.aload (q := 5) dX2_init_4 rfl ?_
  refine VI.new (q := 8) (fs0 := [.null, .null, .null, .null, .null, .null, .null, .null, .int 0, .int 0, .int 0, .int 0]) dX2_init_5 rfl (show vwCl[1]? = some (RX1, TX1, 12) from rfl) wX1 tyX1 tyX1_ok (wl_of 60 rfl rfl) (wl_of 61 rfl rfl) (wl_of 42 rfl rfl) (fun j hj => by rcases (show j = 0 ∨ j = 1 ∨ j = 2 ∨ j = 3 ∨ j = 4 ∨ j = 5 ∨ j = 6 ∨ j = 7 ∨ j = 8 ∨ j = 9 ∨ j = 10 ∨ j = 11 by omega) with rfl | rfl | rfl | rfl | rfl | rfl | rfl | rfl | rfl | rfl | rfl | rfl <;> rfl) (by rw [hB.1]; exact ⟨Nat.le_of_ble_eq_true rfl, Nat.le_of_ble_eq_true rfl⟩) (fun r5 => ?_)
  refine VI.w (kc2 := 1) (ks2 := 12) (by decide) (by decide) ?_
  refine VI.dup (q := 9) dX2_init_8 rfl rfl ?_
  refine VI.call (q := 12) dX2_init_9 rfl c_X1_init (fun h9 => h9.1) (wl_of 42 rfl rfl) (wl_of 63 rfl rfl) (wl_of 64 rfl rfl) rfl (by decide +kernel) ⟨rfl, rfl⟩ (by rw [hB.1]; exact ⟨Nat.le_of_ble_eq_true rfl, Nat.le_of_ble_eq_true rfl⟩) (by rw [hB.1]; exact ⟨Nat.le_of_ble_eq_true rfl, Nat.le_of_ble_eq_true rfl⟩) (Nat.le_of_ble_eq_true rfl) (fun ws9 hw9 => ?_)
  refine VI.w (kc2 := 9) (ks2 := 60) (by decide) (by decide) ?_
  obtain ⟨a9, rfl, rfl⟩ := hw9
  refine VI.putR (q := 15) dX2_init_12 rfl kF_X2_12 rfl rfl (Nat.le_of_ble_eq_true rfl) ?_
  refine VI.aload (q := 16) dX2_init_15 rfl ?_
  refine VI.new (q := 19) (fs0 := [.null, .null, .null, .null, .null, .null, .null, .null, .int 0, .int 0, .int 0, .int 0]) dX2_init_16 rfl (show vwCl[1]? = some (RX1, TX1, 12) from rfl) wX1 tyX1 tyX1_ok (wl_of 60 rfl rfl) (wl_of 61 rfl rfl) (wl_of 42 rfl rfl) (fun j hj => by rcases (show j = 0 ∨ j = 1 ∨ j = 2 ∨ j = 3 ∨ j = 4 ∨ j = 5 ∨ j = 6 ∨ j = 7 ∨ j = 8 ∨ j = 9 ∨ j = 10 ∨ j = 11 by omega) with rfl | rfl | rfl | rfl | rfl | rfl | rfl | rfl | rfl | rfl | rfl | rfl <;> rfl) (by rw [hB.1]; exact ⟨Nat.le_of_ble_eq_true rfl, Nat.le_of_ble_eq_true rfl⟩) (fun r16 => ?_)
  refine VI.w (kc2 := 10) (ks2 := 72) (by decide) (by decide) ?_
  refine VI.dup (q := 20) dX2_init_19 rfl rfl ?_
  refine VI.call (q := 23) dX2_init_20 rfl c_X1_init (fun h9 => h9.1) (wl_of 42 rfl rfl) (wl_of 63 rfl rfl) (wl_of 64 rfl rfl) rfl (by decide +kernel) ⟨rfl, rfl⟩ (by rw [hB.1]; exact ⟨Nat.le_of_ble_eq_true rfl, Nat.le_of_ble_eq_true rfl⟩) (by rw [hB.1]; exact ⟨Nat.le_of_ble_eq_true rfl, Nat.le_of_ble_eq_true rfl⟩) (Nat.le_of_ble_eq_true rfl) (fun ws20 hw20 => ?_)
  refine VI.w (kc2 := 18) (ks2 := 120) (by decide) (by decide) ?_
  obtain ⟨a20, rfl, rfl⟩ := hw20
  refine VI.putR (q := 26) dX2_init_23 rfl kF_X2_16 rfl rfl (Nat.le_of_ble_eq_true rfl) ?_
  refine VI.aload (q := 27) dX2_init_26 rfl ?_
  refine VI.new (q := 30) (fs0 := [.null, .null, .null, .null, .null, .null, .null, .null, .int 0, .int 0, .int 0, .int 0]) dX2_init_27 rfl (show vwCl[1]? = some (RX1, TX1, 12) from rfl) wX1 tyX1 tyX1_ok (wl_of 60 rfl rfl) (wl_of 61 rfl rfl) (wl_of 42 rfl rfl) (fun j hj => by rcases (show j = 0 ∨ j = 1 ∨ j = 2 ∨ j = 3 ∨ j = 4 ∨ j = 5 ∨ j = 6 ∨ j = 7 ∨ j = 8 ∨ j = 9 ∨ j = 10 ∨ j = 11 by omega) with rfl | rfl | rfl | rfl | rfl | rfl | rfl | rfl | rfl | rfl | rfl | rfl <;> rfl) (by rw [hB.1]; exact ⟨Nat.le_of_ble_eq_true rfl, Nat.le_of_ble_eq_true rfl⟩) (fun r27 => ?_)
  refine VI.w (kc2 := 19) (ks2 := 132) (by decide) (by decide) ?_
  refine VI.dup (q := 31) dX2_init_30 rfl rfl ?_
  refine VI.call (q := 34) dX2_init_31 rfl c_X1_init (fun h9 => h9.1) (wl_of 42 rfl rfl) (wl_of 63 rfl rfl) (wl_of 64 rfl rfl) rfl (by decide +kernel) ⟨rfl, rfl⟩ (by rw [hB.1]; exact ⟨Nat.le_of_ble_eq_true rfl, Nat.le_of_ble_eq_true rfl⟩) (by rw [hB.1]; exact ⟨Nat.le_of_ble_eq_true rfl, Nat.le_of_ble_eq_true rfl⟩) (Nat.le_of_ble_eq_true rfl) (fun ws31 hw31 => ?_)
  refine VI.w (kc2 := 27) (ks2 := 180) (by decide) (by decide) ?_
  obtain ⟨a31, rfl, rfl⟩ := hw31
  refine VI.putR (q := 37) dX2_init_34 rfl kF_X2_19 rfl rfl (Nat.le_of_ble_eq_true rfl) ?_
  refine VI.aload (q := 38) dX2_init_37 rfl ?_
  refine VI.new (q := 41) (fs0 := [.null, .null, .null, .null, .null, .null, .null, .null, .int 0, .int 0, .int 0, .int 0]) dX2_init_38 rfl (show vwCl[1]? = some (RX1, TX1, 12) from rfl) wX1 tyX1 tyX1_ok (wl_of 60 rfl rfl) (wl_of 61 rfl rfl) (wl_of 42 rfl rfl) (fun j hj => by rcases (show j = 0 ∨ j = 1 ∨ j = 2 ∨ j = 3 ∨ j = 4 ∨ j = 5 ∨ j = 6 ∨ j = 7 ∨ j = 8 ∨ j = 9 ∨ j = 10 ∨ j = 11 by omega) with rfl | rfl | rfl | rfl | rfl | rfl | rfl | rfl | rfl | rfl | rfl | rfl <;> rfl) (by rw [hB.1]; exact ⟨Nat.le_of_ble_eq_true rfl, Nat.le_of_ble_eq_true rfl⟩) (fun r38 => ?_)
  refine VI.w (kc2 := 28) (ks2 := 192) (by decide) (by decide) ?_
  refine VI.dup (q := 42) dX2_init_41 rfl rfl ?_
  refine VI.call (q := 45) dX2_init_42 rfl c_X1_init (fun h9 => h9.1) (wl_of 42 rfl rfl) (wl_of 63 rfl rfl) (wl_of 64 rfl rfl) rfl (by decide +kernel) ⟨rfl, rfl⟩ (by rw [hB.1]; exact ⟨Nat.le_of_ble_eq_true rfl, Nat.le_of_ble_eq_true rfl⟩) (by rw [hB.1]; exact ⟨Nat.le_of_ble_eq_true rfl, Nat.le_of_ble_eq_true rfl⟩) (Nat.le_of_ble_eq_true rfl) (fun ws42 hw42 => ?_)
  refine VI.w (kc2 := 36) (ks2 := 240) (by decide) (by decide) ?_
  obtain ⟨a42, rfl, rfl⟩ := hw42
  refine VI.putR (q := 48) dX2_init_45 rfl kF_X2_22 rfl rfl (Nat.le_of_ble_eq_true rfl) ?_
  refine VI.aload (q := 49) dX2_init_48 rfl ?_
  refine VI.new (q := 52) (fs0 := [.null, .int 0]) dX2_init_49 rfl (show vwCl[0]? = some (RX0, TX0, 2) from rfl) wX0 tyX0 tyX0_ok (wl_of 114 rfl rfl) (wl_of 115 rfl rfl) (wl_of 43 rfl rfl) (fun j hj => by rcases (show j = 0 ∨ j = 1 by omega) with rfl | rfl <;> rfl) (by rw [hB.1]; exact ⟨Nat.le_of_ble_eq_true rfl, Nat.le_of_ble_eq_true rfl⟩) (fun r49 => ?_)
  refine VI.w (kc2 := 37) (ks2 := 242) (by decide) (by decide) ?_
  refine VI.dup (q := 53) dX2_init_52 rfl rfl ?_
  refine VI.call (q := 56) dX2_init_53 rfl c_X0_init (fun h9 => h9.2) (wl_of 43 rfl rfl) (wl_of 117 rfl rfl) (wl_of 118 rfl rfl) rfl (by decide +kernel) ⟨rfl, rfl⟩ (by rw [hB.1]; exact ⟨Nat.le_of_ble_eq_true rfl, Nat.le_of_ble_eq_true rfl⟩) (by rw [hB.1]; exact ⟨Nat.le_of_ble_eq_true rfl, Nat.le_of_ble_eq_true rfl⟩) (Nat.le_of_ble_eq_true rfl) (fun ws53 hw53 => ?_)
  refine VI.w (kc2 := 38) (ks2 := 306) (by decide) (by decide) ?_
  obtain ⟨a53, rfl, rfl⟩ := hw53
  refine VI.putR (q := 59) dX2_init_56 rfl kF_X2_28 rfl rfl (Nat.le_of_ble_eq_true rfl) ?_
  refine VI.aload (q := 60) dX2_init_59 rfl ?_
  refine VI.bipush (q := 62) (v := nI 6) dX2_init_60 rfl (by decide +kernel) ?_
  refine VI.newI (q := 64) (N := 6) dX2_init_62 rfl (by decide +kernel) (by decide +kernel) (by decide +kernel) (by rw [hB.1]; exact ⟨Nat.le_of_ble_eq_true rfl, Nat.le_of_ble_eq_true rfl⟩) (fun r62 => ?_)
  refine VI.w (kc2 := 39) (ks2 := 312) (by decide) (by decide) ?_
  refine VI.putR (q := 67) dX2_init_64 rfl kF_X2_32 rfl rfl (Nat.le_of_ble_eq_true rfl) ?_
  refine VI.aload (q := 68) dX2_init_67 rfl ?_
  refine VI.bipush (q := 70) (v := nI 6) dX2_init_68 rfl (by decide +kernel) ?_
  refine VI.newI (q := 72) (N := 6) dX2_init_70 rfl (by decide +kernel) (by decide +kernel) (by decide +kernel) (by rw [hB.1]; exact ⟨Nat.le_of_ble_eq_true rfl, Nat.le_of_ble_eq_true rfl⟩) (fun r70 => ?_)
  refine VI.w (kc2 := 40) (ks2 := 318) (by decide) (by decide) ?_
  refine VI.putR (q := 75) dX2_init_72 rfl kF_X2_36 rfl rfl (Nat.le_of_ble_eq_true rfl) ?_
  refine VI.aload (q := 76) dX2_init_75 rfl ?_
  refine VI.bipush (q := 78) (v := nI 6) dX2_init_76 rfl (by decide +kernel) ?_
  refine VI.newI (q := 80) (N := 6) dX2_init_78 rfl (by decide +kernel) (by decide +kernel) (by decide +kernel) (by rw [hB.1]; exact ⟨Nat.le_of_ble_eq_true rfl, Nat.le_of_ble_eq_true rfl⟩) (fun r78 => ?_)
  refine VI.w (kc2 := 41) (ks2 := 324) (by decide) (by decide) ?_
  refine VI.putR (q := 83) dX2_init_80 rfl kF_X2_39 rfl rfl (Nat.le_of_ble_eq_true rfl) ?_
  refine VI.aload (q := 84) dX2_init_83 rfl ?_
  refine VI.bipush (q := 86) (v := nI 7) dX2_init_84 rfl (by decide +kernel) ?_
  refine VI.newI (q := 88) (N := 7) dX2_init_86 rfl (by decide +kernel) (by decide +kernel) (by decide +kernel) (by rw [hB.1]; exact ⟨Nat.le_of_ble_eq_true rfl, Nat.le_of_ble_eq_true rfl⟩) (fun r86 => ?_)
  refine VI.w (kc2 := 42) (ks2 := 331) (by decide) (by decide) ?_
  refine VI.putR (q := 91) dX2_init_88 rfl kF_X2_42 rfl rfl (Nat.le_of_ble_eq_true rfl) ?_
  exact VI.ret hB dX2_init_91 ⟨fun j => if j = 0 then h0 else if j < 10 then a9 (j - 1) else if j < 19 then a20 (j - 10) else if j < 28 then a31 (j - 19) else if j < 37 then a42 (j - 28) else if j < 39 then a53 (j - 37) else if j = 39 then r62 else if j = 40 then r70 else if j = 41 then r78 else r86, rfl, rfl⟩
