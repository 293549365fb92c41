/-! THE CLAIM OUT OF ONE WALK OF THE LAW'S BODY. Your part is whole_start (and what it stands on); all else here is the same for every law, but numbers. -/
def R_law : String := "PavedByNextLaw"
def lw_P (b : Addr) (xs : List Int32) (args : Array Value) (s : State) : Prop := args = #[.ref b] ∧ s.IntsAt b xs ∧ xs.length ≤ 2048 ∧ (Jvm.Cond.and given_1 narrow_1).before args s = true
def lw_Q (_ : Array Value) (s : State) (o : Outcome) (t : State) : Prop := o = .returned (some (.int 1)) ∧ Framed s o t [] 600000 7302250
def lw_Z (below : List Frame) (a : Array Value) (s : State) : State → Prop := fun t => ∃ o, t.status = .running ∧ Ended t below o ∧ lw_Q a s o t
/-- the law's own end, with 1 on the stack, nothing written that was there before, its room as the claim has it -/
theorem lw_ret {p : Program} {l : Launch} {e : Env} {s : State} {m : MethodId} {below : List Frame} {meth : Method} {c : Code} {b : Nat} (hx : p.tables.exec = Jvm.exec) (hb : c.code = code) (hr : meth.sig.returnType = ret) (hlocks : meth.locks = false) {pc : Nat} {H : Heap} {ls : Array Slot} (hdg : decode code pc = .ok (.ireturn, 1)) : W p l e room_1 s m #[Value.ref b] below meth c H [] 600000 7302250 (lw_Z below #[Value.ref b] s) (F0 m pc ls [.int 1]) := by
  intro T hT X
  obtain ⟨fs, hret, hrun, hended, hW, hframe⟩ := X.leave (v := some (.int 1)) (hlocks := hlocks) (fun h => by rw [hr] at h; cases h)
  have hmeth' : T.vm.method? m = some meth := X.method'
  refine ⟨T.setFrames fs, ?_, .returned (some (.int 1)), hrun, hended, rfl, ⟨_, rfl⟩, hW, hframe⟩
  jvm_step X.here [X.here.top, hx, hb, hdg, hmeth', hr, ret, narrow_b1]
  (try refine ⟨rfl, ?_⟩); (try refine ⟨rfl, ?_⟩)
  first | (intro acts; rw [hret _ acts rfl rfl rfl]) | rw [hret _ _ rfl rfl rfl]
  exact Steps.refl _
/-- what holds at the law's entry: the machine, the code, the tables' words (any of lw_tbl by 'hts w (by decide +kernel)'), the script of L ints xs at the cell b, what the Statement gives of the start (any of its parts by flat_of_before) -/
def lw_At (p : Program) (s : State) (m : MethodId) (meth : Method) (c : Code) (b L : Nat) (xs : Nat → Int32) : Prop :=
  p.tables.exec = Jvm.exec ∧ c.code = code ∧ meth.sig.returnType = ret ∧ c.maxLocals = 4 ∧ s.vm.findClass R_law = some m.cls ∧ (∀ w ∈ lw_tbl, w.before #[Value.ref b] s = true) ∧ va_X b L xs s s.heap ∧ b < s.heap.size ∧ meth.locks = false ∧ (Jvm.Cond.and given_1 narrow_1).before #[Value.ref b] s = true
/-! the first world -/
def twI : Nat → Int32
  | 10 => -1
  | 11 => -1
  | _ => 0
def mdI : Nat → Int32
  | 6 => -9
  | 7 => -9
  | _ => 0
def σI : Sg := fun o => if o = 1 then twI else if o = 10 then twI else if o = 19 then twI else if o = 28 then twI else if o = 43 then mdI else fun _ => 0
set_option maxRecDepth 100000 in
theorem world_I (G : Gx) : world G σI = pCells G.2.1 G.2.2.1 G.2.2.2 ++ mCells G.2.1 (fun j => G.2.2.2 (43 + j)) := rfl
theorem Iv_I : Iv σI := by
  refine Iv.mk (n := 0) (y := 0) (τ := fun _ _ => 0) (fl := 0) (n2 := 0) (y2 := 0) (τ2 := fun _ _ => 0) (m := 0) (cs := fun _ => 0) (rl := 0) (ro := fun _ => 0) (rc := fun _ => 0) ?_ ?_
  · refine ⟨⟨⟨by decide, by decide, rfl, rfl, rfl, rfl, fun f _ i hi => absurd hi (Nat.not_lt_zero i), fun i hi => absurd hi (Nat.not_lt_zero i)⟩, by decide⟩, ⟨rfl, by decide, fun h => absurd h (by decide)⟩, ⟨by decide, rfl, fun i hi => absurd hi (Nat.not_lt_zero i)⟩, ⟨rfl, by decide, fun i hi => absurd hi (Nat.not_lt_zero i)⟩, fun k _ _ => rfl⟩
  · refine ⟨⟨⟨⟨by decide, by decide, rfl, rfl, fun i hi => absurd hi (Nat.not_lt_zero i), fun i hi => absurd hi (Nat.not_lt_zero i)⟩, rfl, rfl⟩, by decide⟩, ⟨rfl, by decide, fun h => absurd h (by decide)⟩, ⟨by decide, rfl, fun i hi => absurd hi (Nat.not_lt_zero i)⟩, ⟨rfl, by decide, fun i hi => absurd hi (Nat.not_lt_zero i)⟩, fun k _ _ => rfl⟩
theorem eq_rf {args : Array Value} {s : State} {a b : Term} {q : Nat} (h : (Cond.eq a b).before args s = true) (ha : a.eval args s none [] s = some (.ref q)) : b.eval args s none [] s = some (.ref q) := by
  cases hv : b.eval args s none [] s with
  | none => simp [Cond.before, Cond.holds, Cond.value, ha, hv] at h
  | some w =>
    simp only [Cond.before, Cond.holds, Cond.value, ha, hv] at h
    cases w <;> simp_all
set_option maxRecDepth 100000 in
theorem text_at {s : State} {b : Nat} (hts : ∀ w ∈ lw_tbl, w.before #[Value.ref b] s = true) (hgv : (Jvm.Cond.and given_1 narrow_1).before #[Value.ref b] s = true) : ∃ (aK aV : Nat), NF s ∧ vk_S 1 KLen KByt (fun _ => aK) (fun _ => aV) (fun q => s.heap.size ≤ q) s s.heap ∧ vk_R RX0 43 "dltwmc" aK s ∧ vk_R RX2 178 "dltwmc" aK s ∧ va_Z "java/lang/String" "COMPACT_STRINGS" "Z" (.int 1) (fun q => s.heap.size ≤ q) s s.heap := by
  have hq := flat_of_before _ hgv
  have hA : ∀ a : Nat, a < s.heap.size → ¬ (fun q => s.heap.size ≤ q) a := fun a h => Nat.not_le.mpr h
  obtain ⟨adK, adV, hSt, hEv⟩ := vk_Sof (args := #[Value.ref b]) (s := s) (N := 1) (tm := fun _ => Term.string "PavedByNext$Text" 43) (len := KLen) (byt := KByt) (A := fun q => s.heap.size ≤ q)
    (fun i hi => by rcases (show i = 0 by omega) with rfl; decide)
    (fun i hi => by rcases (show i = 0 by omega) with rfl; exact hq _ (by decide +kernel))
    (fun i hi => by rcases (show i = 0 by omega) with rfl; exact hq _ (by decide +kernel))
    (fun i hi => by rcases (show i = 0 by omega) with rfl; exact hq _ (by decide +kernel))
    (fun i hi => by rcases (show i = 0 by omega) with rfl; exact hq _ (by decide +kernel))
    (fun i hi j hj => by
      rcases (show i = 0 by omega) with rfl
      have hj6 : j < 6 := hj
      rcases (show j = 0 ∨ j = 1 ∨ j = 2 ∨ j = 3 ∨ j = 4 ∨ j = 5 by omega) with rfl | rfl | rfl | rfl | rfl | rfl <;> exact hq _ (by decide +kernel))
    (fun i j hi hj hij => absurd (show i = j by omega) hij) hA
  have hE0 := hEv 0 (by decide)
  refine ⟨adK 0, adV 0, ?_, ⟨fun i hi => by rcases (show i = 0 by omega) with rfl; exact hSt.1 0 hi, fun i j hi hj _ => by omega⟩, vk_R.of (hts _ (List.mem_of_getElem? (i := 205) rfl)) hE0, vk_R.of (hts _ (List.mem_of_getElem? (i := 310) rfl)) (eq_rf (hq _ (by decide +kernel)) hE0), va_Zof (hts _ (List.mem_of_getElem? (i := 219) rfl)) (hts _ (List.mem_of_getElem? (i := 45) rfl)) (va_eqi (hq _ (by decide +kernel))) hA⟩
  show ∀ q ∈ [(73, RX1, "kind", "[I"), (76, RX1, "mud", "[I"), (79, RX1, "wear", "[I"), (82, RX1, "hands", "[I"), (85, RX1, "pence", "[I"), (88, RX1, "mends", "[I"), (91, RX1, "mended", "[I"), (120, RX1, "count", "I"), (97, RX1, "year", "I"), (132, RX1, "lazed", "I"), (61, RX0, "length", "I")], va_Nw (.fieldLinkNest RX2 q.1 q.2.1 q.2.2.1 q.2.2.2 RX2) s
  exact List.forall_mem_cons.mpr ⟨va_Nw.of rfl (hts _ (List.mem_of_getElem? (i := 67) rfl)), List.forall_mem_cons.mpr ⟨va_Nw.of rfl (hts _ (List.mem_of_getElem? (i := 69) rfl)), List.forall_mem_cons.mpr ⟨va_Nw.of rfl (hts _ (List.mem_of_getElem? (i := 71) rfl)), List.forall_mem_cons.mpr ⟨va_Nw.of rfl (hts _ (List.mem_of_getElem? (i := 73) rfl)), List.forall_mem_cons.mpr ⟨va_Nw.of rfl (hts _ (List.mem_of_getElem? (i := 75) rfl)), List.forall_mem_cons.mpr ⟨va_Nw.of rfl (hts _ (List.mem_of_getElem? (i := 77) rfl)), List.forall_mem_cons.mpr ⟨va_Nw.of rfl (hts _ (List.mem_of_getElem? (i := 79) rfl)), List.forall_mem_cons.mpr ⟨va_Nw.of rfl (hts _ (List.mem_of_getElem? (i := 82) rfl)), List.forall_mem_cons.mpr ⟨va_Nw.of rfl (hts _ (List.mem_of_getElem? (i := 84) rfl)), List.forall_mem_cons.mpr ⟨va_Nw.of rfl (hts _ (List.mem_of_getElem? (i := 86) rfl)), List.forall_mem_cons.mpr ⟨va_Nw.of rfl (hts _ (List.mem_of_getElem? (i := 122) rfl)), fun _ h9 => absurd h9 List.not_mem_nil⟩⟩⟩⟩⟩⟩⟩⟩⟩⟩⟩
set_option maxRecDepth 100000 in
theorem kn_at {s : State} {b : Nat} (hts : ∀ w ∈ lw_tbl, w.before #[Value.ref b] s = true) : ∃ (D : va_G) (iA iC : ClassId), va_K D vwCl [(iA, .int), (iC, .char)] s := by
  have htW : ∀ w ∈ WL, w.before #[Value.ref b] s = true := fun w h => hts w (wl_in h)
  obtain ⟨c0, iS0, hKn0⟩ := u_known (C := RX0) (T := TX0) (N := 2) (n := 2) htW wX0 (htW _ (wl_of 115 rfl rfl))
  obtain ⟨c1, iS1, hKn1⟩ := u_known (C := RX1) (T := TX1) (N := 12) (n := 12) htW wX1 (htW _ (wl_of 61 rfl rfl))
  obtain ⟨c2, iS2, hKn2⟩ := u_known (C := RX2) (T := TX2) (N := 11) (n := 11) htW wX2 (htW _ (wl_of 53 rfl rfl))
  obtain ⟨c3, iS3, hKn3⟩ := u_known (C := RX3) (T := TX3) (N := 20) (n := 20) htW wX3 (htW _ (wl_of 553 rfl rfl))
  obtain ⟨iA, kA, cA, hA1, hA2, hA3⟩ := Cond.arrayClass_spec (htW _ (wl_of 113 rfl rfl))
  obtain ⟨iC, kC, cC, hC1, hC2, hC3⟩ := Cond.arrayClass_spec (htW _ (wl_of 128 rfl rfl))
  refine ⟨(fun k => if k = 0 then c0 else if k = 1 then c1 else if k = 2 then c2 else c3, fun k => if k = 0 then iS0 else if k = 1 then iS1 else if k = 2 then iS2 else iS3), iA, iC, fun k q hq => ?_, fun k q hq => ?_⟩
  · match k, hq with
    | 0, hq => cases hq; exact hKn0
    | 1, hq => cases hq; exact hKn1
    | 2, hq => cases hq; exact hKn2
    | 3, hq => cases hq; exact hKn3
    | k + 4, hq => simp [vwCl] at hq
  · match k, hq with
    | 0, hq => cases hq; exact ⟨fun n z => ⟨fun k h => (by cases h), kA, hA2, cA, hA3⟩, hA1⟩
    | 1, hq => cases hq; exact ⟨fun n z => ⟨fun k h => (by cases h), kC, hC2, cC, hC3⟩, hC1⟩
    | k + 2, hq => simp at hq
set_option maxHeartbeats 4000000 in
set_option maxRecDepth 100000 in
/-- the loop, from the first world on -/
theorem law_go {p : Program} {e : Env} {s : State} {m : MethodId} {below : List Frame} {meth : Method} {c : Code} (l : Launch) {b L : Nat} {ys : Nat → Int32} (hL : L ≤ 2048) (C0 : lw_At p s m meth c b L ys) {D : va_G} {iA iC : ClassId} (hKF : va_K D vwCl [(iA, .int), (iC, .char)] s) {aK aV : Nat} (hNF : NF s) (hSt : vk_S 1 KLen KByt (fun _ => aK) (fun _ => aV) (fun q => s.heap.size ≤ q) s s.heap) (hR1 : vk_R RX0 43 "dltwmc" aK s) (hR2 : vk_R RX2 178 "dltwmc" aK s) (hZ : va_Z "java/lang/String" "COMPACT_STRINGS" "Z" (.int 1) (fun q => s.heap.size ≤ q) s s.heap)
    {a2 a3 : Nat → Nat} {H : Heap} {locs : List Loc} {ls : Array Slot} (hP : va_P D vwCl (([] ++ pCells iA iC a2) ++ mCells iA a3) H) (hD : va_D (fun q : Nat => s.heap.size ≤ q) (([] ++ pCells iA iC a2) ++ mCells iA a3)) (hS : va_S (fun q : Nat => s.heap.size ≤ q) s.heap H locs) (hl : lv_has ls 4 [(3, .int (nI 0)), (2, .ref (a3 0)), (1, .ref (a2 0)), (0, .ref b)]) :
    W p l e room_1 s m #[Value.ref b] below meth c H locs 57 758 (lw_Z below #[Value.ref b] s) (F0 m 18 ls []) := by
  obtain ⟨hx, hb, hr, hml, hown, hts, hX, hbl, hlocks, hgv⟩ := id C0
  have hown : s.vm.findClass RL = some m.cls := hown
  have htW : ∀ w ∈ WL, w.before #[Value.ref b] s = true := fun w h => hts w (wl_in h)
  have hbA : ¬ (fun q : Nat => s.heap.size ≤ q) b := Nat.not_le.mpr hbl
  let ad : Nat → Nat := fun o => if o < 43 then a2 o else if o < 57 then a3 (o - 43) else if o = 100 then aK else if o = 101 then aV else b
  let x : Cx := (p, l, e, room_1, s, m, #[Value.ref b], below, meth, c, 57, 758, lw_Z below #[Value.ref b] s, fun q : Nat => s.heap.size ≤ q, (D, iA, iC, ad))
  have hC : LC x ys L := ⟨hX, hbl, hbA, hL, fun d hd => by
    show d + 1 ≤ 2048 ∧ 64 * (d + 1) ≤ 84000
    omega⟩
  have hE : ∀ (i : Nat) (σ : Sg), V x RL cL_law 4 907 [some (.ref 102), some (.ref 0), some (.ref 43), some (.int (nI i))] [] σ := by
    intro i σ hF H locs ls hP hS hl
    refine lv_iconst (v := 1) hx hb dL_law_907 (by decide +kernel) ?_
    refine va_forget (fun q hq => hS.2.2 q hq) ?_
    refine W.widen (k := 600000) (n := 7302250) (Nat.le_of_ble_eq_true rfl) (Nat.le_of_ble_eq_true rfl) ?_
    exact lw_ret hx hb hr hlocks dL_law_908
  have hw : world (D, iA, iC, ad) σI = ([] ++ pCells iA iC a2) ++ mCells iA a3 := world_I (D, iA, iC, ad)
  have hV := law_loop hC hE (L + 4) 0 (by omega) (by omega) σI Iv_I
  refine hV ⟨hx, hb, hml, hown, htW, hKF, world_D (σ := σI) (by show va_D _ (world (D, iA, iC, ad) σI); rw [hw]; exact hD), ⟨hNF, hSt, hR1, hR2, hZ⟩, fun q h => h, Nat.le_of_ble_eq_true rfl, Nat.le_of_ble_eq_true rfl⟩ H locs ls (by show va_P D vwCl (world (D, iA, iC, ad) σI) H; rw [hw]; exact hP) hS ⟨hl.1, by decide, hl.2.1, fun k v hk => ?_⟩
  match k, hk with
  | 0, hk => cases hk; exact ⟨lv_at hl 3 rfl, rfl⟩
  | 1, hk => cases hk; exact ⟨lv_at hl 2 rfl, rfl⟩
  | 2, hk => cases hk; exact ⟨lv_at hl 1 rfl, rfl⟩
  | 3, hk => cases hk; exact ⟨lv_at hl 0 rfl, rfl⟩
  | k + 4, hk => simp at hk
set_option maxHeartbeats 4000000 in
set_option maxRecDepth 100000 in
/-- the law, from its entry -/
theorem whole_start {p : Program} {e : Env} {s : State} {m : MethodId} {below : List Frame} {meth : Method} {c : Code} (l : Launch) (hflags : l.flags = flags0) {b L : Nat} {xs : Nat → Int32} (hL : L ≤ 2048) (C0 : lw_At p s m meth c b L xs) : W p l e room_1 s m #[Value.ref b] below meth c s.heap [] 0 0 (lw_Z below #[Value.ref b] s) (entryFrame m ([Value.ref b] : List Value).toArray 4) := by
  obtain ⟨hx, hb, hr, hml, hown, hts, hX, hbl, hlocks, hgv⟩ := id C0
  have hown : s.vm.findClass RL = some m.cls := hown
  have htW : ∀ w ∈ WL, w.before #[Value.ref b] s = true := fun w h => hts w (wl_in h)
  have hA : ∀ q : Nat, s.heap.size ≤ q → (fun q : Nat => s.heap.size ≤ q) q := fun _ h => h
  have hbA : ¬ (fun q : Nat => s.heap.size ≤ q) b := Nat.not_le.mpr hbl
  obtain ⟨D, iA, iC, hKF⟩ := kn_at hts
  obtain ⟨aK, aV, hNF, hSt, hR1, hR2, hZ⟩ := text_at hts hgv
  have hNN : NN s := ⟨va_Nw.of rfl (hts _ (List.mem_of_getElem? (i := 62) rfl)), va_Nw.of rfl (hts _ (List.mem_of_getElem? (i := 116) rfl))⟩
  have hS : va_S (fun q : Nat => s.heap.size ≤ q) s.heap s.heap [] := va_S.rf
  have hP : va_P D vwCl [] s.heap := fun k q h => by simp at h
  have hD : va_D (fun q : Nat => s.heap.size ≤ q) [] := ⟨fun i j p q h => by simp at h, fun k q h => by simp at h⟩
  have hl := lv_entry ([.ref b]) (n := 4) (Nat.le_of_ble_eq_true rfl)
  rw [lg_entry_eq]
  generalize (lg_sl ([.ref b]) ++ List.replicate (4 - (lg_sl ([.ref b])).length) Slot.unset).toArray = ls at hl ⊢
  have hl : lv_has ls 4 [(0, .ref b)] := hl
  refine va_new (ci := 2) (fs := [.null, .null, .null, .null, .null, .null, .null, .null, .null, .int 0, .int 0]) (C := RX2) (T := TX2) (N := 11) hx hb htW wX2 tyX2 tyX2_ok hown (htW _ (wl_of 52 rfl rfl)) (htW _ (wl_of 53 rfl rfl)) (htW _ (wl_of 41 rfl rfl)) hKF hP hD hS hA rfl (fun j hj => by rcases (show j = 0 ∨ j = 1 ∨ j = 2 ∨ j = 3 ∨ j = 4 ∨ j = 5 ∨ j = 6 ∨ j = 7 ∨ j = 8 ∨ j = 9 ∨ j = 10 by omega) with rfl | rfl | rfl | rfl | rfl | rfl | rfl | rfl | rfl | rfl | rfl <;> rfl) (Nat.le_of_ble_eq_true rfl) (Nat.le_of_ble_eq_true rfl) dL_law_0 (fun q0 H hP hD hS => ?_)
  refine W.widen (k := 1) (n := 11) (by decide) (by decide) ?_
  refine lv_dup hx hb dL_law_3 rfl ?_
  have hPc := rt_P hP
  have hDc := rt_D hD
  have hFc := rt_F hD hS hA
  refine va_callv (va_runI (As := []) (rest := [.ref q0]) ⟨hx, hb, hml, hown, htW⟩ (c_X2_init l (D, iA, iC, fun _ => 0) q0 H.size) (cwI 0 htW (gd_init (wl_of 56 rfl rfl)) rfl rfl rfl (htW _ (wl_of 41 rfl rfl)) (htW _ (wl_of 54 rfl rfl)) (htW _ (wl_of 55 rfl rfl)) rfl (by decide +kernel) ⟨Nat.le_of_ble_eq_true rfl, Nat.le_of_ble_eq_true rfl⟩) ⟨IC_blind, fun U hU hW => ⟨rfl, by rw [hU], by rw [hU]; exact hPc, va_K.moved hW.alike hKF, NN.warm hW hNN, hDc.weaken (fun _ _ _ _ => trivial)⟩⟩ rfl rfl hl.1 rfl (lv_room (Nat.le_of_ble_eq_true rfl)) dL_law_4 ⟨Nat.le_of_ble_eq_true rfl, Nat.le_of_ble_eq_true rfl⟩) hS (fun q _ h => hFc q h) hFc (fun ws1 t H1 locs ht hvm hw hB hz1 hk1 hS => ?_)
  obtain ⟨a2, rfl, rfl⟩ := hw
  obtain ⟨hP1, hD1⟩ := hB
  rw [ht] at hP1
  obtain ⟨hP, hD⟩ := jn hP hD hk1 hFc hP1 hD1
  generalize H1 = H at hP hS ⊢
  refine W.widen (k := 43) (n := 342) (by decide) (by decide) ?_
  refine lv_astore_n (lv' := [(1, .ref (a2 0)), (0, .ref b)]) hx hb dL_law_7 rfl hl (by decide) rfl (fun ls hl => ?_)
  refine va_new (ci := 3) (fs := [.null, .null, .null, .null, .null, .int 0, .int 0, .int 0, .null, .null, .int 0, .int 0, .null, .null, .null, .null, .null, .int 0, .null, .int 0]) (C := RX3) (T := TX3) (N := 20) hx hb htW wX3 tyX3 tyX3_ok hown (htW _ (wl_of 552 rfl rfl)) (htW _ (wl_of 553 rfl rfl)) (htW _ (wl_of 44 rfl rfl)) hKF hP hD hS hA rfl (fun j hj => by rcases (show j = 0 ∨ j = 1 ∨ j = 2 ∨ j = 3 ∨ j = 4 ∨ j = 5 ∨ j = 6 ∨ j = 7 ∨ j = 8 ∨ j = 9 ∨ j = 10 ∨ j = 11 ∨ j = 12 ∨ j = 13 ∨ j = 14 ∨ j = 15 ∨ j = 16 ∨ j = 17 ∨ j = 18 ∨ j = 19 by omega) with rfl | rfl | rfl | rfl | rfl | rfl | rfl | rfl | rfl | rfl | rfl | rfl | rfl | rfl | rfl | rfl | rfl | rfl | rfl | rfl <;> rfl) (Nat.le_of_ble_eq_true rfl) (Nat.le_of_ble_eq_true rfl) dL_law_8 (fun q1 H hP hD hS => ?_)
  refine W.widen (k := 44) (n := 362) (by decide) (by decide) ?_
  refine lv_dup hx hb dL_law_11 rfl ?_
  have hPc := rt_P hP
  have hDc := rt_D hD
  have hFc := rt_F hD hS hA
  refine va_callv (va_runI (As := []) (rest := [.ref q1]) ⟨hx, hb, hml, hown, htW⟩ (c_X3_init l (D, iA, iC, fun _ => 0) q1 H.size) (cwI 0 htW (gd_init (wl_of 556 rfl rfl)) rfl rfl rfl (htW _ (wl_of 44 rfl rfl)) (htW _ (wl_of 554 rfl rfl)) (htW _ (wl_of 555 rfl rfl)) rfl (by decide +kernel) ⟨Nat.le_of_ble_eq_true rfl, Nat.le_of_ble_eq_true rfl⟩) ⟨IC_blind, fun U hU hW => ⟨rfl, by rw [hU], by rw [hU]; exact hPc, va_K.moved hW.alike hKF, NN.warm hW hNN, hDc.weaken (fun _ _ _ _ => trivial)⟩⟩ rfl rfl hl.1 rfl (lv_room (Nat.le_of_ble_eq_true rfl)) dL_law_12 ⟨Nat.le_of_ble_eq_true rfl, Nat.le_of_ble_eq_true rfl⟩) hS (fun q _ h => hFc q h) hFc (fun ws1 t H1 locs ht hvm hw hB hz1 hk1 hS => ?_)
  obtain ⟨a3, rfl, rfl⟩ := hw
  obtain ⟨hP1, hD1⟩ := hB
  rw [ht] at hP1
  obtain ⟨hP, hD⟩ := jn hP hD hk1 hFc hP1 hD1
  generalize H1 = H at hP hS ⊢
  refine W.widen (k := 57) (n := 758) (by decide) (by decide) ?_
  refine lv_astore_n (lv' := [(2, .ref (a3 0)), (1, .ref (a2 0)), (0, .ref b)]) hx hb dL_law_15 rfl hl (by decide) rfl (fun ls hl => ?_)
  refine lv_iconst (v := nI 0) hx hb dL_law_16 (by decide +kernel) ?_
  refine lv_istore_n (lv' := [(3, .int (nI 0)), (2, .ref (a3 0)), (1, .ref (a2 0)), (0, .ref b)]) hx hb dL_law_17 rfl hl (by decide) rfl (fun ls hl => ?_)
  exact law_go l hL C0 hKF hNF hSt hR1 hR2 hZ hP hD hS hl
