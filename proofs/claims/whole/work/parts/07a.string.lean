/-! the text "dltwmc", and its indexOf -/
def kbN (i : Nat) : Nat := [100, 108, 116, 119, 109, 99].getD i 0
theorem kb_all : ∀ i, i < 6 → (KByt.getD 0 []).getD i 0 = nI (kbN i) ∧ kbN i < 128 := by decide +kernel
theorem nI_one : nI 1 = 1 := by decide +kernel
def LkW (own : String) (idx : Nat) (y : MethodName) (cc : ByteArray) (nL : Nat) (ret : Option FieldType) (n : Nat) : Prop := LkV own idx y cc nL ret n ∧ y.cls = "java/lang/String"
section VS
variable {x : Cx} {own : String} {cc : ByteArray} {nL pc q : Nat} {L : List (Option Value)} {st : List Value} {σ : Sg}
theorem SF_sK {G : Gx} {A : Nat → Prop} {U : State} {H : Heap} (h : SF G A U H) : va_O "java/lang/String" (G.2.2.2 100) A U H ∧ va_OF "java/lang/String" "coder" "B" (.int 0) (G.2.2.2 100) A U H ∧ va_OF "java/lang/String" "value" "[B" (.ref (G.2.2.2 101)) (G.2.2.2 100) A U H ∧ va_T .byte (G.2.2.2 101) 6 (fun j => .int ((KByt.getD 0 []).getD j 0)) A U H := h.2.1.1 0 (by decide)
theorem V.ldcS0 (hd : decode cc pc = .ok (.ldc 43, 2)) (e : pc + 2 = q) (ho : own = RX0) (h : V x own cc nL q L (.ref 100 :: st) σ) : V x own cc nL pc L st σ := by
  intro hF H locs ls hP hS hl1
  subst ho
  exact va_ldcS hF.1 hF.2.1 hF.2.2.2.1 hF.2.2.2.2.2.2.2.1.2.2.1 hd (e ▸ h hF H locs ls hP hS hl1)
theorem V.ldcS2 (hd : decode cc pc = .ok (.ldc 178, 2)) (e : pc + 2 = q) (ho : own = RX2) (h : V x own cc nL q L (.ref 100 :: st) σ) : V x own cc nL pc L st σ := by
  intro hF H locs ls hP hS hl1
  subst ho
  exact va_ldcS hF.1 hF.2.1 hF.2.2.2.1 hF.2.2.2.2.2.2.2.1.2.2.2.1 hd (e ▸ h hF H locs ls hP hS hl1)
theorem V.getCod {idx : Nat} (hd : decode cc pc = .ok (.getfield idx, 3)) (e : pc + 3 = q) (hk : Cond.fieldLink own idx "java/lang/String" "coder" "B" ∈ WL) (h : V x own cc nL q L (.int (nI 0) :: st) σ) : V x own cc nL pc L (.ref 100 :: st) σ := by
  intro hF H locs ls hP hS hl1
  rw [nI_0] at h
  exact vk_getf hF.1 hF.2.1 (SF_sK hF.2.2.2.2.2.2.2.1).2.1 hS hF.2.2.2.1 (wl_hts hF hk) (fun _ h9 => h9) hd (e ▸ h hF H locs ls hP hS hl1)
theorem V.getVal {idx : Nat} (hd : decode cc pc = .ok (.getfield idx, 3)) (e : pc + 3 = q) (hk : Cond.fieldLink own idx "java/lang/String" "value" "[B" ∈ WL) (h : V x own cc nL q L (.ref 101 :: st) σ) : V x own cc nL pc L (.ref 100 :: st) σ := by
  intro hF H locs ls hP hS hl1
  exact vk_getf hF.1 hF.2.1 (SF_sK hF.2.2.2.2.2.2.2.1).2.2.1 hS hF.2.2.2.1 (wl_hts hF hk) (fun _ h9 => h9) hd (e ▸ h hF H locs ls hP hS hl1)
theorem V.getsC {idx : Nat} (hd : decode cc pc = .ok (.getstatic idx, 3)) (e : pc + 3 = q) (hk : Cond.fieldLink own idx "java/lang/String" "COMPACT_STRINGS" "Z" ∈ WL) (h : V x own cc nL q L (.int (nI 1) :: st) σ) : V x own cc nL pc L st σ := by
  intro hF H locs ls hP hS hl1
  rw [nI_one] at h
  exact va_gets hF.1 hF.2.1 hF.2.2.2.2.2.2.2.1.2.2.2.2 hS hF.2.2.2.1 (wl_hts hF hk) (fun _ h9 => h9) hd (e ▸ h hF H locs ls hP hS hl1)
theorem V.lenS (hd : decode cc pc = .ok (.arraylength, 1)) (e : pc + 1 = q) (h : V x own cc nL q L (.int (nI 6) :: st) σ) : V x own cc nL pc L (.ref 101 :: st) σ := by
  intro hF H locs ls hP hS hl1
  exact va_tlen hF.1 hF.2.1 (SF_sK hF.2.2.2.2.2.2.2.1).2.2.2 hS rfl hd (e ▸ h hF H locs ls hP hS hl1)
theorem V.baldS {i : Nat} (hd : decode cc pc = .ok (.baload, 1)) (e : pc + 1 = q) (hi : i < 6) (h : V x own cc nL q L (.int (nI (kbN i)) :: st) σ) : V x own cc nL pc L (.int (nI i) :: .ref 101 :: st) σ := by
  intro hF H locs ls hP hS hl1
  exact va_tb hF.1 hF.2.1 (SF_sK hF.2.2.2.2.2.2.2.1).2.2.2 hS (vp_in_nI hi (by omega)) (by rw [nI_clamp (by omega)]; exact congrArg Value.int (kb_all i hi).1) hd (e ▸ h hF H locs ls hP hS hl1)
theorem V.i2b {a v : Int32} (hd : decode cc pc = .ok (.i2b, 1)) (e : pc + 1 = q) (hv : a.toInt8.toInt32 = v) (h : V x own cc nL q L (.int v :: st) σ) : V x own cc nL pc L (.int a :: st) σ :=
  fun hF H locs ls hP hS hl => lv_i2b hF.1 hF.2.1 hd hv (e ▸ h hF H locs ls hP hS hl)
theorem V.callW {y : MethodName} {c2 : ByteArray} {n2 idx d n : Nat} {ret : Option FieldType} {As rest : List Value} {post : Option Value → Sg → Prop} (hd : decode cc pc = .ok (.invokevirtual idx, 3)) (hk : LkW own idx y c2 n2 ret n) (hn : As.length = n) (hR : Rm x d)
    (hcat : ((rest.map (abv (xG x).2.2.2)).map fun v => v.category).sum ≤ 8) (hst : st = As.reverse ++ .ref 100 :: rest) (hC : Con d y c2 n2 ret (.ref 100 :: As) σ post)
    (kk : ∀ (r : Option Value) (τ : Sg), post r τ → V x own cc nL (pc + 3) L (r.toList ++ rest) τ) : V x own cc nL pc L st σ := by
  intro hF H locs ls hP hS hl
  subst hst
  obtain ⟨⟨k1, k2, k3, k4, k5, k6, k7, k8, k9⟩, kc⟩ := hk
  have hG : GoodIn WL (wsV own idx y.cls y (Cond.code y c2 n2 ret :: WL)) := wl_good (fun _ h => h) (fun w hw => by
    unfold wsV at hw
    rcases List.mem_append.mp hw with h | h
    · rcases List.mem_cons.mp h with rfl | h
      · exact k1
      rcases List.mem_cons.mp h with rfl | h
      · exact k2
      rcases List.mem_cons.mp h with rfl | h
      · exact k3
      rcases List.mem_cons.mp h with rfl | h
      · exact k4
      cases h
    · rcases List.mem_cons.mp h with rfl | h
      · exact k5
      · exact h)
  have hcw := cwV (R := xR x) (args := xa x) (s := xs x) (rm := rmD d) (mc := 0) (ms := 0) n hF.2.2.2.2.1 hG rfl rfl rfl ⟨rfl, k7, k8, k9⟩ ⟨hR.1, by have := hR.2; show 8 + (n2 + 11) + 64 * d ≤ _; omega⟩
  have hrv := vk_recv (N := 1) (i := 0) hF.2.2.2.2.2.2.2.1.2.1 (by decide) hS
  rw [← kc] at hrv
  refine call_go hF hC hS hl (va_runV (As := As.map (abv (xG x).2.2.2)) (b := (xG x).2.2.2 100) (rest := rest.map (abv (xG x).2.2.2)) ⟨hF.1, hF.2.1, hF.2.2.1, hF.2.2.2.1, hF.2.2.2.2.1⟩ (hC (xl x) (xG x) H.size) hcw ⟨PC_blind, hrv, call_pc hF hP hS⟩ rfl (by rw [List.length_map]; exact hn) hl.1 ?_ (lv_room hcat) hd ⟨hF.2.2.2.2.2.2.2.2.2.1, hF.2.2.2.2.2.2.2.2.2.2⟩) kk
  show (As.reverse ++ .ref 100 :: rest).map (abv (xG x).2.2.2) = _
  rw [List.map_append, List.map_reverse]; rfl
theorem V.cw0 {y : MethodName} {c2 : ByteArray} {n2 idx d : Nat} {ret : Option FieldType} {rest : List Value} {v : Int32} (hd : decode cc pc = .ok (.invokevirtual idx, 3)) (e : pc + 3 = q) (hk : LkW own idx y c2 n2 ret 0) (hR : Rm x d) (hcat : ((rest.map (abv (xG x).2.2.2)).map fun v => v.category).sum ≤ 8) (hC : Con d y c2 n2 ret [.ref 100] σ (PI (fun r σ1 => r = v ∧ σ1 = σ)))
    (h : V x own cc nL q L (.int v :: rest) σ) : V x own cc nL pc L (.ref 100 :: rest) σ := V.callW (As := []) hd hk rfl hR hcat rfl hC (fun r τ hp => by
  obtain ⟨w, rfl, h1, h2⟩ := hp
  rw [h1, h2]; exact e ▸ h)
theorem V.cw1 {y : MethodName} {c2 : ByteArray} {n2 idx d : Nat} {ret : Option FieldType} {rest : List Value} {b0 : Value} {v : Int32} (hd : decode cc pc = .ok (.invokevirtual idx, 3)) (e : pc + 3 = q) (hk : LkW own idx y c2 n2 ret 1) (hR : Rm x d) (hcat : ((rest.map (abv (xG x).2.2.2)).map fun v => v.category).sum ≤ 8) (hC : Con d y c2 n2 ret [.ref 100, b0] σ (PI (fun r σ1 => r = v ∧ σ1 = σ)))
    (h : V x own cc nL q L (.int v :: rest) σ) : V x own cc nL pc L (b0 :: .ref 100 :: rest) σ := V.callW (As := [b0]) hd hk rfl hR hcat rfl hC (fun r τ hp => by
  obtain ⟨w, rfl, h1, h2⟩ := hp
  rw [h1, h2]; exact e ▸ h)
theorem V.cw2 {y : MethodName} {c2 : ByteArray} {n2 idx d : Nat} {ret : Option FieldType} {rest : List Value} {b0 b1 : Value} {v : Int32} (hd : decode cc pc = .ok (.invokevirtual idx, 3)) (e : pc + 3 = q) (hk : LkW own idx y c2 n2 ret 2) (hR : Rm x d) (hcat : ((rest.map (abv (xG x).2.2.2)).map fun v => v.category).sum ≤ 8) (hC : Con d y c2 n2 ret [.ref 100, b0, b1] σ (PI (fun r σ1 => r = v ∧ σ1 = σ)))
    (h : V x own cc nL q L (.int v :: rest) σ) : V x own cc nL pc L (b1 :: b0 :: .ref 100 :: rest) σ := V.callW (As := [b0, b1]) hd hk rfl hR hcat rfl hC (fun r τ hp => by
  obtain ⟨w, rfl, h1, h2⟩ := hp
  rw [h1, h2]; exact e ▸ h)
end VS
set_option maxRecDepth 20000 in
theorem kw_X0_45 : LkW RX0 45 yJ0_indexOf_0f7a4 cJ0_indexOf_0f7a4 2 (some .int) 1 := ⟨⟨wl_of 206 rfl rfl, wl_of 207 rfl rfl, wl_of 208 rfl rfl, wl_of 45 rfl rfl, wl_of 209 rfl rfl, by decide, by decide +kernel⟩, rfl⟩
set_option maxRecDepth 20000 in
theorem kw_X2_180 : LkW RX2 180 yJ0_indexOf_0f7a4 cJ0_indexOf_0f7a4 2 (some .int) 1 := ⟨⟨wl_of 311 rfl rfl, wl_of 207 rfl rfl, wl_of 208 rfl rfl, wl_of 45 rfl rfl, wl_of 209 rfl rfl, by decide, by decide +kernel⟩, rfl⟩
set_option maxRecDepth 20000 in
theorem kw_J0_633 : LkW RJ0 633 yJ0_indexOf_7cf53 cJ0_indexOf_7cf53 3 (some .int) 2 := ⟨⟨wl_of 210 rfl rfl, wl_of 211 rfl rfl, wl_of 212 rfl rfl, wl_of 45 rfl rfl, wl_of 213 rfl rfl, by decide, by decide +kernel⟩, rfl⟩
set_option maxRecDepth 20000 in
theorem kw_J0_492 : LkW RJ0 492 yJ0_isLatin1_aae02 cJ0_isLatin1_aae02 1 (some .boolean) 0 := ⟨⟨wl_of 214 rfl rfl, wl_of 215 rfl rfl, wl_of 216 rfl rfl, wl_of 45 rfl rfl, wl_of 217 rfl rfl, by decide, by decide +kernel⟩, rfl⟩
set_option maxRecDepth 20000 in
theorem kw_J0_505 : LkW RJ0 505 yJ0_length_8abf5 cJ0_length_8abf5 1 (some .int) 0 := ⟨⟨wl_of 220 rfl rfl, wl_of 221 rfl rfl, wl_of 222 rfl rfl, wl_of 45 rfl rfl, wl_of 223 rfl rfl, by decide, by decide +kernel⟩, rfl⟩
set_option maxRecDepth 20000 in
theorem kw_J0_335 : LkW RJ0 335 yJ0_coder_7d493 cJ0_coder_7d493 1 (some .byte) 0 := ⟨⟨wl_of 224 rfl rfl, wl_of 225 rfl rfl, wl_of 226 rfl rfl, wl_of 45 rfl rfl, wl_of 227 rfl rfl, by decide, by decide +kernel⟩, rfl⟩
set_option maxRecDepth 20000 in
theorem kw_J0_637 : LkS RJ0 637 yJ1_indexOf_4cfef cJ1_indexOf_4cfef 4 (some .int) 4 := ⟨wl_of 228 rfl rfl, wl_of 229 rfl rfl, wl_of 46 rfl rfl, wl_of 230 rfl rfl, by decide, by decide +kernel⟩
set_option maxRecDepth 20000 in
theorem kw_J1_88 : LkS RJ1 88 yJ1_canEncode_9a6ad cJ1_canEncode_9a6ad 1 (some .boolean) 1 := ⟨wl_of 231 rfl rfl, wl_of 232 rfl rfl, wl_of 46 rfl rfl, wl_of 233 rfl rfl, by decide, by decide +kernel⟩
set_option maxRecDepth 20000 in
theorem kw_J1_95 : LkS RJ1 95 yJ1_indexOfChar_4cfef cJ1_indexOfChar_4cfef 6 (some .int) 4 := ⟨wl_of 240 rfl rfl, wl_of 241 rfl rfl, wl_of 46 rfl rfl, wl_of 242 rfl rfl, by decide, by decide +kernel⟩
set_option maxRecDepth 20000 in
theorem kw_J1_92 : LkX RJ1 92 := ⟨wl_of 234 rfl rfl, kc_X1_87.2.1, kc_X1_87.2.2.1, kc_X1_87.2.2.2⟩
set_option maxRecDepth 20000 in
theorem kw_J1_38 : LkM RJ1 38 := ⟨wl_of 237 rfl rfl, kc_X1_78.2.1, kc_X1_78.2.2.1, kc_X1_78.2.2.2⟩
set_option maxRecDepth 20000 in
theorem kw_f38 : Cond.fieldLink RJ0 38 "java/lang/String" "COMPACT_STRINGS" "Z" ∈ WL := wl_of 218 rfl rfl
set_option maxRecDepth 20000 in
theorem kw_f15 : Cond.fieldLink RJ0 15 "java/lang/String" "coder" "B" ∈ WL := wl_of 866 rfl rfl
set_option maxRecDepth 20000 in
theorem kw_f9 : Cond.fieldLink RJ0 9 "java/lang/String" "value" "[B" ∈ WL := wl_of 867 rfl rfl
/-- the place of a letter in the text -/
def kdM (c : Nat) : Option Nat := if c = 100 then some 0 else if c = 108 then some 1 else if c = 116 then some 2 else if c = 119 then some 3 else if c = 109 then some 4 else if c = 99 then some 5 else none
def kdI (c : Nat) : Int32 := match kdM c with
  | some k => nI k
  | none => -1
theorem byte_all : ∀ c, c < 256 → ∀ i, i < 6 → (nI (kbN i) = (nI c).toInt8.toInt32 ↔ kbN i = c) := by decide +kernel
def ixK (c : Nat) : Nat → Option Nat
  | 0 => none
  | j + 1 => match ixK c j with
    | some o => some o
    | none => if kbN j = c then some j else none
theorem kd_all : ∀ c, c < 256 → (ixK c 6 = kdM c) := by decide +kernel
theorem ixK_up {c o a : Nat} (h : ixK c a = some o) : ∀ {b : Nat}, a ≤ b → ixK c b = some o
  | 0, hb => by have : a = 0 := by omega
                subst this; exact h
  | b + 1, hb => by
    rcases Nat.lt_or_ge b a with h1 | h1
    · have : a = b + 1 := by omega
      subst this; exact h
    · unfold ixK; rw [ixK_up h h1]
set_option maxHeartbeats 4000000 in
set_option maxRecDepth 100000 in
theorem c_ixChar {σ : Sg} {c : Nat} (hc : c < 256) : Con 1 yJ1_indexOfChar_4cfef cJ1_indexOfChar_4cfef 6 (some .int) [.ref 101, .int (nI c), .int (nI 0), .int (nI 6)] σ (PI (fun r σ1 => r = kdI c ∧ σ1 = σ)) := by
  refine Con.of (by decide) (by simp [Value.category]) (Nat.le_of_ble_eq_true rfl) (fun x hB => ?_)
  show V x RJ1 cJ1_indexOfChar_4cfef 6 0 [some (.ref 101), some (.int (nI c)), some (.int (nI 0)), some (.int (nI 6)), none, none] [] _
  refine V.iload_n (q := 1) dJ1_indexOfChar_4cfef_0 rfl rfl ?_
  refine V.i2b (q := 2) dJ1_indexOfChar_4cfef_1 rfl rfl ?_
  refine V.ist4 (q := 4) dJ1_indexOfChar_4cfef_2 rfl ?_
  refine V.iload_n (q := 5) dJ1_indexOfChar_4cfef_4 rfl rfl ?_
  refine V.ist5 (q := 7) dJ1_indexOfChar_4cfef_5 rfl ?_
  have loop : ∀ j, j ≤ 6 → ixK c j = none → V x RJ1 cJ1_indexOfChar_4cfef 6 7 [some (.ref 101), some (.int (nI c)), some (.int (nI 0)), some (.int (nI 6)), some (.int (nI c).toInt8.toInt32), some (.int (nI j))] [] σ := by
    refine down 6 (fun j hj ih hno => ?_)
    refine V.iload (q := 9) dJ1_indexOfChar_4cfef_7 rfl rfl ?_
    refine V.iload_n (q := 10) dJ1_indexOfChar_4cfef_9 rfl rfl ?_
    refine V.icmpN_ge (t := 31) (q := 13) dJ1_indexOfChar_4cfef_10 (by decide) rfl (by omega) (by omega) (fun c9 => ?_) (fun c9 => ?_)
    · have ej : j = 6 := by omega
      subst ej
      refine V.iconst (q := 32) (v := -1) dJ1_indexOfChar_4cfef_31 rfl (by decide +kernel) ?_
      exact V.ret_int hB dJ1_indexOfChar_4cfef_32 rfl ⟨_, rfl, by unfold kdI; rw [← kd_all c hc, hno], rfl⟩
    · refine V.aload_n (q := 14) dJ1_indexOfChar_4cfef_13 rfl rfl ?_
      refine V.iload (q := 16) dJ1_indexOfChar_4cfef_14 rfl rfl ?_
      refine V.baldS (q := 17) dJ1_indexOfChar_4cfef_16 rfl c9 ?_
      refine V.iload (q := 19) dJ1_indexOfChar_4cfef_17 rfl rfl ?_
      refine V.icmp_ne (t := 25) (q := 22) dJ1_indexOfChar_4cfef_19 (by decide) rfl (fun c19 => ?_) (fun c19 => ?_)
      · refine V.inc5 (q := 28) dJ1_indexOfChar_4cfef_25 rfl (inc1 _) ?_
        refine V.goto (q := 7) dJ1_indexOfChar_4cfef_28 (by decide) ?_
        refine ih c9 ?_
        unfold ixK; rw [hno]
        show (if kbN j = c then some j else none) = none
        rw [if_neg (fun h9 => c19 ((byte_all c hc j c9).mpr h9))]
      · refine V.iload (q := 24) dJ1_indexOfChar_4cfef_22 rfl rfl ?_
        have h1 : ixK c (j + 1) = some j := by
          unfold ixK; rw [hno]
          show (if kbN j = c then some j else none) = some j
          rw [if_pos ((byte_all c hc j c9).mp c19)]
        exact V.ret_int hB dJ1_indexOfChar_4cfef_24 rfl ⟨_, rfl, by unfold kdI; rw [← kd_all c hc, ixK_up h1 (show j + 1 ≤ 6 by omega)], rfl⟩
  exact loop 0 (by decide) rfl
set_option maxHeartbeats 4000000 in
theorem c_canEnc {σ : Sg} {c : Nat} (hc : c < 256) : Con 1 yJ1_canEncode_9a6ad cJ1_canEncode_9a6ad 1 (some .boolean) [.int (nI c)] σ (PI (fun r σ1 => r = nI 1 ∧ σ1 = σ)) := by
  refine Con.of (by decide) (by simp [Value.category]) (Nat.le_of_ble_eq_true rfl) (fun x hB => ?_)
  show V x RJ1 cJ1_canEncode_9a6ad 1 0 [some (.int (nI c))] [] _
  refine V.iload_n (q := 1) dJ1_canEncode_9a6ad_0 rfl rfl ?_
  refine V.ifN_lt (t := 15) (q := 4) dJ1_canEncode_9a6ad_1 (by decide) rfl (by omega) (fun c1 => absurd c1 (by omega)) (fun c1 => ?_)
  refine V.iload_n (q := 5) dJ1_canEncode_9a6ad_4 rfl rfl ?_
  refine V.sipush (q := 8) (v := nI 255) dJ1_canEncode_9a6ad_5 rfl (by decide +kernel) ?_
  refine V.icmpN_gt (t := 15) (q := 11) dJ1_canEncode_9a6ad_8 (by decide) rfl (by omega) (by omega) (fun c1 => absurd c1 (by omega)) (fun c1 => ?_)
  refine V.iconst (q := 12) (v := nI 1) dJ1_canEncode_9a6ad_11 rfl (by decide +kernel) ?_
  refine V.goto (q := 16) dJ1_canEncode_9a6ad_12 (by decide) ?_
  exact V.ret_int hB dJ1_canEncode_9a6ad_16 (by decide +kernel) ⟨_, rfl, rfl, rfl⟩
set_option maxHeartbeats 4000000 in
theorem c_ix4 {σ : Sg} {c : Nat} (hc : c < 256) : Con 2 yJ1_indexOf_4cfef cJ1_indexOf_4cfef 4 (some .int) [.ref 101, .int (nI c), .int (nI 0), .int (nI 6)] σ (PI (fun r σ1 => r = kdI c ∧ σ1 = σ)) := by
  refine Con.of (by decide) (by simp [Value.category]) (Nat.le_of_ble_eq_true rfl) (fun x hB => ?_)
  show V x RJ1 cJ1_indexOf_4cfef 4 0 [some (.ref 101), some (.int (nI c)), some (.int (nI 0)), some (.int (nI 6))] [] _
  refine V.iload_n (q := 1) dJ1_indexOf_4cfef_0 rfl rfl ?_
  refine V.csi1 (q := 4) dJ1_indexOf_4cfef_1 rfl kw_J1_88 (hB.rm (by decide)) (Nat.le_of_ble_eq_true rfl) (c_canEnc hc) (fun r1 τ1 hp1 => ?_)
  obtain ⟨rfl, hz⟩ := hp1
  rw [hz]
  refine V.ifN_ne (t := 9) (q := 7) dJ1_indexOf_4cfef_4 (by decide) rfl (by omega) (fun c1 => ?_) (fun c1 => absurd c1 (by decide))
  refine V.iload_n (q := 10) dJ1_indexOf_4cfef_9 rfl rfl ?_
  refine V.iconst (q := 11) (v := nI 0) dJ1_indexOf_4cfef_10 rfl (by decide +kernel) ?_
  refine V.max (q := 14) (v := nI 0) dJ1_indexOf_4cfef_11 rfl kw_J1_92 (hB.rm (by decide)) (Nat.le_of_ble_eq_true rfl) (by decide +kernel) ?_
  refine V.ist2 (q := 15) dJ1_indexOf_4cfef_14 rfl ?_
  refine V.iload_n (q := 16) dJ1_indexOf_4cfef_15 rfl rfl ?_
  refine V.aload_n (q := 17) dJ1_indexOf_4cfef_16 rfl rfl ?_
  refine V.lenS (q := 18) dJ1_indexOf_4cfef_17 rfl ?_
  refine V.min (q := 21) (v := nI 6) dJ1_indexOf_4cfef_18 rfl kw_J1_38 (hB.rm (by decide)) (Nat.le_of_ble_eq_true rfl) (by decide +kernel) ?_
  refine V.ist3 (q := 22) dJ1_indexOf_4cfef_21 rfl ?_
  refine V.iload_n (q := 23) dJ1_indexOf_4cfef_22 rfl rfl ?_
  refine V.iload_n (q := 24) dJ1_indexOf_4cfef_23 rfl rfl ?_
  refine V.icmpN_lt (t := 29) (q := 27) dJ1_indexOf_4cfef_24 (by decide) rfl (by decide) (by decide) (fun c1 => ?_) (fun c1 => absurd c1 (by decide))
  refine V.aload_n (q := 30) dJ1_indexOf_4cfef_29 rfl rfl ?_
  refine V.iload_n (q := 31) dJ1_indexOf_4cfef_30 rfl rfl ?_
  refine V.iload_n (q := 32) dJ1_indexOf_4cfef_31 rfl rfl ?_
  refine V.iload_n (q := 33) dJ1_indexOf_4cfef_32 rfl rfl ?_
  refine V.csi4 (q := 36) dJ1_indexOf_4cfef_33 rfl kw_J1_95 (hB.rm (by decide)) (Nat.le_of_ble_eq_true rfl) (c_ixChar hc) (fun r1 τ1 hp1 => ?_)
  obtain ⟨h1, hz⟩ := hp1
  rw [hz]
  exact V.ret_int hB dJ1_indexOf_4cfef_36 rfl ⟨_, rfl, h1, rfl⟩
set_option maxHeartbeats 4000000 in
theorem c_coder {σ : Sg} : Con 1 yJ0_coder_7d493 cJ0_coder_7d493 1 (some .byte) [.ref 100] σ (PI (fun r σ1 => r = nI 0 ∧ σ1 = σ)) := by
  refine Con.of (by decide) (by simp [Value.category]) (Nat.le_of_ble_eq_true rfl) (fun x hB => ?_)
  show V x RJ0 cJ0_coder_7d493 1 0 [some (.ref 100)] [] _
  refine V.getsC (q := 3) dJ0_coder_7d493_0 rfl kw_f38 ?_
  refine V.ifN_eq (t := 13) (q := 6) dJ0_coder_7d493_3 (by decide) rfl (by omega) (fun c1 => absurd c1 (by decide)) (fun c1 => ?_)
  refine V.aload_n (q := 7) dJ0_coder_7d493_6 rfl rfl ?_
  refine V.getCod (q := 10) dJ0_coder_7d493_7 rfl kw_f15 ?_
  refine V.goto (q := 14) dJ0_coder_7d493_10 (by decide) ?_
  exact V.ret_int hB dJ0_coder_7d493_14 (by decide +kernel) ⟨_, rfl, rfl, rfl⟩
set_option maxHeartbeats 4000000 in
theorem c_isLatin {σ : Sg} : Con 1 yJ0_isLatin1_aae02 cJ0_isLatin1_aae02 1 (some .boolean) [.ref 100] σ (PI (fun r σ1 => r = nI 1 ∧ σ1 = σ)) := by
  refine Con.of (by decide) (by simp [Value.category]) (Nat.le_of_ble_eq_true rfl) (fun x hB => ?_)
  show V x RJ0 cJ0_isLatin1_aae02 1 0 [some (.ref 100)] [] _
  refine V.getsC (q := 3) dJ0_isLatin1_aae02_0 rfl kw_f38 ?_
  refine V.ifN_eq (t := 17) (q := 6) dJ0_isLatin1_aae02_3 (by decide) rfl (by omega) (fun c1 => absurd c1 (by decide)) (fun c1 => ?_)
  refine V.aload_n (q := 7) dJ0_isLatin1_aae02_6 rfl rfl ?_
  refine V.getCod (q := 10) dJ0_isLatin1_aae02_7 rfl kw_f15 ?_
  refine V.ifN_ne (t := 17) (q := 13) dJ0_isLatin1_aae02_10 (by decide) rfl (by omega) (fun c1 => absurd rfl c1) (fun c1 => ?_)
  refine V.iconst (q := 14) (v := nI 1) dJ0_isLatin1_aae02_13 rfl (by decide +kernel) ?_
  refine V.goto (q := 18) dJ0_isLatin1_aae02_14 (by decide) ?_
  exact V.ret_int hB dJ0_isLatin1_aae02_18 (by decide +kernel) ⟨_, rfl, rfl, rfl⟩
set_option maxHeartbeats 4000000 in
theorem c_lenS {σ : Sg} : Con 2 yJ0_length_8abf5 cJ0_length_8abf5 1 (some .int) [.ref 100] σ (PI (fun r σ1 => r = nI 6 ∧ σ1 = σ)) := by
  refine Con.of (by decide) (by simp [Value.category]) (Nat.le_of_ble_eq_true rfl) (fun x hB => ?_)
  show V x RJ0 cJ0_length_8abf5 1 0 [some (.ref 100)] [] _
  refine V.aload_n (q := 1) dJ0_length_8abf5_0 rfl rfl ?_
  refine V.getVal (q := 4) dJ0_length_8abf5_1 rfl kw_f9 ?_
  refine V.lenS (q := 5) dJ0_length_8abf5_4 rfl ?_
  refine V.aload_n (q := 6) dJ0_length_8abf5_5 rfl rfl ?_
  refine V.cw0 (q := 9) dJ0_length_8abf5_6 rfl kw_J0_335 (hB.rm (by decide)) (Nat.le_of_ble_eq_true rfl) c_coder ?_
  refine V.ishr (q := 10) dJ0_length_8abf5_9 rfl ?_
  exact V.ret_int hB dJ0_length_8abf5_10 rfl ⟨_, rfl, by decide +kernel, rfl⟩
set_option maxHeartbeats 4000000 in
theorem c_ix7 {σ : Sg} {c : Nat} (hc : c < 256) : Con 3 yJ0_indexOf_7cf53 cJ0_indexOf_7cf53 3 (some .int) [.ref 100, .int (nI c), .int (nI 0)] σ (PI (fun r σ1 => r = kdI c ∧ σ1 = σ)) := by
  refine Con.of (by decide) (by simp [Value.category]) (Nat.le_of_ble_eq_true rfl) (fun x hB => ?_)
  show V x RJ0 cJ0_indexOf_7cf53 3 0 [some (.ref 100), some (.int (nI c)), some (.int (nI 0))] [] _
  refine V.aload_n (q := 1) dJ0_indexOf_7cf53_0 rfl rfl ?_
  refine V.cw0 (q := 4) dJ0_indexOf_7cf53_1 rfl kw_J0_492 (hB.rm (by decide)) (Nat.le_of_ble_eq_true rfl) c_isLatin ?_
  refine V.ifN_eq (t := 23) (q := 7) dJ0_indexOf_7cf53_4 (by decide) rfl (by omega) (fun c1 => absurd c1 (by decide)) (fun c1 => ?_)
  refine V.aload_n (q := 8) dJ0_indexOf_7cf53_7 rfl rfl ?_
  refine V.getVal (q := 11) dJ0_indexOf_7cf53_8 rfl kw_f9 ?_
  refine V.iload_n (q := 12) dJ0_indexOf_7cf53_11 rfl rfl ?_
  refine V.iload_n (q := 13) dJ0_indexOf_7cf53_12 rfl rfl ?_
  refine V.aload_n (q := 14) dJ0_indexOf_7cf53_13 rfl rfl ?_
  refine V.cw0 (q := 17) dJ0_indexOf_7cf53_14 rfl kw_J0_505 (hB.rm (by decide)) (Nat.le_of_ble_eq_true rfl) c_lenS ?_
  refine V.csi4 (q := 20) dJ0_indexOf_7cf53_17 rfl kw_J0_637 (hB.rm (by decide)) (Nat.le_of_ble_eq_true rfl) (c_ix4 hc) (fun r1 τ1 hp1 => ?_)
  obtain ⟨h1, hz⟩ := hp1
  rw [hz]
  refine V.goto (q := 36) dJ0_indexOf_7cf53_20 (by decide) ?_
  exact V.ret_int hB dJ0_indexOf_7cf53_36 rfl ⟨_, rfl, h1, rfl⟩
set_option maxHeartbeats 4000000 in
theorem c_ix {σ : Sg} {c : Nat} (hc : c < 256) : Con 4 yJ0_indexOf_0f7a4 cJ0_indexOf_0f7a4 2 (some .int) [.ref 100, .int (nI c)] σ (PI (fun r σ1 => r = kdI c ∧ σ1 = σ)) := by
  refine Con.of (by decide) (by simp [Value.category]) (Nat.le_of_ble_eq_true rfl) (fun x hB => ?_)
  show V x RJ0 cJ0_indexOf_0f7a4 2 0 [some (.ref 100), some (.int (nI c))] [] _
  refine V.aload_n (q := 1) dJ0_indexOf_0f7a4_0 rfl rfl ?_
  refine V.iload_n (q := 2) dJ0_indexOf_0f7a4_1 rfl rfl ?_
  refine V.iconst (q := 3) (v := nI 0) dJ0_indexOf_0f7a4_2 rfl (by decide +kernel) ?_
  refine V.cw2 (q := 6) dJ0_indexOf_0f7a4_3 rfl kw_J0_633 (hB.rm (by decide)) (Nat.le_of_ble_eq_true rfl) (c_ix7 hc) ?_
  exact V.ret_int hB dJ0_indexOf_0f7a4_6 rfl ⟨_, rfl, rfl, rfl⟩
