/-! the text: object 37, its letters 38 -/
def TX (σ : Sg) (m : Nat) (cs : Nat → Nat) : Prop := m ≤ 64 ∧ σ 37 1 = nI m ∧ ∀ i, i < m → σ 38 i = nI (cs i) ∧ cs i < 256
theorem TX.n {σ : Sg} {m : Nat} {cs : Nat → Nat} (h : TX σ m cs) : σ 37 1 = nI m := h.2.1
def chA (m : Nat) (cs : Nat → Nat) (p : Nat) : Nat := if p < m then cs p else 0
theorem chA_lt {σ : Sg} {m : Nat} {cs : Nat → Nat} (h : TX σ m cs) (p : Nat) : chA m cs p < 256 := by
  unfold chA; split
  · exact (h.2.2 p (by assumption)).2
  · decide
def dgV (c : Nat) : Nat := if 48 ≤ c ∧ c ≤ 57 then c - 48 else 0
def dg2 (c1 c2 : Nat) : Nat := if 48 ≤ c2 ∧ c2 ≤ 57 then 10 * dgV c1 + dgV c2 else dgV c1
theorem dgV_le (c : Nat) : dgV c ≤ 9 := by unfold dgV; split <;> omega
theorem nar_char : ∀ c, c < 256 → narrow .char (.int (nI c)) = .int (nI c) := fun c hc => (pk_charN (by omega)).1
theorem vpn_all : ∀ c, c < 256 → vp_nar .char (nI c) = nI c := by decide +kernel
def dI : Option Nat → Int32
  | some k => nI k
  | none => -1
def du0 (c : Nat) : Option Nat := if c = 115 then some 1 else if c = 109 then some 3 else if c = 112 then some 6 else none
def dgO (c k : Nat) : Option Nat := if 48 ≤ c ∧ c ≤ 57 then some k else none
def duE (c : Nat) : Option Nat := if c = 59 then some 0 else none
/-- what is due behind a letter -/
def dueM (s c : Nat) : Option Nat :=
  if s = 0 then du0 c else if s = 1 then (if (kdM c).isSome = true then some 2 else none)
  else if s = 2 then dgO c 3 else if s = 3 then dgO c 4 else if s = 4 then dgO c 5 else if s = 6 then dgO c 7
  else if s = 7 then (if c = 44 then some 8 else none) else if s = 8 then dgO c 9
  else if s = 9 then (if 48 ≤ c ∧ c ≤ 57 then some 5 else duE c) else duE c
theorem dueM_le : ∀ c, c < 256 → ∀ s, s < 10 → ∀ k, dueM s c = some k → k < 10 := by
  intro c _ s hs k h
  unfold dueM du0 dgO duE at h
  repeat' split at h
  all_goals first | (cases h; decide) | cases h
theorem kd_neg : ∀ c, c < 256 → (kdI c < 0 ↔ ¬ (kdM c).isSome = true) := by decide +kernel
theorem osw_out {c : Nat} (hc : c < 256) (h1 : c ≠ 109) (h2 : c ≠ 112) (h3 : c ≠ 115) : Op.lookupswitch.offset [(109, 37), (112, 39), (115, 35)] 42 (nI c).toInt = 42 := by
  have e : ∀ k, k < 256 → c ≠ k → ¬ nI c = nI k := fun k hk hne h9 => hne ((nI_eq (by omega) (by omega)).mp h9)
  rw [lv_osw (e 109 (by decide) h1) (by decide +kernel), lv_osw (e 112 (by decide) h2) (by decide +kernel), lv_osw (e 115 (by decide) h3) (by decide +kernel)]
  rfl
-- isFull(), append(c), at(p)
set_option maxHeartbeats 4000000 in
set_option maxRecDepth 100000 in
theorem x_isFull {σ : Sg} {m : Nat} {cs : Nat → Nat} (hX : TX σ m cs) : Con 1 yX0_isFull cX0_isFull 1 (some .boolean) [.ref 37] σ (PI (fun r σ1 => σ1 = σ ∧ ((r = nI 1 ∧ m = 64) ∨ (r = nI 0 ∧ m < 64)))) := by
  refine Con.of (by decide) (by simp [Value.category]) (Nat.le_of_ble_eq_true rfl) (fun x hB => ?_)
  show V x RX0 cX0_isFull 1 0 [some (.ref 37)] [] _
  have hm := hX.1
  refine V.aload_n (q := 1) dX0_isFull_0 rfl rfl ?_
  refine V.getI (q := 4) dX0_isFull_1 rfl kf_X0_15 rfl (by decide) rfl (TX.n hX) ?_
  refine V.aload_n (q := 5) dX0_isFull_4 rfl rfl ?_
  refine V.getR (q := 8) dX0_isFull_5 rfl kf_X0_9 rfl (by decide) rfl ?_
  refine V.alen (q := 9) dX0_isFull_8 rfl rfl (by decide) ?_
  refine V.icmpN_lt (t := 16) (q := 12) dX0_isFull_9 (by decide) rfl (by omega) (by omega) (fun c9 => ?_) (fun c9 => ?_)
  · refine V.iconst (q := 17) (v := nI 0) dX0_isFull_16 rfl (by decide +kernel) ?_
    exact V.ret_int hB dX0_isFull_17 (by decide +kernel) ⟨_, rfl, ⟨rfl, Or.inr ⟨rfl, by omega⟩⟩⟩
  · refine V.iconst (q := 13) (v := nI 1) dX0_isFull_12 rfl (by decide +kernel) ?_
    refine V.goto (q := 17) dX0_isFull_13 (by decide) ?_
    exact V.ret_int hB dX0_isFull_17 (by decide +kernel) ⟨_, rfl, ⟨rfl, Or.inl ⟨rfl, by omega⟩⟩⟩

theorem TX.app {σ : Sg} {m c : Nat} {cs : Nat → Nat} (h : TX σ m cs) (hm : m < 64) (hc : c < 256) : TX (w2 (w2 σ 38 m (nI c)) 37 1 (nI (m + 1))) (m + 1) (upN cs m c) := by
  refine ⟨by omega, by simp [w2_rd], fun i hi => ?_⟩
  rw [w2_ne (by decide), w2_rd]
  unfold upN
  by_cases h9 : i = m
  · rw [if_pos ⟨rfl, h9⟩, if_pos h9]; exact ⟨rfl, hc⟩
  · rw [if_neg (fun q => h9 q.2), if_neg h9]; exact h.2.2 i (by omega)
set_option maxHeartbeats 4000000 in
set_option maxRecDepth 100000 in
theorem x_append {σ : Sg} {m : Nat} {cs : Nat → Nat} (hX : TX σ m cs) (hm : m < 64) {c : Nat} (hc : c < 256) : Con 2 yX0_append cX0_append 2 none [.ref 37, .int (nI c)] σ (PV (fun σ1 => σ1 = w2 (w2 σ 38 m (nI c)) 37 1 (nI (m + 1)))) := by
  refine Con.of (by decide) (by simp [Value.category]) (Nat.le_of_ble_eq_true rfl) (fun x hB => ?_)
  show V x RX0 cX0_append 2 0 [some (.ref 37), some (.int (nI c))] [] _
  refine V.aload_n (q := 1) dX0_append_0 rfl rfl ?_
  refine V.cvi0 (q := 4) dX0_append_1 rfl kc_X0_19 rfl (by decide) rfl (hB.rm (by decide)) (Nat.le_of_ble_eq_true rfl) (x_isFull hX) (fun r1 τ1 hp1 => ?_)
  obtain ⟨hz, ⟨rfl, hs⟩ | ⟨rfl, hs⟩⟩ := hp1
  · exact absurd hs (by omega)
  · rw [hz]
    refine V.ifN_ne (t := 27) (q := 7) dX0_append_4 (by decide) rfl (by omega) (fun c4 => absurd c4 (by decide +kernel)) (fun c4 => ?_)
    refine V.aload_n (q := 8) dX0_append_7 rfl rfl ?_
    refine V.getR (q := 11) dX0_append_8 rfl kf_X0_9 rfl (by decide) rfl ?_
    refine V.aload_n (q := 12) dX0_append_11 rfl rfl ?_
    refine V.getI (q := 15) dX0_append_12 rfl kf_X0_15 rfl (by decide) rfl (TX.n hX) ?_
    refine V.iload_n (q := 16) dX0_append_15 rfl rfl ?_
    refine V.castN (q := 17) dX0_append_16 rfl rfl (by decide) (by omega) (by decide) ?_
    rw [vpn_all c hc]
    refine V.aload_n (q := 18) dX0_append_17 rfl rfl ?_
    refine V.dup (q := 19) dX0_append_18 rfl rfl ?_
    refine V.getI (q := 22) dX0_append_19 rfl kf_X0_15 rfl (by decide) rfl (show _ = nI m by rw [w2_ne (by decide)]; exact hX.n) ?_
    refine V.iconst (q := 23) (v := nI 1) dX0_append_22 rfl (by decide +kernel) ?_
    refine V.iaddN (q := 24) dX0_append_23 rfl ?_
    refine V.putI (q := 27) dX0_append_24 rfl kp_X0_15 rfl (by decide) rfl rfl rfl ?_
    exact V.ret_v hB dX0_append_27 ⟨rfl, rfl⟩

set_option maxHeartbeats 4000000 in
set_option maxRecDepth 100000 in
theorem x_at {σ : Sg} {m : Nat} {cs : Nat → Nat} (hX : TX σ m cs) {p : Nat} (hp : p < 2 ^ 20) : Con 1 yX0_at cX0_at 2 (some .char) [.ref 37, .int (nI p)] σ (PI (fun r σ1 => r = nI (chA m cs p) ∧ σ1 = σ)) := by
  refine Con.of (by decide) (by simp [Value.category]) (Nat.le_of_ble_eq_true rfl) (fun x hB => ?_)
  show V x RX0 cX0_at 2 0 [some (.ref 37), some (.int (nI p))] [] _
  have hm := hX.1
  refine V.iload_n (q := 1) dX0_at_0 rfl rfl ?_
  refine V.ifN_lt (t := 30) (q := 4) dX0_at_1 (by decide) rfl (by omega) (fun c1 => absurd c1 (by omega)) (fun c1 => ?_)
  refine V.iload_n (q := 5) dX0_at_4 rfl rfl ?_
  refine V.aload_n (q := 6) dX0_at_5 rfl rfl ?_
  refine V.getI (q := 9) dX0_at_6 rfl kf_X0_15 rfl (by decide) rfl (TX.n hX) ?_
  refine V.icmpN_ge (t := 30) (q := 12) dX0_at_9 (by decide) rfl (by omega) (by omega) (fun c9 => ?_) (fun c9 => ?_)
  · refine V.iconst (q := 31) (v := nI 0) dX0_at_30 rfl (by decide +kernel) ?_
    exact V.ret_int hB dX0_at_31 (by decide +kernel) ⟨_, rfl, ⟨by unfold chA; rw [if_neg (by omega)], rfl⟩⟩
  · refine V.iload_n (q := 13) dX0_at_12 rfl rfl ?_
    refine V.aload_n (q := 14) dX0_at_13 rfl rfl ?_
    refine V.getR (q := 17) dX0_at_14 rfl kf_X0_9 rfl (by decide) rfl ?_
    refine V.alen (q := 18) dX0_at_17 rfl rfl (by decide) ?_
    refine V.icmpN_ge (t := 30) (q := 21) dX0_at_18 (by decide) rfl (by omega) (by omega) (fun c18 => absurd c18 (by omega)) (fun c18 => ?_)
    refine V.aload_n (q := 22) dX0_at_21 rfl rfl ?_
    refine V.getR (q := 25) dX0_at_22 rfl kf_X0_9 rfl (by decide) rfl ?_
    refine V.iload_n (q := 26) dX0_at_25 rfl rfl ?_
    refine V.caldN (q := 27) dX0_at_26 rfl rfl (by decide) (by omega) (by decide) (hX.2.2 p c9).1 ?_
    refine V.goto (q := 31) dX0_at_27 (by decide) ?_
    exact V.ret_int hB dX0_at_31 (nar_char _ (hX.2.2 p c9).2) ⟨_, rfl, ⟨by unfold chA; rw [if_pos c9], rfl⟩⟩

-- isDigit(c), digit(p), oneOrTwoDigits(p)
set_option maxHeartbeats 4000000 in
set_option maxRecDepth 100000 in
theorem x_isDigit {σ : Sg} {c : Nat} (hc : c < 256) : Con 1 yX0_isDigit cX0_isDigit 1 (some .boolean) [.int (nI c)] σ (PI (fun r σ1 => σ1 = σ ∧ ((r = nI 1 ∧ 48 ≤ c ∧ c ≤ 57) ∨ (r = nI 0 ∧ ¬ (48 ≤ c ∧ c ≤ 57))))) := by
  refine Con.of (by decide) (by simp [Value.category]) (Nat.le_of_ble_eq_true rfl) (fun x hB => ?_)
  show V x RX0 cX0_isDigit 1 0 [some (.int (nI c))] [] _
  refine V.iload_n (q := 1) dX0_isDigit_0 rfl rfl ?_
  refine V.bipush (q := 3) (v := nI 48) dX0_isDigit_1 rfl (by decide +kernel) ?_
  refine V.icmpN_lt (t := 16) (q := 6) dX0_isDigit_3 (by decide) rfl (by omega) (by omega) (fun c3 => ?_) (fun c3 => ?_)
  · refine V.iconst (q := 17) (v := nI 0) dX0_isDigit_16 rfl (by decide +kernel) ?_
    exact V.ret_int hB dX0_isDigit_17 (by decide +kernel) ⟨_, rfl, ⟨rfl, Or.inr ⟨rfl, by omega⟩⟩⟩
  · refine V.iload_n (q := 7) dX0_isDigit_6 rfl rfl ?_
    refine V.bipush (q := 9) (v := nI 57) dX0_isDigit_7 rfl (by decide +kernel) ?_
    refine V.icmpN_gt (t := 16) (q := 12) dX0_isDigit_9 (by decide) rfl (by omega) (by omega) (fun c9 => ?_) (fun c9 => ?_)
    · refine V.iconst (q := 17) (v := nI 0) dX0_isDigit_16 rfl (by decide +kernel) ?_
      exact V.ret_int hB dX0_isDigit_17 (by decide +kernel) ⟨_, rfl, ⟨rfl, Or.inr ⟨rfl, by omega⟩⟩⟩
    · refine V.iconst (q := 13) (v := nI 1) dX0_isDigit_12 rfl (by decide +kernel) ?_
      refine V.goto (q := 17) dX0_isDigit_13 (by decide) ?_
      exact V.ret_int hB dX0_isDigit_17 (by decide +kernel) ⟨_, rfl, ⟨rfl, Or.inl ⟨rfl, by omega⟩⟩⟩

set_option maxHeartbeats 4000000 in
set_option maxRecDepth 100000 in
theorem x_digit {σ : Sg} {m : Nat} {cs : Nat → Nat} (hX : TX σ m cs) {p : Nat} (hp : p < 2 ^ 20) : Con 2 yX0_digit cX0_digit 2 (some .int) [.ref 37, .int (nI p)] σ (PI (fun r σ1 => r = nI (dgV (chA m cs p)) ∧ σ1 = σ)) := by
  refine Con.of (by decide) (by simp [Value.category]) (Nat.le_of_ble_eq_true rfl) (fun x hB => ?_)
  show V x RX0 cX0_digit 2 0 [some (.ref 37), some (.int (nI p))] [] _
  have hm := hX.1
  refine V.aload_n (q := 1) dX0_digit_0 rfl rfl ?_
  refine V.iload_n (q := 2) dX0_digit_1 rfl rfl ?_
  refine V.cvi1 (q := 5) dX0_digit_2 rfl kc_X0_23 rfl (by decide) rfl (hB.rm (by decide)) (Nat.le_of_ble_eq_true rfl) (x_at hX hp) (fun r2 τ2 hp2 => ?_)
  obtain ⟨rfl, hz⟩ := hp2
  rw [hz]
  refine V.csi1 (q := 8) dX0_digit_5 rfl kc_X0_27 (hB.rm (by decide)) (Nat.le_of_ble_eq_true rfl) (x_isDigit (chA_lt hX p)) (fun r5 τ5 hp5 => ?_)
  obtain ⟨hz, ⟨rfl, hs⟩ | ⟨rfl, hs⟩⟩ := hp5
  · rw [hz]
    refine V.ifN_eq (t := 22) (q := 11) dX0_digit_8 (by decide) rfl (by omega) (fun c8 => absurd c8 (by decide +kernel)) (fun c8 => ?_)
    refine V.aload_n (q := 12) dX0_digit_11 rfl rfl ?_
    refine V.iload_n (q := 13) dX0_digit_12 rfl rfl ?_
    refine V.cvi1 (q := 16) dX0_digit_13 rfl kc_X0_23 rfl (by decide) rfl (hB.rm (by decide)) (Nat.le_of_ble_eq_true rfl) (x_at hX hp) (fun r13 τ13 hp13 => ?_)
    obtain ⟨rfl, hz⟩ := hp13
    rw [hz]
    refine V.bipush (q := 18) (v := nI 48) dX0_digit_16 rfl (by decide +kernel) ?_
    refine V.isubN (q := 19) dX0_digit_18 rfl (by omega) ?_
    refine V.goto (q := 23) dX0_digit_19 (by decide) ?_
    exact V.ret_int hB dX0_digit_23 rfl ⟨_, rfl, ⟨by unfold dgV; rw [if_pos hs], rfl⟩⟩
  · rw [hz]
    refine V.ifN_eq (t := 22) (q := 11) dX0_digit_8 (by decide) rfl (by omega) (fun c8 => ?_) (fun c8 => absurd c8 (by decide +kernel))
    refine V.iconst (q := 23) (v := nI 0) dX0_digit_22 rfl (by decide +kernel) ?_
    exact V.ret_int hB dX0_digit_23 rfl ⟨_, rfl, ⟨by unfold dgV; rw [if_neg hs], rfl⟩⟩

set_option maxHeartbeats 4000000 in
set_option maxRecDepth 100000 in
theorem x_digits {σ : Sg} {m : Nat} {cs : Nat → Nat} (hX : TX σ m cs) {p : Nat} (hp : p + 1 < 2 ^ 20) : Con 3 yX0_oneOrTwoDigits cX0_oneOrTwoDigits 3 (some .int) [.ref 37, .int (nI p)] σ (PI (fun r σ1 => r = nI (dg2 (chA m cs p) (chA m cs (p + 1))) ∧ σ1 = σ)) := by
  refine Con.of (by decide) (by simp [Value.category]) (Nat.le_of_ble_eq_true rfl) (fun x hB => ?_)
  show V x RX0 cX0_oneOrTwoDigits 3 0 [some (.ref 37), some (.int (nI p)), none] [] _
  have hm := hX.1
  refine V.aload_n (q := 1) dX0_oneOrTwoDigits_0 rfl rfl ?_
  refine V.iload_n (q := 2) dX0_oneOrTwoDigits_1 rfl rfl ?_
  refine V.cvi1 (q := 5) dX0_oneOrTwoDigits_2 rfl kc_X0_31 rfl (by decide) rfl (hB.rm (by decide)) (Nat.le_of_ble_eq_true rfl) (x_digit hX (show p < 2 ^ 20 by omega)) (fun r2 τ2 hp2 => ?_)
  obtain ⟨rfl, hz⟩ := hp2
  rw [hz]
  refine V.ist2 (q := 6) dX0_oneOrTwoDigits_5 rfl ?_
  refine V.aload_n (q := 7) dX0_oneOrTwoDigits_6 rfl rfl ?_
  refine V.iload_n (q := 8) dX0_oneOrTwoDigits_7 rfl rfl ?_
  refine V.iconst (q := 9) (v := nI 1) dX0_oneOrTwoDigits_8 rfl (by decide +kernel) ?_
  refine V.iaddN (q := 10) dX0_oneOrTwoDigits_9 rfl ?_
  refine V.cvi1 (q := 13) dX0_oneOrTwoDigits_10 rfl kc_X0_23 rfl (by decide) rfl (hB.rm (by decide)) (Nat.le_of_ble_eq_true rfl) (x_at hX hp) (fun r10 τ10 hp10 => ?_)
  obtain ⟨rfl, hz⟩ := hp10
  rw [hz]
  refine V.csi1 (q := 16) dX0_oneOrTwoDigits_13 rfl kc_X0_27 (hB.rm (by decide)) (Nat.le_of_ble_eq_true rfl) (x_isDigit (chA_lt hX (p + 1))) (fun r13 τ13 hp13 => ?_)
  obtain ⟨hz, ⟨rfl, hs⟩ | ⟨rfl, hs⟩⟩ := hp13
  · rw [hz]
    refine V.ifN_eq (t := 34) (q := 19) dX0_oneOrTwoDigits_16 (by decide) rfl (by omega) (fun c16 => absurd c16 (by decide +kernel)) (fun c16 => ?_)
    refine V.bipush (q := 21) (v := nI 10) dX0_oneOrTwoDigits_19 rfl (by decide +kernel) ?_
    refine V.iload_n (q := 22) dX0_oneOrTwoDigits_21 rfl rfl ?_
    refine V.imulN (q := 23) dX0_oneOrTwoDigits_22 rfl ?_
    refine V.aload_n (q := 24) dX0_oneOrTwoDigits_23 rfl rfl ?_
    refine V.iload_n (q := 25) dX0_oneOrTwoDigits_24 rfl rfl ?_
    refine V.iconst (q := 26) (v := nI 1) dX0_oneOrTwoDigits_25 rfl (by decide +kernel) ?_
    refine V.iaddN (q := 27) dX0_oneOrTwoDigits_26 rfl ?_
    refine V.cvi1 (q := 30) dX0_oneOrTwoDigits_27 rfl kc_X0_31 rfl (by decide) rfl (hB.rm (by decide)) (Nat.le_of_ble_eq_true rfl) (x_digit hX hp) (fun r27 τ27 hp27 => ?_)
    obtain ⟨rfl, hz⟩ := hp27
    rw [hz]
    refine V.iaddN (q := 31) dX0_oneOrTwoDigits_30 rfl ?_
    refine V.goto (q := 35) dX0_oneOrTwoDigits_31 (by decide) ?_
    exact V.ret_int hB dX0_oneOrTwoDigits_35 rfl ⟨_, rfl, ⟨by unfold dg2; rw [if_pos hs], rfl⟩⟩
  · rw [hz]
    refine V.ifN_eq (t := 34) (q := 19) dX0_oneOrTwoDigits_16 (by decide) rfl (by omega) (fun c16 => ?_) (fun c16 => absurd c16 (by decide +kernel))
    refine V.iload_n (q := 35) dX0_oneOrTwoDigits_34 rfl rfl ?_
    exact V.ret_int hB dX0_oneOrTwoDigits_35 rfl ⟨_, rfl, ⟨by unfold dg2; rw [if_neg hs], rfl⟩⟩

-- dueInStatement(c), dueAtEnd(c), dueBehind(s, c)
set_option maxHeartbeats 4000000 in
set_option maxRecDepth 100000 in
theorem x_due0 {σ : Sg} {c : Nat} (hc : c < 256) : Con 1 yX0_dueInStatement cX0_dueInStatement 1 (some .int) [.int (nI c)] σ (PI (fun r σ1 => r = dI (du0 c) ∧ σ1 = σ)) := by
  refine Con.of (by decide) (by simp [Value.category]) (Nat.le_of_ble_eq_true rfl) (fun x hB => ?_)
  show V x RX0 cX0_dueInStatement 1 0 [some (.int (nI c))] [] _
  refine V.iload_n (q := 1) dX0_dueInStatement_0 rfl rfl ?_
  rcases (show c = 115 ∨ c = 109 ∨ c = 112 ∨ (c ≠ 109 ∧ c ≠ 112 ∧ c ≠ 115) by omega) with e9 | e9 | e9 | e9
  · subst e9
    refine V.lookup (q := 36) (off := 35) dX0_dueInStatement_1 (by decide) (by decide +kernel) (by decide) ?_
    refine V.iconst (q := 37) (v := nI 1) dX0_dueInStatement_36 rfl (by decide +kernel) ?_
    exact V.ret_int hB dX0_dueInStatement_37 rfl ⟨_, rfl, ⟨rfl, rfl⟩⟩
  · subst e9
    refine V.lookup (q := 38) (off := 37) dX0_dueInStatement_1 (by decide) (by decide +kernel) (by decide) ?_
    refine V.iconst (q := 39) (v := nI 3) dX0_dueInStatement_38 rfl (by decide +kernel) ?_
    exact V.ret_int hB dX0_dueInStatement_39 rfl ⟨_, rfl, ⟨rfl, rfl⟩⟩
  · subst e9
    refine V.lookup (q := 40) (off := 39) dX0_dueInStatement_1 (by decide) (by decide +kernel) (by decide) ?_
    refine V.bipush (q := 42) (v := nI 6) dX0_dueInStatement_40 rfl (by decide +kernel) ?_
    exact V.ret_int hB dX0_dueInStatement_42 rfl ⟨_, rfl, ⟨rfl, rfl⟩⟩
  · refine V.lookup (q := 43) (off := 42) dX0_dueInStatement_1 (by decide) (osw_out hc e9.1 e9.2.1 e9.2.2) (by decide) ?_
    refine V.iconst (q := 44) (v := (-1)) dX0_dueInStatement_43 rfl (by decide +kernel) ?_
    exact V.ret_int hB dX0_dueInStatement_44 rfl ⟨_, rfl, ⟨by unfold du0; rw [if_neg e9.2.2, if_neg e9.1, if_neg e9.2.1]; rfl, rfl⟩⟩

set_option maxHeartbeats 4000000 in
set_option maxRecDepth 100000 in
theorem x_dueE {σ : Sg} {c : Nat} (hc : c < 256) : Con 1 yX0_dueAtEnd cX0_dueAtEnd 1 (some .int) [.int (nI c)] σ (PI (fun r σ1 => r = dI (duE c) ∧ σ1 = σ)) := by
  refine Con.of (by decide) (by simp [Value.category]) (Nat.le_of_ble_eq_true rfl) (fun x hB => ?_)
  show V x RX0 cX0_dueAtEnd 1 0 [some (.int (nI c))] [] _
  refine V.iload_n (q := 1) dX0_dueAtEnd_0 rfl rfl ?_
  refine V.bipush (q := 3) (v := nI 59) dX0_dueAtEnd_1 rfl (by decide +kernel) ?_
  refine V.icmpN_ne (t := 10) (q := 6) dX0_dueAtEnd_3 (by decide) rfl (by omega) (by omega) (fun c3 => ?_) (fun c3 => ?_)
  · refine V.iconst (q := 11) (v := (-1)) dX0_dueAtEnd_10 rfl (by decide +kernel) ?_
    exact V.ret_int hB dX0_dueAtEnd_11 rfl ⟨_, rfl, ⟨by unfold duE; rw [if_neg c3]; rfl, rfl⟩⟩
  · refine V.iconst (q := 7) (v := nI 0) dX0_dueAtEnd_6 rfl (by decide +kernel) ?_
    refine V.goto (q := 11) dX0_dueAtEnd_7 (by decide) ?_
    exact V.ret_int hB dX0_dueAtEnd_11 rfl ⟨_, rfl, ⟨by unfold duE; rw [if_pos c3]; rfl, rfl⟩⟩

set_option maxHeartbeats 4000000 in
set_option maxRecDepth 100000 in
theorem x_due {σ : Sg} {c s : Nat} (hc : c < 256) (hs9 : s < 10) : Con 6 yX0_dueBehind cX0_dueBehind 2 (some .int) [.int (nI s), .int (nI c)] σ (PI (fun r σ1 => r = dI (dueM s c) ∧ σ1 = σ)) := by
  refine Con.of (by decide) (by simp [Value.category]) (Nat.le_of_ble_eq_true rfl) (fun x hB => ?_)
  show V x RX0 cX0_dueBehind 2 0 [some (.int (nI s)), some (.int (nI c))] [] _
  refine V.iload_n (q := 1) dX0_dueBehind_0 rfl rfl ?_
  rcases (show s = 0 ∨ s = 1 ∨ s = 2 ∨ s = 3 ∨ s = 4 ∨ s = 5 ∨ s = 6 ∨ s = 7 ∨ s = 8 ∨ s = 9 by omega) with es | es | es | es | es | es | es | es | es | es
  · subst es
    refine V.tableIn (q := 56) (off := 55) dX0_dueBehind_1 (by decide +kernel) (by decide +kernel) rfl (by decide) ?_
    refine V.iload_n (q := 57) dX0_dueBehind_56 rfl rfl ?_
    refine V.csi1 (q := 60) dX0_dueBehind_57 rfl kc_X0_39 (hB.rm (by decide)) (Nat.le_of_ble_eq_true rfl) (x_due0 hc) (fun r57 τ57 hp57 => ?_)
    obtain ⟨rfl, hz⟩ := hp57
    rw [hz]
    exact V.ret_int hB dX0_dueBehind_60 rfl ⟨_, rfl, ⟨rfl, rfl⟩⟩
  · subst es
    refine V.tableIn (q := 61) (off := 60) dX0_dueBehind_1 (by decide +kernel) (by decide +kernel) rfl (by decide) ?_
    refine V.ldcS0 (q := 63) dX0_dueBehind_61 rfl rfl ?_
    refine V.iload_n (q := 64) dX0_dueBehind_63 rfl rfl ?_
    refine V.cw1 (q := 67) dX0_dueBehind_64 rfl kw_X0_45 (hB.rm (by decide)) (Nat.le_of_ble_eq_true rfl) (c_ix hc) ?_
    refine V.if_lt (t := 74) (q := 70) dX0_dueBehind_67 (by decide) rfl  (fun c67 => ?_) (fun c67 => ?_)
    · refine V.iconst (q := 75) (v := (-1)) dX0_dueBehind_74 rfl (by decide +kernel) ?_
      exact V.ret_int hB dX0_dueBehind_75 rfl ⟨_, rfl, ⟨by simp [dueM, (kd_neg c hc).mp c67, dI], rfl⟩⟩
    · refine V.iconst (q := 71) (v := nI 2) dX0_dueBehind_70 rfl (by decide +kernel) ?_
      refine V.goto (q := 75) dX0_dueBehind_71 (by decide) ?_
      exact V.ret_int hB dX0_dueBehind_75 rfl ⟨_, rfl, ⟨by simp [dueM, Decidable.not_not.mp (fun h9 => c67 ((kd_neg c hc).mpr h9)), dI], rfl⟩⟩
  · subst es
    refine V.tableIn (q := 76) (off := 75) dX0_dueBehind_1 (by decide +kernel) (by decide +kernel) rfl (by decide) ?_
    refine V.iload_n (q := 77) dX0_dueBehind_76 rfl rfl ?_
    refine V.csi1 (q := 80) dX0_dueBehind_77 rfl kc_X0_27 (hB.rm (by decide)) (Nat.le_of_ble_eq_true rfl) (x_isDigit (hc)) (fun r77 τ77 hp77 => ?_)
    obtain ⟨hz, ⟨rfl, hs⟩ | ⟨rfl, hs⟩⟩ := hp77
    · rw [hz]
      refine V.ifN_eq (t := 87) (q := 83) dX0_dueBehind_80 (by decide) rfl (by omega) (fun c80 => absurd c80 (by decide +kernel)) (fun c80 => ?_)
      refine V.iconst (q := 84) (v := nI 3) dX0_dueBehind_83 rfl (by decide +kernel) ?_
      refine V.goto (q := 88) dX0_dueBehind_84 (by decide) ?_
      exact V.ret_int hB dX0_dueBehind_88 rfl ⟨_, rfl, ⟨by simp [dueM, dgO, hs, dI], rfl⟩⟩
    · rw [hz]
      refine V.ifN_eq (t := 87) (q := 83) dX0_dueBehind_80 (by decide) rfl (by omega) (fun c80 => ?_) (fun c80 => absurd c80 (by decide +kernel))
      refine V.iconst (q := 88) (v := (-1)) dX0_dueBehind_87 rfl (by decide +kernel) ?_
      exact V.ret_int hB dX0_dueBehind_88 rfl ⟨_, rfl, ⟨by simp [dueM, dgO, hs, dI], rfl⟩⟩
  · subst es
    refine V.tableIn (q := 89) (off := 88) dX0_dueBehind_1 (by decide +kernel) (by decide +kernel) rfl (by decide) ?_
    refine V.iload_n (q := 90) dX0_dueBehind_89 rfl rfl ?_
    refine V.csi1 (q := 93) dX0_dueBehind_90 rfl kc_X0_27 (hB.rm (by decide)) (Nat.le_of_ble_eq_true rfl) (x_isDigit (hc)) (fun r90 τ90 hp90 => ?_)
    obtain ⟨hz, ⟨rfl, hs⟩ | ⟨rfl, hs⟩⟩ := hp90
    · rw [hz]
      refine V.ifN_eq (t := 100) (q := 96) dX0_dueBehind_93 (by decide) rfl (by omega) (fun c93 => absurd c93 (by decide +kernel)) (fun c93 => ?_)
      refine V.iconst (q := 97) (v := nI 4) dX0_dueBehind_96 rfl (by decide +kernel) ?_
      refine V.goto (q := 101) dX0_dueBehind_97 (by decide) ?_
      exact V.ret_int hB dX0_dueBehind_101 rfl ⟨_, rfl, ⟨by simp [dueM, dgO, hs, dI], rfl⟩⟩
    · rw [hz]
      refine V.ifN_eq (t := 100) (q := 96) dX0_dueBehind_93 (by decide) rfl (by omega) (fun c93 => ?_) (fun c93 => absurd c93 (by decide +kernel))
      refine V.iconst (q := 101) (v := (-1)) dX0_dueBehind_100 rfl (by decide +kernel) ?_
      exact V.ret_int hB dX0_dueBehind_101 rfl ⟨_, rfl, ⟨by simp [dueM, dgO, hs, dI], rfl⟩⟩
  · subst es
    refine V.tableIn (q := 102) (off := 101) dX0_dueBehind_1 (by decide +kernel) (by decide +kernel) rfl (by decide) ?_
    refine V.iload_n (q := 103) dX0_dueBehind_102 rfl rfl ?_
    refine V.csi1 (q := 106) dX0_dueBehind_103 rfl kc_X0_27 (hB.rm (by decide)) (Nat.le_of_ble_eq_true rfl) (x_isDigit (hc)) (fun r103 τ103 hp103 => ?_)
    obtain ⟨hz, ⟨rfl, hs⟩ | ⟨rfl, hs⟩⟩ := hp103
    · rw [hz]
      refine V.ifN_eq (t := 113) (q := 109) dX0_dueBehind_106 (by decide) rfl (by omega) (fun c106 => absurd c106 (by decide +kernel)) (fun c106 => ?_)
      refine V.iconst (q := 110) (v := nI 5) dX0_dueBehind_109 rfl (by decide +kernel) ?_
      refine V.goto (q := 114) dX0_dueBehind_110 (by decide) ?_
      exact V.ret_int hB dX0_dueBehind_114 rfl ⟨_, rfl, ⟨by simp [dueM, dgO, hs, dI], rfl⟩⟩
    · rw [hz]
      refine V.ifN_eq (t := 113) (q := 109) dX0_dueBehind_106 (by decide) rfl (by omega) (fun c106 => ?_) (fun c106 => absurd c106 (by decide +kernel))
      refine V.iconst (q := 114) (v := (-1)) dX0_dueBehind_113 rfl (by decide +kernel) ?_
      exact V.ret_int hB dX0_dueBehind_114 rfl ⟨_, rfl, ⟨by simp [dueM, dgO, hs, dI], rfl⟩⟩
  · subst es
    refine V.tableIn (q := 172) (off := 171) dX0_dueBehind_1 (by decide +kernel) (by decide +kernel) rfl (by decide) ?_
    refine V.iload_n (q := 173) dX0_dueBehind_172 rfl rfl ?_
    refine V.csi1 (q := 176) dX0_dueBehind_173 rfl kc_X0_50 (hB.rm (by decide)) (Nat.le_of_ble_eq_true rfl) (x_dueE hc) (fun r173 τ173 hp173 => ?_)
    obtain ⟨rfl, hz⟩ := hp173
    rw [hz]
    exact V.ret_int hB dX0_dueBehind_176 rfl ⟨_, rfl, ⟨by simp [dueM], rfl⟩⟩
  · subst es
    refine V.tableIn (q := 115) (off := 114) dX0_dueBehind_1 (by decide +kernel) (by decide +kernel) rfl (by decide) ?_
    refine V.iload_n (q := 116) dX0_dueBehind_115 rfl rfl ?_
    refine V.csi1 (q := 119) dX0_dueBehind_116 rfl kc_X0_27 (hB.rm (by decide)) (Nat.le_of_ble_eq_true rfl) (x_isDigit (hc)) (fun r116 τ116 hp116 => ?_)
    obtain ⟨hz, ⟨rfl, hs⟩ | ⟨rfl, hs⟩⟩ := hp116
    · rw [hz]
      refine V.ifN_eq (t := 127) (q := 122) dX0_dueBehind_119 (by decide) rfl (by omega) (fun c119 => absurd c119 (by decide +kernel)) (fun c119 => ?_)
      refine V.bipush (q := 124) (v := nI 7) dX0_dueBehind_122 rfl (by decide +kernel) ?_
      refine V.goto (q := 128) dX0_dueBehind_124 (by decide) ?_
      exact V.ret_int hB dX0_dueBehind_128 rfl ⟨_, rfl, ⟨by simp [dueM, dgO, hs, dI], rfl⟩⟩
    · rw [hz]
      refine V.ifN_eq (t := 127) (q := 122) dX0_dueBehind_119 (by decide) rfl (by omega) (fun c119 => ?_) (fun c119 => absurd c119 (by decide +kernel))
      refine V.iconst (q := 128) (v := (-1)) dX0_dueBehind_127 rfl (by decide +kernel) ?_
      exact V.ret_int hB dX0_dueBehind_128 rfl ⟨_, rfl, ⟨by simp [dueM, dgO, hs, dI], rfl⟩⟩
  · subst es
    refine V.tableIn (q := 129) (off := 128) dX0_dueBehind_1 (by decide +kernel) (by decide +kernel) rfl (by decide) ?_
    refine V.iload_n (q := 130) dX0_dueBehind_129 rfl rfl ?_
    refine V.bipush (q := 132) (v := nI 44) dX0_dueBehind_130 rfl (by decide +kernel) ?_
    refine V.icmpN_ne (t := 140) (q := 135) dX0_dueBehind_132 (by decide) rfl (by omega) (by omega) (fun c132 => ?_) (fun c132 => ?_)
    · refine V.iconst (q := 141) (v := (-1)) dX0_dueBehind_140 rfl (by decide +kernel) ?_
      exact V.ret_int hB dX0_dueBehind_141 rfl ⟨_, rfl, ⟨by simp [dueM, c132, dI], rfl⟩⟩
    · refine V.bipush (q := 137) (v := nI 8) dX0_dueBehind_135 rfl (by decide +kernel) ?_
      refine V.goto (q := 141) dX0_dueBehind_137 (by decide) ?_
      exact V.ret_int hB dX0_dueBehind_141 rfl ⟨_, rfl, ⟨by simp [dueM, c132, dI], rfl⟩⟩
  · subst es
    refine V.tableIn (q := 142) (off := 141) dX0_dueBehind_1 (by decide +kernel) (by decide +kernel) rfl (by decide) ?_
    refine V.iload_n (q := 143) dX0_dueBehind_142 rfl rfl ?_
    refine V.csi1 (q := 146) dX0_dueBehind_143 rfl kc_X0_27 (hB.rm (by decide)) (Nat.le_of_ble_eq_true rfl) (x_isDigit (hc)) (fun r143 τ143 hp143 => ?_)
    obtain ⟨hz, ⟨rfl, hs⟩ | ⟨rfl, hs⟩⟩ := hp143
    · rw [hz]
      refine V.ifN_eq (t := 154) (q := 149) dX0_dueBehind_146 (by decide) rfl (by omega) (fun c146 => absurd c146 (by decide +kernel)) (fun c146 => ?_)
      refine V.bipush (q := 151) (v := nI 9) dX0_dueBehind_149 rfl (by decide +kernel) ?_
      refine V.goto (q := 155) dX0_dueBehind_151 (by decide) ?_
      exact V.ret_int hB dX0_dueBehind_155 rfl ⟨_, rfl, ⟨by simp [dueM, dgO, hs, dI], rfl⟩⟩
    · rw [hz]
      refine V.ifN_eq (t := 154) (q := 149) dX0_dueBehind_146 (by decide) rfl (by omega) (fun c146 => ?_) (fun c146 => absurd c146 (by decide +kernel))
      refine V.iconst (q := 155) (v := (-1)) dX0_dueBehind_154 rfl (by decide +kernel) ?_
      exact V.ret_int hB dX0_dueBehind_155 rfl ⟨_, rfl, ⟨by simp [dueM, dgO, hs, dI], rfl⟩⟩
  · subst es
    refine V.tableIn (q := 156) (off := 155) dX0_dueBehind_1 (by decide +kernel) (by decide +kernel) rfl (by decide) ?_
    refine V.iload_n (q := 157) dX0_dueBehind_156 rfl rfl ?_
    refine V.csi1 (q := 160) dX0_dueBehind_157 rfl kc_X0_27 (hB.rm (by decide)) (Nat.le_of_ble_eq_true rfl) (x_isDigit (hc)) (fun r157 τ157 hp157 => ?_)
    obtain ⟨hz, ⟨rfl, hs⟩ | ⟨rfl, hs⟩⟩ := hp157
    · rw [hz]
      refine V.ifN_eq (t := 167) (q := 163) dX0_dueBehind_160 (by decide) rfl (by omega) (fun c160 => absurd c160 (by decide +kernel)) (fun c160 => ?_)
      refine V.iconst (q := 164) (v := nI 5) dX0_dueBehind_163 rfl (by decide +kernel) ?_
      refine V.goto (q := 171) dX0_dueBehind_164 (by decide) ?_
      exact V.ret_int hB dX0_dueBehind_171 rfl ⟨_, rfl, ⟨by simp [dueM, hs, dI], rfl⟩⟩
    · rw [hz]
      refine V.ifN_eq (t := 167) (q := 163) dX0_dueBehind_160 (by decide) rfl (by omega) (fun c160 => ?_) (fun c160 => absurd c160 (by decide +kernel))
      refine V.iload_n (q := 168) dX0_dueBehind_167 rfl rfl ?_
      refine V.csi1 (q := 171) dX0_dueBehind_168 rfl kc_X0_50 (hB.rm (by decide)) (Nat.le_of_ble_eq_true rfl) (x_dueE hc) (fun r168 τ168 hp168 => ?_)
      obtain ⟨rfl, hz⟩ := hp168
      rw [hz]
      exact V.ret_int hB dX0_dueBehind_171 rfl ⟨_, rfl, ⟨by simp [dueM, hs], rfl⟩⟩

-- formFault()
/-- from place p in state s: the place of the fault, or nothing -/
def dR (m : Nat) (cs : Nat → Nat) : Nat → Nat → Nat → Option Nat
  | 0, _, s => if s = 0 then none else some m
  | f + 1, p, s => if p < m then (match dueM s (cs p) with
      | none => some p
      | some k => dR m cs f (p + 1) k) else (if s = 0 then none else some m)
def ffM (m : Nat) (cs : Nat → Nat) : Int32 := if m = 0 then nI 0 else dI (dR m cs m 0 0)
theorem dR_n {m f p s : Nat} {cs : Nat → Nat} (h : p < m) (hd : dueM s (cs p) = none) : dR m cs (f + 1) p s = some p := by
  unfold dR; rw [if_pos h, hd]
theorem dR_k {m f p s k : Nat} {cs : Nat → Nat} (h : p < m) (hd : dueM s (cs p) = some k) : dR m cs (f + 1) p s = dR m cs f (p + 1) k := by
  conv => lhs; unfold dR
  rw [if_pos h, hd]
theorem ff_a {j s : Nat} {cs : Nat → Nat} (hs : s ≠ 0) (hr : dR j cs 0 j s = dR j cs j 0 0) : nI j = ffM j cs := by
  unfold ffM
  by_cases hm0 : j = 0
  · subst hm0; rw [if_pos rfl]
  · rw [if_neg hm0, ← hr]; unfold dR; rw [if_neg hs]; rfl
theorem ff_b {j : Nat} {cs : Nat → Nat} (h : j = 0) : nI j = ffM j cs := by
  subst h; unfold ffM; rw [if_pos rfl]
theorem ff_c {j s : Nat} {cs : Nat → Nat} (hj : j ≠ 0) (hs : s = 0) (hr : dR j cs 0 j s = dR j cs j 0 0) : -1 = ffM j cs := by
  unfold ffM
  rw [if_neg hj, ← hr]; unfold dR; rw [if_pos hs]; rfl
theorem dI_m1 {s : Nat} (hs : s < 2 ^ 31) : ¬ nI s = -1 := nI_m1 hs
set_option maxHeartbeats 4000000 in
set_option maxRecDepth 100000 in
theorem x_form {σ : Sg} {m : Nat} {cs : Nat → Nat} (hX : TX σ m cs) : Con 7 yX0_formFault cX0_formFault 3 (some .int) [.ref 37] σ (PI (fun r σ1 => r = ffM m cs ∧ σ1 = σ)) := by
  refine Con.of (by decide) (by simp [Value.category]) (Nat.le_of_ble_eq_true rfl) (fun x hB => ?_)
  show V x RX0 cX0_formFault 3 0 [some (.ref 37), none, none] [] _
  have hm := hX.1
  refine V.iconst (q := 1) (v := nI 0) dX0_formFault_0 rfl (by decide +kernel) ?_
  refine V.ist1 (q := 2) dX0_formFault_1 rfl ?_
  refine V.iconst (q := 3) (v := nI 0) dX0_formFault_2 rfl (by decide +kernel) ?_
  refine V.ist2 (q := 4) dX0_formFault_3 rfl ?_
  have loop : ∀ j, j ≤ m → ∀ s, s < 10 → dR m cs (m - j) j s = dR m cs m 0 0 → V x RX0 cX0_formFault 3 4 [some (.ref 37), some (.int (nI s)), some (.int (nI j))] [] σ := by
    refine down m (fun j hj ih s hs hr => ?_)
    refine V.iload_n (q := 5) dX0_formFault_4 rfl rfl ?_
    refine V.aload_n (q := 6) dX0_formFault_5 rfl rfl ?_
    refine V.getI (q := 9) dX0_formFault_6 rfl kf_X0_15 rfl (by decide) rfl (TX.n hX) ?_
    refine V.icmpN_ge (t := 35) (q := 12) dX0_formFault_9 (by decide) rfl (by omega) (by omega) (fun c9 => ?_) (fun c9 => ?_)
    · have ej : j = m := by omega
      subst ej
      rw [Nat.sub_self] at hr
      refine V.iload_n (q := 36) dX0_formFault_35 rfl rfl ?_
      refine V.ifN_ne (t := 50) (q := 39) dX0_formFault_36 (by decide) rfl (by omega) (fun c36 => ?_) (fun c36 => ?_)
      · refine V.aload_n (q := 51) dX0_formFault_50 rfl rfl ?_
        refine V.getI (q := 54) dX0_formFault_51 rfl kf_X0_15 rfl (by decide) rfl (TX.n hX) ?_
        exact V.ret_int hB dX0_formFault_54 rfl ⟨_, rfl, ⟨ff_a c36 hr, rfl⟩⟩
      · refine V.aload_n (q := 40) dX0_formFault_39 rfl rfl ?_
        refine V.getI (q := 43) dX0_formFault_40 rfl kf_X0_15 rfl (by decide) rfl (TX.n hX) ?_
        refine V.ifN_le (t := 50) (q := 46) dX0_formFault_43 (by decide) rfl (by omega) (fun c43 => ?_) (fun c43 => ?_)
        · refine V.aload_n (q := 51) dX0_formFault_50 rfl rfl ?_
          refine V.getI (q := 54) dX0_formFault_51 rfl kf_X0_15 rfl (by decide) rfl (TX.n hX) ?_
          exact V.ret_int hB dX0_formFault_54 rfl ⟨_, rfl, ⟨ff_b (by omega), rfl⟩⟩
        · refine V.iconst (q := 47) (v := (-1)) dX0_formFault_46 rfl (by decide +kernel) ?_
          refine V.goto (q := 54) dX0_formFault_47 (by decide) ?_
          exact V.ret_int hB dX0_formFault_54 rfl ⟨_, rfl, ⟨ff_c (by omega) c36 hr, rfl⟩⟩
    · have hlt := (hX.2.2 j c9).2
      have hch : chA m cs j = cs j := by unfold chA; rw [if_pos c9]
      have h9 : m - j = (m - (j + 1)) + 1 := by omega
      rw [h9] at hr
      refine V.iload_n (q := 13) dX0_formFault_12 rfl rfl ?_
      refine V.aload_n (q := 14) dX0_formFault_13 rfl rfl ?_
      refine V.iload_n (q := 15) dX0_formFault_14 rfl rfl ?_
      refine V.cvi1 (q := 18) dX0_formFault_15 rfl kc_X0_23 rfl (by decide) rfl (hB.rm (by decide)) (Nat.le_of_ble_eq_true rfl) (x_at hX (show j < 2 ^ 20 by omega)) (fun r15 τ15 hp15 => ?_)
      obtain ⟨rfl, hz⟩ := hp15
      rw [hz, hch]
      refine V.csi2 (q := 21) dX0_formFault_18 rfl kc_X0_35 (hB.rm (by decide)) (Nat.le_of_ble_eq_true rfl) (x_due hlt hs) (fun r18 τ18 hp18 => ?_)
      obtain ⟨rfl, hz⟩ := hp18
      rw [hz]
      rcases hdu : dueM s (cs j) with _ | k
      · rw [dR_n c9 hdu] at hr
        refine V.ist1 (q := 22) dX0_formFault_21 rfl ?_
        refine V.iload_n (q := 23) dX0_formFault_22 rfl rfl ?_
        refine V.iconst (q := 24) (v := (-1)) dX0_formFault_23 rfl (by decide +kernel) ?_
        refine V.icmp_ne (t := 29) (q := 27) dX0_formFault_24 (by decide) rfl  (fun c24 => absurd c24 (fun h9 => h9 rfl)) (fun c24 => ?_)
        refine V.iload_n (q := 28) dX0_formFault_27 rfl rfl ?_
        exact V.ret_int hB dX0_formFault_28 rfl ⟨_, rfl, ⟨by unfold ffM; rw [if_neg (by omega), ← hr]; rfl, rfl⟩⟩
      · rw [dR_k c9 hdu] at hr
        have hk := dueM_le _ hlt s hs k hdu
        refine V.ist1 (q := 22) dX0_formFault_21 rfl ?_
        refine V.iload_n (q := 23) dX0_formFault_22 rfl rfl ?_
        refine V.iconst (q := 24) (v := (-1)) dX0_formFault_23 rfl (by decide +kernel) ?_
        refine V.icmp_ne (t := 29) (q := 27) dX0_formFault_24 (by decide) rfl  (fun c24 => ?_) (fun c24 => absurd c24 (nI_m1 (by omega)))
        refine V.inc2 (q := 32) dX0_formFault_29 rfl (inc1 _) ?_
        refine V.goto (q := 4) dX0_formFault_32 (by decide) ?_
        exact ih c9 k hk hr
  exact loop 0 (Nat.zero_le _) 0 (by decide) rfl

