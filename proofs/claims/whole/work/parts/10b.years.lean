theorem sNb_neg {v : Int32} {n : Nat} (hn : n < 2 ^ 20) (h : v < 0) : ¬ sN v n := by
  rintro ⟨k, hk, rfl⟩
  exact nI_pos (by omega) h
theorem sNb_ge {v : Int32} {n : Nat} (hn : n < 2 ^ 20) (h : nI n ≤ v) : ¬ sN v n := by
  rintro ⟨k, hk, rfl⟩
  exact nI_ge hk (by omega) h
theorem sNb_of {v : Int32} {n : Nat} (h0 : ¬ v < 0) (h : ¬ nI n ≤ v) : sN v n := by
  obtain ⟨j, hj, rfl⟩ := nI_of h0
  refine ⟨j, ?_, rfl⟩
  rcases Nat.lt_or_ge j n with z | z
  · exact z
  · exact absurd (nI_le z hj) h
set_option maxHeartbeats 4000000 in
set_option maxRecDepth 100000 in
theorem m_refuse {σ : Sg} {n y : Nat} {τ : Nat → Nat → Nat} {fl n2 y2 : Nat} {τ2 : Nat → Nat → Nat} {m : Nat} {cs : Nat → Nat} {rl : Nat} {ro rc : Nat → Nat} (hX : MR σ n y τ fl n2 y2 τ2 m cs rl ro rc) {k : Nat} (h1 : 1 ≤ k) (h6 : k ≤ 6) {v : Int32} (hv : v = -(nI k)) : Con 1 yX3_refuse cX3_refuse 2 (some .int) [.ref 43, .int v] σ (PI (fun r σ1 => r = v ∧ σ1 = w2 σ 44 k (nI (rc k + 1)))) := by
  refine Con.of (by decide) (by simp [Value.category]) (Nat.le_of_ble_eq_true rfl) (fun x hB => ?_)
  show V x RX3 cX3_refuse 2 0 [some (.ref 43), some (.int v)] [] _
  refine V.aload_n (q := 1) dX3_refuse_0 rfl rfl ?_
  refine V.getR (q := 4) dX3_refuse_1 rfl kf_X3_7 rfl (by decide) rfl ?_
  refine V.iload_n (q := 5) dX3_refuse_4 rfl rfl ?_
  refine V.ineg (q := 6) dX3_refuse_5 rfl ?_
  rw [show -v = nI k by rw [hv]; exact neg_neg32 _]
  refine V.dup2 (q := 7) dX3_refuse_6 rfl rfl rfl ?_
  refine V.ialdN (q := 8) dX3_refuse_7 rfl rfl (by decide) (by omega) (by decide) (hX.rc0 h1 h6) ?_
  refine V.iconst (q := 9) (v := nI 1) dX3_refuse_8 rfl (by decide +kernel) ?_
  refine V.iaddN (q := 10) dX3_refuse_9 rfl ?_
  refine V.iastN (q := 11) dX3_refuse_10 rfl rfl (by decide) (by omega) (by decide) ?_
  refine V.iload_n (q := 12) dX3_refuse_11 rfl rfl ?_
  exact V.ret_int hB dX3_refuse_12 rfl ⟨_, rfl, ⟨rfl, rfl⟩⟩

set_option maxHeartbeats 4000000 in
set_option maxRecDepth 100000 in
theorem m_isIn {σ : Sg} (v : Int32) (n : Nat) (hn : n < 2 ^ 20) : Con 1 yX3_isIn cX3_isIn 2 (some .boolean) [.int v, .int (nI n)] σ (PI (fun r σ1 => σ1 = σ ∧ ((r = nI 1 ∧ sN v n) ∨ (r = nI 0 ∧ ¬ sN v n)))) := by
  refine Con.of (by decide) (by simp [Value.category]) (Nat.le_of_ble_eq_true rfl) (fun x hB => ?_)
  show V x RX3 cX3_isIn 2 0 [some (.int v), some (.int (nI n))] [] _
  refine V.iload_n (q := 1) dX3_isIn_0 rfl rfl ?_
  refine V.if_lt (t := 13) (q := 4) dX3_isIn_1 (by decide) rfl  (fun c1 => ?_) (fun c1 => ?_)
  · refine V.iconst (q := 14) (v := nI 0) dX3_isIn_13 rfl (by decide +kernel) ?_
    exact V.ret_int hB dX3_isIn_14 (by decide +kernel) ⟨_, rfl, ⟨rfl, Or.inr ⟨rfl, sNb_neg hn c1⟩⟩⟩
  · refine V.iload_n (q := 5) dX3_isIn_4 rfl rfl ?_
    refine V.iload_n (q := 6) dX3_isIn_5 rfl rfl ?_
    refine V.icmp_ge (t := 13) (q := 9) dX3_isIn_6 (by decide) rfl  (fun c6 => ?_) (fun c6 => ?_)
    · refine V.iconst (q := 14) (v := nI 0) dX3_isIn_13 rfl (by decide +kernel) ?_
      exact V.ret_int hB dX3_isIn_14 (by decide +kernel) ⟨_, rfl, ⟨rfl, Or.inr ⟨rfl, sNb_ge hn c6⟩⟩⟩
    · refine V.iconst (q := 10) (v := nI 1) dX3_isIn_9 rfl (by decide +kernel) ?_
      refine V.goto (q := 14) dX3_isIn_10 (by decide) ?_
      exact V.ret_int hB dX3_isIn_14 (by decide +kernel) ⟨_, rfl, ⟨rfl, Or.inl ⟨rfl, sNb_of c1 c6⟩⟩⟩

set_option maxHeartbeats 4000000 in
set_option maxRecDepth 100000 in
theorem m_within {σ : Sg} (v : Int32) (a c : Nat) (hac : a ≤ c) (hc : c < 2 ^ 20) : Con 1 yX3_within cX3_within 3 (some .int) [.int v, .int (nI a), .int (nI c)] σ (PI (fun r σ1 => σ1 = σ ∧ ((rfN v a c = 4 ∧ r = -4) ∨ (rfN v a c = 6 ∧ r = -6) ∨ (r = nI 0 ∧ ∃ j, a ≤ j ∧ j ≤ c ∧ v = nI j)))) := by
  refine Con.of (by decide) (by simp [Value.category]) (Nat.le_of_ble_eq_true rfl) (fun x hB => ?_)
  show V x RX3 cX3_within 3 0 [some (.int v), some (.int (nI a)), some (.int (nI c))] [] _
  refine V.iload_n (q := 1) dX3_within_0 rfl rfl ?_
  refine V.iload_n (q := 2) dX3_within_1 rfl rfl ?_
  refine V.icmp_ge (t := 10) (q := 5) dX3_within_2 (by decide) rfl  (fun c2 => ?_) (fun c2 => ?_)
  · refine V.iload_n (q := 11) dX3_within_10 rfl rfl ?_
    refine V.iload_n (q := 12) dX3_within_11 rfl rfl ?_
    refine V.icmp_le (t := 20) (q := 15) dX3_within_12 (by decide) rfl  (fun c12 => ?_) (fun c12 => ?_)
    · refine V.iconst (q := 21) (v := nI 0) dX3_within_20 rfl (by decide +kernel) ?_
      exact V.ret_int hB dX3_within_21 rfl ⟨_, rfl, ⟨rfl, Or.inr (Or.inr ⟨rfl, rof_in c2 c12 hac hc⟩)⟩⟩
    · refine V.bipush (q := 17) (v := (-6)) dX3_within_15 rfl (by decide +kernel) ?_
      refine V.goto (q := 21) dX3_within_17 (by decide) ?_
      exact V.ret_int hB dX3_within_21 rfl ⟨_, rfl, ⟨rfl, Or.inr (Or.inl ⟨by unfold rfN; rw [if_neg (fun h9 => absurd c2 (Int32.not_le.mpr h9)), if_pos (Int32.not_le.mp c12)], rfl⟩)⟩⟩
  · refine V.bipush (q := 7) (v := (-4)) dX3_within_5 rfl (by decide +kernel) ?_
    refine V.goto (q := 21) dX3_within_7 (by decide) ?_
    exact V.ret_int hB dX3_within_21 rfl ⟨_, rfl, ⟨rfl, Or.inl ⟨by unfold rfN; rw [if_pos (Int32.not_le.mp c2)], rfl⟩⟩⟩

set_option maxHeartbeats 4000000 in
set_option maxRecDepth 100000 in
theorem m_lays {σ : Sg} {o1 o2 : Nat} (hs1 : shp o1 = .inl (false, 51)) (hs2 : shp o2 = .inl (false, 51)) (ho1 : o1 < NO) (ho2 : o2 < NO) (h12 : o1 ≠ o2) : Con 1 yX3_lays cX3_lays 3 none [.ref o1, .ref o2] σ (PV (fun σ1 => (∀ k, k < 51 → σ1 o2 k = σ o1 k) ∧ ∀ o, o ≠ o2 → σ1 o = σ o)) := by
  refine Con.of (by decide) (by simp [Value.category]) (Nat.le_of_ble_eq_true rfl) (fun x hB => ?_)
  show V x RX3 cX3_lays 3 0 [some (.ref o1), some (.ref o2), none] [] _
  refine V.iconst (q := 1) (v := nI 0) dX3_lays_0 rfl (by decide +kernel) ?_
  refine V.ist2 (q := 2) dX3_lays_1 rfl ?_
  have loop : ∀ j, j ≤ 51 → ∀ σ1, (∀ k, k < j → σ1 o2 k = σ o1 k) → (∀ o, o ≠ o2 → σ1 o = σ o) → V x RX3 cX3_lays 3 2 [some (.ref o1), some (.ref o2), some (.int (nI j))] [] σ1 := by
    refine down 51 (fun j hj ih σ1 hc hF => ?_)
    refine V.iload_n (q := 3) dX3_lays_2 rfl rfl ?_
    refine V.bipush (q := 5) (v := nI 51) dX3_lays_3 rfl (by decide +kernel) ?_
    refine V.icmpN_ge (t := 20) (q := 8) dX3_lays_5 (by decide) rfl (by omega) (by omega) (fun c5 => ?_) (fun c5 => ?_)
    · have ej : j = 51 := by omega
      subst ej
      exact V.ret_v hB dX3_lays_20 ⟨rfl, ⟨hc, hF⟩⟩
    · refine V.aload_n (q := 9) dX3_lays_8 rfl rfl ?_
      refine V.iload_n (q := 10) dX3_lays_9 rfl rfl ?_
      refine V.aload_n (q := 11) dX3_lays_10 rfl rfl ?_
      refine V.iload_n (q := 12) dX3_lays_11 rfl rfl ?_
      refine V.ialdN (q := 13) dX3_lays_12 rfl hs1 ho1 (by omega) (by decide) (show σ1 o1 j = σ o1 j by rw [hF o1 h12]) ?_
      refine V.iastN (q := 14) dX3_lays_13 rfl hs2 ho2 (by omega) (by decide) ?_
      refine V.inc2 (q := 17) dX3_lays_14 rfl (inc1 _) ?_
      refine V.goto (q := 2) dX3_lays_17 (by decide) ?_
      refine ih (by omega) _ (fun k hk => ?_) (fun o ho => by rw [w2_ne ho]; exact hF o ho)
      rw [w2_rd]
      by_cases h9 : k = j
      · subst h9; rw [if_pos ⟨rfl, rfl⟩]
      · rw [if_neg (fun h8 => h9 h8.2)]; exact hc k (by omega)
  exact loop 0 (Nat.zero_le _) σ (fun k hk => absurd hk (by omega)) (fun _ _ => rfl)

set_option maxHeartbeats 4000000 in
set_option maxRecDepth 100000 in
theorem m_begins {σ : Sg} {n y : Nat} {τ : Nat → Nat → Nat} (hS : SA σ 45 n y τ) : Con 2 yX3_begins cX3_begins 1 none [.ref 43] σ (PV (fun σ1 => SA σ1 48 n y τ ∧ SA σ1 45 n y τ ∧ ∀ o, o ≠ 48 → σ1 o = σ o)) := by
  refine Con.of (by decide) (by simp [Value.category]) (Nat.le_of_ble_eq_true rfl) (fun x hB => ?_)
  show V x RX3 cX3_begins 1 0 [some (.ref 43)] [] _
  refine V.aload_n (q := 1) dX3_begins_0 rfl rfl ?_
  refine V.getR (q := 4) dX3_begins_1 rfl kf_X3_13 rfl (by decide) rfl ?_
  refine V.aload_n (q := 5) dX3_begins_4 rfl rfl ?_
  refine V.getR (q := 8) dX3_begins_5 rfl kf_X3_22 rfl (by decide) rfl ?_
  refine V.csv2 (q := 11) dX3_begins_8 rfl kc_X3_56 (hB.rm (by decide)) (Nat.le_of_ble_eq_true rfl) (m_lays rfl rfl (by decide) (by decide) (by decide)) (fun τ8 hp8 => ?_)
  obtain ⟨hc, hF⟩ := hp8
  exact V.ret_v hB dX3_begins_11 ⟨rfl, ⟨hS.cp hc, hS.fr (hF 45 (by decide)), hF⟩⟩

set_option maxHeartbeats 4000000 in
set_option maxRecDepth 100000 in
theorem m_ends {σ : Sg} {n y : Nat} {τ : Nat → Nat → Nat} (hM : SA σ 48 n y τ) : Con 2 yX3_ends cX3_ends 1 none [.ref 43] σ (PV (fun σ1 => SA σ1 45 n y τ ∧ SA σ1 48 n y τ ∧ ∀ o, o ≠ 45 → σ1 o = σ o)) := by
  refine Con.of (by decide) (by simp [Value.category]) (Nat.le_of_ble_eq_true rfl) (fun x hB => ?_)
  show V x RX3 cX3_ends 1 0 [some (.ref 43)] [] _
  refine V.aload_n (q := 1) dX3_ends_0 rfl rfl ?_
  refine V.getR (q := 4) dX3_ends_1 rfl kf_X3_22 rfl (by decide) rfl ?_
  refine V.aload_n (q := 5) dX3_ends_4 rfl rfl ?_
  refine V.getR (q := 8) dX3_ends_5 rfl kf_X3_13 rfl (by decide) rfl ?_
  refine V.csv2 (q := 11) dX3_ends_8 rfl kc_X3_56 (hB.rm (by decide)) (Nat.le_of_ble_eq_true rfl) (m_lays rfl rfl (by decide) (by decide) (by decide)) (fun τ8 hp8 => ?_)
  obtain ⟨hc, hF⟩ := hp8
  exact V.ret_v hB dX3_ends_11 ⟨rfl, ⟨hM.cp hc, hM.fr (hF 48 (by decide)), hF⟩⟩

set_option maxHeartbeats 4000000 in
set_option maxRecDepth 100000 in
theorem m_isStreet {σ : Sg} {n y : Nat} {τ : Nat → Nat → Nat} (hS : SA σ 45 n y τ) (v : Int32) : Con 2 yX3_isStreet cX3_isStreet 2 (some .boolean) [.ref 43, .int v] σ (PI (fun r σ1 => σ1 = σ ∧ ((r = nI 1 ∧ sN v n) ∨ (r = nI 0 ∧ ¬ sN v n)))) := by
  refine Con.of (by decide) (by simp [Value.category]) (Nat.le_of_ble_eq_true rfl) (fun x hB => ?_)
  show V x RX3 cX3_isStreet 2 0 [some (.ref 43), some (.int v)] [] _
  have hn6 := hS.n6
  have hyb := hS.yb
  refine V.iload_n (q := 1) dX3_isStreet_0 rfl rfl ?_
  refine V.aload_n (q := 2) dX3_isStreet_1 rfl rfl ?_
  refine V.getR (q := 5) dX3_isStreet_2 rfl kf_X3_13 rfl (by decide) rfl ?_
  refine V.iconst (q := 6) (v := nI 0) dX3_isStreet_5 rfl (by decide +kernel) ?_
  refine V.ialdN (q := 7) dX3_isStreet_6 rfl rfl (by decide) (by omega) (by decide) (SA.c hS) ?_
  refine V.csi2 (q := 10) dX3_isStreet_7 rfl kc_X3_60 (hB.rm (by decide)) (Nat.le_of_ble_eq_true rfl) (m_isIn v n (by omega)) (fun r7 τ7 hp7 => ?_)
  obtain ⟨hz, h9⟩ := hp7
  rw [hz]
  exact V.ret_int hB dX3_isStreet_10 (by rcases h9 with ⟨rfl, -⟩ | ⟨rfl, -⟩ <;> decide +kernel) ⟨_, rfl, ⟨rfl, h9⟩⟩

set_option maxHeartbeats 4000000 in
set_option maxRecDepth 100000 in
theorem m_get0 {σ : Sg} {i k : Nat} (h : 2 + 7 * i + k < 51) : Con 1 yX3_get cX3_get 3 (some .int) [.ref 43, .int (nI i), .int (nI k)] σ (PI (fun r σ1 => r = σ 45 (2 + 7 * i + k) ∧ σ1 = σ)) := by
  refine Con.of (by decide) (by simp [Value.category]) (Nat.le_of_ble_eq_true rfl) (fun x hB => ?_)
  show V x RX3 cX3_get 3 0 [some (.ref 43), some (.int (nI i)), some (.int (nI k))] [] _
  refine V.aload_n (q := 1) dX3_get_0 rfl rfl ?_
  refine V.getR (q := 4) dX3_get_1 rfl kf_X3_13 rfl (by decide) rfl ?_
  refine V.iconst (q := 5) (v := nI 2) dX3_get_4 rfl (by decide +kernel) ?_
  refine V.bipush (q := 7) (v := nI 7) dX3_get_5 rfl (by decide +kernel) ?_
  refine V.iload_n (q := 8) dX3_get_7 rfl rfl ?_
  refine V.imulN (q := 9) dX3_get_8 rfl ?_
  refine V.iaddN (q := 10) dX3_get_9 rfl ?_
  refine V.iload_n (q := 11) dX3_get_10 rfl rfl ?_
  refine V.iaddN (q := 12) dX3_get_11 rfl ?_
  refine V.ialdN (q := 13) dX3_get_12 rfl rfl (by decide) (by omega) (by decide) rfl ?_
  exact V.ret_int hB dX3_get_13 rfl ⟨_, rfl, ⟨rfl, rfl⟩⟩

theorem m_get {σ : Sg} {n y : Nat} {τ : Nat → Nat → Nat} (hS : SA σ 45 n y τ) {i : Nat} (hi : i < n) (f : Nat) (hf : f < 7) : Con 1 yX3_get cX3_get 3 (some .int) [.ref 43, .int (nI i), .int (nI f)] σ (PI (fun r σ1 => r = nI (τ f i) ∧ σ1 = σ)) :=
  (m_get0 (by have := hS.n6; omega)).weaken (fun r σ1 h => by
    obtain ⟨v, e1, e2, e3⟩ := h
    exact ⟨v, e1, by rw [e2]; exact hS.a hi f hf, e3⟩)
set_option maxHeartbeats 4000000 in
set_option maxRecDepth 100000 in
theorem m_puts {σ : Sg} {i k : Nat} {v : Int32} (h : 2 + 7 * i + k < 51) : Con 1 yX3_puts cX3_puts 4 none [.ref 43, .int (nI i), .int (nI k), .int v] σ (PV (fun σ1 => σ1 = w2 σ 45 (2 + 7 * i + k) v)) := by
  refine Con.of (by decide) (by simp [Value.category]) (Nat.le_of_ble_eq_true rfl) (fun x hB => ?_)
  show V x RX3 cX3_puts 4 0 [some (.ref 43), some (.int (nI i)), some (.int (nI k)), some (.int v)] [] _
  refine V.aload_n (q := 1) dX3_puts_0 rfl rfl ?_
  refine V.getR (q := 4) dX3_puts_1 rfl kf_X3_13 rfl (by decide) rfl ?_
  refine V.iconst (q := 5) (v := nI 2) dX3_puts_4 rfl (by decide +kernel) ?_
  refine V.bipush (q := 7) (v := nI 7) dX3_puts_5 rfl (by decide +kernel) ?_
  refine V.iload_n (q := 8) dX3_puts_7 rfl rfl ?_
  refine V.imulN (q := 9) dX3_puts_8 rfl ?_
  refine V.iaddN (q := 10) dX3_puts_9 rfl ?_
  refine V.iload_n (q := 11) dX3_puts_10 rfl rfl ?_
  refine V.iaddN (q := 12) dX3_puts_11 rfl ?_
  refine V.iload_n (q := 13) dX3_puts_12 rfl rfl ?_
  refine V.iastN (q := 14) dX3_puts_13 rfl rfl (by decide) (by omega) (by decide) ?_
  exact V.ret_v hB dX3_puts_14 ⟨rfl, rfl⟩

set_option maxHeartbeats 4000000 in
set_option maxRecDepth 100000 in
theorem m_trustOf {σ : Sg} {n y : Nat} {τ : Nat → Nat → Nat} (hS : SA σ 45 n y τ) {k : Nat} (hk : k < n) : Con 2 yX3_trustOf cX3_trustOf 2 (some .int) [.ref 43, .int (nI k)] σ (PI (fun r σ1 => r = nI (trustM τ k) ∧ σ1 = σ)) := by
  refine Con.of (by decide) (by simp [Value.category]) (Nat.le_of_ble_eq_true rfl) (fun x hB => ?_)
  show V x RX3 cX3_trustOf 2 0 [some (.ref 43), some (.int (nI k))] [] _
  have hn6 := hS.n6
  have hyb := hS.yb
  have hw := hS.w k hk
  refine V.aload_n (q := 1) dX3_trustOf_0 rfl rfl ?_
  refine V.iload_n (q := 2) dX3_trustOf_1 rfl rfl ?_
  refine V.iconst (q := 3) (v := nI 3) dX3_trustOf_2 rfl (by decide +kernel) ?_
  refine V.cvi2 (q := 6) dX3_trustOf_3 rfl kc_X3_109 rfl (by decide) rfl (hB.rm (by decide)) (Nat.le_of_ble_eq_true rfl) (m_get hS (by omega) 3 (by decide)) (fun r3 τ3 hp3 => ?_)
  obtain ⟨rfl, hz⟩ := hp3
  rw [hz]
  refine V.aload_n (q := 7) dX3_trustOf_6 rfl rfl ?_
  refine V.iload_n (q := 8) dX3_trustOf_7 rfl rfl ?_
  refine V.bipush (q := 10) (v := nI 6) dX3_trustOf_8 rfl (by decide +kernel) ?_
  refine V.cvi2 (q := 13) dX3_trustOf_10 rfl kc_X3_109 rfl (by decide) rfl (hB.rm (by decide)) (Nat.le_of_ble_eq_true rfl) (m_get hS (by omega) 6 (by decide)) (fun r10 τ10 hp10 => ?_)
  obtain ⟨rfl, hz⟩ := hp10
  rw [hz]
  refine V.iconst (q := 14) (v := nI 1) dX3_trustOf_13 rfl (by decide +kernel) ?_
  refine V.iaddN (q := 15) dX3_trustOf_14 rfl ?_
  refine V.icmpN_ge (t := 27) (q := 18) dX3_trustOf_15 (by decide) rfl (by omega) (by omega) (fun c15 => ?_) (fun c15 => ?_)
  · refine V.aload_n (q := 28) dX3_trustOf_27 rfl rfl ?_
    refine V.iload_n (q := 29) dX3_trustOf_28 rfl rfl ?_
    refine V.bipush (q := 31) (v := nI 6) dX3_trustOf_29 rfl (by decide +kernel) ?_
    refine V.cvi2 (q := 34) dX3_trustOf_31 rfl kc_X3_109 rfl (by decide) rfl (hB.rm (by decide)) (Nat.le_of_ble_eq_true rfl) (m_get hS (by omega) 6 (by decide)) (fun r31 τ31 hp31 => ?_)
    obtain ⟨rfl, hz⟩ := hp31
    rw [hz]
    refine V.iconst (q := 35) (v := nI 1) dX3_trustOf_34 rfl (by decide +kernel) ?_
    refine V.iaddN (q := 36) dX3_trustOf_35 rfl ?_
    exact V.ret_int hB dX3_trustOf_36 rfl ⟨_, rfl, ⟨by unfold trustM; congr 1; omega, rfl⟩⟩
  · refine V.aload_n (q := 19) dX3_trustOf_18 rfl rfl ?_
    refine V.iload_n (q := 20) dX3_trustOf_19 rfl rfl ?_
    refine V.iconst (q := 21) (v := nI 3) dX3_trustOf_20 rfl (by decide +kernel) ?_
    refine V.cvi2 (q := 24) dX3_trustOf_21 rfl kc_X3_109 rfl (by decide) rfl (hB.rm (by decide)) (Nat.le_of_ble_eq_true rfl) (m_get hS (by omega) 3 (by decide)) (fun r21 τ21 hp21 => ?_)
    obtain ⟨rfl, hz⟩ := hp21
    rw [hz]
    refine V.goto (q := 36) dX3_trustOf_24 (by decide) ?_
    exact V.ret_int hB dX3_trustOf_36 rfl ⟨_, rfl, ⟨by unfold trustM; congr 1; omega, rfl⟩⟩

set_option maxHeartbeats 4000000 in
set_option maxRecDepth 100000 in
theorem m_mendsBy {σ : Sg} {n y z l : Nat} {τ : Nat → Nat → Nat} (hY : YA σ n y z l τ) {k mt : Nat} (hk : k < n) (emt : mt = τ 1 (τ 5 k)) : Con 3 yX3_mendsBy cX3_mendsBy 3 (some .int) [.ref 43, .int (nI k)] σ (PI (fun r σ1 => r = nI (workM y z l τ k mt) ∧ σ1 = σ)) := by
  refine Con.of (by decide) (by simp [Value.category]) (Nat.le_of_ble_eq_true rfl) (fun x hB => ?_)
  show V x RX3 cX3_mendsBy 3 0 [some (.ref 43), some (.int (nI k)), none] [] _
  have hS := hY.s
  have hn6 := hS.n6
  have hyb := hS.yb
  have hw := hS.w k hk
  have hw5 := hw.2.2.2.2.2.1
  have hww := hS.w _ hw5
  refine V.aload_n (q := 1) dX3_mendsBy_0 rfl rfl ?_
  refine V.iload_n (q := 2) dX3_mendsBy_1 rfl rfl ?_
  refine V.iconst (q := 3) (v := nI 3) dX3_mendsBy_2 rfl (by decide +kernel) ?_
  refine V.cvi2 (q := 6) dX3_mendsBy_3 rfl kc_X3_109 rfl (by decide) rfl (hB.rm (by decide)) (Nat.le_of_ble_eq_true rfl) (m_get hS (by omega) 3 (by decide)) (fun r3 τ3 hp3 => ?_)
  obtain ⟨rfl, hz⟩ := hp3
  rw [hz]
  refine V.ist2 (q := 7) dX3_mendsBy_6 rfl ?_
  refine V.iload_n (q := 8) dX3_mendsBy_7 rfl rfl ?_
  refine V.aload_n (q := 9) dX3_mendsBy_8 rfl rfl ?_
  refine V.getI (q := 12) dX3_mendsBy_9 rfl kf_X3_25 rfl (by decide) rfl hY.2.1 ?_
  refine V.icmp_eq (t := 23) (q := 15) dX3_mendsBy_12 (by decide) rfl  (fun c12 => ?_) (fun c12 => ?_)
  · refine V.iconst (q := 24) (v := nI 0) dX3_mendsBy_23 rfl (by decide +kernel) ?_
    exact V.ret_int hB dX3_mendsBy_24 rfl ⟨_, rfl, ⟨by simp [workM, (n9_eq (show k < 6 by omega)).mp c12], rfl⟩⟩
  · have hz1 : ¬ k = z := fun e9 => c12 ((n9_eq (by omega)).mpr e9)
    refine V.iload_n (q := 16) dX3_mendsBy_15 rfl rfl ?_
    refine V.aload_n (q := 17) dX3_mendsBy_16 rfl rfl ?_
    refine V.getI (q := 20) dX3_mendsBy_17 rfl kf_X3_29 rfl (by decide) rfl hY.2.2 ?_
    refine V.icmp_ne (t := 25) (q := 23) dX3_mendsBy_20 (by decide) rfl  (fun c20 => ?_) (fun c20 => ?_)
    · have hz2 : ¬ k = l := fun e9 => c20 ((n9_eq (by omega)).mpr e9)
      refine V.aload_n (q := 26) dX3_mendsBy_25 rfl rfl ?_
      refine V.iload_n (q := 27) dX3_mendsBy_26 rfl rfl ?_
      refine V.iconst (q := 28) (v := nI 0) dX3_mendsBy_27 rfl (by decide +kernel) ?_
      refine V.cvi2 (q := 31) dX3_mendsBy_28 rfl kc_X3_109 rfl (by decide) rfl (hB.rm (by decide)) (Nat.le_of_ble_eq_true rfl) (m_get hS (by omega) 0 (by decide)) (fun r28 τ28 hp28 => ?_)
      obtain ⟨rfl, hz⟩ := hp28
      rw [hz]
      rcases (show τ 0 k = 0 ∨ τ 0 k = 1 ∨ τ 0 k = 2 ∨ τ 0 k = 3 ∨ τ 0 k = 4 ∨ τ 0 k = 5 by omega) with e0 | e0 | e0 | e0 | e0 | e0
      · rw [e0]
        refine V.tableOut (q := 134) dX3_mendsBy_31 (by decide +kernel) (by decide) ?_
        refine V.iload_n (q := 135) dX3_mendsBy_134 rfl rfl ?_
        exact V.ret_int hB dX3_mendsBy_135 rfl ⟨_, rfl, ⟨by simp [workM, hz1, hz2, e0], rfl⟩⟩
      · rw [e0]
        refine V.tableIn (q := 64) (off := 33) dX3_mendsBy_31 (by decide +kernel) (by decide +kernel) rfl (by decide) ?_
        refine V.aload_n (q := 65) dX3_mendsBy_64 rfl rfl ?_
        refine V.getR (q := 68) dX3_mendsBy_65 rfl kf_X3_13 rfl (by decide) rfl ?_
        refine V.iconst (q := 69) (v := nI 1) dX3_mendsBy_68 rfl (by decide +kernel) ?_
        refine V.ialdN (q := 70) dX3_mendsBy_69 rfl rfl (by decide) (by omega) (by decide) (SA.r hS) ?_
        refine V.iconst (q := 71) (v := nI 2) dX3_mendsBy_70 rfl (by decide +kernel) ?_
        refine V.iremN (q := 72) dX3_mendsBy_71 rfl (by omega) (by decide) (by decide) ?_
        refine V.ifN_ne (t := 79) (q := 75) dX3_mendsBy_72 (by decide) rfl (by omega) (fun c72 => ?_) (fun c72 => ?_)
        · refine V.iconst (q := 80) (v := nI 0) dX3_mendsBy_79 rfl (by decide +kernel) ?_
          exact V.ret_int hB dX3_mendsBy_80 rfl ⟨_, rfl, ⟨by simp [workM, hz1, hz2, e0, c72], rfl⟩⟩
        · refine V.iload_n (q := 76) dX3_mendsBy_75 rfl rfl ?_
          refine V.goto (q := 80) dX3_mendsBy_76 (by decide) ?_
          exact V.ret_int hB dX3_mendsBy_80 rfl ⟨_, rfl, ⟨by simp [workM, hz1, hz2, e0, c72], rfl⟩⟩
      · rw [e0]
        refine V.tableIn (q := 81) (off := 50) dX3_mendsBy_31 (by decide +kernel) (by decide +kernel) rfl (by decide) ?_
        refine V.aload_n (q := 82) dX3_mendsBy_81 rfl rfl ?_
        refine V.iload_n (q := 83) dX3_mendsBy_82 rfl rfl ?_
        refine V.cvi1 (q := 86) dX3_mendsBy_83 rfl kc_X3_113 rfl (by decide) rfl (hB.rm (by decide)) (Nat.le_of_ble_eq_true rfl) (m_trustOf hS hk) (fun r83 τ83 hp83 => ?_)
        obtain ⟨rfl, hz⟩ := hp83
        rw [hz]
        exact V.ret_int hB dX3_mendsBy_86 rfl ⟨_, rfl, ⟨by simp [workM, hz1, hz2, e0], rfl⟩⟩
      · rw [e0]
        refine V.tableIn (q := 87) (off := 56) dX3_mendsBy_31 (by decide +kernel) (by decide +kernel) rfl (by decide) ?_
        refine V.aload_n (q := 88) dX3_mendsBy_87 rfl rfl ?_
        refine V.iload_n (q := 89) dX3_mendsBy_88 rfl rfl ?_
        refine V.iconst (q := 90) (v := nI 4) dX3_mendsBy_89 rfl (by decide +kernel) ?_
        refine V.cvi2 (q := 93) dX3_mendsBy_90 rfl kc_X3_109 rfl (by decide) rfl (hB.rm (by decide)) (Nat.le_of_ble_eq_true rfl) (m_get hS (by omega) 4 (by decide)) (fun r90 τ90 hp90 => ?_)
        obtain ⟨rfl, hz⟩ := hp90
        rw [hz]
        refine V.ifN_le (t := 102) (q := 96) dX3_mendsBy_93 (by decide) rfl (by omega) (fun c93 => ?_) (fun c93 => ?_)
        · refine V.iconst (q := 103) (v := nI 0) dX3_mendsBy_102 rfl (by decide +kernel) ?_
          exact V.ret_int hB dX3_mendsBy_103 rfl ⟨_, rfl, ⟨by simp [workM, hz1, hz2, e0, show ¬ 0 < τ 4 k by omega], rfl⟩⟩
        · refine V.iload_n (q := 97) dX3_mendsBy_96 rfl rfl ?_
          refine V.iconst (q := 98) (v := nI 1) dX3_mendsBy_97 rfl (by decide +kernel) ?_
          refine V.iaddN (q := 99) dX3_mendsBy_98 rfl ?_
          refine V.goto (q := 103) dX3_mendsBy_99 (by decide) ?_
          exact V.ret_int hB dX3_mendsBy_103 rfl ⟨_, rfl, ⟨by simp [workM, hz1, hz2, e0, show 0 < τ 4 k by omega], rfl⟩⟩
      · rw [e0]
        refine V.tableIn (q := 104) (off := 73) dX3_mendsBy_31 (by decide +kernel) (by decide +kernel) rfl (by decide) ?_
        refine V.iconst (q := 105) (v := nI 2) dX3_mendsBy_104 rfl (by decide +kernel) ?_
        refine V.iload_n (q := 106) dX3_mendsBy_105 rfl rfl ?_
        refine V.imulN (q := 107) dX3_mendsBy_106 rfl ?_
        exact V.ret_int hB dX3_mendsBy_107 rfl ⟨_, rfl, ⟨by simp [workM, hz1, hz2, e0], rfl⟩⟩
      · rw [e0]
        refine V.tableIn (q := 108) (off := 77) dX3_mendsBy_31 (by decide +kernel) (by decide +kernel) rfl (by decide) ?_
        refine V.aload_n (q := 109) dX3_mendsBy_108 rfl rfl ?_
        refine V.aload_n (q := 110) dX3_mendsBy_109 rfl rfl ?_
        refine V.iload_n (q := 111) dX3_mendsBy_110 rfl rfl ?_
        refine V.iconst (q := 112) (v := nI 5) dX3_mendsBy_111 rfl (by decide +kernel) ?_
        refine V.cvi2 (q := 115) dX3_mendsBy_112 rfl kc_X3_109 rfl (by decide) rfl (hB.rm (by decide)) (Nat.le_of_ble_eq_true rfl) (m_get hS (by omega) 5 (by decide)) (fun r112 τ112 hp112 => ?_)
        obtain ⟨rfl, hz⟩ := hp112
        rw [hz]
        refine V.iconst (q := 116) (v := nI 1) dX3_mendsBy_115 rfl (by decide +kernel) ?_
        refine V.cvi2 (q := 119) dX3_mendsBy_116 rfl kc_X3_109 rfl (by decide) rfl (hB.rm (by decide)) (Nat.le_of_ble_eq_true rfl) (m_get hS (by omega) 1 (by decide)) (fun r116 τ116 hp116 => ?_)
        obtain ⟨rfl, hz⟩ := hp116
        rw [hz]
        refine V.bipush (q := 121) (v := nI 6) dX3_mendsBy_119 rfl (by decide +kernel) ?_
        refine V.icmpN_lt (t := 128) (q := 124) dX3_mendsBy_121 (by decide) rfl (by omega) (by omega) (fun c121 => ?_) (fun c121 => ?_)
        · refine V.aload_n (q := 129) dX3_mendsBy_128 rfl rfl ?_
          refine V.iload_n (q := 130) dX3_mendsBy_129 rfl rfl ?_
          refine V.cvi1 (q := 133) dX3_mendsBy_130 rfl kc_X3_113 rfl (by decide) rfl (hB.rm (by decide)) (Nat.le_of_ble_eq_true rfl) (m_trustOf hS hk) (fun r130 τ130 hp130 => ?_)
          obtain ⟨rfl, hz⟩ := hp130
          rw [hz]
          exact V.ret_int hB dX3_mendsBy_133 rfl ⟨_, rfl, ⟨by simp [workM, hz1, hz2, e0, show ¬ 6 ≤ mt by omega], rfl⟩⟩
        · refine V.iload_n (q := 125) dX3_mendsBy_124 rfl rfl ?_
          refine V.goto (q := 133) dX3_mendsBy_125 (by decide) ?_
          exact V.ret_int hB dX3_mendsBy_133 rfl ⟨_, rfl, ⟨by simp [workM, hz1, hz2, e0, show 6 ≤ mt by omega], rfl⟩⟩
    · refine V.iconst (q := 24) (v := nI 0) dX3_mendsBy_23 rfl (by decide +kernel) ?_
      exact V.ret_int hB dX3_mendsBy_24 rfl ⟨_, rfl, ⟨by simp [workM, (n9_eq (show k < 6 by omega)).mp (Decidable.not_not.mp c20)], rfl⟩⟩

