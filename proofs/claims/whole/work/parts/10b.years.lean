theorem sNb_neg {v : Int32} {n : Nat} (hn : n < 2 ^ 20) (h : v < 0) : ¬ sN v n := by
  rintro ⟨k, hk, rfl⟩
  exact nI_pos (by omega) h
theorem sNb_ge {v : Int32} {n : Nat} (hn : n < 2 ^ 20) (h : nI n ≤ v) : ¬ sN v n := by
  rintro ⟨k, hk, rfl⟩
  exact nI_ge hk (by omega) h
theorem sNb_of {v : Int32} {n : Nat} (h0 : ¬ v < 0) (h : ¬ nI n ≤ v) : sN v n := by
  obtain ⟨j, hj, rfl⟩ := nI_of h0
  refine ⟨j, ?_, rfl⟩
  rcases Nat.lt_or_ge j n with z | z
  · exact z
  · exact absurd (nI_le z hj) h
set_option maxHeartbeats 4000000 in
set_option maxRecDepth 100000 in
theorem m_refuse {σ : Sg} {n y : Nat} {τ : Nat → Nat → Nat} {fl n2 y2 : Nat} {τ2 : Nat → Nat → Nat} {m : Nat} {cs : Nat → Nat} {rl : Nat} {ro rc : Nat → Nat} (hX : MR σ n y τ fl n2 y2 τ2 m cs rl ro rc) {k : Nat} (h1 : 1 ≤ k) (h6 : k ≤ 6) {v : Int32} (hv : v = -(nI k)) : Con 1 yX3_refuse cX3_refuse 2 (some .int) [.ref 43, .int v] σ (PI (fun r σ1 => r = v ∧ σ1 = w2 σ 44 k (nI (rc k + 1)))) := by
  refine Con.of (by decide) (by simp [Value.category]) (Nat.le_of_ble_eq_true rfl) (fun x hB => ?_)
  show V x RX3 cX3_refuse 2 0 [some (.ref 43), some (.int v)] [] _
  refine V.aload_n (q := 1) dX3_refuse_0 rfl rfl ?_
  refine V.getR (q := 4) dX3_refuse_1 rfl kf_X3_7 rfl (by decide) rfl ?_
  refine V.iload_n (q := 5) dX3_refuse_4 rfl rfl ?_
  refine V.ineg (q := 6) dX3_refuse_5 rfl ?_
  rw [show -v = nI k by rw [hv]; exact neg_neg32 _]
  refine V.dup2 (q := 7) dX3_refuse_6 rfl rfl rfl ?_
  refine V.ialdN (q := 8) dX3_refuse_7 rfl rfl (by decide) (by omega) (by decide) (hX.rc0 h1 h6) ?_
  refine V.iconst (q := 9) (v := nI 1) dX3_refuse_8 rfl (by decide +kernel) ?_
  refine V.iaddN (q := 10) dX3_refuse_9 rfl ?_
  refine V.iastN (q := 11) dX3_refuse_10 rfl rfl (by decide) (by omega) (by decide) ?_
  refine V.iload_n (q := 12) dX3_refuse_11 rfl rfl ?_
  exact V.ret_int hB dX3_refuse_12 rfl ⟨_, rfl, ⟨rfl, rfl⟩⟩

set_option maxHeartbeats 4000000 in
set_option maxRecDepth 100000 in
theorem m_isIn {σ : Sg} (v : Int32) (n : Nat) (hn : n < 2 ^ 20) : Con 1 yX3_isIn cX3_isIn 2 (some .boolean) [.int v, .int (nI n)] σ (PI (fun r σ1 => σ1 = σ ∧ ((r = nI 1 ∧ sN v n) ∨ (r = nI 0 ∧ ¬ sN v n)))) := by
  refine Con.of (by decide) (by simp [Value.category]) (Nat.le_of_ble_eq_true rfl) (fun x hB => ?_)
  show V x RX3 cX3_isIn 2 0 [some (.int v), some (.int (nI n))] [] _
  refine V.iload_n (q := 1) dX3_isIn_0 rfl rfl ?_
  refine V.if_lt (t := 13) (q := 4) dX3_isIn_1 (by decide) rfl  (fun c1 => ?_) (fun c1 => ?_)
  · refine V.iconst (q := 14) (v := nI 0) dX3_isIn_13 rfl (by decide +kernel) ?_
    exact V.ret_int hB dX3_isIn_14 (by decide +kernel) ⟨_, rfl, ⟨rfl, Or.inr ⟨rfl, sNb_neg hn c1⟩⟩⟩
  · refine V.iload_n (q := 5) dX3_isIn_4 rfl rfl ?_
    refine V.iload_n (q := 6) dX3_isIn_5 rfl rfl ?_
    refine V.icmp_ge (t := 13) (q := 9) dX3_isIn_6 (by decide) rfl  (fun c6 => ?_) (fun c6 => ?_)
    · refine V.iconst (q := 14) (v := nI 0) dX3_isIn_13 rfl (by decide +kernel) ?_
      exact V.ret_int hB dX3_isIn_14 (by decide +kernel) ⟨_, rfl, ⟨rfl, Or.inr ⟨rfl, sNb_ge hn c6⟩⟩⟩
    · refine V.iconst (q := 10) (v := nI 1) dX3_isIn_9 rfl (by decide +kernel) ?_
      refine V.goto (q := 14) dX3_isIn_10 (by decide) ?_
      exact V.ret_int hB dX3_isIn_14 (by decide +kernel) ⟨_, rfl, ⟨rfl, Or.inl ⟨rfl, sNb_of c1 c6⟩⟩⟩

set_option maxHeartbeats 4000000 in
set_option maxRecDepth 100000 in
theorem m_within {σ : Sg} (v : Int32) (a c : Nat) (hac : a ≤ c) (hc : c < 2 ^ 20) : Con 1 yX3_within cX3_within 3 (some .int) [.int v, .int (nI a), .int (nI c)] σ (PI (fun r σ1 => σ1 = σ ∧ ((rfN v a c = 4 ∧ r = -4) ∨ (rfN v a c = 6 ∧ r = -6) ∨ (r = nI 0 ∧ ∃ j, a ≤ j ∧ j ≤ c ∧ v = nI j)))) := by
  refine Con.of (by decide) (by simp [Value.category]) (Nat.le_of_ble_eq_true rfl) (fun x hB => ?_)
  show V x RX3 cX3_within 3 0 [some (.int v), some (.int (nI a)), some (.int (nI c))] [] _
  refine V.iload_n (q := 1) dX3_within_0 rfl rfl ?_
  refine V.iload_n (q := 2) dX3_within_1 rfl rfl ?_
  refine V.icmp_ge (t := 10) (q := 5) dX3_within_2 (by decide) rfl  (fun c2 => ?_) (fun c2 => ?_)
  · refine V.iload_n (q := 11) dX3_within_10 rfl rfl ?_
    refine V.iload_n (q := 12) dX3_within_11 rfl rfl ?_
    refine V.icmp_le (t := 20) (q := 15) dX3_within_12 (by decide) rfl  (fun c12 => ?_) (fun c12 => ?_)
    · refine V.iconst (q := 21) (v := nI 0) dX3_within_20 rfl (by decide +kernel) ?_
      exact V.ret_int hB dX3_within_21 rfl ⟨_, rfl, ⟨rfl, Or.inr (Or.inr ⟨rfl, rof_in c2 c12 hac hc⟩)⟩⟩
    · refine V.bipush (q := 17) (v := (-6)) dX3_within_15 rfl (by decide +kernel) ?_
      refine V.goto (q := 21) dX3_within_17 (by decide) ?_
      exact V.ret_int hB dX3_within_21 rfl ⟨_, rfl, ⟨rfl, Or.inr (Or.inl ⟨by unfold rfN; rw [if_neg (fun h9 => absurd c2 (Int32.not_le.mpr h9)), if_pos (Int32.not_le.mp c12)], rfl⟩)⟩⟩
  · refine V.bipush (q := 7) (v := (-4)) dX3_within_5 rfl (by decide +kernel) ?_
    refine V.goto (q := 21) dX3_within_7 (by decide) ?_
    exact V.ret_int hB dX3_within_21 rfl ⟨_, rfl, ⟨rfl, Or.inl ⟨by unfold rfN; rw [if_pos (Int32.not_le.mp c2)], rfl⟩⟩⟩

set_option maxHeartbeats 4000000 in
set_option maxRecDepth 100000 in
theorem m_lays {σ : Sg} {o1 o2 : Nat} (hs1 : shp o1 = .inl (false, 51)) (hs2 : shp o2 = .inl (false, 51)) (ho1 : o1 < NO) (ho2 : o2 < NO) (h12 : o1 ≠ o2) : Con 1 yX3_lays cX3_lays 3 none [.ref o1, .ref o2] σ (PV (fun σ1 => (∀ k, k < 51 → σ1 o2 k = σ o1 k) ∧ ∀ o, o ≠ o2 → σ1 o = σ o)) := by
  refine Con.of (by decide) (by simp [Value.category]) (Nat.le_of_ble_eq_true rfl) (fun x hB => ?_)
  show V x RX3 cX3_lays 3 0 [some (.ref o1), some (.ref o2), none] [] _
  refine V.iconst (q := 1) (v := nI 0) dX3_lays_0 rfl (by decide +kernel) ?_
  refine V.ist2 (q := 2) dX3_lays_1 rfl ?_
  have loop : ∀ j, j ≤ 51 → ∀ σ1, (∀ k, k < j → σ1 o2 k = σ o1 k) → (∀ o, o ≠ o2 → σ1 o = σ o) → V x RX3 cX3_lays 3 2 [some (.ref o1), some (.ref o2), some (.int (nI j))] [] σ1 := by
    refine down 51 (fun j hj ih σ1 hc hF => ?_)
    refine V.iload_n (q := 3) dX3_lays_2 rfl rfl ?_
    refine V.bipush (q := 5) (v := nI 51) dX3_lays_3 rfl (by decide +kernel) ?_
    refine V.icmpN_ge (t := 20) (q := 8) dX3_lays_5 (by decide) rfl (by omega) (by omega) (fun c5 => ?_) (fun c5 => ?_)
    · have ej : j = 51 := by omega
      subst ej
      exact V.ret_v hB dX3_lays_20 ⟨rfl, ⟨hc, hF⟩⟩
    · refine V.aload_n (q := 9) dX3_lays_8 rfl rfl ?_
      refine V.iload_n (q := 10) dX3_lays_9 rfl rfl ?_
      refine V.aload_n (q := 11) dX3_lays_10 rfl rfl ?_
      refine V.iload_n (q := 12) dX3_lays_11 rfl rfl ?_
      refine V.ialdN (q := 13) dX3_lays_12 rfl hs1 ho1 (by omega) (by decide) (show σ1 o1 j = σ o1 j by rw [hF o1 h12]) ?_
      refine V.iastN (q := 14) dX3_lays_13 rfl hs2 ho2 (by omega) (by decide) ?_
      refine V.inc2 (q := 17) dX3_lays_14 rfl (inc1 _) ?_
      refine V.goto (q := 2) dX3_lays_17 (by decide) ?_
      refine ih (by omega) _ (fun k hk => ?_) (fun o ho => by rw [w2_ne ho]; exact hF o ho)
      rw [w2_rd]
      by_cases h9 : k = j
      · subst h9; rw [if_pos ⟨rfl, rfl⟩]
      · rw [if_neg (fun h8 => h9 h8.2)]; exact hc k (by omega)
  exact loop 0 (Nat.zero_le _) σ (fun k hk => absurd hk (by omega)) (fun _ _ => rfl)

set_option maxHeartbeats 4000000 in
set_option maxRecDepth 100000 in
theorem m_begins {σ : Sg} {n y : Nat} {τ : Nat → Nat → Nat} (hS : SA σ 45 n y τ) : Con 2 yX3_begins cX3_begins 1 none [.ref 43] σ (PV (fun σ1 => SA σ1 48 n y τ ∧ SA σ1 45 n y τ ∧ ∀ o, o ≠ 48 → σ1 o = σ o)) := by
  refine Con.of (by decide) (by simp [Value.category]) (Nat.le_of_ble_eq_true rfl) (fun x hB => ?_)
  show V x RX3 cX3_begins 1 0 [some (.ref 43)] [] _
  refine V.aload_n (q := 1) dX3_begins_0 rfl rfl ?_
  refine V.getR (q := 4) dX3_begins_1 rfl kf_X3_13 rfl (by decide) rfl ?_
  refine V.aload_n (q := 5) dX3_begins_4 rfl rfl ?_
  refine V.getR (q := 8) dX3_begins_5 rfl kf_X3_22 rfl (by decide) rfl ?_
  refine V.csv2 (q := 11) dX3_begins_8 rfl kc_X3_56 (hB.rm (by decide)) (Nat.le_of_ble_eq_true rfl) (m_lays rfl rfl (by decide) (by decide) (by decide)) (fun τ8 hp8 => ?_)
  obtain ⟨hc, hF⟩ := hp8
  exact V.ret_v hB dX3_begins_11 ⟨rfl, ⟨hS.cp hc, hS.fr (hF 45 (by decide)), hF⟩⟩

set_option maxHeartbeats 4000000 in
set_option maxRecDepth 100000 in
theorem m_ends {σ : Sg} {n y : Nat} {τ : Nat → Nat → Nat} (hM : SA σ 48 n y τ) : Con 2 yX3_ends cX3_ends 1 none [.ref 43] σ (PV (fun σ1 => SA σ1 45 n y τ ∧ SA σ1 48 n y τ ∧ ∀ o, o ≠ 45 → σ1 o = σ o)) := by
  refine Con.of (by decide) (by simp [Value.category]) (Nat.le_of_ble_eq_true rfl) (fun x hB => ?_)
  show V x RX3 cX3_ends 1 0 [some (.ref 43)] [] _
  refine V.aload_n (q := 1) dX3_ends_0 rfl rfl ?_
  refine V.getR (q := 4) dX3_ends_1 rfl kf_X3_22 rfl (by decide) rfl ?_
  refine V.aload_n (q := 5) dX3_ends_4 rfl rfl ?_
  refine V.getR (q := 8) dX3_ends_5 rfl kf_X3_13 rfl (by decide) rfl ?_
  refine V.csv2 (q := 11) dX3_ends_8 rfl kc_X3_56 (hB.rm (by decide)) (Nat.le_of_ble_eq_true rfl) (m_lays rfl rfl (by decide) (by decide) (by decide)) (fun τ8 hp8 => ?_)
  obtain ⟨hc, hF⟩ := hp8
  exact V.ret_v hB dX3_ends_11 ⟨rfl, ⟨hM.cp hc, hM.fr (hF 48 (by decide)), hF⟩⟩

set_option maxHeartbeats 4000000 in
set_option maxRecDepth 100000 in
theorem m_isStreet {σ : Sg} {n y : Nat} {τ : Nat → Nat → Nat} (hS : SA σ 45 n y τ) (v : Int32) : Con 2 yX3_isStreet cX3_isStreet 2 (some .boolean) [.ref 43, .int v] σ (PI (fun r σ1 => σ1 = σ ∧ ((r = nI 1 ∧ sN v n) ∨ (r = nI 0 ∧ ¬ sN v n)))) := by
  refine Con.of (by decide) (by simp [Value.category]) (Nat.le_of_ble_eq_true rfl) (fun x hB => ?_)
  show V x RX3 cX3_isStreet 2 0 [some (.ref 43), some (.int v)] [] _
  have hn6 := hS.n6
  have hyb := hS.yb
  refine V.iload_n (q := 1) dX3_isStreet_0 rfl rfl ?_
  refine V.aload_n (q := 2) dX3_isStreet_1 rfl rfl ?_
  refine V.getR (q := 5) dX3_isStreet_2 rfl kf_X3_13 rfl (by decide) rfl ?_
  refine V.iconst (q := 6) (v := nI 0) dX3_isStreet_5 rfl (by decide +kernel) ?_
  refine V.ialdN (q := 7) dX3_isStreet_6 rfl rfl (by decide) (by omega) (by decide) (SA.c hS) ?_
  refine V.csi2 (q := 10) dX3_isStreet_7 rfl kc_X3_60 (hB.rm (by decide)) (Nat.le_of_ble_eq_true rfl) (m_isIn v n (by omega)) (fun r7 τ7 hp7 => ?_)
  obtain ⟨hz, h9⟩ := hp7
  rw [hz]
  exact V.ret_int hB dX3_isStreet_10 (by rcases h9 with ⟨rfl, -⟩ | ⟨rfl, -⟩ <;> decide +kernel) ⟨_, rfl, ⟨rfl, h9⟩⟩

set_option maxHeartbeats 4000000 in
set_option maxRecDepth 100000 in
theorem m_get0 {σ : Sg} {i k : Nat} (h : 2 + 7 * i + k < 51) : Con 1 yX3_get cX3_get 3 (some .int) [.ref 43, .int (nI i), .int (nI k)] σ (PI (fun r σ1 => r = σ 45 (2 + 7 * i + k) ∧ σ1 = σ)) := by
  refine Con.of (by decide) (by simp [Value.category]) (Nat.le_of_ble_eq_true rfl) (fun x hB => ?_)
  show V x RX3 cX3_get 3 0 [some (.ref 43), some (.int (nI i)), some (.int (nI k))] [] _
  refine V.aload_n (q := 1) dX3_get_0 rfl rfl ?_
  refine V.getR (q := 4) dX3_get_1 rfl kf_X3_13 rfl (by decide) rfl ?_
  refine V.iconst (q := 5) (v := nI 2) dX3_get_4 rfl (by decide +kernel) ?_
  refine V.bipush (q := 7) (v := nI 7) dX3_get_5 rfl (by decide +kernel) ?_
  refine V.iload_n (q := 8) dX3_get_7 rfl rfl ?_
  refine V.imulN (q := 9) dX3_get_8 rfl ?_
  refine V.iaddN (q := 10) dX3_get_9 rfl ?_
  refine V.iload_n (q := 11) dX3_get_10 rfl rfl ?_
  refine V.iaddN (q := 12) dX3_get_11 rfl ?_
  refine V.ialdN (q := 13) dX3_get_12 rfl rfl (by decide) (by omega) (by decide) rfl ?_
  exact V.ret_int hB dX3_get_13 rfl ⟨_, rfl, ⟨rfl, rfl⟩⟩

theorem m_get {σ : Sg} {n y : Nat} {τ : Nat → Nat → Nat} (hS : SA σ 45 n y τ) {i : Nat} (hi : i < n) (f : Nat) (hf : f < 7) : Con 1 yX3_get cX3_get 3 (some .int) [.ref 43, .int (nI i), .int (nI f)] σ (PI (fun r σ1 => r = nI (τ f i) ∧ σ1 = σ)) :=
  (m_get0 (by have := hS.n6; omega)).weaken (fun r σ1 h => by
    obtain ⟨v, e1, e2, e3⟩ := h
    exact ⟨v, e1, by rw [e2]; exact hS.a hi f hf, e3⟩)
set_option maxHeartbeats 4000000 in
set_option maxRecDepth 100000 in
theorem m_puts {σ : Sg} {i k : Nat} {v : Int32} (h : 2 + 7 * i + k < 51) : Con 1 yX3_puts cX3_puts 4 none [.ref 43, .int (nI i), .int (nI k), .int v] σ (PV (fun σ1 => σ1 = w2 σ 45 (2 + 7 * i + k) v)) := by
  refine Con.of (by decide) (by simp [Value.category]) (Nat.le_of_ble_eq_true rfl) (fun x hB => ?_)
  show V x RX3 cX3_puts 4 0 [some (.ref 43), some (.int (nI i)), some (.int (nI k)), some (.int v)] [] _
  refine V.aload_n (q := 1) dX3_puts_0 rfl rfl ?_
  refine V.getR (q := 4) dX3_puts_1 rfl kf_X3_13 rfl (by decide) rfl ?_
  refine V.iconst (q := 5) (v := nI 2) dX3_puts_4 rfl (by decide +kernel) ?_
  refine V.bipush (q := 7) (v := nI 7) dX3_puts_5 rfl (by decide +kernel) ?_
  refine V.iload_n (q := 8) dX3_puts_7 rfl rfl ?_
  refine V.imulN (q := 9) dX3_puts_8 rfl ?_
  refine V.iaddN (q := 10) dX3_puts_9 rfl ?_
  refine V.iload_n (q := 11) dX3_puts_10 rfl rfl ?_
  refine V.iaddN (q := 12) dX3_puts_11 rfl ?_
  refine V.iload_n (q := 13) dX3_puts_12 rfl rfl ?_
  refine V.iastN (q := 14) dX3_puts_13 rfl rfl (by decide) (by omega) (by decide) ?_
  exact V.ret_v hB dX3_puts_14 ⟨rfl, rfl⟩

set_option maxHeartbeats 4000000 in
set_option maxRecDepth 100000 in
theorem m_trustOf {σ : Sg} {n y : Nat} {τ : Nat → Nat → Nat} (hS : SA σ 45 n y τ) {k : Nat} (hk : k < n) : Con 2 yX3_trustOf cX3_trustOf 2 (some .int) [.ref 43, .int (nI k)] σ (PI (fun r σ1 => r = nI (trustM τ k) ∧ σ1 = σ)) := by
  refine Con.of (by decide) (by simp [Value.category]) (Nat.le_of_ble_eq_true rfl) (fun x hB => ?_)
  show V x RX3 cX3_trustOf 2 0 [some (.ref 43), some (.int (nI k))] [] _
  have hn6 := hS.n6
  have hyb := hS.yb
  have hw := hS.w k hk
  refine V.aload_n (q := 1) dX3_trustOf_0 rfl rfl ?_
  refine V.iload_n (q := 2) dX3_trustOf_1 rfl rfl ?_
  refine V.iconst (q := 3) (v := nI 3) dX3_trustOf_2 rfl (by decide +kernel) ?_
  refine V.cvi2 (q := 6) dX3_trustOf_3 rfl kc_X3_109 rfl (by decide) rfl (hB.rm (by decide)) (Nat.le_of_ble_eq_true rfl) (m_get hS (by omega) 3 (by decide)) (fun r3 τ3 hp3 => ?_)
  obtain ⟨rfl, hz⟩ := hp3
  rw [hz]
  refine V.aload_n (q := 7) dX3_trustOf_6 rfl rfl ?_
  refine V.iload_n (q := 8) dX3_trustOf_7 rfl rfl ?_
  refine V.bipush (q := 10) (v := nI 6) dX3_trustOf_8 rfl (by decide +kernel) ?_
  refine V.cvi2 (q := 13) dX3_trustOf_10 rfl kc_X3_109 rfl (by decide) rfl (hB.rm (by decide)) (Nat.le_of_ble_eq_true rfl) (m_get hS (by omega) 6 (by decide)) (fun r10 τ10 hp10 => ?_)
  obtain ⟨rfl, hz⟩ := hp10
  rw [hz]
  refine V.iconst (q := 14) (v := nI 1) dX3_trustOf_13 rfl (by decide +kernel) ?_
  refine V.iaddN (q := 15) dX3_trustOf_14 rfl ?_
  refine V.icmpN_ge (t := 27) (q := 18) dX3_trustOf_15 (by decide) rfl (by omega) (by omega) (fun c15 => ?_) (fun c15 => ?_)
  · refine V.aload_n (q := 28) dX3_trustOf_27 rfl rfl ?_
    refine V.iload_n (q := 29) dX3_trustOf_28 rfl rfl ?_
    refine V.bipush (q := 31) (v := nI 6) dX3_trustOf_29 rfl (by decide +kernel) ?_
    refine V.cvi2 (q := 34) dX3_trustOf_31 rfl kc_X3_109 rfl (by decide) rfl (hB.rm (by decide)) (Nat.le_of_ble_eq_true rfl) (m_get hS (by omega) 6 (by decide)) (fun r31 τ31 hp31 => ?_)
    obtain ⟨rfl, hz⟩ := hp31
    rw [hz]
    refine V.iconst (q := 35) (v := nI 1) dX3_trustOf_34 rfl (by decide +kernel) ?_
    refine V.iaddN (q := 36) dX3_trustOf_35 rfl ?_
    exact V.ret_int hB dX3_trustOf_36 rfl ⟨_, rfl, ⟨by unfold trustM; congr 1; omega, rfl⟩⟩
  · refine V.aload_n (q := 19) dX3_trustOf_18 rfl rfl ?_
    refine V.iload_n (q := 20) dX3_trustOf_19 rfl rfl ?_
    refine V.iconst (q := 21) (v := nI 3) dX3_trustOf_20 rfl (by decide +kernel) ?_
    refine V.cvi2 (q := 24) dX3_trustOf_21 rfl kc_X3_109 rfl (by decide) rfl (hB.rm (by decide)) (Nat.le_of_ble_eq_true rfl) (m_get hS (by omega) 3 (by decide)) (fun r21 τ21 hp21 => ?_)
    obtain ⟨rfl, hz⟩ := hp21
    rw [hz]
    refine V.goto (q := 36) dX3_trustOf_24 (by decide) ?_
    exact V.ret_int hB dX3_trustOf_36 rfl ⟨_, rfl, ⟨by unfold trustM; congr 1; omega, rfl⟩⟩

set_option maxHeartbeats 4000000 in
set_option maxRecDepth 100000 in
theorem m_mendsBy {σ : Sg} {n y z l : Nat} {τ : Nat → Nat → Nat} (hY : YA σ n y z l τ) {k mt : Nat} (hk : k < n) (emt : mt = τ 1 (τ 5 k)) : Con 3 yX3_mendsBy cX3_mendsBy 3 (some .int) [.ref 43, .int (nI k)] σ (PI (fun r σ1 => r = nI (workM y z l τ k mt) ∧ σ1 = σ)) := by
  refine Con.of (by decide) (by simp [Value.category]) (Nat.le_of_ble_eq_true rfl) (fun x hB => ?_)
  show V x RX3 cX3_mendsBy 3 0 [some (.ref 43), some (.int (nI k)), none] [] _
  have hS := hY.s
  have hn6 := hS.n6
  have hyb := hS.yb
  have hw := hS.w k hk
  have hw5 := hw.2.2.2.2.2.1
  have hww := hS.w _ hw5
  refine V.aload_n (q := 1) dX3_mendsBy_0 rfl rfl ?_
  refine V.iload_n (q := 2) dX3_mendsBy_1 rfl rfl ?_
  refine V.iconst (q := 3) (v := nI 3) dX3_mendsBy_2 rfl (by decide +kernel) ?_
  refine V.cvi2 (q := 6) dX3_mendsBy_3 rfl kc_X3_109 rfl (by decide) rfl (hB.rm (by decide)) (Nat.le_of_ble_eq_true rfl) (m_get hS (by omega) 3 (by decide)) (fun r3 τ3 hp3 => ?_)
  obtain ⟨rfl, hz⟩ := hp3
  rw [hz]
  refine V.ist2 (q := 7) dX3_mendsBy_6 rfl ?_
  refine V.iload_n (q := 8) dX3_mendsBy_7 rfl rfl ?_
  refine V.aload_n (q := 9) dX3_mendsBy_8 rfl rfl ?_
  refine V.getI (q := 12) dX3_mendsBy_9 rfl kf_X3_25 rfl (by decide) rfl hY.2.1 ?_
  refine V.icmp_eq (t := 23) (q := 15) dX3_mendsBy_12 (by decide) rfl  (fun c12 => ?_) (fun c12 => ?_)
  · refine V.iconst (q := 24) (v := nI 0) dX3_mendsBy_23 rfl (by decide +kernel) ?_
    exact V.ret_int hB dX3_mendsBy_24 rfl ⟨_, rfl, ⟨by simp [workM, (n9_eq (show k < 6 by omega)).mp c12], rfl⟩⟩
  · have hz1 : ¬ k = z := fun e9 => c12 ((n9_eq (by omega)).mpr e9)
    refine V.iload_n (q := 16) dX3_mendsBy_15 rfl rfl ?_
    refine V.aload_n (q := 17) dX3_mendsBy_16 rfl rfl ?_
    refine V.getI (q := 20) dX3_mendsBy_17 rfl kf_X3_29 rfl (by decide) rfl hY.2.2 ?_
    refine V.icmp_ne (t := 25) (q := 23) dX3_mendsBy_20 (by decide) rfl  (fun c20 => ?_) (fun c20 => ?_)
    · have hz2 : ¬ k = l := fun e9 => c20 ((n9_eq (by omega)).mpr e9)
      refine V.aload_n (q := 26) dX3_mendsBy_25 rfl rfl ?_
      refine V.iload_n (q := 27) dX3_mendsBy_26 rfl rfl ?_
      refine V.iconst (q := 28) (v := nI 0) dX3_mendsBy_27 rfl (by decide +kernel) ?_
      refine V.cvi2 (q := 31) dX3_mendsBy_28 rfl kc_X3_109 rfl (by decide) rfl (hB.rm (by decide)) (Nat.le_of_ble_eq_true rfl) (m_get hS (by omega) 0 (by decide)) (fun r28 τ28 hp28 => ?_)
      obtain ⟨rfl, hz⟩ := hp28
      rw [hz]
      rcases (show τ 0 k = 0 ∨ τ 0 k = 1 ∨ τ 0 k = 2 ∨ τ 0 k = 3 ∨ τ 0 k = 4 ∨ τ 0 k = 5 by omega) with e0 | e0 | e0 | e0 | e0 | e0
      · rw [e0]
        refine V.tableOut (q := 134) dX3_mendsBy_31 (by decide +kernel) (by decide) ?_
        refine V.iload_n (q := 135) dX3_mendsBy_134 rfl rfl ?_
        exact V.ret_int hB dX3_mendsBy_135 rfl ⟨_, rfl, ⟨by simp [workM, hz1, hz2, e0], rfl⟩⟩
      · rw [e0]
        refine V.tableIn (q := 64) (off := 33) dX3_mendsBy_31 (by decide +kernel) (by decide +kernel) rfl (by decide) ?_
        refine V.aload_n (q := 65) dX3_mendsBy_64 rfl rfl ?_
        refine V.getR (q := 68) dX3_mendsBy_65 rfl kf_X3_13 rfl (by decide) rfl ?_
        refine V.iconst (q := 69) (v := nI 1) dX3_mendsBy_68 rfl (by decide +kernel) ?_
        refine V.ialdN (q := 70) dX3_mendsBy_69 rfl rfl (by decide) (by omega) (by decide) (SA.r hS) ?_
        refine V.iconst (q := 71) (v := nI 2) dX3_mendsBy_70 rfl (by decide +kernel) ?_
        refine V.iremN (q := 72) dX3_mendsBy_71 rfl (by omega) (by decide) (by decide) ?_
        refine V.ifN_ne (t := 79) (q := 75) dX3_mendsBy_72 (by decide) rfl (by omega) (fun c72 => ?_) (fun c72 => ?_)
        · refine V.iconst (q := 80) (v := nI 0) dX3_mendsBy_79 rfl (by decide +kernel) ?_
          exact V.ret_int hB dX3_mendsBy_80 rfl ⟨_, rfl, ⟨by simp [workM, hz1, hz2, e0, c72], rfl⟩⟩
        · refine V.iload_n (q := 76) dX3_mendsBy_75 rfl rfl ?_
          refine V.goto (q := 80) dX3_mendsBy_76 (by decide) ?_
          exact V.ret_int hB dX3_mendsBy_80 rfl ⟨_, rfl, ⟨by simp [workM, hz1, hz2, e0, c72], rfl⟩⟩
      · rw [e0]
        refine V.tableIn (q := 81) (off := 50) dX3_mendsBy_31 (by decide +kernel) (by decide +kernel) rfl (by decide) ?_
        refine V.aload_n (q := 82) dX3_mendsBy_81 rfl rfl ?_
        refine V.iload_n (q := 83) dX3_mendsBy_82 rfl rfl ?_
        refine V.cvi1 (q := 86) dX3_mendsBy_83 rfl kc_X3_113 rfl (by decide) rfl (hB.rm (by decide)) (Nat.le_of_ble_eq_true rfl) (m_trustOf hS hk) (fun r83 τ83 hp83 => ?_)
        obtain ⟨rfl, hz⟩ := hp83
        rw [hz]
        exact V.ret_int hB dX3_mendsBy_86 rfl ⟨_, rfl, ⟨by simp [workM, hz1, hz2, e0], rfl⟩⟩
      · rw [e0]
        refine V.tableIn (q := 87) (off := 56) dX3_mendsBy_31 (by decide +kernel) (by decide +kernel) rfl (by decide) ?_
        refine V.aload_n (q := 88) dX3_mendsBy_87 rfl rfl ?_
        refine V.iload_n (q := 89) dX3_mendsBy_88 rfl rfl ?_
        refine V.iconst (q := 90) (v := nI 4) dX3_mendsBy_89 rfl (by decide +kernel) ?_
        refine V.cvi2 (q := 93) dX3_mendsBy_90 rfl kc_X3_109 rfl (by decide) rfl (hB.rm (by decide)) (Nat.le_of_ble_eq_true rfl) (m_get hS (by omega) 4 (by decide)) (fun r90 τ90 hp90 => ?_)
        obtain ⟨rfl, hz⟩ := hp90
        rw [hz]
        refine V.ifN_le (t := 102) (q := 96) dX3_mendsBy_93 (by decide) rfl (by omega) (fun c93 => ?_) (fun c93 => ?_)
        · refine V.iconst (q := 103) (v := nI 0) dX3_mendsBy_102 rfl (by decide +kernel) ?_
          exact V.ret_int hB dX3_mendsBy_103 rfl ⟨_, rfl, ⟨by simp [workM, hz1, hz2, e0, show ¬ 0 < τ 4 k by omega], rfl⟩⟩
        · refine V.iload_n (q := 97) dX3_mendsBy_96 rfl rfl ?_
          refine V.iconst (q := 98) (v := nI 1) dX3_mendsBy_97 rfl (by decide +kernel) ?_
          refine V.iaddN (q := 99) dX3_mendsBy_98 rfl ?_
          refine V.goto (q := 103) dX3_mendsBy_99 (by decide) ?_
          exact V.ret_int hB dX3_mendsBy_103 rfl ⟨_, rfl, ⟨by simp [workM, hz1, hz2, e0, show 0 < τ 4 k by omega], rfl⟩⟩
      · rw [e0]
        refine V.tableIn (q := 104) (off := 73) dX3_mendsBy_31 (by decide +kernel) (by decide +kernel) rfl (by decide) ?_
        refine V.iconst (q := 105) (v := nI 2) dX3_mendsBy_104 rfl (by decide +kernel) ?_
        refine V.iload_n (q := 106) dX3_mendsBy_105 rfl rfl ?_
        refine V.imulN (q := 107) dX3_mendsBy_106 rfl ?_
        exact V.ret_int hB dX3_mendsBy_107 rfl ⟨_, rfl, ⟨by simp [workM, hz1, hz2, e0], rfl⟩⟩
      · rw [e0]
        refine V.tableIn (q := 108) (off := 77) dX3_mendsBy_31 (by decide +kernel) (by decide +kernel) rfl (by decide) ?_
        refine V.aload_n (q := 109) dX3_mendsBy_108 rfl rfl ?_
        refine V.aload_n (q := 110) dX3_mendsBy_109 rfl rfl ?_
        refine V.iload_n (q := 111) dX3_mendsBy_110 rfl rfl ?_
        refine V.iconst (q := 112) (v := nI 5) dX3_mendsBy_111 rfl (by decide +kernel) ?_
        refine V.cvi2 (q := 115) dX3_mendsBy_112 rfl kc_X3_109 rfl (by decide) rfl (hB.rm (by decide)) (Nat.le_of_ble_eq_true rfl) (m_get hS (by omega) 5 (by decide)) (fun r112 τ112 hp112 => ?_)
        obtain ⟨rfl, hz⟩ := hp112
        rw [hz]
        refine V.iconst (q := 116) (v := nI 1) dX3_mendsBy_115 rfl (by decide +kernel) ?_
        refine V.cvi2 (q := 119) dX3_mendsBy_116 rfl kc_X3_109 rfl (by decide) rfl (hB.rm (by decide)) (Nat.le_of_ble_eq_true rfl) (m_get hS (by omega) 1 (by decide)) (fun r116 τ116 hp116 => ?_)
        obtain ⟨rfl, hz⟩ := hp116
        rw [hz]
        refine V.bipush (q := 121) (v := nI 6) dX3_mendsBy_119 rfl (by decide +kernel) ?_
        refine V.icmpN_lt (t := 128) (q := 124) dX3_mendsBy_121 (by decide) rfl (by omega) (by omega) (fun c121 => ?_) (fun c121 => ?_)
        · refine V.aload_n (q := 129) dX3_mendsBy_128 rfl rfl ?_
          refine V.iload_n (q := 130) dX3_mendsBy_129 rfl rfl ?_
          refine V.cvi1 (q := 133) dX3_mendsBy_130 rfl kc_X3_113 rfl (by decide) rfl (hB.rm (by decide)) (Nat.le_of_ble_eq_true rfl) (m_trustOf hS hk) (fun r130 τ130 hp130 => ?_)
          obtain ⟨rfl, hz⟩ := hp130
          rw [hz]
          exact V.ret_int hB dX3_mendsBy_133 rfl ⟨_, rfl, ⟨by simp [workM, hz1, hz2, e0, show ¬ 6 ≤ mt by omega], rfl⟩⟩
        · refine V.iload_n (q := 125) dX3_mendsBy_124 rfl rfl ?_
          refine V.goto (q := 133) dX3_mendsBy_125 (by decide) ?_
          exact V.ret_int hB dX3_mendsBy_133 rfl ⟨_, rfl, ⟨by simp [workM, hz1, hz2, e0, show 6 ≤ mt by omega], rfl⟩⟩
    · refine V.iconst (q := 24) (v := nI 0) dX3_mendsBy_23 rfl (by decide +kernel) ?_
      exact V.ret_int hB dX3_mendsBy_24 rfl ⟨_, rfl, ⟨by simp [workM, (n9_eq (show k < 6 by omega)).mp c20], rfl⟩⟩

-- paysFor(k)
set_option maxHeartbeats 4000000 in
set_option maxRecDepth 100000 in
theorem m_paysFor {σ : Sg} {n y z l : Nat} {τ : Nat → Nat → Nat} (hY : YA σ n y z l τ) {k : Nat} (hk : k < n) (hp : 1 ≤ τ 4 k) : Con 2 yX3_paysFor cX3_paysFor 4 none [.ref 43, .int (nI k)] σ (PV (fun σ1 => YA σ1 n y z l (setF τ 4 (payOne n l (τ 5) (τ 4) k)) ∧ Gy σ σ1)) := by
  refine Con.of (by decide) (by simp [Value.category]) (Nat.le_of_ble_eq_true rfl) (fun x hB => ?_)
  show V x RX3 cX3_paysFor 4 0 [some (.ref 43), some (.int (nI k)), none, none] [] _
  have hS := hY.s
  have hn6 := hS.n6
  have hyb := hS.yb
  have hw := hS.w k hk
  refine V.bipush (q := 2) (v := (-9)) dX3_paysFor_0 rfl (by decide +kernel) ?_
  refine V.ist2 (q := 3) dX3_paysFor_2 rfl ?_
  refine V.iconst (q := 4) (v := nI 0) dX3_paysFor_3 rfl (by decide +kernel) ?_
  refine V.ist3 (q := 5) dX3_paysFor_4 rfl ?_
  have loop : ∀ j, j ≤ n → ∀ v : Int32, ((v = -9 ∧ fstM (τ 5) l k j = none) ∨ (∃ o, v = nI o ∧ o < n ∧ fstM (τ 5) l k n = some o)) → V x RX3 cX3_paysFor 4 5 [some (.ref 43), some (.int (nI k)), some (.int v), some (.int (nI j))] [] σ := by
    refine down n (fun j hj ih v hv => ?_)
    rcases hv with ⟨rfl, hno⟩ | ⟨o, rfl, ho, hso⟩
    · skip
      refine V.iload_n (q := 6) dX3_paysFor_5 rfl rfl ?_
      refine V.aload_n (q := 7) dX3_paysFor_6 rfl rfl ?_
      refine V.getR (q := 10) dX3_paysFor_7 rfl kf_X3_13 rfl (by decide) rfl ?_
      refine V.iconst (q := 11) (v := nI 0) dX3_paysFor_10 rfl (by decide +kernel) ?_
      refine V.ialdN (q := 12) dX3_paysFor_11 rfl rfl (by decide) (by omega) (by decide) (SA.c hS) ?_
      refine V.icmpN_ge (t := 45) (q := 15) dX3_paysFor_12 (by decide) rfl (by omega) (by omega) (fun c12 => ?_) (fun c12 => ?_)
      · have ej : j = n := by omega
        subst ej
        refine V.iload_n (q := 46) dX3_paysFor_45 rfl rfl ?_
        refine V.if_ge (t := 50) (q := 49) dX3_paysFor_46 (by decide) rfl  (fun c46 => absurd c46 (by decide +kernel)) (fun c46 => ?_)
        exact V.ret_v hB dX3_paysFor_49 ⟨rfl, ⟨hY.cg (fun f hf i hi => by
      by_cases h4 : f = 4
      · subst h4
        show τ 4 i = payOne _ l (τ 5) (τ 4) k i
        unfold payOne; rw [hno]
      · rw [setF_ne h4]), Gy.rf⟩⟩
      · refine V.iload_n (q := 16) dX3_paysFor_15 rfl rfl ?_
        refine V.if_ge (t := 45) (q := 19) dX3_paysFor_16 (by decide) rfl  (fun c16 => absurd c16 (by decide +kernel)) (fun c16 => ?_)
        refine V.iload_n (q := 20) dX3_paysFor_19 rfl rfl ?_
        refine V.aload_n (q := 21) dX3_paysFor_20 rfl rfl ?_
        refine V.getI (q := 24) dX3_paysFor_21 rfl kf_X3_29 rfl (by decide) rfl hY.2.2 ?_
        refine V.icmp_eq (t := 39) (q := 27) dX3_paysFor_24 (by decide) rfl  (fun c24 => ?_) (fun c24 => ?_)
        · refine V.inc3 (q := 42) dX3_paysFor_39 rfl (inc1 _) ?_
          refine V.goto (q := 5) dX3_paysFor_42 (by decide) ?_
          exact ih (by omega) _ (Or.inl ⟨rfl, by unfold fstM; rw [hno]; simp [(n9_eq (show j < 6 by omega)).mp c24]⟩)
        · have hw3 := hS.w j (by omega)
          refine V.aload_n (q := 28) dX3_paysFor_27 rfl rfl ?_
          refine V.iload_n (q := 29) dX3_paysFor_28 rfl rfl ?_
          refine V.iconst (q := 30) (v := nI 5) dX3_paysFor_29 rfl (by decide +kernel) ?_
          refine V.cvi2 (q := 33) dX3_paysFor_30 rfl kc_X3_109 rfl (by decide) rfl (hB.rm (by decide)) (Nat.le_of_ble_eq_true rfl) (m_get hS (by omega) 5 (by decide)) (fun r30 τ30 hp30 => ?_)
          obtain ⟨rfl, hz⟩ := hp30
          rw [hz]
          refine V.iload_n (q := 34) dX3_paysFor_33 rfl rfl ?_
          refine V.icmpN_ne (t := 39) (q := 37) dX3_paysFor_34 (by decide) rfl (by omega) (by omega) (fun c34 => ?_) (fun c34 => ?_)
          · refine V.inc3 (q := 42) dX3_paysFor_39 rfl (inc1 _) ?_
            refine V.goto (q := 5) dX3_paysFor_42 (by decide) ?_
            exact ih (by omega) _ (Or.inl ⟨rfl, by unfold fstM; rw [hno]; simp [c34]⟩)
          · refine V.iload_n (q := 38) dX3_paysFor_37 rfl rfl ?_
            refine V.ist2 (q := 39) dX3_paysFor_38 rfl ?_
            refine V.inc3 (q := 42) dX3_paysFor_39 rfl (inc1 _) ?_
            refine V.goto (q := 5) dX3_paysFor_42 (by decide) ?_
            have hjl : j ≠ l := fun e9 => c24 ((n9_eq (by omega)).mpr e9)
            have hf1 : fstM (τ 5) l k (j + 1) = some j := by unfold fstM; rw [hno]; simp [c34, hjl]
            exact ih (by omega) _ (Or.inr ⟨j, rfl, by omega, fstM_up hf1 (show j + 1 ≤ n by omega)⟩)
    · have hw2 := hS.w o ho
      refine V.iload_n (q := 6) dX3_paysFor_5 rfl rfl ?_
      refine V.aload_n (q := 7) dX3_paysFor_6 rfl rfl ?_
      refine V.getR (q := 10) dX3_paysFor_7 rfl kf_X3_13 rfl (by decide) rfl ?_
      refine V.iconst (q := 11) (v := nI 0) dX3_paysFor_10 rfl (by decide +kernel) ?_
      refine V.ialdN (q := 12) dX3_paysFor_11 rfl rfl (by decide) (by omega) (by decide) (SA.c hS) ?_
      refine V.icmpN_ge (t := 45) (q := 15) dX3_paysFor_12 (by decide) rfl (by omega) (by omega) (fun c12 => ?_) (fun c12 => ?_)
      · refine V.iload_n (q := 46) dX3_paysFor_45 rfl rfl ?_
        refine V.ifN_ge (t := 50) (q := 49) dX3_paysFor_46 (by decide) rfl (by omega) (fun c46 => ?_) (fun c46 => absurd c46 (by omega))
        refine V.aload_n (q := 51) dX3_paysFor_50 rfl rfl ?_
        refine V.iload_n (q := 52) dX3_paysFor_51 rfl rfl ?_
        refine V.iconst (q := 53) (v := nI 4) dX3_paysFor_52 rfl (by decide +kernel) ?_
        refine V.aload_n (q := 54) dX3_paysFor_53 rfl rfl ?_
        refine V.iload_n (q := 55) dX3_paysFor_54 rfl rfl ?_
        refine V.iconst (q := 56) (v := nI 4) dX3_paysFor_55 rfl (by decide +kernel) ?_
        refine V.cvi2 (q := 59) dX3_paysFor_56 rfl kc_X3_109 rfl (by decide) rfl (hB.rm (by decide)) (Nat.le_of_ble_eq_true rfl) (m_get hS (by omega) 4 (by decide)) (fun r56 τ56 hp56 => ?_)
        obtain ⟨rfl, hz⟩ := hp56
        rw [hz]
        refine V.iconst (q := 60) (v := nI 1) dX3_paysFor_59 rfl (by decide +kernel) ?_
        refine V.isubN (q := 61) dX3_paysFor_60 rfl (by omega) ?_
        refine V.cvv3 (q := 64) dX3_paysFor_61 rfl kc_X3_116 rfl (by decide) rfl (hB.rm (by decide)) (Nat.le_of_ble_eq_true rfl) (m_puts (by omega)) (fun τ61 hp61 => ?_)
        subst hp61
        have hY1 := hY.wr (f := 4) (v := τ 4 k - 1) (by decide) hk (by unfold okF; omega)
        have hS1 := hY1.s
        have hw4 := (hS1.w o ho).2.2.2.2.1
        refine V.aload_n (q := 65) dX3_paysFor_64 rfl rfl ?_
        refine V.iload_n (q := 66) dX3_paysFor_65 rfl rfl ?_
        refine V.iconst (q := 67) (v := nI 4) dX3_paysFor_66 rfl (by decide +kernel) ?_
        refine V.cvi2 (q := 70) dX3_paysFor_67 rfl kc_X3_109 rfl (by decide) rfl (hB.rm (by decide)) (Nat.le_of_ble_eq_true rfl) (m_get hS1 (by omega) 4 (by decide)) (fun r67 τ67 hp67 => ?_)
        obtain ⟨rfl, hz⟩ := hp67
        rw [hz]
        refine V.bipush (q := 72) (v := nI 99) dX3_paysFor_70 rfl (by decide +kernel) ?_
        refine V.icmpN_ge (t := 89) (q := 75) dX3_paysFor_72 (by decide) rfl (by omega) (by omega) (fun c72 => ?_) (fun c72 => ?_)
        · have e9 : setF τ 4 (upN (τ 4) k (τ 4 k - 1)) 4 o = 99 := by omega
          exact V.ret_v hB dX3_paysFor_89 ⟨rfl, ⟨hY1.cg (fun f hf i hi => by
      by_cases h4 : f = 4
      · subst h4
        rw [setF_at, setF_at]; rw [setF_at] at e9
        unfold payOne; rw [hso]
        show upN (τ 4) k (τ 4 k - 1) i = upN (upN (τ 4) k (τ 4 k - 1)) o (min 99 (upN (τ 4) k (τ 4 k - 1) o + 1)) i
        rw [e9]; conv => rhs; unfold upN
        by_cases h5 : i = o
        · subst h5; rw [if_pos rfl]; exact e9
        · rw [if_neg h5]; rfl
      · rw [setF_ne h4, setF_ne h4]), Gy.rf.w (Or.inl rfl)⟩⟩
        · refine V.aload_n (q := 76) dX3_paysFor_75 rfl rfl ?_
          refine V.iload_n (q := 77) dX3_paysFor_76 rfl rfl ?_
          refine V.iconst (q := 78) (v := nI 4) dX3_paysFor_77 rfl (by decide +kernel) ?_
          refine V.aload_n (q := 79) dX3_paysFor_78 rfl rfl ?_
          refine V.iload_n (q := 80) dX3_paysFor_79 rfl rfl ?_
          refine V.iconst (q := 81) (v := nI 4) dX3_paysFor_80 rfl (by decide +kernel) ?_
          refine V.cvi2 (q := 84) dX3_paysFor_81 rfl kc_X3_109 rfl (by decide) rfl (hB.rm (by decide)) (Nat.le_of_ble_eq_true rfl) (m_get hS1 (by omega) 4 (by decide)) (fun r81 τ81 hp81 => ?_)
          obtain ⟨rfl, hz⟩ := hp81
          rw [hz]
          refine V.iconst (q := 85) (v := nI 1) dX3_paysFor_84 rfl (by decide +kernel) ?_
          refine V.iaddN (q := 86) dX3_paysFor_85 rfl ?_
          refine V.cvv3 (q := 89) dX3_paysFor_86 rfl kc_X3_116 rfl (by decide) rfl (hB.rm (by decide)) (Nat.le_of_ble_eq_true rfl) (m_puts (by omega)) (fun τ86 hp86 => ?_)
          subst hp86
          have hY2 := hY1.wr (f := 4) (v := setF τ 4 (upN (τ 4) k (τ 4 k - 1)) 4 o + 1) (by decide) ho (by unfold okF; omega)
          exact V.ret_v hB dX3_paysFor_89 ⟨rfl, ⟨hY2.cg (fun f hf i hi => by
      by_cases h4 : f = 4
      · subst h4
        rw [setF_at, setF_at, setF_at]; rw [setF_at] at c72
        unfold payOne; rw [hso]
        show _ = upN (upN (τ 4) k (τ 4 k - 1)) o (min 99 (upN (τ 4) k (τ 4 k - 1) o + 1)) i
        rw [Nat.min_eq_right (by omega)]
      · rw [setF_ne h4, setF_ne h4, setF_ne h4]), (Gy.rf.w (Or.inl rfl)).w (Or.inl rfl)⟩⟩
      · refine V.iload_n (q := 16) dX3_paysFor_15 rfl rfl ?_
        refine V.ifN_ge (t := 45) (q := 19) dX3_paysFor_16 (by decide) rfl (by omega) (fun c16 => ?_) (fun c16 => absurd c16 (by omega))
        refine V.iload_n (q := 46) dX3_paysFor_45 rfl rfl ?_
        refine V.ifN_ge (t := 50) (q := 49) dX3_paysFor_46 (by decide) rfl (by omega) (fun c46 => ?_) (fun c46 => absurd c46 (by omega))
        refine V.aload_n (q := 51) dX3_paysFor_50 rfl rfl ?_
        refine V.iload_n (q := 52) dX3_paysFor_51 rfl rfl ?_
        refine V.iconst (q := 53) (v := nI 4) dX3_paysFor_52 rfl (by decide +kernel) ?_
        refine V.aload_n (q := 54) dX3_paysFor_53 rfl rfl ?_
        refine V.iload_n (q := 55) dX3_paysFor_54 rfl rfl ?_
        refine V.iconst (q := 56) (v := nI 4) dX3_paysFor_55 rfl (by decide +kernel) ?_
        refine V.cvi2 (q := 59) dX3_paysFor_56 rfl kc_X3_109 rfl (by decide) rfl (hB.rm (by decide)) (Nat.le_of_ble_eq_true rfl) (m_get hS (by omega) 4 (by decide)) (fun r56 τ56 hp56 => ?_)
        obtain ⟨rfl, hz⟩ := hp56
        rw [hz]
        refine V.iconst (q := 60) (v := nI 1) dX3_paysFor_59 rfl (by decide +kernel) ?_
        refine V.isubN (q := 61) dX3_paysFor_60 rfl (by omega) ?_
        refine V.cvv3 (q := 64) dX3_paysFor_61 rfl kc_X3_116 rfl (by decide) rfl (hB.rm (by decide)) (Nat.le_of_ble_eq_true rfl) (m_puts (by omega)) (fun τ61 hp61 => ?_)
        subst hp61
        have hY1 := hY.wr (f := 4) (v := τ 4 k - 1) (by decide) hk (by unfold okF; omega)
        have hS1 := hY1.s
        have hw4 := (hS1.w o ho).2.2.2.2.1
        refine V.aload_n (q := 65) dX3_paysFor_64 rfl rfl ?_
        refine V.iload_n (q := 66) dX3_paysFor_65 rfl rfl ?_
        refine V.iconst (q := 67) (v := nI 4) dX3_paysFor_66 rfl (by decide +kernel) ?_
        refine V.cvi2 (q := 70) dX3_paysFor_67 rfl kc_X3_109 rfl (by decide) rfl (hB.rm (by decide)) (Nat.le_of_ble_eq_true rfl) (m_get hS1 (by omega) 4 (by decide)) (fun r67 τ67 hp67 => ?_)
        obtain ⟨rfl, hz⟩ := hp67
        rw [hz]
        refine V.bipush (q := 72) (v := nI 99) dX3_paysFor_70 rfl (by decide +kernel) ?_
        refine V.icmpN_ge (t := 89) (q := 75) dX3_paysFor_72 (by decide) rfl (by omega) (by omega) (fun c72 => ?_) (fun c72 => ?_)
        · have e9 : setF τ 4 (upN (τ 4) k (τ 4 k - 1)) 4 o = 99 := by omega
          exact V.ret_v hB dX3_paysFor_89 ⟨rfl, ⟨hY1.cg (fun f hf i hi => by
      by_cases h4 : f = 4
      · subst h4
        rw [setF_at, setF_at]; rw [setF_at] at e9
        unfold payOne; rw [hso]
        show upN (τ 4) k (τ 4 k - 1) i = upN (upN (τ 4) k (τ 4 k - 1)) o (min 99 (upN (τ 4) k (τ 4 k - 1) o + 1)) i
        rw [e9]; conv => rhs; unfold upN
        by_cases h5 : i = o
        · subst h5; rw [if_pos rfl]; exact e9
        · rw [if_neg h5]; rfl
      · rw [setF_ne h4, setF_ne h4]), Gy.rf.w (Or.inl rfl)⟩⟩
        · refine V.aload_n (q := 76) dX3_paysFor_75 rfl rfl ?_
          refine V.iload_n (q := 77) dX3_paysFor_76 rfl rfl ?_
          refine V.iconst (q := 78) (v := nI 4) dX3_paysFor_77 rfl (by decide +kernel) ?_
          refine V.aload_n (q := 79) dX3_paysFor_78 rfl rfl ?_
          refine V.iload_n (q := 80) dX3_paysFor_79 rfl rfl ?_
          refine V.iconst (q := 81) (v := nI 4) dX3_paysFor_80 rfl (by decide +kernel) ?_
          refine V.cvi2 (q := 84) dX3_paysFor_81 rfl kc_X3_109 rfl (by decide) rfl (hB.rm (by decide)) (Nat.le_of_ble_eq_true rfl) (m_get hS1 (by omega) 4 (by decide)) (fun r81 τ81 hp81 => ?_)
          obtain ⟨rfl, hz⟩ := hp81
          rw [hz]
          refine V.iconst (q := 85) (v := nI 1) dX3_paysFor_84 rfl (by decide +kernel) ?_
          refine V.iaddN (q := 86) dX3_paysFor_85 rfl ?_
          refine V.cvv3 (q := 89) dX3_paysFor_86 rfl kc_X3_116 rfl (by decide) rfl (hB.rm (by decide)) (Nat.le_of_ble_eq_true rfl) (m_puts (by omega)) (fun τ86 hp86 => ?_)
          subst hp86
          have hY2 := hY1.wr (f := 4) (v := setF τ 4 (upN (τ 4) k (τ 4 k - 1)) 4 o + 1) (by decide) ho (by unfold okF; omega)
          exact V.ret_v hB dX3_paysFor_89 ⟨rfl, ⟨hY2.cg (fun f hf i hi => by
      by_cases h4 : f = 4
      · subst h4
        rw [setF_at, setF_at, setF_at]; rw [setF_at] at c72
        unfold payOne; rw [hso]
        show _ = upN (upN (τ 4) k (τ 4 k - 1)) o (min 99 (upN (τ 4) k (τ 4 k - 1) o + 1)) i
        rw [Nat.min_eq_right (by omega)]
      · rw [setF_ne h4, setF_ne h4, setF_ne h4]), (Gy.rf.w (Or.inl rfl)).w (Or.inl rfl)⟩⟩
  exact loop 0 (Nat.zero_le _) _ (Or.inl ⟨rfl, rfl⟩)

theorem wkM_1 {y z l : Nat} {τ : Nat → Nat → Nat} {i mt : Nat} {g : Nat → Nat} : workM y z l (setF τ 1 g) i mt = workM y z l τ i mt := by
  simp [workM, trustM, setF]
-- goes()
set_option maxHeartbeats 4000000 in
set_option maxRecDepth 100000 in
theorem m_goes {σ : Sg} {n y z l : Nat} {τ : Nat → Nat → Nat} (hY : YA σ n y z l τ) (hy : y + 1 < 2 ^ 30) : Con 4 yX3_goes cX3_goes 4 none [.ref 43] σ (PV (fun σ1 => YA σ1 n (y + 1) z l (yrM n y z l τ) ∧ Gy σ σ1)) := by
  refine Con.of (by decide) (by simp [Value.category]) (Nat.le_of_ble_eq_true rfl) (fun x hB => ?_)
  show V x RX3 cX3_goes 4 0 [some (.ref 43), none, none, none] [] _
  have hS := hY.s
  have hn6 := hS.n6
  have hyb := hS.yb
  refine V.iconst (q := 1) (v := nI 0) dX3_goes_0 rfl (by decide +kernel) ?_
  refine V.ist1 (q := 2) dX3_goes_1 rfl ?_
  refine V.iconst (q := 3) (v := nI 0) dX3_goes_2 rfl (by decide +kernel) ?_
  refine V.ist2 (q := 4) dX3_goes_3 rfl ?_
  have loop : ∀ j, j ≤ n → ∀ σ1 o3 a, YA σ1 n y z l (setF τ 1 (fun q => if q < j then m1 τ q else τ 1 q)) → Gy σ σ1 → (∀ q, q < j → σ1 51 q = nI 0) → a = bsK (pyr l τ) j → V x RX3 cX3_goes 4 4 [some (.ref 43), some (.int (nI a)), some (.int (nI j)), o3] [] σ1 := by
    refine down n (fun j hj ih σ1 o3 a hY1 hF1 h51 ea => ?_)
    have hS1 := hY1.s
    have ha := bsK_lt (pyr l τ) j
    rw [← ea] at ha
    have ha6 : 2 ^ j ≤ 2 ^ 6 := Nat.pow_le_pow_right (by decide) (by omega)
    refine V.iload_n (q := 5) dX3_goes_4 rfl rfl ?_
    refine V.aload_n (q := 6) dX3_goes_5 rfl rfl ?_
    refine V.getR (q := 9) dX3_goes_6 rfl kf_X3_13 rfl (by decide) rfl ?_
    refine V.iconst (q := 10) (v := nI 0) dX3_goes_9 rfl (by decide +kernel) ?_
    refine V.ialdN (q := 11) dX3_goes_10 rfl rfl (by decide) (by omega) (by decide) (SA.c hS1) ?_
    refine V.icmpN_ge (t := 96) (q := 14) dX3_goes_11 (by decide) rfl (by omega) (by omega) (fun c11 => ?_) (fun c11 => ?_)
    · have ej : n = j := by omega
      subst ej
      refine V.iconst (q := 97) (v := nI 0) dX3_goes_96 rfl (by decide +kernel) ?_
      refine V.ist2 (q := 98) dX3_goes_97 rfl ?_
      have loop2 : ∀ i, i ≤ n → ∀ σ2 o3, YA σ2 n y z l (setF τ 1 (m1 τ)) → Gy σ σ2 → (∀ q, q < n → σ2 51 q = nI (accW (τ 5) (wkM y z l τ) i q)) → V x RX3 cX3_goes 4 98 [some (.ref 43), some (.int (nI a)), some (.int (nI i)), o3] [] σ2 := by
        refine down n (fun i hi ih2 σ2 o3 hY2 hF2 hac => ?_)
        have hS2 := hY2.s
        refine V.iload_n (q := 99) dX3_goes_98 rfl rfl ?_
        refine V.aload_n (q := 100) dX3_goes_99 rfl rfl ?_
        refine V.getR (q := 103) dX3_goes_100 rfl kf_X3_13 rfl (by decide) rfl ?_
        refine V.iconst (q := 104) (v := nI 0) dX3_goes_103 rfl (by decide +kernel) ?_
        refine V.ialdN (q := 105) dX3_goes_104 rfl rfl (by decide) (by omega) (by decide) (SA.c hS2) ?_
        refine V.icmpN_ge (t := 133) (q := 108) dX3_goes_105 (by decide) rfl (by omega) (by omega) (fun c105 => ?_) (fun c105 => ?_)
        · have ei : n = i := by omega
          subst ei
          refine V.iconst (q := 134) (v := nI 0) dX3_goes_133 rfl (by decide +kernel) ?_
          refine V.ist2 (q := 135) dX3_goes_134 rfl ?_
          have loop3 : ∀ k, k ≤ n → ∀ σ3 o3, YA σ3 n y z l (setF (setF τ 1 (fun q => if q < k then m1 τ q - accW (τ 5) (wkM y z l τ) n q else m1 τ q)) 6 (fun q => if q < k then accW (τ 5) (wkM y z l τ) n q else τ 6 q)) → Gy σ σ3 → (∀ q, q < n → σ3 51 q = nI (accW (τ 5) (wkM y z l τ) n q)) → V x RX3 cX3_goes 4 135 [some (.ref 43), some (.int (nI a)), some (.int (nI k)), o3] [] σ3 := by
            refine down n (fun k hk ih3 σ3 o3 hY3 hF3 hac3 => ?_)
            have hS3 := hY3.s
            refine V.iload_n (q := 136) dX3_goes_135 rfl rfl ?_
            refine V.aload_n (q := 137) dX3_goes_136 rfl rfl ?_
            refine V.getR (q := 140) dX3_goes_137 rfl kf_X3_13 rfl (by decide) rfl ?_
            refine V.iconst (q := 141) (v := nI 0) dX3_goes_140 rfl (by decide +kernel) ?_
            refine V.ialdN (q := 142) dX3_goes_141 rfl rfl (by decide) (by omega) (by decide) (SA.c hS3) ?_
            refine V.icmpN_ge (t := 193) (q := 145) dX3_goes_142 (by decide) rfl (by omega) (by omega) (fun c142 => ?_) (fun c142 => ?_)
            · have ek : n = k := by omega
              subst ek
              refine V.iconst (q := 194) (v := nI 0) dX3_goes_193 rfl (by decide +kernel) ?_
              refine V.ist2 (q := 195) dX3_goes_194 rfl ?_
              have loop4 : ∀ g, g ≤ n → ∀ σ4 o3, YA σ4 n y z l (setF (setF (setF τ 1 (fun q => m1 τ q - accW (τ 5) (wkM y z l τ) n q)) 6 (accW (τ 5) (wkM y z l τ) n)) 4 (payK (pyr l τ) n l (τ 5) (τ 4) g)) → Gy σ σ4 → V x RX3 cX3_goes 4 195 [some (.ref 43), some (.int (nI a)), some (.int (nI g)), o3] [] σ4 := by
                refine down n (fun g hg ih4 σ4 o3 hY4 hF4 => ?_)
                have hS4 := hY4.s
                refine V.iload_n (q := 196) dX3_goes_195 rfl rfl ?_
                refine V.aload_n (q := 197) dX3_goes_196 rfl rfl ?_
                refine V.getR (q := 200) dX3_goes_197 rfl kf_X3_13 rfl (by decide) rfl ?_
                refine V.iconst (q := 201) (v := nI 0) dX3_goes_200 rfl (by decide +kernel) ?_
                refine V.ialdN (q := 202) dX3_goes_201 rfl rfl (by decide) (by omega) (by decide) (SA.c hS4) ?_
                refine V.icmpN_ge (t := 225) (q := 205) dX3_goes_202 (by decide) rfl (by omega) (by omega) (fun c202 => ?_) (fun c202 => ?_)
                · have eg : n = g := by omega
                  subst eg
                  refine V.aload_n (q := 226) dX3_goes_225 rfl rfl ?_
                  refine V.getR (q := 229) dX3_goes_226 rfl kf_X3_13 rfl (by decide) rfl ?_
                  refine V.iconst (q := 230) (v := nI 1) dX3_goes_229 rfl (by decide +kernel) ?_
                  refine V.dup2 (q := 231) dX3_goes_230 rfl rfl rfl ?_
                  refine V.ialdN (q := 232) dX3_goes_231 rfl rfl (by decide) (by omega) (by decide) (SA.r hS4) ?_
                  refine V.iconst (q := 233) (v := nI 1) dX3_goes_232 rfl (by decide +kernel) ?_
                  refine V.iaddN (q := 234) dX3_goes_233 rfl ?_
                  refine V.iastN (q := 235) dX3_goes_234 rfl rfl (by decide) (by omega) (by decide) ?_
                  have hS5 := (hS4.wy (y2 := y + 1) hy).cg (υ := yrM n y z l τ) (fun f hf q hq => by
                    unfold yrM
                    by_cases h1 : f = 1
                    · subst h1; rw [if_pos rfl, setF_ne (by decide), setF_ne (by decide), setF_at]
                    · rw [if_neg h1]
                      by_cases h4 : f = 4
                      · subst h4; rw [if_pos rfl, setF_at]
                      · rw [if_neg h4, setF_ne h4]
                        by_cases h6 : f = 6
                        · subst h6; rw [if_pos rfl, setF_at]
                        · rw [if_neg h6, setF_ne h6, setF_ne h1])
                  have hF5 := hF4.w (o := 45) (k := 1) (v := nI (y + 1)) (Or.inl rfl)
                  exact V.ret_v hB dX3_goes_235 ⟨rfl, ⟨YA.gy hS5 hY.2 hF5, hF5⟩⟩
                · refine V.iload_n (q := 206) dX3_goes_205 rfl rfl ?_
                  refine V.iload_n (q := 207) dX3_goes_206 rfl rfl ?_
                  refine V.ishr (q := 208) dX3_goes_207 rfl ?_
                  refine V.iconst (q := 209) (v := nI 1) dX3_goes_208 rfl (by decide +kernel) ?_
                  refine V.iand (q := 210) dX3_goes_209 rfl ?_
                  have hb9 : (nI a >>> (nI g &&& 31)) &&& nI 1 = nI (if pyr l τ g = true then 1 else 0) := by rw [shr_all g (by omega) a (by omega), ea, bsK_bit c202]
                  rw [hb9]
                  refine V.iconst (q := 211) (v := nI 1) dX3_goes_210 rfl (by decide +kernel) ?_
                  by_cases hpy : pyr l τ g = true
                  · rw [if_pos hpy]
                    refine V.icmpN_ne (t := 219) (q := 214) dX3_goes_211 (by decide) rfl (by omega) (by omega) (fun c211 => absurd c211 (by decide +kernel)) (fun c211 => ?_)
                    have hge := payK_ge (P := pyr l τ) (l := l) (me := τ 5) (p := τ 4) (n := n) (fun q hq => (hS.w q hq).2.2.2.2.1) g g c202 (Nat.le_refl g)
                    have h0 : 0 < τ 4 g := by unfold pyr at hpy; simp at hpy; omega
                    have hpp : 1 ≤ setF (setF (setF τ 1 (fun q => m1 τ q - accW (τ 5) (wkM y z l τ) n q)) 6 (accW (τ 5) (wkM y z l τ) n)) 4 (payK (pyr l τ) n l (τ 5) (τ 4) g) 4 g := by
                      rw [setF_at]; omega
                    refine V.aload_n (q := 215) dX3_goes_214 rfl rfl ?_
                    refine V.iload_n (q := 216) dX3_goes_215 rfl rfl ?_
                    refine V.cvv1 (q := 219) dX3_goes_216 rfl kc_X3_123 rfl (by decide) rfl (hB.rm (by decide)) (Nat.le_of_ble_eq_true rfl) (m_paysFor hY4 (k := g) c202 hpp) (fun τ216 hp216 => ?_)
                    obtain ⟨hY5, hF5⟩ := hp216
                    refine V.inc2 (q := 222) dX3_goes_219 rfl (inc1 _) ?_
                    refine V.goto (q := 195) dX3_goes_222 (by decide) ?_
                    exact ih4 c202 _ _ (hY5.cg (fun f hf q hq => by
                      by_cases h4 : f = 4
                      · subst h4
                        rw [setF_at, setF_at, setF_at, setF_ne (by decide), setF_ne (by decide), setF_ne (by decide)]
                        conv => rhs; unfold payK
                        rw [if_pos hpy]
                      · rw [setF_ne h4, setF_ne h4, setF_ne h4])) (hF4.tr hF5)
                  · rw [if_neg hpy]
                    refine V.icmpN_ne (t := 219) (q := 214) dX3_goes_211 (by decide) rfl (by omega) (by omega) (fun c211 => ?_) (fun c211 => absurd c211 (by decide +kernel))
                    refine V.inc2 (q := 222) dX3_goes_219 rfl (inc1 _) ?_
                    refine V.goto (q := 195) dX3_goes_222 (by decide) ?_
                    exact ih4 c202 _ _ (hY4.cg (fun f hf q hq => by
                      by_cases h4 : f = 4
                      · subst h4
                        rw [setF_at, setF_at]
                        conv => rhs; unfold payK
                        rw [if_neg hpy]
                      · rw [setF_ne h4, setF_ne h4])) hF4
              exact loop4 0 (Nat.zero_le _) σ3 o3 (hY3.cg (fun f hf q hq => by
                by_cases h4 : f = 4
                · subst h4; rw [setF_at, setF_ne (by decide), setF_ne (by decide)]; rfl
                · rw [setF_ne h4]
                  by_cases h6 : f = 6
                  · subst h6; rw [setF_at, setF_at, if_pos hq]
                  · rw [setF_ne h6, setF_ne h6]
                    by_cases h1 : f = 1
                    · subst h1; rw [setF_at, setF_at, if_pos hq]
                    · rw [setF_ne h1, setF_ne h1])) hF3
            · have hA := accW_le (me := τ 5) (w := wkM y z l τ) (n := n) (fun q hq => wkM_le hS.w hq) n k (Nat.le_refl n)
              have hm9 : m1 τ k ≤ 9 := by unfold m1; omega
              refine V.aload_n (q := 146) dX3_goes_145 rfl rfl ?_
              refine V.iload_n (q := 147) dX3_goes_146 rfl rfl ?_
              refine V.bipush (q := 149) (v := nI 6) dX3_goes_147 rfl (by decide +kernel) ?_
              refine V.aload_n (q := 150) dX3_goes_149 rfl rfl ?_
              refine V.getR (q := 153) dX3_goes_150 rfl kf_X3_38 rfl (by decide) rfl ?_
              refine V.iload_n (q := 154) dX3_goes_153 rfl rfl ?_
              refine V.ialdN (q := 155) dX3_goes_154 rfl rfl (by decide) (by omega) (by decide) (hac3 k (by omega)) ?_
              refine V.cvv3 (q := 158) dX3_goes_155 rfl kc_X3_116 rfl (by decide) rfl (hB.rm (by decide)) (Nat.le_of_ble_eq_true rfl) (m_puts (by omega)) (fun τ155 hp155 => ?_)
              subst hp155
              have hY4 := hY3.wr (f := 6) (v := accW (τ 5) (wkM y z l τ) n k) (by decide) (show k < n by omega) (by unfold okF; omega)
              have hF4 := hF3.w (o := 45) (k := 2 + 7 * k + 6) (v := nI (accW (τ 5) (wkM y z l τ) n k)) (Or.inl rfl)
              have hS4 := hY4.s
              refine V.aload_n (q := 159) dX3_goes_158 rfl rfl ?_
              refine V.iload_n (q := 160) dX3_goes_159 rfl rfl ?_
              refine V.iconst (q := 161) (v := nI 1) dX3_goes_160 rfl (by decide +kernel) ?_
              refine V.cvi2 (q := 164) dX3_goes_161 rfl kc_X3_109 rfl (by decide) rfl (hB.rm (by decide)) (Nat.le_of_ble_eq_true rfl) (m_get hS4 (by omega) 1 (by decide)) (fun r161 τ161 hp161 => ?_)
              obtain ⟨rfl, hz⟩ := hp161
              rw [hz, setF_ne (by decide), setF_ne (by decide), setF_at, if_neg (by omega)]
              refine V.aload_n (q := 165) dX3_goes_164 rfl rfl ?_
              refine V.getR (q := 168) dX3_goes_165 rfl kf_X3_38 rfl (by decide) rfl ?_
              refine V.iload_n (q := 169) dX3_goes_168 rfl rfl ?_
              refine V.ialdN (q := 170) dX3_goes_169 rfl rfl (by decide) (by omega) (by decide) (show _ = nI (accW (τ 5) (wkM y z l τ) n k) by rw [w2_ne (by decide)]; exact hac3 k (by omega)) ?_
              rcases Nat.lt_or_ge (m1 τ k) (accW (τ 5) (wkM y z l τ) n k) with hlt | hge
              · have hsn := pk_sneg (a := m1 τ k) (b := accW (τ 5) (wkM y z l τ) n k) (by omega) hlt
                refine V.isub (q := 171) dX3_goes_170 rfl ?_
                refine V.ist3 (q := 172) dX3_goes_171 rfl ?_
                refine V.aload_n (q := 173) dX3_goes_172 rfl rfl ?_
                refine V.iload_n (q := 174) dX3_goes_173 rfl rfl ?_
                refine V.iconst (q := 175) (v := nI 1) dX3_goes_174 rfl (by decide +kernel) ?_
                refine V.iload_n (q := 176) dX3_goes_175 rfl rfl ?_
                refine V.if_ge (t := 183) (q := 179) dX3_goes_176 (by decide) rfl  (fun c176 => absurd c176 (Int32.not_le.mpr hsn)) (fun c176 => ?_)
                refine V.iconst (q := 180) (v := nI 0) dX3_goes_179 rfl (by decide +kernel) ?_
                refine V.goto (q := 184) dX3_goes_180 (by decide) ?_
                refine V.cvv3 (q := 187) dX3_goes_184 rfl kc_X3_116 rfl (by decide) rfl (hB.rm (by decide)) (Nat.le_of_ble_eq_true rfl) (m_puts (by omega)) (fun τ184 hp184 => ?_)
                subst hp184
                have hY5 := hY4.wr (f := 1) (v := 0) (by decide) (show k < n by omega) (by unfold okF; omega)
                have hF5 := hF4.w (o := 45) (k := 2 + 7 * k + 1) (v := nI 0) (Or.inl rfl)
                refine V.inc2 (q := 190) dX3_goes_187 rfl (inc1 _) ?_
                refine V.goto (q := 135) dX3_goes_190 (by decide) ?_
                refine ih3 c142 _ _ (hY5.cg (fun f hf q hq => ?_)) hF5 (fun q hq => by rw [w2_ne (by decide), w2_ne (by decide)]; exact hac3 q hq)
                by_cases h1 : f = 1
                · subst h1
                  show upN (fun q => if q < k then m1 τ q - accW (τ 5) (wkM y z l τ) n q else m1 τ q) k (0) q = if q < k + 1 then m1 τ q - accW (τ 5) (wkM y z l τ) n q else m1 τ q
                  unfold upN
                  by_cases h5 : q = k
                  · subst h5; rw [if_pos rfl, if_pos (by omega)]; omega
                  · rw [if_neg h5]; dsimp only
                    by_cases h7 : q < k
                    · rw [if_pos h7, if_pos (by omega)]
                    · rw [if_neg h7, if_neg (by omega)]
                · by_cases h6 : f = 6
                  · subst h6
                    show upN (fun q => if q < k then accW (τ 5) (wkM y z l τ) n q else τ 6 q) k (accW (τ 5) (wkM y z l τ) n k) q = if q < k + 1 then accW (τ 5) (wkM y z l τ) n q else τ 6 q
                    unfold upN
                    by_cases h5 : q = k
                    · subst h5; rw [if_pos rfl, if_pos (by omega)]
                    · rw [if_neg h5]; dsimp only
                      by_cases h7 : q < k
                      · rw [if_pos h7, if_pos (by omega)]
                      · rw [if_neg h7, if_neg (by omega)]
                  · simp only [setF_ne h1, setF_ne h6]
              · refine V.isub (q := 171) dX3_goes_170 rfl ?_
                rw [pk_sub hge]
                refine V.ist3 (q := 172) dX3_goes_171 rfl ?_
                refine V.aload_n (q := 173) dX3_goes_172 rfl rfl ?_
                refine V.iload_n (q := 174) dX3_goes_173 rfl rfl ?_
                refine V.iconst (q := 175) (v := nI 1) dX3_goes_174 rfl (by decide +kernel) ?_
                refine V.iload_n (q := 176) dX3_goes_175 rfl rfl ?_
                refine V.ifN_ge (t := 183) (q := 179) dX3_goes_176 (by decide) rfl (by omega) (fun c176 => ?_) (fun c176 => absurd c176 (by omega))
                refine V.iload_n (q := 184) dX3_goes_183 rfl rfl ?_
                refine V.cvv3 (q := 187) dX3_goes_184 rfl kc_X3_116 rfl (by decide) rfl (hB.rm (by decide)) (Nat.le_of_ble_eq_true rfl) (m_puts (by omega)) (fun τ184 hp184 => ?_)
                subst hp184
                have hY5 := hY4.wr (f := 1) (v := m1 τ k - accW (τ 5) (wkM y z l τ) n k) (by decide) (show k < n by omega) (by unfold okF; omega)
                have hF5 := hF4.w (o := 45) (k := 2 + 7 * k + 1) (v := nI (m1 τ k - accW (τ 5) (wkM y z l τ) n k)) (Or.inl rfl)
                refine V.inc2 (q := 190) dX3_goes_187 rfl (inc1 _) ?_
                refine V.goto (q := 135) dX3_goes_190 (by decide) ?_
                refine ih3 c142 _ _ (hY5.cg (fun f hf q hq => ?_)) hF5 (fun q hq => by rw [w2_ne (by decide), w2_ne (by decide)]; exact hac3 q hq)
                by_cases h1 : f = 1
                · subst h1
                  show upN (fun q => if q < k then m1 τ q - accW (τ 5) (wkM y z l τ) n q else m1 τ q) k (m1 τ k - accW (τ 5) (wkM y z l τ) n k) q = if q < k + 1 then m1 τ q - accW (τ 5) (wkM y z l τ) n q else m1 τ q
                  unfold upN
                  by_cases h5 : q = k
                  · subst h5; rw [if_pos rfl, if_pos (by omega)]; skip
                  · rw [if_neg h5]; dsimp only
                    by_cases h7 : q < k
                    · rw [if_pos h7, if_pos (by omega)]
                    · rw [if_neg h7, if_neg (by omega)]
                · by_cases h6 : f = 6
                  · subst h6
                    show upN (fun q => if q < k then accW (τ 5) (wkM y z l τ) n q else τ 6 q) k (accW (τ 5) (wkM y z l τ) n k) q = if q < k + 1 then accW (τ 5) (wkM y z l τ) n q else τ 6 q
                    unfold upN
                    by_cases h5 : q = k
                    · subst h5; rw [if_pos rfl, if_pos (by omega)]
                    · rw [if_neg h5]; dsimp only
                      by_cases h7 : q < k
                      · rw [if_pos h7, if_pos (by omega)]
                      · rw [if_neg h7, if_neg (by omega)]
                  · simp only [setF_ne h1, setF_ne h6]
          exact loop3 0 (Nat.zero_le _) σ2 o3 (hY2.cg (fun f hf q hq => by
            by_cases h6 : f = 6
            · subst h6; rw [setF_at, setF_ne (by decide), if_neg (by omega)]
            · rw [setF_ne h6]
              by_cases h4 : f = 1
              · subst h4; rw [setF_at, setF_at, if_neg (by omega)]
              · rw [setF_ne h4, setF_ne h4])) hF2 hac
        · have hw5 := (hS.w i (by omega)).2.2.2.2.2.1
          refine V.aload_n (q := 109) dX3_goes_108 rfl rfl ?_
          refine V.getR (q := 112) dX3_goes_109 rfl kf_X3_38 rfl (by decide) rfl ?_
          refine V.aload_n (q := 113) dX3_goes_112 rfl rfl ?_
          refine V.iload_n (q := 114) dX3_goes_113 rfl rfl ?_
          refine V.iconst (q := 115) (v := nI 5) dX3_goes_114 rfl (by decide +kernel) ?_
          refine V.cvi2 (q := 118) dX3_goes_115 rfl kc_X3_109 rfl (by decide) rfl (hB.rm (by decide)) (Nat.le_of_ble_eq_true rfl) (m_get hS2 (by omega) 5 (by decide)) (fun r115 τ115 hp115 => ?_)
          obtain ⟨rfl, hz⟩ := hp115
          rw [hz, setF_ne (by decide)]
          refine V.dup2 (q := 119) dX3_goes_118 rfl rfl rfl ?_
          refine V.ialdN (q := 120) dX3_goes_119 rfl rfl (by decide) (by omega) (by decide) (hac _ hw5) ?_
          refine V.aload_n (q := 121) dX3_goes_120 rfl rfl ?_
          refine V.iload_n (q := 122) dX3_goes_121 rfl rfl ?_
          refine V.cvi1 (q := 125) dX3_goes_122 rfl kc_X3_120 rfl (by decide) rfl (hB.rm (by decide)) (Nat.le_of_ble_eq_true rfl) (m_mendsBy hY2 (mt := m1 τ (τ 5 i)) (show i < n by omega) (by rw [setF_at, setF_ne (by decide)])) (fun r122 τ122 hp122 => ?_)
          obtain ⟨rfl, hz⟩ := hp122
          rw [hz, wkM_1]
          refine V.iaddN (q := 126) dX3_goes_125 rfl ?_
          refine V.iastN (q := 127) dX3_goes_126 rfl rfl (by decide) (by omega) (by decide) ?_
          refine V.inc2 (q := 130) dX3_goes_127 rfl (inc1 _) ?_
          refine V.goto (q := 98) dX3_goes_130 (by decide) ?_
          refine ih2 c105 _ _ (hY2.ww (by decide) (by decide)) (hF2.w (Or.inr rfl)) (fun q hq => ?_)
          rw [w2_rd]; conv => rhs; unfold accW
          by_cases h5 : q = τ 5 i
          · rw [if_pos ⟨rfl, h5⟩, if_pos h5.symm, h5]; rfl
          · rw [if_neg (fun h6 => h5 h6.2), if_neg (fun h6 => h5 h6.symm)]; exact hac q hq
      exact loop2 0 (Nat.zero_le _) σ1 o3 (hY1.cg (fun f hf q hq => by
        by_cases h4 : f = 1
        · subst h4; rw [setF_at, setF_at, if_pos hq]
        · rw [setF_ne h4, setF_ne h4])) hF1 h51
    · have hw := hS.w j (by omega)
      have hm0 : setF τ 1 (fun q => if q < j then m1 τ q else τ 1 q) 1 j = τ 1 j := by rw [setF_at, if_neg (by omega)]
      refine V.aload_n (q := 15) dX3_goes_14 rfl rfl ?_
      refine V.iload_n (q := 16) dX3_goes_15 rfl rfl ?_
      refine V.iconst (q := 17) (v := nI 1) dX3_goes_16 rfl (by decide +kernel) ?_
      refine V.cvi2 (q := 20) dX3_goes_17 rfl kc_X3_109 rfl (by decide) rfl (hB.rm (by decide)) (Nat.le_of_ble_eq_true rfl) (m_get hS1 (by omega) 1 (by decide)) (fun r17 τ17 hp17 => ?_)
      obtain ⟨rfl, hz⟩ := hp17
      rw [hz, hm0]
      refine V.aload_n (q := 21) dX3_goes_20 rfl rfl ?_
      refine V.iload_n (q := 22) dX3_goes_21 rfl rfl ?_
      refine V.iconst (q := 23) (v := nI 2) dX3_goes_22 rfl (by decide +kernel) ?_
      refine V.cvi2 (q := 26) dX3_goes_23 rfl kc_X3_109 rfl (by decide) rfl (hB.rm (by decide)) (Nat.le_of_ble_eq_true rfl) (m_get hS1 (by omega) 2 (by decide)) (fun r23 τ23 hp23 => ?_)
      obtain ⟨rfl, hz⟩ := hp23
      rw [hz, setF_ne (by decide)]
      refine V.iaddN (q := 27) dX3_goes_26 rfl ?_
      refine V.ist3 (q := 28) dX3_goes_27 rfl ?_
      refine V.aload_n (q := 29) dX3_goes_28 rfl rfl ?_
      refine V.iload_n (q := 30) dX3_goes_29 rfl rfl ?_
      refine V.iconst (q := 31) (v := nI 1) dX3_goes_30 rfl (by decide +kernel) ?_
      have J : V x RX3 cX3_goes 4 43 [some (.ref 43), some (.int (nI a)), some (.int (nI j)), some (.int (nI (τ 1 j + τ 2 j)))] [.int (nI (m1 τ j)), .int (nI 1), .int (nI j), .ref 43] σ1 := by
        refine V.cvv3 (q := 46) dX3_goes_43 rfl kc_X3_116 rfl (by decide) rfl (hB.rm (by decide)) (Nat.le_of_ble_eq_true rfl) (m_puts (by omega)) (fun τ43 hp43 => ?_)
        subst hp43
        have hY2 := hY1.wr (f := 1) (v := m1 τ j) (by decide) (show j < n by omega) (by unfold okF m1; omega)
        have hF2 := hF1.w (o := 45) (k := 2 + 7 * j + 1) (v := nI (m1 τ j)) (Or.inl rfl)
        have hS2 := hY2.s
        refine V.aload_n (q := 47) dX3_goes_46 rfl rfl ?_
        refine V.getR (q := 50) dX3_goes_47 rfl kf_X3_38 rfl (by decide) rfl ?_
        refine V.iload_n (q := 51) dX3_goes_50 rfl rfl ?_
        refine V.iconst (q := 52) (v := nI 0) dX3_goes_51 rfl (by decide +kernel) ?_
        refine V.iastN (q := 53) dX3_goes_52 rfl rfl (by decide) (by omega) (by decide) ?_
        have hS3 := hS2.ww (o1 := 51) (k := j) (v := nI 0) (by decide)
        have hF3 := hF2.w (o := 51) (k := j) (v := nI 0) (Or.inr rfl)
        have hY3 := (hY2.ww (o1 := 51) (k := j) (v := nI 0) (by decide) (by decide)).cg (υ := setF τ 1 (fun q => if q < j + 1 then m1 τ q else τ 1 q)) (fun f hf q hq => by
          by_cases h4 : f = 1
          · subst h4
            show upN (fun q => if q < j then m1 τ q else τ 1 q) j (m1 τ j) q = if q < j + 1 then m1 τ q else τ 1 q
            unfold upN
            by_cases h5 : q = j
            · subst h5; rw [if_pos rfl, if_pos (by omega)]
            · rw [if_neg h5]; dsimp only
              by_cases h6 : q < j
              · rw [if_pos h6, if_pos (by omega)]
              · rw [if_neg h6, if_neg (by omega)]
          · rw [setF_ne h4, setF_ne h4, setF_ne h4])
        have h513 : ∀ q, q < j + 1 → w2 (w2 σ1 45 (2 + 7 * j + 1) (nI (m1 τ j))) 51 j (nI 0) 51 q = nI 0 := fun q hq => by
          rw [w2_rd]
          by_cases h5 : q = j
          · rw [if_pos ⟨rfl, h5⟩]
          · rw [if_neg (fun h6 => h5 h6.2), w2_ne (by decide)]; exact h51 q (by omega)
        have hS3 := hY3.s
        refine V.iload_n (q := 54) dX3_goes_53 rfl rfl ?_
        refine V.aload_n (q := 55) dX3_goes_54 rfl rfl ?_
        refine V.iload_n (q := 56) dX3_goes_55 rfl rfl ?_
        refine V.iconst (q := 57) (v := nI 0) dX3_goes_56 rfl (by decide +kernel) ?_
        refine V.cvi2 (q := 60) dX3_goes_57 rfl kc_X3_109 rfl (by decide) rfl (hB.rm (by decide)) (Nat.le_of_ble_eq_true rfl) (m_get hS3 (by omega) 0 (by decide)) (fun r57 τ57 hp57 => ?_)
        obtain ⟨rfl, hz⟩ := hp57
        rw [hz, setF_ne (by decide)]
        refine V.iconst (q := 61) (v := nI 3) dX3_goes_60 rfl (by decide +kernel) ?_
        refine V.icmpN_ne (t := 87) (q := 64) dX3_goes_61 (by decide) rfl (by omega) (by omega) (fun c61 => ?_) (fun c61 => ?_)
        · refine V.iconst (q := 88) (v := nI 0) dX3_goes_87 rfl (by decide +kernel) ?_
          refine V.ior (q := 89) dX3_goes_88 rfl ?_
          rw [ior0_all a (by omega)]
          refine V.ist1 (q := 90) dX3_goes_89 rfl ?_
          refine V.inc2 (q := 93) dX3_goes_90 rfl (inc1 _) ?_
          refine V.goto (q := 4) dX3_goes_93 (by decide) ?_
          exact ih (by omega) _ _ _ hY3 hF3 h513 (by unfold bsK; rw [if_neg (by unfold pyr; simp [c61])]; exact ea)
        · refine V.aload_n (q := 65) dX3_goes_64 rfl rfl ?_
          refine V.iload_n (q := 66) dX3_goes_65 rfl rfl ?_
          refine V.iconst (q := 67) (v := nI 4) dX3_goes_66 rfl (by decide +kernel) ?_
          refine V.cvi2 (q := 70) dX3_goes_67 rfl kc_X3_109 rfl (by decide) rfl (hB.rm (by decide)) (Nat.le_of_ble_eq_true rfl) (m_get hS3 (by omega) 4 (by decide)) (fun r67 τ67 hp67 => ?_)
          obtain ⟨rfl, hz⟩ := hp67
          rw [hz, setF_ne (by decide)]
          refine V.ifN_le (t := 87) (q := 73) dX3_goes_70 (by decide) rfl (by omega) (fun c70 => ?_) (fun c70 => ?_)
          · refine V.iconst (q := 88) (v := nI 0) dX3_goes_87 rfl (by decide +kernel) ?_
            refine V.ior (q := 89) dX3_goes_88 rfl ?_
            rw [ior0_all a (by omega)]
            refine V.ist1 (q := 90) dX3_goes_89 rfl ?_
            refine V.inc2 (q := 93) dX3_goes_90 rfl (inc1 _) ?_
            refine V.goto (q := 4) dX3_goes_93 (by decide) ?_
            exact ih (by omega) _ _ _ hY3 hF3 h513 (by unfold bsK; rw [if_neg (by unfold pyr; simp; omega)]; exact ea)
          · refine V.iload_n (q := 74) dX3_goes_73 rfl rfl ?_
            refine V.aload_n (q := 75) dX3_goes_74 rfl rfl ?_
            refine V.getI (q := 78) dX3_goes_75 rfl kf_X3_29 rfl (by decide) rfl hY3.2.2 ?_
            refine V.icmp_eq (t := 87) (q := 81) dX3_goes_78 (by decide) rfl  (fun c78 => ?_) (fun c78 => ?_)
            · refine V.iconst (q := 88) (v := nI 0) dX3_goes_87 rfl (by decide +kernel) ?_
              refine V.ior (q := 89) dX3_goes_88 rfl ?_
              rw [ior0_all a (by omega)]
              refine V.ist1 (q := 90) dX3_goes_89 rfl ?_
              refine V.inc2 (q := 93) dX3_goes_90 rfl (inc1 _) ?_
              refine V.goto (q := 4) dX3_goes_93 (by decide) ?_
              exact ih (by omega) _ _ _ hY3 hF3 h513 (by unfold bsK; rw [if_neg (by unfold pyr; simp [(n9_eq (show j < 6 by omega)).mp c78])]; exact ea)
            · have hjl : j ≠ l := fun e9 => c78 ((n9_eq (by omega)).mpr e9)
              have hpy : pyr l τ j = true := by unfold pyr; simp [c61, hjl]; omega
              refine V.iconst (q := 82) (v := nI 1) dX3_goes_81 rfl (by decide +kernel) ?_
              refine V.iload_n (q := 83) dX3_goes_82 rfl rfl ?_
              refine V.ishl (q := 84) dX3_goes_83 rfl ?_
              rw [shl1 (show j < 6 by omega)]
              refine V.goto (q := 88) dX3_goes_84 (by decide) ?_
              refine V.ior (q := 89) dX3_goes_88 rfl ?_
              rw [ior_all j (by omega) a ha]
              refine V.ist1 (q := 90) dX3_goes_89 rfl ?_
              refine V.inc2 (q := 93) dX3_goes_90 rfl (inc1 _) ?_
              refine V.goto (q := 4) dX3_goes_93 (by decide) ?_
              exact ih (by omega) _ _ _ hY3 hF3 h513 (by unfold bsK; rw [if_pos hpy, ea])
      refine V.iload_n (q := 32) dX3_goes_31 rfl rfl ?_
      refine V.bipush (q := 34) (v := nI 9) dX3_goes_32 rfl (by decide +kernel) ?_
      refine V.icmpN_le (t := 42) (q := 37) dX3_goes_34 (by decide) rfl (by omega) (by omega) (fun c34 => ?_) (fun c34 => ?_)
      · refine V.iload_n (q := 43) dX3_goes_42 rfl rfl ?_
        have e : m1 τ j = τ 1 j + τ 2 j := by unfold m1; omega
        rw [e] at J; exact J
      · refine V.bipush (q := 39) (v := nI 9) dX3_goes_37 rfl (by decide +kernel) ?_
        refine V.goto (q := 43) dX3_goes_39 (by decide) ?_
        have e : m1 τ j = 9 := by unfold m1; omega
        rw [e] at J; exact J
  exact loop 0 (Nat.zero_le _) σ none 0 (hY.cg (fun f hf i hi => by
    by_cases h4 : f = 1
    · subst h4; rw [setF_at, if_neg (by omega)]
    · rw [setF_ne h4])) Gy.rf (fun q hq => absurd hq (by omega)) rfl

