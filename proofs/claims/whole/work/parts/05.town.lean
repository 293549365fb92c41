-- isStreet(v): 1 if v is a street
set_option maxHeartbeats 4000000 in
set_option maxRecDepth 100000 in
theorem c_isStreet0 {σ : Sg} {t n : Nat} (ht : isT t) (hn6 : n ≤ 6) (h8 : σ t 8 = nI n) (v : Int32) : Con 1 yX1_isStreet cX1_isStreet 2 (some .boolean) [.ref t, .int v] σ (PI (fun r σ1 => σ1 = σ ∧ ((r = nI 1 ∧ sN v n) ∨ (r = nI 0 ∧ ¬ sN v n)))) := by
  refine Con.of (by decide) (by simp [Value.category]) (Nat.le_of_ble_eq_true rfl) (fun x hB => ?_)
  show V x RX1 cX1_isStreet 2 0 [some (.ref t), some (.int v)] [] _
  refine V.iload_n (q := 1) dX1_isStreet_0 rfl rfl ?_
  refine V.if_lt (t := 16) (q := 4) dX1_isStreet_1 (by decide) rfl  (fun c1 => ?_) (fun c1 => ?_)
  · refine V.iconst (q := 17) (v := nI 0) dX1_isStreet_16 rfl (by decide +kernel) ?_
    exact V.ret_int hB dX1_isStreet_17 (by decide +kernel) ⟨_, rfl, ⟨rfl, Or.inr ⟨rfl, sN_neg hn6 c1⟩⟩⟩
  · refine V.iload_n (q := 5) dX1_isStreet_4 rfl rfl ?_
    refine V.aload_n (q := 6) dX1_isStreet_5 rfl rfl ?_
    refine V.getI (q := 9) dX1_isStreet_6 rfl kf_X1_49 (shT ht) (loT ht) rfl h8 ?_
    refine V.icmp_ge (t := 16) (q := 12) dX1_isStreet_9 (by decide) rfl  (fun c9 => ?_) (fun c9 => ?_)
    · refine V.iconst (q := 17) (v := nI 0) dX1_isStreet_16 rfl (by decide +kernel) ?_
      exact V.ret_int hB dX1_isStreet_17 (by decide +kernel) ⟨_, rfl, ⟨rfl, Or.inr ⟨rfl, sN_ge hn6 c9⟩⟩⟩
    · refine V.iconst (q := 13) (v := nI 1) dX1_isStreet_12 rfl (by decide +kernel) ?_
      refine V.goto (q := 17) dX1_isStreet_13 (by decide) ?_
      exact V.ret_int hB dX1_isStreet_17 (by decide +kernel) ⟨_, rfl, ⟨rfl, Or.inl ⟨rfl, sN_of hn6 c1 c9⟩⟩⟩

theorem c_isStreet {σ : Sg} {t n y z l : Nat} {τ : Nat → Nat → Nat} (ht : isT t) (hT : TA σ t n y z l τ) (v : Int32) : Con 1 yX1_isStreet cX1_isStreet 2 (some .boolean) [.ref t, .int v] σ (PI (fun r σ1 => σ1 = σ ∧ ((r = nI 1 ∧ sN v n) ∨ (r = nI 0 ∧ ¬ sN v n)))) := c_isStreet0 ht hT.n6 hT.n8 v
theorem c_isS0 {σ : Sg} {t n : Nat} (ht : isT t) (hn6 : n ≤ 6) (h8 : σ t 8 = nI n) {v : Int32} (hv : ¬ sN v n) : Con 1 yX1_isStreet cX1_isStreet 2 (some .boolean) [.ref t, .int v] σ (PI (fun r σ1 => r = nI 0 ∧ σ1 = σ)) :=
  (c_isStreet0 ht hn6 h8 v).weaken (fun r σ1 h => by
    obtain ⟨v1, e1, e2, h3⟩ := h
    rcases h3 with ⟨e3, h4⟩ | ⟨e3, h4⟩
    · exact absurd h4 hv
    · exact ⟨v1, e1, e3, e2⟩)
theorem c_isS1 {σ : Sg} {t n y z l : Nat} {τ : Nat → Nat → Nat} (ht : isT t) (hT : TA σ t n y z l τ) {k : Nat} (hk : k < n) : Con 1 yX1_isStreet cX1_isStreet 2 (some .boolean) [.ref t, .int (nI k)] σ (PI (fun r σ1 => r = nI 1 ∧ σ1 = σ)) :=
  (c_isStreet ht hT (nI k)).weaken (fun r σ1 h => by
    obtain ⟨v, e1, e2, h3⟩ := h
    rcases h3 with ⟨e3, h4⟩ | ⟨e3, h4⟩
    · exact ⟨v, e1, e3, e2⟩
    · exact absurd ⟨k, hk, rfl⟩ h4)
-- isFull(): 1 if there are six
set_option maxHeartbeats 4000000 in
set_option maxRecDepth 100000 in
theorem c_isFull0 {σ : Sg} {t n : Nat} (ht : isT t) (hn6 : n ≤ 6) (h8 : σ t 8 = nI n) : Con 1 yX1_isFull cX1_isFull 1 (some .boolean) [.ref t] σ (PI (fun r σ1 => σ1 = σ ∧ ((r = nI 1 ∧ n = 6) ∨ (r = nI 0 ∧ n < 6)))) := by
  refine Con.of (by decide) (by simp [Value.category]) (Nat.le_of_ble_eq_true rfl) (fun x hB => ?_)
  show V x RX1 cX1_isFull 1 0 [some (.ref t)] [] _
  refine V.aload_n (q := 1) dX1_isFull_0 rfl rfl ?_
  refine V.getI (q := 4) dX1_isFull_1 rfl kf_X1_49 (shT ht) (loT ht) rfl h8 ?_
  refine V.bipush (q := 6) (v := nI 6) dX1_isFull_4 rfl (by decide +kernel) ?_
  refine V.icmpN_lt (t := 13) (q := 9) dX1_isFull_6 (by decide) rfl (by omega) (by omega) (fun c6 => ?_) (fun c6 => ?_)
  · refine V.iconst (q := 14) (v := nI 0) dX1_isFull_13 rfl (by decide +kernel) ?_
    exact V.ret_int hB dX1_isFull_14 (by decide +kernel) ⟨_, rfl, ⟨rfl, Or.inr ⟨rfl, by omega⟩⟩⟩
  · refine V.iconst (q := 10) (v := nI 1) dX1_isFull_9 rfl (by decide +kernel) ?_
    refine V.goto (q := 14) dX1_isFull_10 (by decide) ?_
    exact V.ret_int hB dX1_isFull_14 (by decide +kernel) ⟨_, rfl, ⟨rfl, Or.inl ⟨rfl, by omega⟩⟩⟩

theorem c_isF0 {σ : Sg} {t n : Nat} (ht : isT t) (hn6 : n ≤ 6) (h8 : σ t 8 = nI n) (hn : n < 6) : Con 1 yX1_isFull cX1_isFull 1 (some .boolean) [.ref t] σ (PI (fun r σ1 => r = nI 0 ∧ σ1 = σ)) :=
  (c_isFull0 ht hn6 h8).weaken (fun r σ1 h => by
    obtain ⟨v1, e1, e2, h3⟩ := h
    rcases h3 with ⟨e3, h4⟩ | ⟨e3, h4⟩
    · omega
    · exact ⟨v1, e1, e3, e2⟩)
-- fed(i): how many mend it
set_option maxHeartbeats 4000000 in
set_option maxRecDepth 100000 in
theorem c_fed {σ : Sg} {t n y z l : Nat} {τ : Nat → Nat → Nat} (ht : isT t) (hT : TA σ t n y z l τ) {i : Nat} (hi : i < 2 ^ 31) : Con 1 yX1_fed cX1_fed 4 (some .int) [.ref t, .int (nI i)] σ (PI (fun r σ1 => r = nI (fedK (τ 5) i n) ∧ σ1 = σ)) := by
  refine Con.of (by decide) (by simp [Value.category]) (Nat.le_of_ble_eq_true rfl) (fun x hB => ?_)
  show V x RX1 cX1_fed 4 0 [some (.ref t), some (.int (nI i)), none, none] [] _
  have hn6 := hT.n6
  have hyb := hT.yb
  refine V.iconst (q := 1) (v := nI 0) dX1_fed_0 rfl (by decide +kernel) ?_
  refine V.ist2 (q := 2) dX1_fed_1 rfl ?_
  refine V.iconst (q := 3) (v := nI 0) dX1_fed_2 rfl (by decide +kernel) ?_
  refine V.ist3 (q := 4) dX1_fed_3 rfl ?_
  have loop : ∀ j, j ≤ n → ∀ a, a = fedK (τ 5) i j → V x RX1 cX1_fed 4 4 [some (.ref t), some (.int (nI i)), some (.int (nI a)), some (.int (nI j))] [] σ := by
    refine down n (fun j hj ih a ea => ?_)
    refine V.iload_n (q := 5) dX1_fed_4 rfl rfl ?_
    refine V.aload_n (q := 6) dX1_fed_5 rfl rfl ?_
    refine V.getI (q := 9) dX1_fed_6 rfl kf_X1_49 (shT ht) (loT ht) rfl (TA.n8 hT) ?_
    refine V.icmpN_ge (t := 31) (q := 12) dX1_fed_9 (by decide) rfl (by omega) (by omega) (fun c9 => ?_) (fun c9 => ?_)
    · have ej : j = n := by omega
      subst ej
      refine V.iload_n (q := 32) dX1_fed_31 rfl rfl ?_
      exact V.ret_int hB dX1_fed_32 rfl ⟨_, rfl, ⟨by rw [ea], rfl⟩⟩
    · refine V.aload_n (q := 13) dX1_fed_12 rfl rfl ?_
      refine V.getR (q := 16) dX1_fed_13 rfl kf_X1_27 (shT ht) (loT ht) rfl ?_
      refine V.iload_n (q := 17) dX1_fed_16 rfl rfl ?_
      refine V.ialdN (q := 18) dX1_fed_17 rfl (shTa ht 6 (by decide) (by decide)) (loTa ht 6 (by decide)) (by omega) (by decide) (TA.a hT 5 (by decide) (by omega)) ?_
      refine V.iload_n (q := 19) dX1_fed_18 rfl rfl ?_
      refine V.icmpN_ne (t := 25) (q := 22) dX1_fed_19 (by decide) rfl (by have := (hT.w j c9).2.2.2.2.2.1; omega) hi (fun c19 => ?_) (fun c19 => ?_)
      · refine V.inc3 (q := 28) dX1_fed_25 rfl (inc1 _) ?_
        refine V.goto (q := 4) dX1_fed_28 (by decide) ?_
        exact ih c9 _ (by rw [ea]; simp [fedK, c19])
      · refine V.inc2 (q := 25) dX1_fed_22 rfl (inc1 _) ?_
        refine V.inc3 (q := 28) dX1_fed_25 rfl (inc1 _) ?_
        refine V.goto (q := 4) dX1_fed_28 (by decide) ?_
        exact ih c9 _ (by rw [ea]; simp [fedK, c19])
  exact loop 0 (Nat.zero_le _) 0 rfl

-- mudOf(k), stepFrom(k): of a street
set_option maxHeartbeats 4000000 in
set_option maxRecDepth 100000 in
theorem c_mudOf {σ : Sg} {t n y z l : Nat} {τ : Nat → Nat → Nat} (ht : isT t) (hT : TA σ t n y z l τ) {k : Nat} (hk : k < n) : Con 2 yX1_mudOf cX1_mudOf 2 (some .int) [.ref t, .int (nI k)] σ (PI (fun r σ1 => r = nI (τ 1 k) ∧ σ1 = σ)) := by
  refine Con.of (by decide) (by simp [Value.category]) (Nat.le_of_ble_eq_true rfl) (fun x hB => ?_)
  show V x RX1 cX1_mudOf 2 0 [some (.ref t), some (.int (nI k))] [] _
  have hn6 := hT.n6
  have hyb := hT.yb
  refine V.aload_n (q := 1) dX1_mudOf_0 rfl rfl ?_
  refine V.iload_n (q := 2) dX1_mudOf_1 rfl rfl ?_
  refine V.cvi1 (q := 5) dX1_mudOf_2 rfl kc_X1_59 (shT ht) (loT ht) rfl (hB.rm (by decide)) (Nat.le_of_ble_eq_true rfl) (c_isS1 ht hT hk) (fun r2 τ2 hp2 => ?_)
  obtain ⟨rfl, hz⟩ := hp2
  rw [hz]
  refine V.ifN_eq (t := 17) (q := 8) dX1_mudOf_5 (by decide) rfl (by omega) (fun c5 => absurd c5 (by decide +kernel)) (fun c5 => ?_)
  refine V.aload_n (q := 9) dX1_mudOf_8 rfl rfl ?_
  refine V.getR (q := 12) dX1_mudOf_9 rfl kf_X1_15 (shT ht) (loT ht) rfl ?_
  refine V.iload_n (q := 13) dX1_mudOf_12 rfl rfl ?_
  refine V.ialdN (q := 14) dX1_mudOf_13 rfl (shTa ht 2 (by decide) (by decide)) (loTa ht 2 (by decide)) (by omega) (by decide) (TA.a hT 1 (by decide) (by omega)) ?_
  refine V.goto (q := 18) dX1_mudOf_14 (by decide) ?_
  exact V.ret_int hB dX1_mudOf_18 rfl ⟨_, rfl, ⟨rfl, rfl⟩⟩

set_option maxHeartbeats 4000000 in
set_option maxRecDepth 100000 in
theorem c_stepFrom {σ : Sg} {t n y z l : Nat} {τ : Nat → Nat → Nat} (ht : isT t) (hT : TA σ t n y z l τ) {k : Nat} (hk : k < n) : Con 2 yX1_stepFrom cX1_stepFrom 2 (some .int) [.ref t, .int (nI k)] σ (PI (fun r σ1 => r = nI (τ 5 k) ∧ σ1 = σ)) := by
  refine Con.of (by decide) (by simp [Value.category]) (Nat.le_of_ble_eq_true rfl) (fun x hB => ?_)
  show V x RX1 cX1_stepFrom 2 0 [some (.ref t), some (.int (nI k))] [] _
  have hn6 := hT.n6
  have hyb := hT.yb
  refine V.aload_n (q := 1) dX1_stepFrom_0 rfl rfl ?_
  refine V.iload_n (q := 2) dX1_stepFrom_1 rfl rfl ?_
  refine V.cvi1 (q := 5) dX1_stepFrom_2 rfl kc_X1_59 (shT ht) (loT ht) rfl (hB.rm (by decide)) (Nat.le_of_ble_eq_true rfl) (c_isS1 ht hT hk) (fun r2 τ2 hp2 => ?_)
  obtain ⟨rfl, hz⟩ := hp2
  rw [hz]
  refine V.ifN_eq (t := 17) (q := 8) dX1_stepFrom_5 (by decide) rfl (by omega) (fun c5 => absurd c5 (by decide +kernel)) (fun c5 => ?_)
  refine V.aload_n (q := 9) dX1_stepFrom_8 rfl rfl ?_
  refine V.getR (q := 12) dX1_stepFrom_9 rfl kf_X1_27 (shT ht) (loT ht) rfl ?_
  refine V.iload_n (q := 13) dX1_stepFrom_12 rfl rfl ?_
  refine V.ialdN (q := 14) dX1_stepFrom_13 rfl (shTa ht 6 (by decide) (by decide)) (loTa ht 6 (by decide)) (by omega) (by decide) (TA.a hT 5 (by decide) (by omega)) ?_
  refine V.goto (q := 18) dX1_stepFrom_14 (by decide) ?_
  exact V.ret_int hB dX1_stepFrom_18 rfl ⟨_, rfl, ⟨rfl, rfl⟩⟩

-- mudOfAll()
set_option maxHeartbeats 4000000 in
set_option maxRecDepth 100000 in
theorem c_mudOfAll {σ : Sg} {t n y z l : Nat} {τ : Nat → Nat → Nat} (ht : isT t) (hT : TA σ t n y z l τ) : Con 1 yX1_mudOfAll cX1_mudOfAll 3 (some .int) [.ref t] σ (PI (fun r σ1 => r = nI (sumK (τ 1) n) ∧ σ1 = σ)) := by
  refine Con.of (by decide) (by simp [Value.category]) (Nat.le_of_ble_eq_true rfl) (fun x hB => ?_)
  show V x RX1 cX1_mudOfAll 3 0 [some (.ref t), none, none] [] _
  have hn6 := hT.n6
  have hyb := hT.yb
  refine V.iconst (q := 1) (v := nI 0) dX1_mudOfAll_0 rfl (by decide +kernel) ?_
  refine V.ist1 (q := 2) dX1_mudOfAll_1 rfl ?_
  refine V.iconst (q := 3) (v := nI 0) dX1_mudOfAll_2 rfl (by decide +kernel) ?_
  refine V.ist2 (q := 4) dX1_mudOfAll_3 rfl ?_
  have loop : ∀ j, j ≤ n → ∀ a, a = sumK (τ 1) j → V x RX1 cX1_mudOfAll 3 4 [some (.ref t), some (.int (nI a)), some (.int (nI j))] [] σ := by
    refine down n (fun j hj ih a ea => ?_)
    refine V.iload_n (q := 5) dX1_mudOfAll_4 rfl rfl ?_
    refine V.aload_n (q := 6) dX1_mudOfAll_5 rfl rfl ?_
    refine V.getI (q := 9) dX1_mudOfAll_6 rfl kf_X1_49 (shT ht) (loT ht) rfl (TA.n8 hT) ?_
    refine V.icmpN_ge (t := 27) (q := 12) dX1_mudOfAll_9 (by decide) rfl (by omega) (by omega) (fun c9 => ?_) (fun c9 => ?_)
    · have ej : j = n := by omega
      subst ej
      refine V.iload_n (q := 28) dX1_mudOfAll_27 rfl rfl ?_
      exact V.ret_int hB dX1_mudOfAll_28 rfl ⟨_, rfl, ⟨by rw [ea], rfl⟩⟩
    · refine V.iload_n (q := 13) dX1_mudOfAll_12 rfl rfl ?_
      refine V.aload_n (q := 14) dX1_mudOfAll_13 rfl rfl ?_
      refine V.getR (q := 17) dX1_mudOfAll_14 rfl kf_X1_15 (shT ht) (loT ht) rfl ?_
      refine V.iload_n (q := 18) dX1_mudOfAll_17 rfl rfl ?_
      refine V.ialdN (q := 19) dX1_mudOfAll_18 rfl (shTa ht 2 (by decide) (by decide)) (loTa ht 2 (by decide)) (by omega) (by decide) (TA.a hT 1 (by decide) (by omega)) ?_
      refine V.iaddN (q := 20) dX1_mudOfAll_19 rfl ?_
      refine V.ist1 (q := 21) dX1_mudOfAll_20 rfl ?_
      refine V.inc2 (q := 24) dX1_mudOfAll_21 rfl (inc1 _) ?_
      refine V.goto (q := 4) dX1_mudOfAll_24 (by decide) ?_
      exact ih c9 _ (by rw [ea]; rfl)
  exact loop 0 (Nat.zero_le _) 0 rfl

-- penceOfAll()
set_option maxHeartbeats 4000000 in
set_option maxRecDepth 100000 in
theorem c_penceOfAll {σ : Sg} {t n y z l : Nat} {τ : Nat → Nat → Nat} (ht : isT t) (hT : TA σ t n y z l τ) : Con 1 yX1_penceOfAll cX1_penceOfAll 3 (some .int) [.ref t] σ (PI (fun r σ1 => r = nI (sumK (τ 4) n) ∧ σ1 = σ)) := by
  refine Con.of (by decide) (by simp [Value.category]) (Nat.le_of_ble_eq_true rfl) (fun x hB => ?_)
  show V x RX1 cX1_penceOfAll 3 0 [some (.ref t), none, none] [] _
  have hn6 := hT.n6
  have hyb := hT.yb
  refine V.iconst (q := 1) (v := nI 0) dX1_penceOfAll_0 rfl (by decide +kernel) ?_
  refine V.ist1 (q := 2) dX1_penceOfAll_1 rfl ?_
  refine V.iconst (q := 3) (v := nI 0) dX1_penceOfAll_2 rfl (by decide +kernel) ?_
  refine V.ist2 (q := 4) dX1_penceOfAll_3 rfl ?_
  have loop : ∀ j, j ≤ n → ∀ a, a = sumK (τ 4) j → V x RX1 cX1_penceOfAll 3 4 [some (.ref t), some (.int (nI a)), some (.int (nI j))] [] σ := by
    refine down n (fun j hj ih a ea => ?_)
    refine V.iload_n (q := 5) dX1_penceOfAll_4 rfl rfl ?_
    refine V.aload_n (q := 6) dX1_penceOfAll_5 rfl rfl ?_
    refine V.getI (q := 9) dX1_penceOfAll_6 rfl kf_X1_49 (shT ht) (loT ht) rfl (TA.n8 hT) ?_
    refine V.icmpN_ge (t := 27) (q := 12) dX1_penceOfAll_9 (by decide) rfl (by omega) (by omega) (fun c9 => ?_) (fun c9 => ?_)
    · have ej : j = n := by omega
      subst ej
      refine V.iload_n (q := 28) dX1_penceOfAll_27 rfl rfl ?_
      exact V.ret_int hB dX1_penceOfAll_28 rfl ⟨_, rfl, ⟨by rw [ea], rfl⟩⟩
    · refine V.iload_n (q := 13) dX1_penceOfAll_12 rfl rfl ?_
      refine V.aload_n (q := 14) dX1_penceOfAll_13 rfl rfl ?_
      refine V.getR (q := 17) dX1_penceOfAll_14 rfl kf_X1_24 (shT ht) (loT ht) rfl ?_
      refine V.iload_n (q := 18) dX1_penceOfAll_17 rfl rfl ?_
      refine V.ialdN (q := 19) dX1_penceOfAll_18 rfl (shTa ht 5 (by decide) (by decide)) (loTa ht 5 (by decide)) (by omega) (by decide) (TA.a hT 4 (by decide) (by omega)) ?_
      refine V.iaddN (q := 20) dX1_penceOfAll_19 rfl ?_
      refine V.ist1 (q := 21) dX1_penceOfAll_20 rfl ?_
      refine V.inc2 (q := 24) dX1_penceOfAll_21 rfl (inc1 _) ?_
      refine V.goto (q := 4) dX1_penceOfAll_24 (by decide) ?_
      exact ih c9 _ (by rw [ea]; rfl)
  exact loop 0 (Nat.zero_le _) 0 rfl

-- isOnRing(i)
set_option maxHeartbeats 4000000 in
set_option maxRecDepth 100000 in
theorem c_isOnRing {σ : Sg} {t n y z l : Nat} {τ : Nat → Nat → Nat} (ht : isT t) (hT : TA σ t n y z l τ) {i : Nat} (hi : i < n) : Con 3 yX1_isOnRing cX1_isOnRing 4 (some .boolean) [.ref t, .int (nI i)] σ (PI (fun r σ1 => σ1 = σ ∧ ((r = nI 1 ∧ onR n (τ 5) i) ∨ (r = nI 0 ∧ ¬ onR n (τ 5) i)))) := by
  refine Con.of (by decide) (by simp [Value.category]) (Nat.le_of_ble_eq_true rfl) (fun x hB => ?_)
  show V x RX1 cX1_isOnRing 4 0 [some (.ref t), some (.int (nI i)), none, none] [] _
  have hn6 := hT.n6
  have hyb := hT.yb
  refine V.iload_n (q := 1) dX1_isOnRing_0 rfl rfl ?_
  refine V.ist2 (q := 2) dX1_isOnRing_1 rfl ?_
  refine V.iconst (q := 3) (v := nI 0) dX1_isOnRing_2 rfl (by decide +kernel) ?_
  refine V.ist3 (q := 4) dX1_isOnRing_3 rfl ?_
  have hme : ∀ a, a < n → τ 5 a < n := fun a h9 => (hT.w a h9).2.2.2.2.2.1
  have loop : ∀ j, j ≤ n → ∀ a, a = itr (τ 5) j i → (∀ k, k < j → ¬ itr (τ 5) (k + 1) i = i) → V x RX1 cX1_isOnRing 4 4 [some (.ref t), some (.int (nI i)), some (.int (nI a)), some (.int (nI j))] [] σ := by
    refine down n (fun j hj ih a ea hno => ?_)
    have ha : a < n := by rw [ea]; exact itr_lt hme hi j
    have ha2 := hme a ha
    refine V.iload_n (q := 5) dX1_isOnRing_4 rfl rfl ?_
    refine V.aload_n (q := 6) dX1_isOnRing_5 rfl rfl ?_
    refine V.getI (q := 9) dX1_isOnRing_6 rfl kf_X1_49 (shT ht) (loT ht) rfl (TA.n8 hT) ?_
    refine V.icmpN_ge (t := 31) (q := 12) dX1_isOnRing_9 (by decide) rfl (by omega) (by omega) (fun c9 => ?_) (fun c9 => ?_)
    · have ej : j = n := by omega
      subst ej
      refine V.iconst (q := 32) (v := nI 0) dX1_isOnRing_31 rfl (by decide +kernel) ?_
      exact V.ret_int hB dX1_isOnRing_32 (by decide +kernel) ⟨_, rfl, ⟨rfl, Or.inr ⟨rfl, fun ⟨k, h1, h2⟩ => hno k h1 h2⟩⟩⟩
    · refine V.aload_n (q := 13) dX1_isOnRing_12 rfl rfl ?_
      refine V.iload_n (q := 14) dX1_isOnRing_13 rfl rfl ?_
      refine V.cvi1 (q := 17) dX1_isOnRing_14 rfl kc_X1_67 (shT ht) (loT ht) rfl (hB.rm (by decide)) (Nat.le_of_ble_eq_true rfl) (c_stepFrom ht hT ha) (fun r14 τ14 hp14 => ?_)
      obtain ⟨rfl, hz⟩ := hp14
      rw [hz]
      refine V.ist2 (q := 18) dX1_isOnRing_17 rfl ?_
      refine V.iload_n (q := 19) dX1_isOnRing_18 rfl rfl ?_
      refine V.iload_n (q := 20) dX1_isOnRing_19 rfl rfl ?_
      refine V.icmpN_ne (t := 25) (q := 23) dX1_isOnRing_20 (by decide) rfl (by omega) (by omega) (fun c20 => ?_) (fun c20 => ?_)
      · refine V.inc3 (q := 28) dX1_isOnRing_25 rfl (inc1 _) ?_
        refine V.goto (q := 4) dX1_isOnRing_28 (by decide) ?_
        refine ih c9 _ (by rw [ea]; rfl) (fun k h9 => ?_)
        rcases Nat.lt_or_ge k j with h8 | h8
        · exact hno k h8
        · have : k = j := by omega
          subst this
          show ¬ τ 5 (itr (τ 5) k i) = i
          rw [← ea]; exact c20
      · refine V.iconst (q := 24) (v := nI 1) dX1_isOnRing_23 rfl (by decide +kernel) ?_
        exact V.ret_int hB dX1_isOnRing_24 (by decide +kernel) ⟨_, rfl, ⟨rfl, Or.inl ⟨rfl, j, c9, by show τ 5 (itr (τ 5) j i) = i; rw [← ea]; exact c20⟩⟩⟩
  exact loop 0 (Nat.zero_le _) i rfl (fun k h9 => absurd h9 (by omega))

-- leastOnTheWayFrom(i)
set_option maxHeartbeats 4000000 in
set_option maxRecDepth 100000 in
theorem c_least {σ : Sg} {t n y z l : Nat} {τ : Nat → Nat → Nat} (ht : isT t) (hT : TA σ t n y z l τ) {i : Nat} (hi : i < n) : Con 3 yX1_leastOnTheWayFrom cX1_leastOnTheWayFrom 5 (some .int) [.ref t, .int (nI i)] σ (PI (fun r σ1 => r = nI (lwK (τ 5) i n) ∧ σ1 = σ)) := by
  refine Con.of (by decide) (by simp [Value.category]) (Nat.le_of_ble_eq_true rfl) (fun x hB => ?_)
  show V x RX1 cX1_leastOnTheWayFrom 5 0 [some (.ref t), some (.int (nI i)), none, none, none] [] _
  have hn6 := hT.n6
  have hyb := hT.yb
  refine V.iload_n (q := 1) dX1_leastOnTheWayFrom_0 rfl rfl ?_
  refine V.ist2 (q := 2) dX1_leastOnTheWayFrom_1 rfl ?_
  refine V.iload_n (q := 3) dX1_leastOnTheWayFrom_2 rfl rfl ?_
  refine V.ist3 (q := 4) dX1_leastOnTheWayFrom_3 rfl ?_
  refine V.iconst (q := 5) (v := nI 0) dX1_leastOnTheWayFrom_4 rfl (by decide +kernel) ?_
  refine V.ist4 (q := 7) dX1_leastOnTheWayFrom_5 rfl ?_
  have hme : ∀ a, a < n → τ 5 a < n := fun a h9 => (hT.w a h9).2.2.2.2.2.1
  have loop : ∀ j, j ≤ n → ∀ a b, a = itr (τ 5) j i → b = lwK (τ 5) i j → b < n → V x RX1 cX1_leastOnTheWayFrom 5 7 [some (.ref t), some (.int (nI i)), some (.int (nI b)), some (.int (nI a)), some (.int (nI j))] [] σ := by
    refine down n (fun j hj ih a b ea eb hb => ?_)
    have ha : a < n := by rw [ea]; exact itr_lt hme hi j
    have ha2 := hme a ha
    refine V.iload (q := 9) dX1_leastOnTheWayFrom_7 rfl rfl ?_
    refine V.aload_n (q := 10) dX1_leastOnTheWayFrom_9 rfl rfl ?_
    refine V.getI (q := 13) dX1_leastOnTheWayFrom_10 rfl kf_X1_49 (shT ht) (loT ht) rfl (TA.n8 hT) ?_
    refine V.icmpN_ge (t := 34) (q := 16) dX1_leastOnTheWayFrom_13 (by decide) rfl (by omega) (by omega) (fun c13 => ?_) (fun c13 => ?_)
    · have ej : j = n := by omega
      subst ej
      refine V.iload_n (q := 35) dX1_leastOnTheWayFrom_34 rfl rfl ?_
      exact V.ret_int hB dX1_leastOnTheWayFrom_35 rfl ⟨_, rfl, ⟨by rw [eb], rfl⟩⟩
    · refine V.aload_n (q := 17) dX1_leastOnTheWayFrom_16 rfl rfl ?_
      refine V.iload_n (q := 18) dX1_leastOnTheWayFrom_17 rfl rfl ?_
      refine V.cvi1 (q := 21) dX1_leastOnTheWayFrom_18 rfl kc_X1_67 (shT ht) (loT ht) rfl (hB.rm (by decide)) (Nat.le_of_ble_eq_true rfl) (c_stepFrom ht hT ha) (fun r18 τ18 hp18 => ?_)
      obtain ⟨rfl, hz⟩ := hp18
      rw [hz]
      refine V.ist3 (q := 22) dX1_leastOnTheWayFrom_21 rfl ?_
      refine V.iload_n (q := 23) dX1_leastOnTheWayFrom_22 rfl rfl ?_
      refine V.iload_n (q := 24) dX1_leastOnTheWayFrom_23 rfl rfl ?_
      refine V.min (q := 27) dX1_leastOnTheWayFrom_24 rfl kc_X1_78 (hB.rm (by decide)) (Nat.le_of_ble_eq_true rfl) (minN (by omega) (by omega)) ?_
      refine V.ist2 (q := 28) dX1_leastOnTheWayFrom_27 rfl ?_
      refine V.inc4 (q := 31) dX1_leastOnTheWayFrom_28 rfl (inc1 _) ?_
      refine V.goto (q := 7) dX1_leastOnTheWayFrom_31 (by decide) ?_
      exact ih c13 _ _ (by rw [ea]; rfl) (by rw [eb, ea]; rfl) (by omega)
  exact loop 0 (Nat.zero_le _) i i rfl rfl hi

-- muddiest()
set_option maxHeartbeats 4000000 in
set_option maxRecDepth 100000 in
theorem c_muddiest {σ : Sg} {t n y z l : Nat} {τ : Nat → Nat → Nat} (ht : isT t) (hT : TA σ t n y z l τ) : Con 3 yX1_muddiest cX1_muddiest 3 (some .int) [.ref t] σ (PI (fun r σ1 => σ1 = σ ∧ ((n = 0 ∧ r = -1) ∨ (0 < n ∧ r = nI (mxK (τ 1) n))))) := by
  refine Con.of (by decide) (by simp [Value.category]) (Nat.le_of_ble_eq_true rfl) (fun x hB => ?_)
  show V x RX1 cX1_muddiest 3 0 [some (.ref t), none, none] [] _
  have hn6 := hT.n6
  have hyb := hT.yb
  refine V.iconst (q := 1) (v := -1) dX1_muddiest_0 rfl (by decide +kernel) ?_
  refine V.ist1 (q := 2) dX1_muddiest_1 rfl ?_
  refine V.iconst (q := 3) (v := nI 0) dX1_muddiest_2 rfl (by decide +kernel) ?_
  refine V.ist2 (q := 4) dX1_muddiest_3 rfl ?_
  have loop : ∀ j, j ≤ n → ∀ v : Int32, ((j = 0 ∧ v = -1) ∨ (0 < j ∧ v = nI (mxK (τ 1) j))) → V x RX1 cX1_muddiest 3 4 [some (.ref t), some (.int v), some (.int (nI j))] [] σ := by
    refine down n (fun j hj ih v hv => ?_)
    refine V.iload_n (q := 5) dX1_muddiest_4 rfl rfl ?_
    refine V.aload_n (q := 6) dX1_muddiest_5 rfl rfl ?_
    refine V.getI (q := 9) dX1_muddiest_6 rfl kf_X1_49 (shT ht) (loT ht) rfl (TA.n8 hT) ?_
    refine V.icmpN_ge (t := 39) (q := 12) dX1_muddiest_9 (by decide) rfl (by omega) (by omega) (fun c9 => ?_) (fun c9 => ?_)
    · have ej : j = n := by omega
      subst ej
      refine V.iload_n (q := 40) dX1_muddiest_39 rfl rfl ?_
      exact V.ret_int hB dX1_muddiest_40 rfl ⟨_, rfl, ⟨rfl, hv⟩⟩
    · rcases hv with ⟨ej, ev⟩ | ⟨ej, ev⟩ <;> subst ev
      · skip
        refine V.iload_n (q := 13) dX1_muddiest_12 rfl rfl ?_
        refine V.iconst (q := 14) (v := (-1)) dX1_muddiest_13 rfl (by decide +kernel) ?_
        refine V.icmp_eq (t := 31) (q := 17) dX1_muddiest_14 (by decide) rfl  (fun c14 => ?_) (fun c14 => absurd c14 (fun h9 => h9 rfl))
        refine V.iload_n (q := 32) dX1_muddiest_31 rfl rfl ?_
        refine V.ist1 (q := 33) dX1_muddiest_32 rfl ?_
        refine V.inc2 (q := 36) dX1_muddiest_33 rfl (inc1 _) ?_
        refine V.goto (q := 4) dX1_muddiest_36 (by decide) ?_
        exact ih c9 _ (Or.inr ⟨by omega, by subst ej; simp [mxK]⟩)
      · have hm := mxK_lt (g := τ 1) ej
        have hm1 := (hT.w _ (Nat.lt_trans hm c9)).2.1
        have hm2 := (hT.w j c9).2.1
        refine V.iload_n (q := 13) dX1_muddiest_12 rfl rfl ?_
        refine V.iconst (q := 14) (v := (-1)) dX1_muddiest_13 rfl (by decide +kernel) ?_
        refine V.icmp_eq (t := 31) (q := 17) dX1_muddiest_14 (by decide) rfl  (fun c14 => absurd c14 (nI_m1 (by omega))) (fun c14 => ?_)
        refine V.aload_n (q := 18) dX1_muddiest_17 rfl rfl ?_
        refine V.getR (q := 21) dX1_muddiest_18 rfl kf_X1_15 (shT ht) (loT ht) rfl ?_
        refine V.iload_n (q := 22) dX1_muddiest_21 rfl rfl ?_
        refine V.ialdN (q := 23) dX1_muddiest_22 rfl (shTa ht 2 (by decide) (by decide)) (loTa ht 2 (by decide)) (by omega) (by decide) (TA.a hT 1 (by decide) (by omega)) ?_
        refine V.aload_n (q := 24) dX1_muddiest_23 rfl rfl ?_
        refine V.iload_n (q := 25) dX1_muddiest_24 rfl rfl ?_
        refine V.cvi1 (q := 28) dX1_muddiest_25 rfl kc_X1_100 (shT ht) (loT ht) rfl (hB.rm (by decide)) (Nat.le_of_ble_eq_true rfl) (c_mudOf ht hT (Nat.lt_trans hm c9)) (fun r25 τ25 hp25 => ?_)
        obtain ⟨rfl, hz⟩ := hp25
        rw [hz]
        refine V.icmpN_le (t := 33) (q := 31) dX1_muddiest_28 (by decide) rfl (by omega) (by omega) (fun c28 => ?_) (fun c28 => ?_)
        · refine V.inc2 (q := 36) dX1_muddiest_33 rfl (inc1 _) ?_
          refine V.goto (q := 4) dX1_muddiest_36 (by decide) ?_
          exact ih c9 _ (Or.inr ⟨by omega, by simp [mxK, Nat.not_lt.mpr c28]⟩)
        · refine V.iload_n (q := 32) dX1_muddiest_31 rfl rfl ?_
          refine V.ist1 (q := 33) dX1_muddiest_32 rfl ?_
          refine V.inc2 (q := 36) dX1_muddiest_33 rfl (inc1 _) ?_
          refine V.goto (q := 4) dX1_muddiest_36 (by decide) ?_
          exact ih c9 _ (Or.inr ⟨by omega, by simp [mxK, c28]⟩)
  exact loop 0 (Nat.zero_le _) _ (Or.inl ⟨rfl, rfl⟩)

-- liesLike(u)
set_option maxHeartbeats 4000000 in
set_option maxRecDepth 100000 in
theorem c_liesLike {σ : Sg} {t n y z l : Nat} {τ : Nat → Nat → Nat} (ht : isT t) (hT : TA σ t n y z l τ) {u y2 z2 l2 : Nat} {υ : Nat → Nat → Nat} (hu : isT u) (hU : TA σ u n y2 z2 l2 υ) : Con 1 yX1_liesLike cX1_liesLike 3 (some .boolean) [.ref t, .ref u] σ (PI (fun r σ1 => σ1 = σ ∧ ((r = nI 1 ∧ alike n τ υ) ∨ (r = nI 0 ∧ ¬ alike n τ υ)))) := by
  refine Con.of (by decide) (by simp [Value.category]) (Nat.le_of_ble_eq_true rfl) (fun x hB => ?_)
  show V x RX1 cX1_liesLike 3 0 [some (.ref t), some (.ref u), none] [] _
  have hn6 := hT.n6
  have hyb := hT.yb
  refine V.iconst (q := 1) (v := nI 0) dX1_liesLike_0 rfl (by decide +kernel) ?_
  refine V.ist2 (q := 2) dX1_liesLike_1 rfl ?_
  have loop : ∀ j, j ≤ n → (∀ i, i < j → τ 1 i = υ 1 i ∧ τ 6 i = υ 6 i) → V x RX1 cX1_liesLike 3 2 [some (.ref t), some (.ref u), some (.int (nI j))] [] σ := by
    refine down n (fun j hj ih hall => ?_)
    refine V.iload_n (q := 3) dX1_liesLike_2 rfl rfl ?_
    refine V.aload_n (q := 4) dX1_liesLike_3 rfl rfl ?_
    refine V.getI (q := 7) dX1_liesLike_4 rfl kf_X1_49 (shT ht) (loT ht) rfl (TA.n8 hT) ?_
    refine V.icmpN_ge (t := 48) (q := 10) dX1_liesLike_7 (by decide) rfl (by omega) (by omega) (fun c7 => ?_) (fun c7 => ?_)
    · have ej : j = n := by omega
      subst ej
      refine V.iconst (q := 49) (v := nI 1) dX1_liesLike_48 rfl (by decide +kernel) ?_
      exact V.ret_int hB dX1_liesLike_49 (by decide +kernel) ⟨_, rfl, ⟨rfl, Or.inl ⟨rfl, hall⟩⟩⟩
    · have h1 := hT.w j c7
      have h2 := hU.w j c7
      refine V.aload_n (q := 11) dX1_liesLike_10 rfl rfl ?_
      refine V.getR (q := 14) dX1_liesLike_11 rfl kf_X1_15 (shT ht) (loT ht) rfl ?_
      refine V.iload_n (q := 15) dX1_liesLike_14 rfl rfl ?_
      refine V.ialdN (q := 16) dX1_liesLike_15 rfl (shTa ht 2 (by decide) (by decide)) (loTa ht 2 (by decide)) (by omega) (by decide) (TA.a hT 1 (by decide) (by omega)) ?_
      refine V.aload_n (q := 17) dX1_liesLike_16 rfl rfl ?_
      refine V.getR (q := 20) dX1_liesLike_17 rfl kf_X1_15 (shT hu) (loT hu) rfl ?_
      refine V.iload_n (q := 21) dX1_liesLike_20 rfl rfl ?_
      refine V.ialdN (q := 22) dX1_liesLike_21 rfl (shTa hu 2 (by decide) (by decide)) (loTa hu 2 (by decide)) (by omega) (by decide) (TA.a hU 1 (by decide) (by omega)) ?_
      refine V.icmpN_ne (t := 40) (q := 25) dX1_liesLike_22 (by decide) rfl (by omega) (by omega) (fun c22 => ?_) (fun c22 => ?_)
      · refine V.iconst (q := 41) (v := nI 0) dX1_liesLike_40 rfl (by decide +kernel) ?_
        exact V.ret_int hB dX1_liesLike_41 (by decide +kernel) ⟨_, rfl, ⟨rfl, Or.inr ⟨rfl, fun h9 => c22 (h9 j c7).1⟩⟩⟩
      · refine V.aload_n (q := 26) dX1_liesLike_25 rfl rfl ?_
        refine V.getR (q := 29) dX1_liesLike_26 rfl kf_X1_30 (shT ht) (loT ht) rfl ?_
        refine V.iload_n (q := 30) dX1_liesLike_29 rfl rfl ?_
        refine V.ialdN (q := 31) dX1_liesLike_30 rfl (shTa ht 7 (by decide) (by decide)) (loTa ht 7 (by decide)) (by omega) (by decide) (TA.a hT 6 (by decide) (by omega)) ?_
        refine V.aload_n (q := 32) dX1_liesLike_31 rfl rfl ?_
        refine V.getR (q := 35) dX1_liesLike_32 rfl kf_X1_30 (shT hu) (loT hu) rfl ?_
        refine V.iload_n (q := 36) dX1_liesLike_35 rfl rfl ?_
        refine V.ialdN (q := 37) dX1_liesLike_36 rfl (shTa hu 7 (by decide) (by decide)) (loTa hu 7 (by decide)) (by omega) (by decide) (TA.a hU 6 (by decide) (by omega)) ?_
        refine V.icmpN_eq (t := 42) (q := 40) dX1_liesLike_37 (by decide) rfl (by omega) (by omega) (fun c37 => ?_) (fun c37 => ?_)
        · refine V.inc2 (q := 45) dX1_liesLike_42 rfl (inc1 _) ?_
          refine V.goto (q := 2) dX1_liesLike_45 (by decide) ?_
          refine ih c7 (fun k h9 => ?_)
          rcases Nat.lt_or_ge k j with h8 | h8
          · exact hall k h8
          · have : k = j := by omega
            subst this
            exact ⟨c22, c37⟩
        · refine V.iconst (q := 41) (v := nI 0) dX1_liesLike_40 rfl (by decide +kernel) ?_
          exact V.ret_int hB dX1_liesLike_41 (by decide +kernel) ⟨_, rfl, ⟨rfl, Or.inr ⟨rfl, fun h9 => c37 (h9 j c7).2⟩⟩⟩
  exact loop 0 (Nat.zero_le _) (fun i h9 => absurd h9 (by omega))

-- trustOf(k), workOf(k, mt)
set_option maxHeartbeats 4000000 in
set_option maxRecDepth 100000 in
theorem c_trustOf {σ : Sg} {t n y z l : Nat} {τ : Nat → Nat → Nat} (ht : isT t) (hT : TA σ t n y z l τ) {k : Nat} (hk : k < n) : Con 1 yX1_trustOf cX1_trustOf 2 (some .int) [.ref t, .int (nI k)] σ (PI (fun r σ1 => r = nI (trustM τ k) ∧ σ1 = σ)) := by
  refine Con.of (by decide) (by simp [Value.category]) (Nat.le_of_ble_eq_true rfl) (fun x hB => ?_)
  show V x RX1 cX1_trustOf 2 0 [some (.ref t), some (.int (nI k))] [] _
  have hn6 := hT.n6
  have hyb := hT.yb
  have hw := hT.w k hk
  refine V.aload_n (q := 1) dX1_trustOf_0 rfl rfl ?_
  refine V.getR (q := 4) dX1_trustOf_1 rfl kf_X1_21 (shT ht) (loT ht) rfl ?_
  refine V.iload_n (q := 5) dX1_trustOf_4 rfl rfl ?_
  refine V.ialdN (q := 6) dX1_trustOf_5 rfl (shTa ht 4 (by decide) (by decide)) (loTa ht 4 (by decide)) (by omega) (by decide) (TA.a hT 3 (by decide) (by omega)) ?_
  refine V.aload_n (q := 7) dX1_trustOf_6 rfl rfl ?_
  refine V.getR (q := 10) dX1_trustOf_7 rfl kf_X1_30 (shT ht) (loT ht) rfl ?_
  refine V.iload_n (q := 11) dX1_trustOf_10 rfl rfl ?_
  refine V.ialdN (q := 12) dX1_trustOf_11 rfl (shTa ht 7 (by decide) (by decide)) (loTa ht 7 (by decide)) (by omega) (by decide) (TA.a hT 6 (by decide) (by omega)) ?_
  refine V.iconst (q := 13) (v := nI 1) dX1_trustOf_12 rfl (by decide +kernel) ?_
  refine V.iaddN (q := 14) dX1_trustOf_13 rfl ?_
  refine V.min (q := 17) dX1_trustOf_14 rfl kc_X1_78 (hB.rm (by decide)) (Nat.le_of_ble_eq_true rfl) (minN (by omega) (by omega)) ?_
  exact V.ret_int hB dX1_trustOf_17 rfl ⟨_, rfl, ⟨rfl, rfl⟩⟩

set_option maxHeartbeats 4000000 in
set_option maxRecDepth 100000 in
theorem c_workOf {σ : Sg} {t n y z l : Nat} {τ : Nat → Nat → Nat} (ht : isT t) (hT : TA σ t n y z l τ) {k mt : Nat} (hk : k < n) (hmt : mt < 2 ^ 31) : Con 2 yX1_workOf cX1_workOf 4 (some .int) [.ref t, .int (nI k), .int (nI mt)] σ (PI (fun r σ1 => r = nI (workM y z l τ k mt) ∧ σ1 = σ)) := by
  refine Con.of (by decide) (by simp [Value.category]) (Nat.le_of_ble_eq_true rfl) (fun x hB => ?_)
  show V x RX1 cX1_workOf 4 0 [some (.ref t), some (.int (nI k)), some (.int (nI mt)), none] [] _
  have hn6 := hT.n6
  have hyb := hT.yb
  have hw := hT.w k hk
  refine V.iload_n (q := 1) dX1_workOf_0 rfl rfl ?_
  refine V.aload_n (q := 2) dX1_workOf_1 rfl rfl ?_
  refine V.getI (q := 5) dX1_workOf_2 rfl kf_X1_36 (shT ht) (loT ht) rfl (TA.n10 hT) ?_
  refine V.icmp_eq (t := 16) (q := 8) dX1_workOf_5 (by decide) rfl  (fun c5 => ?_) (fun c5 => ?_)
  · refine V.iconst (q := 17) (v := nI 0) dX1_workOf_16 rfl (by decide +kernel) ?_
    exact V.ret_int hB dX1_workOf_17 rfl ⟨_, rfl, ⟨by simp [workM, (nz_eq (show k < 6 by omega)).mp c5], rfl⟩⟩
  · have hz1 : ¬ k = z := fun e9 => c5 ((nz_eq (by omega)).mpr e9)
    refine V.iload_n (q := 9) dX1_workOf_8 rfl rfl ?_
    refine V.aload_n (q := 10) dX1_workOf_9 rfl rfl ?_
    refine V.getI (q := 13) dX1_workOf_10 rfl kf_X1_40 (shT ht) (loT ht) rfl (TA.n11 hT) ?_
    refine V.icmp_ne (t := 18) (q := 16) dX1_workOf_13 (by decide) rfl  (fun c13 => ?_) (fun c13 => ?_)
    · have hz2 : ¬ k = l := fun e9 => c13 ((nz_eq (by omega)).mpr e9)
      refine V.aload_n (q := 19) dX1_workOf_18 rfl rfl ?_
      refine V.getR (q := 22) dX1_workOf_19 rfl kf_X1_21 (shT ht) (loT ht) rfl ?_
      refine V.iload_n (q := 23) dX1_workOf_22 rfl rfl ?_
      refine V.ialdN (q := 24) dX1_workOf_23 rfl (shTa ht 4 (by decide) (by decide)) (loTa ht 4 (by decide)) (by omega) (by decide) (TA.a hT 3 (by decide) (by omega)) ?_
      refine V.ist3 (q := 25) dX1_workOf_24 rfl ?_
      refine V.aload_n (q := 26) dX1_workOf_25 rfl rfl ?_
      refine V.getR (q := 29) dX1_workOf_26 rfl kf_X1_9 (shT ht) (loT ht) rfl ?_
      refine V.iload_n (q := 30) dX1_workOf_29 rfl rfl ?_
      refine V.ialdN (q := 31) dX1_workOf_30 rfl (shTa ht 1 (by decide) (by decide)) (loTa ht 1 (by decide)) (by omega) (by decide) (TA.a hT 0 (by decide) (by omega)) ?_
      rcases (show τ 0 k = 0 ∨ τ 0 k = 1 ∨ τ 0 k = 2 ∨ τ 0 k = 3 ∨ τ 0 k = 4 ∨ τ 0 k = 5 by omega) with e0 | e0 | e0 | e0 | e0 | e0
      · rw [e0]
        refine V.tableOut (q := 122) dX1_workOf_31 (by decide +kernel) (by decide) ?_
        refine V.iload_n (q := 123) dX1_workOf_122 rfl rfl ?_
        exact V.ret_int hB dX1_workOf_123 rfl ⟨_, rfl, ⟨by simp [workM, hz1, hz2, e0], rfl⟩⟩
      · rw [e0]
        refine V.tableIn (q := 64) (off := 33) dX1_workOf_31 (by decide +kernel) (by decide +kernel) rfl (by decide) ?_
        refine V.aload_n (q := 65) dX1_workOf_64 rfl rfl ?_
        refine V.getI (q := 68) dX1_workOf_65 rfl kf_X1_52 (shT ht) (loT ht) rfl (TA.n9 hT) ?_
        refine V.iconst (q := 69) (v := nI 2) dX1_workOf_68 rfl (by decide +kernel) ?_
        refine V.iremN (q := 70) dX1_workOf_69 rfl (by omega) (by decide) (by decide) ?_
        refine V.ifN_ne (t := 77) (q := 73) dX1_workOf_70 (by decide) rfl (by omega) (fun c70 => ?_) (fun c70 => ?_)
        · refine V.iconst (q := 78) (v := nI 0) dX1_workOf_77 rfl (by decide +kernel) ?_
          exact V.ret_int hB dX1_workOf_78 rfl ⟨_, rfl, ⟨by simp [workM, hz1, hz2, e0, c70], rfl⟩⟩
        · refine V.iload_n (q := 74) dX1_workOf_73 rfl rfl ?_
          refine V.goto (q := 78) dX1_workOf_74 (by decide) ?_
          exact V.ret_int hB dX1_workOf_78 rfl ⟨_, rfl, ⟨by simp [workM, hz1, hz2, e0, c70], rfl⟩⟩
      · rw [e0]
        refine V.tableIn (q := 79) (off := 48) dX1_workOf_31 (by decide +kernel) (by decide +kernel) rfl (by decide) ?_
        refine V.aload_n (q := 80) dX1_workOf_79 rfl rfl ?_
        refine V.iload_n (q := 81) dX1_workOf_80 rfl rfl ?_
        refine V.cvi1 (q := 84) dX1_workOf_81 rfl kc_X1_93 (shT ht) (loT ht) rfl (hB.rm (by decide)) (Nat.le_of_ble_eq_true rfl) (c_trustOf ht hT hk) (fun r81 τ81 hp81 => ?_)
        obtain ⟨rfl, hz⟩ := hp81
        rw [hz]
        exact V.ret_int hB dX1_workOf_84 rfl ⟨_, rfl, ⟨by simp [workM, hz1, hz2, e0], rfl⟩⟩
      · rw [e0]
        refine V.tableIn (q := 85) (off := 54) dX1_workOf_31 (by decide +kernel) (by decide +kernel) rfl (by decide) ?_
        refine V.aload_n (q := 86) dX1_workOf_85 rfl rfl ?_
        refine V.getR (q := 89) dX1_workOf_86 rfl kf_X1_24 (shT ht) (loT ht) rfl ?_
        refine V.iload_n (q := 90) dX1_workOf_89 rfl rfl ?_
        refine V.ialdN (q := 91) dX1_workOf_90 rfl (shTa ht 5 (by decide) (by decide)) (loTa ht 5 (by decide)) (by omega) (by decide) (TA.a hT 4 (by decide) (by omega)) ?_
        refine V.ifN_le (t := 100) (q := 94) dX1_workOf_91 (by decide) rfl (by omega) (fun c91 => ?_) (fun c91 => ?_)
        · refine V.iconst (q := 101) (v := nI 0) dX1_workOf_100 rfl (by decide +kernel) ?_
          exact V.ret_int hB dX1_workOf_101 rfl ⟨_, rfl, ⟨by simp [workM, hz1, hz2, e0, show τ 4 k = 0 by omega], rfl⟩⟩
        · refine V.iload_n (q := 95) dX1_workOf_94 rfl rfl ?_
          refine V.iconst (q := 96) (v := nI 1) dX1_workOf_95 rfl (by decide +kernel) ?_
          refine V.iaddN (q := 97) dX1_workOf_96 rfl ?_
          refine V.goto (q := 101) dX1_workOf_97 (by decide) ?_
          exact V.ret_int hB dX1_workOf_101 rfl ⟨_, rfl, ⟨by simp [workM, hz1, hz2, e0, c91], rfl⟩⟩
      · rw [e0]
        refine V.tableIn (q := 102) (off := 71) dX1_workOf_31 (by decide +kernel) (by decide +kernel) rfl (by decide) ?_
        refine V.iconst (q := 103) (v := nI 2) dX1_workOf_102 rfl (by decide +kernel) ?_
        refine V.iload_n (q := 104) dX1_workOf_103 rfl rfl ?_
        refine V.imulN (q := 105) dX1_workOf_104 rfl ?_
        exact V.ret_int hB dX1_workOf_105 rfl ⟨_, rfl, ⟨by simp [workM, hz1, hz2, e0], rfl⟩⟩
      · rw [e0]
        refine V.tableIn (q := 106) (off := 75) dX1_workOf_31 (by decide +kernel) (by decide +kernel) rfl (by decide) ?_
        refine V.iload_n (q := 107) dX1_workOf_106 rfl rfl ?_
        refine V.bipush (q := 109) (v := nI 6) dX1_workOf_107 rfl (by decide +kernel) ?_
        refine V.icmpN_lt (t := 116) (q := 112) dX1_workOf_109 (by decide) rfl (by omega) (by omega) (fun c109 => ?_) (fun c109 => ?_)
        · refine V.aload_n (q := 117) dX1_workOf_116 rfl rfl ?_
          refine V.iload_n (q := 118) dX1_workOf_117 rfl rfl ?_
          refine V.cvi1 (q := 121) dX1_workOf_118 rfl kc_X1_93 (shT ht) (loT ht) rfl (hB.rm (by decide)) (Nat.le_of_ble_eq_true rfl) (c_trustOf ht hT hk) (fun r118 τ118 hp118 => ?_)
          obtain ⟨rfl, hz⟩ := hp118
          rw [hz]
          exact V.ret_int hB dX1_workOf_121 rfl ⟨_, rfl, ⟨by simp [workM, hz1, hz2, e0, show ¬ 6 ≤ mt by omega], rfl⟩⟩
        · refine V.iload_n (q := 113) dX1_workOf_112 rfl rfl ?_
          refine V.goto (q := 121) dX1_workOf_113 (by decide) ?_
          exact V.ret_int hB dX1_workOf_121 rfl ⟨_, rfl, ⟨by simp [workM, hz1, hz2, e0, c109], rfl⟩⟩
    · refine V.iconst (q := 17) (v := nI 0) dX1_workOf_16 rfl (by decide +kernel) ?_
      exact V.ret_int hB dX1_workOf_17 rfl ⟨_, rfl, ⟨by simp [workM, (nz_eq (show k < 6 by omega)).mp c13], rfl⟩⟩

