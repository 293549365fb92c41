-- goesFor(k), mudOf(k), allMud(), mudBehind(k), fed(i)
set_option maxHeartbeats 4000000 in
set_option maxRecDepth 100000 in
theorem m_goesFor {σ : Sg} {n y z l : Nat} {τ : Nat → Nat → Nat} (hY : YA σ n y z l τ) {k : Nat} (hy : y + k < 2 ^ 30) : Con 5 yX3_goesFor cX3_goesFor 3 none [.ref 43, .int (nI k)] σ (PV (fun σ1 => YA σ1 n (y + k) z l (yrsM n y z l τ k) ∧ Gy σ σ1)) := by
  refine Con.of (by decide) (by simp [Value.category]) (Nat.le_of_ble_eq_true rfl) (fun x hB => ?_)
  show V x RX3 cX3_goesFor 3 0 [some (.ref 43), some (.int (nI k)), none] [] _
  refine V.iconst (q := 1) (v := nI 0) dX3_goesFor_0 rfl (by decide +kernel) ?_
  refine V.ist2 (q := 2) dX3_goesFor_1 rfl ?_
  have loop : ∀ i, i ≤ k → ∀ σ1, YA σ1 n (y + i) z l (yrsM n y z l τ i) → Gy σ σ1 → V x RX3 cX3_goesFor 3 2 [some (.ref 43), some (.int (nI k)), some (.int (nI i))] [] σ1 := by
    refine down k (fun i hi ih σ1 hY1 hF1 => ?_)
    refine V.iload_n (q := 3) dX3_goesFor_2 rfl rfl ?_
    refine V.iload_n (q := 4) dX3_goesFor_3 rfl rfl ?_
    refine V.icmpN_ge (t := 17) (q := 7) dX3_goesFor_4 (by decide) rfl (by omega) (by omega) (fun c4 => ?_) (fun c4 => ?_)
    · have ei : i = k := by omega
      subst ei
      exact V.ret_v hB dX3_goesFor_17 ⟨rfl, ⟨hY1, hF1⟩⟩
    · refine V.aload_n (q := 8) dX3_goesFor_7 rfl rfl ?_
      refine V.cvv0 (q := 11) dX3_goesFor_8 rfl kc_X3_127 rfl (by decide) rfl (hB.rm (by decide)) (Nat.le_of_ble_eq_true rfl) (m_goes hY1 (by omega)) (fun τ8 hp8 => ?_)
      obtain ⟨hY2, hF2⟩ := hp8
      refine V.inc2 (q := 14) dX3_goesFor_11 rfl (inc1 _) ?_
      refine V.goto (q := 2) dX3_goesFor_14 (by decide) ?_
      exact ih (by omega) _ hY2 (hF1.tr hF2)
  exact loop 0 (Nat.zero_le _) σ hY Gy.rf

set_option maxHeartbeats 4000000 in
set_option maxRecDepth 100000 in
theorem m_mudOf {σ : Sg} {n y : Nat} {τ : Nat → Nat → Nat} (hS : SA σ 45 n y τ) {k : Nat} (hk : k ≤ n) : Con 2 yX3_mudOf cX3_mudOf 4 (some .int) [.ref 43, .int (nI k)] σ (PI (fun r σ1 => r = nI (sumK (τ 1) k) ∧ σ1 = σ)) := by
  refine Con.of (by decide) (by simp [Value.category]) (Nat.le_of_ble_eq_true rfl) (fun x hB => ?_)
  show V x RX3 cX3_mudOf 4 0 [some (.ref 43), some (.int (nI k)), none, none] [] _
  have hn6 := hS.n6
  have hyb := hS.yb
  refine V.iconst (q := 1) (v := nI 0) dX3_mudOf_0 rfl (by decide +kernel) ?_
  refine V.ist2 (q := 2) dX3_mudOf_1 rfl ?_
  refine V.iconst (q := 3) (v := nI 0) dX3_mudOf_2 rfl (by decide +kernel) ?_
  refine V.ist3 (q := 4) dX3_mudOf_3 rfl ?_
  have loop : ∀ j, j ≤ k → ∀ a, a = sumK (τ 1) j → V x RX3 cX3_mudOf 4 4 [some (.ref 43), some (.int (nI k)), some (.int (nI a)), some (.int (nI j))] [] σ := by
    refine down k (fun j hj ih a ea => ?_)
    refine V.iload_n (q := 5) dX3_mudOf_4 rfl rfl ?_
    refine V.iload_n (q := 6) dX3_mudOf_5 rfl rfl ?_
    refine V.icmpN_ge (t := 24) (q := 9) dX3_mudOf_6 (by decide) rfl (by omega) (by omega) (fun c6 => ?_) (fun c6 => ?_)
    · have ej : j = k := by omega
      subst ej
      refine V.iload_n (q := 25) dX3_mudOf_24 rfl rfl ?_
      exact V.ret_int hB dX3_mudOf_25 rfl ⟨_, rfl, ⟨by rw [ea], rfl⟩⟩
    · refine V.iload_n (q := 10) dX3_mudOf_9 rfl rfl ?_
      refine V.aload_n (q := 11) dX3_mudOf_10 rfl rfl ?_
      refine V.iload_n (q := 12) dX3_mudOf_11 rfl rfl ?_
      refine V.iconst (q := 13) (v := nI 1) dX3_mudOf_12 rfl (by decide +kernel) ?_
      refine V.cvi2 (q := 16) dX3_mudOf_13 rfl kc_X3_109 rfl (by decide) rfl (hB.rm (by decide)) (Nat.le_of_ble_eq_true rfl) (m_get hS (by omega) 1 (by decide)) (fun r13 τ13 hp13 => ?_)
      obtain ⟨rfl, hz⟩ := hp13
      rw [hz]
      refine V.iaddN (q := 17) dX3_mudOf_16 rfl ?_
      refine V.ist2 (q := 18) dX3_mudOf_17 rfl ?_
      refine V.inc3 (q := 21) dX3_mudOf_18 rfl (inc1 _) ?_
      refine V.goto (q := 4) dX3_mudOf_21 (by decide) ?_
      exact ih (by omega) _ (by rw [ea]; rfl)
  exact loop 0 (Nat.zero_le _) 0 rfl

set_option maxHeartbeats 4000000 in
set_option maxRecDepth 100000 in
theorem m_allMud {σ : Sg} {n y : Nat} {τ : Nat → Nat → Nat} (hS : SA σ 45 n y τ) : Con 3 yX3_allMud cX3_allMud 1 (some .int) [.ref 43] σ (PI (fun r σ1 => r = nI (sumK (τ 1) n) ∧ σ1 = σ)) := by
  refine Con.of (by decide) (by simp [Value.category]) (Nat.le_of_ble_eq_true rfl) (fun x hB => ?_)
  show V x RX3 cX3_allMud 1 0 [some (.ref 43)] [] _
  have hn6 := hS.n6
  have hyb := hS.yb
  refine V.aload_n (q := 1) dX3_allMud_0 rfl rfl ?_
  refine V.aload_n (q := 2) dX3_allMud_1 rfl rfl ?_
  refine V.getR (q := 5) dX3_allMud_2 rfl kf_X3_13 rfl (by decide) rfl ?_
  refine V.iconst (q := 6) (v := nI 0) dX3_allMud_5 rfl (by decide +kernel) ?_
  refine V.ialdN (q := 7) dX3_allMud_6 rfl rfl (by decide) (by omega) (by decide) (SA.c hS) ?_
  refine V.cvi1 (q := 10) dX3_allMud_7 rfl kc_X3_130 rfl (by decide) rfl (hB.rm (by decide)) (Nat.le_of_ble_eq_true rfl) (m_mudOf hS (Nat.le_refl n)) (fun r7 τ7 hp7 => ?_)
  obtain ⟨rfl, hz⟩ := hp7
  rw [hz]
  exact V.ret_int hB dX3_allMud_10 rfl ⟨_, rfl, ⟨rfl, rfl⟩⟩

set_option maxHeartbeats 4000000 in
set_option maxRecDepth 100000 in
theorem m_mudBehind {σ : Sg} {n y z l : Nat} {τ : Nat → Nat → Nat} (hY : YA σ n y z l τ) {n0 y0 : Nat} {τ0 : Nat → Nat → Nat} (hM : SA σ 48 n0 y0 τ0) {k : Nat} (hy : y + k < 2 ^ 30) : Con 6 yX3_mudBehind cX3_mudBehind 3 (some .int) [.ref 43, .int (nI k)] σ (PI (fun r σ1 => r = nI (sumK (yrsM n y z l τ k 1) n) ∧ YA σ1 n0 y0 z l τ0 ∧ SA σ1 48 n0 y0 τ0 ∧ Gy σ σ1)) := by
  refine Con.of (by decide) (by simp [Value.category]) (Nat.le_of_ble_eq_true rfl) (fun x hB => ?_)
  show V x RX3 cX3_mudBehind 3 0 [some (.ref 43), some (.int (nI k)), none] [] _
  refine V.aload_n (q := 1) dX3_mudBehind_0 rfl rfl ?_
  refine V.iload_n (q := 2) dX3_mudBehind_1 rfl rfl ?_
  refine V.cvv1 (q := 5) dX3_mudBehind_2 rfl kc_X3_133 rfl (by decide) rfl (hB.rm (by decide)) (Nat.le_of_ble_eq_true rfl) (m_goesFor hY hy) (fun τ2 hp2 => ?_)
  obtain ⟨hY1, hF1⟩ := hp2
  have hM1 := hM.fr (hF1 48 (by decide) (by decide))
  refine V.aload_n (q := 6) dX3_mudBehind_5 rfl rfl ?_
  refine V.cvi0 (q := 9) dX3_mudBehind_6 rfl kc_X3_136 rfl (by decide) rfl (hB.rm (by decide)) (Nat.le_of_ble_eq_true rfl) (m_allMud hY1.s) (fun r6 τ6 hp6 => ?_)
  obtain ⟨rfl, hz⟩ := hp6
  rw [hz]
  refine V.ist2 (q := 10) dX3_mudBehind_9 rfl ?_
  refine V.aload_n (q := 11) dX3_mudBehind_10 rfl rfl ?_
  refine V.cvv0 (q := 14) dX3_mudBehind_11 rfl kc_X3_139 rfl (by decide) rfl (hB.rm (by decide)) (Nat.le_of_ble_eq_true rfl) (m_ends hM1) (fun τ11 hp11 => ?_)
  obtain ⟨hS2, hM2, hF2⟩ := hp11
  have hF3 : Gy σ τ11 := hF1.tr (fun o h5 _ => hF2 o h5)
  refine V.iload_n (q := 15) dX3_mudBehind_14 rfl rfl ?_
  exact V.ret_int hB dX3_mudBehind_15 rfl ⟨_, rfl, ⟨rfl, YA.gy hS2 hY.2 hF3, hM2, hF3⟩⟩

set_option maxHeartbeats 4000000 in
set_option maxRecDepth 100000 in
theorem m_fed {σ : Sg} {n y : Nat} {τ : Nat → Nat → Nat} (hS : SA σ 45 n y τ) {i : Nat} (hi : i < 2 ^ 31) : Con 2 yX3_fed cX3_fed 4 (some .int) [.ref 43, .int (nI i)] σ (PI (fun r σ1 => r = nI (fedK (τ 5) i n) ∧ σ1 = σ)) := by
  refine Con.of (by decide) (by simp [Value.category]) (Nat.le_of_ble_eq_true rfl) (fun x hB => ?_)
  show V x RX3 cX3_fed 4 0 [some (.ref 43), some (.int (nI i)), none, none] [] _
  have hn6 := hS.n6
  have hyb := hS.yb
  refine V.iconst (q := 1) (v := nI 0) dX3_fed_0 rfl (by decide +kernel) ?_
  refine V.ist2 (q := 2) dX3_fed_1 rfl ?_
  refine V.iconst (q := 3) (v := nI 0) dX3_fed_2 rfl (by decide +kernel) ?_
  refine V.ist3 (q := 4) dX3_fed_3 rfl ?_
  have loop : ∀ j, j ≤ n → ∀ a, a = fedK (τ 5) i j → V x RX3 cX3_fed 4 4 [some (.ref 43), some (.int (nI i)), some (.int (nI a)), some (.int (nI j))] [] σ := by
    refine down n (fun j hj ih a ea => ?_)
    refine V.iload_n (q := 5) dX3_fed_4 rfl rfl ?_
    refine V.aload_n (q := 6) dX3_fed_5 rfl rfl ?_
    refine V.getR (q := 9) dX3_fed_6 rfl kf_X3_13 rfl (by decide) rfl ?_
    refine V.iconst (q := 10) (v := nI 0) dX3_fed_9 rfl (by decide +kernel) ?_
    refine V.ialdN (q := 11) dX3_fed_10 rfl rfl (by decide) (by omega) (by decide) (SA.c hS) ?_
    refine V.icmpN_ge (t := 38) (q := 14) dX3_fed_11 (by decide) rfl (by omega) (by omega) (fun c11 => ?_) (fun c11 => ?_)
    · have ej : j = n := by omega
      subst ej
      refine V.iload_n (q := 39) dX3_fed_38 rfl rfl ?_
      exact V.ret_int hB dX3_fed_39 rfl ⟨_, rfl, ⟨by rw [ea], rfl⟩⟩
    · refine V.iload_n (q := 15) dX3_fed_14 rfl rfl ?_
      refine V.aload_n (q := 16) dX3_fed_15 rfl rfl ?_
      refine V.iload_n (q := 17) dX3_fed_16 rfl rfl ?_
      refine V.iconst (q := 18) (v := nI 5) dX3_fed_17 rfl (by decide +kernel) ?_
      refine V.cvi2 (q := 21) dX3_fed_18 rfl kc_X3_109 rfl (by decide) rfl (hB.rm (by decide)) (Nat.le_of_ble_eq_true rfl) (m_get hS (by omega) 5 (by decide)) (fun r18 τ18 hp18 => ?_)
      obtain ⟨rfl, hz⟩ := hp18
      rw [hz]
      refine V.iload_n (q := 22) dX3_fed_21 rfl rfl ?_
      refine V.icmpN_ne (t := 29) (q := 25) dX3_fed_22 (by decide) rfl (by have := (hS.w j c11).2.2.2.2.2.1; omega) hi (fun c22 => ?_) (fun c22 => ?_)
      · refine V.iconst (q := 30) (v := nI 0) dX3_fed_29 rfl (by decide +kernel) ?_
        refine V.iaddN (q := 31) dX3_fed_30 rfl ?_
        refine V.ist2 (q := 32) dX3_fed_31 rfl ?_
        refine V.inc3 (q := 35) dX3_fed_32 rfl (inc1 _) ?_
        refine V.goto (q := 4) dX3_fed_35 (by decide) ?_
        exact ih c11 _ (by rw [ea]; simp [fedK, c22])
      · refine V.iconst (q := 26) (v := nI 1) dX3_fed_25 rfl (by decide +kernel) ?_
        refine V.goto (q := 30) dX3_fed_26 (by decide) ?_
        refine V.iaddN (q := 31) dX3_fed_30 rfl ?_
        refine V.ist2 (q := 32) dX3_fed_31 rfl ?_
        refine V.inc3 (q := 35) dX3_fed_32 rfl (inc1 _) ?_
        refine V.goto (q := 4) dX3_fed_35 (by decide) ?_
        exact ih c11 _ (by rw [ea]; simp [fedK, c22])
  exact loop 0 (Nat.zero_le _) 0 rfl

-- wayOf, isOnRing
set_option maxHeartbeats 4000000 in
set_option maxRecDepth 100000 in
theorem m_wayOf {σ : Sg} {n y : Nat} {τ : Nat → Nat → Nat} (hS : SA σ 45 n y τ) {k o : Nat} (hk : k < n) (ho : o < n) : Con 2 yX3_wayOf cX3_wayOf 5 (some .int) [.ref 43, .int (nI k), .int (nI o)] σ (PI (fun r σ1 => r = oI (-9) (wyK (τ 5) k o) ∧ σ1 = σ)) := by
  refine Con.of (by decide) (by simp [Value.category]) (Nat.le_of_ble_eq_true rfl) (fun x hB => ?_)
  show V x RX3 cX3_wayOf 5 0 [some (.ref 43), some (.int (nI k)), some (.int (nI o)), none, none] [] _
  have hn6 := hS.n6
  have hyb := hS.yb
  have hme : ∀ a, a < n → τ 5 a < n := fun a h9 => (hS.w a h9).2.2.2.2.2.1
  refine V.iload_n (q := 1) dX3_wayOf_0 rfl rfl ?_
  refine V.ist3 (q := 2) dX3_wayOf_1 rfl ?_
  refine V.iconst (q := 3) (v := nI 0) dX3_wayOf_2 rfl (by decide +kernel) ?_
  refine V.ist4 (q := 5) dX3_wayOf_3 rfl ?_
  have loop : ∀ i, i ≤ 7 → ∀ a, a = itr (τ 5) i k → fsK (fun j => decide (itr (τ 5) j k = o)) i = none → V x RX3 cX3_wayOf 5 5 [some (.ref 43), some (.int (nI k)), some (.int (nI o)), some (.int (nI a)), some (.int (nI i))] [] σ := by
    refine down 7 (fun i hi ih a ea hno => ?_)
    have ha : a < n := by rw [ea]; exact itr_lt hme hk i
    have ha2 := hme a ha
    refine V.iload (q := 7) dX3_wayOf_5 rfl rfl ?_
    refine V.bipush (q := 9) (v := nI 6) dX3_wayOf_7 rfl (by decide +kernel) ?_
    refine V.icmpN_gt (t := 33) (q := 12) dX3_wayOf_9 (by decide) rfl (by omega) (by omega) (fun c9 => ?_) (fun c9 => ?_)
    · have ei : i = 7 := by omega
      subst ei
      refine V.bipush (q := 35) (v := (-9)) dX3_wayOf_33 rfl (by decide +kernel) ?_
      exact V.ret_int hB dX3_wayOf_35 rfl ⟨_, rfl, ⟨by unfold wyK; rw [hno]; rfl, rfl⟩⟩
    · refine V.iload_n (q := 13) dX3_wayOf_12 rfl rfl ?_
      refine V.iload_n (q := 14) dX3_wayOf_13 rfl rfl ?_
      refine V.icmpN_ne (t := 20) (q := 17) dX3_wayOf_14 (by decide) rfl (by omega) (by omega) (fun c14 => ?_) (fun c14 => ?_)
      · have hp9 := fsK_n hno (show ¬ decide (itr (τ 5) i k = o) = true by simp [← ea, c14])
        refine V.aload_n (q := 21) dX3_wayOf_20 rfl rfl ?_
        refine V.iload_n (q := 22) dX3_wayOf_21 rfl rfl ?_
        refine V.iconst (q := 23) (v := nI 5) dX3_wayOf_22 rfl (by decide +kernel) ?_
        refine V.cvi2 (q := 26) dX3_wayOf_23 rfl kc_X3_109 rfl (by decide) rfl (hB.rm (by decide)) (Nat.le_of_ble_eq_true rfl) (m_get hS (by omega) 5 (by decide)) (fun r23 τ23 hp23 => ?_)
        obtain ⟨rfl, hz⟩ := hp23
        rw [hz]
        refine V.ist3 (q := 27) dX3_wayOf_26 rfl ?_
        refine V.inc4 (q := 30) dX3_wayOf_27 rfl (inc1 _) ?_
        refine V.goto (q := 5) dX3_wayOf_30 (by decide) ?_
        exact ih (by omega) _ (by rw [ea]; rfl) hp9
      · have hp9 := fsK_y hno (show decide (itr (τ 5) i k = o) = true by simp [← ea, c14])
        refine V.iload (q := 19) dX3_wayOf_17 rfl rfl ?_
        exact V.ret_int hB dX3_wayOf_19 rfl ⟨_, rfl, ⟨by unfold wyK; rw [fsK_up hp9 (show i + 1 ≤ 7 by omega)]; rfl, rfl⟩⟩
  exact loop 0 (Nat.zero_le _) k rfl rfl

set_option maxHeartbeats 4000000 in
set_option maxRecDepth 100000 in
theorem m_isOnRing {σ : Sg} {n y : Nat} {τ : Nat → Nat → Nat} (hS : SA σ 45 n y τ) {i : Nat} (hi : i < n) : Con 3 yX3_isOnRing cX3_isOnRing 2 (some .boolean) [.ref 43, .int (nI i)] σ (PI (fun r σ1 => σ1 = σ ∧ ((r = nI 1 ∧ onR n (τ 5) i) ∨ (r = nI 0 ∧ ¬ onR n (τ 5) i)))) := by
  refine Con.of (by decide) (by simp [Value.category]) (Nat.le_of_ble_eq_true rfl) (fun x hB => ?_)
  show V x RX3 cX3_isOnRing 2 0 [some (.ref 43), some (.int (nI i))] [] _
  have hn6 := hS.n6
  have hyb := hS.yb
  have hme : ∀ a, a < n → τ 5 a < n := fun a h9 => (hS.w a h9).2.2.2.2.2.1
  refine V.aload_n (q := 1) dX3_isOnRing_0 rfl rfl ?_
  refine V.aload_n (q := 2) dX3_isOnRing_1 rfl rfl ?_
  refine V.iload_n (q := 3) dX3_isOnRing_2 rfl rfl ?_
  refine V.iconst (q := 4) (v := nI 5) dX3_isOnRing_3 rfl (by decide +kernel) ?_
  refine V.cvi2 (q := 7) dX3_isOnRing_4 rfl kc_X3_109 rfl (by decide) rfl (hB.rm (by decide)) (Nat.le_of_ble_eq_true rfl) (m_get hS (by omega) 5 (by decide)) (fun r4 τ4 hp4 => ?_)
  obtain ⟨rfl, hz⟩ := hp4
  rw [hz]
  refine V.iload_n (q := 8) dX3_isOnRing_7 rfl rfl ?_
  refine V.cvi2 (q := 11) dX3_isOnRing_8 rfl kc_X3_158 rfl (by decide) rfl (hB.rm (by decide)) (Nat.le_of_ble_eq_true rfl) (m_wayOf hS (hme i hi) hi) (fun r8 τ8 hp8 => ?_)
  obtain ⟨rfl, hz⟩ := hp8
  have hon := onR_wy (me := τ 5) hn6 hme hi
  rw [hz]
  rcases hw9 : wyK (τ 5) (τ 5 i) i with _ | q9
  · skip
    refine V.if_lt (t := 18) (q := 14) dX3_isOnRing_11 (by decide) rfl  (fun c11 => ?_) (fun c11 => absurd c11 (by decide +kernel))
    refine V.iconst (q := 19) (v := nI 0) dX3_isOnRing_18 rfl (by decide +kernel) ?_
    exact V.ret_int hB dX3_isOnRing_19 (by decide +kernel) ⟨_, rfl, ⟨rfl, Or.inr ⟨rfl, fun h9 => (hon.mp h9) hw9⟩⟩⟩
  · have hq9 := (fsK_lt hw9).1
    refine V.if_lt (t := 18) (q := 14) dX3_isOnRing_11 (by decide) rfl  (fun c11 => absurd c11 (nI_pos (by omega))) (fun c11 => ?_)
    refine V.iconst (q := 15) (v := nI 1) dX3_isOnRing_14 rfl (by decide +kernel) ?_
    refine V.goto (q := 19) dX3_isOnRing_15 (by decide) ?_
    exact V.ret_int hB dX3_isOnRing_19 (by decide +kernel) ⟨_, rfl, ⟨rfl, Or.inl ⟨rfl, hon.mpr (by rw [hw9]; simp)⟩⟩⟩

