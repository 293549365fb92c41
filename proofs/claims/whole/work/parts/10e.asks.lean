-- street
set_option maxHeartbeats 4000000 in
set_option maxRecDepth 100000 in
theorem m_street {σ : Sg} {n y : Nat} {τ : Nat → Nat → Nat} {fl n2 y2 : Nat} {τ2 : Nat → Nat → Nat} {m : Nat} {cs : Nat → Nat} {rl : Nat} {ro rc : Nat → Nat} (hX : MR σ n y τ fl n2 y2 τ2 m cs rl ro rc) (v : Int32) (w : Int32) : Con 3 yX3_street cX3_street 3 (some .int) [.ref 43, .int v, .int w] σ (PI (MP σ n y τ fl n2 y2 τ2 m cs rl ro rc (q_street n τ v w))) := by
  refine Con.of (by decide) (by simp [Value.category]) (Nat.le_of_ble_eq_true rfl) (fun x hB => ?_)
  show V x RX3 cX3_street 3 0 [some (.ref 43), some (.int v), some (.int w)] [] _
  have hY := hX.now
  have hS := hY.s
  have hn6 := hS.n6
  have hy9 := hX.y9
  refine V.aload_n (q := 1) dX3_street_0 rfl rfl ?_
  refine V.iload_n (q := 2) dX3_street_1 rfl rfl ?_
  refine V.cvi1 (q := 5) dX3_street_2 rfl kc_X3_142 rfl (by decide) rfl (hB.rm (by decide)) (Nat.le_of_ble_eq_true rfl) (m_isStreet hS v) (fun r2 τ2 hp2 => ?_)
  obtain ⟨hz, ⟨rfl, k, hk, rfl⟩ | ⟨rfl, hsk⟩⟩ := hp2
  · rw [hz]
    refine V.ifN_ne (t := 16) (q := 8) dX3_street_5 (by decide) rfl (by omega) (fun c5 => ?_) (fun c5 => absurd c5 (by decide +kernel))
    refine V.iload_n (q := 17) dX3_street_16 rfl rfl ?_
    refine V.bipush (q := 19) (v := nI 7) dX3_street_17 rfl (by decide +kernel) ?_
    refine V.icmp_ne (t := 30) (q := 22) dX3_street_19 (by decide) rfl  (fun c19 => ?_) (fun c19 => ?_)
    · refine V.iload_n (q := 31) dX3_street_30 rfl rfl ?_
      refine V.bipush (q := 33) (v := nI 7) dX3_street_31 rfl (by decide +kernel) ?_
      refine V.csi2 (q := 36) dX3_street_33 rfl kc_X3_60 (hB.rm (by decide)) (Nat.le_of_ble_eq_true rfl) (m_isIn w 7 (by decide)) (fun r33 τ33 hp33 => ?_)
      obtain ⟨hz, ⟨rfl, j, hj, rfl⟩ | ⟨rfl, hsj⟩⟩ := hp33
      · rw [hz]
        refine V.ifN_eq (t := 48) (q := 39) dX3_street_36 (by decide) rfl (by omega) (fun c36 => absurd c36 (by decide +kernel)) (fun c36 => ?_)
        refine V.aload_n (q := 40) dX3_street_39 rfl rfl ?_
        refine V.iload_n (q := 41) dX3_street_40 rfl rfl ?_
        refine V.iload_n (q := 42) dX3_street_41 rfl rfl ?_
        refine V.cvi2 (q := 45) dX3_street_42 rfl kc_X3_109 rfl (by decide) rfl (hB.rm (by decide)) (Nat.le_of_ble_eq_true rfl) (m_get hS hk j hj) (fun r42 τ42 hp42 => ?_)
        obtain ⟨rfl, hz⟩ := hp42
        rw [hz]
        refine V.goto (q := 54) dX3_street_45 (by decide) ?_
        exact V.ret_int hB dX3_street_54 rfl ⟨_, rfl, MP.yes hX (hY) (Gz.rf) (by simp [q_street, stN_some hk (Nat.le_trans hn6 (by decide)), stN_some hj (by decide)])⟩
      · rw [hz]
        refine V.ifN_eq (t := 48) (q := 39) dX3_street_36 (by decide) rfl (by omega) (fun c36 => ?_) (fun c36 => absurd c36 (by decide +kernel))
        refine V.aload_n (q := 49) dX3_street_48 rfl rfl ?_
        refine V.bipush (q := 51) (v := (-2)) dX3_street_49 rfl (by decide +kernel) ?_
        refine V.cvi1 (q := 54) dX3_street_51 rfl kc_X3_71 rfl (by decide) rfl (hB.rm (by decide)) (Nat.le_of_ble_eq_true rfl) (m_refuse hX (k := 2) (v := -2) (by decide) (by decide) (by decide +kernel)) (fun r51 τ51 hp51 => ?_)
        obtain ⟨rfl, hz⟩ := hp51
        rw [hz]
        exact V.ret_int hB dX3_street_54 rfl ⟨_, rfl, MP.no hX (by simp [q_street, stN_some hk (Nat.le_trans hn6 (by decide)), stN_none hsj, c19]) (by decide) (by decide +kernel)⟩
    · subst c19
      refine V.aload_n (q := 23) dX3_street_22 rfl rfl ?_
      refine V.iload_n (q := 24) dX3_street_23 rfl rfl ?_
      refine V.cvi1 (q := 27) dX3_street_24 rfl kc_X3_145 rfl (by decide) rfl (hB.rm (by decide)) (Nat.le_of_ble_eq_true rfl) (m_fed hS (i := k) (by omega)) (fun r24 τ24 hp24 => ?_)
      obtain ⟨rfl, hz⟩ := hp24
      rw [hz]
      refine V.goto (q := 54) dX3_street_27 (by decide) ?_
      exact V.ret_int hB dX3_street_54 rfl ⟨_, rfl, MP.yes hX (hY) (Gz.rf) (by simp [q_street, stN_some hk (Nat.le_trans hn6 (by decide)), stN_none not7])⟩
  · rw [hz]
    refine V.ifN_ne (t := 16) (q := 8) dX3_street_5 (by decide) rfl (by omega) (fun c5 => absurd c5 (by decide +kernel)) (fun c5 => ?_)
    refine V.aload_n (q := 9) dX3_street_8 rfl rfl ?_
    refine V.iconst (q := 10) (v := (-1)) dX3_street_9 rfl (by decide +kernel) ?_
    refine V.cvi1 (q := 13) dX3_street_10 rfl kc_X3_71 rfl (by decide) rfl (hB.rm (by decide)) (Nat.le_of_ble_eq_true rfl) (m_refuse hX (k := 1) (v := -1) (by decide) (by decide) (by decide +kernel)) (fun r10 τ10 hp10 => ?_)
    obtain ⟨rfl, hz⟩ := hp10
    rw [hz]
    refine V.goto (q := 54) dX3_street_13 (by decide) ?_
    exact V.ret_int hB dX3_street_54 rfl ⟨_, rfl, MP.no hX (by simp [q_street, stN_none hsk]) (by decide) (by decide +kernel)⟩

-- mends
set_option maxHeartbeats 4000000 in
set_option maxRecDepth 100000 in
theorem m_mends {σ : Sg} {n y : Nat} {τ : Nat → Nat → Nat} {fl n2 y2 : Nat} {τ2 : Nat → Nat → Nat} {m : Nat} {cs : Nat → Nat} {rl : Nat} {ro rc : Nat → Nat} (hX : MR σ n y τ fl n2 y2 τ2 m cs rl ro rc) (v : Int32) (w : Int32) : Con 3 yX3_mends cX3_mends 4 (some .int) [.ref 43, .int v, .int w] σ (PI (fun r σ1 => r = rA (q_mends n τ v w) ∧ MR σ1 n y (u_mends n τ v w) fl n2 y2 τ2 m cs rl ro (rU rc (q_mends n τ v w)) ∧ Fm σ σ1)) := by
  refine Con.of (by decide) (by simp [Value.category]) (Nat.le_of_ble_eq_true rfl) (fun x hB => ?_)
  show V x RX3 cX3_mends 4 0 [some (.ref 43), some (.int v), some (.int w), none] [] _
  have hY := hX.now
  have hS := hY.s
  have hn6 := hS.n6
  have hy9 := hX.y9
  refine V.aload_n (q := 1) dX3_mends_0 rfl rfl ?_
  refine V.iload_n (q := 2) dX3_mends_1 rfl rfl ?_
  refine V.cvi1 (q := 5) dX3_mends_2 rfl kc_X3_142 rfl (by decide) rfl (hB.rm (by decide)) (Nat.le_of_ble_eq_true rfl) (m_isStreet hS v) (fun r2 τ2 hp2 => ?_)
  obtain ⟨hz, ⟨rfl, k, hk, rfl⟩ | ⟨rfl, hsk⟩⟩ := hp2
  · rw [hz]
    refine V.ifN_eq (t := 16) (q := 8) dX3_mends_5 (by decide) rfl (by omega) (fun c5 => absurd c5 (by decide +kernel)) (fun c5 => ?_)
    refine V.aload_n (q := 9) dX3_mends_8 rfl rfl ?_
    refine V.iload_n (q := 10) dX3_mends_9 rfl rfl ?_
    refine V.cvi1 (q := 13) dX3_mends_10 rfl kc_X3_142 rfl (by decide) rfl (hB.rm (by decide)) (Nat.le_of_ble_eq_true rfl) (m_isStreet hS w) (fun r10 τ10 hp10 => ?_)
    obtain ⟨hz, ⟨rfl, o, ho, rfl⟩ | ⟨rfl, hso⟩⟩ := hp10
    · rw [hz]
      refine V.ifN_ne (t := 22) (q := 16) dX3_mends_13 (by decide) rfl (by omega) (fun c13 => ?_) (fun c13 => absurd c13 (by decide +kernel))
      refine V.aload_n (q := 23) dX3_mends_22 rfl rfl ?_
      refine V.iload_n (q := 24) dX3_mends_23 rfl rfl ?_
      refine V.iconst (q := 25) (v := nI 5) dX3_mends_24 rfl (by decide +kernel) ?_
      refine V.cvi2 (q := 28) dX3_mends_25 rfl kc_X3_109 rfl (by decide) rfl (hB.rm (by decide)) (Nat.le_of_ble_eq_true rfl) (m_get hS (by omega) 5 (by decide)) (fun r25 τ25 hp25 => ?_)
      obtain ⟨rfl, hz⟩ := hp25
      rw [hz]
      refine V.ist3 (q := 29) dX3_mends_28 rfl ?_
      refine V.aload_n (q := 30) dX3_mends_29 rfl rfl ?_
      refine V.iload_n (q := 31) dX3_mends_30 rfl rfl ?_
      refine V.iconst (q := 32) (v := nI 5) dX3_mends_31 rfl (by decide +kernel) ?_
      refine V.iload_n (q := 33) dX3_mends_32 rfl rfl ?_
      refine V.cvv3 (q := 36) dX3_mends_33 rfl kc_X3_116 rfl (by decide) rfl (hB.rm (by decide)) (Nat.le_of_ble_eq_true rfl) (m_puts (by omega)) (fun τ33 hp33 => ?_)
      subst hp33
      refine V.iload_n (q := 37) dX3_mends_36 rfl rfl ?_
      exact V.ret_int hB dX3_mends_37 rfl ⟨_, rfl, (by
    have hq : q_mends n τ (nI k) (nI o) = (0, nI (τ 5 k)) := by simp [q_mends, stN_some hk (Nat.le_trans hn6 (by decide)), stN_some ho (Nat.le_trans hn6 (by decide))]
    have hu : u_mends n τ (nI k) (nI o) = setF τ 5 (upN (τ 5) k o) := by simp [u_mends, stN_some hk (Nat.le_trans hn6 (by decide)), stN_some ho (Nat.le_trans hn6 (by decide))]
    rw [hq, hu]
    exact ⟨rfl, hX.gz (hY.wr (f := 5) (by decide) hk (by unfold okF; omega)) hy9 (Gz.rf.w (Or.inl rfl)), fun q hq => w2_ne (by omega)⟩)⟩
    · rw [hz]
      refine V.ifN_ne (t := 22) (q := 16) dX3_mends_13 (by decide) rfl (by omega) (fun c13 => absurd c13 (by decide +kernel)) (fun c13 => ?_)
      refine V.aload_n (q := 17) dX3_mends_16 rfl rfl ?_
      refine V.iconst (q := 18) (v := (-1)) dX3_mends_17 rfl (by decide +kernel) ?_
      refine V.cvi1 (q := 21) dX3_mends_18 rfl kc_X3_71 rfl (by decide) rfl (hB.rm (by decide)) (Nat.le_of_ble_eq_true rfl) (m_refuse hX (k := 1) (v := -1) (by decide) (by decide) (by decide +kernel)) (fun r18 τ18 hp18 => ?_)
      obtain ⟨rfl, hz⟩ := hp18
      rw [hz]
      exact V.ret_int hB dX3_mends_21 rfl ⟨_, rfl, (by
    have hq : q_mends n τ (nI k) w = (1, 0) := by simp [q_mends, stN_some hk (Nat.le_trans hn6 (by decide)), stN_none hso]
    have hu : u_mends n τ (nI k) w = τ := by simp [u_mends, stN_some hk (Nat.le_trans hn6 (by decide)), stN_none hso]
    rw [hu]; exact MP.no (v := -1) hX hq (by decide) (by decide +kernel))⟩
  · rw [hz]
    refine V.ifN_eq (t := 16) (q := 8) dX3_mends_5 (by decide) rfl (by omega) (fun c5 => ?_) (fun c5 => absurd c5 (by decide +kernel))
    refine V.aload_n (q := 17) dX3_mends_16 rfl rfl ?_
    refine V.iconst (q := 18) (v := (-1)) dX3_mends_17 rfl (by decide +kernel) ?_
    refine V.cvi1 (q := 21) dX3_mends_18 rfl kc_X3_71 rfl (by decide) rfl (hB.rm (by decide)) (Nat.le_of_ble_eq_true rfl) (m_refuse hX (k := 1) (v := -1) (by decide) (by decide) (by decide +kernel)) (fun r18 τ18 hp18 => ?_)
    obtain ⟨rfl, hz⟩ := hp18
    rw [hz]
    exact V.ret_int hB dX3_mends_21 rfl ⟨_, rfl, (by
    have hq : q_mends n τ v w = (1, 0) := by simp [q_mends, stN_none hsk]
    have hu : u_mends n τ v w = τ := by simp [u_mends, stN_none hsk]
    rw [hu]; exact MP.no (v := -1) hX hq (by decide) (by decide +kernel))⟩

-- becomes
set_option maxHeartbeats 4000000 in
set_option maxRecDepth 100000 in
theorem m_becomes {σ : Sg} {n y : Nat} {τ : Nat → Nat → Nat} {fl n2 y2 : Nat} {τ2 : Nat → Nat → Nat} {m : Nat} {cs : Nat → Nat} {rl : Nat} {ro rc : Nat → Nat} (hX : MR σ n y τ fl n2 y2 τ2 m cs rl ro rc) {f c : Nat} (hf : f < 7) (hc : c < 100) (hok : ∀ (k j : Nat), j ≤ c → okF n f j) (v : Int32) (w : Int32) : Con 3 yX3_becomes cX3_becomes 7 (some .int) [.ref 43, .int v, .int (nI f), .int w, .int (nI c)] σ (PI (fun r σ1 => r = rA (q_put f c n τ v w) ∧ MR σ1 n y (u_put f c n τ v w) fl n2 y2 τ2 m cs rl ro (rU rc (q_put f c n τ v w)) ∧ Fm σ σ1)) := by
  refine Con.of (by decide) (by simp [Value.category]) (Nat.le_of_ble_eq_true rfl) (fun x hB => ?_)
  show V x RX3 cX3_becomes 7 0 [some (.ref 43), some (.int v), some (.int (nI f)), some (.int w), some (.int (nI c)), none, none] [] _
  have hY := hX.now
  have hS := hY.s
  have hn6 := hS.n6
  have hy9 := hX.y9
  refine V.aload_n (q := 1) dX3_becomes_0 rfl rfl ?_
  refine V.iload_n (q := 2) dX3_becomes_1 rfl rfl ?_
  refine V.cvi1 (q := 5) dX3_becomes_2 rfl kc_X3_142 rfl (by decide) rfl (hB.rm (by decide)) (Nat.le_of_ble_eq_true rfl) (m_isStreet hS v) (fun r2 τ2 hp2 => ?_)
  obtain ⟨hz, ⟨rfl, k, hk, rfl⟩ | ⟨rfl, hsk⟩⟩ := hp2
  · rw [hz]
    refine V.ifN_eq (t := 18) (q := 8) dX3_becomes_5 (by decide) rfl (by omega) (fun c5 => absurd c5 (by decide +kernel)) (fun c5 => ?_)
    refine V.iload_n (q := 9) dX3_becomes_8 rfl rfl ?_
    refine V.iconst (q := 10) (v := nI 0) dX3_becomes_9 rfl (by decide +kernel) ?_
    refine V.iload (q := 12) dX3_becomes_10 rfl rfl ?_
    refine V.csi3 (q := 15) dX3_becomes_12 rfl kc_X3_64 (hB.rm (by decide)) (Nat.le_of_ble_eq_true rfl) (m_within w 0 c (Nat.zero_le c) (by omega)) (fun r12 τ12 hp12 => ?_)
    obtain ⟨hz, ⟨hrf, rfl⟩ | ⟨hrf, rfl⟩ | ⟨rfl, j, hj1, hj2, rfl⟩⟩ := hp12
    · rw [hz]
      refine V.goto (q := 19) dX3_becomes_15 (by decide) ?_
      refine V.ist5 (q := 21) dX3_becomes_19 rfl ?_
      refine V.iload (q := 23) dX3_becomes_21 rfl rfl ?_
      refine V.if_eq (t := 33) (q := 26) dX3_becomes_23 (by decide) rfl  (fun c23 => absurd c23 (by decide +kernel)) (fun c23 => ?_)
      refine V.aload_n (q := 27) dX3_becomes_26 rfl rfl ?_
      refine V.iload (q := 29) dX3_becomes_27 rfl rfl ?_
      refine V.cvi1 (q := 32) dX3_becomes_29 rfl kc_X3_71 rfl (by decide) rfl (hB.rm (by decide)) (Nat.le_of_ble_eq_true rfl) (m_refuse hX (k := 4) (v := -4) (by decide) (by decide) (by decide +kernel)) (fun r29 τ29 hp29 => ?_)
      obtain ⟨rfl, hz⟩ := hp29
      rw [hz]
      exact V.ret_int hB dX3_becomes_32 rfl ⟨_, rfl, (by
    have hq : q_put f c n τ (nI k) w = (4, 0) := by simp [q_put, stN_some hk (Nat.le_trans hn6 (by decide)), rfq_4 hrf]
    have hu : u_put f c n τ (nI k) w = τ := by simp [u_put, stN_some hk (Nat.le_trans hn6 (by decide)), hrf]
    rw [hu]; exact MP.no (v := -4) hX hq (by decide) (by decide +kernel))⟩
    · rw [hz]
      refine V.goto (q := 19) dX3_becomes_15 (by decide) ?_
      refine V.ist5 (q := 21) dX3_becomes_19 rfl ?_
      refine V.iload (q := 23) dX3_becomes_21 rfl rfl ?_
      refine V.if_eq (t := 33) (q := 26) dX3_becomes_23 (by decide) rfl  (fun c23 => absurd c23 (by decide +kernel)) (fun c23 => ?_)
      refine V.aload_n (q := 27) dX3_becomes_26 rfl rfl ?_
      refine V.iload (q := 29) dX3_becomes_27 rfl rfl ?_
      refine V.cvi1 (q := 32) dX3_becomes_29 rfl kc_X3_71 rfl (by decide) rfl (hB.rm (by decide)) (Nat.le_of_ble_eq_true rfl) (m_refuse hX (k := 6) (v := -6) (by decide) (by decide) (by decide +kernel)) (fun r29 τ29 hp29 => ?_)
      obtain ⟨rfl, hz⟩ := hp29
      rw [hz]
      exact V.ret_int hB dX3_becomes_32 rfl ⟨_, rfl, (by
    have hq : q_put f c n τ (nI k) w = (6, 0) := by simp [q_put, stN_some hk (Nat.le_trans hn6 (by decide)), rfq_6 hrf]
    have hu : u_put f c n τ (nI k) w = τ := by simp [u_put, stN_some hk (Nat.le_trans hn6 (by decide)), hrf]
    rw [hu]; exact MP.no (v := -6) hX hq (by decide) (by decide +kernel))⟩
    · rw [hz]
      refine V.goto (q := 19) dX3_becomes_15 (by decide) ?_
      refine V.ist5 (q := 21) dX3_becomes_19 rfl ?_
      refine V.iload (q := 23) dX3_becomes_21 rfl rfl ?_
      refine V.ifN_eq (t := 33) (q := 26) dX3_becomes_23 (by decide) rfl (by omega) (fun c23 => ?_) (fun c23 => absurd c23 (by decide +kernel))
      refine V.aload_n (q := 34) dX3_becomes_33 rfl rfl ?_
      refine V.iload_n (q := 35) dX3_becomes_34 rfl rfl ?_
      refine V.iload_n (q := 36) dX3_becomes_35 rfl rfl ?_
      refine V.cvi2 (q := 39) dX3_becomes_36 rfl kc_X3_109 rfl (by decide) rfl (hB.rm (by decide)) (Nat.le_of_ble_eq_true rfl) (m_get hS hk f hf) (fun r36 τ36 hp36 => ?_)
      obtain ⟨rfl, hz⟩ := hp36
      rw [hz]
      refine V.ist6 (q := 41) dX3_becomes_39 rfl ?_
      refine V.aload_n (q := 42) dX3_becomes_41 rfl rfl ?_
      refine V.iload_n (q := 43) dX3_becomes_42 rfl rfl ?_
      refine V.iload_n (q := 44) dX3_becomes_43 rfl rfl ?_
      refine V.iload_n (q := 45) dX3_becomes_44 rfl rfl ?_
      refine V.cvv3 (q := 48) dX3_becomes_45 rfl kc_X3_116 rfl (by decide) rfl (hB.rm (by decide)) (Nat.le_of_ble_eq_true rfl) (m_puts (by omega)) (fun τ45 hp45 => ?_)
      subst hp45
      refine V.iload (q := 50) dX3_becomes_48 rfl rfl ?_
      exact V.ret_int hB dX3_becomes_50 rfl ⟨_, rfl, (by
    have hq : q_put f c n τ (nI k) (nI j) = (0, nI (τ f k)) := by simp [q_put, stN_some hk (Nat.le_trans hn6 (by decide)), rfq_in hj1 hj2 (show c < 2 ^ 20 by omega)]
    have hu : u_put f c n τ (nI k) (nI j) = setF τ f (upN (τ f) k j) := by simp [u_put, stN_some hk (Nat.le_trans hn6 (by decide)), rfN_in hj1 hj2 (show c < 2 ^ 20 by omega), tn_nI (show j < 2 ^ 31 by omega)]
    rw [hq, hu]
    exact ⟨rfl, hX.gz (hY.wr (f := f) hf hk (hok k j hj2)) hy9 (Gz.rf.w (Or.inl rfl)), fun q hq => w2_ne (by omega)⟩)⟩
  · rw [hz]
    refine V.ifN_eq (t := 18) (q := 8) dX3_becomes_5 (by decide) rfl (by omega) (fun c5 => ?_) (fun c5 => absurd c5 (by decide +kernel))
    refine V.iconst (q := 19) (v := (-1)) dX3_becomes_18 rfl (by decide +kernel) ?_
    refine V.ist5 (q := 21) dX3_becomes_19 rfl ?_
    refine V.iload (q := 23) dX3_becomes_21 rfl rfl ?_
    refine V.if_eq (t := 33) (q := 26) dX3_becomes_23 (by decide) rfl  (fun c23 => absurd c23 (by decide +kernel)) (fun c23 => ?_)
    refine V.aload_n (q := 27) dX3_becomes_26 rfl rfl ?_
    refine V.iload (q := 29) dX3_becomes_27 rfl rfl ?_
    refine V.cvi1 (q := 32) dX3_becomes_29 rfl kc_X3_71 rfl (by decide) rfl (hB.rm (by decide)) (Nat.le_of_ble_eq_true rfl) (m_refuse hX (k := 1) (v := -1) (by decide) (by decide) (by decide +kernel)) (fun r29 τ29 hp29 => ?_)
    obtain ⟨rfl, hz⟩ := hp29
    rw [hz]
    exact V.ret_int hB dX3_becomes_32 rfl ⟨_, rfl, (by
    have hq : q_put f c n τ v w = (1, 0) := by simp [q_put, stN_none hsk]
    have hu : u_put f c n τ v w = τ := by simp [u_put, stN_none hsk]
    rw [hu]; exact MP.no (v := -1) hX hq (by decide) (by decide +kernel))⟩

-- pence
set_option maxHeartbeats 4000000 in
set_option maxRecDepth 100000 in
theorem m_pence {σ : Sg} {n y : Nat} {τ : Nat → Nat → Nat} {fl n2 y2 : Nat} {τ2 : Nat → Nat → Nat} {m : Nat} {cs : Nat → Nat} {rl : Nat} {ro rc : Nat → Nat} (hX : MR σ n y τ fl n2 y2 τ2 m cs rl ro rc) (v : Int32) (w : Int32) : Con 4 yX3_pence cX3_pence 3 (some .int) [.ref 43, .int v, .int w] σ (PI (fun r σ1 => r = rA (q_put 4 99 n τ v w) ∧ MR σ1 n y (u_put 4 99 n τ v w) fl n2 y2 τ2 m cs rl ro (rU rc (q_put 4 99 n τ v w)) ∧ Fm σ σ1)) := by
  refine Con.of (by decide) (by simp [Value.category]) (Nat.le_of_ble_eq_true rfl) (fun x hB => ?_)
  show V x RX3 cX3_pence 3 0 [some (.ref 43), some (.int v), some (.int w)] [] _
  have hY := hX.now
  have hS := hY.s
  have hn6 := hS.n6
  have hy9 := hX.y9
  refine V.aload_n (q := 1) dX3_pence_0 rfl rfl ?_
  refine V.iload_n (q := 2) dX3_pence_1 rfl rfl ?_
  refine V.iconst (q := 3) (v := nI 4) dX3_pence_2 rfl (by decide +kernel) ?_
  refine V.iload_n (q := 4) dX3_pence_3 rfl rfl ?_
  refine V.bipush (q := 6) (v := nI 99) dX3_pence_4 rfl (by decide +kernel) ?_
  refine V.cvi4 (q := 9) dX3_pence_6 rfl kc_X3_148 rfl (by decide) rfl (hB.rm (by decide)) (Nat.le_of_ble_eq_true rfl) (m_becomes hX (by decide) (by decide) (fun k j hj => by unfold okF; omega) v w) (fun r6 τ6 hp6 => ?_)
  skip
  exact V.ret_int hB dX3_pence_9 rfl ⟨_, rfl, hp6⟩

-- hands
set_option maxHeartbeats 4000000 in
set_option maxRecDepth 100000 in
theorem m_hands {σ : Sg} {n y : Nat} {τ : Nat → Nat → Nat} {fl n2 y2 : Nat} {τ2 : Nat → Nat → Nat} {m : Nat} {cs : Nat → Nat} {rl : Nat} {ro rc : Nat → Nat} (hX : MR σ n y τ fl n2 y2 τ2 m cs rl ro rc) (v : Int32) (w : Int32) : Con 4 yX3_hands cX3_hands 3 (some .int) [.ref 43, .int v, .int w] σ (PI (fun r σ1 => r = rA (q_put 3 4 n τ v w) ∧ MR σ1 n y (u_put 3 4 n τ v w) fl n2 y2 τ2 m cs rl ro (rU rc (q_put 3 4 n τ v w)) ∧ Fm σ σ1)) := by
  refine Con.of (by decide) (by simp [Value.category]) (Nat.le_of_ble_eq_true rfl) (fun x hB => ?_)
  show V x RX3 cX3_hands 3 0 [some (.ref 43), some (.int v), some (.int w)] [] _
  have hY := hX.now
  have hS := hY.s
  have hn6 := hS.n6
  have hy9 := hX.y9
  refine V.aload_n (q := 1) dX3_hands_0 rfl rfl ?_
  refine V.iload_n (q := 2) dX3_hands_1 rfl rfl ?_
  refine V.iconst (q := 3) (v := nI 3) dX3_hands_2 rfl (by decide +kernel) ?_
  refine V.iload_n (q := 4) dX3_hands_3 rfl rfl ?_
  refine V.iconst (q := 5) (v := nI 4) dX3_hands_4 rfl (by decide +kernel) ?_
  refine V.cvi4 (q := 8) dX3_hands_5 rfl kc_X3_148 rfl (by decide) rfl (hB.rm (by decide)) (Nat.le_of_ble_eq_true rfl) (m_becomes hX (by decide) (by decide) (fun k j hj => by unfold okF; omega) v w) (fun r5 τ5 hp5 => ?_)
  skip
  exact V.ret_int hB dX3_hands_8 rfl ⟨_, rfl, hp5⟩

-- year
set_option maxHeartbeats 4000000 in
set_option maxRecDepth 100000 in
theorem m_year {σ : Sg} {n y : Nat} {τ : Nat → Nat → Nat} {fl n2 y2 : Nat} {τ2 : Nat → Nat → Nat} {m : Nat} {cs : Nat → Nat} {rl : Nat} {ro rc : Nat → Nat} (hX : MR σ n y τ fl n2 y2 τ2 m cs rl ro rc) : Con 5 yX3_year cX3_year 1 (some .int) [.ref 43] σ (PI (fun r σ1 => r = rA (q_year n y τ) ∧ MR σ1 n (if y = 999 then y else y + 1) (if y = 999 then τ else yM n y τ 1) fl n2 y2 τ2 m cs rl ro (rU rc (q_year n y τ)) ∧ Fm σ σ1)) := by
  refine Con.of (by decide) (by simp [Value.category]) (Nat.le_of_ble_eq_true rfl) (fun x hB => ?_)
  show V x RX3 cX3_year 1 0 [some (.ref 43)] [] _
  have hY := hX.now
  have hS := hY.s
  have hn6 := hS.n6
  have hy9 := hX.y9
  refine V.aload_n (q := 1) dX3_year_0 rfl rfl ?_
  refine V.getR (q := 4) dX3_year_1 rfl kf_X3_13 rfl (by decide) rfl ?_
  refine V.iconst (q := 5) (v := nI 1) dX3_year_4 rfl (by decide +kernel) ?_
  refine V.ialdN (q := 6) dX3_year_5 rfl rfl (by decide) (by omega) (by decide) (SA.r hS) ?_
  refine V.sipush (q := 9) (v := nI 999) dX3_year_6 rfl (by decide +kernel) ?_
  refine V.icmpN_ne (t := 19) (q := 12) dX3_year_9 (by decide) rfl (by omega) (by omega) (fun c9 => ?_) (fun c9 => ?_)
  · refine V.aload_n (q := 20) dX3_year_19 rfl rfl ?_
    refine V.cvv0 (q := 23) dX3_year_20 rfl kc_X3_127 rfl (by decide) rfl (hB.rm (by decide)) (Nat.le_of_ble_eq_true rfl) (m_goes hY (by omega)) (fun τ20 hp20 => ?_)
    obtain ⟨hY1, hF1⟩ := hp20
    refine V.aload_n (q := 24) dX3_year_23 rfl rfl ?_
    refine V.cvi0 (q := 27) dX3_year_24 rfl kc_X3_136 rfl (by decide) rfl (hB.rm (by decide)) (Nat.le_of_ble_eq_true rfl) (m_allMud hY1.s) (fun r24 τ24 hp24 => ?_)
    obtain ⟨rfl, hz⟩ := hp24
    rw [hz]
    exact V.ret_int hB dX3_year_27 rfl ⟨_, rfl, (by
    have ey : ¬ y = 999 := by omega
    have hq : q_year n y τ = (0, nI (sumK (yM n y τ 1 1) n)) := by unfold q_year; rw [if_neg ey]
    rw [if_neg ey, if_neg ey, hq]
    exact ⟨rfl, hX.gz hY1 (by omega) (Gz.rf.y hF1), fun o ho => hF1 o (by omega) (by omega)⟩)⟩
  · refine V.aload_n (q := 13) dX3_year_12 rfl rfl ?_
    refine V.bipush (q := 15) (v := (-6)) dX3_year_13 rfl (by decide +kernel) ?_
    refine V.cvi1 (q := 18) dX3_year_15 rfl kc_X3_71 rfl (by decide) rfl (hB.rm (by decide)) (Nat.le_of_ble_eq_true rfl) (m_refuse hX (k := 6) (v := -6) (by decide) (by decide) (by decide +kernel)) (fun r15 τ15 hp15 => ?_)
    obtain ⟨rfl, hz⟩ := hp15
    rw [hz]
    exact V.ret_int hB dX3_year_18 rfl ⟨_, rfl, (by
    have ey : y = 999 := by omega
    have hq : q_year n y τ = (6, 0) := by unfold q_year; rw [if_pos ey]
    obtain ⟨h1, h2, h3⟩ := MP.no (v := -6) hX hq (by decide) (by decide +kernel)
    rw [if_pos ey, if_pos ey]
    exact ⟨h1, h2, h3⟩)⟩

-- mud
set_option maxHeartbeats 4000000 in
set_option maxRecDepth 100000 in
theorem m_mud {σ : Sg} {n y : Nat} {τ : Nat → Nat → Nat} {fl n2 y2 : Nat} {τ2 : Nat → Nat → Nat} {m : Nat} {cs : Nat → Nat} {rl : Nat} {ro rc : Nat → Nat} (hX : MR σ n y τ fl n2 y2 τ2 m cs rl ro rc) (v : Int32) (w : Int32) : Con 6 yX3_mud cX3_mud 5 (some .int) [.ref 43, .int v, .int w] σ (PI (MP σ n y τ fl n2 y2 τ2 m cs rl ro rc (q_mud n y τ v w))) := by
  refine Con.of (by decide) (by simp [Value.category]) (Nat.le_of_ble_eq_true rfl) (fun x hB => ?_)
  show V x RX3 cX3_mud 5 0 [some (.ref 43), some (.int v), some (.int w), none, none] [] _
  have hY := hX.now
  have hS := hY.s
  have hn6 := hS.n6
  have hy9 := hX.y9
  refine V.iload_n (q := 1) dX3_mud_0 rfl rfl ?_
  refine V.iconst (q := 2) (v := (-1)) dX3_mud_1 rfl (by decide +kernel) ?_
  refine V.icmp_eq (t := 13) (q := 5) dX3_mud_2 (by decide) rfl  (fun c2 => ?_) (fun c2 => ?_)
  · subst c2
    refine V.iload_n (q := 14) dX3_mud_13 rfl rfl ?_
    refine V.iconst (q := 15) (v := nI 0) dX3_mud_14 rfl (by decide +kernel) ?_
    refine V.bipush (q := 17) (v := nI 60) dX3_mud_15 rfl (by decide +kernel) ?_
    refine V.csi3 (q := 20) dX3_mud_17 rfl kc_X3_64 (hB.rm (by decide)) (Nat.le_of_ble_eq_true rfl) (m_within w 0 60 (by decide) (by decide)) (fun r17 τ17 hp17 => ?_)
    obtain ⟨hz, ⟨hrf, rfl⟩ | ⟨hrf, rfl⟩ | ⟨rfl, j, hj1, hj2, rfl⟩⟩ := hp17
    · rw [hz]
      refine V.goto (q := 24) dX3_mud_20 (by decide) ?_
      refine V.ist3 (q := 25) dX3_mud_24 rfl ?_
      refine V.iload_n (q := 26) dX3_mud_25 rfl rfl ?_
      refine V.if_eq (t := 35) (q := 29) dX3_mud_26 (by decide) rfl  (fun c26 => absurd c26 (by decide +kernel)) (fun c26 => ?_)
      refine V.aload_n (q := 30) dX3_mud_29 rfl rfl ?_
      refine V.iload_n (q := 31) dX3_mud_30 rfl rfl ?_
      refine V.cvi1 (q := 34) dX3_mud_31 rfl kc_X3_71 rfl (by decide) rfl (hB.rm (by decide)) (Nat.le_of_ble_eq_true rfl) (m_refuse hX (k := 4) (v := -4) (by decide) (by decide) (by decide +kernel)) (fun r31 τ31 hp31 => ?_)
      obtain ⟨rfl, hz⟩ := hp31
      rw [hz]
      exact V.ret_int hB dX3_mud_34 rfl ⟨_, rfl, MP.no hX (by simp [q_mud, rfq_4 hrf]) (by decide) (by decide +kernel)⟩
    · rw [hz]
      refine V.goto (q := 24) dX3_mud_20 (by decide) ?_
      refine V.ist3 (q := 25) dX3_mud_24 rfl ?_
      refine V.iload_n (q := 26) dX3_mud_25 rfl rfl ?_
      refine V.if_eq (t := 35) (q := 29) dX3_mud_26 (by decide) rfl  (fun c26 => absurd c26 (by decide +kernel)) (fun c26 => ?_)
      refine V.aload_n (q := 30) dX3_mud_29 rfl rfl ?_
      refine V.iload_n (q := 31) dX3_mud_30 rfl rfl ?_
      refine V.cvi1 (q := 34) dX3_mud_31 rfl kc_X3_71 rfl (by decide) rfl (hB.rm (by decide)) (Nat.le_of_ble_eq_true rfl) (m_refuse hX (k := 6) (v := -6) (by decide) (by decide) (by decide +kernel)) (fun r31 τ31 hp31 => ?_)
      obtain ⟨rfl, hz⟩ := hp31
      rw [hz]
      exact V.ret_int hB dX3_mud_34 rfl ⟨_, rfl, MP.no hX (by simp [q_mud, rfq_6 hrf]) (by decide) (by decide +kernel)⟩
    · rw [hz]
      refine V.goto (q := 24) dX3_mud_20 (by decide) ?_
      refine V.ist3 (q := 25) dX3_mud_24 rfl ?_
      refine V.iload_n (q := 26) dX3_mud_25 rfl rfl ?_
      refine V.ifN_eq (t := 35) (q := 29) dX3_mud_26 (by decide) rfl (by omega) (fun c26 => ?_) (fun c26 => absurd c26 (by decide +kernel))
      refine V.aload_n (q := 36) dX3_mud_35 rfl rfl ?_
      refine V.cvv0 (q := 39) dX3_mud_36 rfl kc_X3_152 rfl (by decide) rfl (hB.rm (by decide)) (Nat.le_of_ble_eq_true rfl) (m_begins hS) (fun τ36 hp36 => ?_)
      obtain ⟨hM1, hS1, hF1⟩ := hp36
      have hG1 := Gz.rf.c hF1 (by decide)
      have hY1 : YA τ36 n y 6 6 τ := ⟨hS1, by rw [hF1 43 (by decide)]; exact hY.2⟩
      refine V.aload_n (q := 40) dX3_mud_39 rfl rfl ?_
      refine V.iload_n (q := 41) dX3_mud_40 rfl rfl ?_
      refine V.cvv1 (q := 44) dX3_mud_41 rfl kc_X3_133 rfl (by decide) rfl (hB.rm (by decide)) (Nat.le_of_ble_eq_true rfl) (m_goesFor hY1 (k := j) (by omega)) (fun τ41 hp41 => ?_)
      obtain ⟨hY2, hF2⟩ := hp41
      have hM2 := hM1.fr (hF2 48 (by decide) (by decide))
      have hG2 := hG1.y hF2
      have hS2 := hY2.s
      refine V.iload_n (q := 45) dX3_mud_44 rfl rfl ?_
      refine V.if_ge (t := 55) (q := 48) dX3_mud_45 (by decide) rfl  (fun c45 => absurd c45 (by decide +kernel)) (fun c45 => ?_)
      refine V.aload_n (q := 49) dX3_mud_48 rfl rfl ?_
      refine V.cvi0 (q := 52) dX3_mud_49 rfl kc_X3_136 rfl (by decide) rfl (hB.rm (by decide)) (Nat.le_of_ble_eq_true rfl) (m_allMud hS2) (fun r49 τ49 hp49 => ?_)
      obtain ⟨rfl, hz⟩ := hp49
      rw [hz]
      refine V.goto (q := 61) dX3_mud_52 (by decide) ?_
      refine V.ist4 (q := 63) dX3_mud_61 rfl ?_
      refine V.aload_n (q := 64) dX3_mud_63 rfl rfl ?_
      refine V.cvv0 (q := 67) dX3_mud_64 rfl kc_X3_139 rfl (by decide) rfl (hB.rm (by decide)) (Nat.le_of_ble_eq_true rfl) (m_ends hM2) (fun τ64 hp64 => ?_)
      obtain ⟨hS3, hM3, hF3⟩ := hp64
      have hY3 : YA τ64 n y 6 6 τ := ⟨hS3, by rw [hF3 43 (by decide)]; exact hY2.2⟩
      have hG3 := hG2.c hF3 (by decide)
      refine V.iload (q := 69) dX3_mud_67 rfl rfl ?_
      exact V.ret_int hB dX3_mud_69 rfl ⟨_, rfl, MP.yes hX (hY3) (hG3) (by simp [q_mud, rfq_in hj1 hj2 (show 60 < 2 ^ 20 by decide), tn_nI (show j < 2 ^ 31 by omega)]; rfl)⟩
  · refine V.aload_n (q := 6) dX3_mud_5 rfl rfl ?_
    refine V.iload_n (q := 7) dX3_mud_6 rfl rfl ?_
    refine V.cvi1 (q := 10) dX3_mud_7 rfl kc_X3_142 rfl (by decide) rfl (hB.rm (by decide)) (Nat.le_of_ble_eq_true rfl) (m_isStreet hS v) (fun r7 τ7 hp7 => ?_)
    obtain ⟨hz, ⟨rfl, k, hk, rfl⟩ | ⟨rfl, hsk⟩⟩ := hp7
    · rw [hz]
      refine V.ifN_eq (t := 23) (q := 13) dX3_mud_10 (by decide) rfl (by omega) (fun c10 => absurd c10 (by decide +kernel)) (fun c10 => ?_)
      refine V.iload_n (q := 14) dX3_mud_13 rfl rfl ?_
      refine V.iconst (q := 15) (v := nI 0) dX3_mud_14 rfl (by decide +kernel) ?_
      refine V.bipush (q := 17) (v := nI 60) dX3_mud_15 rfl (by decide +kernel) ?_
      refine V.csi3 (q := 20) dX3_mud_17 rfl kc_X3_64 (hB.rm (by decide)) (Nat.le_of_ble_eq_true rfl) (m_within w 0 60 (by decide) (by decide)) (fun r17 τ17 hp17 => ?_)
      obtain ⟨hz, ⟨hrf, rfl⟩ | ⟨hrf, rfl⟩ | ⟨rfl, j, hj1, hj2, rfl⟩⟩ := hp17
      · rw [hz]
        refine V.goto (q := 24) dX3_mud_20 (by decide) ?_
        refine V.ist3 (q := 25) dX3_mud_24 rfl ?_
        refine V.iload_n (q := 26) dX3_mud_25 rfl rfl ?_
        refine V.if_eq (t := 35) (q := 29) dX3_mud_26 (by decide) rfl  (fun c26 => absurd c26 (by decide +kernel)) (fun c26 => ?_)
        refine V.aload_n (q := 30) dX3_mud_29 rfl rfl ?_
        refine V.iload_n (q := 31) dX3_mud_30 rfl rfl ?_
        refine V.cvi1 (q := 34) dX3_mud_31 rfl kc_X3_71 rfl (by decide) rfl (hB.rm (by decide)) (Nat.le_of_ble_eq_true rfl) (m_refuse hX (k := 4) (v := -4) (by decide) (by decide) (by decide +kernel)) (fun r31 τ31 hp31 => ?_)
        obtain ⟨rfl, hz⟩ := hp31
        rw [hz]
        exact V.ret_int hB dX3_mud_34 rfl ⟨_, rfl, MP.no hX (by simp [q_mud, nI_m1 (show k < 2 ^ 31 by omega), stN_some hk (Nat.le_trans hn6 (by decide)), rfq_4 hrf]) (by decide) (by decide +kernel)⟩
      · rw [hz]
        refine V.goto (q := 24) dX3_mud_20 (by decide) ?_
        refine V.ist3 (q := 25) dX3_mud_24 rfl ?_
        refine V.iload_n (q := 26) dX3_mud_25 rfl rfl ?_
        refine V.if_eq (t := 35) (q := 29) dX3_mud_26 (by decide) rfl  (fun c26 => absurd c26 (by decide +kernel)) (fun c26 => ?_)
        refine V.aload_n (q := 30) dX3_mud_29 rfl rfl ?_
        refine V.iload_n (q := 31) dX3_mud_30 rfl rfl ?_
        refine V.cvi1 (q := 34) dX3_mud_31 rfl kc_X3_71 rfl (by decide) rfl (hB.rm (by decide)) (Nat.le_of_ble_eq_true rfl) (m_refuse hX (k := 6) (v := -6) (by decide) (by decide) (by decide +kernel)) (fun r31 τ31 hp31 => ?_)
        obtain ⟨rfl, hz⟩ := hp31
        rw [hz]
        exact V.ret_int hB dX3_mud_34 rfl ⟨_, rfl, MP.no hX (by simp [q_mud, nI_m1 (show k < 2 ^ 31 by omega), stN_some hk (Nat.le_trans hn6 (by decide)), rfq_6 hrf]) (by decide) (by decide +kernel)⟩
      · rw [hz]
        refine V.goto (q := 24) dX3_mud_20 (by decide) ?_
        refine V.ist3 (q := 25) dX3_mud_24 rfl ?_
        refine V.iload_n (q := 26) dX3_mud_25 rfl rfl ?_
        refine V.ifN_eq (t := 35) (q := 29) dX3_mud_26 (by decide) rfl (by omega) (fun c26 => ?_) (fun c26 => absurd c26 (by decide +kernel))
        refine V.aload_n (q := 36) dX3_mud_35 rfl rfl ?_
        refine V.cvv0 (q := 39) dX3_mud_36 rfl kc_X3_152 rfl (by decide) rfl (hB.rm (by decide)) (Nat.le_of_ble_eq_true rfl) (m_begins hS) (fun τ36 hp36 => ?_)
        obtain ⟨hM1, hS1, hF1⟩ := hp36
        have hG1 := Gz.rf.c hF1 (by decide)
        have hY1 : YA τ36 n y 6 6 τ := ⟨hS1, by rw [hF1 43 (by decide)]; exact hY.2⟩
        refine V.aload_n (q := 40) dX3_mud_39 rfl rfl ?_
        refine V.iload_n (q := 41) dX3_mud_40 rfl rfl ?_
        refine V.cvv1 (q := 44) dX3_mud_41 rfl kc_X3_133 rfl (by decide) rfl (hB.rm (by decide)) (Nat.le_of_ble_eq_true rfl) (m_goesFor hY1 (k := j) (by omega)) (fun τ41 hp41 => ?_)
        obtain ⟨hY2, hF2⟩ := hp41
        have hM2 := hM1.fr (hF2 48 (by decide) (by decide))
        have hG2 := hG1.y hF2
        have hS2 := hY2.s
        refine V.iload_n (q := 45) dX3_mud_44 rfl rfl ?_
        refine V.ifN_ge (t := 55) (q := 48) dX3_mud_45 (by decide) rfl (by omega) (fun c45 => ?_) (fun c45 => absurd c45 (by omega))
        refine V.aload_n (q := 56) dX3_mud_55 rfl rfl ?_
        refine V.iload_n (q := 57) dX3_mud_56 rfl rfl ?_
        refine V.iconst (q := 58) (v := nI 1) dX3_mud_57 rfl (by decide +kernel) ?_
        refine V.cvi2 (q := 61) dX3_mud_58 rfl kc_X3_109 rfl (by decide) rfl (hB.rm (by decide)) (Nat.le_of_ble_eq_true rfl) (m_get hS2 hk 1 (by decide)) (fun r58 τ58 hp58 => ?_)
        obtain ⟨rfl, hz⟩ := hp58
        rw [hz]
        refine V.ist4 (q := 63) dX3_mud_61 rfl ?_
        refine V.aload_n (q := 64) dX3_mud_63 rfl rfl ?_
        refine V.cvv0 (q := 67) dX3_mud_64 rfl kc_X3_139 rfl (by decide) rfl (hB.rm (by decide)) (Nat.le_of_ble_eq_true rfl) (m_ends hM2) (fun τ64 hp64 => ?_)
        obtain ⟨hS3, hM3, hF3⟩ := hp64
        have hY3 : YA τ64 n y 6 6 τ := ⟨hS3, by rw [hF3 43 (by decide)]; exact hY2.2⟩
        have hG3 := hG2.c hF3 (by decide)
        refine V.iload (q := 69) dX3_mud_67 rfl rfl ?_
        exact V.ret_int hB dX3_mud_69 rfl ⟨_, rfl, MP.yes hX (hY3) (hG3) (by simp [q_mud, nI_m1 (show k < 2 ^ 31 by omega), stN_some hk (Nat.le_trans hn6 (by decide)), rfq_in hj1 hj2 (show 60 < 2 ^ 20 by decide), tn_nI (show j < 2 ^ 31 by omega)]; rfl)⟩
    · rw [hz]
      refine V.ifN_eq (t := 23) (q := 13) dX3_mud_10 (by decide) rfl (by omega) (fun c10 => ?_) (fun c10 => absurd c10 (by decide +kernel))
      refine V.iconst (q := 24) (v := (-1)) dX3_mud_23 rfl (by decide +kernel) ?_
      refine V.ist3 (q := 25) dX3_mud_24 rfl ?_
      refine V.iload_n (q := 26) dX3_mud_25 rfl rfl ?_
      refine V.if_eq (t := 35) (q := 29) dX3_mud_26 (by decide) rfl  (fun c26 => absurd c26 (by decide +kernel)) (fun c26 => ?_)
      refine V.aload_n (q := 30) dX3_mud_29 rfl rfl ?_
      refine V.iload_n (q := 31) dX3_mud_30 rfl rfl ?_
      refine V.cvi1 (q := 34) dX3_mud_31 rfl kc_X3_71 rfl (by decide) rfl (hB.rm (by decide)) (Nat.le_of_ble_eq_true rfl) (m_refuse hX (k := 1) (v := -1) (by decide) (by decide) (by decide +kernel)) (fun r31 τ31 hp31 => ?_)
      obtain ⟨rfl, hz⟩ := hp31
      rw [hz]
      exact V.ret_int hB dX3_mud_34 rfl ⟨_, rfl, MP.no hX (by simp [q_mud, c2, stN_none hsk]) (by decide) (by decide +kernel)⟩

-- worst
set_option maxHeartbeats 4000000 in
set_option maxRecDepth 100000 in
theorem m_worst {σ : Sg} {n y : Nat} {τ : Nat → Nat → Nat} {fl n2 y2 : Nat} {τ2 : Nat → Nat → Nat} {m : Nat} {cs : Nat → Nat} {rl : Nat} {ro rc : Nat → Nat} (hX : MR σ n y τ fl n2 y2 τ2 m cs rl ro rc) (v : Int32) (w : Int32) : Con 6 yX3_worst cX3_worst 7 (some .int) [.ref 43, .int v, .int w] σ (PI (MP σ n y τ fl n2 y2 τ2 m cs rl ro rc (q_worst n y τ v w))) := by
  refine Con.of (by decide) (by simp [Value.category]) (Nat.le_of_ble_eq_true rfl) (fun x hB => ?_)
  show V x RX3 cX3_worst 7 0 [some (.ref 43), some (.int v), some (.int w), none, none, none, none] [] _
  have hY := hX.now
  have hS := hY.s
  have hn6 := hS.n6
  have hy9 := hX.y9
  refine V.iload_n (q := 1) dX3_worst_0 rfl rfl ?_
  refine V.iconst (q := 2) (v := nI 0) dX3_worst_1 rfl (by decide +kernel) ?_
  refine V.bipush (q := 4) (v := nI 60) dX3_worst_2 rfl (by decide +kernel) ?_
  refine V.csi3 (q := 7) dX3_worst_4 rfl kc_X3_64 (hB.rm (by decide)) (Nat.le_of_ble_eq_true rfl) (m_within v 0 60 (by decide) (by decide)) (fun r4 τ4 hp4 => ?_)
  obtain ⟨hz, ⟨hrf, rfl⟩ | ⟨hrf, rfl⟩ | ⟨rfl, j, hj1, hj2, rfl⟩⟩ := hp4
  · rw [hz]
    refine V.ist3 (q := 8) dX3_worst_7 rfl ?_
    refine V.iload_n (q := 9) dX3_worst_8 rfl rfl ?_
    refine V.if_ne (t := 23) (q := 12) dX3_worst_9 (by decide) rfl  (fun c9 => ?_) (fun c9 => absurd c9 (by decide +kernel))
    refine V.iload_n (q := 24) dX3_worst_23 rfl rfl ?_
    refine V.if_eq (t := 33) (q := 27) dX3_worst_24 (by decide) rfl  (fun c24 => absurd c24 (by decide +kernel)) (fun c24 => ?_)
    refine V.aload_n (q := 28) dX3_worst_27 rfl rfl ?_
    refine V.iload_n (q := 29) dX3_worst_28 rfl rfl ?_
    refine V.cvi1 (q := 32) dX3_worst_29 rfl kc_X3_71 rfl (by decide) rfl (hB.rm (by decide)) (Nat.le_of_ble_eq_true rfl) (m_refuse hX (k := 4) (v := -4) (by decide) (by decide) (by decide +kernel)) (fun r29 τ29 hp29 => ?_)
    obtain ⟨rfl, hz⟩ := hp29
    rw [hz]
    exact V.ret_int hB dX3_worst_32 rfl ⟨_, rfl, MP.no hX (by simp [q_worst, hrf]) (by decide) (by decide +kernel)⟩
  · rw [hz]
    refine V.ist3 (q := 8) dX3_worst_7 rfl ?_
    refine V.iload_n (q := 9) dX3_worst_8 rfl rfl ?_
    refine V.if_ne (t := 23) (q := 12) dX3_worst_9 (by decide) rfl  (fun c9 => ?_) (fun c9 => absurd c9 (by decide +kernel))
    refine V.iload_n (q := 24) dX3_worst_23 rfl rfl ?_
    refine V.if_eq (t := 33) (q := 27) dX3_worst_24 (by decide) rfl  (fun c24 => absurd c24 (by decide +kernel)) (fun c24 => ?_)
    refine V.aload_n (q := 28) dX3_worst_27 rfl rfl ?_
    refine V.iload_n (q := 29) dX3_worst_28 rfl rfl ?_
    refine V.cvi1 (q := 32) dX3_worst_29 rfl kc_X3_71 rfl (by decide) rfl (hB.rm (by decide)) (Nat.le_of_ble_eq_true rfl) (m_refuse hX (k := 6) (v := -6) (by decide) (by decide) (by decide +kernel)) (fun r29 τ29 hp29 => ?_)
    obtain ⟨rfl, hz⟩ := hp29
    rw [hz]
    exact V.ret_int hB dX3_worst_32 rfl ⟨_, rfl, MP.no hX (by simp [q_worst, hrf]) (by decide) (by decide +kernel)⟩
  · rw [hz]
    refine V.ist3 (q := 8) dX3_worst_7 rfl ?_
    refine V.iload_n (q := 9) dX3_worst_8 rfl rfl ?_
    refine V.ifN_ne (t := 23) (q := 12) dX3_worst_9 (by decide) rfl (by omega) (fun c9 => absurd c9 (by decide +kernel)) (fun c9 => ?_)
    refine V.iload_n (q := 13) dX3_worst_12 rfl rfl ?_
    refine V.iconst (q := 14) (v := nI 2) dX3_worst_13 rfl (by decide +kernel) ?_
    refine V.csi2 (q := 17) dX3_worst_14 rfl kc_X3_60 (hB.rm (by decide)) (Nat.le_of_ble_eq_true rfl) (m_isIn w 2 (by decide)) (fun r14 τ14 hp14 => ?_)
    obtain ⟨hz, ⟨rfl, o, ho, rfl⟩ | ⟨rfl, hso⟩⟩ := hp14
    · rw [hz]
      refine V.ifN_ne (t := 23) (q := 20) dX3_worst_17 (by decide) rfl (by omega) (fun c17 => ?_) (fun c17 => absurd c17 (by decide +kernel))
      refine V.iload_n (q := 24) dX3_worst_23 rfl rfl ?_
      refine V.ifN_eq (t := 33) (q := 27) dX3_worst_24 (by decide) rfl (by omega) (fun c24 => ?_) (fun c24 => absurd c24 (by decide +kernel))
      refine V.aload_n (q := 34) dX3_worst_33 rfl rfl ?_
      refine V.cvv0 (q := 37) dX3_worst_34 rfl kc_X3_152 rfl (by decide) rfl (hB.rm (by decide)) (Nat.le_of_ble_eq_true rfl) (m_begins hS) (fun τ34 hp34 => ?_)
      obtain ⟨hM1, hS1, hF1⟩ := hp34
      have hG1 := Gz.rf.c hF1 (by decide)
      have hY1 : YA τ34 n y 6 6 τ := ⟨hS1, by rw [hF1 43 (by decide)]; exact hY.2⟩
      refine V.aload_n (q := 38) dX3_worst_37 rfl rfl ?_
      refine V.iload_n (q := 39) dX3_worst_38 rfl rfl ?_
      refine V.cvv1 (q := 42) dX3_worst_39 rfl kc_X3_133 rfl (by decide) rfl (hB.rm (by decide)) (Nat.le_of_ble_eq_true rfl) (m_goesFor hY1 (k := j) (by omega)) (fun τ39 hp39 => ?_)
      obtain ⟨hY2, hF2⟩ := hp39
      have hM2 := hM1.fr (hF2 48 (by decide) (by decide))
      have hG2 := hG1.y hF2
      have hS2 := hY2.s
      refine V.bipush (q := 44) (v := (-9)) dX3_worst_42 rfl (by decide +kernel) ?_
      refine V.ist4 (q := 46) dX3_worst_44 rfl ?_
      refine V.iconst (q := 47) (v := nI 0) dX3_worst_46 rfl (by decide +kernel) ?_
      refine V.ist5 (q := 49) dX3_worst_47 rfl ?_
      refine V.iconst (q := 50) (v := nI 0) dX3_worst_49 rfl (by decide +kernel) ?_
      refine V.ist6 (q := 52) dX3_worst_50 rfl ?_
      have loop : ∀ i, i ≤ n → ∀ (b : Int32) (q : Nat), ((i = 0 ∧ b = -9 ∧ q = 0) ∨ (0 < i ∧ b = nI (mxK (yrsM n y 6 6 τ j 1) i) ∧ q = yrsM n y 6 6 τ j 1 (mxK (yrsM n y 6 6 τ j 1) i))) → V x RX3 cX3_worst 7 52 [some (.ref 43), some (.int (nI j)), some (.int (nI o)), none, some (.int b), some (.int (nI q)), some (.int (nI i))] [] τ39 := by
        refine down n (fun i hi ih b q hv => ?_)
        refine V.iload (q := 54) dX3_worst_52 rfl rfl ?_
        refine V.aload_n (q := 55) dX3_worst_54 rfl rfl ?_
        refine V.getR (q := 58) dX3_worst_55 rfl kf_X3_13 rfl (by decide) rfl ?_
        refine V.iconst (q := 59) (v := nI 0) dX3_worst_58 rfl (by decide +kernel) ?_
        refine V.ialdN (q := 60) dX3_worst_59 rfl rfl (by decide) (by omega) (by decide) (SA.c hS2) ?_
        refine V.icmpN_ge (t := 102) (q := 63) dX3_worst_60 (by decide) rfl (by omega) (by omega) (fun c60 => ?_) (fun c60 => ?_)
        · have ei : n = i := by omega
          subst ei
          refine V.aload_n (q := 103) dX3_worst_102 rfl rfl ?_
          refine V.cvv0 (q := 106) dX3_worst_103 rfl kc_X3_139 rfl (by decide) rfl (hB.rm (by decide)) (Nat.le_of_ble_eq_true rfl) (m_ends hM2) (fun τ103 hp103 => ?_)
          obtain ⟨hS3, hM3, hF3⟩ := hp103
          have hY3 : YA τ103 n y 6 6 τ := ⟨hS3, by rw [hF3 43 (by decide)]; exact hY2.2⟩
          have hG3 := hG2.c hF3 (by decide)
          refine V.iload_n (q := 107) dX3_worst_106 rfl rfl ?_
          refine V.ifN_ne (t := 115) (q := 110) dX3_worst_107 (by decide) rfl (by omega) (fun c107 => ?_) (fun c107 => ?_)
          · have eo : o = 1 := by omega
            subst eo
            refine V.iload (q := 117) dX3_worst_115 rfl rfl ?_
            exact V.ret_int hB dX3_worst_117 rfl ⟨_, rfl, MP.yes hX (hY3) (hG3) (by
      rcases hv with ⟨ei, rfl, rfl⟩ | ⟨ei, rfl, rfl⟩
      · unfold q_worst; rw [if_pos (rfN_in hj1 hj2 (by decide)), if_neg (by decide +kernel), if_pos rfl, if_pos ei]
      · simp [q_worst, rfN_in hj1 hj2 (show 60 < 2 ^ 20 by decide), tn_nI (show j < 2 ^ 31 by omega), show ¬ n = 0 by omega]; rfl)⟩
          · have eo : o = 0 := by omega
            subst eo
            refine V.iload (q := 112) dX3_worst_110 rfl rfl ?_
            refine V.goto (q := 117) dX3_worst_112 (by decide) ?_
            exact V.ret_int hB dX3_worst_117 rfl ⟨_, rfl, MP.yes hX (hY3) (hG3) (by
      rcases hv with ⟨ei, rfl, rfl⟩ | ⟨ei, rfl, rfl⟩
      · simp [q_worst, rfN_in hj1 hj2 (show 60 < 2 ^ 20 by decide), tn_nI (show j < 2 ^ 31 by omega), ei, nI_0]
      · simp [q_worst, rfN_in hj1 hj2 (show 60 < 2 ^ 20 by decide), tn_nI (show j < 2 ^ 31 by omega), nI_0, show ¬ n = 0 by omega]; rfl)⟩
        · have hw2 := (hS2.w i (by omega)).2.1
          rcases hv with ⟨ei, rfl, rfl⟩ | ⟨ei, rfl, rfl⟩
          · skip
            refine V.iload (q := 65) dX3_worst_63 rfl rfl ?_
            refine V.if_lt (t := 83) (q := 68) dX3_worst_65 (by decide) rfl  (fun c65 => ?_) (fun c65 => absurd c65 (by decide +kernel))
            refine V.iload (q := 85) dX3_worst_83 rfl rfl ?_
            refine V.ist4 (q := 87) dX3_worst_85 rfl ?_
            refine V.aload_n (q := 88) dX3_worst_87 rfl rfl ?_
            refine V.iload (q := 90) dX3_worst_88 rfl rfl ?_
            refine V.iconst (q := 91) (v := nI 1) dX3_worst_90 rfl (by decide +kernel) ?_
            refine V.cvi2 (q := 94) dX3_worst_91 rfl kc_X3_109 rfl (by decide) rfl (hB.rm (by decide)) (Nat.le_of_ble_eq_true rfl) (m_get hS2 (by omega) 1 (by decide)) (fun r91 τ91 hp91 => ?_)
            obtain ⟨rfl, hz⟩ := hp91
            rw [hz]
            refine V.ist5 (q := 96) dX3_worst_94 rfl ?_
            refine V.inc6 (q := 99) dX3_worst_96 rfl (inc1 _) ?_
            refine V.goto (q := 52) dX3_worst_99 (by decide) ?_
            exact ih c60 _ _ (Or.inr ⟨by omega, by subst ei; simp [mxK], by subst ei; simp [mxK]⟩)
          · have hm9 := mxK_lt (g := yrsM n y 6 6 τ j 1) ei
            have hw3 := (hS2.w _ (Nat.lt_trans hm9 c60)).2.1
            refine V.iload (q := 65) dX3_worst_63 rfl rfl ?_
            refine V.ifN_lt (t := 83) (q := 68) dX3_worst_65 (by decide) rfl (by omega) (fun c65 => absurd c65 (by omega)) (fun c65 => ?_)
            refine V.aload_n (q := 69) dX3_worst_68 rfl rfl ?_
            refine V.iload (q := 71) dX3_worst_69 rfl rfl ?_
            refine V.iconst (q := 72) (v := nI 1) dX3_worst_71 rfl (by decide +kernel) ?_
            refine V.cvi2 (q := 75) dX3_worst_72 rfl kc_X3_109 rfl (by decide) rfl (hB.rm (by decide)) (Nat.le_of_ble_eq_true rfl) (m_get hS2 (by omega) 1 (by decide)) (fun r72 τ72 hp72 => ?_)
            obtain ⟨rfl, hz⟩ := hp72
            rw [hz]
            refine V.iload (q := 77) dX3_worst_75 rfl rfl ?_
            refine V.icmpN_gt (t := 83) (q := 80) dX3_worst_77 (by decide) rfl (by omega) (by omega) (fun c77 => ?_) (fun c77 => ?_)
            · refine V.iload (q := 85) dX3_worst_83 rfl rfl ?_
              refine V.ist4 (q := 87) dX3_worst_85 rfl ?_
              refine V.aload_n (q := 88) dX3_worst_87 rfl rfl ?_
              refine V.iload (q := 90) dX3_worst_88 rfl rfl ?_
              refine V.iconst (q := 91) (v := nI 1) dX3_worst_90 rfl (by decide +kernel) ?_
              refine V.cvi2 (q := 94) dX3_worst_91 rfl kc_X3_109 rfl (by decide) rfl (hB.rm (by decide)) (Nat.le_of_ble_eq_true rfl) (m_get hS2 (by omega) 1 (by decide)) (fun r91 τ91 hp91 => ?_)
              obtain ⟨rfl, hz⟩ := hp91
              rw [hz]
              refine V.ist5 (q := 96) dX3_worst_94 rfl ?_
              refine V.inc6 (q := 99) dX3_worst_96 rfl (inc1 _) ?_
              refine V.goto (q := 52) dX3_worst_99 (by decide) ?_
              exact ih c60 _ _ (Or.inr ⟨by omega, by simp [mxK, c77], by simp [mxK, c77]⟩)
            · refine V.goto (q := 96) dX3_worst_80 (by decide) ?_
              refine V.inc6 (q := 99) dX3_worst_96 rfl (inc1 _) ?_
              refine V.goto (q := 52) dX3_worst_99 (by decide) ?_
              exact ih c60 _ _ (Or.inr ⟨by omega, by simp [mxK, Nat.not_lt.mpr c77], by simp [mxK, Nat.not_lt.mpr c77]⟩)
      refine V.fg3 ?_
      exact loop 0 (Nat.zero_le _) _ 0 (Or.inl ⟨rfl, rfl, rfl⟩)
    · rw [hz]
      refine V.ifN_ne (t := 23) (q := 20) dX3_worst_17 (by decide) rfl (by omega) (fun c17 => absurd c17 (by decide +kernel)) (fun c17 => ?_)
      refine V.bipush (q := 22) (v := (-2)) dX3_worst_20 rfl (by decide +kernel) ?_
      refine V.ist3 (q := 23) dX3_worst_22 rfl ?_
      refine V.iload_n (q := 24) dX3_worst_23 rfl rfl ?_
      refine V.if_eq (t := 33) (q := 27) dX3_worst_24 (by decide) rfl  (fun c24 => absurd c24 (by decide +kernel)) (fun c24 => ?_)
      refine V.aload_n (q := 28) dX3_worst_27 rfl rfl ?_
      refine V.iload_n (q := 29) dX3_worst_28 rfl rfl ?_
      refine V.cvi1 (q := 32) dX3_worst_29 rfl kc_X3_71 rfl (by decide) rfl (hB.rm (by decide)) (Nat.le_of_ble_eq_true rfl) (m_refuse hX (k := 2) (v := -2) (by decide) (by decide) (by decide +kernel)) (fun r29 τ29 hp29 => ?_)
      obtain ⟨rfl, hz⟩ := hp29
      rw [hz]
      exact V.ret_int hB dX3_worst_32 rfl ⟨_, rfl, MP.no hX (by simp [q_worst, rfN_in hj1 hj2 (show 60 < 2 ^ 20 by decide), show ¬ w = nI 0 from fun h9 => hso ⟨0, by decide, h9⟩, show ¬ w = nI 1 from fun h9 => hso ⟨1, by decide, h9⟩]) (by decide) (by decide +kernel)⟩

