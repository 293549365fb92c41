-- mends
set_option maxHeartbeats 4000000 in
set_option maxRecDepth 100000 in
theorem p_mends {σ : Sg} {n y : Nat} {τ : Nat → Nat → Nat} {fl n2 y2 : Nat} {τ2 : Nat → Nat → Nat} {m : Nat} {cs : Nat → Nat} {rl : Nat} {ro rc : Nat → Nat} (hX : XR σ n y τ fl n2 y2 τ2 m cs rl ro rc) (v : Int32) (w : Int32) : Con 3 yX2_mends cX2_mends 4 (some .int) [.ref 0, .int v, .int w] σ (PI (fun r σ1 => r = rA (q_mends n τ v w) ∧ XR σ1 n y (u_mends n τ v w) fl n2 y2 τ2 m cs rl ro (rU rc (q_mends n τ v w)) ∧ Fx σ σ1)) := by
  refine Con.of (by decide) (by simp [Value.category]) (Nat.le_of_ble_eq_true rfl) (fun x hB => ?_)
  show V x RX2 cX2_mends 4 0 [some (.ref 0), some (.int v), some (.int w), none] [] _
  have hN := hX.now
  have hn6 := hN.n6
  have hy9 := hX.y9
  refine V.aload_n (q := 1) dX2_mends_0 rfl rfl ?_
  refine V.getR (q := 4) dX2_mends_1 rfl kf_X2_12 rfl (by decide) rfl ?_
  refine V.iload_n (q := 5) dX2_mends_4 rfl rfl ?_
  refine V.cvi1 (q := 8) dX2_mends_5 rfl kc_X2_69 rfl (by decide) rfl (hB.rm (by decide)) (Nat.le_of_ble_eq_true rfl) (c_isStreet t1 hN v) (fun r5 τ5 hp5 => ?_)
  obtain ⟨hz, ⟨rfl, k, hk, rfl⟩ | ⟨rfl, hsk⟩⟩ := hp5
  · rw [hz]
    refine V.ifN_eq (t := 22) (q := 11) dX2_mends_8 (by decide) rfl (by omega) (fun c8 => absurd c8 (by decide +kernel)) (fun c8 => ?_)
    refine V.aload_n (q := 12) dX2_mends_11 rfl rfl ?_
    refine V.getR (q := 15) dX2_mends_12 rfl kf_X2_12 rfl (by decide) rfl ?_
    refine V.iload_n (q := 16) dX2_mends_15 rfl rfl ?_
    refine V.cvi1 (q := 19) dX2_mends_16 rfl kc_X2_69 rfl (by decide) rfl (hB.rm (by decide)) (Nat.le_of_ble_eq_true rfl) (c_isStreet t1 hN w) (fun r16 τ16 hp16 => ?_)
    obtain ⟨hz, ⟨rfl, o, ho, rfl⟩ | ⟨rfl, hso⟩⟩ := hp16
    · rw [hz]
      refine V.ifN_ne (t := 28) (q := 22) dX2_mends_19 (by decide) rfl (by omega) (fun c19 => ?_) (fun c19 => absurd c19 (by decide +kernel))
      refine V.aload_n (q := 29) dX2_mends_28 rfl rfl ?_
      refine V.getR (q := 32) dX2_mends_29 rfl kf_X2_12 rfl (by decide) rfl ?_
      refine V.getRn (q := 35) dX2_mends_32 rfl kf_X2_88 rfl (by decide) rfl ?_
      refine V.iload_n (q := 36) dX2_mends_35 rfl rfl ?_
      refine V.ialdN (q := 37) dX2_mends_36 rfl rfl (by decide) (by omega) (by decide) (TA.a hN 5 (by decide) (by omega)) ?_
      refine V.ist3 (q := 38) dX2_mends_37 rfl ?_
      refine V.aload_n (q := 39) dX2_mends_38 rfl rfl ?_
      refine V.getR (q := 42) dX2_mends_39 rfl kf_X2_12 rfl (by decide) rfl ?_
      refine V.getRn (q := 45) dX2_mends_42 rfl kf_X2_88 rfl (by decide) rfl ?_
      refine V.iload_n (q := 46) dX2_mends_45 rfl rfl ?_
      refine V.iload_n (q := 47) dX2_mends_46 rfl rfl ?_
      refine V.iastN (q := 48) dX2_mends_47 rfl rfl (by decide) (by omega) (by decide) ?_
      refine V.iload_n (q := 49) dX2_mends_48 rfl rfl ?_
      exact V.ret_int hB dX2_mends_49 rfl ⟨_, rfl, (by
    have hq : q_mends n τ (nI k) (nI o) = (0, nI (τ 5 k)) := by simp [q_mends, stN_some hk (Nat.le_trans hn6 (by decide)), stN_some ho (Nat.le_trans hn6 (by decide))]
    have hu : u_mends n τ (nI k) (nI o) = setF τ 5 (upN (τ 5) k o) := by simp [u_mends, stN_some hk (Nat.le_trans hn6 (by decide)), stN_some ho (Nat.le_trans hn6 (by decide))]
    rw [hq, hu]
    exact ⟨rfl, hX.wn (hN.wr (f := 5) (by decide) hk (by unfold okF; omega)) hy9 (fun q hq => w2_ne (by omega)), fun q hq => w2_ne (by omega)⟩)⟩
    · rw [hz]
      refine V.ifN_ne (t := 28) (q := 22) dX2_mends_19 (by decide) rfl (by omega) (fun c19 => absurd c19 (by decide +kernel)) (fun c19 => ?_)
      refine V.aload_n (q := 23) dX2_mends_22 rfl rfl ?_
      refine V.iconst (q := 24) (v := (-1)) dX2_mends_23 rfl (by decide +kernel) ?_
      refine V.cvi1 (q := 27) dX2_mends_24 rfl kc_X2_53 rfl (by decide) rfl (hB.rm (by decide)) (Nat.le_of_ble_eq_true rfl) (p_refuse hX (k := 1) (v := -1) (by decide) (by decide) (by decide +kernel)) (fun r24 τ24 hp24 => ?_)
      obtain ⟨rfl, hz⟩ := hp24
      rw [hz]
      exact V.ret_int hB dX2_mends_27 rfl ⟨_, rfl, (by
    have hq : q_mends n τ (nI k) w = (1, 0) := by simp [q_mends, stN_some hk (Nat.le_trans hn6 (by decide)), stN_none hso]
    have hu : u_mends n τ (nI k) w = τ := by simp [u_mends, stN_some hk (Nat.le_trans hn6 (by decide)), stN_none hso]
    rw [hu]; exact XP.no (v := -1) hX hq (by decide) (by decide +kernel))⟩
  · rw [hz]
    refine V.ifN_eq (t := 22) (q := 11) dX2_mends_8 (by decide) rfl (by omega) (fun c8 => ?_) (fun c8 => absurd c8 (by decide +kernel))
    refine V.aload_n (q := 23) dX2_mends_22 rfl rfl ?_
    refine V.iconst (q := 24) (v := (-1)) dX2_mends_23 rfl (by decide +kernel) ?_
    refine V.cvi1 (q := 27) dX2_mends_24 rfl kc_X2_53 rfl (by decide) rfl (hB.rm (by decide)) (Nat.le_of_ble_eq_true rfl) (p_refuse hX (k := 1) (v := -1) (by decide) (by decide) (by decide +kernel)) (fun r24 τ24 hp24 => ?_)
    obtain ⟨rfl, hz⟩ := hp24
    rw [hz]
    exact V.ret_int hB dX2_mends_27 rfl ⟨_, rfl, (by
    have hq : q_mends n τ v w = (1, 0) := by simp [q_mends, stN_none hsk]
    have hu : u_mends n τ v w = τ := by simp [u_mends, stN_none hsk]
    rw [hu]; exact XP.no (v := -1) hX hq (by decide) (by decide +kernel))⟩

-- pence
set_option maxHeartbeats 4000000 in
set_option maxRecDepth 100000 in
theorem p_pence {σ : Sg} {n y : Nat} {τ : Nat → Nat → Nat} {fl n2 y2 : Nat} {τ2 : Nat → Nat → Nat} {m : Nat} {cs : Nat → Nat} {rl : Nat} {ro rc : Nat → Nat} (hX : XR σ n y τ fl n2 y2 τ2 m cs rl ro rc) (v : Int32) (w : Int32) : Con 3 yX2_pence cX2_pence 5 (some .int) [.ref 0, .int v, .int w] σ (PI (fun r σ1 => r = rA (q_put 4 99 n τ v w) ∧ XR σ1 n y (u_put 4 99 n τ v w) fl n2 y2 τ2 m cs rl ro (rU rc (q_put 4 99 n τ v w)) ∧ Fx σ σ1)) := by
  refine Con.of (by decide) (by simp [Value.category]) (Nat.le_of_ble_eq_true rfl) (fun x hB => ?_)
  show V x RX2 cX2_pence 5 0 [some (.ref 0), some (.int v), some (.int w), none, none] [] _
  have hN := hX.now
  have hn6 := hN.n6
  have hy9 := hX.y9
  refine V.aload_n (q := 1) dX2_pence_0 rfl rfl ?_
  refine V.getR (q := 4) dX2_pence_1 rfl kf_X2_12 rfl (by decide) rfl ?_
  refine V.iload_n (q := 5) dX2_pence_4 rfl rfl ?_
  refine V.cvi1 (q := 8) dX2_pence_5 rfl kc_X2_69 rfl (by decide) rfl (hB.rm (by decide)) (Nat.le_of_ble_eq_true rfl) (c_isStreet t1 hN v) (fun r5 τ5 hp5 => ?_)
  obtain ⟨hz, ⟨rfl, k, hk, rfl⟩ | ⟨rfl, hsk⟩⟩ := hp5
  · rw [hz]
    refine V.iload_n (q := 9) dX2_pence_8 rfl rfl ?_
    refine V.iconst (q := 10) (v := nI 0) dX2_pence_9 rfl (by decide +kernel) ?_
    refine V.bipush (q := 12) (v := nI 99) dX2_pence_10 rfl (by decide +kernel) ?_
    refine V.csi4 (q := 15) dX2_pence_12 rfl kc_X2_45 (hB.rm (by decide)) (Nat.le_of_ble_eq_true rfl) (p_rof w 0 99 (by decide) (by decide)) (fun r12 τ12 hp12 => ?_)
    obtain ⟨hz, ⟨hrf, rfl⟩ | ⟨hrf, rfl⟩ | ⟨rfl, j, hj1, hj2, rfl⟩⟩ := hp12
    · rw [hz]
      refine V.ist3 (q := 16) dX2_pence_15 rfl ?_
      refine V.iload_n (q := 17) dX2_pence_16 rfl rfl ?_
      refine V.if_eq (t := 26) (q := 20) dX2_pence_17 (by decide) rfl  (fun c17 => absurd c17 (by decide +kernel)) (fun c17 => ?_)
      refine V.aload_n (q := 21) dX2_pence_20 rfl rfl ?_
      refine V.iload_n (q := 22) dX2_pence_21 rfl rfl ?_
      refine V.cvi1 (q := 25) dX2_pence_22 rfl kc_X2_53 rfl (by decide) rfl (hB.rm (by decide)) (Nat.le_of_ble_eq_true rfl) (p_refuse hX (k := 4) (v := -4) (by decide) (by decide) (by decide +kernel)) (fun r22 τ22 hp22 => ?_)
      obtain ⟨rfl, hz⟩ := hp22
      rw [hz]
      exact V.ret_int hB dX2_pence_25 rfl ⟨_, rfl, (by
    have hq : q_put 4 99 n τ (nI k) w = (4, 0) := by simp [q_put, stN_some hk (Nat.le_trans hn6 (by decide)), rfq_4 hrf]
    have hu : u_put 4 99 n τ (nI k) w = τ := by simp [u_put, stN_some hk (Nat.le_trans hn6 (by decide)), hrf]
    rw [hu]; exact XP.no (v := -4) hX hq (by decide) (by decide +kernel))⟩
    · rw [hz]
      refine V.ist3 (q := 16) dX2_pence_15 rfl ?_
      refine V.iload_n (q := 17) dX2_pence_16 rfl rfl ?_
      refine V.if_eq (t := 26) (q := 20) dX2_pence_17 (by decide) rfl  (fun c17 => absurd c17 (by decide +kernel)) (fun c17 => ?_)
      refine V.aload_n (q := 21) dX2_pence_20 rfl rfl ?_
      refine V.iload_n (q := 22) dX2_pence_21 rfl rfl ?_
      refine V.cvi1 (q := 25) dX2_pence_22 rfl kc_X2_53 rfl (by decide) rfl (hB.rm (by decide)) (Nat.le_of_ble_eq_true rfl) (p_refuse hX (k := 6) (v := -6) (by decide) (by decide) (by decide +kernel)) (fun r22 τ22 hp22 => ?_)
      obtain ⟨rfl, hz⟩ := hp22
      rw [hz]
      exact V.ret_int hB dX2_pence_25 rfl ⟨_, rfl, (by
    have hq : q_put 4 99 n τ (nI k) w = (6, 0) := by simp [q_put, stN_some hk (Nat.le_trans hn6 (by decide)), rfq_6 hrf]
    have hu : u_put 4 99 n τ (nI k) w = τ := by simp [u_put, stN_some hk (Nat.le_trans hn6 (by decide)), hrf]
    rw [hu]; exact XP.no (v := -6) hX hq (by decide) (by decide +kernel))⟩
    · rw [hz]
      refine V.ist3 (q := 16) dX2_pence_15 rfl ?_
      refine V.iload_n (q := 17) dX2_pence_16 rfl rfl ?_
      refine V.ifN_eq (t := 26) (q := 20) dX2_pence_17 (by decide) rfl (by omega) (fun c17 => ?_) (fun c17 => absurd c17 (by decide +kernel))
      refine V.aload_n (q := 27) dX2_pence_26 rfl rfl ?_
      refine V.getR (q := 30) dX2_pence_27 rfl kf_X2_12 rfl (by decide) rfl ?_
      refine V.getRn (q := 33) dX2_pence_30 rfl kf_X2_85 rfl (by decide) rfl ?_
      refine V.iload_n (q := 34) dX2_pence_33 rfl rfl ?_
      refine V.ialdN (q := 35) dX2_pence_34 rfl rfl (by decide) (by omega) (by decide) (TA.a hN 4 (by decide) (by omega)) ?_
      refine V.ist4 (q := 37) dX2_pence_35 rfl ?_
      refine V.aload_n (q := 38) dX2_pence_37 rfl rfl ?_
      refine V.getR (q := 41) dX2_pence_38 rfl kf_X2_12 rfl (by decide) rfl ?_
      refine V.getRn (q := 44) dX2_pence_41 rfl kf_X2_85 rfl (by decide) rfl ?_
      refine V.iload_n (q := 45) dX2_pence_44 rfl rfl ?_
      refine V.iload_n (q := 46) dX2_pence_45 rfl rfl ?_
      refine V.iastN (q := 47) dX2_pence_46 rfl rfl (by decide) (by omega) (by decide) ?_
      refine V.iload (q := 49) dX2_pence_47 rfl rfl ?_
      exact V.ret_int hB dX2_pence_49 rfl ⟨_, rfl, (by
    have hq : q_put 4 99 n τ (nI k) (nI j) = (0, nI (τ 4 k)) := by simp [q_put, stN_some hk (Nat.le_trans hn6 (by decide)), rfq_in hj1 hj2 (show 99 < 2 ^ 20 by decide)]
    have hu : u_put 4 99 n τ (nI k) (nI j) = setF τ 4 (upN (τ 4) k j) := by simp [u_put, stN_some hk (Nat.le_trans hn6 (by decide)), rfN_in hj1 hj2 (show 99 < 2 ^ 20 by decide), tn_nI (show j < 2 ^ 31 by omega)]
    rw [hq, hu]
    exact ⟨rfl, hX.wn (hN.wr (f := 4) (by decide) hk (by unfold okF; omega)) hy9 (fun q hq => w2_ne (by omega)), fun q hq => w2_ne (by omega)⟩)⟩
  · rw [hz]
    refine V.iload_n (q := 9) dX2_pence_8 rfl rfl ?_
    refine V.iconst (q := 10) (v := nI 0) dX2_pence_9 rfl (by decide +kernel) ?_
    refine V.bipush (q := 12) (v := nI 99) dX2_pence_10 rfl (by decide +kernel) ?_
    refine V.csi4 (q := 15) dX2_pence_12 rfl kc_X2_45 (hB.rm (by decide)) (Nat.le_of_ble_eq_true rfl) (p_rof0) (fun r12 τ12 hp12 => ?_)
    obtain ⟨rfl, hz⟩ := hp12
    rw [hz]
    refine V.ist3 (q := 16) dX2_pence_15 rfl ?_
    refine V.iload_n (q := 17) dX2_pence_16 rfl rfl ?_
    refine V.if_eq (t := 26) (q := 20) dX2_pence_17 (by decide) rfl  (fun c17 => absurd c17 (by decide +kernel)) (fun c17 => ?_)
    refine V.aload_n (q := 21) dX2_pence_20 rfl rfl ?_
    refine V.iload_n (q := 22) dX2_pence_21 rfl rfl ?_
    refine V.cvi1 (q := 25) dX2_pence_22 rfl kc_X2_53 rfl (by decide) rfl (hB.rm (by decide)) (Nat.le_of_ble_eq_true rfl) (p_refuse hX (k := 1) (v := -1) (by decide) (by decide) (by decide +kernel)) (fun r22 τ22 hp22 => ?_)
    obtain ⟨rfl, hz⟩ := hp22
    rw [hz]
    exact V.ret_int hB dX2_pence_25 rfl ⟨_, rfl, (by
    have hq : q_put 4 99 n τ v w = (1, 0) := by simp [q_put, stN_none hsk]
    have hu : u_put 4 99 n τ v w = τ := by simp [u_put, stN_none hsk]
    rw [hu]; exact XP.no (v := -1) hX hq (by decide) (by decide +kernel))⟩

-- hands
set_option maxHeartbeats 4000000 in
set_option maxRecDepth 100000 in
theorem p_hands {σ : Sg} {n y : Nat} {τ : Nat → Nat → Nat} {fl n2 y2 : Nat} {τ2 : Nat → Nat → Nat} {m : Nat} {cs : Nat → Nat} {rl : Nat} {ro rc : Nat → Nat} (hX : XR σ n y τ fl n2 y2 τ2 m cs rl ro rc) (v : Int32) (w : Int32) : Con 3 yX2_hands cX2_hands 5 (some .int) [.ref 0, .int v, .int w] σ (PI (fun r σ1 => r = rA (q_put 3 4 n τ v w) ∧ XR σ1 n y (u_put 3 4 n τ v w) fl n2 y2 τ2 m cs rl ro (rU rc (q_put 3 4 n τ v w)) ∧ Fx σ σ1)) := by
  refine Con.of (by decide) (by simp [Value.category]) (Nat.le_of_ble_eq_true rfl) (fun x hB => ?_)
  show V x RX2 cX2_hands 5 0 [some (.ref 0), some (.int v), some (.int w), none, none] [] _
  have hN := hX.now
  have hn6 := hN.n6
  have hy9 := hX.y9
  refine V.aload_n (q := 1) dX2_hands_0 rfl rfl ?_
  refine V.getR (q := 4) dX2_hands_1 rfl kf_X2_12 rfl (by decide) rfl ?_
  refine V.iload_n (q := 5) dX2_hands_4 rfl rfl ?_
  refine V.cvi1 (q := 8) dX2_hands_5 rfl kc_X2_69 rfl (by decide) rfl (hB.rm (by decide)) (Nat.le_of_ble_eq_true rfl) (c_isStreet t1 hN v) (fun r5 τ5 hp5 => ?_)
  obtain ⟨hz, ⟨rfl, k, hk, rfl⟩ | ⟨rfl, hsk⟩⟩ := hp5
  · rw [hz]
    refine V.iload_n (q := 9) dX2_hands_8 rfl rfl ?_
    refine V.iconst (q := 10) (v := nI 0) dX2_hands_9 rfl (by decide +kernel) ?_
    refine V.iconst (q := 11) (v := nI 4) dX2_hands_10 rfl (by decide +kernel) ?_
    refine V.csi4 (q := 14) dX2_hands_11 rfl kc_X2_45 (hB.rm (by decide)) (Nat.le_of_ble_eq_true rfl) (p_rof w 0 4 (by decide) (by decide)) (fun r11 τ11 hp11 => ?_)
    obtain ⟨hz, ⟨hrf, rfl⟩ | ⟨hrf, rfl⟩ | ⟨rfl, j, hj1, hj2, rfl⟩⟩ := hp11
    · rw [hz]
      refine V.ist3 (q := 15) dX2_hands_14 rfl ?_
      refine V.iload_n (q := 16) dX2_hands_15 rfl rfl ?_
      refine V.if_eq (t := 25) (q := 19) dX2_hands_16 (by decide) rfl  (fun c16 => absurd c16 (by decide +kernel)) (fun c16 => ?_)
      refine V.aload_n (q := 20) dX2_hands_19 rfl rfl ?_
      refine V.iload_n (q := 21) dX2_hands_20 rfl rfl ?_
      refine V.cvi1 (q := 24) dX2_hands_21 rfl kc_X2_53 rfl (by decide) rfl (hB.rm (by decide)) (Nat.le_of_ble_eq_true rfl) (p_refuse hX (k := 4) (v := -4) (by decide) (by decide) (by decide +kernel)) (fun r21 τ21 hp21 => ?_)
      obtain ⟨rfl, hz⟩ := hp21
      rw [hz]
      exact V.ret_int hB dX2_hands_24 rfl ⟨_, rfl, (by
    have hq : q_put 3 4 n τ (nI k) w = (4, 0) := by simp [q_put, stN_some hk (Nat.le_trans hn6 (by decide)), rfq_4 hrf]
    have hu : u_put 3 4 n τ (nI k) w = τ := by simp [u_put, stN_some hk (Nat.le_trans hn6 (by decide)), hrf]
    rw [hu]; exact XP.no (v := -4) hX hq (by decide) (by decide +kernel))⟩
    · rw [hz]
      refine V.ist3 (q := 15) dX2_hands_14 rfl ?_
      refine V.iload_n (q := 16) dX2_hands_15 rfl rfl ?_
      refine V.if_eq (t := 25) (q := 19) dX2_hands_16 (by decide) rfl  (fun c16 => absurd c16 (by decide +kernel)) (fun c16 => ?_)
      refine V.aload_n (q := 20) dX2_hands_19 rfl rfl ?_
      refine V.iload_n (q := 21) dX2_hands_20 rfl rfl ?_
      refine V.cvi1 (q := 24) dX2_hands_21 rfl kc_X2_53 rfl (by decide) rfl (hB.rm (by decide)) (Nat.le_of_ble_eq_true rfl) (p_refuse hX (k := 6) (v := -6) (by decide) (by decide) (by decide +kernel)) (fun r21 τ21 hp21 => ?_)
      obtain ⟨rfl, hz⟩ := hp21
      rw [hz]
      exact V.ret_int hB dX2_hands_24 rfl ⟨_, rfl, (by
    have hq : q_put 3 4 n τ (nI k) w = (6, 0) := by simp [q_put, stN_some hk (Nat.le_trans hn6 (by decide)), rfq_6 hrf]
    have hu : u_put 3 4 n τ (nI k) w = τ := by simp [u_put, stN_some hk (Nat.le_trans hn6 (by decide)), hrf]
    rw [hu]; exact XP.no (v := -6) hX hq (by decide) (by decide +kernel))⟩
    · rw [hz]
      refine V.ist3 (q := 15) dX2_hands_14 rfl ?_
      refine V.iload_n (q := 16) dX2_hands_15 rfl rfl ?_
      refine V.ifN_eq (t := 25) (q := 19) dX2_hands_16 (by decide) rfl (by omega) (fun c16 => ?_) (fun c16 => absurd c16 (by decide +kernel))
      refine V.aload_n (q := 26) dX2_hands_25 rfl rfl ?_
      refine V.getR (q := 29) dX2_hands_26 rfl kf_X2_12 rfl (by decide) rfl ?_
      refine V.getRn (q := 32) dX2_hands_29 rfl kf_X2_82 rfl (by decide) rfl ?_
      refine V.iload_n (q := 33) dX2_hands_32 rfl rfl ?_
      refine V.ialdN (q := 34) dX2_hands_33 rfl rfl (by decide) (by omega) (by decide) (TA.a hN 3 (by decide) (by omega)) ?_
      refine V.ist4 (q := 36) dX2_hands_34 rfl ?_
      refine V.aload_n (q := 37) dX2_hands_36 rfl rfl ?_
      refine V.getR (q := 40) dX2_hands_37 rfl kf_X2_12 rfl (by decide) rfl ?_
      refine V.getRn (q := 43) dX2_hands_40 rfl kf_X2_82 rfl (by decide) rfl ?_
      refine V.iload_n (q := 44) dX2_hands_43 rfl rfl ?_
      refine V.iload_n (q := 45) dX2_hands_44 rfl rfl ?_
      refine V.iastN (q := 46) dX2_hands_45 rfl rfl (by decide) (by omega) (by decide) ?_
      refine V.iload (q := 48) dX2_hands_46 rfl rfl ?_
      exact V.ret_int hB dX2_hands_48 rfl ⟨_, rfl, (by
    have hq : q_put 3 4 n τ (nI k) (nI j) = (0, nI (τ 3 k)) := by simp [q_put, stN_some hk (Nat.le_trans hn6 (by decide)), rfq_in hj1 hj2 (show 4 < 2 ^ 20 by decide)]
    have hu : u_put 3 4 n τ (nI k) (nI j) = setF τ 3 (upN (τ 3) k j) := by simp [u_put, stN_some hk (Nat.le_trans hn6 (by decide)), rfN_in hj1 hj2 (show 4 < 2 ^ 20 by decide), tn_nI (show j < 2 ^ 31 by omega)]
    rw [hq, hu]
    exact ⟨rfl, hX.wn (hN.wr (f := 3) (by decide) hk (by unfold okF; omega)) hy9 (fun q hq => w2_ne (by omega)), fun q hq => w2_ne (by omega)⟩)⟩
  · rw [hz]
    refine V.iload_n (q := 9) dX2_hands_8 rfl rfl ?_
    refine V.iconst (q := 10) (v := nI 0) dX2_hands_9 rfl (by decide +kernel) ?_
    refine V.iconst (q := 11) (v := nI 4) dX2_hands_10 rfl (by decide +kernel) ?_
    refine V.csi4 (q := 14) dX2_hands_11 rfl kc_X2_45 (hB.rm (by decide)) (Nat.le_of_ble_eq_true rfl) (p_rof0) (fun r11 τ11 hp11 => ?_)
    obtain ⟨rfl, hz⟩ := hp11
    rw [hz]
    refine V.ist3 (q := 15) dX2_hands_14 rfl ?_
    refine V.iload_n (q := 16) dX2_hands_15 rfl rfl ?_
    refine V.if_eq (t := 25) (q := 19) dX2_hands_16 (by decide) rfl  (fun c16 => absurd c16 (by decide +kernel)) (fun c16 => ?_)
    refine V.aload_n (q := 20) dX2_hands_19 rfl rfl ?_
    refine V.iload_n (q := 21) dX2_hands_20 rfl rfl ?_
    refine V.cvi1 (q := 24) dX2_hands_21 rfl kc_X2_53 rfl (by decide) rfl (hB.rm (by decide)) (Nat.le_of_ble_eq_true rfl) (p_refuse hX (k := 1) (v := -1) (by decide) (by decide) (by decide +kernel)) (fun r21 τ21 hp21 => ?_)
    obtain ⟨rfl, hz⟩ := hp21
    rw [hz]
    exact V.ret_int hB dX2_hands_24 rfl ⟨_, rfl, (by
    have hq : q_put 3 4 n τ v w = (1, 0) := by simp [q_put, stN_none hsk]
    have hu : u_put 3 4 n τ v w = τ := by simp [u_put, stN_none hsk]
    rw [hu]; exact XP.no (v := -1) hX hq (by decide) (by decide +kernel))⟩

-- change
set_option maxHeartbeats 4000000 in
set_option maxRecDepth 100000 in
theorem p_change {σ : Sg} {n y : Nat} {τ : Nat → Nat → Nat} {fl n2 y2 : Nat} {τ2 : Nat → Nat → Nat} {m : Nat} {cs : Nat → Nat} {rl : Nat} {ro rc : Nat → Nat} (hX : XR σ n y τ fl n2 y2 τ2 m cs rl ro rc) (v : Int32) : Con 5 yX2_change cX2_change 8 (some .int) [.ref 0, .int v] σ (PI (XP σ n y τ fl n2 y2 τ2 m cs rl ro rc (q_change n y τ v))) := by
  refine Con.of (by decide) (by simp [Value.category]) (Nat.le_of_ble_eq_true rfl) (fun x hB => ?_)
  show V x RX2 cX2_change 8 0 [some (.ref 0), some (.int v), none, none, none, none, none, none] [] _
  have hN := hX.now
  have hn6 := hN.n6
  have hy9 := hX.y9
  refine V.iconst (q := 1) (v := nI 1) dX2_change_0 rfl (by decide +kernel) ?_
  refine V.iload_n (q := 2) dX2_change_1 rfl rfl ?_
  refine V.iconst (q := 3) (v := nI 1) dX2_change_2 rfl (by decide +kernel) ?_
  refine V.bipush (q := 5) (v := nI 30) dX2_change_3 rfl (by decide +kernel) ?_
  refine V.csi4 (q := 8) dX2_change_5 rfl kc_X2_45 (hB.rm (by decide)) (Nat.le_of_ble_eq_true rfl) (p_rof v 1 30 (by decide) (by decide)) (fun r5 τ5 hp5 => ?_)
  obtain ⟨hz, ⟨hrf, rfl⟩ | ⟨hrf, rfl⟩ | ⟨rfl, j, hj1, hj2, rfl⟩⟩ := hp5
  · rw [hz]
    refine V.ist2 (q := 9) dX2_change_8 rfl ?_
    refine V.iload_n (q := 10) dX2_change_9 rfl rfl ?_
    refine V.if_eq (t := 19) (q := 13) dX2_change_10 (by decide) rfl  (fun c10 => absurd c10 (by decide +kernel)) (fun c10 => ?_)
    refine V.aload_n (q := 14) dX2_change_13 rfl rfl ?_
    refine V.iload_n (q := 15) dX2_change_14 rfl rfl ?_
    refine V.cvi1 (q := 18) dX2_change_15 rfl kc_X2_53 rfl (by decide) rfl (hB.rm (by decide)) (Nat.le_of_ble_eq_true rfl) (p_refuse hX (k := 4) (v := -4) (by decide) (by decide) (by decide +kernel)) (fun r15 τ15 hp15 => ?_)
    obtain ⟨rfl, hz⟩ := hp15
    rw [hz]
    exact V.ret_int hB dX2_change_18 rfl ⟨_, rfl, XP.no hX (by simp [q_change, rfq_4 hrf]) (by decide) (by decide +kernel)⟩
  · rw [hz]
    refine V.ist2 (q := 9) dX2_change_8 rfl ?_
    refine V.iload_n (q := 10) dX2_change_9 rfl rfl ?_
    refine V.if_eq (t := 19) (q := 13) dX2_change_10 (by decide) rfl  (fun c10 => absurd c10 (by decide +kernel)) (fun c10 => ?_)
    refine V.aload_n (q := 14) dX2_change_13 rfl rfl ?_
    refine V.iload_n (q := 15) dX2_change_14 rfl rfl ?_
    refine V.cvi1 (q := 18) dX2_change_15 rfl kc_X2_53 rfl (by decide) rfl (hB.rm (by decide)) (Nat.le_of_ble_eq_true rfl) (p_refuse hX (k := 6) (v := -6) (by decide) (by decide) (by decide +kernel)) (fun r15 τ15 hp15 => ?_)
    obtain ⟨rfl, hz⟩ := hp15
    rw [hz]
    exact V.ret_int hB dX2_change_18 rfl ⟨_, rfl, XP.no hX (by simp [q_change, rfq_6 hrf]) (by decide) (by decide +kernel)⟩
  · rw [hz]
    refine V.ist2 (q := 9) dX2_change_8 rfl ?_
    refine V.iload_n (q := 10) dX2_change_9 rfl rfl ?_
    refine V.ifN_eq (t := 19) (q := 13) dX2_change_10 (by decide) rfl (by omega) (fun c10 => ?_) (fun c10 => absurd c10 (by decide +kernel))
    refine V.aload_n (q := 20) dX2_change_19 rfl rfl ?_
    refine V.getR (q := 23) dX2_change_20 rfl kf_X2_19 rfl (by decide) rfl ?_
    refine V.aload_n (q := 24) dX2_change_23 rfl rfl ?_
    refine V.getR (q := 27) dX2_change_24 rfl kf_X2_12 rfl (by decide) rfl ?_
    refine V.cvv1 (q := 30) dX2_change_27 rfl kc_X2_106 rfl (by decide) rfl (hB.rm (by decide)) (Nat.le_of_ble_eq_true rfl) (c_copyFrom t19 t1 (by decide) hN) (fun τ27 hp27 => ?_)
    obtain ⟨hT1, hF1⟩ := hp27
    have hN1 := hN.ot hF1 (by decide)
    refine V.aload_n (q := 31) dX2_change_30 rfl rfl ?_
    refine V.getR (q := 34) dX2_change_31 rfl kf_X2_19 rfl (by decide) rfl ?_
    refine V.iload_n (q := 35) dX2_change_34 rfl rfl ?_
    refine V.cvi1 (q := 38) dX2_change_35 rfl kc_X2_110 rfl (by decide) rfl (hB.rm (by decide)) (Nat.le_of_ble_eq_true rfl) (c_mudBehind t19 hT1 (k := j) (by omega)) (fun r35 τ35 hp35 => ?_)
    obtain ⟨rfl, hT2, hF2⟩ := hp35
    have hN2 := hN1.ot hF2 (by decide)
    refine V.ist3 (q := 39) dX2_change_38 rfl ?_
    have hFs := (Fs.of hF1 (Or.inl rfl)).tr (Fs.of hF2 (Or.inl rfl))
    have hs0 := sumK_b hT2.w hn6
    refine V.bipush (q := 41) (v := (-9)) dX2_change_39 rfl (by decide +kernel) ?_
    refine V.ist4 (q := 43) dX2_change_41 rfl ?_
    refine V.iconst (q := 44) (v := nI 0) dX2_change_43 rfl (by decide +kernel) ?_
    refine V.ist5 (q := 46) dX2_change_44 rfl ?_
    have loop : ∀ i, i ≤ n → ∀ σ1, TA σ1 1 n y 6 6 τ → Fs σ σ1 → ∀ s : Nat × Int32, s = chO (chG n y τ j) n (sumK (yrsM n y 6 6 τ j 1) n, -9) i → s.1 ≤ 54 → ∀ o6 o7, V x RX2 cX2_change 8 46 [some (.ref 0), some (.int (nI j)), some (.int (nI 0)), some (.int (nI s.1)), some (.int s.2), some (.int (nI i)), o6, o7] [] σ1 := by
      refine down n (fun i hi ih σ1 hN3 hF s es hs o6 o7 => ?_)
      refine V.iload (q := 48) dX2_change_46 rfl rfl ?_
      refine V.aload_n (q := 49) dX2_change_48 rfl rfl ?_
      refine V.getR (q := 52) dX2_change_49 rfl kf_X2_12 rfl (by decide) rfl ?_
      refine V.getIn (q := 55) dX2_change_52 rfl kf_X2_120 rfl (by decide) rfl (TA.n8 hN3) ?_
      refine V.icmpN_ge (t := 137) (q := 58) dX2_change_55 (by decide) rfl (by omega) (by omega) (fun c55 => ?_) (fun c55 => ?_)
      · have ei : i = n := by omega
        subst ei
        refine V.iload (q := 139) dX2_change_137 rfl rfl ?_
        exact V.ret_int hB dX2_change_139 rfl ⟨_, rfl, XP.yes hX (hF) (by unfold q_change; rw [rfq_in hj1 hj2 (by decide), tn_nI (by omega), es]; rfl)⟩
      · refine V.iconst (q := 59) (v := nI 0) dX2_change_58 rfl (by decide +kernel) ?_
        refine V.ist6 (q := 61) dX2_change_59 rfl ?_
        have loop2 : ∀ o, o ≤ n → ∀ σ2, TA σ2 1 n y 6 6 τ → Fs σ σ2 → ∀ s2 : Nat × Int32, s2 = chI (chG n y τ j) i s o → s2.1 ≤ 54 → ∀ o7, V x RX2 cX2_change 8 61 [some (.ref 0), some (.int (nI j)), some (.int (nI 0)), some (.int (nI s2.1)), some (.int s2.2), some (.int (nI i)), some (.int (nI o)), o7] [] σ2 := by
          refine down n (fun o ho ih2 σ2 hN4 hF4 s2 es2 hs2 o7 => ?_)
          refine V.iload (q := 63) dX2_change_61 rfl rfl ?_
          refine V.aload_n (q := 64) dX2_change_63 rfl rfl ?_
          refine V.getR (q := 67) dX2_change_64 rfl kf_X2_12 rfl (by decide) rfl ?_
          refine V.getIn (q := 70) dX2_change_67 rfl kf_X2_120 rfl (by decide) rfl (TA.n8 hN4) ?_
          refine V.icmpN_ge (t := 131) (q := 73) dX2_change_70 (by decide) rfl (by omega) (by omega) (fun c70 => ?_) (fun c70 => ?_)
          · have eo : o = n := by omega
            subst eo
            refine V.inc5 (q := 134) dX2_change_131 rfl (inc1 _) ?_
            refine V.goto (q := 46) dX2_change_134 (by decide) ?_
            exact ih c55 _ hN4 hF4 s2 (by rw [es2, es]; rfl) hs2 _ _
          · refine V.aload_n (q := 74) dX2_change_73 rfl rfl ?_
            refine V.getR (q := 77) dX2_change_74 rfl kf_X2_19 rfl (by decide) rfl ?_
            refine V.aload_n (q := 78) dX2_change_77 rfl rfl ?_
            refine V.getR (q := 81) dX2_change_78 rfl kf_X2_12 rfl (by decide) rfl ?_
            refine V.cvv1 (q := 84) dX2_change_81 rfl kc_X2_106 rfl (by decide) rfl (hB.rm (by decide)) (Nat.le_of_ble_eq_true rfl) (c_copyFrom t19 t1 (by decide) hN4) (fun τ81 hp81 => ?_)
            obtain ⟨hT5, hF5⟩ := hp81
            have hN5 := hN4.ot hF5 (by decide)
            refine V.aload_n (q := 85) dX2_change_84 rfl rfl ?_
            refine V.getR (q := 88) dX2_change_85 rfl kf_X2_19 rfl (by decide) rfl ?_
            refine V.getRn (q := 91) dX2_change_88 rfl kf_X2_88 rfl (by decide) rfl ?_
            refine V.iload (q := 93) dX2_change_91 rfl rfl ?_
            refine V.iload (q := 95) dX2_change_93 rfl rfl ?_
            refine V.iastN (q := 96) dX2_change_95 rfl rfl (by decide) (by omega) (by decide) ?_
            have hT6 := hT5.wr (f := 5) (v := o) (by decide) c55 (by unfold okF; omega)
            have hN6 := hN5.wo (o := 25) (k := i) (x := nI o) (fun h9 => by omega)
            have hF6 := ((hF4.tr (Fs.of hF5 (Or.inl rfl))).w (o := 25) (k := i) (v := nI o) (by decide) (by decide) (by decide) (by decide))
            refine V.aload_n (q := 97) dX2_change_96 rfl rfl ?_
            refine V.getR (q := 100) dX2_change_97 rfl kf_X2_19 rfl (by decide) rfl ?_
            refine V.iload_n (q := 101) dX2_change_100 rfl rfl ?_
            refine V.cvi1 (q := 104) dX2_change_101 rfl kc_X2_110 rfl (by decide) rfl (hB.rm (by decide)) (Nat.le_of_ble_eq_true rfl) (c_mudBehind t19 hT6 (k := j) (by omega)) (fun r101 τ101 hp101 => ?_)
            obtain ⟨rfl, hT7, hF7⟩ := hp101
            have hN7 := hN6.ot hF7 (by decide)
            have hF8 := hF6.tr (Fs.of hF7 (Or.inl rfl))
            have hb7 := sumK_b hT7.w hn6
            refine V.ist7 (q := 106) dX2_change_104 rfl ?_
            refine V.iload (q := 108) dX2_change_106 rfl rfl ?_
            refine V.iload_n (q := 109) dX2_change_108 rfl rfl ?_
            refine V.icmpN_ge (t := 125) (q := 112) dX2_change_109 (by decide) rfl (by omega) (by omega) (fun c109 => ?_) (fun c109 => ?_)
            · refine V.inc6 (q := 128) dX2_change_125 rfl (inc1 _) ?_
              refine V.goto (q := 61) dX2_change_128 (by decide) ?_
              exact ih2 c70 _ hN7 hF8 s2 (by rw [chI_n (g := chG n y τ j) (by rw [← es2]; exact Nat.not_lt.mpr c109)]; exact es2) hs2 _
            · refine V.iload (q := 114) dX2_change_112 rfl rfl ?_
              refine V.ist3 (q := 115) dX2_change_114 rfl ?_
              refine V.bipush (q := 117) (v := nI 10) dX2_change_115 rfl (by decide +kernel) ?_
              refine V.iload (q := 119) dX2_change_117 rfl rfl ?_
              refine V.imulN (q := 120) dX2_change_119 rfl ?_
              refine V.iload (q := 122) dX2_change_120 rfl rfl ?_
              refine V.iaddN (q := 123) dX2_change_122 rfl ?_
              refine V.ist4 (q := 125) dX2_change_123 rfl ?_
              refine V.inc6 (q := 128) dX2_change_125 rfl (inc1 _) ?_
              refine V.goto (q := 61) dX2_change_128 (by decide) ?_
              exact ih2 c70 _ hN7 hF8 (sumK (yrsM n y 6 6 (setF τ 5 (upN (τ 5) i o)) j 1) n, nI (10 * i + o)) (by rw [chI_y (g := chG n y τ j) (by rw [← es2]; exact c109)]; rfl) hb7 _
        exact loop2 0 (Nat.zero_le _) σ1 hN3 hF s rfl hs _
    exact loop 0 (Nat.zero_le _) _ hN2 hFs (sumK (yrsM n y 6 6 τ j 1) n, -9) rfl hs0 _ _

-- cure
set_option maxHeartbeats 4000000 in
set_option maxRecDepth 100000 in
theorem p_cure {σ : Sg} {n y : Nat} {τ : Nat → Nat → Nat} {fl n2 y2 : Nat} {τ2 : Nat → Nat → Nat} {m : Nat} {cs : Nat → Nat} {rl : Nat} {ro rc : Nat → Nat} (hX : XR σ n y τ fl n2 y2 τ2 m cs rl ro rc) (v : Int32) (w : Int32) : Con 5 yX2_cure cX2_cure 8 (some .int) [.ref 0, .int v, .int w] σ (PI (XP σ n y τ fl n2 y2 τ2 m cs rl ro rc (q_cure n y τ v w))) := by
  refine Con.of (by decide) (by simp [Value.category]) (Nat.le_of_ble_eq_true rfl) (fun x hB => ?_)
  show V x RX2 cX2_cure 8 0 [some (.ref 0), some (.int v), some (.int w), none, none, none, none, none] [] _
  have hN := hX.now
  have hn6 := hN.n6
  have hy9 := hX.y9
  refine V.aload_n (q := 1) dX2_cure_0 rfl rfl ?_
  refine V.getR (q := 4) dX2_cure_1 rfl kf_X2_12 rfl (by decide) rfl ?_
  refine V.iload_n (q := 5) dX2_cure_4 rfl rfl ?_
  refine V.cvi1 (q := 8) dX2_cure_5 rfl kc_X2_69 rfl (by decide) rfl (hB.rm (by decide)) (Nat.le_of_ble_eq_true rfl) (c_isStreet t1 hN v) (fun r5 τ5 hp5 => ?_)
  obtain ⟨hz, ⟨rfl, k, hk, rfl⟩ | ⟨rfl, hsk⟩⟩ := hp5
  · rw [hz]
    refine V.iload_n (q := 9) dX2_cure_8 rfl rfl ?_
    refine V.iconst (q := 10) (v := nI 1) dX2_cure_9 rfl (by decide +kernel) ?_
    refine V.bipush (q := 12) (v := nI 30) dX2_cure_10 rfl (by decide +kernel) ?_
    refine V.csi4 (q := 15) dX2_cure_12 rfl kc_X2_45 (hB.rm (by decide)) (Nat.le_of_ble_eq_true rfl) (p_rof w 1 30 (by decide) (by decide)) (fun r12 τ12 hp12 => ?_)
    obtain ⟨hz, ⟨hrf, rfl⟩ | ⟨hrf, rfl⟩ | ⟨rfl, j, hj1, hj2, rfl⟩⟩ := hp12
    · rw [hz]
      refine V.ist3 (q := 16) dX2_cure_15 rfl ?_
      refine V.iload_n (q := 17) dX2_cure_16 rfl rfl ?_
      refine V.if_eq (t := 26) (q := 20) dX2_cure_17 (by decide) rfl  (fun c17 => absurd c17 (by decide +kernel)) (fun c17 => ?_)
      refine V.aload_n (q := 21) dX2_cure_20 rfl rfl ?_
      refine V.iload_n (q := 22) dX2_cure_21 rfl rfl ?_
      refine V.cvi1 (q := 25) dX2_cure_22 rfl kc_X2_53 rfl (by decide) rfl (hB.rm (by decide)) (Nat.le_of_ble_eq_true rfl) (p_refuse hX (k := 4) (v := -4) (by decide) (by decide) (by decide +kernel)) (fun r22 τ22 hp22 => ?_)
      obtain ⟨rfl, hz⟩ := hp22
      rw [hz]
      exact V.ret_int hB dX2_cure_25 rfl ⟨_, rfl, XP.no hX (by simp [q_cure, stN_some hk (Nat.le_trans hn6 (by decide)), rfq_4 hrf]) (by decide) (by decide +kernel)⟩
    · rw [hz]
      refine V.ist3 (q := 16) dX2_cure_15 rfl ?_
      refine V.iload_n (q := 17) dX2_cure_16 rfl rfl ?_
      refine V.if_eq (t := 26) (q := 20) dX2_cure_17 (by decide) rfl  (fun c17 => absurd c17 (by decide +kernel)) (fun c17 => ?_)
      refine V.aload_n (q := 21) dX2_cure_20 rfl rfl ?_
      refine V.iload_n (q := 22) dX2_cure_21 rfl rfl ?_
      refine V.cvi1 (q := 25) dX2_cure_22 rfl kc_X2_53 rfl (by decide) rfl (hB.rm (by decide)) (Nat.le_of_ble_eq_true rfl) (p_refuse hX (k := 6) (v := -6) (by decide) (by decide) (by decide +kernel)) (fun r22 τ22 hp22 => ?_)
      obtain ⟨rfl, hz⟩ := hp22
      rw [hz]
      exact V.ret_int hB dX2_cure_25 rfl ⟨_, rfl, XP.no hX (by simp [q_cure, stN_some hk (Nat.le_trans hn6 (by decide)), rfq_6 hrf]) (by decide) (by decide +kernel)⟩
    · rw [hz]
      refine V.ist3 (q := 16) dX2_cure_15 rfl ?_
      refine V.iload_n (q := 17) dX2_cure_16 rfl rfl ?_
      refine V.ifN_eq (t := 26) (q := 20) dX2_cure_17 (by decide) rfl (by omega) (fun c17 => ?_) (fun c17 => absurd c17 (by decide +kernel))
      refine V.bipush (q := 28) (v := nI 55) dX2_cure_26 rfl (by decide +kernel) ?_
      refine V.ist4 (q := 30) dX2_cure_28 rfl ?_
      refine V.iconst (q := 31) (v := nI 0) dX2_cure_30 rfl (by decide +kernel) ?_
      refine V.ist5 (q := 33) dX2_cure_31 rfl ?_
      refine V.iconst (q := 34) (v := nI 0) dX2_cure_33 rfl (by decide +kernel) ?_
      refine V.ist6 (q := 36) dX2_cure_34 rfl ?_
      have loop : ∀ a, a ≤ 6 → ∀ σ1, TA σ1 1 n y 6 6 τ → Fs σ σ1 → ∀ s : Nat × Nat, s = cuK (cuG n y τ j k) a → s.1 ≤ 55 → s.2 ≤ 6 → ∀ o7, V x RX2 cX2_cure 8 36 [some (.ref 0), some (.int (nI k)), some (.int (nI j)), some (.int (nI 0)), some (.int (nI s.1)), some (.int (nI s.2)), some (.int (nI a)), o7] [] σ1 := by
        refine down 6 (fun a ha ih σ1 hN4 hF4 s es hs hs2 o7 => ?_)
        refine V.iload (q := 38) dX2_cure_36 rfl rfl ?_
        refine V.bipush (q := 40) (v := nI 6) dX2_cure_38 rfl (by decide +kernel) ?_
        refine V.icmpN_ge (t := 96) (q := 43) dX2_cure_40 (by decide) rfl (by omega) (by omega) (fun c40 => ?_) (fun c40 => ?_)
        · have ea : a = 6 := by omega
          subst ea
          refine V.iload (q := 98) dX2_cure_96 rfl rfl ?_
          exact V.ret_int hB dX2_cure_98 rfl ⟨_, rfl, XP.yes hX (hF4) (by unfold q_cure; simp only [stN_some hk (Nat.le_trans hn6 (by decide))]; rw [rfq_in hj1 hj2 (by decide), tn_nI (by omega), es])⟩
        · refine V.aload_n (q := 44) dX2_cure_43 rfl rfl ?_
          refine V.getR (q := 47) dX2_cure_44 rfl kf_X2_19 rfl (by decide) rfl ?_
          refine V.aload_n (q := 48) dX2_cure_47 rfl rfl ?_
          refine V.getR (q := 51) dX2_cure_48 rfl kf_X2_12 rfl (by decide) rfl ?_
          refine V.cvv1 (q := 54) dX2_cure_51 rfl kc_X2_106 rfl (by decide) rfl (hB.rm (by decide)) (Nat.le_of_ble_eq_true rfl) (c_copyFrom t19 t1 (by decide) hN4) (fun τ51 hp51 => ?_)
          obtain ⟨hT5, hF5⟩ := hp51
          have hN5 := hN4.ot hF5 (by decide)
          refine V.aload_n (q := 55) dX2_cure_54 rfl rfl ?_
          refine V.getR (q := 58) dX2_cure_55 rfl kf_X2_19 rfl (by decide) rfl ?_
          refine V.getRn (q := 61) dX2_cure_58 rfl kf_X2_73 rfl (by decide) rfl ?_
          refine V.iload_n (q := 62) dX2_cure_61 rfl rfl ?_
          refine V.iload (q := 64) dX2_cure_62 rfl rfl ?_
          refine V.iastN (q := 65) dX2_cure_64 rfl rfl (by decide) (by omega) (by decide) ?_
          have hT6 := hT5.wr (f := 0) (v := a) (by decide) hk (by unfold okF; omega)
          have hN6 := hN5.wo (o := 20) (k := k) (x := nI a) (fun h9 => by omega)
          have hF6 := ((hF4.tr (Fs.of hF5 (Or.inl rfl))).w (o := 20) (k := k) (v := nI a) (by decide) (by decide) (by decide) (by decide))
          refine V.aload_n (q := 66) dX2_cure_65 rfl rfl ?_
          refine V.getR (q := 69) dX2_cure_66 rfl kf_X2_19 rfl (by decide) rfl ?_
          refine V.iload_n (q := 70) dX2_cure_69 rfl rfl ?_
          refine V.cvi1 (q := 73) dX2_cure_70 rfl kc_X2_110 rfl (by decide) rfl (hB.rm (by decide)) (Nat.le_of_ble_eq_true rfl) (c_mudBehind t19 hT6 (k := j) (by omega)) (fun r70 τ70 hp70 => ?_)
          obtain ⟨rfl, hT7, hF7⟩ := hp70
          have hN7 := hN6.ot hF7 (by decide)
          have hF8 := hF6.tr (Fs.of hF7 (Or.inl rfl))
          have hb7 := sumK_b hT7.w hn6
          refine V.ist7 (q := 75) dX2_cure_73 rfl ?_
          refine V.iload (q := 77) dX2_cure_75 rfl rfl ?_
          refine V.iload (q := 79) dX2_cure_77 rfl rfl ?_
          refine V.icmpN_ge (t := 90) (q := 82) dX2_cure_79 (by decide) rfl (by omega) (by omega) (fun c79 => ?_) (fun c79 => ?_)
          · refine V.inc6 (q := 93) dX2_cure_90 rfl (inc1 _) ?_
            refine V.goto (q := 36) dX2_cure_93 (by decide) ?_
            exact ih c40 _ hN7 hF8 s (by rw [cuK_n (g := cuG n y τ j k) (by rw [← es]; exact Nat.not_lt.mpr c79)]; exact es) hs hs2 _
          · refine V.iload (q := 84) dX2_cure_82 rfl rfl ?_
            refine V.ist4 (q := 86) dX2_cure_84 rfl ?_
            refine V.iload (q := 88) dX2_cure_86 rfl rfl ?_
            refine V.ist5 (q := 90) dX2_cure_88 rfl ?_
            refine V.inc6 (q := 93) dX2_cure_90 rfl (inc1 _) ?_
            refine V.goto (q := 36) dX2_cure_93 (by decide) ?_
            exact ih c40 _ hN7 hF8 (sumK (yrsM n y 6 6 (setF τ 0 (upN (τ 0) k a)) j 1) n, a) (by rw [cuK_y (g := cuG n y τ j k) (by rw [← es]; exact c79)]; rfl) (by show _ ≤ 55; omega) (by show a ≤ 6; omega) _
      exact loop 0 (by decide) σ hN Fs.rf (55, 0) rfl (by decide) (by decide) _
  · rw [hz]
    refine V.iload_n (q := 9) dX2_cure_8 rfl rfl ?_
    refine V.iconst (q := 10) (v := nI 1) dX2_cure_9 rfl (by decide +kernel) ?_
    refine V.bipush (q := 12) (v := nI 30) dX2_cure_10 rfl (by decide +kernel) ?_
    refine V.csi4 (q := 15) dX2_cure_12 rfl kc_X2_45 (hB.rm (by decide)) (Nat.le_of_ble_eq_true rfl) (p_rof0) (fun r12 τ12 hp12 => ?_)
    obtain ⟨rfl, hz⟩ := hp12
    rw [hz]
    refine V.ist3 (q := 16) dX2_cure_15 rfl ?_
    refine V.iload_n (q := 17) dX2_cure_16 rfl rfl ?_
    refine V.if_eq (t := 26) (q := 20) dX2_cure_17 (by decide) rfl  (fun c17 => absurd c17 (by decide +kernel)) (fun c17 => ?_)
    refine V.aload_n (q := 21) dX2_cure_20 rfl rfl ?_
    refine V.iload_n (q := 22) dX2_cure_21 rfl rfl ?_
    refine V.cvi1 (q := 25) dX2_cure_22 rfl kc_X2_53 rfl (by decide) rfl (hB.rm (by decide)) (Nat.le_of_ble_eq_true rfl) (p_refuse hX (k := 1) (v := -1) (by decide) (by decide) (by decide +kernel)) (fun r22 τ22 hp22 => ?_)
    obtain ⟨rfl, hz⟩ := hp22
    rw [hz]
    exact V.ret_int hB dX2_cure_25 rfl ⟨_, rfl, XP.no hX (by simp [q_cure, stN_none hsk]) (by decide) (by decide +kernel)⟩

-- putIn
set_option maxHeartbeats 4000000 in
set_option maxRecDepth 100000 in
theorem p_putIn {σ : Sg} {n y : Nat} {τ : Nat → Nat → Nat} {fl n2 y2 : Nat} {τ2 : Nat → Nat → Nat} {m : Nat} {cs : Nat → Nat} {rl : Nat} {ro rc : Nat → Nat} (hX : XR σ n y τ fl n2 y2 τ2 m cs rl ro rc) (v : Int32) (w : Int32) (u : Int32) : Con 5 yX2_putIn cX2_putIn 4 (some .int) [.ref 0, .int v, .int w, .int u] σ (PI (XP σ n y τ fl n2 y2 τ2 m cs rl ro rc (q_putIn n y τ v w u))) := by
  refine Con.of (by decide) (by simp [Value.category]) (Nat.le_of_ble_eq_true rfl) (fun x hB => ?_)
  show V x RX2 cX2_putIn 4 0 [some (.ref 0), some (.int v), some (.int w), some (.int u)] [] _
  have hN := hX.now
  have hn6 := hN.n6
  have hy9 := hX.y9
  refine V.aload_n (q := 1) dX2_putIn_0 rfl rfl ?_
  refine V.getR (q := 4) dX2_putIn_1 rfl kf_X2_12 rfl (by decide) rfl ?_
  refine V.iload_n (q := 5) dX2_putIn_4 rfl rfl ?_
  refine V.cvi1 (q := 8) dX2_putIn_5 rfl kc_X2_69 rfl (by decide) rfl (hB.rm (by decide)) (Nat.le_of_ble_eq_true rfl) (c_isStreet t1 hN v) (fun r5 τ5 hp5 => ?_)
  obtain ⟨hz, ⟨rfl, k, hk, rfl⟩ | ⟨rfl, hsk⟩⟩ := hp5
  · rw [hz]
    refine V.ifN_ne (t := 17) (q := 11) dX2_putIn_8 (by decide) rfl (by omega) (fun c8 => ?_) (fun c8 => absurd c8 (by decide +kernel))
    refine V.iload_n (q := 18) dX2_putIn_17 rfl rfl ?_
    refine V.if_lt (t := 26) (q := 21) dX2_putIn_18 (by decide) rfl  (fun c18 => ?_) (fun c18 => ?_)
    · refine V.aload_n (q := 27) dX2_putIn_26 rfl rfl ?_
      refine V.bipush (q := 29) (v := (-4)) dX2_putIn_27 rfl (by decide +kernel) ?_
      refine V.cvi1 (q := 32) dX2_putIn_29 rfl kc_X2_53 rfl (by decide) rfl (hB.rm (by decide)) (Nat.le_of_ble_eq_true rfl) (p_refuse hX (k := 4) (v := -4) (by decide) (by decide) (by decide +kernel)) (fun r29 τ29 hp29 => ?_)
      obtain ⟨rfl, hz⟩ := hp29
      rw [hz]
      exact V.ret_int hB dX2_putIn_32 rfl ⟨_, rfl, XP.no hX (by simp [q_putIn, stN_some hk (Nat.le_trans hn6 (by decide)), c18]) (by decide) (by decide +kernel)⟩
    · refine V.iload_n (q := 22) dX2_putIn_21 rfl rfl ?_
      refine V.iconst (q := 23) (v := nI 1) dX2_putIn_22 rfl (by decide +kernel) ?_
      refine V.icmp_ge (t := 33) (q := 26) dX2_putIn_23 (by decide) rfl  (fun c23 => ?_) (fun c23 => ?_)
      · have c23b : ¬ u < nI 1 := fun h9 => Int32.not_lt.mpr c23 h9
        refine V.iload_n (q := 34) dX2_putIn_33 rfl rfl ?_
        refine V.iconst (q := 35) (v := nI 4) dX2_putIn_34 rfl (by decide +kernel) ?_
        refine V.icmp_gt (t := 54) (q := 38) dX2_putIn_35 (by decide) rfl  (fun c35 => ?_) (fun c35 => ?_)
        · refine V.aload_n (q := 55) dX2_putIn_54 rfl rfl ?_
          refine V.bipush (q := 57) (v := (-6)) dX2_putIn_55 rfl (by decide +kernel) ?_
          refine V.cvi1 (q := 60) dX2_putIn_57 rfl kc_X2_53 rfl (by decide) rfl (hB.rm (by decide)) (Nat.le_of_ble_eq_true rfl) (p_refuse hX (k := 6) (v := -6) (by decide) (by decide) (by decide +kernel)) (fun r57 τ57 hp57 => ?_)
          obtain ⟨rfl, hz⟩ := hp57
          rw [hz]
          exact V.ret_int hB dX2_putIn_60 rfl ⟨_, rfl, XP.no hX (by simp [q_putIn, stN_some hk (Nat.le_trans hn6 (by decide)), c18, c23b, c35]) (by decide) (by decide +kernel)⟩
        · refine V.iload_n (q := 39) dX2_putIn_38 rfl rfl ?_
          refine V.bipush (q := 41) (v := nI 30) dX2_putIn_39 rfl (by decide +kernel) ?_
          refine V.icmp_gt (t := 54) (q := 44) dX2_putIn_41 (by decide) rfl  (fun c41 => ?_) (fun c41 => ?_)
          · refine V.aload_n (q := 55) dX2_putIn_54 rfl rfl ?_
            refine V.bipush (q := 57) (v := (-6)) dX2_putIn_55 rfl (by decide +kernel) ?_
            refine V.cvi1 (q := 60) dX2_putIn_57 rfl kc_X2_53 rfl (by decide) rfl (hB.rm (by decide)) (Nat.le_of_ble_eq_true rfl) (p_refuse hX (k := 6) (v := -6) (by decide) (by decide) (by decide +kernel)) (fun r57 τ57 hp57 => ?_)
            obtain ⟨rfl, hz⟩ := hp57
            rw [hz]
            exact V.ret_int hB dX2_putIn_60 rfl ⟨_, rfl, XP.no hX (by simp [q_putIn, stN_some hk (Nat.le_trans hn6 (by decide)), c18, c23b, c41]) (by decide) (by decide +kernel)⟩
          · refine V.aload_n (q := 45) dX2_putIn_44 rfl rfl ?_
            refine V.getR (q := 48) dX2_putIn_45 rfl kf_X2_12 rfl (by decide) rfl ?_
            refine V.cvi0 (q := 51) dX2_putIn_48 rfl kc_X2_139 rfl (by decide) rfl (hB.rm (by decide)) (Nat.le_of_ble_eq_true rfl) (c_isFull0 t1 hN.n6 hN.n8) (fun r48 τ48 hp48 => ?_)
            obtain ⟨hz, ⟨rfl, hs⟩ | ⟨rfl, hs⟩⟩ := hp48
            · rw [hz]
              refine V.ifN_eq (t := 61) (q := 54) dX2_putIn_51 (by decide) rfl (by omega) (fun c51 => absurd c51 (by decide +kernel)) (fun c51 => ?_)
              refine V.aload_n (q := 55) dX2_putIn_54 rfl rfl ?_
              refine V.bipush (q := 57) (v := (-6)) dX2_putIn_55 rfl (by decide +kernel) ?_
              refine V.cvi1 (q := 60) dX2_putIn_57 rfl kc_X2_53 rfl (by decide) rfl (hB.rm (by decide)) (Nat.le_of_ble_eq_true rfl) (p_refuse hX (k := 6) (v := -6) (by decide) (by decide) (by decide +kernel)) (fun r57 τ57 hp57 => ?_)
              obtain ⟨rfl, hz⟩ := hp57
              rw [hz]
              exact V.ret_int hB dX2_putIn_60 rfl ⟨_, rfl, XP.no hX (by unfold q_putIn; simp only [stN_some hk (Nat.le_trans hn6 (by decide))]; rw [if_neg (fun h9 => h9.elim c18 c23b), if_pos (Or.inr (Or.inr hs))]) (by decide) (by decide +kernel)⟩
            · rw [hz]
              obtain ⟨a, ha0, ha4, rfl⟩ : ∃ a, 0 ≤ a ∧ a ≤ 4 ∧ w = nI a := rof_in (by rw [nI_0]; exact Int32.not_lt.mp c18) (Int32.not_lt.mp c35) (by decide) (by decide)
              obtain ⟨j, hj1, hj2, rfl⟩ : ∃ j, 1 ≤ j ∧ j ≤ 30 ∧ u = nI j := rof_in c23 (Int32.not_lt.mp c41) (by decide) (by decide)
              refine V.ifN_eq (t := 61) (q := 54) dX2_putIn_51 (by decide) rfl (by omega) (fun c51 => ?_) (fun c51 => absurd c51 (by decide +kernel))
              refine V.aload_n (q := 62) dX2_putIn_61 rfl rfl ?_
              refine V.getR (q := 65) dX2_putIn_62 rfl kf_X2_19 rfl (by decide) rfl ?_
              refine V.aload_n (q := 66) dX2_putIn_65 rfl rfl ?_
              refine V.getR (q := 69) dX2_putIn_66 rfl kf_X2_12 rfl (by decide) rfl ?_
              refine V.cvv1 (q := 72) dX2_putIn_69 rfl kc_X2_106 rfl (by decide) rfl (hB.rm (by decide)) (Nat.le_of_ble_eq_true rfl) (c_copyFrom t19 t1 (by decide) hN) (fun τ69 hp69 => ?_)
              obtain ⟨hT1, hF1⟩ := hp69
              refine V.aload_n (q := 73) dX2_putIn_72 rfl rfl ?_
              refine V.getR (q := 76) dX2_putIn_73 rfl kf_X2_19 rfl (by decide) rfl ?_
              refine V.iload_n (q := 77) dX2_putIn_76 rfl rfl ?_
              refine V.iload_n (q := 78) dX2_putIn_77 rfl rfl ?_
              refine V.cvv2 (q := 81) dX2_putIn_78 rfl kc_X2_140 rfl (by decide) rfl (hB.rm (by decide)) (Nat.le_of_ble_eq_true rfl) (c_putBehind t19 hT1 hk hs ha4) (fun τ78 hp78 => ?_)
              obtain ⟨hT2, hF2⟩ := hp78
              refine V.aload_n (q := 82) dX2_putIn_81 rfl rfl ?_
              refine V.getR (q := 85) dX2_putIn_82 rfl kf_X2_19 rfl (by decide) rfl ?_
              refine V.iload_n (q := 86) dX2_putIn_85 rfl rfl ?_
              refine V.cvi1 (q := 89) dX2_putIn_86 rfl kc_X2_110 rfl (by decide) rfl (hB.rm (by decide)) (Nat.le_of_ble_eq_true rfl) (c_mudBehind t19 hT2 (k := j) (by omega)) (fun r86 τ86 hp86 => ?_)
              obtain ⟨rfl, hT3, hF3⟩ := hp86
              exact V.ret_int hB dX2_putIn_89 rfl ⟨_, rfl, XP.yes hX (((Fs.of hF1 (Or.inl rfl)).tr (Fs.of hF2 (Or.inl rfl))).tr (Fs.of hF3 (Or.inl rfl))) (by unfold q_putIn; simp only [stN_some hk (Nat.le_trans hn6 (by decide))]; rw [if_neg (fun h9 => h9.elim c18 c23b), if_neg (fun h9 => h9.elim c35 (fun h8 => h8.elim c41 (fun h7 => by omega))), tn_nI (by omega), tn_nI (by omega)])⟩
      · refine V.aload_n (q := 27) dX2_putIn_26 rfl rfl ?_
        refine V.bipush (q := 29) (v := (-4)) dX2_putIn_27 rfl (by decide +kernel) ?_
        refine V.cvi1 (q := 32) dX2_putIn_29 rfl kc_X2_53 rfl (by decide) rfl (hB.rm (by decide)) (Nat.le_of_ble_eq_true rfl) (p_refuse hX (k := 4) (v := -4) (by decide) (by decide) (by decide +kernel)) (fun r29 τ29 hp29 => ?_)
        obtain ⟨rfl, hz⟩ := hp29
        rw [hz]
        exact V.ret_int hB dX2_putIn_32 rfl ⟨_, rfl, XP.no hX (by simp [q_putIn, stN_some hk (Nat.le_trans hn6 (by decide)), Int32.not_le.mp c23]) (by decide) (by decide +kernel)⟩
  · rw [hz]
    refine V.ifN_ne (t := 17) (q := 11) dX2_putIn_8 (by decide) rfl (by omega) (fun c8 => absurd c8 (by decide +kernel)) (fun c8 => ?_)
    refine V.aload_n (q := 12) dX2_putIn_11 rfl rfl ?_
    refine V.iconst (q := 13) (v := (-1)) dX2_putIn_12 rfl (by decide +kernel) ?_
    refine V.cvi1 (q := 16) dX2_putIn_13 rfl kc_X2_53 rfl (by decide) rfl (hB.rm (by decide)) (Nat.le_of_ble_eq_true rfl) (p_refuse hX (k := 1) (v := -1) (by decide) (by decide) (by decide +kernel)) (fun r13 τ13 hp13 => ?_)
    obtain ⟨rfl, hz⟩ := hp13
    rw [hz]
    exact V.ret_int hB dX2_putIn_16 rfl ⟨_, rfl, XP.no hX (by simp [q_putIn, stN_none hsk]) (by decide) (by decide +kernel)⟩

-- takeOut
set_option maxHeartbeats 4000000 in
set_option maxRecDepth 100000 in
theorem p_takeOut {σ : Sg} {n y : Nat} {τ : Nat → Nat → Nat} {fl n2 y2 : Nat} {τ2 : Nat → Nat → Nat} {m : Nat} {cs : Nat → Nat} {rl : Nat} {ro rc : Nat → Nat} (hX : XR σ n y τ fl n2 y2 τ2 m cs rl ro rc) (v : Int32) (w : Int32) : Con 5 yX2_takeOut cX2_takeOut 5 (some .int) [.ref 0, .int v, .int w] σ (PI (XP σ n y τ fl n2 y2 τ2 m cs rl ro rc (q_takeOut n y τ v w))) := by
  refine Con.of (by decide) (by simp [Value.category]) (Nat.le_of_ble_eq_true rfl) (fun x hB => ?_)
  show V x RX2 cX2_takeOut 5 0 [some (.ref 0), some (.int v), some (.int w), none, none] [] _
  have hN := hX.now
  have hn6 := hN.n6
  have hy9 := hX.y9
  refine V.aload_n (q := 1) dX2_takeOut_0 rfl rfl ?_
  refine V.getR (q := 4) dX2_takeOut_1 rfl kf_X2_12 rfl (by decide) rfl ?_
  refine V.iload_n (q := 5) dX2_takeOut_4 rfl rfl ?_
  refine V.cvi1 (q := 8) dX2_takeOut_5 rfl kc_X2_69 rfl (by decide) rfl (hB.rm (by decide)) (Nat.le_of_ble_eq_true rfl) (c_isStreet t1 hN v) (fun r5 τ5 hp5 => ?_)
  obtain ⟨hz, ⟨rfl, k, hk, rfl⟩ | ⟨rfl, hsk⟩⟩ := hp5
  · rw [hz]
    refine V.iload_n (q := 9) dX2_takeOut_8 rfl rfl ?_
    refine V.iconst (q := 10) (v := nI 1) dX2_takeOut_9 rfl (by decide +kernel) ?_
    refine V.bipush (q := 12) (v := nI 30) dX2_takeOut_10 rfl (by decide +kernel) ?_
    refine V.csi4 (q := 15) dX2_takeOut_12 rfl kc_X2_45 (hB.rm (by decide)) (Nat.le_of_ble_eq_true rfl) (p_rof w 1 30 (by decide) (by decide)) (fun r12 τ12 hp12 => ?_)
    obtain ⟨hz, ⟨hrf, rfl⟩ | ⟨hrf, rfl⟩ | ⟨rfl, j, hj1, hj2, rfl⟩⟩ := hp12
    · rw [hz]
      refine V.ist3 (q := 16) dX2_takeOut_15 rfl ?_
      refine V.iload_n (q := 17) dX2_takeOut_16 rfl rfl ?_
      refine V.if_eq (t := 26) (q := 20) dX2_takeOut_17 (by decide) rfl  (fun c17 => absurd c17 (by decide +kernel)) (fun c17 => ?_)
      refine V.aload_n (q := 21) dX2_takeOut_20 rfl rfl ?_
      refine V.iload_n (q := 22) dX2_takeOut_21 rfl rfl ?_
      refine V.cvi1 (q := 25) dX2_takeOut_22 rfl kc_X2_53 rfl (by decide) rfl (hB.rm (by decide)) (Nat.le_of_ble_eq_true rfl) (p_refuse hX (k := 4) (v := -4) (by decide) (by decide) (by decide +kernel)) (fun r22 τ22 hp22 => ?_)
      obtain ⟨rfl, hz⟩ := hp22
      rw [hz]
      exact V.ret_int hB dX2_takeOut_25 rfl ⟨_, rfl, XP.no hX (by simp [q_takeOut, stN_some hk (Nat.le_trans hn6 (by decide)), rfq_4 hrf]) (by decide) (by decide +kernel)⟩
    · rw [hz]
      refine V.ist3 (q := 16) dX2_takeOut_15 rfl ?_
      refine V.iload_n (q := 17) dX2_takeOut_16 rfl rfl ?_
      refine V.if_eq (t := 26) (q := 20) dX2_takeOut_17 (by decide) rfl  (fun c17 => absurd c17 (by decide +kernel)) (fun c17 => ?_)
      refine V.aload_n (q := 21) dX2_takeOut_20 rfl rfl ?_
      refine V.iload_n (q := 22) dX2_takeOut_21 rfl rfl ?_
      refine V.cvi1 (q := 25) dX2_takeOut_22 rfl kc_X2_53 rfl (by decide) rfl (hB.rm (by decide)) (Nat.le_of_ble_eq_true rfl) (p_refuse hX (k := 6) (v := -6) (by decide) (by decide) (by decide +kernel)) (fun r22 τ22 hp22 => ?_)
      obtain ⟨rfl, hz⟩ := hp22
      rw [hz]
      exact V.ret_int hB dX2_takeOut_25 rfl ⟨_, rfl, XP.no hX (by simp [q_takeOut, stN_some hk (Nat.le_trans hn6 (by decide)), rfq_6 hrf]) (by decide) (by decide +kernel)⟩
    · rw [hz]
      refine V.ist3 (q := 16) dX2_takeOut_15 rfl ?_
      refine V.iload_n (q := 17) dX2_takeOut_16 rfl rfl ?_
      refine V.ifN_eq (t := 26) (q := 20) dX2_takeOut_17 (by decide) rfl (by omega) (fun c17 => ?_) (fun c17 => absurd c17 (by decide +kernel))
      refine V.aload_n (q := 27) dX2_takeOut_26 rfl rfl ?_
      refine V.getR (q := 30) dX2_takeOut_27 rfl kf_X2_19 rfl (by decide) rfl ?_
      refine V.aload_n (q := 31) dX2_takeOut_30 rfl rfl ?_
      refine V.getR (q := 34) dX2_takeOut_31 rfl kf_X2_12 rfl (by decide) rfl ?_
      refine V.cvv1 (q := 37) dX2_takeOut_34 rfl kc_X2_106 rfl (by decide) rfl (hB.rm (by decide)) (Nat.le_of_ble_eq_true rfl) (c_copyFrom t19 t1 (by decide) hN) (fun τ34 hp34 => ?_)
      obtain ⟨hT1, hF1⟩ := hp34
      refine V.aload_n (q := 38) dX2_takeOut_37 rfl rfl ?_
      refine V.getR (q := 41) dX2_takeOut_38 rfl kf_X2_19 rfl (by decide) rfl ?_
      refine V.iload_n (q := 42) dX2_takeOut_41 rfl rfl ?_
      refine V.cvv1 (q := 45) dX2_takeOut_42 rfl kc_X2_144 rfl (by decide) rfl (hB.rm (by decide)) (Nat.le_of_ble_eq_true rfl) (c_leave t19 hT1 hk) (fun τ42 hp42 => ?_)
      obtain ⟨hT2, hF2⟩ := hp42
      refine V.aload_n (q := 46) dX2_takeOut_45 rfl rfl ?_
      refine V.getR (q := 49) dX2_takeOut_46 rfl kf_X2_19 rfl (by decide) rfl ?_
      refine V.iload_n (q := 50) dX2_takeOut_49 rfl rfl ?_
      refine V.cvi1 (q := 53) dX2_takeOut_50 rfl kc_X2_110 rfl (by decide) rfl (hB.rm (by decide)) (Nat.le_of_ble_eq_true rfl) (c_mudBehind t19 hT2 (k := j) (by omega)) (fun r50 τ50 hp50 => ?_)
      obtain ⟨rfl, hT3, hF3⟩ := hp50
      refine V.ist4 (q := 55) dX2_takeOut_53 rfl ?_
      refine V.iload (q := 57) dX2_takeOut_55 rfl rfl ?_
      refine V.aload_n (q := 58) dX2_takeOut_57 rfl rfl ?_
      refine V.getR (q := 61) dX2_takeOut_58 rfl kf_X2_19 rfl (by decide) rfl ?_
      refine V.iload_n (q := 62) dX2_takeOut_61 rfl rfl ?_
      refine V.cvi1 (q := 65) dX2_takeOut_62 rfl kc_X2_148 rfl (by decide) rfl (hB.rm (by decide)) (Nat.le_of_ble_eq_true rfl) (c_mudOf t19 hT3 hk) (fun r62 τ62 hp62 => ?_)
      obtain ⟨rfl, hz⟩ := hp62
      rw [hz]
      refine V.isub (q := 66) dX2_takeOut_65 rfl ?_
      exact V.ret_int hB dX2_takeOut_66 rfl ⟨_, rfl, XP.yes hX (((Fs.of hF1 (Or.inl rfl)).tr (Fs.of hF2 (Or.inl rfl))).tr (Fs.of hF3 (Or.inl rfl))) (by unfold q_takeOut; simp only [stN_some hk (Nat.le_trans hn6 (by decide))]; rw [rfq_in hj1 hj2 (by decide), tn_nI (by omega)])⟩
  · rw [hz]
    refine V.iload_n (q := 9) dX2_takeOut_8 rfl rfl ?_
    refine V.iconst (q := 10) (v := nI 1) dX2_takeOut_9 rfl (by decide +kernel) ?_
    refine V.bipush (q := 12) (v := nI 30) dX2_takeOut_10 rfl (by decide +kernel) ?_
    refine V.csi4 (q := 15) dX2_takeOut_12 rfl kc_X2_45 (hB.rm (by decide)) (Nat.le_of_ble_eq_true rfl) (p_rof0) (fun r12 τ12 hp12 => ?_)
    obtain ⟨rfl, hz⟩ := hp12
    rw [hz]
    refine V.ist3 (q := 16) dX2_takeOut_15 rfl ?_
    refine V.iload_n (q := 17) dX2_takeOut_16 rfl rfl ?_
    refine V.if_eq (t := 26) (q := 20) dX2_takeOut_17 (by decide) rfl  (fun c17 => absurd c17 (by decide +kernel)) (fun c17 => ?_)
    refine V.aload_n (q := 21) dX2_takeOut_20 rfl rfl ?_
    refine V.iload_n (q := 22) dX2_takeOut_21 rfl rfl ?_
    refine V.cvi1 (q := 25) dX2_takeOut_22 rfl kc_X2_53 rfl (by decide) rfl (hB.rm (by decide)) (Nat.le_of_ble_eq_true rfl) (p_refuse hX (k := 1) (v := -1) (by decide) (by decide) (by decide +kernel)) (fun r22 τ22 hp22 => ?_)
    obtain ⟨rfl, hz⟩ := hp22
    rw [hz]
    exact V.ret_int hB dX2_takeOut_25 rfl ⟨_, rfl, XP.no hX (by simp [q_takeOut, stN_none hsk]) (by decide) (by decide +kernel)⟩

