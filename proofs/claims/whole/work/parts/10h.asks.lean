theorem SA.wo {σ : Sg} {o n y k : Nat} {τ : Nat → Nat → Nat} {v : Int32} (h : SA σ o n y τ) (hk : 2 + 7 * n ≤ k) : SA (w2 σ o k v) o n y τ :=
  ⟨h.1, h.2.1, by rw [w2_nk (by omega)]; exact h.c, by rw [w2_nk (by omega)]; exact h.r, fun i hi f hf => by rw [w2_nk (by omega)]; exact h.a hi f hf, h.w⟩
theorem putM_wf {n k d : Nat} {τ : Nat → Nat → Nat} (h : WFt n τ) (hk : k < n) (hd : d ≤ 4) : WFt (n + 1) (putM n τ k d) := by
  refine WFt.of fun f hf i hi => ?_
  have hk9 := h k hk
  unfold putM
  by_cases e : i = n
  · rw [if_pos e]; unfold okF
    by_cases h3 : f = 3
    · rw [if_pos h3]; subst h3; omega
    · rw [if_neg h3]
      by_cases h5 : f = 5
      · rw [if_pos h5]; subst h5; omega
      · rw [if_neg h5]; omega
  · rw [if_neg e]
    have h9 := h i (by omega)
    by_cases h5 : f = 5 ∧ i = k
    · rw [if_pos h5]; unfold okF; omega
    · rw [if_neg h5]
      have h8 := h.ok (show i < n by omega) f
      unfold okF at h8 ⊢
      refine ⟨h8.1, h8.2.1, h8.2.2.1, h8.2.2.2.1, h8.2.2.2.2.1, fun h7 => ?_, h8.2.2.2.2.2.2⟩
      have := h8.2.2.2.2.2.1 h7
      omega
theorem SA.put {σ : Sg} {n y k d : Nat} {τ : Nat → Nat → Nat} (h : SA σ 45 n y τ) (hz : ∀ f, f < 7 → σ 45 (2 + 7 * n + f) = nI 0) (hk : k < n) (hn : n < 6) (hd : d ≤ 4) : SA (w2 (w2 (w2 (w2 σ 45 (2 + 7 * n + 3) (nI d)) 45 (2 + 7 * n + 5) (nI (τ 5 k))) 45 (2 + 7 * k + 5) (nI n)) 45 0 (nI (n + 1))) 45 (n + 1) y (putM n τ k d) := by
  refine ⟨by omega, h.2.1, by rw [w2_at], ?_, fun i hi f hf => ?_, putM_wf h.w hk hd⟩
  · rw [w2_nk (by omega), w2_nk (by omega), w2_nk (by omega), w2_nk (by omega)]; exact h.r
  · rw [w2_nk (by omega), w2_rd]
    unfold putM
    by_cases e : i = n
    · rw [if_neg (fun q => by omega), if_pos e, w2_rd]
      by_cases h5 : f = 5
      · rw [if_pos ⟨rfl, by omega⟩, if_neg (by omega), if_pos h5]
      · rw [if_neg (fun q => by omega), w2_rd]
        by_cases h3 : f = 3
        · rw [if_pos ⟨rfl, by omega⟩, if_pos h3]
        · rw [if_neg (fun q => by omega), if_neg h3, if_neg h5, e]; exact hz f hf
    · rw [if_neg e]
      by_cases h5 : f = 5 ∧ i = k
      · rw [if_pos ⟨rfl, by omega⟩, if_pos h5]
      · rw [if_neg (fun q => by omega), if_neg h5, w2_nk (by omega), w2_nk (by omega)]
        exact h.a (by omega) f hf
theorem putM_0 {n y k d : Nat} {τ : Nat → Nat → Nat} : ∀ j, yrsM (n + 1) y 6 6 (putM n τ k d) j 1 n = 0 ∧ yrsM (n + 1) y 6 6 (putM n τ k d) j 2 n = 0
  | 0 => by
    show putM n τ k d 1 n = 0 ∧ putM n τ k d 2 n = 0
    simp [putM]
  | j + 1 => by
    obtain ⟨h1, h2⟩ := putM_0 (n := n) (y := y) (k := k) (d := d) (τ := τ) j
    refine ⟨?_, h2⟩
    show m1 (yrsM (n + 1) y 6 6 (putM n τ k d) j) n - _ = 0
    unfold m1; rw [h1, h2]; simp
-- change
set_option maxHeartbeats 4000000 in
set_option maxRecDepth 100000 in
theorem m_change {σ : Sg} {n y : Nat} {τ : Nat → Nat → Nat} {fl n2 y2 : Nat} {τ2 : Nat → Nat → Nat} {m : Nat} {cs : Nat → Nat} {rl : Nat} {ro rc : Nat → Nat} (hX : MR σ n y τ fl n2 y2 τ2 m cs rl ro rc) (v : Int32) : Con 7 yX3_change cX3_change 8 (some .int) [.ref 43, .int v] σ (PI (MP σ n y τ fl n2 y2 τ2 m cs rl ro rc (q_change n y τ v))) := by
  refine Con.of (by decide) (by simp [Value.category]) (Nat.le_of_ble_eq_true rfl) (fun x hB => ?_)
  show V x RX3 cX3_change 8 0 [some (.ref 43), some (.int v), none, none, none, none, none, none] [] _
  have hY := hX.now
  have hS := hY.s
  have hn6 := hS.n6
  have hy9 := hX.y9
  refine V.iload_n (q := 1) dX3_change_0 rfl rfl ?_
  refine V.iconst (q := 2) (v := nI 1) dX3_change_1 rfl (by decide +kernel) ?_
  refine V.bipush (q := 4) (v := nI 30) dX3_change_2 rfl (by decide +kernel) ?_
  refine V.csi3 (q := 7) dX3_change_4 rfl kc_X3_64 (hB.rm (by decide)) (Nat.le_of_ble_eq_true rfl) (m_within v 1 30 (by decide) (by decide)) (fun r4 τ4 hp4 => ?_)
  obtain ⟨hz, ⟨hrf, rfl⟩ | ⟨hrf, rfl⟩ | ⟨rfl, j, hj1, hj2, rfl⟩⟩ := hp4
  · rw [hz]
    refine V.ist2 (q := 8) dX3_change_7 rfl ?_
    refine V.iload_n (q := 9) dX3_change_8 rfl rfl ?_
    refine V.if_eq (t := 18) (q := 12) dX3_change_9 (by decide) rfl  (fun c9 => absurd c9 (by decide +kernel)) (fun c9 => ?_)
    refine V.aload_n (q := 13) dX3_change_12 rfl rfl ?_
    refine V.iload_n (q := 14) dX3_change_13 rfl rfl ?_
    refine V.cvi1 (q := 17) dX3_change_14 rfl kc_X3_71 rfl (by decide) rfl (hB.rm (by decide)) (Nat.le_of_ble_eq_true rfl) (m_refuse hX (k := 4) (v := -4) (by decide) (by decide) (by decide +kernel)) (fun r14 τ14 hp14 => ?_)
    obtain ⟨rfl, hz⟩ := hp14
    rw [hz]
    exact V.ret_int hB dX3_change_17 rfl ⟨_, rfl, MP.no hX (by simp [q_change, rfq_4 hrf]) (by decide) (by decide +kernel)⟩
  · rw [hz]
    refine V.ist2 (q := 8) dX3_change_7 rfl ?_
    refine V.iload_n (q := 9) dX3_change_8 rfl rfl ?_
    refine V.if_eq (t := 18) (q := 12) dX3_change_9 (by decide) rfl  (fun c9 => absurd c9 (by decide +kernel)) (fun c9 => ?_)
    refine V.aload_n (q := 13) dX3_change_12 rfl rfl ?_
    refine V.iload_n (q := 14) dX3_change_13 rfl rfl ?_
    refine V.cvi1 (q := 17) dX3_change_14 rfl kc_X3_71 rfl (by decide) rfl (hB.rm (by decide)) (Nat.le_of_ble_eq_true rfl) (m_refuse hX (k := 6) (v := -6) (by decide) (by decide) (by decide +kernel)) (fun r14 τ14 hp14 => ?_)
    obtain ⟨rfl, hz⟩ := hp14
    rw [hz]
    exact V.ret_int hB dX3_change_17 rfl ⟨_, rfl, MP.no hX (by simp [q_change, rfq_6 hrf]) (by decide) (by decide +kernel)⟩
  · rw [hz]
    refine V.ist2 (q := 8) dX3_change_7 rfl ?_
    refine V.iload_n (q := 9) dX3_change_8 rfl rfl ?_
    refine V.ifN_eq (t := 18) (q := 12) dX3_change_9 (by decide) rfl (by omega) (fun c9 => ?_) (fun c9 => absurd c9 (by decide +kernel))
    refine V.aload_n (q := 19) dX3_change_18 rfl rfl ?_
    refine V.cvv0 (q := 22) dX3_change_19 rfl kc_X3_152 rfl (by decide) rfl (hB.rm (by decide)) (Nat.le_of_ble_eq_true rfl) (m_begins hS) (fun τ19 hp19 => ?_)
    obtain ⟨hM1, hS1, hF1⟩ := hp19
    have hG1 := Gz.rf.c hF1 (by decide)
    have hY1 : YA τ19 n y 6 6 τ := ⟨hS1, by rw [hF1 43 (by decide)]; exact hY.2⟩
    refine V.aload_n (q := 23) dX3_change_22 rfl rfl ?_
    refine V.iload_n (q := 24) dX3_change_23 rfl rfl ?_
    refine V.cvi1 (q := 27) dX3_change_24 rfl kc_X3_165 rfl (by decide) rfl (hB.rm (by decide)) (Nat.le_of_ble_eq_true rfl) (m_mudBehind hY1 hM1 (k := j) (by omega)) (fun r24 τ24 hp24 => ?_)
    obtain ⟨rfl, hY2, hM2, hF2⟩ := hp24
    have hG2 := hG1.y hF2
    have hb7 := sumK_b (yrs_wf (y := y) (z := 6) (l := 6) hn6 hY1.w j) hn6
    refine V.ist3 (q := 28) dX3_change_27 rfl ?_
    refine V.bipush (q := 30) (v := (-9)) dX3_change_28 rfl (by decide +kernel) ?_
    refine V.ist4 (q := 32) dX3_change_30 rfl ?_
    refine V.iconst (q := 33) (v := nI 0) dX3_change_32 rfl (by decide +kernel) ?_
    refine V.ist5 (q := 35) dX3_change_33 rfl ?_
    have loop : ∀ i, i ≤ n → ∀ σ1, YA σ1 n y 6 6 τ → SA σ1 48 n y τ → Gz σ σ1 → ∀ s : Nat × Int32, s = chO (chG n y τ j) n (sumK (yrsM n y 6 6 τ j 1) n, -9) i → s.1 ≤ 54 → ∀ o6 o7, V x RX3 cX3_change 8 35 [some (.ref 43), some (.int (nI j)), some (.int (nI 0)), some (.int (nI s.1)), some (.int s.2), some (.int (nI i)), o6, o7] [] σ1 := by
      refine down n (fun i hi ih σ1 hY3 hM3 hG3 s es hs o6 o7 => ?_)
      have hS3 := hY3.s
      refine V.iload (q := 37) dX3_change_35 rfl rfl ?_
      refine V.aload_n (q := 38) dX3_change_37 rfl rfl ?_
      refine V.getR (q := 41) dX3_change_38 rfl kf_X3_13 rfl (by decide) rfl ?_
      refine V.iconst (q := 42) (v := nI 0) dX3_change_41 rfl (by decide +kernel) ?_
      refine V.ialdN (q := 43) dX3_change_42 rfl rfl (by decide) (by omega) (by decide) (SA.c hS3) ?_
      refine V.icmpN_ge (t := 110) (q := 46) dX3_change_43 (by decide) rfl (by omega) (by omega) (fun c43 => ?_) (fun c43 => ?_)
      · have ei : n = i := by omega
        subst ei
        refine V.iload (q := 112) dX3_change_110 rfl rfl ?_
        exact V.ret_int hB dX3_change_112 rfl ⟨_, rfl, MP.yes hX (hY3) (hG3) (by unfold q_change; rw [rfq_in hj1 hj2 (by decide), tn_nI (by omega), es]; rfl)⟩
      · refine V.iconst (q := 47) (v := nI 0) dX3_change_46 rfl (by decide +kernel) ?_
        refine V.ist6 (q := 49) dX3_change_47 rfl ?_
        have loop2 : ∀ o, o ≤ n → ∀ σ2, YA σ2 n y 6 6 τ → SA σ2 48 n y τ → Gz σ σ2 → ∀ s2 : Nat × Int32, s2 = chI (chG n y τ j) i s o → s2.1 ≤ 54 → ∀ o7, V x RX3 cX3_change 8 49 [some (.ref 43), some (.int (nI j)), some (.int (nI 0)), some (.int (nI s2.1)), some (.int s2.2), some (.int (nI i)), some (.int (nI o)), o7] [] σ2 := by
          refine down n (fun o ho ih2 σ2 hY4 hM4 hG4 s2 es2 hs2 o7 => ?_)
          have hS4 := hY4.s
          refine V.iload (q := 51) dX3_change_49 rfl rfl ?_
          refine V.aload_n (q := 52) dX3_change_51 rfl rfl ?_
          refine V.getR (q := 55) dX3_change_52 rfl kf_X3_13 rfl (by decide) rfl ?_
          refine V.iconst (q := 56) (v := nI 0) dX3_change_55 rfl (by decide +kernel) ?_
          refine V.ialdN (q := 57) dX3_change_56 rfl rfl (by decide) (by omega) (by decide) (SA.c hS4) ?_
          refine V.icmpN_ge (t := 104) (q := 60) dX3_change_57 (by decide) rfl (by omega) (by omega) (fun c57 => ?_) (fun c57 => ?_)
          · have eo : n = o := by omega
            subst eo
            refine V.inc5 (q := 107) dX3_change_104 rfl (inc1 _) ?_
            refine V.goto (q := 35) dX3_change_107 (by decide) ?_
            exact ih c43 _ hY4 hM4 hG4 s2 (by rw [es2, es]; rfl) hs2 _ _
          · refine V.aload_n (q := 61) dX3_change_60 rfl rfl ?_
            refine V.iload (q := 63) dX3_change_61 rfl rfl ?_
            refine V.iconst (q := 64) (v := nI 5) dX3_change_63 rfl (by decide +kernel) ?_
            refine V.iload (q := 66) dX3_change_64 rfl rfl ?_
            refine V.cvv3 (q := 69) dX3_change_66 rfl kc_X3_116 rfl (by decide) rfl (hB.rm (by decide)) (Nat.le_of_ble_eq_true rfl) (m_puts (by omega)) (fun τ66 hp66 => ?_)
            subst hp66
            have hY5 := hY4.wr (f := 5) (v := o) (by decide) c43 (by unfold okF; omega)
            have hM5 := hM4.ww (o1 := 45) (k := 2 + 7 * i + 5) (v := nI o) (by decide)
            have hG5 := hG4.w (o := 45) (k := 2 + 7 * i + 5) (v := nI o) (by decide)
            refine V.aload_n (q := 70) dX3_change_69 rfl rfl ?_
            refine V.iload_n (q := 71) dX3_change_70 rfl rfl ?_
            refine V.cvi1 (q := 74) dX3_change_71 rfl kc_X3_165 rfl (by decide) rfl (hB.rm (by decide)) (Nat.le_of_ble_eq_true rfl) (m_mudBehind hY5 hM5 (k := j) (by omega)) (fun r71 τ71 hp71 => ?_)
            obtain ⟨rfl, hY6, hM6, hF6⟩ := hp71
            have hG6 := hG5.y hF6
            have hb7 := sumK_b (yrs_wf (y := y) (z := 6) (l := 6) hn6 hY5.w j) hn6
            refine V.ist7 (q := 76) dX3_change_74 rfl ?_
            refine V.iload (q := 78) dX3_change_76 rfl rfl ?_
            refine V.iload_n (q := 79) dX3_change_78 rfl rfl ?_
            refine V.icmpN_lt (t := 85) (q := 82) dX3_change_79 (by decide) rfl (by omega) (by omega) (fun c79 => ?_) (fun c79 => ?_)
            · refine V.iload (q := 87) dX3_change_85 rfl rfl ?_
              refine V.ist3 (q := 88) dX3_change_87 rfl ?_
              refine V.bipush (q := 90) (v := nI 10) dX3_change_88 rfl (by decide +kernel) ?_
              refine V.iload (q := 92) dX3_change_90 rfl rfl ?_
              refine V.imulN (q := 93) dX3_change_92 rfl ?_
              refine V.iload (q := 95) dX3_change_93 rfl rfl ?_
              refine V.iaddN (q := 96) dX3_change_95 rfl ?_
              refine V.ist4 (q := 98) dX3_change_96 rfl ?_
              refine V.inc6 (q := 101) dX3_change_98 rfl (inc1 _) ?_
              refine V.goto (q := 49) dX3_change_101 (by decide) ?_
              exact ih2 c57 _ hY6 hM6 hG6 (sumK (yrsM n y 6 6 (setF τ 5 (upN (τ 5) i o)) j 1) n, nI (10 * i + o)) (by rw [chI_y (g := chG n y τ j) (by rw [← es2]; exact c79)]; rfl) hb7 _
            · refine V.goto (q := 98) dX3_change_82 (by decide) ?_
              refine V.inc6 (q := 101) dX3_change_98 rfl (inc1 _) ?_
              refine V.goto (q := 49) dX3_change_101 (by decide) ?_
              exact ih2 c57 _ hY6 hM6 hG6 s2 (by rw [chI_n (g := chG n y τ j) (by rw [← es2]; exact Nat.not_lt.mpr c79)]; exact es2) hs2 _
        exact loop2 0 (Nat.zero_le _) σ1 hY3 hM3 hG3 s rfl hs _
    exact loop 0 (Nat.zero_le _) _ hY2 hM2 hG2 (sumK (yrsM n y 6 6 τ j 1) n, -9) rfl hb7 _ _

-- cure
set_option maxHeartbeats 4000000 in
set_option maxRecDepth 100000 in
theorem m_cure {σ : Sg} {n y : Nat} {τ : Nat → Nat → Nat} {fl n2 y2 : Nat} {τ2 : Nat → Nat → Nat} {m : Nat} {cs : Nat → Nat} {rl : Nat} {ro rc : Nat → Nat} (hX : MR σ n y τ fl n2 y2 τ2 m cs rl ro rc) (v : Int32) (w : Int32) : Con 7 yX3_cure cX3_cure 8 (some .int) [.ref 43, .int v, .int w] σ (PI (MP σ n y τ fl n2 y2 τ2 m cs rl ro rc (q_cure n y τ v w))) := by
  refine Con.of (by decide) (by simp [Value.category]) (Nat.le_of_ble_eq_true rfl) (fun x hB => ?_)
  show V x RX3 cX3_cure 8 0 [some (.ref 43), some (.int v), some (.int w), none, none, none, none, none] [] _
  have hY := hX.now
  have hS := hY.s
  have hn6 := hS.n6
  have hy9 := hX.y9
  refine V.aload_n (q := 1) dX3_cure_0 rfl rfl ?_
  refine V.iload_n (q := 2) dX3_cure_1 rfl rfl ?_
  refine V.cvi1 (q := 5) dX3_cure_2 rfl kc_X3_142 rfl (by decide) rfl (hB.rm (by decide)) (Nat.le_of_ble_eq_true rfl) (m_isStreet hS v) (fun r2 τ2 hp2 => ?_)
  obtain ⟨hz, ⟨rfl, k, hk, rfl⟩ | ⟨rfl, hsk⟩⟩ := hp2
  · rw [hz]
    refine V.ifN_eq (t := 18) (q := 8) dX3_cure_5 (by decide) rfl (by omega) (fun c5 => absurd c5 (by decide +kernel)) (fun c5 => ?_)
    refine V.iload_n (q := 9) dX3_cure_8 rfl rfl ?_
    refine V.iconst (q := 10) (v := nI 1) dX3_cure_9 rfl (by decide +kernel) ?_
    refine V.bipush (q := 12) (v := nI 30) dX3_cure_10 rfl (by decide +kernel) ?_
    refine V.csi3 (q := 15) dX3_cure_12 rfl kc_X3_64 (hB.rm (by decide)) (Nat.le_of_ble_eq_true rfl) (m_within w 1 30 (by decide) (by decide)) (fun r12 τ12 hp12 => ?_)
    obtain ⟨hz, ⟨hrf, rfl⟩ | ⟨hrf, rfl⟩ | ⟨rfl, j, hj1, hj2, rfl⟩⟩ := hp12
    · rw [hz]
      refine V.goto (q := 19) dX3_cure_15 (by decide) ?_
      refine V.ist3 (q := 20) dX3_cure_19 rfl ?_
      refine V.iload_n (q := 21) dX3_cure_20 rfl rfl ?_
      refine V.if_eq (t := 30) (q := 24) dX3_cure_21 (by decide) rfl  (fun c21 => absurd c21 (by decide +kernel)) (fun c21 => ?_)
      refine V.aload_n (q := 25) dX3_cure_24 rfl rfl ?_
      refine V.iload_n (q := 26) dX3_cure_25 rfl rfl ?_
      refine V.cvi1 (q := 29) dX3_cure_26 rfl kc_X3_71 rfl (by decide) rfl (hB.rm (by decide)) (Nat.le_of_ble_eq_true rfl) (m_refuse hX (k := 4) (v := -4) (by decide) (by decide) (by decide +kernel)) (fun r26 τ26 hp26 => ?_)
      obtain ⟨rfl, hz⟩ := hp26
      rw [hz]
      exact V.ret_int hB dX3_cure_29 rfl ⟨_, rfl, MP.no hX (by simp [q_cure, stN_some hk (Nat.le_trans hn6 (by decide)), rfq_4 hrf]) (by decide) (by decide +kernel)⟩
    · rw [hz]
      refine V.goto (q := 19) dX3_cure_15 (by decide) ?_
      refine V.ist3 (q := 20) dX3_cure_19 rfl ?_
      refine V.iload_n (q := 21) dX3_cure_20 rfl rfl ?_
      refine V.if_eq (t := 30) (q := 24) dX3_cure_21 (by decide) rfl  (fun c21 => absurd c21 (by decide +kernel)) (fun c21 => ?_)
      refine V.aload_n (q := 25) dX3_cure_24 rfl rfl ?_
      refine V.iload_n (q := 26) dX3_cure_25 rfl rfl ?_
      refine V.cvi1 (q := 29) dX3_cure_26 rfl kc_X3_71 rfl (by decide) rfl (hB.rm (by decide)) (Nat.le_of_ble_eq_true rfl) (m_refuse hX (k := 6) (v := -6) (by decide) (by decide) (by decide +kernel)) (fun r26 τ26 hp26 => ?_)
      obtain ⟨rfl, hz⟩ := hp26
      rw [hz]
      exact V.ret_int hB dX3_cure_29 rfl ⟨_, rfl, MP.no hX (by simp [q_cure, stN_some hk (Nat.le_trans hn6 (by decide)), rfq_6 hrf]) (by decide) (by decide +kernel)⟩
    · rw [hz]
      refine V.goto (q := 19) dX3_cure_15 (by decide) ?_
      refine V.ist3 (q := 20) dX3_cure_19 rfl ?_
      refine V.iload_n (q := 21) dX3_cure_20 rfl rfl ?_
      refine V.ifN_eq (t := 30) (q := 24) dX3_cure_21 (by decide) rfl (by omega) (fun c21 => ?_) (fun c21 => absurd c21 (by decide +kernel))
      refine V.aload_n (q := 31) dX3_cure_30 rfl rfl ?_
      refine V.cvv0 (q := 34) dX3_cure_31 rfl kc_X3_152 rfl (by decide) rfl (hB.rm (by decide)) (Nat.le_of_ble_eq_true rfl) (m_begins hS) (fun τ31 hp31 => ?_)
      obtain ⟨hM1, hS1, hF1⟩ := hp31
      have hG1 := Gz.rf.c hF1 (by decide)
      have hY1 : YA τ31 n y 6 6 τ := ⟨hS1, by rw [hF1 43 (by decide)]; exact hY.2⟩
      refine V.bipush (q := 36) (v := (-9)) dX3_cure_34 rfl (by decide +kernel) ?_
      refine V.ist4 (q := 38) dX3_cure_36 rfl ?_
      refine V.iconst (q := 39) (v := nI 0) dX3_cure_38 rfl (by decide +kernel) ?_
      refine V.ist5 (q := 41) dX3_cure_39 rfl ?_
      refine V.iconst (q := 42) (v := nI 0) dX3_cure_41 rfl (by decide +kernel) ?_
      refine V.ist6 (q := 44) dX3_cure_42 rfl ?_
      have loop : ∀ a, a ≤ 6 → ∀ σ1, YA σ1 n y 6 6 τ → SA σ1 48 n y τ → Gz σ σ1 → ∀ (b : Int32) (q : Nat), ((a = 0 ∧ b = -9 ∧ q = 0) ∨ (0 < a ∧ b = nI (cuK (cuG n y τ j k) a).2 ∧ q = (cuK (cuG n y τ j k) a).1 ∧ (cuK (cuG n y τ j k) a).2 ≤ 6 ∧ (cuK (cuG n y τ j k) a).1 ≤ 54)) → ∀ o7, V x RX3 cX3_cure 8 44 [some (.ref 43), some (.int (nI k)), some (.int (nI j)), some (.int (nI 0)), some (.int b), some (.int (nI q)), some (.int (nI a)), o7] [] σ1 := by
        refine down 6 (fun a ha ih σ1 hY1 hM1 hG1 b q hv o7 => ?_)
        have hS1 := hY1.s
        refine V.iload (q := 46) dX3_cure_44 rfl rfl ?_
        refine V.bipush (q := 48) (v := nI 6) dX3_cure_46 rfl (by decide +kernel) ?_
        refine V.icmpN_ge (t := 95) (q := 51) dX3_cure_48 (by decide) rfl (by omega) (by omega) (fun c48 => ?_) (fun c48 => ?_)
        · have ea : a = 6 := by omega
          subst ea
          refine V.iload (q := 97) dX3_cure_95 rfl rfl ?_
          exact V.ret_int hB dX3_cure_97 rfl ⟨_, rfl, MP.yes hX (hY1) (hG1) (by
      rcases hv with ⟨e0, -, -⟩ | ⟨-, rfl, -, -, -⟩
      · omega
      · unfold q_cure; simp only [stN_some hk (Nat.le_trans hn6 (by decide))]; rw [rfq_in hj1 hj2 (by decide), tn_nI (by omega)])⟩
        · refine V.aload_n (q := 52) dX3_cure_51 rfl rfl ?_
          refine V.iload_n (q := 53) dX3_cure_52 rfl rfl ?_
          refine V.iconst (q := 54) (v := nI 0) dX3_cure_53 rfl (by decide +kernel) ?_
          refine V.iload (q := 56) dX3_cure_54 rfl rfl ?_
          refine V.cvv3 (q := 59) dX3_cure_56 rfl kc_X3_116 rfl (by decide) rfl (hB.rm (by decide)) (Nat.le_of_ble_eq_true rfl) (m_puts (by omega)) (fun τ56 hp56 => ?_)
          subst hp56
          have hY2 := hY1.wr (f := 0) (v := a) (by decide) hk (by unfold okF; omega)
          have hM2 := hM1.ww (o1 := 45) (k := 2 + 7 * k + 0) (v := nI a) (by decide)
          have hG2 := hG1.w (o := 45) (k := 2 + 7 * k + 0) (v := nI a) (by decide)
          refine V.aload_n (q := 60) dX3_cure_59 rfl rfl ?_
          refine V.iload_n (q := 61) dX3_cure_60 rfl rfl ?_
          refine V.cvi1 (q := 64) dX3_cure_61 rfl kc_X3_165 rfl (by decide) rfl (hB.rm (by decide)) (Nat.le_of_ble_eq_true rfl) (m_mudBehind hY2 hM2 (k := j) (by omega)) (fun r61 τ61 hp61 => ?_)
          obtain ⟨rfl, hY3, hM3, hF3⟩ := hp61
          have hG3 := hG2.y hF3
          have hb7 := sumK_b (yrs_wf (y := y) (z := 6) (l := 6) hn6 hY2.w j) hn6
          refine V.ist7 (q := 66) dX3_cure_64 rfl ?_
          rcases hv with ⟨e0, rfl, rfl⟩ | ⟨e0, rfl, rfl, hq6, hq54⟩
          · skip
            refine V.iload (q := 68) dX3_cure_66 rfl rfl ?_
            refine V.if_lt (t := 81) (q := 71) dX3_cure_68 (by decide) rfl  (fun c68 => ?_) (fun c68 => absurd c68 (by decide +kernel))
            refine V.iload (q := 83) dX3_cure_81 rfl rfl ?_
            refine V.ist4 (q := 85) dX3_cure_83 rfl ?_
            refine V.iload (q := 87) dX3_cure_85 rfl rfl ?_
            refine V.ist5 (q := 89) dX3_cure_87 rfl ?_
            refine V.inc6 (q := 92) dX3_cure_89 rfl (inc1 _) ?_
            refine V.goto (q := 44) dX3_cure_92 (by decide) ?_
            have h55 : (cuK (cuG n y τ j k) (a + 1)) = (sumK (yrsM n y 6 6 (setF τ 0 (upN (τ 0) k a)) j 1) n, a) := by
              subst e0; exact cuK_y (g := cuG n y τ j k) (by show _ < 55; exact Nat.lt_of_le_of_lt hb7 (by decide))
            exact ih c48 _ hY3 hM3 hG3 _ _ (Or.inr ⟨by omega, by rw [h55], by rw [h55], by rw [h55]; show a ≤ 6; omega, by rw [h55]; exact hb7⟩) _
          · skip
            refine V.iload (q := 68) dX3_cure_66 rfl rfl ?_
            refine V.ifN_lt (t := 81) (q := 71) dX3_cure_68 (by decide) rfl (by omega) (fun c68 => absurd c68 (by omega)) (fun c68 => ?_)
            refine V.iload (q := 73) dX3_cure_71 rfl rfl ?_
            refine V.iload (q := 75) dX3_cure_73 rfl rfl ?_
            refine V.icmpN_lt (t := 81) (q := 78) dX3_cure_75 (by decide) rfl (by omega) (by omega) (fun c75 => ?_) (fun c75 => ?_)
            · refine V.iload (q := 83) dX3_cure_81 rfl rfl ?_
              refine V.ist4 (q := 85) dX3_cure_83 rfl ?_
              refine V.iload (q := 87) dX3_cure_85 rfl rfl ?_
              refine V.ist5 (q := 89) dX3_cure_87 rfl ?_
              refine V.inc6 (q := 92) dX3_cure_89 rfl (inc1 _) ?_
              refine V.goto (q := 44) dX3_cure_92 (by decide) ?_
              have h55 : (cuK (cuG n y τ j k) (a + 1)) = (sumK (yrsM n y 6 6 (setF τ 0 (upN (τ 0) k a)) j 1) n, a) := cuK_y (g := cuG n y τ j k) c75
              exact ih c48 _ hY3 hM3 hG3 _ _ (Or.inr ⟨by omega, by rw [h55], by rw [h55], by rw [h55]; show a ≤ 6; omega, by rw [h55]; exact hb7⟩) _
            · refine V.goto (q := 89) dX3_cure_78 (by decide) ?_
              refine V.inc6 (q := 92) dX3_cure_89 rfl (inc1 _) ?_
              refine V.goto (q := 44) dX3_cure_92 (by decide) ?_
              have h55 : (cuK (cuG n y τ j k) (a + 1)) = cuK (cuG n y τ j k) a := cuK_n (g := cuG n y τ j k) (Nat.not_lt.mpr c75)
              exact ih c48 _ hY3 hM3 hG3 _ _ (Or.inr ⟨by omega, by rw [h55], by rw [h55], by rw [h55]; exact hq6, by rw [h55]; exact hq54⟩) _
      exact loop 0 (by decide) _ hY1 hM1 hG1 _ 0 (Or.inl ⟨rfl, rfl, rfl⟩) _
  · rw [hz]
    refine V.ifN_eq (t := 18) (q := 8) dX3_cure_5 (by decide) rfl (by omega) (fun c5 => ?_) (fun c5 => absurd c5 (by decide +kernel))
    refine V.iconst (q := 19) (v := (-1)) dX3_cure_18 rfl (by decide +kernel) ?_
    refine V.ist3 (q := 20) dX3_cure_19 rfl ?_
    refine V.iload_n (q := 21) dX3_cure_20 rfl rfl ?_
    refine V.if_eq (t := 30) (q := 24) dX3_cure_21 (by decide) rfl  (fun c21 => absurd c21 (by decide +kernel)) (fun c21 => ?_)
    refine V.aload_n (q := 25) dX3_cure_24 rfl rfl ?_
    refine V.iload_n (q := 26) dX3_cure_25 rfl rfl ?_
    refine V.cvi1 (q := 29) dX3_cure_26 rfl kc_X3_71 rfl (by decide) rfl (hB.rm (by decide)) (Nat.le_of_ble_eq_true rfl) (m_refuse hX (k := 1) (v := -1) (by decide) (by decide) (by decide +kernel)) (fun r26 τ26 hp26 => ?_)
    obtain ⟨rfl, hz⟩ := hp26
    rw [hz]
    exact V.ret_int hB dX3_cure_29 rfl ⟨_, rfl, MP.no hX (by simp [q_cure, stN_none hsk]) (by decide) (by decide +kernel)⟩

-- takeOut
set_option maxHeartbeats 4000000 in
set_option maxRecDepth 100000 in
theorem m_takeOut {σ : Sg} {n y : Nat} {τ : Nat → Nat → Nat} {fl n2 y2 : Nat} {τ2 : Nat → Nat → Nat} {m : Nat} {cs : Nat → Nat} {rl : Nat} {ro rc : Nat → Nat} (hX : MR σ n y τ fl n2 y2 τ2 m cs rl ro rc) (v : Int32) (w : Int32) : Con 6 yX3_takeOut cX3_takeOut 6 (some .int) [.ref 43, .int v, .int w] σ (PI (MP σ n y τ fl n2 y2 τ2 m cs rl ro rc (q_takeOut n y τ v w))) := by
  refine Con.of (by decide) (by simp [Value.category]) (Nat.le_of_ble_eq_true rfl) (fun x hB => ?_)
  show V x RX3 cX3_takeOut 6 0 [some (.ref 43), some (.int v), some (.int w), none, none, none] [] _
  have hY := hX.now
  have hS := hY.s
  have hn6 := hS.n6
  have hy9 := hX.y9
  refine V.aload_n (q := 1) dX3_takeOut_0 rfl rfl ?_
  refine V.iload_n (q := 2) dX3_takeOut_1 rfl rfl ?_
  refine V.cvi1 (q := 5) dX3_takeOut_2 rfl kc_X3_142 rfl (by decide) rfl (hB.rm (by decide)) (Nat.le_of_ble_eq_true rfl) (m_isStreet hS v) (fun r2 τ2 hp2 => ?_)
  obtain ⟨hz, ⟨rfl, k, hk, rfl⟩ | ⟨rfl, hsk⟩⟩ := hp2
  · rw [hz]
    refine V.ifN_eq (t := 18) (q := 8) dX3_takeOut_5 (by decide) rfl (by omega) (fun c5 => absurd c5 (by decide +kernel)) (fun c5 => ?_)
    refine V.iload_n (q := 9) dX3_takeOut_8 rfl rfl ?_
    refine V.iconst (q := 10) (v := nI 1) dX3_takeOut_9 rfl (by decide +kernel) ?_
    refine V.bipush (q := 12) (v := nI 30) dX3_takeOut_10 rfl (by decide +kernel) ?_
    refine V.csi3 (q := 15) dX3_takeOut_12 rfl kc_X3_64 (hB.rm (by decide)) (Nat.le_of_ble_eq_true rfl) (m_within w 1 30 (by decide) (by decide)) (fun r12 τ12 hp12 => ?_)
    obtain ⟨hz, ⟨hrf, rfl⟩ | ⟨hrf, rfl⟩ | ⟨rfl, j, hj1, hj2, rfl⟩⟩ := hp12
    · rw [hz]
      refine V.goto (q := 19) dX3_takeOut_15 (by decide) ?_
      refine V.ist3 (q := 20) dX3_takeOut_19 rfl ?_
      refine V.iload_n (q := 21) dX3_takeOut_20 rfl rfl ?_
      refine V.if_eq (t := 30) (q := 24) dX3_takeOut_21 (by decide) rfl  (fun c21 => absurd c21 (by decide +kernel)) (fun c21 => ?_)
      refine V.aload_n (q := 25) dX3_takeOut_24 rfl rfl ?_
      refine V.iload_n (q := 26) dX3_takeOut_25 rfl rfl ?_
      refine V.cvi1 (q := 29) dX3_takeOut_26 rfl kc_X3_71 rfl (by decide) rfl (hB.rm (by decide)) (Nat.le_of_ble_eq_true rfl) (m_refuse hX (k := 4) (v := -4) (by decide) (by decide) (by decide +kernel)) (fun r26 τ26 hp26 => ?_)
      obtain ⟨rfl, hz⟩ := hp26
      rw [hz]
      exact V.ret_int hB dX3_takeOut_29 rfl ⟨_, rfl, MP.no hX (by simp [q_takeOut, stN_some hk (Nat.le_trans hn6 (by decide)), rfq_4 hrf]) (by decide) (by decide +kernel)⟩
    · rw [hz]
      refine V.goto (q := 19) dX3_takeOut_15 (by decide) ?_
      refine V.ist3 (q := 20) dX3_takeOut_19 rfl ?_
      refine V.iload_n (q := 21) dX3_takeOut_20 rfl rfl ?_
      refine V.if_eq (t := 30) (q := 24) dX3_takeOut_21 (by decide) rfl  (fun c21 => absurd c21 (by decide +kernel)) (fun c21 => ?_)
      refine V.aload_n (q := 25) dX3_takeOut_24 rfl rfl ?_
      refine V.iload_n (q := 26) dX3_takeOut_25 rfl rfl ?_
      refine V.cvi1 (q := 29) dX3_takeOut_26 rfl kc_X3_71 rfl (by decide) rfl (hB.rm (by decide)) (Nat.le_of_ble_eq_true rfl) (m_refuse hX (k := 6) (v := -6) (by decide) (by decide) (by decide +kernel)) (fun r26 τ26 hp26 => ?_)
      obtain ⟨rfl, hz⟩ := hp26
      rw [hz]
      exact V.ret_int hB dX3_takeOut_29 rfl ⟨_, rfl, MP.no hX (by simp [q_takeOut, stN_some hk (Nat.le_trans hn6 (by decide)), rfq_6 hrf]) (by decide) (by decide +kernel)⟩
    · rw [hz]
      refine V.goto (q := 19) dX3_takeOut_15 (by decide) ?_
      refine V.ist3 (q := 20) dX3_takeOut_19 rfl ?_
      refine V.iload_n (q := 21) dX3_takeOut_20 rfl rfl ?_
      refine V.ifN_eq (t := 30) (q := 24) dX3_takeOut_21 (by decide) rfl (by omega) (fun c21 => ?_) (fun c21 => absurd c21 (by decide +kernel))
      refine V.aload_n (q := 31) dX3_takeOut_30 rfl rfl ?_
      refine V.cvv0 (q := 34) dX3_takeOut_31 rfl kc_X3_152 rfl (by decide) rfl (hB.rm (by decide)) (Nat.le_of_ble_eq_true rfl) (m_begins hS) (fun τ31 hp31 => ?_)
      obtain ⟨hM1, hS1, hF1⟩ := hp31
      have hG1 := Gz.rf.c hF1 (by decide)
      have hY1 : YA τ31 n y 6 6 τ := ⟨hS1, by rw [hF1 43 (by decide)]; exact hY.2⟩
      refine V.aload_n (q := 35) dX3_takeOut_34 rfl rfl ?_
      refine V.iload_n (q := 36) dX3_takeOut_35 rfl rfl ?_
      refine V.iconst (q := 37) (v := nI 5) dX3_takeOut_36 rfl (by decide +kernel) ?_
      refine V.cvi2 (q := 40) dX3_takeOut_37 rfl kc_X3_109 rfl (by decide) rfl (hB.rm (by decide)) (Nat.le_of_ble_eq_true rfl) (m_get hS1 (by omega) 5 (by decide)) (fun r37 τ37 hp37 => ?_)
      obtain ⟨rfl, hz⟩ := hp37
      rw [hz]
      refine V.ist4 (q := 42) dX3_takeOut_40 rfl ?_
      refine V.iconst (q := 43) (v := nI 0) dX3_takeOut_42 rfl (by decide +kernel) ?_
      refine V.ist5 (q := 45) dX3_takeOut_43 rfl ?_
      have loop : ∀ i, i ≤ n → ∀ σ1, YA σ1 n y 6 6 (setF τ 5 (fun q => if q < i ∧ τ 5 q = k then τ 5 k else τ 5 q)) → SA σ1 48 n y τ → Gz σ σ1 → V x RX3 cX3_takeOut 6 45 [some (.ref 43), some (.int (nI k)), some (.int (nI j)), some (.int (nI 0)), some (.int (nI (τ 5 k))), some (.int (nI i))] [] σ1 := by
        refine down n (fun i hi ih σ1 hY2 hM2 hG2 => ?_)
        have hS2 := hY2.s
        refine V.iload (q := 47) dX3_takeOut_45 rfl rfl ?_
        refine V.aload_n (q := 48) dX3_takeOut_47 rfl rfl ?_
        refine V.getR (q := 51) dX3_takeOut_48 rfl kf_X3_13 rfl (by decide) rfl ?_
        refine V.iconst (q := 52) (v := nI 0) dX3_takeOut_51 rfl (by decide +kernel) ?_
        refine V.ialdN (q := 53) dX3_takeOut_52 rfl rfl (by decide) (by omega) (by decide) (SA.c hS2) ?_
        refine V.icmpN_ge (t := 88) (q := 56) dX3_takeOut_53 (by decide) rfl (by omega) (by omega) (fun c53 => ?_) (fun c53 => ?_)
        · have ei : n = i := by omega
          subst ei
          refine V.aload_n (q := 89) dX3_takeOut_88 rfl rfl ?_
          refine V.iload_n (q := 90) dX3_takeOut_89 rfl rfl ?_
          refine V.putI (q := 93) dX3_takeOut_90 rfl kp_X3_29 rfl (by decide) rfl rfl rfl ?_
          have hY4 : YA (w2 σ1 43 7 (nI k)) n y 6 k (leaveM τ k) := by
            have h9 := (hY2.cg (υ := leaveM τ k) (fun f hf q hq => by
              unfold leaveM
              by_cases h5 : f = 5
              · subst h5; rw [setF_at, setF_at]
                by_cases h7 : τ 5 q = k
                · rw [if_pos ⟨hq, h7⟩, if_pos h7]
                · rw [if_neg (fun h8 => h7 h8.2), if_neg h7]
              · rw [setF_ne h5, setF_ne h5])).wl (l2 := k)
            rw [n9_in (by omega)] at h9
            exact h9
          have hM4 := hM2.ww (o1 := 43) (k := 7) (v := nI k) (by decide)
          have hG4 := hG2.w3 (k := 7) (v := nI k) (by decide)
          refine V.aload_n (q := 94) dX3_takeOut_93 rfl rfl ?_
          refine V.iload_n (q := 95) dX3_takeOut_94 rfl rfl ?_
          refine V.cvv1 (q := 98) dX3_takeOut_95 rfl kc_X3_133 rfl (by decide) rfl (hB.rm (by decide)) (Nat.le_of_ble_eq_true rfl) (m_goesFor hY4 (k := j) (by omega)) (fun τ95 hp95 => ?_)
          obtain ⟨hY5, hF5⟩ := hp95
          have hM5 := hM4.fr (hF5 48 (by decide) (by decide))
          have hG5 := hG4.y hF5
          have hS5 := hY5.s
          refine V.aload_n (q := 99) dX3_takeOut_98 rfl rfl ?_
          refine V.bipush (q := 101) (v := (-9)) dX3_takeOut_99 rfl (by decide +kernel) ?_
          refine V.putI (q := 104) dX3_takeOut_101 rfl kp_X3_29 rfl (by decide) rfl rfl rfl ?_
          have hY6 := hY5.wl (l2 := 6)
          rw [show n9 6 = -9 from rfl] at hY6
          have hM6 := hM5.ww (o1 := 43) (k := 7) (v := -9) (by decide)
          have hG6 := hG5.w3 (k := 7) (v := -9) (by decide)
          have hS6 := hY6.s
          refine V.aload_n (q := 105) dX3_takeOut_104 rfl rfl ?_
          refine V.cvi0 (q := 108) dX3_takeOut_105 rfl kc_X3_136 rfl (by decide) rfl (hB.rm (by decide)) (Nat.le_of_ble_eq_true rfl) (m_allMud hS6) (fun r105 τ105 hp105 => ?_)
          obtain ⟨rfl, hz⟩ := hp105
          rw [hz]
          refine V.aload_n (q := 109) dX3_takeOut_108 rfl rfl ?_
          refine V.iload_n (q := 110) dX3_takeOut_109 rfl rfl ?_
          refine V.iconst (q := 111) (v := nI 1) dX3_takeOut_110 rfl (by decide +kernel) ?_
          refine V.cvi2 (q := 114) dX3_takeOut_111 rfl kc_X3_109 rfl (by decide) rfl (hB.rm (by decide)) (Nat.le_of_ble_eq_true rfl) (m_get hS6 (by omega) 1 (by decide)) (fun r111 τ111 hp111 => ?_)
          obtain ⟨rfl, hz⟩ := hp111
          rw [hz]
          refine V.isub (q := 115) dX3_takeOut_114 rfl ?_
          refine V.ist5 (q := 117) dX3_takeOut_115 rfl ?_
          refine V.aload_n (q := 118) dX3_takeOut_117 rfl rfl ?_
          refine V.cvv0 (q := 121) dX3_takeOut_118 rfl kc_X3_139 rfl (by decide) rfl (hB.rm (by decide)) (Nat.le_of_ble_eq_true rfl) (m_ends hM6) (fun τ118 hp118 => ?_)
          obtain ⟨hS7, hM7, hF7⟩ := hp118
          have hY7 : YA τ118 n y 6 6 τ := ⟨hS7, by rw [hF7 43 (by decide)]; exact hY6.2⟩
          have hG7 := hG6.c hF7 (by decide)
          refine V.iload (q := 123) dX3_takeOut_121 rfl rfl ?_
          exact V.ret_int hB dX3_takeOut_123 rfl ⟨_, rfl, MP.yes hX (hY7) (hG7) (by unfold q_takeOut; simp only [stN_some hk (Nat.le_trans hn6 (by decide))]; rw [rfq_in hj1 hj2 (by decide), tn_nI (by omega)])⟩
        · have hwi := (hS.w i c53).2.2.2.2.2.1
          have hwk := (hS.w k hk).2.2.2.2.2.1
          have e5 : setF τ 5 (fun q => if q < i ∧ τ 5 q = k then τ 5 k else τ 5 q) 5 i = τ 5 i := by rw [setF_at, if_neg (by omega)]
          refine V.iload (q := 58) dX3_takeOut_56 rfl rfl ?_
          refine V.iload_n (q := 59) dX3_takeOut_58 rfl rfl ?_
          refine V.icmpN_eq (t := 82) (q := 62) dX3_takeOut_59 (by decide) rfl (by omega) (by omega) (fun c59 => ?_) (fun c59 => ?_)
          · refine V.inc5 (q := 85) dX3_takeOut_82 rfl (inc1 _) ?_
            refine V.goto (q := 45) dX3_takeOut_85 (by decide) ?_
            exact ih c53 _ (hY2.cg (fun f hf q hq => by
              by_cases h5 : f = 5
              · subst h5; rw [setF_at, setF_at]
                by_cases h6 : q = i
                · subst h6; subst c59
                  rw [if_neg (by omega)]; split <;> rfl
                · by_cases h7 : q < i ∧ τ 5 q = k
                  · rw [if_pos h7, if_pos ⟨by omega, h7.2⟩]
                  · rw [if_neg h7, if_neg (by omega)]
              · rw [setF_ne h5, setF_ne h5])) hM2 hG2
          · refine V.aload_n (q := 63) dX3_takeOut_62 rfl rfl ?_
            refine V.iload (q := 65) dX3_takeOut_63 rfl rfl ?_
            refine V.iconst (q := 66) (v := nI 5) dX3_takeOut_65 rfl (by decide +kernel) ?_
            refine V.cvi2 (q := 69) dX3_takeOut_66 rfl kc_X3_109 rfl (by decide) rfl (hB.rm (by decide)) (Nat.le_of_ble_eq_true rfl) (m_get hS2 (by omega) 5 (by decide)) (fun r66 τ66 hp66 => ?_)
            obtain ⟨rfl, hz⟩ := hp66
            rw [hz, e5]
            refine V.iload_n (q := 70) dX3_takeOut_69 rfl rfl ?_
            refine V.icmpN_ne (t := 82) (q := 73) dX3_takeOut_70 (by decide) rfl (by omega) (by omega) (fun c70 => ?_) (fun c70 => ?_)
            · refine V.inc5 (q := 85) dX3_takeOut_82 rfl (inc1 _) ?_
              refine V.goto (q := 45) dX3_takeOut_85 (by decide) ?_
              exact ih c53 _ (hY2.cg (fun f hf q hq => by
                by_cases h5 : f = 5
                · subst h5; rw [setF_at, setF_at]
                  by_cases h7 : q < i ∧ τ 5 q = k
                  · rw [if_pos h7, if_pos ⟨by omega, h7.2⟩]
                  · rw [if_neg h7, if_neg (fun h8 => by
                      by_cases h6 : q = i
                      · subst h6; exact c70 h8.2
                      · exact h7 ⟨by omega, h8.2⟩)]
                · rw [setF_ne h5, setF_ne h5])) hM2 hG2
            · refine V.aload_n (q := 74) dX3_takeOut_73 rfl rfl ?_
              refine V.iload (q := 76) dX3_takeOut_74 rfl rfl ?_
              refine V.iconst (q := 77) (v := nI 5) dX3_takeOut_76 rfl (by decide +kernel) ?_
              refine V.iload (q := 79) dX3_takeOut_77 rfl rfl ?_
              refine V.cvv3 (q := 82) dX3_takeOut_79 rfl kc_X3_116 rfl (by decide) rfl (hB.rm (by decide)) (Nat.le_of_ble_eq_true rfl) (m_puts (by omega)) (fun τ79 hp79 => ?_)
              subst hp79
              have hY3 := hY2.wr (f := 5) (v := τ 5 k) (by decide) c53 (by unfold okF; omega)
              have hM3 := hM2.ww (o1 := 45) (k := 2 + 7 * i + 5) (v := nI (τ 5 k)) (by decide)
              have hG3 := hG2.w (o := 45) (k := 2 + 7 * i + 5) (v := nI (τ 5 k)) (by decide)
              refine V.inc5 (q := 85) dX3_takeOut_82 rfl (inc1 _) ?_
              refine V.goto (q := 45) dX3_takeOut_85 (by decide) ?_
              exact ih c53 _ (hY3.cg (fun f hf q hq => by
                by_cases h5 : f = 5
                · subst h5; rw [setF_at, setF_at, setF_at]; unfold upN
                  by_cases h6 : q = i
                  · subst h6; rw [if_pos rfl, if_pos ⟨by omega, c70⟩]
                  · rw [if_neg h6]; dsimp only
                    by_cases h7 : q < i ∧ τ 5 q = k
                    · rw [if_pos h7, if_pos ⟨by omega, h7.2⟩]
                    · rw [if_neg h7, if_neg (by omega)]
                · rw [setF_ne h5, setF_ne h5, setF_ne h5])) hM3 hG3
      exact loop 0 (Nat.zero_le _) _ (hY1.cg (fun f hf q hq => by
        by_cases h5 : f = 5
        · subst h5; rw [setF_at, if_neg (by omega)]
        · rw [setF_ne h5])) hM1 hG1
  · rw [hz]
    refine V.ifN_eq (t := 18) (q := 8) dX3_takeOut_5 (by decide) rfl (by omega) (fun c5 => ?_) (fun c5 => absurd c5 (by decide +kernel))
    refine V.iconst (q := 19) (v := (-1)) dX3_takeOut_18 rfl (by decide +kernel) ?_
    refine V.ist3 (q := 20) dX3_takeOut_19 rfl ?_
    refine V.iload_n (q := 21) dX3_takeOut_20 rfl rfl ?_
    refine V.if_eq (t := 30) (q := 24) dX3_takeOut_21 (by decide) rfl  (fun c21 => absurd c21 (by decide +kernel)) (fun c21 => ?_)
    refine V.aload_n (q := 25) dX3_takeOut_24 rfl rfl ?_
    refine V.iload_n (q := 26) dX3_takeOut_25 rfl rfl ?_
    refine V.cvi1 (q := 29) dX3_takeOut_26 rfl kc_X3_71 rfl (by decide) rfl (hB.rm (by decide)) (Nat.le_of_ble_eq_true rfl) (m_refuse hX (k := 1) (v := -1) (by decide) (by decide) (by decide +kernel)) (fun r26 τ26 hp26 => ?_)
    obtain ⟨rfl, hz⟩ := hp26
    rw [hz]
    exact V.ret_int hB dX3_takeOut_29 rfl ⟨_, rfl, MP.no hX (by simp [q_takeOut, stN_none hsk]) (by decide) (by decide +kernel)⟩

-- putIn
set_option maxHeartbeats 4000000 in
set_option maxRecDepth 100000 in
theorem m_putIn {σ : Sg} {n y : Nat} {τ : Nat → Nat → Nat} {fl n2 y2 : Nat} {τ2 : Nat → Nat → Nat} {m : Nat} {cs : Nat → Nat} {rl : Nat} {ro rc : Nat → Nat} (hX : MR σ n y τ fl n2 y2 τ2 m cs rl ro rc) (v : Int32) (w : Int32) (u : Int32) : Con 6 yX3_putIn cX3_putIn 7 (some .int) [.ref 43, .int v, .int w, .int u] σ (PI (MP σ n y τ fl n2 y2 τ2 m cs rl ro rc (q_putIn n y τ v w u))) := by
  refine Con.of (by decide) (by simp [Value.category]) (Nat.le_of_ble_eq_true rfl) (fun x hB => ?_)
  show V x RX3 cX3_putIn 7 0 [some (.ref 43), some (.int v), some (.int w), some (.int u), none, none, none] [] _
  have hY := hX.now
  have hS := hY.s
  have hn6 := hS.n6
  have hy9 := hX.y9
  refine V.aload_n (q := 1) dX3_putIn_0 rfl rfl ?_
  refine V.iload_n (q := 2) dX3_putIn_1 rfl rfl ?_
  refine V.cvi1 (q := 5) dX3_putIn_2 rfl kc_X3_142 rfl (by decide) rfl (hB.rm (by decide)) (Nat.le_of_ble_eq_true rfl) (m_isStreet hS v) (fun r2 τ2 hp2 => ?_)
  obtain ⟨hz, ⟨rfl, k, hk, rfl⟩ | ⟨rfl, hsk⟩⟩ := hp2
  · rw [hz]
    refine V.ifN_ne (t := 12) (q := 8) dX3_putIn_5 (by decide) rfl (by omega) (fun c5 => ?_) (fun c5 => absurd c5 (by decide +kernel))
    refine V.iload_n (q := 13) dX3_putIn_12 rfl rfl ?_
    refine V.if_lt (t := 21) (q := 16) dX3_putIn_13 (by decide) rfl  (fun c13 => ?_) (fun c13 => ?_)
    · refine V.bipush (q := 23) (v := (-4)) dX3_putIn_21 rfl (by decide +kernel) ?_
      refine V.goto (q := 54) dX3_putIn_23 (by decide) ?_
      refine V.ist4 (q := 56) dX3_putIn_54 rfl ?_
      refine V.iload (q := 58) dX3_putIn_56 rfl rfl ?_
      refine V.if_eq (t := 68) (q := 61) dX3_putIn_58 (by decide) rfl  (fun c58 => absurd c58 (by decide +kernel)) (fun c58 => ?_)
      refine V.aload_n (q := 62) dX3_putIn_61 rfl rfl ?_
      refine V.iload (q := 64) dX3_putIn_62 rfl rfl ?_
      refine V.cvi1 (q := 67) dX3_putIn_64 rfl kc_X3_71 rfl (by decide) rfl (hB.rm (by decide)) (Nat.le_of_ble_eq_true rfl) (m_refuse hX (k := 4) (v := -4) (by decide) (by decide) (by decide +kernel)) (fun r64 τ64 hp64 => ?_)
      obtain ⟨rfl, hz⟩ := hp64
      rw [hz]
      exact V.ret_int hB dX3_putIn_67 rfl ⟨_, rfl, MP.no hX (by simp [q_putIn, stN_some hk (Nat.le_trans hn6 (by decide)), c13]) (by decide) (by decide +kernel)⟩
    · have c13b : ¬ w < 0 := c13
      refine V.iload_n (q := 17) dX3_putIn_16 rfl rfl ?_
      refine V.iconst (q := 18) (v := nI 1) dX3_putIn_17 rfl (by decide +kernel) ?_
      refine V.icmp_ge (t := 26) (q := 21) dX3_putIn_18 (by decide) rfl  (fun c18 => ?_) (fun c18 => ?_)
      · have c18b : ¬ u < nI 1 := fun h9 => Int32.not_lt.mpr c18 h9
        refine V.iload_n (q := 27) dX3_putIn_26 rfl rfl ?_
        refine V.iconst (q := 28) (v := nI 4) dX3_putIn_27 rfl (by decide +kernel) ?_
        refine V.icmp_gt (t := 48) (q := 31) dX3_putIn_28 (by decide) rfl  (fun c28 => ?_) (fun c28 => ?_)
        · refine V.bipush (q := 50) (v := (-6)) dX3_putIn_48 rfl (by decide +kernel) ?_
          refine V.goto (q := 54) dX3_putIn_50 (by decide) ?_
          refine V.ist4 (q := 56) dX3_putIn_54 rfl ?_
          refine V.iload (q := 58) dX3_putIn_56 rfl rfl ?_
          refine V.if_eq (t := 68) (q := 61) dX3_putIn_58 (by decide) rfl  (fun c58 => absurd c58 (by decide +kernel)) (fun c58 => ?_)
          refine V.aload_n (q := 62) dX3_putIn_61 rfl rfl ?_
          refine V.iload (q := 64) dX3_putIn_62 rfl rfl ?_
          refine V.cvi1 (q := 67) dX3_putIn_64 rfl kc_X3_71 rfl (by decide) rfl (hB.rm (by decide)) (Nat.le_of_ble_eq_true rfl) (m_refuse hX (k := 6) (v := -6) (by decide) (by decide) (by decide +kernel)) (fun r64 τ64 hp64 => ?_)
          obtain ⟨rfl, hz⟩ := hp64
          rw [hz]
          exact V.ret_int hB dX3_putIn_67 rfl ⟨_, rfl, MP.no hX (by simp [q_putIn, stN_some hk (Nat.le_trans hn6 (by decide)), c13b, c18b, c28]) (by decide) (by decide +kernel)⟩
        · refine V.iload_n (q := 32) dX3_putIn_31 rfl rfl ?_
          refine V.bipush (q := 34) (v := nI 30) dX3_putIn_32 rfl (by decide +kernel) ?_
          refine V.icmp_gt (t := 48) (q := 37) dX3_putIn_34 (by decide) rfl  (fun c34 => ?_) (fun c34 => ?_)
          · refine V.bipush (q := 50) (v := (-6)) dX3_putIn_48 rfl (by decide +kernel) ?_
            refine V.goto (q := 54) dX3_putIn_50 (by decide) ?_
            refine V.ist4 (q := 56) dX3_putIn_54 rfl ?_
            refine V.iload (q := 58) dX3_putIn_56 rfl rfl ?_
            refine V.if_eq (t := 68) (q := 61) dX3_putIn_58 (by decide) rfl  (fun c58 => absurd c58 (by decide +kernel)) (fun c58 => ?_)
            refine V.aload_n (q := 62) dX3_putIn_61 rfl rfl ?_
            refine V.iload (q := 64) dX3_putIn_62 rfl rfl ?_
            refine V.cvi1 (q := 67) dX3_putIn_64 rfl kc_X3_71 rfl (by decide) rfl (hB.rm (by decide)) (Nat.le_of_ble_eq_true rfl) (m_refuse hX (k := 6) (v := -6) (by decide) (by decide) (by decide +kernel)) (fun r64 τ64 hp64 => ?_)
            obtain ⟨rfl, hz⟩ := hp64
            rw [hz]
            exact V.ret_int hB dX3_putIn_67 rfl ⟨_, rfl, MP.no hX (by simp [q_putIn, stN_some hk (Nat.le_trans hn6 (by decide)), c13b, c18b, c34]) (by decide) (by decide +kernel)⟩
          · refine V.aload_n (q := 38) dX3_putIn_37 rfl rfl ?_
            refine V.getR (q := 41) dX3_putIn_38 rfl kf_X3_13 rfl (by decide) rfl ?_
            refine V.iconst (q := 42) (v := nI 0) dX3_putIn_41 rfl (by decide +kernel) ?_
            refine V.ialdN (q := 43) dX3_putIn_42 rfl rfl (by decide) (by omega) (by decide) (SA.c hS) ?_
            refine V.bipush (q := 45) (v := nI 6) dX3_putIn_43 rfl (by decide +kernel) ?_
            refine V.icmpN_ne (t := 53) (q := 48) dX3_putIn_45 (by decide) rfl (by omega) (by omega) (fun c45 => ?_) (fun c45 => ?_)
            · obtain ⟨a, ha0, ha4, rfl⟩ : ∃ a, 0 ≤ a ∧ a ≤ 4 ∧ w = nI a := rof_in (by rw [nI_0]; exact Int32.not_lt.mp c13) (Int32.not_lt.mp c28) (by decide) (by decide)
              obtain ⟨j, hj1, hj2, rfl⟩ : ∃ j, 1 ≤ j ∧ j ≤ 30 ∧ u = nI j := rof_in c18 (Int32.not_lt.mp c34) (by decide) (by decide)
              refine V.iconst (q := 54) (v := nI 0) dX3_putIn_53 rfl (by decide +kernel) ?_
              refine V.ist4 (q := 56) dX3_putIn_54 rfl ?_
              refine V.iload (q := 58) dX3_putIn_56 rfl rfl ?_
              refine V.ifN_eq (t := 68) (q := 61) dX3_putIn_58 (by decide) rfl (by omega) (fun c58 => ?_) (fun c58 => absurd c58 (by decide +kernel))
              refine V.aload_n (q := 69) dX3_putIn_68 rfl rfl ?_
              refine V.cvv0 (q := 72) dX3_putIn_69 rfl kc_X3_152 rfl (by decide) rfl (hB.rm (by decide)) (Nat.le_of_ble_eq_true rfl) (m_begins hS) (fun τ69 hp69 => ?_)
              obtain ⟨hM1, hS1, hF1⟩ := hp69
              have hG1 := Gz.rf.c hF1 (by decide)
              have hY1 : YA τ69 n y 6 6 τ := ⟨hS1, by rw [hF1 43 (by decide)]; exact hY.2⟩
              refine V.aload_n (q := 73) dX3_putIn_72 rfl rfl ?_
              refine V.getR (q := 76) dX3_putIn_73 rfl kf_X3_13 rfl (by decide) rfl ?_
              refine V.iconst (q := 77) (v := nI 0) dX3_putIn_76 rfl (by decide +kernel) ?_
              refine V.ialdN (q := 78) dX3_putIn_77 rfl rfl (by decide) (by omega) (by decide) (SA.c hS1) ?_
              refine V.ist5 (q := 80) dX3_putIn_78 rfl ?_
              refine V.iconst (q := 81) (v := nI 0) dX3_putIn_80 rfl (by decide +kernel) ?_
              refine V.ist6 (q := 83) dX3_putIn_81 rfl ?_
              have loop : ∀ f, f ≤ 7 → ∀ σ1, SA σ1 45 n y τ → SA σ1 48 n y τ → Gz σ σ1 → (σ1 43 6 = n9 6 ∧ σ1 43 7 = n9 6) → (∀ g, g < f → σ1 45 (2 + 7 * n + g) = nI 0) → V x RX3 cX3_putIn 7 83 [some (.ref 43), some (.int (nI k)), some (.int (nI a)), some (.int (nI j)), some (.int (nI 0)), some (.int (nI n)), some (.int (nI f))] [] σ1 := by
                refine down 7 (fun f hf ih σ1 hS2 hM2 hG2 h432 hz2 => ?_)
                refine V.iload (q := 85) dX3_putIn_83 rfl rfl ?_
                refine V.bipush (q := 87) (v := nI 7) dX3_putIn_85 rfl (by decide +kernel) ?_
                refine V.icmpN_ge (t := 105) (q := 90) dX3_putIn_87 (by decide) rfl (by omega) (by omega) (fun c87 => ?_) (fun c87 => ?_)
                · have ef : f = 7 := by omega
                  subst ef
                  refine V.aload_n (q := 106) dX3_putIn_105 rfl rfl ?_
                  refine V.iload (q := 108) dX3_putIn_106 rfl rfl ?_
                  refine V.iconst (q := 109) (v := nI 3) dX3_putIn_108 rfl (by decide +kernel) ?_
                  refine V.iload_n (q := 110) dX3_putIn_109 rfl rfl ?_
                  refine V.cvv3 (q := 113) dX3_putIn_110 rfl kc_X3_116 rfl (by decide) rfl (hB.rm (by decide)) (Nat.le_of_ble_eq_true rfl) (m_puts (by omega)) (fun τ110 hp110 => ?_)
                  subst hp110
                  have hS3 := hS2.wo (k := 2 + 7 * n + 3) (v := nI a) (by omega)
                  refine V.aload_n (q := 114) dX3_putIn_113 rfl rfl ?_
                  refine V.iload (q := 116) dX3_putIn_114 rfl rfl ?_
                  refine V.iconst (q := 117) (v := nI 5) dX3_putIn_116 rfl (by decide +kernel) ?_
                  refine V.aload_n (q := 118) dX3_putIn_117 rfl rfl ?_
                  refine V.iload_n (q := 119) dX3_putIn_118 rfl rfl ?_
                  refine V.iconst (q := 120) (v := nI 5) dX3_putIn_119 rfl (by decide +kernel) ?_
                  refine V.cvi2 (q := 123) dX3_putIn_120 rfl kc_X3_109 rfl (by decide) rfl (hB.rm (by decide)) (Nat.le_of_ble_eq_true rfl) (m_get hS3 hk 5 (by decide)) (fun r120 τ120 hp120 => ?_)
                  obtain ⟨rfl, hz⟩ := hp120
                  rw [hz]
                  refine V.cvv3 (q := 126) dX3_putIn_123 rfl kc_X3_116 rfl (by decide) rfl (hB.rm (by decide)) (Nat.le_of_ble_eq_true rfl) (m_puts (by omega)) (fun τ123 hp123 => ?_)
                  subst hp123
                  have hS4 := hS3.wo (k := 2 + 7 * n + 5) (v := nI (τ 5 k)) (by omega)
                  refine V.aload_n (q := 127) dX3_putIn_126 rfl rfl ?_
                  refine V.iload_n (q := 128) dX3_putIn_127 rfl rfl ?_
                  refine V.iconst (q := 129) (v := nI 5) dX3_putIn_128 rfl (by decide +kernel) ?_
                  refine V.iload (q := 131) dX3_putIn_129 rfl rfl ?_
                  refine V.cvv3 (q := 134) dX3_putIn_131 rfl kc_X3_116 rfl (by decide) rfl (hB.rm (by decide)) (Nat.le_of_ble_eq_true rfl) (m_puts (by omega)) (fun τ131 hp131 => ?_)
                  subst hp131
                  refine V.aload_n (q := 135) dX3_putIn_134 rfl rfl ?_
                  refine V.getR (q := 138) dX3_putIn_135 rfl kf_X3_13 rfl (by decide) rfl ?_
                  refine V.iconst (q := 139) (v := nI 0) dX3_putIn_138 rfl (by decide +kernel) ?_
                  refine V.dup2 (q := 140) dX3_putIn_139 rfl rfl rfl ?_
                  refine V.ialdN (q := 141) dX3_putIn_140 rfl rfl (by decide) (by omega) (by decide) (show _ = nI n by rw [w2_nk (by omega)]; exact hS4.c) ?_
                  refine V.iconst (q := 142) (v := nI 1) dX3_putIn_141 rfl (by decide +kernel) ?_
                  refine V.iaddN (q := 143) dX3_putIn_142 rfl ?_
                  refine V.iastN (q := 144) dX3_putIn_143 rfl rfl (by decide) (by omega) (by decide) ?_
                  have hS5 := hS2.put hz2 hk (by omega) ha4
                  have hG5 := (((hG2.w (o := 45) (k := 2 + 7 * n + 3) (v := nI a) (by decide)).w (o := 45) (k := 2 + 7 * n + 5) (v := nI (τ 5 k)) (by decide)).w (o := 45) (k := 2 + 7 * k + 5) (v := nI n) (by decide)).w (o := 45) (k := 0) (v := nI (n + 1)) (by decide)
                  have hM5 := (((hM2.ww (o1 := 45) (k := 2 + 7 * n + 3) (v := nI a) (by decide)).ww (o1 := 45) (k := 2 + 7 * n + 5) (v := nI (τ 5 k)) (by decide)).ww (o1 := 45) (k := 2 + 7 * k + 5) (v := nI n) (by decide)).ww (o1 := 45) (k := 0) (v := nI (n + 1)) (by decide)
                  have hY5 : YA _ (n + 1) y 6 6 (putM n τ k a) := ⟨hS5, by rw [w2_ne (by decide), w2_ne (by decide), w2_ne (by decide), w2_ne (by decide)]; exact h432⟩
                  refine V.aload_n (q := 145) dX3_putIn_144 rfl rfl ?_
                  refine V.iload_n (q := 146) dX3_putIn_145 rfl rfl ?_
                  refine V.cvv1 (q := 149) dX3_putIn_146 rfl kc_X3_133 rfl (by decide) rfl (hB.rm (by decide)) (Nat.le_of_ble_eq_true rfl) (m_goesFor hY5 (k := j) (by omega)) (fun τ146 hp146 => ?_)
                  obtain ⟨hY6, hF6⟩ := hp146
                  have hM6 := hM5.fr (hF6 48 (by decide) (by decide))
                  have hG6 := hG5.y hF6
                  have hS6 := hY6.s
                  refine V.aload_n (q := 150) dX3_putIn_149 rfl rfl ?_
                  refine V.iload (q := 152) dX3_putIn_150 rfl rfl ?_
                  refine V.cvi1 (q := 155) dX3_putIn_152 rfl kc_X3_130 rfl (by decide) rfl (hB.rm (by decide)) (Nat.le_of_ble_eq_true rfl) (m_mudOf hS6 (k := n) (by omega)) (fun r152 τ152 hp152 => ?_)
                  obtain ⟨rfl, hz⟩ := hp152
                  rw [hz]
                  refine V.ist6 (q := 157) dX3_putIn_155 rfl ?_
                  refine V.aload_n (q := 158) dX3_putIn_157 rfl rfl ?_
                  refine V.cvv0 (q := 161) dX3_putIn_158 rfl kc_X3_139 rfl (by decide) rfl (hB.rm (by decide)) (Nat.le_of_ble_eq_true rfl) (m_ends hM6) (fun τ158 hp158 => ?_)
                  obtain ⟨hS7, hM7, hF7⟩ := hp158
                  have hY7 : YA τ158 n y 6 6 τ := ⟨hS7, by rw [hF7 43 (by decide)]; exact hY6.2⟩
                  have hG7 := hG6.c hF7 (by decide)
                  refine V.iload (q := 163) dX3_putIn_161 rfl rfl ?_
                  exact V.ret_int hB dX3_putIn_163 rfl ⟨_, rfl, MP.yes hX (hY7) (hG7) (by
      unfold q_putIn; simp only [stN_some hk (Nat.le_trans hn6 (by decide))]
      rw [if_neg (fun h9 => h9.elim c13b c18b), if_neg (fun h9 => h9.elim c28 (fun h8 => h8.elim c34 (fun h7 => by omega))), tn_nI (by omega), tn_nI (by omega)]
      show (0, nI (sumK (yrsM (n + 1) y 6 6 (putM n τ k a) j 1) n + yrsM (n + 1) y 6 6 (putM n τ k a) j 1 n)) = _
      rw [(putM_0 j).1]; rfl)⟩
                · refine V.aload_n (q := 91) dX3_putIn_90 rfl rfl ?_
                  refine V.iload (q := 93) dX3_putIn_91 rfl rfl ?_
                  refine V.iload (q := 95) dX3_putIn_93 rfl rfl ?_
                  refine V.iconst (q := 96) (v := nI 0) dX3_putIn_95 rfl (by decide +kernel) ?_
                  refine V.cvv3 (q := 99) dX3_putIn_96 rfl kc_X3_116 rfl (by decide) rfl (hB.rm (by decide)) (Nat.le_of_ble_eq_true rfl) (m_puts (by omega)) (fun τ96 hp96 => ?_)
                  subst hp96
                  refine V.inc6 (q := 102) dX3_putIn_99 rfl (inc1 _) ?_
                  refine V.goto (q := 83) dX3_putIn_102 (by decide) ?_
                  refine ih c87 _ (hS2.wo (by omega)) (hM2.ww (by decide)) (hG2.w (by decide)) (by rw [w2_ne (by decide)]; exact h432) (fun g hg => ?_)
                  rw [w2_rd]
                  by_cases h9 : g = f
                  · rw [if_pos ⟨rfl, by omega⟩]
                  · rw [if_neg (fun h8 => h9 (by omega))]; exact hz2 g (by omega)
              exact loop 0 (by decide) _ hS1 hM1 hG1 hY1.2 (fun g hg => absurd hg (by omega))
            · refine V.bipush (q := 50) (v := (-6)) dX3_putIn_48 rfl (by decide +kernel) ?_
              refine V.goto (q := 54) dX3_putIn_50 (by decide) ?_
              refine V.ist4 (q := 56) dX3_putIn_54 rfl ?_
              refine V.iload (q := 58) dX3_putIn_56 rfl rfl ?_
              refine V.if_eq (t := 68) (q := 61) dX3_putIn_58 (by decide) rfl  (fun c58 => absurd c58 (by decide +kernel)) (fun c58 => ?_)
              refine V.aload_n (q := 62) dX3_putIn_61 rfl rfl ?_
              refine V.iload (q := 64) dX3_putIn_62 rfl rfl ?_
              refine V.cvi1 (q := 67) dX3_putIn_64 rfl kc_X3_71 rfl (by decide) rfl (hB.rm (by decide)) (Nat.le_of_ble_eq_true rfl) (m_refuse hX (k := 6) (v := -6) (by decide) (by decide) (by decide +kernel)) (fun r64 τ64 hp64 => ?_)
              obtain ⟨rfl, hz⟩ := hp64
              rw [hz]
              exact V.ret_int hB dX3_putIn_67 rfl ⟨_, rfl, MP.no hX (by unfold q_putIn; simp only [stN_some hk (Nat.le_trans hn6 (by decide))]; rw [if_neg (fun h9 => h9.elim c13b c18b), if_pos (Or.inr (Or.inr (by omega)))]) (by decide) (by decide +kernel)⟩
      · refine V.bipush (q := 23) (v := (-4)) dX3_putIn_21 rfl (by decide +kernel) ?_
        refine V.goto (q := 54) dX3_putIn_23 (by decide) ?_
        refine V.ist4 (q := 56) dX3_putIn_54 rfl ?_
        refine V.iload (q := 58) dX3_putIn_56 rfl rfl ?_
        refine V.if_eq (t := 68) (q := 61) dX3_putIn_58 (by decide) rfl  (fun c58 => absurd c58 (by decide +kernel)) (fun c58 => ?_)
        refine V.aload_n (q := 62) dX3_putIn_61 rfl rfl ?_
        refine V.iload (q := 64) dX3_putIn_62 rfl rfl ?_
        refine V.cvi1 (q := 67) dX3_putIn_64 rfl kc_X3_71 rfl (by decide) rfl (hB.rm (by decide)) (Nat.le_of_ble_eq_true rfl) (m_refuse hX (k := 4) (v := -4) (by decide) (by decide) (by decide +kernel)) (fun r64 τ64 hp64 => ?_)
        obtain ⟨rfl, hz⟩ := hp64
        rw [hz]
        exact V.ret_int hB dX3_putIn_67 rfl ⟨_, rfl, MP.no hX (by simp [q_putIn, stN_some hk (Nat.le_trans hn6 (by decide)), Int32.not_le.mp c18]) (by decide) (by decide +kernel)⟩
  · rw [hz]
    refine V.ifN_ne (t := 12) (q := 8) dX3_putIn_5 (by decide) rfl (by omega) (fun c5 => absurd c5 (by decide +kernel)) (fun c5 => ?_)
    refine V.iconst (q := 9) (v := (-1)) dX3_putIn_8 rfl (by decide +kernel) ?_
    refine V.goto (q := 54) dX3_putIn_9 (by decide) ?_
    refine V.ist4 (q := 56) dX3_putIn_54 rfl ?_
    refine V.iload (q := 58) dX3_putIn_56 rfl rfl ?_
    refine V.if_eq (t := 68) (q := 61) dX3_putIn_58 (by decide) rfl  (fun c58 => absurd c58 (by decide +kernel)) (fun c58 => ?_)
    refine V.aload_n (q := 62) dX3_putIn_61 rfl rfl ?_
    refine V.iload (q := 64) dX3_putIn_62 rfl rfl ?_
    refine V.cvi1 (q := 67) dX3_putIn_64 rfl kc_X3_71 rfl (by decide) rfl (hB.rm (by decide)) (Nat.le_of_ble_eq_true rfl) (m_refuse hX (k := 1) (v := -1) (by decide) (by decide) (by decide +kernel)) (fun r64 τ64 hp64 => ?_)
    obtain ⟨rfl, hz⟩ := hp64
    rw [hz]
    exact V.ret_int hB dX3_putIn_67 rfl ⟨_, rfl, MP.no hX (by simp [q_putIn, stN_none hsk]) (by decide) (by decide +kernel)⟩

