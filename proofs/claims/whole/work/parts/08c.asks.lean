theorem sN_or8 (w : Int32) : w = nI 0 ∨ w = nI 1 ∨ w = nI 2 ∨ w = nI 3 ∨ w = nI 4 ∨ w = nI 5 ∨ w = nI 6 ∨ w = nI 7 ∨ ¬ sN w 8 := by
  by_cases h : sN w 8
  · obtain ⟨j, hj, rfl⟩ := h
    have hj2 : j = 0 ∨ j = 1 ∨ j = 2 ∨ j = 3 ∨ j = 4 ∨ j = 5 ∨ j = 6 ∨ j = 7 := by omega
    rcases hj2 with rfl | rfl | rfl | rfl | rfl | rfl | rfl | rfl <;> simp
  · simp [h]
theorem sN_out {w : Int32} {n : Nat} (hn : n < 2 ^ 20) (h : ¬ sN w n) : w.toInt < 0 ∨ (n : Int) - 1 < w.toInt := by
  by_cases h1 : vp_in w n
  · exact absurd (vp_in_of h1 (by omega)) h
  · rw [vp_in_iff] at h1; omega
theorem sN_mono {w : Int32} {a b : Nat} (hab : a ≤ b) (h : ¬ sN w b) : ¬ sN w a := fun ⟨k, hk, e⟩ => h ⟨k, by omega, e⟩
theorem not7 : ¬ sN (nI 7) 7 := fun ⟨k, hk, e⟩ => by
  have := (nI_eq (by omega) (by omega)).mp e
  omega
theorem sN_m1 (n : Nat) (hn : n ≤ 1000) : ¬ sN (-1) n := fun ⟨k, hk, e⟩ => nI_m1 (by omega) e.symm
def XW (σ : Sg) (n y : Nat) (τ : Nat → Nat → Nat) (fl n2 y2 : Nat) (τ2 : Nat → Nat → Nat) (m : Nat) (cs : Nat → Nat) (rl : Nat) (ro rc : Nat → Nat) (q : Nat × Int32) : Int32 → Sg → Prop := fun r σ1 => r = rB q ∧ XR σ1 n y τ fl n2 y2 τ2 m cs rl ro (rU rc q) ∧ Fx σ σ1
theorem XW.no {σ : Sg} {n y : Nat} {τ : Nat → Nat → Nat} {fl n2 y2 : Nat} {τ2 : Nat → Nat → Nat} {m : Nat} {cs : Nat → Nat} {rl : Nat} {ro rc : Nat → Nat} {q : Nat × Int32} {k : Nat} {v : Int32} (h : XR σ n y τ fl n2 y2 τ2 m cs rl ro rc) (hq : q = (k, 0)) (hk : 0 < k) (hv : v = -(nI k)) : XW σ n y τ fl n2 y2 τ2 m cs rl ro rc q (1000000000 - v) (w2 σ 42 k (nI (rc k + 1))) := by
  obtain ⟨h1, h2, h3⟩ := XP.no (v := v) h hq hk hv
  refine ⟨?_, h2, h3⟩
  subst hq
  show _ = if k = 0 then 0 else 1000000000 - (-(nI k))
  rw [if_neg (by omega), hv]
theorem XW.yes {σ σ1 : Sg} {n y : Nat} {τ : Nat → Nat → Nat} {fl n2 y2 : Nat} {τ2 : Nat → Nat → Nat} {m : Nat} {cs : Nat → Nat} {rl : Nat} {ro rc : Nat → Nat} {q : Nat × Int32} {v : Int32} (h : XR σ n y τ fl n2 y2 τ2 m cs rl ro rc) (hF : Fs σ σ1) (hq : q = (0, v)) : XW σ n y τ fl n2 y2 τ2 m cs rl ro rc q v σ1 := by
  subst hq
  exact ⟨rfl, h.fs hF, hF.x⟩
theorem lwK_le (me : Nat → Nat) (i : Nat) : ∀ n, lwK me i n ≤ i
  | 0 => Nat.le_refl _
  | n + 1 => Nat.le_trans (Nat.min_le_left _ _) (lwK_le me i n)
-- street
set_option maxHeartbeats 4000000 in
set_option maxRecDepth 100000 in
theorem p_street {σ : Sg} {n y : Nat} {τ : Nat → Nat → Nat} {fl n2 y2 : Nat} {τ2 : Nat → Nat → Nat} {m : Nat} {cs : Nat → Nat} {rl : Nat} {ro rc : Nat → Nat} (hX : XR σ n y τ fl n2 y2 τ2 m cs rl ro rc) (v : Int32) (w : Int32) : Con 2 yX2_street cX2_street 3 (some .int) [.ref 0, .int v, .int w] σ (PI (XP σ n y τ fl n2 y2 τ2 m cs rl ro rc (q_street n τ v w))) := by
  refine Con.of (by decide) (by simp [Value.category]) (Nat.le_of_ble_eq_true rfl) (fun x hB => ?_)
  show V x RX2 cX2_street 3 0 [some (.ref 0), some (.int v), some (.int w)] [] _
  have hN := hX.now
  have hn6 := hN.n6
  have hy9 := hX.y9
  refine V.aload_n (q := 1) dX2_street_0 rfl rfl ?_
  refine V.getR (q := 4) dX2_street_1 rfl kf_X2_12 rfl (by decide) rfl ?_
  refine V.iload_n (q := 5) dX2_street_4 rfl rfl ?_
  refine V.cvi1 (q := 8) dX2_street_5 rfl kc_X2_69 rfl (by decide) rfl (hB.rm (by decide)) (Nat.le_of_ble_eq_true rfl) (c_isStreet t1 hN v) (fun r5 τ5 hp5 => ?_)
  obtain ⟨hz, ⟨rfl, k, hk, rfl⟩ | ⟨rfl, hsk⟩⟩ := hp5
  · rw [hz]
    refine V.ifN_ne (t := 17) (q := 11) dX2_street_8 (by decide) rfl (by omega) (fun c8 => ?_) (fun c8 => absurd c8 (by decide +kernel))
    refine V.iload_n (q := 18) dX2_street_17 rfl rfl ?_
    rcases sN_or8 w with rfl | rfl | rfl | rfl | rfl | rfl | rfl | rfl | hsw
    · refine V.tableIn (q := 64) (off := 46) dX2_street_18 (by decide +kernel) (by decide +kernel) rfl (by decide) ?_
      refine V.aload_n (q := 65) dX2_street_64 rfl rfl ?_
      refine V.getR (q := 68) dX2_street_65 rfl kf_X2_12 rfl (by decide) rfl ?_
      refine V.getRn (q := 71) dX2_street_68 rfl kf_X2_73 rfl (by decide) rfl ?_
      refine V.iload_n (q := 72) dX2_street_71 rfl rfl ?_
      refine V.ialdN (q := 73) dX2_street_72 rfl rfl (by decide) (by omega) (by decide) (TA.a hN 0 (by decide) (by omega)) ?_
      exact V.ret_int hB dX2_street_73 rfl ⟨_, rfl, XP.yes hX (Fs.rf) (by simp [q_street, stN_some hk (Nat.le_trans hn6 (by decide)), stN_some (show 0 < 7 by decide) (by decide)])⟩
    · refine V.tableIn (q := 74) (off := 56) dX2_street_18 (by decide +kernel) (by decide +kernel) rfl (by decide) ?_
      refine V.aload_n (q := 75) dX2_street_74 rfl rfl ?_
      refine V.getR (q := 78) dX2_street_75 rfl kf_X2_12 rfl (by decide) rfl ?_
      refine V.getRn (q := 81) dX2_street_78 rfl kf_X2_76 rfl (by decide) rfl ?_
      refine V.iload_n (q := 82) dX2_street_81 rfl rfl ?_
      refine V.ialdN (q := 83) dX2_street_82 rfl rfl (by decide) (by omega) (by decide) (TA.a hN 1 (by decide) (by omega)) ?_
      exact V.ret_int hB dX2_street_83 rfl ⟨_, rfl, XP.yes hX (Fs.rf) (by simp [q_street, stN_some hk (Nat.le_trans hn6 (by decide)), stN_some (show 1 < 7 by decide) (by decide)])⟩
    · refine V.tableIn (q := 84) (off := 66) dX2_street_18 (by decide +kernel) (by decide +kernel) rfl (by decide) ?_
      refine V.aload_n (q := 85) dX2_street_84 rfl rfl ?_
      refine V.getR (q := 88) dX2_street_85 rfl kf_X2_12 rfl (by decide) rfl ?_
      refine V.getRn (q := 91) dX2_street_88 rfl kf_X2_79 rfl (by decide) rfl ?_
      refine V.iload_n (q := 92) dX2_street_91 rfl rfl ?_
      refine V.ialdN (q := 93) dX2_street_92 rfl rfl (by decide) (by omega) (by decide) (TA.a hN 2 (by decide) (by omega)) ?_
      exact V.ret_int hB dX2_street_93 rfl ⟨_, rfl, XP.yes hX (Fs.rf) (by simp [q_street, stN_some hk (Nat.le_trans hn6 (by decide)), stN_some (show 2 < 7 by decide) (by decide)])⟩
    · refine V.tableIn (q := 94) (off := 76) dX2_street_18 (by decide +kernel) (by decide +kernel) rfl (by decide) ?_
      refine V.aload_n (q := 95) dX2_street_94 rfl rfl ?_
      refine V.getR (q := 98) dX2_street_95 rfl kf_X2_12 rfl (by decide) rfl ?_
      refine V.getRn (q := 101) dX2_street_98 rfl kf_X2_82 rfl (by decide) rfl ?_
      refine V.iload_n (q := 102) dX2_street_101 rfl rfl ?_
      refine V.ialdN (q := 103) dX2_street_102 rfl rfl (by decide) (by omega) (by decide) (TA.a hN 3 (by decide) (by omega)) ?_
      exact V.ret_int hB dX2_street_103 rfl ⟨_, rfl, XP.yes hX (Fs.rf) (by simp [q_street, stN_some hk (Nat.le_trans hn6 (by decide)), stN_some (show 3 < 7 by decide) (by decide)])⟩
    · refine V.tableIn (q := 104) (off := 86) dX2_street_18 (by decide +kernel) (by decide +kernel) rfl (by decide) ?_
      refine V.aload_n (q := 105) dX2_street_104 rfl rfl ?_
      refine V.getR (q := 108) dX2_street_105 rfl kf_X2_12 rfl (by decide) rfl ?_
      refine V.getRn (q := 111) dX2_street_108 rfl kf_X2_85 rfl (by decide) rfl ?_
      refine V.iload_n (q := 112) dX2_street_111 rfl rfl ?_
      refine V.ialdN (q := 113) dX2_street_112 rfl rfl (by decide) (by omega) (by decide) (TA.a hN 4 (by decide) (by omega)) ?_
      exact V.ret_int hB dX2_street_113 rfl ⟨_, rfl, XP.yes hX (Fs.rf) (by simp [q_street, stN_some hk (Nat.le_trans hn6 (by decide)), stN_some (show 4 < 7 by decide) (by decide)])⟩
    · refine V.tableIn (q := 114) (off := 96) dX2_street_18 (by decide +kernel) (by decide +kernel) rfl (by decide) ?_
      refine V.aload_n (q := 115) dX2_street_114 rfl rfl ?_
      refine V.getR (q := 118) dX2_street_115 rfl kf_X2_12 rfl (by decide) rfl ?_
      refine V.getRn (q := 121) dX2_street_118 rfl kf_X2_88 rfl (by decide) rfl ?_
      refine V.iload_n (q := 122) dX2_street_121 rfl rfl ?_
      refine V.ialdN (q := 123) dX2_street_122 rfl rfl (by decide) (by omega) (by decide) (TA.a hN 5 (by decide) (by omega)) ?_
      exact V.ret_int hB dX2_street_123 rfl ⟨_, rfl, XP.yes hX (Fs.rf) (by simp [q_street, stN_some hk (Nat.le_trans hn6 (by decide)), stN_some (show 5 < 7 by decide) (by decide)])⟩
    · refine V.tableIn (q := 124) (off := 106) dX2_street_18 (by decide +kernel) (by decide +kernel) rfl (by decide) ?_
      refine V.aload_n (q := 125) dX2_street_124 rfl rfl ?_
      refine V.getR (q := 128) dX2_street_125 rfl kf_X2_12 rfl (by decide) rfl ?_
      refine V.getRn (q := 131) dX2_street_128 rfl kf_X2_91 rfl (by decide) rfl ?_
      refine V.iload_n (q := 132) dX2_street_131 rfl rfl ?_
      refine V.ialdN (q := 133) dX2_street_132 rfl rfl (by decide) (by omega) (by decide) (TA.a hN 6 (by decide) (by omega)) ?_
      exact V.ret_int hB dX2_street_133 rfl ⟨_, rfl, XP.yes hX (Fs.rf) (by simp [q_street, stN_some hk (Nat.le_trans hn6 (by decide)), stN_some (show 6 < 7 by decide) (by decide)])⟩
    · refine V.tableIn (q := 134) (off := 116) dX2_street_18 (by decide +kernel) (by decide +kernel) rfl (by decide) ?_
      refine V.aload_n (q := 135) dX2_street_134 rfl rfl ?_
      refine V.getR (q := 138) dX2_street_135 rfl kf_X2_12 rfl (by decide) rfl ?_
      refine V.iload_n (q := 139) dX2_street_138 rfl rfl ?_
      refine V.cvi1 (q := 142) dX2_street_139 rfl kc_X2_94 rfl (by decide) rfl (hB.rm (by decide)) (Nat.le_of_ble_eq_true rfl) (c_fed t1 hN (i := k) (by omega)) (fun r139 τ139 hp139 => ?_)
      obtain ⟨rfl, hz⟩ := hp139
      rw [hz]
      exact V.ret_int hB dX2_street_142 rfl ⟨_, rfl, XP.yes hX (Fs.rf) (by simp [q_street, stN_some hk (Nat.le_trans hn6 (by decide)), stN_none not7])⟩
    · refine V.tableOut (q := 143) dX2_street_18 (by have := sN_out (by decide) hsw; omega) (by decide) ?_
      refine V.aload_n (q := 144) dX2_street_143 rfl rfl ?_
      refine V.bipush (q := 146) (v := (-2)) dX2_street_144 rfl (by decide +kernel) ?_
      refine V.cvi1 (q := 149) dX2_street_146 rfl kc_X2_53 rfl (by decide) rfl (hB.rm (by decide)) (Nat.le_of_ble_eq_true rfl) (p_refuse hX (k := 2) (v := -2) (by decide) (by decide) (by decide +kernel)) (fun r146 τ146 hp146 => ?_)
      obtain ⟨rfl, hz⟩ := hp146
      rw [hz]
      exact V.ret_int hB dX2_street_149 rfl ⟨_, rfl, XP.no hX (by simp [q_street, stN_some hk (Nat.le_trans hn6 (by decide)), stN_none (sN_mono (show 7 ≤ 8 by decide) hsw), show ¬ w = nI 7 from fun h9 => hsw ⟨7, by decide, h9⟩]) (by decide) (by decide +kernel)⟩
  · rw [hz]
    refine V.ifN_ne (t := 17) (q := 11) dX2_street_8 (by decide) rfl (by omega) (fun c8 => absurd c8 (by decide +kernel)) (fun c8 => ?_)
    refine V.aload_n (q := 12) dX2_street_11 rfl rfl ?_
    refine V.iconst (q := 13) (v := (-1)) dX2_street_12 rfl (by decide +kernel) ?_
    refine V.cvi1 (q := 16) dX2_street_13 rfl kc_X2_53 rfl (by decide) rfl (hB.rm (by decide)) (Nat.le_of_ble_eq_true rfl) (p_refuse hX (k := 1) (v := -1) (by decide) (by decide) (by decide +kernel)) (fun r13 τ13 hp13 => ?_)
    obtain ⟨rfl, hz⟩ := hp13
    rw [hz]
    exact V.ret_int hB dX2_street_16 rfl ⟨_, rfl, XP.no hX (by simp [q_street, stN_none hsk]) (by decide) (by decide +kernel)⟩

-- year
set_option maxHeartbeats 4000000 in
set_option maxRecDepth 100000 in
theorem p_year {σ : Sg} {n y : Nat} {τ : Nat → Nat → Nat} {fl n2 y2 : Nat} {τ2 : Nat → Nat → Nat} {m : Nat} {cs : Nat → Nat} {rl : Nat} {ro rc : Nat → Nat} (hX : XR σ n y τ fl n2 y2 τ2 m cs rl ro rc) : Con 4 yX2_year cX2_year 1 (some .int) [.ref 0] σ (PI (fun r σ1 => r = rA (q_year n y τ) ∧ XR σ1 n (if y = 999 then y else y + 1) (if y = 999 then τ else yM n y τ 1) fl n2 y2 τ2 m cs rl ro (rU rc (q_year n y τ)) ∧ Fx σ σ1)) := by
  refine Con.of (by decide) (by simp [Value.category]) (Nat.le_of_ble_eq_true rfl) (fun x hB => ?_)
  show V x RX2 cX2_year 1 0 [some (.ref 0)] [] _
  have hN := hX.now
  have hn6 := hN.n6
  have hy9 := hX.y9
  refine V.aload_n (q := 1) dX2_year_0 rfl rfl ?_
  refine V.getR (q := 4) dX2_year_1 rfl kf_X2_12 rfl (by decide) rfl ?_
  refine V.getIn (q := 7) dX2_year_4 rfl kf_X2_97 rfl (by decide) rfl (TA.n9 hN) ?_
  refine V.sipush (q := 10) (v := nI 999) dX2_year_7 rfl (by decide +kernel) ?_
  refine V.icmpN_lt (t := 20) (q := 13) dX2_year_10 (by decide) rfl (by omega) (by omega) (fun c10 => ?_) (fun c10 => ?_)
  · refine V.aload_n (q := 21) dX2_year_20 rfl rfl ?_
    refine V.getR (q := 24) dX2_year_21 rfl kf_X2_12 rfl (by decide) rfl ?_
    refine V.cvv0 (q := 27) dX2_year_24 rfl kc_X2_100 rfl (by decide) rfl (hB.rm (by decide)) (Nat.le_of_ble_eq_true rfl) (c_passYear t1 hN (by omega)) (fun τ24 hp24 => ?_)
    obtain ⟨hT1, hF1⟩ := hp24
    refine V.aload_n (q := 28) dX2_year_27 rfl rfl ?_
    refine V.getR (q := 31) dX2_year_28 rfl kf_X2_12 rfl (by decide) rfl ?_
    refine V.cvi0 (q := 34) dX2_year_31 rfl kc_X2_103 rfl (by decide) rfl (hB.rm (by decide)) (Nat.le_of_ble_eq_true rfl) (c_mudOfAll t1 hT1) (fun r31 τ31 hp31 => ?_)
    obtain ⟨rfl, hz⟩ := hp31
    rw [hz]
    exact V.ret_int hB dX2_year_34 rfl ⟨_, rfl, (by
    have ey : ¬ y = 999 := by omega
    have hq : q_year n y τ = (0, nI (sumK (yM n y τ 1 1) n)) := by unfold q_year; rw [if_neg ey]
    rw [if_neg ey, if_neg ey, hq]
    exact ⟨rfl, hX.wn hT1 (by omega) (fun o ho => hF1 o (by omega)), fun o ho => hF1 o (by omega)⟩)⟩
  · refine V.aload_n (q := 14) dX2_year_13 rfl rfl ?_
    refine V.bipush (q := 16) (v := (-6)) dX2_year_14 rfl (by decide +kernel) ?_
    refine V.cvi1 (q := 19) dX2_year_16 rfl kc_X2_53 rfl (by decide) rfl (hB.rm (by decide)) (Nat.le_of_ble_eq_true rfl) (p_refuse hX (k := 6) (v := -6) (by decide) (by decide) (by decide +kernel)) (fun r16 τ16 hp16 => ?_)
    obtain ⟨rfl, hz⟩ := hp16
    rw [hz]
    exact V.ret_int hB dX2_year_19 rfl ⟨_, rfl, (by
    have ey : y = 999 := by omega
    have hq : q_year n y τ = (6, 0) := by unfold q_year; rw [if_pos ey]
    obtain ⟨h1, h2, h3⟩ := XP.no (v := -6) hX hq (by decide) (by decide +kernel)
    rw [if_pos ey, if_pos ey]
    exact ⟨h1, h2, h3⟩)⟩

-- mud
set_option maxHeartbeats 4000000 in
set_option maxRecDepth 100000 in
theorem p_mud {σ : Sg} {n y : Nat} {τ : Nat → Nat → Nat} {fl n2 y2 : Nat} {τ2 : Nat → Nat → Nat} {m : Nat} {cs : Nat → Nat} {rl : Nat} {ro rc : Nat → Nat} (hX : XR σ n y τ fl n2 y2 τ2 m cs rl ro rc) (v : Int32) (w : Int32) : Con 5 yX2_mud cX2_mud 5 (some .int) [.ref 0, .int v, .int w] σ (PI (XP σ n y τ fl n2 y2 τ2 m cs rl ro rc (q_mud n y τ v w))) := by
  refine Con.of (by decide) (by simp [Value.category]) (Nat.le_of_ble_eq_true rfl) (fun x hB => ?_)
  show V x RX2 cX2_mud 5 0 [some (.ref 0), some (.int v), some (.int w), none, none] [] _
  have hN := hX.now
  have hn6 := hN.n6
  have hy9 := hX.y9
  refine V.iload_n (q := 1) dX2_mud_0 rfl rfl ?_
  refine V.iconst (q := 2) (v := (-1)) dX2_mud_1 rfl (by decide +kernel) ?_
  refine V.icmp_eq (t := 16) (q := 5) dX2_mud_2 (by decide) rfl  (fun c2 => ?_) (fun c2 => ?_)
  · subst c2
    refine V.iconst (q := 17) (v := nI 1) dX2_mud_16 rfl (by decide +kernel) ?_
    refine V.goto (q := 21) dX2_mud_17 (by decide) ?_
    refine V.iload_n (q := 22) dX2_mud_21 rfl rfl ?_
    refine V.iconst (q := 23) (v := nI 0) dX2_mud_22 rfl (by decide +kernel) ?_
    refine V.bipush (q := 25) (v := nI 60) dX2_mud_23 rfl (by decide +kernel) ?_
    refine V.csi4 (q := 28) dX2_mud_25 rfl kc_X2_45 (hB.rm (by decide)) (Nat.le_of_ble_eq_true rfl) (p_rof w 0 60 (by decide) (by decide)) (fun r25 τ25 hp25 => ?_)
    obtain ⟨hz, ⟨hrf, rfl⟩ | ⟨hrf, rfl⟩ | ⟨rfl, j, hj1, hj2, rfl⟩⟩ := hp25
    · rw [hz]
      refine V.ist3 (q := 29) dX2_mud_28 rfl ?_
      refine V.iload_n (q := 30) dX2_mud_29 rfl rfl ?_
      refine V.if_eq (t := 39) (q := 33) dX2_mud_30 (by decide) rfl  (fun c30 => absurd c30 (by decide +kernel)) (fun c30 => ?_)
      refine V.aload_n (q := 34) dX2_mud_33 rfl rfl ?_
      refine V.iload_n (q := 35) dX2_mud_34 rfl rfl ?_
      refine V.cvi1 (q := 38) dX2_mud_35 rfl kc_X2_53 rfl (by decide) rfl (hB.rm (by decide)) (Nat.le_of_ble_eq_true rfl) (p_refuse hX (k := 4) (v := -4) (by decide) (by decide) (by decide +kernel)) (fun r35 τ35 hp35 => ?_)
      obtain ⟨rfl, hz⟩ := hp35
      rw [hz]
      exact V.ret_int hB dX2_mud_38 rfl ⟨_, rfl, XP.no hX (by simp [q_mud, rfq_4 hrf]) (by decide) (by decide +kernel)⟩
    · rw [hz]
      refine V.ist3 (q := 29) dX2_mud_28 rfl ?_
      refine V.iload_n (q := 30) dX2_mud_29 rfl rfl ?_
      refine V.if_eq (t := 39) (q := 33) dX2_mud_30 (by decide) rfl  (fun c30 => absurd c30 (by decide +kernel)) (fun c30 => ?_)
      refine V.aload_n (q := 34) dX2_mud_33 rfl rfl ?_
      refine V.iload_n (q := 35) dX2_mud_34 rfl rfl ?_
      refine V.cvi1 (q := 38) dX2_mud_35 rfl kc_X2_53 rfl (by decide) rfl (hB.rm (by decide)) (Nat.le_of_ble_eq_true rfl) (p_refuse hX (k := 6) (v := -6) (by decide) (by decide) (by decide +kernel)) (fun r35 τ35 hp35 => ?_)
      obtain ⟨rfl, hz⟩ := hp35
      rw [hz]
      exact V.ret_int hB dX2_mud_38 rfl ⟨_, rfl, XP.no hX (by simp [q_mud, rfq_6 hrf]) (by decide) (by decide +kernel)⟩
    · rw [hz]
      refine V.ist3 (q := 29) dX2_mud_28 rfl ?_
      refine V.iload_n (q := 30) dX2_mud_29 rfl rfl ?_
      refine V.ifN_eq (t := 39) (q := 33) dX2_mud_30 (by decide) rfl (by omega) (fun c30 => ?_) (fun c30 => absurd c30 (by decide +kernel))
      refine V.aload_n (q := 40) dX2_mud_39 rfl rfl ?_
      refine V.getR (q := 43) dX2_mud_40 rfl kf_X2_19 rfl (by decide) rfl ?_
      refine V.aload_n (q := 44) dX2_mud_43 rfl rfl ?_
      refine V.getR (q := 47) dX2_mud_44 rfl kf_X2_12 rfl (by decide) rfl ?_
      refine V.cvv1 (q := 50) dX2_mud_47 rfl kc_X2_106 rfl (by decide) rfl (hB.rm (by decide)) (Nat.le_of_ble_eq_true rfl) (c_copyFrom t19 t1 (by decide) hN) (fun τ47 hp47 => ?_)
      obtain ⟨hT1, hF1⟩ := hp47
      have hN1 := hN.ot hF1 (by decide)
      refine V.aload_n (q := 51) dX2_mud_50 rfl rfl ?_
      refine V.getR (q := 54) dX2_mud_51 rfl kf_X2_19 rfl (by decide) rfl ?_
      refine V.iload_n (q := 55) dX2_mud_54 rfl rfl ?_
      refine V.cvi1 (q := 58) dX2_mud_55 rfl kc_X2_110 rfl (by decide) rfl (hB.rm (by decide)) (Nat.le_of_ble_eq_true rfl) (c_mudBehind t19 hT1 (k := j) (by omega)) (fun r55 τ55 hp55 => ?_)
      obtain ⟨rfl, hT2, hF2⟩ := hp55
      have hN2 := hN1.ot hF2 (by decide)
      refine V.ist4 (q := 60) dX2_mud_58 rfl ?_
      refine V.aload_n (q := 61) dX2_mud_60 rfl rfl ?_
      refine V.getR (q := 64) dX2_mud_61 rfl kf_X2_12 rfl (by decide) rfl ?_
      refine V.iload_n (q := 65) dX2_mud_64 rfl rfl ?_
      refine V.cvi1 (q := 68) dX2_mud_65 rfl kc_X2_69 rfl (by decide) rfl (hB.rm (by decide)) (Nat.le_of_ble_eq_true rfl) (c_isS0 t1 hN2.n6 hN2.n8 (v := -1) (sN_m1 n (by omega))) (fun r65 τ65 hp65 => ?_)
      obtain ⟨rfl, hz⟩ := hp65
      rw [hz]
      refine V.ifN_eq (t := 83) (q := 71) dX2_mud_68 (by decide) rfl (by omega) (fun c68 => ?_) (fun c68 => absurd c68 (by decide +kernel))
      refine V.iload (q := 85) dX2_mud_83 rfl rfl ?_
      exact V.ret_int hB dX2_mud_85 rfl ⟨_, rfl, XP.yes hX ((Fs.of hF1 (Or.inl rfl)).tr (Fs.of hF2 (Or.inl rfl))) (by simp [q_mud, rfq_in hj1 hj2 (show 60 < 2 ^ 20 by decide), tn_nI (show j < 2 ^ 31 by omega)]; rfl)⟩
  · refine V.aload_n (q := 6) dX2_mud_5 rfl rfl ?_
    refine V.getR (q := 9) dX2_mud_6 rfl kf_X2_12 rfl (by decide) rfl ?_
    refine V.iload_n (q := 10) dX2_mud_9 rfl rfl ?_
    refine V.cvi1 (q := 13) dX2_mud_10 rfl kc_X2_69 rfl (by decide) rfl (hB.rm (by decide)) (Nat.le_of_ble_eq_true rfl) (c_isStreet t1 hN v) (fun r10 τ10 hp10 => ?_)
    obtain ⟨hz, ⟨rfl, k, hk, rfl⟩ | ⟨rfl, hsk⟩⟩ := hp10
    · rw [hz]
      refine V.ifN_eq (t := 20) (q := 16) dX2_mud_13 (by decide) rfl (by omega) (fun c13 => absurd c13 (by decide +kernel)) (fun c13 => ?_)
      refine V.iconst (q := 17) (v := nI 1) dX2_mud_16 rfl (by decide +kernel) ?_
      refine V.goto (q := 21) dX2_mud_17 (by decide) ?_
      refine V.iload_n (q := 22) dX2_mud_21 rfl rfl ?_
      refine V.iconst (q := 23) (v := nI 0) dX2_mud_22 rfl (by decide +kernel) ?_
      refine V.bipush (q := 25) (v := nI 60) dX2_mud_23 rfl (by decide +kernel) ?_
      refine V.csi4 (q := 28) dX2_mud_25 rfl kc_X2_45 (hB.rm (by decide)) (Nat.le_of_ble_eq_true rfl) (p_rof w 0 60 (by decide) (by decide)) (fun r25 τ25 hp25 => ?_)
      obtain ⟨hz, ⟨hrf, rfl⟩ | ⟨hrf, rfl⟩ | ⟨rfl, j, hj1, hj2, rfl⟩⟩ := hp25
      · rw [hz]
        refine V.ist3 (q := 29) dX2_mud_28 rfl ?_
        refine V.iload_n (q := 30) dX2_mud_29 rfl rfl ?_
        refine V.if_eq (t := 39) (q := 33) dX2_mud_30 (by decide) rfl  (fun c30 => absurd c30 (by decide +kernel)) (fun c30 => ?_)
        refine V.aload_n (q := 34) dX2_mud_33 rfl rfl ?_
        refine V.iload_n (q := 35) dX2_mud_34 rfl rfl ?_
        refine V.cvi1 (q := 38) dX2_mud_35 rfl kc_X2_53 rfl (by decide) rfl (hB.rm (by decide)) (Nat.le_of_ble_eq_true rfl) (p_refuse hX (k := 4) (v := -4) (by decide) (by decide) (by decide +kernel)) (fun r35 τ35 hp35 => ?_)
        obtain ⟨rfl, hz⟩ := hp35
        rw [hz]
        exact V.ret_int hB dX2_mud_38 rfl ⟨_, rfl, XP.no hX (by simp [q_mud, nI_m1 (show k < 2 ^ 31 by omega), stN_some hk (Nat.le_trans hn6 (by decide)), rfq_4 hrf]) (by decide) (by decide +kernel)⟩
      · rw [hz]
        refine V.ist3 (q := 29) dX2_mud_28 rfl ?_
        refine V.iload_n (q := 30) dX2_mud_29 rfl rfl ?_
        refine V.if_eq (t := 39) (q := 33) dX2_mud_30 (by decide) rfl  (fun c30 => absurd c30 (by decide +kernel)) (fun c30 => ?_)
        refine V.aload_n (q := 34) dX2_mud_33 rfl rfl ?_
        refine V.iload_n (q := 35) dX2_mud_34 rfl rfl ?_
        refine V.cvi1 (q := 38) dX2_mud_35 rfl kc_X2_53 rfl (by decide) rfl (hB.rm (by decide)) (Nat.le_of_ble_eq_true rfl) (p_refuse hX (k := 6) (v := -6) (by decide) (by decide) (by decide +kernel)) (fun r35 τ35 hp35 => ?_)
        obtain ⟨rfl, hz⟩ := hp35
        rw [hz]
        exact V.ret_int hB dX2_mud_38 rfl ⟨_, rfl, XP.no hX (by simp [q_mud, nI_m1 (show k < 2 ^ 31 by omega), stN_some hk (Nat.le_trans hn6 (by decide)), rfq_6 hrf]) (by decide) (by decide +kernel)⟩
      · rw [hz]
        refine V.ist3 (q := 29) dX2_mud_28 rfl ?_
        refine V.iload_n (q := 30) dX2_mud_29 rfl rfl ?_
        refine V.ifN_eq (t := 39) (q := 33) dX2_mud_30 (by decide) rfl (by omega) (fun c30 => ?_) (fun c30 => absurd c30 (by decide +kernel))
        refine V.aload_n (q := 40) dX2_mud_39 rfl rfl ?_
        refine V.getR (q := 43) dX2_mud_40 rfl kf_X2_19 rfl (by decide) rfl ?_
        refine V.aload_n (q := 44) dX2_mud_43 rfl rfl ?_
        refine V.getR (q := 47) dX2_mud_44 rfl kf_X2_12 rfl (by decide) rfl ?_
        refine V.cvv1 (q := 50) dX2_mud_47 rfl kc_X2_106 rfl (by decide) rfl (hB.rm (by decide)) (Nat.le_of_ble_eq_true rfl) (c_copyFrom t19 t1 (by decide) hN) (fun τ47 hp47 => ?_)
        obtain ⟨hT1, hF1⟩ := hp47
        have hN1 := hN.ot hF1 (by decide)
        refine V.aload_n (q := 51) dX2_mud_50 rfl rfl ?_
        refine V.getR (q := 54) dX2_mud_51 rfl kf_X2_19 rfl (by decide) rfl ?_
        refine V.iload_n (q := 55) dX2_mud_54 rfl rfl ?_
        refine V.cvi1 (q := 58) dX2_mud_55 rfl kc_X2_110 rfl (by decide) rfl (hB.rm (by decide)) (Nat.le_of_ble_eq_true rfl) (c_mudBehind t19 hT1 (k := j) (by omega)) (fun r55 τ55 hp55 => ?_)
        obtain ⟨rfl, hT2, hF2⟩ := hp55
        have hN2 := hN1.ot hF2 (by decide)
        refine V.ist4 (q := 60) dX2_mud_58 rfl ?_
        refine V.aload_n (q := 61) dX2_mud_60 rfl rfl ?_
        refine V.getR (q := 64) dX2_mud_61 rfl kf_X2_12 rfl (by decide) rfl ?_
        refine V.iload_n (q := 65) dX2_mud_64 rfl rfl ?_
        refine V.cvi1 (q := 68) dX2_mud_65 rfl kc_X2_69 rfl (by decide) rfl (hB.rm (by decide)) (Nat.le_of_ble_eq_true rfl) (c_isS1 t1 hN2 hk) (fun r65 τ65 hp65 => ?_)
        obtain ⟨rfl, hz⟩ := hp65
        rw [hz]
        refine V.ifN_eq (t := 83) (q := 71) dX2_mud_68 (by decide) rfl (by omega) (fun c68 => absurd c68 (by decide +kernel)) (fun c68 => ?_)
        refine V.aload_n (q := 72) dX2_mud_71 rfl rfl ?_
        refine V.getR (q := 75) dX2_mud_72 rfl kf_X2_19 rfl (by decide) rfl ?_
        refine V.getRn (q := 78) dX2_mud_75 rfl kf_X2_76 rfl (by decide) rfl ?_
        refine V.iload_n (q := 79) dX2_mud_78 rfl rfl ?_
        refine V.ialdN (q := 80) dX2_mud_79 rfl rfl (by decide) (by omega) (by decide) (TA.a hT2 1 (by decide) (by omega)) ?_
        refine V.goto (q := 85) dX2_mud_80 (by decide) ?_
        exact V.ret_int hB dX2_mud_85 rfl ⟨_, rfl, XP.yes hX ((Fs.of hF1 (Or.inl rfl)).tr (Fs.of hF2 (Or.inl rfl))) (by simp [q_mud, nI_m1 (show k < 2 ^ 31 by omega), stN_some hk (Nat.le_trans hn6 (by decide)), rfq_in hj1 hj2 (show 60 < 2 ^ 20 by decide), tn_nI (show j < 2 ^ 31 by omega)]; rfl)⟩
    · rw [hz]
      refine V.ifN_eq (t := 20) (q := 16) dX2_mud_13 (by decide) rfl (by omega) (fun c13 => ?_) (fun c13 => absurd c13 (by decide +kernel))
      refine V.iconst (q := 21) (v := nI 0) dX2_mud_20 rfl (by decide +kernel) ?_
      refine V.iload_n (q := 22) dX2_mud_21 rfl rfl ?_
      refine V.iconst (q := 23) (v := nI 0) dX2_mud_22 rfl (by decide +kernel) ?_
      refine V.bipush (q := 25) (v := nI 60) dX2_mud_23 rfl (by decide +kernel) ?_
      refine V.csi4 (q := 28) dX2_mud_25 rfl kc_X2_45 (hB.rm (by decide)) (Nat.le_of_ble_eq_true rfl) (p_rof0) (fun r25 τ25 hp25 => ?_)
      obtain ⟨rfl, hz⟩ := hp25
      rw [hz]
      refine V.ist3 (q := 29) dX2_mud_28 rfl ?_
      refine V.iload_n (q := 30) dX2_mud_29 rfl rfl ?_
      refine V.if_eq (t := 39) (q := 33) dX2_mud_30 (by decide) rfl  (fun c30 => absurd c30 (by decide +kernel)) (fun c30 => ?_)
      refine V.aload_n (q := 34) dX2_mud_33 rfl rfl ?_
      refine V.iload_n (q := 35) dX2_mud_34 rfl rfl ?_
      refine V.cvi1 (q := 38) dX2_mud_35 rfl kc_X2_53 rfl (by decide) rfl (hB.rm (by decide)) (Nat.le_of_ble_eq_true rfl) (p_refuse hX (k := 1) (v := -1) (by decide) (by decide) (by decide +kernel)) (fun r35 τ35 hp35 => ?_)
      obtain ⟨rfl, hz⟩ := hp35
      rw [hz]
      exact V.ret_int hB dX2_mud_38 rfl ⟨_, rfl, XP.no hX (by simp [q_mud, c2, stN_none hsk]) (by decide) (by decide +kernel)⟩

-- worst
set_option maxHeartbeats 4000000 in
set_option maxRecDepth 100000 in
theorem p_worst {σ : Sg} {n y : Nat} {τ : Nat → Nat → Nat} {fl n2 y2 : Nat} {τ2 : Nat → Nat → Nat} {m : Nat} {cs : Nat → Nat} {rl : Nat} {ro rc : Nat → Nat} (hX : XR σ n y τ fl n2 y2 τ2 m cs rl ro rc) (v : Int32) (w : Int32) : Con 5 yX2_worst cX2_worst 5 (some .int) [.ref 0, .int v, .int w] σ (PI (XP σ n y τ fl n2 y2 τ2 m cs rl ro rc (q_worst n y τ v w))) := by
  refine Con.of (by decide) (by simp [Value.category]) (Nat.le_of_ble_eq_true rfl) (fun x hB => ?_)
  show V x RX2 cX2_worst 5 0 [some (.ref 0), some (.int v), some (.int w), none, none] [] _
  have hN := hX.now
  have hn6 := hN.n6
  have hy9 := hX.y9
  refine V.iconst (q := 1) (v := nI 1) dX2_worst_0 rfl (by decide +kernel) ?_
  refine V.iload_n (q := 2) dX2_worst_1 rfl rfl ?_
  refine V.iconst (q := 3) (v := nI 0) dX2_worst_2 rfl (by decide +kernel) ?_
  refine V.bipush (q := 5) (v := nI 60) dX2_worst_3 rfl (by decide +kernel) ?_
  refine V.csi4 (q := 8) dX2_worst_5 rfl kc_X2_45 (hB.rm (by decide)) (Nat.le_of_ble_eq_true rfl) (p_rof v 0 60 (by decide) (by decide)) (fun r5 τ5 hp5 => ?_)
  obtain ⟨hz, ⟨hrf, rfl⟩ | ⟨hrf, rfl⟩ | ⟨rfl, j, hj1, hj2, rfl⟩⟩ := hp5
  · rw [hz]
    refine V.ist3 (q := 9) dX2_worst_8 rfl ?_
    refine V.iload_n (q := 10) dX2_worst_9 rfl rfl ?_
    refine V.if_ne (t := 25) (q := 13) dX2_worst_10 (by decide) rfl  (fun c10 => ?_) (fun c10 => absurd c10 (by decide +kernel))
    refine V.iload_n (q := 26) dX2_worst_25 rfl rfl ?_
    refine V.if_eq (t := 35) (q := 29) dX2_worst_26 (by decide) rfl  (fun c26 => absurd c26 (by decide +kernel)) (fun c26 => ?_)
    refine V.aload_n (q := 30) dX2_worst_29 rfl rfl ?_
    refine V.iload_n (q := 31) dX2_worst_30 rfl rfl ?_
    refine V.cvi1 (q := 34) dX2_worst_31 rfl kc_X2_53 rfl (by decide) rfl (hB.rm (by decide)) (Nat.le_of_ble_eq_true rfl) (p_refuse hX (k := 4) (v := -4) (by decide) (by decide) (by decide +kernel)) (fun r31 τ31 hp31 => ?_)
    obtain ⟨rfl, hz⟩ := hp31
    rw [hz]
    exact V.ret_int hB dX2_worst_34 rfl ⟨_, rfl, XP.no hX (by simp [q_worst, hrf]) (by decide) (by decide +kernel)⟩
  · rw [hz]
    refine V.ist3 (q := 9) dX2_worst_8 rfl ?_
    refine V.iload_n (q := 10) dX2_worst_9 rfl rfl ?_
    refine V.if_ne (t := 25) (q := 13) dX2_worst_10 (by decide) rfl  (fun c10 => ?_) (fun c10 => absurd c10 (by decide +kernel))
    refine V.iload_n (q := 26) dX2_worst_25 rfl rfl ?_
    refine V.if_eq (t := 35) (q := 29) dX2_worst_26 (by decide) rfl  (fun c26 => absurd c26 (by decide +kernel)) (fun c26 => ?_)
    refine V.aload_n (q := 30) dX2_worst_29 rfl rfl ?_
    refine V.iload_n (q := 31) dX2_worst_30 rfl rfl ?_
    refine V.cvi1 (q := 34) dX2_worst_31 rfl kc_X2_53 rfl (by decide) rfl (hB.rm (by decide)) (Nat.le_of_ble_eq_true rfl) (p_refuse hX (k := 6) (v := -6) (by decide) (by decide) (by decide +kernel)) (fun r31 τ31 hp31 => ?_)
    obtain ⟨rfl, hz⟩ := hp31
    rw [hz]
    exact V.ret_int hB dX2_worst_34 rfl ⟨_, rfl, XP.no hX (by simp [q_worst, hrf]) (by decide) (by decide +kernel)⟩
  · rw [hz]
    refine V.ist3 (q := 9) dX2_worst_8 rfl ?_
    refine V.iload_n (q := 10) dX2_worst_9 rfl rfl ?_
    refine V.ifN_ne (t := 25) (q := 13) dX2_worst_10 (by decide) rfl (by omega) (fun c10 => absurd c10 (by decide +kernel)) (fun c10 => ?_)
    refine V.iload_n (q := 14) dX2_worst_13 rfl rfl ?_
    refine V.if_eq (t := 25) (q := 17) dX2_worst_14 (by decide) rfl  (fun c14 => ?_) (fun c14 => ?_)
    · subst c14
      refine V.iload_n (q := 26) dX2_worst_25 rfl rfl ?_
      refine V.ifN_eq (t := 35) (q := 29) dX2_worst_26 (by decide) rfl (by omega) (fun c26 => ?_) (fun c26 => absurd c26 (by decide +kernel))
      refine V.aload_n (q := 36) dX2_worst_35 rfl rfl ?_
      refine V.getR (q := 39) dX2_worst_36 rfl kf_X2_19 rfl (by decide) rfl ?_
      refine V.aload_n (q := 40) dX2_worst_39 rfl rfl ?_
      refine V.getR (q := 43) dX2_worst_40 rfl kf_X2_12 rfl (by decide) rfl ?_
      refine V.cvv1 (q := 46) dX2_worst_43 rfl kc_X2_106 rfl (by decide) rfl (hB.rm (by decide)) (Nat.le_of_ble_eq_true rfl) (c_copyFrom t19 t1 (by decide) hN) (fun τ43 hp43 => ?_)
      obtain ⟨hT1, hF1⟩ := hp43
      have hN1 := hN.ot hF1 (by decide)
      refine V.aload_n (q := 47) dX2_worst_46 rfl rfl ?_
      refine V.getR (q := 50) dX2_worst_47 rfl kf_X2_19 rfl (by decide) rfl ?_
      refine V.iload_n (q := 51) dX2_worst_50 rfl rfl ?_
      refine V.cvi1 (q := 54) dX2_worst_51 rfl kc_X2_110 rfl (by decide) rfl (hB.rm (by decide)) (Nat.le_of_ble_eq_true rfl) (c_mudBehind t19 hT1 (k := j) (by omega)) (fun r51 τ51 hp51 => ?_)
      obtain ⟨rfl, hT2, hF2⟩ := hp51
      have hN2 := hN1.ot hF2 (by decide)
      refine V.pop (q := 55) dX2_worst_54 rfl rfl ?_
      refine V.aload_n (q := 56) dX2_worst_55 rfl rfl ?_
      refine V.getR (q := 59) dX2_worst_56 rfl kf_X2_19 rfl (by decide) rfl ?_
      refine V.cvi0 (q := 62) dX2_worst_59 rfl kc_X2_113 rfl (by decide) rfl (hB.rm (by decide)) (Nat.le_of_ble_eq_true rfl) (c_muddiest t19 hT2) (fun r59 τ59 hp59 => ?_)
      obtain ⟨hz, ⟨hn0, rfl⟩ | ⟨hn0, rfl⟩⟩ := hp59
      · rw [hz]
        refine V.ist4 (q := 64) dX2_worst_62 rfl ?_
        refine V.iload_n (q := 65) dX2_worst_64 rfl rfl ?_
        refine V.iconst (q := 66) (v := nI 1) dX2_worst_65 rfl (by decide +kernel) ?_
        refine V.icmp_ne (t := 83) (q := 69) dX2_worst_66 (by decide) rfl  (fun c66 => ?_) (fun c66 => absurd c66 (by decide +kernel))
        refine V.aload_n (q := 84) dX2_worst_83 rfl rfl ?_
        refine V.getR (q := 87) dX2_worst_84 rfl kf_X2_19 rfl (by decide) rfl ?_
        refine V.iload (q := 89) dX2_worst_87 rfl rfl ?_
        refine V.cvi1 (q := 92) dX2_worst_89 rfl kc_X2_69 rfl (by decide) rfl (hB.rm (by decide)) (Nat.le_of_ble_eq_true rfl) (c_isS0 t19 hT2.n6 hT2.n8 (v := -1) (sN_m1 n (by omega))) (fun r89 τ89 hp89 => ?_)
        obtain ⟨rfl, hz⟩ := hp89
        rw [hz]
        refine V.ifN_eq (t := 108) (q := 95) dX2_worst_92 (by decide) rfl (by omega) (fun c92 => ?_) (fun c92 => absurd c92 (by decide +kernel))
        refine V.iconst (q := 109) (v := nI 0) dX2_worst_108 rfl (by decide +kernel) ?_
        exact V.ret_int hB dX2_worst_109 rfl ⟨_, rfl, XP.yes hX ((Fs.of hF1 (Or.inl rfl)).tr (Fs.of hF2 (Or.inl rfl))) (by simp [q_worst, rfN_in hj1 hj2 (show 60 < 2 ^ 20 by decide), tn_nI (show j < 2 ^ 31 by omega), nI_0, hn0])⟩
      · rw [hz]
        have hm9 := mxK_lt (g := yrsM n y 6 6 τ j 1) hn0
        refine V.ist4 (q := 64) dX2_worst_62 rfl ?_
        refine V.iload_n (q := 65) dX2_worst_64 rfl rfl ?_
        refine V.iconst (q := 66) (v := nI 1) dX2_worst_65 rfl (by decide +kernel) ?_
        refine V.icmp_ne (t := 83) (q := 69) dX2_worst_66 (by decide) rfl  (fun c66 => ?_) (fun c66 => absurd c66 (by decide +kernel))
        refine V.aload_n (q := 84) dX2_worst_83 rfl rfl ?_
        refine V.getR (q := 87) dX2_worst_84 rfl kf_X2_19 rfl (by decide) rfl ?_
        refine V.iload (q := 89) dX2_worst_87 rfl rfl ?_
        refine V.cvi1 (q := 92) dX2_worst_89 rfl kc_X2_69 rfl (by decide) rfl (hB.rm (by decide)) (Nat.le_of_ble_eq_true rfl) (c_isS1 t19 hT2 hm9) (fun r89 τ89 hp89 => ?_)
        obtain ⟨rfl, hz⟩ := hp89
        rw [hz]
        refine V.ifN_eq (t := 108) (q := 95) dX2_worst_92 (by decide) rfl (by omega) (fun c92 => absurd c92 (by decide +kernel)) (fun c92 => ?_)
        refine V.aload_n (q := 96) dX2_worst_95 rfl rfl ?_
        refine V.getR (q := 99) dX2_worst_96 rfl kf_X2_19 rfl (by decide) rfl ?_
        refine V.getRn (q := 102) dX2_worst_99 rfl kf_X2_76 rfl (by decide) rfl ?_
        refine V.iload (q := 104) dX2_worst_102 rfl rfl ?_
        refine V.ialdN (q := 105) dX2_worst_104 rfl rfl (by decide) (by omega) (by decide) (TA.a hT2 1 (by decide) (by omega)) ?_
        refine V.goto (q := 109) dX2_worst_105 (by decide) ?_
        exact V.ret_int hB dX2_worst_109 rfl ⟨_, rfl, XP.yes hX ((Fs.of hF1 (Or.inl rfl)).tr (Fs.of hF2 (Or.inl rfl))) (by simp [q_worst, rfN_in hj1 hj2 (show 60 < 2 ^ 20 by decide), tn_nI (show j < 2 ^ 31 by omega), nI_0, show ¬ n = 0 by omega]; rfl)⟩
    · refine V.iload_n (q := 18) dX2_worst_17 rfl rfl ?_
      refine V.iconst (q := 19) (v := nI 1) dX2_worst_18 rfl (by decide +kernel) ?_
      refine V.icmp_eq (t := 25) (q := 22) dX2_worst_19 (by decide) rfl  (fun c19 => ?_) (fun c19 => ?_)
      · subst c19
        refine V.iload_n (q := 26) dX2_worst_25 rfl rfl ?_
        refine V.ifN_eq (t := 35) (q := 29) dX2_worst_26 (by decide) rfl (by omega) (fun c26 => ?_) (fun c26 => absurd c26 (by decide +kernel))
        refine V.aload_n (q := 36) dX2_worst_35 rfl rfl ?_
        refine V.getR (q := 39) dX2_worst_36 rfl kf_X2_19 rfl (by decide) rfl ?_
        refine V.aload_n (q := 40) dX2_worst_39 rfl rfl ?_
        refine V.getR (q := 43) dX2_worst_40 rfl kf_X2_12 rfl (by decide) rfl ?_
        refine V.cvv1 (q := 46) dX2_worst_43 rfl kc_X2_106 rfl (by decide) rfl (hB.rm (by decide)) (Nat.le_of_ble_eq_true rfl) (c_copyFrom t19 t1 (by decide) hN) (fun τ43 hp43 => ?_)
        obtain ⟨hT1, hF1⟩ := hp43
        have hN1 := hN.ot hF1 (by decide)
        refine V.aload_n (q := 47) dX2_worst_46 rfl rfl ?_
        refine V.getR (q := 50) dX2_worst_47 rfl kf_X2_19 rfl (by decide) rfl ?_
        refine V.iload_n (q := 51) dX2_worst_50 rfl rfl ?_
        refine V.cvi1 (q := 54) dX2_worst_51 rfl kc_X2_110 rfl (by decide) rfl (hB.rm (by decide)) (Nat.le_of_ble_eq_true rfl) (c_mudBehind t19 hT1 (k := j) (by omega)) (fun r51 τ51 hp51 => ?_)
        obtain ⟨rfl, hT2, hF2⟩ := hp51
        have hN2 := hN1.ot hF2 (by decide)
        refine V.pop (q := 55) dX2_worst_54 rfl rfl ?_
        refine V.aload_n (q := 56) dX2_worst_55 rfl rfl ?_
        refine V.getR (q := 59) dX2_worst_56 rfl kf_X2_19 rfl (by decide) rfl ?_
        refine V.cvi0 (q := 62) dX2_worst_59 rfl kc_X2_113 rfl (by decide) rfl (hB.rm (by decide)) (Nat.le_of_ble_eq_true rfl) (c_muddiest t19 hT2) (fun r59 τ59 hp59 => ?_)
        obtain ⟨hz, ⟨hn0, rfl⟩ | ⟨hn0, rfl⟩⟩ := hp59
        · rw [hz]
          refine V.ist4 (q := 64) dX2_worst_62 rfl ?_
          refine V.iload_n (q := 65) dX2_worst_64 rfl rfl ?_
          refine V.iconst (q := 66) (v := nI 1) dX2_worst_65 rfl (by decide +kernel) ?_
          refine V.icmp_ne (t := 83) (q := 69) dX2_worst_66 (by decide) rfl  (fun c66 => absurd c66 (fun h9 => h9 rfl)) (fun c66 => ?_)
          refine V.iload (q := 71) dX2_worst_69 rfl rfl ?_
          refine V.iconst (q := 72) (v := (-1)) dX2_worst_71 rfl (by decide +kernel) ?_
          refine V.icmp_ne (t := 80) (q := 75) dX2_worst_72 (by decide) rfl  (fun c72 => absurd c72 (by decide +kernel)) (fun c72 => ?_)
          refine V.bipush (q := 77) (v := (-9)) dX2_worst_75 rfl (by decide +kernel) ?_
          refine V.goto (q := 82) dX2_worst_77 (by decide) ?_
          exact V.ret_int hB dX2_worst_82 rfl ⟨_, rfl, XP.yes hX ((Fs.of hF1 (Or.inl rfl)).tr (Fs.of hF2 (Or.inl rfl))) (by simp [q_worst, rfN_in hj1 hj2 (show 60 < 2 ^ 20 by decide), tn_nI (show j < 2 ^ 31 by omega), nI_0, hn0, c14])⟩
        · rw [hz]
          have hm9 := mxK_lt (g := yrsM n y 6 6 τ j 1) hn0
          refine V.ist4 (q := 64) dX2_worst_62 rfl ?_
          refine V.iload_n (q := 65) dX2_worst_64 rfl rfl ?_
          refine V.iconst (q := 66) (v := nI 1) dX2_worst_65 rfl (by decide +kernel) ?_
          refine V.icmp_ne (t := 83) (q := 69) dX2_worst_66 (by decide) rfl  (fun c66 => absurd c66 (fun h9 => h9 rfl)) (fun c66 => ?_)
          refine V.iload (q := 71) dX2_worst_69 rfl rfl ?_
          refine V.iconst (q := 72) (v := (-1)) dX2_worst_71 rfl (by decide +kernel) ?_
          refine V.icmp_ne (t := 80) (q := 75) dX2_worst_72 (by decide) rfl  (fun c72 => ?_) (fun c72 => absurd c72 (nI_m1 (by omega)))
          refine V.iload (q := 82) dX2_worst_80 rfl rfl ?_
          exact V.ret_int hB dX2_worst_82 rfl ⟨_, rfl, XP.yes hX ((Fs.of hF1 (Or.inl rfl)).tr (Fs.of hF2 (Or.inl rfl))) (by simp [q_worst, rfN_in hj1 hj2 (show 60 < 2 ^ 20 by decide), tn_nI (show j < 2 ^ 31 by omega), nI_0, c14, show ¬ n = 0 by omega]; rfl)⟩
      · refine V.bipush (q := 24) (v := (-2)) dX2_worst_22 rfl (by decide +kernel) ?_
        refine V.ist3 (q := 25) dX2_worst_24 rfl ?_
        refine V.iload_n (q := 26) dX2_worst_25 rfl rfl ?_
        refine V.if_eq (t := 35) (q := 29) dX2_worst_26 (by decide) rfl  (fun c26 => absurd c26 (by decide +kernel)) (fun c26 => ?_)
        refine V.aload_n (q := 30) dX2_worst_29 rfl rfl ?_
        refine V.iload_n (q := 31) dX2_worst_30 rfl rfl ?_
        refine V.cvi1 (q := 34) dX2_worst_31 rfl kc_X2_53 rfl (by decide) rfl (hB.rm (by decide)) (Nat.le_of_ble_eq_true rfl) (p_refuse hX (k := 2) (v := -2) (by decide) (by decide) (by decide +kernel)) (fun r31 τ31 hp31 => ?_)
        obtain ⟨rfl, hz⟩ := hp31
        rw [hz]
        exact V.ret_int hB dX2_worst_34 rfl ⟨_, rfl, XP.no hX (by simp [q_worst, rfN_in hj1 hj2 (show 60 < 2 ^ 20 by decide), nI_0, c14, c19]) (by decide) (by decide +kernel)⟩

-- again
set_option maxHeartbeats 4000000 in
set_option maxRecDepth 100000 in
theorem p_again {σ : Sg} {n y : Nat} {τ : Nat → Nat → Nat} {fl n2 y2 : Nat} {τ2 : Nat → Nat → Nat} {m : Nat} {cs : Nat → Nat} {rl : Nat} {ro rc : Nat → Nat} (hX : XR σ n y τ fl n2 y2 τ2 m cs rl ro rc) : Con 5 yX2_again cX2_again 2 (some .int) [.ref 0] σ (PI (XP σ n y τ fl n2 y2 τ2 m cs rl ro rc (q_again n y τ))) := by
  refine Con.of (by decide) (by simp [Value.category]) (Nat.le_of_ble_eq_true rfl) (fun x hB => ?_)
  show V x RX2 cX2_again 2 0 [some (.ref 0), none] [] _
  have hN := hX.now
  have hn6 := hN.n6
  have hy9 := hX.y9
  refine V.aload_n (q := 1) dX2_again_0 rfl rfl ?_
  refine V.getR (q := 4) dX2_again_1 rfl kf_X2_19 rfl (by decide) rfl ?_
  refine V.aload_n (q := 5) dX2_again_4 rfl rfl ?_
  refine V.getR (q := 8) dX2_again_5 rfl kf_X2_12 rfl (by decide) rfl ?_
  refine V.cvv1 (q := 11) dX2_again_8 rfl kc_X2_106 rfl (by decide) rfl (hB.rm (by decide)) (Nat.le_of_ble_eq_true rfl) (c_copyFrom t19 t1 (by decide) hN) (fun τ8 hp8 => ?_)
  obtain ⟨hT1, hF1⟩ := hp8
  have hN1 := hN.ot hF1 (by decide)
  refine V.aload_n (q := 12) dX2_again_11 rfl rfl ?_
  refine V.getR (q := 15) dX2_again_12 rfl kf_X2_19 rfl (by decide) rfl ?_
  refine V.bipush (q := 17) (v := nI 40) dX2_again_15 rfl (by decide +kernel) ?_
  refine V.cvi1 (q := 20) dX2_again_17 rfl kc_X2_110 rfl (by decide) rfl (hB.rm (by decide)) (Nat.le_of_ble_eq_true rfl) (c_mudBehind t19 hT1 (k := 40) (by omega)) (fun r17 τ17 hp17 => ?_)
  obtain ⟨rfl, hT2, hF2⟩ := hp17
  refine V.pop (q := 21) dX2_again_20 rfl rfl ?_
  refine V.aload_n (q := 22) dX2_again_21 rfl rfl ?_
  refine V.getR (q := 25) dX2_again_22 rfl kf_X2_22 rfl (by decide) rfl ?_
  refine V.aload_n (q := 26) dX2_again_25 rfl rfl ?_
  refine V.getR (q := 29) dX2_again_26 rfl kf_X2_19 rfl (by decide) rfl ?_
  refine V.cvv1 (q := 32) dX2_again_29 rfl kc_X2_106 rfl (by decide) rfl (hB.rm (by decide)) (Nat.le_of_ble_eq_true rfl) (c_copyFrom t28 t19 (by decide) hT2) (fun τ29 hp29 => ?_)
  obtain ⟨hR1, hF3⟩ := hp29
  have hT3 := hT2.ot hF3 (by decide)
  have hFs := ((Fs.of hF1 (Or.inl rfl)).tr (Fs.of hF2 (Or.inl rfl))).tr (Fs.of hF3 (Or.inr rfl))
  refine V.iconst (q := 33) (v := nI 1) dX2_again_32 rfl (by decide +kernel) ?_
  refine V.ist1 (q := 34) dX2_again_33 rfl ?_
  have loop : ∀ i, i ≤ 30 → ∀ σ1, TA σ1 28 n (y + (40 + i)) 6 6 (yM n y τ (40 + i)) → TA σ1 19 n (y + 40) 6 6 (yM n y τ 40) → Fs σ σ1 → fsK (fun j => alB n (yM n y τ (40 + (j + 1))) (yM n y τ 40)) i = none → V x RX2 cX2_again 2 34 [some (.ref 0), some (.int (nI (i + 1)))] [] σ1 := by
    refine down 30 (fun i hi ih σ1 hR hT hF hno => ?_)
    refine V.iload_n (q := 35) dX2_again_34 rfl rfl ?_
    refine V.bipush (q := 37) (v := nI 30) dX2_again_35 rfl (by decide +kernel) ?_
    refine V.icmpN_gt (t := 69) (q := 40) dX2_again_37 (by decide) rfl (by omega) (by omega) (fun c37 => ?_) (fun c37 => ?_)
    · have ei : i = 30 := by omega
      subst ei
      refine V.bipush (q := 71) (v := (-9)) dX2_again_69 rfl (by decide +kernel) ?_
      exact V.ret_int hB dX2_again_71 rfl ⟨_, rfl, XP.yes hX (hF) (by unfold q_again; rw [hno]; rfl)⟩
    · refine V.aload_n (q := 41) dX2_again_40 rfl rfl ?_
      refine V.getR (q := 44) dX2_again_41 rfl kf_X2_22 rfl (by decide) rfl ?_
      refine V.cvv0 (q := 47) dX2_again_44 rfl kc_X2_100 rfl (by decide) rfl (hB.rm (by decide)) (Nat.le_of_ble_eq_true rfl) (c_passYear t28 hR (by omega)) (fun τ44 hp44 => ?_)
      obtain ⟨hR2, hF4⟩ := hp44
      have hT4 := hT.ot hF4 (by decide)
      refine V.aload_n (q := 48) dX2_again_47 rfl rfl ?_
      refine V.getR (q := 51) dX2_again_48 rfl kf_X2_22 rfl (by decide) rfl ?_
      refine V.aload_n (q := 52) dX2_again_51 rfl rfl ?_
      refine V.getR (q := 55) dX2_again_52 rfl kf_X2_19 rfl (by decide) rfl ?_
      refine V.cvi1 (q := 58) dX2_again_55 rfl kc_X2_116 rfl (by decide) rfl (hB.rm (by decide)) (Nat.le_of_ble_eq_true rfl) (c_liesLike t28 hR2 t19 hT4) (fun r55 τ55 hp55 => ?_)
      obtain ⟨hz, ⟨rfl, hal⟩ | ⟨rfl, hal⟩⟩ := hp55
      · rw [hz]
        have hp9 := fsK_y hno (alB_iff.mpr hal)
        refine V.ifN_eq (t := 63) (q := 61) dX2_again_58 (by decide) rfl (by omega) (fun c58 => absurd c58 (by decide +kernel)) (fun c58 => ?_)
        refine V.iload_n (q := 62) dX2_again_61 rfl rfl ?_
        exact V.ret_int hB dX2_again_62 rfl ⟨_, rfl, XP.yes hX (hF.tr (Fs.of hF4 (Or.inr rfl))) (by unfold q_again; rw [fsK_up hp9 (show i + 1 ≤ 30 by omega)]; rfl)⟩
      · rw [hz]
        have hp9 := fsK_n hno (fun h9 => hal (alB_iff.mp h9))
        refine V.ifN_eq (t := 63) (q := 61) dX2_again_58 (by decide) rfl (by omega) (fun c58 => ?_) (fun c58 => absurd c58 (by decide +kernel))
        refine V.inc1 (q := 66) dX2_again_63 rfl (inc1 _) ?_
        refine V.goto (q := 34) dX2_again_66 (by decide) ?_
        exact ih (by omega) _ hR2 hT4 (hF.tr (Fs.of hF4 (Or.inr rfl))) hp9
  exact loop 0 (by decide) _ hR1 hT3 hFs rfl

-- way
set_option maxHeartbeats 4000000 in
set_option maxRecDepth 100000 in
theorem p_way {σ : Sg} {n y : Nat} {τ : Nat → Nat → Nat} {fl n2 y2 : Nat} {τ2 : Nat → Nat → Nat} {m : Nat} {cs : Nat → Nat} {rl : Nat} {ro rc : Nat → Nat} (hX : XR σ n y τ fl n2 y2 τ2 m cs rl ro rc) (v : Int32) (w : Int32) : Con 3 yX2_way cX2_way 5 (some .int) [.ref 0, .int v, .int w] σ (PI (XP σ n y τ fl n2 y2 τ2 m cs rl ro rc (q_way n τ v w))) := by
  refine Con.of (by decide) (by simp [Value.category]) (Nat.le_of_ble_eq_true rfl) (fun x hB => ?_)
  show V x RX2 cX2_way 5 0 [some (.ref 0), some (.int v), some (.int w), none, none] [] _
  have hN := hX.now
  have hn6 := hN.n6
  have hy9 := hX.y9
  refine V.aload_n (q := 1) dX2_way_0 rfl rfl ?_
  refine V.getR (q := 4) dX2_way_1 rfl kf_X2_12 rfl (by decide) rfl ?_
  refine V.iload_n (q := 5) dX2_way_4 rfl rfl ?_
  refine V.cvi1 (q := 8) dX2_way_5 rfl kc_X2_69 rfl (by decide) rfl (hB.rm (by decide)) (Nat.le_of_ble_eq_true rfl) (c_isStreet t1 hN v) (fun r5 τ5 hp5 => ?_)
  obtain ⟨hz, ⟨rfl, k, hk, rfl⟩ | ⟨rfl, hsk⟩⟩ := hp5
  · rw [hz]
    refine V.ifN_eq (t := 22) (q := 11) dX2_way_8 (by decide) rfl (by omega) (fun c8 => absurd c8 (by decide +kernel)) (fun c8 => ?_)
    refine V.aload_n (q := 12) dX2_way_11 rfl rfl ?_
    refine V.getR (q := 15) dX2_way_12 rfl kf_X2_12 rfl (by decide) rfl ?_
    refine V.iload_n (q := 16) dX2_way_15 rfl rfl ?_
    refine V.cvi1 (q := 19) dX2_way_16 rfl kc_X2_69 rfl (by decide) rfl (hB.rm (by decide)) (Nat.le_of_ble_eq_true rfl) (c_isStreet t1 hN w) (fun r16 τ16 hp16 => ?_)
    obtain ⟨hz, ⟨rfl, o, ho, rfl⟩ | ⟨rfl, hso⟩⟩ := hp16
    · rw [hz]
      refine V.ifN_ne (t := 28) (q := 22) dX2_way_19 (by decide) rfl (by omega) (fun c19 => ?_) (fun c19 => absurd c19 (by decide +kernel))
      refine V.iload_n (q := 29) dX2_way_28 rfl rfl ?_
      refine V.ist3 (q := 30) dX2_way_29 rfl ?_
      refine V.iconst (q := 31) (v := nI 0) dX2_way_30 rfl (by decide +kernel) ?_
      refine V.ist4 (q := 33) dX2_way_31 rfl ?_
      have hme : ∀ a, a < n → τ 5 a < n := fun a h9 => (hN.w a h9).2.2.2.2.2.1
      have loop : ∀ i, i ≤ n → ∀ a, a = itr (τ 5) i k → fsK (fun j => decide (itr (τ 5) j k = o)) i = none → V x RX2 cX2_way 5 33 [some (.ref 0), some (.int (nI k)), some (.int (nI o)), some (.int (nI a)), some (.int (nI i))] [] σ := by
        refine down n (fun i hi ih a ea hno => ?_)
        have ha : a < n := by rw [ea]; exact itr_lt hme hk i
        have ha2 := hme a ha
        refine V.iload (q := 35) dX2_way_33 rfl rfl ?_
        refine V.aload_n (q := 36) dX2_way_35 rfl rfl ?_
        refine V.getR (q := 39) dX2_way_36 rfl kf_X2_12 rfl (by decide) rfl ?_
        refine V.getIn (q := 42) dX2_way_39 rfl kf_X2_120 rfl (by decide) rfl (TA.n8 hN) ?_
        refine V.icmpN_ge (t := 68) (q := 45) dX2_way_42 (by decide) rfl (by omega) (by omega) (fun c42 => ?_) (fun c42 => ?_)
        · have ei : i = n := by omega
          subst ei
          refine V.bipush (q := 70) (v := (-9)) dX2_way_68 rfl (by decide +kernel) ?_
          exact V.ret_int hB dX2_way_70 rfl ⟨_, rfl, XP.yes hX (Fs.rf) (by simp [q_way, stN_some hk (Nat.le_trans hn6 (by decide)), stN_some ho (Nat.le_trans hn6 (by decide)), hno, oI])⟩
        · refine V.iload_n (q := 46) dX2_way_45 rfl rfl ?_
          refine V.iload_n (q := 47) dX2_way_46 rfl rfl ?_
          refine V.icmpN_ne (t := 53) (q := 50) dX2_way_47 (by decide) rfl (by omega) (by omega) (fun c47 => ?_) (fun c47 => ?_)
          · have hp9 := fsK_n hno (show ¬ decide (itr (τ 5) i k = o) = true by simp [← ea, c47])
            refine V.aload_n (q := 54) dX2_way_53 rfl rfl ?_
            refine V.getR (q := 57) dX2_way_54 rfl kf_X2_12 rfl (by decide) rfl ?_
            refine V.iload_n (q := 58) dX2_way_57 rfl rfl ?_
            refine V.cvi1 (q := 61) dX2_way_58 rfl kc_X2_123 rfl (by decide) rfl (hB.rm (by decide)) (Nat.le_of_ble_eq_true rfl) (c_stepFrom t1 hN ha) (fun r58 τ58 hp58 => ?_)
            obtain ⟨rfl, hz⟩ := hp58
            rw [hz]
            refine V.ist3 (q := 62) dX2_way_61 rfl ?_
            refine V.inc4 (q := 65) dX2_way_62 rfl (inc1 _) ?_
            refine V.goto (q := 33) dX2_way_65 (by decide) ?_
            exact ih (by omega) _ (by rw [ea]; rfl) hp9
          · have hp9 := fsK_y hno (show decide (itr (τ 5) i k = o) = true by simp [← ea, c47])
            refine V.iload (q := 52) dX2_way_50 rfl rfl ?_
            exact V.ret_int hB dX2_way_52 rfl ⟨_, rfl, XP.yes hX (Fs.rf) (by simp [q_way, stN_some hk (Nat.le_trans hn6 (by decide)), stN_some ho (Nat.le_trans hn6 (by decide)), fsK_up hp9 (show i + 1 ≤ n by omega), oI])⟩
      exact loop 0 (Nat.zero_le _) k rfl rfl
    · rw [hz]
      refine V.ifN_ne (t := 28) (q := 22) dX2_way_19 (by decide) rfl (by omega) (fun c19 => absurd c19 (by decide +kernel)) (fun c19 => ?_)
      refine V.aload_n (q := 23) dX2_way_22 rfl rfl ?_
      refine V.iconst (q := 24) (v := (-1)) dX2_way_23 rfl (by decide +kernel) ?_
      refine V.cvi1 (q := 27) dX2_way_24 rfl kc_X2_53 rfl (by decide) rfl (hB.rm (by decide)) (Nat.le_of_ble_eq_true rfl) (p_refuse hX (k := 1) (v := -1) (by decide) (by decide) (by decide +kernel)) (fun r24 τ24 hp24 => ?_)
      obtain ⟨rfl, hz⟩ := hp24
      rw [hz]
      exact V.ret_int hB dX2_way_27 rfl ⟨_, rfl, XP.no hX (by simp [q_way, stN_some hk (Nat.le_trans hn6 (by decide)), stN_none hso]) (by decide) (by decide +kernel)⟩
  · rw [hz]
    refine V.ifN_eq (t := 22) (q := 11) dX2_way_8 (by decide) rfl (by omega) (fun c8 => ?_) (fun c8 => absurd c8 (by decide +kernel))
    refine V.aload_n (q := 23) dX2_way_22 rfl rfl ?_
    refine V.iconst (q := 24) (v := (-1)) dX2_way_23 rfl (by decide +kernel) ?_
    refine V.cvi1 (q := 27) dX2_way_24 rfl kc_X2_53 rfl (by decide) rfl (hB.rm (by decide)) (Nat.le_of_ble_eq_true rfl) (p_refuse hX (k := 1) (v := -1) (by decide) (by decide) (by decide +kernel)) (fun r24 τ24 hp24 => ?_)
    obtain ⟨rfl, hz⟩ := hp24
    rw [hz]
    exact V.ret_int hB dX2_way_27 rfl ⟨_, rfl, XP.no hX (by simp [q_way, stN_none hsk]) (by decide) (by decide +kernel)⟩

-- ring
set_option maxHeartbeats 4000000 in
set_option maxRecDepth 100000 in
theorem p_ring {σ : Sg} {n y : Nat} {τ : Nat → Nat → Nat} {fl n2 y2 : Nat} {τ2 : Nat → Nat → Nat} {m : Nat} {cs : Nat → Nat} {rl : Nat} {ro rc : Nat → Nat} (hX : XR σ n y τ fl n2 y2 τ2 m cs rl ro rc) : Con 4 yX2_ring cX2_ring 3 (some .int) [.ref 0] σ (PI (XP σ n y τ fl n2 y2 τ2 m cs rl ro rc (q_ring n τ))) := by
  refine Con.of (by decide) (by simp [Value.category]) (Nat.le_of_ble_eq_true rfl) (fun x hB => ?_)
  show V x RX2 cX2_ring 3 0 [some (.ref 0), none, none] [] _
  have hN := hX.now
  have hn6 := hN.n6
  have hy9 := hX.y9
  refine V.iconst (q := 1) (v := nI 0) dX2_ring_0 rfl (by decide +kernel) ?_
  refine V.ist1 (q := 2) dX2_ring_1 rfl ?_
  refine V.iconst (q := 3) (v := nI 0) dX2_ring_2 rfl (by decide +kernel) ?_
  refine V.ist2 (q := 4) dX2_ring_3 rfl ?_
  have loop : ∀ j, j ≤ n → ∀ a, a = bsK (onB n (τ 5)) j → V x RX2 cX2_ring 3 4 [some (.ref 0), some (.int (nI a)), some (.int (nI j))] [] σ := by
    refine down n (fun j hj ih a ea => ?_)
    have ha := bsK_lt (onB n (τ 5)) j
    rw [← ea] at ha
    refine V.iload_n (q := 5) dX2_ring_4 rfl rfl ?_
    refine V.aload_n (q := 6) dX2_ring_5 rfl rfl ?_
    refine V.getR (q := 9) dX2_ring_6 rfl kf_X2_12 rfl (by decide) rfl ?_
    refine V.getIn (q := 12) dX2_ring_9 rfl kf_X2_120 rfl (by decide) rfl (TA.n8 hN) ?_
    refine V.icmpN_ge (t := 38) (q := 15) dX2_ring_12 (by decide) rfl (by omega) (by omega) (fun c12 => ?_) (fun c12 => ?_)
    · have ej : j = n := by omega
      subst ej
      refine V.iload_n (q := 39) dX2_ring_38 rfl rfl ?_
      exact V.ret_int hB dX2_ring_39 rfl ⟨_, rfl, XP.yes hX (Fs.rf) (by rw [ea]; rfl)⟩
    · refine V.aload_n (q := 16) dX2_ring_15 rfl rfl ?_
      refine V.getR (q := 19) dX2_ring_16 rfl kf_X2_12 rfl (by decide) rfl ?_
      refine V.iload_n (q := 20) dX2_ring_19 rfl rfl ?_
      refine V.cvi1 (q := 23) dX2_ring_20 rfl kc_X2_126 rfl (by decide) rfl (hB.rm (by decide)) (Nat.le_of_ble_eq_true rfl) (c_isOnRing t1 hN c12) (fun r20 τ20 hp20 => ?_)
      obtain ⟨hz, ⟨rfl, hon⟩ | ⟨rfl, hon⟩⟩ := hp20
      · rw [hz]
        refine V.ifN_eq (t := 32) (q := 26) dX2_ring_23 (by decide) rfl (by omega) (fun c23 => absurd c23 (by decide +kernel)) (fun c23 => ?_)
        refine V.iload_n (q := 27) dX2_ring_26 rfl rfl ?_
        refine V.iconst (q := 28) (v := nI 1) dX2_ring_27 rfl (by decide +kernel) ?_
        refine V.iload_n (q := 29) dX2_ring_28 rfl rfl ?_
        refine V.ishl (q := 30) dX2_ring_29 rfl ?_
        rw [shl1 (show j < 6 by omega)]
        refine V.ior (q := 31) dX2_ring_30 rfl ?_
        rw [ior_all j (by omega) a ha]
        refine V.ist1 (q := 32) dX2_ring_31 rfl ?_
        refine V.inc2 (q := 35) dX2_ring_32 rfl (inc1 _) ?_
        refine V.goto (q := 4) dX2_ring_35 (by decide) ?_
        exact ih c12 _ (by unfold bsK; rw [if_pos (onB_iff.mpr hon), ea])
      · rw [hz]
        refine V.ifN_eq (t := 32) (q := 26) dX2_ring_23 (by decide) rfl (by omega) (fun c23 => ?_) (fun c23 => absurd c23 (by decide +kernel))
        refine V.inc2 (q := 35) dX2_ring_32 rfl (inc1 _) ?_
        refine V.goto (q := 4) dX2_ring_35 (by decide) ?_
        exact ih c12 _ (by unfold bsK; rw [if_neg (fun h9 => hon (onB_iff.mp h9))]; exact ea)
  exact loop 0 (Nat.zero_le _) 0 rfl

-- never
set_option maxHeartbeats 4000000 in
set_option maxRecDepth 100000 in
theorem p_never {σ : Sg} {n y : Nat} {τ : Nat → Nat → Nat} {fl n2 y2 : Nat} {τ2 : Nat → Nat → Nat} {m : Nat} {cs : Nat → Nat} {rl : Nat} {ro rc : Nat → Nat} (hX : XR σ n y τ fl n2 y2 τ2 m cs rl ro rc) : Con 3 yX2_never cX2_never 3 (some .int) [.ref 0] σ (PI (XP σ n y τ fl n2 y2 τ2 m cs rl ro rc (q_never n τ))) := by
  refine Con.of (by decide) (by simp [Value.category]) (Nat.le_of_ble_eq_true rfl) (fun x hB => ?_)
  show V x RX2 cX2_never 3 0 [some (.ref 0), none, none] [] _
  have hN := hX.now
  have hn6 := hN.n6
  have hy9 := hX.y9
  refine V.iconst (q := 1) (v := nI 0) dX2_never_0 rfl (by decide +kernel) ?_
  refine V.ist1 (q := 2) dX2_never_1 rfl ?_
  refine V.iconst (q := 3) (v := nI 0) dX2_never_2 rfl (by decide +kernel) ?_
  refine V.ist2 (q := 4) dX2_never_3 rfl ?_
  have loop : ∀ j, j ≤ n → ∀ a, a = bsK (fun i => decide (fedK (τ 5) i n = 0)) j → V x RX2 cX2_never 3 4 [some (.ref 0), some (.int (nI a)), some (.int (nI j))] [] σ := by
    refine down n (fun j hj ih a ea => ?_)
    have ha := bsK_lt (fun i => decide (fedK (τ 5) i n = 0)) j
    rw [← ea] at ha
    refine V.iload_n (q := 5) dX2_never_4 rfl rfl ?_
    refine V.aload_n (q := 6) dX2_never_5 rfl rfl ?_
    refine V.getR (q := 9) dX2_never_6 rfl kf_X2_12 rfl (by decide) rfl ?_
    refine V.getIn (q := 12) dX2_never_9 rfl kf_X2_120 rfl (by decide) rfl (TA.n8 hN) ?_
    refine V.icmpN_ge (t := 38) (q := 15) dX2_never_12 (by decide) rfl (by omega) (by omega) (fun c12 => ?_) (fun c12 => ?_)
    · have ej : j = n := by omega
      subst ej
      refine V.iload_n (q := 39) dX2_never_38 rfl rfl ?_
      exact V.ret_int hB dX2_never_39 rfl ⟨_, rfl, XP.yes hX (Fs.rf) (by rw [ea]; rfl)⟩
    · have hfe := fedK_le (τ 5) j n
      refine V.aload_n (q := 16) dX2_never_15 rfl rfl ?_
      refine V.getR (q := 19) dX2_never_16 rfl kf_X2_12 rfl (by decide) rfl ?_
      refine V.iload_n (q := 20) dX2_never_19 rfl rfl ?_
      refine V.cvi1 (q := 23) dX2_never_20 rfl kc_X2_94 rfl (by decide) rfl (hB.rm (by decide)) (Nat.le_of_ble_eq_true rfl) (c_fed t1 hN (i := j) (by omega)) (fun r20 τ20 hp20 => ?_)
      obtain ⟨rfl, hz⟩ := hp20
      rw [hz]
      refine V.ifN_ne (t := 32) (q := 26) dX2_never_23 (by decide) rfl (by omega) (fun c23 => ?_) (fun c23 => ?_)
      · refine V.inc2 (q := 35) dX2_never_32 rfl (inc1 _) ?_
        refine V.goto (q := 4) dX2_never_35 (by decide) ?_
        exact ih c12 _ (by unfold bsK; rw [if_neg (by simp [c23])]; exact ea)
      · refine V.iload_n (q := 27) dX2_never_26 rfl rfl ?_
        refine V.iconst (q := 28) (v := nI 1) dX2_never_27 rfl (by decide +kernel) ?_
        refine V.iload_n (q := 29) dX2_never_28 rfl rfl ?_
        refine V.ishl (q := 30) dX2_never_29 rfl ?_
        rw [shl1 (show j < 6 by omega)]
        refine V.ior (q := 31) dX2_never_30 rfl ?_
        rw [ior_all j (by omega) a ha]
        refine V.ist1 (q := 32) dX2_never_31 rfl ?_
        refine V.inc2 (q := 35) dX2_never_32 rfl (inc1 _) ?_
        refine V.goto (q := 4) dX2_never_35 (by decide) ?_
        exact ih c12 _ (by unfold bsK; rw [if_pos (by simp [c23]), ea])
  exact loop 0 (Nat.zero_le _) 0 rfl

-- rings
set_option maxHeartbeats 4000000 in
set_option maxRecDepth 100000 in
theorem p_rings {σ : Sg} {n y : Nat} {τ : Nat → Nat → Nat} {fl n2 y2 : Nat} {τ2 : Nat → Nat → Nat} {m : Nat} {cs : Nat → Nat} {rl : Nat} {ro rc : Nat → Nat} (hX : XR σ n y τ fl n2 y2 τ2 m cs rl ro rc) : Con 4 yX2_rings cX2_rings 3 (some .int) [.ref 0] σ (PI (XP σ n y τ fl n2 y2 τ2 m cs rl ro rc (q_rings n τ))) := by
  refine Con.of (by decide) (by simp [Value.category]) (Nat.le_of_ble_eq_true rfl) (fun x hB => ?_)
  show V x RX2 cX2_rings 3 0 [some (.ref 0), none, none] [] _
  have hN := hX.now
  have hn6 := hN.n6
  have hy9 := hX.y9
  refine V.iconst (q := 1) (v := nI 0) dX2_rings_0 rfl (by decide +kernel) ?_
  refine V.ist1 (q := 2) dX2_rings_1 rfl ?_
  refine V.iconst (q := 3) (v := nI 0) dX2_rings_2 rfl (by decide +kernel) ?_
  refine V.ist2 (q := 4) dX2_rings_3 rfl ?_
  have loop : ∀ j, j ≤ n → ∀ a, a = cntK (fun i => onB n (τ 5) i && decide (lwK (τ 5) i n = i)) j → V x RX2 cX2_rings 3 4 [some (.ref 0), some (.int (nI a)), some (.int (nI j))] [] σ := by
    refine down n (fun j hj ih a ea => ?_)
    refine V.iload_n (q := 5) dX2_rings_4 rfl rfl ?_
    refine V.aload_n (q := 6) dX2_rings_5 rfl rfl ?_
    refine V.getR (q := 9) dX2_rings_6 rfl kf_X2_12 rfl (by decide) rfl ?_
    refine V.getIn (q := 12) dX2_rings_9 rfl kf_X2_120 rfl (by decide) rfl (TA.n8 hN) ?_
    refine V.icmpN_ge (t := 47) (q := 15) dX2_rings_12 (by decide) rfl (by omega) (by omega) (fun c12 => ?_) (fun c12 => ?_)
    · have ej : j = n := by omega
      subst ej
      refine V.iload_n (q := 48) dX2_rings_47 rfl rfl ?_
      exact V.ret_int hB dX2_rings_48 rfl ⟨_, rfl, XP.yes hX (Fs.rf) (by rw [ea]; rfl)⟩
    · refine V.aload_n (q := 16) dX2_rings_15 rfl rfl ?_
      refine V.getR (q := 19) dX2_rings_16 rfl kf_X2_12 rfl (by decide) rfl ?_
      refine V.iload_n (q := 20) dX2_rings_19 rfl rfl ?_
      refine V.cvi1 (q := 23) dX2_rings_20 rfl kc_X2_126 rfl (by decide) rfl (hB.rm (by decide)) (Nat.le_of_ble_eq_true rfl) (c_isOnRing t1 hN c12) (fun r20 τ20 hp20 => ?_)
      obtain ⟨hz, ⟨rfl, hon⟩ | ⟨rfl, hon⟩⟩ := hp20
      · rw [hz]
        have hlw : lwK (τ 5) j n ≤ j := lwK_le (τ 5) j n
        refine V.ifN_eq (t := 41) (q := 26) dX2_rings_23 (by decide) rfl (by omega) (fun c23 => absurd c23 (by decide +kernel)) (fun c23 => ?_)
        refine V.aload_n (q := 27) dX2_rings_26 rfl rfl ?_
        refine V.getR (q := 30) dX2_rings_27 rfl kf_X2_12 rfl (by decide) rfl ?_
        refine V.iload_n (q := 31) dX2_rings_30 rfl rfl ?_
        refine V.cvi1 (q := 34) dX2_rings_31 rfl kc_X2_129 rfl (by decide) rfl (hB.rm (by decide)) (Nat.le_of_ble_eq_true rfl) (c_least t1 hN c12) (fun r31 τ31 hp31 => ?_)
        obtain ⟨rfl, hz⟩ := hp31
        rw [hz]
        refine V.iload_n (q := 35) dX2_rings_34 rfl rfl ?_
        refine V.icmpN_ne (t := 41) (q := 38) dX2_rings_35 (by decide) rfl (by omega) (by omega) (fun c35 => ?_) (fun c35 => ?_)
        · refine V.inc2 (q := 44) dX2_rings_41 rfl (inc1 _) ?_
          refine V.goto (q := 4) dX2_rings_44 (by decide) ?_
          exact ih c12 _ (by unfold cntK; rw [if_neg (by simp [c35])]; exact ea)
        · refine V.inc1 (q := 41) dX2_rings_38 rfl (inc1 _) ?_
          refine V.inc2 (q := 44) dX2_rings_41 rfl (inc1 _) ?_
          refine V.goto (q := 4) dX2_rings_44 (by decide) ?_
          exact ih c12 _ (by unfold cntK; rw [if_pos (by simp [onB_iff.mpr hon, c35]), ea])
      · rw [hz]
        refine V.ifN_eq (t := 41) (q := 26) dX2_rings_23 (by decide) rfl (by omega) (fun c23 => ?_) (fun c23 => absurd c23 (by decide +kernel))
        refine V.inc2 (q := 44) dX2_rings_41 rfl (inc1 _) ?_
        refine V.goto (q := 4) dX2_rings_44 (by decide) ?_
        exact ih c12 _ (by unfold cntK; rw [if_neg (by simp; intro h9; exact absurd (onB_iff.mp h9) hon)]; exact ea)
  exact loop 0 (Nat.zero_le _) 0 rfl

-- tail
set_option maxHeartbeats 4000000 in
set_option maxRecDepth 100000 in
theorem p_tail {σ : Sg} {n y : Nat} {τ : Nat → Nat → Nat} {fl n2 y2 : Nat} {τ2 : Nat → Nat → Nat} {m : Nat} {cs : Nat → Nat} {rl : Nat} {ro rc : Nat → Nat} (hX : XR σ n y τ fl n2 y2 τ2 m cs rl ro rc) (v : Int32) : Con 4 yX2_tail cX2_tail 4 (some .int) [.ref 0, .int v] σ (PI (XP σ n y τ fl n2 y2 τ2 m cs rl ro rc (q_tail n τ v))) := by
  refine Con.of (by decide) (by simp [Value.category]) (Nat.le_of_ble_eq_true rfl) (fun x hB => ?_)
  show V x RX2 cX2_tail 4 0 [some (.ref 0), some (.int v), none, none] [] _
  have hN := hX.now
  have hn6 := hN.n6
  have hy9 := hX.y9
  refine V.aload_n (q := 1) dX2_tail_0 rfl rfl ?_
  refine V.getR (q := 4) dX2_tail_1 rfl kf_X2_12 rfl (by decide) rfl ?_
  refine V.iload_n (q := 5) dX2_tail_4 rfl rfl ?_
  refine V.cvi1 (q := 8) dX2_tail_5 rfl kc_X2_69 rfl (by decide) rfl (hB.rm (by decide)) (Nat.le_of_ble_eq_true rfl) (c_isStreet t1 hN v) (fun r5 τ5 hp5 => ?_)
  obtain ⟨hz, ⟨rfl, k, hk, rfl⟩ | ⟨rfl, hsk⟩⟩ := hp5
  · rw [hz]
    refine V.ifN_ne (t := 17) (q := 11) dX2_tail_8 (by decide) rfl (by omega) (fun c8 => ?_) (fun c8 => absurd c8 (by decide +kernel))
    refine V.iload_n (q := 18) dX2_tail_17 rfl rfl ?_
    refine V.ist2 (q := 19) dX2_tail_18 rfl ?_
    refine V.iconst (q := 20) (v := nI 0) dX2_tail_19 rfl (by decide +kernel) ?_
    refine V.ist3 (q := 21) dX2_tail_20 rfl ?_
    have hme : ∀ a, a < n → τ 5 a < n := fun a h9 => (hN.w a h9).2.2.2.2.2.1
    have loop : ∀ i, i ≤ n → ∀ a, a = itr (τ 5) i k → fsK (fun j => onB n (τ 5) (itr (τ 5) j k)) i = none → V x RX2 cX2_tail 4 21 [some (.ref 0), some (.int (nI k)), some (.int (nI a)), some (.int (nI i))] [] σ := by
      refine down n (fun i hi ih a ea hno => ?_)
      have ha : a < n := by rw [ea]; exact itr_lt hme hk i
      have ha2 := hme a ha
      refine V.iload_n (q := 22) dX2_tail_21 rfl rfl ?_
      refine V.aload_n (q := 23) dX2_tail_22 rfl rfl ?_
      refine V.getR (q := 26) dX2_tail_23 rfl kf_X2_12 rfl (by decide) rfl ?_
      refine V.getIn (q := 29) dX2_tail_26 rfl kf_X2_120 rfl (by decide) rfl (TA.n8 hN) ?_
      refine V.icmpN_ge (t := 58) (q := 32) dX2_tail_29 (by decide) rfl (by omega) (by omega) (fun c29 => ?_) (fun c29 => ?_)
      · have ei : i = n := by omega
        subst ei
        refine V.iload_n (q := 59) dX2_tail_58 rfl rfl ?_
        exact V.ret_int hB dX2_tail_59 rfl ⟨_, rfl, XP.yes hX (Fs.rf) (by simp [q_tail, stN_some hk (Nat.le_trans hn6 (by decide)), hno])⟩
      · refine V.aload_n (q := 33) dX2_tail_32 rfl rfl ?_
        refine V.getR (q := 36) dX2_tail_33 rfl kf_X2_12 rfl (by decide) rfl ?_
        refine V.iload_n (q := 37) dX2_tail_36 rfl rfl ?_
        refine V.cvi1 (q := 40) dX2_tail_37 rfl kc_X2_126 rfl (by decide) rfl (hB.rm (by decide)) (Nat.le_of_ble_eq_true rfl) (c_isOnRing t1 hN ha) (fun r37 τ37 hp37 => ?_)
        obtain ⟨hz, ⟨rfl, hon⟩ | ⟨rfl, hon⟩⟩ := hp37
        · rw [hz]
          have hp9 := fsK_y hno (show onB n (τ 5) (itr (τ 5) i k) = true by rw [← ea]; exact onB_iff.mpr hon)
          refine V.ifN_ne (t := 58) (q := 43) dX2_tail_40 (by decide) rfl (by omega) (fun c40 => ?_) (fun c40 => absurd c40 (by decide +kernel))
          refine V.iload_n (q := 59) dX2_tail_58 rfl rfl ?_
          exact V.ret_int hB dX2_tail_59 rfl ⟨_, rfl, XP.yes hX (Fs.rf) (by simp [q_tail, stN_some hk (Nat.le_trans hn6 (by decide)), fsK_up hp9 (show i + 1 ≤ n by omega)])⟩
        · rw [hz]
          have hp9 := fsK_n hno (show ¬ onB n (τ 5) (itr (τ 5) i k) = true by rw [← ea]; exact fun h9 => hon (onB_iff.mp h9))
          refine V.ifN_ne (t := 58) (q := 43) dX2_tail_40 (by decide) rfl (by omega) (fun c40 => absurd c40 (by decide +kernel)) (fun c40 => ?_)
          refine V.aload_n (q := 44) dX2_tail_43 rfl rfl ?_
          refine V.getR (q := 47) dX2_tail_44 rfl kf_X2_12 rfl (by decide) rfl ?_
          refine V.iload_n (q := 48) dX2_tail_47 rfl rfl ?_
          refine V.cvi1 (q := 51) dX2_tail_48 rfl kc_X2_123 rfl (by decide) rfl (hB.rm (by decide)) (Nat.le_of_ble_eq_true rfl) (c_stepFrom t1 hN ha) (fun r48 τ48 hp48 => ?_)
          obtain ⟨rfl, hz⟩ := hp48
          rw [hz]
          refine V.ist2 (q := 52) dX2_tail_51 rfl ?_
          refine V.inc3 (q := 55) dX2_tail_52 rfl (inc1 _) ?_
          refine V.goto (q := 21) dX2_tail_55 (by decide) ?_
          exact ih (by omega) _ (by rw [ea]; rfl) hp9
    exact loop 0 (Nat.zero_le _) k rfl rfl
  · rw [hz]
    refine V.ifN_ne (t := 17) (q := 11) dX2_tail_8 (by decide) rfl (by omega) (fun c8 => absurd c8 (by decide +kernel)) (fun c8 => ?_)
    refine V.aload_n (q := 12) dX2_tail_11 rfl rfl ?_
    refine V.iconst (q := 13) (v := (-1)) dX2_tail_12 rfl (by decide +kernel) ?_
    refine V.cvi1 (q := 16) dX2_tail_13 rfl kc_X2_53 rfl (by decide) rfl (hB.rm (by decide)) (Nat.le_of_ble_eq_true rfl) (p_refuse hX (k := 1) (v := -1) (by decide) (by decide) (by decide +kernel)) (fun r13 τ13 hp13 => ?_)
    obtain ⟨rfl, hz⟩ := hp13
    rw [hz]
    exact V.ret_int hB dX2_tail_16 rfl ⟨_, rfl, XP.no hX (by simp [q_tail, stN_none hsk]) (by decide) (by decide +kernel)⟩

-- felt
set_option maxHeartbeats 4000000 in
set_option maxRecDepth 100000 in
theorem p_felt {σ : Sg} {n y : Nat} {τ : Nat → Nat → Nat} {fl n2 y2 : Nat} {τ2 : Nat → Nat → Nat} {m : Nat} {cs : Nat → Nat} {rl : Nat} {ro rc : Nat → Nat} (hX : XR σ n y τ fl n2 y2 τ2 m cs rl ro rc) (v : Int32) (w : Int32) : Con 4 yX2_felt cX2_felt 4 (some .int) [.ref 0, .int v, .int w] σ (PI (XP σ n y τ fl n2 y2 τ2 m cs rl ro rc (q_felt n y τ v w))) := by
  refine Con.of (by decide) (by simp [Value.category]) (Nat.le_of_ble_eq_true rfl) (fun x hB => ?_)
  show V x RX2 cX2_felt 4 0 [some (.ref 0), some (.int v), some (.int w), none] [] _
  have hN := hX.now
  have hn6 := hN.n6
  have hy9 := hX.y9
  refine V.aload_n (q := 1) dX2_felt_0 rfl rfl ?_
  refine V.getR (q := 4) dX2_felt_1 rfl kf_X2_12 rfl (by decide) rfl ?_
  refine V.iload_n (q := 5) dX2_felt_4 rfl rfl ?_
  refine V.cvi1 (q := 8) dX2_felt_5 rfl kc_X2_69 rfl (by decide) rfl (hB.rm (by decide)) (Nat.le_of_ble_eq_true rfl) (c_isStreet t1 hN v) (fun r5 τ5 hp5 => ?_)
  obtain ⟨hz, ⟨rfl, k, hk, rfl⟩ | ⟨rfl, hsk⟩⟩ := hp5
  · rw [hz]
    refine V.ifN_eq (t := 22) (q := 11) dX2_felt_8 (by decide) rfl (by omega) (fun c8 => absurd c8 (by decide +kernel)) (fun c8 => ?_)
    refine V.aload_n (q := 12) dX2_felt_11 rfl rfl ?_
    refine V.getR (q := 15) dX2_felt_12 rfl kf_X2_12 rfl (by decide) rfl ?_
    refine V.iload_n (q := 16) dX2_felt_15 rfl rfl ?_
    refine V.cvi1 (q := 19) dX2_felt_16 rfl kc_X2_69 rfl (by decide) rfl (hB.rm (by decide)) (Nat.le_of_ble_eq_true rfl) (c_isStreet t1 hN w) (fun r16 τ16 hp16 => ?_)
    obtain ⟨hz, ⟨rfl, o, ho, rfl⟩ | ⟨rfl, hso⟩⟩ := hp16
    · rw [hz]
      refine V.ifN_ne (t := 28) (q := 22) dX2_felt_19 (by decide) rfl (by omega) (fun c19 => ?_) (fun c19 => absurd c19 (by decide +kernel))
      refine V.aload_n (q := 29) dX2_felt_28 rfl rfl ?_
      refine V.getR (q := 32) dX2_felt_29 rfl kf_X2_22 rfl (by decide) rfl ?_
      refine V.aload_n (q := 33) dX2_felt_32 rfl rfl ?_
      refine V.getR (q := 36) dX2_felt_33 rfl kf_X2_12 rfl (by decide) rfl ?_
      refine V.cvv1 (q := 39) dX2_felt_36 rfl kc_X2_106 rfl (by decide) rfl (hB.rm (by decide)) (Nat.le_of_ble_eq_true rfl) (c_copyFrom t28 t1 (by decide) hN) (fun τ36 hp36 => ?_)
      obtain ⟨hR1, hF1⟩ := hp36
      have hN1 := hN.ot hF1 (by decide)
      refine V.aload_n (q := 40) dX2_felt_39 rfl rfl ?_
      refine V.getR (q := 43) dX2_felt_40 rfl kf_X2_19 rfl (by decide) rfl ?_
      refine V.aload_n (q := 44) dX2_felt_43 rfl rfl ?_
      refine V.getR (q := 47) dX2_felt_44 rfl kf_X2_12 rfl (by decide) rfl ?_
      refine V.cvv1 (q := 50) dX2_felt_47 rfl kc_X2_106 rfl (by decide) rfl (hB.rm (by decide)) (Nat.le_of_ble_eq_true rfl) (c_copyFrom t19 t1 (by decide) hN1) (fun τ47 hp47 => ?_)
      obtain ⟨hT1, hF2⟩ := hp47
      have hR2 := hR1.ot hF2 (by decide)
      refine V.aload_n (q := 51) dX2_felt_50 rfl rfl ?_
      refine V.getR (q := 54) dX2_felt_51 rfl kf_X2_19 rfl (by decide) rfl ?_
      refine V.iload_n (q := 55) dX2_felt_54 rfl rfl ?_
      refine V.putIn (q := 58) dX2_felt_55 rfl kp_X2_132 rfl (by decide) rfl rfl rfl ?_
      have hT2 := hT1.wz (z2 := k)
      rw [nz_in (by omega)] at hT2
      have hR3 := hR2.wo (o := 19) (k := 10) (x := nI k) (fun h9 => by omega)
      have hFs := ((Fs.of hF1 (Or.inr rfl)).tr (Fs.of hF2 (Or.inl rfl))).w (o := 19) (k := 10) (v := nI k) (by decide) (by decide) (by decide) (by decide)
      refine V.iconst (q := 59) (v := nI 1) dX2_felt_58 rfl (by decide +kernel) ?_
      refine V.ist3 (q := 60) dX2_felt_59 rfl ?_
      have loop : ∀ i, i ≤ 40 → ∀ σ1, TA σ1 28 n (y + i) 6 6 (yM n y τ i) → TA σ1 19 n (y + i) k 6 (yrsM n y k 6 τ i) → Fs σ σ1 → fsK (fun j => decide (yrsM n y k 6 τ (j + 1) 1 o ≠ yM n y τ (j + 1) 1 o)) i = none → V x RX2 cX2_felt 4 60 [some (.ref 0), some (.int (nI k)), some (.int (nI o)), some (.int (nI (i + 1)))] [] σ1 := by
        refine down 40 (fun i hi ih σ1 hR hT hF hno => ?_)
        refine V.iload_n (q := 61) dX2_felt_60 rfl rfl ?_
        refine V.bipush (q := 63) (v := nI 40) dX2_felt_61 rfl (by decide +kernel) ?_
        refine V.icmpN_gt (t := 109) (q := 66) dX2_felt_63 (by decide) rfl (by omega) (by omega) (fun c63 => ?_) (fun c63 => ?_)
        · have ei : i = 40 := by omega
          subst ei
          refine V.bipush (q := 111) (v := (-9)) dX2_felt_109 rfl (by decide +kernel) ?_
          exact V.ret_int hB dX2_felt_111 rfl ⟨_, rfl, XP.yes hX (hF) (by unfold q_felt; simp only [stN_some hk (Nat.le_trans hn6 (by decide)), stN_some ho (Nat.le_trans hn6 (by decide))]; rw [hno]; rfl)⟩
        · refine V.aload_n (q := 67) dX2_felt_66 rfl rfl ?_
          refine V.getR (q := 70) dX2_felt_67 rfl kf_X2_22 rfl (by decide) rfl ?_
          refine V.cvv0 (q := 73) dX2_felt_70 rfl kc_X2_100 rfl (by decide) rfl (hB.rm (by decide)) (Nat.le_of_ble_eq_true rfl) (c_passYear t28 hR (by omega)) (fun τ70 hp70 => ?_)
          obtain ⟨hR4, hF4⟩ := hp70
          have hT4 := hT.ot hF4 (by decide)
          refine V.aload_n (q := 74) dX2_felt_73 rfl rfl ?_
          refine V.getR (q := 77) dX2_felt_74 rfl kf_X2_19 rfl (by decide) rfl ?_
          refine V.cvv0 (q := 80) dX2_felt_77 rfl kc_X2_100 rfl (by decide) rfl (hB.rm (by decide)) (Nat.le_of_ble_eq_true rfl) (c_passYear t19 hT4 (by omega)) (fun τ77 hp77 => ?_)
          obtain ⟨hT5, hF5⟩ := hp77
          have hR5 := hR4.ot hF5 (by decide)
          have hF6 := (hF.tr (Fs.of hF4 (Or.inr rfl))).tr (Fs.of hF5 (Or.inl rfl))
          have b1 := (hT5.w o ho).2.1
          have b2 := (hR5.w o ho).2.1
          refine V.aload_n (q := 81) dX2_felt_80 rfl rfl ?_
          refine V.getR (q := 84) dX2_felt_81 rfl kf_X2_19 rfl (by decide) rfl ?_
          refine V.getRn (q := 87) dX2_felt_84 rfl kf_X2_76 rfl (by decide) rfl ?_
          refine V.iload_n (q := 88) dX2_felt_87 rfl rfl ?_
          refine V.ialdN (q := 89) dX2_felt_88 rfl rfl (by decide) (by omega) (by decide) (TA.a hT5 1 (by decide) (by omega)) ?_
          refine V.aload_n (q := 90) dX2_felt_89 rfl rfl ?_
          refine V.getR (q := 93) dX2_felt_90 rfl kf_X2_22 rfl (by decide) rfl ?_
          refine V.getRn (q := 96) dX2_felt_93 rfl kf_X2_76 rfl (by decide) rfl ?_
          refine V.iload_n (q := 97) dX2_felt_96 rfl rfl ?_
          refine V.ialdN (q := 98) dX2_felt_97 rfl rfl (by decide) (by omega) (by decide) (TA.a hR5 1 (by decide) (by omega)) ?_
          refine V.icmpN_eq (t := 103) (q := 101) dX2_felt_98 (by decide) rfl (by omega) (by omega) (fun c98 => ?_) (fun c98 => ?_)
          · have hp9 := fsK_n hno (show ¬ decide (yrsM n y k 6 τ (i + 1) 1 o ≠ yM n y τ (i + 1) 1 o) = true from fun h9 => absurd c98 (of_decide_eq_true h9))
            refine V.inc3 (q := 106) dX2_felt_103 rfl (inc1 _) ?_
            refine V.goto (q := 60) dX2_felt_106 (by decide) ?_
            exact ih (by omega) _ hR5 hT5 hF6 hp9
          · have hp9 := fsK_y hno (show decide (yrsM n y k 6 τ (i + 1) 1 o ≠ yM n y τ (i + 1) 1 o) = true from decide_eq_true c98)
            refine V.iload_n (q := 102) dX2_felt_101 rfl rfl ?_
            exact V.ret_int hB dX2_felt_102 rfl ⟨_, rfl, XP.yes hX (hF6) (by unfold q_felt; simp only [stN_some hk (Nat.le_trans hn6 (by decide)), stN_some ho (Nat.le_trans hn6 (by decide))]; rw [fsK_up hp9 (show i + 1 ≤ 40 by omega)]; rfl)⟩
      exact loop 0 (by decide) _ hR3 hT2 hFs rfl
    · rw [hz]
      refine V.ifN_ne (t := 28) (q := 22) dX2_felt_19 (by decide) rfl (by omega) (fun c19 => absurd c19 (by decide +kernel)) (fun c19 => ?_)
      refine V.aload_n (q := 23) dX2_felt_22 rfl rfl ?_
      refine V.iconst (q := 24) (v := (-1)) dX2_felt_23 rfl (by decide +kernel) ?_
      refine V.cvi1 (q := 27) dX2_felt_24 rfl kc_X2_53 rfl (by decide) rfl (hB.rm (by decide)) (Nat.le_of_ble_eq_true rfl) (p_refuse hX (k := 1) (v := -1) (by decide) (by decide) (by decide +kernel)) (fun r24 τ24 hp24 => ?_)
      obtain ⟨rfl, hz⟩ := hp24
      rw [hz]
      exact V.ret_int hB dX2_felt_27 rfl ⟨_, rfl, XP.no hX (by simp [q_felt, stN_some hk (Nat.le_trans hn6 (by decide)), stN_none hso]) (by decide) (by decide +kernel)⟩
  · rw [hz]
    refine V.ifN_eq (t := 22) (q := 11) dX2_felt_8 (by decide) rfl (by omega) (fun c8 => ?_) (fun c8 => absurd c8 (by decide +kernel))
    refine V.aload_n (q := 23) dX2_felt_22 rfl rfl ?_
    refine V.iconst (q := 24) (v := (-1)) dX2_felt_23 rfl (by decide +kernel) ?_
    refine V.cvi1 (q := 27) dX2_felt_24 rfl kc_X2_53 rfl (by decide) rfl (hB.rm (by decide)) (Nat.le_of_ble_eq_true rfl) (p_refuse hX (k := 1) (v := -1) (by decide) (by decide) (by decide +kernel)) (fun r24 τ24 hp24 => ?_)
    obtain ⟨rfl, hz⟩ := hp24
    rw [hz]
    exact V.ret_int hB dX2_felt_27 rfl ⟨_, rfl, XP.no hX (by simp [q_felt, stN_none hsk]) (by decide) (by decide +kernel)⟩

-- worth
set_option maxHeartbeats 4000000 in
set_option maxRecDepth 100000 in
theorem p_worth {σ : Sg} {n y : Nat} {τ : Nat → Nat → Nat} {fl n2 y2 : Nat} {τ2 : Nat → Nat → Nat} {m : Nat} {cs : Nat → Nat} {rl : Nat} {ro rc : Nat → Nat} (hX : XR σ n y τ fl n2 y2 τ2 m cs rl ro rc) (v : Int32) (w : Int32) : Con 5 yX2_worth cX2_worth 4 (some .int) [.ref 0, .int v, .int w] σ (PI (XW σ n y τ fl n2 y2 τ2 m cs rl ro rc (q_worth n y τ v w))) := by
  refine Con.of (by decide) (by simp [Value.category]) (Nat.le_of_ble_eq_true rfl) (fun x hB => ?_)
  show V x RX2 cX2_worth 4 0 [some (.ref 0), some (.int v), some (.int w), none] [] _
  have hN := hX.now
  have hn6 := hN.n6
  have hy9 := hX.y9
  refine V.aload_n (q := 1) dX2_worth_0 rfl rfl ?_
  refine V.getR (q := 4) dX2_worth_1 rfl kf_X2_12 rfl (by decide) rfl ?_
  refine V.iload_n (q := 5) dX2_worth_4 rfl rfl ?_
  refine V.cvi1 (q := 8) dX2_worth_5 rfl kc_X2_69 rfl (by decide) rfl (hB.rm (by decide)) (Nat.le_of_ble_eq_true rfl) (c_isStreet t1 hN v) (fun r5 τ5 hp5 => ?_)
  obtain ⟨hz, ⟨rfl, k, hk, rfl⟩ | ⟨rfl, hsk⟩⟩ := hp5
  · rw [hz]
    refine V.iload_n (q := 9) dX2_worth_8 rfl rfl ?_
    refine V.iconst (q := 10) (v := nI 0) dX2_worth_9 rfl (by decide +kernel) ?_
    refine V.bipush (q := 12) (v := nI 60) dX2_worth_10 rfl (by decide +kernel) ?_
    refine V.csi4 (q := 15) dX2_worth_12 rfl kc_X2_45 (hB.rm (by decide)) (Nat.le_of_ble_eq_true rfl) (p_rof w 0 60 (by decide) (by decide)) (fun r12 τ12 hp12 => ?_)
    obtain ⟨hz, ⟨hrf, rfl⟩ | ⟨hrf, rfl⟩ | ⟨rfl, j, hj1, hj2, rfl⟩⟩ := hp12
    · rw [hz]
      refine V.ist3 (q := 16) dX2_worth_15 rfl ?_
      refine V.iload_n (q := 17) dX2_worth_16 rfl rfl ?_
      refine V.if_eq (t := 29) (q := 20) dX2_worth_17 (by decide) rfl  (fun c17 => absurd c17 (by decide +kernel)) (fun c17 => ?_)
      refine V.ldc (q := 22) dX2_worth_20 rfl kk_X2_135 ?_
      refine V.aload_n (q := 23) dX2_worth_22 rfl rfl ?_
      refine V.iload_n (q := 24) dX2_worth_23 rfl rfl ?_
      refine V.cvi1 (q := 27) dX2_worth_24 rfl kc_X2_53 rfl (by decide) rfl (hB.rm (by decide)) (Nat.le_of_ble_eq_true rfl) (p_refuse hX (k := 4) (v := -4) (by decide) (by decide) (by decide +kernel)) (fun r24 τ24 hp24 => ?_)
      obtain ⟨rfl, hz⟩ := hp24
      rw [hz]
      refine V.isub (q := 28) dX2_worth_27 rfl ?_
      exact V.ret_int hB dX2_worth_28 rfl ⟨_, rfl, XW.no hX (by simp [q_worth, stN_some hk (Nat.le_trans hn6 (by decide)), rfq_4 hrf]) (by decide) (by decide +kernel)⟩
    · rw [hz]
      refine V.ist3 (q := 16) dX2_worth_15 rfl ?_
      refine V.iload_n (q := 17) dX2_worth_16 rfl rfl ?_
      refine V.if_eq (t := 29) (q := 20) dX2_worth_17 (by decide) rfl  (fun c17 => absurd c17 (by decide +kernel)) (fun c17 => ?_)
      refine V.ldc (q := 22) dX2_worth_20 rfl kk_X2_135 ?_
      refine V.aload_n (q := 23) dX2_worth_22 rfl rfl ?_
      refine V.iload_n (q := 24) dX2_worth_23 rfl rfl ?_
      refine V.cvi1 (q := 27) dX2_worth_24 rfl kc_X2_53 rfl (by decide) rfl (hB.rm (by decide)) (Nat.le_of_ble_eq_true rfl) (p_refuse hX (k := 6) (v := -6) (by decide) (by decide) (by decide +kernel)) (fun r24 τ24 hp24 => ?_)
      obtain ⟨rfl, hz⟩ := hp24
      rw [hz]
      refine V.isub (q := 28) dX2_worth_27 rfl ?_
      exact V.ret_int hB dX2_worth_28 rfl ⟨_, rfl, XW.no hX (by simp [q_worth, stN_some hk (Nat.le_trans hn6 (by decide)), rfq_6 hrf]) (by decide) (by decide +kernel)⟩
    · rw [hz]
      refine V.ist3 (q := 16) dX2_worth_15 rfl ?_
      refine V.iload_n (q := 17) dX2_worth_16 rfl rfl ?_
      refine V.ifN_eq (t := 29) (q := 20) dX2_worth_17 (by decide) rfl (by omega) (fun c17 => ?_) (fun c17 => absurd c17 (by decide +kernel))
      refine V.aload_n (q := 30) dX2_worth_29 rfl rfl ?_
      refine V.getR (q := 33) dX2_worth_30 rfl kf_X2_22 rfl (by decide) rfl ?_
      refine V.aload_n (q := 34) dX2_worth_33 rfl rfl ?_
      refine V.getR (q := 37) dX2_worth_34 rfl kf_X2_12 rfl (by decide) rfl ?_
      refine V.cvv1 (q := 40) dX2_worth_37 rfl kc_X2_106 rfl (by decide) rfl (hB.rm (by decide)) (Nat.le_of_ble_eq_true rfl) (c_copyFrom t28 t1 (by decide) hN) (fun τ37 hp37 => ?_)
      obtain ⟨hR1, hF1⟩ := hp37
      have hN1 := hN.ot hF1 (by decide)
      refine V.aload_n (q := 41) dX2_worth_40 rfl rfl ?_
      refine V.getR (q := 44) dX2_worth_41 rfl kf_X2_19 rfl (by decide) rfl ?_
      refine V.aload_n (q := 45) dX2_worth_44 rfl rfl ?_
      refine V.getR (q := 48) dX2_worth_45 rfl kf_X2_12 rfl (by decide) rfl ?_
      refine V.cvv1 (q := 51) dX2_worth_48 rfl kc_X2_106 rfl (by decide) rfl (hB.rm (by decide)) (Nat.le_of_ble_eq_true rfl) (c_copyFrom t19 t1 (by decide) hN1) (fun τ48 hp48 => ?_)
      obtain ⟨hT1, hF2⟩ := hp48
      have hR2 := hR1.ot hF2 (by decide)
      refine V.aload_n (q := 52) dX2_worth_51 rfl rfl ?_
      refine V.getR (q := 55) dX2_worth_52 rfl kf_X2_19 rfl (by decide) rfl ?_
      refine V.iload_n (q := 56) dX2_worth_55 rfl rfl ?_
      refine V.putIn (q := 59) dX2_worth_56 rfl kp_X2_132 rfl (by decide) rfl rfl rfl ?_
      have hT2 := hT1.wz (z2 := k)
      rw [nz_in (by omega)] at hT2
      have hR3 := hR2.wo (o := 19) (k := 10) (x := nI k) (fun h9 => by omega)
      have hFs := ((Fs.of hF1 (Or.inr rfl)).tr (Fs.of hF2 (Or.inl rfl))).w (o := 19) (k := 10) (v := nI k) (by decide) (by decide) (by decide) (by decide)
      refine V.aload_n (q := 60) dX2_worth_59 rfl rfl ?_
      refine V.getR (q := 63) dX2_worth_60 rfl kf_X2_19 rfl (by decide) rfl ?_
      refine V.iload_n (q := 64) dX2_worth_63 rfl rfl ?_
      refine V.cvi1 (q := 67) dX2_worth_64 rfl kc_X2_110 rfl (by decide) rfl (hB.rm (by decide)) (Nat.le_of_ble_eq_true rfl) (c_mudBehind t19 hT2 (k := j) (by omega)) (fun r64 τ64 hp64 => ?_)
      obtain ⟨rfl, hT4, hF4⟩ := hp64
      have hR4 := hR3.ot hF4 (by decide)
      refine V.aload_n (q := 68) dX2_worth_67 rfl rfl ?_
      refine V.getR (q := 71) dX2_worth_68 rfl kf_X2_22 rfl (by decide) rfl ?_
      refine V.iload_n (q := 72) dX2_worth_71 rfl rfl ?_
      refine V.cvi1 (q := 75) dX2_worth_72 rfl kc_X2_110 rfl (by decide) rfl (hB.rm (by decide)) (Nat.le_of_ble_eq_true rfl) (c_mudBehind t28 hR4 (k := j) (by omega)) (fun r72 τ72 hp72 => ?_)
      obtain ⟨rfl, hR5, hF5⟩ := hp72
      refine V.isub (q := 76) dX2_worth_75 rfl ?_
      exact V.ret_int hB dX2_worth_76 rfl ⟨_, rfl, XW.yes hX ((hFs.tr (Fs.of hF4 (Or.inl rfl))).tr (Fs.of hF5 (Or.inr rfl))) (by unfold q_worth; simp only [stN_some hk (Nat.le_trans hn6 (by decide))]; rw [rfq_in hj1 hj2 (by decide), tn_nI (by omega)]; rfl)⟩
  · rw [hz]
    refine V.iload_n (q := 9) dX2_worth_8 rfl rfl ?_
    refine V.iconst (q := 10) (v := nI 0) dX2_worth_9 rfl (by decide +kernel) ?_
    refine V.bipush (q := 12) (v := nI 60) dX2_worth_10 rfl (by decide +kernel) ?_
    refine V.csi4 (q := 15) dX2_worth_12 rfl kc_X2_45 (hB.rm (by decide)) (Nat.le_of_ble_eq_true rfl) (p_rof0) (fun r12 τ12 hp12 => ?_)
    obtain ⟨rfl, hz⟩ := hp12
    rw [hz]
    refine V.ist3 (q := 16) dX2_worth_15 rfl ?_
    refine V.iload_n (q := 17) dX2_worth_16 rfl rfl ?_
    refine V.if_eq (t := 29) (q := 20) dX2_worth_17 (by decide) rfl  (fun c17 => absurd c17 (by decide +kernel)) (fun c17 => ?_)
    refine V.ldc (q := 22) dX2_worth_20 rfl kk_X2_135 ?_
    refine V.aload_n (q := 23) dX2_worth_22 rfl rfl ?_
    refine V.iload_n (q := 24) dX2_worth_23 rfl rfl ?_
    refine V.cvi1 (q := 27) dX2_worth_24 rfl kc_X2_53 rfl (by decide) rfl (hB.rm (by decide)) (Nat.le_of_ble_eq_true rfl) (p_refuse hX (k := 1) (v := -1) (by decide) (by decide) (by decide +kernel)) (fun r24 τ24 hp24 => ?_)
    obtain ⟨rfl, hz⟩ := hp24
    rw [hz]
    refine V.isub (q := 28) dX2_worth_27 rfl ?_
    exact V.ret_int hB dX2_worth_28 rfl ⟨_, rfl, XW.no hX (by simp [q_worth, stN_none hsk]) (by decide) (by decide +kernel)⟩

