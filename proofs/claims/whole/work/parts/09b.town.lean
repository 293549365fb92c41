theorem osw2 {c : Nat} (hc : c < 256) (h1 : c ≠ 109) (h3 : c ≠ 115) : Op.lookupswitch.offset [(109, 83), (115, 28)] 111 (nI c).toInt = 111 := by
  have e : ∀ k, k < 256 → c ≠ k → ¬ nI c = nI k := fun k hk hne h9 => hne ((nI_eq (by omega) (by omega)).mp h9)
  rw [lv_osw (e 109 (by decide) h1) (by decide +kernel), lv_osw (e 115 (by decide) h3) (by decide +kernel)]
  rfl
theorem dR_lt {m : Nat} {cs : Nat → Nat} {j : Nat} : ∀ {f p s : Nat}, dR m cs f p s = some j → p ≤ m → j ≤ m
  | 0, p, s, h, hp => by
    unfold dR at h
    split at h
    · cases h
    · have := Option.some.inj h; omega
  | f + 1, p, s, h, hp => by
    by_cases h1 : p < m
    · cases h2 : dueM s (cs p) with
      | none => rw [dR_n h1 h2] at h; have := Option.some.inj h; omega
      | some k => rw [dR_k h1 h2] at h; exact dR_lt h (by omega)
    · unfold dR at h
      rw [if_neg h1] at h
      split at h
      · cases h
      · have := Option.some.inj h; omega
theorem ffO_lt {m : Nat} {cs : Nat → Nat} {j : Nat} (h : ffO m cs = some j) (hm : m ≤ 64) : j < 2 ^ 31 := by
  unfold ffO at h
  split at h
  · have := Option.some.inj h; omega
  · have := dR_lt h (Nat.zero_le m); omega
-- comesToTrial(p)
set_option maxHeartbeats 4000000 in
set_option maxRecDepth 100000 in
theorem p_comes {σ : Sg} {m : Nat} {cs : Nat → Nat} (hX : TX σ m cs) {n y : Nat} {τ : Nat → Nat → Nat} (hT : TA σ 19 n y 6 6 τ) {p : Nat} (hp : p < 64) (hkd : chA m cs p = 115 → (kdM (chA m cs (p + 1))).isSome = true) : Con 5 yX2_comesToTrial cX2_comesToTrial 3 (some .boolean) [.ref 0, .int (nI p)] σ (PI (fun r σ1 => (r = nI 0 ∧ stA m cs p n τ = none ∧ σ1 = σ) ∨ (r = nI 1 ∧ ∃ n1 τ1, stA m cs p n τ = some (n1, τ1) ∧ TA σ1 19 n1 y 6 6 τ1 ∧ Fr 19 σ σ1))) := by
  refine Con.of (by decide) (by simp [Value.category]) (Nat.le_of_ble_eq_true rfl) (fun x hB => ?_)
  show V x RX2 cX2_comesToTrial 3 0 [some (.ref 0), some (.int (nI p)), none] [] _
  have hm64 := hX.1
  refine V.aload_n (q := 1) dX2_comesToTrial_0 rfl rfl ?_
  refine V.getR (q := 4) dX2_comesToTrial_1 rfl kf_X2_28 rfl (by decide) rfl ?_
  refine V.iload_n (q := 5) dX2_comesToTrial_4 rfl rfl ?_
  refine V.cvi1 (q := 8) dX2_comesToTrial_5 rfl kc_X2_171 rfl (by decide) rfl (hB.rm (by decide)) (Nat.le_of_ble_eq_true rfl) (x_at hX (show p < 2 ^ 20 by omega)) (fun r5 τ5 hp5 => ?_)
  obtain ⟨rfl, hz⟩ := hp5
  rw [hz]
  have hc0 := chA_lt hX p
  rcases (show chA m cs p = 115 ∨ chA m cs p = 109 ∨ (chA m cs p ≠ 109 ∧ chA m cs p ≠ 115) by omega) with e9 | e9 | e9
  · rw [e9]
    refine V.lookup (q := 36) (off := 28) dX2_comesToTrial_8 (by decide) (by decide +kernel) (by decide) ?_
    refine V.ldcS2 (q := 38) dX2_comesToTrial_36 rfl rfl ?_
    refine V.aload_n (q := 39) dX2_comesToTrial_38 rfl rfl ?_
    refine V.getR (q := 42) dX2_comesToTrial_39 rfl kf_X2_28 rfl (by decide) rfl ?_
    refine V.iload_n (q := 43) dX2_comesToTrial_42 rfl rfl ?_
    refine V.iconst (q := 44) (v := nI 1) dX2_comesToTrial_43 rfl (by decide +kernel) ?_
    refine V.iaddN (q := 45) dX2_comesToTrial_44 rfl ?_
    refine V.cvi1 (q := 48) dX2_comesToTrial_45 rfl kc_X2_171 rfl (by decide) rfl (hB.rm (by decide)) (Nat.le_of_ble_eq_true rfl) (x_at hX (show p + 1 < 2 ^ 20 by omega)) (fun r45 τ45 hp45 => ?_)
    obtain ⟨rfl, hz⟩ := hp45
    rw [hz]
    refine V.cw1 (q := 51) dX2_comesToTrial_48 rfl kw_X2_180 (hB.rm (by decide)) (Nat.le_of_ble_eq_true rfl) (c_ix (chA_lt hX (p + 1))) ?_
    rw [kdI_eq (hkd e9)]
    have hk5 := kdM_le _ (chA_lt hX (p + 1))
    have hd2 := dgV_le (chA m cs (p + 2))
    have hd3 := dgV_le (chA m cs (p + 3))
    have hd4 := dgV_le (chA m cs (p + 4))
    refine V.ist2 (q := 52) dX2_comesToTrial_51 rfl ?_
    refine V.aload_n (q := 53) dX2_comesToTrial_52 rfl rfl ?_
    refine V.getR (q := 56) dX2_comesToTrial_53 rfl kf_X2_19 rfl (by decide) rfl ?_
    refine V.iload_n (q := 57) dX2_comesToTrial_56 rfl rfl ?_
    refine V.aload_n (q := 58) dX2_comesToTrial_57 rfl rfl ?_
    refine V.getR (q := 61) dX2_comesToTrial_58 rfl kf_X2_28 rfl (by decide) rfl ?_
    refine V.iload_n (q := 62) dX2_comesToTrial_61 rfl rfl ?_
    refine V.iconst (q := 63) (v := nI 2) dX2_comesToTrial_62 rfl (by decide +kernel) ?_
    refine V.iaddN (q := 64) dX2_comesToTrial_63 rfl ?_
    refine V.cvi1 (q := 67) dX2_comesToTrial_64 rfl kc_X2_185 rfl (by decide) rfl (hB.rm (by decide)) (Nat.le_of_ble_eq_true rfl) (x_digit hX (show p + 2 < 2 ^ 20 by omega)) (fun r64 τ64 hp64 => ?_)
    obtain ⟨rfl, hz⟩ := hp64
    rw [hz]
    refine V.aload_n (q := 68) dX2_comesToTrial_67 rfl rfl ?_
    refine V.getR (q := 71) dX2_comesToTrial_68 rfl kf_X2_28 rfl (by decide) rfl ?_
    refine V.iload_n (q := 72) dX2_comesToTrial_71 rfl rfl ?_
    refine V.iconst (q := 73) (v := nI 3) dX2_comesToTrial_72 rfl (by decide +kernel) ?_
    refine V.iaddN (q := 74) dX2_comesToTrial_73 rfl ?_
    refine V.cvi1 (q := 77) dX2_comesToTrial_74 rfl kc_X2_185 rfl (by decide) rfl (hB.rm (by decide)) (Nat.le_of_ble_eq_true rfl) (x_digit hX (show p + 3 < 2 ^ 20 by omega)) (fun r74 τ74 hp74 => ?_)
    obtain ⟨rfl, hz⟩ := hp74
    rw [hz]
    refine V.aload_n (q := 78) dX2_comesToTrial_77 rfl rfl ?_
    refine V.getR (q := 81) dX2_comesToTrial_78 rfl kf_X2_28 rfl (by decide) rfl ?_
    refine V.iload_n (q := 82) dX2_comesToTrial_81 rfl rfl ?_
    refine V.iconst (q := 83) (v := nI 4) dX2_comesToTrial_82 rfl (by decide +kernel) ?_
    refine V.iaddN (q := 84) dX2_comesToTrial_83 rfl ?_
    refine V.cvi1 (q := 87) dX2_comesToTrial_84 rfl kc_X2_185 rfl (by decide) rfl (hB.rm (by decide)) (Nat.le_of_ble_eq_true rfl) (x_digit hX (show p + 4 < 2 ^ 20 by omega)) (fun r84 τ84 hp84 => ?_)
    obtain ⟨rfl, hz⟩ := hp84
    rw [hz]
    refine V.cvi4 (q := 90) dX2_comesToTrial_87 rfl kc_X2_188 rfl (by decide) rfl (hB.rm (by decide)) (Nat.le_of_ble_eq_true rfl) (c_tell t19 hT hk5 hd2 hd3 hd4) (fun r87 τ87 hp87 => ?_)
    skip
    rcases hp87 with ⟨rfl, hz9, hno⟩ | ⟨rfl, h1, h2, h3, hT1, hF1⟩
    · exact V.ret_int hB dX2_comesToTrial_90 (by decide +kernel) ⟨_, rfl, Or.inl ⟨rfl, by unfold stA; rw [if_pos e9, if_pos hno], hz9⟩⟩
    · exact V.ret_int hB dX2_comesToTrial_90 (by decide +kernel) ⟨_, rfl, Or.inr ⟨rfl, _, _, by unfold stA; rw [if_pos e9, if_neg (by omega)], hT1, hF1⟩⟩
  · rw [e9]
    refine V.lookup (q := 91) (off := 83) dX2_comesToTrial_8 (by decide) (by decide +kernel) (by decide) ?_
    refine V.aload_n (q := 92) dX2_comesToTrial_91 rfl rfl ?_
    refine V.getR (q := 95) dX2_comesToTrial_92 rfl kf_X2_19 rfl (by decide) rfl ?_
    refine V.aload_n (q := 96) dX2_comesToTrial_95 rfl rfl ?_
    refine V.getR (q := 99) dX2_comesToTrial_96 rfl kf_X2_28 rfl (by decide) rfl ?_
    refine V.iload_n (q := 100) dX2_comesToTrial_99 rfl rfl ?_
    refine V.iconst (q := 101) (v := nI 1) dX2_comesToTrial_100 rfl (by decide +kernel) ?_
    refine V.iaddN (q := 102) dX2_comesToTrial_101 rfl ?_
    refine V.cvi1 (q := 105) dX2_comesToTrial_102 rfl kc_X2_185 rfl (by decide) rfl (hB.rm (by decide)) (Nat.le_of_ble_eq_true rfl) (x_digit hX (show p + 1 < 2 ^ 20 by omega)) (fun r102 τ102 hp102 => ?_)
    obtain ⟨rfl, hz⟩ := hp102
    rw [hz]
    refine V.aload_n (q := 106) dX2_comesToTrial_105 rfl rfl ?_
    refine V.getR (q := 109) dX2_comesToTrial_106 rfl kf_X2_28 rfl (by decide) rfl ?_
    refine V.iload_n (q := 110) dX2_comesToTrial_109 rfl rfl ?_
    refine V.iconst (q := 111) (v := nI 2) dX2_comesToTrial_110 rfl (by decide +kernel) ?_
    refine V.iaddN (q := 112) dX2_comesToTrial_111 rfl ?_
    refine V.cvi1 (q := 115) dX2_comesToTrial_112 rfl kc_X2_185 rfl (by decide) rfl (hB.rm (by decide)) (Nat.le_of_ble_eq_true rfl) (x_digit hX (show p + 2 < 2 ^ 20 by omega)) (fun r112 τ112 hp112 => ?_)
    obtain ⟨rfl, hz⟩ := hp112
    rw [hz]
    refine V.cvi2 (q := 118) dX2_comesToTrial_115 rfl kc_X2_192 rfl (by decide) rfl (hB.rm (by decide)) (Nat.le_of_ble_eq_true rfl) (c_tellWho t19 hT (dgV_le (chA m cs (p + 1))) (dgV_le (chA m cs (p + 2)))) (fun r115 τ115 hp115 => ?_)
    skip
    have e8 : ¬ chA m cs p = 115 := by omega
    rcases hp115 with ⟨rfl, hz9, hno⟩ | ⟨rfl, h1, h2, hT1, hF1⟩
    · exact V.ret_int hB dX2_comesToTrial_118 (by decide +kernel) ⟨_, rfl, Or.inl ⟨rfl, by unfold stA; rw [if_neg e8, if_pos e9, if_neg hno], hz9⟩⟩
    · exact V.ret_int hB dX2_comesToTrial_118 (by decide +kernel) ⟨_, rfl, Or.inr ⟨rfl, _, _, by unfold stA; rw [if_neg e8, if_pos e9, if_pos ⟨h1, h2⟩], hT1, hF1⟩⟩
  · refine V.lookup (q := 119) (off := 111) dX2_comesToTrial_8 (by decide) (osw2 (chA_lt hX p) e9.1 e9.2) (by decide) ?_
    refine V.aload_n (q := 120) dX2_comesToTrial_119 rfl rfl ?_
    refine V.getR (q := 123) dX2_comesToTrial_120 rfl kf_X2_19 rfl (by decide) rfl ?_
    refine V.aload_n (q := 124) dX2_comesToTrial_123 rfl rfl ?_
    refine V.getR (q := 127) dX2_comesToTrial_124 rfl kf_X2_28 rfl (by decide) rfl ?_
    refine V.iload_n (q := 128) dX2_comesToTrial_127 rfl rfl ?_
    refine V.iconst (q := 129) (v := nI 1) dX2_comesToTrial_128 rfl (by decide +kernel) ?_
    refine V.iaddN (q := 130) dX2_comesToTrial_129 rfl ?_
    refine V.cvi1 (q := 133) dX2_comesToTrial_130 rfl kc_X2_185 rfl (by decide) rfl (hB.rm (by decide)) (Nat.le_of_ble_eq_true rfl) (x_digit hX (show p + 1 < 2 ^ 20 by omega)) (fun r130 τ130 hp130 => ?_)
    obtain ⟨rfl, hz⟩ := hp130
    rw [hz]
    refine V.aload_n (q := 134) dX2_comesToTrial_133 rfl rfl ?_
    refine V.getR (q := 137) dX2_comesToTrial_134 rfl kf_X2_28 rfl (by decide) rfl ?_
    refine V.iload_n (q := 138) dX2_comesToTrial_137 rfl rfl ?_
    refine V.iconst (q := 139) (v := nI 3) dX2_comesToTrial_138 rfl (by decide +kernel) ?_
    refine V.iaddN (q := 140) dX2_comesToTrial_139 rfl ?_
    refine V.cvi1 (q := 143) dX2_comesToTrial_140 rfl kc_X2_196 rfl (by decide) rfl (hB.rm (by decide)) (Nat.le_of_ble_eq_true rfl) (x_digits hX (show p + 3 + 1 < 2 ^ 20 by omega)) (fun r140 τ140 hp140 => ?_)
    obtain ⟨rfl, hz⟩ := hp140
    rw [hz]
    refine V.cvi2 (q := 146) dX2_comesToTrial_143 rfl kc_X2_199 rfl (by decide) rfl (hB.rm (by decide)) (Nat.le_of_ble_eq_true rfl) (c_tellPence t19 hT (dgV_le (chA m cs (p + 1))) (dg2_le (chA m cs (p + 3)) (chA m cs (p + 3 + 1)))) (fun r143 τ143 hp143 => ?_)
    skip
    rcases hp143 with ⟨rfl, hz9, hno⟩ | ⟨rfl, h1, hT1, hF1⟩
    · exact V.ret_int hB dX2_comesToTrial_146 (by decide +kernel) ⟨_, rfl, Or.inl ⟨rfl, by unfold stA; rw [if_neg e9.2, if_neg e9.1, if_neg hno], hz9⟩⟩
    · exact V.ret_int hB dX2_comesToTrial_146 (by decide +kernel) ⟨_, rfl, Or.inr ⟨rfl, _, _, by unfold stA; rw [if_neg e9.2, if_neg e9.1, if_pos h1], hT1, hF1⟩⟩

-- readTown()
set_option maxHeartbeats 4000000 in
set_option maxRecDepth 100000 in
theorem p_read {σ : Sg} {n y : Nat} {τ : Nat → Nat → Nat} {fl n2 y2 : Nat} {τ2 : Nat → Nat → Nat} {m : Nat} {cs : Nat → Nat} {rl : Nat} {ro rc : Nat → Nat} (hX : XR σ n y τ fl n2 y2 τ2 m cs rl ro rc) : Con 8 yX2_readTown cX2_readTown 5 (some .int) [.ref 0] σ (PI (fun r σ1 => r = (twM m cs n τ).1 ∧ XR σ1 (twM m cs n τ).2.1 y (twM m cs n τ).2.2 fl n2 y2 τ2 m cs rl ro rc ∧ Fx σ σ1)) := by
  refine Con.of (by decide) (by simp [Value.category]) (Nat.le_of_ble_eq_true rfl) (fun x hB => ?_)
  show V x RX2 cX2_readTown 5 0 [some (.ref 0), none, none, none, none] [] _
  have hN := hX.now
  have hn6 := hN.n6
  have hy9 := hX.y9
  refine V.aload_n (q := 1) dX2_readTown_0 rfl rfl ?_
  refine V.getR (q := 4) dX2_readTown_1 rfl kf_X2_28 rfl (by decide) rfl ?_
  refine V.cvi0 (q := 7) dX2_readTown_4 rfl kc_X2_168 rfl (by decide) rfl (hB.rm (by decide)) (Nat.le_of_ble_eq_true rfl) (x_form hX.tx) (fun r4 τ4 hp4 => ?_)
  obtain ⟨rfl, hz⟩ := hp4
  rw [hz, ffM_eq]
  have hm64 := hX.tx.1
  rcases hff : ffO m cs with _ | j9
  · skip
    refine V.ist1 (q := 8) dX2_readTown_7 rfl ?_
    refine V.iload_n (q := 9) dX2_readTown_8 rfl rfl ?_
    refine V.iconst (q := 10) (v := (-1)) dX2_readTown_9 rfl (by decide +kernel) ?_
    refine V.icmp_eq (t := 19) (q := 13) dX2_readTown_10 (by decide) rfl  (fun c10 => ?_) (fun c10 => absurd c10 (fun h9 => h9 rfl))
    refine V.aload_n (q := 20) dX2_readTown_19 rfl rfl ?_
    refine V.getR (q := 23) dX2_readTown_20 rfl kf_X2_19 rfl (by decide) rfl ?_
    refine V.aload_n (q := 24) dX2_readTown_23 rfl rfl ?_
    refine V.getR (q := 27) dX2_readTown_24 rfl kf_X2_12 rfl (by decide) rfl ?_
    refine V.cvv1 (q := 30) dX2_readTown_27 rfl kc_X2_106 rfl (by decide) rfl (hB.rm (by decide)) (Nat.le_of_ble_eq_true rfl) (c_copyFrom t19 t1 (by decide) hN) (fun τ27 hp27 => ?_)
    obtain ⟨hT1, hF1⟩ := hp27
    have hN1 := hN.ot hF1 (by decide)
    refine V.iconst (q := 31) (v := nI 0) dX2_readTown_30 rfl (by decide +kernel) ?_
    refine V.ist2 (q := 32) dX2_readTown_31 rfl ?_
    refine V.iconst (q := 33) (v := nI 0) dX2_readTown_32 rfl (by decide +kernel) ?_
    refine V.ist3 (q := 34) dX2_readTown_33 rfl ?_
    refine V.iconst (q := 35) (v := nI 0) dX2_readTown_34 rfl (by decide +kernel) ?_
    refine V.ist4 (q := 37) dX2_readTown_35 rfl ?_
    have hm0 : ¬ m = 0 := fun h9 => by unfold ffO at hff; rw [if_pos h9] at hff; cases hff
    have hdR : dR m cs m 0 0 = none := by unfold ffO at hff; rw [if_neg hm0] at hff; exact hff
    have loop : ∀ p, p ≤ m → ∀ σ1 st k n3 τ3 s, rdM m cs n τ p = .inr (st, k, n3, τ3) → st ≤ p → k ≤ p → dR m cs (m - p) p s = none → dR m cs (m - st) st 0 = none → TA σ1 19 n3 y 6 6 τ3 → Fs σ σ1 → V x RX2 cX2_readTown 5 37 [some (.ref 0), some (.int (-1)), some (.int (nI k)), some (.int (nI st)), some (.int (nI p))] [] σ1 := by
      refine down m (fun p hp ih σ1 st k n3 τ3 s hrd hst hk hdp hds hT3 hF3 => ?_)
      have hX3 := hX.fs hF3
      
      refine V.iload (q := 39) dX2_readTown_37 rfl rfl ?_
      refine V.aload_n (q := 40) dX2_readTown_39 rfl rfl ?_
      refine V.getR (q := 43) dX2_readTown_40 rfl kf_X2_28 rfl (by decide) rfl ?_
      refine V.getIn (q := 46) dX2_readTown_43 rfl kf_X2_61 rfl (by decide) rfl (TX.n hX3.tx) ?_
      refine V.icmpN_ge (t := 91) (q := 49) dX2_readTown_46 (by decide) rfl (by omega) (by omega) (fun c46 => ?_) (fun c46 => ?_)
      · have ep : p = m := by omega
        subst ep
        refine V.aload_n (q := 92) dX2_readTown_91 rfl rfl ?_
        refine V.getR (q := 95) dX2_readTown_92 rfl kf_X2_12 rfl (by decide) rfl ?_
        refine V.aload_n (q := 96) dX2_readTown_95 rfl rfl ?_
        refine V.getR (q := 99) dX2_readTown_96 rfl kf_X2_19 rfl (by decide) rfl ?_
        refine V.cvv1 (q := 102) dX2_readTown_99 rfl kc_X2_106 rfl (by decide) rfl (hB.rm (by decide)) (Nat.le_of_ble_eq_true rfl) (c_copyFrom t1 t19 (by decide) hT3) (fun τ99 hp99 => ?_)
        obtain ⟨hT5, hF5⟩ := hp99
        refine V.iload_n (q := 103) dX2_readTown_102 rfl rfl ?_
        exact V.ret_int hB dX2_readTown_103 rfl ⟨_, rfl, ⟨by unfold twM; rw [hff, hrd], by unfold twM; rw [hff, hrd]; exact hX3.wn hT5 hy9 (fun o ho => hF5 o (by omega)), fun o ho => (hF5 o (by omega)).trans (hF3 o (by omega))⟩⟩
      · have hcp : chA m cs p = cs p := by unfold chA; rw [if_pos c46]
        have hcl := chA_lt hX3.tx p
        obtain ⟨f9, hf9⟩ : ∃ f, m - p = f + 1 := ⟨m - p - 1, by omega⟩
        have hf8 : m - (p + 1) = f9 := by omega
        rw [hf9] at hdp
        obtain ⟨k9, hk9, hdq⟩ : ∃ k9, dueM s (cs p) = some k9 ∧ dR m cs (m - (p + 1)) (p + 1) k9 = none := by
          cases hdu : dueM s (cs p) with
          | none => rw [dR_n c46 hdu] at hdp; cases hdp
          | some k9 => rw [dR_k c46 hdu] at hdp; exact ⟨k9, rfl, by rw [hf8]; exact hdp⟩
        refine V.aload_n (q := 50) dX2_readTown_49 rfl rfl ?_
        refine V.getR (q := 53) dX2_readTown_50 rfl kf_X2_28 rfl (by decide) rfl ?_
        refine V.iload (q := 55) dX2_readTown_53 rfl rfl ?_
        refine V.cvi1 (q := 58) dX2_readTown_55 rfl kc_X2_171 rfl (by decide) rfl (hB.rm (by decide)) (Nat.le_of_ble_eq_true rfl) (x_at hX3.tx (show p < 2 ^ 20 by omega)) (fun r55 τ55 hp55 => ?_)
        obtain ⟨rfl, hz⟩ := hp55
        rw [hz]
        refine V.bipush (q := 60) (v := nI 59) dX2_readTown_58 rfl (by decide +kernel) ?_
        refine V.icmpN_ne (t := 85) (q := 63) dX2_readTown_60 (by decide) rfl (by omega) (by omega) (fun c60 => ?_) (fun c60 => ?_)
        · have hrd2 : rdM m cs n τ (p + 1) = .inr (st, k, n3, τ3) := by
            conv => lhs; unfold rdM
            rw [hrd]; simp only []; rw [if_neg c60]
          refine V.inc4 (q := 88) dX2_readTown_85 rfl (inc1 _) ?_
          refine V.goto (q := 37) dX2_readTown_88 (by decide) ?_
          exact ih c46 _ st k n3 τ3 k9 hrd2 (by omega) (by omega) hdq hds hT3 hF3
        · have hk0 : k9 = 0 := due59 (by rw [← hk9, ← hcp, c60])
          subst hk0
          have hkd : chA m cs st = 115 → (kdM (chA m cs (st + 1))).isSome = true := fun h9 => by
            obtain ⟨f7, hf7⟩ : ∃ f, m - st = f + 1 := ⟨m - st - 1, by omega⟩
            rw [hf7] at hds
            have h8 : chA m cs st = cs st := by unfold chA; rw [if_pos (by omega)]
            obtain ⟨h7, h6⟩ := dR_kd hds (by omega) (by rw [← h8]; exact h9) (by omega)
            have h5 : chA m cs (st + 1) = cs (st + 1) := by unfold chA; rw [if_pos h7]
            rw [h5]; exact h6
          refine V.aload_n (q := 64) dX2_readTown_63 rfl rfl ?_
          refine V.iload_n (q := 65) dX2_readTown_64 rfl rfl ?_
          refine V.cvi1 (q := 68) dX2_readTown_65 rfl kc_X2_175 rfl (by decide) rfl (hB.rm (by decide)) (Nat.le_of_ble_eq_true rfl) (p_comes hX3.tx hT3 (p := st) (by omega) hkd) (fun r65 τ65 hp65 => ?_)
          rcases hp65 with ⟨rfl, hsa, hz⟩ | ⟨rfl, n4, τ4, hsa, hT4, hF4⟩
          · rw [hz]
            have hrd2 : rdM m cs n τ (p + 1) = .inl st := by
              conv => lhs; unfold rdM
              rw [hrd]; simp only []; rw [if_pos c60, hsa]
            refine V.ifN_ne (t := 77) (q := 71) dX2_readTown_68 (by decide) rfl (by omega) (fun c68 => absurd c68 (by decide +kernel)) (fun c68 => ?_)
            refine V.sipush (q := 74) (v := (-2000)) dX2_readTown_71 rfl (by decide +kernel) ?_
            refine V.iload_n (q := 75) dX2_readTown_74 rfl rfl ?_
            refine V.isub (q := 76) dX2_readTown_75 rfl ?_
            exact V.ret_int hB dX2_readTown_76 rfl ⟨_, rfl, ⟨by unfold twM; rw [hff, rdM_f hrd2 (show p + 1 ≤ m by omega)], by unfold twM; rw [hff, rdM_f hrd2 (show p + 1 ≤ m by omega)]; exact hX3, hF3.x⟩⟩
          · have hrd2 : rdM m cs n τ (p + 1) = .inr (p + 1, k + 1, n4, τ4) := by
              conv => lhs; unfold rdM
              rw [hrd]; simp only []; rw [if_pos c60, hsa]
            refine V.ifN_ne (t := 77) (q := 71) dX2_readTown_68 (by decide) rfl (by omega) (fun c68 => ?_) (fun c68 => absurd c68 (by decide +kernel))
            refine V.inc2 (q := 80) dX2_readTown_77 rfl (inc1 _) ?_
            refine V.iload (q := 82) dX2_readTown_80 rfl rfl ?_
            refine V.iconst (q := 83) (v := nI 1) dX2_readTown_82 rfl (by decide +kernel) ?_
            refine V.iaddN (q := 84) dX2_readTown_83 rfl ?_
            refine V.ist3 (q := 85) dX2_readTown_84 rfl ?_
            refine V.inc4 (q := 88) dX2_readTown_85 rfl (inc1 _) ?_
            refine V.goto (q := 37) dX2_readTown_88 (by decide) ?_
            exact ih c46 _ (p + 1) (k + 1) n4 τ4 0 hrd2 (Nat.le_refl _) (by omega) hdq hdq hT4 (hF3.tr (Fs.of hF4 (Or.inl rfl)))
    exact loop 0 (Nat.zero_le _) _ 0 0 n τ 0 rfl (Nat.le_refl 0) (Nat.le_refl 0) hdR hdR hT1 (Fs.of hF1 (Or.inl rfl))
  · skip
    refine V.ist1 (q := 8) dX2_readTown_7 rfl ?_
    have hj9 : j9 < 2 ^ 31 := ffO_lt hff hm64
    refine V.iload_n (q := 9) dX2_readTown_8 rfl rfl ?_
    refine V.iconst (q := 10) (v := (-1)) dX2_readTown_9 rfl (by decide +kernel) ?_
    refine V.icmp_eq (t := 19) (q := 13) dX2_readTown_10 (by decide) rfl  (fun c10 => absurd c10 (nI_m1 hj9)) (fun c10 => ?_)
    refine V.sipush (q := 16) (v := (-1000)) dX2_readTown_13 rfl (by decide +kernel) ?_
    refine V.iload_n (q := 17) dX2_readTown_16 rfl rfl ?_
    refine V.isub (q := 18) dX2_readTown_17 rfl ?_
    exact V.ret_int hB dX2_readTown_18 rfl ⟨_, rfl, ⟨by unfold twM; rw [hff]; rfl, by unfold twM; rw [hff]; exact hX, fun _ _ => rfl⟩⟩

-- town()
set_option maxHeartbeats 4000000 in
set_option maxRecDepth 100000 in
theorem p_town {σ : Sg} {n y : Nat} {τ : Nat → Nat → Nat} {fl n2 y2 : Nat} {τ2 : Nat → Nat → Nat} {m : Nat} {cs : Nat → Nat} {rl : Nat} {ro rc : Nat → Nat} (hX : XR σ n y τ fl n2 y2 τ2 m cs rl ro rc) : Con 9 yX2_town cX2_town 2 (some .int) [.ref 0] σ (PI (fun r σ1 => r = (twM m cs n τ).1 ∧ XR σ1 (twM m cs n τ).2.1 y (twM m cs n τ).2.2 fl n2 y2 τ2 0 cs rl ro rc ∧ Fx σ σ1)) := by
  refine Con.of (by decide) (by simp [Value.category]) (Nat.le_of_ble_eq_true rfl) (fun x hB => ?_)
  show V x RX2 cX2_town 2 0 [some (.ref 0), none] [] _
  have hN := hX.now
  have hn6 := hN.n6
  have hy9 := hX.y9
  refine V.aload_n (q := 1) dX2_town_0 rfl rfl ?_
  refine V.cvi0 (q := 4) dX2_town_1 rfl kc_X2_65 rfl (by decide) rfl (hB.rm (by decide)) (Nat.le_of_ble_eq_true rfl) (p_read hX) (fun r1 τ1 hp1 => ?_)
  obtain ⟨rfl, hX1, hF1⟩ := hp1
  refine V.ist1 (q := 5) dX2_town_4 rfl ?_
  refine V.aload_n (q := 6) dX2_town_5 rfl rfl ?_
  refine V.getR (q := 9) dX2_town_6 rfl kf_X2_28 rfl (by decide) rfl ?_
  refine V.iconst (q := 10) (v := nI 0) dX2_town_9 rfl (by decide +kernel) ?_
  refine V.putIn (q := 13) dX2_town_10 rfl kp_X2_61 rfl (by decide) rfl rfl rfl ?_
  refine V.iload_n (q := 14) dX2_town_13 rfl rfl ?_
  exact V.ret_int hB dX2_town_14 rfl ⟨_, rfl, ⟨rfl, hX1.clr, fun o ho => by rw [w2_ne (by omega)]; exact hF1 o ho⟩⟩

