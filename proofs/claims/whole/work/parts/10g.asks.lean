theorem YA.w3 {σ : Sg} {n y z l k : Nat} {τ : Nat → Nat → Nat} {v : Int32} (h : YA σ n y z l τ) (h6 : 6 ≠ k) (h7 : 7 ≠ k) : YA (w2 σ 43 k v) n y z l τ :=
  ⟨h.1.ww (by decide), by rw [w2_nk h6]; exact h.2.1, by rw [w2_nk h7]; exact h.2.2⟩
section MRs2
variable {σ σ1 : Sg} {n y : Nat} {τ : Nat → Nat → Nat} {fl n2 y2 : Nat} {τ2 : Nat → Nat → Nat} {m : Nat} {cs : Nat → Nat} {rl : Nat} {ro rc : Nat → Nat}
theorem MR.app {c : Nat} (h : MR σ n y τ fl n2 y2 τ2 m cs rl ro rc) (hm : m < 64) (hc : c < 256) : MR (w2 (w2 σ 49 m (nI c)) 43 10 (nI (m + 1))) n y τ fl n2 y2 τ2 (m + 1) (upN cs m c) rl ro rc := by
  obtain ⟨⟨a1, a2⟩, ⟨b1, b2, b3⟩, ⟨c1, c2, c3⟩, ⟨d1, d2, d3⟩, e⟩ := h
  refine ⟨⟨(a1.ww (by decide) (by decide)).w3 (by decide) (by decide), a2⟩, ⟨?_, b2, fun h9 => ⟨((b3 h9).1.ww (by decide)).ww (by decide), (b3 h9).2⟩⟩, ⟨by omega, by rw [w2_at], fun i hi => ?_⟩, ⟨?_, d2, ?_⟩, ?_⟩
  · rw [w2_nk (by decide), w2_ne (by decide)]; exact b1
  · rw [w2_ne (by decide), w2_rd]; unfold upN
    by_cases h9 : i = m
    · rw [if_pos ⟨rfl, h9⟩, if_pos h9]; exact ⟨rfl, hc⟩
    · rw [if_neg (fun q => h9 q.2), if_neg h9]; exact c3 i (by omega)
  · rw [w2_nk (by decide), w2_ne (by decide)]; exact d1
  · rw [w2_ne (by decide), w2_ne (by decide)]; exact d3
  · rw [w2_ne (by decide), w2_ne (by decide)]; exact e
theorem MR.clr (h : MR σ n y τ fl n2 y2 τ2 m cs rl ro rc) : MR (w2 σ 43 10 (nI 0)) n y τ fl n2 y2 τ2 0 cs rl ro rc := by
  obtain ⟨⟨a1, a2⟩, ⟨b1, b2, b3⟩, ⟨c1, c2, c3⟩, ⟨d1, d2, d3⟩, e⟩ := h
  refine ⟨⟨a1.w3 (by decide) (by decide), a2⟩, ⟨?_, b2, fun h9 => ⟨(b3 h9).1.ww (by decide), (b3 h9).2⟩⟩, ⟨by decide, by rw [w2_at], fun i hi => absurd hi (by omega)⟩, ⟨?_, d2, ?_⟩, ?_⟩
  · rw [w2_nk (by decide)]; exact b1
  · rw [w2_nk (by decide)]; exact d1
  · rw [w2_ne (by decide)]; exact d3
  · rw [w2_ne (by decide)]; exact e
theorem MR.row {c : Nat} (h : MR σ n y τ fl n2 y2 τ2 m cs rl ro rc) (hr : rl < 6) (hc : c ≤ 9) : MR (w2 (w2 σ 56 rl (nI c)) 43 19 (nI (rl + 1))) n y τ fl n2 y2 τ2 m cs (rl + 1) (upN ro rl c) rc := by
  obtain ⟨⟨a1, a2⟩, ⟨b1, b2, b3⟩, ⟨c1, c2, c3⟩, ⟨d1, d2, d3⟩, e⟩ := h
  refine ⟨⟨(a1.ww (by decide) (by decide)).w3 (by decide) (by decide), a2⟩, ⟨?_, b2, fun h9 => ⟨((b3 h9).1.ww (by decide)).ww (by decide), (b3 h9).2⟩⟩, ⟨c1, ?_, ?_⟩, ⟨by rw [w2_at], by omega, fun i hi => ?_⟩, ?_⟩
  · rw [w2_nk (by decide), w2_ne (by decide)]; exact b1
  · rw [w2_nk (by decide), w2_ne (by decide)]; exact c2
  · rw [w2_ne (by decide), w2_ne (by decide)]; exact c3
  · rw [w2_ne (by decide), w2_rd]; unfold upN
    by_cases h9 : i = rl
    · rw [if_pos ⟨rfl, h9⟩, if_pos h9]; exact ⟨rfl, hc⟩
    · rw [if_neg (fun q => h9 q.2), if_neg h9]; exact d3 i (by omega)
  · rw [w2_ne (by decide), w2_ne (by decide)]; exact e
theorem MR.rl00 (h : MR σ n y τ fl n2 y2 τ2 m cs rl ro rc) : MR (w2 σ 43 19 (nI 0)) n y τ fl n2 y2 τ2 m cs 0 ro rc := by
  obtain ⟨⟨a1, a2⟩, ⟨b1, b2, b3⟩, ⟨c1, c2, c3⟩, ⟨d1, d2, d3⟩, e⟩ := h
  refine ⟨⟨a1.w3 (by decide) (by decide), a2⟩, ⟨?_, b2, fun h9 => ⟨(b3 h9).1.ww (by decide), (b3 h9).2⟩⟩, ⟨c1, ?_, ?_⟩, ⟨by rw [w2_at], by decide, fun i hi => absurd hi (by omega)⟩, ?_⟩
  · rw [w2_nk (by decide)]; exact b1
  · rw [w2_nk (by decide)]; exact c2
  · rw [w2_ne (by decide)]; exact c3
  · rw [w2_ne (by decide)]; exact e
theorem MR.img (h : MR σ n y τ fl n2 y2 τ2 m cs rl ro rc) (hc : ∀ k, k < 51 → σ1 46 k = σ 45 k) (hF : ∀ o, o ≠ 46 → σ1 o = σ o) : MR (w2 σ1 43 5 (nI 1)) n y τ 1 n y τ m cs rl ro rc := by
  obtain ⟨⟨a1, a2⟩, ⟨b1, b2, b3⟩, ⟨c1, c2, c3⟩, ⟨d1, d2, d3⟩, e⟩ := h
  refine ⟨⟨⟨(a1.1.fr (hF 45 (by decide))).ww (by decide), by rw [w2_nk (by decide), hF 43 (by decide)]; exact a1.2.1, by rw [w2_nk (by decide), hF 43 (by decide)]; exact a1.2.2⟩, a2⟩, ⟨by rw [w2_at], Nat.le_refl 1, fun _ => ⟨(a1.1.cp hc).ww (by decide), a2⟩⟩, ⟨c1, ?_, ?_⟩, ⟨?_, d2, ?_⟩, ?_⟩
  · rw [w2_nk (by decide), hF 43 (by decide)]; exact c2
  · rw [w2_ne (by decide), hF 49 (by decide)]; exact c3
  · rw [w2_nk (by decide), hF 43 (by decide)]; exact d1
  · rw [w2_ne (by decide), hF 56 (by decide)]; exact d3
  · rw [w2_ne (by decide), hF 44 (by decide)]; exact e
end MRs2
theorem cnt_m {v : Int32} (h : (∃ k, 6 ≤ k ∧ k ≤ 10 ∧ v = nI k) ∨ ¬ sN v 17) (h1 : ¬ v ≤ nI 10) (h2 : ¬ nI 17 ≤ v) : False := by
  rcases h with ⟨k, hk1, hk2, rfl⟩ | h
  · exact h1 (nI_le hk2 (by omega))
  · refine h (sNb_of (fun h0 => h1 ?_) h2)
    have h8 := Int32.lt_iff_toInt_lt.mp h0
    have h6 : (0 : Int32).toInt = 0 := by decide
    refine Int32.le_iff_toInt_le.mpr ?_
    rw [nI_toInt (by omega)]
    omega
-- row
set_option maxHeartbeats 4000000 in
set_option maxRecDepth 100000 in
theorem m_row {σ : Sg} {n y : Nat} {τ : Nat → Nat → Nat} {fl n2 y2 : Nat} {τ2 : Nat → Nat → Nat} {m : Nat} {cs : Nat → Nat} {rl : Nat} {ro rc : Nat → Nat} (hX : MR σ n y τ fl n2 y2 τ2 m cs rl ro rc) (v : Int32) : Con 2 yX3_row cX3_row 3 (some .int) [.ref 43, .int v] σ (PI (fun r σ1 => r = rA (q_row rl v) ∧ MR σ1 n y τ fl n2 y2 τ2 m cs (if (q_row rl v).1 = 0 then rl + 1 else rl) (if (q_row rl v).1 = 0 then upN ro rl (tn v) else ro) (rU rc (q_row rl v)) ∧ Fm σ σ1)) := by
  refine Con.of (by decide) (by simp [Value.category]) (Nat.le_of_ble_eq_true rfl) (fun x hB => ?_)
  show V x RX3 cX3_row 3 0 [some (.ref 43), some (.int v), none] [] _
  have hY := hX.now
  have hS := hY.s
  have hn6 := hS.n6
  have hy9 := hX.y9
  refine V.iload_n (q := 1) dX3_row_0 rfl rfl ?_
  refine V.iconst (q := 2) (v := nI 0) dX3_row_1 rfl (by decide +kernel) ?_
  refine V.bipush (q := 4) (v := nI 9) dX3_row_2 rfl (by decide +kernel) ?_
  refine V.csi3 (q := 7) dX3_row_4 rfl kc_X3_64 (hB.rm (by decide)) (Nat.le_of_ble_eq_true rfl) (m_within v 0 9 (by decide) (by decide)) (fun r4 τ4 hp4 => ?_)
  obtain ⟨hz, ⟨hrf, rfl⟩ | ⟨hrf, rfl⟩ | ⟨rfl, j, hj1, hj2, rfl⟩⟩ := hp4
  · rw [hz]
    refine V.ist2 (q := 8) dX3_row_7 rfl ?_
    refine V.iload_n (q := 9) dX3_row_8 rfl rfl ?_
    refine V.if_ne (t := 24) (q := 12) dX3_row_9 (by decide) rfl  (fun c9 => ?_) (fun c9 => absurd c9 (by decide +kernel))
    refine V.iload_n (q := 25) dX3_row_24 rfl rfl ?_
    refine V.if_eq (t := 34) (q := 28) dX3_row_25 (by decide) rfl  (fun c25 => absurd c25 (by decide +kernel)) (fun c25 => ?_)
    refine V.aload_n (q := 29) dX3_row_28 rfl rfl ?_
    refine V.iload_n (q := 30) dX3_row_29 rfl rfl ?_
    refine V.cvi1 (q := 33) dX3_row_30 rfl kc_X3_71 rfl (by decide) rfl (hB.rm (by decide)) (Nat.le_of_ble_eq_true rfl) (m_refuse hX (k := 4) (v := -4) (by decide) (by decide) (by decide +kernel)) (fun r30 τ30 hp30 => ?_)
    obtain ⟨rfl, hz⟩ := hp30
    rw [hz]
    exact V.ret_int hB dX3_row_33 rfl ⟨_, rfl, (by
    have hq : q_row rl v = (4, 0) := by simp [q_row, hrf]
    rw [if_neg (by rw [hq]; decide), if_neg (by rw [hq]; decide)]; exact MP.no (v := -4) hX hq (by decide) (by decide +kernel))⟩
  · rw [hz]
    refine V.ist2 (q := 8) dX3_row_7 rfl ?_
    refine V.iload_n (q := 9) dX3_row_8 rfl rfl ?_
    refine V.if_ne (t := 24) (q := 12) dX3_row_9 (by decide) rfl  (fun c9 => ?_) (fun c9 => absurd c9 (by decide +kernel))
    refine V.iload_n (q := 25) dX3_row_24 rfl rfl ?_
    refine V.if_eq (t := 34) (q := 28) dX3_row_25 (by decide) rfl  (fun c25 => absurd c25 (by decide +kernel)) (fun c25 => ?_)
    refine V.aload_n (q := 29) dX3_row_28 rfl rfl ?_
    refine V.iload_n (q := 30) dX3_row_29 rfl rfl ?_
    refine V.cvi1 (q := 33) dX3_row_30 rfl kc_X3_71 rfl (by decide) rfl (hB.rm (by decide)) (Nat.le_of_ble_eq_true rfl) (m_refuse hX (k := 6) (v := -6) (by decide) (by decide) (by decide +kernel)) (fun r30 τ30 hp30 => ?_)
    obtain ⟨rfl, hz⟩ := hp30
    rw [hz]
    exact V.ret_int hB dX3_row_33 rfl ⟨_, rfl, (by
    have hq : q_row rl v = (6, 0) := by simp [q_row, hrf]
    rw [if_neg (by rw [hq]; decide), if_neg (by rw [hq]; decide)]; exact MP.no (v := -6) hX hq (by decide) (by decide +kernel))⟩
  · rw [hz]
    refine V.ist2 (q := 8) dX3_row_7 rfl ?_
    refine V.iload_n (q := 9) dX3_row_8 rfl rfl ?_
    refine V.ifN_ne (t := 24) (q := 12) dX3_row_9 (by decide) rfl (by omega) (fun c9 => absurd c9 (by decide +kernel)) (fun c9 => ?_)
    refine V.aload_n (q := 13) dX3_row_12 rfl rfl ?_
    refine V.getI (q := 16) dX3_row_13 rfl kf_X3_174 rfl (by decide) rfl hX.rl0 ?_
    refine V.bipush (q := 18) (v := nI 6) dX3_row_16 rfl (by decide +kernel) ?_
    refine V.icmpN_ne (t := 24) (q := 21) dX3_row_18 (by decide) rfl (by have := hX.rl6; omega) (by omega) (fun c18 => ?_) (fun c18 => ?_)
    · refine V.iload_n (q := 25) dX3_row_24 rfl rfl ?_
      refine V.ifN_eq (t := 34) (q := 28) dX3_row_25 (by decide) rfl (by omega) (fun c25 => ?_) (fun c25 => absurd c25 (by decide +kernel))
      refine V.aload_n (q := 35) dX3_row_34 rfl rfl ?_
      refine V.getR (q := 38) dX3_row_35 rfl kf_X3_53 rfl (by decide) rfl ?_
      refine V.aload_n (q := 39) dX3_row_38 rfl rfl ?_
      refine V.getI (q := 42) dX3_row_39 rfl kf_X3_174 rfl (by decide) rfl hX.rl0 ?_
      refine V.iload_n (q := 43) dX3_row_42 rfl rfl ?_
      refine V.iastN (q := 44) dX3_row_43 rfl rfl (by decide) (by have := hX.rl6; omega) (by decide) ?_
      refine V.aload_n (q := 45) dX3_row_44 rfl rfl ?_
      refine V.dup (q := 46) dX3_row_45 rfl rfl ?_
      refine V.getI (q := 49) dX3_row_46 rfl kf_X3_174 rfl (by decide) rfl (show _ = nI rl by rw [w2_ne (by decide)]; exact hX.rl0) ?_
      refine V.iconst (q := 50) (v := nI 1) dX3_row_49 rfl (by decide +kernel) ?_
      refine V.iaddN (q := 51) dX3_row_50 rfl ?_
      refine V.putI (q := 54) dX3_row_51 rfl kp_X3_174 rfl (by decide) rfl rfl rfl ?_
      refine V.aload_n (q := 55) dX3_row_54 rfl rfl ?_
      refine V.getI (q := 58) dX3_row_55 rfl kf_X3_174 rfl (by decide) rfl (show _ = nI (rl + 1) from w2_at) ?_
      exact V.ret_int hB dX3_row_58 rfl ⟨_, rfl, (by
    have hr6 := hX.rl6
    have hq : q_row rl (nI j) = (0, nI (rl + 1)) := by simp [q_row, rfN_in hj1 hj2 (show 9 < 2 ^ 20 by decide), show ¬ rl = 6 by omega]
    rw [if_pos (by rw [hq]), if_pos (by rw [hq]), hq, tn_nI (by omega)]
    exact ⟨rfl, hX.row (by omega) hj2, fun o ho => by rw [w2_ne (by omega), w2_ne (by omega)]⟩)⟩
    · refine V.bipush (q := 23) (v := (-6)) dX3_row_21 rfl (by decide +kernel) ?_
      refine V.ist2 (q := 24) dX3_row_23 rfl ?_
      refine V.iload_n (q := 25) dX3_row_24 rfl rfl ?_
      refine V.if_eq (t := 34) (q := 28) dX3_row_25 (by decide) rfl  (fun c25 => absurd c25 (by decide +kernel)) (fun c25 => ?_)
      refine V.aload_n (q := 29) dX3_row_28 rfl rfl ?_
      refine V.iload_n (q := 30) dX3_row_29 rfl rfl ?_
      refine V.cvi1 (q := 33) dX3_row_30 rfl kc_X3_71 rfl (by decide) rfl (hB.rm (by decide)) (Nat.le_of_ble_eq_true rfl) (m_refuse hX (k := 6) (v := -6) (by decide) (by decide) (by decide +kernel)) (fun r30 τ30 hp30 => ?_)
      obtain ⟨rfl, hz⟩ := hp30
      rw [hz]
      exact V.ret_int hB dX3_row_33 rfl ⟨_, rfl, (by
    have hr6 := hX.rl6
    have hq : q_row rl (nI j) = (6, 0) := by simp [q_row, rfN_in hj1 hj2 (show 9 < 2 ^ 20 by decide), show rl = 6 by omega]
    rw [if_neg (by rw [hq]; decide), if_neg (by rw [hq]; decide)]; exact MP.no (v := -6) hX hq (by decide) (by decide +kernel))⟩

-- letter
set_option maxHeartbeats 4000000 in
set_option maxRecDepth 100000 in
theorem m_letter {σ : Sg} {n y : Nat} {τ : Nat → Nat → Nat} {fl n2 y2 : Nat} {τ2 : Nat → Nat → Nat} {m : Nat} {cs : Nat → Nat} {rl : Nat} {ro rc : Nat → Nat} (hX : MR σ n y τ fl n2 y2 τ2 m cs rl ro rc) (v : Int32) : Con 2 yX3_letter cX3_letter 3 (some .int) [.ref 43, .int v] σ (PI (fun r σ1 => r = rA (q_letter m v) ∧ MR σ1 n y τ fl n2 y2 τ2 (if (q_letter m v).1 = 0 then m + 1 else m) (if (q_letter m v).1 = 0 then upN cs m (tn v) else cs) rl ro (rU rc (q_letter m v)) ∧ Fm σ σ1)) := by
  refine Con.of (by decide) (by simp [Value.category]) (Nat.le_of_ble_eq_true rfl) (fun x hB => ?_)
  show V x RX3 cX3_letter 3 0 [some (.ref 43), some (.int v), none] [] _
  have hY := hX.now
  have hS := hY.s
  have hn6 := hS.n6
  have hy9 := hX.y9
  refine V.iload_n (q := 1) dX3_letter_0 rfl rfl ?_
  refine V.iconst (q := 2) (v := nI 0) dX3_letter_1 rfl (by decide +kernel) ?_
  refine V.sipush (q := 5) (v := nI 255) dX3_letter_2 rfl (by decide +kernel) ?_
  refine V.csi3 (q := 8) dX3_letter_5 rfl kc_X3_64 (hB.rm (by decide)) (Nat.le_of_ble_eq_true rfl) (m_within v 0 255 (by decide) (by decide)) (fun r5 τ5 hp5 => ?_)
  obtain ⟨hz, ⟨hrf, rfl⟩ | ⟨hrf, rfl⟩ | ⟨rfl, j, hj1, hj2, rfl⟩⟩ := hp5
  · rw [hz]
    refine V.ist2 (q := 9) dX3_letter_8 rfl ?_
    refine V.iload_n (q := 10) dX3_letter_9 rfl rfl ?_
    refine V.if_ne (t := 25) (q := 13) dX3_letter_10 (by decide) rfl  (fun c10 => ?_) (fun c10 => absurd c10 (by decide +kernel))
    refine V.iload_n (q := 26) dX3_letter_25 rfl rfl ?_
    refine V.if_eq (t := 35) (q := 29) dX3_letter_26 (by decide) rfl  (fun c26 => absurd c26 (by decide +kernel)) (fun c26 => ?_)
    refine V.aload_n (q := 30) dX3_letter_29 rfl rfl ?_
    refine V.iload_n (q := 31) dX3_letter_30 rfl rfl ?_
    refine V.cvi1 (q := 34) dX3_letter_31 rfl kc_X3_71 rfl (by decide) rfl (hB.rm (by decide)) (Nat.le_of_ble_eq_true rfl) (m_refuse hX (k := 4) (v := -4) (by decide) (by decide) (by decide +kernel)) (fun r31 τ31 hp31 => ?_)
    obtain ⟨rfl, hz⟩ := hp31
    rw [hz]
    exact V.ret_int hB dX3_letter_34 rfl ⟨_, rfl, (by
    have hq : q_letter m v = (4, 0) := by simp [q_letter, hrf]
    rw [if_neg (by rw [hq]; decide), if_neg (by rw [hq]; decide)]; exact MP.no (v := -4) hX hq (by decide) (by decide +kernel))⟩
  · rw [hz]
    refine V.ist2 (q := 9) dX3_letter_8 rfl ?_
    refine V.iload_n (q := 10) dX3_letter_9 rfl rfl ?_
    refine V.if_ne (t := 25) (q := 13) dX3_letter_10 (by decide) rfl  (fun c10 => ?_) (fun c10 => absurd c10 (by decide +kernel))
    refine V.iload_n (q := 26) dX3_letter_25 rfl rfl ?_
    refine V.if_eq (t := 35) (q := 29) dX3_letter_26 (by decide) rfl  (fun c26 => absurd c26 (by decide +kernel)) (fun c26 => ?_)
    refine V.aload_n (q := 30) dX3_letter_29 rfl rfl ?_
    refine V.iload_n (q := 31) dX3_letter_30 rfl rfl ?_
    refine V.cvi1 (q := 34) dX3_letter_31 rfl kc_X3_71 rfl (by decide) rfl (hB.rm (by decide)) (Nat.le_of_ble_eq_true rfl) (m_refuse hX (k := 6) (v := -6) (by decide) (by decide) (by decide +kernel)) (fun r31 τ31 hp31 => ?_)
    obtain ⟨rfl, hz⟩ := hp31
    rw [hz]
    exact V.ret_int hB dX3_letter_34 rfl ⟨_, rfl, (by
    have hq : q_letter m v = (6, 0) := by simp [q_letter, hrf]
    rw [if_neg (by rw [hq]; decide), if_neg (by rw [hq]; decide)]; exact MP.no (v := -6) hX hq (by decide) (by decide +kernel))⟩
  · rw [hz]
    refine V.ist2 (q := 9) dX3_letter_8 rfl ?_
    refine V.iload_n (q := 10) dX3_letter_9 rfl rfl ?_
    refine V.ifN_ne (t := 25) (q := 13) dX3_letter_10 (by decide) rfl (by omega) (fun c10 => absurd c10 (by decide +kernel)) (fun c10 => ?_)
    refine V.aload_n (q := 14) dX3_letter_13 rfl rfl ?_
    refine V.getI (q := 17) dX3_letter_14 rfl kf_X3_68 rfl (by decide) rfl hX.tx.2.1 ?_
    refine V.bipush (q := 19) (v := nI 64) dX3_letter_17 rfl (by decide +kernel) ?_
    refine V.icmpN_ne (t := 25) (q := 22) dX3_letter_19 (by decide) rfl (by have := hX.tx.1; omega) (by omega) (fun c19 => ?_) (fun c19 => ?_)
    · refine V.iload_n (q := 26) dX3_letter_25 rfl rfl ?_
      refine V.ifN_eq (t := 35) (q := 29) dX3_letter_26 (by decide) rfl (by omega) (fun c26 => ?_) (fun c26 => absurd c26 (by decide +kernel))
      refine V.aload_n (q := 36) dX3_letter_35 rfl rfl ?_
      refine V.getR (q := 39) dX3_letter_36 rfl kf_X3_32 rfl (by decide) rfl ?_
      refine V.aload_n (q := 40) dX3_letter_39 rfl rfl ?_
      refine V.getI (q := 43) dX3_letter_40 rfl kf_X3_68 rfl (by decide) rfl hX.tx.2.1 ?_
      refine V.iload_n (q := 44) dX3_letter_43 rfl rfl ?_
      refine V.iastN (q := 45) dX3_letter_44 rfl rfl (by decide) (by have := hX.tx.1; omega) (by decide) ?_
      refine V.aload_n (q := 46) dX3_letter_45 rfl rfl ?_
      refine V.dup (q := 47) dX3_letter_46 rfl rfl ?_
      refine V.getI (q := 50) dX3_letter_47 rfl kf_X3_68 rfl (by decide) rfl (show _ = nI m by rw [w2_ne (by decide)]; exact hX.tx.2.1) ?_
      refine V.iconst (q := 51) (v := nI 1) dX3_letter_50 rfl (by decide +kernel) ?_
      refine V.iaddN (q := 52) dX3_letter_51 rfl ?_
      refine V.putI (q := 55) dX3_letter_52 rfl kp_X3_68 rfl (by decide) rfl rfl rfl ?_
      refine V.aload_n (q := 56) dX3_letter_55 rfl rfl ?_
      refine V.getI (q := 59) dX3_letter_56 rfl kf_X3_68 rfl (by decide) rfl (show _ = nI (m + 1) from w2_at) ?_
      exact V.ret_int hB dX3_letter_59 rfl ⟨_, rfl, (by
    have hm6 := hX.tx.1
    have hq : q_letter m (nI j) = (0, nI (m + 1)) := by simp [q_letter, rfN_in hj1 hj2 (show 255 < 2 ^ 20 by decide), show ¬ m = 64 by omega]
    rw [if_pos (by rw [hq]), if_pos (by rw [hq]), hq, tn_nI (by omega)]
    exact ⟨rfl, hX.app (by omega) (by omega), fun o ho => by rw [w2_ne (by omega), w2_ne (by omega)]⟩)⟩
    · refine V.bipush (q := 24) (v := (-6)) dX3_letter_22 rfl (by decide +kernel) ?_
      refine V.ist2 (q := 25) dX3_letter_24 rfl ?_
      refine V.iload_n (q := 26) dX3_letter_25 rfl rfl ?_
      refine V.if_eq (t := 35) (q := 29) dX3_letter_26 (by decide) rfl  (fun c26 => absurd c26 (by decide +kernel)) (fun c26 => ?_)
      refine V.aload_n (q := 30) dX3_letter_29 rfl rfl ?_
      refine V.iload_n (q := 31) dX3_letter_30 rfl rfl ?_
      refine V.cvi1 (q := 34) dX3_letter_31 rfl kc_X3_71 rfl (by decide) rfl (hB.rm (by decide)) (Nat.le_of_ble_eq_true rfl) (m_refuse hX (k := 6) (v := -6) (by decide) (by decide) (by decide +kernel)) (fun r31 τ31 hp31 => ?_)
      obtain ⟨rfl, hz⟩ := hp31
      rw [hz]
      exact V.ret_int hB dX3_letter_34 rfl ⟨_, rfl, (by
    have hm6 := hX.tx.1
    have hq : q_letter m (nI j) = (6, 0) := by simp [q_letter, rfN_in hj1 hj2 (show 255 < 2 ^ 20 by decide), show m = 64 by omega]
    rw [if_neg (by rw [hq]; decide), if_neg (by rw [hq]; decide)]; exact MP.no (v := -6) hX hq (by decide) (by decide +kernel))⟩

-- isAsTold
set_option maxHeartbeats 4000000 in
set_option maxRecDepth 100000 in
theorem m_isAsTold {σ : Sg} {n y : Nat} {τ : Nat → Nat → Nat} (hS : SA σ 45 n y τ) {ro : Nat → Nat} (hr : σ 43 19 = nI n) (hrw : ∀ i, i < n → σ 56 i = nI (ro i) ∧ ro i ≤ 9) : Con 2 yX3_isAsTold cX3_isAsTold 2 (some .boolean) [.ref 43] σ (PI (fun r σ1 => σ1 = σ ∧ ((r = nI 1 ∧ ftB n ro (τ 1) = true) ∨ (r = nI 0 ∧ ¬ ftB n ro (τ 1) = true)))) := by
  refine Con.of (by decide) (by simp [Value.category]) (Nat.le_of_ble_eq_true rfl) (fun x hB => ?_)
  show V x RX3 cX3_isAsTold 2 0 [some (.ref 43), none] [] _
  have hn6 := hS.n6
  have hyb := hS.yb
  refine V.iconst (q := 1) (v := nI 0) dX3_isAsTold_0 rfl (by decide +kernel) ?_
  refine V.ist1 (q := 2) dX3_isAsTold_1 rfl ?_
  have loop : ∀ j, j ≤ n → (∀ i, i < j → ro i = τ 1 i) → V x RX3 cX3_isAsTold 2 2 [some (.ref 43), some (.int (nI j))] [] σ := by
    refine down n (fun j hj ih hall => ?_)
    refine V.iload_n (q := 3) dX3_isAsTold_2 rfl rfl ?_
    refine V.aload_n (q := 4) dX3_isAsTold_3 rfl rfl ?_
    refine V.getI (q := 7) dX3_isAsTold_4 rfl kf_X3_174 rfl (by decide) rfl hr ?_
    refine V.icmpN_ge (t := 33) (q := 10) dX3_isAsTold_7 (by decide) rfl (by omega) (by omega) (fun c7 => ?_) (fun c7 => ?_)
    · have ej : j = n := by omega
      subst ej
      refine V.iconst (q := 34) (v := nI 1) dX3_isAsTold_33 rfl (by decide +kernel) ?_
      exact V.ret_int hB dX3_isAsTold_34 (by decide +kernel) ⟨_, rfl, ⟨rfl, Or.inl ⟨rfl, ftB_iff.mpr hall⟩⟩⟩
    · have h1 := hS.w j c7
      have h2 := hrw j c7
      refine V.aload_n (q := 11) dX3_isAsTold_10 rfl rfl ?_
      refine V.getR (q := 14) dX3_isAsTold_11 rfl kf_X3_53 rfl (by decide) rfl ?_
      refine V.iload_n (q := 15) dX3_isAsTold_14 rfl rfl ?_
      refine V.ialdN (q := 16) dX3_isAsTold_15 rfl rfl (by decide) (by omega) (by decide) h2.1 ?_
      refine V.aload_n (q := 17) dX3_isAsTold_16 rfl rfl ?_
      refine V.iload_n (q := 18) dX3_isAsTold_17 rfl rfl ?_
      refine V.iconst (q := 19) (v := nI 1) dX3_isAsTold_18 rfl (by decide +kernel) ?_
      refine V.cvi2 (q := 22) dX3_isAsTold_19 rfl kc_X3_109 rfl (by decide) rfl (hB.rm (by decide)) (Nat.le_of_ble_eq_true rfl) (m_get hS (by omega) 1 (by decide)) (fun r19 τ19 hp19 => ?_)
      obtain ⟨rfl, hz⟩ := hp19
      rw [hz]
      refine V.icmpN_eq (t := 27) (q := 25) dX3_isAsTold_22 (by decide) rfl (by omega) (by omega) (fun c22 => ?_) (fun c22 => ?_)
      · refine V.inc1 (q := 30) dX3_isAsTold_27 rfl (inc1 _) ?_
        refine V.goto (q := 2) dX3_isAsTold_30 (by decide) ?_
        refine ih c7 (fun k h9 => ?_)
        rcases Nat.lt_or_ge k j with h8 | h8
        · exact hall k h8
        · have : k = j := by omega
          subst this
          exact c22
      · refine V.iconst (q := 26) (v := nI 0) dX3_isAsTold_25 rfl (by decide +kernel) ?_
        exact V.ret_int hB dX3_isAsTold_26 (by decide +kernel) ⟨_, rfl, ⟨rfl, Or.inr ⟨rfl, fun h9 => c22 (ftB_iff.mp h9 j c7)⟩⟩⟩
  exact loop 0 (Nat.zero_le _) (fun i h9 => absurd h9 (by omega))

-- fitting
set_option maxHeartbeats 4000000 in
set_option maxRecDepth 100000 in
theorem m_fitting {σ : Sg} {n y : Nat} {τ : Nat → Nat → Nat} {fl n2 y2 : Nat} {τ2 : Nat → Nat → Nat} {m : Nat} {cs : Nat → Nat} {rl : Nat} {ro rc : Nat → Nat} (hX : MR σ n y τ fl n2 y2 τ2 m cs rl ro rc) (v : Int32) (w : Int32) : Con 6 yX3_fitting cX3_fitting 6 (some .int) [.ref 43, .int v, .int w] σ (PI (MP σ n y τ fl n2 y2 τ2 m cs rl ro rc (q_fitting n y τ rl ro v w))) := by
  refine Con.of (by decide) (by simp [Value.category]) (Nat.le_of_ble_eq_true rfl) (fun x hB => ?_)
  show V x RX3 cX3_fitting 6 0 [some (.ref 43), some (.int v), some (.int w), none, none, none] [] _
  have hY := hX.now
  have hS := hY.s
  have hn6 := hS.n6
  have hy9 := hX.y9
  refine V.aload_n (q := 1) dX3_fitting_0 rfl rfl ?_
  refine V.iload_n (q := 2) dX3_fitting_1 rfl rfl ?_
  refine V.cvi1 (q := 5) dX3_fitting_2 rfl kc_X3_142 rfl (by decide) rfl (hB.rm (by decide)) (Nat.le_of_ble_eq_true rfl) (m_isStreet hS v) (fun r2 τ2 hp2 => ?_)
  obtain ⟨hz, ⟨rfl, k, hk, rfl⟩ | ⟨rfl, hsk⟩⟩ := hp2
  · rw [hz]
    refine V.ifN_eq (t := 18) (q := 8) dX3_fitting_5 (by decide) rfl (by omega) (fun c5 => absurd c5 (by decide +kernel)) (fun c5 => ?_)
    refine V.iload_n (q := 9) dX3_fitting_8 rfl rfl ?_
    refine V.iconst (q := 10) (v := nI 1) dX3_fitting_9 rfl (by decide +kernel) ?_
    refine V.bipush (q := 12) (v := nI 30) dX3_fitting_10 rfl (by decide +kernel) ?_
    refine V.csi3 (q := 15) dX3_fitting_12 rfl kc_X3_64 (hB.rm (by decide)) (Nat.le_of_ble_eq_true rfl) (m_within w 1 30 (by decide) (by decide)) (fun r12 τ12 hp12 => ?_)
    obtain ⟨hz, ⟨hrf, rfl⟩ | ⟨hrf, rfl⟩ | ⟨rfl, j, hj1, hj2, rfl⟩⟩ := hp12
    · rw [hz]
      refine V.goto (q := 19) dX3_fitting_15 (by decide) ?_
      refine V.ist3 (q := 20) dX3_fitting_19 rfl ?_
      refine V.iload_n (q := 21) dX3_fitting_20 rfl rfl ?_
      refine V.if_ne (t := 40) (q := 24) dX3_fitting_21 (by decide) rfl  (fun c21 => ?_) (fun c21 => absurd c21 (by decide +kernel))
      refine V.iload_n (q := 41) dX3_fitting_40 rfl rfl ?_
      refine V.if_eq (t := 50) (q := 44) dX3_fitting_41 (by decide) rfl  (fun c41 => absurd c41 (by decide +kernel)) (fun c41 => ?_)
      refine V.aload_n (q := 45) dX3_fitting_44 rfl rfl ?_
      refine V.iload_n (q := 46) dX3_fitting_45 rfl rfl ?_
      refine V.cvi1 (q := 49) dX3_fitting_46 rfl kc_X3_71 rfl (by decide) rfl (hB.rm (by decide)) (Nat.le_of_ble_eq_true rfl) (m_refuse hX (k := 4) (v := -4) (by decide) (by decide) (by decide +kernel)) (fun r46 τ46 hp46 => ?_)
      obtain ⟨rfl, hz⟩ := hp46
      rw [hz]
      exact V.ret_int hB dX3_fitting_49 rfl ⟨_, rfl, MP.no hX (by simp [q_fitting, stN_some hk (Nat.le_trans hn6 (by decide)), hrf]) (by decide) (by decide +kernel)⟩
    · rw [hz]
      refine V.goto (q := 19) dX3_fitting_15 (by decide) ?_
      refine V.ist3 (q := 20) dX3_fitting_19 rfl ?_
      refine V.iload_n (q := 21) dX3_fitting_20 rfl rfl ?_
      refine V.if_ne (t := 40) (q := 24) dX3_fitting_21 (by decide) rfl  (fun c21 => ?_) (fun c21 => absurd c21 (by decide +kernel))
      refine V.iload_n (q := 41) dX3_fitting_40 rfl rfl ?_
      refine V.if_eq (t := 50) (q := 44) dX3_fitting_41 (by decide) rfl  (fun c41 => absurd c41 (by decide +kernel)) (fun c41 => ?_)
      refine V.aload_n (q := 45) dX3_fitting_44 rfl rfl ?_
      refine V.iload_n (q := 46) dX3_fitting_45 rfl rfl ?_
      refine V.cvi1 (q := 49) dX3_fitting_46 rfl kc_X3_71 rfl (by decide) rfl (hB.rm (by decide)) (Nat.le_of_ble_eq_true rfl) (m_refuse hX (k := 6) (v := -6) (by decide) (by decide) (by decide +kernel)) (fun r46 τ46 hp46 => ?_)
      obtain ⟨rfl, hz⟩ := hp46
      rw [hz]
      exact V.ret_int hB dX3_fitting_49 rfl ⟨_, rfl, MP.no hX (by simp [q_fitting, stN_some hk (Nat.le_trans hn6 (by decide)), hrf]) (by decide) (by decide +kernel)⟩
    · rw [hz]
      refine V.goto (q := 19) dX3_fitting_15 (by decide) ?_
      refine V.ist3 (q := 20) dX3_fitting_19 rfl ?_
      refine V.iload_n (q := 21) dX3_fitting_20 rfl rfl ?_
      refine V.ifN_ne (t := 40) (q := 24) dX3_fitting_21 (by decide) rfl (by omega) (fun c21 => absurd c21 (by decide +kernel)) (fun c21 => ?_)
      refine V.aload_n (q := 25) dX3_fitting_24 rfl rfl ?_
      refine V.getI (q := 28) dX3_fitting_25 rfl kf_X3_174 rfl (by decide) rfl hX.rl0 ?_
      refine V.aload_n (q := 29) dX3_fitting_28 rfl rfl ?_
      refine V.getR (q := 32) dX3_fitting_29 rfl kf_X3_13 rfl (by decide) rfl ?_
      refine V.iconst (q := 33) (v := nI 0) dX3_fitting_32 rfl (by decide +kernel) ?_
      refine V.ialdN (q := 34) dX3_fitting_33 rfl rfl (by decide) (by omega) (by decide) (SA.c hS) ?_
      refine V.icmpN_eq (t := 40) (q := 37) dX3_fitting_34 (by decide) rfl (by have := hX.rl6; omega) (by omega) (fun c34 => ?_) (fun c34 => ?_)
      · refine V.iload_n (q := 41) dX3_fitting_40 rfl rfl ?_
        refine V.ifN_eq (t := 50) (q := 44) dX3_fitting_41 (by decide) rfl (by omega) (fun c41 => ?_) (fun c41 => absurd c41 (by decide +kernel))
        refine V.aload_n (q := 51) dX3_fitting_50 rfl rfl ?_
        refine V.cvv0 (q := 54) dX3_fitting_51 rfl kc_X3_152 rfl (by decide) rfl (hB.rm (by decide)) (Nat.le_of_ble_eq_true rfl) (m_begins hS) (fun τ51 hp51 => ?_)
        obtain ⟨hM1, hS1, hF1⟩ := hp51
        have hG1 := Gz.rf.c hF1 (by decide)
        have hY1 : YA τ51 n y 6 6 τ := ⟨hS1, by rw [hF1 43 (by decide)]; exact hY.2⟩
        refine V.iconst (q := 55) (v := nI 0) dX3_fitting_54 rfl (by decide +kernel) ?_
        refine V.ist4 (q := 57) dX3_fitting_55 rfl ?_
        refine V.iconst (q := 58) (v := nI 0) dX3_fitting_57 rfl (by decide +kernel) ?_
        refine V.ist5 (q := 60) dX3_fitting_58 rfl ?_
        have loop : ∀ a, a ≤ 6 → ∀ σ1, YA σ1 n y 6 6 τ → SA σ1 48 n y τ → Gz σ σ1 → ∀ b, b = bsK (fun a => ftB n ro (yM n y (setF τ 0 (upN (τ 0) k a)) j 1)) a → V x RX3 cX3_fitting 6 60 [some (.ref 43), some (.int (nI k)), some (.int (nI j)), some (.int (nI 0)), some (.int (nI b)), some (.int (nI a))] [] σ1 := by
          refine down 6 (fun a ha ih σ1 hY1 hM1 hG1 b eb => ?_)
          have hS1 := hY1.s
          have hb := bsK_lt (fun a => ftB n ro (yM n y (setF τ 0 (upN (τ 0) k a)) j 1)) a
          rw [← eb] at hb
          have hb6 : 2 ^ a ≤ 2 ^ 6 := Nat.pow_le_pow_right (by decide) (by omega)
          refine V.iload (q := 62) dX3_fitting_60 rfl rfl ?_
          refine V.bipush (q := 64) (v := nI 6) dX3_fitting_62 rfl (by decide +kernel) ?_
          refine V.icmpN_ge (t := 110) (q := 67) dX3_fitting_64 (by decide) rfl (by omega) (by omega) (fun c64 => ?_) (fun c64 => ?_)
          · have ea : a = 6 := by omega
            subst ea
            refine V.iload (q := 112) dX3_fitting_110 rfl rfl ?_
            exact V.ret_int hB dX3_fitting_112 rfl ⟨_, rfl, MP.yes hX (hY1) (hG1) (by unfold q_fitting; simp only [stN_some hk (Nat.le_trans hn6 (by decide))]; rw [rfN_in hj1 hj2 (by decide), if_pos rfl, if_pos c34, tn_nI (by omega), eb])⟩
          · refine V.aload_n (q := 68) dX3_fitting_67 rfl rfl ?_
            refine V.iload_n (q := 69) dX3_fitting_68 rfl rfl ?_
            refine V.iconst (q := 70) (v := nI 0) dX3_fitting_69 rfl (by decide +kernel) ?_
            refine V.iload (q := 72) dX3_fitting_70 rfl rfl ?_
            refine V.cvv3 (q := 75) dX3_fitting_72 rfl kc_X3_116 rfl (by decide) rfl (hB.rm (by decide)) (Nat.le_of_ble_eq_true rfl) (m_puts (by omega)) (fun τ72 hp72 => ?_)
            subst hp72
            have hY2 := hY1.wr (f := 0) (v := a) (by decide) hk (by unfold okF; omega)
            have hM2 := hM1.ww (o1 := 45) (k := 2 + 7 * k + 0) (v := nI a) (by decide)
            have hG2 := hG1.w (o := 45) (k := 2 + 7 * k + 0) (v := nI a) (by decide)
            refine V.aload_n (q := 76) dX3_fitting_75 rfl rfl ?_
            refine V.iload_n (q := 77) dX3_fitting_76 rfl rfl ?_
            refine V.cvv1 (q := 80) dX3_fitting_77 rfl kc_X3_133 rfl (by decide) rfl (hB.rm (by decide)) (Nat.le_of_ble_eq_true rfl) (m_goesFor hY2 (k := j) (by omega)) (fun τ77 hp77 => ?_)
            obtain ⟨hY3, hF3⟩ := hp77
            have hM3 := hM2.fr (hF3 48 (by decide) (by decide))
            have hG3 := hG2.y hF3
            have hS3 := hY3.s
            refine V.iload (q := 82) dX3_fitting_80 rfl rfl ?_
            refine V.aload_n (q := 83) dX3_fitting_82 rfl rfl ?_
            refine V.cvi0 (q := 86) dX3_fitting_83 rfl kc_X3_177 rfl (by decide) rfl (hB.rm (by decide)) (Nat.le_of_ble_eq_true rfl) (m_isAsTold (ro := ro) hS3 (by rw [hG3.2 19 (by decide), hX.rl0, c34]) (by rw [hG3.1 56 (by decide)]; exact fun i hi => hX.rw0 (by omega))) (fun r83 τ83 hp83 => ?_)
            obtain ⟨hz, ⟨rfl, hft⟩ | ⟨rfl, hft⟩⟩ := hp83
            · rw [hz]
              refine V.ifN_eq (t := 96) (q := 89) dX3_fitting_86 (by decide) rfl (by omega) (fun c86 => absurd c86 (by decide +kernel)) (fun c86 => ?_)
              refine V.iconst (q := 90) (v := nI 1) dX3_fitting_89 rfl (by decide +kernel) ?_
              refine V.iload (q := 92) dX3_fitting_90 rfl rfl ?_
              refine V.ishl (q := 93) dX3_fitting_92 rfl ?_
              rw [shl1 (show a < 6 by omega)]
              refine V.goto (q := 97) dX3_fitting_93 (by decide) ?_
              refine V.ior (q := 98) dX3_fitting_97 rfl ?_
              rw [ior_all a (by omega) b hb]
              refine V.ist4 (q := 100) dX3_fitting_98 rfl ?_
              refine V.aload_n (q := 101) dX3_fitting_100 rfl rfl ?_
              refine V.cvv0 (q := 104) dX3_fitting_101 rfl kc_X3_139 rfl (by decide) rfl (hB.rm (by decide)) (Nat.le_of_ble_eq_true rfl) (m_ends hM3) (fun τ101 hp101 => ?_)
              obtain ⟨hS4, hM4, hF4⟩ := hp101
              have hY4 : YA τ101 n y 6 6 τ := ⟨hS4, by rw [hF4 43 (by decide)]; exact hY3.2⟩
              have hG4 := hG3.c hF4 (by decide)
              refine V.inc5 (q := 107) dX3_fitting_104 rfl (inc1 _) ?_
              refine V.goto (q := 60) dX3_fitting_107 (by decide) ?_
              exact ih c64 _ hY4 hM4 hG4 _ (by unfold bsK; rw [if_pos (show ftB n ro (yM n y (setF τ 0 (upN (τ 0) k a)) j 1) = true from hft), eb])
            · rw [hz]
              refine V.ifN_eq (t := 96) (q := 89) dX3_fitting_86 (by decide) rfl (by omega) (fun c86 => ?_) (fun c86 => absurd c86 (by decide +kernel))
              refine V.iconst (q := 97) (v := nI 0) dX3_fitting_96 rfl (by decide +kernel) ?_
              refine V.ior (q := 98) dX3_fitting_97 rfl ?_
              rw [ior0_all b (by omega)]
              refine V.ist4 (q := 100) dX3_fitting_98 rfl ?_
              refine V.aload_n (q := 101) dX3_fitting_100 rfl rfl ?_
              refine V.cvv0 (q := 104) dX3_fitting_101 rfl kc_X3_139 rfl (by decide) rfl (hB.rm (by decide)) (Nat.le_of_ble_eq_true rfl) (m_ends hM3) (fun τ101 hp101 => ?_)
              obtain ⟨hS4, hM4, hF4⟩ := hp101
              have hY4 : YA τ101 n y 6 6 τ := ⟨hS4, by rw [hF4 43 (by decide)]; exact hY3.2⟩
              have hG4 := hG3.c hF4 (by decide)
              refine V.inc5 (q := 107) dX3_fitting_104 rfl (inc1 _) ?_
              refine V.goto (q := 60) dX3_fitting_107 (by decide) ?_
              exact ih c64 _ hY4 hM4 hG4 _ (by unfold bsK; rw [if_neg (show ¬ ftB n ro (yM n y (setF τ 0 (upN (τ 0) k a)) j 1) = true from hft)]; exact eb)
        exact loop 0 (by decide) _ hY1 hM1 hG1 0 rfl
      · refine V.bipush (q := 39) (v := (-3)) dX3_fitting_37 rfl (by decide +kernel) ?_
        refine V.ist3 (q := 40) dX3_fitting_39 rfl ?_
        refine V.iload_n (q := 41) dX3_fitting_40 rfl rfl ?_
        refine V.if_eq (t := 50) (q := 44) dX3_fitting_41 (by decide) rfl  (fun c41 => absurd c41 (by decide +kernel)) (fun c41 => ?_)
        refine V.aload_n (q := 45) dX3_fitting_44 rfl rfl ?_
        refine V.iload_n (q := 46) dX3_fitting_45 rfl rfl ?_
        refine V.cvi1 (q := 49) dX3_fitting_46 rfl kc_X3_71 rfl (by decide) rfl (hB.rm (by decide)) (Nat.le_of_ble_eq_true rfl) (m_refuse hX (k := 3) (v := -3) (by decide) (by decide) (by decide +kernel)) (fun r46 τ46 hp46 => ?_)
        obtain ⟨rfl, hz⟩ := hp46
        rw [hz]
        exact V.ret_int hB dX3_fitting_49 rfl ⟨_, rfl, MP.no hX (by simp [q_fitting, stN_some hk (Nat.le_trans hn6 (by decide)), rfN_in hj1 hj2 (show 30 < 2 ^ 20 by decide), c34]) (by decide) (by decide +kernel)⟩
  · rw [hz]
    refine V.ifN_eq (t := 18) (q := 8) dX3_fitting_5 (by decide) rfl (by omega) (fun c5 => ?_) (fun c5 => absurd c5 (by decide +kernel))
    refine V.iconst (q := 19) (v := (-1)) dX3_fitting_18 rfl (by decide +kernel) ?_
    refine V.ist3 (q := 20) dX3_fitting_19 rfl ?_
    refine V.iload_n (q := 21) dX3_fitting_20 rfl rfl ?_
    refine V.if_ne (t := 40) (q := 24) dX3_fitting_21 (by decide) rfl  (fun c21 => ?_) (fun c21 => absurd c21 (by decide +kernel))
    refine V.iload_n (q := 41) dX3_fitting_40 rfl rfl ?_
    refine V.if_eq (t := 50) (q := 44) dX3_fitting_41 (by decide) rfl  (fun c41 => absurd c41 (by decide +kernel)) (fun c41 => ?_)
    refine V.aload_n (q := 45) dX3_fitting_44 rfl rfl ?_
    refine V.iload_n (q := 46) dX3_fitting_45 rfl rfl ?_
    refine V.cvi1 (q := 49) dX3_fitting_46 rfl kc_X3_71 rfl (by decide) rfl (hB.rm (by decide)) (Nat.le_of_ble_eq_true rfl) (m_refuse hX (k := 1) (v := -1) (by decide) (by decide) (by decide +kernel)) (fun r46 τ46 hp46 => ?_)
    obtain ⟨rfl, hz⟩ := hp46
    rw [hz]
    exact V.ret_int hB dX3_fitting_49 rfl ⟨_, rfl, MP.no hX (by simp [q_fitting, stN_none hsk]) (by decide) (by decide +kernel)⟩

-- judge
set_option maxHeartbeats 4000000 in
set_option maxRecDepth 100000 in
theorem m_judge {σ : Sg} {n y : Nat} {τ : Nat → Nat → Nat} {fl n2 y2 : Nat} {τ2 : Nat → Nat → Nat} {m : Nat} {cs : Nat → Nat} {rl : Nat} {ro rc : Nat → Nat} (hX : MR σ n y τ fl n2 y2 τ2 m cs rl ro rc) : Con 2 yX3_judge cX3_judge 3 (some .int) [.ref 43] σ (PI (fun r σ1 => r = rA ((0, fnM rl n ro (τ 1))) ∧ MR σ1 n y τ fl n2 y2 τ2 m cs 0 ro (rU rc ((0, fnM rl n ro (τ 1)))) ∧ Fm σ σ1)) := by
  refine Con.of (by decide) (by simp [Value.category]) (Nat.le_of_ble_eq_true rfl) (fun x hB => ?_)
  show V x RX3 cX3_judge 3 0 [some (.ref 43), none, none] [] _
  have hY := hX.now
  have hS := hY.s
  have hn6 := hS.n6
  have hy9 := hX.y9
  refine V.aload_n (q := 1) dX3_judge_0 rfl rfl ?_
  refine V.getI (q := 4) dX3_judge_1 rfl kf_X3_174 rfl (by decide) rfl hX.rl0 ?_
  refine V.ist1 (q := 5) dX3_judge_4 rfl ?_
  refine V.aload_n (q := 6) dX3_judge_5 rfl rfl ?_
  refine V.iconst (q := 7) (v := nI 0) dX3_judge_6 rfl (by decide +kernel) ?_
  refine V.putI (q := 10) dX3_judge_7 rfl kp_X3_174 rfl (by decide) rfl rfl rfl ?_
  have hS1 := hS.ww (o1 := 43) (k := 19) (v := nI 0) (by decide)
  have hr6 := hX.rl6
  refine V.iconst (q := 11) (v := nI 0) dX3_judge_10 rfl (by decide +kernel) ?_
  refine V.ist2 (q := 12) dX3_judge_11 rfl ?_
  have loop : ∀ i, i ≤ rl → i ≤ n → fsK (fun i => decide (ro i ≠ τ 1 i)) i = none → V x RX3 cX3_judge 3 12 [some (.ref 43), some (.int (nI rl)), some (.int (nI i))] [] (w2 σ 43 19 (nI 0)) := by
    refine down rl (fun i hi ih hin hno => ?_)
    refine V.iload_n (q := 13) dX3_judge_12 rfl rfl ?_
    refine V.iload_n (q := 14) dX3_judge_13 rfl rfl ?_
    refine V.icmpN_ge (t := 50) (q := 17) dX3_judge_14 (by decide) rfl (by omega) (by omega) (fun c14 => ?_) (fun c14 => ?_)
    · have ei : rl = i := by omega
      subst ei
      refine V.iload_n (q := 51) dX3_judge_50 rfl rfl ?_
      refine V.aload_n (q := 52) dX3_judge_51 rfl rfl ?_
      refine V.getR (q := 55) dX3_judge_52 rfl kf_X3_13 rfl (by decide) rfl ?_
      refine V.iconst (q := 56) (v := nI 0) dX3_judge_55 rfl (by decide +kernel) ?_
      refine V.ialdN (q := 57) dX3_judge_56 rfl rfl (by decide) (by omega) (by decide) (SA.c hS1) ?_
      refine V.icmpN_ge (t := 64) (q := 60) dX3_judge_57 (by decide) rfl (by omega) (by omega) (fun c57 => ?_) (fun c57 => ?_)
      · refine V.bipush (q := 66) (v := (-9)) dX3_judge_64 rfl (by decide +kernel) ?_
        exact V.ret_int hB dX3_judge_66 rfl ⟨_, rfl, ⟨by unfold fnM; rw [Nat.min_eq_left (by omega), hno]; simp only []; rw [if_pos (by omega)]; rfl, hX.rl00, fun o ho => w2_ne (by omega)⟩⟩
      · refine V.iload_n (q := 61) dX3_judge_60 rfl rfl ?_
        refine V.goto (q := 66) dX3_judge_61 (by decide) ?_
        exact V.ret_int hB dX3_judge_66 rfl ⟨_, rfl, ⟨by unfold fnM; rw [Nat.min_eq_left (by omega), hno]; simp only []; rw [if_neg (by omega)]; rfl, hX.rl00, fun o ho => w2_ne (by omega)⟩⟩
    · have hro := hX.rw0 (show i < rl by omega)
      refine V.iload_n (q := 18) dX3_judge_17 rfl rfl ?_
      refine V.aload_n (q := 19) dX3_judge_18 rfl rfl ?_
      refine V.getR (q := 22) dX3_judge_19 rfl kf_X3_13 rfl (by decide) rfl ?_
      refine V.iconst (q := 23) (v := nI 0) dX3_judge_22 rfl (by decide +kernel) ?_
      refine V.ialdN (q := 24) dX3_judge_23 rfl rfl (by decide) (by omega) (by decide) (SA.c hS1) ?_
      refine V.icmpN_eq (t := 42) (q := 27) dX3_judge_24 (by decide) rfl (by omega) (by omega) (fun c24 => ?_) (fun c24 => ?_)
      · have en : n = i := by omega
        subst en
        refine V.iload_n (q := 43) dX3_judge_42 rfl rfl ?_
        exact V.ret_int hB dX3_judge_43 rfl ⟨_, rfl, ⟨by unfold fnM; rw [Nat.min_eq_right (by omega), hno]; simp only []; rw [if_neg (by omega)]; rfl, hX.rl00, fun o ho => w2_ne (by omega)⟩⟩
      · have hmu := (hS.w i (by omega)).2.1
        refine V.aload_n (q := 28) dX3_judge_27 rfl rfl ?_
        refine V.getR (q := 31) dX3_judge_28 rfl kf_X3_53 rfl (by decide) rfl ?_
        refine V.iload_n (q := 32) dX3_judge_31 rfl rfl ?_
        refine V.ialdN (q := 33) dX3_judge_32 rfl rfl (by decide) (by omega) (by decide) (show _ = nI (ro i) by rw [w2_ne (by decide)]; exact hro.1) ?_
        refine V.aload_n (q := 34) dX3_judge_33 rfl rfl ?_
        refine V.iload_n (q := 35) dX3_judge_34 rfl rfl ?_
        refine V.iconst (q := 36) (v := nI 1) dX3_judge_35 rfl (by decide +kernel) ?_
        refine V.cvi2 (q := 39) dX3_judge_36 rfl kc_X3_109 rfl (by decide) rfl (hB.rm (by decide)) (Nat.le_of_ble_eq_true rfl) (m_get hS1 (show i < n by omega) 1 (by decide)) (fun r36 τ36 hp36 => ?_)
        obtain ⟨rfl, hz⟩ := hp36
        rw [hz]
        refine V.icmpN_eq (t := 44) (q := 42) dX3_judge_39 (by decide) rfl (by omega) (by omega) (fun c39 => ?_) (fun c39 => ?_)
        · have hp9 := fsK_n hno (show ¬ decide (ro i ≠ τ 1 i) = true by simp [c39])
          refine V.inc2 (q := 47) dX3_judge_44 rfl (inc1 _) ?_
          refine V.goto (q := 12) dX3_judge_47 (by decide) ?_
          exact ih (by omega) (by omega) hp9
        · have hp9 := fsK_y hno (decide_eq_true c39)
          refine V.iload_n (q := 43) dX3_judge_42 rfl rfl ?_
          exact V.ret_int hB dX3_judge_43 rfl ⟨_, rfl, ⟨by unfold fnM; rw [fsK_up hp9 (show i + 1 ≤ min rl n by omega)]; rfl, hX.rl00, fun o ho => w2_ne (by omega)⟩⟩
  exact loop 0 (Nat.zero_le _) (Nat.zero_le _) rfl

-- seeds
set_option maxHeartbeats 4000000 in
set_option maxRecDepth 100000 in
theorem m_seeds {σ : Sg} {n y : Nat} {τ : Nat → Nat → Nat} {fl n2 y2 : Nat} {τ2 : Nat → Nat → Nat} {m : Nat} {cs : Nat → Nat} {rl : Nat} {ro rc : Nat → Nat} (hX : MR σ n y τ fl n2 y2 τ2 m cs rl ro rc) (v : Int32) (w : Int32) : Con 6 yX3_seeds cX3_seeds 7 (some .int) [.ref 43, .int v, .int w] σ (PI (MP σ n y τ fl n2 y2 τ2 m cs rl ro rc (q_seeds n y τ v w))) := by
  refine Con.of (by decide) (by simp [Value.category]) (Nat.le_of_ble_eq_true rfl) (fun x hB => ?_)
  show V x RX3 cX3_seeds 7 0 [some (.ref 43), some (.int v), some (.int w), none, none, none, none] [] _
  have hY := hX.now
  have hS := hY.s
  have hn6 := hS.n6
  have hy9 := hX.y9
  refine V.iload_n (q := 1) dX3_seeds_0 rfl rfl ?_
  refine V.iconst (q := 2) (v := nI 1) dX3_seeds_1 rfl (by decide +kernel) ?_
  refine V.bipush (q := 4) (v := nI 30) dX3_seeds_2 rfl (by decide +kernel) ?_
  refine V.csi3 (q := 7) dX3_seeds_4 rfl kc_X3_64 (hB.rm (by decide)) (Nat.le_of_ble_eq_true rfl) (m_within v 1 30 (by decide) (by decide)) (fun r4 τ4 hp4 => ?_)
  obtain ⟨hz, ⟨hrf, rfl⟩ | ⟨hrf, rfl⟩ | ⟨rfl, j, hj1, hj2, rfl⟩⟩ := hp4
  · rw [hz]
    refine V.ist3 (q := 8) dX3_seeds_7 rfl ?_
    refine V.iload_n (q := 9) dX3_seeds_8 rfl rfl ?_
    refine V.if_eq (t := 18) (q := 12) dX3_seeds_9 (by decide) rfl  (fun c9 => absurd c9 (by decide +kernel)) (fun c9 => ?_)
    refine V.aload_n (q := 13) dX3_seeds_12 rfl rfl ?_
    refine V.iload_n (q := 14) dX3_seeds_13 rfl rfl ?_
    refine V.cvi1 (q := 17) dX3_seeds_14 rfl kc_X3_71 rfl (by decide) rfl (hB.rm (by decide)) (Nat.le_of_ble_eq_true rfl) (m_refuse hX (k := 4) (v := -4) (by decide) (by decide) (by decide +kernel)) (fun r14 τ14 hp14 => ?_)
    obtain ⟨rfl, hz⟩ := hp14
    rw [hz]
    exact V.ret_int hB dX3_seeds_17 rfl ⟨_, rfl, MP.no hX (by simp [q_seeds, rfq_4 hrf]) (by decide) (by decide +kernel)⟩
  · rw [hz]
    refine V.ist3 (q := 8) dX3_seeds_7 rfl ?_
    refine V.iload_n (q := 9) dX3_seeds_8 rfl rfl ?_
    refine V.if_eq (t := 18) (q := 12) dX3_seeds_9 (by decide) rfl  (fun c9 => absurd c9 (by decide +kernel)) (fun c9 => ?_)
    refine V.aload_n (q := 13) dX3_seeds_12 rfl rfl ?_
    refine V.iload_n (q := 14) dX3_seeds_13 rfl rfl ?_
    refine V.cvi1 (q := 17) dX3_seeds_14 rfl kc_X3_71 rfl (by decide) rfl (hB.rm (by decide)) (Nat.le_of_ble_eq_true rfl) (m_refuse hX (k := 6) (v := -6) (by decide) (by decide) (by decide +kernel)) (fun r14 τ14 hp14 => ?_)
    obtain ⟨rfl, hz⟩ := hp14
    rw [hz]
    exact V.ret_int hB dX3_seeds_17 rfl ⟨_, rfl, MP.no hX (by simp [q_seeds, rfq_6 hrf]) (by decide) (by decide +kernel)⟩
  · rw [hz]
    refine V.ist3 (q := 8) dX3_seeds_7 rfl ?_
    refine V.iload_n (q := 9) dX3_seeds_8 rfl rfl ?_
    refine V.ifN_eq (t := 18) (q := 12) dX3_seeds_9 (by decide) rfl (by omega) (fun c9 => ?_) (fun c9 => absurd c9 (by decide +kernel))
    refine V.aload_n (q := 19) dX3_seeds_18 rfl rfl ?_
    refine V.cvv0 (q := 22) dX3_seeds_19 rfl kc_X3_152 rfl (by decide) rfl (hB.rm (by decide)) (Nat.le_of_ble_eq_true rfl) (m_begins hS) (fun τ19 hp19 => ?_)
    obtain ⟨hM1, hS1, hF1⟩ := hp19
    have hG1 := Gz.rf.c hF1 (by decide)
    have hY1 : YA τ19 n y 6 6 τ := ⟨hS1, by rw [hF1 43 (by decide)]; exact hY.2⟩
    refine V.iload_n (q := 23) dX3_seeds_22 rfl rfl ?_
    refine V.ist4 (q := 25) dX3_seeds_23 rfl ?_
    refine V.iconst (q := 26) (v := nI 0) dX3_seeds_25 rfl (by decide +kernel) ?_
    refine V.ist5 (q := 28) dX3_seeds_26 rfl ?_
    have loop : ∀ p, p ≤ j → ∀ σ1, YA σ1 n (y + p) 6 6 (sdM n y τ w p).2 → SA σ1 48 n y τ → Gz σ σ1 → ∀ o6, V x RX3 cX3_seeds 7 28 [some (.ref 43), some (.int (nI j)), some (.int w), some (.int (nI 0)), some (.int (sdM n y τ w p).1), some (.int (nI p)), o6] [] σ1 := by
      refine down j (fun p hp ih σ1 hY2 hM2 hG2 o6 => ?_)
      have hS2 := hY2.s
      refine V.iload (q := 30) dX3_seeds_28 rfl rfl ?_
      refine V.iload_n (q := 31) dX3_seeds_30 rfl rfl ?_
      refine V.icmpN_ge (t := 92) (q := 34) dX3_seeds_31 (by decide) rfl (by omega) (by omega) (fun c31 => ?_) (fun c31 => ?_)
      · have ep : p = j := by omega
        subst ep
        refine V.aload_n (q := 93) dX3_seeds_92 rfl rfl ?_
        refine V.cvi0 (q := 96) dX3_seeds_93 rfl kc_X3_136 rfl (by decide) rfl (hB.rm (by decide)) (Nat.le_of_ble_eq_true rfl) (m_allMud hS2) (fun r93 τ93 hp93 => ?_)
        obtain ⟨rfl, hz⟩ := hp93
        rw [hz]
        refine V.ist5 (q := 98) dX3_seeds_96 rfl ?_
        refine V.aload_n (q := 99) dX3_seeds_98 rfl rfl ?_
        refine V.cvv0 (q := 102) dX3_seeds_99 rfl kc_X3_139 rfl (by decide) rfl (hB.rm (by decide)) (Nat.le_of_ble_eq_true rfl) (m_ends hM2) (fun τ99 hp99 => ?_)
        obtain ⟨hS7, hM7, hF7⟩ := hp99
        have hY7 : YA τ99 n y 6 6 τ := ⟨hS7, by rw [hF7 43 (by decide)]; exact hY2.2⟩
        have hG7 := hG2.c hF7 (by decide)
        refine V.iload (q := 104) dX3_seeds_102 rfl rfl ?_
        exact V.ret_int hB dX3_seeds_104 rfl ⟨_, rfl, MP.yes hX (hY7) (hG7) (by unfold q_seeds; rw [rfq_in hj1 hj2 (by decide), tn_nI (by omega)])⟩
      · refine V.iconst (q := 35) (v := nI 0) dX3_seeds_34 rfl (by decide +kernel) ?_
        refine V.ist6 (q := 37) dX3_seeds_35 rfl ?_
        have loop2 : ∀ i, i ≤ n → ∀ σ2 τ3, YA σ2 n (y + p) 6 6 τ3 → SA σ2 48 n y τ → Gz σ σ2 → (∀ q, q < n → τ3 2 q = if q < i then wv (zK (sdM n y τ w p).1 (q + 1)) else (sdM n y τ w p).2 2 q) → (∀ f, f ≠ 2 → τ3 f = (sdM n y τ w p).2 f) → V x RX3 cX3_seeds 7 37 [some (.ref 43), some (.int (nI j)), some (.int w), some (.int (nI 0)), some (.int (zK (sdM n y τ w p).1 i)), some (.int (nI p)), some (.int (nI i))] [] σ2 := by
          refine down n (fun i hi ih2 σ2 τ3 hY3 hM3 hG3 e2 ef => ?_)
          have hS3 := hY3.s
          refine V.iload (q := 39) dX3_seeds_37 rfl rfl ?_
          refine V.aload_n (q := 40) dX3_seeds_39 rfl rfl ?_
          refine V.getR (q := 43) dX3_seeds_40 rfl kf_X3_13 rfl (by decide) rfl ?_
          refine V.iconst (q := 44) (v := nI 0) dX3_seeds_43 rfl (by decide +kernel) ?_
          refine V.ialdN (q := 45) dX3_seeds_44 rfl rfl (by decide) (by omega) (by decide) (SA.c hS3) ?_
          refine V.icmpN_ge (t := 82) (q := 48) dX3_seeds_45 (by decide) rfl (by omega) (by omega) (fun c45 => ?_) (fun c45 => ?_)
          · have ei : n = i := by omega
            subst ei
            have hY5 : YA σ2 n (y + p) 6 6 (setF (sdM n y τ w p).2 2 (fun s => wv (zK (sdM n y τ w p).1 (s + 1)))) := hY3.cg (fun f hf q hq => by
              by_cases h2 : f = 2
              · subst h2; rw [e2 q hq, if_pos hq, setF_at]
              · rw [ef f h2, setF_ne h2])
            refine V.aload_n (q := 83) dX3_seeds_82 rfl rfl ?_
            refine V.cvv0 (q := 86) dX3_seeds_83 rfl kc_X3_127 rfl (by decide) rfl (hB.rm (by decide)) (Nat.le_of_ble_eq_true rfl) (m_goes hY5 (by omega)) (fun τ83 hp83 => ?_)
            obtain ⟨hY6, hF6⟩ := hp83
            have hM6 := hM3.fr (hF6 48 (by decide) (by decide))
            have hG6 := hG3.y hF6
            refine V.inc5 (q := 89) dX3_seeds_86 rfl (inc1 _) ?_
            refine V.goto (q := 28) dX3_seeds_89 (by decide) ?_
            exact ih c31 _ hY6 hM6 hG6 _
          · refine V.iload (q := 50) dX3_seeds_48 rfl rfl ?_
            refine V.ldc (q := 52) dX3_seeds_50 rfl kk_X3_180 ?_
            refine V.imul (q := 53) dX3_seeds_52 rfl ?_
            refine V.ldc (q := 55) dX3_seeds_53 rfl kk_X3_181 ?_
            refine V.iadd (q := 56) dX3_seeds_55 rfl ?_
            refine V.ist4 (q := 58) dX3_seeds_56 rfl ?_
            refine V.aload_n (q := 59) dX3_seeds_58 rfl rfl ?_
            refine V.iload (q := 61) dX3_seeds_59 rfl rfl ?_
            refine V.iconst (q := 62) (v := nI 2) dX3_seeds_61 rfl (by decide +kernel) ?_
            refine V.iload (q := 64) dX3_seeds_62 rfl rfl ?_
            refine V.ldc (q := 66) dX3_seeds_64 rfl kk_X3_182 ?_
            refine V.iand (q := 67) dX3_seeds_66 rfl ?_
            refine V.sipush (q := 70) (v := nI 256) dX3_seeds_67 rfl (by decide +kernel) ?_
            refine V.idiv (q := 71) dX3_seeds_70 rfl (by decide +kernel) ?_
            refine V.iconst (q := 72) (v := nI 4) dX3_seeds_71 rfl (by decide +kernel) ?_
            refine V.irem (q := 73) dX3_seeds_72 rfl (by decide +kernel) ?_
            rw [wvI]
            refine V.cvv3 (q := 76) dX3_seeds_73 rfl kc_X3_116 rfl (by decide) rfl (hB.rm (by decide)) (Nat.le_of_ble_eq_true rfl) (m_puts (by omega)) (fun τ73 hp73 => ?_)
            subst hp73
            have hwl := wv_le (zK (sdM n y τ w p).1 i * 1664525 + 1013904223)
            have hY4 := hY3.wr (f := 2) (v := wv (zK (sdM n y τ w p).1 i * 1664525 + 1013904223)) (by decide) c45 (by unfold okF; omega)
            have hM4 := hM3.ww (o1 := 45) (k := 2 + 7 * i + 2) (v := nI (wv (zK (sdM n y τ w p).1 i * 1664525 + 1013904223))) (by decide)
            have hG4 := hG3.w (o := 45) (k := 2 + 7 * i + 2) (v := nI (wv (zK (sdM n y τ w p).1 i * 1664525 + 1013904223))) (by decide)
            refine V.inc6 (q := 79) dX3_seeds_76 rfl (inc1 _) ?_
            refine V.goto (q := 37) dX3_seeds_79 (by decide) ?_
            refine ih2 c45 _ _ hY4 hM4 hG4 (fun q hq => ?_) (fun f hf => by rw [setF_ne hf]; exact ef f hf)
            rw [setF_at]; unfold upN
            by_cases h9 : q = i
            · subst h9
              rw [if_pos rfl, if_pos (by omega)]; rfl
            · rw [if_neg h9, e2 q hq]
              by_cases h8 : q < i
              · rw [if_pos h8, if_pos (by omega)]
              · rw [if_neg h8, if_neg (by omega)]
        exact loop2 0 (Nat.zero_le _) σ1 _ hY2 hM2 hG2 (fun q hq => by rw [if_neg (by omega)]) (fun _ _ => rfl)
    exact loop 0 (Nat.zero_le _) _ hY1 hM1 hG1 _

-- image
set_option maxHeartbeats 4000000 in
set_option maxRecDepth 100000 in
theorem m_image {σ : Sg} {n y : Nat} {τ : Nat → Nat → Nat} {fl n2 y2 : Nat} {τ2 : Nat → Nat → Nat} {m : Nat} {cs : Nat → Nat} {rl : Nat} {ro rc : Nat → Nat} (hX : MR σ n y τ fl n2 y2 τ2 m cs rl ro rc) : Con 2 yX3_image cX3_image 1 (some .int) [.ref 43] σ (PI (fun r σ1 => r = rA ((0, nI y)) ∧ MR σ1 n y τ 1 n y τ m cs rl ro (rU rc ((0, nI y))) ∧ Fm σ σ1)) := by
  refine Con.of (by decide) (by simp [Value.category]) (Nat.le_of_ble_eq_true rfl) (fun x hB => ?_)
  show V x RX3 cX3_image 1 0 [some (.ref 43)] [] _
  have hY := hX.now
  have hS := hY.s
  have hn6 := hS.n6
  have hy9 := hX.y9
  refine V.aload_n (q := 1) dX3_image_0 rfl rfl ?_
  refine V.getR (q := 4) dX3_image_1 rfl kf_X3_13 rfl (by decide) rfl ?_
  refine V.aload_n (q := 5) dX3_image_4 rfl rfl ?_
  refine V.getR (q := 8) dX3_image_5 rfl kf_X3_16 rfl (by decide) rfl ?_
  refine V.csv2 (q := 11) dX3_image_8 rfl kc_X3_56 (hB.rm (by decide)) (Nat.le_of_ble_eq_true rfl) (m_lays rfl rfl (by decide) (by decide) (by decide)) (fun τ8 hp8 => ?_)
  obtain ⟨hc, hF⟩ := hp8
  refine V.aload_n (q := 12) dX3_image_11 rfl rfl ?_
  refine V.iconst (q := 13) (v := nI 1) dX3_image_12 rfl (by decide +kernel) ?_
  refine V.putI (q := 16) dX3_image_13 rfl kp_X3_183 rfl (by decide) rfl (by decide +kernel) (by decide +kernel) ?_
  have hS5 := (hS.fr (hF 45 (by decide))).ww (o1 := 43) (k := 5) (v := nI 1) (by decide)
  refine V.aload_n (q := 17) dX3_image_16 rfl rfl ?_
  refine V.getR (q := 20) dX3_image_17 rfl kf_X3_13 rfl (by decide) rfl ?_
  refine V.iconst (q := 21) (v := nI 1) dX3_image_20 rfl (by decide +kernel) ?_
  refine V.ialdN (q := 22) dX3_image_21 rfl rfl (by decide) (by omega) (by decide) (SA.r hS5) ?_
  exact V.ret_int hB dX3_image_22 rfl ⟨_, rfl, ⟨rfl, hX.img hc hF, fun o ho => by rw [w2_ne (by omega), hF o (by omega)]⟩⟩

-- on
set_option maxHeartbeats 4000000 in
set_option maxRecDepth 100000 in
theorem m_on {σ : Sg} {n y : Nat} {τ : Nat → Nat → Nat} {fl n2 y2 : Nat} {τ2 : Nat → Nat → Nat} {m : Nat} {cs : Nat → Nat} {rl : Nat} {ro rc : Nat → Nat} (hX : MR σ n y τ fl n2 y2 τ2 m cs rl ro rc) : Con 2 yX3_on cX3_on 1 (some .int) [.ref 43] σ (PI (fun r σ1 => r = rA (q_on fl y2) ∧ MR σ1 (if fl = 0 then n else n2) (if fl = 0 then y else y2) (if fl = 0 then τ else τ2) fl n2 y2 τ2 m cs rl ro (rU rc (q_on fl y2)) ∧ Fm σ σ1)) := by
  refine Con.of (by decide) (by simp [Value.category]) (Nat.le_of_ble_eq_true rfl) (fun x hB => ?_)
  show V x RX3 cX3_on 1 0 [some (.ref 43)] [] _
  have hY := hX.now
  have hS := hY.s
  have hn6 := hS.n6
  have hy9 := hX.y9
  refine V.aload_n (q := 1) dX3_on_0 rfl rfl ?_
  refine V.getI (q := 4) dX3_on_1 rfl kf_X3_183 rfl (by decide) rfl hX.fl0 ?_
  refine V.ifN_ne (t := 14) (q := 7) dX3_on_4 (by decide) rfl (by have := hX.2.1.2.1; omega) (fun c4 => ?_) (fun c4 => ?_)
  · have hf1 : fl = 1 := by have := hX.2.1.2.1; omega
    obtain ⟨hK, hy29⟩ := hX.2.1.2.2 hf1
    refine V.aload_n (q := 15) dX3_on_14 rfl rfl ?_
    refine V.getR (q := 18) dX3_on_15 rfl kf_X3_16 rfl (by decide) rfl ?_
    refine V.aload_n (q := 19) dX3_on_18 rfl rfl ?_
    refine V.getR (q := 22) dX3_on_19 rfl kf_X3_13 rfl (by decide) rfl ?_
    refine V.csv2 (q := 25) dX3_on_22 rfl kc_X3_56 (hB.rm (by decide)) (Nat.le_of_ble_eq_true rfl) (m_lays rfl rfl (by decide) (by decide) (by decide)) (fun τ22 hp22 => ?_)
    obtain ⟨hc, hF⟩ := hp22
    have hS5 := hK.cp hc
    have hY5 : YA τ22 n2 y2 6 6 τ2 := ⟨hS5, by rw [hF 43 (by decide)]; exact hY.2⟩
    refine V.aload_n (q := 26) dX3_on_25 rfl rfl ?_
    refine V.getR (q := 29) dX3_on_26 rfl kf_X3_13 rfl (by decide) rfl ?_
    refine V.iconst (q := 30) (v := nI 1) dX3_on_29 rfl (by decide +kernel) ?_
    refine V.ialdN (q := 31) dX3_on_30 rfl rfl (by decide) (by omega) (by decide) (SA.r hS5) ?_
    exact V.ret_int hB dX3_on_31 rfl ⟨_, rfl, (by
    have hq : q_on fl y2 = (0, nI y2) := by unfold q_on; rw [if_neg (by omega)]
    rw [if_neg (by omega), if_neg (by omega), if_neg (by omega), hq]
    exact ⟨rfl, hX.gz hY5 hy29 (Gz.rf.c hF (by decide)), fun o ho => hF o (by omega)⟩)⟩
  · refine V.aload_n (q := 8) dX3_on_7 rfl rfl ?_
    refine V.bipush (q := 10) (v := (-3)) dX3_on_8 rfl (by decide +kernel) ?_
    refine V.cvi1 (q := 13) dX3_on_10 rfl kc_X3_71 rfl (by decide) rfl (hB.rm (by decide)) (Nat.le_of_ble_eq_true rfl) (m_refuse hX (k := 3) (v := -3) (by decide) (by decide) (by decide +kernel)) (fun r10 τ10 hp10 => ?_)
    obtain ⟨rfl, hz⟩ := hp10
    rw [hz]
    exact V.ret_int hB dX3_on_13 rfl ⟨_, rfl, (by
    have hq : q_on fl y2 = (3, 0) := by unfold q_on; rw [if_pos c4]
    rw [if_pos c4, if_pos c4, if_pos c4]; exact MP.no (v := -3) hX hq (by decide) (by decide +kernel))⟩

-- count
set_option maxHeartbeats 4000000 in
set_option maxRecDepth 100000 in
theorem m_count {σ : Sg} {n y : Nat} {τ : Nat → Nat → Nat} {fl n2 y2 : Nat} {τ2 : Nat → Nat → Nat} {m : Nat} {cs : Nat → Nat} {rl : Nat} {ro rc : Nat → Nat} (hX : MR σ n y τ fl n2 y2 τ2 m cs rl ro rc) (v : Int32) : Con 4 yX3_count cX3_count 4 (some .int) [.ref 43, .int v] σ (PI (MP σ n y τ fl n2 y2 τ2 m cs rl ro rc (q_count n y τ rl m rc v))) := by
  refine Con.of (by decide) (by simp [Value.category]) (Nat.le_of_ble_eq_true rfl) (fun x hB => ?_)
  show V x RX3 cX3_count 4 0 [some (.ref 43), some (.int v), none, none] [] _
  have hY := hX.now
  have hS := hY.s
  have hn6 := hS.n6
  have hy9 := hX.y9
  rcases sN_or17 v with ⟨k, hk1, hk2, rfl⟩ | rfl | rfl | rfl | rfl | rfl | rfl | hv
  · skip
    refine V.iload_n (q := 1) dX3_count_0 rfl rfl ?_
    refine V.bipush (q := 3) (v := nI 10) dX3_count_1 rfl (by decide +kernel) ?_
    refine V.icmpN_le (t := 22) (q := 6) dX3_count_3 (by decide) rfl (by omega) (by omega) (fun c3 => absurd c3 (by omega)) (fun c3 => ?_)
    refine V.iload_n (q := 7) dX3_count_6 rfl rfl ?_
    refine V.bipush (q := 9) (v := nI 17) dX3_count_7 rfl (by decide +kernel) ?_
    refine V.icmpN_ge (t := 22) (q := 12) dX3_count_9 (by decide) rfl (by omega) (by omega) (fun c9 => absurd c9 (by omega)) (fun c9 => ?_)
    refine V.aload_n (q := 13) dX3_count_12 rfl rfl ?_
    refine V.getR (q := 16) dX3_count_13 rfl kf_X3_7 rfl (by decide) rfl ?_
    refine V.iload_n (q := 17) dX3_count_16 rfl rfl ?_
    refine V.bipush (q := 19) (v := nI 10) dX3_count_17 rfl (by decide +kernel) ?_
    refine V.isubN (q := 20) dX3_count_19 rfl (by omega) ?_
    refine V.ialdN (q := 21) dX3_count_20 rfl rfl (by decide) (by omega) (by decide) (hX.rc0 (show 1 ≤ k - 10 by omega) (by omega)) ?_
    exact V.ret_int hB dX3_count_21 rfl ⟨_, rfl, MP.yes hX (hY) (Gz.rf) (by unfold q_count; rw [stN_some (show k < 17 by omega) (by decide)]; simp only []; rw [if_pos hk1])⟩
  · skip
    refine V.iload_n (q := 1) dX3_count_0 rfl rfl ?_
    refine V.bipush (q := 3) (v := nI 10) dX3_count_1 rfl (by decide +kernel) ?_
    refine V.icmp_le (t := 22) (q := 6) dX3_count_3 (by decide) rfl  (fun c3 => ?_) (fun c3 => absurd c3 (by decide +kernel))
    refine V.iconst (q := 23) (v := nI 0) dX3_count_22 rfl (by decide +kernel) ?_
    refine V.ist2 (q := 24) dX3_count_23 rfl ?_
    refine V.iload_n (q := 25) dX3_count_24 rfl rfl ?_
    refine V.tableIn (q := 64) (off := 39) dX3_count_25 (by decide +kernel) (by decide +kernel) rfl (by decide) ?_
    refine V.aload_n (q := 65) dX3_count_64 rfl rfl ?_
    refine V.getR (q := 68) dX3_count_65 rfl kf_X3_13 rfl (by decide) rfl ?_
    refine V.iload_n (q := 69) dX3_count_68 rfl rfl ?_
    refine V.ialdN (q := 70) dX3_count_69 rfl rfl (by decide) (by omega) (by decide) (SA.c hS) ?_
    exact V.ret_int hB dX3_count_70 rfl ⟨_, rfl, MP.yes hX (hY) (Gz.rf) (by simp [q_count, stN_some (show 0 < 17 by decide) (by decide)])⟩
  · skip
    refine V.iload_n (q := 1) dX3_count_0 rfl rfl ?_
    refine V.bipush (q := 3) (v := nI 10) dX3_count_1 rfl (by decide +kernel) ?_
    refine V.icmp_le (t := 22) (q := 6) dX3_count_3 (by decide) rfl  (fun c3 => ?_) (fun c3 => absurd c3 (by decide +kernel))
    refine V.iconst (q := 23) (v := nI 0) dX3_count_22 rfl (by decide +kernel) ?_
    refine V.ist2 (q := 24) dX3_count_23 rfl ?_
    refine V.iload_n (q := 25) dX3_count_24 rfl rfl ?_
    refine V.tableIn (q := 64) (off := 39) dX3_count_25 (by decide +kernel) (by decide +kernel) rfl (by decide) ?_
    refine V.aload_n (q := 65) dX3_count_64 rfl rfl ?_
    refine V.getR (q := 68) dX3_count_65 rfl kf_X3_13 rfl (by decide) rfl ?_
    refine V.iload_n (q := 69) dX3_count_68 rfl rfl ?_
    refine V.ialdN (q := 70) dX3_count_69 rfl rfl (by decide) (by omega) (by decide) (SA.r hS) ?_
    exact V.ret_int hB dX3_count_70 rfl ⟨_, rfl, MP.yes hX (hY) (Gz.rf) (by simp [q_count, stN_some (show 1 < 17 by decide) (by decide)])⟩
  · skip
    refine V.iload_n (q := 1) dX3_count_0 rfl rfl ?_
    refine V.bipush (q := 3) (v := nI 10) dX3_count_1 rfl (by decide +kernel) ?_
    refine V.icmp_le (t := 22) (q := 6) dX3_count_3 (by decide) rfl  (fun c3 => ?_) (fun c3 => absurd c3 (by decide +kernel))
    refine V.iconst (q := 23) (v := nI 0) dX3_count_22 rfl (by decide +kernel) ?_
    refine V.ist2 (q := 24) dX3_count_23 rfl ?_
    refine V.iload_n (q := 25) dX3_count_24 rfl rfl ?_
    refine V.tableIn (q := 71) (off := 46) dX3_count_25 (by decide +kernel) (by decide +kernel) rfl (by decide) ?_
    refine V.aload_n (q := 72) dX3_count_71 rfl rfl ?_
    refine V.cvi0 (q := 75) dX3_count_72 rfl kc_X3_136 rfl (by decide) rfl (hB.rm (by decide)) (Nat.le_of_ble_eq_true rfl) (m_allMud hS) (fun r72 τ72 hp72 => ?_)
    obtain ⟨rfl, hz⟩ := hp72
    rw [hz]
    exact V.ret_int hB dX3_count_75 rfl ⟨_, rfl, MP.yes hX (hY) (Gz.rf) (by simp [q_count, stN_some (show 2 < 17 by decide) (by decide)])⟩
  · skip
    refine V.iload_n (q := 1) dX3_count_0 rfl rfl ?_
    refine V.bipush (q := 3) (v := nI 10) dX3_count_1 rfl (by decide +kernel) ?_
    refine V.icmp_le (t := 22) (q := 6) dX3_count_3 (by decide) rfl  (fun c3 => ?_) (fun c3 => absurd c3 (by decide +kernel))
    refine V.iconst (q := 23) (v := nI 0) dX3_count_22 rfl (by decide +kernel) ?_
    refine V.ist2 (q := 24) dX3_count_23 rfl ?_
    refine V.iload_n (q := 25) dX3_count_24 rfl rfl ?_
    refine V.tableIn (q := 76) (off := 51) dX3_count_25 (by decide +kernel) (by decide +kernel) rfl (by decide) ?_
    refine V.iconst (q := 77) (v := nI 0) dX3_count_76 rfl (by decide +kernel) ?_
    refine V.ist3 (q := 78) dX3_count_77 rfl ?_
    have loop : ∀ j, j ≤ n → ∀ a, a = sumK (τ 4) j → V x RX3 cX3_count 4 78 [some (.ref 43), some (.int (nI 3)), some (.int (nI a)), some (.int (nI j))] [] σ := by
      refine down n (fun j hj ih a ea => ?_)
      refine V.iload_n (q := 79) dX3_count_78 rfl rfl ?_
      refine V.aload_n (q := 80) dX3_count_79 rfl rfl ?_
      refine V.getR (q := 83) dX3_count_80 rfl kf_X3_13 rfl (by decide) rfl ?_
      refine V.iconst (q := 84) (v := nI 0) dX3_count_83 rfl (by decide +kernel) ?_
      refine V.ialdN (q := 85) dX3_count_84 rfl rfl (by decide) (by omega) (by decide) (SA.c hS) ?_
      refine V.icmpN_ge (t := 103) (q := 88) dX3_count_85 (by decide) rfl (by omega) (by omega) (fun c85 => ?_) (fun c85 => ?_)
      · have ej : n = j := by omega
        subst ej
        refine V.iload_n (q := 104) dX3_count_103 rfl rfl ?_
        exact V.ret_int hB dX3_count_104 rfl ⟨_, rfl, MP.yes hX (hY) (Gz.rf) (by rw [ea]; simp [q_count, stN_some (show 3 < 17 by decide) (by decide)])⟩
      · refine V.iload_n (q := 89) dX3_count_88 rfl rfl ?_
        refine V.aload_n (q := 90) dX3_count_89 rfl rfl ?_
        refine V.iload_n (q := 91) dX3_count_90 rfl rfl ?_
        refine V.iconst (q := 92) (v := nI 4) dX3_count_91 rfl (by decide +kernel) ?_
        refine V.cvi2 (q := 95) dX3_count_92 rfl kc_X3_109 rfl (by decide) rfl (hB.rm (by decide)) (Nat.le_of_ble_eq_true rfl) (m_get hS (by omega) 4 (by decide)) (fun r92 τ92 hp92 => ?_)
        obtain ⟨rfl, hz⟩ := hp92
        rw [hz]
        refine V.iaddN (q := 96) dX3_count_95 rfl ?_
        refine V.ist2 (q := 97) dX3_count_96 rfl ?_
        refine V.inc3 (q := 100) dX3_count_97 rfl (inc1 _) ?_
        refine V.goto (q := 78) dX3_count_100 (by decide) ?_
        exact ih c85 _ (by rw [ea]; rfl)
    exact loop 0 (Nat.zero_le _) 0 rfl
  · skip
    refine V.iload_n (q := 1) dX3_count_0 rfl rfl ?_
    refine V.bipush (q := 3) (v := nI 10) dX3_count_1 rfl (by decide +kernel) ?_
    refine V.icmp_le (t := 22) (q := 6) dX3_count_3 (by decide) rfl  (fun c3 => ?_) (fun c3 => absurd c3 (by decide +kernel))
    refine V.iconst (q := 23) (v := nI 0) dX3_count_22 rfl (by decide +kernel) ?_
    refine V.ist2 (q := 24) dX3_count_23 rfl ?_
    refine V.iload_n (q := 25) dX3_count_24 rfl rfl ?_
    refine V.tableIn (q := 105) (off := 80) dX3_count_25 (by decide +kernel) (by decide +kernel) rfl (by decide) ?_
    refine V.aload_n (q := 106) dX3_count_105 rfl rfl ?_
    refine V.getI (q := 109) dX3_count_106 rfl kf_X3_174 rfl (by decide) rfl hX.rl0 ?_
    exact V.ret_int hB dX3_count_109 rfl ⟨_, rfl, MP.yes hX (hY) (Gz.rf) (by simp [q_count, stN_some (show 4 < 17 by decide) (by decide)])⟩
  · skip
    refine V.iload_n (q := 1) dX3_count_0 rfl rfl ?_
    refine V.bipush (q := 3) (v := nI 10) dX3_count_1 rfl (by decide +kernel) ?_
    refine V.icmp_le (t := 22) (q := 6) dX3_count_3 (by decide) rfl  (fun c3 => ?_) (fun c3 => absurd c3 (by decide +kernel))
    refine V.iconst (q := 23) (v := nI 0) dX3_count_22 rfl (by decide +kernel) ?_
    refine V.ist2 (q := 24) dX3_count_23 rfl ?_
    refine V.iload_n (q := 25) dX3_count_24 rfl rfl ?_
    refine V.tableIn (q := 110) (off := 85) dX3_count_25 (by decide +kernel) (by decide +kernel) rfl (by decide) ?_
    refine V.aload_n (q := 111) dX3_count_110 rfl rfl ?_
    refine V.getI (q := 114) dX3_count_111 rfl kf_X3_68 rfl (by decide) rfl hX.tx.2.1 ?_
    exact V.ret_int hB dX3_count_114 rfl ⟨_, rfl, MP.yes hX (hY) (Gz.rf) (by simp [q_count, stN_some (show 5 < 17 by decide) (by decide)])⟩
  · skip
    refine V.iload_n (q := 1) dX3_count_0 rfl rfl ?_
    refine V.bipush (q := 3) (v := nI 10) dX3_count_1 rfl (by decide +kernel) ?_
    refine V.icmp_le (t := 22) (q := 6) dX3_count_3 (by decide) rfl  (fun c3 => ?_) (fun c3 => ?_)
    · refine V.iconst (q := 23) (v := nI 0) dX3_count_22 rfl (by decide +kernel) ?_
      refine V.ist2 (q := 24) dX3_count_23 rfl ?_
      refine V.iload_n (q := 25) dX3_count_24 rfl rfl ?_
      refine V.tableOut (q := 115) dX3_count_25 (cnt_sw hv) (by decide) ?_
      refine V.bipush (q := 117) (v := (-9)) dX3_count_115 rfl (by decide +kernel) ?_
      exact V.ret_int hB dX3_count_117 rfl ⟨_, rfl, MP.yes hX (hY) (Gz.rf) (cnt_q hv)⟩
    · refine V.iload_n (q := 7) dX3_count_6 rfl rfl ?_
      refine V.bipush (q := 9) (v := nI 17) dX3_count_7 rfl (by decide +kernel) ?_
      refine V.icmp_ge (t := 22) (q := 12) dX3_count_9 (by decide) rfl  (fun c9 => ?_) (fun c9 => ?_)
      · refine V.iconst (q := 23) (v := nI 0) dX3_count_22 rfl (by decide +kernel) ?_
        refine V.ist2 (q := 24) dX3_count_23 rfl ?_
        refine V.iload_n (q := 25) dX3_count_24 rfl rfl ?_
        refine V.tableOut (q := 115) dX3_count_25 (cnt_sw hv) (by decide) ?_
        refine V.bipush (q := 117) (v := (-9)) dX3_count_115 rfl (by decide +kernel) ?_
        exact V.ret_int hB dX3_count_117 rfl ⟨_, rfl, MP.yes hX (hY) (Gz.rf) (cnt_q hv)⟩
      · exact absurd (cnt_m hv c3 c9) id

